/-- a text is copied: the rows, the steps so far -/
theorem TXM.copy {K : KE} {H H1 : Heap} {q q1 n m : Nat} {kk vv : Nat → Int} {lw : Int} (h : TXM K H q kk vv lw n) (hn : n ≤ 16) (r : ∀ k, 1 ≤ k → k ≤ 7 → ∀ j, j < 16 → fI H1 (fR H1 q1 (K.1.2 7 k)) j = fI H (fR H q (K.1.2 7 k)) j) (s : ∀ j, j < m → fI H1 (fR H1 q1 (K.1.2 7 8)) j = fI H (fR H q (K.1.2 7 8)) j) (hb : ∀ j, j < n → (fI H (fR H q (K.1.2 7 6)) j).toNatClampNeg ≤ m ∧ (fI H (fR H q (K.1.2 7 7)) j).toNatClampNeg ≤ m) : TXM K H1 q1 kk vv lw n := by
  intro j hj
  rw [r 1 (by decide) (by decide) j (by omega), r 2 (by decide) (by decide) j (by omega), r 3 (by decide) (by decide) j (by omega), r 4 (by decide) (by decide) j (by omega), r 5 (by decide) (by decide) j (by omega), r 6 (by decide) (by decide) j (by omega), r 7 (by decide) (by decide) j (by omega)]
  exact (h j hj).keep s (hb j hj).1 (hb j hj).2
set_option maxHeartbeats 4000000 in
set_option maxRecDepth 100000 in
theorem a_X7_copyFrom_gm (l : Launch) (K : KE) (G : Nat → Option Nat) (H : Heap) {a0 : Nat} {a1 : Nat} {wp : Nat} {fp : Nat} {jp : Nat} {ep : Nat} {ap : Nat} {cp : Nat} {dp : Nat} {sp : Nat} {wu : Nat} {fu : Nat} {ju : Nat} {eu : Nat} {au : Nat} {cu : Nat} {du : Nat} {su : Nat} (lo : Int32) (so : Int32) (lm : Int32) (sc : Int32) (hT : TY K G H) (ga0 : G a0 = some 16) (ga1 : G a1 = some 69) (gwp : G wp = some 17) (ewp : wp = fR H a0 (K.1.2 7 1)) (gfp : G fp = some 18) (efp : fp = fR H a0 (K.1.2 7 2)) (gjp : G jp = some 19) (ejp : jp = fR H a0 (K.1.2 7 3)) (gep : G ep = some 20) (eep : ep = fR H a0 (K.1.2 7 4)) (gap : G ap = some 21) (eap : ap = fR H a0 (K.1.2 7 5)) (gcp : G cp = some 22) (ecp : cp = fR H a0 (K.1.2 7 6)) (gdp : G dp = some 23) (edp : dp = fR H a0 (K.1.2 7 7)) (gsp : G sp = some 24) (esp : sp = fR H a0 (K.1.2 7 8)) (gwu : G wu = some 70) (ewu : wu = fR H a1 (K.1.2 7 1)) (gfu : G fu = some 71) (efu : fu = fR H a1 (K.1.2 7 2)) (gju : G ju = some 72) (eju : ju = fR H a1 (K.1.2 7 3)) (geu : G eu = some 73) (eeu : eu = fR H a1 (K.1.2 7 4)) (gau : G au = some 74) (eau : au = fR H a1 (K.1.2 7 5)) (gcu : G cu = some 75) (ecu : cu = fR H a1 (K.1.2 7 6)) (gdu : G du = some 76) (edu : du = fR H a1 (K.1.2 7 7)) (gsu : G su = some 77) (esu : su = fR H a1 (K.1.2 7 8)) (elo : lo = fI H a0 (K.1.2 7 0)) (eso : so = fI H a0 (K.1.2 7 9)) (elm : lm = fI H a1 (K.1.2 7 0)) (esc : sc = fI H a1 (K.1.2 7 9)) : MX l K yX7_copyFrom cX7_copyFrom 2 none 1 40 0 0 [.ref a0, .ref a1] H (AE G [16, 17, 18, 19, 20, 21, 22, 23, 24] H.size) (fun v H1 => ∃ (t0 : Int32) (t1 : Int32), v = none ∧ t0 = fI H1 a0 (K.1.2 7 0) ∧ t1 = fI H1 a0 (K.1.2 7 9) ∧ (t0.toInt = lm.toInt ∧ t1.toInt = sc.toInt) ∧ wp = fR H1 a0 (K.1.2 7 1) ∧ fp = fR H1 a0 (K.1.2 7 2) ∧ jp = fR H1 a0 (K.1.2 7 3) ∧ ep = fR H1 a0 (K.1.2 7 4) ∧ ap = fR H1 a0 (K.1.2 7 5) ∧ cp = fR H1 a0 (K.1.2 7 6) ∧ dp = fR H1 a0 (K.1.2 7 7) ∧ sp = fR H1 a0 (K.1.2 7 8) ∧ (∀ j : Nat, j < 16 → fI H1 wp j = fI H wu j) ∧ (∀ j : Nat, j < 16 → fI H1 fp j = fI H fu j) ∧ (∀ j : Nat, j < 16 → fI H1 jp j = fI H ju j) ∧ (∀ j : Nat, j < 16 → fI H1 ep j = fI H eu j) ∧ (∀ j : Nat, j < 16 → fI H1 ap j = fI H au j) ∧ (∀ j : Nat, j < 16 → fI H1 cp j = fI H cu j) ∧ (∀ j : Nat, j < 16 → fI H1 dp j = fI H du j) ∧ (∀ j : Nat, j < sc.toNatClampNeg → fI H1 sp j = fI H su j) ∧ (∀ q t : Nat, G q = some t → q ≠ a0 → q ≠ wp → q ≠ fp → q ≠ jp → q ≠ ep → q ≠ ap → q ≠ cp → q ≠ dp → q ≠ sp → H1[q]? = H[q]?) ∧ TY K G H1) := by
  refine MX.of (by decide +kernel) (Nat.le_of_ble_eq_true rfl) ?_
  intro p e s m below meth c ls Q C hH hl hQ
  subst hH
  have C : CX p K s m _ meth c RX7 cX7_copyFrom 2 none "copyFrom" := C
  obtain ⟨hx, hb, hml, hown, hts, hKT, hr, hlocks, hnm⟩ := id C
  have hl : lv_has ls 2 [(0, .ref a0), (1, .ref a1)] := hl
  have hS : va_S (AE G [16, 17, 18, 19, 20, 21, 22, 23, 24] s.heap.size) s.heap s.heap [] := va_S.rf
  have n_0 : (0 : Int32).toInt = 0 := rfl
  have n_16 : (16 : Int32).toInt = 16 := rfl
  have blo := ty_fi (x := lo) (k := 0) elo hT ga0 rg_16 rfl
  have bso := ty_fi (x := so) (k := 9) eso hT ga0 rg_16 rfl
  have blm := ty_fi (x := lm) (k := 0) elm hT ga1 rg_69 rfl
  have bsc := ty_fi (x := sc) (k := 9) esc hT ga1 rg_69 rfl
  have f0_fx : ∀ q t : Nat, G q = some t → q ≠ a0 → q ≠ wp → q ≠ fp → q ≠ jp → q ≠ ep → q ≠ ap → q ≠ cp → q ≠ dp → q ≠ sp → s.heap[q]? = s.heap[q]? := fun _ _ _ _ _ _ _ _ _ _ _ _ => rfl
  have f0_swu : ∀ j : Nat, fI s.heap wu j = fI s.heap wu j := fun _ => rfl
  have f0_sfu : ∀ j : Nat, fI s.heap fu j = fI s.heap fu j := fun _ => rfl
  have f0_sju : ∀ j : Nat, fI s.heap ju j = fI s.heap ju j := fun _ => rfl
  have f0_seu : ∀ j : Nat, fI s.heap eu j = fI s.heap eu j := fun _ => rfl
  have f0_sau : ∀ j : Nat, fI s.heap au j = fI s.heap au j := fun _ => rfl
  have f0_scu : ∀ j : Nat, fI s.heap cu j = fI s.heap cu j := fun _ => rfl
  have f0_sdu : ∀ j : Nat, fI s.heap du j = fI s.heap du j := fun _ => rfl
  have f0_ssu : ∀ j : Nat, fI s.heap su j = fI s.heap su j := fun _ => rfl
  refine lv_aload_n hx hb dX7_copyFrom_0 rfl (lv_at hl 0 rfl) ?_
  refine lv_aload_n hx hb dX7_copyFrom_1 rfl (lv_at hl 1 rfl) ?_
  refine x_gi C hT (ci := 7) (k := 0) rfl inX7 (by decide) wF_X7_36 ga1 rg_69 rfl dX7_copyFrom_2 (fun x1385 ex1385 bx1385 => ?_)
  have ux1385 : lm = x1385 := (elm).trans ex1385.symm
  subst ux1385
  refine x_put C hT hS (ci := 7) (k := 0) (v := .int lm) (ty0 := tyX7) rfl inX7 tyX7_ok nmX7 (by decide) rfl wF_X7_36 ga0 rg_16 rfl rfl (okI (by have := i_rng lm; omega) (by have := i_rng lm; omega)) rfl rfl (AE_in ga0 (by decide)) dX7_copyFrom_5 (fun H1386 locsH1386 hTH1386 hSH1386 wH1386 => ?_)
  have f1387 : ∀ q t : Nat, G q = some t → q ≠ a0 → q ≠ wp → q ≠ fp → q ≠ jp → q ≠ ep → q ≠ ap → q ≠ cp → q ≠ dp → q ≠ sp → H1386[q]? = s.heap[q]? := (fun q t hq  n1 n2 n3 n4 n5 n6 n7 n8 n9 => (wH1386.off n1).trans (f0_fx q t hq  n1 n2 n3 n4 n5 n6 n7 n8 n9))
  have f1388 : ∀ j : Nat, fI H1386 wu j = fI s.heap wu j := fun j => (Wr.neI wH1386 (Or.inl (G_ne gwu ga0 (by decide)))).trans (f0_swu j)
  have f1389 : ∀ j : Nat, fI H1386 fu j = fI s.heap fu j := fun j => (Wr.neI wH1386 (Or.inl (G_ne gfu ga0 (by decide)))).trans (f0_sfu j)
  have f1390 : ∀ j : Nat, fI H1386 ju j = fI s.heap ju j := fun j => (Wr.neI wH1386 (Or.inl (G_ne gju ga0 (by decide)))).trans (f0_sju j)
  have f1391 : ∀ j : Nat, fI H1386 eu j = fI s.heap eu j := fun j => (Wr.neI wH1386 (Or.inl (G_ne geu ga0 (by decide)))).trans (f0_seu j)
  have f1392 : ∀ j : Nat, fI H1386 au j = fI s.heap au j := fun j => (Wr.neI wH1386 (Or.inl (G_ne gau ga0 (by decide)))).trans (f0_sau j)
  have f1393 : ∀ j : Nat, fI H1386 cu j = fI s.heap cu j := fun j => (Wr.neI wH1386 (Or.inl (G_ne gcu ga0 (by decide)))).trans (f0_scu j)
  have f1394 : ∀ j : Nat, fI H1386 du j = fI s.heap du j := fun j => (Wr.neI wH1386 (Or.inl (G_ne gdu ga0 (by decide)))).trans (f0_sdu j)
  have f1395 : ∀ j : Nat, fI H1386 su j = fI s.heap su j := fun j => (Wr.neI wH1386 (Or.inl (G_ne gsu ga0 (by decide)))).trans (f0_ssu j)
  have m1396 := ewp.trans (Wr.neR wH1386 (Or.inr (x_apart hKT hts inX7 tyX7 tyX7_ok nmX7 rfl 1 0 (by decide) (by decide) (by decide)))).symm
  have m1397 := efp.trans (Wr.neR wH1386 (Or.inr (x_apart hKT hts inX7 tyX7 tyX7_ok nmX7 rfl 2 0 (by decide) (by decide) (by decide)))).symm
  have m1398 := ejp.trans (Wr.neR wH1386 (Or.inr (x_apart hKT hts inX7 tyX7 tyX7_ok nmX7 rfl 3 0 (by decide) (by decide) (by decide)))).symm
  have m1399 := eep.trans (Wr.neR wH1386 (Or.inr (x_apart hKT hts inX7 tyX7 tyX7_ok nmX7 rfl 4 0 (by decide) (by decide) (by decide)))).symm
  have m1400 := eap.trans (Wr.neR wH1386 (Or.inr (x_apart hKT hts inX7 tyX7 tyX7_ok nmX7 rfl 5 0 (by decide) (by decide) (by decide)))).symm
  have m1401 := ecp.trans (Wr.neR wH1386 (Or.inr (x_apart hKT hts inX7 tyX7 tyX7_ok nmX7 rfl 6 0 (by decide) (by decide) (by decide)))).symm
  have m1402 := edp.trans (Wr.neR wH1386 (Or.inr (x_apart hKT hts inX7 tyX7 tyX7_ok nmX7 rfl 7 0 (by decide) (by decide) (by decide)))).symm
  have m1403 := esp.trans (Wr.neR wH1386 (Or.inr (x_apart hKT hts inX7 tyX7 tyX7_ok nmX7 rfl 8 0 (by decide) (by decide) (by decide)))).symm
  have m1404 := ewu.trans (Wr.neR wH1386 (Or.inl (G_ne ga1 ga0 (by decide)))).symm
  have m1405 := efu.trans (Wr.neR wH1386 (Or.inl (G_ne ga1 ga0 (by decide)))).symm
  have m1406 := eju.trans (Wr.neR wH1386 (Or.inl (G_ne ga1 ga0 (by decide)))).symm
  have m1407 := eeu.trans (Wr.neR wH1386 (Or.inl (G_ne ga1 ga0 (by decide)))).symm
  have m1408 := eau.trans (Wr.neR wH1386 (Or.inl (G_ne ga1 ga0 (by decide)))).symm
  have m1409 := ecu.trans (Wr.neR wH1386 (Or.inl (G_ne ga1 ga0 (by decide)))).symm
  have m1410 := edu.trans (Wr.neR wH1386 (Or.inl (G_ne ga1 ga0 (by decide)))).symm
  have m1411 := esu.trans (Wr.neR wH1386 (Or.inl (G_ne ga1 ga0 (by decide)))).symm
  have m1413 := eso.trans (Wr.neI wH1386 (Or.inr (x_apart hKT hts inX7 tyX7 tyX7_ok nmX7 rfl 9 0 (by decide) (by decide) (by decide)))).symm
  have m1414 := elm.trans (Wr.neI wH1386 (Or.inl (G_ne ga1 ga0 (by decide)))).symm
  have m1415 := esc.trans (Wr.neI wH1386 (Or.inl (G_ne ga1 ga0 (by decide)))).symm
  have m1416 := Wr.I wH1386
  have m1416 := m1416.symm
  refine lv_aload_n hx hb dX7_copyFrom_8 rfl (lv_at hl 1 rfl) ?_
  refine x_gr C hTH1386 (ci := 7) (k := 1) rfl inX7 (by decide) wF_X7_9 ga1 rg_69 rfl dX7_copyFrom_9 (fun q1417 eq1417 gq1417 => ?_)
  have uq1417 : wu = q1417 := (m1404).trans eq1417.symm
  subst uq1417
  refine lv_iconst (v := 0) hx hb dX7_copyFrom_12 (by decide) ?_
  refine lv_aload_n hx hb dX7_copyFrom_13 rfl (lv_at hl 0 rfl) ?_
  refine x_gr C hTH1386 (ci := 7) (k := 1) rfl inX7 (by decide) wF_X7_9 ga0 rg_16 rfl dX7_copyFrom_14 (fun q1418 eq1418 gq1418 => ?_)
  have uq1418 : wp = q1418 := (m1396).trans eq1418.symm
  subst uq1418
  refine lv_iconst (v := 0) hx hb dX7_copyFrom_17 (by decide) ?_
  refine lv_bipush (v := 16) hx hb dX7_copyFrom_18 (by decide) ?_
  refine x_copy C hTH1386 hSH1386 wM_X7_44 wNT_arraycopy wST_arraycopy wIN_J10 gwu gwp rg_70 rg_17 (by decide) (by omega) (by omega) (by omega) (by show _ ≤ ((16 : Nat) : Int); omega) (by show _ ≤ ((16 : Nat) : Int); omega) (AE_in gwp (by decide)) hl.1 (by decide) dX7_copyFrom_20 (fun H1419 locsH1419 hTH1419 hSH1419 zH1419 oH1419 vH1419 wH1419 => ?_)
  have m1420 := (m1396).trans (fR_kept (oH1419 _ (G_ne ga0 gwp (by decide)))).symm
  have m1421 := (m1397).trans (fR_kept (oH1419 _ (G_ne ga0 gwp (by decide)))).symm
  have m1422 := (m1398).trans (fR_kept (oH1419 _ (G_ne ga0 gwp (by decide)))).symm
  have m1423 := (m1399).trans (fR_kept (oH1419 _ (G_ne ga0 gwp (by decide)))).symm
  have m1424 := (m1400).trans (fR_kept (oH1419 _ (G_ne ga0 gwp (by decide)))).symm
  have m1425 := (m1401).trans (fR_kept (oH1419 _ (G_ne ga0 gwp (by decide)))).symm
  have m1426 := (m1402).trans (fR_kept (oH1419 _ (G_ne ga0 gwp (by decide)))).symm
  have m1427 := (m1403).trans (fR_kept (oH1419 _ (G_ne ga0 gwp (by decide)))).symm
  have m1428 := (m1404).trans (fR_kept (oH1419 _ (G_ne ga1 gwp (by decide)))).symm
  have m1429 := (m1405).trans (fR_kept (oH1419 _ (G_ne ga1 gwp (by decide)))).symm
  have m1430 := (m1406).trans (fR_kept (oH1419 _ (G_ne ga1 gwp (by decide)))).symm
  have m1431 := (m1407).trans (fR_kept (oH1419 _ (G_ne ga1 gwp (by decide)))).symm
  have m1432 := (m1408).trans (fR_kept (oH1419 _ (G_ne ga1 gwp (by decide)))).symm
  have m1433 := (m1409).trans (fR_kept (oH1419 _ (G_ne ga1 gwp (by decide)))).symm
  have m1434 := (m1410).trans (fR_kept (oH1419 _ (G_ne ga1 gwp (by decide)))).symm
  have m1435 := (m1411).trans (fR_kept (oH1419 _ (G_ne ga1 gwp (by decide)))).symm
  have m1436 := (m1413).trans (fI_kept (oH1419 _ (G_ne ga0 gwp (by decide)))).symm
  have m1437 := (m1414).trans (fI_kept (oH1419 _ (G_ne ga1 gwp (by decide)))).symm
  have m1438 := (m1415).trans (fI_kept (oH1419 _ (G_ne ga1 gwp (by decide)))).symm
  have m1439 := (m1416).trans (fI_kept (oH1419 _ (G_ne ga0 gwp (by decide)))).symm
  have f1440 : ∀ q t : Nat, G q = some t → q ≠ a0 → q ≠ wp → q ≠ fp → q ≠ jp → q ≠ ep → q ≠ ap → q ≠ cp → q ≠ dp → q ≠ sp → H1419[q]? = s.heap[q]? := (fun q t hq  n1 n2 n3 n4 n5 n6 n7 n8 n9 => (oH1419 _ n2).trans (f1387 q t hq  n1 n2 n3 n4 n5 n6 n7 n8 n9))
  have f1441 : ∀ j : Nat, fI H1419 wu j = fI s.heap wu j := fun j => (fI_kept (oH1419 _ (G_ne gwu gwp (by decide)))).trans (f1388 j)
  have f1442 : ∀ j : Nat, fI H1419 fu j = fI s.heap fu j := fun j => (fI_kept (oH1419 _ (G_ne gfu gwp (by decide)))).trans (f1389 j)
  have f1443 : ∀ j : Nat, fI H1419 ju j = fI s.heap ju j := fun j => (fI_kept (oH1419 _ (G_ne gju gwp (by decide)))).trans (f1390 j)
  have f1444 : ∀ j : Nat, fI H1419 eu j = fI s.heap eu j := fun j => (fI_kept (oH1419 _ (G_ne geu gwp (by decide)))).trans (f1391 j)
  have f1445 : ∀ j : Nat, fI H1419 au j = fI s.heap au j := fun j => (fI_kept (oH1419 _ (G_ne gau gwp (by decide)))).trans (f1392 j)
  have f1446 : ∀ j : Nat, fI H1419 cu j = fI s.heap cu j := fun j => (fI_kept (oH1419 _ (G_ne gcu gwp (by decide)))).trans (f1393 j)
  have f1447 : ∀ j : Nat, fI H1419 du j = fI s.heap du j := fun j => (fI_kept (oH1419 _ (G_ne gdu gwp (by decide)))).trans (f1394 j)
  have f1448 : ∀ j : Nat, fI H1419 su j = fI s.heap su j := fun j => (fI_kept (oH1419 _ (G_ne gsu gwp (by decide)))).trans (f1395 j)
  have cn_sc := i_cl (x := sc) (by omega)
  have cp1449 : ∀ j : Nat, j < 16 → fI H1419 wp j = fI s.heap wu j := fun j hj => by have c00 : (0 : Int32).toNatClampNeg = 0 := rfl; have c16 : (16 : Int32).toInt = 16 := rfl; have z := wH1419 j (by omega); rw [c00, Nat.zero_add] at z; exact z.trans (f1388 j)
  refine lv_aload_n hx hb dX7_copyFrom_23 rfl (lv_at hl 1 rfl) ?_
  refine x_gr C hTH1419 (ci := 7) (k := 2) rfl inX7 (by decide) wF_X7_15 ga1 rg_69 rfl dX7_copyFrom_24 (fun q1450 eq1450 gq1450 => ?_)
  have uq1450 : fu = q1450 := (m1429).trans eq1450.symm
  subst uq1450
  refine lv_iconst (v := 0) hx hb dX7_copyFrom_27 (by decide) ?_
  refine lv_aload_n hx hb dX7_copyFrom_28 rfl (lv_at hl 0 rfl) ?_
  refine x_gr C hTH1419 (ci := 7) (k := 2) rfl inX7 (by decide) wF_X7_15 ga0 rg_16 rfl dX7_copyFrom_29 (fun q1451 eq1451 gq1451 => ?_)
  have uq1451 : fp = q1451 := (m1421).trans eq1451.symm
  subst uq1451
  refine lv_iconst (v := 0) hx hb dX7_copyFrom_32 (by decide) ?_
  refine lv_bipush (v := 16) hx hb dX7_copyFrom_33 (by decide) ?_
  refine x_copy C hTH1419 hSH1419 wM_X7_44 wNT_arraycopy wST_arraycopy wIN_J10 gfu gfp rg_71 rg_18 (by decide) (by omega) (by omega) (by omega) (by show _ ≤ ((16 : Nat) : Int); omega) (by show _ ≤ ((16 : Nat) : Int); omega) (AE_in gfp (by decide)) hl.1 (by decide) dX7_copyFrom_35 (fun H1452 locsH1452 hTH1452 hSH1452 zH1452 oH1452 vH1452 wH1452 => ?_)
  have m1453 := (m1420).trans (fR_kept (oH1452 _ (G_ne ga0 gfp (by decide)))).symm
  have m1454 := (m1421).trans (fR_kept (oH1452 _ (G_ne ga0 gfp (by decide)))).symm
  have m1455 := (m1422).trans (fR_kept (oH1452 _ (G_ne ga0 gfp (by decide)))).symm
  have m1456 := (m1423).trans (fR_kept (oH1452 _ (G_ne ga0 gfp (by decide)))).symm
  have m1457 := (m1424).trans (fR_kept (oH1452 _ (G_ne ga0 gfp (by decide)))).symm
  have m1458 := (m1425).trans (fR_kept (oH1452 _ (G_ne ga0 gfp (by decide)))).symm
  have m1459 := (m1426).trans (fR_kept (oH1452 _ (G_ne ga0 gfp (by decide)))).symm
  have m1460 := (m1427).trans (fR_kept (oH1452 _ (G_ne ga0 gfp (by decide)))).symm
  have m1461 := (m1428).trans (fR_kept (oH1452 _ (G_ne ga1 gfp (by decide)))).symm
  have m1462 := (m1429).trans (fR_kept (oH1452 _ (G_ne ga1 gfp (by decide)))).symm
  have m1463 := (m1430).trans (fR_kept (oH1452 _ (G_ne ga1 gfp (by decide)))).symm
  have m1464 := (m1431).trans (fR_kept (oH1452 _ (G_ne ga1 gfp (by decide)))).symm
  have m1465 := (m1432).trans (fR_kept (oH1452 _ (G_ne ga1 gfp (by decide)))).symm
  have m1466 := (m1433).trans (fR_kept (oH1452 _ (G_ne ga1 gfp (by decide)))).symm
  have m1467 := (m1434).trans (fR_kept (oH1452 _ (G_ne ga1 gfp (by decide)))).symm
  have m1468 := (m1435).trans (fR_kept (oH1452 _ (G_ne ga1 gfp (by decide)))).symm
  have m1469 := (m1436).trans (fI_kept (oH1452 _ (G_ne ga0 gfp (by decide)))).symm
  have m1470 := (m1437).trans (fI_kept (oH1452 _ (G_ne ga1 gfp (by decide)))).symm
  have m1471 := (m1438).trans (fI_kept (oH1452 _ (G_ne ga1 gfp (by decide)))).symm
  have m1472 := (m1439).trans (fI_kept (oH1452 _ (G_ne ga0 gfp (by decide)))).symm
  have f1473 : ∀ q t : Nat, G q = some t → q ≠ a0 → q ≠ wp → q ≠ fp → q ≠ jp → q ≠ ep → q ≠ ap → q ≠ cp → q ≠ dp → q ≠ sp → H1452[q]? = s.heap[q]? := (fun q t hq  n1 n2 n3 n4 n5 n6 n7 n8 n9 => (oH1452 _ n3).trans (f1440 q t hq  n1 n2 n3 n4 n5 n6 n7 n8 n9))
  have f1474 : ∀ j : Nat, fI H1452 wu j = fI s.heap wu j := fun j => (fI_kept (oH1452 _ (G_ne gwu gfp (by decide)))).trans (f1441 j)
  have f1475 : ∀ j : Nat, fI H1452 fu j = fI s.heap fu j := fun j => (fI_kept (oH1452 _ (G_ne gfu gfp (by decide)))).trans (f1442 j)
  have f1476 : ∀ j : Nat, fI H1452 ju j = fI s.heap ju j := fun j => (fI_kept (oH1452 _ (G_ne gju gfp (by decide)))).trans (f1443 j)
  have f1477 : ∀ j : Nat, fI H1452 eu j = fI s.heap eu j := fun j => (fI_kept (oH1452 _ (G_ne geu gfp (by decide)))).trans (f1444 j)
  have f1478 : ∀ j : Nat, fI H1452 au j = fI s.heap au j := fun j => (fI_kept (oH1452 _ (G_ne gau gfp (by decide)))).trans (f1445 j)
  have f1479 : ∀ j : Nat, fI H1452 cu j = fI s.heap cu j := fun j => (fI_kept (oH1452 _ (G_ne gcu gfp (by decide)))).trans (f1446 j)
  have f1480 : ∀ j : Nat, fI H1452 du j = fI s.heap du j := fun j => (fI_kept (oH1452 _ (G_ne gdu gfp (by decide)))).trans (f1447 j)
  have f1481 : ∀ j : Nat, fI H1452 su j = fI s.heap su j := fun j => (fI_kept (oH1452 _ (G_ne gsu gfp (by decide)))).trans (f1448 j)
  have f1482 : ∀ j : Nat, j < 16 → fI H1452 wp j = fI s.heap wu j := fun j hj => (fI_kept (oH1452 _ (G_ne gwp gfp (by decide)))).trans (cp1449 j hj)
  have cn_sc := i_cl (x := sc) (by omega)
  have cp1483 : ∀ j : Nat, j < 16 → fI H1452 fp j = fI s.heap fu j := fun j hj => by have c00 : (0 : Int32).toNatClampNeg = 0 := rfl; have c16 : (16 : Int32).toInt = 16 := rfl; have z := wH1452 j (by omega); rw [c00, Nat.zero_add] at z; exact z.trans (f1442 j)
  refine lv_aload_n hx hb dX7_copyFrom_38 rfl (lv_at hl 1 rfl) ?_
  refine x_gr C hTH1452 (ci := 7) (k := 3) rfl inX7 (by decide) wF_X7_18 ga1 rg_69 rfl dX7_copyFrom_39 (fun q1484 eq1484 gq1484 => ?_)
  have uq1484 : ju = q1484 := (m1463).trans eq1484.symm
  subst uq1484
  refine lv_iconst (v := 0) hx hb dX7_copyFrom_42 (by decide) ?_
  refine lv_aload_n hx hb dX7_copyFrom_43 rfl (lv_at hl 0 rfl) ?_
  refine x_gr C hTH1452 (ci := 7) (k := 3) rfl inX7 (by decide) wF_X7_18 ga0 rg_16 rfl dX7_copyFrom_44 (fun q1485 eq1485 gq1485 => ?_)
  have uq1485 : jp = q1485 := (m1455).trans eq1485.symm
  subst uq1485
  refine lv_iconst (v := 0) hx hb dX7_copyFrom_47 (by decide) ?_
  refine lv_bipush (v := 16) hx hb dX7_copyFrom_48 (by decide) ?_
  refine x_copy C hTH1452 hSH1452 wM_X7_44 wNT_arraycopy wST_arraycopy wIN_J10 gju gjp rg_72 rg_19 (by decide) (by omega) (by omega) (by omega) (by show _ ≤ ((16 : Nat) : Int); omega) (by show _ ≤ ((16 : Nat) : Int); omega) (AE_in gjp (by decide)) hl.1 (by decide) dX7_copyFrom_50 (fun H1486 locsH1486 hTH1486 hSH1486 zH1486 oH1486 vH1486 wH1486 => ?_)
  have m1487 := (m1453).trans (fR_kept (oH1486 _ (G_ne ga0 gjp (by decide)))).symm
  have m1488 := (m1454).trans (fR_kept (oH1486 _ (G_ne ga0 gjp (by decide)))).symm
  have m1489 := (m1455).trans (fR_kept (oH1486 _ (G_ne ga0 gjp (by decide)))).symm
  have m1490 := (m1456).trans (fR_kept (oH1486 _ (G_ne ga0 gjp (by decide)))).symm
  have m1491 := (m1457).trans (fR_kept (oH1486 _ (G_ne ga0 gjp (by decide)))).symm
  have m1492 := (m1458).trans (fR_kept (oH1486 _ (G_ne ga0 gjp (by decide)))).symm
  have m1493 := (m1459).trans (fR_kept (oH1486 _ (G_ne ga0 gjp (by decide)))).symm
  have m1494 := (m1460).trans (fR_kept (oH1486 _ (G_ne ga0 gjp (by decide)))).symm
  have m1495 := (m1461).trans (fR_kept (oH1486 _ (G_ne ga1 gjp (by decide)))).symm
  have m1496 := (m1462).trans (fR_kept (oH1486 _ (G_ne ga1 gjp (by decide)))).symm
  have m1497 := (m1463).trans (fR_kept (oH1486 _ (G_ne ga1 gjp (by decide)))).symm
  have m1498 := (m1464).trans (fR_kept (oH1486 _ (G_ne ga1 gjp (by decide)))).symm
  have m1499 := (m1465).trans (fR_kept (oH1486 _ (G_ne ga1 gjp (by decide)))).symm
  have m1500 := (m1466).trans (fR_kept (oH1486 _ (G_ne ga1 gjp (by decide)))).symm
  have m1501 := (m1467).trans (fR_kept (oH1486 _ (G_ne ga1 gjp (by decide)))).symm
  have m1502 := (m1468).trans (fR_kept (oH1486 _ (G_ne ga1 gjp (by decide)))).symm
  have m1503 := (m1469).trans (fI_kept (oH1486 _ (G_ne ga0 gjp (by decide)))).symm
  have m1504 := (m1470).trans (fI_kept (oH1486 _ (G_ne ga1 gjp (by decide)))).symm
  have m1505 := (m1471).trans (fI_kept (oH1486 _ (G_ne ga1 gjp (by decide)))).symm
  have m1506 := (m1472).trans (fI_kept (oH1486 _ (G_ne ga0 gjp (by decide)))).symm
  have f1507 : ∀ q t : Nat, G q = some t → q ≠ a0 → q ≠ wp → q ≠ fp → q ≠ jp → q ≠ ep → q ≠ ap → q ≠ cp → q ≠ dp → q ≠ sp → H1486[q]? = s.heap[q]? := (fun q t hq  n1 n2 n3 n4 n5 n6 n7 n8 n9 => (oH1486 _ n4).trans (f1473 q t hq  n1 n2 n3 n4 n5 n6 n7 n8 n9))
  have f1508 : ∀ j : Nat, fI H1486 wu j = fI s.heap wu j := fun j => (fI_kept (oH1486 _ (G_ne gwu gjp (by decide)))).trans (f1474 j)
  have f1509 : ∀ j : Nat, fI H1486 fu j = fI s.heap fu j := fun j => (fI_kept (oH1486 _ (G_ne gfu gjp (by decide)))).trans (f1475 j)
  have f1510 : ∀ j : Nat, fI H1486 ju j = fI s.heap ju j := fun j => (fI_kept (oH1486 _ (G_ne gju gjp (by decide)))).trans (f1476 j)
  have f1511 : ∀ j : Nat, fI H1486 eu j = fI s.heap eu j := fun j => (fI_kept (oH1486 _ (G_ne geu gjp (by decide)))).trans (f1477 j)
  have f1512 : ∀ j : Nat, fI H1486 au j = fI s.heap au j := fun j => (fI_kept (oH1486 _ (G_ne gau gjp (by decide)))).trans (f1478 j)
  have f1513 : ∀ j : Nat, fI H1486 cu j = fI s.heap cu j := fun j => (fI_kept (oH1486 _ (G_ne gcu gjp (by decide)))).trans (f1479 j)
  have f1514 : ∀ j : Nat, fI H1486 du j = fI s.heap du j := fun j => (fI_kept (oH1486 _ (G_ne gdu gjp (by decide)))).trans (f1480 j)
  have f1515 : ∀ j : Nat, fI H1486 su j = fI s.heap su j := fun j => (fI_kept (oH1486 _ (G_ne gsu gjp (by decide)))).trans (f1481 j)
  have f1516 : ∀ j : Nat, j < 16 → fI H1486 wp j = fI s.heap wu j := fun j hj => (fI_kept (oH1486 _ (G_ne gwp gjp (by decide)))).trans (f1482 j hj)
  have f1517 : ∀ j : Nat, j < 16 → fI H1486 fp j = fI s.heap fu j := fun j hj => (fI_kept (oH1486 _ (G_ne gfp gjp (by decide)))).trans (cp1483 j hj)
  have cn_sc := i_cl (x := sc) (by omega)
  have cp1518 : ∀ j : Nat, j < 16 → fI H1486 jp j = fI s.heap ju j := fun j hj => by have c00 : (0 : Int32).toNatClampNeg = 0 := rfl; have c16 : (16 : Int32).toInt = 16 := rfl; have z := wH1486 j (by omega); rw [c00, Nat.zero_add] at z; exact z.trans (f1476 j)
  refine lv_aload_n hx hb dX7_copyFrom_53 rfl (lv_at hl 1 rfl) ?_
  refine x_gr C hTH1486 (ci := 7) (k := 4) rfl inX7 (by decide) wF_X7_21 ga1 rg_69 rfl dX7_copyFrom_54 (fun q1519 eq1519 gq1519 => ?_)
  have uq1519 : eu = q1519 := (m1498).trans eq1519.symm
  subst uq1519
  refine lv_iconst (v := 0) hx hb dX7_copyFrom_57 (by decide) ?_
  refine lv_aload_n hx hb dX7_copyFrom_58 rfl (lv_at hl 0 rfl) ?_
  refine x_gr C hTH1486 (ci := 7) (k := 4) rfl inX7 (by decide) wF_X7_21 ga0 rg_16 rfl dX7_copyFrom_59 (fun q1520 eq1520 gq1520 => ?_)
  have uq1520 : ep = q1520 := (m1490).trans eq1520.symm
  subst uq1520
  refine lv_iconst (v := 0) hx hb dX7_copyFrom_62 (by decide) ?_
  refine lv_bipush (v := 16) hx hb dX7_copyFrom_63 (by decide) ?_
  refine x_copy C hTH1486 hSH1486 wM_X7_44 wNT_arraycopy wST_arraycopy wIN_J10 geu gep rg_73 rg_20 (by decide) (by omega) (by omega) (by omega) (by show _ ≤ ((16 : Nat) : Int); omega) (by show _ ≤ ((16 : Nat) : Int); omega) (AE_in gep (by decide)) hl.1 (by decide) dX7_copyFrom_65 (fun H1521 locsH1521 hTH1521 hSH1521 zH1521 oH1521 vH1521 wH1521 => ?_)
  have m1522 := (m1487).trans (fR_kept (oH1521 _ (G_ne ga0 gep (by decide)))).symm
  have m1523 := (m1488).trans (fR_kept (oH1521 _ (G_ne ga0 gep (by decide)))).symm
  have m1524 := (m1489).trans (fR_kept (oH1521 _ (G_ne ga0 gep (by decide)))).symm
  have m1525 := (m1490).trans (fR_kept (oH1521 _ (G_ne ga0 gep (by decide)))).symm
  have m1526 := (m1491).trans (fR_kept (oH1521 _ (G_ne ga0 gep (by decide)))).symm
  have m1527 := (m1492).trans (fR_kept (oH1521 _ (G_ne ga0 gep (by decide)))).symm
  have m1528 := (m1493).trans (fR_kept (oH1521 _ (G_ne ga0 gep (by decide)))).symm
  have m1529 := (m1494).trans (fR_kept (oH1521 _ (G_ne ga0 gep (by decide)))).symm
  have m1530 := (m1495).trans (fR_kept (oH1521 _ (G_ne ga1 gep (by decide)))).symm
  have m1531 := (m1496).trans (fR_kept (oH1521 _ (G_ne ga1 gep (by decide)))).symm
  have m1532 := (m1497).trans (fR_kept (oH1521 _ (G_ne ga1 gep (by decide)))).symm
  have m1533 := (m1498).trans (fR_kept (oH1521 _ (G_ne ga1 gep (by decide)))).symm
  have m1534 := (m1499).trans (fR_kept (oH1521 _ (G_ne ga1 gep (by decide)))).symm
  have m1535 := (m1500).trans (fR_kept (oH1521 _ (G_ne ga1 gep (by decide)))).symm
  have m1536 := (m1501).trans (fR_kept (oH1521 _ (G_ne ga1 gep (by decide)))).symm
  have m1537 := (m1502).trans (fR_kept (oH1521 _ (G_ne ga1 gep (by decide)))).symm
  have m1538 := (m1503).trans (fI_kept (oH1521 _ (G_ne ga0 gep (by decide)))).symm
  have m1539 := (m1504).trans (fI_kept (oH1521 _ (G_ne ga1 gep (by decide)))).symm
  have m1540 := (m1505).trans (fI_kept (oH1521 _ (G_ne ga1 gep (by decide)))).symm
  have m1541 := (m1506).trans (fI_kept (oH1521 _ (G_ne ga0 gep (by decide)))).symm
  have f1542 : ∀ q t : Nat, G q = some t → q ≠ a0 → q ≠ wp → q ≠ fp → q ≠ jp → q ≠ ep → q ≠ ap → q ≠ cp → q ≠ dp → q ≠ sp → H1521[q]? = s.heap[q]? := (fun q t hq  n1 n2 n3 n4 n5 n6 n7 n8 n9 => (oH1521 _ n5).trans (f1507 q t hq  n1 n2 n3 n4 n5 n6 n7 n8 n9))
  have f1543 : ∀ j : Nat, fI H1521 wu j = fI s.heap wu j := fun j => (fI_kept (oH1521 _ (G_ne gwu gep (by decide)))).trans (f1508 j)
  have f1544 : ∀ j : Nat, fI H1521 fu j = fI s.heap fu j := fun j => (fI_kept (oH1521 _ (G_ne gfu gep (by decide)))).trans (f1509 j)
  have f1545 : ∀ j : Nat, fI H1521 ju j = fI s.heap ju j := fun j => (fI_kept (oH1521 _ (G_ne gju gep (by decide)))).trans (f1510 j)
  have f1546 : ∀ j : Nat, fI H1521 eu j = fI s.heap eu j := fun j => (fI_kept (oH1521 _ (G_ne geu gep (by decide)))).trans (f1511 j)
  have f1547 : ∀ j : Nat, fI H1521 au j = fI s.heap au j := fun j => (fI_kept (oH1521 _ (G_ne gau gep (by decide)))).trans (f1512 j)
  have f1548 : ∀ j : Nat, fI H1521 cu j = fI s.heap cu j := fun j => (fI_kept (oH1521 _ (G_ne gcu gep (by decide)))).trans (f1513 j)
  have f1549 : ∀ j : Nat, fI H1521 du j = fI s.heap du j := fun j => (fI_kept (oH1521 _ (G_ne gdu gep (by decide)))).trans (f1514 j)
  have f1550 : ∀ j : Nat, fI H1521 su j = fI s.heap su j := fun j => (fI_kept (oH1521 _ (G_ne gsu gep (by decide)))).trans (f1515 j)
  have f1551 : ∀ j : Nat, j < 16 → fI H1521 wp j = fI s.heap wu j := fun j hj => (fI_kept (oH1521 _ (G_ne gwp gep (by decide)))).trans (f1516 j hj)
  have f1552 : ∀ j : Nat, j < 16 → fI H1521 fp j = fI s.heap fu j := fun j hj => (fI_kept (oH1521 _ (G_ne gfp gep (by decide)))).trans (f1517 j hj)
  have f1553 : ∀ j : Nat, j < 16 → fI H1521 jp j = fI s.heap ju j := fun j hj => (fI_kept (oH1521 _ (G_ne gjp gep (by decide)))).trans (cp1518 j hj)
  have cn_sc := i_cl (x := sc) (by omega)
  have cp1554 : ∀ j : Nat, j < 16 → fI H1521 ep j = fI s.heap eu j := fun j hj => by have c00 : (0 : Int32).toNatClampNeg = 0 := rfl; have c16 : (16 : Int32).toInt = 16 := rfl; have z := wH1521 j (by omega); rw [c00, Nat.zero_add] at z; exact z.trans (f1511 j)
  refine lv_aload_n hx hb dX7_copyFrom_68 rfl (lv_at hl 1 rfl) ?_
  refine x_gr C hTH1521 (ci := 7) (k := 5) rfl inX7 (by decide) wF_X7_24 ga1 rg_69 rfl dX7_copyFrom_69 (fun q1555 eq1555 gq1555 => ?_)
  have uq1555 : au = q1555 := (m1534).trans eq1555.symm
  subst uq1555
  refine lv_iconst (v := 0) hx hb dX7_copyFrom_72 (by decide) ?_
  refine lv_aload_n hx hb dX7_copyFrom_73 rfl (lv_at hl 0 rfl) ?_
  refine x_gr C hTH1521 (ci := 7) (k := 5) rfl inX7 (by decide) wF_X7_24 ga0 rg_16 rfl dX7_copyFrom_74 (fun q1556 eq1556 gq1556 => ?_)
  have uq1556 : ap = q1556 := (m1526).trans eq1556.symm
  subst uq1556
  refine lv_iconst (v := 0) hx hb dX7_copyFrom_77 (by decide) ?_
  refine lv_bipush (v := 16) hx hb dX7_copyFrom_78 (by decide) ?_
  refine x_copy C hTH1521 hSH1521 wM_X7_44 wNT_arraycopy wST_arraycopy wIN_J10 gau gap rg_74 rg_21 (by decide) (by omega) (by omega) (by omega) (by show _ ≤ ((16 : Nat) : Int); omega) (by show _ ≤ ((16 : Nat) : Int); omega) (AE_in gap (by decide)) hl.1 (by decide) dX7_copyFrom_80 (fun H1557 locsH1557 hTH1557 hSH1557 zH1557 oH1557 vH1557 wH1557 => ?_)
  have m1558 := (m1522).trans (fR_kept (oH1557 _ (G_ne ga0 gap (by decide)))).symm
  have m1559 := (m1523).trans (fR_kept (oH1557 _ (G_ne ga0 gap (by decide)))).symm
  have m1560 := (m1524).trans (fR_kept (oH1557 _ (G_ne ga0 gap (by decide)))).symm
  have m1561 := (m1525).trans (fR_kept (oH1557 _ (G_ne ga0 gap (by decide)))).symm
  have m1562 := (m1526).trans (fR_kept (oH1557 _ (G_ne ga0 gap (by decide)))).symm
  have m1563 := (m1527).trans (fR_kept (oH1557 _ (G_ne ga0 gap (by decide)))).symm
  have m1564 := (m1528).trans (fR_kept (oH1557 _ (G_ne ga0 gap (by decide)))).symm
  have m1565 := (m1529).trans (fR_kept (oH1557 _ (G_ne ga0 gap (by decide)))).symm
  have m1566 := (m1530).trans (fR_kept (oH1557 _ (G_ne ga1 gap (by decide)))).symm
  have m1567 := (m1531).trans (fR_kept (oH1557 _ (G_ne ga1 gap (by decide)))).symm
  have m1568 := (m1532).trans (fR_kept (oH1557 _ (G_ne ga1 gap (by decide)))).symm
  have m1569 := (m1533).trans (fR_kept (oH1557 _ (G_ne ga1 gap (by decide)))).symm
  have m1570 := (m1534).trans (fR_kept (oH1557 _ (G_ne ga1 gap (by decide)))).symm
  have m1571 := (m1535).trans (fR_kept (oH1557 _ (G_ne ga1 gap (by decide)))).symm
  have m1572 := (m1536).trans (fR_kept (oH1557 _ (G_ne ga1 gap (by decide)))).symm
  have m1573 := (m1537).trans (fR_kept (oH1557 _ (G_ne ga1 gap (by decide)))).symm
  have m1574 := (m1538).trans (fI_kept (oH1557 _ (G_ne ga0 gap (by decide)))).symm
  have m1575 := (m1539).trans (fI_kept (oH1557 _ (G_ne ga1 gap (by decide)))).symm
  have m1576 := (m1540).trans (fI_kept (oH1557 _ (G_ne ga1 gap (by decide)))).symm
  have m1577 := (m1541).trans (fI_kept (oH1557 _ (G_ne ga0 gap (by decide)))).symm
  have f1578 : ∀ q t : Nat, G q = some t → q ≠ a0 → q ≠ wp → q ≠ fp → q ≠ jp → q ≠ ep → q ≠ ap → q ≠ cp → q ≠ dp → q ≠ sp → H1557[q]? = s.heap[q]? := (fun q t hq  n1 n2 n3 n4 n5 n6 n7 n8 n9 => (oH1557 _ n6).trans (f1542 q t hq  n1 n2 n3 n4 n5 n6 n7 n8 n9))
  have f1579 : ∀ j : Nat, fI H1557 wu j = fI s.heap wu j := fun j => (fI_kept (oH1557 _ (G_ne gwu gap (by decide)))).trans (f1543 j)
  have f1580 : ∀ j : Nat, fI H1557 fu j = fI s.heap fu j := fun j => (fI_kept (oH1557 _ (G_ne gfu gap (by decide)))).trans (f1544 j)
  have f1581 : ∀ j : Nat, fI H1557 ju j = fI s.heap ju j := fun j => (fI_kept (oH1557 _ (G_ne gju gap (by decide)))).trans (f1545 j)
  have f1582 : ∀ j : Nat, fI H1557 eu j = fI s.heap eu j := fun j => (fI_kept (oH1557 _ (G_ne geu gap (by decide)))).trans (f1546 j)
  have f1583 : ∀ j : Nat, fI H1557 au j = fI s.heap au j := fun j => (fI_kept (oH1557 _ (G_ne gau gap (by decide)))).trans (f1547 j)
  have f1584 : ∀ j : Nat, fI H1557 cu j = fI s.heap cu j := fun j => (fI_kept (oH1557 _ (G_ne gcu gap (by decide)))).trans (f1548 j)
  have f1585 : ∀ j : Nat, fI H1557 du j = fI s.heap du j := fun j => (fI_kept (oH1557 _ (G_ne gdu gap (by decide)))).trans (f1549 j)
  have f1586 : ∀ j : Nat, fI H1557 su j = fI s.heap su j := fun j => (fI_kept (oH1557 _ (G_ne gsu gap (by decide)))).trans (f1550 j)
  have f1587 : ∀ j : Nat, j < 16 → fI H1557 wp j = fI s.heap wu j := fun j hj => (fI_kept (oH1557 _ (G_ne gwp gap (by decide)))).trans (f1551 j hj)
  have f1588 : ∀ j : Nat, j < 16 → fI H1557 fp j = fI s.heap fu j := fun j hj => (fI_kept (oH1557 _ (G_ne gfp gap (by decide)))).trans (f1552 j hj)
  have f1589 : ∀ j : Nat, j < 16 → fI H1557 jp j = fI s.heap ju j := fun j hj => (fI_kept (oH1557 _ (G_ne gjp gap (by decide)))).trans (f1553 j hj)
  have f1590 : ∀ j : Nat, j < 16 → fI H1557 ep j = fI s.heap eu j := fun j hj => (fI_kept (oH1557 _ (G_ne gep gap (by decide)))).trans (cp1554 j hj)
  have cn_sc := i_cl (x := sc) (by omega)
  have cp1591 : ∀ j : Nat, j < 16 → fI H1557 ap j = fI s.heap au j := fun j hj => by have c00 : (0 : Int32).toNatClampNeg = 0 := rfl; have c16 : (16 : Int32).toInt = 16 := rfl; have z := wH1557 j (by omega); rw [c00, Nat.zero_add] at z; exact z.trans (f1547 j)
  refine lv_aload_n hx hb dX7_copyFrom_83 rfl (lv_at hl 1 rfl) ?_
  refine x_gr C hTH1557 (ci := 7) (k := 6) rfl inX7 (by decide) wF_X7_27 ga1 rg_69 rfl dX7_copyFrom_84 (fun q1592 eq1592 gq1592 => ?_)
  have uq1592 : cu = q1592 := (m1571).trans eq1592.symm
  subst uq1592
  refine lv_iconst (v := 0) hx hb dX7_copyFrom_87 (by decide) ?_
  refine lv_aload_n hx hb dX7_copyFrom_88 rfl (lv_at hl 0 rfl) ?_
  refine x_gr C hTH1557 (ci := 7) (k := 6) rfl inX7 (by decide) wF_X7_27 ga0 rg_16 rfl dX7_copyFrom_89 (fun q1593 eq1593 gq1593 => ?_)
  have uq1593 : cp = q1593 := (m1563).trans eq1593.symm
  subst uq1593
  refine lv_iconst (v := 0) hx hb dX7_copyFrom_92 (by decide) ?_
  refine lv_bipush (v := 16) hx hb dX7_copyFrom_93 (by decide) ?_
  refine x_copy C hTH1557 hSH1557 wM_X7_44 wNT_arraycopy wST_arraycopy wIN_J10 gcu gcp rg_75 rg_22 (by decide) (by omega) (by omega) (by omega) (by show _ ≤ ((16 : Nat) : Int); omega) (by show _ ≤ ((16 : Nat) : Int); omega) (AE_in gcp (by decide)) hl.1 (by decide) dX7_copyFrom_95 (fun H1594 locsH1594 hTH1594 hSH1594 zH1594 oH1594 vH1594 wH1594 => ?_)
  have m1595 := (m1558).trans (fR_kept (oH1594 _ (G_ne ga0 gcp (by decide)))).symm
  have m1596 := (m1559).trans (fR_kept (oH1594 _ (G_ne ga0 gcp (by decide)))).symm
  have m1597 := (m1560).trans (fR_kept (oH1594 _ (G_ne ga0 gcp (by decide)))).symm
  have m1598 := (m1561).trans (fR_kept (oH1594 _ (G_ne ga0 gcp (by decide)))).symm
  have m1599 := (m1562).trans (fR_kept (oH1594 _ (G_ne ga0 gcp (by decide)))).symm
  have m1600 := (m1563).trans (fR_kept (oH1594 _ (G_ne ga0 gcp (by decide)))).symm
  have m1601 := (m1564).trans (fR_kept (oH1594 _ (G_ne ga0 gcp (by decide)))).symm
  have m1602 := (m1565).trans (fR_kept (oH1594 _ (G_ne ga0 gcp (by decide)))).symm
  have m1603 := (m1566).trans (fR_kept (oH1594 _ (G_ne ga1 gcp (by decide)))).symm
  have m1604 := (m1567).trans (fR_kept (oH1594 _ (G_ne ga1 gcp (by decide)))).symm
  have m1605 := (m1568).trans (fR_kept (oH1594 _ (G_ne ga1 gcp (by decide)))).symm
  have m1606 := (m1569).trans (fR_kept (oH1594 _ (G_ne ga1 gcp (by decide)))).symm
  have m1607 := (m1570).trans (fR_kept (oH1594 _ (G_ne ga1 gcp (by decide)))).symm
  have m1608 := (m1571).trans (fR_kept (oH1594 _ (G_ne ga1 gcp (by decide)))).symm
  have m1609 := (m1572).trans (fR_kept (oH1594 _ (G_ne ga1 gcp (by decide)))).symm
  have m1610 := (m1573).trans (fR_kept (oH1594 _ (G_ne ga1 gcp (by decide)))).symm
  have m1611 := (m1574).trans (fI_kept (oH1594 _ (G_ne ga0 gcp (by decide)))).symm
  have m1612 := (m1575).trans (fI_kept (oH1594 _ (G_ne ga1 gcp (by decide)))).symm
  have m1613 := (m1576).trans (fI_kept (oH1594 _ (G_ne ga1 gcp (by decide)))).symm
  have m1614 := (m1577).trans (fI_kept (oH1594 _ (G_ne ga0 gcp (by decide)))).symm
  have f1615 : ∀ q t : Nat, G q = some t → q ≠ a0 → q ≠ wp → q ≠ fp → q ≠ jp → q ≠ ep → q ≠ ap → q ≠ cp → q ≠ dp → q ≠ sp → H1594[q]? = s.heap[q]? := (fun q t hq  n1 n2 n3 n4 n5 n6 n7 n8 n9 => (oH1594 _ n7).trans (f1578 q t hq  n1 n2 n3 n4 n5 n6 n7 n8 n9))
  have f1616 : ∀ j : Nat, fI H1594 wu j = fI s.heap wu j := fun j => (fI_kept (oH1594 _ (G_ne gwu gcp (by decide)))).trans (f1579 j)
  have f1617 : ∀ j : Nat, fI H1594 fu j = fI s.heap fu j := fun j => (fI_kept (oH1594 _ (G_ne gfu gcp (by decide)))).trans (f1580 j)
  have f1618 : ∀ j : Nat, fI H1594 ju j = fI s.heap ju j := fun j => (fI_kept (oH1594 _ (G_ne gju gcp (by decide)))).trans (f1581 j)
  have f1619 : ∀ j : Nat, fI H1594 eu j = fI s.heap eu j := fun j => (fI_kept (oH1594 _ (G_ne geu gcp (by decide)))).trans (f1582 j)
  have f1620 : ∀ j : Nat, fI H1594 au j = fI s.heap au j := fun j => (fI_kept (oH1594 _ (G_ne gau gcp (by decide)))).trans (f1583 j)
  have f1621 : ∀ j : Nat, fI H1594 cu j = fI s.heap cu j := fun j => (fI_kept (oH1594 _ (G_ne gcu gcp (by decide)))).trans (f1584 j)
  have f1622 : ∀ j : Nat, fI H1594 du j = fI s.heap du j := fun j => (fI_kept (oH1594 _ (G_ne gdu gcp (by decide)))).trans (f1585 j)
  have f1623 : ∀ j : Nat, fI H1594 su j = fI s.heap su j := fun j => (fI_kept (oH1594 _ (G_ne gsu gcp (by decide)))).trans (f1586 j)
  have f1624 : ∀ j : Nat, j < 16 → fI H1594 wp j = fI s.heap wu j := fun j hj => (fI_kept (oH1594 _ (G_ne gwp gcp (by decide)))).trans (f1587 j hj)
  have f1625 : ∀ j : Nat, j < 16 → fI H1594 fp j = fI s.heap fu j := fun j hj => (fI_kept (oH1594 _ (G_ne gfp gcp (by decide)))).trans (f1588 j hj)
  have f1626 : ∀ j : Nat, j < 16 → fI H1594 jp j = fI s.heap ju j := fun j hj => (fI_kept (oH1594 _ (G_ne gjp gcp (by decide)))).trans (f1589 j hj)
  have f1627 : ∀ j : Nat, j < 16 → fI H1594 ep j = fI s.heap eu j := fun j hj => (fI_kept (oH1594 _ (G_ne gep gcp (by decide)))).trans (f1590 j hj)
  have f1628 : ∀ j : Nat, j < 16 → fI H1594 ap j = fI s.heap au j := fun j hj => (fI_kept (oH1594 _ (G_ne gap gcp (by decide)))).trans (cp1591 j hj)
  have cn_sc := i_cl (x := sc) (by omega)
  have cp1629 : ∀ j : Nat, j < 16 → fI H1594 cp j = fI s.heap cu j := fun j hj => by have c00 : (0 : Int32).toNatClampNeg = 0 := rfl; have c16 : (16 : Int32).toInt = 16 := rfl; have z := wH1594 j (by omega); rw [c00, Nat.zero_add] at z; exact z.trans (f1584 j)
  refine lv_aload_n hx hb dX7_copyFrom_98 rfl (lv_at hl 1 rfl) ?_
  refine x_gr C hTH1594 (ci := 7) (k := 7) rfl inX7 (by decide) wF_X7_30 ga1 rg_69 rfl dX7_copyFrom_99 (fun q1630 eq1630 gq1630 => ?_)
  have uq1630 : du = q1630 := (m1609).trans eq1630.symm
  subst uq1630
  refine lv_iconst (v := 0) hx hb dX7_copyFrom_102 (by decide) ?_
  refine lv_aload_n hx hb dX7_copyFrom_103 rfl (lv_at hl 0 rfl) ?_
  refine x_gr C hTH1594 (ci := 7) (k := 7) rfl inX7 (by decide) wF_X7_30 ga0 rg_16 rfl dX7_copyFrom_104 (fun q1631 eq1631 gq1631 => ?_)
  have uq1631 : dp = q1631 := (m1601).trans eq1631.symm
  subst uq1631
  refine lv_iconst (v := 0) hx hb dX7_copyFrom_107 (by decide) ?_
  refine lv_bipush (v := 16) hx hb dX7_copyFrom_108 (by decide) ?_
  refine x_copy C hTH1594 hSH1594 wM_X7_44 wNT_arraycopy wST_arraycopy wIN_J10 gdu gdp rg_76 rg_23 (by decide) (by omega) (by omega) (by omega) (by show _ ≤ ((16 : Nat) : Int); omega) (by show _ ≤ ((16 : Nat) : Int); omega) (AE_in gdp (by decide)) hl.1 (by decide) dX7_copyFrom_110 (fun H1632 locsH1632 hTH1632 hSH1632 zH1632 oH1632 vH1632 wH1632 => ?_)
  have m1633 := (m1595).trans (fR_kept (oH1632 _ (G_ne ga0 gdp (by decide)))).symm
  have m1634 := (m1596).trans (fR_kept (oH1632 _ (G_ne ga0 gdp (by decide)))).symm
  have m1635 := (m1597).trans (fR_kept (oH1632 _ (G_ne ga0 gdp (by decide)))).symm
  have m1636 := (m1598).trans (fR_kept (oH1632 _ (G_ne ga0 gdp (by decide)))).symm
  have m1637 := (m1599).trans (fR_kept (oH1632 _ (G_ne ga0 gdp (by decide)))).symm
  have m1638 := (m1600).trans (fR_kept (oH1632 _ (G_ne ga0 gdp (by decide)))).symm
  have m1639 := (m1601).trans (fR_kept (oH1632 _ (G_ne ga0 gdp (by decide)))).symm
  have m1640 := (m1602).trans (fR_kept (oH1632 _ (G_ne ga0 gdp (by decide)))).symm
  have m1641 := (m1603).trans (fR_kept (oH1632 _ (G_ne ga1 gdp (by decide)))).symm
  have m1642 := (m1604).trans (fR_kept (oH1632 _ (G_ne ga1 gdp (by decide)))).symm
  have m1643 := (m1605).trans (fR_kept (oH1632 _ (G_ne ga1 gdp (by decide)))).symm
  have m1644 := (m1606).trans (fR_kept (oH1632 _ (G_ne ga1 gdp (by decide)))).symm
  have m1645 := (m1607).trans (fR_kept (oH1632 _ (G_ne ga1 gdp (by decide)))).symm
  have m1646 := (m1608).trans (fR_kept (oH1632 _ (G_ne ga1 gdp (by decide)))).symm
  have m1647 := (m1609).trans (fR_kept (oH1632 _ (G_ne ga1 gdp (by decide)))).symm
  have m1648 := (m1610).trans (fR_kept (oH1632 _ (G_ne ga1 gdp (by decide)))).symm
  have m1649 := (m1611).trans (fI_kept (oH1632 _ (G_ne ga0 gdp (by decide)))).symm
  have m1650 := (m1612).trans (fI_kept (oH1632 _ (G_ne ga1 gdp (by decide)))).symm
  have m1651 := (m1613).trans (fI_kept (oH1632 _ (G_ne ga1 gdp (by decide)))).symm
  have m1652 := (m1614).trans (fI_kept (oH1632 _ (G_ne ga0 gdp (by decide)))).symm
  have f1653 : ∀ q t : Nat, G q = some t → q ≠ a0 → q ≠ wp → q ≠ fp → q ≠ jp → q ≠ ep → q ≠ ap → q ≠ cp → q ≠ dp → q ≠ sp → H1632[q]? = s.heap[q]? := (fun q t hq  n1 n2 n3 n4 n5 n6 n7 n8 n9 => (oH1632 _ n8).trans (f1615 q t hq  n1 n2 n3 n4 n5 n6 n7 n8 n9))
  have f1654 : ∀ j : Nat, fI H1632 wu j = fI s.heap wu j := fun j => (fI_kept (oH1632 _ (G_ne gwu gdp (by decide)))).trans (f1616 j)
  have f1655 : ∀ j : Nat, fI H1632 fu j = fI s.heap fu j := fun j => (fI_kept (oH1632 _ (G_ne gfu gdp (by decide)))).trans (f1617 j)
  have f1656 : ∀ j : Nat, fI H1632 ju j = fI s.heap ju j := fun j => (fI_kept (oH1632 _ (G_ne gju gdp (by decide)))).trans (f1618 j)
  have f1657 : ∀ j : Nat, fI H1632 eu j = fI s.heap eu j := fun j => (fI_kept (oH1632 _ (G_ne geu gdp (by decide)))).trans (f1619 j)
  have f1658 : ∀ j : Nat, fI H1632 au j = fI s.heap au j := fun j => (fI_kept (oH1632 _ (G_ne gau gdp (by decide)))).trans (f1620 j)
  have f1659 : ∀ j : Nat, fI H1632 cu j = fI s.heap cu j := fun j => (fI_kept (oH1632 _ (G_ne gcu gdp (by decide)))).trans (f1621 j)
  have f1660 : ∀ j : Nat, fI H1632 du j = fI s.heap du j := fun j => (fI_kept (oH1632 _ (G_ne gdu gdp (by decide)))).trans (f1622 j)
  have f1661 : ∀ j : Nat, fI H1632 su j = fI s.heap su j := fun j => (fI_kept (oH1632 _ (G_ne gsu gdp (by decide)))).trans (f1623 j)
  have f1662 : ∀ j : Nat, j < 16 → fI H1632 wp j = fI s.heap wu j := fun j hj => (fI_kept (oH1632 _ (G_ne gwp gdp (by decide)))).trans (f1624 j hj)
  have f1663 : ∀ j : Nat, j < 16 → fI H1632 fp j = fI s.heap fu j := fun j hj => (fI_kept (oH1632 _ (G_ne gfp gdp (by decide)))).trans (f1625 j hj)
  have f1664 : ∀ j : Nat, j < 16 → fI H1632 jp j = fI s.heap ju j := fun j hj => (fI_kept (oH1632 _ (G_ne gjp gdp (by decide)))).trans (f1626 j hj)
  have f1665 : ∀ j : Nat, j < 16 → fI H1632 ep j = fI s.heap eu j := fun j hj => (fI_kept (oH1632 _ (G_ne gep gdp (by decide)))).trans (f1627 j hj)
  have f1666 : ∀ j : Nat, j < 16 → fI H1632 ap j = fI s.heap au j := fun j hj => (fI_kept (oH1632 _ (G_ne gap gdp (by decide)))).trans (f1628 j hj)
  have f1667 : ∀ j : Nat, j < 16 → fI H1632 cp j = fI s.heap cu j := fun j hj => (fI_kept (oH1632 _ (G_ne gcp gdp (by decide)))).trans (cp1629 j hj)
  have cn_sc := i_cl (x := sc) (by omega)
  have cp1668 : ∀ j : Nat, j < 16 → fI H1632 dp j = fI s.heap du j := fun j hj => by have c00 : (0 : Int32).toNatClampNeg = 0 := rfl; have c16 : (16 : Int32).toInt = 16 := rfl; have z := wH1632 j (by omega); rw [c00, Nat.zero_add] at z; exact z.trans (f1622 j)
  refine lv_aload_n hx hb dX7_copyFrom_113 rfl (lv_at hl 1 rfl) ?_
  refine x_gr C hTH1632 (ci := 7) (k := 8) rfl inX7 (by decide) wF_X7_33 ga1 rg_69 rfl dX7_copyFrom_114 (fun q1669 eq1669 gq1669 => ?_)
  have uq1669 : su = q1669 := (m1648).trans eq1669.symm
  subst uq1669
  refine lv_iconst (v := 0) hx hb dX7_copyFrom_117 (by decide) ?_
  refine lv_aload_n hx hb dX7_copyFrom_118 rfl (lv_at hl 0 rfl) ?_
  refine x_gr C hTH1632 (ci := 7) (k := 8) rfl inX7 (by decide) wF_X7_33 ga0 rg_16 rfl dX7_copyFrom_119 (fun q1670 eq1670 gq1670 => ?_)
  have uq1670 : sp = q1670 := (m1640).trans eq1670.symm
  subst uq1670
  refine lv_iconst (v := 0) hx hb dX7_copyFrom_122 (by decide) ?_
  refine lv_aload_n hx hb dX7_copyFrom_123 rfl (lv_at hl 1 rfl) ?_
  refine x_gi C hTH1632 (ci := 7) (k := 9) rfl inX7 (by decide) wF_X7_40 ga1 rg_69 rfl dX7_copyFrom_124 (fun x1671 ex1671 bx1671 => ?_)
  have ux1671 : sc = x1671 := (m1651).trans ex1671.symm
  subst ux1671
  refine x_copy C hTH1632 hSH1632 wM_X7_44 wNT_arraycopy wST_arraycopy wIN_J10 gsu gsp rg_77 rg_24 (by decide) (by omega) (by omega) (by omega) (by show _ ≤ ((500 : Nat) : Int); omega) (by show _ ≤ ((500 : Nat) : Int); omega) (AE_in gsp (by decide)) hl.1 (by decide) dX7_copyFrom_127 (fun H1672 locsH1672 hTH1672 hSH1672 zH1672 oH1672 vH1672 wH1672 => ?_)
  have m1673 := (m1633).trans (fR_kept (oH1672 _ (G_ne ga0 gsp (by decide)))).symm
  have m1674 := (m1634).trans (fR_kept (oH1672 _ (G_ne ga0 gsp (by decide)))).symm
  have m1675 := (m1635).trans (fR_kept (oH1672 _ (G_ne ga0 gsp (by decide)))).symm
  have m1676 := (m1636).trans (fR_kept (oH1672 _ (G_ne ga0 gsp (by decide)))).symm
  have m1677 := (m1637).trans (fR_kept (oH1672 _ (G_ne ga0 gsp (by decide)))).symm
  have m1678 := (m1638).trans (fR_kept (oH1672 _ (G_ne ga0 gsp (by decide)))).symm
  have m1679 := (m1639).trans (fR_kept (oH1672 _ (G_ne ga0 gsp (by decide)))).symm
  have m1680 := (m1640).trans (fR_kept (oH1672 _ (G_ne ga0 gsp (by decide)))).symm
  have m1681 := (m1641).trans (fR_kept (oH1672 _ (G_ne ga1 gsp (by decide)))).symm
  have m1682 := (m1642).trans (fR_kept (oH1672 _ (G_ne ga1 gsp (by decide)))).symm
  have m1683 := (m1643).trans (fR_kept (oH1672 _ (G_ne ga1 gsp (by decide)))).symm
  have m1684 := (m1644).trans (fR_kept (oH1672 _ (G_ne ga1 gsp (by decide)))).symm
  have m1685 := (m1645).trans (fR_kept (oH1672 _ (G_ne ga1 gsp (by decide)))).symm
  have m1686 := (m1646).trans (fR_kept (oH1672 _ (G_ne ga1 gsp (by decide)))).symm
  have m1687 := (m1647).trans (fR_kept (oH1672 _ (G_ne ga1 gsp (by decide)))).symm
  have m1688 := (m1648).trans (fR_kept (oH1672 _ (G_ne ga1 gsp (by decide)))).symm
  have m1689 := (m1649).trans (fI_kept (oH1672 _ (G_ne ga0 gsp (by decide)))).symm
  have m1690 := (m1650).trans (fI_kept (oH1672 _ (G_ne ga1 gsp (by decide)))).symm
  have m1691 := (m1651).trans (fI_kept (oH1672 _ (G_ne ga1 gsp (by decide)))).symm
  have m1692 := (m1652).trans (fI_kept (oH1672 _ (G_ne ga0 gsp (by decide)))).symm
  have f1693 : ∀ q t : Nat, G q = some t → q ≠ a0 → q ≠ wp → q ≠ fp → q ≠ jp → q ≠ ep → q ≠ ap → q ≠ cp → q ≠ dp → q ≠ sp → H1672[q]? = s.heap[q]? := (fun q t hq  n1 n2 n3 n4 n5 n6 n7 n8 n9 => (oH1672 _ n9).trans (f1653 q t hq  n1 n2 n3 n4 n5 n6 n7 n8 n9))
  have f1694 : ∀ j : Nat, fI H1672 wu j = fI s.heap wu j := fun j => (fI_kept (oH1672 _ (G_ne gwu gsp (by decide)))).trans (f1654 j)
  have f1695 : ∀ j : Nat, fI H1672 fu j = fI s.heap fu j := fun j => (fI_kept (oH1672 _ (G_ne gfu gsp (by decide)))).trans (f1655 j)
  have f1696 : ∀ j : Nat, fI H1672 ju j = fI s.heap ju j := fun j => (fI_kept (oH1672 _ (G_ne gju gsp (by decide)))).trans (f1656 j)
  have f1697 : ∀ j : Nat, fI H1672 eu j = fI s.heap eu j := fun j => (fI_kept (oH1672 _ (G_ne geu gsp (by decide)))).trans (f1657 j)
  have f1698 : ∀ j : Nat, fI H1672 au j = fI s.heap au j := fun j => (fI_kept (oH1672 _ (G_ne gau gsp (by decide)))).trans (f1658 j)
  have f1699 : ∀ j : Nat, fI H1672 cu j = fI s.heap cu j := fun j => (fI_kept (oH1672 _ (G_ne gcu gsp (by decide)))).trans (f1659 j)
  have f1700 : ∀ j : Nat, fI H1672 du j = fI s.heap du j := fun j => (fI_kept (oH1672 _ (G_ne gdu gsp (by decide)))).trans (f1660 j)
  have f1701 : ∀ j : Nat, fI H1672 su j = fI s.heap su j := fun j => (fI_kept (oH1672 _ (G_ne gsu gsp (by decide)))).trans (f1661 j)
  have f1702 : ∀ j : Nat, j < 16 → fI H1672 wp j = fI s.heap wu j := fun j hj => (fI_kept (oH1672 _ (G_ne gwp gsp (by decide)))).trans (f1662 j hj)
  have f1703 : ∀ j : Nat, j < 16 → fI H1672 fp j = fI s.heap fu j := fun j hj => (fI_kept (oH1672 _ (G_ne gfp gsp (by decide)))).trans (f1663 j hj)
  have f1704 : ∀ j : Nat, j < 16 → fI H1672 jp j = fI s.heap ju j := fun j hj => (fI_kept (oH1672 _ (G_ne gjp gsp (by decide)))).trans (f1664 j hj)
  have f1705 : ∀ j : Nat, j < 16 → fI H1672 ep j = fI s.heap eu j := fun j hj => (fI_kept (oH1672 _ (G_ne gep gsp (by decide)))).trans (f1665 j hj)
  have f1706 : ∀ j : Nat, j < 16 → fI H1672 ap j = fI s.heap au j := fun j hj => (fI_kept (oH1672 _ (G_ne gap gsp (by decide)))).trans (f1666 j hj)
  have f1707 : ∀ j : Nat, j < 16 → fI H1672 cp j = fI s.heap cu j := fun j hj => (fI_kept (oH1672 _ (G_ne gcp gsp (by decide)))).trans (f1667 j hj)
  have f1708 : ∀ j : Nat, j < 16 → fI H1672 dp j = fI s.heap du j := fun j hj => (fI_kept (oH1672 _ (G_ne gdp gsp (by decide)))).trans (cp1668 j hj)
  have cn_sc := i_cl (x := sc) (by omega)
  have cp1709 : ∀ j : Nat, j < sc.toNatClampNeg → fI H1672 sp j = fI s.heap su j := fun j hj => by have c00 : (0 : Int32).toNatClampNeg = 0 := rfl; have c16 : (16 : Int32).toInt = 16 := rfl; have z := wH1672 j (by omega); rw [c00, Nat.zero_add] at z; exact z.trans (f1661 j)
  refine lv_aload_n hx hb dX7_copyFrom_130 rfl (lv_at hl 0 rfl) ?_
  refine lv_aload_n hx hb dX7_copyFrom_131 rfl (lv_at hl 1 rfl) ?_
  refine x_gi C hTH1672 (ci := 7) (k := 9) rfl inX7 (by decide) wF_X7_40 ga1 rg_69 rfl dX7_copyFrom_132 (fun x1710 ex1710 bx1710 => ?_)
  have ux1710 : sc = x1710 := (m1691).trans ex1710.symm
  subst ux1710
  refine x_put C hTH1672 hSH1672 (ci := 7) (k := 9) (v := .int sc) (ty0 := tyX7) rfl inX7 tyX7_ok nmX7 (by decide) rfl wF_X7_40 ga0 rg_16 rfl rfl (okI (by have := i_rng sc; omega) (by have := i_rng sc; omega)) rfl rfl (AE_in ga0 (by decide)) dX7_copyFrom_135 (fun H1711 locsH1711 hTH1711 hSH1711 wH1711 => ?_)
  have f1712 : ∀ q t : Nat, G q = some t → q ≠ a0 → q ≠ wp → q ≠ fp → q ≠ jp → q ≠ ep → q ≠ ap → q ≠ cp → q ≠ dp → q ≠ sp → H1711[q]? = s.heap[q]? := (fun q t hq  n1 n2 n3 n4 n5 n6 n7 n8 n9 => (wH1711.off n1).trans (f1693 q t hq  n1 n2 n3 n4 n5 n6 n7 n8 n9))
  have f1713 : ∀ j : Nat, fI H1711 wu j = fI s.heap wu j := fun j => (Wr.neI wH1711 (Or.inl (G_ne gwu ga0 (by decide)))).trans (f1694 j)
  have f1714 : ∀ j : Nat, fI H1711 fu j = fI s.heap fu j := fun j => (Wr.neI wH1711 (Or.inl (G_ne gfu ga0 (by decide)))).trans (f1695 j)
  have f1715 : ∀ j : Nat, fI H1711 ju j = fI s.heap ju j := fun j => (Wr.neI wH1711 (Or.inl (G_ne gju ga0 (by decide)))).trans (f1696 j)
  have f1716 : ∀ j : Nat, fI H1711 eu j = fI s.heap eu j := fun j => (Wr.neI wH1711 (Or.inl (G_ne geu ga0 (by decide)))).trans (f1697 j)
  have f1717 : ∀ j : Nat, fI H1711 au j = fI s.heap au j := fun j => (Wr.neI wH1711 (Or.inl (G_ne gau ga0 (by decide)))).trans (f1698 j)
  have f1718 : ∀ j : Nat, fI H1711 cu j = fI s.heap cu j := fun j => (Wr.neI wH1711 (Or.inl (G_ne gcu ga0 (by decide)))).trans (f1699 j)
  have f1719 : ∀ j : Nat, fI H1711 du j = fI s.heap du j := fun j => (Wr.neI wH1711 (Or.inl (G_ne gdu ga0 (by decide)))).trans (f1700 j)
  have f1720 : ∀ j : Nat, fI H1711 su j = fI s.heap su j := fun j => (Wr.neI wH1711 (Or.inl (G_ne gsu ga0 (by decide)))).trans (f1701 j)
  have f1721 : ∀ j : Nat, j < 16 → fI H1711 wp j = fI s.heap wu j := fun j hj => (fI_kept (wH1711.off (G_ne gwp ga0 (by decide)))).trans (f1702 j hj)
  have f1722 : ∀ j : Nat, j < 16 → fI H1711 fp j = fI s.heap fu j := fun j hj => (fI_kept (wH1711.off (G_ne gfp ga0 (by decide)))).trans (f1703 j hj)
  have f1723 : ∀ j : Nat, j < 16 → fI H1711 jp j = fI s.heap ju j := fun j hj => (fI_kept (wH1711.off (G_ne gjp ga0 (by decide)))).trans (f1704 j hj)
  have f1724 : ∀ j : Nat, j < 16 → fI H1711 ep j = fI s.heap eu j := fun j hj => (fI_kept (wH1711.off (G_ne gep ga0 (by decide)))).trans (f1705 j hj)
  have f1725 : ∀ j : Nat, j < 16 → fI H1711 ap j = fI s.heap au j := fun j hj => (fI_kept (wH1711.off (G_ne gap ga0 (by decide)))).trans (f1706 j hj)
  have f1726 : ∀ j : Nat, j < 16 → fI H1711 cp j = fI s.heap cu j := fun j hj => (fI_kept (wH1711.off (G_ne gcp ga0 (by decide)))).trans (f1707 j hj)
  have f1727 : ∀ j : Nat, j < 16 → fI H1711 dp j = fI s.heap du j := fun j hj => (fI_kept (wH1711.off (G_ne gdp ga0 (by decide)))).trans (f1708 j hj)
  have f1728 : ∀ j : Nat, j < sc.toNatClampNeg → fI H1711 sp j = fI s.heap su j := fun j hj => (fI_kept (wH1711.off (G_ne gsp ga0 (by decide)))).trans (cp1709 j hj)
  have m1729 := m1673.trans (Wr.neR wH1711 (Or.inr (x_apart hKT hts inX7 tyX7 tyX7_ok nmX7 rfl 1 9 (by decide) (by decide) (by decide)))).symm
  have m1730 := m1674.trans (Wr.neR wH1711 (Or.inr (x_apart hKT hts inX7 tyX7 tyX7_ok nmX7 rfl 2 9 (by decide) (by decide) (by decide)))).symm
  have m1731 := m1675.trans (Wr.neR wH1711 (Or.inr (x_apart hKT hts inX7 tyX7 tyX7_ok nmX7 rfl 3 9 (by decide) (by decide) (by decide)))).symm
  have m1732 := m1676.trans (Wr.neR wH1711 (Or.inr (x_apart hKT hts inX7 tyX7 tyX7_ok nmX7 rfl 4 9 (by decide) (by decide) (by decide)))).symm
  have m1733 := m1677.trans (Wr.neR wH1711 (Or.inr (x_apart hKT hts inX7 tyX7 tyX7_ok nmX7 rfl 5 9 (by decide) (by decide) (by decide)))).symm
  have m1734 := m1678.trans (Wr.neR wH1711 (Or.inr (x_apart hKT hts inX7 tyX7 tyX7_ok nmX7 rfl 6 9 (by decide) (by decide) (by decide)))).symm
  have m1735 := m1679.trans (Wr.neR wH1711 (Or.inr (x_apart hKT hts inX7 tyX7 tyX7_ok nmX7 rfl 7 9 (by decide) (by decide) (by decide)))).symm
  have m1736 := m1680.trans (Wr.neR wH1711 (Or.inr (x_apart hKT hts inX7 tyX7 tyX7_ok nmX7 rfl 8 9 (by decide) (by decide) (by decide)))).symm
  have m1737 := m1681.trans (Wr.neR wH1711 (Or.inl (G_ne ga1 ga0 (by decide)))).symm
  have m1738 := m1682.trans (Wr.neR wH1711 (Or.inl (G_ne ga1 ga0 (by decide)))).symm
  have m1739 := m1683.trans (Wr.neR wH1711 (Or.inl (G_ne ga1 ga0 (by decide)))).symm
  have m1740 := m1684.trans (Wr.neR wH1711 (Or.inl (G_ne ga1 ga0 (by decide)))).symm
  have m1741 := m1685.trans (Wr.neR wH1711 (Or.inl (G_ne ga1 ga0 (by decide)))).symm
  have m1742 := m1686.trans (Wr.neR wH1711 (Or.inl (G_ne ga1 ga0 (by decide)))).symm
  have m1743 := m1687.trans (Wr.neR wH1711 (Or.inl (G_ne ga1 ga0 (by decide)))).symm
  have m1744 := m1688.trans (Wr.neR wH1711 (Or.inl (G_ne ga1 ga0 (by decide)))).symm
  have m1746 := m1690.trans (Wr.neI wH1711 (Or.inl (G_ne ga1 ga0 (by decide)))).symm
  have m1747 := m1691.trans (Wr.neI wH1711 (Or.inl (G_ne ga1 ga0 (by decide)))).symm
  have m1748 := m1692.trans (Wr.neI wH1711 (Or.inr (x_apart hKT hts inX7 tyX7 tyX7_ok nmX7 rfl 0 9 (by decide) (by decide) (by decide)))).symm
  have m1749 := Wr.I wH1711
  have m1749 := m1749.symm
  exact x_vret C hQ dX7_copyFrom_138 hSH1711 (by decide) (by decide) (⟨lm, sc, rfl, m1748, m1749, by omega, m1729, m1730, m1731, m1732, m1733, m1734, m1735, m1736, f1721, f1722, f1723, f1724, f1725, f1726, f1727, f1728, f1712, hTH1711⟩)

set_option maxHeartbeats 4000000 in
set_option maxRecDepth 100000 in
theorem a_X7_copyFrom_gk (l : Launch) (K : KE) (G : Nat → Option Nat) (H : Heap) {a0 : Nat} {a1 : Nat} {wp : Nat} {fp : Nat} {jp : Nat} {ep : Nat} {ap : Nat} {cp : Nat} {dp : Nat} {sp : Nat} {wu : Nat} {fu : Nat} {ju : Nat} {eu : Nat} {au : Nat} {cu : Nat} {du : Nat} {su : Nat} (lo : Int32) (so : Int32) (lm : Int32) (sc : Int32) (hT : TY K G H) (ga0 : G a0 = some 50) (ga1 : G a1 = some 16) (gwp : G wp = some 51) (ewp : wp = fR H a0 (K.1.2 7 1)) (gfp : G fp = some 52) (efp : fp = fR H a0 (K.1.2 7 2)) (gjp : G jp = some 53) (ejp : jp = fR H a0 (K.1.2 7 3)) (gep : G ep = some 54) (eep : ep = fR H a0 (K.1.2 7 4)) (gap : G ap = some 55) (eap : ap = fR H a0 (K.1.2 7 5)) (gcp : G cp = some 56) (ecp : cp = fR H a0 (K.1.2 7 6)) (gdp : G dp = some 57) (edp : dp = fR H a0 (K.1.2 7 7)) (gsp : G sp = some 58) (esp : sp = fR H a0 (K.1.2 7 8)) (gwu : G wu = some 17) (ewu : wu = fR H a1 (K.1.2 7 1)) (gfu : G fu = some 18) (efu : fu = fR H a1 (K.1.2 7 2)) (gju : G ju = some 19) (eju : ju = fR H a1 (K.1.2 7 3)) (geu : G eu = some 20) (eeu : eu = fR H a1 (K.1.2 7 4)) (gau : G au = some 21) (eau : au = fR H a1 (K.1.2 7 5)) (gcu : G cu = some 22) (ecu : cu = fR H a1 (K.1.2 7 6)) (gdu : G du = some 23) (edu : du = fR H a1 (K.1.2 7 7)) (gsu : G su = some 24) (esu : su = fR H a1 (K.1.2 7 8)) (elo : lo = fI H a0 (K.1.2 7 0)) (eso : so = fI H a0 (K.1.2 7 9)) (elm : lm = fI H a1 (K.1.2 7 0)) (esc : sc = fI H a1 (K.1.2 7 9)) : MX l K yX7_copyFrom cX7_copyFrom 2 none 1 40 0 0 [.ref a0, .ref a1] H (AE G [50, 51, 52, 53, 54, 55, 56, 57, 58] H.size) (fun v H1 => ∃ (t0 : Int32) (t1 : Int32), v = none ∧ t0 = fI H1 a0 (K.1.2 7 0) ∧ t1 = fI H1 a0 (K.1.2 7 9) ∧ (t0.toInt = lm.toInt ∧ t1.toInt = sc.toInt) ∧ wp = fR H1 a0 (K.1.2 7 1) ∧ fp = fR H1 a0 (K.1.2 7 2) ∧ jp = fR H1 a0 (K.1.2 7 3) ∧ ep = fR H1 a0 (K.1.2 7 4) ∧ ap = fR H1 a0 (K.1.2 7 5) ∧ cp = fR H1 a0 (K.1.2 7 6) ∧ dp = fR H1 a0 (K.1.2 7 7) ∧ sp = fR H1 a0 (K.1.2 7 8) ∧ (∀ j : Nat, j < 16 → fI H1 wp j = fI H wu j) ∧ (∀ j : Nat, j < 16 → fI H1 fp j = fI H fu j) ∧ (∀ j : Nat, j < 16 → fI H1 jp j = fI H ju j) ∧ (∀ j : Nat, j < 16 → fI H1 ep j = fI H eu j) ∧ (∀ j : Nat, j < 16 → fI H1 ap j = fI H au j) ∧ (∀ j : Nat, j < 16 → fI H1 cp j = fI H cu j) ∧ (∀ j : Nat, j < 16 → fI H1 dp j = fI H du j) ∧ (∀ j : Nat, j < sc.toNatClampNeg → fI H1 sp j = fI H su j) ∧ (∀ q t : Nat, G q = some t → q ≠ a0 → q ≠ wp → q ≠ fp → q ≠ jp → q ≠ ep → q ≠ ap → q ≠ cp → q ≠ dp → q ≠ sp → H1[q]? = H[q]?) ∧ TY K G H1) := by
  refine MX.of (by decide +kernel) (Nat.le_of_ble_eq_true rfl) ?_
  intro p e s m below meth c ls Q C hH hl hQ
  subst hH
  have C : CX p K s m _ meth c RX7 cX7_copyFrom 2 none "copyFrom" := C
  obtain ⟨hx, hb, hml, hown, hts, hKT, hr, hlocks, hnm⟩ := id C
  have hl : lv_has ls 2 [(0, .ref a0), (1, .ref a1)] := hl
  have hS : va_S (AE G [50, 51, 52, 53, 54, 55, 56, 57, 58] s.heap.size) s.heap s.heap [] := va_S.rf
  have n_0 : (0 : Int32).toInt = 0 := rfl
  have n_16 : (16 : Int32).toInt = 16 := rfl
  have blo := ty_fi (x := lo) (k := 0) elo hT ga0 rg_50 rfl
  have bso := ty_fi (x := so) (k := 9) eso hT ga0 rg_50 rfl
  have blm := ty_fi (x := lm) (k := 0) elm hT ga1 rg_16 rfl
  have bsc := ty_fi (x := sc) (k := 9) esc hT ga1 rg_16 rfl
  have f0_fx : ∀ q t : Nat, G q = some t → q ≠ a0 → q ≠ wp → q ≠ fp → q ≠ jp → q ≠ ep → q ≠ ap → q ≠ cp → q ≠ dp → q ≠ sp → s.heap[q]? = s.heap[q]? := fun _ _ _ _ _ _ _ _ _ _ _ _ => rfl
  have f0_swu : ∀ j : Nat, fI s.heap wu j = fI s.heap wu j := fun _ => rfl
  have f0_sfu : ∀ j : Nat, fI s.heap fu j = fI s.heap fu j := fun _ => rfl
  have f0_sju : ∀ j : Nat, fI s.heap ju j = fI s.heap ju j := fun _ => rfl
  have f0_seu : ∀ j : Nat, fI s.heap eu j = fI s.heap eu j := fun _ => rfl
  have f0_sau : ∀ j : Nat, fI s.heap au j = fI s.heap au j := fun _ => rfl
  have f0_scu : ∀ j : Nat, fI s.heap cu j = fI s.heap cu j := fun _ => rfl
  have f0_sdu : ∀ j : Nat, fI s.heap du j = fI s.heap du j := fun _ => rfl
  have f0_ssu : ∀ j : Nat, fI s.heap su j = fI s.heap su j := fun _ => rfl
  refine lv_aload_n hx hb dX7_copyFrom_0 rfl (lv_at hl 0 rfl) ?_
  refine lv_aload_n hx hb dX7_copyFrom_1 rfl (lv_at hl 1 rfl) ?_
  refine x_gi C hT (ci := 7) (k := 0) rfl inX7 (by decide) wF_X7_36 ga1 rg_16 rfl dX7_copyFrom_2 (fun x1385 ex1385 bx1385 => ?_)
  have ux1385 : lm = x1385 := (elm).trans ex1385.symm
  subst ux1385
  refine x_put C hT hS (ci := 7) (k := 0) (v := .int lm) (ty0 := tyX7) rfl inX7 tyX7_ok nmX7 (by decide) rfl wF_X7_36 ga0 rg_50 rfl rfl (okI (by have := i_rng lm; omega) (by have := i_rng lm; omega)) rfl rfl (AE_in ga0 (by decide)) dX7_copyFrom_5 (fun H1386 locsH1386 hTH1386 hSH1386 wH1386 => ?_)
  have f1387 : ∀ q t : Nat, G q = some t → q ≠ a0 → q ≠ wp → q ≠ fp → q ≠ jp → q ≠ ep → q ≠ ap → q ≠ cp → q ≠ dp → q ≠ sp → H1386[q]? = s.heap[q]? := (fun q t hq  n1 n2 n3 n4 n5 n6 n7 n8 n9 => (wH1386.off n1).trans (f0_fx q t hq  n1 n2 n3 n4 n5 n6 n7 n8 n9))
  have f1388 : ∀ j : Nat, fI H1386 wu j = fI s.heap wu j := fun j => (Wr.neI wH1386 (Or.inl (G_ne gwu ga0 (by decide)))).trans (f0_swu j)
  have f1389 : ∀ j : Nat, fI H1386 fu j = fI s.heap fu j := fun j => (Wr.neI wH1386 (Or.inl (G_ne gfu ga0 (by decide)))).trans (f0_sfu j)
  have f1390 : ∀ j : Nat, fI H1386 ju j = fI s.heap ju j := fun j => (Wr.neI wH1386 (Or.inl (G_ne gju ga0 (by decide)))).trans (f0_sju j)
  have f1391 : ∀ j : Nat, fI H1386 eu j = fI s.heap eu j := fun j => (Wr.neI wH1386 (Or.inl (G_ne geu ga0 (by decide)))).trans (f0_seu j)
  have f1392 : ∀ j : Nat, fI H1386 au j = fI s.heap au j := fun j => (Wr.neI wH1386 (Or.inl (G_ne gau ga0 (by decide)))).trans (f0_sau j)
  have f1393 : ∀ j : Nat, fI H1386 cu j = fI s.heap cu j := fun j => (Wr.neI wH1386 (Or.inl (G_ne gcu ga0 (by decide)))).trans (f0_scu j)
  have f1394 : ∀ j : Nat, fI H1386 du j = fI s.heap du j := fun j => (Wr.neI wH1386 (Or.inl (G_ne gdu ga0 (by decide)))).trans (f0_sdu j)
  have f1395 : ∀ j : Nat, fI H1386 su j = fI s.heap su j := fun j => (Wr.neI wH1386 (Or.inl (G_ne gsu ga0 (by decide)))).trans (f0_ssu j)
  have m1396 := ewp.trans (Wr.neR wH1386 (Or.inr (x_apart hKT hts inX7 tyX7 tyX7_ok nmX7 rfl 1 0 (by decide) (by decide) (by decide)))).symm
  have m1397 := efp.trans (Wr.neR wH1386 (Or.inr (x_apart hKT hts inX7 tyX7 tyX7_ok nmX7 rfl 2 0 (by decide) (by decide) (by decide)))).symm
  have m1398 := ejp.trans (Wr.neR wH1386 (Or.inr (x_apart hKT hts inX7 tyX7 tyX7_ok nmX7 rfl 3 0 (by decide) (by decide) (by decide)))).symm
  have m1399 := eep.trans (Wr.neR wH1386 (Or.inr (x_apart hKT hts inX7 tyX7 tyX7_ok nmX7 rfl 4 0 (by decide) (by decide) (by decide)))).symm
  have m1400 := eap.trans (Wr.neR wH1386 (Or.inr (x_apart hKT hts inX7 tyX7 tyX7_ok nmX7 rfl 5 0 (by decide) (by decide) (by decide)))).symm
  have m1401 := ecp.trans (Wr.neR wH1386 (Or.inr (x_apart hKT hts inX7 tyX7 tyX7_ok nmX7 rfl 6 0 (by decide) (by decide) (by decide)))).symm
  have m1402 := edp.trans (Wr.neR wH1386 (Or.inr (x_apart hKT hts inX7 tyX7 tyX7_ok nmX7 rfl 7 0 (by decide) (by decide) (by decide)))).symm
  have m1403 := esp.trans (Wr.neR wH1386 (Or.inr (x_apart hKT hts inX7 tyX7 tyX7_ok nmX7 rfl 8 0 (by decide) (by decide) (by decide)))).symm
  have m1404 := ewu.trans (Wr.neR wH1386 (Or.inl (G_ne ga1 ga0 (by decide)))).symm
  have m1405 := efu.trans (Wr.neR wH1386 (Or.inl (G_ne ga1 ga0 (by decide)))).symm
  have m1406 := eju.trans (Wr.neR wH1386 (Or.inl (G_ne ga1 ga0 (by decide)))).symm
  have m1407 := eeu.trans (Wr.neR wH1386 (Or.inl (G_ne ga1 ga0 (by decide)))).symm
  have m1408 := eau.trans (Wr.neR wH1386 (Or.inl (G_ne ga1 ga0 (by decide)))).symm
  have m1409 := ecu.trans (Wr.neR wH1386 (Or.inl (G_ne ga1 ga0 (by decide)))).symm
  have m1410 := edu.trans (Wr.neR wH1386 (Or.inl (G_ne ga1 ga0 (by decide)))).symm
  have m1411 := esu.trans (Wr.neR wH1386 (Or.inl (G_ne ga1 ga0 (by decide)))).symm
  have m1413 := eso.trans (Wr.neI wH1386 (Or.inr (x_apart hKT hts inX7 tyX7 tyX7_ok nmX7 rfl 9 0 (by decide) (by decide) (by decide)))).symm
  have m1414 := elm.trans (Wr.neI wH1386 (Or.inl (G_ne ga1 ga0 (by decide)))).symm
  have m1415 := esc.trans (Wr.neI wH1386 (Or.inl (G_ne ga1 ga0 (by decide)))).symm
  have m1416 := Wr.I wH1386
  have m1416 := m1416.symm
  refine lv_aload_n hx hb dX7_copyFrom_8 rfl (lv_at hl 1 rfl) ?_
  refine x_gr C hTH1386 (ci := 7) (k := 1) rfl inX7 (by decide) wF_X7_9 ga1 rg_16 rfl dX7_copyFrom_9 (fun q1417 eq1417 gq1417 => ?_)
  have uq1417 : wu = q1417 := (m1404).trans eq1417.symm
  subst uq1417
  refine lv_iconst (v := 0) hx hb dX7_copyFrom_12 (by decide) ?_
  refine lv_aload_n hx hb dX7_copyFrom_13 rfl (lv_at hl 0 rfl) ?_
  refine x_gr C hTH1386 (ci := 7) (k := 1) rfl inX7 (by decide) wF_X7_9 ga0 rg_50 rfl dX7_copyFrom_14 (fun q1418 eq1418 gq1418 => ?_)
  have uq1418 : wp = q1418 := (m1396).trans eq1418.symm
  subst uq1418
  refine lv_iconst (v := 0) hx hb dX7_copyFrom_17 (by decide) ?_
  refine lv_bipush (v := 16) hx hb dX7_copyFrom_18 (by decide) ?_
  refine x_copy C hTH1386 hSH1386 wM_X7_44 wNT_arraycopy wST_arraycopy wIN_J10 gwu gwp rg_17 rg_51 (by decide) (by omega) (by omega) (by omega) (by show _ ≤ ((16 : Nat) : Int); omega) (by show _ ≤ ((16 : Nat) : Int); omega) (AE_in gwp (by decide)) hl.1 (by decide) dX7_copyFrom_20 (fun H1419 locsH1419 hTH1419 hSH1419 zH1419 oH1419 vH1419 wH1419 => ?_)
  have m1420 := (m1396).trans (fR_kept (oH1419 _ (G_ne ga0 gwp (by decide)))).symm
  have m1421 := (m1397).trans (fR_kept (oH1419 _ (G_ne ga0 gwp (by decide)))).symm
  have m1422 := (m1398).trans (fR_kept (oH1419 _ (G_ne ga0 gwp (by decide)))).symm
  have m1423 := (m1399).trans (fR_kept (oH1419 _ (G_ne ga0 gwp (by decide)))).symm
  have m1424 := (m1400).trans (fR_kept (oH1419 _ (G_ne ga0 gwp (by decide)))).symm
  have m1425 := (m1401).trans (fR_kept (oH1419 _ (G_ne ga0 gwp (by decide)))).symm
  have m1426 := (m1402).trans (fR_kept (oH1419 _ (G_ne ga0 gwp (by decide)))).symm
  have m1427 := (m1403).trans (fR_kept (oH1419 _ (G_ne ga0 gwp (by decide)))).symm
  have m1428 := (m1404).trans (fR_kept (oH1419 _ (G_ne ga1 gwp (by decide)))).symm
  have m1429 := (m1405).trans (fR_kept (oH1419 _ (G_ne ga1 gwp (by decide)))).symm
  have m1430 := (m1406).trans (fR_kept (oH1419 _ (G_ne ga1 gwp (by decide)))).symm
  have m1431 := (m1407).trans (fR_kept (oH1419 _ (G_ne ga1 gwp (by decide)))).symm
  have m1432 := (m1408).trans (fR_kept (oH1419 _ (G_ne ga1 gwp (by decide)))).symm
  have m1433 := (m1409).trans (fR_kept (oH1419 _ (G_ne ga1 gwp (by decide)))).symm
  have m1434 := (m1410).trans (fR_kept (oH1419 _ (G_ne ga1 gwp (by decide)))).symm
  have m1435 := (m1411).trans (fR_kept (oH1419 _ (G_ne ga1 gwp (by decide)))).symm
  have m1436 := (m1413).trans (fI_kept (oH1419 _ (G_ne ga0 gwp (by decide)))).symm
  have m1437 := (m1414).trans (fI_kept (oH1419 _ (G_ne ga1 gwp (by decide)))).symm
  have m1438 := (m1415).trans (fI_kept (oH1419 _ (G_ne ga1 gwp (by decide)))).symm
  have m1439 := (m1416).trans (fI_kept (oH1419 _ (G_ne ga0 gwp (by decide)))).symm
  have f1440 : ∀ q t : Nat, G q = some t → q ≠ a0 → q ≠ wp → q ≠ fp → q ≠ jp → q ≠ ep → q ≠ ap → q ≠ cp → q ≠ dp → q ≠ sp → H1419[q]? = s.heap[q]? := (fun q t hq  n1 n2 n3 n4 n5 n6 n7 n8 n9 => (oH1419 _ n2).trans (f1387 q t hq  n1 n2 n3 n4 n5 n6 n7 n8 n9))
  have f1441 : ∀ j : Nat, fI H1419 wu j = fI s.heap wu j := fun j => (fI_kept (oH1419 _ (G_ne gwu gwp (by decide)))).trans (f1388 j)
  have f1442 : ∀ j : Nat, fI H1419 fu j = fI s.heap fu j := fun j => (fI_kept (oH1419 _ (G_ne gfu gwp (by decide)))).trans (f1389 j)
  have f1443 : ∀ j : Nat, fI H1419 ju j = fI s.heap ju j := fun j => (fI_kept (oH1419 _ (G_ne gju gwp (by decide)))).trans (f1390 j)
  have f1444 : ∀ j : Nat, fI H1419 eu j = fI s.heap eu j := fun j => (fI_kept (oH1419 _ (G_ne geu gwp (by decide)))).trans (f1391 j)
  have f1445 : ∀ j : Nat, fI H1419 au j = fI s.heap au j := fun j => (fI_kept (oH1419 _ (G_ne gau gwp (by decide)))).trans (f1392 j)
  have f1446 : ∀ j : Nat, fI H1419 cu j = fI s.heap cu j := fun j => (fI_kept (oH1419 _ (G_ne gcu gwp (by decide)))).trans (f1393 j)
  have f1447 : ∀ j : Nat, fI H1419 du j = fI s.heap du j := fun j => (fI_kept (oH1419 _ (G_ne gdu gwp (by decide)))).trans (f1394 j)
  have f1448 : ∀ j : Nat, fI H1419 su j = fI s.heap su j := fun j => (fI_kept (oH1419 _ (G_ne gsu gwp (by decide)))).trans (f1395 j)
  have cn_sc := i_cl (x := sc) (by omega)
  have cp1449 : ∀ j : Nat, j < 16 → fI H1419 wp j = fI s.heap wu j := fun j hj => by have c00 : (0 : Int32).toNatClampNeg = 0 := rfl; have c16 : (16 : Int32).toInt = 16 := rfl; have z := wH1419 j (by omega); rw [c00, Nat.zero_add] at z; exact z.trans (f1388 j)
  refine lv_aload_n hx hb dX7_copyFrom_23 rfl (lv_at hl 1 rfl) ?_
  refine x_gr C hTH1419 (ci := 7) (k := 2) rfl inX7 (by decide) wF_X7_15 ga1 rg_16 rfl dX7_copyFrom_24 (fun q1450 eq1450 gq1450 => ?_)
  have uq1450 : fu = q1450 := (m1429).trans eq1450.symm
  subst uq1450
  refine lv_iconst (v := 0) hx hb dX7_copyFrom_27 (by decide) ?_
  refine lv_aload_n hx hb dX7_copyFrom_28 rfl (lv_at hl 0 rfl) ?_
  refine x_gr C hTH1419 (ci := 7) (k := 2) rfl inX7 (by decide) wF_X7_15 ga0 rg_50 rfl dX7_copyFrom_29 (fun q1451 eq1451 gq1451 => ?_)
  have uq1451 : fp = q1451 := (m1421).trans eq1451.symm
  subst uq1451
  refine lv_iconst (v := 0) hx hb dX7_copyFrom_32 (by decide) ?_
  refine lv_bipush (v := 16) hx hb dX7_copyFrom_33 (by decide) ?_
  refine x_copy C hTH1419 hSH1419 wM_X7_44 wNT_arraycopy wST_arraycopy wIN_J10 gfu gfp rg_18 rg_52 (by decide) (by omega) (by omega) (by omega) (by show _ ≤ ((16 : Nat) : Int); omega) (by show _ ≤ ((16 : Nat) : Int); omega) (AE_in gfp (by decide)) hl.1 (by decide) dX7_copyFrom_35 (fun H1452 locsH1452 hTH1452 hSH1452 zH1452 oH1452 vH1452 wH1452 => ?_)
  have m1453 := (m1420).trans (fR_kept (oH1452 _ (G_ne ga0 gfp (by decide)))).symm
  have m1454 := (m1421).trans (fR_kept (oH1452 _ (G_ne ga0 gfp (by decide)))).symm
  have m1455 := (m1422).trans (fR_kept (oH1452 _ (G_ne ga0 gfp (by decide)))).symm
  have m1456 := (m1423).trans (fR_kept (oH1452 _ (G_ne ga0 gfp (by decide)))).symm
  have m1457 := (m1424).trans (fR_kept (oH1452 _ (G_ne ga0 gfp (by decide)))).symm
  have m1458 := (m1425).trans (fR_kept (oH1452 _ (G_ne ga0 gfp (by decide)))).symm
  have m1459 := (m1426).trans (fR_kept (oH1452 _ (G_ne ga0 gfp (by decide)))).symm
  have m1460 := (m1427).trans (fR_kept (oH1452 _ (G_ne ga0 gfp (by decide)))).symm
  have m1461 := (m1428).trans (fR_kept (oH1452 _ (G_ne ga1 gfp (by decide)))).symm
  have m1462 := (m1429).trans (fR_kept (oH1452 _ (G_ne ga1 gfp (by decide)))).symm
  have m1463 := (m1430).trans (fR_kept (oH1452 _ (G_ne ga1 gfp (by decide)))).symm
  have m1464 := (m1431).trans (fR_kept (oH1452 _ (G_ne ga1 gfp (by decide)))).symm
  have m1465 := (m1432).trans (fR_kept (oH1452 _ (G_ne ga1 gfp (by decide)))).symm
  have m1466 := (m1433).trans (fR_kept (oH1452 _ (G_ne ga1 gfp (by decide)))).symm
  have m1467 := (m1434).trans (fR_kept (oH1452 _ (G_ne ga1 gfp (by decide)))).symm
  have m1468 := (m1435).trans (fR_kept (oH1452 _ (G_ne ga1 gfp (by decide)))).symm
  have m1469 := (m1436).trans (fI_kept (oH1452 _ (G_ne ga0 gfp (by decide)))).symm
  have m1470 := (m1437).trans (fI_kept (oH1452 _ (G_ne ga1 gfp (by decide)))).symm
  have m1471 := (m1438).trans (fI_kept (oH1452 _ (G_ne ga1 gfp (by decide)))).symm
  have m1472 := (m1439).trans (fI_kept (oH1452 _ (G_ne ga0 gfp (by decide)))).symm
  have f1473 : ∀ q t : Nat, G q = some t → q ≠ a0 → q ≠ wp → q ≠ fp → q ≠ jp → q ≠ ep → q ≠ ap → q ≠ cp → q ≠ dp → q ≠ sp → H1452[q]? = s.heap[q]? := (fun q t hq  n1 n2 n3 n4 n5 n6 n7 n8 n9 => (oH1452 _ n3).trans (f1440 q t hq  n1 n2 n3 n4 n5 n6 n7 n8 n9))
  have f1474 : ∀ j : Nat, fI H1452 wu j = fI s.heap wu j := fun j => (fI_kept (oH1452 _ (G_ne gwu gfp (by decide)))).trans (f1441 j)
  have f1475 : ∀ j : Nat, fI H1452 fu j = fI s.heap fu j := fun j => (fI_kept (oH1452 _ (G_ne gfu gfp (by decide)))).trans (f1442 j)
  have f1476 : ∀ j : Nat, fI H1452 ju j = fI s.heap ju j := fun j => (fI_kept (oH1452 _ (G_ne gju gfp (by decide)))).trans (f1443 j)
  have f1477 : ∀ j : Nat, fI H1452 eu j = fI s.heap eu j := fun j => (fI_kept (oH1452 _ (G_ne geu gfp (by decide)))).trans (f1444 j)
  have f1478 : ∀ j : Nat, fI H1452 au j = fI s.heap au j := fun j => (fI_kept (oH1452 _ (G_ne gau gfp (by decide)))).trans (f1445 j)
  have f1479 : ∀ j : Nat, fI H1452 cu j = fI s.heap cu j := fun j => (fI_kept (oH1452 _ (G_ne gcu gfp (by decide)))).trans (f1446 j)
  have f1480 : ∀ j : Nat, fI H1452 du j = fI s.heap du j := fun j => (fI_kept (oH1452 _ (G_ne gdu gfp (by decide)))).trans (f1447 j)
  have f1481 : ∀ j : Nat, fI H1452 su j = fI s.heap su j := fun j => (fI_kept (oH1452 _ (G_ne gsu gfp (by decide)))).trans (f1448 j)
  have f1482 : ∀ j : Nat, j < 16 → fI H1452 wp j = fI s.heap wu j := fun j hj => (fI_kept (oH1452 _ (G_ne gwp gfp (by decide)))).trans (cp1449 j hj)
  have cn_sc := i_cl (x := sc) (by omega)
  have cp1483 : ∀ j : Nat, j < 16 → fI H1452 fp j = fI s.heap fu j := fun j hj => by have c00 : (0 : Int32).toNatClampNeg = 0 := rfl; have c16 : (16 : Int32).toInt = 16 := rfl; have z := wH1452 j (by omega); rw [c00, Nat.zero_add] at z; exact z.trans (f1442 j)
  refine lv_aload_n hx hb dX7_copyFrom_38 rfl (lv_at hl 1 rfl) ?_
  refine x_gr C hTH1452 (ci := 7) (k := 3) rfl inX7 (by decide) wF_X7_18 ga1 rg_16 rfl dX7_copyFrom_39 (fun q1484 eq1484 gq1484 => ?_)
  have uq1484 : ju = q1484 := (m1463).trans eq1484.symm
  subst uq1484
  refine lv_iconst (v := 0) hx hb dX7_copyFrom_42 (by decide) ?_
  refine lv_aload_n hx hb dX7_copyFrom_43 rfl (lv_at hl 0 rfl) ?_
  refine x_gr C hTH1452 (ci := 7) (k := 3) rfl inX7 (by decide) wF_X7_18 ga0 rg_50 rfl dX7_copyFrom_44 (fun q1485 eq1485 gq1485 => ?_)
  have uq1485 : jp = q1485 := (m1455).trans eq1485.symm
  subst uq1485
  refine lv_iconst (v := 0) hx hb dX7_copyFrom_47 (by decide) ?_
  refine lv_bipush (v := 16) hx hb dX7_copyFrom_48 (by decide) ?_
  refine x_copy C hTH1452 hSH1452 wM_X7_44 wNT_arraycopy wST_arraycopy wIN_J10 gju gjp rg_19 rg_53 (by decide) (by omega) (by omega) (by omega) (by show _ ≤ ((16 : Nat) : Int); omega) (by show _ ≤ ((16 : Nat) : Int); omega) (AE_in gjp (by decide)) hl.1 (by decide) dX7_copyFrom_50 (fun H1486 locsH1486 hTH1486 hSH1486 zH1486 oH1486 vH1486 wH1486 => ?_)
  have m1487 := (m1453).trans (fR_kept (oH1486 _ (G_ne ga0 gjp (by decide)))).symm
  have m1488 := (m1454).trans (fR_kept (oH1486 _ (G_ne ga0 gjp (by decide)))).symm
  have m1489 := (m1455).trans (fR_kept (oH1486 _ (G_ne ga0 gjp (by decide)))).symm
  have m1490 := (m1456).trans (fR_kept (oH1486 _ (G_ne ga0 gjp (by decide)))).symm
  have m1491 := (m1457).trans (fR_kept (oH1486 _ (G_ne ga0 gjp (by decide)))).symm
  have m1492 := (m1458).trans (fR_kept (oH1486 _ (G_ne ga0 gjp (by decide)))).symm
  have m1493 := (m1459).trans (fR_kept (oH1486 _ (G_ne ga0 gjp (by decide)))).symm
  have m1494 := (m1460).trans (fR_kept (oH1486 _ (G_ne ga0 gjp (by decide)))).symm
  have m1495 := (m1461).trans (fR_kept (oH1486 _ (G_ne ga1 gjp (by decide)))).symm
  have m1496 := (m1462).trans (fR_kept (oH1486 _ (G_ne ga1 gjp (by decide)))).symm
  have m1497 := (m1463).trans (fR_kept (oH1486 _ (G_ne ga1 gjp (by decide)))).symm
  have m1498 := (m1464).trans (fR_kept (oH1486 _ (G_ne ga1 gjp (by decide)))).symm
  have m1499 := (m1465).trans (fR_kept (oH1486 _ (G_ne ga1 gjp (by decide)))).symm
  have m1500 := (m1466).trans (fR_kept (oH1486 _ (G_ne ga1 gjp (by decide)))).symm
  have m1501 := (m1467).trans (fR_kept (oH1486 _ (G_ne ga1 gjp (by decide)))).symm
  have m1502 := (m1468).trans (fR_kept (oH1486 _ (G_ne ga1 gjp (by decide)))).symm
  have m1503 := (m1469).trans (fI_kept (oH1486 _ (G_ne ga0 gjp (by decide)))).symm
  have m1504 := (m1470).trans (fI_kept (oH1486 _ (G_ne ga1 gjp (by decide)))).symm
  have m1505 := (m1471).trans (fI_kept (oH1486 _ (G_ne ga1 gjp (by decide)))).symm
  have m1506 := (m1472).trans (fI_kept (oH1486 _ (G_ne ga0 gjp (by decide)))).symm
  have f1507 : ∀ q t : Nat, G q = some t → q ≠ a0 → q ≠ wp → q ≠ fp → q ≠ jp → q ≠ ep → q ≠ ap → q ≠ cp → q ≠ dp → q ≠ sp → H1486[q]? = s.heap[q]? := (fun q t hq  n1 n2 n3 n4 n5 n6 n7 n8 n9 => (oH1486 _ n4).trans (f1473 q t hq  n1 n2 n3 n4 n5 n6 n7 n8 n9))
  have f1508 : ∀ j : Nat, fI H1486 wu j = fI s.heap wu j := fun j => (fI_kept (oH1486 _ (G_ne gwu gjp (by decide)))).trans (f1474 j)
  have f1509 : ∀ j : Nat, fI H1486 fu j = fI s.heap fu j := fun j => (fI_kept (oH1486 _ (G_ne gfu gjp (by decide)))).trans (f1475 j)
  have f1510 : ∀ j : Nat, fI H1486 ju j = fI s.heap ju j := fun j => (fI_kept (oH1486 _ (G_ne gju gjp (by decide)))).trans (f1476 j)
  have f1511 : ∀ j : Nat, fI H1486 eu j = fI s.heap eu j := fun j => (fI_kept (oH1486 _ (G_ne geu gjp (by decide)))).trans (f1477 j)
  have f1512 : ∀ j : Nat, fI H1486 au j = fI s.heap au j := fun j => (fI_kept (oH1486 _ (G_ne gau gjp (by decide)))).trans (f1478 j)
  have f1513 : ∀ j : Nat, fI H1486 cu j = fI s.heap cu j := fun j => (fI_kept (oH1486 _ (G_ne gcu gjp (by decide)))).trans (f1479 j)
  have f1514 : ∀ j : Nat, fI H1486 du j = fI s.heap du j := fun j => (fI_kept (oH1486 _ (G_ne gdu gjp (by decide)))).trans (f1480 j)
  have f1515 : ∀ j : Nat, fI H1486 su j = fI s.heap su j := fun j => (fI_kept (oH1486 _ (G_ne gsu gjp (by decide)))).trans (f1481 j)
  have f1516 : ∀ j : Nat, j < 16 → fI H1486 wp j = fI s.heap wu j := fun j hj => (fI_kept (oH1486 _ (G_ne gwp gjp (by decide)))).trans (f1482 j hj)
  have f1517 : ∀ j : Nat, j < 16 → fI H1486 fp j = fI s.heap fu j := fun j hj => (fI_kept (oH1486 _ (G_ne gfp gjp (by decide)))).trans (cp1483 j hj)
  have cn_sc := i_cl (x := sc) (by omega)
  have cp1518 : ∀ j : Nat, j < 16 → fI H1486 jp j = fI s.heap ju j := fun j hj => by have c00 : (0 : Int32).toNatClampNeg = 0 := rfl; have c16 : (16 : Int32).toInt = 16 := rfl; have z := wH1486 j (by omega); rw [c00, Nat.zero_add] at z; exact z.trans (f1476 j)
  refine lv_aload_n hx hb dX7_copyFrom_53 rfl (lv_at hl 1 rfl) ?_
  refine x_gr C hTH1486 (ci := 7) (k := 4) rfl inX7 (by decide) wF_X7_21 ga1 rg_16 rfl dX7_copyFrom_54 (fun q1519 eq1519 gq1519 => ?_)
  have uq1519 : eu = q1519 := (m1498).trans eq1519.symm
  subst uq1519
  refine lv_iconst (v := 0) hx hb dX7_copyFrom_57 (by decide) ?_
  refine lv_aload_n hx hb dX7_copyFrom_58 rfl (lv_at hl 0 rfl) ?_
  refine x_gr C hTH1486 (ci := 7) (k := 4) rfl inX7 (by decide) wF_X7_21 ga0 rg_50 rfl dX7_copyFrom_59 (fun q1520 eq1520 gq1520 => ?_)
  have uq1520 : ep = q1520 := (m1490).trans eq1520.symm
  subst uq1520
  refine lv_iconst (v := 0) hx hb dX7_copyFrom_62 (by decide) ?_
  refine lv_bipush (v := 16) hx hb dX7_copyFrom_63 (by decide) ?_
  refine x_copy C hTH1486 hSH1486 wM_X7_44 wNT_arraycopy wST_arraycopy wIN_J10 geu gep rg_20 rg_54 (by decide) (by omega) (by omega) (by omega) (by show _ ≤ ((16 : Nat) : Int); omega) (by show _ ≤ ((16 : Nat) : Int); omega) (AE_in gep (by decide)) hl.1 (by decide) dX7_copyFrom_65 (fun H1521 locsH1521 hTH1521 hSH1521 zH1521 oH1521 vH1521 wH1521 => ?_)
  have m1522 := (m1487).trans (fR_kept (oH1521 _ (G_ne ga0 gep (by decide)))).symm
  have m1523 := (m1488).trans (fR_kept (oH1521 _ (G_ne ga0 gep (by decide)))).symm
  have m1524 := (m1489).trans (fR_kept (oH1521 _ (G_ne ga0 gep (by decide)))).symm
  have m1525 := (m1490).trans (fR_kept (oH1521 _ (G_ne ga0 gep (by decide)))).symm
  have m1526 := (m1491).trans (fR_kept (oH1521 _ (G_ne ga0 gep (by decide)))).symm
  have m1527 := (m1492).trans (fR_kept (oH1521 _ (G_ne ga0 gep (by decide)))).symm
  have m1528 := (m1493).trans (fR_kept (oH1521 _ (G_ne ga0 gep (by decide)))).symm
  have m1529 := (m1494).trans (fR_kept (oH1521 _ (G_ne ga0 gep (by decide)))).symm
  have m1530 := (m1495).trans (fR_kept (oH1521 _ (G_ne ga1 gep (by decide)))).symm
  have m1531 := (m1496).trans (fR_kept (oH1521 _ (G_ne ga1 gep (by decide)))).symm
  have m1532 := (m1497).trans (fR_kept (oH1521 _ (G_ne ga1 gep (by decide)))).symm
  have m1533 := (m1498).trans (fR_kept (oH1521 _ (G_ne ga1 gep (by decide)))).symm
  have m1534 := (m1499).trans (fR_kept (oH1521 _ (G_ne ga1 gep (by decide)))).symm
  have m1535 := (m1500).trans (fR_kept (oH1521 _ (G_ne ga1 gep (by decide)))).symm
  have m1536 := (m1501).trans (fR_kept (oH1521 _ (G_ne ga1 gep (by decide)))).symm
  have m1537 := (m1502).trans (fR_kept (oH1521 _ (G_ne ga1 gep (by decide)))).symm
  have m1538 := (m1503).trans (fI_kept (oH1521 _ (G_ne ga0 gep (by decide)))).symm
  have m1539 := (m1504).trans (fI_kept (oH1521 _ (G_ne ga1 gep (by decide)))).symm
  have m1540 := (m1505).trans (fI_kept (oH1521 _ (G_ne ga1 gep (by decide)))).symm
  have m1541 := (m1506).trans (fI_kept (oH1521 _ (G_ne ga0 gep (by decide)))).symm
  have f1542 : ∀ q t : Nat, G q = some t → q ≠ a0 → q ≠ wp → q ≠ fp → q ≠ jp → q ≠ ep → q ≠ ap → q ≠ cp → q ≠ dp → q ≠ sp → H1521[q]? = s.heap[q]? := (fun q t hq  n1 n2 n3 n4 n5 n6 n7 n8 n9 => (oH1521 _ n5).trans (f1507 q t hq  n1 n2 n3 n4 n5 n6 n7 n8 n9))
  have f1543 : ∀ j : Nat, fI H1521 wu j = fI s.heap wu j := fun j => (fI_kept (oH1521 _ (G_ne gwu gep (by decide)))).trans (f1508 j)
  have f1544 : ∀ j : Nat, fI H1521 fu j = fI s.heap fu j := fun j => (fI_kept (oH1521 _ (G_ne gfu gep (by decide)))).trans (f1509 j)
  have f1545 : ∀ j : Nat, fI H1521 ju j = fI s.heap ju j := fun j => (fI_kept (oH1521 _ (G_ne gju gep (by decide)))).trans (f1510 j)
  have f1546 : ∀ j : Nat, fI H1521 eu j = fI s.heap eu j := fun j => (fI_kept (oH1521 _ (G_ne geu gep (by decide)))).trans (f1511 j)
  have f1547 : ∀ j : Nat, fI H1521 au j = fI s.heap au j := fun j => (fI_kept (oH1521 _ (G_ne gau gep (by decide)))).trans (f1512 j)
  have f1548 : ∀ j : Nat, fI H1521 cu j = fI s.heap cu j := fun j => (fI_kept (oH1521 _ (G_ne gcu gep (by decide)))).trans (f1513 j)
  have f1549 : ∀ j : Nat, fI H1521 du j = fI s.heap du j := fun j => (fI_kept (oH1521 _ (G_ne gdu gep (by decide)))).trans (f1514 j)
  have f1550 : ∀ j : Nat, fI H1521 su j = fI s.heap su j := fun j => (fI_kept (oH1521 _ (G_ne gsu gep (by decide)))).trans (f1515 j)
  have f1551 : ∀ j : Nat, j < 16 → fI H1521 wp j = fI s.heap wu j := fun j hj => (fI_kept (oH1521 _ (G_ne gwp gep (by decide)))).trans (f1516 j hj)
  have f1552 : ∀ j : Nat, j < 16 → fI H1521 fp j = fI s.heap fu j := fun j hj => (fI_kept (oH1521 _ (G_ne gfp gep (by decide)))).trans (f1517 j hj)
  have f1553 : ∀ j : Nat, j < 16 → fI H1521 jp j = fI s.heap ju j := fun j hj => (fI_kept (oH1521 _ (G_ne gjp gep (by decide)))).trans (cp1518 j hj)
  have cn_sc := i_cl (x := sc) (by omega)
  have cp1554 : ∀ j : Nat, j < 16 → fI H1521 ep j = fI s.heap eu j := fun j hj => by have c00 : (0 : Int32).toNatClampNeg = 0 := rfl; have c16 : (16 : Int32).toInt = 16 := rfl; have z := wH1521 j (by omega); rw [c00, Nat.zero_add] at z; exact z.trans (f1511 j)
  refine lv_aload_n hx hb dX7_copyFrom_68 rfl (lv_at hl 1 rfl) ?_
  refine x_gr C hTH1521 (ci := 7) (k := 5) rfl inX7 (by decide) wF_X7_24 ga1 rg_16 rfl dX7_copyFrom_69 (fun q1555 eq1555 gq1555 => ?_)
  have uq1555 : au = q1555 := (m1534).trans eq1555.symm
  subst uq1555
  refine lv_iconst (v := 0) hx hb dX7_copyFrom_72 (by decide) ?_
  refine lv_aload_n hx hb dX7_copyFrom_73 rfl (lv_at hl 0 rfl) ?_
  refine x_gr C hTH1521 (ci := 7) (k := 5) rfl inX7 (by decide) wF_X7_24 ga0 rg_50 rfl dX7_copyFrom_74 (fun q1556 eq1556 gq1556 => ?_)
  have uq1556 : ap = q1556 := (m1526).trans eq1556.symm
  subst uq1556
  refine lv_iconst (v := 0) hx hb dX7_copyFrom_77 (by decide) ?_
  refine lv_bipush (v := 16) hx hb dX7_copyFrom_78 (by decide) ?_
  refine x_copy C hTH1521 hSH1521 wM_X7_44 wNT_arraycopy wST_arraycopy wIN_J10 gau gap rg_21 rg_55 (by decide) (by omega) (by omega) (by omega) (by show _ ≤ ((16 : Nat) : Int); omega) (by show _ ≤ ((16 : Nat) : Int); omega) (AE_in gap (by decide)) hl.1 (by decide) dX7_copyFrom_80 (fun H1557 locsH1557 hTH1557 hSH1557 zH1557 oH1557 vH1557 wH1557 => ?_)
  have m1558 := (m1522).trans (fR_kept (oH1557 _ (G_ne ga0 gap (by decide)))).symm
  have m1559 := (m1523).trans (fR_kept (oH1557 _ (G_ne ga0 gap (by decide)))).symm
  have m1560 := (m1524).trans (fR_kept (oH1557 _ (G_ne ga0 gap (by decide)))).symm
  have m1561 := (m1525).trans (fR_kept (oH1557 _ (G_ne ga0 gap (by decide)))).symm
  have m1562 := (m1526).trans (fR_kept (oH1557 _ (G_ne ga0 gap (by decide)))).symm
  have m1563 := (m1527).trans (fR_kept (oH1557 _ (G_ne ga0 gap (by decide)))).symm
  have m1564 := (m1528).trans (fR_kept (oH1557 _ (G_ne ga0 gap (by decide)))).symm
  have m1565 := (m1529).trans (fR_kept (oH1557 _ (G_ne ga0 gap (by decide)))).symm
  have m1566 := (m1530).trans (fR_kept (oH1557 _ (G_ne ga1 gap (by decide)))).symm
  have m1567 := (m1531).trans (fR_kept (oH1557 _ (G_ne ga1 gap (by decide)))).symm
  have m1568 := (m1532).trans (fR_kept (oH1557 _ (G_ne ga1 gap (by decide)))).symm
  have m1569 := (m1533).trans (fR_kept (oH1557 _ (G_ne ga1 gap (by decide)))).symm
  have m1570 := (m1534).trans (fR_kept (oH1557 _ (G_ne ga1 gap (by decide)))).symm
  have m1571 := (m1535).trans (fR_kept (oH1557 _ (G_ne ga1 gap (by decide)))).symm
  have m1572 := (m1536).trans (fR_kept (oH1557 _ (G_ne ga1 gap (by decide)))).symm
  have m1573 := (m1537).trans (fR_kept (oH1557 _ (G_ne ga1 gap (by decide)))).symm
  have m1574 := (m1538).trans (fI_kept (oH1557 _ (G_ne ga0 gap (by decide)))).symm
  have m1575 := (m1539).trans (fI_kept (oH1557 _ (G_ne ga1 gap (by decide)))).symm
  have m1576 := (m1540).trans (fI_kept (oH1557 _ (G_ne ga1 gap (by decide)))).symm
  have m1577 := (m1541).trans (fI_kept (oH1557 _ (G_ne ga0 gap (by decide)))).symm
  have f1578 : ∀ q t : Nat, G q = some t → q ≠ a0 → q ≠ wp → q ≠ fp → q ≠ jp → q ≠ ep → q ≠ ap → q ≠ cp → q ≠ dp → q ≠ sp → H1557[q]? = s.heap[q]? := (fun q t hq  n1 n2 n3 n4 n5 n6 n7 n8 n9 => (oH1557 _ n6).trans (f1542 q t hq  n1 n2 n3 n4 n5 n6 n7 n8 n9))
  have f1579 : ∀ j : Nat, fI H1557 wu j = fI s.heap wu j := fun j => (fI_kept (oH1557 _ (G_ne gwu gap (by decide)))).trans (f1543 j)
  have f1580 : ∀ j : Nat, fI H1557 fu j = fI s.heap fu j := fun j => (fI_kept (oH1557 _ (G_ne gfu gap (by decide)))).trans (f1544 j)
  have f1581 : ∀ j : Nat, fI H1557 ju j = fI s.heap ju j := fun j => (fI_kept (oH1557 _ (G_ne gju gap (by decide)))).trans (f1545 j)
  have f1582 : ∀ j : Nat, fI H1557 eu j = fI s.heap eu j := fun j => (fI_kept (oH1557 _ (G_ne geu gap (by decide)))).trans (f1546 j)
  have f1583 : ∀ j : Nat, fI H1557 au j = fI s.heap au j := fun j => (fI_kept (oH1557 _ (G_ne gau gap (by decide)))).trans (f1547 j)
  have f1584 : ∀ j : Nat, fI H1557 cu j = fI s.heap cu j := fun j => (fI_kept (oH1557 _ (G_ne gcu gap (by decide)))).trans (f1548 j)
  have f1585 : ∀ j : Nat, fI H1557 du j = fI s.heap du j := fun j => (fI_kept (oH1557 _ (G_ne gdu gap (by decide)))).trans (f1549 j)
  have f1586 : ∀ j : Nat, fI H1557 su j = fI s.heap su j := fun j => (fI_kept (oH1557 _ (G_ne gsu gap (by decide)))).trans (f1550 j)
  have f1587 : ∀ j : Nat, j < 16 → fI H1557 wp j = fI s.heap wu j := fun j hj => (fI_kept (oH1557 _ (G_ne gwp gap (by decide)))).trans (f1551 j hj)
  have f1588 : ∀ j : Nat, j < 16 → fI H1557 fp j = fI s.heap fu j := fun j hj => (fI_kept (oH1557 _ (G_ne gfp gap (by decide)))).trans (f1552 j hj)
  have f1589 : ∀ j : Nat, j < 16 → fI H1557 jp j = fI s.heap ju j := fun j hj => (fI_kept (oH1557 _ (G_ne gjp gap (by decide)))).trans (f1553 j hj)
  have f1590 : ∀ j : Nat, j < 16 → fI H1557 ep j = fI s.heap eu j := fun j hj => (fI_kept (oH1557 _ (G_ne gep gap (by decide)))).trans (cp1554 j hj)
  have cn_sc := i_cl (x := sc) (by omega)
  have cp1591 : ∀ j : Nat, j < 16 → fI H1557 ap j = fI s.heap au j := fun j hj => by have c00 : (0 : Int32).toNatClampNeg = 0 := rfl; have c16 : (16 : Int32).toInt = 16 := rfl; have z := wH1557 j (by omega); rw [c00, Nat.zero_add] at z; exact z.trans (f1547 j)
  refine lv_aload_n hx hb dX7_copyFrom_83 rfl (lv_at hl 1 rfl) ?_
  refine x_gr C hTH1557 (ci := 7) (k := 6) rfl inX7 (by decide) wF_X7_27 ga1 rg_16 rfl dX7_copyFrom_84 (fun q1592 eq1592 gq1592 => ?_)
  have uq1592 : cu = q1592 := (m1571).trans eq1592.symm
  subst uq1592
  refine lv_iconst (v := 0) hx hb dX7_copyFrom_87 (by decide) ?_
  refine lv_aload_n hx hb dX7_copyFrom_88 rfl (lv_at hl 0 rfl) ?_
  refine x_gr C hTH1557 (ci := 7) (k := 6) rfl inX7 (by decide) wF_X7_27 ga0 rg_50 rfl dX7_copyFrom_89 (fun q1593 eq1593 gq1593 => ?_)
  have uq1593 : cp = q1593 := (m1563).trans eq1593.symm
  subst uq1593
  refine lv_iconst (v := 0) hx hb dX7_copyFrom_92 (by decide) ?_
  refine lv_bipush (v := 16) hx hb dX7_copyFrom_93 (by decide) ?_
  refine x_copy C hTH1557 hSH1557 wM_X7_44 wNT_arraycopy wST_arraycopy wIN_J10 gcu gcp rg_22 rg_56 (by decide) (by omega) (by omega) (by omega) (by show _ ≤ ((16 : Nat) : Int); omega) (by show _ ≤ ((16 : Nat) : Int); omega) (AE_in gcp (by decide)) hl.1 (by decide) dX7_copyFrom_95 (fun H1594 locsH1594 hTH1594 hSH1594 zH1594 oH1594 vH1594 wH1594 => ?_)
  have m1595 := (m1558).trans (fR_kept (oH1594 _ (G_ne ga0 gcp (by decide)))).symm
  have m1596 := (m1559).trans (fR_kept (oH1594 _ (G_ne ga0 gcp (by decide)))).symm
  have m1597 := (m1560).trans (fR_kept (oH1594 _ (G_ne ga0 gcp (by decide)))).symm
  have m1598 := (m1561).trans (fR_kept (oH1594 _ (G_ne ga0 gcp (by decide)))).symm
  have m1599 := (m1562).trans (fR_kept (oH1594 _ (G_ne ga0 gcp (by decide)))).symm
  have m1600 := (m1563).trans (fR_kept (oH1594 _ (G_ne ga0 gcp (by decide)))).symm
  have m1601 := (m1564).trans (fR_kept (oH1594 _ (G_ne ga0 gcp (by decide)))).symm
  have m1602 := (m1565).trans (fR_kept (oH1594 _ (G_ne ga0 gcp (by decide)))).symm
  have m1603 := (m1566).trans (fR_kept (oH1594 _ (G_ne ga1 gcp (by decide)))).symm
  have m1604 := (m1567).trans (fR_kept (oH1594 _ (G_ne ga1 gcp (by decide)))).symm
  have m1605 := (m1568).trans (fR_kept (oH1594 _ (G_ne ga1 gcp (by decide)))).symm
  have m1606 := (m1569).trans (fR_kept (oH1594 _ (G_ne ga1 gcp (by decide)))).symm
  have m1607 := (m1570).trans (fR_kept (oH1594 _ (G_ne ga1 gcp (by decide)))).symm
  have m1608 := (m1571).trans (fR_kept (oH1594 _ (G_ne ga1 gcp (by decide)))).symm
  have m1609 := (m1572).trans (fR_kept (oH1594 _ (G_ne ga1 gcp (by decide)))).symm
  have m1610 := (m1573).trans (fR_kept (oH1594 _ (G_ne ga1 gcp (by decide)))).symm
  have m1611 := (m1574).trans (fI_kept (oH1594 _ (G_ne ga0 gcp (by decide)))).symm
  have m1612 := (m1575).trans (fI_kept (oH1594 _ (G_ne ga1 gcp (by decide)))).symm
  have m1613 := (m1576).trans (fI_kept (oH1594 _ (G_ne ga1 gcp (by decide)))).symm
  have m1614 := (m1577).trans (fI_kept (oH1594 _ (G_ne ga0 gcp (by decide)))).symm
  have f1615 : ∀ q t : Nat, G q = some t → q ≠ a0 → q ≠ wp → q ≠ fp → q ≠ jp → q ≠ ep → q ≠ ap → q ≠ cp → q ≠ dp → q ≠ sp → H1594[q]? = s.heap[q]? := (fun q t hq  n1 n2 n3 n4 n5 n6 n7 n8 n9 => (oH1594 _ n7).trans (f1578 q t hq  n1 n2 n3 n4 n5 n6 n7 n8 n9))
  have f1616 : ∀ j : Nat, fI H1594 wu j = fI s.heap wu j := fun j => (fI_kept (oH1594 _ (G_ne gwu gcp (by decide)))).trans (f1579 j)
  have f1617 : ∀ j : Nat, fI H1594 fu j = fI s.heap fu j := fun j => (fI_kept (oH1594 _ (G_ne gfu gcp (by decide)))).trans (f1580 j)
  have f1618 : ∀ j : Nat, fI H1594 ju j = fI s.heap ju j := fun j => (fI_kept (oH1594 _ (G_ne gju gcp (by decide)))).trans (f1581 j)
  have f1619 : ∀ j : Nat, fI H1594 eu j = fI s.heap eu j := fun j => (fI_kept (oH1594 _ (G_ne geu gcp (by decide)))).trans (f1582 j)
  have f1620 : ∀ j : Nat, fI H1594 au j = fI s.heap au j := fun j => (fI_kept (oH1594 _ (G_ne gau gcp (by decide)))).trans (f1583 j)
  have f1621 : ∀ j : Nat, fI H1594 cu j = fI s.heap cu j := fun j => (fI_kept (oH1594 _ (G_ne gcu gcp (by decide)))).trans (f1584 j)
  have f1622 : ∀ j : Nat, fI H1594 du j = fI s.heap du j := fun j => (fI_kept (oH1594 _ (G_ne gdu gcp (by decide)))).trans (f1585 j)
  have f1623 : ∀ j : Nat, fI H1594 su j = fI s.heap su j := fun j => (fI_kept (oH1594 _ (G_ne gsu gcp (by decide)))).trans (f1586 j)
  have f1624 : ∀ j : Nat, j < 16 → fI H1594 wp j = fI s.heap wu j := fun j hj => (fI_kept (oH1594 _ (G_ne gwp gcp (by decide)))).trans (f1587 j hj)
  have f1625 : ∀ j : Nat, j < 16 → fI H1594 fp j = fI s.heap fu j := fun j hj => (fI_kept (oH1594 _ (G_ne gfp gcp (by decide)))).trans (f1588 j hj)
  have f1626 : ∀ j : Nat, j < 16 → fI H1594 jp j = fI s.heap ju j := fun j hj => (fI_kept (oH1594 _ (G_ne gjp gcp (by decide)))).trans (f1589 j hj)
  have f1627 : ∀ j : Nat, j < 16 → fI H1594 ep j = fI s.heap eu j := fun j hj => (fI_kept (oH1594 _ (G_ne gep gcp (by decide)))).trans (f1590 j hj)
  have f1628 : ∀ j : Nat, j < 16 → fI H1594 ap j = fI s.heap au j := fun j hj => (fI_kept (oH1594 _ (G_ne gap gcp (by decide)))).trans (cp1591 j hj)
  have cn_sc := i_cl (x := sc) (by omega)
  have cp1629 : ∀ j : Nat, j < 16 → fI H1594 cp j = fI s.heap cu j := fun j hj => by have c00 : (0 : Int32).toNatClampNeg = 0 := rfl; have c16 : (16 : Int32).toInt = 16 := rfl; have z := wH1594 j (by omega); rw [c00, Nat.zero_add] at z; exact z.trans (f1584 j)
  refine lv_aload_n hx hb dX7_copyFrom_98 rfl (lv_at hl 1 rfl) ?_
  refine x_gr C hTH1594 (ci := 7) (k := 7) rfl inX7 (by decide) wF_X7_30 ga1 rg_16 rfl dX7_copyFrom_99 (fun q1630 eq1630 gq1630 => ?_)
  have uq1630 : du = q1630 := (m1609).trans eq1630.symm
  subst uq1630
  refine lv_iconst (v := 0) hx hb dX7_copyFrom_102 (by decide) ?_
  refine lv_aload_n hx hb dX7_copyFrom_103 rfl (lv_at hl 0 rfl) ?_
  refine x_gr C hTH1594 (ci := 7) (k := 7) rfl inX7 (by decide) wF_X7_30 ga0 rg_50 rfl dX7_copyFrom_104 (fun q1631 eq1631 gq1631 => ?_)
  have uq1631 : dp = q1631 := (m1601).trans eq1631.symm
  subst uq1631
  refine lv_iconst (v := 0) hx hb dX7_copyFrom_107 (by decide) ?_
  refine lv_bipush (v := 16) hx hb dX7_copyFrom_108 (by decide) ?_
  refine x_copy C hTH1594 hSH1594 wM_X7_44 wNT_arraycopy wST_arraycopy wIN_J10 gdu gdp rg_23 rg_57 (by decide) (by omega) (by omega) (by omega) (by show _ ≤ ((16 : Nat) : Int); omega) (by show _ ≤ ((16 : Nat) : Int); omega) (AE_in gdp (by decide)) hl.1 (by decide) dX7_copyFrom_110 (fun H1632 locsH1632 hTH1632 hSH1632 zH1632 oH1632 vH1632 wH1632 => ?_)
  have m1633 := (m1595).trans (fR_kept (oH1632 _ (G_ne ga0 gdp (by decide)))).symm
  have m1634 := (m1596).trans (fR_kept (oH1632 _ (G_ne ga0 gdp (by decide)))).symm
  have m1635 := (m1597).trans (fR_kept (oH1632 _ (G_ne ga0 gdp (by decide)))).symm
  have m1636 := (m1598).trans (fR_kept (oH1632 _ (G_ne ga0 gdp (by decide)))).symm
  have m1637 := (m1599).trans (fR_kept (oH1632 _ (G_ne ga0 gdp (by decide)))).symm
  have m1638 := (m1600).trans (fR_kept (oH1632 _ (G_ne ga0 gdp (by decide)))).symm
  have m1639 := (m1601).trans (fR_kept (oH1632 _ (G_ne ga0 gdp (by decide)))).symm
  have m1640 := (m1602).trans (fR_kept (oH1632 _ (G_ne ga0 gdp (by decide)))).symm
  have m1641 := (m1603).trans (fR_kept (oH1632 _ (G_ne ga1 gdp (by decide)))).symm
  have m1642 := (m1604).trans (fR_kept (oH1632 _ (G_ne ga1 gdp (by decide)))).symm
  have m1643 := (m1605).trans (fR_kept (oH1632 _ (G_ne ga1 gdp (by decide)))).symm
  have m1644 := (m1606).trans (fR_kept (oH1632 _ (G_ne ga1 gdp (by decide)))).symm
  have m1645 := (m1607).trans (fR_kept (oH1632 _ (G_ne ga1 gdp (by decide)))).symm
  have m1646 := (m1608).trans (fR_kept (oH1632 _ (G_ne ga1 gdp (by decide)))).symm
  have m1647 := (m1609).trans (fR_kept (oH1632 _ (G_ne ga1 gdp (by decide)))).symm
  have m1648 := (m1610).trans (fR_kept (oH1632 _ (G_ne ga1 gdp (by decide)))).symm
  have m1649 := (m1611).trans (fI_kept (oH1632 _ (G_ne ga0 gdp (by decide)))).symm
  have m1650 := (m1612).trans (fI_kept (oH1632 _ (G_ne ga1 gdp (by decide)))).symm
  have m1651 := (m1613).trans (fI_kept (oH1632 _ (G_ne ga1 gdp (by decide)))).symm
  have m1652 := (m1614).trans (fI_kept (oH1632 _ (G_ne ga0 gdp (by decide)))).symm
  have f1653 : ∀ q t : Nat, G q = some t → q ≠ a0 → q ≠ wp → q ≠ fp → q ≠ jp → q ≠ ep → q ≠ ap → q ≠ cp → q ≠ dp → q ≠ sp → H1632[q]? = s.heap[q]? := (fun q t hq  n1 n2 n3 n4 n5 n6 n7 n8 n9 => (oH1632 _ n8).trans (f1615 q t hq  n1 n2 n3 n4 n5 n6 n7 n8 n9))
  have f1654 : ∀ j : Nat, fI H1632 wu j = fI s.heap wu j := fun j => (fI_kept (oH1632 _ (G_ne gwu gdp (by decide)))).trans (f1616 j)
  have f1655 : ∀ j : Nat, fI H1632 fu j = fI s.heap fu j := fun j => (fI_kept (oH1632 _ (G_ne gfu gdp (by decide)))).trans (f1617 j)
  have f1656 : ∀ j : Nat, fI H1632 ju j = fI s.heap ju j := fun j => (fI_kept (oH1632 _ (G_ne gju gdp (by decide)))).trans (f1618 j)
  have f1657 : ∀ j : Nat, fI H1632 eu j = fI s.heap eu j := fun j => (fI_kept (oH1632 _ (G_ne geu gdp (by decide)))).trans (f1619 j)
  have f1658 : ∀ j : Nat, fI H1632 au j = fI s.heap au j := fun j => (fI_kept (oH1632 _ (G_ne gau gdp (by decide)))).trans (f1620 j)
  have f1659 : ∀ j : Nat, fI H1632 cu j = fI s.heap cu j := fun j => (fI_kept (oH1632 _ (G_ne gcu gdp (by decide)))).trans (f1621 j)
  have f1660 : ∀ j : Nat, fI H1632 du j = fI s.heap du j := fun j => (fI_kept (oH1632 _ (G_ne gdu gdp (by decide)))).trans (f1622 j)
  have f1661 : ∀ j : Nat, fI H1632 su j = fI s.heap su j := fun j => (fI_kept (oH1632 _ (G_ne gsu gdp (by decide)))).trans (f1623 j)
  have f1662 : ∀ j : Nat, j < 16 → fI H1632 wp j = fI s.heap wu j := fun j hj => (fI_kept (oH1632 _ (G_ne gwp gdp (by decide)))).trans (f1624 j hj)
  have f1663 : ∀ j : Nat, j < 16 → fI H1632 fp j = fI s.heap fu j := fun j hj => (fI_kept (oH1632 _ (G_ne gfp gdp (by decide)))).trans (f1625 j hj)
  have f1664 : ∀ j : Nat, j < 16 → fI H1632 jp j = fI s.heap ju j := fun j hj => (fI_kept (oH1632 _ (G_ne gjp gdp (by decide)))).trans (f1626 j hj)
  have f1665 : ∀ j : Nat, j < 16 → fI H1632 ep j = fI s.heap eu j := fun j hj => (fI_kept (oH1632 _ (G_ne gep gdp (by decide)))).trans (f1627 j hj)
  have f1666 : ∀ j : Nat, j < 16 → fI H1632 ap j = fI s.heap au j := fun j hj => (fI_kept (oH1632 _ (G_ne gap gdp (by decide)))).trans (f1628 j hj)
  have f1667 : ∀ j : Nat, j < 16 → fI H1632 cp j = fI s.heap cu j := fun j hj => (fI_kept (oH1632 _ (G_ne gcp gdp (by decide)))).trans (cp1629 j hj)
  have cn_sc := i_cl (x := sc) (by omega)
  have cp1668 : ∀ j : Nat, j < 16 → fI H1632 dp j = fI s.heap du j := fun j hj => by have c00 : (0 : Int32).toNatClampNeg = 0 := rfl; have c16 : (16 : Int32).toInt = 16 := rfl; have z := wH1632 j (by omega); rw [c00, Nat.zero_add] at z; exact z.trans (f1622 j)
  refine lv_aload_n hx hb dX7_copyFrom_113 rfl (lv_at hl 1 rfl) ?_
  refine x_gr C hTH1632 (ci := 7) (k := 8) rfl inX7 (by decide) wF_X7_33 ga1 rg_16 rfl dX7_copyFrom_114 (fun q1669 eq1669 gq1669 => ?_)
  have uq1669 : su = q1669 := (m1648).trans eq1669.symm
  subst uq1669
  refine lv_iconst (v := 0) hx hb dX7_copyFrom_117 (by decide) ?_
  refine lv_aload_n hx hb dX7_copyFrom_118 rfl (lv_at hl 0 rfl) ?_
  refine x_gr C hTH1632 (ci := 7) (k := 8) rfl inX7 (by decide) wF_X7_33 ga0 rg_50 rfl dX7_copyFrom_119 (fun q1670 eq1670 gq1670 => ?_)
  have uq1670 : sp = q1670 := (m1640).trans eq1670.symm
  subst uq1670
  refine lv_iconst (v := 0) hx hb dX7_copyFrom_122 (by decide) ?_
  refine lv_aload_n hx hb dX7_copyFrom_123 rfl (lv_at hl 1 rfl) ?_
  refine x_gi C hTH1632 (ci := 7) (k := 9) rfl inX7 (by decide) wF_X7_40 ga1 rg_16 rfl dX7_copyFrom_124 (fun x1671 ex1671 bx1671 => ?_)
  have ux1671 : sc = x1671 := (m1651).trans ex1671.symm
  subst ux1671
  refine x_copy C hTH1632 hSH1632 wM_X7_44 wNT_arraycopy wST_arraycopy wIN_J10 gsu gsp rg_24 rg_58 (by decide) (by omega) (by omega) (by omega) (by show _ ≤ ((500 : Nat) : Int); omega) (by show _ ≤ ((500 : Nat) : Int); omega) (AE_in gsp (by decide)) hl.1 (by decide) dX7_copyFrom_127 (fun H1672 locsH1672 hTH1672 hSH1672 zH1672 oH1672 vH1672 wH1672 => ?_)
  have m1673 := (m1633).trans (fR_kept (oH1672 _ (G_ne ga0 gsp (by decide)))).symm
  have m1674 := (m1634).trans (fR_kept (oH1672 _ (G_ne ga0 gsp (by decide)))).symm
  have m1675 := (m1635).trans (fR_kept (oH1672 _ (G_ne ga0 gsp (by decide)))).symm
  have m1676 := (m1636).trans (fR_kept (oH1672 _ (G_ne ga0 gsp (by decide)))).symm
  have m1677 := (m1637).trans (fR_kept (oH1672 _ (G_ne ga0 gsp (by decide)))).symm
  have m1678 := (m1638).trans (fR_kept (oH1672 _ (G_ne ga0 gsp (by decide)))).symm
  have m1679 := (m1639).trans (fR_kept (oH1672 _ (G_ne ga0 gsp (by decide)))).symm
  have m1680 := (m1640).trans (fR_kept (oH1672 _ (G_ne ga0 gsp (by decide)))).symm
  have m1681 := (m1641).trans (fR_kept (oH1672 _ (G_ne ga1 gsp (by decide)))).symm
  have m1682 := (m1642).trans (fR_kept (oH1672 _ (G_ne ga1 gsp (by decide)))).symm
  have m1683 := (m1643).trans (fR_kept (oH1672 _ (G_ne ga1 gsp (by decide)))).symm
  have m1684 := (m1644).trans (fR_kept (oH1672 _ (G_ne ga1 gsp (by decide)))).symm
  have m1685 := (m1645).trans (fR_kept (oH1672 _ (G_ne ga1 gsp (by decide)))).symm
  have m1686 := (m1646).trans (fR_kept (oH1672 _ (G_ne ga1 gsp (by decide)))).symm
  have m1687 := (m1647).trans (fR_kept (oH1672 _ (G_ne ga1 gsp (by decide)))).symm
  have m1688 := (m1648).trans (fR_kept (oH1672 _ (G_ne ga1 gsp (by decide)))).symm
  have m1689 := (m1649).trans (fI_kept (oH1672 _ (G_ne ga0 gsp (by decide)))).symm
  have m1690 := (m1650).trans (fI_kept (oH1672 _ (G_ne ga1 gsp (by decide)))).symm
  have m1691 := (m1651).trans (fI_kept (oH1672 _ (G_ne ga1 gsp (by decide)))).symm
  have m1692 := (m1652).trans (fI_kept (oH1672 _ (G_ne ga0 gsp (by decide)))).symm
  have f1693 : ∀ q t : Nat, G q = some t → q ≠ a0 → q ≠ wp → q ≠ fp → q ≠ jp → q ≠ ep → q ≠ ap → q ≠ cp → q ≠ dp → q ≠ sp → H1672[q]? = s.heap[q]? := (fun q t hq  n1 n2 n3 n4 n5 n6 n7 n8 n9 => (oH1672 _ n9).trans (f1653 q t hq  n1 n2 n3 n4 n5 n6 n7 n8 n9))
  have f1694 : ∀ j : Nat, fI H1672 wu j = fI s.heap wu j := fun j => (fI_kept (oH1672 _ (G_ne gwu gsp (by decide)))).trans (f1654 j)
  have f1695 : ∀ j : Nat, fI H1672 fu j = fI s.heap fu j := fun j => (fI_kept (oH1672 _ (G_ne gfu gsp (by decide)))).trans (f1655 j)
  have f1696 : ∀ j : Nat, fI H1672 ju j = fI s.heap ju j := fun j => (fI_kept (oH1672 _ (G_ne gju gsp (by decide)))).trans (f1656 j)
  have f1697 : ∀ j : Nat, fI H1672 eu j = fI s.heap eu j := fun j => (fI_kept (oH1672 _ (G_ne geu gsp (by decide)))).trans (f1657 j)
  have f1698 : ∀ j : Nat, fI H1672 au j = fI s.heap au j := fun j => (fI_kept (oH1672 _ (G_ne gau gsp (by decide)))).trans (f1658 j)
  have f1699 : ∀ j : Nat, fI H1672 cu j = fI s.heap cu j := fun j => (fI_kept (oH1672 _ (G_ne gcu gsp (by decide)))).trans (f1659 j)
  have f1700 : ∀ j : Nat, fI H1672 du j = fI s.heap du j := fun j => (fI_kept (oH1672 _ (G_ne gdu gsp (by decide)))).trans (f1660 j)
  have f1701 : ∀ j : Nat, fI H1672 su j = fI s.heap su j := fun j => (fI_kept (oH1672 _ (G_ne gsu gsp (by decide)))).trans (f1661 j)
  have f1702 : ∀ j : Nat, j < 16 → fI H1672 wp j = fI s.heap wu j := fun j hj => (fI_kept (oH1672 _ (G_ne gwp gsp (by decide)))).trans (f1662 j hj)
  have f1703 : ∀ j : Nat, j < 16 → fI H1672 fp j = fI s.heap fu j := fun j hj => (fI_kept (oH1672 _ (G_ne gfp gsp (by decide)))).trans (f1663 j hj)
  have f1704 : ∀ j : Nat, j < 16 → fI H1672 jp j = fI s.heap ju j := fun j hj => (fI_kept (oH1672 _ (G_ne gjp gsp (by decide)))).trans (f1664 j hj)
  have f1705 : ∀ j : Nat, j < 16 → fI H1672 ep j = fI s.heap eu j := fun j hj => (fI_kept (oH1672 _ (G_ne gep gsp (by decide)))).trans (f1665 j hj)
  have f1706 : ∀ j : Nat, j < 16 → fI H1672 ap j = fI s.heap au j := fun j hj => (fI_kept (oH1672 _ (G_ne gap gsp (by decide)))).trans (f1666 j hj)
  have f1707 : ∀ j : Nat, j < 16 → fI H1672 cp j = fI s.heap cu j := fun j hj => (fI_kept (oH1672 _ (G_ne gcp gsp (by decide)))).trans (f1667 j hj)
  have f1708 : ∀ j : Nat, j < 16 → fI H1672 dp j = fI s.heap du j := fun j hj => (fI_kept (oH1672 _ (G_ne gdp gsp (by decide)))).trans (cp1668 j hj)
  have cn_sc := i_cl (x := sc) (by omega)
  have cp1709 : ∀ j : Nat, j < sc.toNatClampNeg → fI H1672 sp j = fI s.heap su j := fun j hj => by have c00 : (0 : Int32).toNatClampNeg = 0 := rfl; have c16 : (16 : Int32).toInt = 16 := rfl; have z := wH1672 j (by omega); rw [c00, Nat.zero_add] at z; exact z.trans (f1661 j)
  refine lv_aload_n hx hb dX7_copyFrom_130 rfl (lv_at hl 0 rfl) ?_
  refine lv_aload_n hx hb dX7_copyFrom_131 rfl (lv_at hl 1 rfl) ?_
  refine x_gi C hTH1672 (ci := 7) (k := 9) rfl inX7 (by decide) wF_X7_40 ga1 rg_16 rfl dX7_copyFrom_132 (fun x1710 ex1710 bx1710 => ?_)
  have ux1710 : sc = x1710 := (m1691).trans ex1710.symm
  subst ux1710
  refine x_put C hTH1672 hSH1672 (ci := 7) (k := 9) (v := .int sc) (ty0 := tyX7) rfl inX7 tyX7_ok nmX7 (by decide) rfl wF_X7_40 ga0 rg_50 rfl rfl (okI (by have := i_rng sc; omega) (by have := i_rng sc; omega)) rfl rfl (AE_in ga0 (by decide)) dX7_copyFrom_135 (fun H1711 locsH1711 hTH1711 hSH1711 wH1711 => ?_)
  have f1712 : ∀ q t : Nat, G q = some t → q ≠ a0 → q ≠ wp → q ≠ fp → q ≠ jp → q ≠ ep → q ≠ ap → q ≠ cp → q ≠ dp → q ≠ sp → H1711[q]? = s.heap[q]? := (fun q t hq  n1 n2 n3 n4 n5 n6 n7 n8 n9 => (wH1711.off n1).trans (f1693 q t hq  n1 n2 n3 n4 n5 n6 n7 n8 n9))
  have f1713 : ∀ j : Nat, fI H1711 wu j = fI s.heap wu j := fun j => (Wr.neI wH1711 (Or.inl (G_ne gwu ga0 (by decide)))).trans (f1694 j)
  have f1714 : ∀ j : Nat, fI H1711 fu j = fI s.heap fu j := fun j => (Wr.neI wH1711 (Or.inl (G_ne gfu ga0 (by decide)))).trans (f1695 j)
  have f1715 : ∀ j : Nat, fI H1711 ju j = fI s.heap ju j := fun j => (Wr.neI wH1711 (Or.inl (G_ne gju ga0 (by decide)))).trans (f1696 j)
  have f1716 : ∀ j : Nat, fI H1711 eu j = fI s.heap eu j := fun j => (Wr.neI wH1711 (Or.inl (G_ne geu ga0 (by decide)))).trans (f1697 j)
  have f1717 : ∀ j : Nat, fI H1711 au j = fI s.heap au j := fun j => (Wr.neI wH1711 (Or.inl (G_ne gau ga0 (by decide)))).trans (f1698 j)
  have f1718 : ∀ j : Nat, fI H1711 cu j = fI s.heap cu j := fun j => (Wr.neI wH1711 (Or.inl (G_ne gcu ga0 (by decide)))).trans (f1699 j)
  have f1719 : ∀ j : Nat, fI H1711 du j = fI s.heap du j := fun j => (Wr.neI wH1711 (Or.inl (G_ne gdu ga0 (by decide)))).trans (f1700 j)
  have f1720 : ∀ j : Nat, fI H1711 su j = fI s.heap su j := fun j => (Wr.neI wH1711 (Or.inl (G_ne gsu ga0 (by decide)))).trans (f1701 j)
  have f1721 : ∀ j : Nat, j < 16 → fI H1711 wp j = fI s.heap wu j := fun j hj => (fI_kept (wH1711.off (G_ne gwp ga0 (by decide)))).trans (f1702 j hj)
  have f1722 : ∀ j : Nat, j < 16 → fI H1711 fp j = fI s.heap fu j := fun j hj => (fI_kept (wH1711.off (G_ne gfp ga0 (by decide)))).trans (f1703 j hj)
  have f1723 : ∀ j : Nat, j < 16 → fI H1711 jp j = fI s.heap ju j := fun j hj => (fI_kept (wH1711.off (G_ne gjp ga0 (by decide)))).trans (f1704 j hj)
  have f1724 : ∀ j : Nat, j < 16 → fI H1711 ep j = fI s.heap eu j := fun j hj => (fI_kept (wH1711.off (G_ne gep ga0 (by decide)))).trans (f1705 j hj)
  have f1725 : ∀ j : Nat, j < 16 → fI H1711 ap j = fI s.heap au j := fun j hj => (fI_kept (wH1711.off (G_ne gap ga0 (by decide)))).trans (f1706 j hj)
  have f1726 : ∀ j : Nat, j < 16 → fI H1711 cp j = fI s.heap cu j := fun j hj => (fI_kept (wH1711.off (G_ne gcp ga0 (by decide)))).trans (f1707 j hj)
  have f1727 : ∀ j : Nat, j < 16 → fI H1711 dp j = fI s.heap du j := fun j hj => (fI_kept (wH1711.off (G_ne gdp ga0 (by decide)))).trans (f1708 j hj)
  have f1728 : ∀ j : Nat, j < sc.toNatClampNeg → fI H1711 sp j = fI s.heap su j := fun j hj => (fI_kept (wH1711.off (G_ne gsp ga0 (by decide)))).trans (cp1709 j hj)
  have m1729 := m1673.trans (Wr.neR wH1711 (Or.inr (x_apart hKT hts inX7 tyX7 tyX7_ok nmX7 rfl 1 9 (by decide) (by decide) (by decide)))).symm
  have m1730 := m1674.trans (Wr.neR wH1711 (Or.inr (x_apart hKT hts inX7 tyX7 tyX7_ok nmX7 rfl 2 9 (by decide) (by decide) (by decide)))).symm
  have m1731 := m1675.trans (Wr.neR wH1711 (Or.inr (x_apart hKT hts inX7 tyX7 tyX7_ok nmX7 rfl 3 9 (by decide) (by decide) (by decide)))).symm
  have m1732 := m1676.trans (Wr.neR wH1711 (Or.inr (x_apart hKT hts inX7 tyX7 tyX7_ok nmX7 rfl 4 9 (by decide) (by decide) (by decide)))).symm
  have m1733 := m1677.trans (Wr.neR wH1711 (Or.inr (x_apart hKT hts inX7 tyX7 tyX7_ok nmX7 rfl 5 9 (by decide) (by decide) (by decide)))).symm
  have m1734 := m1678.trans (Wr.neR wH1711 (Or.inr (x_apart hKT hts inX7 tyX7 tyX7_ok nmX7 rfl 6 9 (by decide) (by decide) (by decide)))).symm
  have m1735 := m1679.trans (Wr.neR wH1711 (Or.inr (x_apart hKT hts inX7 tyX7 tyX7_ok nmX7 rfl 7 9 (by decide) (by decide) (by decide)))).symm
  have m1736 := m1680.trans (Wr.neR wH1711 (Or.inr (x_apart hKT hts inX7 tyX7 tyX7_ok nmX7 rfl 8 9 (by decide) (by decide) (by decide)))).symm
  have m1737 := m1681.trans (Wr.neR wH1711 (Or.inl (G_ne ga1 ga0 (by decide)))).symm
  have m1738 := m1682.trans (Wr.neR wH1711 (Or.inl (G_ne ga1 ga0 (by decide)))).symm
  have m1739 := m1683.trans (Wr.neR wH1711 (Or.inl (G_ne ga1 ga0 (by decide)))).symm
  have m1740 := m1684.trans (Wr.neR wH1711 (Or.inl (G_ne ga1 ga0 (by decide)))).symm
  have m1741 := m1685.trans (Wr.neR wH1711 (Or.inl (G_ne ga1 ga0 (by decide)))).symm
  have m1742 := m1686.trans (Wr.neR wH1711 (Or.inl (G_ne ga1 ga0 (by decide)))).symm
  have m1743 := m1687.trans (Wr.neR wH1711 (Or.inl (G_ne ga1 ga0 (by decide)))).symm
  have m1744 := m1688.trans (Wr.neR wH1711 (Or.inl (G_ne ga1 ga0 (by decide)))).symm
  have m1746 := m1690.trans (Wr.neI wH1711 (Or.inl (G_ne ga1 ga0 (by decide)))).symm
  have m1747 := m1691.trans (Wr.neI wH1711 (Or.inl (G_ne ga1 ga0 (by decide)))).symm
  have m1748 := m1692.trans (Wr.neI wH1711 (Or.inr (x_apart hKT hts inX7 tyX7 tyX7_ok nmX7 rfl 0 9 (by decide) (by decide) (by decide)))).symm
  have m1749 := Wr.I wH1711
  have m1749 := m1749.symm
  exact x_vret C hQ dX7_copyFrom_138 hSH1711 (by decide) (by decide) (⟨lm, sc, rfl, m1748, m1749, by omega, m1729, m1730, m1731, m1732, m1733, m1734, m1735, m1736, f1721, f1722, f1723, f1724, f1725, f1726, f1727, f1728, f1712, hTH1711⟩)

set_option maxHeartbeats 4000000 in
set_option maxRecDepth 100000 in
theorem a_X7_copyFrom_gn (l : Launch) (K : KE) (G : Nat → Option Nat) (H : Heap) {a0 : Nat} {a1 : Nat} {wp : Nat} {fp : Nat} {jp : Nat} {ep : Nat} {ap : Nat} {cp : Nat} {dp : Nat} {sp : Nat} {wu : Nat} {fu : Nat} {ju : Nat} {eu : Nat} {au : Nat} {cu : Nat} {du : Nat} {su : Nat} (lo : Int32) (so : Int32) (lm : Int32) (sc : Int32) (hT : TY K G H) (ga0 : G a0 = some 16) (ga1 : G a1 = some 50) (gwp : G wp = some 17) (ewp : wp = fR H a0 (K.1.2 7 1)) (gfp : G fp = some 18) (efp : fp = fR H a0 (K.1.2 7 2)) (gjp : G jp = some 19) (ejp : jp = fR H a0 (K.1.2 7 3)) (gep : G ep = some 20) (eep : ep = fR H a0 (K.1.2 7 4)) (gap : G ap = some 21) (eap : ap = fR H a0 (K.1.2 7 5)) (gcp : G cp = some 22) (ecp : cp = fR H a0 (K.1.2 7 6)) (gdp : G dp = some 23) (edp : dp = fR H a0 (K.1.2 7 7)) (gsp : G sp = some 24) (esp : sp = fR H a0 (K.1.2 7 8)) (gwu : G wu = some 51) (ewu : wu = fR H a1 (K.1.2 7 1)) (gfu : G fu = some 52) (efu : fu = fR H a1 (K.1.2 7 2)) (gju : G ju = some 53) (eju : ju = fR H a1 (K.1.2 7 3)) (geu : G eu = some 54) (eeu : eu = fR H a1 (K.1.2 7 4)) (gau : G au = some 55) (eau : au = fR H a1 (K.1.2 7 5)) (gcu : G cu = some 56) (ecu : cu = fR H a1 (K.1.2 7 6)) (gdu : G du = some 57) (edu : du = fR H a1 (K.1.2 7 7)) (gsu : G su = some 58) (esu : su = fR H a1 (K.1.2 7 8)) (elo : lo = fI H a0 (K.1.2 7 0)) (eso : so = fI H a0 (K.1.2 7 9)) (elm : lm = fI H a1 (K.1.2 7 0)) (esc : sc = fI H a1 (K.1.2 7 9)) : MX l K yX7_copyFrom cX7_copyFrom 2 none 1 40 0 0 [.ref a0, .ref a1] H (AE G [16, 17, 18, 19, 20, 21, 22, 23, 24] H.size) (fun v H1 => ∃ (t0 : Int32) (t1 : Int32), v = none ∧ t0 = fI H1 a0 (K.1.2 7 0) ∧ t1 = fI H1 a0 (K.1.2 7 9) ∧ (t0.toInt = lm.toInt ∧ t1.toInt = sc.toInt) ∧ wp = fR H1 a0 (K.1.2 7 1) ∧ fp = fR H1 a0 (K.1.2 7 2) ∧ jp = fR H1 a0 (K.1.2 7 3) ∧ ep = fR H1 a0 (K.1.2 7 4) ∧ ap = fR H1 a0 (K.1.2 7 5) ∧ cp = fR H1 a0 (K.1.2 7 6) ∧ dp = fR H1 a0 (K.1.2 7 7) ∧ sp = fR H1 a0 (K.1.2 7 8) ∧ (∀ j : Nat, j < 16 → fI H1 wp j = fI H wu j) ∧ (∀ j : Nat, j < 16 → fI H1 fp j = fI H fu j) ∧ (∀ j : Nat, j < 16 → fI H1 jp j = fI H ju j) ∧ (∀ j : Nat, j < 16 → fI H1 ep j = fI H eu j) ∧ (∀ j : Nat, j < 16 → fI H1 ap j = fI H au j) ∧ (∀ j : Nat, j < 16 → fI H1 cp j = fI H cu j) ∧ (∀ j : Nat, j < 16 → fI H1 dp j = fI H du j) ∧ (∀ j : Nat, j < sc.toNatClampNeg → fI H1 sp j = fI H su j) ∧ (∀ q t : Nat, G q = some t → q ≠ a0 → q ≠ wp → q ≠ fp → q ≠ jp → q ≠ ep → q ≠ ap → q ≠ cp → q ≠ dp → q ≠ sp → H1[q]? = H[q]?) ∧ TY K G H1) := by
  refine MX.of (by decide +kernel) (Nat.le_of_ble_eq_true rfl) ?_
  intro p e s m below meth c ls Q C hH hl hQ
  subst hH
  have C : CX p K s m _ meth c RX7 cX7_copyFrom 2 none "copyFrom" := C
  obtain ⟨hx, hb, hml, hown, hts, hKT, hr, hlocks, hnm⟩ := id C
  have hl : lv_has ls 2 [(0, .ref a0), (1, .ref a1)] := hl
  have hS : va_S (AE G [16, 17, 18, 19, 20, 21, 22, 23, 24] s.heap.size) s.heap s.heap [] := va_S.rf
  have n_0 : (0 : Int32).toInt = 0 := rfl
  have n_16 : (16 : Int32).toInt = 16 := rfl
  have blo := ty_fi (x := lo) (k := 0) elo hT ga0 rg_16 rfl
  have bso := ty_fi (x := so) (k := 9) eso hT ga0 rg_16 rfl
  have blm := ty_fi (x := lm) (k := 0) elm hT ga1 rg_50 rfl
  have bsc := ty_fi (x := sc) (k := 9) esc hT ga1 rg_50 rfl
  have f0_fx : ∀ q t : Nat, G q = some t → q ≠ a0 → q ≠ wp → q ≠ fp → q ≠ jp → q ≠ ep → q ≠ ap → q ≠ cp → q ≠ dp → q ≠ sp → s.heap[q]? = s.heap[q]? := fun _ _ _ _ _ _ _ _ _ _ _ _ => rfl
  have f0_swu : ∀ j : Nat, fI s.heap wu j = fI s.heap wu j := fun _ => rfl
  have f0_sfu : ∀ j : Nat, fI s.heap fu j = fI s.heap fu j := fun _ => rfl
  have f0_sju : ∀ j : Nat, fI s.heap ju j = fI s.heap ju j := fun _ => rfl
  have f0_seu : ∀ j : Nat, fI s.heap eu j = fI s.heap eu j := fun _ => rfl
  have f0_sau : ∀ j : Nat, fI s.heap au j = fI s.heap au j := fun _ => rfl
  have f0_scu : ∀ j : Nat, fI s.heap cu j = fI s.heap cu j := fun _ => rfl
  have f0_sdu : ∀ j : Nat, fI s.heap du j = fI s.heap du j := fun _ => rfl
  have f0_ssu : ∀ j : Nat, fI s.heap su j = fI s.heap su j := fun _ => rfl
  refine lv_aload_n hx hb dX7_copyFrom_0 rfl (lv_at hl 0 rfl) ?_
  refine lv_aload_n hx hb dX7_copyFrom_1 rfl (lv_at hl 1 rfl) ?_
  refine x_gi C hT (ci := 7) (k := 0) rfl inX7 (by decide) wF_X7_36 ga1 rg_50 rfl dX7_copyFrom_2 (fun x1385 ex1385 bx1385 => ?_)
  have ux1385 : lm = x1385 := (elm).trans ex1385.symm
  subst ux1385
  refine x_put C hT hS (ci := 7) (k := 0) (v := .int lm) (ty0 := tyX7) rfl inX7 tyX7_ok nmX7 (by decide) rfl wF_X7_36 ga0 rg_16 rfl rfl (okI (by have := i_rng lm; omega) (by have := i_rng lm; omega)) rfl rfl (AE_in ga0 (by decide)) dX7_copyFrom_5 (fun H1386 locsH1386 hTH1386 hSH1386 wH1386 => ?_)
  have f1387 : ∀ q t : Nat, G q = some t → q ≠ a0 → q ≠ wp → q ≠ fp → q ≠ jp → q ≠ ep → q ≠ ap → q ≠ cp → q ≠ dp → q ≠ sp → H1386[q]? = s.heap[q]? := (fun q t hq  n1 n2 n3 n4 n5 n6 n7 n8 n9 => (wH1386.off n1).trans (f0_fx q t hq  n1 n2 n3 n4 n5 n6 n7 n8 n9))
  have f1388 : ∀ j : Nat, fI H1386 wu j = fI s.heap wu j := fun j => (Wr.neI wH1386 (Or.inl (G_ne gwu ga0 (by decide)))).trans (f0_swu j)
  have f1389 : ∀ j : Nat, fI H1386 fu j = fI s.heap fu j := fun j => (Wr.neI wH1386 (Or.inl (G_ne gfu ga0 (by decide)))).trans (f0_sfu j)
  have f1390 : ∀ j : Nat, fI H1386 ju j = fI s.heap ju j := fun j => (Wr.neI wH1386 (Or.inl (G_ne gju ga0 (by decide)))).trans (f0_sju j)
  have f1391 : ∀ j : Nat, fI H1386 eu j = fI s.heap eu j := fun j => (Wr.neI wH1386 (Or.inl (G_ne geu ga0 (by decide)))).trans (f0_seu j)
  have f1392 : ∀ j : Nat, fI H1386 au j = fI s.heap au j := fun j => (Wr.neI wH1386 (Or.inl (G_ne gau ga0 (by decide)))).trans (f0_sau j)
  have f1393 : ∀ j : Nat, fI H1386 cu j = fI s.heap cu j := fun j => (Wr.neI wH1386 (Or.inl (G_ne gcu ga0 (by decide)))).trans (f0_scu j)
  have f1394 : ∀ j : Nat, fI H1386 du j = fI s.heap du j := fun j => (Wr.neI wH1386 (Or.inl (G_ne gdu ga0 (by decide)))).trans (f0_sdu j)
  have f1395 : ∀ j : Nat, fI H1386 su j = fI s.heap su j := fun j => (Wr.neI wH1386 (Or.inl (G_ne gsu ga0 (by decide)))).trans (f0_ssu j)
  have m1396 := ewp.trans (Wr.neR wH1386 (Or.inr (x_apart hKT hts inX7 tyX7 tyX7_ok nmX7 rfl 1 0 (by decide) (by decide) (by decide)))).symm
  have m1397 := efp.trans (Wr.neR wH1386 (Or.inr (x_apart hKT hts inX7 tyX7 tyX7_ok nmX7 rfl 2 0 (by decide) (by decide) (by decide)))).symm
  have m1398 := ejp.trans (Wr.neR wH1386 (Or.inr (x_apart hKT hts inX7 tyX7 tyX7_ok nmX7 rfl 3 0 (by decide) (by decide) (by decide)))).symm
  have m1399 := eep.trans (Wr.neR wH1386 (Or.inr (x_apart hKT hts inX7 tyX7 tyX7_ok nmX7 rfl 4 0 (by decide) (by decide) (by decide)))).symm
  have m1400 := eap.trans (Wr.neR wH1386 (Or.inr (x_apart hKT hts inX7 tyX7 tyX7_ok nmX7 rfl 5 0 (by decide) (by decide) (by decide)))).symm
  have m1401 := ecp.trans (Wr.neR wH1386 (Or.inr (x_apart hKT hts inX7 tyX7 tyX7_ok nmX7 rfl 6 0 (by decide) (by decide) (by decide)))).symm
  have m1402 := edp.trans (Wr.neR wH1386 (Or.inr (x_apart hKT hts inX7 tyX7 tyX7_ok nmX7 rfl 7 0 (by decide) (by decide) (by decide)))).symm
  have m1403 := esp.trans (Wr.neR wH1386 (Or.inr (x_apart hKT hts inX7 tyX7 tyX7_ok nmX7 rfl 8 0 (by decide) (by decide) (by decide)))).symm
  have m1404 := ewu.trans (Wr.neR wH1386 (Or.inl (G_ne ga1 ga0 (by decide)))).symm
  have m1405 := efu.trans (Wr.neR wH1386 (Or.inl (G_ne ga1 ga0 (by decide)))).symm
  have m1406 := eju.trans (Wr.neR wH1386 (Or.inl (G_ne ga1 ga0 (by decide)))).symm
  have m1407 := eeu.trans (Wr.neR wH1386 (Or.inl (G_ne ga1 ga0 (by decide)))).symm
  have m1408 := eau.trans (Wr.neR wH1386 (Or.inl (G_ne ga1 ga0 (by decide)))).symm
  have m1409 := ecu.trans (Wr.neR wH1386 (Or.inl (G_ne ga1 ga0 (by decide)))).symm
  have m1410 := edu.trans (Wr.neR wH1386 (Or.inl (G_ne ga1 ga0 (by decide)))).symm
  have m1411 := esu.trans (Wr.neR wH1386 (Or.inl (G_ne ga1 ga0 (by decide)))).symm
  have m1413 := eso.trans (Wr.neI wH1386 (Or.inr (x_apart hKT hts inX7 tyX7 tyX7_ok nmX7 rfl 9 0 (by decide) (by decide) (by decide)))).symm
  have m1414 := elm.trans (Wr.neI wH1386 (Or.inl (G_ne ga1 ga0 (by decide)))).symm
  have m1415 := esc.trans (Wr.neI wH1386 (Or.inl (G_ne ga1 ga0 (by decide)))).symm
  have m1416 := Wr.I wH1386
  have m1416 := m1416.symm
  refine lv_aload_n hx hb dX7_copyFrom_8 rfl (lv_at hl 1 rfl) ?_
  refine x_gr C hTH1386 (ci := 7) (k := 1) rfl inX7 (by decide) wF_X7_9 ga1 rg_50 rfl dX7_copyFrom_9 (fun q1417 eq1417 gq1417 => ?_)
  have uq1417 : wu = q1417 := (m1404).trans eq1417.symm
  subst uq1417
  refine lv_iconst (v := 0) hx hb dX7_copyFrom_12 (by decide) ?_
  refine lv_aload_n hx hb dX7_copyFrom_13 rfl (lv_at hl 0 rfl) ?_
  refine x_gr C hTH1386 (ci := 7) (k := 1) rfl inX7 (by decide) wF_X7_9 ga0 rg_16 rfl dX7_copyFrom_14 (fun q1418 eq1418 gq1418 => ?_)
  have uq1418 : wp = q1418 := (m1396).trans eq1418.symm
  subst uq1418
  refine lv_iconst (v := 0) hx hb dX7_copyFrom_17 (by decide) ?_
  refine lv_bipush (v := 16) hx hb dX7_copyFrom_18 (by decide) ?_
  refine x_copy C hTH1386 hSH1386 wM_X7_44 wNT_arraycopy wST_arraycopy wIN_J10 gwu gwp rg_51 rg_17 (by decide) (by omega) (by omega) (by omega) (by show _ ≤ ((16 : Nat) : Int); omega) (by show _ ≤ ((16 : Nat) : Int); omega) (AE_in gwp (by decide)) hl.1 (by decide) dX7_copyFrom_20 (fun H1419 locsH1419 hTH1419 hSH1419 zH1419 oH1419 vH1419 wH1419 => ?_)
  have m1420 := (m1396).trans (fR_kept (oH1419 _ (G_ne ga0 gwp (by decide)))).symm
  have m1421 := (m1397).trans (fR_kept (oH1419 _ (G_ne ga0 gwp (by decide)))).symm
  have m1422 := (m1398).trans (fR_kept (oH1419 _ (G_ne ga0 gwp (by decide)))).symm
  have m1423 := (m1399).trans (fR_kept (oH1419 _ (G_ne ga0 gwp (by decide)))).symm
  have m1424 := (m1400).trans (fR_kept (oH1419 _ (G_ne ga0 gwp (by decide)))).symm
  have m1425 := (m1401).trans (fR_kept (oH1419 _ (G_ne ga0 gwp (by decide)))).symm
  have m1426 := (m1402).trans (fR_kept (oH1419 _ (G_ne ga0 gwp (by decide)))).symm
  have m1427 := (m1403).trans (fR_kept (oH1419 _ (G_ne ga0 gwp (by decide)))).symm
  have m1428 := (m1404).trans (fR_kept (oH1419 _ (G_ne ga1 gwp (by decide)))).symm
  have m1429 := (m1405).trans (fR_kept (oH1419 _ (G_ne ga1 gwp (by decide)))).symm
  have m1430 := (m1406).trans (fR_kept (oH1419 _ (G_ne ga1 gwp (by decide)))).symm
  have m1431 := (m1407).trans (fR_kept (oH1419 _ (G_ne ga1 gwp (by decide)))).symm
  have m1432 := (m1408).trans (fR_kept (oH1419 _ (G_ne ga1 gwp (by decide)))).symm
  have m1433 := (m1409).trans (fR_kept (oH1419 _ (G_ne ga1 gwp (by decide)))).symm
  have m1434 := (m1410).trans (fR_kept (oH1419 _ (G_ne ga1 gwp (by decide)))).symm
  have m1435 := (m1411).trans (fR_kept (oH1419 _ (G_ne ga1 gwp (by decide)))).symm
  have m1436 := (m1413).trans (fI_kept (oH1419 _ (G_ne ga0 gwp (by decide)))).symm
  have m1437 := (m1414).trans (fI_kept (oH1419 _ (G_ne ga1 gwp (by decide)))).symm
  have m1438 := (m1415).trans (fI_kept (oH1419 _ (G_ne ga1 gwp (by decide)))).symm
  have m1439 := (m1416).trans (fI_kept (oH1419 _ (G_ne ga0 gwp (by decide)))).symm
  have f1440 : ∀ q t : Nat, G q = some t → q ≠ a0 → q ≠ wp → q ≠ fp → q ≠ jp → q ≠ ep → q ≠ ap → q ≠ cp → q ≠ dp → q ≠ sp → H1419[q]? = s.heap[q]? := (fun q t hq  n1 n2 n3 n4 n5 n6 n7 n8 n9 => (oH1419 _ n2).trans (f1387 q t hq  n1 n2 n3 n4 n5 n6 n7 n8 n9))
  have f1441 : ∀ j : Nat, fI H1419 wu j = fI s.heap wu j := fun j => (fI_kept (oH1419 _ (G_ne gwu gwp (by decide)))).trans (f1388 j)
  have f1442 : ∀ j : Nat, fI H1419 fu j = fI s.heap fu j := fun j => (fI_kept (oH1419 _ (G_ne gfu gwp (by decide)))).trans (f1389 j)
  have f1443 : ∀ j : Nat, fI H1419 ju j = fI s.heap ju j := fun j => (fI_kept (oH1419 _ (G_ne gju gwp (by decide)))).trans (f1390 j)
  have f1444 : ∀ j : Nat, fI H1419 eu j = fI s.heap eu j := fun j => (fI_kept (oH1419 _ (G_ne geu gwp (by decide)))).trans (f1391 j)
  have f1445 : ∀ j : Nat, fI H1419 au j = fI s.heap au j := fun j => (fI_kept (oH1419 _ (G_ne gau gwp (by decide)))).trans (f1392 j)
  have f1446 : ∀ j : Nat, fI H1419 cu j = fI s.heap cu j := fun j => (fI_kept (oH1419 _ (G_ne gcu gwp (by decide)))).trans (f1393 j)
  have f1447 : ∀ j : Nat, fI H1419 du j = fI s.heap du j := fun j => (fI_kept (oH1419 _ (G_ne gdu gwp (by decide)))).trans (f1394 j)
  have f1448 : ∀ j : Nat, fI H1419 su j = fI s.heap su j := fun j => (fI_kept (oH1419 _ (G_ne gsu gwp (by decide)))).trans (f1395 j)
  have cn_sc := i_cl (x := sc) (by omega)
  have cp1449 : ∀ j : Nat, j < 16 → fI H1419 wp j = fI s.heap wu j := fun j hj => by have c00 : (0 : Int32).toNatClampNeg = 0 := rfl; have c16 : (16 : Int32).toInt = 16 := rfl; have z := wH1419 j (by omega); rw [c00, Nat.zero_add] at z; exact z.trans (f1388 j)
  refine lv_aload_n hx hb dX7_copyFrom_23 rfl (lv_at hl 1 rfl) ?_
  refine x_gr C hTH1419 (ci := 7) (k := 2) rfl inX7 (by decide) wF_X7_15 ga1 rg_50 rfl dX7_copyFrom_24 (fun q1450 eq1450 gq1450 => ?_)
  have uq1450 : fu = q1450 := (m1429).trans eq1450.symm
  subst uq1450
  refine lv_iconst (v := 0) hx hb dX7_copyFrom_27 (by decide) ?_
  refine lv_aload_n hx hb dX7_copyFrom_28 rfl (lv_at hl 0 rfl) ?_
  refine x_gr C hTH1419 (ci := 7) (k := 2) rfl inX7 (by decide) wF_X7_15 ga0 rg_16 rfl dX7_copyFrom_29 (fun q1451 eq1451 gq1451 => ?_)
  have uq1451 : fp = q1451 := (m1421).trans eq1451.symm
  subst uq1451
  refine lv_iconst (v := 0) hx hb dX7_copyFrom_32 (by decide) ?_
  refine lv_bipush (v := 16) hx hb dX7_copyFrom_33 (by decide) ?_
  refine x_copy C hTH1419 hSH1419 wM_X7_44 wNT_arraycopy wST_arraycopy wIN_J10 gfu gfp rg_52 rg_18 (by decide) (by omega) (by omega) (by omega) (by show _ ≤ ((16 : Nat) : Int); omega) (by show _ ≤ ((16 : Nat) : Int); omega) (AE_in gfp (by decide)) hl.1 (by decide) dX7_copyFrom_35 (fun H1452 locsH1452 hTH1452 hSH1452 zH1452 oH1452 vH1452 wH1452 => ?_)
  have m1453 := (m1420).trans (fR_kept (oH1452 _ (G_ne ga0 gfp (by decide)))).symm
  have m1454 := (m1421).trans (fR_kept (oH1452 _ (G_ne ga0 gfp (by decide)))).symm
  have m1455 := (m1422).trans (fR_kept (oH1452 _ (G_ne ga0 gfp (by decide)))).symm
  have m1456 := (m1423).trans (fR_kept (oH1452 _ (G_ne ga0 gfp (by decide)))).symm
  have m1457 := (m1424).trans (fR_kept (oH1452 _ (G_ne ga0 gfp (by decide)))).symm
  have m1458 := (m1425).trans (fR_kept (oH1452 _ (G_ne ga0 gfp (by decide)))).symm
  have m1459 := (m1426).trans (fR_kept (oH1452 _ (G_ne ga0 gfp (by decide)))).symm
  have m1460 := (m1427).trans (fR_kept (oH1452 _ (G_ne ga0 gfp (by decide)))).symm
  have m1461 := (m1428).trans (fR_kept (oH1452 _ (G_ne ga1 gfp (by decide)))).symm
  have m1462 := (m1429).trans (fR_kept (oH1452 _ (G_ne ga1 gfp (by decide)))).symm
  have m1463 := (m1430).trans (fR_kept (oH1452 _ (G_ne ga1 gfp (by decide)))).symm
  have m1464 := (m1431).trans (fR_kept (oH1452 _ (G_ne ga1 gfp (by decide)))).symm
  have m1465 := (m1432).trans (fR_kept (oH1452 _ (G_ne ga1 gfp (by decide)))).symm
  have m1466 := (m1433).trans (fR_kept (oH1452 _ (G_ne ga1 gfp (by decide)))).symm
  have m1467 := (m1434).trans (fR_kept (oH1452 _ (G_ne ga1 gfp (by decide)))).symm
  have m1468 := (m1435).trans (fR_kept (oH1452 _ (G_ne ga1 gfp (by decide)))).symm
  have m1469 := (m1436).trans (fI_kept (oH1452 _ (G_ne ga0 gfp (by decide)))).symm
  have m1470 := (m1437).trans (fI_kept (oH1452 _ (G_ne ga1 gfp (by decide)))).symm
  have m1471 := (m1438).trans (fI_kept (oH1452 _ (G_ne ga1 gfp (by decide)))).symm
  have m1472 := (m1439).trans (fI_kept (oH1452 _ (G_ne ga0 gfp (by decide)))).symm
  have f1473 : ∀ q t : Nat, G q = some t → q ≠ a0 → q ≠ wp → q ≠ fp → q ≠ jp → q ≠ ep → q ≠ ap → q ≠ cp → q ≠ dp → q ≠ sp → H1452[q]? = s.heap[q]? := (fun q t hq  n1 n2 n3 n4 n5 n6 n7 n8 n9 => (oH1452 _ n3).trans (f1440 q t hq  n1 n2 n3 n4 n5 n6 n7 n8 n9))
  have f1474 : ∀ j : Nat, fI H1452 wu j = fI s.heap wu j := fun j => (fI_kept (oH1452 _ (G_ne gwu gfp (by decide)))).trans (f1441 j)
  have f1475 : ∀ j : Nat, fI H1452 fu j = fI s.heap fu j := fun j => (fI_kept (oH1452 _ (G_ne gfu gfp (by decide)))).trans (f1442 j)
  have f1476 : ∀ j : Nat, fI H1452 ju j = fI s.heap ju j := fun j => (fI_kept (oH1452 _ (G_ne gju gfp (by decide)))).trans (f1443 j)
  have f1477 : ∀ j : Nat, fI H1452 eu j = fI s.heap eu j := fun j => (fI_kept (oH1452 _ (G_ne geu gfp (by decide)))).trans (f1444 j)
  have f1478 : ∀ j : Nat, fI H1452 au j = fI s.heap au j := fun j => (fI_kept (oH1452 _ (G_ne gau gfp (by decide)))).trans (f1445 j)
  have f1479 : ∀ j : Nat, fI H1452 cu j = fI s.heap cu j := fun j => (fI_kept (oH1452 _ (G_ne gcu gfp (by decide)))).trans (f1446 j)
  have f1480 : ∀ j : Nat, fI H1452 du j = fI s.heap du j := fun j => (fI_kept (oH1452 _ (G_ne gdu gfp (by decide)))).trans (f1447 j)
  have f1481 : ∀ j : Nat, fI H1452 su j = fI s.heap su j := fun j => (fI_kept (oH1452 _ (G_ne gsu gfp (by decide)))).trans (f1448 j)
  have f1482 : ∀ j : Nat, j < 16 → fI H1452 wp j = fI s.heap wu j := fun j hj => (fI_kept (oH1452 _ (G_ne gwp gfp (by decide)))).trans (cp1449 j hj)
  have cn_sc := i_cl (x := sc) (by omega)
  have cp1483 : ∀ j : Nat, j < 16 → fI H1452 fp j = fI s.heap fu j := fun j hj => by have c00 : (0 : Int32).toNatClampNeg = 0 := rfl; have c16 : (16 : Int32).toInt = 16 := rfl; have z := wH1452 j (by omega); rw [c00, Nat.zero_add] at z; exact z.trans (f1442 j)
  refine lv_aload_n hx hb dX7_copyFrom_38 rfl (lv_at hl 1 rfl) ?_
  refine x_gr C hTH1452 (ci := 7) (k := 3) rfl inX7 (by decide) wF_X7_18 ga1 rg_50 rfl dX7_copyFrom_39 (fun q1484 eq1484 gq1484 => ?_)
  have uq1484 : ju = q1484 := (m1463).trans eq1484.symm
  subst uq1484
  refine lv_iconst (v := 0) hx hb dX7_copyFrom_42 (by decide) ?_
  refine lv_aload_n hx hb dX7_copyFrom_43 rfl (lv_at hl 0 rfl) ?_
  refine x_gr C hTH1452 (ci := 7) (k := 3) rfl inX7 (by decide) wF_X7_18 ga0 rg_16 rfl dX7_copyFrom_44 (fun q1485 eq1485 gq1485 => ?_)
  have uq1485 : jp = q1485 := (m1455).trans eq1485.symm
  subst uq1485
  refine lv_iconst (v := 0) hx hb dX7_copyFrom_47 (by decide) ?_
  refine lv_bipush (v := 16) hx hb dX7_copyFrom_48 (by decide) ?_
  refine x_copy C hTH1452 hSH1452 wM_X7_44 wNT_arraycopy wST_arraycopy wIN_J10 gju gjp rg_53 rg_19 (by decide) (by omega) (by omega) (by omega) (by show _ ≤ ((16 : Nat) : Int); omega) (by show _ ≤ ((16 : Nat) : Int); omega) (AE_in gjp (by decide)) hl.1 (by decide) dX7_copyFrom_50 (fun H1486 locsH1486 hTH1486 hSH1486 zH1486 oH1486 vH1486 wH1486 => ?_)
  have m1487 := (m1453).trans (fR_kept (oH1486 _ (G_ne ga0 gjp (by decide)))).symm
  have m1488 := (m1454).trans (fR_kept (oH1486 _ (G_ne ga0 gjp (by decide)))).symm
  have m1489 := (m1455).trans (fR_kept (oH1486 _ (G_ne ga0 gjp (by decide)))).symm
  have m1490 := (m1456).trans (fR_kept (oH1486 _ (G_ne ga0 gjp (by decide)))).symm
  have m1491 := (m1457).trans (fR_kept (oH1486 _ (G_ne ga0 gjp (by decide)))).symm
  have m1492 := (m1458).trans (fR_kept (oH1486 _ (G_ne ga0 gjp (by decide)))).symm
  have m1493 := (m1459).trans (fR_kept (oH1486 _ (G_ne ga0 gjp (by decide)))).symm
  have m1494 := (m1460).trans (fR_kept (oH1486 _ (G_ne ga0 gjp (by decide)))).symm
  have m1495 := (m1461).trans (fR_kept (oH1486 _ (G_ne ga1 gjp (by decide)))).symm
  have m1496 := (m1462).trans (fR_kept (oH1486 _ (G_ne ga1 gjp (by decide)))).symm
  have m1497 := (m1463).trans (fR_kept (oH1486 _ (G_ne ga1 gjp (by decide)))).symm
  have m1498 := (m1464).trans (fR_kept (oH1486 _ (G_ne ga1 gjp (by decide)))).symm
  have m1499 := (m1465).trans (fR_kept (oH1486 _ (G_ne ga1 gjp (by decide)))).symm
  have m1500 := (m1466).trans (fR_kept (oH1486 _ (G_ne ga1 gjp (by decide)))).symm
  have m1501 := (m1467).trans (fR_kept (oH1486 _ (G_ne ga1 gjp (by decide)))).symm
  have m1502 := (m1468).trans (fR_kept (oH1486 _ (G_ne ga1 gjp (by decide)))).symm
  have m1503 := (m1469).trans (fI_kept (oH1486 _ (G_ne ga0 gjp (by decide)))).symm
  have m1504 := (m1470).trans (fI_kept (oH1486 _ (G_ne ga1 gjp (by decide)))).symm
  have m1505 := (m1471).trans (fI_kept (oH1486 _ (G_ne ga1 gjp (by decide)))).symm
  have m1506 := (m1472).trans (fI_kept (oH1486 _ (G_ne ga0 gjp (by decide)))).symm
  have f1507 : ∀ q t : Nat, G q = some t → q ≠ a0 → q ≠ wp → q ≠ fp → q ≠ jp → q ≠ ep → q ≠ ap → q ≠ cp → q ≠ dp → q ≠ sp → H1486[q]? = s.heap[q]? := (fun q t hq  n1 n2 n3 n4 n5 n6 n7 n8 n9 => (oH1486 _ n4).trans (f1473 q t hq  n1 n2 n3 n4 n5 n6 n7 n8 n9))
  have f1508 : ∀ j : Nat, fI H1486 wu j = fI s.heap wu j := fun j => (fI_kept (oH1486 _ (G_ne gwu gjp (by decide)))).trans (f1474 j)
  have f1509 : ∀ j : Nat, fI H1486 fu j = fI s.heap fu j := fun j => (fI_kept (oH1486 _ (G_ne gfu gjp (by decide)))).trans (f1475 j)
  have f1510 : ∀ j : Nat, fI H1486 ju j = fI s.heap ju j := fun j => (fI_kept (oH1486 _ (G_ne gju gjp (by decide)))).trans (f1476 j)
  have f1511 : ∀ j : Nat, fI H1486 eu j = fI s.heap eu j := fun j => (fI_kept (oH1486 _ (G_ne geu gjp (by decide)))).trans (f1477 j)
  have f1512 : ∀ j : Nat, fI H1486 au j = fI s.heap au j := fun j => (fI_kept (oH1486 _ (G_ne gau gjp (by decide)))).trans (f1478 j)
  have f1513 : ∀ j : Nat, fI H1486 cu j = fI s.heap cu j := fun j => (fI_kept (oH1486 _ (G_ne gcu gjp (by decide)))).trans (f1479 j)
  have f1514 : ∀ j : Nat, fI H1486 du j = fI s.heap du j := fun j => (fI_kept (oH1486 _ (G_ne gdu gjp (by decide)))).trans (f1480 j)
  have f1515 : ∀ j : Nat, fI H1486 su j = fI s.heap su j := fun j => (fI_kept (oH1486 _ (G_ne gsu gjp (by decide)))).trans (f1481 j)
  have f1516 : ∀ j : Nat, j < 16 → fI H1486 wp j = fI s.heap wu j := fun j hj => (fI_kept (oH1486 _ (G_ne gwp gjp (by decide)))).trans (f1482 j hj)
  have f1517 : ∀ j : Nat, j < 16 → fI H1486 fp j = fI s.heap fu j := fun j hj => (fI_kept (oH1486 _ (G_ne gfp gjp (by decide)))).trans (cp1483 j hj)
  have cn_sc := i_cl (x := sc) (by omega)
  have cp1518 : ∀ j : Nat, j < 16 → fI H1486 jp j = fI s.heap ju j := fun j hj => by have c00 : (0 : Int32).toNatClampNeg = 0 := rfl; have c16 : (16 : Int32).toInt = 16 := rfl; have z := wH1486 j (by omega); rw [c00, Nat.zero_add] at z; exact z.trans (f1476 j)
  refine lv_aload_n hx hb dX7_copyFrom_53 rfl (lv_at hl 1 rfl) ?_
  refine x_gr C hTH1486 (ci := 7) (k := 4) rfl inX7 (by decide) wF_X7_21 ga1 rg_50 rfl dX7_copyFrom_54 (fun q1519 eq1519 gq1519 => ?_)
  have uq1519 : eu = q1519 := (m1498).trans eq1519.symm
  subst uq1519
  refine lv_iconst (v := 0) hx hb dX7_copyFrom_57 (by decide) ?_
  refine lv_aload_n hx hb dX7_copyFrom_58 rfl (lv_at hl 0 rfl) ?_
  refine x_gr C hTH1486 (ci := 7) (k := 4) rfl inX7 (by decide) wF_X7_21 ga0 rg_16 rfl dX7_copyFrom_59 (fun q1520 eq1520 gq1520 => ?_)
  have uq1520 : ep = q1520 := (m1490).trans eq1520.symm
  subst uq1520
  refine lv_iconst (v := 0) hx hb dX7_copyFrom_62 (by decide) ?_
  refine lv_bipush (v := 16) hx hb dX7_copyFrom_63 (by decide) ?_
  refine x_copy C hTH1486 hSH1486 wM_X7_44 wNT_arraycopy wST_arraycopy wIN_J10 geu gep rg_54 rg_20 (by decide) (by omega) (by omega) (by omega) (by show _ ≤ ((16 : Nat) : Int); omega) (by show _ ≤ ((16 : Nat) : Int); omega) (AE_in gep (by decide)) hl.1 (by decide) dX7_copyFrom_65 (fun H1521 locsH1521 hTH1521 hSH1521 zH1521 oH1521 vH1521 wH1521 => ?_)
  have m1522 := (m1487).trans (fR_kept (oH1521 _ (G_ne ga0 gep (by decide)))).symm
  have m1523 := (m1488).trans (fR_kept (oH1521 _ (G_ne ga0 gep (by decide)))).symm
  have m1524 := (m1489).trans (fR_kept (oH1521 _ (G_ne ga0 gep (by decide)))).symm
  have m1525 := (m1490).trans (fR_kept (oH1521 _ (G_ne ga0 gep (by decide)))).symm
  have m1526 := (m1491).trans (fR_kept (oH1521 _ (G_ne ga0 gep (by decide)))).symm
  have m1527 := (m1492).trans (fR_kept (oH1521 _ (G_ne ga0 gep (by decide)))).symm
  have m1528 := (m1493).trans (fR_kept (oH1521 _ (G_ne ga0 gep (by decide)))).symm
  have m1529 := (m1494).trans (fR_kept (oH1521 _ (G_ne ga0 gep (by decide)))).symm
  have m1530 := (m1495).trans (fR_kept (oH1521 _ (G_ne ga1 gep (by decide)))).symm
  have m1531 := (m1496).trans (fR_kept (oH1521 _ (G_ne ga1 gep (by decide)))).symm
  have m1532 := (m1497).trans (fR_kept (oH1521 _ (G_ne ga1 gep (by decide)))).symm
  have m1533 := (m1498).trans (fR_kept (oH1521 _ (G_ne ga1 gep (by decide)))).symm
  have m1534 := (m1499).trans (fR_kept (oH1521 _ (G_ne ga1 gep (by decide)))).symm
  have m1535 := (m1500).trans (fR_kept (oH1521 _ (G_ne ga1 gep (by decide)))).symm
  have m1536 := (m1501).trans (fR_kept (oH1521 _ (G_ne ga1 gep (by decide)))).symm
  have m1537 := (m1502).trans (fR_kept (oH1521 _ (G_ne ga1 gep (by decide)))).symm
  have m1538 := (m1503).trans (fI_kept (oH1521 _ (G_ne ga0 gep (by decide)))).symm
  have m1539 := (m1504).trans (fI_kept (oH1521 _ (G_ne ga1 gep (by decide)))).symm
  have m1540 := (m1505).trans (fI_kept (oH1521 _ (G_ne ga1 gep (by decide)))).symm
  have m1541 := (m1506).trans (fI_kept (oH1521 _ (G_ne ga0 gep (by decide)))).symm
  have f1542 : ∀ q t : Nat, G q = some t → q ≠ a0 → q ≠ wp → q ≠ fp → q ≠ jp → q ≠ ep → q ≠ ap → q ≠ cp → q ≠ dp → q ≠ sp → H1521[q]? = s.heap[q]? := (fun q t hq  n1 n2 n3 n4 n5 n6 n7 n8 n9 => (oH1521 _ n5).trans (f1507 q t hq  n1 n2 n3 n4 n5 n6 n7 n8 n9))
  have f1543 : ∀ j : Nat, fI H1521 wu j = fI s.heap wu j := fun j => (fI_kept (oH1521 _ (G_ne gwu gep (by decide)))).trans (f1508 j)
  have f1544 : ∀ j : Nat, fI H1521 fu j = fI s.heap fu j := fun j => (fI_kept (oH1521 _ (G_ne gfu gep (by decide)))).trans (f1509 j)
  have f1545 : ∀ j : Nat, fI H1521 ju j = fI s.heap ju j := fun j => (fI_kept (oH1521 _ (G_ne gju gep (by decide)))).trans (f1510 j)
  have f1546 : ∀ j : Nat, fI H1521 eu j = fI s.heap eu j := fun j => (fI_kept (oH1521 _ (G_ne geu gep (by decide)))).trans (f1511 j)
  have f1547 : ∀ j : Nat, fI H1521 au j = fI s.heap au j := fun j => (fI_kept (oH1521 _ (G_ne gau gep (by decide)))).trans (f1512 j)
  have f1548 : ∀ j : Nat, fI H1521 cu j = fI s.heap cu j := fun j => (fI_kept (oH1521 _ (G_ne gcu gep (by decide)))).trans (f1513 j)
  have f1549 : ∀ j : Nat, fI H1521 du j = fI s.heap du j := fun j => (fI_kept (oH1521 _ (G_ne gdu gep (by decide)))).trans (f1514 j)
  have f1550 : ∀ j : Nat, fI H1521 su j = fI s.heap su j := fun j => (fI_kept (oH1521 _ (G_ne gsu gep (by decide)))).trans (f1515 j)
  have f1551 : ∀ j : Nat, j < 16 → fI H1521 wp j = fI s.heap wu j := fun j hj => (fI_kept (oH1521 _ (G_ne gwp gep (by decide)))).trans (f1516 j hj)
  have f1552 : ∀ j : Nat, j < 16 → fI H1521 fp j = fI s.heap fu j := fun j hj => (fI_kept (oH1521 _ (G_ne gfp gep (by decide)))).trans (f1517 j hj)
  have f1553 : ∀ j : Nat, j < 16 → fI H1521 jp j = fI s.heap ju j := fun j hj => (fI_kept (oH1521 _ (G_ne gjp gep (by decide)))).trans (cp1518 j hj)
  have cn_sc := i_cl (x := sc) (by omega)
  have cp1554 : ∀ j : Nat, j < 16 → fI H1521 ep j = fI s.heap eu j := fun j hj => by have c00 : (0 : Int32).toNatClampNeg = 0 := rfl; have c16 : (16 : Int32).toInt = 16 := rfl; have z := wH1521 j (by omega); rw [c00, Nat.zero_add] at z; exact z.trans (f1511 j)
  refine lv_aload_n hx hb dX7_copyFrom_68 rfl (lv_at hl 1 rfl) ?_
  refine x_gr C hTH1521 (ci := 7) (k := 5) rfl inX7 (by decide) wF_X7_24 ga1 rg_50 rfl dX7_copyFrom_69 (fun q1555 eq1555 gq1555 => ?_)
  have uq1555 : au = q1555 := (m1534).trans eq1555.symm
  subst uq1555
  refine lv_iconst (v := 0) hx hb dX7_copyFrom_72 (by decide) ?_
  refine lv_aload_n hx hb dX7_copyFrom_73 rfl (lv_at hl 0 rfl) ?_
  refine x_gr C hTH1521 (ci := 7) (k := 5) rfl inX7 (by decide) wF_X7_24 ga0 rg_16 rfl dX7_copyFrom_74 (fun q1556 eq1556 gq1556 => ?_)
  have uq1556 : ap = q1556 := (m1526).trans eq1556.symm
  subst uq1556
  refine lv_iconst (v := 0) hx hb dX7_copyFrom_77 (by decide) ?_
  refine lv_bipush (v := 16) hx hb dX7_copyFrom_78 (by decide) ?_
  refine x_copy C hTH1521 hSH1521 wM_X7_44 wNT_arraycopy wST_arraycopy wIN_J10 gau gap rg_55 rg_21 (by decide) (by omega) (by omega) (by omega) (by show _ ≤ ((16 : Nat) : Int); omega) (by show _ ≤ ((16 : Nat) : Int); omega) (AE_in gap (by decide)) hl.1 (by decide) dX7_copyFrom_80 (fun H1557 locsH1557 hTH1557 hSH1557 zH1557 oH1557 vH1557 wH1557 => ?_)
  have m1558 := (m1522).trans (fR_kept (oH1557 _ (G_ne ga0 gap (by decide)))).symm
  have m1559 := (m1523).trans (fR_kept (oH1557 _ (G_ne ga0 gap (by decide)))).symm
  have m1560 := (m1524).trans (fR_kept (oH1557 _ (G_ne ga0 gap (by decide)))).symm
  have m1561 := (m1525).trans (fR_kept (oH1557 _ (G_ne ga0 gap (by decide)))).symm
  have m1562 := (m1526).trans (fR_kept (oH1557 _ (G_ne ga0 gap (by decide)))).symm
  have m1563 := (m1527).trans (fR_kept (oH1557 _ (G_ne ga0 gap (by decide)))).symm
  have m1564 := (m1528).trans (fR_kept (oH1557 _ (G_ne ga0 gap (by decide)))).symm
  have m1565 := (m1529).trans (fR_kept (oH1557 _ (G_ne ga0 gap (by decide)))).symm
  have m1566 := (m1530).trans (fR_kept (oH1557 _ (G_ne ga1 gap (by decide)))).symm
  have m1567 := (m1531).trans (fR_kept (oH1557 _ (G_ne ga1 gap (by decide)))).symm
  have m1568 := (m1532).trans (fR_kept (oH1557 _ (G_ne ga1 gap (by decide)))).symm
  have m1569 := (m1533).trans (fR_kept (oH1557 _ (G_ne ga1 gap (by decide)))).symm
  have m1570 := (m1534).trans (fR_kept (oH1557 _ (G_ne ga1 gap (by decide)))).symm
  have m1571 := (m1535).trans (fR_kept (oH1557 _ (G_ne ga1 gap (by decide)))).symm
  have m1572 := (m1536).trans (fR_kept (oH1557 _ (G_ne ga1 gap (by decide)))).symm
  have m1573 := (m1537).trans (fR_kept (oH1557 _ (G_ne ga1 gap (by decide)))).symm
  have m1574 := (m1538).trans (fI_kept (oH1557 _ (G_ne ga0 gap (by decide)))).symm
  have m1575 := (m1539).trans (fI_kept (oH1557 _ (G_ne ga1 gap (by decide)))).symm
  have m1576 := (m1540).trans (fI_kept (oH1557 _ (G_ne ga1 gap (by decide)))).symm
  have m1577 := (m1541).trans (fI_kept (oH1557 _ (G_ne ga0 gap (by decide)))).symm
  have f1578 : ∀ q t : Nat, G q = some t → q ≠ a0 → q ≠ wp → q ≠ fp → q ≠ jp → q ≠ ep → q ≠ ap → q ≠ cp → q ≠ dp → q ≠ sp → H1557[q]? = s.heap[q]? := (fun q t hq  n1 n2 n3 n4 n5 n6 n7 n8 n9 => (oH1557 _ n6).trans (f1542 q t hq  n1 n2 n3 n4 n5 n6 n7 n8 n9))
  have f1579 : ∀ j : Nat, fI H1557 wu j = fI s.heap wu j := fun j => (fI_kept (oH1557 _ (G_ne gwu gap (by decide)))).trans (f1543 j)
  have f1580 : ∀ j : Nat, fI H1557 fu j = fI s.heap fu j := fun j => (fI_kept (oH1557 _ (G_ne gfu gap (by decide)))).trans (f1544 j)
  have f1581 : ∀ j : Nat, fI H1557 ju j = fI s.heap ju j := fun j => (fI_kept (oH1557 _ (G_ne gju gap (by decide)))).trans (f1545 j)
  have f1582 : ∀ j : Nat, fI H1557 eu j = fI s.heap eu j := fun j => (fI_kept (oH1557 _ (G_ne geu gap (by decide)))).trans (f1546 j)
  have f1583 : ∀ j : Nat, fI H1557 au j = fI s.heap au j := fun j => (fI_kept (oH1557 _ (G_ne gau gap (by decide)))).trans (f1547 j)
  have f1584 : ∀ j : Nat, fI H1557 cu j = fI s.heap cu j := fun j => (fI_kept (oH1557 _ (G_ne gcu gap (by decide)))).trans (f1548 j)
  have f1585 : ∀ j : Nat, fI H1557 du j = fI s.heap du j := fun j => (fI_kept (oH1557 _ (G_ne gdu gap (by decide)))).trans (f1549 j)
  have f1586 : ∀ j : Nat, fI H1557 su j = fI s.heap su j := fun j => (fI_kept (oH1557 _ (G_ne gsu gap (by decide)))).trans (f1550 j)
  have f1587 : ∀ j : Nat, j < 16 → fI H1557 wp j = fI s.heap wu j := fun j hj => (fI_kept (oH1557 _ (G_ne gwp gap (by decide)))).trans (f1551 j hj)
  have f1588 : ∀ j : Nat, j < 16 → fI H1557 fp j = fI s.heap fu j := fun j hj => (fI_kept (oH1557 _ (G_ne gfp gap (by decide)))).trans (f1552 j hj)
  have f1589 : ∀ j : Nat, j < 16 → fI H1557 jp j = fI s.heap ju j := fun j hj => (fI_kept (oH1557 _ (G_ne gjp gap (by decide)))).trans (f1553 j hj)
  have f1590 : ∀ j : Nat, j < 16 → fI H1557 ep j = fI s.heap eu j := fun j hj => (fI_kept (oH1557 _ (G_ne gep gap (by decide)))).trans (cp1554 j hj)
  have cn_sc := i_cl (x := sc) (by omega)
  have cp1591 : ∀ j : Nat, j < 16 → fI H1557 ap j = fI s.heap au j := fun j hj => by have c00 : (0 : Int32).toNatClampNeg = 0 := rfl; have c16 : (16 : Int32).toInt = 16 := rfl; have z := wH1557 j (by omega); rw [c00, Nat.zero_add] at z; exact z.trans (f1547 j)
  refine lv_aload_n hx hb dX7_copyFrom_83 rfl (lv_at hl 1 rfl) ?_
  refine x_gr C hTH1557 (ci := 7) (k := 6) rfl inX7 (by decide) wF_X7_27 ga1 rg_50 rfl dX7_copyFrom_84 (fun q1592 eq1592 gq1592 => ?_)
  have uq1592 : cu = q1592 := (m1571).trans eq1592.symm
  subst uq1592
  refine lv_iconst (v := 0) hx hb dX7_copyFrom_87 (by decide) ?_
  refine lv_aload_n hx hb dX7_copyFrom_88 rfl (lv_at hl 0 rfl) ?_
  refine x_gr C hTH1557 (ci := 7) (k := 6) rfl inX7 (by decide) wF_X7_27 ga0 rg_16 rfl dX7_copyFrom_89 (fun q1593 eq1593 gq1593 => ?_)
  have uq1593 : cp = q1593 := (m1563).trans eq1593.symm
  subst uq1593
  refine lv_iconst (v := 0) hx hb dX7_copyFrom_92 (by decide) ?_
  refine lv_bipush (v := 16) hx hb dX7_copyFrom_93 (by decide) ?_
  refine x_copy C hTH1557 hSH1557 wM_X7_44 wNT_arraycopy wST_arraycopy wIN_J10 gcu gcp rg_56 rg_22 (by decide) (by omega) (by omega) (by omega) (by show _ ≤ ((16 : Nat) : Int); omega) (by show _ ≤ ((16 : Nat) : Int); omega) (AE_in gcp (by decide)) hl.1 (by decide) dX7_copyFrom_95 (fun H1594 locsH1594 hTH1594 hSH1594 zH1594 oH1594 vH1594 wH1594 => ?_)
  have m1595 := (m1558).trans (fR_kept (oH1594 _ (G_ne ga0 gcp (by decide)))).symm
  have m1596 := (m1559).trans (fR_kept (oH1594 _ (G_ne ga0 gcp (by decide)))).symm
  have m1597 := (m1560).trans (fR_kept (oH1594 _ (G_ne ga0 gcp (by decide)))).symm
  have m1598 := (m1561).trans (fR_kept (oH1594 _ (G_ne ga0 gcp (by decide)))).symm
  have m1599 := (m1562).trans (fR_kept (oH1594 _ (G_ne ga0 gcp (by decide)))).symm
  have m1600 := (m1563).trans (fR_kept (oH1594 _ (G_ne ga0 gcp (by decide)))).symm
  have m1601 := (m1564).trans (fR_kept (oH1594 _ (G_ne ga0 gcp (by decide)))).symm
  have m1602 := (m1565).trans (fR_kept (oH1594 _ (G_ne ga0 gcp (by decide)))).symm
  have m1603 := (m1566).trans (fR_kept (oH1594 _ (G_ne ga1 gcp (by decide)))).symm
  have m1604 := (m1567).trans (fR_kept (oH1594 _ (G_ne ga1 gcp (by decide)))).symm
  have m1605 := (m1568).trans (fR_kept (oH1594 _ (G_ne ga1 gcp (by decide)))).symm
  have m1606 := (m1569).trans (fR_kept (oH1594 _ (G_ne ga1 gcp (by decide)))).symm
  have m1607 := (m1570).trans (fR_kept (oH1594 _ (G_ne ga1 gcp (by decide)))).symm
  have m1608 := (m1571).trans (fR_kept (oH1594 _ (G_ne ga1 gcp (by decide)))).symm
  have m1609 := (m1572).trans (fR_kept (oH1594 _ (G_ne ga1 gcp (by decide)))).symm
  have m1610 := (m1573).trans (fR_kept (oH1594 _ (G_ne ga1 gcp (by decide)))).symm
  have m1611 := (m1574).trans (fI_kept (oH1594 _ (G_ne ga0 gcp (by decide)))).symm
  have m1612 := (m1575).trans (fI_kept (oH1594 _ (G_ne ga1 gcp (by decide)))).symm
  have m1613 := (m1576).trans (fI_kept (oH1594 _ (G_ne ga1 gcp (by decide)))).symm
  have m1614 := (m1577).trans (fI_kept (oH1594 _ (G_ne ga0 gcp (by decide)))).symm
  have f1615 : ∀ q t : Nat, G q = some t → q ≠ a0 → q ≠ wp → q ≠ fp → q ≠ jp → q ≠ ep → q ≠ ap → q ≠ cp → q ≠ dp → q ≠ sp → H1594[q]? = s.heap[q]? := (fun q t hq  n1 n2 n3 n4 n5 n6 n7 n8 n9 => (oH1594 _ n7).trans (f1578 q t hq  n1 n2 n3 n4 n5 n6 n7 n8 n9))
  have f1616 : ∀ j : Nat, fI H1594 wu j = fI s.heap wu j := fun j => (fI_kept (oH1594 _ (G_ne gwu gcp (by decide)))).trans (f1579 j)
  have f1617 : ∀ j : Nat, fI H1594 fu j = fI s.heap fu j := fun j => (fI_kept (oH1594 _ (G_ne gfu gcp (by decide)))).trans (f1580 j)
  have f1618 : ∀ j : Nat, fI H1594 ju j = fI s.heap ju j := fun j => (fI_kept (oH1594 _ (G_ne gju gcp (by decide)))).trans (f1581 j)
  have f1619 : ∀ j : Nat, fI H1594 eu j = fI s.heap eu j := fun j => (fI_kept (oH1594 _ (G_ne geu gcp (by decide)))).trans (f1582 j)
  have f1620 : ∀ j : Nat, fI H1594 au j = fI s.heap au j := fun j => (fI_kept (oH1594 _ (G_ne gau gcp (by decide)))).trans (f1583 j)
  have f1621 : ∀ j : Nat, fI H1594 cu j = fI s.heap cu j := fun j => (fI_kept (oH1594 _ (G_ne gcu gcp (by decide)))).trans (f1584 j)
  have f1622 : ∀ j : Nat, fI H1594 du j = fI s.heap du j := fun j => (fI_kept (oH1594 _ (G_ne gdu gcp (by decide)))).trans (f1585 j)
  have f1623 : ∀ j : Nat, fI H1594 su j = fI s.heap su j := fun j => (fI_kept (oH1594 _ (G_ne gsu gcp (by decide)))).trans (f1586 j)
  have f1624 : ∀ j : Nat, j < 16 → fI H1594 wp j = fI s.heap wu j := fun j hj => (fI_kept (oH1594 _ (G_ne gwp gcp (by decide)))).trans (f1587 j hj)
  have f1625 : ∀ j : Nat, j < 16 → fI H1594 fp j = fI s.heap fu j := fun j hj => (fI_kept (oH1594 _ (G_ne gfp gcp (by decide)))).trans (f1588 j hj)
  have f1626 : ∀ j : Nat, j < 16 → fI H1594 jp j = fI s.heap ju j := fun j hj => (fI_kept (oH1594 _ (G_ne gjp gcp (by decide)))).trans (f1589 j hj)
  have f1627 : ∀ j : Nat, j < 16 → fI H1594 ep j = fI s.heap eu j := fun j hj => (fI_kept (oH1594 _ (G_ne gep gcp (by decide)))).trans (f1590 j hj)
  have f1628 : ∀ j : Nat, j < 16 → fI H1594 ap j = fI s.heap au j := fun j hj => (fI_kept (oH1594 _ (G_ne gap gcp (by decide)))).trans (cp1591 j hj)
  have cn_sc := i_cl (x := sc) (by omega)
  have cp1629 : ∀ j : Nat, j < 16 → fI H1594 cp j = fI s.heap cu j := fun j hj => by have c00 : (0 : Int32).toNatClampNeg = 0 := rfl; have c16 : (16 : Int32).toInt = 16 := rfl; have z := wH1594 j (by omega); rw [c00, Nat.zero_add] at z; exact z.trans (f1584 j)
  refine lv_aload_n hx hb dX7_copyFrom_98 rfl (lv_at hl 1 rfl) ?_
  refine x_gr C hTH1594 (ci := 7) (k := 7) rfl inX7 (by decide) wF_X7_30 ga1 rg_50 rfl dX7_copyFrom_99 (fun q1630 eq1630 gq1630 => ?_)
  have uq1630 : du = q1630 := (m1609).trans eq1630.symm
  subst uq1630
  refine lv_iconst (v := 0) hx hb dX7_copyFrom_102 (by decide) ?_
  refine lv_aload_n hx hb dX7_copyFrom_103 rfl (lv_at hl 0 rfl) ?_
  refine x_gr C hTH1594 (ci := 7) (k := 7) rfl inX7 (by decide) wF_X7_30 ga0 rg_16 rfl dX7_copyFrom_104 (fun q1631 eq1631 gq1631 => ?_)
  have uq1631 : dp = q1631 := (m1601).trans eq1631.symm
  subst uq1631
  refine lv_iconst (v := 0) hx hb dX7_copyFrom_107 (by decide) ?_
  refine lv_bipush (v := 16) hx hb dX7_copyFrom_108 (by decide) ?_
  refine x_copy C hTH1594 hSH1594 wM_X7_44 wNT_arraycopy wST_arraycopy wIN_J10 gdu gdp rg_57 rg_23 (by decide) (by omega) (by omega) (by omega) (by show _ ≤ ((16 : Nat) : Int); omega) (by show _ ≤ ((16 : Nat) : Int); omega) (AE_in gdp (by decide)) hl.1 (by decide) dX7_copyFrom_110 (fun H1632 locsH1632 hTH1632 hSH1632 zH1632 oH1632 vH1632 wH1632 => ?_)
  have m1633 := (m1595).trans (fR_kept (oH1632 _ (G_ne ga0 gdp (by decide)))).symm
  have m1634 := (m1596).trans (fR_kept (oH1632 _ (G_ne ga0 gdp (by decide)))).symm
  have m1635 := (m1597).trans (fR_kept (oH1632 _ (G_ne ga0 gdp (by decide)))).symm
  have m1636 := (m1598).trans (fR_kept (oH1632 _ (G_ne ga0 gdp (by decide)))).symm
  have m1637 := (m1599).trans (fR_kept (oH1632 _ (G_ne ga0 gdp (by decide)))).symm
  have m1638 := (m1600).trans (fR_kept (oH1632 _ (G_ne ga0 gdp (by decide)))).symm
  have m1639 := (m1601).trans (fR_kept (oH1632 _ (G_ne ga0 gdp (by decide)))).symm
  have m1640 := (m1602).trans (fR_kept (oH1632 _ (G_ne ga0 gdp (by decide)))).symm
  have m1641 := (m1603).trans (fR_kept (oH1632 _ (G_ne ga1 gdp (by decide)))).symm
  have m1642 := (m1604).trans (fR_kept (oH1632 _ (G_ne ga1 gdp (by decide)))).symm
  have m1643 := (m1605).trans (fR_kept (oH1632 _ (G_ne ga1 gdp (by decide)))).symm
  have m1644 := (m1606).trans (fR_kept (oH1632 _ (G_ne ga1 gdp (by decide)))).symm
  have m1645 := (m1607).trans (fR_kept (oH1632 _ (G_ne ga1 gdp (by decide)))).symm
  have m1646 := (m1608).trans (fR_kept (oH1632 _ (G_ne ga1 gdp (by decide)))).symm
  have m1647 := (m1609).trans (fR_kept (oH1632 _ (G_ne ga1 gdp (by decide)))).symm
  have m1648 := (m1610).trans (fR_kept (oH1632 _ (G_ne ga1 gdp (by decide)))).symm
  have m1649 := (m1611).trans (fI_kept (oH1632 _ (G_ne ga0 gdp (by decide)))).symm
  have m1650 := (m1612).trans (fI_kept (oH1632 _ (G_ne ga1 gdp (by decide)))).symm
  have m1651 := (m1613).trans (fI_kept (oH1632 _ (G_ne ga1 gdp (by decide)))).symm
  have m1652 := (m1614).trans (fI_kept (oH1632 _ (G_ne ga0 gdp (by decide)))).symm
  have f1653 : ∀ q t : Nat, G q = some t → q ≠ a0 → q ≠ wp → q ≠ fp → q ≠ jp → q ≠ ep → q ≠ ap → q ≠ cp → q ≠ dp → q ≠ sp → H1632[q]? = s.heap[q]? := (fun q t hq  n1 n2 n3 n4 n5 n6 n7 n8 n9 => (oH1632 _ n8).trans (f1615 q t hq  n1 n2 n3 n4 n5 n6 n7 n8 n9))
  have f1654 : ∀ j : Nat, fI H1632 wu j = fI s.heap wu j := fun j => (fI_kept (oH1632 _ (G_ne gwu gdp (by decide)))).trans (f1616 j)
  have f1655 : ∀ j : Nat, fI H1632 fu j = fI s.heap fu j := fun j => (fI_kept (oH1632 _ (G_ne gfu gdp (by decide)))).trans (f1617 j)
  have f1656 : ∀ j : Nat, fI H1632 ju j = fI s.heap ju j := fun j => (fI_kept (oH1632 _ (G_ne gju gdp (by decide)))).trans (f1618 j)
  have f1657 : ∀ j : Nat, fI H1632 eu j = fI s.heap eu j := fun j => (fI_kept (oH1632 _ (G_ne geu gdp (by decide)))).trans (f1619 j)
  have f1658 : ∀ j : Nat, fI H1632 au j = fI s.heap au j := fun j => (fI_kept (oH1632 _ (G_ne gau gdp (by decide)))).trans (f1620 j)
  have f1659 : ∀ j : Nat, fI H1632 cu j = fI s.heap cu j := fun j => (fI_kept (oH1632 _ (G_ne gcu gdp (by decide)))).trans (f1621 j)
  have f1660 : ∀ j : Nat, fI H1632 du j = fI s.heap du j := fun j => (fI_kept (oH1632 _ (G_ne gdu gdp (by decide)))).trans (f1622 j)
  have f1661 : ∀ j : Nat, fI H1632 su j = fI s.heap su j := fun j => (fI_kept (oH1632 _ (G_ne gsu gdp (by decide)))).trans (f1623 j)
  have f1662 : ∀ j : Nat, j < 16 → fI H1632 wp j = fI s.heap wu j := fun j hj => (fI_kept (oH1632 _ (G_ne gwp gdp (by decide)))).trans (f1624 j hj)
  have f1663 : ∀ j : Nat, j < 16 → fI H1632 fp j = fI s.heap fu j := fun j hj => (fI_kept (oH1632 _ (G_ne gfp gdp (by decide)))).trans (f1625 j hj)
  have f1664 : ∀ j : Nat, j < 16 → fI H1632 jp j = fI s.heap ju j := fun j hj => (fI_kept (oH1632 _ (G_ne gjp gdp (by decide)))).trans (f1626 j hj)
  have f1665 : ∀ j : Nat, j < 16 → fI H1632 ep j = fI s.heap eu j := fun j hj => (fI_kept (oH1632 _ (G_ne gep gdp (by decide)))).trans (f1627 j hj)
  have f1666 : ∀ j : Nat, j < 16 → fI H1632 ap j = fI s.heap au j := fun j hj => (fI_kept (oH1632 _ (G_ne gap gdp (by decide)))).trans (f1628 j hj)
  have f1667 : ∀ j : Nat, j < 16 → fI H1632 cp j = fI s.heap cu j := fun j hj => (fI_kept (oH1632 _ (G_ne gcp gdp (by decide)))).trans (cp1629 j hj)
  have cn_sc := i_cl (x := sc) (by omega)
  have cp1668 : ∀ j : Nat, j < 16 → fI H1632 dp j = fI s.heap du j := fun j hj => by have c00 : (0 : Int32).toNatClampNeg = 0 := rfl; have c16 : (16 : Int32).toInt = 16 := rfl; have z := wH1632 j (by omega); rw [c00, Nat.zero_add] at z; exact z.trans (f1622 j)
  refine lv_aload_n hx hb dX7_copyFrom_113 rfl (lv_at hl 1 rfl) ?_
  refine x_gr C hTH1632 (ci := 7) (k := 8) rfl inX7 (by decide) wF_X7_33 ga1 rg_50 rfl dX7_copyFrom_114 (fun q1669 eq1669 gq1669 => ?_)
  have uq1669 : su = q1669 := (m1648).trans eq1669.symm
  subst uq1669
  refine lv_iconst (v := 0) hx hb dX7_copyFrom_117 (by decide) ?_
  refine lv_aload_n hx hb dX7_copyFrom_118 rfl (lv_at hl 0 rfl) ?_
  refine x_gr C hTH1632 (ci := 7) (k := 8) rfl inX7 (by decide) wF_X7_33 ga0 rg_16 rfl dX7_copyFrom_119 (fun q1670 eq1670 gq1670 => ?_)
  have uq1670 : sp = q1670 := (m1640).trans eq1670.symm
  subst uq1670
  refine lv_iconst (v := 0) hx hb dX7_copyFrom_122 (by decide) ?_
  refine lv_aload_n hx hb dX7_copyFrom_123 rfl (lv_at hl 1 rfl) ?_
  refine x_gi C hTH1632 (ci := 7) (k := 9) rfl inX7 (by decide) wF_X7_40 ga1 rg_50 rfl dX7_copyFrom_124 (fun x1671 ex1671 bx1671 => ?_)
  have ux1671 : sc = x1671 := (m1651).trans ex1671.symm
  subst ux1671
  refine x_copy C hTH1632 hSH1632 wM_X7_44 wNT_arraycopy wST_arraycopy wIN_J10 gsu gsp rg_58 rg_24 (by decide) (by omega) (by omega) (by omega) (by show _ ≤ ((500 : Nat) : Int); omega) (by show _ ≤ ((500 : Nat) : Int); omega) (AE_in gsp (by decide)) hl.1 (by decide) dX7_copyFrom_127 (fun H1672 locsH1672 hTH1672 hSH1672 zH1672 oH1672 vH1672 wH1672 => ?_)
  have m1673 := (m1633).trans (fR_kept (oH1672 _ (G_ne ga0 gsp (by decide)))).symm
  have m1674 := (m1634).trans (fR_kept (oH1672 _ (G_ne ga0 gsp (by decide)))).symm
  have m1675 := (m1635).trans (fR_kept (oH1672 _ (G_ne ga0 gsp (by decide)))).symm
  have m1676 := (m1636).trans (fR_kept (oH1672 _ (G_ne ga0 gsp (by decide)))).symm
  have m1677 := (m1637).trans (fR_kept (oH1672 _ (G_ne ga0 gsp (by decide)))).symm
  have m1678 := (m1638).trans (fR_kept (oH1672 _ (G_ne ga0 gsp (by decide)))).symm
  have m1679 := (m1639).trans (fR_kept (oH1672 _ (G_ne ga0 gsp (by decide)))).symm
  have m1680 := (m1640).trans (fR_kept (oH1672 _ (G_ne ga0 gsp (by decide)))).symm
  have m1681 := (m1641).trans (fR_kept (oH1672 _ (G_ne ga1 gsp (by decide)))).symm
  have m1682 := (m1642).trans (fR_kept (oH1672 _ (G_ne ga1 gsp (by decide)))).symm
  have m1683 := (m1643).trans (fR_kept (oH1672 _ (G_ne ga1 gsp (by decide)))).symm
  have m1684 := (m1644).trans (fR_kept (oH1672 _ (G_ne ga1 gsp (by decide)))).symm
  have m1685 := (m1645).trans (fR_kept (oH1672 _ (G_ne ga1 gsp (by decide)))).symm
  have m1686 := (m1646).trans (fR_kept (oH1672 _ (G_ne ga1 gsp (by decide)))).symm
  have m1687 := (m1647).trans (fR_kept (oH1672 _ (G_ne ga1 gsp (by decide)))).symm
  have m1688 := (m1648).trans (fR_kept (oH1672 _ (G_ne ga1 gsp (by decide)))).symm
  have m1689 := (m1649).trans (fI_kept (oH1672 _ (G_ne ga0 gsp (by decide)))).symm
  have m1690 := (m1650).trans (fI_kept (oH1672 _ (G_ne ga1 gsp (by decide)))).symm
  have m1691 := (m1651).trans (fI_kept (oH1672 _ (G_ne ga1 gsp (by decide)))).symm
  have m1692 := (m1652).trans (fI_kept (oH1672 _ (G_ne ga0 gsp (by decide)))).symm
  have f1693 : ∀ q t : Nat, G q = some t → q ≠ a0 → q ≠ wp → q ≠ fp → q ≠ jp → q ≠ ep → q ≠ ap → q ≠ cp → q ≠ dp → q ≠ sp → H1672[q]? = s.heap[q]? := (fun q t hq  n1 n2 n3 n4 n5 n6 n7 n8 n9 => (oH1672 _ n9).trans (f1653 q t hq  n1 n2 n3 n4 n5 n6 n7 n8 n9))
  have f1694 : ∀ j : Nat, fI H1672 wu j = fI s.heap wu j := fun j => (fI_kept (oH1672 _ (G_ne gwu gsp (by decide)))).trans (f1654 j)
  have f1695 : ∀ j : Nat, fI H1672 fu j = fI s.heap fu j := fun j => (fI_kept (oH1672 _ (G_ne gfu gsp (by decide)))).trans (f1655 j)
  have f1696 : ∀ j : Nat, fI H1672 ju j = fI s.heap ju j := fun j => (fI_kept (oH1672 _ (G_ne gju gsp (by decide)))).trans (f1656 j)
  have f1697 : ∀ j : Nat, fI H1672 eu j = fI s.heap eu j := fun j => (fI_kept (oH1672 _ (G_ne geu gsp (by decide)))).trans (f1657 j)
  have f1698 : ∀ j : Nat, fI H1672 au j = fI s.heap au j := fun j => (fI_kept (oH1672 _ (G_ne gau gsp (by decide)))).trans (f1658 j)
  have f1699 : ∀ j : Nat, fI H1672 cu j = fI s.heap cu j := fun j => (fI_kept (oH1672 _ (G_ne gcu gsp (by decide)))).trans (f1659 j)
  have f1700 : ∀ j : Nat, fI H1672 du j = fI s.heap du j := fun j => (fI_kept (oH1672 _ (G_ne gdu gsp (by decide)))).trans (f1660 j)
  have f1701 : ∀ j : Nat, fI H1672 su j = fI s.heap su j := fun j => (fI_kept (oH1672 _ (G_ne gsu gsp (by decide)))).trans (f1661 j)
  have f1702 : ∀ j : Nat, j < 16 → fI H1672 wp j = fI s.heap wu j := fun j hj => (fI_kept (oH1672 _ (G_ne gwp gsp (by decide)))).trans (f1662 j hj)
  have f1703 : ∀ j : Nat, j < 16 → fI H1672 fp j = fI s.heap fu j := fun j hj => (fI_kept (oH1672 _ (G_ne gfp gsp (by decide)))).trans (f1663 j hj)
  have f1704 : ∀ j : Nat, j < 16 → fI H1672 jp j = fI s.heap ju j := fun j hj => (fI_kept (oH1672 _ (G_ne gjp gsp (by decide)))).trans (f1664 j hj)
  have f1705 : ∀ j : Nat, j < 16 → fI H1672 ep j = fI s.heap eu j := fun j hj => (fI_kept (oH1672 _ (G_ne gep gsp (by decide)))).trans (f1665 j hj)
  have f1706 : ∀ j : Nat, j < 16 → fI H1672 ap j = fI s.heap au j := fun j hj => (fI_kept (oH1672 _ (G_ne gap gsp (by decide)))).trans (f1666 j hj)
  have f1707 : ∀ j : Nat, j < 16 → fI H1672 cp j = fI s.heap cu j := fun j hj => (fI_kept (oH1672 _ (G_ne gcp gsp (by decide)))).trans (f1667 j hj)
  have f1708 : ∀ j : Nat, j < 16 → fI H1672 dp j = fI s.heap du j := fun j hj => (fI_kept (oH1672 _ (G_ne gdp gsp (by decide)))).trans (cp1668 j hj)
  have cn_sc := i_cl (x := sc) (by omega)
  have cp1709 : ∀ j : Nat, j < sc.toNatClampNeg → fI H1672 sp j = fI s.heap su j := fun j hj => by have c00 : (0 : Int32).toNatClampNeg = 0 := rfl; have c16 : (16 : Int32).toInt = 16 := rfl; have z := wH1672 j (by omega); rw [c00, Nat.zero_add] at z; exact z.trans (f1661 j)
  refine lv_aload_n hx hb dX7_copyFrom_130 rfl (lv_at hl 0 rfl) ?_
  refine lv_aload_n hx hb dX7_copyFrom_131 rfl (lv_at hl 1 rfl) ?_
  refine x_gi C hTH1672 (ci := 7) (k := 9) rfl inX7 (by decide) wF_X7_40 ga1 rg_50 rfl dX7_copyFrom_132 (fun x1710 ex1710 bx1710 => ?_)
  have ux1710 : sc = x1710 := (m1691).trans ex1710.symm
  subst ux1710
  refine x_put C hTH1672 hSH1672 (ci := 7) (k := 9) (v := .int sc) (ty0 := tyX7) rfl inX7 tyX7_ok nmX7 (by decide) rfl wF_X7_40 ga0 rg_16 rfl rfl (okI (by have := i_rng sc; omega) (by have := i_rng sc; omega)) rfl rfl (AE_in ga0 (by decide)) dX7_copyFrom_135 (fun H1711 locsH1711 hTH1711 hSH1711 wH1711 => ?_)
  have f1712 : ∀ q t : Nat, G q = some t → q ≠ a0 → q ≠ wp → q ≠ fp → q ≠ jp → q ≠ ep → q ≠ ap → q ≠ cp → q ≠ dp → q ≠ sp → H1711[q]? = s.heap[q]? := (fun q t hq  n1 n2 n3 n4 n5 n6 n7 n8 n9 => (wH1711.off n1).trans (f1693 q t hq  n1 n2 n3 n4 n5 n6 n7 n8 n9))
  have f1713 : ∀ j : Nat, fI H1711 wu j = fI s.heap wu j := fun j => (Wr.neI wH1711 (Or.inl (G_ne gwu ga0 (by decide)))).trans (f1694 j)
  have f1714 : ∀ j : Nat, fI H1711 fu j = fI s.heap fu j := fun j => (Wr.neI wH1711 (Or.inl (G_ne gfu ga0 (by decide)))).trans (f1695 j)
  have f1715 : ∀ j : Nat, fI H1711 ju j = fI s.heap ju j := fun j => (Wr.neI wH1711 (Or.inl (G_ne gju ga0 (by decide)))).trans (f1696 j)
  have f1716 : ∀ j : Nat, fI H1711 eu j = fI s.heap eu j := fun j => (Wr.neI wH1711 (Or.inl (G_ne geu ga0 (by decide)))).trans (f1697 j)
  have f1717 : ∀ j : Nat, fI H1711 au j = fI s.heap au j := fun j => (Wr.neI wH1711 (Or.inl (G_ne gau ga0 (by decide)))).trans (f1698 j)
  have f1718 : ∀ j : Nat, fI H1711 cu j = fI s.heap cu j := fun j => (Wr.neI wH1711 (Or.inl (G_ne gcu ga0 (by decide)))).trans (f1699 j)
  have f1719 : ∀ j : Nat, fI H1711 du j = fI s.heap du j := fun j => (Wr.neI wH1711 (Or.inl (G_ne gdu ga0 (by decide)))).trans (f1700 j)
  have f1720 : ∀ j : Nat, fI H1711 su j = fI s.heap su j := fun j => (Wr.neI wH1711 (Or.inl (G_ne gsu ga0 (by decide)))).trans (f1701 j)
  have f1721 : ∀ j : Nat, j < 16 → fI H1711 wp j = fI s.heap wu j := fun j hj => (fI_kept (wH1711.off (G_ne gwp ga0 (by decide)))).trans (f1702 j hj)
  have f1722 : ∀ j : Nat, j < 16 → fI H1711 fp j = fI s.heap fu j := fun j hj => (fI_kept (wH1711.off (G_ne gfp ga0 (by decide)))).trans (f1703 j hj)
  have f1723 : ∀ j : Nat, j < 16 → fI H1711 jp j = fI s.heap ju j := fun j hj => (fI_kept (wH1711.off (G_ne gjp ga0 (by decide)))).trans (f1704 j hj)
  have f1724 : ∀ j : Nat, j < 16 → fI H1711 ep j = fI s.heap eu j := fun j hj => (fI_kept (wH1711.off (G_ne gep ga0 (by decide)))).trans (f1705 j hj)
  have f1725 : ∀ j : Nat, j < 16 → fI H1711 ap j = fI s.heap au j := fun j hj => (fI_kept (wH1711.off (G_ne gap ga0 (by decide)))).trans (f1706 j hj)
  have f1726 : ∀ j : Nat, j < 16 → fI H1711 cp j = fI s.heap cu j := fun j hj => (fI_kept (wH1711.off (G_ne gcp ga0 (by decide)))).trans (f1707 j hj)
  have f1727 : ∀ j : Nat, j < 16 → fI H1711 dp j = fI s.heap du j := fun j hj => (fI_kept (wH1711.off (G_ne gdp ga0 (by decide)))).trans (f1708 j hj)
  have f1728 : ∀ j : Nat, j < sc.toNatClampNeg → fI H1711 sp j = fI s.heap su j := fun j hj => (fI_kept (wH1711.off (G_ne gsp ga0 (by decide)))).trans (cp1709 j hj)
  have m1729 := m1673.trans (Wr.neR wH1711 (Or.inr (x_apart hKT hts inX7 tyX7 tyX7_ok nmX7 rfl 1 9 (by decide) (by decide) (by decide)))).symm
  have m1730 := m1674.trans (Wr.neR wH1711 (Or.inr (x_apart hKT hts inX7 tyX7 tyX7_ok nmX7 rfl 2 9 (by decide) (by decide) (by decide)))).symm
  have m1731 := m1675.trans (Wr.neR wH1711 (Or.inr (x_apart hKT hts inX7 tyX7 tyX7_ok nmX7 rfl 3 9 (by decide) (by decide) (by decide)))).symm
  have m1732 := m1676.trans (Wr.neR wH1711 (Or.inr (x_apart hKT hts inX7 tyX7 tyX7_ok nmX7 rfl 4 9 (by decide) (by decide) (by decide)))).symm
  have m1733 := m1677.trans (Wr.neR wH1711 (Or.inr (x_apart hKT hts inX7 tyX7 tyX7_ok nmX7 rfl 5 9 (by decide) (by decide) (by decide)))).symm
  have m1734 := m1678.trans (Wr.neR wH1711 (Or.inr (x_apart hKT hts inX7 tyX7 tyX7_ok nmX7 rfl 6 9 (by decide) (by decide) (by decide)))).symm
  have m1735 := m1679.trans (Wr.neR wH1711 (Or.inr (x_apart hKT hts inX7 tyX7 tyX7_ok nmX7 rfl 7 9 (by decide) (by decide) (by decide)))).symm
  have m1736 := m1680.trans (Wr.neR wH1711 (Or.inr (x_apart hKT hts inX7 tyX7 tyX7_ok nmX7 rfl 8 9 (by decide) (by decide) (by decide)))).symm
  have m1737 := m1681.trans (Wr.neR wH1711 (Or.inl (G_ne ga1 ga0 (by decide)))).symm
  have m1738 := m1682.trans (Wr.neR wH1711 (Or.inl (G_ne ga1 ga0 (by decide)))).symm
  have m1739 := m1683.trans (Wr.neR wH1711 (Or.inl (G_ne ga1 ga0 (by decide)))).symm
  have m1740 := m1684.trans (Wr.neR wH1711 (Or.inl (G_ne ga1 ga0 (by decide)))).symm
  have m1741 := m1685.trans (Wr.neR wH1711 (Or.inl (G_ne ga1 ga0 (by decide)))).symm
  have m1742 := m1686.trans (Wr.neR wH1711 (Or.inl (G_ne ga1 ga0 (by decide)))).symm
  have m1743 := m1687.trans (Wr.neR wH1711 (Or.inl (G_ne ga1 ga0 (by decide)))).symm
  have m1744 := m1688.trans (Wr.neR wH1711 (Or.inl (G_ne ga1 ga0 (by decide)))).symm
  have m1746 := m1690.trans (Wr.neI wH1711 (Or.inl (G_ne ga1 ga0 (by decide)))).symm
  have m1747 := m1691.trans (Wr.neI wH1711 (Or.inl (G_ne ga1 ga0 (by decide)))).symm
  have m1748 := m1692.trans (Wr.neI wH1711 (Or.inr (x_apart hKT hts inX7 tyX7 tyX7_ok nmX7 rfl 0 9 (by decide) (by decide) (by decide)))).symm
  have m1749 := Wr.I wH1711
  have m1749 := m1749.symm
  exact x_vret C hQ dX7_copyFrom_138 hSH1711 (by decide) (by decide) (⟨lm, sc, rfl, m1748, m1749, by omega, m1729, m1730, m1731, m1732, m1733, m1734, m1735, m1736, f1721, f1722, f1723, f1724, f1725, f1726, f1727, f1728, f1712, hTH1711⟩)

set_option maxHeartbeats 4000000 in
set_option maxRecDepth 100000 in
theorem a_X7_clear_g (l : Launch) (K : KE) (G : Nat → Option Nat) (H : Heap) {a0 : Nat} {sq : Nat} {wq : Nat} {fq : Nat} {jq : Nat} {eq_ : Nat} {aq : Nat} {cq : Nat} {dq : Nat} (li : Int32) (sc : Int32) (hT : TY K G H) (ga0 : G a0 = some 69) (gsq : G sq = some 77) (esq : sq = fR H a0 (K.1.2 7 8)) (gwq : G wq = some 70) (ewq : wq = fR H a0 (K.1.2 7 1)) (gfq : G fq = some 71) (efq : fq = fR H a0 (K.1.2 7 2)) (gjq : G jq = some 72) (ejq : jq = fR H a0 (K.1.2 7 3)) (geq_ : G eq_ = some 73) (eeq_ : eq_ = fR H a0 (K.1.2 7 4)) (gaq : G aq = some 74) (eaq : aq = fR H a0 (K.1.2 7 5)) (gcq : G cq = some 75) (ecq : cq = fR H a0 (K.1.2 7 6)) (gdq : G dq = some 76) (edq : dq = fR H a0 (K.1.2 7 7)) (eli : li = fI H a0 (K.1.2 7 0)) (esc : sc = fI H a0 (K.1.2 7 9)) : MX l K yX7_clear cX7_clear 1 none 0 0 0 0 [.ref a0] H (AE G [69] H.size) (fun v H1 => ∃ (t0 : Int32) (t1 : Int32), v = none ∧ t0 = fI H1 a0 (K.1.2 7 0) ∧ t1 = fI H1 a0 (K.1.2 7 9) ∧ (t0.toInt = 0 ∧ t1.toInt = 0) ∧ sq = fR H1 a0 (K.1.2 7 8) ∧ wq = fR H1 a0 (K.1.2 7 1) ∧ fq = fR H1 a0 (K.1.2 7 2) ∧ jq = fR H1 a0 (K.1.2 7 3) ∧ eq_ = fR H1 a0 (K.1.2 7 4) ∧ aq = fR H1 a0 (K.1.2 7 5) ∧ cq = fR H1 a0 (K.1.2 7 6) ∧ dq = fR H1 a0 (K.1.2 7 7) ∧ TY K G H1) := by
  refine MX.of (by decide +kernel) (Nat.le_of_ble_eq_true rfl) ?_
  intro p e s m below meth c ls Q C hH hl hQ
  subst hH
  have C : CX p K s m _ meth c RX7 cX7_clear 1 none "clear" := C
  obtain ⟨hx, hb, hml, hown, hts, hKT, hr, hlocks, hnm⟩ := id C
  have hl : lv_has ls 1 [(0, .ref a0)] := hl
  have hS : va_S (AE G [69] s.heap.size) s.heap s.heap [] := va_S.rf
  have n_0 : (0 : Int32).toInt = 0 := rfl
  have bli := ty_fi (x := li) (k := 0) eli hT ga0 rg_69 rfl
  have bsc := ty_fi (x := sc) (k := 9) esc hT ga0 rg_69 rfl
  refine lv_aload_n hx hb dX7_clear_0 rfl (lv_at hl 0 rfl) ?_
  refine lv_iconst (v := 0) hx hb dX7_clear_1 (by decide) ?_
  refine x_put C hT hS (ci := 7) (k := 0) (v := .int 0) (ty0 := tyX7) rfl inX7 tyX7_ok nmX7 (by decide) rfl wF_X7_36 ga0 rg_69 rfl rfl (okI (by have := i_rng (0 : Int32); omega) (by have := i_rng (0 : Int32); omega)) rfl rfl (AE_in ga0 (by decide)) dX7_clear_2 (fun H197 locsH197 hTH197 hSH197 wH197 => ?_)
  have m198 := esq.trans (Wr.neR wH197 (Or.inr (x_apart hKT hts inX7 tyX7 tyX7_ok nmX7 rfl 8 0 (by decide) (by decide) (by decide)))).symm
  have m199 := ewq.trans (Wr.neR wH197 (Or.inr (x_apart hKT hts inX7 tyX7 tyX7_ok nmX7 rfl 1 0 (by decide) (by decide) (by decide)))).symm
  have m200 := efq.trans (Wr.neR wH197 (Or.inr (x_apart hKT hts inX7 tyX7 tyX7_ok nmX7 rfl 2 0 (by decide) (by decide) (by decide)))).symm
  have m201 := ejq.trans (Wr.neR wH197 (Or.inr (x_apart hKT hts inX7 tyX7 tyX7_ok nmX7 rfl 3 0 (by decide) (by decide) (by decide)))).symm
  have m202 := eeq_.trans (Wr.neR wH197 (Or.inr (x_apart hKT hts inX7 tyX7 tyX7_ok nmX7 rfl 4 0 (by decide) (by decide) (by decide)))).symm
  have m203 := eaq.trans (Wr.neR wH197 (Or.inr (x_apart hKT hts inX7 tyX7 tyX7_ok nmX7 rfl 5 0 (by decide) (by decide) (by decide)))).symm
  have m204 := ecq.trans (Wr.neR wH197 (Or.inr (x_apart hKT hts inX7 tyX7 tyX7_ok nmX7 rfl 6 0 (by decide) (by decide) (by decide)))).symm
  have m205 := edq.trans (Wr.neR wH197 (Or.inr (x_apart hKT hts inX7 tyX7 tyX7_ok nmX7 rfl 7 0 (by decide) (by decide) (by decide)))).symm
  have m207 := esc.trans (Wr.neI wH197 (Or.inr (x_apart hKT hts inX7 tyX7 tyX7_ok nmX7 rfl 9 0 (by decide) (by decide) (by decide)))).symm
  have m208 := Wr.I wH197
  refine lv_aload_n hx hb dX7_clear_5 rfl (lv_at hl 0 rfl) ?_
  refine lv_iconst (v := 0) hx hb dX7_clear_6 (by decide) ?_
  refine x_put C hTH197 hSH197 (ci := 7) (k := 9) (v := .int 0) (ty0 := tyX7) rfl inX7 tyX7_ok nmX7 (by decide) rfl wF_X7_40 ga0 rg_69 rfl rfl (okI (by have := i_rng (0 : Int32); omega) (by have := i_rng (0 : Int32); omega)) rfl rfl (AE_in ga0 (by decide)) dX7_clear_7 (fun H209 locsH209 hTH209 hSH209 wH209 => ?_)
  have m210 := m198.trans (Wr.neR wH209 (Or.inr (x_apart hKT hts inX7 tyX7 tyX7_ok nmX7 rfl 8 9 (by decide) (by decide) (by decide)))).symm
  have m211 := m199.trans (Wr.neR wH209 (Or.inr (x_apart hKT hts inX7 tyX7 tyX7_ok nmX7 rfl 1 9 (by decide) (by decide) (by decide)))).symm
  have m212 := m200.trans (Wr.neR wH209 (Or.inr (x_apart hKT hts inX7 tyX7 tyX7_ok nmX7 rfl 2 9 (by decide) (by decide) (by decide)))).symm
  have m213 := m201.trans (Wr.neR wH209 (Or.inr (x_apart hKT hts inX7 tyX7 tyX7_ok nmX7 rfl 3 9 (by decide) (by decide) (by decide)))).symm
  have m214 := m202.trans (Wr.neR wH209 (Or.inr (x_apart hKT hts inX7 tyX7 tyX7_ok nmX7 rfl 4 9 (by decide) (by decide) (by decide)))).symm
  have m215 := m203.trans (Wr.neR wH209 (Or.inr (x_apart hKT hts inX7 tyX7 tyX7_ok nmX7 rfl 5 9 (by decide) (by decide) (by decide)))).symm
  have m216 := m204.trans (Wr.neR wH209 (Or.inr (x_apart hKT hts inX7 tyX7 tyX7_ok nmX7 rfl 6 9 (by decide) (by decide) (by decide)))).symm
  have m217 := m205.trans (Wr.neR wH209 (Or.inr (x_apart hKT hts inX7 tyX7 tyX7_ok nmX7 rfl 7 9 (by decide) (by decide) (by decide)))).symm
  have m219 := (Wr.neI wH209 (Or.inr (x_apart hKT hts inX7 tyX7 tyX7_ok nmX7 rfl 0 9 (by decide) (by decide) (by decide)))).trans m208
  have m220 := Wr.I wH209
  exact x_vret C hQ dX7_clear_10 hSH209 (by decide) (by decide) (⟨0, 0, rfl, (m219).symm, (m220).symm, by omega, m210, m211, m212, m213, m214, m215, m216, m217, hTH209⟩)

set_option maxHeartbeats 4000000 in
set_option maxRecDepth 100000 in
theorem a_X4_start_g (l : Launch) (K : KE) (G : Nat → Option Nat) (H : Heap) {a0 : Nat} {a1 : Nat} (x2 : Int32) (x3 : Int32) {mq : Nat} {kq : Nat} {vq : Nat} {sq : Nat} {wq : Nat} {fq : Nat} {jq : Nat} {eq_ : Nat} {aq : Nat} {cq : Nat} {dq : Nat} (tat : Int32) (tk : Int32) (lw : Int32) (fa : Int32) (li : Int32) (sc : Int32) (bt : Nat → Int) (hT : TY K G H) (ga0 : G a0 = some 78) (ga1 : G a1 = some 108) (hx2 : 0 ≤ x2.toInt ∧ x2.toInt ≤ 500) (hx3 : 0 ≤ x3.toInt ∧ x3.toInt ≤ 1) (gmq : G mq = some 69) (emq : mq = fR H a0 (K.1.2 4 0)) (gkq : G kq = some 79) (ekq : kq = fR H a0 (K.1.2 4 3)) (gvq : G vq = some 80) (evq : vq = fR H a0 (K.1.2 4 4)) (gsq : G sq = some 77) (esq : sq = fR H mq (K.1.2 7 8)) (gwq : G wq = some 70) (ewq : wq = fR H mq (K.1.2 7 1)) (gfq : G fq = some 71) (efq : fq = fR H mq (K.1.2 7 2)) (gjq : G jq = some 72) (ejq : jq = fR H mq (K.1.2 7 3)) (geq_ : G eq_ = some 73) (eeq_ : eq_ = fR H mq (K.1.2 7 4)) (gaq : G aq = some 74) (eaq : aq = fR H mq (K.1.2 7 5)) (gcq : G cq = some 75) (ecq : cq = fR H mq (K.1.2 7 6)) (gdq : G dq = some 76) (edq : dq = fR H mq (K.1.2 7 7)) (etat : tat = fI H a0 (K.1.2 4 7)) (etk : tk = fI H a0 (K.1.2 4 6)) (elw : lw = fI H a0 (K.1.2 4 8)) (efa : fa = fI H a0 (K.1.2 4 1)) (eli : li = fI H mq (K.1.2 7 0)) (esc : sc = fI H mq (K.1.2 7 9)) (hv_bt : ∀ j : Nat, bt j = (fI H a1 j).toInt) : MX l K yX4_start cX4_start 7 none 6 159 0 0 [.ref a0, .ref a1, .int x2, .int x3] H (AE G [78, 79, 80, 81, 69] H.size) (fun v H1 => ∃ (t0 : Int32) (t1 : Int32) (t2 : Int32) (t3 : Int32) (t4 : Int32) (t5 : Int32), v = none ∧ t0 = fI H1 a0 (K.1.2 4 7) ∧ t1 = fI H1 a0 (K.1.2 4 6) ∧ t2 = fI H1 a0 (K.1.2 4 8) ∧ t3 = fI H1 a0 (K.1.2 4 1) ∧ t4 = fI H1 mq (K.1.2 7 0) ∧ t5 = fI H1 mq (K.1.2 7 9) ∧ (t0.toInt = 0 ∧ t2.toInt = x3.toInt ∧ t3.toInt = 0 ∧ t4.toInt = 0 ∧ t5.toInt = 0) ∧ mq = fR H1 a0 (K.1.2 4 0) ∧ kq = fR H1 a0 (K.1.2 4 3) ∧ vq = fR H1 a0 (K.1.2 4 4) ∧ sq = fR H1 mq (K.1.2 7 8) ∧ wq = fR H1 mq (K.1.2 7 1) ∧ fq = fR H1 mq (K.1.2 7 2) ∧ jq = fR H1 mq (K.1.2 7 3) ∧ eq_ = fR H1 mq (K.1.2 7 4) ∧ aq = fR H1 mq (K.1.2 7 5) ∧ cq = fR H1 mq (K.1.2 7 6) ∧ dq = fR H1 mq (K.1.2 7 7) ∧ (∃ F : Int32, (0 ≤ F.toInt ∧ F.toInt ≤ 500) ∧ fI H1 kq F.toNatClampNeg = 26 ∧ TKP H1 kq vq bt x2.toNatClampNeg (F.toNatClampNeg + 1)) ∧ TY K G H1) := by
  refine MX.of (by decide +kernel) (Nat.le_of_ble_eq_true rfl) ?_
  intro p e s m below meth c ls Q C hH hl hQ
  subst hH
  have C : CX p K s m _ meth c RX4 cX4_start 7 none "start" := C
  obtain ⟨hx, hb, hml, hown, hts, hKT, hr, hlocks, hnm⟩ := id C
  have hl : lv_has ls 7 [(0, .ref a0), (1, .ref a1), (2, .int x2), (3, .int x3)] := hl
  have hS : va_S (AE G [78, 79, 80, 81, 69] s.heap.size) s.heap s.heap [] := va_S.rf
  have n_m1 : ((-1) : Int32).toInt = -1 := rfl
  have n_0 : (0 : Int32).toInt = 0 := rfl
  have n_1 : (1 : Int32).toInt = 1 := rfl
  have n_5 : (5 : Int32).toInt = 5 := rfl
  have n_10 : (10 : Int32).toInt = 10 := rfl
  have n_24 : (24 : Int32).toInt = 24 := rfl
  have n_25 : (25 : Int32).toInt = 25 := rfl
  have n_26 : (26 : Int32).toInt = 26 := rfl
  have n_32 : (32 : Int32).toInt = 32 := rfl
  have btat := ty_fi (x := tat) (k := 7) etat hT ga0 rg_78 rfl
  have btk := ty_fi (x := tk) (k := 6) etk hT ga0 rg_78 rfl
  have blw := ty_fi (x := lw) (k := 8) elw hT ga0 rg_78 rfl
  have bfa := ty_fi (x := fa) (k := 1) efa hT ga0 rg_78 rfl
  have bli := ty_fi (x := li) (k := 0) eli hT gmq rg_69 rfl
  have bsc := ty_fi (x := sc) (k := 9) esc hT gmq rg_69 rfl
  have f0_bt := hv_bt
  have f0_tp : TKP s.heap kq vq bt x2.toNatClampNeg 0 := fun j hj => absurd hj (Nat.not_lt_zero j)
  have J35 : ∀ (nf : Nat)  (ls18180 : Array Slot) (H18179 : Heap) (locsH18179 : List Loc) (x18182 : Int32) (x18183 : Int32) (x18184 : Int32) (x18185 : Int32) (x18186 : Int32) (x18187 : Int32) (x18188 : Int32), lv_has ls18180 7 [(0, .ref a0), (1, .ref a1), (2, .int x2), (4, .int x18182)] → TY K G H18179 → va_S (AE G [78, 79, 80, 81, 69] s.heap.size) s.heap H18179 locsH18179 → (0 ≤ x18182.toInt ∧ x18182.toInt ≤ 500) → (0 ≤ x18183.toInt ∧ x18183.toInt ≤ 500) → (0 ≤ x18184.toInt ∧ x18184.toInt ≤ 501) → (0 ≤ x18185.toInt ∧ x18185.toInt ≤ 1) → (0 ≤ x18187.toInt ∧ x18187.toInt ≤ 16) → (0 ≤ x18188.toInt ∧ x18188.toInt ≤ 500) → (x18183 = fI H18179 a0 (K.1.2 4 7)) → (x18184 = fI H18179 a0 (K.1.2 4 6)) → (x18185 = fI H18179 a0 (K.1.2 4 8)) → (x18186 = fI H18179 a0 (K.1.2 4 1)) → (x18187 = fI H18179 mq (K.1.2 7 0)) → (x18188 = fI H18179 mq (K.1.2 7 9)) → (mq = fR H18179 a0 (K.1.2 4 0)) → (kq = fR H18179 a0 (K.1.2 4 3)) → (vq = fR H18179 a0 (K.1.2 4 4)) → (sq = fR H18179 mq (K.1.2 7 8)) → (wq = fR H18179 mq (K.1.2 7 1)) → (fq = fR H18179 mq (K.1.2 7 2)) → (jq = fR H18179 mq (K.1.2 7 3)) → (eq_ = fR H18179 mq (K.1.2 7 4)) → (aq = fR H18179 mq (K.1.2 7 5)) → (cq = fR H18179 mq (K.1.2 7 6)) → (dq = fR H18179 mq (K.1.2 7 7)) → (∀ j : Nat, bt j = (fI H18179 a1 j).toInt) → (TKP H18179 kq vq bt x2.toNatClampNeg (x18184.toNatClampNeg)) → (500 - x18182.toInt < (nf : Int)) → (x18184.toInt ≤ x18182.toInt ∧ x18183.toInt = 0 ∧ x18185.toInt = x3.toInt ∧ x18186.toInt = 0 ∧ x18187.toInt = 0 ∧ x18188.toInt = 0) → (skB bt x2.toNatClampNeg x18182.toNatClampNeg = skB bt x2.toNatClampNeg (pS bt x2.toNatClampNeg x18184.toNatClampNeg)) → W p l e ({ frames := 6, cells := 0, slots := 0, locals := 159 } : Room) s m (([.ref a0, .ref a1, .int x2, .int x3] : List Value).toArray) below meth c H18179 locsH18179 0 0 Q (F0 m 35 ls18180 []) := by
    intro nf
    induction nf with
    | zero =>
      intro  ls18180 H18179 locsH18179 x18182 x18183 x18184 x18185 x18186 x18187 x18188 hl18181 hTH18179 hSH18179 bx18182 bx18183 bx18184 bx18185 bx18187 bx18188 ex18183 ex18184 ex18185 ex18186 ex18187 ex18188 cy18189_0 cy18189_1 cy18189_2 cy18189_3 cy18189_4 cy18189_5 cy18189_6 cy18189_7 cy18189_8 cy18189_9 cy18189_10 fy18189_bt fy18189_tp hm35 iv35 hsp35
      have rx18186 := i_rng x18186
      exfalso
      omega
    | succ nf ih35 =>
      intro  ls18180 H18179 locsH18179 x18182 x18183 x18184 x18185 x18186 x18187 x18188 hl18181 hTH18179 hSH18179 bx18182 bx18183 bx18184 bx18185 bx18187 bx18188 ex18183 ex18184 ex18185 ex18186 ex18187 ex18188 cy18189_0 cy18189_1 cy18189_2 cy18189_3 cy18189_4 cy18189_5 cy18189_6 cy18189_7 cy18189_8 cy18189_9 cy18189_10 fy18189_bt fy18189_tp hm35 iv35 hsp35
      have rx18186 := i_rng x18186
      have J110 : ∀ (nf : Nat)  (ls18191 : Array Slot) (H18190 : Heap) (locsH18190 : List Loc) (x18194 : Int32) (x18195 : Int32) (x18196 : Int32) (x18197 : Int32) (x18198 : Int32) (x18199 : Int32) (x18200 : Int32) (x18201 : Int32), lv_has ls18191 7 [(0, .ref a0), (1, .ref a1), (2, .int x2), (4, .int x18194), (5, .int x18195)] → TY K G H18190 → va_S (AE G [78, 79, 80, 81, 69] s.heap.size) s.heap H18190 locsH18190 → (1 ≤ x2.toInt ∧ x2.toInt ≤ 500) → (1 ≤ x18194.toInt ∧ x18194.toInt ≤ 500) → (0 ≤ x18195.toInt ∧ x18195.toInt ≤ 499) → (0 ≤ x18196.toInt ∧ x18196.toInt ≤ 500) → (0 ≤ x18197.toInt ∧ x18197.toInt ≤ 501) → (0 ≤ x18198.toInt ∧ x18198.toInt ≤ 1) → (0 ≤ x18200.toInt ∧ x18200.toInt ≤ 16) → (0 ≤ x18201.toInt ∧ x18201.toInt ≤ 500) → (x18196 = fI H18190 a0 (K.1.2 4 7)) → (x18197 = fI H18190 a0 (K.1.2 4 6)) → (x18198 = fI H18190 a0 (K.1.2 4 8)) → (x18199 = fI H18190 a0 (K.1.2 4 1)) → (x18200 = fI H18190 mq (K.1.2 7 0)) → (x18201 = fI H18190 mq (K.1.2 7 9)) → (mq = fR H18190 a0 (K.1.2 4 0)) → (kq = fR H18190 a0 (K.1.2 4 3)) → (vq = fR H18190 a0 (K.1.2 4 4)) → (sq = fR H18190 mq (K.1.2 7 8)) → (wq = fR H18190 mq (K.1.2 7 1)) → (fq = fR H18190 mq (K.1.2 7 2)) → (jq = fR H18190 mq (K.1.2 7 3)) → (eq_ = fR H18190 mq (K.1.2 7 4)) → (aq = fR H18190 mq (K.1.2 7 5)) → (cq = fR H18190 mq (K.1.2 7 6)) → (dq = fR H18190 mq (K.1.2 7 7)) → (∀ j : Nat, bt j = (fI H18190 a1 j).toInt) → (TKP H18190 kq vq bt x2.toNatClampNeg (x18197.toNatClampNeg)) → (500 - x18194.toInt < (nf : Int)) → (x18197.toInt ≤ x18195.toInt ∧ x18195.toInt < x18194.toInt ∧ x18195.toInt = x18182.toInt ∧ x18197.toInt = x18184.toInt ∧ x18195.toInt < x2.toInt ∧ x18196.toInt = 0 ∧ x18198.toInt = x3.toInt ∧ x18199.toInt = 0 ∧ x18200.toInt = 0 ∧ x18201.toInt = 0) → (enD bt x2.toNatClampNeg (x18195.toNatClampNeg + 1) = scn (inL x2.toNatClampNeg iDg bt) (500 - x18194.toNatClampNeg) x18194.toNatClampNeg) → (48 ≤ bt x18195.toNatClampNeg ∧ bt x18195.toNatClampNeg ≤ 57) → W p l e ({ frames := 6, cells := 0, slots := 0, locals := 159 } : Room) s m (([.ref a0, .ref a1, .int x2, .int x3] : List Value).toArray) below meth c H18190 locsH18190 0 0 Q (F0 m 110 ls18191 []) := by
        intro nf
        induction nf with
        | zero =>
          intro  ls18191 H18190 locsH18190 x18194 x18195 x18196 x18197 x18198 x18199 x18200 x18201 hl18192 hTH18190 hSH18190 b18193 bx18194 bx18195 bx18196 bx18197 bx18198 bx18200 bx18201 ex18196 ex18197 ex18198 ex18199 ex18200 ex18201 cy18202_0 cy18202_1 cy18202_2 cy18202_3 cy18202_4 cy18202_5 cy18202_6 cy18202_7 cy18202_8 cy18202_9 cy18202_10 fy18202_bt fy18202_tp hm110 iv110 hsp110 hdg110
          have rx18199 := i_rng x18199
          exfalso
          omega
        | succ nf ih110 =>
          intro  ls18191 H18190 locsH18190 x18194 x18195 x18196 x18197 x18198 x18199 x18200 x18201 hl18192 hTH18190 hSH18190 b18193 bx18194 bx18195 bx18196 bx18197 bx18198 bx18200 bx18201 ex18196 ex18197 ex18198 ex18199 ex18200 ex18201 cy18202_0 cy18202_1 cy18202_2 cy18202_3 cy18202_4 cy18202_5 cy18202_6 cy18202_7 cy18202_8 cy18202_9 cy18202_10 fy18202_bt fy18202_tp hm110 iv110 hsp110 hdg110
          have rx18199 := i_rng x18199
          refine lv_iload hx hb dX4_start_110 (lv_at hl18192 3 rfl) ?_
          refine lv_iload_n hx hb dX4_start_112 rfl (lv_at hl18192 2 rfl) ?_
          refine lv_icmp_ge (tgt := 132) hx hb dX4_start_113 (by decide) (fun c18203 => ?_) (fun c18203 => ?_)
          · have k18204 := i_le c18203
            refine lv_aload_n hx hb dX4_start_132 rfl (lv_at hl18192 0 rfl) ?_
            refine lv_iload hx hb dX4_start_133 (lv_at hl18192 3 rfl) ?_
            refine lv_iload hx hb dX4_start_135 (lv_at hl18192 4 rfl) ?_
            refine lv_isub hx hb dX4_start_137 ?_
            refine lv_topi (fun x18205 ex18205 => ?_)
            have tx18205 := i_sub ex18205 (by omega)
            refine lv_iconst (v := 5) hx hb dX4_start_138 (by decide) ?_
            refine lv_icmp_gt (tgt := 147) hx hb dX4_start_139 (by decide) (fun c18206 => ?_) (fun c18206 => ?_)
            · have k18207 := i_lt c18206
              refine lv_bipush (v := 25) hx hb dX4_start_147 (by decide) ?_
              refine lv_aload_n hx hb dX4_start_149 rfl (lv_at hl18192 1 rfl) ?_
              refine lv_iload hx hb dX4_start_150 (lv_at hl18192 4 rfl) ?_
              refine lv_iload hx hb dX4_start_152 (lv_at hl18192 3 rfl) ?_
              have cn_x18195 := i_cl (x := x18195) (by omega)
              have cn_x18194 := i_cl (x := x18194) (by omega)
              have cn_x2 := i_cl (x := x2) (by omega)
              have he18208 : enD bt x2.toNatClampNeg (x18195.toNatClampNeg + 1) = x18194.toNatClampNeg := hsp110.trans (scn_end (inL_o (by omega)))
              refine x_S (As := [.ref a1, .int x18195, .int x18194]) (rest := [.int 25, .ref a0]) C (a_X4_numberAt_e l K G H18190 (x18195) (x18194) bt hTH18190 ga1 (by omega) (by omega) (by omega) (enD_all he18208 hdg110) fy18202_bt) yo_X4_numberAt wM_X4_63 ⟨⟨by decide, by decide⟩, by decide, by decide⟩ rfl hl18192.1 rfl (Nat.le_of_ble_eq_true rfl) dX4_start_154 hSH18190 (AE_sub (fun _ _ => rfl) (by decide) hSH18190.1) (fun vH18209 H18209 locsH18209 pH18209 zH18209 kH18209 hSH18209 => ?_)
              obtain ⟨x18210, hvH18209, m18211, hTH18209⟩ := pH18209
              subst hvH18209
              have f18212 : ∀ j : Nat, bt j = (fI H18209 a1 j).toInt := fun j => (fy18202_bt j).trans (congrArg Int32.toInt (fI_kept (x_lt hTH18190 kH18209 ga1 (by decide))).symm)
              have f18213 : TKP H18209 kq vq bt x2.toNatClampNeg (x18197.toNatClampNeg) := TKP.kept fy18202_tp (x_lt hTH18190 kH18209 gkq (by decide)) (x_lt hTH18190 kH18209 gvq (by decide))
              have m18214 := (ex18196).trans (fI_kept (x_lt hTH18190 kH18209 ga0 (by decide))).symm
              have m18215 := (ex18197).trans (fI_kept (x_lt hTH18190 kH18209 ga0 (by decide))).symm
              have m18216 := (ex18198).trans (fI_kept (x_lt hTH18190 kH18209 ga0 (by decide))).symm
              have m18217 := (ex18199).trans (fI_kept (x_lt hTH18190 kH18209 ga0 (by decide))).symm
              have m18218 := (ex18200).trans (fI_kept (x_lt hTH18190 kH18209 gmq (by decide))).symm
              have m18219 := (ex18201).trans (fI_kept (x_lt hTH18190 kH18209 gmq (by decide))).symm
              have m18220 := (cy18202_0).trans (fR_kept (x_lt hTH18190 kH18209 ga0 (by decide))).symm
              have m18221 := (cy18202_1).trans (fR_kept (x_lt hTH18190 kH18209 ga0 (by decide))).symm
              have m18222 := (cy18202_2).trans (fR_kept (x_lt hTH18190 kH18209 ga0 (by decide))).symm
              have m18223 := (cy18202_3).trans (fR_kept (x_lt hTH18190 kH18209 gmq (by decide))).symm
              have m18224 := (cy18202_4).trans (fR_kept (x_lt hTH18190 kH18209 gmq (by decide))).symm
              have m18225 := (cy18202_5).trans (fR_kept (x_lt hTH18190 kH18209 gmq (by decide))).symm
              have m18226 := (cy18202_6).trans (fR_kept (x_lt hTH18190 kH18209 gmq (by decide))).symm
              have m18227 := (cy18202_7).trans (fR_kept (x_lt hTH18190 kH18209 gmq (by decide))).symm
              have m18228 := (cy18202_8).trans (fR_kept (x_lt hTH18190 kH18209 gmq (by decide))).symm
              have m18229 := (cy18202_9).trans (fR_kept (x_lt hTH18190 kH18209 gmq (by decide))).symm
              have m18230 := (cy18202_10).trans (fR_kept (x_lt hTH18190 kH18209 gmq (by decide))).symm
              refine W.eq (g2 := F0 m 157 ls18191 [.int x18210, .int 25, .ref a0]) rfl ?_
              refine lv_iload hx hb dX4_start_157 (lv_at hl18192 4 rfl) ?_
              refine x_V (As := [.int 25, .int x18210, .int x18195]) (rest := []) C (a_X4_addToken_e l K G H18209 (25) (x18210) (x18195) (x18196) (x18197) (x18198) (x18199) hTH18209 ga0 gmq m18220 gkq m18221 gvq m18222 m18214 m18215 m18216 m18217 (by omega)) yo_X4_addToken wM_X4_56 ⟨⟨by decide, by decide⟩, by decide, by decide⟩ (x_rv C hTH18209 (ci := 4) rfl ga0 rg_78) rfl hl18192.1 rfl (Nat.le_of_ble_eq_true rfl) dX4_start_159 hSH18209 (AE_sub (fun _ _ => rfl) (by decide) hSH18209.1) (fun vH18231 H18231 locsH18231 pH18231 zH18231 kH18231 hSH18231 => ?_)
              obtain ⟨x18232, x18233, x18234, x18235, hvH18231, ex18232, ex18233, ex18234, ex18235, hrH18231, m18236, m18237, m18238, m18239, m18240, m18241, m18242, hTH18231⟩ := pH18231
              subst hvH18231
              have f18243 : ∀ j : Nat, bt j = (fI H18231 a1 j).toInt := fun j => (f18212 j).trans (congrArg Int32.toInt (fI_kept (x_lt hTH18209 kH18231 ga1 (by decide))).symm)
              have m18244 := (m18218).trans (fI_kept (x_lt hTH18209 kH18231 gmq (by decide))).symm
              have m18245 := (m18219).trans (fI_kept (x_lt hTH18209 kH18231 gmq (by decide))).symm
              have m18246 := (m18223).trans (fR_kept (x_lt hTH18209 kH18231 gmq (by decide))).symm
              have m18247 := (m18224).trans (fR_kept (x_lt hTH18209 kH18231 gmq (by decide))).symm
              have m18248 := (m18225).trans (fR_kept (x_lt hTH18209 kH18231 gmq (by decide))).symm
              have m18249 := (m18226).trans (fR_kept (x_lt hTH18209 kH18231 gmq (by decide))).symm
              have m18250 := (m18227).trans (fR_kept (x_lt hTH18209 kH18231 gmq (by decide))).symm
              have m18251 := (m18228).trans (fR_kept (x_lt hTH18209 kH18231 gmq (by decide))).symm
              have m18252 := (m18229).trans (fR_kept (x_lt hTH18209 kH18231 gmq (by decide))).symm
              have m18253 := (m18230).trans (fR_kept (x_lt hTH18209 kH18231 gmq (by decide))).symm
              have bx18232 := ty_fi (x := x18232) (k := 7) ex18232 hTH18231 ga0 rg_78 rfl
              have bx18233 := ty_fi (x := x18233) (k := 6) ex18233 hTH18231 ga0 rg_78 rfl
              have bx18234 := ty_fi (x := x18234) (k := 8) ex18234 hTH18231 ga0 rg_78 rfl
              have bx18235 := ty_fi (x := x18235) (k := 1) ex18235 hTH18231 ga0 rg_78 rfl
              have cn_x18197 := i_cl (x := x18197) (by omega)
              have cn_x18197 := i_cl (x := x18197) (by omega)
              have cn_x18194 := i_cl (x := x18194) (by omega)
              have cn_x2 := i_cl (x := x2) (by omega)
              have cn_x18195 := i_cl (x := x18195) (by omega)
              have cn_x18182 := i_cl (x := x18182) (by omega)
              have cn_x18184 := i_cl (x := x18184) (by omega)
              have hs18257 : skB bt x2.toNatClampNeg x18195.toNatClampNeg = skB bt x2.toNatClampNeg (pS bt x2.toNatClampNeg x18197.toNatClampNeg) := by rw [show x18195.toNatClampNeg = x18182.toNatClampNeg by omega, show x18197.toNatClampNeg = x18184.toNatClampNeg by omega]; exact hsp35
              obtain ⟨tk18254, tk18255, tk18256⟩ := tok_d hs18257 (by omega) hdg110 he18208
              have f18258 : TKP H18231 kq vq bt x2.toNatClampNeg (x18197.toNatClampNeg + 1) := TKP.add f18213 m18241 m18242 m18239 m18240 (by omega) (by rw [tk18254, if_neg (by omega)]; rfl) (by rw [tk18255]; exact m18211.symm)
              refine W.eq (g2 := F0 m 162 ls18191 []) rfl ?_
              refine lv_goto (tgt := 201) hx hb dX4_start_162 (by decide) ?_
              refine lv_goto (tgt := 35) hx hb dX4_start_201 (by decide) ?_
              have cn_x18197 := i_cl (x := x18197) (by omega)
              have cn_x18233 := i_cl (x := x18233) (by omega)
              have cl00 : (0 : Int32).toNatClampNeg = 0 := rfl
              have cn_x18194 := i_cl (x := x18194) (by omega)
              have cn_x18233 := i_cl (x := x18233) (by omega)
              have cn_x18184 := i_cl (x := x18184) (by omega)
              have cn_x2 := i_cl (x := x2) (by omega)
              have cn_x18197 := i_cl (x := x18197) (by omega)
              exact ih35  ls18191 H18231 locsH18231 (x18194) (x18232) (x18233) (x18234) (x18235) (x18200) (x18201) (lv_sub hl18192 [0, 1, 2, 3] rfl) hTH18231 hSH18231 (by have := i_rng x18194; omega) (by have := i_rng x18232; omega) (by have := i_rng x18233; omega) (by have := i_rng x18234; omega) (by have := i_rng x18200; omega) (by have := i_rng x18201; omega) ex18232 ex18233 ex18234 ex18235 m18244 m18245 m18236 m18237 m18238 m18246 m18247 m18248 m18249 m18250 m18251 m18252 m18253 f18243 (TKP.to f18258 (by omega)) (by omega) (by omega) (by rw [show x18233.toNatClampNeg = x18197.toNatClampNeg + 1 by omega, tk18256])
            · have k18207 := i_nlt c18206
              refine lv_bipush (v := 24) hx hb dX4_start_142 (by decide) ?_
              refine lv_goto (tgt := 149) hx hb dX4_start_144 (by decide) ?_
              refine lv_aload_n hx hb dX4_start_149 rfl (lv_at hl18192 1 rfl) ?_
              refine lv_iload hx hb dX4_start_150 (lv_at hl18192 4 rfl) ?_
              refine lv_iload hx hb dX4_start_152 (lv_at hl18192 3 rfl) ?_
              have cn_x18195 := i_cl (x := x18195) (by omega)
              have cn_x18194 := i_cl (x := x18194) (by omega)
              have cn_x2 := i_cl (x := x2) (by omega)
              have he18259 : enD bt x2.toNatClampNeg (x18195.toNatClampNeg + 1) = x18194.toNatClampNeg := hsp110.trans (scn_end (inL_o (by omega)))
              refine x_S (As := [.ref a1, .int x18195, .int x18194]) (rest := [.int 24, .ref a0]) C (a_X4_numberAt_e l K G H18190 (x18195) (x18194) bt hTH18190 ga1 (by omega) (by omega) (by omega) (enD_all he18259 hdg110) fy18202_bt) yo_X4_numberAt wM_X4_63 ⟨⟨by decide, by decide⟩, by decide, by decide⟩ rfl hl18192.1 rfl (Nat.le_of_ble_eq_true rfl) dX4_start_154 hSH18190 (AE_sub (fun _ _ => rfl) (by decide) hSH18190.1) (fun vH18260 H18260 locsH18260 pH18260 zH18260 kH18260 hSH18260 => ?_)
              obtain ⟨x18261, hvH18260, m18262, hTH18260⟩ := pH18260
              subst hvH18260
              have f18263 : ∀ j : Nat, bt j = (fI H18260 a1 j).toInt := fun j => (fy18202_bt j).trans (congrArg Int32.toInt (fI_kept (x_lt hTH18190 kH18260 ga1 (by decide))).symm)
              have f18264 : TKP H18260 kq vq bt x2.toNatClampNeg (x18197.toNatClampNeg) := TKP.kept fy18202_tp (x_lt hTH18190 kH18260 gkq (by decide)) (x_lt hTH18190 kH18260 gvq (by decide))
              have m18265 := (ex18196).trans (fI_kept (x_lt hTH18190 kH18260 ga0 (by decide))).symm
              have m18266 := (ex18197).trans (fI_kept (x_lt hTH18190 kH18260 ga0 (by decide))).symm
              have m18267 := (ex18198).trans (fI_kept (x_lt hTH18190 kH18260 ga0 (by decide))).symm
              have m18268 := (ex18199).trans (fI_kept (x_lt hTH18190 kH18260 ga0 (by decide))).symm
              have m18269 := (ex18200).trans (fI_kept (x_lt hTH18190 kH18260 gmq (by decide))).symm
              have m18270 := (ex18201).trans (fI_kept (x_lt hTH18190 kH18260 gmq (by decide))).symm
              have m18271 := (cy18202_0).trans (fR_kept (x_lt hTH18190 kH18260 ga0 (by decide))).symm
              have m18272 := (cy18202_1).trans (fR_kept (x_lt hTH18190 kH18260 ga0 (by decide))).symm
              have m18273 := (cy18202_2).trans (fR_kept (x_lt hTH18190 kH18260 ga0 (by decide))).symm
              have m18274 := (cy18202_3).trans (fR_kept (x_lt hTH18190 kH18260 gmq (by decide))).symm
              have m18275 := (cy18202_4).trans (fR_kept (x_lt hTH18190 kH18260 gmq (by decide))).symm
              have m18276 := (cy18202_5).trans (fR_kept (x_lt hTH18190 kH18260 gmq (by decide))).symm
              have m18277 := (cy18202_6).trans (fR_kept (x_lt hTH18190 kH18260 gmq (by decide))).symm
              have m18278 := (cy18202_7).trans (fR_kept (x_lt hTH18190 kH18260 gmq (by decide))).symm
              have m18279 := (cy18202_8).trans (fR_kept (x_lt hTH18190 kH18260 gmq (by decide))).symm
              have m18280 := (cy18202_9).trans (fR_kept (x_lt hTH18190 kH18260 gmq (by decide))).symm
              have m18281 := (cy18202_10).trans (fR_kept (x_lt hTH18190 kH18260 gmq (by decide))).symm
              refine W.eq (g2 := F0 m 157 ls18191 [.int x18261, .int 24, .ref a0]) rfl ?_
              refine lv_iload hx hb dX4_start_157 (lv_at hl18192 4 rfl) ?_
              refine x_V (As := [.int 24, .int x18261, .int x18195]) (rest := []) C (a_X4_addToken_e l K G H18260 (24) (x18261) (x18195) (x18196) (x18197) (x18198) (x18199) hTH18260 ga0 gmq m18271 gkq m18272 gvq m18273 m18265 m18266 m18267 m18268 (by omega)) yo_X4_addToken wM_X4_56 ⟨⟨by decide, by decide⟩, by decide, by decide⟩ (x_rv C hTH18260 (ci := 4) rfl ga0 rg_78) rfl hl18192.1 rfl (Nat.le_of_ble_eq_true rfl) dX4_start_159 hSH18260 (AE_sub (fun _ _ => rfl) (by decide) hSH18260.1) (fun vH18282 H18282 locsH18282 pH18282 zH18282 kH18282 hSH18282 => ?_)
              obtain ⟨x18283, x18284, x18285, x18286, hvH18282, ex18283, ex18284, ex18285, ex18286, hrH18282, m18287, m18288, m18289, m18290, m18291, m18292, m18293, hTH18282⟩ := pH18282
              subst hvH18282
              have f18294 : ∀ j : Nat, bt j = (fI H18282 a1 j).toInt := fun j => (f18263 j).trans (congrArg Int32.toInt (fI_kept (x_lt hTH18260 kH18282 ga1 (by decide))).symm)
              have m18295 := (m18269).trans (fI_kept (x_lt hTH18260 kH18282 gmq (by decide))).symm
              have m18296 := (m18270).trans (fI_kept (x_lt hTH18260 kH18282 gmq (by decide))).symm
              have m18297 := (m18274).trans (fR_kept (x_lt hTH18260 kH18282 gmq (by decide))).symm
              have m18298 := (m18275).trans (fR_kept (x_lt hTH18260 kH18282 gmq (by decide))).symm
              have m18299 := (m18276).trans (fR_kept (x_lt hTH18260 kH18282 gmq (by decide))).symm
              have m18300 := (m18277).trans (fR_kept (x_lt hTH18260 kH18282 gmq (by decide))).symm
              have m18301 := (m18278).trans (fR_kept (x_lt hTH18260 kH18282 gmq (by decide))).symm
              have m18302 := (m18279).trans (fR_kept (x_lt hTH18260 kH18282 gmq (by decide))).symm
              have m18303 := (m18280).trans (fR_kept (x_lt hTH18260 kH18282 gmq (by decide))).symm
              have m18304 := (m18281).trans (fR_kept (x_lt hTH18260 kH18282 gmq (by decide))).symm
              have bx18283 := ty_fi (x := x18283) (k := 7) ex18283 hTH18282 ga0 rg_78 rfl
              have bx18284 := ty_fi (x := x18284) (k := 6) ex18284 hTH18282 ga0 rg_78 rfl
              have bx18285 := ty_fi (x := x18285) (k := 8) ex18285 hTH18282 ga0 rg_78 rfl
              have bx18286 := ty_fi (x := x18286) (k := 1) ex18286 hTH18282 ga0 rg_78 rfl
              have cn_x18197 := i_cl (x := x18197) (by omega)
              have cn_x18197 := i_cl (x := x18197) (by omega)
              have cn_x18194 := i_cl (x := x18194) (by omega)
              have cn_x2 := i_cl (x := x2) (by omega)
              have cn_x18195 := i_cl (x := x18195) (by omega)
              have cn_x18182 := i_cl (x := x18182) (by omega)
              have cn_x18184 := i_cl (x := x18184) (by omega)
              have hs18308 : skB bt x2.toNatClampNeg x18195.toNatClampNeg = skB bt x2.toNatClampNeg (pS bt x2.toNatClampNeg x18197.toNatClampNeg) := by rw [show x18195.toNatClampNeg = x18182.toNatClampNeg by omega, show x18197.toNatClampNeg = x18184.toNatClampNeg by omega]; exact hsp35
              obtain ⟨tk18305, tk18306, tk18307⟩ := tok_d hs18308 (by omega) hdg110 he18259
              have f18309 : TKP H18282 kq vq bt x2.toNatClampNeg (x18197.toNatClampNeg + 1) := TKP.add f18264 m18292 m18293 m18290 m18291 (by omega) (by rw [tk18305, if_pos (by omega)]; rfl) (by rw [tk18306]; exact m18262.symm)
              refine W.eq (g2 := F0 m 162 ls18191 []) rfl ?_
              refine lv_goto (tgt := 201) hx hb dX4_start_162 (by decide) ?_
              refine lv_goto (tgt := 35) hx hb dX4_start_201 (by decide) ?_
              have cn_x18197 := i_cl (x := x18197) (by omega)
              have cn_x18284 := i_cl (x := x18284) (by omega)
              have cl00 : (0 : Int32).toNatClampNeg = 0 := rfl
              have cn_x18194 := i_cl (x := x18194) (by omega)
              have cn_x18284 := i_cl (x := x18284) (by omega)
              have cn_x18184 := i_cl (x := x18184) (by omega)
              have cn_x2 := i_cl (x := x2) (by omega)
              have cn_x18197 := i_cl (x := x18197) (by omega)
              exact ih35  ls18191 H18282 locsH18282 (x18194) (x18283) (x18284) (x18285) (x18286) (x18200) (x18201) (lv_sub hl18192 [0, 1, 2, 3] rfl) hTH18282 hSH18282 (by have := i_rng x18194; omega) (by have := i_rng x18283; omega) (by have := i_rng x18284; omega) (by have := i_rng x18285; omega) (by have := i_rng x18200; omega) (by have := i_rng x18201; omega) ex18283 ex18284 ex18285 ex18286 m18295 m18296 m18287 m18288 m18289 m18297 m18298 m18299 m18300 m18301 m18302 m18303 m18304 f18294 (TKP.to f18309 (by omega)) (by omega) (by omega) (by rw [show x18284.toNatClampNeg = x18197.toNatClampNeg + 1 by omega, tk18307])
          · have k18204 := i_nle c18203
            refine lv_aload_n hx hb dX4_start_116 rfl (lv_at hl18192 1 rfl) ?_
            refine lv_iload hx hb dX4_start_117 (lv_at hl18192 3 rfl) ?_
            refine x_ai C hTH18190 ga1 rg_108 ⟨by omega, by show _ < ((500 : Nat) : Int); omega⟩ dX4_start_119 (fun x18310 ex18310 bx18310 => ?_)
            have qvx18310 : bt x18194.toNatClampNeg = x18310.toInt := (fy18202_bt _).trans (congrArg Int32.toInt ex18310.symm)
            refine x_S (As := [.int x18310]) (rest := []) C (a_X4_isDigit_e l K G H18190 (x18310) hTH18190 ) yo_X4_isDigit wM_X4_60 ⟨⟨by decide, by decide⟩, by decide, by decide⟩ rfl hl18192.1 rfl (Nat.le_of_ble_eq_true rfl) dX4_start_120 hSH18190 (AE_sub (fun _ _ => rfl) (by decide) hSH18190.1) (fun vH18311 H18311 locsH18311 pH18311 zH18311 kH18311 hSH18311 => ?_)
            obtain ⟨x18312, hvH18311, bx18312, hrH18311, hTH18311⟩ := pH18311
            subst hvH18311
            have f18313 : ∀ j : Nat, bt j = (fI H18311 a1 j).toInt := fun j => (fy18202_bt j).trans (congrArg Int32.toInt (fI_kept (x_lt hTH18190 kH18311 ga1 (by decide))).symm)
            have f18314 : TKP H18311 kq vq bt x2.toNatClampNeg (x18197.toNatClampNeg) := TKP.kept fy18202_tp (x_lt hTH18190 kH18311 gkq (by decide)) (x_lt hTH18190 kH18311 gvq (by decide))
            have m18315 := (ex18196).trans (fI_kept (x_lt hTH18190 kH18311 ga0 (by decide))).symm
            have m18316 := (ex18197).trans (fI_kept (x_lt hTH18190 kH18311 ga0 (by decide))).symm
            have m18317 := (ex18198).trans (fI_kept (x_lt hTH18190 kH18311 ga0 (by decide))).symm
            have m18318 := (ex18199).trans (fI_kept (x_lt hTH18190 kH18311 ga0 (by decide))).symm
            have m18319 := (ex18200).trans (fI_kept (x_lt hTH18190 kH18311 gmq (by decide))).symm
            have m18320 := (ex18201).trans (fI_kept (x_lt hTH18190 kH18311 gmq (by decide))).symm
            have m18321 := (cy18202_0).trans (fR_kept (x_lt hTH18190 kH18311 ga0 (by decide))).symm
            have m18322 := (cy18202_1).trans (fR_kept (x_lt hTH18190 kH18311 ga0 (by decide))).symm
            have m18323 := (cy18202_2).trans (fR_kept (x_lt hTH18190 kH18311 ga0 (by decide))).symm
            have m18324 := (cy18202_3).trans (fR_kept (x_lt hTH18190 kH18311 gmq (by decide))).symm
            have m18325 := (cy18202_4).trans (fR_kept (x_lt hTH18190 kH18311 gmq (by decide))).symm
            have m18326 := (cy18202_5).trans (fR_kept (x_lt hTH18190 kH18311 gmq (by decide))).symm
            have m18327 := (cy18202_6).trans (fR_kept (x_lt hTH18190 kH18311 gmq (by decide))).symm
            have m18328 := (cy18202_7).trans (fR_kept (x_lt hTH18190 kH18311 gmq (by decide))).symm
            have m18329 := (cy18202_8).trans (fR_kept (x_lt hTH18190 kH18311 gmq (by decide))).symm
            have m18330 := (cy18202_9).trans (fR_kept (x_lt hTH18190 kH18311 gmq (by decide))).symm
            have m18331 := (cy18202_10).trans (fR_kept (x_lt hTH18190 kH18311 gmq (by decide))).symm
            have m18332 := (ex18310).trans (fI_kept (x_lt hTH18190 kH18311 ga1 (by decide))).symm
            refine W.eq (g2 := F0 m 123 ls18191 [.int x18312]) rfl ?_
            refine lv_if_eq (tgt := 132) hx hb dX4_start_123 (by decide) (fun c18333 => ?_) (fun c18333 => ?_)
            · have k18334 := i_eq c18333
              refine lv_aload_n hx hb dX4_start_132 rfl (lv_at hl18192 0 rfl) ?_
              refine lv_iload hx hb dX4_start_133 (lv_at hl18192 3 rfl) ?_
              refine lv_iload hx hb dX4_start_135 (lv_at hl18192 4 rfl) ?_
              refine lv_isub hx hb dX4_start_137 ?_
              refine lv_topi (fun x18335 ex18335 => ?_)
              have tx18335 := i_sub ex18335 (by omega)
              refine lv_iconst (v := 5) hx hb dX4_start_138 (by decide) ?_
              refine lv_icmp_gt (tgt := 147) hx hb dX4_start_139 (by decide) (fun c18336 => ?_) (fun c18336 => ?_)
              · have k18337 := i_lt c18336
                refine lv_bipush (v := 25) hx hb dX4_start_147 (by decide) ?_
                refine lv_aload_n hx hb dX4_start_149 rfl (lv_at hl18192 1 rfl) ?_
                refine lv_iload hx hb dX4_start_150 (lv_at hl18192 4 rfl) ?_
                refine lv_iload hx hb dX4_start_152 (lv_at hl18192 3 rfl) ?_
                have cn_x18195 := i_cl (x := x18195) (by omega)
                have cn_x18194 := i_cl (x := x18194) (by omega)
                have cn_x2 := i_cl (x := x2) (by omega)
                have he18338 : enD bt x2.toNatClampNeg (x18195.toNatClampNeg + 1) = x18194.toNatClampNeg := hsp110.trans (scn_end (inL_n (iDg_n (by rw [qvx18310]; omega))))
                refine x_S (As := [.ref a1, .int x18195, .int x18194]) (rest := [.int 25, .ref a0]) C (a_X4_numberAt_e l K G H18311 (x18195) (x18194) bt hTH18311 ga1 (by omega) (by omega) (by omega) (enD_all he18338 hdg110) f18313) yo_X4_numberAt wM_X4_63 ⟨⟨by decide, by decide⟩, by decide, by decide⟩ rfl hl18192.1 rfl (Nat.le_of_ble_eq_true rfl) dX4_start_154 hSH18311 (AE_sub (fun _ _ => rfl) (by decide) hSH18311.1) (fun vH18339 H18339 locsH18339 pH18339 zH18339 kH18339 hSH18339 => ?_)
                obtain ⟨x18340, hvH18339, m18341, hTH18339⟩ := pH18339
                subst hvH18339
                have f18342 : ∀ j : Nat, bt j = (fI H18339 a1 j).toInt := fun j => (f18313 j).trans (congrArg Int32.toInt (fI_kept (x_lt hTH18311 kH18339 ga1 (by decide))).symm)
                have f18343 : TKP H18339 kq vq bt x2.toNatClampNeg (x18197.toNatClampNeg) := TKP.kept f18314 (x_lt hTH18311 kH18339 gkq (by decide)) (x_lt hTH18311 kH18339 gvq (by decide))
                have m18344 := (m18315).trans (fI_kept (x_lt hTH18311 kH18339 ga0 (by decide))).symm
                have m18345 := (m18316).trans (fI_kept (x_lt hTH18311 kH18339 ga0 (by decide))).symm
                have m18346 := (m18317).trans (fI_kept (x_lt hTH18311 kH18339 ga0 (by decide))).symm
                have m18347 := (m18318).trans (fI_kept (x_lt hTH18311 kH18339 ga0 (by decide))).symm
                have m18348 := (m18319).trans (fI_kept (x_lt hTH18311 kH18339 gmq (by decide))).symm
                have m18349 := (m18320).trans (fI_kept (x_lt hTH18311 kH18339 gmq (by decide))).symm
                have m18350 := (m18321).trans (fR_kept (x_lt hTH18311 kH18339 ga0 (by decide))).symm
                have m18351 := (m18322).trans (fR_kept (x_lt hTH18311 kH18339 ga0 (by decide))).symm
                have m18352 := (m18323).trans (fR_kept (x_lt hTH18311 kH18339 ga0 (by decide))).symm
                have m18353 := (m18324).trans (fR_kept (x_lt hTH18311 kH18339 gmq (by decide))).symm
                have m18354 := (m18325).trans (fR_kept (x_lt hTH18311 kH18339 gmq (by decide))).symm
                have m18355 := (m18326).trans (fR_kept (x_lt hTH18311 kH18339 gmq (by decide))).symm
                have m18356 := (m18327).trans (fR_kept (x_lt hTH18311 kH18339 gmq (by decide))).symm
                have m18357 := (m18328).trans (fR_kept (x_lt hTH18311 kH18339 gmq (by decide))).symm
                have m18358 := (m18329).trans (fR_kept (x_lt hTH18311 kH18339 gmq (by decide))).symm
                have m18359 := (m18330).trans (fR_kept (x_lt hTH18311 kH18339 gmq (by decide))).symm
                have m18360 := (m18331).trans (fR_kept (x_lt hTH18311 kH18339 gmq (by decide))).symm
                have m18361 := (m18332).trans (fI_kept (x_lt hTH18311 kH18339 ga1 (by decide))).symm
                refine W.eq (g2 := F0 m 157 ls18191 [.int x18340, .int 25, .ref a0]) rfl ?_
                refine lv_iload hx hb dX4_start_157 (lv_at hl18192 4 rfl) ?_
                refine x_V (As := [.int 25, .int x18340, .int x18195]) (rest := []) C (a_X4_addToken_e l K G H18339 (25) (x18340) (x18195) (x18196) (x18197) (x18198) (x18199) hTH18339 ga0 gmq m18350 gkq m18351 gvq m18352 m18344 m18345 m18346 m18347 (by omega)) yo_X4_addToken wM_X4_56 ⟨⟨by decide, by decide⟩, by decide, by decide⟩ (x_rv C hTH18339 (ci := 4) rfl ga0 rg_78) rfl hl18192.1 rfl (Nat.le_of_ble_eq_true rfl) dX4_start_159 hSH18339 (AE_sub (fun _ _ => rfl) (by decide) hSH18339.1) (fun vH18362 H18362 locsH18362 pH18362 zH18362 kH18362 hSH18362 => ?_)
                obtain ⟨x18363, x18364, x18365, x18366, hvH18362, ex18363, ex18364, ex18365, ex18366, hrH18362, m18367, m18368, m18369, m18370, m18371, m18372, m18373, hTH18362⟩ := pH18362
                subst hvH18362
                have f18374 : ∀ j : Nat, bt j = (fI H18362 a1 j).toInt := fun j => (f18342 j).trans (congrArg Int32.toInt (fI_kept (x_lt hTH18339 kH18362 ga1 (by decide))).symm)
                have m18375 := (m18348).trans (fI_kept (x_lt hTH18339 kH18362 gmq (by decide))).symm
                have m18376 := (m18349).trans (fI_kept (x_lt hTH18339 kH18362 gmq (by decide))).symm
                have m18377 := (m18353).trans (fR_kept (x_lt hTH18339 kH18362 gmq (by decide))).symm
                have m18378 := (m18354).trans (fR_kept (x_lt hTH18339 kH18362 gmq (by decide))).symm
                have m18379 := (m18355).trans (fR_kept (x_lt hTH18339 kH18362 gmq (by decide))).symm
                have m18380 := (m18356).trans (fR_kept (x_lt hTH18339 kH18362 gmq (by decide))).symm
                have m18381 := (m18357).trans (fR_kept (x_lt hTH18339 kH18362 gmq (by decide))).symm
                have m18382 := (m18358).trans (fR_kept (x_lt hTH18339 kH18362 gmq (by decide))).symm
                have m18383 := (m18359).trans (fR_kept (x_lt hTH18339 kH18362 gmq (by decide))).symm
                have m18384 := (m18360).trans (fR_kept (x_lt hTH18339 kH18362 gmq (by decide))).symm
                have m18385 := (m18361).trans (fI_kept (x_lt hTH18339 kH18362 ga1 (by decide))).symm
                have bx18363 := ty_fi (x := x18363) (k := 7) ex18363 hTH18362 ga0 rg_78 rfl
                have bx18364 := ty_fi (x := x18364) (k := 6) ex18364 hTH18362 ga0 rg_78 rfl
                have bx18365 := ty_fi (x := x18365) (k := 8) ex18365 hTH18362 ga0 rg_78 rfl
                have bx18366 := ty_fi (x := x18366) (k := 1) ex18366 hTH18362 ga0 rg_78 rfl
                have cn_x18197 := i_cl (x := x18197) (by omega)
                have cn_x18197 := i_cl (x := x18197) (by omega)
                have cn_x18194 := i_cl (x := x18194) (by omega)
                have cn_x2 := i_cl (x := x2) (by omega)
                have cn_x18195 := i_cl (x := x18195) (by omega)
                have cn_x18182 := i_cl (x := x18182) (by omega)
                have cn_x18184 := i_cl (x := x18184) (by omega)
                have hs18389 : skB bt x2.toNatClampNeg x18195.toNatClampNeg = skB bt x2.toNatClampNeg (pS bt x2.toNatClampNeg x18197.toNatClampNeg) := by rw [show x18195.toNatClampNeg = x18182.toNatClampNeg by omega, show x18197.toNatClampNeg = x18184.toNatClampNeg by omega]; exact hsp35
                obtain ⟨tk18386, tk18387, tk18388⟩ := tok_d hs18389 (by omega) hdg110 he18338
                have f18390 : TKP H18362 kq vq bt x2.toNatClampNeg (x18197.toNatClampNeg + 1) := TKP.add f18343 m18372 m18373 m18370 m18371 (by omega) (by rw [tk18386, if_neg (by omega)]; rfl) (by rw [tk18387]; exact m18341.symm)
                refine W.eq (g2 := F0 m 162 ls18191 []) rfl ?_
                refine lv_goto (tgt := 201) hx hb dX4_start_162 (by decide) ?_
                refine lv_goto (tgt := 35) hx hb dX4_start_201 (by decide) ?_
                have cn_x18197 := i_cl (x := x18197) (by omega)
                have cn_x18364 := i_cl (x := x18364) (by omega)
                have cl00 : (0 : Int32).toNatClampNeg = 0 := rfl
                have cn_x18194 := i_cl (x := x18194) (by omega)
                have cn_x18364 := i_cl (x := x18364) (by omega)
                have cn_x18184 := i_cl (x := x18184) (by omega)
                have cn_x2 := i_cl (x := x2) (by omega)
                have cn_x18197 := i_cl (x := x18197) (by omega)
                exact ih35  ls18191 H18362 locsH18362 (x18194) (x18363) (x18364) (x18365) (x18366) (x18200) (x18201) (lv_sub hl18192 [0, 1, 2, 3] rfl) hTH18362 hSH18362 (by have := i_rng x18194; omega) (by have := i_rng x18363; omega) (by have := i_rng x18364; omega) (by have := i_rng x18365; omega) (by have := i_rng x18200; omega) (by have := i_rng x18201; omega) ex18363 ex18364 ex18365 ex18366 m18375 m18376 m18367 m18368 m18369 m18377 m18378 m18379 m18380 m18381 m18382 m18383 m18384 f18374 (TKP.to f18390 (by omega)) (by omega) (by omega) (by rw [show x18364.toNatClampNeg = x18197.toNatClampNeg + 1 by omega, tk18388])
              · have k18337 := i_nlt c18336
                refine lv_bipush (v := 24) hx hb dX4_start_142 (by decide) ?_
                refine lv_goto (tgt := 149) hx hb dX4_start_144 (by decide) ?_
                refine lv_aload_n hx hb dX4_start_149 rfl (lv_at hl18192 1 rfl) ?_
                refine lv_iload hx hb dX4_start_150 (lv_at hl18192 4 rfl) ?_
                refine lv_iload hx hb dX4_start_152 (lv_at hl18192 3 rfl) ?_
                have cn_x18195 := i_cl (x := x18195) (by omega)
                have cn_x18194 := i_cl (x := x18194) (by omega)
                have cn_x2 := i_cl (x := x2) (by omega)
                have he18391 : enD bt x2.toNatClampNeg (x18195.toNatClampNeg + 1) = x18194.toNatClampNeg := hsp110.trans (scn_end (inL_n (iDg_n (by rw [qvx18310]; omega))))
                refine x_S (As := [.ref a1, .int x18195, .int x18194]) (rest := [.int 24, .ref a0]) C (a_X4_numberAt_e l K G H18311 (x18195) (x18194) bt hTH18311 ga1 (by omega) (by omega) (by omega) (enD_all he18391 hdg110) f18313) yo_X4_numberAt wM_X4_63 ⟨⟨by decide, by decide⟩, by decide, by decide⟩ rfl hl18192.1 rfl (Nat.le_of_ble_eq_true rfl) dX4_start_154 hSH18311 (AE_sub (fun _ _ => rfl) (by decide) hSH18311.1) (fun vH18392 H18392 locsH18392 pH18392 zH18392 kH18392 hSH18392 => ?_)
                obtain ⟨x18393, hvH18392, m18394, hTH18392⟩ := pH18392
                subst hvH18392
                have f18395 : ∀ j : Nat, bt j = (fI H18392 a1 j).toInt := fun j => (f18313 j).trans (congrArg Int32.toInt (fI_kept (x_lt hTH18311 kH18392 ga1 (by decide))).symm)
                have f18396 : TKP H18392 kq vq bt x2.toNatClampNeg (x18197.toNatClampNeg) := TKP.kept f18314 (x_lt hTH18311 kH18392 gkq (by decide)) (x_lt hTH18311 kH18392 gvq (by decide))
                have m18397 := (m18315).trans (fI_kept (x_lt hTH18311 kH18392 ga0 (by decide))).symm
                have m18398 := (m18316).trans (fI_kept (x_lt hTH18311 kH18392 ga0 (by decide))).symm
                have m18399 := (m18317).trans (fI_kept (x_lt hTH18311 kH18392 ga0 (by decide))).symm
                have m18400 := (m18318).trans (fI_kept (x_lt hTH18311 kH18392 ga0 (by decide))).symm
                have m18401 := (m18319).trans (fI_kept (x_lt hTH18311 kH18392 gmq (by decide))).symm
                have m18402 := (m18320).trans (fI_kept (x_lt hTH18311 kH18392 gmq (by decide))).symm
                have m18403 := (m18321).trans (fR_kept (x_lt hTH18311 kH18392 ga0 (by decide))).symm
                have m18404 := (m18322).trans (fR_kept (x_lt hTH18311 kH18392 ga0 (by decide))).symm
                have m18405 := (m18323).trans (fR_kept (x_lt hTH18311 kH18392 ga0 (by decide))).symm
                have m18406 := (m18324).trans (fR_kept (x_lt hTH18311 kH18392 gmq (by decide))).symm
                have m18407 := (m18325).trans (fR_kept (x_lt hTH18311 kH18392 gmq (by decide))).symm
                have m18408 := (m18326).trans (fR_kept (x_lt hTH18311 kH18392 gmq (by decide))).symm
                have m18409 := (m18327).trans (fR_kept (x_lt hTH18311 kH18392 gmq (by decide))).symm
                have m18410 := (m18328).trans (fR_kept (x_lt hTH18311 kH18392 gmq (by decide))).symm
                have m18411 := (m18329).trans (fR_kept (x_lt hTH18311 kH18392 gmq (by decide))).symm
                have m18412 := (m18330).trans (fR_kept (x_lt hTH18311 kH18392 gmq (by decide))).symm
                have m18413 := (m18331).trans (fR_kept (x_lt hTH18311 kH18392 gmq (by decide))).symm
                have m18414 := (m18332).trans (fI_kept (x_lt hTH18311 kH18392 ga1 (by decide))).symm
                refine W.eq (g2 := F0 m 157 ls18191 [.int x18393, .int 24, .ref a0]) rfl ?_
                refine lv_iload hx hb dX4_start_157 (lv_at hl18192 4 rfl) ?_
                refine x_V (As := [.int 24, .int x18393, .int x18195]) (rest := []) C (a_X4_addToken_e l K G H18392 (24) (x18393) (x18195) (x18196) (x18197) (x18198) (x18199) hTH18392 ga0 gmq m18403 gkq m18404 gvq m18405 m18397 m18398 m18399 m18400 (by omega)) yo_X4_addToken wM_X4_56 ⟨⟨by decide, by decide⟩, by decide, by decide⟩ (x_rv C hTH18392 (ci := 4) rfl ga0 rg_78) rfl hl18192.1 rfl (Nat.le_of_ble_eq_true rfl) dX4_start_159 hSH18392 (AE_sub (fun _ _ => rfl) (by decide) hSH18392.1) (fun vH18415 H18415 locsH18415 pH18415 zH18415 kH18415 hSH18415 => ?_)
                obtain ⟨x18416, x18417, x18418, x18419, hvH18415, ex18416, ex18417, ex18418, ex18419, hrH18415, m18420, m18421, m18422, m18423, m18424, m18425, m18426, hTH18415⟩ := pH18415
                subst hvH18415
                have f18427 : ∀ j : Nat, bt j = (fI H18415 a1 j).toInt := fun j => (f18395 j).trans (congrArg Int32.toInt (fI_kept (x_lt hTH18392 kH18415 ga1 (by decide))).symm)
                have m18428 := (m18401).trans (fI_kept (x_lt hTH18392 kH18415 gmq (by decide))).symm
                have m18429 := (m18402).trans (fI_kept (x_lt hTH18392 kH18415 gmq (by decide))).symm
                have m18430 := (m18406).trans (fR_kept (x_lt hTH18392 kH18415 gmq (by decide))).symm
                have m18431 := (m18407).trans (fR_kept (x_lt hTH18392 kH18415 gmq (by decide))).symm
                have m18432 := (m18408).trans (fR_kept (x_lt hTH18392 kH18415 gmq (by decide))).symm
                have m18433 := (m18409).trans (fR_kept (x_lt hTH18392 kH18415 gmq (by decide))).symm
                have m18434 := (m18410).trans (fR_kept (x_lt hTH18392 kH18415 gmq (by decide))).symm
                have m18435 := (m18411).trans (fR_kept (x_lt hTH18392 kH18415 gmq (by decide))).symm
                have m18436 := (m18412).trans (fR_kept (x_lt hTH18392 kH18415 gmq (by decide))).symm
                have m18437 := (m18413).trans (fR_kept (x_lt hTH18392 kH18415 gmq (by decide))).symm
                have m18438 := (m18414).trans (fI_kept (x_lt hTH18392 kH18415 ga1 (by decide))).symm
                have bx18416 := ty_fi (x := x18416) (k := 7) ex18416 hTH18415 ga0 rg_78 rfl
                have bx18417 := ty_fi (x := x18417) (k := 6) ex18417 hTH18415 ga0 rg_78 rfl
                have bx18418 := ty_fi (x := x18418) (k := 8) ex18418 hTH18415 ga0 rg_78 rfl
                have bx18419 := ty_fi (x := x18419) (k := 1) ex18419 hTH18415 ga0 rg_78 rfl
                have cn_x18197 := i_cl (x := x18197) (by omega)
                have cn_x18197 := i_cl (x := x18197) (by omega)
                have cn_x18194 := i_cl (x := x18194) (by omega)
                have cn_x2 := i_cl (x := x2) (by omega)
                have cn_x18195 := i_cl (x := x18195) (by omega)
                have cn_x18182 := i_cl (x := x18182) (by omega)
                have cn_x18184 := i_cl (x := x18184) (by omega)
                have hs18442 : skB bt x2.toNatClampNeg x18195.toNatClampNeg = skB bt x2.toNatClampNeg (pS bt x2.toNatClampNeg x18197.toNatClampNeg) := by rw [show x18195.toNatClampNeg = x18182.toNatClampNeg by omega, show x18197.toNatClampNeg = x18184.toNatClampNeg by omega]; exact hsp35
                obtain ⟨tk18439, tk18440, tk18441⟩ := tok_d hs18442 (by omega) hdg110 he18391
                have f18443 : TKP H18415 kq vq bt x2.toNatClampNeg (x18197.toNatClampNeg + 1) := TKP.add f18396 m18425 m18426 m18423 m18424 (by omega) (by rw [tk18439, if_pos (by omega)]; rfl) (by rw [tk18440]; exact m18394.symm)
                refine W.eq (g2 := F0 m 162 ls18191 []) rfl ?_
                refine lv_goto (tgt := 201) hx hb dX4_start_162 (by decide) ?_
                refine lv_goto (tgt := 35) hx hb dX4_start_201 (by decide) ?_
                have cn_x18197 := i_cl (x := x18197) (by omega)
                have cn_x18417 := i_cl (x := x18417) (by omega)
                have cl00 : (0 : Int32).toNatClampNeg = 0 := rfl
                have cn_x18194 := i_cl (x := x18194) (by omega)
                have cn_x18417 := i_cl (x := x18417) (by omega)
                have cn_x18184 := i_cl (x := x18184) (by omega)
                have cn_x2 := i_cl (x := x2) (by omega)
                have cn_x18197 := i_cl (x := x18197) (by omega)
                exact ih35  ls18191 H18415 locsH18415 (x18194) (x18416) (x18417) (x18418) (x18419) (x18200) (x18201) (lv_sub hl18192 [0, 1, 2, 3] rfl) hTH18415 hSH18415 (by have := i_rng x18194; omega) (by have := i_rng x18416; omega) (by have := i_rng x18417; omega) (by have := i_rng x18418; omega) (by have := i_rng x18200; omega) (by have := i_rng x18201; omega) ex18416 ex18417 ex18418 ex18419 m18428 m18429 m18420 m18421 m18422 m18430 m18431 m18432 m18433 m18434 m18435 m18436 m18437 f18427 (TKP.to f18443 (by omega)) (by omega) (by omega) (by rw [show x18417.toNatClampNeg = x18197.toNatClampNeg + 1 by omega, tk18441])
            · have k18334 := i_ne c18333
              obtain ⟨x18444, ex18444⟩ : ∃ y : Int32, y = x18194 + 1 := ⟨_, rfl⟩
              have tx18444 := i_add ex18444 (by omega)
              refine lv_iinc (v := x18444) (lv' := [(4, .int x18444), (0, .ref a0), (1, .ref a1), (2, .int x2), (5, .int x18195)]) hx hb dX4_start_126 hl18192 (k := 3) rfl (by rw [ex18444]; rfl) (by decide) rfl (fun ls18445 hl18446 => ?_)
              refine lv_goto (tgt := 110) hx hb dX4_start_129 (by decide) ?_
              have cn_x18197 := i_cl (x := x18197) (by omega)
              have cn_x18197 := i_cl (x := x18197) (by omega)
              have cl00 : (0 : Int32).toNatClampNeg = 0 := rfl
              have cn_x18444 := i_cl (x := x18444) (by omega)
              have cn_x18195 := i_cl (x := x18195) (by omega)
              have cn_x2 := i_cl (x := x2) (by omega)
              have cn_x18194 := i_cl (x := x18194) (by omega)
              exact ih110  ls18445 H18311 locsH18311 (x18444) (x18195) (x18196) (x18197) (x18198) (x18199) (x18200) (x18201) (lv_sub hl18446 [1, 2, 3, 0, 4] rfl) hTH18311 hSH18311 (by have := i_rng x2; omega) (by have := i_rng x18444; omega) (by have := i_rng x18195; omega) (by have := i_rng x18196; omega) (by have := i_rng x18197; omega) (by have := i_rng x18198; omega) (by have := i_rng x18200; omega) (by have := i_rng x18201; omega) m18315 m18316 m18317 m18318 m18319 m18320 m18321 m18322 m18323 m18324 m18325 m18326 m18327 m18328 m18329 m18330 m18331 f18313 (TKP.to f18314 (by omega)) (by omega) (by omega) (hsp110.trans (scn_go (inL_y (by omega) (iDg_y (by rw [qvx18310]; omega))) (by omega) (by omega))) hdg110
      have J62 : ∀ (nf : Nat)  (ls18448 : Array Slot) (H18447 : Heap) (locsH18447 : List Loc) (x18451 : Int32) (x18452 : Int32) (x18453 : Int32) (x18454 : Int32) (x18455 : Int32) (x18456 : Int32) (x18457 : Int32) (x18458 : Int32), lv_has ls18448 7 [(0, .ref a0), (1, .ref a1), (2, .int x2), (4, .int x18451), (5, .int x18452)] → TY K G H18447 → va_S (AE G [78, 79, 80, 81, 69] s.heap.size) s.heap H18447 locsH18447 → (1 ≤ x2.toInt ∧ x2.toInt ≤ 500) → (1 ≤ x18451.toInt ∧ x18451.toInt ≤ 500) → (0 ≤ x18452.toInt ∧ x18452.toInt ≤ 499) → (0 ≤ x18453.toInt ∧ x18453.toInt ≤ 500) → (0 ≤ x18454.toInt ∧ x18454.toInt ≤ 501) → (0 ≤ x18455.toInt ∧ x18455.toInt ≤ 1) → (0 ≤ x18457.toInt ∧ x18457.toInt ≤ 16) → (0 ≤ x18458.toInt ∧ x18458.toInt ≤ 500) → (x18453 = fI H18447 a0 (K.1.2 4 7)) → (x18454 = fI H18447 a0 (K.1.2 4 6)) → (x18455 = fI H18447 a0 (K.1.2 4 8)) → (x18456 = fI H18447 a0 (K.1.2 4 1)) → (x18457 = fI H18447 mq (K.1.2 7 0)) → (x18458 = fI H18447 mq (K.1.2 7 9)) → (mq = fR H18447 a0 (K.1.2 4 0)) → (kq = fR H18447 a0 (K.1.2 4 3)) → (vq = fR H18447 a0 (K.1.2 4 4)) → (sq = fR H18447 mq (K.1.2 7 8)) → (wq = fR H18447 mq (K.1.2 7 1)) → (fq = fR H18447 mq (K.1.2 7 2)) → (jq = fR H18447 mq (K.1.2 7 3)) → (eq_ = fR H18447 mq (K.1.2 7 4)) → (aq = fR H18447 mq (K.1.2 7 5)) → (cq = fR H18447 mq (K.1.2 7 6)) → (dq = fR H18447 mq (K.1.2 7 7)) → (∀ j : Nat, bt j = (fI H18447 a1 j).toInt) → (TKP H18447 kq vq bt x2.toNatClampNeg (x18454.toNatClampNeg)) → (500 - x18451.toInt < (nf : Int)) → (x18454.toInt ≤ x18452.toInt ∧ x18452.toInt < x18451.toInt ∧ x18452.toInt = x18182.toInt ∧ x18454.toInt = x18184.toInt ∧ x18452.toInt < x2.toInt ∧ x18453.toInt = 0 ∧ x18455.toInt = x3.toInt ∧ x18456.toInt = 0 ∧ x18457.toInt = 0 ∧ x18458.toInt = 0) → (enL bt x2.toNatClampNeg (x18452.toNatClampNeg + 1) = scn (inL x2.toNatClampNeg iLt bt) (500 - x18451.toNatClampNeg) x18451.toNatClampNeg) → ((97 ≤ bt x18452.toNatClampNeg ∧ bt x18452.toNatClampNeg ≤ 122) ∨ (65 ≤ bt x18452.toNatClampNeg ∧ bt x18452.toNatClampNeg ≤ 90)) → W p l e ({ frames := 6, cells := 0, slots := 0, locals := 159 } : Room) s m (([.ref a0, .ref a1, .int x2, .int x3] : List Value).toArray) below meth c H18447 locsH18447 0 0 Q (F0 m 62 ls18448 []) := by
        intro nf
        induction nf with
        | zero =>
          intro  ls18448 H18447 locsH18447 x18451 x18452 x18453 x18454 x18455 x18456 x18457 x18458 hl18449 hTH18447 hSH18447 b18450 bx18451 bx18452 bx18453 bx18454 bx18455 bx18457 bx18458 ex18453 ex18454 ex18455 ex18456 ex18457 ex18458 cy18459_0 cy18459_1 cy18459_2 cy18459_3 cy18459_4 cy18459_5 cy18459_6 cy18459_7 cy18459_8 cy18459_9 cy18459_10 fy18459_bt fy18459_tp hm62 iv62 hsp62 hlt62
          have rx18456 := i_rng x18456
          exfalso
          omega
        | succ nf ih62 =>
          intro  ls18448 H18447 locsH18447 x18451 x18452 x18453 x18454 x18455 x18456 x18457 x18458 hl18449 hTH18447 hSH18447 b18450 bx18451 bx18452 bx18453 bx18454 bx18455 bx18457 bx18458 ex18453 ex18454 ex18455 ex18456 ex18457 ex18458 cy18459_0 cy18459_1 cy18459_2 cy18459_3 cy18459_4 cy18459_5 cy18459_6 cy18459_7 cy18459_8 cy18459_9 cy18459_10 fy18459_bt fy18459_tp hm62 iv62 hsp62 hlt62
          have rx18456 := i_rng x18456
          refine lv_iload hx hb dX4_start_62 (lv_at hl18449 3 rfl) ?_
          refine lv_iload_n hx hb dX4_start_64 rfl (lv_at hl18449 2 rfl) ?_
          refine lv_icmp_ge (tgt := 84) hx hb dX4_start_65 (by decide) (fun c18460 => ?_) (fun c18460 => ?_)
          · have k18461 := i_le c18460
            refine lv_aload_n hx hb dX4_start_84 rfl (lv_at hl18449 0 rfl) ?_
            refine lv_aload_n hx hb dX4_start_85 rfl (lv_at hl18449 1 rfl) ?_
            refine lv_iload hx hb dX4_start_86 (lv_at hl18449 4 rfl) ?_
            refine lv_iload hx hb dX4_start_88 (lv_at hl18449 3 rfl) ?_
            refine x_S (As := [.ref a1, .int x18452, .int x18451]) (rest := [.ref a0]) C (a_X4_wordAt_e l K G H18447 (x18452) (x18451) bt hTH18447 ga1 (by omega) (by omega) (by omega) fy18459_bt) yo_X4_wordAt wM_X4_52 ⟨⟨by decide, by decide⟩, by decide, by decide⟩ rfl hl18449.1 rfl (Nat.le_of_ble_eq_true rfl) dX4_start_90 hSH18447 (AE_sub (fun _ _ => rfl) (by decide) hSH18447.1) (fun vH18462 H18462 locsH18462 pH18462 zH18462 kH18462 hSH18462 => ?_)
            obtain ⟨x18463, hvH18462, bx18463, m18464, hTH18462⟩ := pH18462
            subst hvH18462
            have f18465 : ∀ j : Nat, bt j = (fI H18462 a1 j).toInt := fun j => (fy18459_bt j).trans (congrArg Int32.toInt (fI_kept (x_lt hTH18447 kH18462 ga1 (by decide))).symm)
            have f18466 : TKP H18462 kq vq bt x2.toNatClampNeg (x18454.toNatClampNeg) := TKP.kept fy18459_tp (x_lt hTH18447 kH18462 gkq (by decide)) (x_lt hTH18447 kH18462 gvq (by decide))
            have m18467 := (ex18453).trans (fI_kept (x_lt hTH18447 kH18462 ga0 (by decide))).symm
            have m18468 := (ex18454).trans (fI_kept (x_lt hTH18447 kH18462 ga0 (by decide))).symm
            have m18469 := (ex18455).trans (fI_kept (x_lt hTH18447 kH18462 ga0 (by decide))).symm
            have m18470 := (ex18456).trans (fI_kept (x_lt hTH18447 kH18462 ga0 (by decide))).symm
            have m18471 := (ex18457).trans (fI_kept (x_lt hTH18447 kH18462 gmq (by decide))).symm
            have m18472 := (ex18458).trans (fI_kept (x_lt hTH18447 kH18462 gmq (by decide))).symm
            have m18473 := (cy18459_0).trans (fR_kept (x_lt hTH18447 kH18462 ga0 (by decide))).symm
            have m18474 := (cy18459_1).trans (fR_kept (x_lt hTH18447 kH18462 ga0 (by decide))).symm
            have m18475 := (cy18459_2).trans (fR_kept (x_lt hTH18447 kH18462 ga0 (by decide))).symm
            have m18476 := (cy18459_3).trans (fR_kept (x_lt hTH18447 kH18462 gmq (by decide))).symm
            have m18477 := (cy18459_4).trans (fR_kept (x_lt hTH18447 kH18462 gmq (by decide))).symm
            have m18478 := (cy18459_5).trans (fR_kept (x_lt hTH18447 kH18462 gmq (by decide))).symm
            have m18479 := (cy18459_6).trans (fR_kept (x_lt hTH18447 kH18462 gmq (by decide))).symm
            have m18480 := (cy18459_7).trans (fR_kept (x_lt hTH18447 kH18462 gmq (by decide))).symm
            have m18481 := (cy18459_8).trans (fR_kept (x_lt hTH18447 kH18462 gmq (by decide))).symm
            have m18482 := (cy18459_9).trans (fR_kept (x_lt hTH18447 kH18462 gmq (by decide))).symm
            have m18483 := (cy18459_10).trans (fR_kept (x_lt hTH18447 kH18462 gmq (by decide))).symm
            refine W.eq (g2 := F0 m 93 ls18448 [.int x18463, .ref a0]) rfl ?_
            refine lv_iconst (v := 0) hx hb dX4_start_93 (by decide) ?_
            refine lv_iload hx hb dX4_start_94 (lv_at hl18449 4 rfl) ?_
            refine x_V (As := [.int x18463, .int 0, .int x18452]) (rest := []) C (a_X4_addToken_e l K G H18462 (x18463) (0) (x18452) (x18453) (x18454) (x18455) (x18456) hTH18462 ga0 gmq m18473 gkq m18474 gvq m18475 m18467 m18468 m18469 m18470 (by omega)) yo_X4_addToken wM_X4_56 ⟨⟨by decide, by decide⟩, by decide, by decide⟩ (x_rv C hTH18462 (ci := 4) rfl ga0 rg_78) rfl hl18449.1 rfl (Nat.le_of_ble_eq_true rfl) dX4_start_96 hSH18462 (AE_sub (fun _ _ => rfl) (by decide) hSH18462.1) (fun vH18484 H18484 locsH18484 pH18484 zH18484 kH18484 hSH18484 => ?_)
            obtain ⟨x18485, x18486, x18487, x18488, hvH18484, ex18485, ex18486, ex18487, ex18488, hrH18484, m18489, m18490, m18491, m18492, m18493, m18494, m18495, hTH18484⟩ := pH18484
            subst hvH18484
            have f18496 : ∀ j : Nat, bt j = (fI H18484 a1 j).toInt := fun j => (f18465 j).trans (congrArg Int32.toInt (fI_kept (x_lt hTH18462 kH18484 ga1 (by decide))).symm)
            have m18497 := (m18471).trans (fI_kept (x_lt hTH18462 kH18484 gmq (by decide))).symm
            have m18498 := (m18472).trans (fI_kept (x_lt hTH18462 kH18484 gmq (by decide))).symm
            have m18499 := (m18476).trans (fR_kept (x_lt hTH18462 kH18484 gmq (by decide))).symm
            have m18500 := (m18477).trans (fR_kept (x_lt hTH18462 kH18484 gmq (by decide))).symm
            have m18501 := (m18478).trans (fR_kept (x_lt hTH18462 kH18484 gmq (by decide))).symm
            have m18502 := (m18479).trans (fR_kept (x_lt hTH18462 kH18484 gmq (by decide))).symm
            have m18503 := (m18480).trans (fR_kept (x_lt hTH18462 kH18484 gmq (by decide))).symm
            have m18504 := (m18481).trans (fR_kept (x_lt hTH18462 kH18484 gmq (by decide))).symm
            have m18505 := (m18482).trans (fR_kept (x_lt hTH18462 kH18484 gmq (by decide))).symm
            have m18506 := (m18483).trans (fR_kept (x_lt hTH18462 kH18484 gmq (by decide))).symm
            have bx18485 := ty_fi (x := x18485) (k := 7) ex18485 hTH18484 ga0 rg_78 rfl
            have bx18486 := ty_fi (x := x18486) (k := 6) ex18486 hTH18484 ga0 rg_78 rfl
            have bx18487 := ty_fi (x := x18487) (k := 8) ex18487 hTH18484 ga0 rg_78 rfl
            have bx18488 := ty_fi (x := x18488) (k := 1) ex18488 hTH18484 ga0 rg_78 rfl
            have cn_x18454 := i_cl (x := x18454) (by omega)
            have cn_x18454 := i_cl (x := x18454) (by omega)
            have cn_x18451 := i_cl (x := x18451) (by omega)
            have cn_x2 := i_cl (x := x2) (by omega)
            have cn_x18452 := i_cl (x := x18452) (by omega)
            have cn_x18182 := i_cl (x := x18182) (by omega)
            have cn_x18184 := i_cl (x := x18184) (by omega)
            have hs18510 : skB bt x2.toNatClampNeg x18452.toNatClampNeg = skB bt x2.toNatClampNeg (pS bt x2.toNatClampNeg x18454.toNatClampNeg) := by rw [show x18452.toNatClampNeg = x18182.toNatClampNeg by omega, show x18454.toNatClampNeg = x18184.toNatClampNeg by omega]; exact hsp35
            have cn_x18452 := i_cl (x := x18452) (by omega)
            have cn_x18451 := i_cl (x := x18451) (by omega)
            have cn_x2 := i_cl (x := x2) (by omega)
            have he18511 : enL bt x2.toNatClampNeg (x18452.toNatClampNeg + 1) = x18451.toNatClampNeg := hsp62.trans (scn_end (inL_o (by omega)))
            obtain ⟨tk18507, tk18508, tk18509⟩ := tok_w hs18510 (by omega) hlt62 he18511
            have f18512 : TKP H18484 kq vq bt x2.toNatClampNeg (x18454.toNatClampNeg + 1) := TKP.add f18466 m18494 m18495 m18492 m18493 (by omega) (by rw [tk18507]; exact m18464.symm) (by rw [tk18508]; rfl)
            refine W.eq (g2 := F0 m 99 ls18448 []) rfl ?_
            refine lv_goto (tgt := 201) hx hb dX4_start_99 (by decide) ?_
            refine lv_goto (tgt := 35) hx hb dX4_start_201 (by decide) ?_
            have cn_x18454 := i_cl (x := x18454) (by omega)
            have cn_x18486 := i_cl (x := x18486) (by omega)
            have cl00 : (0 : Int32).toNatClampNeg = 0 := rfl
            have cn_x18451 := i_cl (x := x18451) (by omega)
            have cn_x18486 := i_cl (x := x18486) (by omega)
            have cn_x18184 := i_cl (x := x18184) (by omega)
            have cn_x2 := i_cl (x := x2) (by omega)
            have cn_x18454 := i_cl (x := x18454) (by omega)
            exact ih35  ls18448 H18484 locsH18484 (x18451) (x18485) (x18486) (x18487) (x18488) (x18457) (x18458) (lv_sub hl18449 [0, 1, 2, 3] rfl) hTH18484 hSH18484 (by have := i_rng x18451; omega) (by have := i_rng x18485; omega) (by have := i_rng x18486; omega) (by have := i_rng x18487; omega) (by have := i_rng x18457; omega) (by have := i_rng x18458; omega) ex18485 ex18486 ex18487 ex18488 m18497 m18498 m18489 m18490 m18491 m18499 m18500 m18501 m18502 m18503 m18504 m18505 m18506 f18496 (TKP.to f18512 (by omega)) (by omega) (by omega) (by rw [show x18486.toNatClampNeg = x18454.toNatClampNeg + 1 by omega, tk18509])
          · have k18461 := i_nle c18460
            refine lv_aload_n hx hb dX4_start_68 rfl (lv_at hl18449 1 rfl) ?_
            refine lv_iload hx hb dX4_start_69 (lv_at hl18449 3 rfl) ?_
            refine x_ai C hTH18447 ga1 rg_108 ⟨by omega, by show _ < ((500 : Nat) : Int); omega⟩ dX4_start_71 (fun x18513 ex18513 bx18513 => ?_)
            have qvx18513 : bt x18451.toNatClampNeg = x18513.toInt := (fy18459_bt _).trans (congrArg Int32.toInt ex18513.symm)
            refine x_S (As := [.int x18513]) (rest := []) C (a_X4_isLetter_e l K G H18447 (x18513) hTH18447 ) yo_X4_isLetter wM_X4_48 ⟨⟨by decide, by decide⟩, by decide, by decide⟩ rfl hl18449.1 rfl (Nat.le_of_ble_eq_true rfl) dX4_start_72 hSH18447 (AE_sub (fun _ _ => rfl) (by decide) hSH18447.1) (fun vH18514 H18514 locsH18514 pH18514 zH18514 kH18514 hSH18514 => ?_)
            obtain ⟨x18515, hvH18514, bx18515, hrH18514, hTH18514⟩ := pH18514
            subst hvH18514
            have f18516 : ∀ j : Nat, bt j = (fI H18514 a1 j).toInt := fun j => (fy18459_bt j).trans (congrArg Int32.toInt (fI_kept (x_lt hTH18447 kH18514 ga1 (by decide))).symm)
            have f18517 : TKP H18514 kq vq bt x2.toNatClampNeg (x18454.toNatClampNeg) := TKP.kept fy18459_tp (x_lt hTH18447 kH18514 gkq (by decide)) (x_lt hTH18447 kH18514 gvq (by decide))
            have m18518 := (ex18453).trans (fI_kept (x_lt hTH18447 kH18514 ga0 (by decide))).symm
            have m18519 := (ex18454).trans (fI_kept (x_lt hTH18447 kH18514 ga0 (by decide))).symm
            have m18520 := (ex18455).trans (fI_kept (x_lt hTH18447 kH18514 ga0 (by decide))).symm
            have m18521 := (ex18456).trans (fI_kept (x_lt hTH18447 kH18514 ga0 (by decide))).symm
            have m18522 := (ex18457).trans (fI_kept (x_lt hTH18447 kH18514 gmq (by decide))).symm
            have m18523 := (ex18458).trans (fI_kept (x_lt hTH18447 kH18514 gmq (by decide))).symm
            have m18524 := (cy18459_0).trans (fR_kept (x_lt hTH18447 kH18514 ga0 (by decide))).symm
            have m18525 := (cy18459_1).trans (fR_kept (x_lt hTH18447 kH18514 ga0 (by decide))).symm
            have m18526 := (cy18459_2).trans (fR_kept (x_lt hTH18447 kH18514 ga0 (by decide))).symm
            have m18527 := (cy18459_3).trans (fR_kept (x_lt hTH18447 kH18514 gmq (by decide))).symm
            have m18528 := (cy18459_4).trans (fR_kept (x_lt hTH18447 kH18514 gmq (by decide))).symm
            have m18529 := (cy18459_5).trans (fR_kept (x_lt hTH18447 kH18514 gmq (by decide))).symm
            have m18530 := (cy18459_6).trans (fR_kept (x_lt hTH18447 kH18514 gmq (by decide))).symm
            have m18531 := (cy18459_7).trans (fR_kept (x_lt hTH18447 kH18514 gmq (by decide))).symm
            have m18532 := (cy18459_8).trans (fR_kept (x_lt hTH18447 kH18514 gmq (by decide))).symm
            have m18533 := (cy18459_9).trans (fR_kept (x_lt hTH18447 kH18514 gmq (by decide))).symm
            have m18534 := (cy18459_10).trans (fR_kept (x_lt hTH18447 kH18514 gmq (by decide))).symm
            have m18535 := (ex18513).trans (fI_kept (x_lt hTH18447 kH18514 ga1 (by decide))).symm
            refine W.eq (g2 := F0 m 75 ls18448 [.int x18515]) rfl ?_
            refine lv_if_eq (tgt := 84) hx hb dX4_start_75 (by decide) (fun c18536 => ?_) (fun c18536 => ?_)
            · have k18537 := i_eq c18536
              refine lv_aload_n hx hb dX4_start_84 rfl (lv_at hl18449 0 rfl) ?_
              refine lv_aload_n hx hb dX4_start_85 rfl (lv_at hl18449 1 rfl) ?_
              refine lv_iload hx hb dX4_start_86 (lv_at hl18449 4 rfl) ?_
              refine lv_iload hx hb dX4_start_88 (lv_at hl18449 3 rfl) ?_
              refine x_S (As := [.ref a1, .int x18452, .int x18451]) (rest := [.ref a0]) C (a_X4_wordAt_e l K G H18514 (x18452) (x18451) bt hTH18514 ga1 (by omega) (by omega) (by omega) f18516) yo_X4_wordAt wM_X4_52 ⟨⟨by decide, by decide⟩, by decide, by decide⟩ rfl hl18449.1 rfl (Nat.le_of_ble_eq_true rfl) dX4_start_90 hSH18514 (AE_sub (fun _ _ => rfl) (by decide) hSH18514.1) (fun vH18538 H18538 locsH18538 pH18538 zH18538 kH18538 hSH18538 => ?_)
              obtain ⟨x18539, hvH18538, bx18539, m18540, hTH18538⟩ := pH18538
              subst hvH18538
              have f18541 : ∀ j : Nat, bt j = (fI H18538 a1 j).toInt := fun j => (f18516 j).trans (congrArg Int32.toInt (fI_kept (x_lt hTH18514 kH18538 ga1 (by decide))).symm)
              have f18542 : TKP H18538 kq vq bt x2.toNatClampNeg (x18454.toNatClampNeg) := TKP.kept f18517 (x_lt hTH18514 kH18538 gkq (by decide)) (x_lt hTH18514 kH18538 gvq (by decide))
              have m18543 := (m18518).trans (fI_kept (x_lt hTH18514 kH18538 ga0 (by decide))).symm
              have m18544 := (m18519).trans (fI_kept (x_lt hTH18514 kH18538 ga0 (by decide))).symm
              have m18545 := (m18520).trans (fI_kept (x_lt hTH18514 kH18538 ga0 (by decide))).symm
              have m18546 := (m18521).trans (fI_kept (x_lt hTH18514 kH18538 ga0 (by decide))).symm
              have m18547 := (m18522).trans (fI_kept (x_lt hTH18514 kH18538 gmq (by decide))).symm
              have m18548 := (m18523).trans (fI_kept (x_lt hTH18514 kH18538 gmq (by decide))).symm
              have m18549 := (m18524).trans (fR_kept (x_lt hTH18514 kH18538 ga0 (by decide))).symm
              have m18550 := (m18525).trans (fR_kept (x_lt hTH18514 kH18538 ga0 (by decide))).symm
              have m18551 := (m18526).trans (fR_kept (x_lt hTH18514 kH18538 ga0 (by decide))).symm
              have m18552 := (m18527).trans (fR_kept (x_lt hTH18514 kH18538 gmq (by decide))).symm
              have m18553 := (m18528).trans (fR_kept (x_lt hTH18514 kH18538 gmq (by decide))).symm
              have m18554 := (m18529).trans (fR_kept (x_lt hTH18514 kH18538 gmq (by decide))).symm
              have m18555 := (m18530).trans (fR_kept (x_lt hTH18514 kH18538 gmq (by decide))).symm
              have m18556 := (m18531).trans (fR_kept (x_lt hTH18514 kH18538 gmq (by decide))).symm
              have m18557 := (m18532).trans (fR_kept (x_lt hTH18514 kH18538 gmq (by decide))).symm
              have m18558 := (m18533).trans (fR_kept (x_lt hTH18514 kH18538 gmq (by decide))).symm
              have m18559 := (m18534).trans (fR_kept (x_lt hTH18514 kH18538 gmq (by decide))).symm
              have m18560 := (m18535).trans (fI_kept (x_lt hTH18514 kH18538 ga1 (by decide))).symm
              refine W.eq (g2 := F0 m 93 ls18448 [.int x18539, .ref a0]) rfl ?_
              refine lv_iconst (v := 0) hx hb dX4_start_93 (by decide) ?_
              refine lv_iload hx hb dX4_start_94 (lv_at hl18449 4 rfl) ?_
              refine x_V (As := [.int x18539, .int 0, .int x18452]) (rest := []) C (a_X4_addToken_e l K G H18538 (x18539) (0) (x18452) (x18453) (x18454) (x18455) (x18456) hTH18538 ga0 gmq m18549 gkq m18550 gvq m18551 m18543 m18544 m18545 m18546 (by omega)) yo_X4_addToken wM_X4_56 ⟨⟨by decide, by decide⟩, by decide, by decide⟩ (x_rv C hTH18538 (ci := 4) rfl ga0 rg_78) rfl hl18449.1 rfl (Nat.le_of_ble_eq_true rfl) dX4_start_96 hSH18538 (AE_sub (fun _ _ => rfl) (by decide) hSH18538.1) (fun vH18561 H18561 locsH18561 pH18561 zH18561 kH18561 hSH18561 => ?_)
              obtain ⟨x18562, x18563, x18564, x18565, hvH18561, ex18562, ex18563, ex18564, ex18565, hrH18561, m18566, m18567, m18568, m18569, m18570, m18571, m18572, hTH18561⟩ := pH18561
              subst hvH18561
              have f18573 : ∀ j : Nat, bt j = (fI H18561 a1 j).toInt := fun j => (f18541 j).trans (congrArg Int32.toInt (fI_kept (x_lt hTH18538 kH18561 ga1 (by decide))).symm)
              have m18574 := (m18547).trans (fI_kept (x_lt hTH18538 kH18561 gmq (by decide))).symm
              have m18575 := (m18548).trans (fI_kept (x_lt hTH18538 kH18561 gmq (by decide))).symm
              have m18576 := (m18552).trans (fR_kept (x_lt hTH18538 kH18561 gmq (by decide))).symm
              have m18577 := (m18553).trans (fR_kept (x_lt hTH18538 kH18561 gmq (by decide))).symm
              have m18578 := (m18554).trans (fR_kept (x_lt hTH18538 kH18561 gmq (by decide))).symm
              have m18579 := (m18555).trans (fR_kept (x_lt hTH18538 kH18561 gmq (by decide))).symm
              have m18580 := (m18556).trans (fR_kept (x_lt hTH18538 kH18561 gmq (by decide))).symm
              have m18581 := (m18557).trans (fR_kept (x_lt hTH18538 kH18561 gmq (by decide))).symm
              have m18582 := (m18558).trans (fR_kept (x_lt hTH18538 kH18561 gmq (by decide))).symm
              have m18583 := (m18559).trans (fR_kept (x_lt hTH18538 kH18561 gmq (by decide))).symm
              have m18584 := (m18560).trans (fI_kept (x_lt hTH18538 kH18561 ga1 (by decide))).symm
              have bx18562 := ty_fi (x := x18562) (k := 7) ex18562 hTH18561 ga0 rg_78 rfl
              have bx18563 := ty_fi (x := x18563) (k := 6) ex18563 hTH18561 ga0 rg_78 rfl
              have bx18564 := ty_fi (x := x18564) (k := 8) ex18564 hTH18561 ga0 rg_78 rfl
              have bx18565 := ty_fi (x := x18565) (k := 1) ex18565 hTH18561 ga0 rg_78 rfl
              have cn_x18454 := i_cl (x := x18454) (by omega)
              have cn_x18454 := i_cl (x := x18454) (by omega)
              have cn_x18451 := i_cl (x := x18451) (by omega)
              have cn_x2 := i_cl (x := x2) (by omega)
              have cn_x18452 := i_cl (x := x18452) (by omega)
              have cn_x18182 := i_cl (x := x18182) (by omega)
              have cn_x18184 := i_cl (x := x18184) (by omega)
              have hs18588 : skB bt x2.toNatClampNeg x18452.toNatClampNeg = skB bt x2.toNatClampNeg (pS bt x2.toNatClampNeg x18454.toNatClampNeg) := by rw [show x18452.toNatClampNeg = x18182.toNatClampNeg by omega, show x18454.toNatClampNeg = x18184.toNatClampNeg by omega]; exact hsp35
              have cn_x18452 := i_cl (x := x18452) (by omega)
              have cn_x18451 := i_cl (x := x18451) (by omega)
              have cn_x2 := i_cl (x := x2) (by omega)
              have he18589 : enL bt x2.toNatClampNeg (x18452.toNatClampNeg + 1) = x18451.toNatClampNeg := hsp62.trans (scn_end (inL_n (iLt_n (by rw [qvx18513]; omega))))
              obtain ⟨tk18585, tk18586, tk18587⟩ := tok_w hs18588 (by omega) hlt62 he18589
              have f18590 : TKP H18561 kq vq bt x2.toNatClampNeg (x18454.toNatClampNeg + 1) := TKP.add f18542 m18571 m18572 m18569 m18570 (by omega) (by rw [tk18585]; exact m18540.symm) (by rw [tk18586]; rfl)
              refine W.eq (g2 := F0 m 99 ls18448 []) rfl ?_
              refine lv_goto (tgt := 201) hx hb dX4_start_99 (by decide) ?_
              refine lv_goto (tgt := 35) hx hb dX4_start_201 (by decide) ?_
              have cn_x18454 := i_cl (x := x18454) (by omega)
              have cn_x18563 := i_cl (x := x18563) (by omega)
              have cl00 : (0 : Int32).toNatClampNeg = 0 := rfl
              have cn_x18451 := i_cl (x := x18451) (by omega)
              have cn_x18563 := i_cl (x := x18563) (by omega)
              have cn_x18184 := i_cl (x := x18184) (by omega)
              have cn_x2 := i_cl (x := x2) (by omega)
              have cn_x18454 := i_cl (x := x18454) (by omega)
              exact ih35  ls18448 H18561 locsH18561 (x18451) (x18562) (x18563) (x18564) (x18565) (x18457) (x18458) (lv_sub hl18449 [0, 1, 2, 3] rfl) hTH18561 hSH18561 (by have := i_rng x18451; omega) (by have := i_rng x18562; omega) (by have := i_rng x18563; omega) (by have := i_rng x18564; omega) (by have := i_rng x18457; omega) (by have := i_rng x18458; omega) ex18562 ex18563 ex18564 ex18565 m18574 m18575 m18566 m18567 m18568 m18576 m18577 m18578 m18579 m18580 m18581 m18582 m18583 f18573 (TKP.to f18590 (by omega)) (by omega) (by omega) (by rw [show x18563.toNatClampNeg = x18454.toNatClampNeg + 1 by omega, tk18587])
            · have k18537 := i_ne c18536
              obtain ⟨x18591, ex18591⟩ : ∃ y : Int32, y = x18451 + 1 := ⟨_, rfl⟩
              have tx18591 := i_add ex18591 (by omega)
              refine lv_iinc (v := x18591) (lv' := [(4, .int x18591), (0, .ref a0), (1, .ref a1), (2, .int x2), (5, .int x18452)]) hx hb dX4_start_78 hl18449 (k := 3) rfl (by rw [ex18591]; rfl) (by decide) rfl (fun ls18592 hl18593 => ?_)
              refine lv_goto (tgt := 62) hx hb dX4_start_81 (by decide) ?_
              have cn_x18454 := i_cl (x := x18454) (by omega)
              have cn_x18454 := i_cl (x := x18454) (by omega)
              have cl00 : (0 : Int32).toNatClampNeg = 0 := rfl
              have cn_x18591 := i_cl (x := x18591) (by omega)
              have cn_x18452 := i_cl (x := x18452) (by omega)
              have cn_x2 := i_cl (x := x2) (by omega)
              have cn_x18451 := i_cl (x := x18451) (by omega)
              exact ih62  ls18592 H18514 locsH18514 (x18591) (x18452) (x18453) (x18454) (x18455) (x18456) (x18457) (x18458) (lv_sub hl18593 [1, 2, 3, 0, 4] rfl) hTH18514 hSH18514 (by have := i_rng x2; omega) (by have := i_rng x18591; omega) (by have := i_rng x18452; omega) (by have := i_rng x18453; omega) (by have := i_rng x18454; omega) (by have := i_rng x18455; omega) (by have := i_rng x18457; omega) (by have := i_rng x18458; omega) m18518 m18519 m18520 m18521 m18522 m18523 m18524 m18525 m18526 m18527 m18528 m18529 m18530 m18531 m18532 m18533 m18534 f18516 (TKP.to f18517 (by omega)) (by omega) (by omega) (hsp62.trans (scn_go (inL_y (by omega) (iLt_y (by rw [qvx18513]; omega))) (by omega) (by omega))) hlt62
      refine lv_iload hx hb dX4_start_35 (lv_at hl18181 3 rfl) ?_
      refine lv_iload_n hx hb dX4_start_37 rfl (lv_at hl18181 2 rfl) ?_
      refine lv_icmp_ge (tgt := 204) hx hb dX4_start_38 (by decide) (fun c18594 => ?_) (fun c18594 => ?_)
      · have k18595 := i_le c18594
        refine lv_aload_n hx hb dX4_start_204 rfl (lv_at hl18181 0 rfl) ?_
        refine lv_bipush (v := 26) hx hb dX4_start_205 (by decide) ?_
        refine lv_iconst (v := 0) hx hb dX4_start_207 (by decide) ?_
        refine lv_iload_n hx hb dX4_start_208 rfl (lv_at hl18181 2 rfl) ?_
        refine x_V (As := [.int 26, .int 0, .int x2]) (rest := []) C (a_X4_addToken_e l K G H18179 (26) (0) (x2) (x18183) (x18184) (x18185) (x18186) hTH18179 ga0 gmq cy18189_0 gkq cy18189_1 gvq cy18189_2 ex18183 ex18184 ex18185 ex18186 (by omega)) yo_X4_addToken wM_X4_56 ⟨⟨by decide, by decide⟩, by decide, by decide⟩ (x_rv C hTH18179 (ci := 4) rfl ga0 rg_78) rfl hl18181.1 rfl (Nat.le_of_ble_eq_true rfl) dX4_start_209 hSH18179 (AE_sub (fun _ _ => rfl) (by decide) hSH18179.1) (fun vH18596 H18596 locsH18596 pH18596 zH18596 kH18596 hSH18596 => ?_)
        obtain ⟨x18597, x18598, x18599, x18600, hvH18596, ex18597, ex18598, ex18599, ex18600, hrH18596, m18601, m18602, m18603, m18604, m18605, m18606, m18607, hTH18596⟩ := pH18596
        subst hvH18596
        have f18608 : ∀ j : Nat, bt j = (fI H18596 a1 j).toInt := fun j => (fy18189_bt j).trans (congrArg Int32.toInt (fI_kept (x_lt hTH18179 kH18596 ga1 (by decide))).symm)
        have m18609 := (ex18187).trans (fI_kept (x_lt hTH18179 kH18596 gmq (by decide))).symm
        have m18610 := (ex18188).trans (fI_kept (x_lt hTH18179 kH18596 gmq (by decide))).symm
        have m18611 := (cy18189_3).trans (fR_kept (x_lt hTH18179 kH18596 gmq (by decide))).symm
        have m18612 := (cy18189_4).trans (fR_kept (x_lt hTH18179 kH18596 gmq (by decide))).symm
        have m18613 := (cy18189_5).trans (fR_kept (x_lt hTH18179 kH18596 gmq (by decide))).symm
        have m18614 := (cy18189_6).trans (fR_kept (x_lt hTH18179 kH18596 gmq (by decide))).symm
        have m18615 := (cy18189_7).trans (fR_kept (x_lt hTH18179 kH18596 gmq (by decide))).symm
        have m18616 := (cy18189_8).trans (fR_kept (x_lt hTH18179 kH18596 gmq (by decide))).symm
        have m18617 := (cy18189_9).trans (fR_kept (x_lt hTH18179 kH18596 gmq (by decide))).symm
        have m18618 := (cy18189_10).trans (fR_kept (x_lt hTH18179 kH18596 gmq (by decide))).symm
        have bx18597 := ty_fi (x := x18597) (k := 7) ex18597 hTH18596 ga0 rg_78 rfl
        have bx18598 := ty_fi (x := x18598) (k := 6) ex18598 hTH18596 ga0 rg_78 rfl
        have bx18599 := ty_fi (x := x18599) (k := 8) ex18599 hTH18596 ga0 rg_78 rfl
        have bx18600 := ty_fi (x := x18600) (k := 1) ex18600 hTH18596 ga0 rg_78 rfl
        have cn_x18184 := i_cl (x := x18184) (by omega)
        have cn_x18184 := i_cl (x := x18184) (by omega)
        have cn_x18182 := i_cl (x := x18182) (by omega)
        have cn_x2 := i_cl (x := x2) (by omega)
        have cn_x18182 := i_cl (x := x18182) (by omega)
        have cn_x18182 := i_cl (x := x18182) (by omega)
        have cn_x18184 := i_cl (x := x18184) (by omega)
        have hs18622 : skB bt x2.toNatClampNeg x18182.toNatClampNeg = skB bt x2.toNatClampNeg (pS bt x2.toNatClampNeg x18184.toNatClampNeg) := hsp35
        obtain ⟨tk18619, tk18620⟩ := tok_e hs18622 (by omega)
        have f18623 : TKP H18596 kq vq bt x2.toNatClampNeg (x18184.toNatClampNeg + 1) := TKP.add fy18189_tp m18606 m18607 m18604 m18605 (by omega) (by rw [tk18619]; rfl) (by rw [tk18620]; rfl)
        refine W.eq (g2 := F0 m 212 ls18180 []) rfl ?_
        exact x_vret C hQ dX4_start_212 hSH18596 (by decide) (by decide) (⟨x18597, x18598, x18599, x18600, x18187, x18188, rfl, ex18597, ex18598, ex18599, ex18600, m18609, m18610, by omega, m18601, m18602, m18603, m18611, m18612, m18613, m18614, m18615, m18616, m18617, m18618, ⟨x18184, by omega, (m18604).symm, f18623⟩, hTH18596⟩)
      · have k18595 := i_nle c18594
        refine lv_iload hx hb dX4_start_41 (lv_at hl18181 3 rfl) ?_
        refine lv_istore (lv' := [(5, .int x18182), (0, .ref a0), (1, .ref a1), (2, .int x2), (4, .int x18182)]) hx hb dX4_start_43 hl18181 (by decide) rfl (fun ls18624 hl18625 => ?_)
        refine lv_aload_n hx hb dX4_start_45 rfl (lv_at hl18625 2 rfl) ?_
        refine lv_iload hx hb dX4_start_46 (lv_at hl18625 4 rfl) ?_
        refine x_ai C hTH18179 ga1 rg_108 ⟨by omega, by show _ < ((500 : Nat) : Int); omega⟩ dX4_start_48 (fun x18626 ex18626 bx18626 => ?_)
        have qvx18626 : bt x18182.toNatClampNeg = x18626.toInt := (fy18189_bt _).trans (congrArg Int32.toInt ex18626.symm)
        refine lv_istore (lv' := [(6, .int x18626), (5, .int x18182), (0, .ref a0), (1, .ref a1), (2, .int x2), (4, .int x18182)]) hx hb dX4_start_49 hl18625 (by decide) rfl (fun ls18627 hl18628 => ?_)
        obtain ⟨x18629, ex18629⟩ : ∃ y : Int32, y = x18182 + 1 := ⟨_, rfl⟩
        have tx18629 := i_add ex18629 (by omega)
        refine lv_iinc (v := x18629) (lv' := [(4, .int x18629), (6, .int x18626), (5, .int x18182), (0, .ref a0), (1, .ref a1), (2, .int x2)]) hx hb dX4_start_51 hl18628 (k := 5) rfl (by rw [ex18629]; rfl) (by decide) rfl (fun ls18630 hl18631 => ?_)
        refine lv_iload hx hb dX4_start_54 (lv_at hl18631 1 rfl) ?_
        refine x_S (As := [.int x18626]) (rest := []) C (a_X4_isLetter_e l K G H18179 (x18626) hTH18179 ) yo_X4_isLetter wM_X4_48 ⟨⟨by decide, by decide⟩, by decide, by decide⟩ rfl hl18631.1 rfl (Nat.le_of_ble_eq_true rfl) dX4_start_56 hSH18179 (AE_sub (fun _ _ => rfl) (by decide) hSH18179.1) (fun vH18632 H18632 locsH18632 pH18632 zH18632 kH18632 hSH18632 => ?_)
        obtain ⟨x18633, hvH18632, bx18633, hrH18632, hTH18632⟩ := pH18632
        subst hvH18632
        have f18634 : ∀ j : Nat, bt j = (fI H18632 a1 j).toInt := fun j => (fy18189_bt j).trans (congrArg Int32.toInt (fI_kept (x_lt hTH18179 kH18632 ga1 (by decide))).symm)
        have f18635 : TKP H18632 kq vq bt x2.toNatClampNeg (x18184.toNatClampNeg) := TKP.kept fy18189_tp (x_lt hTH18179 kH18632 gkq (by decide)) (x_lt hTH18179 kH18632 gvq (by decide))
        have m18636 := (ex18183).trans (fI_kept (x_lt hTH18179 kH18632 ga0 (by decide))).symm
        have m18637 := (ex18184).trans (fI_kept (x_lt hTH18179 kH18632 ga0 (by decide))).symm
        have m18638 := (ex18185).trans (fI_kept (x_lt hTH18179 kH18632 ga0 (by decide))).symm
        have m18639 := (ex18186).trans (fI_kept (x_lt hTH18179 kH18632 ga0 (by decide))).symm
        have m18640 := (ex18187).trans (fI_kept (x_lt hTH18179 kH18632 gmq (by decide))).symm
        have m18641 := (ex18188).trans (fI_kept (x_lt hTH18179 kH18632 gmq (by decide))).symm
        have m18642 := (cy18189_0).trans (fR_kept (x_lt hTH18179 kH18632 ga0 (by decide))).symm
        have m18643 := (cy18189_1).trans (fR_kept (x_lt hTH18179 kH18632 ga0 (by decide))).symm
        have m18644 := (cy18189_2).trans (fR_kept (x_lt hTH18179 kH18632 ga0 (by decide))).symm
        have m18645 := (cy18189_3).trans (fR_kept (x_lt hTH18179 kH18632 gmq (by decide))).symm
        have m18646 := (cy18189_4).trans (fR_kept (x_lt hTH18179 kH18632 gmq (by decide))).symm
        have m18647 := (cy18189_5).trans (fR_kept (x_lt hTH18179 kH18632 gmq (by decide))).symm
        have m18648 := (cy18189_6).trans (fR_kept (x_lt hTH18179 kH18632 gmq (by decide))).symm
        have m18649 := (cy18189_7).trans (fR_kept (x_lt hTH18179 kH18632 gmq (by decide))).symm
        have m18650 := (cy18189_8).trans (fR_kept (x_lt hTH18179 kH18632 gmq (by decide))).symm
        have m18651 := (cy18189_9).trans (fR_kept (x_lt hTH18179 kH18632 gmq (by decide))).symm
        have m18652 := (cy18189_10).trans (fR_kept (x_lt hTH18179 kH18632 gmq (by decide))).symm
        have m18653 := (ex18626).trans (fI_kept (x_lt hTH18179 kH18632 ga1 (by decide))).symm
        refine W.eq (g2 := F0 m 59 ls18630 [.int x18633]) rfl ?_
        refine lv_if_eq (tgt := 102) hx hb dX4_start_59 (by decide) (fun c18654 => ?_) (fun c18654 => ?_)
        · have k18655 := i_eq c18654
          refine lv_iload hx hb dX4_start_102 (lv_at hl18631 1 rfl) ?_
          refine x_S (As := [.int x18626]) (rest := []) C (a_X4_isDigit_e l K G H18632 (x18626) hTH18632 ) yo_X4_isDigit wM_X4_60 ⟨⟨by decide, by decide⟩, by decide, by decide⟩ rfl hl18631.1 rfl (Nat.le_of_ble_eq_true rfl) dX4_start_104 hSH18632 (AE_sub (fun _ _ => rfl) (by decide) hSH18632.1) (fun vH18656 H18656 locsH18656 pH18656 zH18656 kH18656 hSH18656 => ?_)
          obtain ⟨x18657, hvH18656, bx18657, hrH18656, hTH18656⟩ := pH18656
          subst hvH18656
          have f18658 : ∀ j : Nat, bt j = (fI H18656 a1 j).toInt := fun j => (f18634 j).trans (congrArg Int32.toInt (fI_kept (x_lt hTH18632 kH18656 ga1 (by decide))).symm)
          have f18659 : TKP H18656 kq vq bt x2.toNatClampNeg (x18184.toNatClampNeg) := TKP.kept f18635 (x_lt hTH18632 kH18656 gkq (by decide)) (x_lt hTH18632 kH18656 gvq (by decide))
          have m18660 := (m18636).trans (fI_kept (x_lt hTH18632 kH18656 ga0 (by decide))).symm
          have m18661 := (m18637).trans (fI_kept (x_lt hTH18632 kH18656 ga0 (by decide))).symm
          have m18662 := (m18638).trans (fI_kept (x_lt hTH18632 kH18656 ga0 (by decide))).symm
          have m18663 := (m18639).trans (fI_kept (x_lt hTH18632 kH18656 ga0 (by decide))).symm
          have m18664 := (m18640).trans (fI_kept (x_lt hTH18632 kH18656 gmq (by decide))).symm
          have m18665 := (m18641).trans (fI_kept (x_lt hTH18632 kH18656 gmq (by decide))).symm
          have m18666 := (m18642).trans (fR_kept (x_lt hTH18632 kH18656 ga0 (by decide))).symm
          have m18667 := (m18643).trans (fR_kept (x_lt hTH18632 kH18656 ga0 (by decide))).symm
          have m18668 := (m18644).trans (fR_kept (x_lt hTH18632 kH18656 ga0 (by decide))).symm
          have m18669 := (m18645).trans (fR_kept (x_lt hTH18632 kH18656 gmq (by decide))).symm
          have m18670 := (m18646).trans (fR_kept (x_lt hTH18632 kH18656 gmq (by decide))).symm
          have m18671 := (m18647).trans (fR_kept (x_lt hTH18632 kH18656 gmq (by decide))).symm
          have m18672 := (m18648).trans (fR_kept (x_lt hTH18632 kH18656 gmq (by decide))).symm
          have m18673 := (m18649).trans (fR_kept (x_lt hTH18632 kH18656 gmq (by decide))).symm
          have m18674 := (m18650).trans (fR_kept (x_lt hTH18632 kH18656 gmq (by decide))).symm
          have m18675 := (m18651).trans (fR_kept (x_lt hTH18632 kH18656 gmq (by decide))).symm
          have m18676 := (m18652).trans (fR_kept (x_lt hTH18632 kH18656 gmq (by decide))).symm
          have m18677 := (m18653).trans (fI_kept (x_lt hTH18632 kH18656 ga1 (by decide))).symm
          refine W.eq (g2 := F0 m 107 ls18630 [.int x18657]) rfl ?_
          refine lv_if_eq (tgt := 165) hx hb dX4_start_107 (by decide) (fun c18678 => ?_) (fun c18678 => ?_)
          · have k18679 := i_eq c18678
            refine lv_iload hx hb dX4_start_165 (lv_at hl18631 1 rfl) ?_
            refine lv_bipush (v := 32) hx hb dX4_start_167 (by decide) ?_
            refine lv_icmp_eq (tgt := 201) hx hb dX4_start_169 (by decide) (fun c18680 => ?_) (fun c18680 => ?_)
            · have k18681 := i_eq c18680
              refine lv_goto (tgt := 35) hx hb dX4_start_201 (by decide) ?_
              have cn_x18184 := i_cl (x := x18184) (by omega)
              have cn_x18184 := i_cl (x := x18184) (by omega)
              have cl00 : (0 : Int32).toNatClampNeg = 0 := rfl
              have cn_x18629 := i_cl (x := x18629) (by omega)
              have cn_x18184 := i_cl (x := x18184) (by omega)
              have cn_x18184 := i_cl (x := x18184) (by omega)
              have cn_x2 := i_cl (x := x2) (by omega)
              have cn_x18182 := i_cl (x := x18182) (by omega)
              exact ih35  ls18630 H18656 locsH18656 (x18629) (x18183) (x18184) (x18185) (x18186) (x18187) (x18188) (lv_sub hl18631 [3, 4, 5, 0] rfl) hTH18656 hSH18656 (by have := i_rng x18629; omega) (by have := i_rng x18183; omega) (by have := i_rng x18184; omega) (by have := i_rng x18185; omega) (by have := i_rng x18187; omega) (by have := i_rng x18188; omega) m18660 m18661 m18662 m18663 m18664 m18665 m18666 m18667 m18668 m18669 m18670 m18671 m18672 m18673 m18674 m18675 m18676 f18658 (TKP.to f18659 (by omega)) (by omega) (by omega) (tok_b hsp35 (by omega) (by omega) (by rw [qvx18626]; omega) (by omega))
            · have k18681 := i_ne c18680
              refine lv_iload hx hb dX4_start_172 (lv_at hl18631 1 rfl) ?_
              refine lv_bipush (v := 10) hx hb dX4_start_174 (by decide) ?_
              refine lv_icmp_eq (tgt := 201) hx hb dX4_start_176 (by decide) (fun c18682 => ?_) (fun c18682 => ?_)
              · have k18683 := i_eq c18682
                refine lv_goto (tgt := 35) hx hb dX4_start_201 (by decide) ?_
                have cn_x18184 := i_cl (x := x18184) (by omega)
                have cn_x18184 := i_cl (x := x18184) (by omega)
                have cl00 : (0 : Int32).toNatClampNeg = 0 := rfl
                have cn_x18629 := i_cl (x := x18629) (by omega)
                have cn_x18184 := i_cl (x := x18184) (by omega)
                have cn_x18184 := i_cl (x := x18184) (by omega)
                have cn_x2 := i_cl (x := x2) (by omega)
                have cn_x18182 := i_cl (x := x18182) (by omega)
                exact ih35  ls18630 H18656 locsH18656 (x18629) (x18183) (x18184) (x18185) (x18186) (x18187) (x18188) (lv_sub hl18631 [3, 4, 5, 0] rfl) hTH18656 hSH18656 (by have := i_rng x18629; omega) (by have := i_rng x18183; omega) (by have := i_rng x18184; omega) (by have := i_rng x18185; omega) (by have := i_rng x18187; omega) (by have := i_rng x18188; omega) m18660 m18661 m18662 m18663 m18664 m18665 m18666 m18667 m18668 m18669 m18670 m18671 m18672 m18673 m18674 m18675 m18676 f18658 (TKP.to f18659 (by omega)) (by omega) (by omega) (tok_b hsp35 (by omega) (by omega) (by rw [qvx18626]; omega) (by omega))
              · have k18683 := i_ne c18682
                refine lv_aload_n hx hb dX4_start_179 rfl (lv_at hl18631 3 rfl) ?_
                refine lv_iload hx hb dX4_start_180 (lv_at hl18631 1 rfl) ?_
                refine x_S (As := [.int x18626]) (rest := [.ref a0]) C (a_X4_isSign_e l K G H18656 (x18626) hTH18656 ) yo_X4_isSign wM_X4_66 ⟨⟨by decide, by decide⟩, by decide, by decide⟩ rfl hl18631.1 rfl (Nat.le_of_ble_eq_true rfl) dX4_start_182 hSH18656 (AE_sub (fun _ _ => rfl) (by decide) hSH18656.1) (fun vH18684 H18684 locsH18684 pH18684 zH18684 kH18684 hSH18684 => ?_)
                obtain ⟨x18685, hvH18684, bx18685, hrH18684, hTH18684⟩ := pH18684
                subst hvH18684
                have f18686 : ∀ j : Nat, bt j = (fI H18684 a1 j).toInt := fun j => (f18658 j).trans (congrArg Int32.toInt (fI_kept (x_lt hTH18656 kH18684 ga1 (by decide))).symm)
                have f18687 : TKP H18684 kq vq bt x2.toNatClampNeg (x18184.toNatClampNeg) := TKP.kept f18659 (x_lt hTH18656 kH18684 gkq (by decide)) (x_lt hTH18656 kH18684 gvq (by decide))
                have m18688 := (m18660).trans (fI_kept (x_lt hTH18656 kH18684 ga0 (by decide))).symm
                have m18689 := (m18661).trans (fI_kept (x_lt hTH18656 kH18684 ga0 (by decide))).symm
                have m18690 := (m18662).trans (fI_kept (x_lt hTH18656 kH18684 ga0 (by decide))).symm
                have m18691 := (m18663).trans (fI_kept (x_lt hTH18656 kH18684 ga0 (by decide))).symm
                have m18692 := (m18664).trans (fI_kept (x_lt hTH18656 kH18684 gmq (by decide))).symm
                have m18693 := (m18665).trans (fI_kept (x_lt hTH18656 kH18684 gmq (by decide))).symm
                have m18694 := (m18666).trans (fR_kept (x_lt hTH18656 kH18684 ga0 (by decide))).symm
                have m18695 := (m18667).trans (fR_kept (x_lt hTH18656 kH18684 ga0 (by decide))).symm
                have m18696 := (m18668).trans (fR_kept (x_lt hTH18656 kH18684 ga0 (by decide))).symm
                have m18697 := (m18669).trans (fR_kept (x_lt hTH18656 kH18684 gmq (by decide))).symm
                have m18698 := (m18670).trans (fR_kept (x_lt hTH18656 kH18684 gmq (by decide))).symm
                have m18699 := (m18671).trans (fR_kept (x_lt hTH18656 kH18684 gmq (by decide))).symm
                have m18700 := (m18672).trans (fR_kept (x_lt hTH18656 kH18684 gmq (by decide))).symm
                have m18701 := (m18673).trans (fR_kept (x_lt hTH18656 kH18684 gmq (by decide))).symm
                have m18702 := (m18674).trans (fR_kept (x_lt hTH18656 kH18684 gmq (by decide))).symm
                have m18703 := (m18675).trans (fR_kept (x_lt hTH18656 kH18684 gmq (by decide))).symm
                have m18704 := (m18676).trans (fR_kept (x_lt hTH18656 kH18684 gmq (by decide))).symm
                have m18705 := (m18677).trans (fI_kept (x_lt hTH18656 kH18684 ga1 (by decide))).symm
                refine W.eq (g2 := F0 m 185 ls18630 [.int x18685, .ref a0]) rfl ?_
                refine lv_if_eq (tgt := 193) hx hb dX4_start_185 (by decide) (fun c18706 => ?_) (fun c18706 => ?_)
                · have k18707 := i_eq c18706
                  refine lv_bipush (v := 25) hx hb dX4_start_193 (by decide) ?_
                  refine lv_iconst (v := 0) hx hb dX4_start_195 (by decide) ?_
                  refine lv_iload hx hb dX4_start_196 (lv_at hl18631 2 rfl) ?_
                  refine x_V (As := [.int 25, .int 0, .int x18182]) (rest := []) C (a_X4_addToken_e l K G H18684 (25) (0) (x18182) (x18183) (x18184) (x18185) (x18186) hTH18684 ga0 gmq m18694 gkq m18695 gvq m18696 m18688 m18689 m18690 m18691 (by omega)) yo_X4_addToken wM_X4_56 ⟨⟨by decide, by decide⟩, by decide, by decide⟩ (x_rv C hTH18684 (ci := 4) rfl ga0 rg_78) rfl hl18631.1 rfl (Nat.le_of_ble_eq_true rfl) dX4_start_198 hSH18684 (AE_sub (fun _ _ => rfl) (by decide) hSH18684.1) (fun vH18708 H18708 locsH18708 pH18708 zH18708 kH18708 hSH18708 => ?_)
                  obtain ⟨x18709, x18710, x18711, x18712, hvH18708, ex18709, ex18710, ex18711, ex18712, hrH18708, m18713, m18714, m18715, m18716, m18717, m18718, m18719, hTH18708⟩ := pH18708
                  subst hvH18708
                  have f18720 : ∀ j : Nat, bt j = (fI H18708 a1 j).toInt := fun j => (f18686 j).trans (congrArg Int32.toInt (fI_kept (x_lt hTH18684 kH18708 ga1 (by decide))).symm)
                  have m18721 := (m18692).trans (fI_kept (x_lt hTH18684 kH18708 gmq (by decide))).symm
                  have m18722 := (m18693).trans (fI_kept (x_lt hTH18684 kH18708 gmq (by decide))).symm
                  have m18723 := (m18697).trans (fR_kept (x_lt hTH18684 kH18708 gmq (by decide))).symm
                  have m18724 := (m18698).trans (fR_kept (x_lt hTH18684 kH18708 gmq (by decide))).symm
                  have m18725 := (m18699).trans (fR_kept (x_lt hTH18684 kH18708 gmq (by decide))).symm
                  have m18726 := (m18700).trans (fR_kept (x_lt hTH18684 kH18708 gmq (by decide))).symm
                  have m18727 := (m18701).trans (fR_kept (x_lt hTH18684 kH18708 gmq (by decide))).symm
                  have m18728 := (m18702).trans (fR_kept (x_lt hTH18684 kH18708 gmq (by decide))).symm
                  have m18729 := (m18703).trans (fR_kept (x_lt hTH18684 kH18708 gmq (by decide))).symm
                  have m18730 := (m18704).trans (fR_kept (x_lt hTH18684 kH18708 gmq (by decide))).symm
                  have m18731 := (m18705).trans (fI_kept (x_lt hTH18684 kH18708 ga1 (by decide))).symm
                  have bx18709 := ty_fi (x := x18709) (k := 7) ex18709 hTH18708 ga0 rg_78 rfl
                  have bx18710 := ty_fi (x := x18710) (k := 6) ex18710 hTH18708 ga0 rg_78 rfl
                  have bx18711 := ty_fi (x := x18711) (k := 8) ex18711 hTH18708 ga0 rg_78 rfl
                  have bx18712 := ty_fi (x := x18712) (k := 1) ex18712 hTH18708 ga0 rg_78 rfl
                  have cn_x18184 := i_cl (x := x18184) (by omega)
                  have cn_x18184 := i_cl (x := x18184) (by omega)
                  have cn_x18629 := i_cl (x := x18629) (by omega)
                  have cn_x2 := i_cl (x := x2) (by omega)
                  have cn_x18182 := i_cl (x := x18182) (by omega)
                  have cn_x18182 := i_cl (x := x18182) (by omega)
                  have cn_x18184 := i_cl (x := x18184) (by omega)
                  have hs18735 : skB bt x2.toNatClampNeg x18182.toNatClampNeg = skB bt x2.toNatClampNeg (pS bt x2.toNatClampNeg x18184.toNatClampNeg) := hsp35
                  obtain ⟨tk18732, tk18733, tk18734⟩ := tok_s hs18735 (by omega) (by rw [qvx18626]; omega) (by rw [qvx18626]; omega) (by rw [qvx18626]; omega) (Or.inr ⟨by rw [qvx18626]; omega, rfl⟩)
                  have f18736 : TKP H18708 kq vq bt x2.toNatClampNeg (x18184.toNatClampNeg + 1) := TKP.add f18687 m18718 m18719 m18716 m18717 (by omega) (by rw [tk18732]; rfl) (by rw [tk18733]; rfl)
                  refine W.eq (g2 := F0 m 201 ls18630 []) rfl ?_
                  refine lv_goto (tgt := 35) hx hb dX4_start_201 (by decide) ?_
                  have cn_x18184 := i_cl (x := x18184) (by omega)
                  have cn_x18710 := i_cl (x := x18710) (by omega)
                  have cl00 : (0 : Int32).toNatClampNeg = 0 := rfl
                  have cn_x18629 := i_cl (x := x18629) (by omega)
                  have cn_x18710 := i_cl (x := x18710) (by omega)
                  have cn_x18184 := i_cl (x := x18184) (by omega)
                  have cn_x2 := i_cl (x := x2) (by omega)
                  have cn_x18184 := i_cl (x := x18184) (by omega)
                  have cn_x18182 := i_cl (x := x18182) (by omega)
                  exact ih35  ls18630 H18708 locsH18708 (x18629) (x18709) (x18710) (x18711) (x18712) (x18187) (x18188) (lv_sub hl18631 [3, 4, 5, 0] rfl) hTH18708 hSH18708 (by have := i_rng x18629; omega) (by have := i_rng x18709; omega) (by have := i_rng x18710; omega) (by have := i_rng x18711; omega) (by have := i_rng x18187; omega) (by have := i_rng x18188; omega) ex18709 ex18710 ex18711 ex18712 m18721 m18722 m18713 m18714 m18715 m18723 m18724 m18725 m18726 m18727 m18728 m18729 m18730 f18720 (TKP.to f18736 (by omega)) (by omega) (by omega) (by rw [show x18710.toNatClampNeg = x18184.toNatClampNeg + 1 by omega, tk18734, show x18629.toNatClampNeg = x18182.toNatClampNeg + 1 by omega])
                · have k18707 := i_ne c18706
                  refine lv_iload hx hb dX4_start_188 (lv_at hl18631 1 rfl) ?_
                  refine lv_goto (tgt := 195) hx hb dX4_start_190 (by decide) ?_
                  refine lv_iconst (v := 0) hx hb dX4_start_195 (by decide) ?_
                  refine lv_iload hx hb dX4_start_196 (lv_at hl18631 2 rfl) ?_
                  refine x_V (As := [.int x18626, .int 0, .int x18182]) (rest := []) C (a_X4_addToken_e l K G H18684 (x18626) (0) (x18182) (x18183) (x18184) (x18185) (x18186) hTH18684 ga0 gmq m18694 gkq m18695 gvq m18696 m18688 m18689 m18690 m18691 (by omega)) yo_X4_addToken wM_X4_56 ⟨⟨by decide, by decide⟩, by decide, by decide⟩ (x_rv C hTH18684 (ci := 4) rfl ga0 rg_78) rfl hl18631.1 rfl (Nat.le_of_ble_eq_true rfl) dX4_start_198 hSH18684 (AE_sub (fun _ _ => rfl) (by decide) hSH18684.1) (fun vH18737 H18737 locsH18737 pH18737 zH18737 kH18737 hSH18737 => ?_)
                  obtain ⟨x18738, x18739, x18740, x18741, hvH18737, ex18738, ex18739, ex18740, ex18741, hrH18737, m18742, m18743, m18744, m18745, m18746, m18747, m18748, hTH18737⟩ := pH18737
                  subst hvH18737
                  have f18749 : ∀ j : Nat, bt j = (fI H18737 a1 j).toInt := fun j => (f18686 j).trans (congrArg Int32.toInt (fI_kept (x_lt hTH18684 kH18737 ga1 (by decide))).symm)
                  have m18750 := (m18692).trans (fI_kept (x_lt hTH18684 kH18737 gmq (by decide))).symm
                  have m18751 := (m18693).trans (fI_kept (x_lt hTH18684 kH18737 gmq (by decide))).symm
                  have m18752 := (m18697).trans (fR_kept (x_lt hTH18684 kH18737 gmq (by decide))).symm
                  have m18753 := (m18698).trans (fR_kept (x_lt hTH18684 kH18737 gmq (by decide))).symm
                  have m18754 := (m18699).trans (fR_kept (x_lt hTH18684 kH18737 gmq (by decide))).symm
                  have m18755 := (m18700).trans (fR_kept (x_lt hTH18684 kH18737 gmq (by decide))).symm
                  have m18756 := (m18701).trans (fR_kept (x_lt hTH18684 kH18737 gmq (by decide))).symm
                  have m18757 := (m18702).trans (fR_kept (x_lt hTH18684 kH18737 gmq (by decide))).symm
                  have m18758 := (m18703).trans (fR_kept (x_lt hTH18684 kH18737 gmq (by decide))).symm
                  have m18759 := (m18704).trans (fR_kept (x_lt hTH18684 kH18737 gmq (by decide))).symm
                  have m18760 := (m18705).trans (fI_kept (x_lt hTH18684 kH18737 ga1 (by decide))).symm
                  have bx18738 := ty_fi (x := x18738) (k := 7) ex18738 hTH18737 ga0 rg_78 rfl
                  have bx18739 := ty_fi (x := x18739) (k := 6) ex18739 hTH18737 ga0 rg_78 rfl
                  have bx18740 := ty_fi (x := x18740) (k := 8) ex18740 hTH18737 ga0 rg_78 rfl
                  have bx18741 := ty_fi (x := x18741) (k := 1) ex18741 hTH18737 ga0 rg_78 rfl
                  have cn_x18184 := i_cl (x := x18184) (by omega)
                  have cn_x18184 := i_cl (x := x18184) (by omega)
                  have cn_x18629 := i_cl (x := x18629) (by omega)
                  have cn_x2 := i_cl (x := x2) (by omega)
                  have cn_x18182 := i_cl (x := x18182) (by omega)
                  have cn_x18182 := i_cl (x := x18182) (by omega)
                  have cn_x18184 := i_cl (x := x18184) (by omega)
                  have hs18764 : skB bt x2.toNatClampNeg x18182.toNatClampNeg = skB bt x2.toNatClampNeg (pS bt x2.toNatClampNeg x18184.toNatClampNeg) := hsp35
                  obtain ⟨tk18761, tk18762, tk18763⟩ := tok_s hs18764 (by omega) (by rw [qvx18626]; omega) (by rw [qvx18626]; omega) (by rw [qvx18626]; omega) (Or.inl ⟨by rw [qvx18626]; omega, qvx18626.symm⟩)
                  have f18765 : TKP H18737 kq vq bt x2.toNatClampNeg (x18184.toNatClampNeg + 1) := TKP.add f18687 m18747 m18748 m18745 m18746 (by omega) (tk18761).symm (by rw [tk18762]; rfl)
                  refine W.eq (g2 := F0 m 201 ls18630 []) rfl ?_
                  refine lv_goto (tgt := 35) hx hb dX4_start_201 (by decide) ?_
                  have cn_x18184 := i_cl (x := x18184) (by omega)
                  have cn_x18739 := i_cl (x := x18739) (by omega)
                  have cl00 : (0 : Int32).toNatClampNeg = 0 := rfl
                  have cn_x18629 := i_cl (x := x18629) (by omega)
                  have cn_x18739 := i_cl (x := x18739) (by omega)
                  have cn_x18184 := i_cl (x := x18184) (by omega)
                  have cn_x2 := i_cl (x := x2) (by omega)
                  have cn_x18184 := i_cl (x := x18184) (by omega)
                  have cn_x18182 := i_cl (x := x18182) (by omega)
                  exact ih35  ls18630 H18737 locsH18737 (x18629) (x18738) (x18739) (x18740) (x18741) (x18187) (x18188) (lv_sub hl18631 [3, 4, 5, 0] rfl) hTH18737 hSH18737 (by have := i_rng x18629; omega) (by have := i_rng x18738; omega) (by have := i_rng x18739; omega) (by have := i_rng x18740; omega) (by have := i_rng x18187; omega) (by have := i_rng x18188; omega) ex18738 ex18739 ex18740 ex18741 m18750 m18751 m18742 m18743 m18744 m18752 m18753 m18754 m18755 m18756 m18757 m18758 m18759 f18749 (TKP.to f18765 (by omega)) (by omega) (by omega) (by rw [show x18739.toNatClampNeg = x18184.toNatClampNeg + 1 by omega, tk18763, show x18629.toNatClampNeg = x18182.toNatClampNeg + 1 by omega])
          · have k18679 := i_ne c18678
            have cn_x18184 := i_cl (x := x18184) (by omega)
            have cn_x18184 := i_cl (x := x18184) (by omega)
            have cl00 : (0 : Int32).toNatClampNeg = 0 := rfl
            have cn_x18629 := i_cl (x := x18629) (by omega)
            have cn_x18182 := i_cl (x := x18182) (by omega)
            have cn_x2 := i_cl (x := x2) (by omega)
            exact J110 ((500 - x18629.toInt).toNat + 1)  ls18630 H18656 locsH18656 (x18629) (x18182) (x18183) (x18184) (x18185) (x18186) (x18187) (x18188) (lv_sub hl18631 [3, 4, 5, 0, 2] rfl) hTH18656 hSH18656 (by have := i_rng x2; omega) (by have := i_rng x18629; omega) (by have := i_rng x18182; omega) (by have := i_rng x18183; omega) (by have := i_rng x18184; omega) (by have := i_rng x18185; omega) (by have := i_rng x18187; omega) (by have := i_rng x18188; omega) m18660 m18661 m18662 m18663 m18664 m18665 m18666 m18667 m18668 m18669 m18670 m18671 m18672 m18673 m18674 m18675 m18676 f18658 (TKP.to f18659 (by omega)) (by omega) (by omega) (by rw [show x18629.toNatClampNeg = x18182.toNatClampNeg + 1 by omega]; rfl) (by rw [qvx18626]; omega)
        · have k18655 := i_ne c18654
          have cn_x18184 := i_cl (x := x18184) (by omega)
          have cn_x18184 := i_cl (x := x18184) (by omega)
          have cl00 : (0 : Int32).toNatClampNeg = 0 := rfl
          have cn_x18629 := i_cl (x := x18629) (by omega)
          have cn_x18182 := i_cl (x := x18182) (by omega)
          have cn_x2 := i_cl (x := x2) (by omega)
          exact J62 ((500 - x18629.toInt).toNat + 1)  ls18630 H18632 locsH18632 (x18629) (x18182) (x18183) (x18184) (x18185) (x18186) (x18187) (x18188) (lv_sub hl18631 [3, 4, 5, 0, 2] rfl) hTH18632 hSH18632 (by have := i_rng x2; omega) (by have := i_rng x18629; omega) (by have := i_rng x18182; omega) (by have := i_rng x18183; omega) (by have := i_rng x18184; omega) (by have := i_rng x18185; omega) (by have := i_rng x18187; omega) (by have := i_rng x18188; omega) m18636 m18637 m18638 m18639 m18640 m18641 m18642 m18643 m18644 m18645 m18646 m18647 m18648 m18649 m18650 m18651 m18652 f18634 (TKP.to f18635 (by omega)) (by omega) (by omega) (by rw [show x18629.toNatClampNeg = x18182.toNatClampNeg + 1 by omega]; rfl) (by rw [qvx18626]; omega)
  refine lv_aload_n hx hb dX4_start_0 rfl (lv_at hl 0 rfl) ?_
  refine lv_iload_n hx hb dX4_start_1 rfl (lv_at hl 3 rfl) ?_
  refine x_put C hT hS (ci := 4) (k := 8) (v := .int x3) (ty0 := tyX4) rfl inX4 tyX4_ok nmX4 (by decide) rfl wF_X4_28 ga0 rg_78 rfl rfl (okI (by have := i_rng x3; omega) (by have := i_rng x3; omega)) (by rcases i_01 (x := x3) (by omega) with h | h <;> rw [h] <;> rfl) (by rcases i_01 (x := x3) (by omega) with h | h <;> rw [h] <;> rfl) (AE_in ga0 (by decide)) dX4_start_2 (fun H18766 locsH18766 hTH18766 hSH18766 wH18766 => ?_)
  have f18767 : ∀ j : Nat, bt j = (fI H18766 a1 j).toInt := fun j => (f0_bt j).trans (congrArg Int32.toInt (Wr.neI wH18766 (Or.inl (G_ne ga1 ga0 (by decide)))).symm)
  have f18768 : TKP H18766 kq vq bt x2.toNatClampNeg (0) := TKP.kept f0_tp (wH18766.off (G_ne gkq ga0 (by decide))) (wH18766.off (G_ne gvq ga0 (by decide)))
  have m18769 := emq.trans (Wr.neR wH18766 (Or.inr (x_apart hKT hts inX4 tyX4 tyX4_ok nmX4 rfl 0 8 (by decide) (by decide) (by decide)))).symm
  have m18770 := ekq.trans (Wr.neR wH18766 (Or.inr (x_apart hKT hts inX4 tyX4 tyX4_ok nmX4 rfl 3 8 (by decide) (by decide) (by decide)))).symm
  have m18771 := evq.trans (Wr.neR wH18766 (Or.inr (x_apart hKT hts inX4 tyX4 tyX4_ok nmX4 rfl 4 8 (by decide) (by decide) (by decide)))).symm
  have m18772 := esq.trans (Wr.neR wH18766 (Or.inl (G_ne gmq ga0 (by decide)))).symm
  have m18773 := ewq.trans (Wr.neR wH18766 (Or.inl (G_ne gmq ga0 (by decide)))).symm
  have m18774 := efq.trans (Wr.neR wH18766 (Or.inl (G_ne gmq ga0 (by decide)))).symm
  have m18775 := ejq.trans (Wr.neR wH18766 (Or.inl (G_ne gmq ga0 (by decide)))).symm
  have m18776 := eeq_.trans (Wr.neR wH18766 (Or.inl (G_ne gmq ga0 (by decide)))).symm
  have m18777 := eaq.trans (Wr.neR wH18766 (Or.inl (G_ne gmq ga0 (by decide)))).symm
  have m18778 := ecq.trans (Wr.neR wH18766 (Or.inl (G_ne gmq ga0 (by decide)))).symm
  have m18779 := edq.trans (Wr.neR wH18766 (Or.inl (G_ne gmq ga0 (by decide)))).symm
  have m18780 := etat.trans (Wr.neI wH18766 (Or.inr (x_apart hKT hts inX4 tyX4 tyX4_ok nmX4 rfl 7 8 (by decide) (by decide) (by decide)))).symm
  have m18781 := etk.trans (Wr.neI wH18766 (Or.inr (x_apart hKT hts inX4 tyX4 tyX4_ok nmX4 rfl 6 8 (by decide) (by decide) (by decide)))).symm
  have m18783 := efa.trans (Wr.neI wH18766 (Or.inr (x_apart hKT hts inX4 tyX4 tyX4_ok nmX4 rfl 1 8 (by decide) (by decide) (by decide)))).symm
  have m18784 := eli.trans (Wr.neI wH18766 (Or.inl (G_ne gmq ga0 (by decide)))).symm
  have m18785 := esc.trans (Wr.neI wH18766 (Or.inl (G_ne gmq ga0 (by decide)))).symm
  have m18786 := Wr.I wH18766
  have m18786 := m18786.symm
  refine lv_aload_n hx hb dX4_start_5 rfl (lv_at hl 0 rfl) ?_
  refine lv_iconst (v := 0) hx hb dX4_start_6 (by decide) ?_
  refine x_put C hTH18766 hSH18766 (ci := 4) (k := 1) (v := .int 0) (ty0 := tyX4) rfl inX4 tyX4_ok nmX4 (by decide) rfl wF_X4_32 ga0 rg_78 rfl rfl (okI (by have := i_rng (0 : Int32); omega) (by have := i_rng (0 : Int32); omega)) rfl rfl (AE_in ga0 (by decide)) dX4_start_7 (fun H18787 locsH18787 hTH18787 hSH18787 wH18787 => ?_)
  have f18788 : ∀ j : Nat, bt j = (fI H18787 a1 j).toInt := fun j => (f18767 j).trans (congrArg Int32.toInt (Wr.neI wH18787 (Or.inl (G_ne ga1 ga0 (by decide)))).symm)
  have f18789 : TKP H18787 kq vq bt x2.toNatClampNeg (0) := TKP.kept f18768 (wH18787.off (G_ne gkq ga0 (by decide))) (wH18787.off (G_ne gvq ga0 (by decide)))
  have m18790 := m18769.trans (Wr.neR wH18787 (Or.inr (x_apart hKT hts inX4 tyX4 tyX4_ok nmX4 rfl 0 1 (by decide) (by decide) (by decide)))).symm
  have m18791 := m18770.trans (Wr.neR wH18787 (Or.inr (x_apart hKT hts inX4 tyX4 tyX4_ok nmX4 rfl 3 1 (by decide) (by decide) (by decide)))).symm
  have m18792 := m18771.trans (Wr.neR wH18787 (Or.inr (x_apart hKT hts inX4 tyX4 tyX4_ok nmX4 rfl 4 1 (by decide) (by decide) (by decide)))).symm
  have m18793 := m18772.trans (Wr.neR wH18787 (Or.inl (G_ne gmq ga0 (by decide)))).symm
  have m18794 := m18773.trans (Wr.neR wH18787 (Or.inl (G_ne gmq ga0 (by decide)))).symm
  have m18795 := m18774.trans (Wr.neR wH18787 (Or.inl (G_ne gmq ga0 (by decide)))).symm
  have m18796 := m18775.trans (Wr.neR wH18787 (Or.inl (G_ne gmq ga0 (by decide)))).symm
  have m18797 := m18776.trans (Wr.neR wH18787 (Or.inl (G_ne gmq ga0 (by decide)))).symm
  have m18798 := m18777.trans (Wr.neR wH18787 (Or.inl (G_ne gmq ga0 (by decide)))).symm
  have m18799 := m18778.trans (Wr.neR wH18787 (Or.inl (G_ne gmq ga0 (by decide)))).symm
  have m18800 := m18779.trans (Wr.neR wH18787 (Or.inl (G_ne gmq ga0 (by decide)))).symm
  have m18801 := m18780.trans (Wr.neI wH18787 (Or.inr (x_apart hKT hts inX4 tyX4 tyX4_ok nmX4 rfl 7 1 (by decide) (by decide) (by decide)))).symm
  have m18802 := m18781.trans (Wr.neI wH18787 (Or.inr (x_apart hKT hts inX4 tyX4 tyX4_ok nmX4 rfl 6 1 (by decide) (by decide) (by decide)))).symm
  have m18804 := m18784.trans (Wr.neI wH18787 (Or.inl (G_ne gmq ga0 (by decide)))).symm
  have m18805 := m18785.trans (Wr.neI wH18787 (Or.inl (G_ne gmq ga0 (by decide)))).symm
  have m18806 := m18786.trans (Wr.neI wH18787 (Or.inr (x_apart hKT hts inX4 tyX4 tyX4_ok nmX4 rfl 8 1 (by decide) (by decide) (by decide)))).symm
  have m18807 := Wr.I wH18787
  refine lv_aload_n hx hb dX4_start_10 rfl (lv_at hl 0 rfl) ?_
  refine lv_iconst (v := (-1)) hx hb dX4_start_11 (by decide) ?_
  refine x_put C hTH18787 hSH18787 (ci := 4) (k := 2) (v := .int (-1)) (ty0 := tyX4) rfl inX4 tyX4_ok nmX4 (by decide) rfl wF_X4_36 ga0 rg_78 rfl rfl (okI (by have := i_rng ((-1) : Int32); omega) (by have := i_rng ((-1) : Int32); omega)) rfl rfl (AE_in ga0 (by decide)) dX4_start_12 (fun H18808 locsH18808 hTH18808 hSH18808 wH18808 => ?_)
  have f18809 : ∀ j : Nat, bt j = (fI H18808 a1 j).toInt := fun j => (f18788 j).trans (congrArg Int32.toInt (Wr.neI wH18808 (Or.inl (G_ne ga1 ga0 (by decide)))).symm)
  have f18810 : TKP H18808 kq vq bt x2.toNatClampNeg (0) := TKP.kept f18789 (wH18808.off (G_ne gkq ga0 (by decide))) (wH18808.off (G_ne gvq ga0 (by decide)))
  have m18811 := m18790.trans (Wr.neR wH18808 (Or.inr (x_apart hKT hts inX4 tyX4 tyX4_ok nmX4 rfl 0 2 (by decide) (by decide) (by decide)))).symm
  have m18812 := m18791.trans (Wr.neR wH18808 (Or.inr (x_apart hKT hts inX4 tyX4 tyX4_ok nmX4 rfl 3 2 (by decide) (by decide) (by decide)))).symm
  have m18813 := m18792.trans (Wr.neR wH18808 (Or.inr (x_apart hKT hts inX4 tyX4 tyX4_ok nmX4 rfl 4 2 (by decide) (by decide) (by decide)))).symm
  have m18814 := m18793.trans (Wr.neR wH18808 (Or.inl (G_ne gmq ga0 (by decide)))).symm
  have m18815 := m18794.trans (Wr.neR wH18808 (Or.inl (G_ne gmq ga0 (by decide)))).symm
  have m18816 := m18795.trans (Wr.neR wH18808 (Or.inl (G_ne gmq ga0 (by decide)))).symm
  have m18817 := m18796.trans (Wr.neR wH18808 (Or.inl (G_ne gmq ga0 (by decide)))).symm
  have m18818 := m18797.trans (Wr.neR wH18808 (Or.inl (G_ne gmq ga0 (by decide)))).symm
  have m18819 := m18798.trans (Wr.neR wH18808 (Or.inl (G_ne gmq ga0 (by decide)))).symm
  have m18820 := m18799.trans (Wr.neR wH18808 (Or.inl (G_ne gmq ga0 (by decide)))).symm
  have m18821 := m18800.trans (Wr.neR wH18808 (Or.inl (G_ne gmq ga0 (by decide)))).symm
  have m18822 := m18801.trans (Wr.neI wH18808 (Or.inr (x_apart hKT hts inX4 tyX4 tyX4_ok nmX4 rfl 7 2 (by decide) (by decide) (by decide)))).symm
  have m18823 := m18802.trans (Wr.neI wH18808 (Or.inr (x_apart hKT hts inX4 tyX4 tyX4_ok nmX4 rfl 6 2 (by decide) (by decide) (by decide)))).symm
  have m18824 := m18804.trans (Wr.neI wH18808 (Or.inl (G_ne gmq ga0 (by decide)))).symm
  have m18825 := m18805.trans (Wr.neI wH18808 (Or.inl (G_ne gmq ga0 (by decide)))).symm
  have m18826 := m18806.trans (Wr.neI wH18808 (Or.inr (x_apart hKT hts inX4 tyX4 tyX4_ok nmX4 rfl 8 2 (by decide) (by decide) (by decide)))).symm
  have m18827 := (Wr.neI wH18808 (Or.inr (x_apart hKT hts inX4 tyX4 tyX4_ok nmX4 rfl 1 2 (by decide) (by decide) (by decide)))).trans m18807
  have m18828 := Wr.I wH18808
  refine lv_aload_n hx hb dX4_start_15 rfl (lv_at hl 0 rfl) ?_
  refine x_gr C hTH18808 (ci := 4) (k := 0) rfl inX4 (by decide) wF_X4_12 ga0 rg_78 rfl dX4_start_16 (fun q18829 eq18829 gq18829 => ?_)
  have uq18829 : mq = q18829 := (m18811).trans eq18829.symm
  subst uq18829
  refine x_V (As := []) (rest := []) C (a_X7_clear_g l K G H18808 (li) (sc) hTH18808 gmq gsq m18814 gwq m18815 gfq m18816 gjq m18817 geq_ m18818 gaq m18819 gcq m18820 gdq m18821 m18824 m18825) yo_X7_clear wM_X4_39 ⟨⟨by decide, by decide⟩, by decide, by decide⟩ (x_rv C hTH18808 (ci := 7) rfl gmq rg_69) rfl hl.1 rfl (Nat.le_of_ble_eq_true rfl) dX4_start_19 hSH18808 (AE_sub (fun _ _ => rfl) (by decide) hSH18808.1) (fun vH18830 H18830 locsH18830 pH18830 zH18830 kH18830 hSH18830 => ?_)
  obtain ⟨x18831, x18832, hvH18830, ex18831, ex18832, hrH18830, m18833, m18834, m18835, m18836, m18837, m18838, m18839, m18840, hTH18830⟩ := pH18830
  subst hvH18830
  have f18841 : ∀ j : Nat, bt j = (fI H18830 a1 j).toInt := fun j => (f18809 j).trans (congrArg Int32.toInt (fI_kept (x_lt hTH18808 kH18830 ga1 (by decide))).symm)
  have f18842 : TKP H18830 kq vq bt x2.toNatClampNeg (0) := TKP.kept f18810 (x_lt hTH18808 kH18830 gkq (by decide)) (x_lt hTH18808 kH18830 gvq (by decide))
  have m18843 := (m18811).trans (fR_kept (x_lt hTH18808 kH18830 ga0 (by decide))).symm
  have m18844 := (m18812).trans (fR_kept (x_lt hTH18808 kH18830 ga0 (by decide))).symm
  have m18845 := (m18813).trans (fR_kept (x_lt hTH18808 kH18830 ga0 (by decide))).symm
  have m18846 := (m18822).trans (fI_kept (x_lt hTH18808 kH18830 ga0 (by decide))).symm
  have m18847 := (m18823).trans (fI_kept (x_lt hTH18808 kH18830 ga0 (by decide))).symm
  have m18848 := (m18826).trans (fI_kept (x_lt hTH18808 kH18830 ga0 (by decide))).symm
  have m18849 := (fI_kept (x_lt hTH18808 kH18830 ga0 (by decide))).trans m18827
  have m18850 := (fI_kept (x_lt hTH18808 kH18830 ga0 (by decide))).trans m18828
  have bx18831 := ty_fi (x := x18831) (k := 0) ex18831 hTH18830 gmq rg_69 rfl
  have bx18832 := ty_fi (x := x18832) (k := 9) ex18832 hTH18830 gmq rg_69 rfl
  refine W.eq (g2 := F0 m 22 ls []) rfl ?_
  refine lv_aload_n hx hb dX4_start_22 rfl (lv_at hl 0 rfl) ?_
  refine lv_iconst (v := 0) hx hb dX4_start_23 (by decide) ?_
  refine x_put C hTH18830 hSH18830 (ci := 4) (k := 7) (v := .int 0) (ty0 := tyX4) rfl inX4 tyX4_ok nmX4 (by decide) rfl wF_X4_42 ga0 rg_78 rfl rfl (okI (by have := i_rng (0 : Int32); omega) (by have := i_rng (0 : Int32); omega)) rfl rfl (AE_in ga0 (by decide)) dX4_start_24 (fun H18851 locsH18851 hTH18851 hSH18851 wH18851 => ?_)
  have f18852 : ∀ j : Nat, bt j = (fI H18851 a1 j).toInt := fun j => (f18841 j).trans (congrArg Int32.toInt (Wr.neI wH18851 (Or.inl (G_ne ga1 ga0 (by decide)))).symm)
  have f18853 : TKP H18851 kq vq bt x2.toNatClampNeg (0) := TKP.kept f18842 (wH18851.off (G_ne gkq ga0 (by decide))) (wH18851.off (G_ne gvq ga0 (by decide)))
  have m18854 := m18843.trans (Wr.neR wH18851 (Or.inr (x_apart hKT hts inX4 tyX4 tyX4_ok nmX4 rfl 0 7 (by decide) (by decide) (by decide)))).symm
  have m18855 := m18844.trans (Wr.neR wH18851 (Or.inr (x_apart hKT hts inX4 tyX4 tyX4_ok nmX4 rfl 3 7 (by decide) (by decide) (by decide)))).symm
  have m18856 := m18845.trans (Wr.neR wH18851 (Or.inr (x_apart hKT hts inX4 tyX4 tyX4_ok nmX4 rfl 4 7 (by decide) (by decide) (by decide)))).symm
  have m18858 := m18847.trans (Wr.neI wH18851 (Or.inr (x_apart hKT hts inX4 tyX4 tyX4_ok nmX4 rfl 6 7 (by decide) (by decide) (by decide)))).symm
  have m18859 := m18848.trans (Wr.neI wH18851 (Or.inr (x_apart hKT hts inX4 tyX4 tyX4_ok nmX4 rfl 8 7 (by decide) (by decide) (by decide)))).symm
  have m18860 := (Wr.neI wH18851 (Or.inr (x_apart hKT hts inX4 tyX4 tyX4_ok nmX4 rfl 1 7 (by decide) (by decide) (by decide)))).trans m18849
  have m18861 := (Wr.neI wH18851 (Or.inr (x_apart hKT hts inX4 tyX4 tyX4_ok nmX4 rfl 2 7 (by decide) (by decide) (by decide)))).trans m18850
  have m18862 := m18833.trans (Wr.neR wH18851 (Or.inl (G_ne gmq ga0 (by decide)))).symm
  have m18863 := m18834.trans (Wr.neR wH18851 (Or.inl (G_ne gmq ga0 (by decide)))).symm
  have m18864 := m18835.trans (Wr.neR wH18851 (Or.inl (G_ne gmq ga0 (by decide)))).symm
  have m18865 := m18836.trans (Wr.neR wH18851 (Or.inl (G_ne gmq ga0 (by decide)))).symm
  have m18866 := m18837.trans (Wr.neR wH18851 (Or.inl (G_ne gmq ga0 (by decide)))).symm
  have m18867 := m18838.trans (Wr.neR wH18851 (Or.inl (G_ne gmq ga0 (by decide)))).symm
  have m18868 := m18839.trans (Wr.neR wH18851 (Or.inl (G_ne gmq ga0 (by decide)))).symm
  have m18869 := m18840.trans (Wr.neR wH18851 (Or.inl (G_ne gmq ga0 (by decide)))).symm
  have m18870 := ex18831.trans (Wr.neI wH18851 (Or.inl (G_ne gmq ga0 (by decide)))).symm
  have m18871 := ex18832.trans (Wr.neI wH18851 (Or.inl (G_ne gmq ga0 (by decide)))).symm
  have m18872 := Wr.I wH18851
  refine lv_aload_n hx hb dX4_start_27 rfl (lv_at hl 0 rfl) ?_
  refine lv_iconst (v := 0) hx hb dX4_start_28 (by decide) ?_
  refine x_put C hTH18851 hSH18851 (ci := 4) (k := 6) (v := .int 0) (ty0 := tyX4) rfl inX4 tyX4_ok nmX4 (by decide) rfl wF_X4_45 ga0 rg_78 rfl rfl (okI (by have := i_rng (0 : Int32); omega) (by have := i_rng (0 : Int32); omega)) rfl rfl (AE_in ga0 (by decide)) dX4_start_29 (fun H18873 locsH18873 hTH18873 hSH18873 wH18873 => ?_)
  have f18874 : ∀ j : Nat, bt j = (fI H18873 a1 j).toInt := fun j => (f18852 j).trans (congrArg Int32.toInt (Wr.neI wH18873 (Or.inl (G_ne ga1 ga0 (by decide)))).symm)
  have f18875 : TKP H18873 kq vq bt x2.toNatClampNeg (0) := TKP.kept f18853 (wH18873.off (G_ne gkq ga0 (by decide))) (wH18873.off (G_ne gvq ga0 (by decide)))
  have m18876 := m18854.trans (Wr.neR wH18873 (Or.inr (x_apart hKT hts inX4 tyX4 tyX4_ok nmX4 rfl 0 6 (by decide) (by decide) (by decide)))).symm
  have m18877 := m18855.trans (Wr.neR wH18873 (Or.inr (x_apart hKT hts inX4 tyX4 tyX4_ok nmX4 rfl 3 6 (by decide) (by decide) (by decide)))).symm
  have m18878 := m18856.trans (Wr.neR wH18873 (Or.inr (x_apart hKT hts inX4 tyX4 tyX4_ok nmX4 rfl 4 6 (by decide) (by decide) (by decide)))).symm
  have m18880 := m18859.trans (Wr.neI wH18873 (Or.inr (x_apart hKT hts inX4 tyX4 tyX4_ok nmX4 rfl 8 6 (by decide) (by decide) (by decide)))).symm
  have m18881 := (Wr.neI wH18873 (Or.inr (x_apart hKT hts inX4 tyX4 tyX4_ok nmX4 rfl 1 6 (by decide) (by decide) (by decide)))).trans m18860
  have m18882 := (Wr.neI wH18873 (Or.inr (x_apart hKT hts inX4 tyX4 tyX4_ok nmX4 rfl 2 6 (by decide) (by decide) (by decide)))).trans m18861
  have m18883 := m18862.trans (Wr.neR wH18873 (Or.inl (G_ne gmq ga0 (by decide)))).symm
  have m18884 := m18863.trans (Wr.neR wH18873 (Or.inl (G_ne gmq ga0 (by decide)))).symm
  have m18885 := m18864.trans (Wr.neR wH18873 (Or.inl (G_ne gmq ga0 (by decide)))).symm
  have m18886 := m18865.trans (Wr.neR wH18873 (Or.inl (G_ne gmq ga0 (by decide)))).symm
  have m18887 := m18866.trans (Wr.neR wH18873 (Or.inl (G_ne gmq ga0 (by decide)))).symm
  have m18888 := m18867.trans (Wr.neR wH18873 (Or.inl (G_ne gmq ga0 (by decide)))).symm
  have m18889 := m18868.trans (Wr.neR wH18873 (Or.inl (G_ne gmq ga0 (by decide)))).symm
  have m18890 := m18869.trans (Wr.neR wH18873 (Or.inl (G_ne gmq ga0 (by decide)))).symm
  have m18891 := m18870.trans (Wr.neI wH18873 (Or.inl (G_ne gmq ga0 (by decide)))).symm
  have m18892 := m18871.trans (Wr.neI wH18873 (Or.inl (G_ne gmq ga0 (by decide)))).symm
  have m18893 := (Wr.neI wH18873 (Or.inr (x_apart hKT hts inX4 tyX4 tyX4_ok nmX4 rfl 7 6 (by decide) (by decide) (by decide)))).trans m18872
  have m18894 := Wr.I wH18873
  refine lv_iconst (v := 0) hx hb dX4_start_32 (by decide) ?_
  refine lv_istore (lv' := [(4, .int 0), (0, .ref a0), (1, .ref a1), (2, .int x2), (3, .int x3)]) hx hb dX4_start_33 hl (by decide) rfl (fun ls18895 hl18896 => ?_)
  have cl00 : (0 : Int32).toNatClampNeg = 0 := rfl
  exact J35 ((500 - (0 : Int32).toInt).toNat + 1)  ls18895 H18873 locsH18873 (0) (0) (0) (x3) (0) (x18831) (x18832) (lv_sub hl18896 [1, 2, 3, 0] rfl) hTH18873 hSH18873 (by decide) (by decide) (by decide) (by have := i_rng x3; omega) (by have := i_rng x18831; omega) (by have := i_rng x18832; omega) (m18893).symm (m18894).symm m18880 (m18881).symm m18891 m18892 m18876 m18877 m18878 m18883 m18884 m18885 m18886 m18887 m18888 m18889 m18890 f18874 (TKP.to f18875 (by omega)) (by omega) (by omega) rfl
