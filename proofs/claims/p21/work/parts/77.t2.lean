set_option maxHeartbeats 4000000 in
set_option maxRecDepth 100000 in
theorem a_X0_copyFrom_bk (l : Launch) (K : KE) (G : Nat → Option Nat) (H : Heap) {a0 : Nat} {a1 : Nat} (bk : Int32) (ok : Int32) (hT : TY K G H) (ga0 : G a0 = some 35) (ga1 : G a1 = some 1) (ebk : bk = fI H a0 (K.1.2 0 14)) (eok : ok = fI H a1 (K.1.2 0 14)) : MX l K yX0_copyFrom cX0_copyFrom 3 none 1 40 0 0 [.ref a0, .ref a1] H (AE G [35, 36, 37, 38, 39, 40, 41, 42, 43, 44, 46, 48, 49] H.size) (fun v H1 => ∃ (t0 : Int32), v = none ∧ t0 = fI H1 a0 (K.1.2 0 14) ∧ (t0.toInt = ok.toInt) ∧ (∀ q : Nat, G q = some 35 → q ≠ a0 → fI H1 q (K.1.2 0 14) = fI H q (K.1.2 0 14)) ∧ TY K G H1) := by
  refine MX.of (by decide +kernel) (Nat.le_of_ble_eq_true rfl) ?_
  intro p e s m below meth c ls Q C hH hl hQ
  subst hH
  have C : CX p K s m _ meth c RX0 cX0_copyFrom 3 none "copyFrom" := C
  obtain ⟨hx, hb, hml, hown, hts, hKT, hr, hlocks, hnm⟩ := id C
  have hl : lv_has ls 3 [(0, .ref a0), (1, .ref a1)] := hl
  have hS : va_S (AE G [35, 36, 37, 38, 39, 40, 41, 42, 43, 44, 46, 48, 49] s.heap.size) s.heap s.heap [] := va_S.rf
  have n_0 : (0 : Int32).toInt = 0 := rfl
  have n_1 : (1 : Int32).toInt = 1 := rfl
  have n_2 : (2 : Int32).toInt = 2 := rfl
  have n_3 : (3 : Int32).toInt = 3 := rfl
  have n_12 : (12 : Int32).toInt = 12 := rfl
  have n_16 : (16 : Int32).toInt = 16 := rfl
  have n_200 : (200 : Int32).toInt = 200 := rfl
  have bbk := ty_fi (x := bk) (k := 14) ebk hT ga0 rg_35 rfl
  have bok := ty_fi (x := ok) (k := 14) eok hT ga1 rg_1 rfl
  have f0_rf : ∀ q : Nat, G q = some 35 → q ≠ a0 → fI s.heap q (K.1.2 0 14) = fI s.heap q (K.1.2 0 14) := fun _ _ _ => rfl
  have J162 : ∀ (nf : Nat) (ls1552 : Array Slot) (H1551 : Heap) (locsH1551 : List Loc) (x1554 : Int32) (x1555 : Int32), lv_has ls1552 3 [(0, .ref a0), (1, .ref a1), (2, .int x1554)] → TY K G H1551 → va_S (AE G [35, 36, 37, 38, 39, 40, 41, 42, 43, 44, 46, 48, 49] s.heap.size) s.heap H1551 locsH1551 → (0 ≤ x1554.toInt ∧ x1554.toInt ≤ 12) → (0 ≤ x1555.toInt ∧ x1555.toInt ≤ 12) → (x1555 = fI H1551 a0 (K.1.2 0 14)) → (ok = fI H1551 a1 (K.1.2 0 14)) → (∀ q : Nat, G q = some 35 → q ≠ a0 → fI H1551 q (K.1.2 0 14) = fI s.heap q (K.1.2 0 14)) → (12 - x1554.toInt < (nf : Int)) → W p l e ({ frames := 1, cells := 0, slots := 0, locals := 40 } : Room) s m (([.ref a0, .ref a1] : List Value).toArray) below meth c H1551 locsH1551 0 0 Q (F0 m 162 ls1552 []) := by
    intro nf
    induction nf with
    | zero =>
      intro ls1552 H1551 locsH1551 x1554 x1555 hl1553 hTH1551 hSH1551 bx1554 bx1555 ex1555 cy1556_0 fy1556_rf hm162
      exfalso
      omega
    | succ nf ih162 =>
      intro ls1552 H1551 locsH1551 x1554 x1555 hl1553 hTH1551 hSH1551 bx1554 bx1555 ex1555 cy1556_0 fy1556_rf hm162
      refine lv_iload_n hx hb dX0_copyFrom_162 rfl (lv_at hl1553 2 rfl) ?_
      refine lv_bipush (v := 12) hx hb dX0_copyFrom_163 (by decide) ?_
      refine lv_icmp_ge (tgt := 212) hx hb dX0_copyFrom_165 (by decide) (fun c1557 => ?_) (fun c1557 => ?_)
      · have k1558 := i_le c1557
        refine lv_aload_n hx hb dX0_copyFrom_212 rfl (lv_at hl1553 0 rfl) ?_
        refine lv_aload_n hx hb dX0_copyFrom_213 rfl (lv_at hl1553 1 rfl) ?_
        refine x_gi C hTH1551 (ci := 0) (k := 14) rfl inX0 (by decide) wF_X0_66 ga1 rg_1 rfl dX0_copyFrom_214 (fun x1559 ex1559 bx1559 => ?_)
        have ux1559 : ok = x1559 := (cy1556_0).trans ex1559.symm
        subst ux1559
        refine x_put C hTH1551 hSH1551 (ci := 0) (k := 14) (v := .int ok) (ty0 := tyX0) rfl inX0 tyX0_ok nmX0 (by decide) rfl wF_X0_66 ga0 rg_35 rfl rfl (okI (by have := i_rng ok; omega) (by have := i_rng ok; omega)) rfl rfl (AE_in ga0 (by decide)) dX0_copyFrom_217 (fun H1560 locsH1560 hTH1560 hSH1560 wH1560 => ?_)
        have f1561 : ∀ q : Nat, G q = some 35 → q ≠ a0 → fI H1560 q (K.1.2 0 14) = fI s.heap q (K.1.2 0 14) := fun q hq hn => (Wr.neI wH1560 (Or.inl hn)).trans (fy1556_rf q hq hn)
        have m1563 := cy1556_0.trans (Wr.neI wH1560 (Or.inl (G_ne ga1 ga0 (by decide)))).symm
        have m1564 := Wr.I wH1560
        have m1564 := m1564.symm
        refine lv_aload_n hx hb dX0_copyFrom_220 rfl (lv_at hl1553 0 rfl) ?_
        refine lv_aload_n hx hb dX0_copyFrom_221 rfl (lv_at hl1553 1 rfl) ?_
        refine x_gi C hTH1560 (ci := 0) (k := 15) rfl inX0 (by decide) wF_X0_69 ga1 rg_1 rfl dX0_copyFrom_222 (fun x1565 ex1565 bx1565 => ?_)
        refine x_put C hTH1560 hSH1560 (ci := 0) (k := 15) (v := .int x1565) (ty0 := tyX0) rfl inX0 tyX0_ok nmX0 (by decide) rfl wF_X0_69 ga0 rg_35 rfl rfl (okI (by have := i_rng x1565; omega) (by have := i_rng x1565; omega)) rfl rfl (AE_in ga0 (by decide)) dX0_copyFrom_225 (fun H1566 locsH1566 hTH1566 hSH1566 wH1566 => ?_)
        have f1567 : ∀ q : Nat, G q = some 35 → q ≠ a0 → fI H1566 q (K.1.2 0 14) = fI s.heap q (K.1.2 0 14) := fun q hq hn => (Wr.neI wH1566 (Or.inr (x_apart hKT hts inX0 tyX0 tyX0_ok nmX0 rfl 14 15 (by decide) (by decide) (by decide)))).trans (f1561 q hq hn)
        have m1568 := m1563.trans (Wr.neI wH1566 (Or.inl (G_ne ga1 ga0 (by decide)))).symm
        have m1569 := m1564.trans (Wr.neI wH1566 (Or.inr (x_apart hKT hts inX0 tyX0 tyX0_ok nmX0 rfl 14 15 (by decide) (by decide) (by decide)))).symm
        have m1570 := ex1565.trans (Wr.neI wH1566 (Or.inl (G_ne ga1 ga0 (by decide)))).symm
        have m1571 := Wr.I wH1566
        have m1571 := m1571.symm
        refine lv_aload_n hx hb dX0_copyFrom_228 rfl (lv_at hl1553 0 rfl) ?_
        refine lv_aload_n hx hb dX0_copyFrom_229 rfl (lv_at hl1553 1 rfl) ?_
        refine x_gi C hTH1566 (ci := 0) (k := 16) rfl inX0 (by decide) wF_X0_72 ga1 rg_1 rfl dX0_copyFrom_230 (fun x1572 ex1572 bx1572 => ?_)
        refine x_put C hTH1566 hSH1566 (ci := 0) (k := 16) (v := .int x1572) (ty0 := tyX0) rfl inX0 tyX0_ok nmX0 (by decide) rfl wF_X0_72 ga0 rg_35 rfl rfl (okI (by have := i_rng x1572; omega) (by have := i_rng x1572; omega)) rfl rfl (AE_in ga0 (by decide)) dX0_copyFrom_233 (fun H1573 locsH1573 hTH1573 hSH1573 wH1573 => ?_)
        have f1574 : ∀ q : Nat, G q = some 35 → q ≠ a0 → fI H1573 q (K.1.2 0 14) = fI s.heap q (K.1.2 0 14) := fun q hq hn => (Wr.neI wH1573 (Or.inr (x_apart hKT hts inX0 tyX0 tyX0_ok nmX0 rfl 14 16 (by decide) (by decide) (by decide)))).trans (f1567 q hq hn)
        have m1575 := m1568.trans (Wr.neI wH1573 (Or.inl (G_ne ga1 ga0 (by decide)))).symm
        have m1576 := m1569.trans (Wr.neI wH1573 (Or.inr (x_apart hKT hts inX0 tyX0 tyX0_ok nmX0 rfl 14 16 (by decide) (by decide) (by decide)))).symm
        have m1577 := m1570.trans (Wr.neI wH1573 (Or.inl (G_ne ga1 ga0 (by decide)))).symm
        have m1578 := m1571.trans (Wr.neI wH1573 (Or.inr (x_apart hKT hts inX0 tyX0 tyX0_ok nmX0 rfl 15 16 (by decide) (by decide) (by decide)))).symm
        have m1579 := ex1572.trans (Wr.neI wH1573 (Or.inl (G_ne ga1 ga0 (by decide)))).symm
        have m1580 := Wr.I wH1573
        have m1580 := m1580.symm
        refine lv_aload_n hx hb dX0_copyFrom_236 rfl (lv_at hl1553 1 rfl) ?_
        refine x_gr C hTH1573 (ci := 0) (k := 17) rfl inX0 (by decide) wF_X0_47 ga1 rg_1 rfl dX0_copyFrom_237 (fun q1581 eq1581 gq1581 => ?_)
        refine lv_iconst (v := 0) hx hb dX0_copyFrom_240 (by decide) ?_
        refine lv_aload_n hx hb dX0_copyFrom_241 rfl (lv_at hl1553 0 rfl) ?_
        refine x_gr C hTH1573 (ci := 0) (k := 17) rfl inX0 (by decide) wF_X0_47 ga0 rg_35 rfl dX0_copyFrom_242 (fun q1582 eq1582 gq1582 => ?_)
        refine lv_iconst (v := 0) hx hb dX0_copyFrom_245 (by decide) ?_
        refine lv_iconst (v := 2) hx hb dX0_copyFrom_246 (by decide) ?_
        refine x_copy C hTH1573 hSH1573 wM_X0_75 wNT_arraycopy wST_arraycopy wIN_J10 gq1581 gq1582 rg_15 rg_49 (by decide) (by omega) (by omega) (by omega) (by show _ ≤ ((2 : Nat) : Int); omega) (by show _ ≤ ((2 : Nat) : Int); omega) (AE_in gq1582 (by decide)) hl1553.1 (by decide) dX0_copyFrom_247 (fun H1583 locsH1583 hTH1583 hSH1583 zH1583 oH1583 vH1583 wH1583 => ?_)
        have m1584 := (m1575).trans (fI_kept (oH1583 _ (G_ne ga1 gq1582 (by decide)))).symm
        have m1585 := (m1576).trans (fI_kept (oH1583 _ (G_ne ga0 gq1582 (by decide)))).symm
        have m1586 := (m1577).trans (fI_kept (oH1583 _ (G_ne ga1 gq1582 (by decide)))).symm
        have m1587 := (m1578).trans (fI_kept (oH1583 _ (G_ne ga0 gq1582 (by decide)))).symm
        have m1588 := (m1579).trans (fI_kept (oH1583 _ (G_ne ga1 gq1582 (by decide)))).symm
        have m1589 := (m1580).trans (fI_kept (oH1583 _ (G_ne ga0 gq1582 (by decide)))).symm
        have m1590 := (eq1581).trans (fR_kept (oH1583 _ (G_ne ga1 gq1582 (by decide)))).symm
        have m1591 := (eq1582).trans (fR_kept (oH1583 _ (G_ne ga0 gq1582 (by decide)))).symm
        have f1592 : ∀ q : Nat, G q = some 35 → q ≠ a0 → fI H1583 q (K.1.2 0 14) = fI s.heap q (K.1.2 0 14) := fun q hq hn => (fI_kept (oH1583 _ (G_ne hq gq1582 (by decide)))).trans (f1574 q hq hn)
        exact x_vret C hQ dX0_copyFrom_250 hSH1583 (by decide) (by decide) (⟨ok, rfl, m1585, by omega, f1592, hTH1583⟩)
      · have k1558 := i_nle c1557
        refine lv_aload_n hx hb dX0_copyFrom_168 rfl (lv_at hl1553 1 rfl) ?_
        refine x_gr C hTH1551 (ci := 0) (k := 12) rfl inX0 (by decide) wF_X0_41 ga1 rg_1 rfl dX0_copyFrom_169 (fun q1593 eq1593 gq1593 => ?_)
        refine lv_iload_n hx hb dX0_copyFrom_172 rfl (lv_at hl1553 2 rfl) ?_
        refine x_ar C hTH1551 rfl rfl gq1593 rg_11 ⟨by omega, by show _ < ((12 : Nat) : Int); omega⟩ dX0_copyFrom_173 (fun q1594 eq1594 gq1594 => ?_)
        refine lv_iconst (v := 0) hx hb dX0_copyFrom_174 (by decide) ?_
        refine lv_aload_n hx hb dX0_copyFrom_175 rfl (lv_at hl1553 0 rfl) ?_
        refine x_gr C hTH1551 (ci := 0) (k := 12) rfl inX0 (by decide) wF_X0_41 ga0 rg_35 rfl dX0_copyFrom_176 (fun q1595 eq1595 gq1595 => ?_)
        refine lv_iload_n hx hb dX0_copyFrom_179 rfl (lv_at hl1553 2 rfl) ?_
        refine x_ar C hTH1551 rfl rfl gq1595 rg_45 ⟨by omega, by show _ < ((12 : Nat) : Int); omega⟩ dX0_copyFrom_180 (fun q1596 eq1596 gq1596 => ?_)
        refine lv_iconst (v := 0) hx hb dX0_copyFrom_181 (by decide) ?_
        refine lv_bipush (v := 16) hx hb dX0_copyFrom_182 (by decide) ?_
        refine x_copy C hTH1551 hSH1551 wM_X0_75 wNT_arraycopy wST_arraycopy wIN_J10 gq1594 gq1596 rg_12 rg_46 (by decide) (by omega) (by omega) (by omega) (by show _ ≤ ((16 : Nat) : Int); omega) (by show _ ≤ ((16 : Nat) : Int); omega) (AE_in gq1596 (by decide)) hl1553.1 (by decide) dX0_copyFrom_184 (fun H1597 locsH1597 hTH1597 hSH1597 zH1597 oH1597 vH1597 wH1597 => ?_)
        have m1598 := (ex1555).trans (fI_kept (oH1597 _ (G_ne ga0 gq1596 (by decide)))).symm
        have m1599 := (cy1556_0).trans (fI_kept (oH1597 _ (G_ne ga1 gq1596 (by decide)))).symm
        have m1600 := (eq1593).trans (fR_kept (oH1597 _ (G_ne ga1 gq1596 (by decide)))).symm
        have m1601 := (eq1595).trans (fR_kept (oH1597 _ (G_ne ga0 gq1596 (by decide)))).symm
        have f1602 : ∀ q : Nat, G q = some 35 → q ≠ a0 → fI H1597 q (K.1.2 0 14) = fI s.heap q (K.1.2 0 14) := fun q hq hn => (fI_kept (oH1597 _ (G_ne hq gq1596 (by decide)))).trans (fy1556_rf q hq hn)
        refine lv_aload_n hx hb dX0_copyFrom_187 rfl (lv_at hl1553 1 rfl) ?_
        refine x_gr C hTH1597 (ci := 0) (k := 13) rfl inX0 (by decide) wF_X0_44 ga1 rg_1 rfl dX0_copyFrom_188 (fun q1603 eq1603 gq1603 => ?_)
        refine lv_iload_n hx hb dX0_copyFrom_191 rfl (lv_at hl1553 2 rfl) ?_
        refine x_ar C hTH1597 rfl rfl gq1603 rg_13 ⟨by omega, by show _ < ((12 : Nat) : Int); omega⟩ dX0_copyFrom_192 (fun q1604 eq1604 gq1604 => ?_)
        refine lv_iconst (v := 0) hx hb dX0_copyFrom_193 (by decide) ?_
        refine lv_aload_n hx hb dX0_copyFrom_194 rfl (lv_at hl1553 0 rfl) ?_
        refine x_gr C hTH1597 (ci := 0) (k := 13) rfl inX0 (by decide) wF_X0_44 ga0 rg_35 rfl dX0_copyFrom_195 (fun q1605 eq1605 gq1605 => ?_)
        refine lv_iload_n hx hb dX0_copyFrom_198 rfl (lv_at hl1553 2 rfl) ?_
        refine x_ar C hTH1597 rfl rfl gq1605 rg_47 ⟨by omega, by show _ < ((12 : Nat) : Int); omega⟩ dX0_copyFrom_199 (fun q1606 eq1606 gq1606 => ?_)
        refine lv_iconst (v := 0) hx hb dX0_copyFrom_200 (by decide) ?_
        refine lv_bipush (v := 16) hx hb dX0_copyFrom_201 (by decide) ?_
        refine x_copy C hTH1597 hSH1597 wM_X0_75 wNT_arraycopy wST_arraycopy wIN_J10 gq1604 gq1606 rg_14 rg_48 (by decide) (by omega) (by omega) (by omega) (by show _ ≤ ((16 : Nat) : Int); omega) (by show _ ≤ ((16 : Nat) : Int); omega) (AE_in gq1606 (by decide)) hl1553.1 (by decide) dX0_copyFrom_203 (fun H1607 locsH1607 hTH1607 hSH1607 zH1607 oH1607 vH1607 wH1607 => ?_)
        have m1608 := (m1598).trans (fI_kept (oH1607 _ (G_ne ga0 gq1606 (by decide)))).symm
        have m1609 := (m1599).trans (fI_kept (oH1607 _ (G_ne ga1 gq1606 (by decide)))).symm
        have m1610 := (m1600).trans (fR_kept (oH1607 _ (G_ne ga1 gq1606 (by decide)))).symm
        have m1611 := (m1601).trans (fR_kept (oH1607 _ (G_ne ga0 gq1606 (by decide)))).symm
        have m1612 := (eq1603).trans (fR_kept (oH1607 _ (G_ne ga1 gq1606 (by decide)))).symm
        have m1613 := (eq1605).trans (fR_kept (oH1607 _ (G_ne ga0 gq1606 (by decide)))).symm
        have f1614 : ∀ q : Nat, G q = some 35 → q ≠ a0 → fI H1607 q (K.1.2 0 14) = fI s.heap q (K.1.2 0 14) := fun q hq hn => (fI_kept (oH1607 _ (G_ne hq gq1606 (by decide)))).trans (f1602 q hq hn)
        obtain ⟨x1615, ex1615⟩ : ∃ y : Int32, y = x1554 + 1 := ⟨_, rfl⟩
        have tx1615 := i_add ex1615 (by omega)
        refine lv_iinc (v := x1615) (lv' := [(2, .int x1615), (0, .ref a0), (1, .ref a1)]) hx hb dX0_copyFrom_206 hl1553 (k := 2) rfl (by rw [ex1615]; rfl) (by decide) rfl (fun ls1616 hl1617 => ?_)
        refine lv_goto (tgt := 162) hx hb dX0_copyFrom_209 (by decide) ?_
        exact ih162 ls1616 H1607 locsH1607 (x1615) (x1555) (lv_sub hl1617 [1, 2, 0] rfl) hTH1607 hSH1607 (by have := i_rng x1615; omega) (by have := i_rng x1555; omega) m1608 m1609 f1614 (by omega)
  refine lv_aload_n hx hb dX0_copyFrom_0 rfl (lv_at hl 0 rfl) ?_
  refine lv_aload_n hx hb dX0_copyFrom_1 rfl (lv_at hl 1 rfl) ?_
  refine x_gi C hT (ci := 0) (k := 0) rfl inX0 (by decide) wF_X0_50 ga1 rg_1 rfl dX0_copyFrom_2 (fun x1618 ex1618 bx1618 => ?_)
  refine x_put C hT hS (ci := 0) (k := 0) (v := .int x1618) (ty0 := tyX0) rfl inX0 tyX0_ok nmX0 (by decide) rfl wF_X0_50 ga0 rg_35 rfl rfl (okI (by have := i_rng x1618; omega) (by have := i_rng x1618; omega)) rfl rfl (AE_in ga0 (by decide)) dX0_copyFrom_5 (fun H1619 locsH1619 hTH1619 hSH1619 wH1619 => ?_)
  have f1620 : ∀ q : Nat, G q = some 35 → q ≠ a0 → fI H1619 q (K.1.2 0 14) = fI s.heap q (K.1.2 0 14) := fun q hq hn => (Wr.neI wH1619 (Or.inr (x_apart hKT hts inX0 tyX0 tyX0_ok nmX0 rfl 14 0 (by decide) (by decide) (by decide)))).trans (f0_rf q hq hn)
  have m1621 := ebk.trans (Wr.neI wH1619 (Or.inr (x_apart hKT hts inX0 tyX0 tyX0_ok nmX0 rfl 14 0 (by decide) (by decide) (by decide)))).symm
  have m1622 := eok.trans (Wr.neI wH1619 (Or.inl (G_ne ga1 ga0 (by decide)))).symm
  have m1623 := ex1618.trans (Wr.neI wH1619 (Or.inl (G_ne ga1 ga0 (by decide)))).symm
  have m1624 := Wr.I wH1619
  have m1624 := m1624.symm
  refine lv_aload_n hx hb dX0_copyFrom_8 rfl (lv_at hl 1 rfl) ?_
  refine x_gr C hTH1619 (ci := 0) (k := 1) rfl inX0 (by decide) wF_X0_9 ga1 rg_1 rfl dX0_copyFrom_9 (fun q1625 eq1625 gq1625 => ?_)
  refine lv_iconst (v := 0) hx hb dX0_copyFrom_12 (by decide) ?_
  refine lv_aload_n hx hb dX0_copyFrom_13 rfl (lv_at hl 0 rfl) ?_
  refine x_gr C hTH1619 (ci := 0) (k := 1) rfl inX0 (by decide) wF_X0_9 ga0 rg_35 rfl dX0_copyFrom_14 (fun q1626 eq1626 gq1626 => ?_)
  refine lv_iconst (v := 0) hx hb dX0_copyFrom_17 (by decide) ?_
  refine lv_bipush (v := 16) hx hb dX0_copyFrom_18 (by decide) ?_
  refine x_copy C hTH1619 hSH1619 wM_X0_75 wNT_arraycopy wST_arraycopy wIN_J10 gq1625 gq1626 rg_2 rg_36 (by decide) (by omega) (by omega) (by omega) (by show _ ≤ ((16 : Nat) : Int); omega) (by show _ ≤ ((16 : Nat) : Int); omega) (AE_in gq1626 (by decide)) hl.1 (by decide) dX0_copyFrom_20 (fun H1627 locsH1627 hTH1627 hSH1627 zH1627 oH1627 vH1627 wH1627 => ?_)
  have m1628 := (m1621).trans (fI_kept (oH1627 _ (G_ne ga0 gq1626 (by decide)))).symm
  have m1629 := (m1622).trans (fI_kept (oH1627 _ (G_ne ga1 gq1626 (by decide)))).symm
  have m1630 := (m1623).trans (fI_kept (oH1627 _ (G_ne ga1 gq1626 (by decide)))).symm
  have m1631 := (m1624).trans (fI_kept (oH1627 _ (G_ne ga0 gq1626 (by decide)))).symm
  have m1632 := (eq1625).trans (fR_kept (oH1627 _ (G_ne ga1 gq1626 (by decide)))).symm
  have m1633 := (eq1626).trans (fR_kept (oH1627 _ (G_ne ga0 gq1626 (by decide)))).symm
  have f1634 : ∀ q : Nat, G q = some 35 → q ≠ a0 → fI H1627 q (K.1.2 0 14) = fI s.heap q (K.1.2 0 14) := fun q hq hn => (fI_kept (oH1627 _ (G_ne hq gq1626 (by decide)))).trans (f1620 q hq hn)
  refine lv_aload_n hx hb dX0_copyFrom_23 rfl (lv_at hl 1 rfl) ?_
  refine x_gr C hTH1627 (ci := 0) (k := 2) rfl inX0 (by decide) wF_X0_15 ga1 rg_1 rfl dX0_copyFrom_24 (fun q1635 eq1635 gq1635 => ?_)
  refine lv_iconst (v := 0) hx hb dX0_copyFrom_27 (by decide) ?_
  refine lv_aload_n hx hb dX0_copyFrom_28 rfl (lv_at hl 0 rfl) ?_
  refine x_gr C hTH1627 (ci := 0) (k := 2) rfl inX0 (by decide) wF_X0_15 ga0 rg_35 rfl dX0_copyFrom_29 (fun q1636 eq1636 gq1636 => ?_)
  refine lv_iconst (v := 0) hx hb dX0_copyFrom_32 (by decide) ?_
  refine lv_bipush (v := 16) hx hb dX0_copyFrom_33 (by decide) ?_
  refine x_copy C hTH1627 hSH1627 wM_X0_75 wNT_arraycopy wST_arraycopy wIN_J10 gq1635 gq1636 rg_3 rg_37 (by decide) (by omega) (by omega) (by omega) (by show _ ≤ ((16 : Nat) : Int); omega) (by show _ ≤ ((16 : Nat) : Int); omega) (AE_in gq1636 (by decide)) hl.1 (by decide) dX0_copyFrom_35 (fun H1637 locsH1637 hTH1637 hSH1637 zH1637 oH1637 vH1637 wH1637 => ?_)
  have m1638 := (m1628).trans (fI_kept (oH1637 _ (G_ne ga0 gq1636 (by decide)))).symm
  have m1639 := (m1629).trans (fI_kept (oH1637 _ (G_ne ga1 gq1636 (by decide)))).symm
  have m1640 := (m1630).trans (fI_kept (oH1637 _ (G_ne ga1 gq1636 (by decide)))).symm
  have m1641 := (m1631).trans (fI_kept (oH1637 _ (G_ne ga0 gq1636 (by decide)))).symm
  have m1642 := (m1632).trans (fR_kept (oH1637 _ (G_ne ga1 gq1636 (by decide)))).symm
  have m1643 := (m1633).trans (fR_kept (oH1637 _ (G_ne ga0 gq1636 (by decide)))).symm
  have m1644 := (eq1635).trans (fR_kept (oH1637 _ (G_ne ga1 gq1636 (by decide)))).symm
  have m1645 := (eq1636).trans (fR_kept (oH1637 _ (G_ne ga0 gq1636 (by decide)))).symm
  have f1646 : ∀ q : Nat, G q = some 35 → q ≠ a0 → fI H1637 q (K.1.2 0 14) = fI s.heap q (K.1.2 0 14) := fun q hq hn => (fI_kept (oH1637 _ (G_ne hq gq1636 (by decide)))).trans (f1634 q hq hn)
  refine lv_aload_n hx hb dX0_copyFrom_38 rfl (lv_at hl 1 rfl) ?_
  refine x_gr C hTH1637 (ci := 0) (k := 3) rfl inX0 (by decide) wF_X0_18 ga1 rg_1 rfl dX0_copyFrom_39 (fun q1647 eq1647 gq1647 => ?_)
  refine lv_iconst (v := 0) hx hb dX0_copyFrom_42 (by decide) ?_
  refine lv_aload_n hx hb dX0_copyFrom_43 rfl (lv_at hl 0 rfl) ?_
  refine x_gr C hTH1637 (ci := 0) (k := 3) rfl inX0 (by decide) wF_X0_18 ga0 rg_35 rfl dX0_copyFrom_44 (fun q1648 eq1648 gq1648 => ?_)
  refine lv_iconst (v := 0) hx hb dX0_copyFrom_47 (by decide) ?_
  refine lv_bipush (v := 16) hx hb dX0_copyFrom_48 (by decide) ?_
  refine x_copy C hTH1637 hSH1637 wM_X0_75 wNT_arraycopy wST_arraycopy wIN_J10 gq1647 gq1648 rg_4 rg_38 (by decide) (by omega) (by omega) (by omega) (by show _ ≤ ((16 : Nat) : Int); omega) (by show _ ≤ ((16 : Nat) : Int); omega) (AE_in gq1648 (by decide)) hl.1 (by decide) dX0_copyFrom_50 (fun H1649 locsH1649 hTH1649 hSH1649 zH1649 oH1649 vH1649 wH1649 => ?_)
  have m1650 := (m1638).trans (fI_kept (oH1649 _ (G_ne ga0 gq1648 (by decide)))).symm
  have m1651 := (m1639).trans (fI_kept (oH1649 _ (G_ne ga1 gq1648 (by decide)))).symm
  have m1652 := (m1640).trans (fI_kept (oH1649 _ (G_ne ga1 gq1648 (by decide)))).symm
  have m1653 := (m1641).trans (fI_kept (oH1649 _ (G_ne ga0 gq1648 (by decide)))).symm
  have m1654 := (m1642).trans (fR_kept (oH1649 _ (G_ne ga1 gq1648 (by decide)))).symm
  have m1655 := (m1643).trans (fR_kept (oH1649 _ (G_ne ga0 gq1648 (by decide)))).symm
  have m1656 := (m1644).trans (fR_kept (oH1649 _ (G_ne ga1 gq1648 (by decide)))).symm
  have m1657 := (m1645).trans (fR_kept (oH1649 _ (G_ne ga0 gq1648 (by decide)))).symm
  have m1658 := (eq1647).trans (fR_kept (oH1649 _ (G_ne ga1 gq1648 (by decide)))).symm
  have m1659 := (eq1648).trans (fR_kept (oH1649 _ (G_ne ga0 gq1648 (by decide)))).symm
  have f1660 : ∀ q : Nat, G q = some 35 → q ≠ a0 → fI H1649 q (K.1.2 0 14) = fI s.heap q (K.1.2 0 14) := fun q hq hn => (fI_kept (oH1649 _ (G_ne hq gq1648 (by decide)))).trans (f1646 q hq hn)
  refine lv_aload_n hx hb dX0_copyFrom_53 rfl (lv_at hl 1 rfl) ?_
  refine x_gr C hTH1649 (ci := 0) (k := 4) rfl inX0 (by decide) wF_X0_21 ga1 rg_1 rfl dX0_copyFrom_54 (fun q1661 eq1661 gq1661 => ?_)
  refine lv_iconst (v := 0) hx hb dX0_copyFrom_57 (by decide) ?_
  refine lv_aload_n hx hb dX0_copyFrom_58 rfl (lv_at hl 0 rfl) ?_
  refine x_gr C hTH1649 (ci := 0) (k := 4) rfl inX0 (by decide) wF_X0_21 ga0 rg_35 rfl dX0_copyFrom_59 (fun q1662 eq1662 gq1662 => ?_)
  refine lv_iconst (v := 0) hx hb dX0_copyFrom_62 (by decide) ?_
  refine lv_bipush (v := 16) hx hb dX0_copyFrom_63 (by decide) ?_
  refine x_copy C hTH1649 hSH1649 wM_X0_75 wNT_arraycopy wST_arraycopy wIN_J10 gq1661 gq1662 rg_5 rg_39 (by decide) (by omega) (by omega) (by omega) (by show _ ≤ ((16 : Nat) : Int); omega) (by show _ ≤ ((16 : Nat) : Int); omega) (AE_in gq1662 (by decide)) hl.1 (by decide) dX0_copyFrom_65 (fun H1663 locsH1663 hTH1663 hSH1663 zH1663 oH1663 vH1663 wH1663 => ?_)
  have m1664 := (m1650).trans (fI_kept (oH1663 _ (G_ne ga0 gq1662 (by decide)))).symm
  have m1665 := (m1651).trans (fI_kept (oH1663 _ (G_ne ga1 gq1662 (by decide)))).symm
  have m1666 := (m1652).trans (fI_kept (oH1663 _ (G_ne ga1 gq1662 (by decide)))).symm
  have m1667 := (m1653).trans (fI_kept (oH1663 _ (G_ne ga0 gq1662 (by decide)))).symm
  have m1668 := (m1654).trans (fR_kept (oH1663 _ (G_ne ga1 gq1662 (by decide)))).symm
  have m1669 := (m1655).trans (fR_kept (oH1663 _ (G_ne ga0 gq1662 (by decide)))).symm
  have m1670 := (m1656).trans (fR_kept (oH1663 _ (G_ne ga1 gq1662 (by decide)))).symm
  have m1671 := (m1657).trans (fR_kept (oH1663 _ (G_ne ga0 gq1662 (by decide)))).symm
  have m1672 := (m1658).trans (fR_kept (oH1663 _ (G_ne ga1 gq1662 (by decide)))).symm
  have m1673 := (m1659).trans (fR_kept (oH1663 _ (G_ne ga0 gq1662 (by decide)))).symm
  have m1674 := (eq1661).trans (fR_kept (oH1663 _ (G_ne ga1 gq1662 (by decide)))).symm
  have m1675 := (eq1662).trans (fR_kept (oH1663 _ (G_ne ga0 gq1662 (by decide)))).symm
  have f1676 : ∀ q : Nat, G q = some 35 → q ≠ a0 → fI H1663 q (K.1.2 0 14) = fI s.heap q (K.1.2 0 14) := fun q hq hn => (fI_kept (oH1663 _ (G_ne hq gq1662 (by decide)))).trans (f1660 q hq hn)
  refine lv_aload_n hx hb dX0_copyFrom_68 rfl (lv_at hl 1 rfl) ?_
  refine x_gr C hTH1663 (ci := 0) (k := 5) rfl inX0 (by decide) wF_X0_24 ga1 rg_1 rfl dX0_copyFrom_69 (fun q1677 eq1677 gq1677 => ?_)
  refine lv_iconst (v := 0) hx hb dX0_copyFrom_72 (by decide) ?_
  refine lv_aload_n hx hb dX0_copyFrom_73 rfl (lv_at hl 0 rfl) ?_
  refine x_gr C hTH1663 (ci := 0) (k := 5) rfl inX0 (by decide) wF_X0_24 ga0 rg_35 rfl dX0_copyFrom_74 (fun q1678 eq1678 gq1678 => ?_)
  refine lv_iconst (v := 0) hx hb dX0_copyFrom_77 (by decide) ?_
  refine lv_iconst (v := 3) hx hb dX0_copyFrom_78 (by decide) ?_
  refine x_copy C hTH1663 hSH1663 wM_X0_75 wNT_arraycopy wST_arraycopy wIN_J10 gq1677 gq1678 rg_6 rg_40 (by decide) (by omega) (by omega) (by omega) (by show _ ≤ ((3 : Nat) : Int); omega) (by show _ ≤ ((3 : Nat) : Int); omega) (AE_in gq1678 (by decide)) hl.1 (by decide) dX0_copyFrom_79 (fun H1679 locsH1679 hTH1679 hSH1679 zH1679 oH1679 vH1679 wH1679 => ?_)
  have m1680 := (m1664).trans (fI_kept (oH1679 _ (G_ne ga0 gq1678 (by decide)))).symm
  have m1681 := (m1665).trans (fI_kept (oH1679 _ (G_ne ga1 gq1678 (by decide)))).symm
  have m1682 := (m1666).trans (fI_kept (oH1679 _ (G_ne ga1 gq1678 (by decide)))).symm
  have m1683 := (m1667).trans (fI_kept (oH1679 _ (G_ne ga0 gq1678 (by decide)))).symm
  have m1684 := (m1668).trans (fR_kept (oH1679 _ (G_ne ga1 gq1678 (by decide)))).symm
  have m1685 := (m1669).trans (fR_kept (oH1679 _ (G_ne ga0 gq1678 (by decide)))).symm
  have m1686 := (m1670).trans (fR_kept (oH1679 _ (G_ne ga1 gq1678 (by decide)))).symm
  have m1687 := (m1671).trans (fR_kept (oH1679 _ (G_ne ga0 gq1678 (by decide)))).symm
  have m1688 := (m1672).trans (fR_kept (oH1679 _ (G_ne ga1 gq1678 (by decide)))).symm
  have m1689 := (m1673).trans (fR_kept (oH1679 _ (G_ne ga0 gq1678 (by decide)))).symm
  have m1690 := (m1674).trans (fR_kept (oH1679 _ (G_ne ga1 gq1678 (by decide)))).symm
  have m1691 := (m1675).trans (fR_kept (oH1679 _ (G_ne ga0 gq1678 (by decide)))).symm
  have m1692 := (eq1677).trans (fR_kept (oH1679 _ (G_ne ga1 gq1678 (by decide)))).symm
  have m1693 := (eq1678).trans (fR_kept (oH1679 _ (G_ne ga0 gq1678 (by decide)))).symm
  have f1694 : ∀ q : Nat, G q = some 35 → q ≠ a0 → fI H1679 q (K.1.2 0 14) = fI s.heap q (K.1.2 0 14) := fun q hq hn => (fI_kept (oH1679 _ (G_ne hq gq1678 (by decide)))).trans (f1676 q hq hn)
  refine lv_aload_n hx hb dX0_copyFrom_82 rfl (lv_at hl 1 rfl) ?_
  refine x_gr C hTH1679 (ci := 0) (k := 6) rfl inX0 (by decide) wF_X0_27 ga1 rg_1 rfl dX0_copyFrom_83 (fun q1695 eq1695 gq1695 => ?_)
  refine lv_iconst (v := 0) hx hb dX0_copyFrom_86 (by decide) ?_
  refine lv_aload_n hx hb dX0_copyFrom_87 rfl (lv_at hl 0 rfl) ?_
  refine x_gr C hTH1679 (ci := 0) (k := 6) rfl inX0 (by decide) wF_X0_27 ga0 rg_35 rfl dX0_copyFrom_88 (fun q1696 eq1696 gq1696 => ?_)
  refine lv_iconst (v := 0) hx hb dX0_copyFrom_91 (by decide) ?_
  refine lv_sipush (v := 200) hx hb dX0_copyFrom_92 (by decide) ?_
  refine x_copy C hTH1679 hSH1679 wM_X0_75 wNT_arraycopy wST_arraycopy wIN_J10 gq1695 gq1696 rg_7 rg_41 (by decide) (by omega) (by omega) (by omega) (by show _ ≤ ((200 : Nat) : Int); omega) (by show _ ≤ ((200 : Nat) : Int); omega) (AE_in gq1696 (by decide)) hl.1 (by decide) dX0_copyFrom_95 (fun H1697 locsH1697 hTH1697 hSH1697 zH1697 oH1697 vH1697 wH1697 => ?_)
  have m1698 := (m1680).trans (fI_kept (oH1697 _ (G_ne ga0 gq1696 (by decide)))).symm
  have m1699 := (m1681).trans (fI_kept (oH1697 _ (G_ne ga1 gq1696 (by decide)))).symm
  have m1700 := (m1682).trans (fI_kept (oH1697 _ (G_ne ga1 gq1696 (by decide)))).symm
  have m1701 := (m1683).trans (fI_kept (oH1697 _ (G_ne ga0 gq1696 (by decide)))).symm
  have m1702 := (m1684).trans (fR_kept (oH1697 _ (G_ne ga1 gq1696 (by decide)))).symm
  have m1703 := (m1685).trans (fR_kept (oH1697 _ (G_ne ga0 gq1696 (by decide)))).symm
  have m1704 := (m1686).trans (fR_kept (oH1697 _ (G_ne ga1 gq1696 (by decide)))).symm
  have m1705 := (m1687).trans (fR_kept (oH1697 _ (G_ne ga0 gq1696 (by decide)))).symm
  have m1706 := (m1688).trans (fR_kept (oH1697 _ (G_ne ga1 gq1696 (by decide)))).symm
  have m1707 := (m1689).trans (fR_kept (oH1697 _ (G_ne ga0 gq1696 (by decide)))).symm
  have m1708 := (m1690).trans (fR_kept (oH1697 _ (G_ne ga1 gq1696 (by decide)))).symm
  have m1709 := (m1691).trans (fR_kept (oH1697 _ (G_ne ga0 gq1696 (by decide)))).symm
  have m1710 := (m1692).trans (fR_kept (oH1697 _ (G_ne ga1 gq1696 (by decide)))).symm
  have m1711 := (m1693).trans (fR_kept (oH1697 _ (G_ne ga0 gq1696 (by decide)))).symm
  have m1712 := (eq1695).trans (fR_kept (oH1697 _ (G_ne ga1 gq1696 (by decide)))).symm
  have m1713 := (eq1696).trans (fR_kept (oH1697 _ (G_ne ga0 gq1696 (by decide)))).symm
  have f1714 : ∀ q : Nat, G q = some 35 → q ≠ a0 → fI H1697 q (K.1.2 0 14) = fI s.heap q (K.1.2 0 14) := fun q hq hn => (fI_kept (oH1697 _ (G_ne hq gq1696 (by decide)))).trans (f1694 q hq hn)
  refine lv_aload_n hx hb dX0_copyFrom_98 rfl (lv_at hl 1 rfl) ?_
  refine x_gr C hTH1697 (ci := 0) (k := 7) rfl inX0 (by decide) wF_X0_30 ga1 rg_1 rfl dX0_copyFrom_99 (fun q1715 eq1715 gq1715 => ?_)
  refine lv_iconst (v := 0) hx hb dX0_copyFrom_102 (by decide) ?_
  refine lv_aload_n hx hb dX0_copyFrom_103 rfl (lv_at hl 0 rfl) ?_
  refine x_gr C hTH1697 (ci := 0) (k := 7) rfl inX0 (by decide) wF_X0_30 ga0 rg_35 rfl dX0_copyFrom_104 (fun q1716 eq1716 gq1716 => ?_)
  refine lv_iconst (v := 0) hx hb dX0_copyFrom_107 (by decide) ?_
  refine lv_sipush (v := 200) hx hb dX0_copyFrom_108 (by decide) ?_
  refine x_copy C hTH1697 hSH1697 wM_X0_75 wNT_arraycopy wST_arraycopy wIN_J10 gq1715 gq1716 rg_8 rg_42 (by decide) (by omega) (by omega) (by omega) (by show _ ≤ ((200 : Nat) : Int); omega) (by show _ ≤ ((200 : Nat) : Int); omega) (AE_in gq1716 (by decide)) hl.1 (by decide) dX0_copyFrom_111 (fun H1717 locsH1717 hTH1717 hSH1717 zH1717 oH1717 vH1717 wH1717 => ?_)
  have m1718 := (m1698).trans (fI_kept (oH1717 _ (G_ne ga0 gq1716 (by decide)))).symm
  have m1719 := (m1699).trans (fI_kept (oH1717 _ (G_ne ga1 gq1716 (by decide)))).symm
  have m1720 := (m1700).trans (fI_kept (oH1717 _ (G_ne ga1 gq1716 (by decide)))).symm
  have m1721 := (m1701).trans (fI_kept (oH1717 _ (G_ne ga0 gq1716 (by decide)))).symm
  have m1722 := (m1702).trans (fR_kept (oH1717 _ (G_ne ga1 gq1716 (by decide)))).symm
  have m1723 := (m1703).trans (fR_kept (oH1717 _ (G_ne ga0 gq1716 (by decide)))).symm
  have m1724 := (m1704).trans (fR_kept (oH1717 _ (G_ne ga1 gq1716 (by decide)))).symm
  have m1725 := (m1705).trans (fR_kept (oH1717 _ (G_ne ga0 gq1716 (by decide)))).symm
  have m1726 := (m1706).trans (fR_kept (oH1717 _ (G_ne ga1 gq1716 (by decide)))).symm
  have m1727 := (m1707).trans (fR_kept (oH1717 _ (G_ne ga0 gq1716 (by decide)))).symm
  have m1728 := (m1708).trans (fR_kept (oH1717 _ (G_ne ga1 gq1716 (by decide)))).symm
  have m1729 := (m1709).trans (fR_kept (oH1717 _ (G_ne ga0 gq1716 (by decide)))).symm
  have m1730 := (m1710).trans (fR_kept (oH1717 _ (G_ne ga1 gq1716 (by decide)))).symm
  have m1731 := (m1711).trans (fR_kept (oH1717 _ (G_ne ga0 gq1716 (by decide)))).symm
  have m1732 := (m1712).trans (fR_kept (oH1717 _ (G_ne ga1 gq1716 (by decide)))).symm
  have m1733 := (m1713).trans (fR_kept (oH1717 _ (G_ne ga0 gq1716 (by decide)))).symm
  have m1734 := (eq1715).trans (fR_kept (oH1717 _ (G_ne ga1 gq1716 (by decide)))).symm
  have m1735 := (eq1716).trans (fR_kept (oH1717 _ (G_ne ga0 gq1716 (by decide)))).symm
  have f1736 : ∀ q : Nat, G q = some 35 → q ≠ a0 → fI H1717 q (K.1.2 0 14) = fI s.heap q (K.1.2 0 14) := fun q hq hn => (fI_kept (oH1717 _ (G_ne hq gq1716 (by decide)))).trans (f1714 q hq hn)
  refine lv_aload_n hx hb dX0_copyFrom_114 rfl (lv_at hl 0 rfl) ?_
  refine lv_aload_n hx hb dX0_copyFrom_115 rfl (lv_at hl 1 rfl) ?_
  refine x_gi C hTH1717 (ci := 0) (k := 8) rfl inX0 (by decide) wF_X0_60 ga1 rg_1 rfl dX0_copyFrom_116 (fun x1737 ex1737 bx1737 => ?_)
  refine x_put C hTH1717 hSH1717 (ci := 0) (k := 8) (v := .int x1737) (ty0 := tyX0) rfl inX0 tyX0_ok nmX0 (by decide) rfl wF_X0_60 ga0 rg_35 rfl rfl (okI (by have := i_rng x1737; omega) (by have := i_rng x1737; omega)) rfl rfl (AE_in ga0 (by decide)) dX0_copyFrom_119 (fun H1738 locsH1738 hTH1738 hSH1738 wH1738 => ?_)
  have f1739 : ∀ q : Nat, G q = some 35 → q ≠ a0 → fI H1738 q (K.1.2 0 14) = fI s.heap q (K.1.2 0 14) := fun q hq hn => (Wr.neI wH1738 (Or.inr (x_apart hKT hts inX0 tyX0 tyX0_ok nmX0 rfl 14 8 (by decide) (by decide) (by decide)))).trans (f1736 q hq hn)
  have m1740 := m1718.trans (Wr.neI wH1738 (Or.inr (x_apart hKT hts inX0 tyX0 tyX0_ok nmX0 rfl 14 8 (by decide) (by decide) (by decide)))).symm
  have m1741 := m1719.trans (Wr.neI wH1738 (Or.inl (G_ne ga1 ga0 (by decide)))).symm
  have m1742 := m1720.trans (Wr.neI wH1738 (Or.inl (G_ne ga1 ga0 (by decide)))).symm
  have m1743 := m1721.trans (Wr.neI wH1738 (Or.inr (x_apart hKT hts inX0 tyX0 tyX0_ok nmX0 rfl 0 8 (by decide) (by decide) (by decide)))).symm
  have m1744 := m1722.trans (Wr.neR wH1738 (Or.inl (G_ne ga1 ga0 (by decide)))).symm
  have m1745 := m1723.trans (Wr.neR wH1738 (Or.inr (x_apart hKT hts inX0 tyX0 tyX0_ok nmX0 rfl 1 8 (by decide) (by decide) (by decide)))).symm
  have m1746 := m1724.trans (Wr.neR wH1738 (Or.inl (G_ne ga1 ga0 (by decide)))).symm
  have m1747 := m1725.trans (Wr.neR wH1738 (Or.inr (x_apart hKT hts inX0 tyX0 tyX0_ok nmX0 rfl 2 8 (by decide) (by decide) (by decide)))).symm
  have m1748 := m1726.trans (Wr.neR wH1738 (Or.inl (G_ne ga1 ga0 (by decide)))).symm
  have m1749 := m1727.trans (Wr.neR wH1738 (Or.inr (x_apart hKT hts inX0 tyX0 tyX0_ok nmX0 rfl 3 8 (by decide) (by decide) (by decide)))).symm
  have m1750 := m1728.trans (Wr.neR wH1738 (Or.inl (G_ne ga1 ga0 (by decide)))).symm
  have m1751 := m1729.trans (Wr.neR wH1738 (Or.inr (x_apart hKT hts inX0 tyX0 tyX0_ok nmX0 rfl 4 8 (by decide) (by decide) (by decide)))).symm
  have m1752 := m1730.trans (Wr.neR wH1738 (Or.inl (G_ne ga1 ga0 (by decide)))).symm
  have m1753 := m1731.trans (Wr.neR wH1738 (Or.inr (x_apart hKT hts inX0 tyX0 tyX0_ok nmX0 rfl 5 8 (by decide) (by decide) (by decide)))).symm
  have m1754 := m1732.trans (Wr.neR wH1738 (Or.inl (G_ne ga1 ga0 (by decide)))).symm
  have m1755 := m1733.trans (Wr.neR wH1738 (Or.inr (x_apart hKT hts inX0 tyX0 tyX0_ok nmX0 rfl 6 8 (by decide) (by decide) (by decide)))).symm
  have m1756 := m1734.trans (Wr.neR wH1738 (Or.inl (G_ne ga1 ga0 (by decide)))).symm
  have m1757 := m1735.trans (Wr.neR wH1738 (Or.inr (x_apart hKT hts inX0 tyX0 tyX0_ok nmX0 rfl 7 8 (by decide) (by decide) (by decide)))).symm
  have m1758 := ex1737.trans (Wr.neI wH1738 (Or.inl (G_ne ga1 ga0 (by decide)))).symm
  have m1759 := Wr.I wH1738
  have m1759 := m1759.symm
  refine lv_aload_n hx hb dX0_copyFrom_122 rfl (lv_at hl 0 rfl) ?_
  refine lv_aload_n hx hb dX0_copyFrom_123 rfl (lv_at hl 1 rfl) ?_
  refine x_gi C hTH1738 (ci := 0) (k := 9) rfl inX0 (by decide) wF_X0_63 ga1 rg_1 rfl dX0_copyFrom_124 (fun x1760 ex1760 bx1760 => ?_)
  refine x_put C hTH1738 hSH1738 (ci := 0) (k := 9) (v := .int x1760) (ty0 := tyX0) rfl inX0 tyX0_ok nmX0 (by decide) rfl wF_X0_63 ga0 rg_35 rfl rfl (okI (by have := i_rng x1760; omega) (by have := i_rng x1760; omega)) rfl rfl (AE_in ga0 (by decide)) dX0_copyFrom_127 (fun H1761 locsH1761 hTH1761 hSH1761 wH1761 => ?_)
  have f1762 : ∀ q : Nat, G q = some 35 → q ≠ a0 → fI H1761 q (K.1.2 0 14) = fI s.heap q (K.1.2 0 14) := fun q hq hn => (Wr.neI wH1761 (Or.inr (x_apart hKT hts inX0 tyX0 tyX0_ok nmX0 rfl 14 9 (by decide) (by decide) (by decide)))).trans (f1739 q hq hn)
  have m1763 := m1740.trans (Wr.neI wH1761 (Or.inr (x_apart hKT hts inX0 tyX0 tyX0_ok nmX0 rfl 14 9 (by decide) (by decide) (by decide)))).symm
  have m1764 := m1741.trans (Wr.neI wH1761 (Or.inl (G_ne ga1 ga0 (by decide)))).symm
  have m1765 := m1742.trans (Wr.neI wH1761 (Or.inl (G_ne ga1 ga0 (by decide)))).symm
  have m1766 := m1743.trans (Wr.neI wH1761 (Or.inr (x_apart hKT hts inX0 tyX0 tyX0_ok nmX0 rfl 0 9 (by decide) (by decide) (by decide)))).symm
  have m1767 := m1744.trans (Wr.neR wH1761 (Or.inl (G_ne ga1 ga0 (by decide)))).symm
  have m1768 := m1745.trans (Wr.neR wH1761 (Or.inr (x_apart hKT hts inX0 tyX0 tyX0_ok nmX0 rfl 1 9 (by decide) (by decide) (by decide)))).symm
  have m1769 := m1746.trans (Wr.neR wH1761 (Or.inl (G_ne ga1 ga0 (by decide)))).symm
  have m1770 := m1747.trans (Wr.neR wH1761 (Or.inr (x_apart hKT hts inX0 tyX0 tyX0_ok nmX0 rfl 2 9 (by decide) (by decide) (by decide)))).symm
  have m1771 := m1748.trans (Wr.neR wH1761 (Or.inl (G_ne ga1 ga0 (by decide)))).symm
  have m1772 := m1749.trans (Wr.neR wH1761 (Or.inr (x_apart hKT hts inX0 tyX0 tyX0_ok nmX0 rfl 3 9 (by decide) (by decide) (by decide)))).symm
  have m1773 := m1750.trans (Wr.neR wH1761 (Or.inl (G_ne ga1 ga0 (by decide)))).symm
  have m1774 := m1751.trans (Wr.neR wH1761 (Or.inr (x_apart hKT hts inX0 tyX0 tyX0_ok nmX0 rfl 4 9 (by decide) (by decide) (by decide)))).symm
  have m1775 := m1752.trans (Wr.neR wH1761 (Or.inl (G_ne ga1 ga0 (by decide)))).symm
  have m1776 := m1753.trans (Wr.neR wH1761 (Or.inr (x_apart hKT hts inX0 tyX0 tyX0_ok nmX0 rfl 5 9 (by decide) (by decide) (by decide)))).symm
  have m1777 := m1754.trans (Wr.neR wH1761 (Or.inl (G_ne ga1 ga0 (by decide)))).symm
  have m1778 := m1755.trans (Wr.neR wH1761 (Or.inr (x_apart hKT hts inX0 tyX0 tyX0_ok nmX0 rfl 6 9 (by decide) (by decide) (by decide)))).symm
  have m1779 := m1756.trans (Wr.neR wH1761 (Or.inl (G_ne ga1 ga0 (by decide)))).symm
  have m1780 := m1757.trans (Wr.neR wH1761 (Or.inr (x_apart hKT hts inX0 tyX0 tyX0_ok nmX0 rfl 7 9 (by decide) (by decide) (by decide)))).symm
  have m1781 := m1758.trans (Wr.neI wH1761 (Or.inl (G_ne ga1 ga0 (by decide)))).symm
  have m1782 := m1759.trans (Wr.neI wH1761 (Or.inr (x_apart hKT hts inX0 tyX0 tyX0_ok nmX0 rfl 8 9 (by decide) (by decide) (by decide)))).symm
  have m1783 := ex1760.trans (Wr.neI wH1761 (Or.inl (G_ne ga1 ga0 (by decide)))).symm
  have m1784 := Wr.I wH1761
  have m1784 := m1784.symm
  refine lv_aload_n hx hb dX0_copyFrom_130 rfl (lv_at hl 1 rfl) ?_
  refine x_gr C hTH1761 (ci := 0) (k := 10) rfl inX0 (by decide) wF_X0_33 ga1 rg_1 rfl dX0_copyFrom_131 (fun q1785 eq1785 gq1785 => ?_)
  refine lv_iconst (v := 0) hx hb dX0_copyFrom_134 (by decide) ?_
  refine lv_aload_n hx hb dX0_copyFrom_135 rfl (lv_at hl 0 rfl) ?_
  refine x_gr C hTH1761 (ci := 0) (k := 10) rfl inX0 (by decide) wF_X0_33 ga0 rg_35 rfl dX0_copyFrom_136 (fun q1786 eq1786 gq1786 => ?_)
  refine lv_iconst (v := 0) hx hb dX0_copyFrom_139 (by decide) ?_
  refine lv_bipush (v := 12) hx hb dX0_copyFrom_140 (by decide) ?_
  refine x_copy C hTH1761 hSH1761 wM_X0_75 wNT_arraycopy wST_arraycopy wIN_J10 gq1785 gq1786 rg_9 rg_43 (by decide) (by omega) (by omega) (by omega) (by show _ ≤ ((12 : Nat) : Int); omega) (by show _ ≤ ((12 : Nat) : Int); omega) (AE_in gq1786 (by decide)) hl.1 (by decide) dX0_copyFrom_142 (fun H1787 locsH1787 hTH1787 hSH1787 zH1787 oH1787 vH1787 wH1787 => ?_)
  have m1788 := (m1763).trans (fI_kept (oH1787 _ (G_ne ga0 gq1786 (by decide)))).symm
  have m1789 := (m1764).trans (fI_kept (oH1787 _ (G_ne ga1 gq1786 (by decide)))).symm
  have m1790 := (m1765).trans (fI_kept (oH1787 _ (G_ne ga1 gq1786 (by decide)))).symm
  have m1791 := (m1766).trans (fI_kept (oH1787 _ (G_ne ga0 gq1786 (by decide)))).symm
  have m1792 := (m1767).trans (fR_kept (oH1787 _ (G_ne ga1 gq1786 (by decide)))).symm
  have m1793 := (m1768).trans (fR_kept (oH1787 _ (G_ne ga0 gq1786 (by decide)))).symm
  have m1794 := (m1769).trans (fR_kept (oH1787 _ (G_ne ga1 gq1786 (by decide)))).symm
  have m1795 := (m1770).trans (fR_kept (oH1787 _ (G_ne ga0 gq1786 (by decide)))).symm
  have m1796 := (m1771).trans (fR_kept (oH1787 _ (G_ne ga1 gq1786 (by decide)))).symm
  have m1797 := (m1772).trans (fR_kept (oH1787 _ (G_ne ga0 gq1786 (by decide)))).symm
  have m1798 := (m1773).trans (fR_kept (oH1787 _ (G_ne ga1 gq1786 (by decide)))).symm
  have m1799 := (m1774).trans (fR_kept (oH1787 _ (G_ne ga0 gq1786 (by decide)))).symm
  have m1800 := (m1775).trans (fR_kept (oH1787 _ (G_ne ga1 gq1786 (by decide)))).symm
  have m1801 := (m1776).trans (fR_kept (oH1787 _ (G_ne ga0 gq1786 (by decide)))).symm
  have m1802 := (m1777).trans (fR_kept (oH1787 _ (G_ne ga1 gq1786 (by decide)))).symm
  have m1803 := (m1778).trans (fR_kept (oH1787 _ (G_ne ga0 gq1786 (by decide)))).symm
  have m1804 := (m1779).trans (fR_kept (oH1787 _ (G_ne ga1 gq1786 (by decide)))).symm
  have m1805 := (m1780).trans (fR_kept (oH1787 _ (G_ne ga0 gq1786 (by decide)))).symm
  have m1806 := (m1781).trans (fI_kept (oH1787 _ (G_ne ga1 gq1786 (by decide)))).symm
  have m1807 := (m1782).trans (fI_kept (oH1787 _ (G_ne ga0 gq1786 (by decide)))).symm
  have m1808 := (m1783).trans (fI_kept (oH1787 _ (G_ne ga1 gq1786 (by decide)))).symm
  have m1809 := (m1784).trans (fI_kept (oH1787 _ (G_ne ga0 gq1786 (by decide)))).symm
  have m1810 := (eq1785).trans (fR_kept (oH1787 _ (G_ne ga1 gq1786 (by decide)))).symm
  have m1811 := (eq1786).trans (fR_kept (oH1787 _ (G_ne ga0 gq1786 (by decide)))).symm
  have f1812 : ∀ q : Nat, G q = some 35 → q ≠ a0 → fI H1787 q (K.1.2 0 14) = fI s.heap q (K.1.2 0 14) := fun q hq hn => (fI_kept (oH1787 _ (G_ne hq gq1786 (by decide)))).trans (f1762 q hq hn)
  refine lv_aload_n hx hb dX0_copyFrom_145 rfl (lv_at hl 1 rfl) ?_
  refine x_gr C hTH1787 (ci := 0) (k := 11) rfl inX0 (by decide) wF_X0_36 ga1 rg_1 rfl dX0_copyFrom_146 (fun q1813 eq1813 gq1813 => ?_)
  refine lv_iconst (v := 0) hx hb dX0_copyFrom_149 (by decide) ?_
  refine lv_aload_n hx hb dX0_copyFrom_150 rfl (lv_at hl 0 rfl) ?_
  refine x_gr C hTH1787 (ci := 0) (k := 11) rfl inX0 (by decide) wF_X0_36 ga0 rg_35 rfl dX0_copyFrom_151 (fun q1814 eq1814 gq1814 => ?_)
  refine lv_iconst (v := 0) hx hb dX0_copyFrom_154 (by decide) ?_
  refine lv_bipush (v := 12) hx hb dX0_copyFrom_155 (by decide) ?_
  refine x_copy C hTH1787 hSH1787 wM_X0_75 wNT_arraycopy wST_arraycopy wIN_J10 gq1813 gq1814 rg_10 rg_44 (by decide) (by omega) (by omega) (by omega) (by show _ ≤ ((12 : Nat) : Int); omega) (by show _ ≤ ((12 : Nat) : Int); omega) (AE_in gq1814 (by decide)) hl.1 (by decide) dX0_copyFrom_157 (fun H1815 locsH1815 hTH1815 hSH1815 zH1815 oH1815 vH1815 wH1815 => ?_)
  have m1816 := (m1788).trans (fI_kept (oH1815 _ (G_ne ga0 gq1814 (by decide)))).symm
  have m1817 := (m1789).trans (fI_kept (oH1815 _ (G_ne ga1 gq1814 (by decide)))).symm
  have m1818 := (m1790).trans (fI_kept (oH1815 _ (G_ne ga1 gq1814 (by decide)))).symm
  have m1819 := (m1791).trans (fI_kept (oH1815 _ (G_ne ga0 gq1814 (by decide)))).symm
  have m1820 := (m1792).trans (fR_kept (oH1815 _ (G_ne ga1 gq1814 (by decide)))).symm
  have m1821 := (m1793).trans (fR_kept (oH1815 _ (G_ne ga0 gq1814 (by decide)))).symm
  have m1822 := (m1794).trans (fR_kept (oH1815 _ (G_ne ga1 gq1814 (by decide)))).symm
  have m1823 := (m1795).trans (fR_kept (oH1815 _ (G_ne ga0 gq1814 (by decide)))).symm
  have m1824 := (m1796).trans (fR_kept (oH1815 _ (G_ne ga1 gq1814 (by decide)))).symm
  have m1825 := (m1797).trans (fR_kept (oH1815 _ (G_ne ga0 gq1814 (by decide)))).symm
  have m1826 := (m1798).trans (fR_kept (oH1815 _ (G_ne ga1 gq1814 (by decide)))).symm
  have m1827 := (m1799).trans (fR_kept (oH1815 _ (G_ne ga0 gq1814 (by decide)))).symm
  have m1828 := (m1800).trans (fR_kept (oH1815 _ (G_ne ga1 gq1814 (by decide)))).symm
  have m1829 := (m1801).trans (fR_kept (oH1815 _ (G_ne ga0 gq1814 (by decide)))).symm
  have m1830 := (m1802).trans (fR_kept (oH1815 _ (G_ne ga1 gq1814 (by decide)))).symm
  have m1831 := (m1803).trans (fR_kept (oH1815 _ (G_ne ga0 gq1814 (by decide)))).symm
  have m1832 := (m1804).trans (fR_kept (oH1815 _ (G_ne ga1 gq1814 (by decide)))).symm
  have m1833 := (m1805).trans (fR_kept (oH1815 _ (G_ne ga0 gq1814 (by decide)))).symm
  have m1834 := (m1806).trans (fI_kept (oH1815 _ (G_ne ga1 gq1814 (by decide)))).symm
  have m1835 := (m1807).trans (fI_kept (oH1815 _ (G_ne ga0 gq1814 (by decide)))).symm
  have m1836 := (m1808).trans (fI_kept (oH1815 _ (G_ne ga1 gq1814 (by decide)))).symm
  have m1837 := (m1809).trans (fI_kept (oH1815 _ (G_ne ga0 gq1814 (by decide)))).symm
  have m1838 := (m1810).trans (fR_kept (oH1815 _ (G_ne ga1 gq1814 (by decide)))).symm
  have m1839 := (m1811).trans (fR_kept (oH1815 _ (G_ne ga0 gq1814 (by decide)))).symm
  have m1840 := (eq1813).trans (fR_kept (oH1815 _ (G_ne ga1 gq1814 (by decide)))).symm
  have m1841 := (eq1814).trans (fR_kept (oH1815 _ (G_ne ga0 gq1814 (by decide)))).symm
  have f1842 : ∀ q : Nat, G q = some 35 → q ≠ a0 → fI H1815 q (K.1.2 0 14) = fI s.heap q (K.1.2 0 14) := fun q hq hn => (fI_kept (oH1815 _ (G_ne hq gq1814 (by decide)))).trans (f1812 q hq hn)
  refine lv_iconst (v := 0) hx hb dX0_copyFrom_160 (by decide) ?_
  refine lv_istore_n (lv' := [(2, .int 0), (0, .ref a0), (1, .ref a1)]) hx hb dX0_copyFrom_161 rfl hl (by decide) rfl (fun ls1843 hl1844 => ?_)
  exact J162 ((12 - (0 : Int32).toInt).toNat + 1) ls1843 H1815 locsH1815 (0) (bk) (lv_sub hl1844 [1, 2, 0] rfl) hTH1815 hSH1815 (by decide) (by have := i_rng bk; omega) m1816 m1817 f1842 (by omega)

set_option maxHeartbeats 4000000 in
set_option maxRecDepth 100000 in
theorem a_X8_copyFrom_bk (l : Launch) (K : KE) (G : Nat → Option Nat) (H : Heap) {a0 : Nat} {a1 : Nat} {bq : Nat} {oq : Nat} (k1 : Int32) (k4 : Int32) (k5 : Int32) (k10 : Int32) (k13 : Int32) (k16 : Int32) (n1 : Int32) (n4 : Int32) (n5 : Int32) (n10 : Int32) (n13 : Int32) (n16 : Int32) (hT : TY K G H) (ga0 : G a0 = some 34) (ga1 : G a1 = some 0) (gbq : G bq = some 59) (ebq : bq = fR H a0 (K.1.2 8 0)) (goq : G oq = some 25) (eoq : oq = fR H a1 (K.1.2 8 0)) (ek1 : k1 = fI H a0 (K.1.2 8 1)) (ek4 : k4 = fI H a0 (K.1.2 8 4)) (ek5 : k5 = fI H a0 (K.1.2 8 5)) (ek10 : k10 = fI H a0 (K.1.2 8 10)) (ek13 : k13 = fI H a0 (K.1.2 8 13)) (ek16 : k16 = fI H a0 (K.1.2 8 16)) (en1 : n1 = fI H a1 (K.1.2 8 1)) (en4 : n4 = fI H a1 (K.1.2 8 4)) (en5 : n5 = fI H a1 (K.1.2 8 5)) (en10 : n10 = fI H a1 (K.1.2 8 10)) (en13 : n13 = fI H a1 (K.1.2 8 13)) (en16 : n16 = fI H a1 (K.1.2 8 16)) (hy0 : DB H bq) : MX l K yX8_copyFrom cX8_copyFrom 3 none 2 62 0 0 [.ref a0, .ref a1] H (AE G [34, 35, 36, 37, 38, 39, 40, 41, 42, 43, 44, 46, 48, 49, 50, 51, 52, 53, 54, 55, 56, 57, 58, 62, 63, 64, 65, 66, 67] H.size) (fun v H1 => ∃ (t0 : Int32) (t1 : Int32) (t2 : Int32) (t3 : Int32) (t4 : Int32) (t5 : Int32), v = none ∧ t0 = fI H1 a0 (K.1.2 8 1) ∧ t1 = fI H1 a0 (K.1.2 8 4) ∧ t2 = fI H1 a0 (K.1.2 8 5) ∧ t3 = fI H1 a0 (K.1.2 8 10) ∧ t4 = fI H1 a0 (K.1.2 8 13) ∧ t5 = fI H1 a0 (K.1.2 8 16) ∧ (t0.toInt = n1.toInt ∧ t1.toInt = n4.toInt ∧ t2.toInt = n5.toInt ∧ t3.toInt = n10.toInt ∧ t4.toInt = n13.toInt ∧ t5.toInt = n16.toInt) ∧ bq = fR H1 a0 (K.1.2 8 0) ∧ (∀ j : Nat, j < 10 → j < n1.toNatClampNeg → fI H1 (fR H1 bq j) (K.1.2 0 14) = fI H1 (fR H1 oq j) (K.1.2 0 14)) ∧ TY K G H1) := by
  refine MX.of (by decide +kernel) (Nat.le_of_ble_eq_true rfl) ?_
  intro p e s m below meth c ls Q C hH hl hQ
  subst hH
  have C : CX p K s m _ meth c RX8 cX8_copyFrom 3 none "copyFrom" := C
  obtain ⟨hx, hb, hml, hown, hts, hKT, hr, hlocks, hnm⟩ := id C
  have hl : lv_has ls 3 [(0, .ref a0), (1, .ref a1)] := hl
  have hS : va_S (AE G [34, 35, 36, 37, 38, 39, 40, 41, 42, 43, 44, 46, 48, 49, 50, 51, 52, 53, 54, 55, 56, 57, 58, 62, 63, 64, 65, 66, 67] s.heap.size) s.heap s.heap [] := va_S.rf
  have n_0 : (0 : Int32).toInt = 0 := rfl
  have n_1 : (1 : Int32).toInt = 1 := rfl
  have n_2 : (2 : Int32).toInt = 2 := rfl
  have n_4 : (4 : Int32).toInt = 4 := rfl
  have n_8 : (8 : Int32).toInt = 8 := rfl
  have n_20 : (20 : Int32).toInt = 20 := rfl
  have bk1 := ty_fi (x := k1) (k := 1) ek1 hT ga0 rg_34 rfl
  have bk4 := ty_fi (x := k4) (k := 4) ek4 hT ga0 rg_34 rfl
  have bk5 := ty_fi (x := k5) (k := 5) ek5 hT ga0 rg_34 rfl
  have bk10 := ty_fi (x := k10) (k := 10) ek10 hT ga0 rg_34 rfl
  have bk13 := ty_fi (x := k13) (k := 13) ek13 hT ga0 rg_34 rfl
  have bk16 := ty_fi (x := k16) (k := 16) ek16 hT ga0 rg_34 rfl
  have bn1 := ty_fi (x := n1) (k := 1) en1 hT ga1 rg_0 rfl
  have bn4 := ty_fi (x := n4) (k := 4) en4 hT ga1 rg_0 rfl
  have bn5 := ty_fi (x := n5) (k := 5) en5 hT ga1 rg_0 rfl
  have bn10 := ty_fi (x := n10) (k := 10) en10 hT ga1 rg_0 rfl
  have bn13 := ty_fi (x := n13) (k := 13) en13 hT ga1 rg_0 rfl
  have bn16 := ty_fi (x := n16) (k := 16) en16 hT ga1 rg_0 rfl
  have hdb := hy0
  have gB := bar_h hT gbq
  have gO := bar_g hT goq
  have f0_rb : ∀ j : Nat, fR s.heap bq j = fR s.heap bq j := fun _ => rfl
  have f0_ro : ∀ j : Nat, fR s.heap oq j = fR s.heap oq j := fun _ => rfl
  have f0_so : ∀ q : Nat, G q = some 1 → fI s.heap q (K.1.2 0 14) = fI s.heap q (K.1.2 0 14) := fun _ _ => rfl
  have f0_cb : ∀ j : Nat, j < 10 → j < 0 → fI s.heap (fR s.heap bq j) (K.1.2 0 14) = fI s.heap (fR s.heap oq j) (K.1.2 0 14) := fun j _ hj => absurd hj (Nat.not_lt_zero j)
  have J2 : ∀ (nf : Nat) (ls3322 : Array Slot) (H3321 : Heap) (locsH3321 : List Loc) (x3324 : Int32) (x3325 : Int32) (x3326 : Int32) (x3327 : Int32) (x3328 : Int32) (x3329 : Int32) (x3330 : Int32), lv_has ls3322 3 [(0, .ref a0), (1, .ref a1), (2, .int x3324)] → TY K G H3321 → va_S (AE G [34, 35, 36, 37, 38, 39, 40, 41, 42, 43, 44, 46, 48, 49, 50, 51, 52, 53, 54, 55, 56, 57, 58, 62, 63, 64, 65, 66, 67] s.heap.size) s.heap H3321 locsH3321 → (0 ≤ x3324.toInt ∧ x3324.toInt ≤ 10) → (0 ≤ x3325.toInt ∧ x3325.toInt ≤ 10) → (0 ≤ x3326.toInt ∧ x3326.toInt ≤ 1) → (0 ≤ x3328.toInt ∧ x3328.toInt ≤ 20) → (0 ≤ x3329.toInt ∧ x3329.toInt ≤ 8) → (0 ≤ x3330.toInt ∧ x3330.toInt ≤ 8) → (x3325 = fI H3321 a0 (K.1.2 8 1)) → (x3326 = fI H3321 a0 (K.1.2 8 4)) → (x3327 = fI H3321 a0 (K.1.2 8 5)) → (x3328 = fI H3321 a0 (K.1.2 8 10)) → (x3329 = fI H3321 a0 (K.1.2 8 13)) → (x3330 = fI H3321 a0 (K.1.2 8 16)) → (bq = fR H3321 a0 (K.1.2 8 0)) → (oq = fR H3321 a1 (K.1.2 8 0)) → (n1 = fI H3321 a1 (K.1.2 8 1)) → (n4 = fI H3321 a1 (K.1.2 8 4)) → (n5 = fI H3321 a1 (K.1.2 8 5)) → (n10 = fI H3321 a1 (K.1.2 8 10)) → (n13 = fI H3321 a1 (K.1.2 8 13)) → (n16 = fI H3321 a1 (K.1.2 8 16)) → (∀ j : Nat, fR H3321 bq j = fR s.heap bq j) → (∀ j : Nat, fR H3321 oq j = fR s.heap oq j) → (∀ q : Nat, G q = some 1 → fI H3321 q (K.1.2 0 14) = fI s.heap q (K.1.2 0 14)) → (∀ j : Nat, j < 10 → j < x3324.toNatClampNeg → fI H3321 (fR s.heap bq j) (K.1.2 0 14) = fI s.heap (fR s.heap oq j) (K.1.2 0 14)) → (10 - x3324.toInt < (nf : Int)) → W p l e ({ frames := 2, cells := 0, slots := 0, locals := 62 } : Room) s m (([.ref a0, .ref a1] : List Value).toArray) below meth c H3321 locsH3321 0 0 Q (F0 m 2 ls3322 []) := by
    intro nf
    induction nf with
    | zero =>
      intro ls3322 H3321 locsH3321 x3324 x3325 x3326 x3327 x3328 x3329 x3330 hl3323 hTH3321 hSH3321 bx3324 bx3325 bx3326 bx3328 bx3329 bx3330 ex3325 ex3326 ex3327 ex3328 ex3329 ex3330 cy3331_0 cy3331_1 cy3331_2 cy3331_3 cy3331_4 cy3331_5 cy3331_6 cy3331_7 fy3331_rb fy3331_ro fy3331_so fy3331_cb hm2
      have rx3327 := i_rng x3327
      exfalso
      omega
    | succ nf ih2 =>
      intro ls3322 H3321 locsH3321 x3324 x3325 x3326 x3327 x3328 x3329 x3330 hl3323 hTH3321 hSH3321 bx3324 bx3325 bx3326 bx3328 bx3329 bx3330 ex3325 ex3326 ex3327 ex3328 ex3329 ex3330 cy3331_0 cy3331_1 cy3331_2 cy3331_3 cy3331_4 cy3331_5 cy3331_6 cy3331_7 fy3331_rb fy3331_ro fy3331_so fy3331_cb hm2
      have rx3327 := i_rng x3327
      have J41 : ∀ (nf : Nat) (ls3333 : Array Slot) (H3332 : Heap) (locsH3332 : List Loc) (x3335 : Int32) (x3336 : Int32) (x3337 : Int32) (x3338 : Int32) (x3339 : Int32) (x3340 : Int32) (x3341 : Int32), lv_has ls3333 3 [(0, .ref a0), (1, .ref a1), (2, .int x3335)] → TY K G H3332 → va_S (AE G [34, 35, 36, 37, 38, 39, 40, 41, 42, 43, 44, 46, 48, 49, 50, 51, 52, 53, 54, 55, 56, 57, 58, 62, 63, 64, 65, 66, 67] s.heap.size) s.heap H3332 locsH3332 → (0 ≤ x3335.toInt ∧ x3335.toInt ≤ 2) → (0 ≤ x3336.toInt ∧ x3336.toInt ≤ 10) → (0 ≤ x3337.toInt ∧ x3337.toInt ≤ 1) → (0 ≤ x3339.toInt ∧ x3339.toInt ≤ 20) → (0 ≤ x3340.toInt ∧ x3340.toInt ≤ 8) → (0 ≤ x3341.toInt ∧ x3341.toInt ≤ 8) → (x3336 = fI H3332 a0 (K.1.2 8 1)) → (x3337 = fI H3332 a0 (K.1.2 8 4)) → (x3338 = fI H3332 a0 (K.1.2 8 5)) → (x3339 = fI H3332 a0 (K.1.2 8 10)) → (x3340 = fI H3332 a0 (K.1.2 8 13)) → (x3341 = fI H3332 a0 (K.1.2 8 16)) → (bq = fR H3332 a0 (K.1.2 8 0)) → (oq = fR H3332 a1 (K.1.2 8 0)) → (n1 = fI H3332 a1 (K.1.2 8 1)) → (n4 = fI H3332 a1 (K.1.2 8 4)) → (n5 = fI H3332 a1 (K.1.2 8 5)) → (n10 = fI H3332 a1 (K.1.2 8 10)) → (n13 = fI H3332 a1 (K.1.2 8 13)) → (n16 = fI H3332 a1 (K.1.2 8 16)) → (∀ j : Nat, fR H3332 bq j = fR s.heap bq j) → (∀ j : Nat, fR H3332 oq j = fR s.heap oq j) → (∀ q : Nat, G q = some 1 → fI H3332 q (K.1.2 0 14) = fI s.heap q (K.1.2 0 14)) → (∀ j : Nat, j < 10 → j < n1.toNatClampNeg → fI H3332 (fR s.heap bq j) (K.1.2 0 14) = fI s.heap (fR s.heap oq j) (K.1.2 0 14)) → (2 - x3335.toInt < (nf : Int)) → (x3336.toInt = n1.toInt) → W p l e ({ frames := 2, cells := 0, slots := 0, locals := 62 } : Room) s m (([.ref a0, .ref a1] : List Value).toArray) below meth c H3332 locsH3332 0 0 Q (F0 m 41 ls3333 []) := by
        intro nf
        induction nf with
        | zero =>
          intro ls3333 H3332 locsH3332 x3335 x3336 x3337 x3338 x3339 x3340 x3341 hl3334 hTH3332 hSH3332 bx3335 bx3336 bx3337 bx3339 bx3340 bx3341 ex3336 ex3337 ex3338 ex3339 ex3340 ex3341 cy3342_0 cy3342_1 cy3342_2 cy3342_3 cy3342_4 cy3342_5 cy3342_6 cy3342_7 fy3342_rb fy3342_ro fy3342_so fy3342_cb hm41 iv41
          have rx3338 := i_rng x3338
          exfalso
          omega
        | succ nf ih41 =>
          intro ls3333 H3332 locsH3332 x3335 x3336 x3337 x3338 x3339 x3340 x3341 hl3334 hTH3332 hSH3332 bx3335 bx3336 bx3337 bx3339 bx3340 bx3341 ex3336 ex3337 ex3338 ex3339 ex3340 ex3341 cy3342_0 cy3342_1 cy3342_2 cy3342_3 cy3342_4 cy3342_5 cy3342_6 cy3342_7 fy3342_rb fy3342_ro fy3342_so fy3342_cb hm41 iv41
          have rx3338 := i_rng x3338
          have J69 : ∀ (nf : Nat) (ls3344 : Array Slot) (H3343 : Heap) (locsH3343 : List Loc) (x3346 : Int32) (x3347 : Int32) (x3348 : Int32) (x3349 : Int32) (x3350 : Int32) (x3351 : Int32) (x3352 : Int32), lv_has ls3344 3 [(0, .ref a0), (1, .ref a1), (2, .int x3346)] → TY K G H3343 → va_S (AE G [34, 35, 36, 37, 38, 39, 40, 41, 42, 43, 44, 46, 48, 49, 50, 51, 52, 53, 54, 55, 56, 57, 58, 62, 63, 64, 65, 66, 67] s.heap.size) s.heap H3343 locsH3343 → (0 ≤ x3346.toInt ∧ x3346.toInt ≤ 4) → (0 ≤ x3347.toInt ∧ x3347.toInt ≤ 10) → (0 ≤ x3348.toInt ∧ x3348.toInt ≤ 1) → (0 ≤ x3350.toInt ∧ x3350.toInt ≤ 20) → (0 ≤ x3351.toInt ∧ x3351.toInt ≤ 8) → (0 ≤ x3352.toInt ∧ x3352.toInt ≤ 8) → (x3347 = fI H3343 a0 (K.1.2 8 1)) → (x3348 = fI H3343 a0 (K.1.2 8 4)) → (x3349 = fI H3343 a0 (K.1.2 8 5)) → (x3350 = fI H3343 a0 (K.1.2 8 10)) → (x3351 = fI H3343 a0 (K.1.2 8 13)) → (x3352 = fI H3343 a0 (K.1.2 8 16)) → (bq = fR H3343 a0 (K.1.2 8 0)) → (oq = fR H3343 a1 (K.1.2 8 0)) → (n1 = fI H3343 a1 (K.1.2 8 1)) → (n4 = fI H3343 a1 (K.1.2 8 4)) → (n5 = fI H3343 a1 (K.1.2 8 5)) → (n10 = fI H3343 a1 (K.1.2 8 10)) → (n13 = fI H3343 a1 (K.1.2 8 13)) → (n16 = fI H3343 a1 (K.1.2 8 16)) → (∀ j : Nat, fR H3343 bq j = fR s.heap bq j) → (∀ j : Nat, fR H3343 oq j = fR s.heap oq j) → (∀ q : Nat, G q = some 1 → fI H3343 q (K.1.2 0 14) = fI s.heap q (K.1.2 0 14)) → (∀ j : Nat, j < 10 → j < n1.toNatClampNeg → fI H3343 (fR s.heap bq j) (K.1.2 0 14) = fI s.heap (fR s.heap oq j) (K.1.2 0 14)) → (4 - x3346.toInt < (nf : Int)) → (x3347.toInt = n1.toInt) → W p l e ({ frames := 2, cells := 0, slots := 0, locals := 62 } : Room) s m (([.ref a0, .ref a1] : List Value).toArray) below meth c H3343 locsH3343 0 0 Q (F0 m 69 ls3344 []) := by
            intro nf
            induction nf with
            | zero =>
              intro ls3344 H3343 locsH3343 x3346 x3347 x3348 x3349 x3350 x3351 x3352 hl3345 hTH3343 hSH3343 bx3346 bx3347 bx3348 bx3350 bx3351 bx3352 ex3347 ex3348 ex3349 ex3350 ex3351 ex3352 cy3353_0 cy3353_1 cy3353_2 cy3353_3 cy3353_4 cy3353_5 cy3353_6 cy3353_7 fy3353_rb fy3353_ro fy3353_so fy3353_cb hm69 iv69
              have rx3349 := i_rng x3349
              exfalso
              omega
            | succ nf ih69 =>
              intro ls3344 H3343 locsH3343 x3346 x3347 x3348 x3349 x3350 x3351 x3352 hl3345 hTH3343 hSH3343 bx3346 bx3347 bx3348 bx3350 bx3351 bx3352 ex3347 ex3348 ex3349 ex3350 ex3351 ex3352 cy3353_0 cy3353_1 cy3353_2 cy3353_3 cy3353_4 cy3353_5 cy3353_6 cy3353_7 fy3353_rb fy3353_ro fy3353_so fy3353_cb hm69 iv69
              have rx3349 := i_rng x3349
              refine lv_iload_n hx hb dX8_copyFrom_69 rfl (lv_at hl3345 2 rfl) ?_
              refine lv_iconst (v := 4) hx hb dX8_copyFrom_70 (by decide) ?_
              refine lv_icmp_ge (tgt := 95) hx hb dX8_copyFrom_71 (by decide) (fun c3354 => ?_) (fun c3354 => ?_)
              · have k3355 := i_le c3354
                refine lv_aload_n hx hb dX8_copyFrom_95 rfl (lv_at hl3345 0 rfl) ?_
                refine lv_aload_n hx hb dX8_copyFrom_96 rfl (lv_at hl3345 1 rfl) ?_
                refine x_gi C hTH3343 (ci := 8) (k := 4) rfl inX8 (by decide) wF_X8_54 ga1 rg_0 rfl dX8_copyFrom_97 (fun x3356 ex3356 bx3356 => ?_)
                have ux3356 : n4 = x3356 := (cy3353_3).trans ex3356.symm
                subst ux3356
                refine x_put C hTH3343 hSH3343 (ci := 8) (k := 4) (v := .int n4) (ty0 := tyX8) rfl inX8 tyX8_ok nmX8 (by decide) rfl wF_X8_54 ga0 rg_34 rfl rfl (okI (by have := i_rng n4; omega) (by have := i_rng n4; omega)) rfl rfl (AE_in ga0 (by decide)) dX8_copyFrom_100 (fun H3357 locsH3357 hTH3357 hSH3357 wH3357 => ?_)
                have f3358 : ∀ j : Nat, fR H3357 bq j = fR s.heap bq j := fun j => (Wr.neR wH3357 (Or.inl (G_ne gbq ga0 (by decide)))).trans (fy3353_rb j)
                have f3359 : ∀ j : Nat, fR H3357 oq j = fR s.heap oq j := fun j => (Wr.neR wH3357 (Or.inl (G_ne goq ga0 (by decide)))).trans (fy3353_ro j)
                have f3360 : ∀ q : Nat, G q = some 1 → fI H3357 q (K.1.2 0 14) = fI s.heap q (K.1.2 0 14) := fun q hq => (Wr.neI wH3357 (Or.inl (G_ne hq ga0 (by decide)))).trans (fy3353_so q hq)
                have f3361 : ∀ j : Nat, j < 10 → j < n1.toNatClampNeg → fI H3357 (fR s.heap bq j) (K.1.2 0 14) = fI s.heap (fR s.heap oq j) (K.1.2 0 14) := fun j h10 hj => (Wr.neI wH3357 (Or.inl (G_ne (gB j h10) ga0 (by decide)))).trans (fy3353_cb j h10 hj)
                have m3362 := ex3347.trans (Wr.neI wH3357 (Or.inr (x_apart hKT hts inX8 tyX8 tyX8_ok nmX8 rfl 1 4 (by decide) (by decide) (by decide)))).symm
                have m3364 := ex3349.trans (Wr.neI wH3357 (Or.inr (x_apart hKT hts inX8 tyX8 tyX8_ok nmX8 rfl 5 4 (by decide) (by decide) (by decide)))).symm
                have m3365 := ex3350.trans (Wr.neI wH3357 (Or.inr (x_apart hKT hts inX8 tyX8 tyX8_ok nmX8 rfl 10 4 (by decide) (by decide) (by decide)))).symm
                have m3366 := ex3351.trans (Wr.neI wH3357 (Or.inr (x_apart hKT hts inX8 tyX8 tyX8_ok nmX8 rfl 13 4 (by decide) (by decide) (by decide)))).symm
                have m3367 := ex3352.trans (Wr.neI wH3357 (Or.inr (x_apart hKT hts inX8 tyX8 tyX8_ok nmX8 rfl 16 4 (by decide) (by decide) (by decide)))).symm
                have m3368 := cy3353_0.trans (Wr.neR wH3357 (Or.inr (x_apart hKT hts inX8 tyX8 tyX8_ok nmX8 rfl 0 4 (by decide) (by decide) (by decide)))).symm
                have m3369 := cy3353_1.trans (Wr.neR wH3357 (Or.inl (G_ne ga1 ga0 (by decide)))).symm
                have m3370 := cy3353_2.trans (Wr.neI wH3357 (Or.inl (G_ne ga1 ga0 (by decide)))).symm
                have m3371 := cy3353_3.trans (Wr.neI wH3357 (Or.inl (G_ne ga1 ga0 (by decide)))).symm
                have m3372 := cy3353_4.trans (Wr.neI wH3357 (Or.inl (G_ne ga1 ga0 (by decide)))).symm
                have m3373 := cy3353_5.trans (Wr.neI wH3357 (Or.inl (G_ne ga1 ga0 (by decide)))).symm
                have m3374 := cy3353_6.trans (Wr.neI wH3357 (Or.inl (G_ne ga1 ga0 (by decide)))).symm
                have m3375 := cy3353_7.trans (Wr.neI wH3357 (Or.inl (G_ne ga1 ga0 (by decide)))).symm
                have m3376 := Wr.I wH3357
                have m3376 := m3376.symm
                refine lv_aload_n hx hb dX8_copyFrom_103 rfl (lv_at hl3345 0 rfl) ?_
                refine lv_aload_n hx hb dX8_copyFrom_104 rfl (lv_at hl3345 1 rfl) ?_
                refine x_gi C hTH3357 (ci := 8) (k := 5) rfl inX8 (by decide) wF_X8_26 ga1 rg_0 rfl dX8_copyFrom_105 (fun x3377 ex3377 bx3377 => ?_)
                have ux3377 : n5 = x3377 := (m3372).trans ex3377.symm
                subst ux3377
                refine x_put C hTH3357 hSH3357 (ci := 8) (k := 5) (v := .int n5) (ty0 := tyX8) rfl inX8 tyX8_ok nmX8 (by decide) rfl wF_X8_26 ga0 rg_34 rfl rfl (okI (by have := i_rng n5; omega) (by have := i_rng n5; omega)) rfl rfl (AE_in ga0 (by decide)) dX8_copyFrom_108 (fun H3378 locsH3378 hTH3378 hSH3378 wH3378 => ?_)
                have f3379 : ∀ j : Nat, fR H3378 bq j = fR s.heap bq j := fun j => (Wr.neR wH3378 (Or.inl (G_ne gbq ga0 (by decide)))).trans (f3358 j)
                have f3380 : ∀ j : Nat, fR H3378 oq j = fR s.heap oq j := fun j => (Wr.neR wH3378 (Or.inl (G_ne goq ga0 (by decide)))).trans (f3359 j)
                have f3381 : ∀ q : Nat, G q = some 1 → fI H3378 q (K.1.2 0 14) = fI s.heap q (K.1.2 0 14) := fun q hq => (Wr.neI wH3378 (Or.inl (G_ne hq ga0 (by decide)))).trans (f3360 q hq)
                have f3382 : ∀ j : Nat, j < 10 → j < n1.toNatClampNeg → fI H3378 (fR s.heap bq j) (K.1.2 0 14) = fI s.heap (fR s.heap oq j) (K.1.2 0 14) := fun j h10 hj => (Wr.neI wH3378 (Or.inl (G_ne (gB j h10) ga0 (by decide)))).trans (f3361 j h10 hj)
                have m3383 := m3362.trans (Wr.neI wH3378 (Or.inr (x_apart hKT hts inX8 tyX8 tyX8_ok nmX8 rfl 1 5 (by decide) (by decide) (by decide)))).symm
                have m3385 := m3365.trans (Wr.neI wH3378 (Or.inr (x_apart hKT hts inX8 tyX8 tyX8_ok nmX8 rfl 10 5 (by decide) (by decide) (by decide)))).symm
                have m3386 := m3366.trans (Wr.neI wH3378 (Or.inr (x_apart hKT hts inX8 tyX8 tyX8_ok nmX8 rfl 13 5 (by decide) (by decide) (by decide)))).symm
                have m3387 := m3367.trans (Wr.neI wH3378 (Or.inr (x_apart hKT hts inX8 tyX8 tyX8_ok nmX8 rfl 16 5 (by decide) (by decide) (by decide)))).symm
                have m3388 := m3368.trans (Wr.neR wH3378 (Or.inr (x_apart hKT hts inX8 tyX8 tyX8_ok nmX8 rfl 0 5 (by decide) (by decide) (by decide)))).symm
                have m3389 := m3369.trans (Wr.neR wH3378 (Or.inl (G_ne ga1 ga0 (by decide)))).symm
                have m3390 := m3370.trans (Wr.neI wH3378 (Or.inl (G_ne ga1 ga0 (by decide)))).symm
                have m3391 := m3371.trans (Wr.neI wH3378 (Or.inl (G_ne ga1 ga0 (by decide)))).symm
                have m3392 := m3372.trans (Wr.neI wH3378 (Or.inl (G_ne ga1 ga0 (by decide)))).symm
                have m3393 := m3373.trans (Wr.neI wH3378 (Or.inl (G_ne ga1 ga0 (by decide)))).symm
                have m3394 := m3374.trans (Wr.neI wH3378 (Or.inl (G_ne ga1 ga0 (by decide)))).symm
                have m3395 := m3375.trans (Wr.neI wH3378 (Or.inl (G_ne ga1 ga0 (by decide)))).symm
                have m3396 := m3376.trans (Wr.neI wH3378 (Or.inr (x_apart hKT hts inX8 tyX8 tyX8_ok nmX8 rfl 4 5 (by decide) (by decide) (by decide)))).symm
                have m3397 := Wr.I wH3378
                have m3397 := m3397.symm
                refine lv_aload_n hx hb dX8_copyFrom_111 rfl (lv_at hl3345 0 rfl) ?_
                refine lv_aload_n hx hb dX8_copyFrom_112 rfl (lv_at hl3345 1 rfl) ?_
                refine x_gi C hTH3378 (ci := 8) (k := 6) rfl inX8 (by decide) wF_X8_67 ga1 rg_0 rfl dX8_copyFrom_113 (fun x3398 ex3398 bx3398 => ?_)
                refine x_put C hTH3378 hSH3378 (ci := 8) (k := 6) (v := .int x3398) (ty0 := tyX8) rfl inX8 tyX8_ok nmX8 (by decide) rfl wF_X8_67 ga0 rg_34 rfl rfl (okI (by have := i_rng x3398; omega) (by have := i_rng x3398; omega)) rfl rfl (AE_in ga0 (by decide)) dX8_copyFrom_116 (fun H3399 locsH3399 hTH3399 hSH3399 wH3399 => ?_)
                have f3400 : ∀ j : Nat, fR H3399 bq j = fR s.heap bq j := fun j => (Wr.neR wH3399 (Or.inl (G_ne gbq ga0 (by decide)))).trans (f3379 j)
                have f3401 : ∀ j : Nat, fR H3399 oq j = fR s.heap oq j := fun j => (Wr.neR wH3399 (Or.inl (G_ne goq ga0 (by decide)))).trans (f3380 j)
                have f3402 : ∀ q : Nat, G q = some 1 → fI H3399 q (K.1.2 0 14) = fI s.heap q (K.1.2 0 14) := fun q hq => (Wr.neI wH3399 (Or.inl (G_ne hq ga0 (by decide)))).trans (f3381 q hq)
                have f3403 : ∀ j : Nat, j < 10 → j < n1.toNatClampNeg → fI H3399 (fR s.heap bq j) (K.1.2 0 14) = fI s.heap (fR s.heap oq j) (K.1.2 0 14) := fun j h10 hj => (Wr.neI wH3399 (Or.inl (G_ne (gB j h10) ga0 (by decide)))).trans (f3382 j h10 hj)
                have m3404 := m3383.trans (Wr.neI wH3399 (Or.inr (x_apart hKT hts inX8 tyX8 tyX8_ok nmX8 rfl 1 6 (by decide) (by decide) (by decide)))).symm
                have m3405 := m3385.trans (Wr.neI wH3399 (Or.inr (x_apart hKT hts inX8 tyX8 tyX8_ok nmX8 rfl 10 6 (by decide) (by decide) (by decide)))).symm
                have m3406 := m3386.trans (Wr.neI wH3399 (Or.inr (x_apart hKT hts inX8 tyX8 tyX8_ok nmX8 rfl 13 6 (by decide) (by decide) (by decide)))).symm
                have m3407 := m3387.trans (Wr.neI wH3399 (Or.inr (x_apart hKT hts inX8 tyX8 tyX8_ok nmX8 rfl 16 6 (by decide) (by decide) (by decide)))).symm
                have m3408 := m3388.trans (Wr.neR wH3399 (Or.inr (x_apart hKT hts inX8 tyX8 tyX8_ok nmX8 rfl 0 6 (by decide) (by decide) (by decide)))).symm
                have m3409 := m3389.trans (Wr.neR wH3399 (Or.inl (G_ne ga1 ga0 (by decide)))).symm
                have m3410 := m3390.trans (Wr.neI wH3399 (Or.inl (G_ne ga1 ga0 (by decide)))).symm
                have m3411 := m3391.trans (Wr.neI wH3399 (Or.inl (G_ne ga1 ga0 (by decide)))).symm
                have m3412 := m3392.trans (Wr.neI wH3399 (Or.inl (G_ne ga1 ga0 (by decide)))).symm
                have m3413 := m3393.trans (Wr.neI wH3399 (Or.inl (G_ne ga1 ga0 (by decide)))).symm
                have m3414 := m3394.trans (Wr.neI wH3399 (Or.inl (G_ne ga1 ga0 (by decide)))).symm
                have m3415 := m3395.trans (Wr.neI wH3399 (Or.inl (G_ne ga1 ga0 (by decide)))).symm
                have m3416 := m3396.trans (Wr.neI wH3399 (Or.inr (x_apart hKT hts inX8 tyX8 tyX8_ok nmX8 rfl 4 6 (by decide) (by decide) (by decide)))).symm
                have m3417 := m3397.trans (Wr.neI wH3399 (Or.inr (x_apart hKT hts inX8 tyX8 tyX8_ok nmX8 rfl 5 6 (by decide) (by decide) (by decide)))).symm
                have m3418 := ex3398.trans (Wr.neI wH3399 (Or.inl (G_ne ga1 ga0 (by decide)))).symm
                have m3419 := Wr.I wH3399
                have m3419 := m3419.symm
                refine lv_aload_n hx hb dX8_copyFrom_119 rfl (lv_at hl3345 0 rfl) ?_
                refine lv_aload_n hx hb dX8_copyFrom_120 rfl (lv_at hl3345 1 rfl) ?_
                refine x_gi C hTH3399 (ci := 8) (k := 7) rfl inX8 (by decide) wF_X8_30 ga1 rg_0 rfl dX8_copyFrom_121 (fun x3420 ex3420 bx3420 => ?_)
                refine x_put C hTH3399 hSH3399 (ci := 8) (k := 7) (v := .int x3420) (ty0 := tyX8) rfl inX8 tyX8_ok nmX8 (by decide) rfl wF_X8_30 ga0 rg_34 rfl rfl (okI (by have := i_rng x3420; omega) (by have := i_rng x3420; omega)) rfl rfl (AE_in ga0 (by decide)) dX8_copyFrom_124 (fun H3421 locsH3421 hTH3421 hSH3421 wH3421 => ?_)
                have f3422 : ∀ j : Nat, fR H3421 bq j = fR s.heap bq j := fun j => (Wr.neR wH3421 (Or.inl (G_ne gbq ga0 (by decide)))).trans (f3400 j)
                have f3423 : ∀ j : Nat, fR H3421 oq j = fR s.heap oq j := fun j => (Wr.neR wH3421 (Or.inl (G_ne goq ga0 (by decide)))).trans (f3401 j)
                have f3424 : ∀ q : Nat, G q = some 1 → fI H3421 q (K.1.2 0 14) = fI s.heap q (K.1.2 0 14) := fun q hq => (Wr.neI wH3421 (Or.inl (G_ne hq ga0 (by decide)))).trans (f3402 q hq)
                have f3425 : ∀ j : Nat, j < 10 → j < n1.toNatClampNeg → fI H3421 (fR s.heap bq j) (K.1.2 0 14) = fI s.heap (fR s.heap oq j) (K.1.2 0 14) := fun j h10 hj => (Wr.neI wH3421 (Or.inl (G_ne (gB j h10) ga0 (by decide)))).trans (f3403 j h10 hj)
                have m3426 := m3404.trans (Wr.neI wH3421 (Or.inr (x_apart hKT hts inX8 tyX8 tyX8_ok nmX8 rfl 1 7 (by decide) (by decide) (by decide)))).symm
                have m3427 := m3405.trans (Wr.neI wH3421 (Or.inr (x_apart hKT hts inX8 tyX8 tyX8_ok nmX8 rfl 10 7 (by decide) (by decide) (by decide)))).symm
                have m3428 := m3406.trans (Wr.neI wH3421 (Or.inr (x_apart hKT hts inX8 tyX8 tyX8_ok nmX8 rfl 13 7 (by decide) (by decide) (by decide)))).symm
                have m3429 := m3407.trans (Wr.neI wH3421 (Or.inr (x_apart hKT hts inX8 tyX8 tyX8_ok nmX8 rfl 16 7 (by decide) (by decide) (by decide)))).symm
                have m3430 := m3408.trans (Wr.neR wH3421 (Or.inr (x_apart hKT hts inX8 tyX8 tyX8_ok nmX8 rfl 0 7 (by decide) (by decide) (by decide)))).symm
                have m3431 := m3409.trans (Wr.neR wH3421 (Or.inl (G_ne ga1 ga0 (by decide)))).symm
                have m3432 := m3410.trans (Wr.neI wH3421 (Or.inl (G_ne ga1 ga0 (by decide)))).symm
                have m3433 := m3411.trans (Wr.neI wH3421 (Or.inl (G_ne ga1 ga0 (by decide)))).symm
                have m3434 := m3412.trans (Wr.neI wH3421 (Or.inl (G_ne ga1 ga0 (by decide)))).symm
                have m3435 := m3413.trans (Wr.neI wH3421 (Or.inl (G_ne ga1 ga0 (by decide)))).symm
                have m3436 := m3414.trans (Wr.neI wH3421 (Or.inl (G_ne ga1 ga0 (by decide)))).symm
                have m3437 := m3415.trans (Wr.neI wH3421 (Or.inl (G_ne ga1 ga0 (by decide)))).symm
                have m3438 := m3416.trans (Wr.neI wH3421 (Or.inr (x_apart hKT hts inX8 tyX8 tyX8_ok nmX8 rfl 4 7 (by decide) (by decide) (by decide)))).symm
                have m3439 := m3417.trans (Wr.neI wH3421 (Or.inr (x_apart hKT hts inX8 tyX8 tyX8_ok nmX8 rfl 5 7 (by decide) (by decide) (by decide)))).symm
                have m3440 := m3418.trans (Wr.neI wH3421 (Or.inl (G_ne ga1 ga0 (by decide)))).symm
                have m3441 := m3419.trans (Wr.neI wH3421 (Or.inr (x_apart hKT hts inX8 tyX8 tyX8_ok nmX8 rfl 6 7 (by decide) (by decide) (by decide)))).symm
                have m3442 := ex3420.trans (Wr.neI wH3421 (Or.inl (G_ne ga1 ga0 (by decide)))).symm
                have m3443 := Wr.I wH3421
                have m3443 := m3443.symm
                refine lv_aload_n hx hb dX8_copyFrom_127 rfl (lv_at hl3345 1 rfl) ?_
                refine x_gr C hTH3421 (ci := 8) (k := 8) rfl inX8 (by decide) wF_X8_33 ga1 rg_0 rfl dX8_copyFrom_128 (fun q3444 eq3444 gq3444 => ?_)
                refine lv_iconst (v := 0) hx hb dX8_copyFrom_131 (by decide) ?_
                refine lv_aload_n hx hb dX8_copyFrom_132 rfl (lv_at hl3345 0 rfl) ?_
                refine x_gr C hTH3421 (ci := 8) (k := 8) rfl inX8 (by decide) wF_X8_33 ga0 rg_34 rfl dX8_copyFrom_133 (fun q3445 eq3445 gq3445 => ?_)
                refine lv_iconst (v := 0) hx hb dX8_copyFrom_136 (by decide) ?_
                refine lv_bipush (v := 20) hx hb dX8_copyFrom_137 (by decide) ?_
                refine x_copy C hTH3421 hSH3421 wM_X8_70 wNT_arraycopy wST_arraycopy wIN_J10 gq3444 gq3445 rg_28 rg_62 (by decide) (by omega) (by omega) (by omega) (by show _ ≤ ((20 : Nat) : Int); omega) (by show _ ≤ ((20 : Nat) : Int); omega) (AE_in gq3445 (by decide)) hl3345.1 (by decide) dX8_copyFrom_139 (fun H3446 locsH3446 hTH3446 hSH3446 zH3446 oH3446 vH3446 wH3446 => ?_)
                have m3447 := (m3426).trans (fI_kept (oH3446 _ (G_ne ga0 gq3445 (by decide)))).symm
                have m3448 := (m3427).trans (fI_kept (oH3446 _ (G_ne ga0 gq3445 (by decide)))).symm
                have m3449 := (m3428).trans (fI_kept (oH3446 _ (G_ne ga0 gq3445 (by decide)))).symm
                have m3450 := (m3429).trans (fI_kept (oH3446 _ (G_ne ga0 gq3445 (by decide)))).symm
                have m3451 := (m3430).trans (fR_kept (oH3446 _ (G_ne ga0 gq3445 (by decide)))).symm
                have m3452 := (m3431).trans (fR_kept (oH3446 _ (G_ne ga1 gq3445 (by decide)))).symm
                have m3453 := (m3432).trans (fI_kept (oH3446 _ (G_ne ga1 gq3445 (by decide)))).symm
                have m3454 := (m3433).trans (fI_kept (oH3446 _ (G_ne ga1 gq3445 (by decide)))).symm
                have m3455 := (m3434).trans (fI_kept (oH3446 _ (G_ne ga1 gq3445 (by decide)))).symm
                have m3456 := (m3435).trans (fI_kept (oH3446 _ (G_ne ga1 gq3445 (by decide)))).symm
                have m3457 := (m3436).trans (fI_kept (oH3446 _ (G_ne ga1 gq3445 (by decide)))).symm
                have m3458 := (m3437).trans (fI_kept (oH3446 _ (G_ne ga1 gq3445 (by decide)))).symm
                have m3459 := (m3438).trans (fI_kept (oH3446 _ (G_ne ga0 gq3445 (by decide)))).symm
                have m3460 := (m3439).trans (fI_kept (oH3446 _ (G_ne ga0 gq3445 (by decide)))).symm
                have m3461 := (m3440).trans (fI_kept (oH3446 _ (G_ne ga1 gq3445 (by decide)))).symm
                have m3462 := (m3441).trans (fI_kept (oH3446 _ (G_ne ga0 gq3445 (by decide)))).symm
                have m3463 := (m3442).trans (fI_kept (oH3446 _ (G_ne ga1 gq3445 (by decide)))).symm
                have m3464 := (m3443).trans (fI_kept (oH3446 _ (G_ne ga0 gq3445 (by decide)))).symm
                have m3465 := (eq3444).trans (fR_kept (oH3446 _ (G_ne ga1 gq3445 (by decide)))).symm
                have m3466 := (eq3445).trans (fR_kept (oH3446 _ (G_ne ga0 gq3445 (by decide)))).symm
                have f3467 : ∀ j : Nat, fR H3446 bq j = fR s.heap bq j := fun j => (fR_kept (oH3446 _ (G_ne gbq gq3445 (by decide)))).trans (f3422 j)
                have f3468 : ∀ j : Nat, fR H3446 oq j = fR s.heap oq j := fun j => (fR_kept (oH3446 _ (G_ne goq gq3445 (by decide)))).trans (f3423 j)
                have f3469 : ∀ q : Nat, G q = some 1 → fI H3446 q (K.1.2 0 14) = fI s.heap q (K.1.2 0 14) := fun q hq => (fI_kept (oH3446 _ (G_ne hq gq3445 (by decide)))).trans (f3424 q hq)
                have f3470 : ∀ j : Nat, j < 10 → j < n1.toNatClampNeg → fI H3446 (fR s.heap bq j) (K.1.2 0 14) = fI s.heap (fR s.heap oq j) (K.1.2 0 14) := fun j h10 hj => (fI_kept (oH3446 _ (G_ne (gB j h10) gq3445 (by decide)))).trans (f3425 j h10 hj)
                refine lv_aload_n hx hb dX8_copyFrom_142 rfl (lv_at hl3345 1 rfl) ?_
                refine x_gr C hTH3446 (ci := 8) (k := 9) rfl inX8 (by decide) wF_X8_37 ga1 rg_0 rfl dX8_copyFrom_143 (fun q3471 eq3471 gq3471 => ?_)
                refine lv_iconst (v := 0) hx hb dX8_copyFrom_146 (by decide) ?_
                refine lv_aload_n hx hb dX8_copyFrom_147 rfl (lv_at hl3345 0 rfl) ?_
                refine x_gr C hTH3446 (ci := 8) (k := 9) rfl inX8 (by decide) wF_X8_37 ga0 rg_34 rfl dX8_copyFrom_148 (fun q3472 eq3472 gq3472 => ?_)
                refine lv_iconst (v := 0) hx hb dX8_copyFrom_151 (by decide) ?_
                refine lv_bipush (v := 20) hx hb dX8_copyFrom_152 (by decide) ?_
                refine x_copy C hTH3446 hSH3446 wM_X8_70 wNT_arraycopy wST_arraycopy wIN_J10 gq3471 gq3472 rg_29 rg_63 (by decide) (by omega) (by omega) (by omega) (by show _ ≤ ((20 : Nat) : Int); omega) (by show _ ≤ ((20 : Nat) : Int); omega) (AE_in gq3472 (by decide)) hl3345.1 (by decide) dX8_copyFrom_154 (fun H3473 locsH3473 hTH3473 hSH3473 zH3473 oH3473 vH3473 wH3473 => ?_)
                have m3474 := (m3447).trans (fI_kept (oH3473 _ (G_ne ga0 gq3472 (by decide)))).symm
                have m3475 := (m3448).trans (fI_kept (oH3473 _ (G_ne ga0 gq3472 (by decide)))).symm
                have m3476 := (m3449).trans (fI_kept (oH3473 _ (G_ne ga0 gq3472 (by decide)))).symm
                have m3477 := (m3450).trans (fI_kept (oH3473 _ (G_ne ga0 gq3472 (by decide)))).symm
                have m3478 := (m3451).trans (fR_kept (oH3473 _ (G_ne ga0 gq3472 (by decide)))).symm
                have m3479 := (m3452).trans (fR_kept (oH3473 _ (G_ne ga1 gq3472 (by decide)))).symm
                have m3480 := (m3453).trans (fI_kept (oH3473 _ (G_ne ga1 gq3472 (by decide)))).symm
                have m3481 := (m3454).trans (fI_kept (oH3473 _ (G_ne ga1 gq3472 (by decide)))).symm
                have m3482 := (m3455).trans (fI_kept (oH3473 _ (G_ne ga1 gq3472 (by decide)))).symm
                have m3483 := (m3456).trans (fI_kept (oH3473 _ (G_ne ga1 gq3472 (by decide)))).symm
                have m3484 := (m3457).trans (fI_kept (oH3473 _ (G_ne ga1 gq3472 (by decide)))).symm
                have m3485 := (m3458).trans (fI_kept (oH3473 _ (G_ne ga1 gq3472 (by decide)))).symm
                have m3486 := (m3459).trans (fI_kept (oH3473 _ (G_ne ga0 gq3472 (by decide)))).symm
                have m3487 := (m3460).trans (fI_kept (oH3473 _ (G_ne ga0 gq3472 (by decide)))).symm
                have m3488 := (m3461).trans (fI_kept (oH3473 _ (G_ne ga1 gq3472 (by decide)))).symm
                have m3489 := (m3462).trans (fI_kept (oH3473 _ (G_ne ga0 gq3472 (by decide)))).symm
                have m3490 := (m3463).trans (fI_kept (oH3473 _ (G_ne ga1 gq3472 (by decide)))).symm
                have m3491 := (m3464).trans (fI_kept (oH3473 _ (G_ne ga0 gq3472 (by decide)))).symm
                have m3492 := (m3465).trans (fR_kept (oH3473 _ (G_ne ga1 gq3472 (by decide)))).symm
                have m3493 := (m3466).trans (fR_kept (oH3473 _ (G_ne ga0 gq3472 (by decide)))).symm
                have m3494 := (eq3471).trans (fR_kept (oH3473 _ (G_ne ga1 gq3472 (by decide)))).symm
                have m3495 := (eq3472).trans (fR_kept (oH3473 _ (G_ne ga0 gq3472 (by decide)))).symm
                have f3496 : ∀ j : Nat, fR H3473 bq j = fR s.heap bq j := fun j => (fR_kept (oH3473 _ (G_ne gbq gq3472 (by decide)))).trans (f3467 j)
                have f3497 : ∀ j : Nat, fR H3473 oq j = fR s.heap oq j := fun j => (fR_kept (oH3473 _ (G_ne goq gq3472 (by decide)))).trans (f3468 j)
                have f3498 : ∀ q : Nat, G q = some 1 → fI H3473 q (K.1.2 0 14) = fI s.heap q (K.1.2 0 14) := fun q hq => (fI_kept (oH3473 _ (G_ne hq gq3472 (by decide)))).trans (f3469 q hq)
                have f3499 : ∀ j : Nat, j < 10 → j < n1.toNatClampNeg → fI H3473 (fR s.heap bq j) (K.1.2 0 14) = fI s.heap (fR s.heap oq j) (K.1.2 0 14) := fun j h10 hj => (fI_kept (oH3473 _ (G_ne (gB j h10) gq3472 (by decide)))).trans (f3470 j h10 hj)
                refine lv_aload_n hx hb dX8_copyFrom_157 rfl (lv_at hl3345 0 rfl) ?_
                refine lv_aload_n hx hb dX8_copyFrom_158 rfl (lv_at hl3345 1 rfl) ?_
                refine x_gi C hTH3473 (ci := 8) (k := 10) rfl inX8 (by decide) wF_X8_76 ga1 rg_0 rfl dX8_copyFrom_159 (fun x3500 ex3500 bx3500 => ?_)
                have ux3500 : n10 = x3500 := (m3483).trans ex3500.symm
                subst ux3500
                refine x_put C hTH3473 hSH3473 (ci := 8) (k := 10) (v := .int n10) (ty0 := tyX8) rfl inX8 tyX8_ok nmX8 (by decide) rfl wF_X8_76 ga0 rg_34 rfl rfl (okI (by have := i_rng n10; omega) (by have := i_rng n10; omega)) rfl rfl (AE_in ga0 (by decide)) dX8_copyFrom_162 (fun H3501 locsH3501 hTH3501 hSH3501 wH3501 => ?_)
                have f3502 : ∀ j : Nat, fR H3501 bq j = fR s.heap bq j := fun j => (Wr.neR wH3501 (Or.inl (G_ne gbq ga0 (by decide)))).trans (f3496 j)
                have f3503 : ∀ j : Nat, fR H3501 oq j = fR s.heap oq j := fun j => (Wr.neR wH3501 (Or.inl (G_ne goq ga0 (by decide)))).trans (f3497 j)
                have f3504 : ∀ q : Nat, G q = some 1 → fI H3501 q (K.1.2 0 14) = fI s.heap q (K.1.2 0 14) := fun q hq => (Wr.neI wH3501 (Or.inl (G_ne hq ga0 (by decide)))).trans (f3498 q hq)
                have f3505 : ∀ j : Nat, j < 10 → j < n1.toNatClampNeg → fI H3501 (fR s.heap bq j) (K.1.2 0 14) = fI s.heap (fR s.heap oq j) (K.1.2 0 14) := fun j h10 hj => (Wr.neI wH3501 (Or.inl (G_ne (gB j h10) ga0 (by decide)))).trans (f3499 j h10 hj)
                have m3506 := m3474.trans (Wr.neI wH3501 (Or.inr (x_apart hKT hts inX8 tyX8 tyX8_ok nmX8 rfl 1 10 (by decide) (by decide) (by decide)))).symm
                have m3508 := m3476.trans (Wr.neI wH3501 (Or.inr (x_apart hKT hts inX8 tyX8 tyX8_ok nmX8 rfl 13 10 (by decide) (by decide) (by decide)))).symm
                have m3509 := m3477.trans (Wr.neI wH3501 (Or.inr (x_apart hKT hts inX8 tyX8 tyX8_ok nmX8 rfl 16 10 (by decide) (by decide) (by decide)))).symm
                have m3510 := m3478.trans (Wr.neR wH3501 (Or.inr (x_apart hKT hts inX8 tyX8 tyX8_ok nmX8 rfl 0 10 (by decide) (by decide) (by decide)))).symm
                have m3511 := m3479.trans (Wr.neR wH3501 (Or.inl (G_ne ga1 ga0 (by decide)))).symm
                have m3512 := m3480.trans (Wr.neI wH3501 (Or.inl (G_ne ga1 ga0 (by decide)))).symm
                have m3513 := m3481.trans (Wr.neI wH3501 (Or.inl (G_ne ga1 ga0 (by decide)))).symm
                have m3514 := m3482.trans (Wr.neI wH3501 (Or.inl (G_ne ga1 ga0 (by decide)))).symm
                have m3515 := m3483.trans (Wr.neI wH3501 (Or.inl (G_ne ga1 ga0 (by decide)))).symm
                have m3516 := m3484.trans (Wr.neI wH3501 (Or.inl (G_ne ga1 ga0 (by decide)))).symm
                have m3517 := m3485.trans (Wr.neI wH3501 (Or.inl (G_ne ga1 ga0 (by decide)))).symm
                have m3518 := m3486.trans (Wr.neI wH3501 (Or.inr (x_apart hKT hts inX8 tyX8 tyX8_ok nmX8 rfl 4 10 (by decide) (by decide) (by decide)))).symm
                have m3519 := m3487.trans (Wr.neI wH3501 (Or.inr (x_apart hKT hts inX8 tyX8 tyX8_ok nmX8 rfl 5 10 (by decide) (by decide) (by decide)))).symm
                have m3520 := m3488.trans (Wr.neI wH3501 (Or.inl (G_ne ga1 ga0 (by decide)))).symm
                have m3521 := m3489.trans (Wr.neI wH3501 (Or.inr (x_apart hKT hts inX8 tyX8 tyX8_ok nmX8 rfl 6 10 (by decide) (by decide) (by decide)))).symm
                have m3522 := m3490.trans (Wr.neI wH3501 (Or.inl (G_ne ga1 ga0 (by decide)))).symm
                have m3523 := m3491.trans (Wr.neI wH3501 (Or.inr (x_apart hKT hts inX8 tyX8 tyX8_ok nmX8 rfl 7 10 (by decide) (by decide) (by decide)))).symm
                have m3524 := m3492.trans (Wr.neR wH3501 (Or.inl (G_ne ga1 ga0 (by decide)))).symm
                have m3525 := m3493.trans (Wr.neR wH3501 (Or.inr (x_apart hKT hts inX8 tyX8 tyX8_ok nmX8 rfl 8 10 (by decide) (by decide) (by decide)))).symm
                have m3526 := m3494.trans (Wr.neR wH3501 (Or.inl (G_ne ga1 ga0 (by decide)))).symm
                have m3527 := m3495.trans (Wr.neR wH3501 (Or.inr (x_apart hKT hts inX8 tyX8 tyX8_ok nmX8 rfl 9 10 (by decide) (by decide) (by decide)))).symm
                have m3528 := Wr.I wH3501
                have m3528 := m3528.symm
                refine lv_aload_n hx hb dX8_copyFrom_165 rfl (lv_at hl3345 1 rfl) ?_
                refine x_gr C hTH3501 (ci := 8) (k := 11) rfl inX8 (by decide) wF_X8_40 ga1 rg_0 rfl dX8_copyFrom_166 (fun q3529 eq3529 gq3529 => ?_)
                refine lv_iconst (v := 0) hx hb dX8_copyFrom_169 (by decide) ?_
                refine lv_aload_n hx hb dX8_copyFrom_170 rfl (lv_at hl3345 0 rfl) ?_
                refine x_gr C hTH3501 (ci := 8) (k := 11) rfl inX8 (by decide) wF_X8_40 ga0 rg_34 rfl dX8_copyFrom_171 (fun q3530 eq3530 gq3530 => ?_)
                refine lv_iconst (v := 0) hx hb dX8_copyFrom_174 (by decide) ?_
                refine lv_bipush (v := 8) hx hb dX8_copyFrom_175 (by decide) ?_
                refine x_copy C hTH3501 hSH3501 wM_X8_70 wNT_arraycopy wST_arraycopy wIN_J10 gq3529 gq3530 rg_30 rg_64 (by decide) (by omega) (by omega) (by omega) (by show _ ≤ ((8 : Nat) : Int); omega) (by show _ ≤ ((8 : Nat) : Int); omega) (AE_in gq3530 (by decide)) hl3345.1 (by decide) dX8_copyFrom_177 (fun H3531 locsH3531 hTH3531 hSH3531 zH3531 oH3531 vH3531 wH3531 => ?_)
                have m3532 := (m3506).trans (fI_kept (oH3531 _ (G_ne ga0 gq3530 (by decide)))).symm
                have m3533 := (m3508).trans (fI_kept (oH3531 _ (G_ne ga0 gq3530 (by decide)))).symm
                have m3534 := (m3509).trans (fI_kept (oH3531 _ (G_ne ga0 gq3530 (by decide)))).symm
                have m3535 := (m3510).trans (fR_kept (oH3531 _ (G_ne ga0 gq3530 (by decide)))).symm
                have m3536 := (m3511).trans (fR_kept (oH3531 _ (G_ne ga1 gq3530 (by decide)))).symm
                have m3537 := (m3512).trans (fI_kept (oH3531 _ (G_ne ga1 gq3530 (by decide)))).symm
                have m3538 := (m3513).trans (fI_kept (oH3531 _ (G_ne ga1 gq3530 (by decide)))).symm
                have m3539 := (m3514).trans (fI_kept (oH3531 _ (G_ne ga1 gq3530 (by decide)))).symm
                have m3540 := (m3515).trans (fI_kept (oH3531 _ (G_ne ga1 gq3530 (by decide)))).symm
                have m3541 := (m3516).trans (fI_kept (oH3531 _ (G_ne ga1 gq3530 (by decide)))).symm
                have m3542 := (m3517).trans (fI_kept (oH3531 _ (G_ne ga1 gq3530 (by decide)))).symm
                have m3543 := (m3518).trans (fI_kept (oH3531 _ (G_ne ga0 gq3530 (by decide)))).symm
                have m3544 := (m3519).trans (fI_kept (oH3531 _ (G_ne ga0 gq3530 (by decide)))).symm
                have m3545 := (m3520).trans (fI_kept (oH3531 _ (G_ne ga1 gq3530 (by decide)))).symm
                have m3546 := (m3521).trans (fI_kept (oH3531 _ (G_ne ga0 gq3530 (by decide)))).symm
                have m3547 := (m3522).trans (fI_kept (oH3531 _ (G_ne ga1 gq3530 (by decide)))).symm
                have m3548 := (m3523).trans (fI_kept (oH3531 _ (G_ne ga0 gq3530 (by decide)))).symm
                have m3549 := (m3524).trans (fR_kept (oH3531 _ (G_ne ga1 gq3530 (by decide)))).symm
                have m3550 := (m3525).trans (fR_kept (oH3531 _ (G_ne ga0 gq3530 (by decide)))).symm
                have m3551 := (m3526).trans (fR_kept (oH3531 _ (G_ne ga1 gq3530 (by decide)))).symm
                have m3552 := (m3527).trans (fR_kept (oH3531 _ (G_ne ga0 gq3530 (by decide)))).symm
                have m3553 := (m3528).trans (fI_kept (oH3531 _ (G_ne ga0 gq3530 (by decide)))).symm
                have m3554 := (eq3529).trans (fR_kept (oH3531 _ (G_ne ga1 gq3530 (by decide)))).symm
                have m3555 := (eq3530).trans (fR_kept (oH3531 _ (G_ne ga0 gq3530 (by decide)))).symm
                have f3556 : ∀ j : Nat, fR H3531 bq j = fR s.heap bq j := fun j => (fR_kept (oH3531 _ (G_ne gbq gq3530 (by decide)))).trans (f3502 j)
                have f3557 : ∀ j : Nat, fR H3531 oq j = fR s.heap oq j := fun j => (fR_kept (oH3531 _ (G_ne goq gq3530 (by decide)))).trans (f3503 j)
                have f3558 : ∀ q : Nat, G q = some 1 → fI H3531 q (K.1.2 0 14) = fI s.heap q (K.1.2 0 14) := fun q hq => (fI_kept (oH3531 _ (G_ne hq gq3530 (by decide)))).trans (f3504 q hq)
                have f3559 : ∀ j : Nat, j < 10 → j < n1.toNatClampNeg → fI H3531 (fR s.heap bq j) (K.1.2 0 14) = fI s.heap (fR s.heap oq j) (K.1.2 0 14) := fun j h10 hj => (fI_kept (oH3531 _ (G_ne (gB j h10) gq3530 (by decide)))).trans (f3505 j h10 hj)
                refine lv_aload_n hx hb dX8_copyFrom_180 rfl (lv_at hl3345 1 rfl) ?_
                refine x_gr C hTH3531 (ci := 8) (k := 12) rfl inX8 (by decide) wF_X8_43 ga1 rg_0 rfl dX8_copyFrom_181 (fun q3560 eq3560 gq3560 => ?_)
                refine lv_iconst (v := 0) hx hb dX8_copyFrom_184 (by decide) ?_
                refine lv_aload_n hx hb dX8_copyFrom_185 rfl (lv_at hl3345 0 rfl) ?_
                refine x_gr C hTH3531 (ci := 8) (k := 12) rfl inX8 (by decide) wF_X8_43 ga0 rg_34 rfl dX8_copyFrom_186 (fun q3561 eq3561 gq3561 => ?_)
                refine lv_iconst (v := 0) hx hb dX8_copyFrom_189 (by decide) ?_
                refine lv_bipush (v := 8) hx hb dX8_copyFrom_190 (by decide) ?_
                refine x_copy C hTH3531 hSH3531 wM_X8_70 wNT_arraycopy wST_arraycopy wIN_J10 gq3560 gq3561 rg_31 rg_65 (by decide) (by omega) (by omega) (by omega) (by show _ ≤ ((8 : Nat) : Int); omega) (by show _ ≤ ((8 : Nat) : Int); omega) (AE_in gq3561 (by decide)) hl3345.1 (by decide) dX8_copyFrom_192 (fun H3562 locsH3562 hTH3562 hSH3562 zH3562 oH3562 vH3562 wH3562 => ?_)
                have m3563 := (m3532).trans (fI_kept (oH3562 _ (G_ne ga0 gq3561 (by decide)))).symm
                have m3564 := (m3533).trans (fI_kept (oH3562 _ (G_ne ga0 gq3561 (by decide)))).symm
                have m3565 := (m3534).trans (fI_kept (oH3562 _ (G_ne ga0 gq3561 (by decide)))).symm
                have m3566 := (m3535).trans (fR_kept (oH3562 _ (G_ne ga0 gq3561 (by decide)))).symm
                have m3567 := (m3536).trans (fR_kept (oH3562 _ (G_ne ga1 gq3561 (by decide)))).symm
                have m3568 := (m3537).trans (fI_kept (oH3562 _ (G_ne ga1 gq3561 (by decide)))).symm
                have m3569 := (m3538).trans (fI_kept (oH3562 _ (G_ne ga1 gq3561 (by decide)))).symm
                have m3570 := (m3539).trans (fI_kept (oH3562 _ (G_ne ga1 gq3561 (by decide)))).symm
                have m3571 := (m3540).trans (fI_kept (oH3562 _ (G_ne ga1 gq3561 (by decide)))).symm
                have m3572 := (m3541).trans (fI_kept (oH3562 _ (G_ne ga1 gq3561 (by decide)))).symm
                have m3573 := (m3542).trans (fI_kept (oH3562 _ (G_ne ga1 gq3561 (by decide)))).symm
                have m3574 := (m3543).trans (fI_kept (oH3562 _ (G_ne ga0 gq3561 (by decide)))).symm
                have m3575 := (m3544).trans (fI_kept (oH3562 _ (G_ne ga0 gq3561 (by decide)))).symm
                have m3576 := (m3545).trans (fI_kept (oH3562 _ (G_ne ga1 gq3561 (by decide)))).symm
                have m3577 := (m3546).trans (fI_kept (oH3562 _ (G_ne ga0 gq3561 (by decide)))).symm
                have m3578 := (m3547).trans (fI_kept (oH3562 _ (G_ne ga1 gq3561 (by decide)))).symm
                have m3579 := (m3548).trans (fI_kept (oH3562 _ (G_ne ga0 gq3561 (by decide)))).symm
                have m3580 := (m3549).trans (fR_kept (oH3562 _ (G_ne ga1 gq3561 (by decide)))).symm
                have m3581 := (m3550).trans (fR_kept (oH3562 _ (G_ne ga0 gq3561 (by decide)))).symm
                have m3582 := (m3551).trans (fR_kept (oH3562 _ (G_ne ga1 gq3561 (by decide)))).symm
                have m3583 := (m3552).trans (fR_kept (oH3562 _ (G_ne ga0 gq3561 (by decide)))).symm
                have m3584 := (m3553).trans (fI_kept (oH3562 _ (G_ne ga0 gq3561 (by decide)))).symm
                have m3585 := (m3554).trans (fR_kept (oH3562 _ (G_ne ga1 gq3561 (by decide)))).symm
                have m3586 := (m3555).trans (fR_kept (oH3562 _ (G_ne ga0 gq3561 (by decide)))).symm
                have m3587 := (eq3560).trans (fR_kept (oH3562 _ (G_ne ga1 gq3561 (by decide)))).symm
                have m3588 := (eq3561).trans (fR_kept (oH3562 _ (G_ne ga0 gq3561 (by decide)))).symm
                have f3589 : ∀ j : Nat, fR H3562 bq j = fR s.heap bq j := fun j => (fR_kept (oH3562 _ (G_ne gbq gq3561 (by decide)))).trans (f3556 j)
                have f3590 : ∀ j : Nat, fR H3562 oq j = fR s.heap oq j := fun j => (fR_kept (oH3562 _ (G_ne goq gq3561 (by decide)))).trans (f3557 j)
                have f3591 : ∀ q : Nat, G q = some 1 → fI H3562 q (K.1.2 0 14) = fI s.heap q (K.1.2 0 14) := fun q hq => (fI_kept (oH3562 _ (G_ne hq gq3561 (by decide)))).trans (f3558 q hq)
                have f3592 : ∀ j : Nat, j < 10 → j < n1.toNatClampNeg → fI H3562 (fR s.heap bq j) (K.1.2 0 14) = fI s.heap (fR s.heap oq j) (K.1.2 0 14) := fun j h10 hj => (fI_kept (oH3562 _ (G_ne (gB j h10) gq3561 (by decide)))).trans (f3559 j h10 hj)
                refine lv_aload_n hx hb dX8_copyFrom_195 rfl (lv_at hl3345 0 rfl) ?_
                refine lv_aload_n hx hb dX8_copyFrom_196 rfl (lv_at hl3345 1 rfl) ?_
                refine x_gi C hTH3562 (ci := 8) (k := 13) rfl inX8 (by decide) wF_X8_79 ga1 rg_0 rfl dX8_copyFrom_197 (fun x3593 ex3593 bx3593 => ?_)
                have ux3593 : n13 = x3593 := (m3572).trans ex3593.symm
                subst ux3593
                refine x_put C hTH3562 hSH3562 (ci := 8) (k := 13) (v := .int n13) (ty0 := tyX8) rfl inX8 tyX8_ok nmX8 (by decide) rfl wF_X8_79 ga0 rg_34 rfl rfl (okI (by have := i_rng n13; omega) (by have := i_rng n13; omega)) rfl rfl (AE_in ga0 (by decide)) dX8_copyFrom_200 (fun H3594 locsH3594 hTH3594 hSH3594 wH3594 => ?_)
                have f3595 : ∀ j : Nat, fR H3594 bq j = fR s.heap bq j := fun j => (Wr.neR wH3594 (Or.inl (G_ne gbq ga0 (by decide)))).trans (f3589 j)
                have f3596 : ∀ j : Nat, fR H3594 oq j = fR s.heap oq j := fun j => (Wr.neR wH3594 (Or.inl (G_ne goq ga0 (by decide)))).trans (f3590 j)
                have f3597 : ∀ q : Nat, G q = some 1 → fI H3594 q (K.1.2 0 14) = fI s.heap q (K.1.2 0 14) := fun q hq => (Wr.neI wH3594 (Or.inl (G_ne hq ga0 (by decide)))).trans (f3591 q hq)
                have f3598 : ∀ j : Nat, j < 10 → j < n1.toNatClampNeg → fI H3594 (fR s.heap bq j) (K.1.2 0 14) = fI s.heap (fR s.heap oq j) (K.1.2 0 14) := fun j h10 hj => (Wr.neI wH3594 (Or.inl (G_ne (gB j h10) ga0 (by decide)))).trans (f3592 j h10 hj)
                have m3599 := m3563.trans (Wr.neI wH3594 (Or.inr (x_apart hKT hts inX8 tyX8 tyX8_ok nmX8 rfl 1 13 (by decide) (by decide) (by decide)))).symm
                have m3601 := m3565.trans (Wr.neI wH3594 (Or.inr (x_apart hKT hts inX8 tyX8 tyX8_ok nmX8 rfl 16 13 (by decide) (by decide) (by decide)))).symm
                have m3602 := m3566.trans (Wr.neR wH3594 (Or.inr (x_apart hKT hts inX8 tyX8 tyX8_ok nmX8 rfl 0 13 (by decide) (by decide) (by decide)))).symm
                have m3603 := m3567.trans (Wr.neR wH3594 (Or.inl (G_ne ga1 ga0 (by decide)))).symm
                have m3604 := m3568.trans (Wr.neI wH3594 (Or.inl (G_ne ga1 ga0 (by decide)))).symm
                have m3605 := m3569.trans (Wr.neI wH3594 (Or.inl (G_ne ga1 ga0 (by decide)))).symm
                have m3606 := m3570.trans (Wr.neI wH3594 (Or.inl (G_ne ga1 ga0 (by decide)))).symm
                have m3607 := m3571.trans (Wr.neI wH3594 (Or.inl (G_ne ga1 ga0 (by decide)))).symm
                have m3608 := m3572.trans (Wr.neI wH3594 (Or.inl (G_ne ga1 ga0 (by decide)))).symm
                have m3609 := m3573.trans (Wr.neI wH3594 (Or.inl (G_ne ga1 ga0 (by decide)))).symm
                have m3610 := m3574.trans (Wr.neI wH3594 (Or.inr (x_apart hKT hts inX8 tyX8 tyX8_ok nmX8 rfl 4 13 (by decide) (by decide) (by decide)))).symm
                have m3611 := m3575.trans (Wr.neI wH3594 (Or.inr (x_apart hKT hts inX8 tyX8 tyX8_ok nmX8 rfl 5 13 (by decide) (by decide) (by decide)))).symm
                have m3612 := m3576.trans (Wr.neI wH3594 (Or.inl (G_ne ga1 ga0 (by decide)))).symm
                have m3613 := m3577.trans (Wr.neI wH3594 (Or.inr (x_apart hKT hts inX8 tyX8 tyX8_ok nmX8 rfl 6 13 (by decide) (by decide) (by decide)))).symm
                have m3614 := m3578.trans (Wr.neI wH3594 (Or.inl (G_ne ga1 ga0 (by decide)))).symm
                have m3615 := m3579.trans (Wr.neI wH3594 (Or.inr (x_apart hKT hts inX8 tyX8 tyX8_ok nmX8 rfl 7 13 (by decide) (by decide) (by decide)))).symm
                have m3616 := m3580.trans (Wr.neR wH3594 (Or.inl (G_ne ga1 ga0 (by decide)))).symm
                have m3617 := m3581.trans (Wr.neR wH3594 (Or.inr (x_apart hKT hts inX8 tyX8 tyX8_ok nmX8 rfl 8 13 (by decide) (by decide) (by decide)))).symm
                have m3618 := m3582.trans (Wr.neR wH3594 (Or.inl (G_ne ga1 ga0 (by decide)))).symm
                have m3619 := m3583.trans (Wr.neR wH3594 (Or.inr (x_apart hKT hts inX8 tyX8 tyX8_ok nmX8 rfl 9 13 (by decide) (by decide) (by decide)))).symm
                have m3620 := m3584.trans (Wr.neI wH3594 (Or.inr (x_apart hKT hts inX8 tyX8 tyX8_ok nmX8 rfl 10 13 (by decide) (by decide) (by decide)))).symm
                have m3621 := m3585.trans (Wr.neR wH3594 (Or.inl (G_ne ga1 ga0 (by decide)))).symm
                have m3622 := m3586.trans (Wr.neR wH3594 (Or.inr (x_apart hKT hts inX8 tyX8 tyX8_ok nmX8 rfl 11 13 (by decide) (by decide) (by decide)))).symm
                have m3623 := m3587.trans (Wr.neR wH3594 (Or.inl (G_ne ga1 ga0 (by decide)))).symm
                have m3624 := m3588.trans (Wr.neR wH3594 (Or.inr (x_apart hKT hts inX8 tyX8 tyX8_ok nmX8 rfl 12 13 (by decide) (by decide) (by decide)))).symm
                have m3625 := Wr.I wH3594
                have m3625 := m3625.symm
                refine lv_aload_n hx hb dX8_copyFrom_203 rfl (lv_at hl3345 1 rfl) ?_
                refine x_gr C hTH3594 (ci := 8) (k := 14) rfl inX8 (by decide) wF_X8_46 ga1 rg_0 rfl dX8_copyFrom_204 (fun q3626 eq3626 gq3626 => ?_)
                refine lv_iconst (v := 0) hx hb dX8_copyFrom_207 (by decide) ?_
                refine lv_aload_n hx hb dX8_copyFrom_208 rfl (lv_at hl3345 0 rfl) ?_
                refine x_gr C hTH3594 (ci := 8) (k := 14) rfl inX8 (by decide) wF_X8_46 ga0 rg_34 rfl dX8_copyFrom_209 (fun q3627 eq3627 gq3627 => ?_)
                refine lv_iconst (v := 0) hx hb dX8_copyFrom_212 (by decide) ?_
                refine lv_bipush (v := 8) hx hb dX8_copyFrom_213 (by decide) ?_
                refine x_copy C hTH3594 hSH3594 wM_X8_70 wNT_arraycopy wST_arraycopy wIN_J10 gq3626 gq3627 rg_32 rg_66 (by decide) (by omega) (by omega) (by omega) (by show _ ≤ ((8 : Nat) : Int); omega) (by show _ ≤ ((8 : Nat) : Int); omega) (AE_in gq3627 (by decide)) hl3345.1 (by decide) dX8_copyFrom_215 (fun H3628 locsH3628 hTH3628 hSH3628 zH3628 oH3628 vH3628 wH3628 => ?_)
                have m3629 := (m3599).trans (fI_kept (oH3628 _ (G_ne ga0 gq3627 (by decide)))).symm
                have m3630 := (m3601).trans (fI_kept (oH3628 _ (G_ne ga0 gq3627 (by decide)))).symm
                have m3631 := (m3602).trans (fR_kept (oH3628 _ (G_ne ga0 gq3627 (by decide)))).symm
                have m3632 := (m3603).trans (fR_kept (oH3628 _ (G_ne ga1 gq3627 (by decide)))).symm
                have m3633 := (m3604).trans (fI_kept (oH3628 _ (G_ne ga1 gq3627 (by decide)))).symm
                have m3634 := (m3605).trans (fI_kept (oH3628 _ (G_ne ga1 gq3627 (by decide)))).symm
                have m3635 := (m3606).trans (fI_kept (oH3628 _ (G_ne ga1 gq3627 (by decide)))).symm
                have m3636 := (m3607).trans (fI_kept (oH3628 _ (G_ne ga1 gq3627 (by decide)))).symm
                have m3637 := (m3608).trans (fI_kept (oH3628 _ (G_ne ga1 gq3627 (by decide)))).symm
                have m3638 := (m3609).trans (fI_kept (oH3628 _ (G_ne ga1 gq3627 (by decide)))).symm
                have m3639 := (m3610).trans (fI_kept (oH3628 _ (G_ne ga0 gq3627 (by decide)))).symm
                have m3640 := (m3611).trans (fI_kept (oH3628 _ (G_ne ga0 gq3627 (by decide)))).symm
                have m3641 := (m3612).trans (fI_kept (oH3628 _ (G_ne ga1 gq3627 (by decide)))).symm
                have m3642 := (m3613).trans (fI_kept (oH3628 _ (G_ne ga0 gq3627 (by decide)))).symm
                have m3643 := (m3614).trans (fI_kept (oH3628 _ (G_ne ga1 gq3627 (by decide)))).symm
                have m3644 := (m3615).trans (fI_kept (oH3628 _ (G_ne ga0 gq3627 (by decide)))).symm
                have m3645 := (m3616).trans (fR_kept (oH3628 _ (G_ne ga1 gq3627 (by decide)))).symm
                have m3646 := (m3617).trans (fR_kept (oH3628 _ (G_ne ga0 gq3627 (by decide)))).symm
                have m3647 := (m3618).trans (fR_kept (oH3628 _ (G_ne ga1 gq3627 (by decide)))).symm
                have m3648 := (m3619).trans (fR_kept (oH3628 _ (G_ne ga0 gq3627 (by decide)))).symm
                have m3649 := (m3620).trans (fI_kept (oH3628 _ (G_ne ga0 gq3627 (by decide)))).symm
                have m3650 := (m3621).trans (fR_kept (oH3628 _ (G_ne ga1 gq3627 (by decide)))).symm
                have m3651 := (m3622).trans (fR_kept (oH3628 _ (G_ne ga0 gq3627 (by decide)))).symm
                have m3652 := (m3623).trans (fR_kept (oH3628 _ (G_ne ga1 gq3627 (by decide)))).symm
                have m3653 := (m3624).trans (fR_kept (oH3628 _ (G_ne ga0 gq3627 (by decide)))).symm
                have m3654 := (m3625).trans (fI_kept (oH3628 _ (G_ne ga0 gq3627 (by decide)))).symm
                have m3655 := (eq3626).trans (fR_kept (oH3628 _ (G_ne ga1 gq3627 (by decide)))).symm
                have m3656 := (eq3627).trans (fR_kept (oH3628 _ (G_ne ga0 gq3627 (by decide)))).symm
                have f3657 : ∀ j : Nat, fR H3628 bq j = fR s.heap bq j := fun j => (fR_kept (oH3628 _ (G_ne gbq gq3627 (by decide)))).trans (f3595 j)
                have f3658 : ∀ j : Nat, fR H3628 oq j = fR s.heap oq j := fun j => (fR_kept (oH3628 _ (G_ne goq gq3627 (by decide)))).trans (f3596 j)
                have f3659 : ∀ q : Nat, G q = some 1 → fI H3628 q (K.1.2 0 14) = fI s.heap q (K.1.2 0 14) := fun q hq => (fI_kept (oH3628 _ (G_ne hq gq3627 (by decide)))).trans (f3597 q hq)
                have f3660 : ∀ j : Nat, j < 10 → j < n1.toNatClampNeg → fI H3628 (fR s.heap bq j) (K.1.2 0 14) = fI s.heap (fR s.heap oq j) (K.1.2 0 14) := fun j h10 hj => (fI_kept (oH3628 _ (G_ne (gB j h10) gq3627 (by decide)))).trans (f3598 j h10 hj)
                refine lv_aload_n hx hb dX8_copyFrom_218 rfl (lv_at hl3345 1 rfl) ?_
                refine x_gr C hTH3628 (ci := 8) (k := 15) rfl inX8 (by decide) wF_X8_49 ga1 rg_0 rfl dX8_copyFrom_219 (fun q3661 eq3661 gq3661 => ?_)
                refine lv_iconst (v := 0) hx hb dX8_copyFrom_222 (by decide) ?_
                refine lv_aload_n hx hb dX8_copyFrom_223 rfl (lv_at hl3345 0 rfl) ?_
                refine x_gr C hTH3628 (ci := 8) (k := 15) rfl inX8 (by decide) wF_X8_49 ga0 rg_34 rfl dX8_copyFrom_224 (fun q3662 eq3662 gq3662 => ?_)
                refine lv_iconst (v := 0) hx hb dX8_copyFrom_227 (by decide) ?_
                refine lv_bipush (v := 8) hx hb dX8_copyFrom_228 (by decide) ?_
                refine x_copy C hTH3628 hSH3628 wM_X8_70 wNT_arraycopy wST_arraycopy wIN_J10 gq3661 gq3662 rg_33 rg_67 (by decide) (by omega) (by omega) (by omega) (by show _ ≤ ((8 : Nat) : Int); omega) (by show _ ≤ ((8 : Nat) : Int); omega) (AE_in gq3662 (by decide)) hl3345.1 (by decide) dX8_copyFrom_230 (fun H3663 locsH3663 hTH3663 hSH3663 zH3663 oH3663 vH3663 wH3663 => ?_)
                have m3664 := (m3629).trans (fI_kept (oH3663 _ (G_ne ga0 gq3662 (by decide)))).symm
                have m3665 := (m3630).trans (fI_kept (oH3663 _ (G_ne ga0 gq3662 (by decide)))).symm
                have m3666 := (m3631).trans (fR_kept (oH3663 _ (G_ne ga0 gq3662 (by decide)))).symm
                have m3667 := (m3632).trans (fR_kept (oH3663 _ (G_ne ga1 gq3662 (by decide)))).symm
                have m3668 := (m3633).trans (fI_kept (oH3663 _ (G_ne ga1 gq3662 (by decide)))).symm
                have m3669 := (m3634).trans (fI_kept (oH3663 _ (G_ne ga1 gq3662 (by decide)))).symm
                have m3670 := (m3635).trans (fI_kept (oH3663 _ (G_ne ga1 gq3662 (by decide)))).symm
                have m3671 := (m3636).trans (fI_kept (oH3663 _ (G_ne ga1 gq3662 (by decide)))).symm
                have m3672 := (m3637).trans (fI_kept (oH3663 _ (G_ne ga1 gq3662 (by decide)))).symm
                have m3673 := (m3638).trans (fI_kept (oH3663 _ (G_ne ga1 gq3662 (by decide)))).symm
                have m3674 := (m3639).trans (fI_kept (oH3663 _ (G_ne ga0 gq3662 (by decide)))).symm
                have m3675 := (m3640).trans (fI_kept (oH3663 _ (G_ne ga0 gq3662 (by decide)))).symm
                have m3676 := (m3641).trans (fI_kept (oH3663 _ (G_ne ga1 gq3662 (by decide)))).symm
                have m3677 := (m3642).trans (fI_kept (oH3663 _ (G_ne ga0 gq3662 (by decide)))).symm
                have m3678 := (m3643).trans (fI_kept (oH3663 _ (G_ne ga1 gq3662 (by decide)))).symm
                have m3679 := (m3644).trans (fI_kept (oH3663 _ (G_ne ga0 gq3662 (by decide)))).symm
                have m3680 := (m3645).trans (fR_kept (oH3663 _ (G_ne ga1 gq3662 (by decide)))).symm
                have m3681 := (m3646).trans (fR_kept (oH3663 _ (G_ne ga0 gq3662 (by decide)))).symm
                have m3682 := (m3647).trans (fR_kept (oH3663 _ (G_ne ga1 gq3662 (by decide)))).symm
                have m3683 := (m3648).trans (fR_kept (oH3663 _ (G_ne ga0 gq3662 (by decide)))).symm
                have m3684 := (m3649).trans (fI_kept (oH3663 _ (G_ne ga0 gq3662 (by decide)))).symm
                have m3685 := (m3650).trans (fR_kept (oH3663 _ (G_ne ga1 gq3662 (by decide)))).symm
                have m3686 := (m3651).trans (fR_kept (oH3663 _ (G_ne ga0 gq3662 (by decide)))).symm
                have m3687 := (m3652).trans (fR_kept (oH3663 _ (G_ne ga1 gq3662 (by decide)))).symm
                have m3688 := (m3653).trans (fR_kept (oH3663 _ (G_ne ga0 gq3662 (by decide)))).symm
                have m3689 := (m3654).trans (fI_kept (oH3663 _ (G_ne ga0 gq3662 (by decide)))).symm
                have m3690 := (m3655).trans (fR_kept (oH3663 _ (G_ne ga1 gq3662 (by decide)))).symm
                have m3691 := (m3656).trans (fR_kept (oH3663 _ (G_ne ga0 gq3662 (by decide)))).symm
                have m3692 := (eq3661).trans (fR_kept (oH3663 _ (G_ne ga1 gq3662 (by decide)))).symm
                have m3693 := (eq3662).trans (fR_kept (oH3663 _ (G_ne ga0 gq3662 (by decide)))).symm
                have f3694 : ∀ j : Nat, fR H3663 bq j = fR s.heap bq j := fun j => (fR_kept (oH3663 _ (G_ne gbq gq3662 (by decide)))).trans (f3657 j)
                have f3695 : ∀ j : Nat, fR H3663 oq j = fR s.heap oq j := fun j => (fR_kept (oH3663 _ (G_ne goq gq3662 (by decide)))).trans (f3658 j)
                have f3696 : ∀ q : Nat, G q = some 1 → fI H3663 q (K.1.2 0 14) = fI s.heap q (K.1.2 0 14) := fun q hq => (fI_kept (oH3663 _ (G_ne hq gq3662 (by decide)))).trans (f3659 q hq)
                have f3697 : ∀ j : Nat, j < 10 → j < n1.toNatClampNeg → fI H3663 (fR s.heap bq j) (K.1.2 0 14) = fI s.heap (fR s.heap oq j) (K.1.2 0 14) := fun j h10 hj => (fI_kept (oH3663 _ (G_ne (gB j h10) gq3662 (by decide)))).trans (f3660 j h10 hj)
                refine lv_aload_n hx hb dX8_copyFrom_233 rfl (lv_at hl3345 0 rfl) ?_
                refine lv_aload_n hx hb dX8_copyFrom_234 rfl (lv_at hl3345 1 rfl) ?_
                refine x_gi C hTH3663 (ci := 8) (k := 16) rfl inX8 (by decide) wF_X8_82 ga1 rg_0 rfl dX8_copyFrom_235 (fun x3698 ex3698 bx3698 => ?_)
                have ux3698 : n16 = x3698 := (m3673).trans ex3698.symm
                subst ux3698
                refine x_put C hTH3663 hSH3663 (ci := 8) (k := 16) (v := .int n16) (ty0 := tyX8) rfl inX8 tyX8_ok nmX8 (by decide) rfl wF_X8_82 ga0 rg_34 rfl rfl (okI (by have := i_rng n16; omega) (by have := i_rng n16; omega)) rfl rfl (AE_in ga0 (by decide)) dX8_copyFrom_238 (fun H3699 locsH3699 hTH3699 hSH3699 wH3699 => ?_)
                have f3700 : ∀ j : Nat, fR H3699 bq j = fR s.heap bq j := fun j => (Wr.neR wH3699 (Or.inl (G_ne gbq ga0 (by decide)))).trans (f3694 j)
                have f3701 : ∀ j : Nat, fR H3699 oq j = fR s.heap oq j := fun j => (Wr.neR wH3699 (Or.inl (G_ne goq ga0 (by decide)))).trans (f3695 j)
                have f3702 : ∀ q : Nat, G q = some 1 → fI H3699 q (K.1.2 0 14) = fI s.heap q (K.1.2 0 14) := fun q hq => (Wr.neI wH3699 (Or.inl (G_ne hq ga0 (by decide)))).trans (f3696 q hq)
                have f3703 : ∀ j : Nat, j < 10 → j < n1.toNatClampNeg → fI H3699 (fR s.heap bq j) (K.1.2 0 14) = fI s.heap (fR s.heap oq j) (K.1.2 0 14) := fun j h10 hj => (Wr.neI wH3699 (Or.inl (G_ne (gB j h10) ga0 (by decide)))).trans (f3697 j h10 hj)
                have m3704 := m3664.trans (Wr.neI wH3699 (Or.inr (x_apart hKT hts inX8 tyX8 tyX8_ok nmX8 rfl 1 16 (by decide) (by decide) (by decide)))).symm
                have m3706 := m3666.trans (Wr.neR wH3699 (Or.inr (x_apart hKT hts inX8 tyX8 tyX8_ok nmX8 rfl 0 16 (by decide) (by decide) (by decide)))).symm
                have m3707 := m3667.trans (Wr.neR wH3699 (Or.inl (G_ne ga1 ga0 (by decide)))).symm
                have m3708 := m3668.trans (Wr.neI wH3699 (Or.inl (G_ne ga1 ga0 (by decide)))).symm
                have m3709 := m3669.trans (Wr.neI wH3699 (Or.inl (G_ne ga1 ga0 (by decide)))).symm
                have m3710 := m3670.trans (Wr.neI wH3699 (Or.inl (G_ne ga1 ga0 (by decide)))).symm
                have m3711 := m3671.trans (Wr.neI wH3699 (Or.inl (G_ne ga1 ga0 (by decide)))).symm
                have m3712 := m3672.trans (Wr.neI wH3699 (Or.inl (G_ne ga1 ga0 (by decide)))).symm
                have m3713 := m3673.trans (Wr.neI wH3699 (Or.inl (G_ne ga1 ga0 (by decide)))).symm
                have m3714 := m3674.trans (Wr.neI wH3699 (Or.inr (x_apart hKT hts inX8 tyX8 tyX8_ok nmX8 rfl 4 16 (by decide) (by decide) (by decide)))).symm
                have m3715 := m3675.trans (Wr.neI wH3699 (Or.inr (x_apart hKT hts inX8 tyX8 tyX8_ok nmX8 rfl 5 16 (by decide) (by decide) (by decide)))).symm
                have m3716 := m3676.trans (Wr.neI wH3699 (Or.inl (G_ne ga1 ga0 (by decide)))).symm
                have m3717 := m3677.trans (Wr.neI wH3699 (Or.inr (x_apart hKT hts inX8 tyX8 tyX8_ok nmX8 rfl 6 16 (by decide) (by decide) (by decide)))).symm
                have m3718 := m3678.trans (Wr.neI wH3699 (Or.inl (G_ne ga1 ga0 (by decide)))).symm
                have m3719 := m3679.trans (Wr.neI wH3699 (Or.inr (x_apart hKT hts inX8 tyX8 tyX8_ok nmX8 rfl 7 16 (by decide) (by decide) (by decide)))).symm
                have m3720 := m3680.trans (Wr.neR wH3699 (Or.inl (G_ne ga1 ga0 (by decide)))).symm
                have m3721 := m3681.trans (Wr.neR wH3699 (Or.inr (x_apart hKT hts inX8 tyX8 tyX8_ok nmX8 rfl 8 16 (by decide) (by decide) (by decide)))).symm
                have m3722 := m3682.trans (Wr.neR wH3699 (Or.inl (G_ne ga1 ga0 (by decide)))).symm
                have m3723 := m3683.trans (Wr.neR wH3699 (Or.inr (x_apart hKT hts inX8 tyX8 tyX8_ok nmX8 rfl 9 16 (by decide) (by decide) (by decide)))).symm
                have m3724 := m3684.trans (Wr.neI wH3699 (Or.inr (x_apart hKT hts inX8 tyX8 tyX8_ok nmX8 rfl 10 16 (by decide) (by decide) (by decide)))).symm
                have m3725 := m3685.trans (Wr.neR wH3699 (Or.inl (G_ne ga1 ga0 (by decide)))).symm
                have m3726 := m3686.trans (Wr.neR wH3699 (Or.inr (x_apart hKT hts inX8 tyX8 tyX8_ok nmX8 rfl 11 16 (by decide) (by decide) (by decide)))).symm
                have m3727 := m3687.trans (Wr.neR wH3699 (Or.inl (G_ne ga1 ga0 (by decide)))).symm
                have m3728 := m3688.trans (Wr.neR wH3699 (Or.inr (x_apart hKT hts inX8 tyX8 tyX8_ok nmX8 rfl 12 16 (by decide) (by decide) (by decide)))).symm
                have m3729 := m3689.trans (Wr.neI wH3699 (Or.inr (x_apart hKT hts inX8 tyX8 tyX8_ok nmX8 rfl 13 16 (by decide) (by decide) (by decide)))).symm
                have m3730 := m3690.trans (Wr.neR wH3699 (Or.inl (G_ne ga1 ga0 (by decide)))).symm
                have m3731 := m3691.trans (Wr.neR wH3699 (Or.inr (x_apart hKT hts inX8 tyX8 tyX8_ok nmX8 rfl 14 16 (by decide) (by decide) (by decide)))).symm
                have m3732 := m3692.trans (Wr.neR wH3699 (Or.inl (G_ne ga1 ga0 (by decide)))).symm
                have m3733 := m3693.trans (Wr.neR wH3699 (Or.inr (x_apart hKT hts inX8 tyX8 tyX8_ok nmX8 rfl 15 16 (by decide) (by decide) (by decide)))).symm
                have m3734 := Wr.I wH3699
                have m3734 := m3734.symm
                exact x_vret C hQ dX8_copyFrom_241 hSH3699 (by decide) (by decide) (⟨x3347, n4, n5, n10, n13, n16, rfl, m3704, m3714, m3715, m3724, m3729, m3734, by omega, m3706, CB.fin f3703 f3700 f3701 f3702 gO, hTH3699⟩)
              · have k3355 := i_nle c3354
                refine lv_aload_n hx hb dX8_copyFrom_74 rfl (lv_at hl3345 0 rfl) ?_
                refine x_gr C hTH3343 (ci := 8) (k := 3) rfl inX8 (by decide) wF_X8_23 ga0 rg_34 rfl dX8_copyFrom_75 (fun q3735 eq3735 gq3735 => ?_)
                refine lv_iload_n hx hb dX8_copyFrom_78 rfl (lv_at hl3345 2 rfl) ?_
                refine x_ar C hTH3343 rfl rfl gq3735 rg_61 ⟨by omega, by show _ < ((4 : Nat) : Int); omega⟩ dX8_copyFrom_79 (fun q3736 eq3736 gq3736 => ?_)
                refine lv_aload_n hx hb dX8_copyFrom_80 rfl (lv_at hl3345 1 rfl) ?_
                refine x_gr C hTH3343 (ci := 8) (k := 3) rfl inX8 (by decide) wF_X8_23 ga1 rg_0 rfl dX8_copyFrom_81 (fun q3737 eq3737 gq3737 => ?_)
                refine lv_iload_n hx hb dX8_copyFrom_84 rfl (lv_at hl3345 2 rfl) ?_
                refine x_ar C hTH3343 rfl rfl gq3737 rg_27 ⟨by omega, by show _ < ((4 : Nat) : Int); omega⟩ dX8_copyFrom_85 (fun q3738 eq3738 gq3738 => ?_)
                refine x_V (As := [.ref q3738]) (rest := []) C (a_X7_copyFrom_k_n l K G H3343  hTH3343 gq3736 gq3738) yo_X7_copyFrom wM_X8_64 ⟨⟨by decide, by decide⟩, by decide, by decide⟩ (x_rv C hTH3343 (ci := 7) rfl gq3736 rg_50) rfl hl3345.1 rfl (Nat.le_of_ble_eq_true rfl) dX8_copyFrom_86 hSH3343 (AE_sub (fun _ _ => rfl) (by decide) hSH3343.1) (fun vH3739 H3739 locsH3739 pH3739 zH3739 kH3739 hSH3739 => ?_)
                obtain ⟨hvH3739, hTH3739⟩ := pH3739
                subst hvH3739
                have f3740 : ∀ j : Nat, fR H3739 bq j = fR s.heap bq j := fun j => (fR_kept (x_lt hTH3343 kH3739 gbq (by decide))).trans (fy3353_rb j)
                have f3741 : ∀ j : Nat, fR H3739 oq j = fR s.heap oq j := fun j => (fR_kept (x_lt hTH3343 kH3739 goq (by decide))).trans (fy3353_ro j)
                have f3742 : ∀ q : Nat, G q = some 1 → fI H3739 q (K.1.2 0 14) = fI s.heap q (K.1.2 0 14) := fun q hq => (fI_kept (x_lt hTH3343 kH3739 hq (by decide))).trans (fy3353_so q hq)
                have f3743 : ∀ j : Nat, j < 10 → j < n1.toNatClampNeg → fI H3739 (fR s.heap bq j) (K.1.2 0 14) = fI s.heap (fR s.heap oq j) (K.1.2 0 14) := fun j h10 hj => (fI_kept (x_lt hTH3343 kH3739 (gB j h10) (by decide))).trans (fy3353_cb j h10 hj)
                have m3744 := (ex3347).trans (fI_kept (x_lt hTH3343 kH3739 ga0 (by decide))).symm
                have m3745 := (ex3348).trans (fI_kept (x_lt hTH3343 kH3739 ga0 (by decide))).symm
                have m3746 := (ex3349).trans (fI_kept (x_lt hTH3343 kH3739 ga0 (by decide))).symm
                have m3747 := (ex3350).trans (fI_kept (x_lt hTH3343 kH3739 ga0 (by decide))).symm
                have m3748 := (ex3351).trans (fI_kept (x_lt hTH3343 kH3739 ga0 (by decide))).symm
                have m3749 := (ex3352).trans (fI_kept (x_lt hTH3343 kH3739 ga0 (by decide))).symm
                have m3750 := (cy3353_0).trans (fR_kept (x_lt hTH3343 kH3739 ga0 (by decide))).symm
                have m3751 := (cy3353_1).trans (fR_kept (x_lt hTH3343 kH3739 ga1 (by decide))).symm
                have m3752 := (cy3353_2).trans (fI_kept (x_lt hTH3343 kH3739 ga1 (by decide))).symm
                have m3753 := (cy3353_3).trans (fI_kept (x_lt hTH3343 kH3739 ga1 (by decide))).symm
                have m3754 := (cy3353_4).trans (fI_kept (x_lt hTH3343 kH3739 ga1 (by decide))).symm
                have m3755 := (cy3353_5).trans (fI_kept (x_lt hTH3343 kH3739 ga1 (by decide))).symm
                have m3756 := (cy3353_6).trans (fI_kept (x_lt hTH3343 kH3739 ga1 (by decide))).symm
                have m3757 := (cy3353_7).trans (fI_kept (x_lt hTH3343 kH3739 ga1 (by decide))).symm
                have m3758 := (eq3735).trans (fR_kept (x_lt hTH3343 kH3739 ga0 (by decide))).symm
                have m3759 := (eq3737).trans (fR_kept (x_lt hTH3343 kH3739 ga1 (by decide))).symm
                refine W.eq (g2 := F0 m 89 ls3344 []) rfl ?_
                obtain ⟨x3760, ex3760⟩ : ∃ y : Int32, y = x3346 + 1 := ⟨_, rfl⟩
                have tx3760 := i_add ex3760 (by omega)
                refine lv_iinc (v := x3760) (lv' := [(2, .int x3760), (0, .ref a0), (1, .ref a1)]) hx hb dX8_copyFrom_89 hl3345 (k := 2) rfl (by rw [ex3760]; rfl) (by decide) rfl (fun ls3761 hl3762 => ?_)
                refine lv_goto (tgt := 69) hx hb dX8_copyFrom_92 (by decide) ?_
                have cl_n1 := i_cl (x := n1) (by omega)
                have cl00 : (0 : Int32).toNatClampNeg = 0 := rfl
                exact ih69 ls3761 H3739 locsH3739 (x3760) (x3347) (x3348) (x3349) (x3350) (x3351) (x3352) (lv_sub hl3762 [1, 2, 0] rfl) hTH3739 hSH3739 (by have := i_rng x3760; omega) (by have := i_rng x3347; omega) (by have := i_rng x3348; omega) (by have := i_rng x3350; omega) (by have := i_rng x3351; omega) (by have := i_rng x3352; omega) m3744 m3745 m3746 m3747 m3748 m3749 m3750 m3751 m3752 m3753 m3754 m3755 m3756 m3757 f3740 f3741 f3742 (CB.to f3743 (by omega)) (by omega) (by omega)
          refine lv_iload_n hx hb dX8_copyFrom_41 rfl (lv_at hl3334 2 rfl) ?_
          refine lv_iconst (v := 2) hx hb dX8_copyFrom_42 (by decide) ?_
          refine lv_icmp_ge (tgt := 67) hx hb dX8_copyFrom_43 (by decide) (fun c3763 => ?_) (fun c3763 => ?_)
          · have k3764 := i_le c3763
            refine lv_iconst (v := 0) hx hb dX8_copyFrom_67 (by decide) ?_
            refine lv_istore_n (lv' := [(2, .int 0), (0, .ref a0), (1, .ref a1)]) hx hb dX8_copyFrom_68 rfl hl3334 (by decide) rfl (fun ls3765 hl3766 => ?_)
            have cl_n1 := i_cl (x := n1) (by omega)
            have cl00 : (0 : Int32).toNatClampNeg = 0 := rfl
            exact J69 ((4 - (0 : Int32).toInt).toNat + 1) ls3765 H3332 locsH3332 (0) (x3336) (x3337) (x3338) (x3339) (x3340) (x3341) (lv_sub hl3766 [1, 2, 0] rfl) hTH3332 hSH3332 (by decide) (by have := i_rng x3336; omega) (by have := i_rng x3337; omega) (by have := i_rng x3339; omega) (by have := i_rng x3340; omega) (by have := i_rng x3341; omega) ex3336 ex3337 ex3338 ex3339 ex3340 ex3341 cy3342_0 cy3342_1 cy3342_2 cy3342_3 cy3342_4 cy3342_5 cy3342_6 cy3342_7 fy3342_rb fy3342_ro fy3342_so (CB.to fy3342_cb (by omega)) (by omega) (by omega)
          · have k3764 := i_nle c3763
            refine lv_aload_n hx hb dX8_copyFrom_46 rfl (lv_at hl3334 0 rfl) ?_
            refine x_gr C hTH3332 (ci := 8) (k := 2) rfl inX8 (by decide) wF_X8_19 ga0 rg_34 rfl dX8_copyFrom_47 (fun q3767 eq3767 gq3767 => ?_)
            refine lv_iload_n hx hb dX8_copyFrom_50 rfl (lv_at hl3334 2 rfl) ?_
            refine x_ar C hTH3332 rfl rfl gq3767 rg_60 ⟨by omega, by show _ < ((2 : Nat) : Int); omega⟩ dX8_copyFrom_51 (fun q3768 eq3768 gq3768 => ?_)
            refine lv_aload_n hx hb dX8_copyFrom_52 rfl (lv_at hl3334 1 rfl) ?_
            refine x_gr C hTH3332 (ci := 8) (k := 2) rfl inX8 (by decide) wF_X8_19 ga1 rg_0 rfl dX8_copyFrom_53 (fun q3769 eq3769 gq3769 => ?_)
            refine lv_iload_n hx hb dX8_copyFrom_56 rfl (lv_at hl3334 2 rfl) ?_
            refine x_ar C hTH3332 rfl rfl gq3769 rg_26 ⟨by omega, by show _ < ((2 : Nat) : Int); omega⟩ dX8_copyFrom_57 (fun q3770 eq3770 gq3770 => ?_)
            refine x_V (As := [.ref q3770]) (rest := []) C (a_X7_copyFrom_k_n l K G H3332  hTH3332 gq3768 gq3770) yo_X7_copyFrom wM_X8_64 ⟨⟨by decide, by decide⟩, by decide, by decide⟩ (x_rv C hTH3332 (ci := 7) rfl gq3768 rg_50) rfl hl3334.1 rfl (Nat.le_of_ble_eq_true rfl) dX8_copyFrom_58 hSH3332 (AE_sub (fun _ _ => rfl) (by decide) hSH3332.1) (fun vH3771 H3771 locsH3771 pH3771 zH3771 kH3771 hSH3771 => ?_)
            obtain ⟨hvH3771, hTH3771⟩ := pH3771
            subst hvH3771
            have f3772 : ∀ j : Nat, fR H3771 bq j = fR s.heap bq j := fun j => (fR_kept (x_lt hTH3332 kH3771 gbq (by decide))).trans (fy3342_rb j)
            have f3773 : ∀ j : Nat, fR H3771 oq j = fR s.heap oq j := fun j => (fR_kept (x_lt hTH3332 kH3771 goq (by decide))).trans (fy3342_ro j)
            have f3774 : ∀ q : Nat, G q = some 1 → fI H3771 q (K.1.2 0 14) = fI s.heap q (K.1.2 0 14) := fun q hq => (fI_kept (x_lt hTH3332 kH3771 hq (by decide))).trans (fy3342_so q hq)
            have f3775 : ∀ j : Nat, j < 10 → j < n1.toNatClampNeg → fI H3771 (fR s.heap bq j) (K.1.2 0 14) = fI s.heap (fR s.heap oq j) (K.1.2 0 14) := fun j h10 hj => (fI_kept (x_lt hTH3332 kH3771 (gB j h10) (by decide))).trans (fy3342_cb j h10 hj)
            have m3776 := (ex3336).trans (fI_kept (x_lt hTH3332 kH3771 ga0 (by decide))).symm
            have m3777 := (ex3337).trans (fI_kept (x_lt hTH3332 kH3771 ga0 (by decide))).symm
            have m3778 := (ex3338).trans (fI_kept (x_lt hTH3332 kH3771 ga0 (by decide))).symm
            have m3779 := (ex3339).trans (fI_kept (x_lt hTH3332 kH3771 ga0 (by decide))).symm
            have m3780 := (ex3340).trans (fI_kept (x_lt hTH3332 kH3771 ga0 (by decide))).symm
            have m3781 := (ex3341).trans (fI_kept (x_lt hTH3332 kH3771 ga0 (by decide))).symm
            have m3782 := (cy3342_0).trans (fR_kept (x_lt hTH3332 kH3771 ga0 (by decide))).symm
            have m3783 := (cy3342_1).trans (fR_kept (x_lt hTH3332 kH3771 ga1 (by decide))).symm
            have m3784 := (cy3342_2).trans (fI_kept (x_lt hTH3332 kH3771 ga1 (by decide))).symm
            have m3785 := (cy3342_3).trans (fI_kept (x_lt hTH3332 kH3771 ga1 (by decide))).symm
            have m3786 := (cy3342_4).trans (fI_kept (x_lt hTH3332 kH3771 ga1 (by decide))).symm
            have m3787 := (cy3342_5).trans (fI_kept (x_lt hTH3332 kH3771 ga1 (by decide))).symm
            have m3788 := (cy3342_6).trans (fI_kept (x_lt hTH3332 kH3771 ga1 (by decide))).symm
            have m3789 := (cy3342_7).trans (fI_kept (x_lt hTH3332 kH3771 ga1 (by decide))).symm
            have m3790 := (eq3767).trans (fR_kept (x_lt hTH3332 kH3771 ga0 (by decide))).symm
            have m3791 := (eq3769).trans (fR_kept (x_lt hTH3332 kH3771 ga1 (by decide))).symm
            refine W.eq (g2 := F0 m 61 ls3333 []) rfl ?_
            obtain ⟨x3792, ex3792⟩ : ∃ y : Int32, y = x3335 + 1 := ⟨_, rfl⟩
            have tx3792 := i_add ex3792 (by omega)
            refine lv_iinc (v := x3792) (lv' := [(2, .int x3792), (0, .ref a0), (1, .ref a1)]) hx hb dX8_copyFrom_61 hl3334 (k := 2) rfl (by rw [ex3792]; rfl) (by decide) rfl (fun ls3793 hl3794 => ?_)
            refine lv_goto (tgt := 41) hx hb dX8_copyFrom_64 (by decide) ?_
            have cl_n1 := i_cl (x := n1) (by omega)
            have cl00 : (0 : Int32).toNatClampNeg = 0 := rfl
            exact ih41 ls3793 H3771 locsH3771 (x3792) (x3336) (x3337) (x3338) (x3339) (x3340) (x3341) (lv_sub hl3794 [1, 2, 0] rfl) hTH3771 hSH3771 (by have := i_rng x3792; omega) (by have := i_rng x3336; omega) (by have := i_rng x3337; omega) (by have := i_rng x3339; omega) (by have := i_rng x3340; omega) (by have := i_rng x3341; omega) m3776 m3777 m3778 m3779 m3780 m3781 m3782 m3783 m3784 m3785 m3786 m3787 m3788 m3789 f3772 f3773 f3774 (CB.to f3775 (by omega)) (by omega) (by omega)
      refine lv_iload_n hx hb dX8_copyFrom_2 rfl (lv_at hl3323 2 rfl) ?_
      refine lv_aload_n hx hb dX8_copyFrom_3 rfl (lv_at hl3323 1 rfl) ?_
      refine x_gi C hTH3321 (ci := 8) (k := 1) rfl inX8 (by decide) wF_X8_57 ga1 rg_0 rfl dX8_copyFrom_4 (fun x3795 ex3795 bx3795 => ?_)
      have ux3795 : n1 = x3795 := (cy3331_2).trans ex3795.symm
      subst ux3795
      refine lv_icmp_ge (tgt := 31) hx hb dX8_copyFrom_7 (by decide) (fun c3796 => ?_) (fun c3796 => ?_)
      · have k3797 := i_le c3796
        refine lv_aload_n hx hb dX8_copyFrom_31 rfl (lv_at hl3323 0 rfl) ?_
        refine lv_aload_n hx hb dX8_copyFrom_32 rfl (lv_at hl3323 1 rfl) ?_
        refine x_gi C hTH3321 (ci := 8) (k := 1) rfl inX8 (by decide) wF_X8_57 ga1 rg_0 rfl dX8_copyFrom_33 (fun x3798 ex3798 bx3798 => ?_)
        have ux3798 : n1 = x3798 := (cy3331_2).trans ex3798.symm
        subst ux3798
        refine x_put C hTH3321 hSH3321 (ci := 8) (k := 1) (v := .int n1) (ty0 := tyX8) rfl inX8 tyX8_ok nmX8 (by decide) rfl wF_X8_57 ga0 rg_34 rfl rfl (okI (by have := i_rng n1; omega) (by have := i_rng n1; omega)) rfl rfl (AE_in ga0 (by decide)) dX8_copyFrom_36 (fun H3799 locsH3799 hTH3799 hSH3799 wH3799 => ?_)
        have f3800 : ∀ j : Nat, fR H3799 bq j = fR s.heap bq j := fun j => (Wr.neR wH3799 (Or.inl (G_ne gbq ga0 (by decide)))).trans (fy3331_rb j)
        have f3801 : ∀ j : Nat, fR H3799 oq j = fR s.heap oq j := fun j => (Wr.neR wH3799 (Or.inl (G_ne goq ga0 (by decide)))).trans (fy3331_ro j)
        have f3802 : ∀ q : Nat, G q = some 1 → fI H3799 q (K.1.2 0 14) = fI s.heap q (K.1.2 0 14) := fun q hq => (Wr.neI wH3799 (Or.inl (G_ne hq ga0 (by decide)))).trans (fy3331_so q hq)
        have f3803 : ∀ j : Nat, j < 10 → j < x3324.toNatClampNeg → fI H3799 (fR s.heap bq j) (K.1.2 0 14) = fI s.heap (fR s.heap oq j) (K.1.2 0 14) := fun j h10 hj => (Wr.neI wH3799 (Or.inl (G_ne (gB j h10) ga0 (by decide)))).trans (fy3331_cb j h10 hj)
        have m3805 := ex3326.trans (Wr.neI wH3799 (Or.inr (x_apart hKT hts inX8 tyX8 tyX8_ok nmX8 rfl 4 1 (by decide) (by decide) (by decide)))).symm
        have m3806 := ex3327.trans (Wr.neI wH3799 (Or.inr (x_apart hKT hts inX8 tyX8 tyX8_ok nmX8 rfl 5 1 (by decide) (by decide) (by decide)))).symm
        have m3807 := ex3328.trans (Wr.neI wH3799 (Or.inr (x_apart hKT hts inX8 tyX8 tyX8_ok nmX8 rfl 10 1 (by decide) (by decide) (by decide)))).symm
        have m3808 := ex3329.trans (Wr.neI wH3799 (Or.inr (x_apart hKT hts inX8 tyX8 tyX8_ok nmX8 rfl 13 1 (by decide) (by decide) (by decide)))).symm
        have m3809 := ex3330.trans (Wr.neI wH3799 (Or.inr (x_apart hKT hts inX8 tyX8 tyX8_ok nmX8 rfl 16 1 (by decide) (by decide) (by decide)))).symm
        have m3810 := cy3331_0.trans (Wr.neR wH3799 (Or.inr (x_apart hKT hts inX8 tyX8 tyX8_ok nmX8 rfl 0 1 (by decide) (by decide) (by decide)))).symm
        have m3811 := cy3331_1.trans (Wr.neR wH3799 (Or.inl (G_ne ga1 ga0 (by decide)))).symm
        have m3812 := cy3331_2.trans (Wr.neI wH3799 (Or.inl (G_ne ga1 ga0 (by decide)))).symm
        have m3813 := cy3331_3.trans (Wr.neI wH3799 (Or.inl (G_ne ga1 ga0 (by decide)))).symm
        have m3814 := cy3331_4.trans (Wr.neI wH3799 (Or.inl (G_ne ga1 ga0 (by decide)))).symm
        have m3815 := cy3331_5.trans (Wr.neI wH3799 (Or.inl (G_ne ga1 ga0 (by decide)))).symm
        have m3816 := cy3331_6.trans (Wr.neI wH3799 (Or.inl (G_ne ga1 ga0 (by decide)))).symm
        have m3817 := cy3331_7.trans (Wr.neI wH3799 (Or.inl (G_ne ga1 ga0 (by decide)))).symm
        have m3818 := Wr.I wH3799
        have m3818 := m3818.symm
        refine lv_iconst (v := 0) hx hb dX8_copyFrom_39 (by decide) ?_
        refine lv_istore_n (lv' := [(2, .int 0), (0, .ref a0), (1, .ref a1)]) hx hb dX8_copyFrom_40 rfl hl3323 (by decide) rfl (fun ls3819 hl3820 => ?_)
        have cl_n1 := i_cl (x := n1) (by omega)
        have cl_x3324 := i_cl (x := x3324) (by omega)
        have cl00 : (0 : Int32).toNatClampNeg = 0 := rfl
        exact J41 ((2 - (0 : Int32).toInt).toNat + 1) ls3819 H3799 locsH3799 (0) (n1) (x3326) (x3327) (x3328) (x3329) (x3330) (lv_sub hl3820 [1, 2, 0] rfl) hTH3799 hSH3799 (by decide) (by have := i_rng n1; omega) (by have := i_rng x3326; omega) (by have := i_rng x3328; omega) (by have := i_rng x3329; omega) (by have := i_rng x3330; omega) m3818 m3805 m3806 m3807 m3808 m3809 m3810 m3811 m3812 m3813 m3814 m3815 m3816 m3817 f3800 f3801 f3802 (CB.to f3803 (by omega)) (by omega) (by omega)
      · have k3797 := i_nle c3796
        refine lv_aload_n hx hb dX8_copyFrom_10 rfl (lv_at hl3323 0 rfl) ?_
        refine x_gr C hTH3321 (ci := 8) (k := 0) rfl inX8 (by decide) wF_X8_11 ga0 rg_34 rfl dX8_copyFrom_11 (fun q3821 eq3821 gq3821 => ?_)
        have uq3821 : bq = q3821 := (cy3331_0).trans eq3821.symm
        subst uq3821
        refine lv_iload_n hx hb dX8_copyFrom_14 rfl (lv_at hl3323 2 rfl) ?_
        refine x_ar C hTH3321 rfl rfl gbq rg_59 ⟨by omega, by show _ < ((10 : Nat) : Int); omega⟩ dX8_copyFrom_15 (fun q3822 eq3822 gq3822 => ?_)
        have Eq3822 : q3822 = fR s.heap bq x3324.toNatClampNeg := eq3822.trans (fy3331_rb _)
        refine lv_aload_n hx hb dX8_copyFrom_16 rfl (lv_at hl3323 1 rfl) ?_
        refine x_gr C hTH3321 (ci := 8) (k := 0) rfl inX8 (by decide) wF_X8_11 ga1 rg_0 rfl dX8_copyFrom_17 (fun q3823 eq3823 gq3823 => ?_)
        have uq3823 : oq = q3823 := (cy3331_1).trans eq3823.symm
        subst uq3823
        refine lv_iload_n hx hb dX8_copyFrom_20 rfl (lv_at hl3323 2 rfl) ?_
        refine x_ar C hTH3321 rfl rfl goq rg_25 ⟨by omega, by show _ < ((10 : Nat) : Int); omega⟩ dX8_copyFrom_21 (fun q3824 eq3824 gq3824 => ?_)
        have Eq3824 : q3824 = fR s.heap oq x3324.toNatClampNeg := eq3824.trans (fy3331_ro _)
        obtain ⟨x3825, ex3825⟩ : ∃ z : Int32, z = fI H3321 q3822 (K.1.2 0 14) := ⟨_, rfl⟩
        have bx3825 := ty_fi (x := x3825) (k := 14) ex3825 hTH3321 gq3822 rg_35 rfl
        obtain ⟨x3826, ex3826⟩ : ∃ z : Int32, z = fI H3321 q3824 (K.1.2 0 14) := ⟨_, rfl⟩
        have bx3826 := ty_fi (x := x3826) (k := 14) ex3826 hTH3321 gq3824 rg_1 rfl
        refine x_V (As := [.ref q3824]) (rest := []) C (a_X0_copyFrom_bk l K G H3321 (x3825) (x3826) hTH3321 gq3822 gq3824 ex3825 ex3826) yo_X0_copyFrom wM_X8_60 ⟨⟨by decide, by decide⟩, by decide, by decide⟩ (x_rv C hTH3321 (ci := 0) rfl gq3822 rg_35) rfl hl3323.1 rfl (Nat.le_of_ble_eq_true rfl) dX8_copyFrom_22 hSH3321 (AE_sub (fun _ _ => rfl) (by decide) hSH3321.1) (fun vH3827 H3827 locsH3827 pH3827 zH3827 kH3827 hSH3827 => ?_)
        obtain ⟨x3828, hvH3827, ex3828, hrH3827, m3829, hTH3827⟩ := pH3827
        subst hvH3827
        have f3830 : ∀ j : Nat, fR H3827 bq j = fR s.heap bq j := fun j => (fR_kept (x_lt hTH3321 kH3827 gbq (by decide))).trans (fy3331_rb j)
        have f3831 : ∀ j : Nat, fR H3827 oq j = fR s.heap oq j := fun j => (fR_kept (x_lt hTH3321 kH3827 goq (by decide))).trans (fy3331_ro j)
        have f3832 : ∀ q : Nat, G q = some 1 → fI H3827 q (K.1.2 0 14) = fI s.heap q (K.1.2 0 14) := fun q hq => (fI_kept (x_lt hTH3321 kH3827 hq (by decide))).trans (fy3331_so q hq)
        have m3833 := (ex3325).trans (fI_kept (x_lt hTH3321 kH3827 ga0 (by decide))).symm
        have m3834 := (ex3326).trans (fI_kept (x_lt hTH3321 kH3827 ga0 (by decide))).symm
        have m3835 := (ex3327).trans (fI_kept (x_lt hTH3321 kH3827 ga0 (by decide))).symm
        have m3836 := (ex3328).trans (fI_kept (x_lt hTH3321 kH3827 ga0 (by decide))).symm
        have m3837 := (ex3329).trans (fI_kept (x_lt hTH3321 kH3827 ga0 (by decide))).symm
        have m3838 := (ex3330).trans (fI_kept (x_lt hTH3321 kH3827 ga0 (by decide))).symm
        have m3839 := (cy3331_0).trans (fR_kept (x_lt hTH3321 kH3827 ga0 (by decide))).symm
        have m3840 := (cy3331_1).trans (fR_kept (x_lt hTH3321 kH3827 ga1 (by decide))).symm
        have m3841 := (cy3331_2).trans (fI_kept (x_lt hTH3321 kH3827 ga1 (by decide))).symm
        have m3842 := (cy3331_3).trans (fI_kept (x_lt hTH3321 kH3827 ga1 (by decide))).symm
        have m3843 := (cy3331_4).trans (fI_kept (x_lt hTH3321 kH3827 ga1 (by decide))).symm
        have m3844 := (cy3331_5).trans (fI_kept (x_lt hTH3321 kH3827 ga1 (by decide))).symm
        have m3845 := (cy3331_6).trans (fI_kept (x_lt hTH3321 kH3827 ga1 (by decide))).symm
        have m3846 := (cy3331_7).trans (fI_kept (x_lt hTH3321 kH3827 ga1 (by decide))).symm
        have m3847 := (ex3826).trans (fI_kept (x_lt hTH3321 kH3827 gq3824 (by decide))).symm
        have bx3828 := ty_fi (x := x3828) (k := 14) ex3828 hTH3827 gq3822 rg_35 rfl
        have cl_x3324 := i_cl (x := x3324) (by omega)
        have f3848 : ∀ j : Nat, j < 10 → j < x3324.toNatClampNeg + 1 → fI H3827 (fR s.heap bq j) (K.1.2 0 14) = fI s.heap (fR s.heap oq j) (K.1.2 0 14) := CB.step hdb gB (by omega) fy3331_cb m3829 Eq3822 Eq3824 ex3828 ex3826 (fy3331_so _ gq3824) hrH3827
        refine W.eq (g2 := F0 m 25 ls3322 []) rfl ?_
        obtain ⟨x3849, ex3849⟩ : ∃ y : Int32, y = x3324 + 1 := ⟨_, rfl⟩
        have tx3849 := i_add ex3849 (by omega)
        refine lv_iinc (v := x3849) (lv' := [(2, .int x3849), (0, .ref a0), (1, .ref a1)]) hx hb dX8_copyFrom_25 hl3323 (k := 2) rfl (by rw [ex3849]; rfl) (by decide) rfl (fun ls3850 hl3851 => ?_)
        refine lv_goto (tgt := 2) hx hb dX8_copyFrom_28 (by decide) ?_
        have cl_x3324 := i_cl (x := x3324) (by omega)
        have cl_x3849 := i_cl (x := x3849) (by omega)
        have cl00 : (0 : Int32).toNatClampNeg = 0 := rfl
        exact ih2 ls3850 H3827 locsH3827 (x3849) (x3325) (x3326) (x3327) (x3328) (x3329) (x3330) (lv_sub hl3851 [1, 2, 0] rfl) hTH3827 hSH3827 (by have := i_rng x3849; omega) (by have := i_rng x3325; omega) (by have := i_rng x3326; omega) (by have := i_rng x3328; omega) (by have := i_rng x3329; omega) (by have := i_rng x3330; omega) m3833 m3834 m3835 m3836 m3837 m3838 m3839 m3840 m3841 m3842 m3843 m3844 m3845 m3846 f3830 f3831 f3832 (CB.to f3848 (by omega)) (by omega)
  refine lv_iconst (v := 0) hx hb dX8_copyFrom_0 (by decide) ?_
  refine lv_istore_n (lv' := [(2, .int 0), (0, .ref a0), (1, .ref a1)]) hx hb dX8_copyFrom_1 rfl hl (by decide) rfl (fun ls3852 hl3853 => ?_)
  have cl00 : (0 : Int32).toNatClampNeg = 0 := rfl
  exact J2 ((10 - (0 : Int32).toInt).toNat + 1) ls3852 s.heap [] (0) (k1) (k4) (k5) (k10) (k13) (k16) (lv_sub hl3853 [1, 2, 0] rfl) hT hS (by decide) (by have := i_rng k1; omega) (by have := i_rng k4; omega) (by have := i_rng k10; omega) (by have := i_rng k13; omega) (by have := i_rng k16; omega) ek1 ek4 ek5 ek10 ek13 ek16 ebq eoq en1 en4 en5 en10 en13 en16 f0_rb f0_ro f0_so (CB.to f0_cb (by omega)) (by omega)

set_option maxHeartbeats 4000000 in
set_option maxRecDepth 100000 in
theorem a_X0_copyFrom_bn (l : Launch) (K : KE) (G : Nat → Option Nat) (H : Heap) {a0 : Nat} {a1 : Nat} (bk : Int32) (ok : Int32) (hT : TY K G H) (ga0 : G a0 = some 1) (ga1 : G a1 = some 35) (ebk : bk = fI H a0 (K.1.2 0 14)) (eok : ok = fI H a1 (K.1.2 0 14)) : MX l K yX0_copyFrom cX0_copyFrom 3 none 1 40 0 0 [.ref a0, .ref a1] H (AE G [1, 2, 3, 4, 5, 6, 7, 8, 9, 10, 12, 14, 15] H.size) (fun v H1 => ∃ (t0 : Int32), v = none ∧ t0 = fI H1 a0 (K.1.2 0 14) ∧ (t0.toInt = ok.toInt) ∧ (∀ q : Nat, G q = some 1 → q ≠ a0 → fI H1 q (K.1.2 0 14) = fI H q (K.1.2 0 14)) ∧ TY K G H1) := by
  refine MX.of (by decide +kernel) (Nat.le_of_ble_eq_true rfl) ?_
  intro p e s m below meth c ls Q C hH hl hQ
  subst hH
  have C : CX p K s m _ meth c RX0 cX0_copyFrom 3 none "copyFrom" := C
  obtain ⟨hx, hb, hml, hown, hts, hKT, hr, hlocks, hnm⟩ := id C
  have hl : lv_has ls 3 [(0, .ref a0), (1, .ref a1)] := hl
  have hS : va_S (AE G [1, 2, 3, 4, 5, 6, 7, 8, 9, 10, 12, 14, 15] s.heap.size) s.heap s.heap [] := va_S.rf
  have n_0 : (0 : Int32).toInt = 0 := rfl
  have n_1 : (1 : Int32).toInt = 1 := rfl
  have n_2 : (2 : Int32).toInt = 2 := rfl
  have n_3 : (3 : Int32).toInt = 3 := rfl
  have n_12 : (12 : Int32).toInt = 12 := rfl
  have n_16 : (16 : Int32).toInt = 16 := rfl
  have n_200 : (200 : Int32).toInt = 200 := rfl
  have bbk := ty_fi (x := bk) (k := 14) ebk hT ga0 rg_1 rfl
  have bok := ty_fi (x := ok) (k := 14) eok hT ga1 rg_35 rfl
  have f0_rf : ∀ q : Nat, G q = some 1 → q ≠ a0 → fI s.heap q (K.1.2 0 14) = fI s.heap q (K.1.2 0 14) := fun _ _ _ => rfl
  have J162 : ∀ (nf : Nat) (ls1552 : Array Slot) (H1551 : Heap) (locsH1551 : List Loc) (x1554 : Int32) (x1555 : Int32), lv_has ls1552 3 [(0, .ref a0), (1, .ref a1), (2, .int x1554)] → TY K G H1551 → va_S (AE G [1, 2, 3, 4, 5, 6, 7, 8, 9, 10, 12, 14, 15] s.heap.size) s.heap H1551 locsH1551 → (0 ≤ x1554.toInt ∧ x1554.toInt ≤ 12) → (0 ≤ x1555.toInt ∧ x1555.toInt ≤ 12) → (x1555 = fI H1551 a0 (K.1.2 0 14)) → (ok = fI H1551 a1 (K.1.2 0 14)) → (∀ q : Nat, G q = some 1 → q ≠ a0 → fI H1551 q (K.1.2 0 14) = fI s.heap q (K.1.2 0 14)) → (12 - x1554.toInt < (nf : Int)) → W p l e ({ frames := 1, cells := 0, slots := 0, locals := 40 } : Room) s m (([.ref a0, .ref a1] : List Value).toArray) below meth c H1551 locsH1551 0 0 Q (F0 m 162 ls1552 []) := by
    intro nf
    induction nf with
    | zero =>
      intro ls1552 H1551 locsH1551 x1554 x1555 hl1553 hTH1551 hSH1551 bx1554 bx1555 ex1555 cy1556_0 fy1556_rf hm162
      exfalso
      omega
    | succ nf ih162 =>
      intro ls1552 H1551 locsH1551 x1554 x1555 hl1553 hTH1551 hSH1551 bx1554 bx1555 ex1555 cy1556_0 fy1556_rf hm162
      refine lv_iload_n hx hb dX0_copyFrom_162 rfl (lv_at hl1553 2 rfl) ?_
      refine lv_bipush (v := 12) hx hb dX0_copyFrom_163 (by decide) ?_
      refine lv_icmp_ge (tgt := 212) hx hb dX0_copyFrom_165 (by decide) (fun c1557 => ?_) (fun c1557 => ?_)
      · have k1558 := i_le c1557
        refine lv_aload_n hx hb dX0_copyFrom_212 rfl (lv_at hl1553 0 rfl) ?_
        refine lv_aload_n hx hb dX0_copyFrom_213 rfl (lv_at hl1553 1 rfl) ?_
        refine x_gi C hTH1551 (ci := 0) (k := 14) rfl inX0 (by decide) wF_X0_66 ga1 rg_35 rfl dX0_copyFrom_214 (fun x1559 ex1559 bx1559 => ?_)
        have ux1559 : ok = x1559 := (cy1556_0).trans ex1559.symm
        subst ux1559
        refine x_put C hTH1551 hSH1551 (ci := 0) (k := 14) (v := .int ok) (ty0 := tyX0) rfl inX0 tyX0_ok nmX0 (by decide) rfl wF_X0_66 ga0 rg_1 rfl rfl (okI (by have := i_rng ok; omega) (by have := i_rng ok; omega)) rfl rfl (AE_in ga0 (by decide)) dX0_copyFrom_217 (fun H1560 locsH1560 hTH1560 hSH1560 wH1560 => ?_)
        have f1561 : ∀ q : Nat, G q = some 1 → q ≠ a0 → fI H1560 q (K.1.2 0 14) = fI s.heap q (K.1.2 0 14) := fun q hq hn => (Wr.neI wH1560 (Or.inl hn)).trans (fy1556_rf q hq hn)
        have m1563 := cy1556_0.trans (Wr.neI wH1560 (Or.inl (G_ne ga1 ga0 (by decide)))).symm
        have m1564 := Wr.I wH1560
        have m1564 := m1564.symm
        refine lv_aload_n hx hb dX0_copyFrom_220 rfl (lv_at hl1553 0 rfl) ?_
        refine lv_aload_n hx hb dX0_copyFrom_221 rfl (lv_at hl1553 1 rfl) ?_
        refine x_gi C hTH1560 (ci := 0) (k := 15) rfl inX0 (by decide) wF_X0_69 ga1 rg_35 rfl dX0_copyFrom_222 (fun x1565 ex1565 bx1565 => ?_)
        refine x_put C hTH1560 hSH1560 (ci := 0) (k := 15) (v := .int x1565) (ty0 := tyX0) rfl inX0 tyX0_ok nmX0 (by decide) rfl wF_X0_69 ga0 rg_1 rfl rfl (okI (by have := i_rng x1565; omega) (by have := i_rng x1565; omega)) rfl rfl (AE_in ga0 (by decide)) dX0_copyFrom_225 (fun H1566 locsH1566 hTH1566 hSH1566 wH1566 => ?_)
        have f1567 : ∀ q : Nat, G q = some 1 → q ≠ a0 → fI H1566 q (K.1.2 0 14) = fI s.heap q (K.1.2 0 14) := fun q hq hn => (Wr.neI wH1566 (Or.inr (x_apart hKT hts inX0 tyX0 tyX0_ok nmX0 rfl 14 15 (by decide) (by decide) (by decide)))).trans (f1561 q hq hn)
        have m1568 := m1563.trans (Wr.neI wH1566 (Or.inl (G_ne ga1 ga0 (by decide)))).symm
        have m1569 := m1564.trans (Wr.neI wH1566 (Or.inr (x_apart hKT hts inX0 tyX0 tyX0_ok nmX0 rfl 14 15 (by decide) (by decide) (by decide)))).symm
        have m1570 := ex1565.trans (Wr.neI wH1566 (Or.inl (G_ne ga1 ga0 (by decide)))).symm
        have m1571 := Wr.I wH1566
        have m1571 := m1571.symm
        refine lv_aload_n hx hb dX0_copyFrom_228 rfl (lv_at hl1553 0 rfl) ?_
        refine lv_aload_n hx hb dX0_copyFrom_229 rfl (lv_at hl1553 1 rfl) ?_
        refine x_gi C hTH1566 (ci := 0) (k := 16) rfl inX0 (by decide) wF_X0_72 ga1 rg_35 rfl dX0_copyFrom_230 (fun x1572 ex1572 bx1572 => ?_)
        refine x_put C hTH1566 hSH1566 (ci := 0) (k := 16) (v := .int x1572) (ty0 := tyX0) rfl inX0 tyX0_ok nmX0 (by decide) rfl wF_X0_72 ga0 rg_1 rfl rfl (okI (by have := i_rng x1572; omega) (by have := i_rng x1572; omega)) rfl rfl (AE_in ga0 (by decide)) dX0_copyFrom_233 (fun H1573 locsH1573 hTH1573 hSH1573 wH1573 => ?_)
        have f1574 : ∀ q : Nat, G q = some 1 → q ≠ a0 → fI H1573 q (K.1.2 0 14) = fI s.heap q (K.1.2 0 14) := fun q hq hn => (Wr.neI wH1573 (Or.inr (x_apart hKT hts inX0 tyX0 tyX0_ok nmX0 rfl 14 16 (by decide) (by decide) (by decide)))).trans (f1567 q hq hn)
        have m1575 := m1568.trans (Wr.neI wH1573 (Or.inl (G_ne ga1 ga0 (by decide)))).symm
        have m1576 := m1569.trans (Wr.neI wH1573 (Or.inr (x_apart hKT hts inX0 tyX0 tyX0_ok nmX0 rfl 14 16 (by decide) (by decide) (by decide)))).symm
        have m1577 := m1570.trans (Wr.neI wH1573 (Or.inl (G_ne ga1 ga0 (by decide)))).symm
        have m1578 := m1571.trans (Wr.neI wH1573 (Or.inr (x_apart hKT hts inX0 tyX0 tyX0_ok nmX0 rfl 15 16 (by decide) (by decide) (by decide)))).symm
        have m1579 := ex1572.trans (Wr.neI wH1573 (Or.inl (G_ne ga1 ga0 (by decide)))).symm
        have m1580 := Wr.I wH1573
        have m1580 := m1580.symm
        refine lv_aload_n hx hb dX0_copyFrom_236 rfl (lv_at hl1553 1 rfl) ?_
        refine x_gr C hTH1573 (ci := 0) (k := 17) rfl inX0 (by decide) wF_X0_47 ga1 rg_35 rfl dX0_copyFrom_237 (fun q1581 eq1581 gq1581 => ?_)
        refine lv_iconst (v := 0) hx hb dX0_copyFrom_240 (by decide) ?_
        refine lv_aload_n hx hb dX0_copyFrom_241 rfl (lv_at hl1553 0 rfl) ?_
        refine x_gr C hTH1573 (ci := 0) (k := 17) rfl inX0 (by decide) wF_X0_47 ga0 rg_1 rfl dX0_copyFrom_242 (fun q1582 eq1582 gq1582 => ?_)
        refine lv_iconst (v := 0) hx hb dX0_copyFrom_245 (by decide) ?_
        refine lv_iconst (v := 2) hx hb dX0_copyFrom_246 (by decide) ?_
        refine x_copy C hTH1573 hSH1573 wM_X0_75 wNT_arraycopy wST_arraycopy wIN_J10 gq1581 gq1582 rg_49 rg_15 (by decide) (by omega) (by omega) (by omega) (by show _ ≤ ((2 : Nat) : Int); omega) (by show _ ≤ ((2 : Nat) : Int); omega) (AE_in gq1582 (by decide)) hl1553.1 (by decide) dX0_copyFrom_247 (fun H1583 locsH1583 hTH1583 hSH1583 zH1583 oH1583 vH1583 wH1583 => ?_)
        have m1584 := (m1575).trans (fI_kept (oH1583 _ (G_ne ga1 gq1582 (by decide)))).symm
        have m1585 := (m1576).trans (fI_kept (oH1583 _ (G_ne ga0 gq1582 (by decide)))).symm
        have m1586 := (m1577).trans (fI_kept (oH1583 _ (G_ne ga1 gq1582 (by decide)))).symm
        have m1587 := (m1578).trans (fI_kept (oH1583 _ (G_ne ga0 gq1582 (by decide)))).symm
        have m1588 := (m1579).trans (fI_kept (oH1583 _ (G_ne ga1 gq1582 (by decide)))).symm
        have m1589 := (m1580).trans (fI_kept (oH1583 _ (G_ne ga0 gq1582 (by decide)))).symm
        have m1590 := (eq1581).trans (fR_kept (oH1583 _ (G_ne ga1 gq1582 (by decide)))).symm
        have m1591 := (eq1582).trans (fR_kept (oH1583 _ (G_ne ga0 gq1582 (by decide)))).symm
        have f1592 : ∀ q : Nat, G q = some 1 → q ≠ a0 → fI H1583 q (K.1.2 0 14) = fI s.heap q (K.1.2 0 14) := fun q hq hn => (fI_kept (oH1583 _ (G_ne hq gq1582 (by decide)))).trans (f1574 q hq hn)
        exact x_vret C hQ dX0_copyFrom_250 hSH1583 (by decide) (by decide) (⟨ok, rfl, m1585, by omega, f1592, hTH1583⟩)
      · have k1558 := i_nle c1557
        refine lv_aload_n hx hb dX0_copyFrom_168 rfl (lv_at hl1553 1 rfl) ?_
        refine x_gr C hTH1551 (ci := 0) (k := 12) rfl inX0 (by decide) wF_X0_41 ga1 rg_35 rfl dX0_copyFrom_169 (fun q1593 eq1593 gq1593 => ?_)
        refine lv_iload_n hx hb dX0_copyFrom_172 rfl (lv_at hl1553 2 rfl) ?_
        refine x_ar C hTH1551 rfl rfl gq1593 rg_45 ⟨by omega, by show _ < ((12 : Nat) : Int); omega⟩ dX0_copyFrom_173 (fun q1594 eq1594 gq1594 => ?_)
        refine lv_iconst (v := 0) hx hb dX0_copyFrom_174 (by decide) ?_
        refine lv_aload_n hx hb dX0_copyFrom_175 rfl (lv_at hl1553 0 rfl) ?_
        refine x_gr C hTH1551 (ci := 0) (k := 12) rfl inX0 (by decide) wF_X0_41 ga0 rg_1 rfl dX0_copyFrom_176 (fun q1595 eq1595 gq1595 => ?_)
        refine lv_iload_n hx hb dX0_copyFrom_179 rfl (lv_at hl1553 2 rfl) ?_
        refine x_ar C hTH1551 rfl rfl gq1595 rg_11 ⟨by omega, by show _ < ((12 : Nat) : Int); omega⟩ dX0_copyFrom_180 (fun q1596 eq1596 gq1596 => ?_)
        refine lv_iconst (v := 0) hx hb dX0_copyFrom_181 (by decide) ?_
        refine lv_bipush (v := 16) hx hb dX0_copyFrom_182 (by decide) ?_
        refine x_copy C hTH1551 hSH1551 wM_X0_75 wNT_arraycopy wST_arraycopy wIN_J10 gq1594 gq1596 rg_46 rg_12 (by decide) (by omega) (by omega) (by omega) (by show _ ≤ ((16 : Nat) : Int); omega) (by show _ ≤ ((16 : Nat) : Int); omega) (AE_in gq1596 (by decide)) hl1553.1 (by decide) dX0_copyFrom_184 (fun H1597 locsH1597 hTH1597 hSH1597 zH1597 oH1597 vH1597 wH1597 => ?_)
        have m1598 := (ex1555).trans (fI_kept (oH1597 _ (G_ne ga0 gq1596 (by decide)))).symm
        have m1599 := (cy1556_0).trans (fI_kept (oH1597 _ (G_ne ga1 gq1596 (by decide)))).symm
        have m1600 := (eq1593).trans (fR_kept (oH1597 _ (G_ne ga1 gq1596 (by decide)))).symm
        have m1601 := (eq1595).trans (fR_kept (oH1597 _ (G_ne ga0 gq1596 (by decide)))).symm
        have f1602 : ∀ q : Nat, G q = some 1 → q ≠ a0 → fI H1597 q (K.1.2 0 14) = fI s.heap q (K.1.2 0 14) := fun q hq hn => (fI_kept (oH1597 _ (G_ne hq gq1596 (by decide)))).trans (fy1556_rf q hq hn)
        refine lv_aload_n hx hb dX0_copyFrom_187 rfl (lv_at hl1553 1 rfl) ?_
        refine x_gr C hTH1597 (ci := 0) (k := 13) rfl inX0 (by decide) wF_X0_44 ga1 rg_35 rfl dX0_copyFrom_188 (fun q1603 eq1603 gq1603 => ?_)
        refine lv_iload_n hx hb dX0_copyFrom_191 rfl (lv_at hl1553 2 rfl) ?_
        refine x_ar C hTH1597 rfl rfl gq1603 rg_47 ⟨by omega, by show _ < ((12 : Nat) : Int); omega⟩ dX0_copyFrom_192 (fun q1604 eq1604 gq1604 => ?_)
        refine lv_iconst (v := 0) hx hb dX0_copyFrom_193 (by decide) ?_
        refine lv_aload_n hx hb dX0_copyFrom_194 rfl (lv_at hl1553 0 rfl) ?_
        refine x_gr C hTH1597 (ci := 0) (k := 13) rfl inX0 (by decide) wF_X0_44 ga0 rg_1 rfl dX0_copyFrom_195 (fun q1605 eq1605 gq1605 => ?_)
        refine lv_iload_n hx hb dX0_copyFrom_198 rfl (lv_at hl1553 2 rfl) ?_
        refine x_ar C hTH1597 rfl rfl gq1605 rg_13 ⟨by omega, by show _ < ((12 : Nat) : Int); omega⟩ dX0_copyFrom_199 (fun q1606 eq1606 gq1606 => ?_)
        refine lv_iconst (v := 0) hx hb dX0_copyFrom_200 (by decide) ?_
        refine lv_bipush (v := 16) hx hb dX0_copyFrom_201 (by decide) ?_
        refine x_copy C hTH1597 hSH1597 wM_X0_75 wNT_arraycopy wST_arraycopy wIN_J10 gq1604 gq1606 rg_48 rg_14 (by decide) (by omega) (by omega) (by omega) (by show _ ≤ ((16 : Nat) : Int); omega) (by show _ ≤ ((16 : Nat) : Int); omega) (AE_in gq1606 (by decide)) hl1553.1 (by decide) dX0_copyFrom_203 (fun H1607 locsH1607 hTH1607 hSH1607 zH1607 oH1607 vH1607 wH1607 => ?_)
        have m1608 := (m1598).trans (fI_kept (oH1607 _ (G_ne ga0 gq1606 (by decide)))).symm
        have m1609 := (m1599).trans (fI_kept (oH1607 _ (G_ne ga1 gq1606 (by decide)))).symm
        have m1610 := (m1600).trans (fR_kept (oH1607 _ (G_ne ga1 gq1606 (by decide)))).symm
        have m1611 := (m1601).trans (fR_kept (oH1607 _ (G_ne ga0 gq1606 (by decide)))).symm
        have m1612 := (eq1603).trans (fR_kept (oH1607 _ (G_ne ga1 gq1606 (by decide)))).symm
        have m1613 := (eq1605).trans (fR_kept (oH1607 _ (G_ne ga0 gq1606 (by decide)))).symm
        have f1614 : ∀ q : Nat, G q = some 1 → q ≠ a0 → fI H1607 q (K.1.2 0 14) = fI s.heap q (K.1.2 0 14) := fun q hq hn => (fI_kept (oH1607 _ (G_ne hq gq1606 (by decide)))).trans (f1602 q hq hn)
        obtain ⟨x1615, ex1615⟩ : ∃ y : Int32, y = x1554 + 1 := ⟨_, rfl⟩
        have tx1615 := i_add ex1615 (by omega)
        refine lv_iinc (v := x1615) (lv' := [(2, .int x1615), (0, .ref a0), (1, .ref a1)]) hx hb dX0_copyFrom_206 hl1553 (k := 2) rfl (by rw [ex1615]; rfl) (by decide) rfl (fun ls1616 hl1617 => ?_)
        refine lv_goto (tgt := 162) hx hb dX0_copyFrom_209 (by decide) ?_
        exact ih162 ls1616 H1607 locsH1607 (x1615) (x1555) (lv_sub hl1617 [1, 2, 0] rfl) hTH1607 hSH1607 (by have := i_rng x1615; omega) (by have := i_rng x1555; omega) m1608 m1609 f1614 (by omega)
  refine lv_aload_n hx hb dX0_copyFrom_0 rfl (lv_at hl 0 rfl) ?_
  refine lv_aload_n hx hb dX0_copyFrom_1 rfl (lv_at hl 1 rfl) ?_
  refine x_gi C hT (ci := 0) (k := 0) rfl inX0 (by decide) wF_X0_50 ga1 rg_35 rfl dX0_copyFrom_2 (fun x1618 ex1618 bx1618 => ?_)
  refine x_put C hT hS (ci := 0) (k := 0) (v := .int x1618) (ty0 := tyX0) rfl inX0 tyX0_ok nmX0 (by decide) rfl wF_X0_50 ga0 rg_1 rfl rfl (okI (by have := i_rng x1618; omega) (by have := i_rng x1618; omega)) rfl rfl (AE_in ga0 (by decide)) dX0_copyFrom_5 (fun H1619 locsH1619 hTH1619 hSH1619 wH1619 => ?_)
  have f1620 : ∀ q : Nat, G q = some 1 → q ≠ a0 → fI H1619 q (K.1.2 0 14) = fI s.heap q (K.1.2 0 14) := fun q hq hn => (Wr.neI wH1619 (Or.inr (x_apart hKT hts inX0 tyX0 tyX0_ok nmX0 rfl 14 0 (by decide) (by decide) (by decide)))).trans (f0_rf q hq hn)
  have m1621 := ebk.trans (Wr.neI wH1619 (Or.inr (x_apart hKT hts inX0 tyX0 tyX0_ok nmX0 rfl 14 0 (by decide) (by decide) (by decide)))).symm
  have m1622 := eok.trans (Wr.neI wH1619 (Or.inl (G_ne ga1 ga0 (by decide)))).symm
  have m1623 := ex1618.trans (Wr.neI wH1619 (Or.inl (G_ne ga1 ga0 (by decide)))).symm
  have m1624 := Wr.I wH1619
  have m1624 := m1624.symm
  refine lv_aload_n hx hb dX0_copyFrom_8 rfl (lv_at hl 1 rfl) ?_
  refine x_gr C hTH1619 (ci := 0) (k := 1) rfl inX0 (by decide) wF_X0_9 ga1 rg_35 rfl dX0_copyFrom_9 (fun q1625 eq1625 gq1625 => ?_)
  refine lv_iconst (v := 0) hx hb dX0_copyFrom_12 (by decide) ?_
  refine lv_aload_n hx hb dX0_copyFrom_13 rfl (lv_at hl 0 rfl) ?_
  refine x_gr C hTH1619 (ci := 0) (k := 1) rfl inX0 (by decide) wF_X0_9 ga0 rg_1 rfl dX0_copyFrom_14 (fun q1626 eq1626 gq1626 => ?_)
  refine lv_iconst (v := 0) hx hb dX0_copyFrom_17 (by decide) ?_
  refine lv_bipush (v := 16) hx hb dX0_copyFrom_18 (by decide) ?_
  refine x_copy C hTH1619 hSH1619 wM_X0_75 wNT_arraycopy wST_arraycopy wIN_J10 gq1625 gq1626 rg_36 rg_2 (by decide) (by omega) (by omega) (by omega) (by show _ ≤ ((16 : Nat) : Int); omega) (by show _ ≤ ((16 : Nat) : Int); omega) (AE_in gq1626 (by decide)) hl.1 (by decide) dX0_copyFrom_20 (fun H1627 locsH1627 hTH1627 hSH1627 zH1627 oH1627 vH1627 wH1627 => ?_)
  have m1628 := (m1621).trans (fI_kept (oH1627 _ (G_ne ga0 gq1626 (by decide)))).symm
  have m1629 := (m1622).trans (fI_kept (oH1627 _ (G_ne ga1 gq1626 (by decide)))).symm
  have m1630 := (m1623).trans (fI_kept (oH1627 _ (G_ne ga1 gq1626 (by decide)))).symm
  have m1631 := (m1624).trans (fI_kept (oH1627 _ (G_ne ga0 gq1626 (by decide)))).symm
  have m1632 := (eq1625).trans (fR_kept (oH1627 _ (G_ne ga1 gq1626 (by decide)))).symm
  have m1633 := (eq1626).trans (fR_kept (oH1627 _ (G_ne ga0 gq1626 (by decide)))).symm
  have f1634 : ∀ q : Nat, G q = some 1 → q ≠ a0 → fI H1627 q (K.1.2 0 14) = fI s.heap q (K.1.2 0 14) := fun q hq hn => (fI_kept (oH1627 _ (G_ne hq gq1626 (by decide)))).trans (f1620 q hq hn)
  refine lv_aload_n hx hb dX0_copyFrom_23 rfl (lv_at hl 1 rfl) ?_
  refine x_gr C hTH1627 (ci := 0) (k := 2) rfl inX0 (by decide) wF_X0_15 ga1 rg_35 rfl dX0_copyFrom_24 (fun q1635 eq1635 gq1635 => ?_)
  refine lv_iconst (v := 0) hx hb dX0_copyFrom_27 (by decide) ?_
  refine lv_aload_n hx hb dX0_copyFrom_28 rfl (lv_at hl 0 rfl) ?_
  refine x_gr C hTH1627 (ci := 0) (k := 2) rfl inX0 (by decide) wF_X0_15 ga0 rg_1 rfl dX0_copyFrom_29 (fun q1636 eq1636 gq1636 => ?_)
  refine lv_iconst (v := 0) hx hb dX0_copyFrom_32 (by decide) ?_
  refine lv_bipush (v := 16) hx hb dX0_copyFrom_33 (by decide) ?_
  refine x_copy C hTH1627 hSH1627 wM_X0_75 wNT_arraycopy wST_arraycopy wIN_J10 gq1635 gq1636 rg_37 rg_3 (by decide) (by omega) (by omega) (by omega) (by show _ ≤ ((16 : Nat) : Int); omega) (by show _ ≤ ((16 : Nat) : Int); omega) (AE_in gq1636 (by decide)) hl.1 (by decide) dX0_copyFrom_35 (fun H1637 locsH1637 hTH1637 hSH1637 zH1637 oH1637 vH1637 wH1637 => ?_)
  have m1638 := (m1628).trans (fI_kept (oH1637 _ (G_ne ga0 gq1636 (by decide)))).symm
  have m1639 := (m1629).trans (fI_kept (oH1637 _ (G_ne ga1 gq1636 (by decide)))).symm
  have m1640 := (m1630).trans (fI_kept (oH1637 _ (G_ne ga1 gq1636 (by decide)))).symm
  have m1641 := (m1631).trans (fI_kept (oH1637 _ (G_ne ga0 gq1636 (by decide)))).symm
  have m1642 := (m1632).trans (fR_kept (oH1637 _ (G_ne ga1 gq1636 (by decide)))).symm
  have m1643 := (m1633).trans (fR_kept (oH1637 _ (G_ne ga0 gq1636 (by decide)))).symm
  have m1644 := (eq1635).trans (fR_kept (oH1637 _ (G_ne ga1 gq1636 (by decide)))).symm
  have m1645 := (eq1636).trans (fR_kept (oH1637 _ (G_ne ga0 gq1636 (by decide)))).symm
  have f1646 : ∀ q : Nat, G q = some 1 → q ≠ a0 → fI H1637 q (K.1.2 0 14) = fI s.heap q (K.1.2 0 14) := fun q hq hn => (fI_kept (oH1637 _ (G_ne hq gq1636 (by decide)))).trans (f1634 q hq hn)
  refine lv_aload_n hx hb dX0_copyFrom_38 rfl (lv_at hl 1 rfl) ?_
  refine x_gr C hTH1637 (ci := 0) (k := 3) rfl inX0 (by decide) wF_X0_18 ga1 rg_35 rfl dX0_copyFrom_39 (fun q1647 eq1647 gq1647 => ?_)
  refine lv_iconst (v := 0) hx hb dX0_copyFrom_42 (by decide) ?_
  refine lv_aload_n hx hb dX0_copyFrom_43 rfl (lv_at hl 0 rfl) ?_
  refine x_gr C hTH1637 (ci := 0) (k := 3) rfl inX0 (by decide) wF_X0_18 ga0 rg_1 rfl dX0_copyFrom_44 (fun q1648 eq1648 gq1648 => ?_)
  refine lv_iconst (v := 0) hx hb dX0_copyFrom_47 (by decide) ?_
  refine lv_bipush (v := 16) hx hb dX0_copyFrom_48 (by decide) ?_
  refine x_copy C hTH1637 hSH1637 wM_X0_75 wNT_arraycopy wST_arraycopy wIN_J10 gq1647 gq1648 rg_38 rg_4 (by decide) (by omega) (by omega) (by omega) (by show _ ≤ ((16 : Nat) : Int); omega) (by show _ ≤ ((16 : Nat) : Int); omega) (AE_in gq1648 (by decide)) hl.1 (by decide) dX0_copyFrom_50 (fun H1649 locsH1649 hTH1649 hSH1649 zH1649 oH1649 vH1649 wH1649 => ?_)
  have m1650 := (m1638).trans (fI_kept (oH1649 _ (G_ne ga0 gq1648 (by decide)))).symm
  have m1651 := (m1639).trans (fI_kept (oH1649 _ (G_ne ga1 gq1648 (by decide)))).symm
  have m1652 := (m1640).trans (fI_kept (oH1649 _ (G_ne ga1 gq1648 (by decide)))).symm
  have m1653 := (m1641).trans (fI_kept (oH1649 _ (G_ne ga0 gq1648 (by decide)))).symm
  have m1654 := (m1642).trans (fR_kept (oH1649 _ (G_ne ga1 gq1648 (by decide)))).symm
  have m1655 := (m1643).trans (fR_kept (oH1649 _ (G_ne ga0 gq1648 (by decide)))).symm
  have m1656 := (m1644).trans (fR_kept (oH1649 _ (G_ne ga1 gq1648 (by decide)))).symm
  have m1657 := (m1645).trans (fR_kept (oH1649 _ (G_ne ga0 gq1648 (by decide)))).symm
  have m1658 := (eq1647).trans (fR_kept (oH1649 _ (G_ne ga1 gq1648 (by decide)))).symm
  have m1659 := (eq1648).trans (fR_kept (oH1649 _ (G_ne ga0 gq1648 (by decide)))).symm
  have f1660 : ∀ q : Nat, G q = some 1 → q ≠ a0 → fI H1649 q (K.1.2 0 14) = fI s.heap q (K.1.2 0 14) := fun q hq hn => (fI_kept (oH1649 _ (G_ne hq gq1648 (by decide)))).trans (f1646 q hq hn)
  refine lv_aload_n hx hb dX0_copyFrom_53 rfl (lv_at hl 1 rfl) ?_
  refine x_gr C hTH1649 (ci := 0) (k := 4) rfl inX0 (by decide) wF_X0_21 ga1 rg_35 rfl dX0_copyFrom_54 (fun q1661 eq1661 gq1661 => ?_)
  refine lv_iconst (v := 0) hx hb dX0_copyFrom_57 (by decide) ?_
  refine lv_aload_n hx hb dX0_copyFrom_58 rfl (lv_at hl 0 rfl) ?_
  refine x_gr C hTH1649 (ci := 0) (k := 4) rfl inX0 (by decide) wF_X0_21 ga0 rg_1 rfl dX0_copyFrom_59 (fun q1662 eq1662 gq1662 => ?_)
  refine lv_iconst (v := 0) hx hb dX0_copyFrom_62 (by decide) ?_
  refine lv_bipush (v := 16) hx hb dX0_copyFrom_63 (by decide) ?_
  refine x_copy C hTH1649 hSH1649 wM_X0_75 wNT_arraycopy wST_arraycopy wIN_J10 gq1661 gq1662 rg_39 rg_5 (by decide) (by omega) (by omega) (by omega) (by show _ ≤ ((16 : Nat) : Int); omega) (by show _ ≤ ((16 : Nat) : Int); omega) (AE_in gq1662 (by decide)) hl.1 (by decide) dX0_copyFrom_65 (fun H1663 locsH1663 hTH1663 hSH1663 zH1663 oH1663 vH1663 wH1663 => ?_)
  have m1664 := (m1650).trans (fI_kept (oH1663 _ (G_ne ga0 gq1662 (by decide)))).symm
  have m1665 := (m1651).trans (fI_kept (oH1663 _ (G_ne ga1 gq1662 (by decide)))).symm
  have m1666 := (m1652).trans (fI_kept (oH1663 _ (G_ne ga1 gq1662 (by decide)))).symm
  have m1667 := (m1653).trans (fI_kept (oH1663 _ (G_ne ga0 gq1662 (by decide)))).symm
  have m1668 := (m1654).trans (fR_kept (oH1663 _ (G_ne ga1 gq1662 (by decide)))).symm
  have m1669 := (m1655).trans (fR_kept (oH1663 _ (G_ne ga0 gq1662 (by decide)))).symm
  have m1670 := (m1656).trans (fR_kept (oH1663 _ (G_ne ga1 gq1662 (by decide)))).symm
  have m1671 := (m1657).trans (fR_kept (oH1663 _ (G_ne ga0 gq1662 (by decide)))).symm
  have m1672 := (m1658).trans (fR_kept (oH1663 _ (G_ne ga1 gq1662 (by decide)))).symm
  have m1673 := (m1659).trans (fR_kept (oH1663 _ (G_ne ga0 gq1662 (by decide)))).symm
  have m1674 := (eq1661).trans (fR_kept (oH1663 _ (G_ne ga1 gq1662 (by decide)))).symm
  have m1675 := (eq1662).trans (fR_kept (oH1663 _ (G_ne ga0 gq1662 (by decide)))).symm
  have f1676 : ∀ q : Nat, G q = some 1 → q ≠ a0 → fI H1663 q (K.1.2 0 14) = fI s.heap q (K.1.2 0 14) := fun q hq hn => (fI_kept (oH1663 _ (G_ne hq gq1662 (by decide)))).trans (f1660 q hq hn)
  refine lv_aload_n hx hb dX0_copyFrom_68 rfl (lv_at hl 1 rfl) ?_
  refine x_gr C hTH1663 (ci := 0) (k := 5) rfl inX0 (by decide) wF_X0_24 ga1 rg_35 rfl dX0_copyFrom_69 (fun q1677 eq1677 gq1677 => ?_)
  refine lv_iconst (v := 0) hx hb dX0_copyFrom_72 (by decide) ?_
  refine lv_aload_n hx hb dX0_copyFrom_73 rfl (lv_at hl 0 rfl) ?_
  refine x_gr C hTH1663 (ci := 0) (k := 5) rfl inX0 (by decide) wF_X0_24 ga0 rg_1 rfl dX0_copyFrom_74 (fun q1678 eq1678 gq1678 => ?_)
  refine lv_iconst (v := 0) hx hb dX0_copyFrom_77 (by decide) ?_
  refine lv_iconst (v := 3) hx hb dX0_copyFrom_78 (by decide) ?_
  refine x_copy C hTH1663 hSH1663 wM_X0_75 wNT_arraycopy wST_arraycopy wIN_J10 gq1677 gq1678 rg_40 rg_6 (by decide) (by omega) (by omega) (by omega) (by show _ ≤ ((3 : Nat) : Int); omega) (by show _ ≤ ((3 : Nat) : Int); omega) (AE_in gq1678 (by decide)) hl.1 (by decide) dX0_copyFrom_79 (fun H1679 locsH1679 hTH1679 hSH1679 zH1679 oH1679 vH1679 wH1679 => ?_)
  have m1680 := (m1664).trans (fI_kept (oH1679 _ (G_ne ga0 gq1678 (by decide)))).symm
  have m1681 := (m1665).trans (fI_kept (oH1679 _ (G_ne ga1 gq1678 (by decide)))).symm
  have m1682 := (m1666).trans (fI_kept (oH1679 _ (G_ne ga1 gq1678 (by decide)))).symm
  have m1683 := (m1667).trans (fI_kept (oH1679 _ (G_ne ga0 gq1678 (by decide)))).symm
  have m1684 := (m1668).trans (fR_kept (oH1679 _ (G_ne ga1 gq1678 (by decide)))).symm
  have m1685 := (m1669).trans (fR_kept (oH1679 _ (G_ne ga0 gq1678 (by decide)))).symm
  have m1686 := (m1670).trans (fR_kept (oH1679 _ (G_ne ga1 gq1678 (by decide)))).symm
  have m1687 := (m1671).trans (fR_kept (oH1679 _ (G_ne ga0 gq1678 (by decide)))).symm
  have m1688 := (m1672).trans (fR_kept (oH1679 _ (G_ne ga1 gq1678 (by decide)))).symm
  have m1689 := (m1673).trans (fR_kept (oH1679 _ (G_ne ga0 gq1678 (by decide)))).symm
  have m1690 := (m1674).trans (fR_kept (oH1679 _ (G_ne ga1 gq1678 (by decide)))).symm
  have m1691 := (m1675).trans (fR_kept (oH1679 _ (G_ne ga0 gq1678 (by decide)))).symm
  have m1692 := (eq1677).trans (fR_kept (oH1679 _ (G_ne ga1 gq1678 (by decide)))).symm
  have m1693 := (eq1678).trans (fR_kept (oH1679 _ (G_ne ga0 gq1678 (by decide)))).symm
  have f1694 : ∀ q : Nat, G q = some 1 → q ≠ a0 → fI H1679 q (K.1.2 0 14) = fI s.heap q (K.1.2 0 14) := fun q hq hn => (fI_kept (oH1679 _ (G_ne hq gq1678 (by decide)))).trans (f1676 q hq hn)
  refine lv_aload_n hx hb dX0_copyFrom_82 rfl (lv_at hl 1 rfl) ?_
  refine x_gr C hTH1679 (ci := 0) (k := 6) rfl inX0 (by decide) wF_X0_27 ga1 rg_35 rfl dX0_copyFrom_83 (fun q1695 eq1695 gq1695 => ?_)
  refine lv_iconst (v := 0) hx hb dX0_copyFrom_86 (by decide) ?_
  refine lv_aload_n hx hb dX0_copyFrom_87 rfl (lv_at hl 0 rfl) ?_
  refine x_gr C hTH1679 (ci := 0) (k := 6) rfl inX0 (by decide) wF_X0_27 ga0 rg_1 rfl dX0_copyFrom_88 (fun q1696 eq1696 gq1696 => ?_)
  refine lv_iconst (v := 0) hx hb dX0_copyFrom_91 (by decide) ?_
  refine lv_sipush (v := 200) hx hb dX0_copyFrom_92 (by decide) ?_
  refine x_copy C hTH1679 hSH1679 wM_X0_75 wNT_arraycopy wST_arraycopy wIN_J10 gq1695 gq1696 rg_41 rg_7 (by decide) (by omega) (by omega) (by omega) (by show _ ≤ ((200 : Nat) : Int); omega) (by show _ ≤ ((200 : Nat) : Int); omega) (AE_in gq1696 (by decide)) hl.1 (by decide) dX0_copyFrom_95 (fun H1697 locsH1697 hTH1697 hSH1697 zH1697 oH1697 vH1697 wH1697 => ?_)
  have m1698 := (m1680).trans (fI_kept (oH1697 _ (G_ne ga0 gq1696 (by decide)))).symm
  have m1699 := (m1681).trans (fI_kept (oH1697 _ (G_ne ga1 gq1696 (by decide)))).symm
  have m1700 := (m1682).trans (fI_kept (oH1697 _ (G_ne ga1 gq1696 (by decide)))).symm
  have m1701 := (m1683).trans (fI_kept (oH1697 _ (G_ne ga0 gq1696 (by decide)))).symm
  have m1702 := (m1684).trans (fR_kept (oH1697 _ (G_ne ga1 gq1696 (by decide)))).symm
  have m1703 := (m1685).trans (fR_kept (oH1697 _ (G_ne ga0 gq1696 (by decide)))).symm
  have m1704 := (m1686).trans (fR_kept (oH1697 _ (G_ne ga1 gq1696 (by decide)))).symm
  have m1705 := (m1687).trans (fR_kept (oH1697 _ (G_ne ga0 gq1696 (by decide)))).symm
  have m1706 := (m1688).trans (fR_kept (oH1697 _ (G_ne ga1 gq1696 (by decide)))).symm
  have m1707 := (m1689).trans (fR_kept (oH1697 _ (G_ne ga0 gq1696 (by decide)))).symm
  have m1708 := (m1690).trans (fR_kept (oH1697 _ (G_ne ga1 gq1696 (by decide)))).symm
  have m1709 := (m1691).trans (fR_kept (oH1697 _ (G_ne ga0 gq1696 (by decide)))).symm
  have m1710 := (m1692).trans (fR_kept (oH1697 _ (G_ne ga1 gq1696 (by decide)))).symm
  have m1711 := (m1693).trans (fR_kept (oH1697 _ (G_ne ga0 gq1696 (by decide)))).symm
  have m1712 := (eq1695).trans (fR_kept (oH1697 _ (G_ne ga1 gq1696 (by decide)))).symm
  have m1713 := (eq1696).trans (fR_kept (oH1697 _ (G_ne ga0 gq1696 (by decide)))).symm
  have f1714 : ∀ q : Nat, G q = some 1 → q ≠ a0 → fI H1697 q (K.1.2 0 14) = fI s.heap q (K.1.2 0 14) := fun q hq hn => (fI_kept (oH1697 _ (G_ne hq gq1696 (by decide)))).trans (f1694 q hq hn)
  refine lv_aload_n hx hb dX0_copyFrom_98 rfl (lv_at hl 1 rfl) ?_
  refine x_gr C hTH1697 (ci := 0) (k := 7) rfl inX0 (by decide) wF_X0_30 ga1 rg_35 rfl dX0_copyFrom_99 (fun q1715 eq1715 gq1715 => ?_)
  refine lv_iconst (v := 0) hx hb dX0_copyFrom_102 (by decide) ?_
  refine lv_aload_n hx hb dX0_copyFrom_103 rfl (lv_at hl 0 rfl) ?_
  refine x_gr C hTH1697 (ci := 0) (k := 7) rfl inX0 (by decide) wF_X0_30 ga0 rg_1 rfl dX0_copyFrom_104 (fun q1716 eq1716 gq1716 => ?_)
  refine lv_iconst (v := 0) hx hb dX0_copyFrom_107 (by decide) ?_
  refine lv_sipush (v := 200) hx hb dX0_copyFrom_108 (by decide) ?_
  refine x_copy C hTH1697 hSH1697 wM_X0_75 wNT_arraycopy wST_arraycopy wIN_J10 gq1715 gq1716 rg_42 rg_8 (by decide) (by omega) (by omega) (by omega) (by show _ ≤ ((200 : Nat) : Int); omega) (by show _ ≤ ((200 : Nat) : Int); omega) (AE_in gq1716 (by decide)) hl.1 (by decide) dX0_copyFrom_111 (fun H1717 locsH1717 hTH1717 hSH1717 zH1717 oH1717 vH1717 wH1717 => ?_)
  have m1718 := (m1698).trans (fI_kept (oH1717 _ (G_ne ga0 gq1716 (by decide)))).symm
  have m1719 := (m1699).trans (fI_kept (oH1717 _ (G_ne ga1 gq1716 (by decide)))).symm
  have m1720 := (m1700).trans (fI_kept (oH1717 _ (G_ne ga1 gq1716 (by decide)))).symm
  have m1721 := (m1701).trans (fI_kept (oH1717 _ (G_ne ga0 gq1716 (by decide)))).symm
  have m1722 := (m1702).trans (fR_kept (oH1717 _ (G_ne ga1 gq1716 (by decide)))).symm
  have m1723 := (m1703).trans (fR_kept (oH1717 _ (G_ne ga0 gq1716 (by decide)))).symm
  have m1724 := (m1704).trans (fR_kept (oH1717 _ (G_ne ga1 gq1716 (by decide)))).symm
  have m1725 := (m1705).trans (fR_kept (oH1717 _ (G_ne ga0 gq1716 (by decide)))).symm
  have m1726 := (m1706).trans (fR_kept (oH1717 _ (G_ne ga1 gq1716 (by decide)))).symm
  have m1727 := (m1707).trans (fR_kept (oH1717 _ (G_ne ga0 gq1716 (by decide)))).symm
  have m1728 := (m1708).trans (fR_kept (oH1717 _ (G_ne ga1 gq1716 (by decide)))).symm
  have m1729 := (m1709).trans (fR_kept (oH1717 _ (G_ne ga0 gq1716 (by decide)))).symm
  have m1730 := (m1710).trans (fR_kept (oH1717 _ (G_ne ga1 gq1716 (by decide)))).symm
  have m1731 := (m1711).trans (fR_kept (oH1717 _ (G_ne ga0 gq1716 (by decide)))).symm
  have m1732 := (m1712).trans (fR_kept (oH1717 _ (G_ne ga1 gq1716 (by decide)))).symm
  have m1733 := (m1713).trans (fR_kept (oH1717 _ (G_ne ga0 gq1716 (by decide)))).symm
  have m1734 := (eq1715).trans (fR_kept (oH1717 _ (G_ne ga1 gq1716 (by decide)))).symm
  have m1735 := (eq1716).trans (fR_kept (oH1717 _ (G_ne ga0 gq1716 (by decide)))).symm
  have f1736 : ∀ q : Nat, G q = some 1 → q ≠ a0 → fI H1717 q (K.1.2 0 14) = fI s.heap q (K.1.2 0 14) := fun q hq hn => (fI_kept (oH1717 _ (G_ne hq gq1716 (by decide)))).trans (f1714 q hq hn)
  refine lv_aload_n hx hb dX0_copyFrom_114 rfl (lv_at hl 0 rfl) ?_
  refine lv_aload_n hx hb dX0_copyFrom_115 rfl (lv_at hl 1 rfl) ?_
  refine x_gi C hTH1717 (ci := 0) (k := 8) rfl inX0 (by decide) wF_X0_60 ga1 rg_35 rfl dX0_copyFrom_116 (fun x1737 ex1737 bx1737 => ?_)
  refine x_put C hTH1717 hSH1717 (ci := 0) (k := 8) (v := .int x1737) (ty0 := tyX0) rfl inX0 tyX0_ok nmX0 (by decide) rfl wF_X0_60 ga0 rg_1 rfl rfl (okI (by have := i_rng x1737; omega) (by have := i_rng x1737; omega)) rfl rfl (AE_in ga0 (by decide)) dX0_copyFrom_119 (fun H1738 locsH1738 hTH1738 hSH1738 wH1738 => ?_)
  have f1739 : ∀ q : Nat, G q = some 1 → q ≠ a0 → fI H1738 q (K.1.2 0 14) = fI s.heap q (K.1.2 0 14) := fun q hq hn => (Wr.neI wH1738 (Or.inr (x_apart hKT hts inX0 tyX0 tyX0_ok nmX0 rfl 14 8 (by decide) (by decide) (by decide)))).trans (f1736 q hq hn)
  have m1740 := m1718.trans (Wr.neI wH1738 (Or.inr (x_apart hKT hts inX0 tyX0 tyX0_ok nmX0 rfl 14 8 (by decide) (by decide) (by decide)))).symm
  have m1741 := m1719.trans (Wr.neI wH1738 (Or.inl (G_ne ga1 ga0 (by decide)))).symm
  have m1742 := m1720.trans (Wr.neI wH1738 (Or.inl (G_ne ga1 ga0 (by decide)))).symm
  have m1743 := m1721.trans (Wr.neI wH1738 (Or.inr (x_apart hKT hts inX0 tyX0 tyX0_ok nmX0 rfl 0 8 (by decide) (by decide) (by decide)))).symm
  have m1744 := m1722.trans (Wr.neR wH1738 (Or.inl (G_ne ga1 ga0 (by decide)))).symm
  have m1745 := m1723.trans (Wr.neR wH1738 (Or.inr (x_apart hKT hts inX0 tyX0 tyX0_ok nmX0 rfl 1 8 (by decide) (by decide) (by decide)))).symm
  have m1746 := m1724.trans (Wr.neR wH1738 (Or.inl (G_ne ga1 ga0 (by decide)))).symm
  have m1747 := m1725.trans (Wr.neR wH1738 (Or.inr (x_apart hKT hts inX0 tyX0 tyX0_ok nmX0 rfl 2 8 (by decide) (by decide) (by decide)))).symm
  have m1748 := m1726.trans (Wr.neR wH1738 (Or.inl (G_ne ga1 ga0 (by decide)))).symm
  have m1749 := m1727.trans (Wr.neR wH1738 (Or.inr (x_apart hKT hts inX0 tyX0 tyX0_ok nmX0 rfl 3 8 (by decide) (by decide) (by decide)))).symm
  have m1750 := m1728.trans (Wr.neR wH1738 (Or.inl (G_ne ga1 ga0 (by decide)))).symm
  have m1751 := m1729.trans (Wr.neR wH1738 (Or.inr (x_apart hKT hts inX0 tyX0 tyX0_ok nmX0 rfl 4 8 (by decide) (by decide) (by decide)))).symm
  have m1752 := m1730.trans (Wr.neR wH1738 (Or.inl (G_ne ga1 ga0 (by decide)))).symm
  have m1753 := m1731.trans (Wr.neR wH1738 (Or.inr (x_apart hKT hts inX0 tyX0 tyX0_ok nmX0 rfl 5 8 (by decide) (by decide) (by decide)))).symm
  have m1754 := m1732.trans (Wr.neR wH1738 (Or.inl (G_ne ga1 ga0 (by decide)))).symm
  have m1755 := m1733.trans (Wr.neR wH1738 (Or.inr (x_apart hKT hts inX0 tyX0 tyX0_ok nmX0 rfl 6 8 (by decide) (by decide) (by decide)))).symm
  have m1756 := m1734.trans (Wr.neR wH1738 (Or.inl (G_ne ga1 ga0 (by decide)))).symm
  have m1757 := m1735.trans (Wr.neR wH1738 (Or.inr (x_apart hKT hts inX0 tyX0 tyX0_ok nmX0 rfl 7 8 (by decide) (by decide) (by decide)))).symm
  have m1758 := ex1737.trans (Wr.neI wH1738 (Or.inl (G_ne ga1 ga0 (by decide)))).symm
  have m1759 := Wr.I wH1738
  have m1759 := m1759.symm
  refine lv_aload_n hx hb dX0_copyFrom_122 rfl (lv_at hl 0 rfl) ?_
  refine lv_aload_n hx hb dX0_copyFrom_123 rfl (lv_at hl 1 rfl) ?_
  refine x_gi C hTH1738 (ci := 0) (k := 9) rfl inX0 (by decide) wF_X0_63 ga1 rg_35 rfl dX0_copyFrom_124 (fun x1760 ex1760 bx1760 => ?_)
  refine x_put C hTH1738 hSH1738 (ci := 0) (k := 9) (v := .int x1760) (ty0 := tyX0) rfl inX0 tyX0_ok nmX0 (by decide) rfl wF_X0_63 ga0 rg_1 rfl rfl (okI (by have := i_rng x1760; omega) (by have := i_rng x1760; omega)) rfl rfl (AE_in ga0 (by decide)) dX0_copyFrom_127 (fun H1761 locsH1761 hTH1761 hSH1761 wH1761 => ?_)
  have f1762 : ∀ q : Nat, G q = some 1 → q ≠ a0 → fI H1761 q (K.1.2 0 14) = fI s.heap q (K.1.2 0 14) := fun q hq hn => (Wr.neI wH1761 (Or.inr (x_apart hKT hts inX0 tyX0 tyX0_ok nmX0 rfl 14 9 (by decide) (by decide) (by decide)))).trans (f1739 q hq hn)
  have m1763 := m1740.trans (Wr.neI wH1761 (Or.inr (x_apart hKT hts inX0 tyX0 tyX0_ok nmX0 rfl 14 9 (by decide) (by decide) (by decide)))).symm
  have m1764 := m1741.trans (Wr.neI wH1761 (Or.inl (G_ne ga1 ga0 (by decide)))).symm
  have m1765 := m1742.trans (Wr.neI wH1761 (Or.inl (G_ne ga1 ga0 (by decide)))).symm
  have m1766 := m1743.trans (Wr.neI wH1761 (Or.inr (x_apart hKT hts inX0 tyX0 tyX0_ok nmX0 rfl 0 9 (by decide) (by decide) (by decide)))).symm
  have m1767 := m1744.trans (Wr.neR wH1761 (Or.inl (G_ne ga1 ga0 (by decide)))).symm
  have m1768 := m1745.trans (Wr.neR wH1761 (Or.inr (x_apart hKT hts inX0 tyX0 tyX0_ok nmX0 rfl 1 9 (by decide) (by decide) (by decide)))).symm
  have m1769 := m1746.trans (Wr.neR wH1761 (Or.inl (G_ne ga1 ga0 (by decide)))).symm
  have m1770 := m1747.trans (Wr.neR wH1761 (Or.inr (x_apart hKT hts inX0 tyX0 tyX0_ok nmX0 rfl 2 9 (by decide) (by decide) (by decide)))).symm
  have m1771 := m1748.trans (Wr.neR wH1761 (Or.inl (G_ne ga1 ga0 (by decide)))).symm
  have m1772 := m1749.trans (Wr.neR wH1761 (Or.inr (x_apart hKT hts inX0 tyX0 tyX0_ok nmX0 rfl 3 9 (by decide) (by decide) (by decide)))).symm
  have m1773 := m1750.trans (Wr.neR wH1761 (Or.inl (G_ne ga1 ga0 (by decide)))).symm
  have m1774 := m1751.trans (Wr.neR wH1761 (Or.inr (x_apart hKT hts inX0 tyX0 tyX0_ok nmX0 rfl 4 9 (by decide) (by decide) (by decide)))).symm
  have m1775 := m1752.trans (Wr.neR wH1761 (Or.inl (G_ne ga1 ga0 (by decide)))).symm
  have m1776 := m1753.trans (Wr.neR wH1761 (Or.inr (x_apart hKT hts inX0 tyX0 tyX0_ok nmX0 rfl 5 9 (by decide) (by decide) (by decide)))).symm
  have m1777 := m1754.trans (Wr.neR wH1761 (Or.inl (G_ne ga1 ga0 (by decide)))).symm
  have m1778 := m1755.trans (Wr.neR wH1761 (Or.inr (x_apart hKT hts inX0 tyX0 tyX0_ok nmX0 rfl 6 9 (by decide) (by decide) (by decide)))).symm
  have m1779 := m1756.trans (Wr.neR wH1761 (Or.inl (G_ne ga1 ga0 (by decide)))).symm
  have m1780 := m1757.trans (Wr.neR wH1761 (Or.inr (x_apart hKT hts inX0 tyX0 tyX0_ok nmX0 rfl 7 9 (by decide) (by decide) (by decide)))).symm
  have m1781 := m1758.trans (Wr.neI wH1761 (Or.inl (G_ne ga1 ga0 (by decide)))).symm
  have m1782 := m1759.trans (Wr.neI wH1761 (Or.inr (x_apart hKT hts inX0 tyX0 tyX0_ok nmX0 rfl 8 9 (by decide) (by decide) (by decide)))).symm
  have m1783 := ex1760.trans (Wr.neI wH1761 (Or.inl (G_ne ga1 ga0 (by decide)))).symm
  have m1784 := Wr.I wH1761
  have m1784 := m1784.symm
  refine lv_aload_n hx hb dX0_copyFrom_130 rfl (lv_at hl 1 rfl) ?_
  refine x_gr C hTH1761 (ci := 0) (k := 10) rfl inX0 (by decide) wF_X0_33 ga1 rg_35 rfl dX0_copyFrom_131 (fun q1785 eq1785 gq1785 => ?_)
  refine lv_iconst (v := 0) hx hb dX0_copyFrom_134 (by decide) ?_
  refine lv_aload_n hx hb dX0_copyFrom_135 rfl (lv_at hl 0 rfl) ?_
  refine x_gr C hTH1761 (ci := 0) (k := 10) rfl inX0 (by decide) wF_X0_33 ga0 rg_1 rfl dX0_copyFrom_136 (fun q1786 eq1786 gq1786 => ?_)
  refine lv_iconst (v := 0) hx hb dX0_copyFrom_139 (by decide) ?_
  refine lv_bipush (v := 12) hx hb dX0_copyFrom_140 (by decide) ?_
  refine x_copy C hTH1761 hSH1761 wM_X0_75 wNT_arraycopy wST_arraycopy wIN_J10 gq1785 gq1786 rg_43 rg_9 (by decide) (by omega) (by omega) (by omega) (by show _ ≤ ((12 : Nat) : Int); omega) (by show _ ≤ ((12 : Nat) : Int); omega) (AE_in gq1786 (by decide)) hl.1 (by decide) dX0_copyFrom_142 (fun H1787 locsH1787 hTH1787 hSH1787 zH1787 oH1787 vH1787 wH1787 => ?_)
  have m1788 := (m1763).trans (fI_kept (oH1787 _ (G_ne ga0 gq1786 (by decide)))).symm
  have m1789 := (m1764).trans (fI_kept (oH1787 _ (G_ne ga1 gq1786 (by decide)))).symm
  have m1790 := (m1765).trans (fI_kept (oH1787 _ (G_ne ga1 gq1786 (by decide)))).symm
  have m1791 := (m1766).trans (fI_kept (oH1787 _ (G_ne ga0 gq1786 (by decide)))).symm
  have m1792 := (m1767).trans (fR_kept (oH1787 _ (G_ne ga1 gq1786 (by decide)))).symm
  have m1793 := (m1768).trans (fR_kept (oH1787 _ (G_ne ga0 gq1786 (by decide)))).symm
  have m1794 := (m1769).trans (fR_kept (oH1787 _ (G_ne ga1 gq1786 (by decide)))).symm
  have m1795 := (m1770).trans (fR_kept (oH1787 _ (G_ne ga0 gq1786 (by decide)))).symm
  have m1796 := (m1771).trans (fR_kept (oH1787 _ (G_ne ga1 gq1786 (by decide)))).symm
  have m1797 := (m1772).trans (fR_kept (oH1787 _ (G_ne ga0 gq1786 (by decide)))).symm
  have m1798 := (m1773).trans (fR_kept (oH1787 _ (G_ne ga1 gq1786 (by decide)))).symm
  have m1799 := (m1774).trans (fR_kept (oH1787 _ (G_ne ga0 gq1786 (by decide)))).symm
  have m1800 := (m1775).trans (fR_kept (oH1787 _ (G_ne ga1 gq1786 (by decide)))).symm
  have m1801 := (m1776).trans (fR_kept (oH1787 _ (G_ne ga0 gq1786 (by decide)))).symm
  have m1802 := (m1777).trans (fR_kept (oH1787 _ (G_ne ga1 gq1786 (by decide)))).symm
  have m1803 := (m1778).trans (fR_kept (oH1787 _ (G_ne ga0 gq1786 (by decide)))).symm
  have m1804 := (m1779).trans (fR_kept (oH1787 _ (G_ne ga1 gq1786 (by decide)))).symm
  have m1805 := (m1780).trans (fR_kept (oH1787 _ (G_ne ga0 gq1786 (by decide)))).symm
  have m1806 := (m1781).trans (fI_kept (oH1787 _ (G_ne ga1 gq1786 (by decide)))).symm
  have m1807 := (m1782).trans (fI_kept (oH1787 _ (G_ne ga0 gq1786 (by decide)))).symm
  have m1808 := (m1783).trans (fI_kept (oH1787 _ (G_ne ga1 gq1786 (by decide)))).symm
  have m1809 := (m1784).trans (fI_kept (oH1787 _ (G_ne ga0 gq1786 (by decide)))).symm
  have m1810 := (eq1785).trans (fR_kept (oH1787 _ (G_ne ga1 gq1786 (by decide)))).symm
  have m1811 := (eq1786).trans (fR_kept (oH1787 _ (G_ne ga0 gq1786 (by decide)))).symm
  have f1812 : ∀ q : Nat, G q = some 1 → q ≠ a0 → fI H1787 q (K.1.2 0 14) = fI s.heap q (K.1.2 0 14) := fun q hq hn => (fI_kept (oH1787 _ (G_ne hq gq1786 (by decide)))).trans (f1762 q hq hn)
  refine lv_aload_n hx hb dX0_copyFrom_145 rfl (lv_at hl 1 rfl) ?_
  refine x_gr C hTH1787 (ci := 0) (k := 11) rfl inX0 (by decide) wF_X0_36 ga1 rg_35 rfl dX0_copyFrom_146 (fun q1813 eq1813 gq1813 => ?_)
  refine lv_iconst (v := 0) hx hb dX0_copyFrom_149 (by decide) ?_
  refine lv_aload_n hx hb dX0_copyFrom_150 rfl (lv_at hl 0 rfl) ?_
  refine x_gr C hTH1787 (ci := 0) (k := 11) rfl inX0 (by decide) wF_X0_36 ga0 rg_1 rfl dX0_copyFrom_151 (fun q1814 eq1814 gq1814 => ?_)
  refine lv_iconst (v := 0) hx hb dX0_copyFrom_154 (by decide) ?_
  refine lv_bipush (v := 12) hx hb dX0_copyFrom_155 (by decide) ?_
  refine x_copy C hTH1787 hSH1787 wM_X0_75 wNT_arraycopy wST_arraycopy wIN_J10 gq1813 gq1814 rg_44 rg_10 (by decide) (by omega) (by omega) (by omega) (by show _ ≤ ((12 : Nat) : Int); omega) (by show _ ≤ ((12 : Nat) : Int); omega) (AE_in gq1814 (by decide)) hl.1 (by decide) dX0_copyFrom_157 (fun H1815 locsH1815 hTH1815 hSH1815 zH1815 oH1815 vH1815 wH1815 => ?_)
  have m1816 := (m1788).trans (fI_kept (oH1815 _ (G_ne ga0 gq1814 (by decide)))).symm
  have m1817 := (m1789).trans (fI_kept (oH1815 _ (G_ne ga1 gq1814 (by decide)))).symm
  have m1818 := (m1790).trans (fI_kept (oH1815 _ (G_ne ga1 gq1814 (by decide)))).symm
  have m1819 := (m1791).trans (fI_kept (oH1815 _ (G_ne ga0 gq1814 (by decide)))).symm
  have m1820 := (m1792).trans (fR_kept (oH1815 _ (G_ne ga1 gq1814 (by decide)))).symm
  have m1821 := (m1793).trans (fR_kept (oH1815 _ (G_ne ga0 gq1814 (by decide)))).symm
  have m1822 := (m1794).trans (fR_kept (oH1815 _ (G_ne ga1 gq1814 (by decide)))).symm
  have m1823 := (m1795).trans (fR_kept (oH1815 _ (G_ne ga0 gq1814 (by decide)))).symm
  have m1824 := (m1796).trans (fR_kept (oH1815 _ (G_ne ga1 gq1814 (by decide)))).symm
  have m1825 := (m1797).trans (fR_kept (oH1815 _ (G_ne ga0 gq1814 (by decide)))).symm
  have m1826 := (m1798).trans (fR_kept (oH1815 _ (G_ne ga1 gq1814 (by decide)))).symm
  have m1827 := (m1799).trans (fR_kept (oH1815 _ (G_ne ga0 gq1814 (by decide)))).symm
  have m1828 := (m1800).trans (fR_kept (oH1815 _ (G_ne ga1 gq1814 (by decide)))).symm
  have m1829 := (m1801).trans (fR_kept (oH1815 _ (G_ne ga0 gq1814 (by decide)))).symm
  have m1830 := (m1802).trans (fR_kept (oH1815 _ (G_ne ga1 gq1814 (by decide)))).symm
  have m1831 := (m1803).trans (fR_kept (oH1815 _ (G_ne ga0 gq1814 (by decide)))).symm
  have m1832 := (m1804).trans (fR_kept (oH1815 _ (G_ne ga1 gq1814 (by decide)))).symm
  have m1833 := (m1805).trans (fR_kept (oH1815 _ (G_ne ga0 gq1814 (by decide)))).symm
  have m1834 := (m1806).trans (fI_kept (oH1815 _ (G_ne ga1 gq1814 (by decide)))).symm
  have m1835 := (m1807).trans (fI_kept (oH1815 _ (G_ne ga0 gq1814 (by decide)))).symm
  have m1836 := (m1808).trans (fI_kept (oH1815 _ (G_ne ga1 gq1814 (by decide)))).symm
  have m1837 := (m1809).trans (fI_kept (oH1815 _ (G_ne ga0 gq1814 (by decide)))).symm
  have m1838 := (m1810).trans (fR_kept (oH1815 _ (G_ne ga1 gq1814 (by decide)))).symm
  have m1839 := (m1811).trans (fR_kept (oH1815 _ (G_ne ga0 gq1814 (by decide)))).symm
  have m1840 := (eq1813).trans (fR_kept (oH1815 _ (G_ne ga1 gq1814 (by decide)))).symm
  have m1841 := (eq1814).trans (fR_kept (oH1815 _ (G_ne ga0 gq1814 (by decide)))).symm
  have f1842 : ∀ q : Nat, G q = some 1 → q ≠ a0 → fI H1815 q (K.1.2 0 14) = fI s.heap q (K.1.2 0 14) := fun q hq hn => (fI_kept (oH1815 _ (G_ne hq gq1814 (by decide)))).trans (f1812 q hq hn)
  refine lv_iconst (v := 0) hx hb dX0_copyFrom_160 (by decide) ?_
  refine lv_istore_n (lv' := [(2, .int 0), (0, .ref a0), (1, .ref a1)]) hx hb dX0_copyFrom_161 rfl hl (by decide) rfl (fun ls1843 hl1844 => ?_)
  exact J162 ((12 - (0 : Int32).toInt).toNat + 1) ls1843 H1815 locsH1815 (0) (bk) (lv_sub hl1844 [1, 2, 0] rfl) hTH1815 hSH1815 (by decide) (by have := i_rng bk; omega) m1816 m1817 f1842 (by omega)

set_option maxHeartbeats 4000000 in
set_option maxRecDepth 100000 in
theorem a_X8_copyFrom_bn (l : Launch) (K : KE) (G : Nat → Option Nat) (H : Heap) {a0 : Nat} {a1 : Nat} {bq : Nat} {oq : Nat} (k1 : Int32) (k4 : Int32) (k5 : Int32) (k10 : Int32) (k13 : Int32) (k16 : Int32) (n1 : Int32) (n4 : Int32) (n5 : Int32) (n10 : Int32) (n13 : Int32) (n16 : Int32) (hT : TY K G H) (ga0 : G a0 = some 0) (ga1 : G a1 = some 34) (gbq : G bq = some 25) (ebq : bq = fR H a0 (K.1.2 8 0)) (goq : G oq = some 59) (eoq : oq = fR H a1 (K.1.2 8 0)) (ek1 : k1 = fI H a0 (K.1.2 8 1)) (ek4 : k4 = fI H a0 (K.1.2 8 4)) (ek5 : k5 = fI H a0 (K.1.2 8 5)) (ek10 : k10 = fI H a0 (K.1.2 8 10)) (ek13 : k13 = fI H a0 (K.1.2 8 13)) (ek16 : k16 = fI H a0 (K.1.2 8 16)) (en1 : n1 = fI H a1 (K.1.2 8 1)) (en4 : n4 = fI H a1 (K.1.2 8 4)) (en5 : n5 = fI H a1 (K.1.2 8 5)) (en10 : n10 = fI H a1 (K.1.2 8 10)) (en13 : n13 = fI H a1 (K.1.2 8 13)) (en16 : n16 = fI H a1 (K.1.2 8 16)) (hy0 : DB H bq) : MX l K yX8_copyFrom cX8_copyFrom 3 none 2 62 0 0 [.ref a0, .ref a1] H (AE G [0, 1, 2, 3, 4, 5, 6, 7, 8, 9, 10, 12, 14, 15, 16, 17, 18, 19, 20, 21, 22, 23, 24, 28, 29, 30, 31, 32, 33] H.size) (fun v H1 => ∃ (t0 : Int32) (t1 : Int32) (t2 : Int32) (t3 : Int32) (t4 : Int32) (t5 : Int32), v = none ∧ t0 = fI H1 a0 (K.1.2 8 1) ∧ t1 = fI H1 a0 (K.1.2 8 4) ∧ t2 = fI H1 a0 (K.1.2 8 5) ∧ t3 = fI H1 a0 (K.1.2 8 10) ∧ t4 = fI H1 a0 (K.1.2 8 13) ∧ t5 = fI H1 a0 (K.1.2 8 16) ∧ (t0.toInt = n1.toInt ∧ t1.toInt = n4.toInt ∧ t2.toInt = n5.toInt ∧ t3.toInt = n10.toInt ∧ t4.toInt = n13.toInt ∧ t5.toInt = n16.toInt) ∧ bq = fR H1 a0 (K.1.2 8 0) ∧ (∀ j : Nat, j < 10 → j < n1.toNatClampNeg → fI H1 (fR H1 bq j) (K.1.2 0 14) = fI H1 (fR H1 oq j) (K.1.2 0 14)) ∧ TY K G H1) := by
  refine MX.of (by decide +kernel) (Nat.le_of_ble_eq_true rfl) ?_
  intro p e s m below meth c ls Q C hH hl hQ
  subst hH
  have C : CX p K s m _ meth c RX8 cX8_copyFrom 3 none "copyFrom" := C
  obtain ⟨hx, hb, hml, hown, hts, hKT, hr, hlocks, hnm⟩ := id C
  have hl : lv_has ls 3 [(0, .ref a0), (1, .ref a1)] := hl
  have hS : va_S (AE G [0, 1, 2, 3, 4, 5, 6, 7, 8, 9, 10, 12, 14, 15, 16, 17, 18, 19, 20, 21, 22, 23, 24, 28, 29, 30, 31, 32, 33] s.heap.size) s.heap s.heap [] := va_S.rf
  have n_0 : (0 : Int32).toInt = 0 := rfl
  have n_1 : (1 : Int32).toInt = 1 := rfl
  have n_2 : (2 : Int32).toInt = 2 := rfl
  have n_4 : (4 : Int32).toInt = 4 := rfl
  have n_8 : (8 : Int32).toInt = 8 := rfl
  have n_20 : (20 : Int32).toInt = 20 := rfl
  have bk1 := ty_fi (x := k1) (k := 1) ek1 hT ga0 rg_0 rfl
  have bk4 := ty_fi (x := k4) (k := 4) ek4 hT ga0 rg_0 rfl
  have bk5 := ty_fi (x := k5) (k := 5) ek5 hT ga0 rg_0 rfl
  have bk10 := ty_fi (x := k10) (k := 10) ek10 hT ga0 rg_0 rfl
  have bk13 := ty_fi (x := k13) (k := 13) ek13 hT ga0 rg_0 rfl
  have bk16 := ty_fi (x := k16) (k := 16) ek16 hT ga0 rg_0 rfl
  have bn1 := ty_fi (x := n1) (k := 1) en1 hT ga1 rg_34 rfl
  have bn4 := ty_fi (x := n4) (k := 4) en4 hT ga1 rg_34 rfl
  have bn5 := ty_fi (x := n5) (k := 5) en5 hT ga1 rg_34 rfl
  have bn10 := ty_fi (x := n10) (k := 10) en10 hT ga1 rg_34 rfl
  have bn13 := ty_fi (x := n13) (k := 13) en13 hT ga1 rg_34 rfl
  have bn16 := ty_fi (x := n16) (k := 16) en16 hT ga1 rg_34 rfl
  have hdb := hy0
  have gB := bar_g hT gbq
  have gO := bar_h hT goq
  have f0_rb : ∀ j : Nat, fR s.heap bq j = fR s.heap bq j := fun _ => rfl
  have f0_ro : ∀ j : Nat, fR s.heap oq j = fR s.heap oq j := fun _ => rfl
  have f0_so : ∀ q : Nat, G q = some 35 → fI s.heap q (K.1.2 0 14) = fI s.heap q (K.1.2 0 14) := fun _ _ => rfl
  have f0_cb : ∀ j : Nat, j < 10 → j < 0 → fI s.heap (fR s.heap bq j) (K.1.2 0 14) = fI s.heap (fR s.heap oq j) (K.1.2 0 14) := fun j _ hj => absurd hj (Nat.not_lt_zero j)
  have J2 : ∀ (nf : Nat) (ls3322 : Array Slot) (H3321 : Heap) (locsH3321 : List Loc) (x3324 : Int32) (x3325 : Int32) (x3326 : Int32) (x3327 : Int32) (x3328 : Int32) (x3329 : Int32) (x3330 : Int32), lv_has ls3322 3 [(0, .ref a0), (1, .ref a1), (2, .int x3324)] → TY K G H3321 → va_S (AE G [0, 1, 2, 3, 4, 5, 6, 7, 8, 9, 10, 12, 14, 15, 16, 17, 18, 19, 20, 21, 22, 23, 24, 28, 29, 30, 31, 32, 33] s.heap.size) s.heap H3321 locsH3321 → (0 ≤ x3324.toInt ∧ x3324.toInt ≤ 10) → (0 ≤ x3325.toInt ∧ x3325.toInt ≤ 10) → (0 ≤ x3326.toInt ∧ x3326.toInt ≤ 1) → (0 ≤ x3328.toInt ∧ x3328.toInt ≤ 20) → (0 ≤ x3329.toInt ∧ x3329.toInt ≤ 8) → (0 ≤ x3330.toInt ∧ x3330.toInt ≤ 8) → (x3325 = fI H3321 a0 (K.1.2 8 1)) → (x3326 = fI H3321 a0 (K.1.2 8 4)) → (x3327 = fI H3321 a0 (K.1.2 8 5)) → (x3328 = fI H3321 a0 (K.1.2 8 10)) → (x3329 = fI H3321 a0 (K.1.2 8 13)) → (x3330 = fI H3321 a0 (K.1.2 8 16)) → (bq = fR H3321 a0 (K.1.2 8 0)) → (oq = fR H3321 a1 (K.1.2 8 0)) → (n1 = fI H3321 a1 (K.1.2 8 1)) → (n4 = fI H3321 a1 (K.1.2 8 4)) → (n5 = fI H3321 a1 (K.1.2 8 5)) → (n10 = fI H3321 a1 (K.1.2 8 10)) → (n13 = fI H3321 a1 (K.1.2 8 13)) → (n16 = fI H3321 a1 (K.1.2 8 16)) → (∀ j : Nat, fR H3321 bq j = fR s.heap bq j) → (∀ j : Nat, fR H3321 oq j = fR s.heap oq j) → (∀ q : Nat, G q = some 35 → fI H3321 q (K.1.2 0 14) = fI s.heap q (K.1.2 0 14)) → (∀ j : Nat, j < 10 → j < x3324.toNatClampNeg → fI H3321 (fR s.heap bq j) (K.1.2 0 14) = fI s.heap (fR s.heap oq j) (K.1.2 0 14)) → (10 - x3324.toInt < (nf : Int)) → W p l e ({ frames := 2, cells := 0, slots := 0, locals := 62 } : Room) s m (([.ref a0, .ref a1] : List Value).toArray) below meth c H3321 locsH3321 0 0 Q (F0 m 2 ls3322 []) := by
    intro nf
    induction nf with
    | zero =>
      intro ls3322 H3321 locsH3321 x3324 x3325 x3326 x3327 x3328 x3329 x3330 hl3323 hTH3321 hSH3321 bx3324 bx3325 bx3326 bx3328 bx3329 bx3330 ex3325 ex3326 ex3327 ex3328 ex3329 ex3330 cy3331_0 cy3331_1 cy3331_2 cy3331_3 cy3331_4 cy3331_5 cy3331_6 cy3331_7 fy3331_rb fy3331_ro fy3331_so fy3331_cb hm2
      have rx3327 := i_rng x3327
      exfalso
      omega
    | succ nf ih2 =>
      intro ls3322 H3321 locsH3321 x3324 x3325 x3326 x3327 x3328 x3329 x3330 hl3323 hTH3321 hSH3321 bx3324 bx3325 bx3326 bx3328 bx3329 bx3330 ex3325 ex3326 ex3327 ex3328 ex3329 ex3330 cy3331_0 cy3331_1 cy3331_2 cy3331_3 cy3331_4 cy3331_5 cy3331_6 cy3331_7 fy3331_rb fy3331_ro fy3331_so fy3331_cb hm2
      have rx3327 := i_rng x3327
      have J41 : ∀ (nf : Nat) (ls3333 : Array Slot) (H3332 : Heap) (locsH3332 : List Loc) (x3335 : Int32) (x3336 : Int32) (x3337 : Int32) (x3338 : Int32) (x3339 : Int32) (x3340 : Int32) (x3341 : Int32), lv_has ls3333 3 [(0, .ref a0), (1, .ref a1), (2, .int x3335)] → TY K G H3332 → va_S (AE G [0, 1, 2, 3, 4, 5, 6, 7, 8, 9, 10, 12, 14, 15, 16, 17, 18, 19, 20, 21, 22, 23, 24, 28, 29, 30, 31, 32, 33] s.heap.size) s.heap H3332 locsH3332 → (0 ≤ x3335.toInt ∧ x3335.toInt ≤ 2) → (0 ≤ x3336.toInt ∧ x3336.toInt ≤ 10) → (0 ≤ x3337.toInt ∧ x3337.toInt ≤ 1) → (0 ≤ x3339.toInt ∧ x3339.toInt ≤ 20) → (0 ≤ x3340.toInt ∧ x3340.toInt ≤ 8) → (0 ≤ x3341.toInt ∧ x3341.toInt ≤ 8) → (x3336 = fI H3332 a0 (K.1.2 8 1)) → (x3337 = fI H3332 a0 (K.1.2 8 4)) → (x3338 = fI H3332 a0 (K.1.2 8 5)) → (x3339 = fI H3332 a0 (K.1.2 8 10)) → (x3340 = fI H3332 a0 (K.1.2 8 13)) → (x3341 = fI H3332 a0 (K.1.2 8 16)) → (bq = fR H3332 a0 (K.1.2 8 0)) → (oq = fR H3332 a1 (K.1.2 8 0)) → (n1 = fI H3332 a1 (K.1.2 8 1)) → (n4 = fI H3332 a1 (K.1.2 8 4)) → (n5 = fI H3332 a1 (K.1.2 8 5)) → (n10 = fI H3332 a1 (K.1.2 8 10)) → (n13 = fI H3332 a1 (K.1.2 8 13)) → (n16 = fI H3332 a1 (K.1.2 8 16)) → (∀ j : Nat, fR H3332 bq j = fR s.heap bq j) → (∀ j : Nat, fR H3332 oq j = fR s.heap oq j) → (∀ q : Nat, G q = some 35 → fI H3332 q (K.1.2 0 14) = fI s.heap q (K.1.2 0 14)) → (∀ j : Nat, j < 10 → j < n1.toNatClampNeg → fI H3332 (fR s.heap bq j) (K.1.2 0 14) = fI s.heap (fR s.heap oq j) (K.1.2 0 14)) → (2 - x3335.toInt < (nf : Int)) → (x3336.toInt = n1.toInt) → W p l e ({ frames := 2, cells := 0, slots := 0, locals := 62 } : Room) s m (([.ref a0, .ref a1] : List Value).toArray) below meth c H3332 locsH3332 0 0 Q (F0 m 41 ls3333 []) := by
        intro nf
        induction nf with
        | zero =>
          intro ls3333 H3332 locsH3332 x3335 x3336 x3337 x3338 x3339 x3340 x3341 hl3334 hTH3332 hSH3332 bx3335 bx3336 bx3337 bx3339 bx3340 bx3341 ex3336 ex3337 ex3338 ex3339 ex3340 ex3341 cy3342_0 cy3342_1 cy3342_2 cy3342_3 cy3342_4 cy3342_5 cy3342_6 cy3342_7 fy3342_rb fy3342_ro fy3342_so fy3342_cb hm41 iv41
          have rx3338 := i_rng x3338
          exfalso
          omega
        | succ nf ih41 =>
          intro ls3333 H3332 locsH3332 x3335 x3336 x3337 x3338 x3339 x3340 x3341 hl3334 hTH3332 hSH3332 bx3335 bx3336 bx3337 bx3339 bx3340 bx3341 ex3336 ex3337 ex3338 ex3339 ex3340 ex3341 cy3342_0 cy3342_1 cy3342_2 cy3342_3 cy3342_4 cy3342_5 cy3342_6 cy3342_7 fy3342_rb fy3342_ro fy3342_so fy3342_cb hm41 iv41
          have rx3338 := i_rng x3338
          have J69 : ∀ (nf : Nat) (ls3344 : Array Slot) (H3343 : Heap) (locsH3343 : List Loc) (x3346 : Int32) (x3347 : Int32) (x3348 : Int32) (x3349 : Int32) (x3350 : Int32) (x3351 : Int32) (x3352 : Int32), lv_has ls3344 3 [(0, .ref a0), (1, .ref a1), (2, .int x3346)] → TY K G H3343 → va_S (AE G [0, 1, 2, 3, 4, 5, 6, 7, 8, 9, 10, 12, 14, 15, 16, 17, 18, 19, 20, 21, 22, 23, 24, 28, 29, 30, 31, 32, 33] s.heap.size) s.heap H3343 locsH3343 → (0 ≤ x3346.toInt ∧ x3346.toInt ≤ 4) → (0 ≤ x3347.toInt ∧ x3347.toInt ≤ 10) → (0 ≤ x3348.toInt ∧ x3348.toInt ≤ 1) → (0 ≤ x3350.toInt ∧ x3350.toInt ≤ 20) → (0 ≤ x3351.toInt ∧ x3351.toInt ≤ 8) → (0 ≤ x3352.toInt ∧ x3352.toInt ≤ 8) → (x3347 = fI H3343 a0 (K.1.2 8 1)) → (x3348 = fI H3343 a0 (K.1.2 8 4)) → (x3349 = fI H3343 a0 (K.1.2 8 5)) → (x3350 = fI H3343 a0 (K.1.2 8 10)) → (x3351 = fI H3343 a0 (K.1.2 8 13)) → (x3352 = fI H3343 a0 (K.1.2 8 16)) → (bq = fR H3343 a0 (K.1.2 8 0)) → (oq = fR H3343 a1 (K.1.2 8 0)) → (n1 = fI H3343 a1 (K.1.2 8 1)) → (n4 = fI H3343 a1 (K.1.2 8 4)) → (n5 = fI H3343 a1 (K.1.2 8 5)) → (n10 = fI H3343 a1 (K.1.2 8 10)) → (n13 = fI H3343 a1 (K.1.2 8 13)) → (n16 = fI H3343 a1 (K.1.2 8 16)) → (∀ j : Nat, fR H3343 bq j = fR s.heap bq j) → (∀ j : Nat, fR H3343 oq j = fR s.heap oq j) → (∀ q : Nat, G q = some 35 → fI H3343 q (K.1.2 0 14) = fI s.heap q (K.1.2 0 14)) → (∀ j : Nat, j < 10 → j < n1.toNatClampNeg → fI H3343 (fR s.heap bq j) (K.1.2 0 14) = fI s.heap (fR s.heap oq j) (K.1.2 0 14)) → (4 - x3346.toInt < (nf : Int)) → (x3347.toInt = n1.toInt) → W p l e ({ frames := 2, cells := 0, slots := 0, locals := 62 } : Room) s m (([.ref a0, .ref a1] : List Value).toArray) below meth c H3343 locsH3343 0 0 Q (F0 m 69 ls3344 []) := by
            intro nf
            induction nf with
            | zero =>
              intro ls3344 H3343 locsH3343 x3346 x3347 x3348 x3349 x3350 x3351 x3352 hl3345 hTH3343 hSH3343 bx3346 bx3347 bx3348 bx3350 bx3351 bx3352 ex3347 ex3348 ex3349 ex3350 ex3351 ex3352 cy3353_0 cy3353_1 cy3353_2 cy3353_3 cy3353_4 cy3353_5 cy3353_6 cy3353_7 fy3353_rb fy3353_ro fy3353_so fy3353_cb hm69 iv69
              have rx3349 := i_rng x3349
              exfalso
              omega
            | succ nf ih69 =>
              intro ls3344 H3343 locsH3343 x3346 x3347 x3348 x3349 x3350 x3351 x3352 hl3345 hTH3343 hSH3343 bx3346 bx3347 bx3348 bx3350 bx3351 bx3352 ex3347 ex3348 ex3349 ex3350 ex3351 ex3352 cy3353_0 cy3353_1 cy3353_2 cy3353_3 cy3353_4 cy3353_5 cy3353_6 cy3353_7 fy3353_rb fy3353_ro fy3353_so fy3353_cb hm69 iv69
              have rx3349 := i_rng x3349
              refine lv_iload_n hx hb dX8_copyFrom_69 rfl (lv_at hl3345 2 rfl) ?_
              refine lv_iconst (v := 4) hx hb dX8_copyFrom_70 (by decide) ?_
              refine lv_icmp_ge (tgt := 95) hx hb dX8_copyFrom_71 (by decide) (fun c3354 => ?_) (fun c3354 => ?_)
              · have k3355 := i_le c3354
                refine lv_aload_n hx hb dX8_copyFrom_95 rfl (lv_at hl3345 0 rfl) ?_
                refine lv_aload_n hx hb dX8_copyFrom_96 rfl (lv_at hl3345 1 rfl) ?_
                refine x_gi C hTH3343 (ci := 8) (k := 4) rfl inX8 (by decide) wF_X8_54 ga1 rg_34 rfl dX8_copyFrom_97 (fun x3356 ex3356 bx3356 => ?_)
                have ux3356 : n4 = x3356 := (cy3353_3).trans ex3356.symm
                subst ux3356
                refine x_put C hTH3343 hSH3343 (ci := 8) (k := 4) (v := .int n4) (ty0 := tyX8) rfl inX8 tyX8_ok nmX8 (by decide) rfl wF_X8_54 ga0 rg_0 rfl rfl (okI (by have := i_rng n4; omega) (by have := i_rng n4; omega)) rfl rfl (AE_in ga0 (by decide)) dX8_copyFrom_100 (fun H3357 locsH3357 hTH3357 hSH3357 wH3357 => ?_)
                have f3358 : ∀ j : Nat, fR H3357 bq j = fR s.heap bq j := fun j => (Wr.neR wH3357 (Or.inl (G_ne gbq ga0 (by decide)))).trans (fy3353_rb j)
                have f3359 : ∀ j : Nat, fR H3357 oq j = fR s.heap oq j := fun j => (Wr.neR wH3357 (Or.inl (G_ne goq ga0 (by decide)))).trans (fy3353_ro j)
                have f3360 : ∀ q : Nat, G q = some 35 → fI H3357 q (K.1.2 0 14) = fI s.heap q (K.1.2 0 14) := fun q hq => (Wr.neI wH3357 (Or.inl (G_ne hq ga0 (by decide)))).trans (fy3353_so q hq)
                have f3361 : ∀ j : Nat, j < 10 → j < n1.toNatClampNeg → fI H3357 (fR s.heap bq j) (K.1.2 0 14) = fI s.heap (fR s.heap oq j) (K.1.2 0 14) := fun j h10 hj => (Wr.neI wH3357 (Or.inl (G_ne (gB j h10) ga0 (by decide)))).trans (fy3353_cb j h10 hj)
                have m3362 := ex3347.trans (Wr.neI wH3357 (Or.inr (x_apart hKT hts inX8 tyX8 tyX8_ok nmX8 rfl 1 4 (by decide) (by decide) (by decide)))).symm
                have m3364 := ex3349.trans (Wr.neI wH3357 (Or.inr (x_apart hKT hts inX8 tyX8 tyX8_ok nmX8 rfl 5 4 (by decide) (by decide) (by decide)))).symm
                have m3365 := ex3350.trans (Wr.neI wH3357 (Or.inr (x_apart hKT hts inX8 tyX8 tyX8_ok nmX8 rfl 10 4 (by decide) (by decide) (by decide)))).symm
                have m3366 := ex3351.trans (Wr.neI wH3357 (Or.inr (x_apart hKT hts inX8 tyX8 tyX8_ok nmX8 rfl 13 4 (by decide) (by decide) (by decide)))).symm
                have m3367 := ex3352.trans (Wr.neI wH3357 (Or.inr (x_apart hKT hts inX8 tyX8 tyX8_ok nmX8 rfl 16 4 (by decide) (by decide) (by decide)))).symm
                have m3368 := cy3353_0.trans (Wr.neR wH3357 (Or.inr (x_apart hKT hts inX8 tyX8 tyX8_ok nmX8 rfl 0 4 (by decide) (by decide) (by decide)))).symm
                have m3369 := cy3353_1.trans (Wr.neR wH3357 (Or.inl (G_ne ga1 ga0 (by decide)))).symm
                have m3370 := cy3353_2.trans (Wr.neI wH3357 (Or.inl (G_ne ga1 ga0 (by decide)))).symm
                have m3371 := cy3353_3.trans (Wr.neI wH3357 (Or.inl (G_ne ga1 ga0 (by decide)))).symm
                have m3372 := cy3353_4.trans (Wr.neI wH3357 (Or.inl (G_ne ga1 ga0 (by decide)))).symm
                have m3373 := cy3353_5.trans (Wr.neI wH3357 (Or.inl (G_ne ga1 ga0 (by decide)))).symm
                have m3374 := cy3353_6.trans (Wr.neI wH3357 (Or.inl (G_ne ga1 ga0 (by decide)))).symm
                have m3375 := cy3353_7.trans (Wr.neI wH3357 (Or.inl (G_ne ga1 ga0 (by decide)))).symm
                have m3376 := Wr.I wH3357
                have m3376 := m3376.symm
                refine lv_aload_n hx hb dX8_copyFrom_103 rfl (lv_at hl3345 0 rfl) ?_
                refine lv_aload_n hx hb dX8_copyFrom_104 rfl (lv_at hl3345 1 rfl) ?_
                refine x_gi C hTH3357 (ci := 8) (k := 5) rfl inX8 (by decide) wF_X8_26 ga1 rg_34 rfl dX8_copyFrom_105 (fun x3377 ex3377 bx3377 => ?_)
                have ux3377 : n5 = x3377 := (m3372).trans ex3377.symm
                subst ux3377
                refine x_put C hTH3357 hSH3357 (ci := 8) (k := 5) (v := .int n5) (ty0 := tyX8) rfl inX8 tyX8_ok nmX8 (by decide) rfl wF_X8_26 ga0 rg_0 rfl rfl (okI (by have := i_rng n5; omega) (by have := i_rng n5; omega)) rfl rfl (AE_in ga0 (by decide)) dX8_copyFrom_108 (fun H3378 locsH3378 hTH3378 hSH3378 wH3378 => ?_)
                have f3379 : ∀ j : Nat, fR H3378 bq j = fR s.heap bq j := fun j => (Wr.neR wH3378 (Or.inl (G_ne gbq ga0 (by decide)))).trans (f3358 j)
                have f3380 : ∀ j : Nat, fR H3378 oq j = fR s.heap oq j := fun j => (Wr.neR wH3378 (Or.inl (G_ne goq ga0 (by decide)))).trans (f3359 j)
                have f3381 : ∀ q : Nat, G q = some 35 → fI H3378 q (K.1.2 0 14) = fI s.heap q (K.1.2 0 14) := fun q hq => (Wr.neI wH3378 (Or.inl (G_ne hq ga0 (by decide)))).trans (f3360 q hq)
                have f3382 : ∀ j : Nat, j < 10 → j < n1.toNatClampNeg → fI H3378 (fR s.heap bq j) (K.1.2 0 14) = fI s.heap (fR s.heap oq j) (K.1.2 0 14) := fun j h10 hj => (Wr.neI wH3378 (Or.inl (G_ne (gB j h10) ga0 (by decide)))).trans (f3361 j h10 hj)
                have m3383 := m3362.trans (Wr.neI wH3378 (Or.inr (x_apart hKT hts inX8 tyX8 tyX8_ok nmX8 rfl 1 5 (by decide) (by decide) (by decide)))).symm
                have m3385 := m3365.trans (Wr.neI wH3378 (Or.inr (x_apart hKT hts inX8 tyX8 tyX8_ok nmX8 rfl 10 5 (by decide) (by decide) (by decide)))).symm
                have m3386 := m3366.trans (Wr.neI wH3378 (Or.inr (x_apart hKT hts inX8 tyX8 tyX8_ok nmX8 rfl 13 5 (by decide) (by decide) (by decide)))).symm
                have m3387 := m3367.trans (Wr.neI wH3378 (Or.inr (x_apart hKT hts inX8 tyX8 tyX8_ok nmX8 rfl 16 5 (by decide) (by decide) (by decide)))).symm
                have m3388 := m3368.trans (Wr.neR wH3378 (Or.inr (x_apart hKT hts inX8 tyX8 tyX8_ok nmX8 rfl 0 5 (by decide) (by decide) (by decide)))).symm
                have m3389 := m3369.trans (Wr.neR wH3378 (Or.inl (G_ne ga1 ga0 (by decide)))).symm
                have m3390 := m3370.trans (Wr.neI wH3378 (Or.inl (G_ne ga1 ga0 (by decide)))).symm
                have m3391 := m3371.trans (Wr.neI wH3378 (Or.inl (G_ne ga1 ga0 (by decide)))).symm
                have m3392 := m3372.trans (Wr.neI wH3378 (Or.inl (G_ne ga1 ga0 (by decide)))).symm
                have m3393 := m3373.trans (Wr.neI wH3378 (Or.inl (G_ne ga1 ga0 (by decide)))).symm
                have m3394 := m3374.trans (Wr.neI wH3378 (Or.inl (G_ne ga1 ga0 (by decide)))).symm
                have m3395 := m3375.trans (Wr.neI wH3378 (Or.inl (G_ne ga1 ga0 (by decide)))).symm
                have m3396 := m3376.trans (Wr.neI wH3378 (Or.inr (x_apart hKT hts inX8 tyX8 tyX8_ok nmX8 rfl 4 5 (by decide) (by decide) (by decide)))).symm
                have m3397 := Wr.I wH3378
                have m3397 := m3397.symm
                refine lv_aload_n hx hb dX8_copyFrom_111 rfl (lv_at hl3345 0 rfl) ?_
                refine lv_aload_n hx hb dX8_copyFrom_112 rfl (lv_at hl3345 1 rfl) ?_
                refine x_gi C hTH3378 (ci := 8) (k := 6) rfl inX8 (by decide) wF_X8_67 ga1 rg_34 rfl dX8_copyFrom_113 (fun x3398 ex3398 bx3398 => ?_)
                refine x_put C hTH3378 hSH3378 (ci := 8) (k := 6) (v := .int x3398) (ty0 := tyX8) rfl inX8 tyX8_ok nmX8 (by decide) rfl wF_X8_67 ga0 rg_0 rfl rfl (okI (by have := i_rng x3398; omega) (by have := i_rng x3398; omega)) rfl rfl (AE_in ga0 (by decide)) dX8_copyFrom_116 (fun H3399 locsH3399 hTH3399 hSH3399 wH3399 => ?_)
                have f3400 : ∀ j : Nat, fR H3399 bq j = fR s.heap bq j := fun j => (Wr.neR wH3399 (Or.inl (G_ne gbq ga0 (by decide)))).trans (f3379 j)
                have f3401 : ∀ j : Nat, fR H3399 oq j = fR s.heap oq j := fun j => (Wr.neR wH3399 (Or.inl (G_ne goq ga0 (by decide)))).trans (f3380 j)
                have f3402 : ∀ q : Nat, G q = some 35 → fI H3399 q (K.1.2 0 14) = fI s.heap q (K.1.2 0 14) := fun q hq => (Wr.neI wH3399 (Or.inl (G_ne hq ga0 (by decide)))).trans (f3381 q hq)
                have f3403 : ∀ j : Nat, j < 10 → j < n1.toNatClampNeg → fI H3399 (fR s.heap bq j) (K.1.2 0 14) = fI s.heap (fR s.heap oq j) (K.1.2 0 14) := fun j h10 hj => (Wr.neI wH3399 (Or.inl (G_ne (gB j h10) ga0 (by decide)))).trans (f3382 j h10 hj)
                have m3404 := m3383.trans (Wr.neI wH3399 (Or.inr (x_apart hKT hts inX8 tyX8 tyX8_ok nmX8 rfl 1 6 (by decide) (by decide) (by decide)))).symm
                have m3405 := m3385.trans (Wr.neI wH3399 (Or.inr (x_apart hKT hts inX8 tyX8 tyX8_ok nmX8 rfl 10 6 (by decide) (by decide) (by decide)))).symm
                have m3406 := m3386.trans (Wr.neI wH3399 (Or.inr (x_apart hKT hts inX8 tyX8 tyX8_ok nmX8 rfl 13 6 (by decide) (by decide) (by decide)))).symm
                have m3407 := m3387.trans (Wr.neI wH3399 (Or.inr (x_apart hKT hts inX8 tyX8 tyX8_ok nmX8 rfl 16 6 (by decide) (by decide) (by decide)))).symm
                have m3408 := m3388.trans (Wr.neR wH3399 (Or.inr (x_apart hKT hts inX8 tyX8 tyX8_ok nmX8 rfl 0 6 (by decide) (by decide) (by decide)))).symm
                have m3409 := m3389.trans (Wr.neR wH3399 (Or.inl (G_ne ga1 ga0 (by decide)))).symm
                have m3410 := m3390.trans (Wr.neI wH3399 (Or.inl (G_ne ga1 ga0 (by decide)))).symm
                have m3411 := m3391.trans (Wr.neI wH3399 (Or.inl (G_ne ga1 ga0 (by decide)))).symm
                have m3412 := m3392.trans (Wr.neI wH3399 (Or.inl (G_ne ga1 ga0 (by decide)))).symm
                have m3413 := m3393.trans (Wr.neI wH3399 (Or.inl (G_ne ga1 ga0 (by decide)))).symm
                have m3414 := m3394.trans (Wr.neI wH3399 (Or.inl (G_ne ga1 ga0 (by decide)))).symm
                have m3415 := m3395.trans (Wr.neI wH3399 (Or.inl (G_ne ga1 ga0 (by decide)))).symm
                have m3416 := m3396.trans (Wr.neI wH3399 (Or.inr (x_apart hKT hts inX8 tyX8 tyX8_ok nmX8 rfl 4 6 (by decide) (by decide) (by decide)))).symm
                have m3417 := m3397.trans (Wr.neI wH3399 (Or.inr (x_apart hKT hts inX8 tyX8 tyX8_ok nmX8 rfl 5 6 (by decide) (by decide) (by decide)))).symm
                have m3418 := ex3398.trans (Wr.neI wH3399 (Or.inl (G_ne ga1 ga0 (by decide)))).symm
                have m3419 := Wr.I wH3399
                have m3419 := m3419.symm
                refine lv_aload_n hx hb dX8_copyFrom_119 rfl (lv_at hl3345 0 rfl) ?_
                refine lv_aload_n hx hb dX8_copyFrom_120 rfl (lv_at hl3345 1 rfl) ?_
                refine x_gi C hTH3399 (ci := 8) (k := 7) rfl inX8 (by decide) wF_X8_30 ga1 rg_34 rfl dX8_copyFrom_121 (fun x3420 ex3420 bx3420 => ?_)
                refine x_put C hTH3399 hSH3399 (ci := 8) (k := 7) (v := .int x3420) (ty0 := tyX8) rfl inX8 tyX8_ok nmX8 (by decide) rfl wF_X8_30 ga0 rg_0 rfl rfl (okI (by have := i_rng x3420; omega) (by have := i_rng x3420; omega)) rfl rfl (AE_in ga0 (by decide)) dX8_copyFrom_124 (fun H3421 locsH3421 hTH3421 hSH3421 wH3421 => ?_)
                have f3422 : ∀ j : Nat, fR H3421 bq j = fR s.heap bq j := fun j => (Wr.neR wH3421 (Or.inl (G_ne gbq ga0 (by decide)))).trans (f3400 j)
                have f3423 : ∀ j : Nat, fR H3421 oq j = fR s.heap oq j := fun j => (Wr.neR wH3421 (Or.inl (G_ne goq ga0 (by decide)))).trans (f3401 j)
                have f3424 : ∀ q : Nat, G q = some 35 → fI H3421 q (K.1.2 0 14) = fI s.heap q (K.1.2 0 14) := fun q hq => (Wr.neI wH3421 (Or.inl (G_ne hq ga0 (by decide)))).trans (f3402 q hq)
                have f3425 : ∀ j : Nat, j < 10 → j < n1.toNatClampNeg → fI H3421 (fR s.heap bq j) (K.1.2 0 14) = fI s.heap (fR s.heap oq j) (K.1.2 0 14) := fun j h10 hj => (Wr.neI wH3421 (Or.inl (G_ne (gB j h10) ga0 (by decide)))).trans (f3403 j h10 hj)
                have m3426 := m3404.trans (Wr.neI wH3421 (Or.inr (x_apart hKT hts inX8 tyX8 tyX8_ok nmX8 rfl 1 7 (by decide) (by decide) (by decide)))).symm
                have m3427 := m3405.trans (Wr.neI wH3421 (Or.inr (x_apart hKT hts inX8 tyX8 tyX8_ok nmX8 rfl 10 7 (by decide) (by decide) (by decide)))).symm
                have m3428 := m3406.trans (Wr.neI wH3421 (Or.inr (x_apart hKT hts inX8 tyX8 tyX8_ok nmX8 rfl 13 7 (by decide) (by decide) (by decide)))).symm
                have m3429 := m3407.trans (Wr.neI wH3421 (Or.inr (x_apart hKT hts inX8 tyX8 tyX8_ok nmX8 rfl 16 7 (by decide) (by decide) (by decide)))).symm
                have m3430 := m3408.trans (Wr.neR wH3421 (Or.inr (x_apart hKT hts inX8 tyX8 tyX8_ok nmX8 rfl 0 7 (by decide) (by decide) (by decide)))).symm
                have m3431 := m3409.trans (Wr.neR wH3421 (Or.inl (G_ne ga1 ga0 (by decide)))).symm
                have m3432 := m3410.trans (Wr.neI wH3421 (Or.inl (G_ne ga1 ga0 (by decide)))).symm
                have m3433 := m3411.trans (Wr.neI wH3421 (Or.inl (G_ne ga1 ga0 (by decide)))).symm
                have m3434 := m3412.trans (Wr.neI wH3421 (Or.inl (G_ne ga1 ga0 (by decide)))).symm
                have m3435 := m3413.trans (Wr.neI wH3421 (Or.inl (G_ne ga1 ga0 (by decide)))).symm
                have m3436 := m3414.trans (Wr.neI wH3421 (Or.inl (G_ne ga1 ga0 (by decide)))).symm
                have m3437 := m3415.trans (Wr.neI wH3421 (Or.inl (G_ne ga1 ga0 (by decide)))).symm
                have m3438 := m3416.trans (Wr.neI wH3421 (Or.inr (x_apart hKT hts inX8 tyX8 tyX8_ok nmX8 rfl 4 7 (by decide) (by decide) (by decide)))).symm
                have m3439 := m3417.trans (Wr.neI wH3421 (Or.inr (x_apart hKT hts inX8 tyX8 tyX8_ok nmX8 rfl 5 7 (by decide) (by decide) (by decide)))).symm
                have m3440 := m3418.trans (Wr.neI wH3421 (Or.inl (G_ne ga1 ga0 (by decide)))).symm
                have m3441 := m3419.trans (Wr.neI wH3421 (Or.inr (x_apart hKT hts inX8 tyX8 tyX8_ok nmX8 rfl 6 7 (by decide) (by decide) (by decide)))).symm
                have m3442 := ex3420.trans (Wr.neI wH3421 (Or.inl (G_ne ga1 ga0 (by decide)))).symm
                have m3443 := Wr.I wH3421
                have m3443 := m3443.symm
                refine lv_aload_n hx hb dX8_copyFrom_127 rfl (lv_at hl3345 1 rfl) ?_
                refine x_gr C hTH3421 (ci := 8) (k := 8) rfl inX8 (by decide) wF_X8_33 ga1 rg_34 rfl dX8_copyFrom_128 (fun q3444 eq3444 gq3444 => ?_)
                refine lv_iconst (v := 0) hx hb dX8_copyFrom_131 (by decide) ?_
                refine lv_aload_n hx hb dX8_copyFrom_132 rfl (lv_at hl3345 0 rfl) ?_
                refine x_gr C hTH3421 (ci := 8) (k := 8) rfl inX8 (by decide) wF_X8_33 ga0 rg_0 rfl dX8_copyFrom_133 (fun q3445 eq3445 gq3445 => ?_)
                refine lv_iconst (v := 0) hx hb dX8_copyFrom_136 (by decide) ?_
                refine lv_bipush (v := 20) hx hb dX8_copyFrom_137 (by decide) ?_
                refine x_copy C hTH3421 hSH3421 wM_X8_70 wNT_arraycopy wST_arraycopy wIN_J10 gq3444 gq3445 rg_62 rg_28 (by decide) (by omega) (by omega) (by omega) (by show _ ≤ ((20 : Nat) : Int); omega) (by show _ ≤ ((20 : Nat) : Int); omega) (AE_in gq3445 (by decide)) hl3345.1 (by decide) dX8_copyFrom_139 (fun H3446 locsH3446 hTH3446 hSH3446 zH3446 oH3446 vH3446 wH3446 => ?_)
                have m3447 := (m3426).trans (fI_kept (oH3446 _ (G_ne ga0 gq3445 (by decide)))).symm
                have m3448 := (m3427).trans (fI_kept (oH3446 _ (G_ne ga0 gq3445 (by decide)))).symm
                have m3449 := (m3428).trans (fI_kept (oH3446 _ (G_ne ga0 gq3445 (by decide)))).symm
                have m3450 := (m3429).trans (fI_kept (oH3446 _ (G_ne ga0 gq3445 (by decide)))).symm
                have m3451 := (m3430).trans (fR_kept (oH3446 _ (G_ne ga0 gq3445 (by decide)))).symm
                have m3452 := (m3431).trans (fR_kept (oH3446 _ (G_ne ga1 gq3445 (by decide)))).symm
                have m3453 := (m3432).trans (fI_kept (oH3446 _ (G_ne ga1 gq3445 (by decide)))).symm
                have m3454 := (m3433).trans (fI_kept (oH3446 _ (G_ne ga1 gq3445 (by decide)))).symm
                have m3455 := (m3434).trans (fI_kept (oH3446 _ (G_ne ga1 gq3445 (by decide)))).symm
                have m3456 := (m3435).trans (fI_kept (oH3446 _ (G_ne ga1 gq3445 (by decide)))).symm
                have m3457 := (m3436).trans (fI_kept (oH3446 _ (G_ne ga1 gq3445 (by decide)))).symm
                have m3458 := (m3437).trans (fI_kept (oH3446 _ (G_ne ga1 gq3445 (by decide)))).symm
                have m3459 := (m3438).trans (fI_kept (oH3446 _ (G_ne ga0 gq3445 (by decide)))).symm
                have m3460 := (m3439).trans (fI_kept (oH3446 _ (G_ne ga0 gq3445 (by decide)))).symm
                have m3461 := (m3440).trans (fI_kept (oH3446 _ (G_ne ga1 gq3445 (by decide)))).symm
                have m3462 := (m3441).trans (fI_kept (oH3446 _ (G_ne ga0 gq3445 (by decide)))).symm
                have m3463 := (m3442).trans (fI_kept (oH3446 _ (G_ne ga1 gq3445 (by decide)))).symm
                have m3464 := (m3443).trans (fI_kept (oH3446 _ (G_ne ga0 gq3445 (by decide)))).symm
                have m3465 := (eq3444).trans (fR_kept (oH3446 _ (G_ne ga1 gq3445 (by decide)))).symm
                have m3466 := (eq3445).trans (fR_kept (oH3446 _ (G_ne ga0 gq3445 (by decide)))).symm
                have f3467 : ∀ j : Nat, fR H3446 bq j = fR s.heap bq j := fun j => (fR_kept (oH3446 _ (G_ne gbq gq3445 (by decide)))).trans (f3422 j)
                have f3468 : ∀ j : Nat, fR H3446 oq j = fR s.heap oq j := fun j => (fR_kept (oH3446 _ (G_ne goq gq3445 (by decide)))).trans (f3423 j)
                have f3469 : ∀ q : Nat, G q = some 35 → fI H3446 q (K.1.2 0 14) = fI s.heap q (K.1.2 0 14) := fun q hq => (fI_kept (oH3446 _ (G_ne hq gq3445 (by decide)))).trans (f3424 q hq)
                have f3470 : ∀ j : Nat, j < 10 → j < n1.toNatClampNeg → fI H3446 (fR s.heap bq j) (K.1.2 0 14) = fI s.heap (fR s.heap oq j) (K.1.2 0 14) := fun j h10 hj => (fI_kept (oH3446 _ (G_ne (gB j h10) gq3445 (by decide)))).trans (f3425 j h10 hj)
                refine lv_aload_n hx hb dX8_copyFrom_142 rfl (lv_at hl3345 1 rfl) ?_
                refine x_gr C hTH3446 (ci := 8) (k := 9) rfl inX8 (by decide) wF_X8_37 ga1 rg_34 rfl dX8_copyFrom_143 (fun q3471 eq3471 gq3471 => ?_)
                refine lv_iconst (v := 0) hx hb dX8_copyFrom_146 (by decide) ?_
                refine lv_aload_n hx hb dX8_copyFrom_147 rfl (lv_at hl3345 0 rfl) ?_
                refine x_gr C hTH3446 (ci := 8) (k := 9) rfl inX8 (by decide) wF_X8_37 ga0 rg_0 rfl dX8_copyFrom_148 (fun q3472 eq3472 gq3472 => ?_)
                refine lv_iconst (v := 0) hx hb dX8_copyFrom_151 (by decide) ?_
                refine lv_bipush (v := 20) hx hb dX8_copyFrom_152 (by decide) ?_
                refine x_copy C hTH3446 hSH3446 wM_X8_70 wNT_arraycopy wST_arraycopy wIN_J10 gq3471 gq3472 rg_63 rg_29 (by decide) (by omega) (by omega) (by omega) (by show _ ≤ ((20 : Nat) : Int); omega) (by show _ ≤ ((20 : Nat) : Int); omega) (AE_in gq3472 (by decide)) hl3345.1 (by decide) dX8_copyFrom_154 (fun H3473 locsH3473 hTH3473 hSH3473 zH3473 oH3473 vH3473 wH3473 => ?_)
                have m3474 := (m3447).trans (fI_kept (oH3473 _ (G_ne ga0 gq3472 (by decide)))).symm
                have m3475 := (m3448).trans (fI_kept (oH3473 _ (G_ne ga0 gq3472 (by decide)))).symm
                have m3476 := (m3449).trans (fI_kept (oH3473 _ (G_ne ga0 gq3472 (by decide)))).symm
                have m3477 := (m3450).trans (fI_kept (oH3473 _ (G_ne ga0 gq3472 (by decide)))).symm
                have m3478 := (m3451).trans (fR_kept (oH3473 _ (G_ne ga0 gq3472 (by decide)))).symm
                have m3479 := (m3452).trans (fR_kept (oH3473 _ (G_ne ga1 gq3472 (by decide)))).symm
                have m3480 := (m3453).trans (fI_kept (oH3473 _ (G_ne ga1 gq3472 (by decide)))).symm
                have m3481 := (m3454).trans (fI_kept (oH3473 _ (G_ne ga1 gq3472 (by decide)))).symm
                have m3482 := (m3455).trans (fI_kept (oH3473 _ (G_ne ga1 gq3472 (by decide)))).symm
                have m3483 := (m3456).trans (fI_kept (oH3473 _ (G_ne ga1 gq3472 (by decide)))).symm
                have m3484 := (m3457).trans (fI_kept (oH3473 _ (G_ne ga1 gq3472 (by decide)))).symm
                have m3485 := (m3458).trans (fI_kept (oH3473 _ (G_ne ga1 gq3472 (by decide)))).symm
                have m3486 := (m3459).trans (fI_kept (oH3473 _ (G_ne ga0 gq3472 (by decide)))).symm
                have m3487 := (m3460).trans (fI_kept (oH3473 _ (G_ne ga0 gq3472 (by decide)))).symm
                have m3488 := (m3461).trans (fI_kept (oH3473 _ (G_ne ga1 gq3472 (by decide)))).symm
                have m3489 := (m3462).trans (fI_kept (oH3473 _ (G_ne ga0 gq3472 (by decide)))).symm
                have m3490 := (m3463).trans (fI_kept (oH3473 _ (G_ne ga1 gq3472 (by decide)))).symm
                have m3491 := (m3464).trans (fI_kept (oH3473 _ (G_ne ga0 gq3472 (by decide)))).symm
                have m3492 := (m3465).trans (fR_kept (oH3473 _ (G_ne ga1 gq3472 (by decide)))).symm
                have m3493 := (m3466).trans (fR_kept (oH3473 _ (G_ne ga0 gq3472 (by decide)))).symm
                have m3494 := (eq3471).trans (fR_kept (oH3473 _ (G_ne ga1 gq3472 (by decide)))).symm
                have m3495 := (eq3472).trans (fR_kept (oH3473 _ (G_ne ga0 gq3472 (by decide)))).symm
                have f3496 : ∀ j : Nat, fR H3473 bq j = fR s.heap bq j := fun j => (fR_kept (oH3473 _ (G_ne gbq gq3472 (by decide)))).trans (f3467 j)
                have f3497 : ∀ j : Nat, fR H3473 oq j = fR s.heap oq j := fun j => (fR_kept (oH3473 _ (G_ne goq gq3472 (by decide)))).trans (f3468 j)
                have f3498 : ∀ q : Nat, G q = some 35 → fI H3473 q (K.1.2 0 14) = fI s.heap q (K.1.2 0 14) := fun q hq => (fI_kept (oH3473 _ (G_ne hq gq3472 (by decide)))).trans (f3469 q hq)
                have f3499 : ∀ j : Nat, j < 10 → j < n1.toNatClampNeg → fI H3473 (fR s.heap bq j) (K.1.2 0 14) = fI s.heap (fR s.heap oq j) (K.1.2 0 14) := fun j h10 hj => (fI_kept (oH3473 _ (G_ne (gB j h10) gq3472 (by decide)))).trans (f3470 j h10 hj)
                refine lv_aload_n hx hb dX8_copyFrom_157 rfl (lv_at hl3345 0 rfl) ?_
                refine lv_aload_n hx hb dX8_copyFrom_158 rfl (lv_at hl3345 1 rfl) ?_
                refine x_gi C hTH3473 (ci := 8) (k := 10) rfl inX8 (by decide) wF_X8_76 ga1 rg_34 rfl dX8_copyFrom_159 (fun x3500 ex3500 bx3500 => ?_)
                have ux3500 : n10 = x3500 := (m3483).trans ex3500.symm
                subst ux3500
                refine x_put C hTH3473 hSH3473 (ci := 8) (k := 10) (v := .int n10) (ty0 := tyX8) rfl inX8 tyX8_ok nmX8 (by decide) rfl wF_X8_76 ga0 rg_0 rfl rfl (okI (by have := i_rng n10; omega) (by have := i_rng n10; omega)) rfl rfl (AE_in ga0 (by decide)) dX8_copyFrom_162 (fun H3501 locsH3501 hTH3501 hSH3501 wH3501 => ?_)
                have f3502 : ∀ j : Nat, fR H3501 bq j = fR s.heap bq j := fun j => (Wr.neR wH3501 (Or.inl (G_ne gbq ga0 (by decide)))).trans (f3496 j)
                have f3503 : ∀ j : Nat, fR H3501 oq j = fR s.heap oq j := fun j => (Wr.neR wH3501 (Or.inl (G_ne goq ga0 (by decide)))).trans (f3497 j)
                have f3504 : ∀ q : Nat, G q = some 35 → fI H3501 q (K.1.2 0 14) = fI s.heap q (K.1.2 0 14) := fun q hq => (Wr.neI wH3501 (Or.inl (G_ne hq ga0 (by decide)))).trans (f3498 q hq)
                have f3505 : ∀ j : Nat, j < 10 → j < n1.toNatClampNeg → fI H3501 (fR s.heap bq j) (K.1.2 0 14) = fI s.heap (fR s.heap oq j) (K.1.2 0 14) := fun j h10 hj => (Wr.neI wH3501 (Or.inl (G_ne (gB j h10) ga0 (by decide)))).trans (f3499 j h10 hj)
                have m3506 := m3474.trans (Wr.neI wH3501 (Or.inr (x_apart hKT hts inX8 tyX8 tyX8_ok nmX8 rfl 1 10 (by decide) (by decide) (by decide)))).symm
                have m3508 := m3476.trans (Wr.neI wH3501 (Or.inr (x_apart hKT hts inX8 tyX8 tyX8_ok nmX8 rfl 13 10 (by decide) (by decide) (by decide)))).symm
                have m3509 := m3477.trans (Wr.neI wH3501 (Or.inr (x_apart hKT hts inX8 tyX8 tyX8_ok nmX8 rfl 16 10 (by decide) (by decide) (by decide)))).symm
                have m3510 := m3478.trans (Wr.neR wH3501 (Or.inr (x_apart hKT hts inX8 tyX8 tyX8_ok nmX8 rfl 0 10 (by decide) (by decide) (by decide)))).symm
                have m3511 := m3479.trans (Wr.neR wH3501 (Or.inl (G_ne ga1 ga0 (by decide)))).symm
                have m3512 := m3480.trans (Wr.neI wH3501 (Or.inl (G_ne ga1 ga0 (by decide)))).symm
                have m3513 := m3481.trans (Wr.neI wH3501 (Or.inl (G_ne ga1 ga0 (by decide)))).symm
                have m3514 := m3482.trans (Wr.neI wH3501 (Or.inl (G_ne ga1 ga0 (by decide)))).symm
                have m3515 := m3483.trans (Wr.neI wH3501 (Or.inl (G_ne ga1 ga0 (by decide)))).symm
                have m3516 := m3484.trans (Wr.neI wH3501 (Or.inl (G_ne ga1 ga0 (by decide)))).symm
                have m3517 := m3485.trans (Wr.neI wH3501 (Or.inl (G_ne ga1 ga0 (by decide)))).symm
                have m3518 := m3486.trans (Wr.neI wH3501 (Or.inr (x_apart hKT hts inX8 tyX8 tyX8_ok nmX8 rfl 4 10 (by decide) (by decide) (by decide)))).symm
                have m3519 := m3487.trans (Wr.neI wH3501 (Or.inr (x_apart hKT hts inX8 tyX8 tyX8_ok nmX8 rfl 5 10 (by decide) (by decide) (by decide)))).symm
                have m3520 := m3488.trans (Wr.neI wH3501 (Or.inl (G_ne ga1 ga0 (by decide)))).symm
                have m3521 := m3489.trans (Wr.neI wH3501 (Or.inr (x_apart hKT hts inX8 tyX8 tyX8_ok nmX8 rfl 6 10 (by decide) (by decide) (by decide)))).symm
                have m3522 := m3490.trans (Wr.neI wH3501 (Or.inl (G_ne ga1 ga0 (by decide)))).symm
                have m3523 := m3491.trans (Wr.neI wH3501 (Or.inr (x_apart hKT hts inX8 tyX8 tyX8_ok nmX8 rfl 7 10 (by decide) (by decide) (by decide)))).symm
                have m3524 := m3492.trans (Wr.neR wH3501 (Or.inl (G_ne ga1 ga0 (by decide)))).symm
                have m3525 := m3493.trans (Wr.neR wH3501 (Or.inr (x_apart hKT hts inX8 tyX8 tyX8_ok nmX8 rfl 8 10 (by decide) (by decide) (by decide)))).symm
                have m3526 := m3494.trans (Wr.neR wH3501 (Or.inl (G_ne ga1 ga0 (by decide)))).symm
                have m3527 := m3495.trans (Wr.neR wH3501 (Or.inr (x_apart hKT hts inX8 tyX8 tyX8_ok nmX8 rfl 9 10 (by decide) (by decide) (by decide)))).symm
                have m3528 := Wr.I wH3501
                have m3528 := m3528.symm
                refine lv_aload_n hx hb dX8_copyFrom_165 rfl (lv_at hl3345 1 rfl) ?_
                refine x_gr C hTH3501 (ci := 8) (k := 11) rfl inX8 (by decide) wF_X8_40 ga1 rg_34 rfl dX8_copyFrom_166 (fun q3529 eq3529 gq3529 => ?_)
                refine lv_iconst (v := 0) hx hb dX8_copyFrom_169 (by decide) ?_
                refine lv_aload_n hx hb dX8_copyFrom_170 rfl (lv_at hl3345 0 rfl) ?_
                refine x_gr C hTH3501 (ci := 8) (k := 11) rfl inX8 (by decide) wF_X8_40 ga0 rg_0 rfl dX8_copyFrom_171 (fun q3530 eq3530 gq3530 => ?_)
                refine lv_iconst (v := 0) hx hb dX8_copyFrom_174 (by decide) ?_
                refine lv_bipush (v := 8) hx hb dX8_copyFrom_175 (by decide) ?_
                refine x_copy C hTH3501 hSH3501 wM_X8_70 wNT_arraycopy wST_arraycopy wIN_J10 gq3529 gq3530 rg_64 rg_30 (by decide) (by omega) (by omega) (by omega) (by show _ ≤ ((8 : Nat) : Int); omega) (by show _ ≤ ((8 : Nat) : Int); omega) (AE_in gq3530 (by decide)) hl3345.1 (by decide) dX8_copyFrom_177 (fun H3531 locsH3531 hTH3531 hSH3531 zH3531 oH3531 vH3531 wH3531 => ?_)
                have m3532 := (m3506).trans (fI_kept (oH3531 _ (G_ne ga0 gq3530 (by decide)))).symm
                have m3533 := (m3508).trans (fI_kept (oH3531 _ (G_ne ga0 gq3530 (by decide)))).symm
                have m3534 := (m3509).trans (fI_kept (oH3531 _ (G_ne ga0 gq3530 (by decide)))).symm
                have m3535 := (m3510).trans (fR_kept (oH3531 _ (G_ne ga0 gq3530 (by decide)))).symm
                have m3536 := (m3511).trans (fR_kept (oH3531 _ (G_ne ga1 gq3530 (by decide)))).symm
                have m3537 := (m3512).trans (fI_kept (oH3531 _ (G_ne ga1 gq3530 (by decide)))).symm
                have m3538 := (m3513).trans (fI_kept (oH3531 _ (G_ne ga1 gq3530 (by decide)))).symm
                have m3539 := (m3514).trans (fI_kept (oH3531 _ (G_ne ga1 gq3530 (by decide)))).symm
                have m3540 := (m3515).trans (fI_kept (oH3531 _ (G_ne ga1 gq3530 (by decide)))).symm
                have m3541 := (m3516).trans (fI_kept (oH3531 _ (G_ne ga1 gq3530 (by decide)))).symm
                have m3542 := (m3517).trans (fI_kept (oH3531 _ (G_ne ga1 gq3530 (by decide)))).symm
                have m3543 := (m3518).trans (fI_kept (oH3531 _ (G_ne ga0 gq3530 (by decide)))).symm
                have m3544 := (m3519).trans (fI_kept (oH3531 _ (G_ne ga0 gq3530 (by decide)))).symm
                have m3545 := (m3520).trans (fI_kept (oH3531 _ (G_ne ga1 gq3530 (by decide)))).symm
                have m3546 := (m3521).trans (fI_kept (oH3531 _ (G_ne ga0 gq3530 (by decide)))).symm
                have m3547 := (m3522).trans (fI_kept (oH3531 _ (G_ne ga1 gq3530 (by decide)))).symm
                have m3548 := (m3523).trans (fI_kept (oH3531 _ (G_ne ga0 gq3530 (by decide)))).symm
                have m3549 := (m3524).trans (fR_kept (oH3531 _ (G_ne ga1 gq3530 (by decide)))).symm
                have m3550 := (m3525).trans (fR_kept (oH3531 _ (G_ne ga0 gq3530 (by decide)))).symm
                have m3551 := (m3526).trans (fR_kept (oH3531 _ (G_ne ga1 gq3530 (by decide)))).symm
                have m3552 := (m3527).trans (fR_kept (oH3531 _ (G_ne ga0 gq3530 (by decide)))).symm
                have m3553 := (m3528).trans (fI_kept (oH3531 _ (G_ne ga0 gq3530 (by decide)))).symm
                have m3554 := (eq3529).trans (fR_kept (oH3531 _ (G_ne ga1 gq3530 (by decide)))).symm
                have m3555 := (eq3530).trans (fR_kept (oH3531 _ (G_ne ga0 gq3530 (by decide)))).symm
                have f3556 : ∀ j : Nat, fR H3531 bq j = fR s.heap bq j := fun j => (fR_kept (oH3531 _ (G_ne gbq gq3530 (by decide)))).trans (f3502 j)
                have f3557 : ∀ j : Nat, fR H3531 oq j = fR s.heap oq j := fun j => (fR_kept (oH3531 _ (G_ne goq gq3530 (by decide)))).trans (f3503 j)
                have f3558 : ∀ q : Nat, G q = some 35 → fI H3531 q (K.1.2 0 14) = fI s.heap q (K.1.2 0 14) := fun q hq => (fI_kept (oH3531 _ (G_ne hq gq3530 (by decide)))).trans (f3504 q hq)
                have f3559 : ∀ j : Nat, j < 10 → j < n1.toNatClampNeg → fI H3531 (fR s.heap bq j) (K.1.2 0 14) = fI s.heap (fR s.heap oq j) (K.1.2 0 14) := fun j h10 hj => (fI_kept (oH3531 _ (G_ne (gB j h10) gq3530 (by decide)))).trans (f3505 j h10 hj)
                refine lv_aload_n hx hb dX8_copyFrom_180 rfl (lv_at hl3345 1 rfl) ?_
                refine x_gr C hTH3531 (ci := 8) (k := 12) rfl inX8 (by decide) wF_X8_43 ga1 rg_34 rfl dX8_copyFrom_181 (fun q3560 eq3560 gq3560 => ?_)
                refine lv_iconst (v := 0) hx hb dX8_copyFrom_184 (by decide) ?_
                refine lv_aload_n hx hb dX8_copyFrom_185 rfl (lv_at hl3345 0 rfl) ?_
                refine x_gr C hTH3531 (ci := 8) (k := 12) rfl inX8 (by decide) wF_X8_43 ga0 rg_0 rfl dX8_copyFrom_186 (fun q3561 eq3561 gq3561 => ?_)
                refine lv_iconst (v := 0) hx hb dX8_copyFrom_189 (by decide) ?_
                refine lv_bipush (v := 8) hx hb dX8_copyFrom_190 (by decide) ?_
                refine x_copy C hTH3531 hSH3531 wM_X8_70 wNT_arraycopy wST_arraycopy wIN_J10 gq3560 gq3561 rg_65 rg_31 (by decide) (by omega) (by omega) (by omega) (by show _ ≤ ((8 : Nat) : Int); omega) (by show _ ≤ ((8 : Nat) : Int); omega) (AE_in gq3561 (by decide)) hl3345.1 (by decide) dX8_copyFrom_192 (fun H3562 locsH3562 hTH3562 hSH3562 zH3562 oH3562 vH3562 wH3562 => ?_)
                have m3563 := (m3532).trans (fI_kept (oH3562 _ (G_ne ga0 gq3561 (by decide)))).symm
                have m3564 := (m3533).trans (fI_kept (oH3562 _ (G_ne ga0 gq3561 (by decide)))).symm
                have m3565 := (m3534).trans (fI_kept (oH3562 _ (G_ne ga0 gq3561 (by decide)))).symm
                have m3566 := (m3535).trans (fR_kept (oH3562 _ (G_ne ga0 gq3561 (by decide)))).symm
                have m3567 := (m3536).trans (fR_kept (oH3562 _ (G_ne ga1 gq3561 (by decide)))).symm
                have m3568 := (m3537).trans (fI_kept (oH3562 _ (G_ne ga1 gq3561 (by decide)))).symm
                have m3569 := (m3538).trans (fI_kept (oH3562 _ (G_ne ga1 gq3561 (by decide)))).symm
                have m3570 := (m3539).trans (fI_kept (oH3562 _ (G_ne ga1 gq3561 (by decide)))).symm
                have m3571 := (m3540).trans (fI_kept (oH3562 _ (G_ne ga1 gq3561 (by decide)))).symm
                have m3572 := (m3541).trans (fI_kept (oH3562 _ (G_ne ga1 gq3561 (by decide)))).symm
                have m3573 := (m3542).trans (fI_kept (oH3562 _ (G_ne ga1 gq3561 (by decide)))).symm
                have m3574 := (m3543).trans (fI_kept (oH3562 _ (G_ne ga0 gq3561 (by decide)))).symm
                have m3575 := (m3544).trans (fI_kept (oH3562 _ (G_ne ga0 gq3561 (by decide)))).symm
                have m3576 := (m3545).trans (fI_kept (oH3562 _ (G_ne ga1 gq3561 (by decide)))).symm
                have m3577 := (m3546).trans (fI_kept (oH3562 _ (G_ne ga0 gq3561 (by decide)))).symm
                have m3578 := (m3547).trans (fI_kept (oH3562 _ (G_ne ga1 gq3561 (by decide)))).symm
                have m3579 := (m3548).trans (fI_kept (oH3562 _ (G_ne ga0 gq3561 (by decide)))).symm
                have m3580 := (m3549).trans (fR_kept (oH3562 _ (G_ne ga1 gq3561 (by decide)))).symm
                have m3581 := (m3550).trans (fR_kept (oH3562 _ (G_ne ga0 gq3561 (by decide)))).symm
                have m3582 := (m3551).trans (fR_kept (oH3562 _ (G_ne ga1 gq3561 (by decide)))).symm
                have m3583 := (m3552).trans (fR_kept (oH3562 _ (G_ne ga0 gq3561 (by decide)))).symm
                have m3584 := (m3553).trans (fI_kept (oH3562 _ (G_ne ga0 gq3561 (by decide)))).symm
                have m3585 := (m3554).trans (fR_kept (oH3562 _ (G_ne ga1 gq3561 (by decide)))).symm
                have m3586 := (m3555).trans (fR_kept (oH3562 _ (G_ne ga0 gq3561 (by decide)))).symm
                have m3587 := (eq3560).trans (fR_kept (oH3562 _ (G_ne ga1 gq3561 (by decide)))).symm
                have m3588 := (eq3561).trans (fR_kept (oH3562 _ (G_ne ga0 gq3561 (by decide)))).symm
                have f3589 : ∀ j : Nat, fR H3562 bq j = fR s.heap bq j := fun j => (fR_kept (oH3562 _ (G_ne gbq gq3561 (by decide)))).trans (f3556 j)
                have f3590 : ∀ j : Nat, fR H3562 oq j = fR s.heap oq j := fun j => (fR_kept (oH3562 _ (G_ne goq gq3561 (by decide)))).trans (f3557 j)
                have f3591 : ∀ q : Nat, G q = some 35 → fI H3562 q (K.1.2 0 14) = fI s.heap q (K.1.2 0 14) := fun q hq => (fI_kept (oH3562 _ (G_ne hq gq3561 (by decide)))).trans (f3558 q hq)
                have f3592 : ∀ j : Nat, j < 10 → j < n1.toNatClampNeg → fI H3562 (fR s.heap bq j) (K.1.2 0 14) = fI s.heap (fR s.heap oq j) (K.1.2 0 14) := fun j h10 hj => (fI_kept (oH3562 _ (G_ne (gB j h10) gq3561 (by decide)))).trans (f3559 j h10 hj)
                refine lv_aload_n hx hb dX8_copyFrom_195 rfl (lv_at hl3345 0 rfl) ?_
                refine lv_aload_n hx hb dX8_copyFrom_196 rfl (lv_at hl3345 1 rfl) ?_
                refine x_gi C hTH3562 (ci := 8) (k := 13) rfl inX8 (by decide) wF_X8_79 ga1 rg_34 rfl dX8_copyFrom_197 (fun x3593 ex3593 bx3593 => ?_)
                have ux3593 : n13 = x3593 := (m3572).trans ex3593.symm
                subst ux3593
                refine x_put C hTH3562 hSH3562 (ci := 8) (k := 13) (v := .int n13) (ty0 := tyX8) rfl inX8 tyX8_ok nmX8 (by decide) rfl wF_X8_79 ga0 rg_0 rfl rfl (okI (by have := i_rng n13; omega) (by have := i_rng n13; omega)) rfl rfl (AE_in ga0 (by decide)) dX8_copyFrom_200 (fun H3594 locsH3594 hTH3594 hSH3594 wH3594 => ?_)
                have f3595 : ∀ j : Nat, fR H3594 bq j = fR s.heap bq j := fun j => (Wr.neR wH3594 (Or.inl (G_ne gbq ga0 (by decide)))).trans (f3589 j)
                have f3596 : ∀ j : Nat, fR H3594 oq j = fR s.heap oq j := fun j => (Wr.neR wH3594 (Or.inl (G_ne goq ga0 (by decide)))).trans (f3590 j)
                have f3597 : ∀ q : Nat, G q = some 35 → fI H3594 q (K.1.2 0 14) = fI s.heap q (K.1.2 0 14) := fun q hq => (Wr.neI wH3594 (Or.inl (G_ne hq ga0 (by decide)))).trans (f3591 q hq)
                have f3598 : ∀ j : Nat, j < 10 → j < n1.toNatClampNeg → fI H3594 (fR s.heap bq j) (K.1.2 0 14) = fI s.heap (fR s.heap oq j) (K.1.2 0 14) := fun j h10 hj => (Wr.neI wH3594 (Or.inl (G_ne (gB j h10) ga0 (by decide)))).trans (f3592 j h10 hj)
                have m3599 := m3563.trans (Wr.neI wH3594 (Or.inr (x_apart hKT hts inX8 tyX8 tyX8_ok nmX8 rfl 1 13 (by decide) (by decide) (by decide)))).symm
                have m3601 := m3565.trans (Wr.neI wH3594 (Or.inr (x_apart hKT hts inX8 tyX8 tyX8_ok nmX8 rfl 16 13 (by decide) (by decide) (by decide)))).symm
                have m3602 := m3566.trans (Wr.neR wH3594 (Or.inr (x_apart hKT hts inX8 tyX8 tyX8_ok nmX8 rfl 0 13 (by decide) (by decide) (by decide)))).symm
                have m3603 := m3567.trans (Wr.neR wH3594 (Or.inl (G_ne ga1 ga0 (by decide)))).symm
                have m3604 := m3568.trans (Wr.neI wH3594 (Or.inl (G_ne ga1 ga0 (by decide)))).symm
                have m3605 := m3569.trans (Wr.neI wH3594 (Or.inl (G_ne ga1 ga0 (by decide)))).symm
                have m3606 := m3570.trans (Wr.neI wH3594 (Or.inl (G_ne ga1 ga0 (by decide)))).symm
                have m3607 := m3571.trans (Wr.neI wH3594 (Or.inl (G_ne ga1 ga0 (by decide)))).symm
                have m3608 := m3572.trans (Wr.neI wH3594 (Or.inl (G_ne ga1 ga0 (by decide)))).symm
                have m3609 := m3573.trans (Wr.neI wH3594 (Or.inl (G_ne ga1 ga0 (by decide)))).symm
                have m3610 := m3574.trans (Wr.neI wH3594 (Or.inr (x_apart hKT hts inX8 tyX8 tyX8_ok nmX8 rfl 4 13 (by decide) (by decide) (by decide)))).symm
                have m3611 := m3575.trans (Wr.neI wH3594 (Or.inr (x_apart hKT hts inX8 tyX8 tyX8_ok nmX8 rfl 5 13 (by decide) (by decide) (by decide)))).symm
                have m3612 := m3576.trans (Wr.neI wH3594 (Or.inl (G_ne ga1 ga0 (by decide)))).symm
                have m3613 := m3577.trans (Wr.neI wH3594 (Or.inr (x_apart hKT hts inX8 tyX8 tyX8_ok nmX8 rfl 6 13 (by decide) (by decide) (by decide)))).symm
                have m3614 := m3578.trans (Wr.neI wH3594 (Or.inl (G_ne ga1 ga0 (by decide)))).symm
                have m3615 := m3579.trans (Wr.neI wH3594 (Or.inr (x_apart hKT hts inX8 tyX8 tyX8_ok nmX8 rfl 7 13 (by decide) (by decide) (by decide)))).symm
                have m3616 := m3580.trans (Wr.neR wH3594 (Or.inl (G_ne ga1 ga0 (by decide)))).symm
                have m3617 := m3581.trans (Wr.neR wH3594 (Or.inr (x_apart hKT hts inX8 tyX8 tyX8_ok nmX8 rfl 8 13 (by decide) (by decide) (by decide)))).symm
                have m3618 := m3582.trans (Wr.neR wH3594 (Or.inl (G_ne ga1 ga0 (by decide)))).symm
                have m3619 := m3583.trans (Wr.neR wH3594 (Or.inr (x_apart hKT hts inX8 tyX8 tyX8_ok nmX8 rfl 9 13 (by decide) (by decide) (by decide)))).symm
                have m3620 := m3584.trans (Wr.neI wH3594 (Or.inr (x_apart hKT hts inX8 tyX8 tyX8_ok nmX8 rfl 10 13 (by decide) (by decide) (by decide)))).symm
                have m3621 := m3585.trans (Wr.neR wH3594 (Or.inl (G_ne ga1 ga0 (by decide)))).symm
                have m3622 := m3586.trans (Wr.neR wH3594 (Or.inr (x_apart hKT hts inX8 tyX8 tyX8_ok nmX8 rfl 11 13 (by decide) (by decide) (by decide)))).symm
                have m3623 := m3587.trans (Wr.neR wH3594 (Or.inl (G_ne ga1 ga0 (by decide)))).symm
                have m3624 := m3588.trans (Wr.neR wH3594 (Or.inr (x_apart hKT hts inX8 tyX8 tyX8_ok nmX8 rfl 12 13 (by decide) (by decide) (by decide)))).symm
                have m3625 := Wr.I wH3594
                have m3625 := m3625.symm
                refine lv_aload_n hx hb dX8_copyFrom_203 rfl (lv_at hl3345 1 rfl) ?_
                refine x_gr C hTH3594 (ci := 8) (k := 14) rfl inX8 (by decide) wF_X8_46 ga1 rg_34 rfl dX8_copyFrom_204 (fun q3626 eq3626 gq3626 => ?_)
                refine lv_iconst (v := 0) hx hb dX8_copyFrom_207 (by decide) ?_
                refine lv_aload_n hx hb dX8_copyFrom_208 rfl (lv_at hl3345 0 rfl) ?_
                refine x_gr C hTH3594 (ci := 8) (k := 14) rfl inX8 (by decide) wF_X8_46 ga0 rg_0 rfl dX8_copyFrom_209 (fun q3627 eq3627 gq3627 => ?_)
                refine lv_iconst (v := 0) hx hb dX8_copyFrom_212 (by decide) ?_
                refine lv_bipush (v := 8) hx hb dX8_copyFrom_213 (by decide) ?_
                refine x_copy C hTH3594 hSH3594 wM_X8_70 wNT_arraycopy wST_arraycopy wIN_J10 gq3626 gq3627 rg_66 rg_32 (by decide) (by omega) (by omega) (by omega) (by show _ ≤ ((8 : Nat) : Int); omega) (by show _ ≤ ((8 : Nat) : Int); omega) (AE_in gq3627 (by decide)) hl3345.1 (by decide) dX8_copyFrom_215 (fun H3628 locsH3628 hTH3628 hSH3628 zH3628 oH3628 vH3628 wH3628 => ?_)
                have m3629 := (m3599).trans (fI_kept (oH3628 _ (G_ne ga0 gq3627 (by decide)))).symm
                have m3630 := (m3601).trans (fI_kept (oH3628 _ (G_ne ga0 gq3627 (by decide)))).symm
                have m3631 := (m3602).trans (fR_kept (oH3628 _ (G_ne ga0 gq3627 (by decide)))).symm
                have m3632 := (m3603).trans (fR_kept (oH3628 _ (G_ne ga1 gq3627 (by decide)))).symm
                have m3633 := (m3604).trans (fI_kept (oH3628 _ (G_ne ga1 gq3627 (by decide)))).symm
                have m3634 := (m3605).trans (fI_kept (oH3628 _ (G_ne ga1 gq3627 (by decide)))).symm
                have m3635 := (m3606).trans (fI_kept (oH3628 _ (G_ne ga1 gq3627 (by decide)))).symm
                have m3636 := (m3607).trans (fI_kept (oH3628 _ (G_ne ga1 gq3627 (by decide)))).symm
                have m3637 := (m3608).trans (fI_kept (oH3628 _ (G_ne ga1 gq3627 (by decide)))).symm
                have m3638 := (m3609).trans (fI_kept (oH3628 _ (G_ne ga1 gq3627 (by decide)))).symm
                have m3639 := (m3610).trans (fI_kept (oH3628 _ (G_ne ga0 gq3627 (by decide)))).symm
                have m3640 := (m3611).trans (fI_kept (oH3628 _ (G_ne ga0 gq3627 (by decide)))).symm
                have m3641 := (m3612).trans (fI_kept (oH3628 _ (G_ne ga1 gq3627 (by decide)))).symm
                have m3642 := (m3613).trans (fI_kept (oH3628 _ (G_ne ga0 gq3627 (by decide)))).symm
                have m3643 := (m3614).trans (fI_kept (oH3628 _ (G_ne ga1 gq3627 (by decide)))).symm
                have m3644 := (m3615).trans (fI_kept (oH3628 _ (G_ne ga0 gq3627 (by decide)))).symm
                have m3645 := (m3616).trans (fR_kept (oH3628 _ (G_ne ga1 gq3627 (by decide)))).symm
                have m3646 := (m3617).trans (fR_kept (oH3628 _ (G_ne ga0 gq3627 (by decide)))).symm
                have m3647 := (m3618).trans (fR_kept (oH3628 _ (G_ne ga1 gq3627 (by decide)))).symm
                have m3648 := (m3619).trans (fR_kept (oH3628 _ (G_ne ga0 gq3627 (by decide)))).symm
                have m3649 := (m3620).trans (fI_kept (oH3628 _ (G_ne ga0 gq3627 (by decide)))).symm
                have m3650 := (m3621).trans (fR_kept (oH3628 _ (G_ne ga1 gq3627 (by decide)))).symm
                have m3651 := (m3622).trans (fR_kept (oH3628 _ (G_ne ga0 gq3627 (by decide)))).symm
                have m3652 := (m3623).trans (fR_kept (oH3628 _ (G_ne ga1 gq3627 (by decide)))).symm
                have m3653 := (m3624).trans (fR_kept (oH3628 _ (G_ne ga0 gq3627 (by decide)))).symm
                have m3654 := (m3625).trans (fI_kept (oH3628 _ (G_ne ga0 gq3627 (by decide)))).symm
                have m3655 := (eq3626).trans (fR_kept (oH3628 _ (G_ne ga1 gq3627 (by decide)))).symm
                have m3656 := (eq3627).trans (fR_kept (oH3628 _ (G_ne ga0 gq3627 (by decide)))).symm
                have f3657 : ∀ j : Nat, fR H3628 bq j = fR s.heap bq j := fun j => (fR_kept (oH3628 _ (G_ne gbq gq3627 (by decide)))).trans (f3595 j)
                have f3658 : ∀ j : Nat, fR H3628 oq j = fR s.heap oq j := fun j => (fR_kept (oH3628 _ (G_ne goq gq3627 (by decide)))).trans (f3596 j)
                have f3659 : ∀ q : Nat, G q = some 35 → fI H3628 q (K.1.2 0 14) = fI s.heap q (K.1.2 0 14) := fun q hq => (fI_kept (oH3628 _ (G_ne hq gq3627 (by decide)))).trans (f3597 q hq)
                have f3660 : ∀ j : Nat, j < 10 → j < n1.toNatClampNeg → fI H3628 (fR s.heap bq j) (K.1.2 0 14) = fI s.heap (fR s.heap oq j) (K.1.2 0 14) := fun j h10 hj => (fI_kept (oH3628 _ (G_ne (gB j h10) gq3627 (by decide)))).trans (f3598 j h10 hj)
                refine lv_aload_n hx hb dX8_copyFrom_218 rfl (lv_at hl3345 1 rfl) ?_
                refine x_gr C hTH3628 (ci := 8) (k := 15) rfl inX8 (by decide) wF_X8_49 ga1 rg_34 rfl dX8_copyFrom_219 (fun q3661 eq3661 gq3661 => ?_)
                refine lv_iconst (v := 0) hx hb dX8_copyFrom_222 (by decide) ?_
                refine lv_aload_n hx hb dX8_copyFrom_223 rfl (lv_at hl3345 0 rfl) ?_
                refine x_gr C hTH3628 (ci := 8) (k := 15) rfl inX8 (by decide) wF_X8_49 ga0 rg_0 rfl dX8_copyFrom_224 (fun q3662 eq3662 gq3662 => ?_)
                refine lv_iconst (v := 0) hx hb dX8_copyFrom_227 (by decide) ?_
                refine lv_bipush (v := 8) hx hb dX8_copyFrom_228 (by decide) ?_
                refine x_copy C hTH3628 hSH3628 wM_X8_70 wNT_arraycopy wST_arraycopy wIN_J10 gq3661 gq3662 rg_67 rg_33 (by decide) (by omega) (by omega) (by omega) (by show _ ≤ ((8 : Nat) : Int); omega) (by show _ ≤ ((8 : Nat) : Int); omega) (AE_in gq3662 (by decide)) hl3345.1 (by decide) dX8_copyFrom_230 (fun H3663 locsH3663 hTH3663 hSH3663 zH3663 oH3663 vH3663 wH3663 => ?_)
                have m3664 := (m3629).trans (fI_kept (oH3663 _ (G_ne ga0 gq3662 (by decide)))).symm
                have m3665 := (m3630).trans (fI_kept (oH3663 _ (G_ne ga0 gq3662 (by decide)))).symm
                have m3666 := (m3631).trans (fR_kept (oH3663 _ (G_ne ga0 gq3662 (by decide)))).symm
                have m3667 := (m3632).trans (fR_kept (oH3663 _ (G_ne ga1 gq3662 (by decide)))).symm
                have m3668 := (m3633).trans (fI_kept (oH3663 _ (G_ne ga1 gq3662 (by decide)))).symm
                have m3669 := (m3634).trans (fI_kept (oH3663 _ (G_ne ga1 gq3662 (by decide)))).symm
                have m3670 := (m3635).trans (fI_kept (oH3663 _ (G_ne ga1 gq3662 (by decide)))).symm
                have m3671 := (m3636).trans (fI_kept (oH3663 _ (G_ne ga1 gq3662 (by decide)))).symm
                have m3672 := (m3637).trans (fI_kept (oH3663 _ (G_ne ga1 gq3662 (by decide)))).symm
                have m3673 := (m3638).trans (fI_kept (oH3663 _ (G_ne ga1 gq3662 (by decide)))).symm
                have m3674 := (m3639).trans (fI_kept (oH3663 _ (G_ne ga0 gq3662 (by decide)))).symm
                have m3675 := (m3640).trans (fI_kept (oH3663 _ (G_ne ga0 gq3662 (by decide)))).symm
                have m3676 := (m3641).trans (fI_kept (oH3663 _ (G_ne ga1 gq3662 (by decide)))).symm
                have m3677 := (m3642).trans (fI_kept (oH3663 _ (G_ne ga0 gq3662 (by decide)))).symm
                have m3678 := (m3643).trans (fI_kept (oH3663 _ (G_ne ga1 gq3662 (by decide)))).symm
                have m3679 := (m3644).trans (fI_kept (oH3663 _ (G_ne ga0 gq3662 (by decide)))).symm
                have m3680 := (m3645).trans (fR_kept (oH3663 _ (G_ne ga1 gq3662 (by decide)))).symm
                have m3681 := (m3646).trans (fR_kept (oH3663 _ (G_ne ga0 gq3662 (by decide)))).symm
                have m3682 := (m3647).trans (fR_kept (oH3663 _ (G_ne ga1 gq3662 (by decide)))).symm
                have m3683 := (m3648).trans (fR_kept (oH3663 _ (G_ne ga0 gq3662 (by decide)))).symm
                have m3684 := (m3649).trans (fI_kept (oH3663 _ (G_ne ga0 gq3662 (by decide)))).symm
                have m3685 := (m3650).trans (fR_kept (oH3663 _ (G_ne ga1 gq3662 (by decide)))).symm
                have m3686 := (m3651).trans (fR_kept (oH3663 _ (G_ne ga0 gq3662 (by decide)))).symm
                have m3687 := (m3652).trans (fR_kept (oH3663 _ (G_ne ga1 gq3662 (by decide)))).symm
                have m3688 := (m3653).trans (fR_kept (oH3663 _ (G_ne ga0 gq3662 (by decide)))).symm
                have m3689 := (m3654).trans (fI_kept (oH3663 _ (G_ne ga0 gq3662 (by decide)))).symm
                have m3690 := (m3655).trans (fR_kept (oH3663 _ (G_ne ga1 gq3662 (by decide)))).symm
                have m3691 := (m3656).trans (fR_kept (oH3663 _ (G_ne ga0 gq3662 (by decide)))).symm
                have m3692 := (eq3661).trans (fR_kept (oH3663 _ (G_ne ga1 gq3662 (by decide)))).symm
                have m3693 := (eq3662).trans (fR_kept (oH3663 _ (G_ne ga0 gq3662 (by decide)))).symm
                have f3694 : ∀ j : Nat, fR H3663 bq j = fR s.heap bq j := fun j => (fR_kept (oH3663 _ (G_ne gbq gq3662 (by decide)))).trans (f3657 j)
                have f3695 : ∀ j : Nat, fR H3663 oq j = fR s.heap oq j := fun j => (fR_kept (oH3663 _ (G_ne goq gq3662 (by decide)))).trans (f3658 j)
                have f3696 : ∀ q : Nat, G q = some 35 → fI H3663 q (K.1.2 0 14) = fI s.heap q (K.1.2 0 14) := fun q hq => (fI_kept (oH3663 _ (G_ne hq gq3662 (by decide)))).trans (f3659 q hq)
                have f3697 : ∀ j : Nat, j < 10 → j < n1.toNatClampNeg → fI H3663 (fR s.heap bq j) (K.1.2 0 14) = fI s.heap (fR s.heap oq j) (K.1.2 0 14) := fun j h10 hj => (fI_kept (oH3663 _ (G_ne (gB j h10) gq3662 (by decide)))).trans (f3660 j h10 hj)
                refine lv_aload_n hx hb dX8_copyFrom_233 rfl (lv_at hl3345 0 rfl) ?_
                refine lv_aload_n hx hb dX8_copyFrom_234 rfl (lv_at hl3345 1 rfl) ?_
                refine x_gi C hTH3663 (ci := 8) (k := 16) rfl inX8 (by decide) wF_X8_82 ga1 rg_34 rfl dX8_copyFrom_235 (fun x3698 ex3698 bx3698 => ?_)
                have ux3698 : n16 = x3698 := (m3673).trans ex3698.symm
                subst ux3698
                refine x_put C hTH3663 hSH3663 (ci := 8) (k := 16) (v := .int n16) (ty0 := tyX8) rfl inX8 tyX8_ok nmX8 (by decide) rfl wF_X8_82 ga0 rg_0 rfl rfl (okI (by have := i_rng n16; omega) (by have := i_rng n16; omega)) rfl rfl (AE_in ga0 (by decide)) dX8_copyFrom_238 (fun H3699 locsH3699 hTH3699 hSH3699 wH3699 => ?_)
                have f3700 : ∀ j : Nat, fR H3699 bq j = fR s.heap bq j := fun j => (Wr.neR wH3699 (Or.inl (G_ne gbq ga0 (by decide)))).trans (f3694 j)
                have f3701 : ∀ j : Nat, fR H3699 oq j = fR s.heap oq j := fun j => (Wr.neR wH3699 (Or.inl (G_ne goq ga0 (by decide)))).trans (f3695 j)
                have f3702 : ∀ q : Nat, G q = some 35 → fI H3699 q (K.1.2 0 14) = fI s.heap q (K.1.2 0 14) := fun q hq => (Wr.neI wH3699 (Or.inl (G_ne hq ga0 (by decide)))).trans (f3696 q hq)
                have f3703 : ∀ j : Nat, j < 10 → j < n1.toNatClampNeg → fI H3699 (fR s.heap bq j) (K.1.2 0 14) = fI s.heap (fR s.heap oq j) (K.1.2 0 14) := fun j h10 hj => (Wr.neI wH3699 (Or.inl (G_ne (gB j h10) ga0 (by decide)))).trans (f3697 j h10 hj)
                have m3704 := m3664.trans (Wr.neI wH3699 (Or.inr (x_apart hKT hts inX8 tyX8 tyX8_ok nmX8 rfl 1 16 (by decide) (by decide) (by decide)))).symm
                have m3706 := m3666.trans (Wr.neR wH3699 (Or.inr (x_apart hKT hts inX8 tyX8 tyX8_ok nmX8 rfl 0 16 (by decide) (by decide) (by decide)))).symm
                have m3707 := m3667.trans (Wr.neR wH3699 (Or.inl (G_ne ga1 ga0 (by decide)))).symm
                have m3708 := m3668.trans (Wr.neI wH3699 (Or.inl (G_ne ga1 ga0 (by decide)))).symm
                have m3709 := m3669.trans (Wr.neI wH3699 (Or.inl (G_ne ga1 ga0 (by decide)))).symm
                have m3710 := m3670.trans (Wr.neI wH3699 (Or.inl (G_ne ga1 ga0 (by decide)))).symm
                have m3711 := m3671.trans (Wr.neI wH3699 (Or.inl (G_ne ga1 ga0 (by decide)))).symm
                have m3712 := m3672.trans (Wr.neI wH3699 (Or.inl (G_ne ga1 ga0 (by decide)))).symm
                have m3713 := m3673.trans (Wr.neI wH3699 (Or.inl (G_ne ga1 ga0 (by decide)))).symm
                have m3714 := m3674.trans (Wr.neI wH3699 (Or.inr (x_apart hKT hts inX8 tyX8 tyX8_ok nmX8 rfl 4 16 (by decide) (by decide) (by decide)))).symm
                have m3715 := m3675.trans (Wr.neI wH3699 (Or.inr (x_apart hKT hts inX8 tyX8 tyX8_ok nmX8 rfl 5 16 (by decide) (by decide) (by decide)))).symm
                have m3716 := m3676.trans (Wr.neI wH3699 (Or.inl (G_ne ga1 ga0 (by decide)))).symm
                have m3717 := m3677.trans (Wr.neI wH3699 (Or.inr (x_apart hKT hts inX8 tyX8 tyX8_ok nmX8 rfl 6 16 (by decide) (by decide) (by decide)))).symm
                have m3718 := m3678.trans (Wr.neI wH3699 (Or.inl (G_ne ga1 ga0 (by decide)))).symm
                have m3719 := m3679.trans (Wr.neI wH3699 (Or.inr (x_apart hKT hts inX8 tyX8 tyX8_ok nmX8 rfl 7 16 (by decide) (by decide) (by decide)))).symm
                have m3720 := m3680.trans (Wr.neR wH3699 (Or.inl (G_ne ga1 ga0 (by decide)))).symm
                have m3721 := m3681.trans (Wr.neR wH3699 (Or.inr (x_apart hKT hts inX8 tyX8 tyX8_ok nmX8 rfl 8 16 (by decide) (by decide) (by decide)))).symm
                have m3722 := m3682.trans (Wr.neR wH3699 (Or.inl (G_ne ga1 ga0 (by decide)))).symm
                have m3723 := m3683.trans (Wr.neR wH3699 (Or.inr (x_apart hKT hts inX8 tyX8 tyX8_ok nmX8 rfl 9 16 (by decide) (by decide) (by decide)))).symm
                have m3724 := m3684.trans (Wr.neI wH3699 (Or.inr (x_apart hKT hts inX8 tyX8 tyX8_ok nmX8 rfl 10 16 (by decide) (by decide) (by decide)))).symm
                have m3725 := m3685.trans (Wr.neR wH3699 (Or.inl (G_ne ga1 ga0 (by decide)))).symm
                have m3726 := m3686.trans (Wr.neR wH3699 (Or.inr (x_apart hKT hts inX8 tyX8 tyX8_ok nmX8 rfl 11 16 (by decide) (by decide) (by decide)))).symm
                have m3727 := m3687.trans (Wr.neR wH3699 (Or.inl (G_ne ga1 ga0 (by decide)))).symm
                have m3728 := m3688.trans (Wr.neR wH3699 (Or.inr (x_apart hKT hts inX8 tyX8 tyX8_ok nmX8 rfl 12 16 (by decide) (by decide) (by decide)))).symm
                have m3729 := m3689.trans (Wr.neI wH3699 (Or.inr (x_apart hKT hts inX8 tyX8 tyX8_ok nmX8 rfl 13 16 (by decide) (by decide) (by decide)))).symm
                have m3730 := m3690.trans (Wr.neR wH3699 (Or.inl (G_ne ga1 ga0 (by decide)))).symm
                have m3731 := m3691.trans (Wr.neR wH3699 (Or.inr (x_apart hKT hts inX8 tyX8 tyX8_ok nmX8 rfl 14 16 (by decide) (by decide) (by decide)))).symm
                have m3732 := m3692.trans (Wr.neR wH3699 (Or.inl (G_ne ga1 ga0 (by decide)))).symm
                have m3733 := m3693.trans (Wr.neR wH3699 (Or.inr (x_apart hKT hts inX8 tyX8 tyX8_ok nmX8 rfl 15 16 (by decide) (by decide) (by decide)))).symm
                have m3734 := Wr.I wH3699
                have m3734 := m3734.symm
                exact x_vret C hQ dX8_copyFrom_241 hSH3699 (by decide) (by decide) (⟨x3347, n4, n5, n10, n13, n16, rfl, m3704, m3714, m3715, m3724, m3729, m3734, by omega, m3706, CB.fin f3703 f3700 f3701 f3702 gO, hTH3699⟩)
              · have k3355 := i_nle c3354
                refine lv_aload_n hx hb dX8_copyFrom_74 rfl (lv_at hl3345 0 rfl) ?_
                refine x_gr C hTH3343 (ci := 8) (k := 3) rfl inX8 (by decide) wF_X8_23 ga0 rg_0 rfl dX8_copyFrom_75 (fun q3735 eq3735 gq3735 => ?_)
                refine lv_iload_n hx hb dX8_copyFrom_78 rfl (lv_at hl3345 2 rfl) ?_
                refine x_ar C hTH3343 rfl rfl gq3735 rg_27 ⟨by omega, by show _ < ((4 : Nat) : Int); omega⟩ dX8_copyFrom_79 (fun q3736 eq3736 gq3736 => ?_)
                refine lv_aload_n hx hb dX8_copyFrom_80 rfl (lv_at hl3345 1 rfl) ?_
                refine x_gr C hTH3343 (ci := 8) (k := 3) rfl inX8 (by decide) wF_X8_23 ga1 rg_34 rfl dX8_copyFrom_81 (fun q3737 eq3737 gq3737 => ?_)
                refine lv_iload_n hx hb dX8_copyFrom_84 rfl (lv_at hl3345 2 rfl) ?_
                refine x_ar C hTH3343 rfl rfl gq3737 rg_61 ⟨by omega, by show _ < ((4 : Nat) : Int); omega⟩ dX8_copyFrom_85 (fun q3738 eq3738 gq3738 => ?_)
                refine x_V (As := [.ref q3738]) (rest := []) C (a_X7_copyFrom_n_k l K G H3343  hTH3343 gq3736 gq3738) yo_X7_copyFrom wM_X8_64 ⟨⟨by decide, by decide⟩, by decide, by decide⟩ (x_rv C hTH3343 (ci := 7) rfl gq3736 rg_16) rfl hl3345.1 rfl (Nat.le_of_ble_eq_true rfl) dX8_copyFrom_86 hSH3343 (AE_sub (fun _ _ => rfl) (by decide) hSH3343.1) (fun vH3739 H3739 locsH3739 pH3739 zH3739 kH3739 hSH3739 => ?_)
                obtain ⟨hvH3739, hTH3739⟩ := pH3739
                subst hvH3739
                have f3740 : ∀ j : Nat, fR H3739 bq j = fR s.heap bq j := fun j => (fR_kept (x_lt hTH3343 kH3739 gbq (by decide))).trans (fy3353_rb j)
                have f3741 : ∀ j : Nat, fR H3739 oq j = fR s.heap oq j := fun j => (fR_kept (x_lt hTH3343 kH3739 goq (by decide))).trans (fy3353_ro j)
                have f3742 : ∀ q : Nat, G q = some 35 → fI H3739 q (K.1.2 0 14) = fI s.heap q (K.1.2 0 14) := fun q hq => (fI_kept (x_lt hTH3343 kH3739 hq (by decide))).trans (fy3353_so q hq)
                have f3743 : ∀ j : Nat, j < 10 → j < n1.toNatClampNeg → fI H3739 (fR s.heap bq j) (K.1.2 0 14) = fI s.heap (fR s.heap oq j) (K.1.2 0 14) := fun j h10 hj => (fI_kept (x_lt hTH3343 kH3739 (gB j h10) (by decide))).trans (fy3353_cb j h10 hj)
                have m3744 := (ex3347).trans (fI_kept (x_lt hTH3343 kH3739 ga0 (by decide))).symm
                have m3745 := (ex3348).trans (fI_kept (x_lt hTH3343 kH3739 ga0 (by decide))).symm
                have m3746 := (ex3349).trans (fI_kept (x_lt hTH3343 kH3739 ga0 (by decide))).symm
                have m3747 := (ex3350).trans (fI_kept (x_lt hTH3343 kH3739 ga0 (by decide))).symm
                have m3748 := (ex3351).trans (fI_kept (x_lt hTH3343 kH3739 ga0 (by decide))).symm
                have m3749 := (ex3352).trans (fI_kept (x_lt hTH3343 kH3739 ga0 (by decide))).symm
                have m3750 := (cy3353_0).trans (fR_kept (x_lt hTH3343 kH3739 ga0 (by decide))).symm
                have m3751 := (cy3353_1).trans (fR_kept (x_lt hTH3343 kH3739 ga1 (by decide))).symm
                have m3752 := (cy3353_2).trans (fI_kept (x_lt hTH3343 kH3739 ga1 (by decide))).symm
                have m3753 := (cy3353_3).trans (fI_kept (x_lt hTH3343 kH3739 ga1 (by decide))).symm
                have m3754 := (cy3353_4).trans (fI_kept (x_lt hTH3343 kH3739 ga1 (by decide))).symm
                have m3755 := (cy3353_5).trans (fI_kept (x_lt hTH3343 kH3739 ga1 (by decide))).symm
                have m3756 := (cy3353_6).trans (fI_kept (x_lt hTH3343 kH3739 ga1 (by decide))).symm
                have m3757 := (cy3353_7).trans (fI_kept (x_lt hTH3343 kH3739 ga1 (by decide))).symm
                have m3758 := (eq3735).trans (fR_kept (x_lt hTH3343 kH3739 ga0 (by decide))).symm
                have m3759 := (eq3737).trans (fR_kept (x_lt hTH3343 kH3739 ga1 (by decide))).symm
                refine W.eq (g2 := F0 m 89 ls3344 []) rfl ?_
                obtain ⟨x3760, ex3760⟩ : ∃ y : Int32, y = x3346 + 1 := ⟨_, rfl⟩
                have tx3760 := i_add ex3760 (by omega)
                refine lv_iinc (v := x3760) (lv' := [(2, .int x3760), (0, .ref a0), (1, .ref a1)]) hx hb dX8_copyFrom_89 hl3345 (k := 2) rfl (by rw [ex3760]; rfl) (by decide) rfl (fun ls3761 hl3762 => ?_)
                refine lv_goto (tgt := 69) hx hb dX8_copyFrom_92 (by decide) ?_
                have cl_n1 := i_cl (x := n1) (by omega)
                have cl00 : (0 : Int32).toNatClampNeg = 0 := rfl
                exact ih69 ls3761 H3739 locsH3739 (x3760) (x3347) (x3348) (x3349) (x3350) (x3351) (x3352) (lv_sub hl3762 [1, 2, 0] rfl) hTH3739 hSH3739 (by have := i_rng x3760; omega) (by have := i_rng x3347; omega) (by have := i_rng x3348; omega) (by have := i_rng x3350; omega) (by have := i_rng x3351; omega) (by have := i_rng x3352; omega) m3744 m3745 m3746 m3747 m3748 m3749 m3750 m3751 m3752 m3753 m3754 m3755 m3756 m3757 f3740 f3741 f3742 (CB.to f3743 (by omega)) (by omega) (by omega)
          refine lv_iload_n hx hb dX8_copyFrom_41 rfl (lv_at hl3334 2 rfl) ?_
          refine lv_iconst (v := 2) hx hb dX8_copyFrom_42 (by decide) ?_
          refine lv_icmp_ge (tgt := 67) hx hb dX8_copyFrom_43 (by decide) (fun c3763 => ?_) (fun c3763 => ?_)
          · have k3764 := i_le c3763
            refine lv_iconst (v := 0) hx hb dX8_copyFrom_67 (by decide) ?_
            refine lv_istore_n (lv' := [(2, .int 0), (0, .ref a0), (1, .ref a1)]) hx hb dX8_copyFrom_68 rfl hl3334 (by decide) rfl (fun ls3765 hl3766 => ?_)
            have cl_n1 := i_cl (x := n1) (by omega)
            have cl00 : (0 : Int32).toNatClampNeg = 0 := rfl
            exact J69 ((4 - (0 : Int32).toInt).toNat + 1) ls3765 H3332 locsH3332 (0) (x3336) (x3337) (x3338) (x3339) (x3340) (x3341) (lv_sub hl3766 [1, 2, 0] rfl) hTH3332 hSH3332 (by decide) (by have := i_rng x3336; omega) (by have := i_rng x3337; omega) (by have := i_rng x3339; omega) (by have := i_rng x3340; omega) (by have := i_rng x3341; omega) ex3336 ex3337 ex3338 ex3339 ex3340 ex3341 cy3342_0 cy3342_1 cy3342_2 cy3342_3 cy3342_4 cy3342_5 cy3342_6 cy3342_7 fy3342_rb fy3342_ro fy3342_so (CB.to fy3342_cb (by omega)) (by omega) (by omega)
          · have k3764 := i_nle c3763
            refine lv_aload_n hx hb dX8_copyFrom_46 rfl (lv_at hl3334 0 rfl) ?_
            refine x_gr C hTH3332 (ci := 8) (k := 2) rfl inX8 (by decide) wF_X8_19 ga0 rg_0 rfl dX8_copyFrom_47 (fun q3767 eq3767 gq3767 => ?_)
            refine lv_iload_n hx hb dX8_copyFrom_50 rfl (lv_at hl3334 2 rfl) ?_
            refine x_ar C hTH3332 rfl rfl gq3767 rg_26 ⟨by omega, by show _ < ((2 : Nat) : Int); omega⟩ dX8_copyFrom_51 (fun q3768 eq3768 gq3768 => ?_)
            refine lv_aload_n hx hb dX8_copyFrom_52 rfl (lv_at hl3334 1 rfl) ?_
            refine x_gr C hTH3332 (ci := 8) (k := 2) rfl inX8 (by decide) wF_X8_19 ga1 rg_34 rfl dX8_copyFrom_53 (fun q3769 eq3769 gq3769 => ?_)
            refine lv_iload_n hx hb dX8_copyFrom_56 rfl (lv_at hl3334 2 rfl) ?_
            refine x_ar C hTH3332 rfl rfl gq3769 rg_60 ⟨by omega, by show _ < ((2 : Nat) : Int); omega⟩ dX8_copyFrom_57 (fun q3770 eq3770 gq3770 => ?_)
            refine x_V (As := [.ref q3770]) (rest := []) C (a_X7_copyFrom_n_k l K G H3332  hTH3332 gq3768 gq3770) yo_X7_copyFrom wM_X8_64 ⟨⟨by decide, by decide⟩, by decide, by decide⟩ (x_rv C hTH3332 (ci := 7) rfl gq3768 rg_16) rfl hl3334.1 rfl (Nat.le_of_ble_eq_true rfl) dX8_copyFrom_58 hSH3332 (AE_sub (fun _ _ => rfl) (by decide) hSH3332.1) (fun vH3771 H3771 locsH3771 pH3771 zH3771 kH3771 hSH3771 => ?_)
            obtain ⟨hvH3771, hTH3771⟩ := pH3771
            subst hvH3771
            have f3772 : ∀ j : Nat, fR H3771 bq j = fR s.heap bq j := fun j => (fR_kept (x_lt hTH3332 kH3771 gbq (by decide))).trans (fy3342_rb j)
            have f3773 : ∀ j : Nat, fR H3771 oq j = fR s.heap oq j := fun j => (fR_kept (x_lt hTH3332 kH3771 goq (by decide))).trans (fy3342_ro j)
            have f3774 : ∀ q : Nat, G q = some 35 → fI H3771 q (K.1.2 0 14) = fI s.heap q (K.1.2 0 14) := fun q hq => (fI_kept (x_lt hTH3332 kH3771 hq (by decide))).trans (fy3342_so q hq)
            have f3775 : ∀ j : Nat, j < 10 → j < n1.toNatClampNeg → fI H3771 (fR s.heap bq j) (K.1.2 0 14) = fI s.heap (fR s.heap oq j) (K.1.2 0 14) := fun j h10 hj => (fI_kept (x_lt hTH3332 kH3771 (gB j h10) (by decide))).trans (fy3342_cb j h10 hj)
            have m3776 := (ex3336).trans (fI_kept (x_lt hTH3332 kH3771 ga0 (by decide))).symm
            have m3777 := (ex3337).trans (fI_kept (x_lt hTH3332 kH3771 ga0 (by decide))).symm
            have m3778 := (ex3338).trans (fI_kept (x_lt hTH3332 kH3771 ga0 (by decide))).symm
            have m3779 := (ex3339).trans (fI_kept (x_lt hTH3332 kH3771 ga0 (by decide))).symm
            have m3780 := (ex3340).trans (fI_kept (x_lt hTH3332 kH3771 ga0 (by decide))).symm
            have m3781 := (ex3341).trans (fI_kept (x_lt hTH3332 kH3771 ga0 (by decide))).symm
            have m3782 := (cy3342_0).trans (fR_kept (x_lt hTH3332 kH3771 ga0 (by decide))).symm
            have m3783 := (cy3342_1).trans (fR_kept (x_lt hTH3332 kH3771 ga1 (by decide))).symm
            have m3784 := (cy3342_2).trans (fI_kept (x_lt hTH3332 kH3771 ga1 (by decide))).symm
            have m3785 := (cy3342_3).trans (fI_kept (x_lt hTH3332 kH3771 ga1 (by decide))).symm
            have m3786 := (cy3342_4).trans (fI_kept (x_lt hTH3332 kH3771 ga1 (by decide))).symm
            have m3787 := (cy3342_5).trans (fI_kept (x_lt hTH3332 kH3771 ga1 (by decide))).symm
            have m3788 := (cy3342_6).trans (fI_kept (x_lt hTH3332 kH3771 ga1 (by decide))).symm
            have m3789 := (cy3342_7).trans (fI_kept (x_lt hTH3332 kH3771 ga1 (by decide))).symm
            have m3790 := (eq3767).trans (fR_kept (x_lt hTH3332 kH3771 ga0 (by decide))).symm
            have m3791 := (eq3769).trans (fR_kept (x_lt hTH3332 kH3771 ga1 (by decide))).symm
            refine W.eq (g2 := F0 m 61 ls3333 []) rfl ?_
            obtain ⟨x3792, ex3792⟩ : ∃ y : Int32, y = x3335 + 1 := ⟨_, rfl⟩
            have tx3792 := i_add ex3792 (by omega)
            refine lv_iinc (v := x3792) (lv' := [(2, .int x3792), (0, .ref a0), (1, .ref a1)]) hx hb dX8_copyFrom_61 hl3334 (k := 2) rfl (by rw [ex3792]; rfl) (by decide) rfl (fun ls3793 hl3794 => ?_)
            refine lv_goto (tgt := 41) hx hb dX8_copyFrom_64 (by decide) ?_
            have cl_n1 := i_cl (x := n1) (by omega)
            have cl00 : (0 : Int32).toNatClampNeg = 0 := rfl
            exact ih41 ls3793 H3771 locsH3771 (x3792) (x3336) (x3337) (x3338) (x3339) (x3340) (x3341) (lv_sub hl3794 [1, 2, 0] rfl) hTH3771 hSH3771 (by have := i_rng x3792; omega) (by have := i_rng x3336; omega) (by have := i_rng x3337; omega) (by have := i_rng x3339; omega) (by have := i_rng x3340; omega) (by have := i_rng x3341; omega) m3776 m3777 m3778 m3779 m3780 m3781 m3782 m3783 m3784 m3785 m3786 m3787 m3788 m3789 f3772 f3773 f3774 (CB.to f3775 (by omega)) (by omega) (by omega)
      refine lv_iload_n hx hb dX8_copyFrom_2 rfl (lv_at hl3323 2 rfl) ?_
      refine lv_aload_n hx hb dX8_copyFrom_3 rfl (lv_at hl3323 1 rfl) ?_
      refine x_gi C hTH3321 (ci := 8) (k := 1) rfl inX8 (by decide) wF_X8_57 ga1 rg_34 rfl dX8_copyFrom_4 (fun x3795 ex3795 bx3795 => ?_)
      have ux3795 : n1 = x3795 := (cy3331_2).trans ex3795.symm
      subst ux3795
      refine lv_icmp_ge (tgt := 31) hx hb dX8_copyFrom_7 (by decide) (fun c3796 => ?_) (fun c3796 => ?_)
      · have k3797 := i_le c3796
        refine lv_aload_n hx hb dX8_copyFrom_31 rfl (lv_at hl3323 0 rfl) ?_
        refine lv_aload_n hx hb dX8_copyFrom_32 rfl (lv_at hl3323 1 rfl) ?_
        refine x_gi C hTH3321 (ci := 8) (k := 1) rfl inX8 (by decide) wF_X8_57 ga1 rg_34 rfl dX8_copyFrom_33 (fun x3798 ex3798 bx3798 => ?_)
        have ux3798 : n1 = x3798 := (cy3331_2).trans ex3798.symm
        subst ux3798
        refine x_put C hTH3321 hSH3321 (ci := 8) (k := 1) (v := .int n1) (ty0 := tyX8) rfl inX8 tyX8_ok nmX8 (by decide) rfl wF_X8_57 ga0 rg_0 rfl rfl (okI (by have := i_rng n1; omega) (by have := i_rng n1; omega)) rfl rfl (AE_in ga0 (by decide)) dX8_copyFrom_36 (fun H3799 locsH3799 hTH3799 hSH3799 wH3799 => ?_)
        have f3800 : ∀ j : Nat, fR H3799 bq j = fR s.heap bq j := fun j => (Wr.neR wH3799 (Or.inl (G_ne gbq ga0 (by decide)))).trans (fy3331_rb j)
        have f3801 : ∀ j : Nat, fR H3799 oq j = fR s.heap oq j := fun j => (Wr.neR wH3799 (Or.inl (G_ne goq ga0 (by decide)))).trans (fy3331_ro j)
        have f3802 : ∀ q : Nat, G q = some 35 → fI H3799 q (K.1.2 0 14) = fI s.heap q (K.1.2 0 14) := fun q hq => (Wr.neI wH3799 (Or.inl (G_ne hq ga0 (by decide)))).trans (fy3331_so q hq)
        have f3803 : ∀ j : Nat, j < 10 → j < x3324.toNatClampNeg → fI H3799 (fR s.heap bq j) (K.1.2 0 14) = fI s.heap (fR s.heap oq j) (K.1.2 0 14) := fun j h10 hj => (Wr.neI wH3799 (Or.inl (G_ne (gB j h10) ga0 (by decide)))).trans (fy3331_cb j h10 hj)
        have m3805 := ex3326.trans (Wr.neI wH3799 (Or.inr (x_apart hKT hts inX8 tyX8 tyX8_ok nmX8 rfl 4 1 (by decide) (by decide) (by decide)))).symm
        have m3806 := ex3327.trans (Wr.neI wH3799 (Or.inr (x_apart hKT hts inX8 tyX8 tyX8_ok nmX8 rfl 5 1 (by decide) (by decide) (by decide)))).symm
        have m3807 := ex3328.trans (Wr.neI wH3799 (Or.inr (x_apart hKT hts inX8 tyX8 tyX8_ok nmX8 rfl 10 1 (by decide) (by decide) (by decide)))).symm
        have m3808 := ex3329.trans (Wr.neI wH3799 (Or.inr (x_apart hKT hts inX8 tyX8 tyX8_ok nmX8 rfl 13 1 (by decide) (by decide) (by decide)))).symm
        have m3809 := ex3330.trans (Wr.neI wH3799 (Or.inr (x_apart hKT hts inX8 tyX8 tyX8_ok nmX8 rfl 16 1 (by decide) (by decide) (by decide)))).symm
        have m3810 := cy3331_0.trans (Wr.neR wH3799 (Or.inr (x_apart hKT hts inX8 tyX8 tyX8_ok nmX8 rfl 0 1 (by decide) (by decide) (by decide)))).symm
        have m3811 := cy3331_1.trans (Wr.neR wH3799 (Or.inl (G_ne ga1 ga0 (by decide)))).symm
        have m3812 := cy3331_2.trans (Wr.neI wH3799 (Or.inl (G_ne ga1 ga0 (by decide)))).symm
        have m3813 := cy3331_3.trans (Wr.neI wH3799 (Or.inl (G_ne ga1 ga0 (by decide)))).symm
        have m3814 := cy3331_4.trans (Wr.neI wH3799 (Or.inl (G_ne ga1 ga0 (by decide)))).symm
        have m3815 := cy3331_5.trans (Wr.neI wH3799 (Or.inl (G_ne ga1 ga0 (by decide)))).symm
        have m3816 := cy3331_6.trans (Wr.neI wH3799 (Or.inl (G_ne ga1 ga0 (by decide)))).symm
        have m3817 := cy3331_7.trans (Wr.neI wH3799 (Or.inl (G_ne ga1 ga0 (by decide)))).symm
        have m3818 := Wr.I wH3799
        have m3818 := m3818.symm
        refine lv_iconst (v := 0) hx hb dX8_copyFrom_39 (by decide) ?_
        refine lv_istore_n (lv' := [(2, .int 0), (0, .ref a0), (1, .ref a1)]) hx hb dX8_copyFrom_40 rfl hl3323 (by decide) rfl (fun ls3819 hl3820 => ?_)
        have cl_n1 := i_cl (x := n1) (by omega)
        have cl_x3324 := i_cl (x := x3324) (by omega)
        have cl00 : (0 : Int32).toNatClampNeg = 0 := rfl
        exact J41 ((2 - (0 : Int32).toInt).toNat + 1) ls3819 H3799 locsH3799 (0) (n1) (x3326) (x3327) (x3328) (x3329) (x3330) (lv_sub hl3820 [1, 2, 0] rfl) hTH3799 hSH3799 (by decide) (by have := i_rng n1; omega) (by have := i_rng x3326; omega) (by have := i_rng x3328; omega) (by have := i_rng x3329; omega) (by have := i_rng x3330; omega) m3818 m3805 m3806 m3807 m3808 m3809 m3810 m3811 m3812 m3813 m3814 m3815 m3816 m3817 f3800 f3801 f3802 (CB.to f3803 (by omega)) (by omega) (by omega)
      · have k3797 := i_nle c3796
        refine lv_aload_n hx hb dX8_copyFrom_10 rfl (lv_at hl3323 0 rfl) ?_
        refine x_gr C hTH3321 (ci := 8) (k := 0) rfl inX8 (by decide) wF_X8_11 ga0 rg_0 rfl dX8_copyFrom_11 (fun q3821 eq3821 gq3821 => ?_)
        have uq3821 : bq = q3821 := (cy3331_0).trans eq3821.symm
        subst uq3821
        refine lv_iload_n hx hb dX8_copyFrom_14 rfl (lv_at hl3323 2 rfl) ?_
        refine x_ar C hTH3321 rfl rfl gbq rg_25 ⟨by omega, by show _ < ((10 : Nat) : Int); omega⟩ dX8_copyFrom_15 (fun q3822 eq3822 gq3822 => ?_)
        have Eq3822 : q3822 = fR s.heap bq x3324.toNatClampNeg := eq3822.trans (fy3331_rb _)
        refine lv_aload_n hx hb dX8_copyFrom_16 rfl (lv_at hl3323 1 rfl) ?_
        refine x_gr C hTH3321 (ci := 8) (k := 0) rfl inX8 (by decide) wF_X8_11 ga1 rg_34 rfl dX8_copyFrom_17 (fun q3823 eq3823 gq3823 => ?_)
        have uq3823 : oq = q3823 := (cy3331_1).trans eq3823.symm
        subst uq3823
        refine lv_iload_n hx hb dX8_copyFrom_20 rfl (lv_at hl3323 2 rfl) ?_
        refine x_ar C hTH3321 rfl rfl goq rg_59 ⟨by omega, by show _ < ((10 : Nat) : Int); omega⟩ dX8_copyFrom_21 (fun q3824 eq3824 gq3824 => ?_)
        have Eq3824 : q3824 = fR s.heap oq x3324.toNatClampNeg := eq3824.trans (fy3331_ro _)
        obtain ⟨x3825, ex3825⟩ : ∃ z : Int32, z = fI H3321 q3822 (K.1.2 0 14) := ⟨_, rfl⟩
        have bx3825 := ty_fi (x := x3825) (k := 14) ex3825 hTH3321 gq3822 rg_1 rfl
        obtain ⟨x3826, ex3826⟩ : ∃ z : Int32, z = fI H3321 q3824 (K.1.2 0 14) := ⟨_, rfl⟩
        have bx3826 := ty_fi (x := x3826) (k := 14) ex3826 hTH3321 gq3824 rg_35 rfl
        refine x_V (As := [.ref q3824]) (rest := []) C (a_X0_copyFrom_bn l K G H3321 (x3825) (x3826) hTH3321 gq3822 gq3824 ex3825 ex3826) yo_X0_copyFrom wM_X8_60 ⟨⟨by decide, by decide⟩, by decide, by decide⟩ (x_rv C hTH3321 (ci := 0) rfl gq3822 rg_1) rfl hl3323.1 rfl (Nat.le_of_ble_eq_true rfl) dX8_copyFrom_22 hSH3321 (AE_sub (fun _ _ => rfl) (by decide) hSH3321.1) (fun vH3827 H3827 locsH3827 pH3827 zH3827 kH3827 hSH3827 => ?_)
        obtain ⟨x3828, hvH3827, ex3828, hrH3827, m3829, hTH3827⟩ := pH3827
        subst hvH3827
        have f3830 : ∀ j : Nat, fR H3827 bq j = fR s.heap bq j := fun j => (fR_kept (x_lt hTH3321 kH3827 gbq (by decide))).trans (fy3331_rb j)
        have f3831 : ∀ j : Nat, fR H3827 oq j = fR s.heap oq j := fun j => (fR_kept (x_lt hTH3321 kH3827 goq (by decide))).trans (fy3331_ro j)
        have f3832 : ∀ q : Nat, G q = some 35 → fI H3827 q (K.1.2 0 14) = fI s.heap q (K.1.2 0 14) := fun q hq => (fI_kept (x_lt hTH3321 kH3827 hq (by decide))).trans (fy3331_so q hq)
        have m3833 := (ex3325).trans (fI_kept (x_lt hTH3321 kH3827 ga0 (by decide))).symm
        have m3834 := (ex3326).trans (fI_kept (x_lt hTH3321 kH3827 ga0 (by decide))).symm
        have m3835 := (ex3327).trans (fI_kept (x_lt hTH3321 kH3827 ga0 (by decide))).symm
        have m3836 := (ex3328).trans (fI_kept (x_lt hTH3321 kH3827 ga0 (by decide))).symm
        have m3837 := (ex3329).trans (fI_kept (x_lt hTH3321 kH3827 ga0 (by decide))).symm
        have m3838 := (ex3330).trans (fI_kept (x_lt hTH3321 kH3827 ga0 (by decide))).symm
        have m3839 := (cy3331_0).trans (fR_kept (x_lt hTH3321 kH3827 ga0 (by decide))).symm
        have m3840 := (cy3331_1).trans (fR_kept (x_lt hTH3321 kH3827 ga1 (by decide))).symm
        have m3841 := (cy3331_2).trans (fI_kept (x_lt hTH3321 kH3827 ga1 (by decide))).symm
        have m3842 := (cy3331_3).trans (fI_kept (x_lt hTH3321 kH3827 ga1 (by decide))).symm
        have m3843 := (cy3331_4).trans (fI_kept (x_lt hTH3321 kH3827 ga1 (by decide))).symm
        have m3844 := (cy3331_5).trans (fI_kept (x_lt hTH3321 kH3827 ga1 (by decide))).symm
        have m3845 := (cy3331_6).trans (fI_kept (x_lt hTH3321 kH3827 ga1 (by decide))).symm
        have m3846 := (cy3331_7).trans (fI_kept (x_lt hTH3321 kH3827 ga1 (by decide))).symm
        have m3847 := (ex3826).trans (fI_kept (x_lt hTH3321 kH3827 gq3824 (by decide))).symm
        have bx3828 := ty_fi (x := x3828) (k := 14) ex3828 hTH3827 gq3822 rg_1 rfl
        have cl_x3324 := i_cl (x := x3324) (by omega)
        have f3848 : ∀ j : Nat, j < 10 → j < x3324.toNatClampNeg + 1 → fI H3827 (fR s.heap bq j) (K.1.2 0 14) = fI s.heap (fR s.heap oq j) (K.1.2 0 14) := CB.step hdb gB (by omega) fy3331_cb m3829 Eq3822 Eq3824 ex3828 ex3826 (fy3331_so _ gq3824) hrH3827
        refine W.eq (g2 := F0 m 25 ls3322 []) rfl ?_
        obtain ⟨x3849, ex3849⟩ : ∃ y : Int32, y = x3324 + 1 := ⟨_, rfl⟩
        have tx3849 := i_add ex3849 (by omega)
        refine lv_iinc (v := x3849) (lv' := [(2, .int x3849), (0, .ref a0), (1, .ref a1)]) hx hb dX8_copyFrom_25 hl3323 (k := 2) rfl (by rw [ex3849]; rfl) (by decide) rfl (fun ls3850 hl3851 => ?_)
        refine lv_goto (tgt := 2) hx hb dX8_copyFrom_28 (by decide) ?_
        have cl_x3324 := i_cl (x := x3324) (by omega)
        have cl_x3849 := i_cl (x := x3849) (by omega)
        have cl00 : (0 : Int32).toNatClampNeg = 0 := rfl
        exact ih2 ls3850 H3827 locsH3827 (x3849) (x3325) (x3326) (x3327) (x3328) (x3329) (x3330) (lv_sub hl3851 [1, 2, 0] rfl) hTH3827 hSH3827 (by have := i_rng x3849; omega) (by have := i_rng x3325; omega) (by have := i_rng x3326; omega) (by have := i_rng x3328; omega) (by have := i_rng x3329; omega) (by have := i_rng x3330; omega) m3833 m3834 m3835 m3836 m3837 m3838 m3839 m3840 m3841 m3842 m3843 m3844 m3845 m3846 f3830 f3831 f3832 (CB.to f3848 (by omega)) (by omega)
  refine lv_iconst (v := 0) hx hb dX8_copyFrom_0 (by decide) ?_
  refine lv_istore_n (lv' := [(2, .int 0), (0, .ref a0), (1, .ref a1)]) hx hb dX8_copyFrom_1 rfl hl (by decide) rfl (fun ls3852 hl3853 => ?_)
  have cl00 : (0 : Int32).toNatClampNeg = 0 := rfl
  exact J2 ((10 - (0 : Int32).toInt).toNat + 1) ls3852 s.heap [] (0) (k1) (k4) (k5) (k10) (k13) (k16) (lv_sub hl3853 [1, 2, 0] rfl) hT hS (by decide) (by have := i_rng k1; omega) (by have := i_rng k4; omega) (by have := i_rng k10; omega) (by have := i_rng k13; omega) (by have := i_rng k16; omega) ek1 ek4 ek5 ek10 ek13 ek16 ebq eoq en1 en4 en5 en10 en13 en16 f0_rb f0_ro f0_so (CB.to f0_cb (by omega)) (by omega)

set_option maxHeartbeats 4000000 in
set_option maxRecDepth 100000 in
theorem a_X9_image_b0n (l : Launch) (K : KE) (G : Nat → Option Nat) (H : Heap) {a0 wq : Nat} (s1 : Int32) (s4 : Int32) (s5 : Int32) (s10 : Int32) (s13 : Int32) (s16 : Int32) (tp : Int32) {bq : Nat}  (hT : TY K G H) (ga0 : G a0 = some 68) (gwq : G wq = some 0) (ewq : wq = fR H a0 (K.1.2 9 0)) (es1 : s1 = fI H wq (K.1.2 8 1)) (es4 : s4 = fI H wq (K.1.2 8 4)) (es5 : s5 = fI H wq (K.1.2 8 5)) (es10 : s10 = fI H wq (K.1.2 8 10)) (es13 : s13 = fI H wq (K.1.2 8 13)) (es16 : s16 = fI H wq (K.1.2 8 16)) (gbq : G bq = some 25) (ebq : bq = fR H wq (K.1.2 8 0)) (dbn : DB H bq) (etp : tp = fI H a0 (K.1.2 9 3)) (hkv : fV H a0 (K.1.2 9 1) = .null) : MX l K yX9_image cX9_image 2 (some .boolean) 0 0 0 0 [.ref a0, .int 0] H (AE G [] H.size) (fun v H1 => ∃ (r : Int32), v = some (.int r) ∧ r.toInt = 0 ∧ ∃ G1 : Nat → Option Nat, (∀ q, q < H.size → G1 q = G q) ∧ TY K G1 H1) := by
  refine MX.of (by decide +kernel) (Nat.le_of_ble_eq_true rfl) ?_
  intro p e s m below meth c ls Q C hH hl hQ
  subst hH
  have C : CX p K s m _ meth c RX9 cX9_image 2 (some .boolean) "image" := C
  obtain ⟨hx, hb, hml, hown, hts, hKT, hr, hlocks, hnm⟩ := id C
  have hl : lv_has ls 2 [(0, .ref a0), (1, .int 0)] := hl
  have hS : va_S (AE G [] s.heap.size) s.heap s.heap [] := va_S.rf
  have n_0 : (0 : Int32).toInt = 0 := rfl
  have hT_0 := hT
  have hGo : ∀ q, q < s.heap.size → G q = G q := fun _ _ => rfl
  refine lv_iload_n hx hb dX9_image_0 rfl (lv_at hl 1 rfl) ?_
  refine lv_if_eq (tgt := 36) hx hb dX9_image_1 (by decide) (fun c101 => ?_) (fun c101 => ?_)
  · have k102 := i_eq c101
    refine lv_aload_n hx hb dX9_image_36 rfl (lv_at hl 0 rfl) ?_
    refine x_gn C hT (ci := 9) (k := 1) rfl inX9 (by decide) wF_X9_348 ga0 rg_68 rfl dX9_image_37 (fun _ => ?_) (fun q _ hq _ => absurd (hq.symm.trans hkv) (by intro h; cases h))
    refine lv_ifnullN (tgt := 54) hx hb dX9_image_40 (by decide) ?_
    refine lv_aload_n hx hb dX9_image_54 rfl (lv_at hl 0 rfl) ?_
    refine x_gn C hT (ci := 9) (k := 1) rfl inX9 (by decide) wF_X9_348 ga0 rg_68 rfl dX9_image_55 (fun _ => ?_) (fun q _ hq _ => absurd (hq.symm.trans hkv) (by intro h; cases h))
    refine lv_ifnullN (tgt := 65) hx hb dX9_image_58 (by decide) ?_
    refine lv_iconst (v := 0) hx hb dX9_image_65 (by decide) ?_
    exact x_zret C hQ (Or.inl rfl) dX9_image_66 hS (by decide) (by decide) (⟨0, rfl, by omega, G, fun _ _ => rfl, hT⟩)
  · have k102 := i_ne c101
    exfalso
    omega

set_option maxHeartbeats 4000000 in
set_option maxRecDepth 100000 in
theorem a_X9_image_b0v (l : Launch) (K : KE) (G : Nat → Option Nat) (H : Heap) {a0 wq : Nat} (s1 : Int32) (s4 : Int32) (s5 : Int32) (s10 : Int32) (s13 : Int32) (s16 : Int32) (tp : Int32) {bq : Nat} {kq kb : Nat} (k1 : Int32) (k4 : Int32) (k5 : Int32) (k10 : Int32) (k13 : Int32) (k16 : Int32) (hT : TY K G H) (ga0 : G a0 = some 68) (gwq : G wq = some 0) (ewq : wq = fR H a0 (K.1.2 9 0)) (es1 : s1 = fI H wq (K.1.2 8 1)) (es4 : s4 = fI H wq (K.1.2 8 4)) (es5 : s5 = fI H wq (K.1.2 8 5)) (es10 : s10 = fI H wq (K.1.2 8 10)) (es13 : s13 = fI H wq (K.1.2 8 13)) (es16 : s16 = fI H wq (K.1.2 8 16)) (gbq : G bq = some 25) (ebq : bq = fR H wq (K.1.2 8 0)) (dbn : DB H bq) (etp : tp = fI H a0 (K.1.2 9 3)) (hkv : fV H a0 (K.1.2 9 1) = .ref kq) (gkq : G kq = some 34) (gkb : G kb = some 59) (ekb : kb = fR H kq (K.1.2 8 0)) (dbk : DB H kb) (ek1 : k1 = fI H kq (K.1.2 8 1)) (ek4 : k4 = fI H kq (K.1.2 8 4)) (ek5 : k5 = fI H kq (K.1.2 8 5)) (ek10 : k10 = fI H kq (K.1.2 8 10)) (ek13 : k13 = fI H kq (K.1.2 8 13)) (ek16 : k16 = fI H kq (K.1.2 8 16)) : MX l K yX9_image cX9_image 2 (some .boolean) 3 84 0 0 [.ref a0, .int 0] H (AE G [0, 1, 2, 3, 4, 5, 6, 7, 8, 9, 10, 12, 14, 15, 16, 17, 18, 19, 20, 21, 22, 23, 24, 28, 29, 30, 31, 32, 33] H.size) (fun v H1 => ∃ (r : Int32), v = some (.int r) ∧ r.toInt = 1 ∧ ∃ G1 : Nat → Option Nat, (∀ q, q < H.size → G1 q = G q) ∧ TY K G1 H1 ∧ bq = fR H1 wq (K.1.2 8 0) ∧ (fI H1 wq (K.1.2 8 1)).toInt = k1.toInt ∧ (fI H1 wq (K.1.2 8 4)).toInt = k4.toInt ∧ (fI H1 wq (K.1.2 8 5)).toInt = k5.toInt ∧ (fI H1 wq (K.1.2 8 10)).toInt = k10.toInt ∧ (fI H1 wq (K.1.2 8 13)).toInt = k13.toInt ∧ (fI H1 wq (K.1.2 8 16)).toInt = k16.toInt ∧ (∀ j : Nat, j < 10 → j < k1.toNatClampNeg → fI H1 (fR H1 bq j) (K.1.2 0 14) = fI H1 (fR H1 kb j) (K.1.2 0 14))) := by
  refine MX.of (by decide +kernel) (Nat.le_of_ble_eq_true rfl) ?_
  intro p e s m below meth c ls Q C hH hl hQ
  subst hH
  have C : CX p K s m _ meth c RX9 cX9_image 2 (some .boolean) "image" := C
  obtain ⟨hx, hb, hml, hown, hts, hKT, hr, hlocks, hnm⟩ := id C
  have hl : lv_has ls 2 [(0, .ref a0), (1, .int 0)] := hl
  have hS : va_S (AE G [0, 1, 2, 3, 4, 5, 6, 7, 8, 9, 10, 12, 14, 15, 16, 17, 18, 19, 20, 21, 22, 23, 24, 28, 29, 30, 31, 32, 33] s.heap.size) s.heap s.heap [] := va_S.rf
  have n_0 : (0 : Int32).toInt = 0 := rfl
  have n_1 : (1 : Int32).toInt = 1 := rfl
  have hT_0 := hT
  have hGo : ∀ q, q < s.heap.size → G q = G q := fun _ _ => rfl
  refine lv_iload_n hx hb dX9_image_0 rfl (lv_at hl 1 rfl) ?_
  refine lv_if_eq (tgt := 36) hx hb dX9_image_1 (by decide) (fun c101 => ?_) (fun c101 => ?_)
  · have k102 := i_eq c101
    refine lv_aload_n hx hb dX9_image_36 rfl (lv_at hl 0 rfl) ?_
    refine x_gn C hT (ci := 9) (k := 1) rfl inX9 (by decide) wF_X9_348 ga0 rg_68 rfl dX9_image_37 (fun z => absurd (z.symm.trans hkv) (by intro h; cases h)) (fun q103 eq103 fq103 gq103 => ?_)
    have uq103 : kq = q103 := by have h := hkv.symm.trans fq103; cases h; rfl
    subst uq103
    refine lv_ifnull hx hb dX9_image_40 ?_
    refine lv_aload_n hx hb dX9_image_43 rfl (lv_at hl 0 rfl) ?_
    refine x_gr C hT (ci := 9) (k := 0) rfl inX9 (by decide) wF_X9_12 ga0 rg_68 rfl dX9_image_44 (fun q104 eq104 gq104 => ?_)
    have uq104 : wq = q104 := (ewq).trans eq104.symm
    subst uq104
    refine lv_aload_n hx hb dX9_image_47 rfl (lv_at hl 0 rfl) ?_
    refine x_gn C hT (ci := 9) (k := 1) rfl inX9 (by decide) wF_X9_348 ga0 rg_68 rfl dX9_image_48 (fun z => absurd (z.symm.trans hkv) (by intro h; cases h)) (fun q105 eq105 fq105 gq105 => ?_)
    have uq105 : kq = q105 := by have h := hkv.symm.trans fq105; cases h; rfl
    subst uq105
    refine x_V (As := [.ref kq]) (rest := []) C (a_X8_copyFrom_bn l K G s.heap (s1) (s4) (s5) (s10) (s13) (s16) (k1) (k4) (k5) (k10) (k13) (k16) hT gwq gkq gbq ebq gkb ekb es1 es4 es5 es10 es13 es16 ek1 ek4 ek5 ek10 ek13 ek16 (dbn)) yo_X8_copyFrom wM_X9_351 ⟨⟨by decide, by decide⟩, by decide, by decide⟩ (x_rv C hT (ci := 8) rfl gwq rg_0) rfl hl.1 rfl (Nat.le_of_ble_eq_true rfl) dX9_image_51 hS (AE_sub (fun _ _ => rfl) (by decide) hS.1) (fun vH106 H106 locsH106 pH106 zH106 kH106 hSH106 => ?_)
    obtain ⟨x107, x108, x109, x110, x111, x112, hvH106, ex107, ex108, ex109, ex110, ex111, ex112, hrH106, m113, m114, hTH106⟩ := pH106
    subst hvH106
    replace dbn := DB.kept dbn (x_lt hT kH106 gbq (by decide))
    replace dbk := DB.kept dbk (x_lt hT kH106 gkb (by decide))
    have m115 := (ewq).trans (fR_kept (x_lt hT kH106 ga0 (by decide))).symm
    have m116 := (etp).trans (fI_kept (x_lt hT kH106 ga0 (by decide))).symm
    have m117 := (fV_kept (x_lt hT kH106 ga0 (by decide))).trans hkv
    have m118 := (ek1).trans (fI_kept (x_lt hT kH106 gkq (by decide))).symm
    have m119 := (ek4).trans (fI_kept (x_lt hT kH106 gkq (by decide))).symm
    have m120 := (ek5).trans (fI_kept (x_lt hT kH106 gkq (by decide))).symm
    have m121 := (ek10).trans (fI_kept (x_lt hT kH106 gkq (by decide))).symm
    have m122 := (ek13).trans (fI_kept (x_lt hT kH106 gkq (by decide))).symm
    have m123 := (ek16).trans (fI_kept (x_lt hT kH106 gkq (by decide))).symm
    have m124 := (ekb).trans (fR_kept (x_lt hT kH106 gkq (by decide))).symm
    have bx107 := ty_fi (x := x107) (k := 1) ex107 hTH106 gwq rg_0 rfl
    have bx108 := ty_fi (x := x108) (k := 4) ex108 hTH106 gwq rg_0 rfl
    have bx109 := ty_fi (x := x109) (k := 5) ex109 hTH106 gwq rg_0 rfl
    have bx110 := ty_fi (x := x110) (k := 10) ex110 hTH106 gwq rg_0 rfl
    have bx111 := ty_fi (x := x111) (k := 13) ex111 hTH106 gwq rg_0 rfl
    have bx112 := ty_fi (x := x112) (k := 16) ex112 hTH106 gwq rg_0 rfl
    refine W.eq (g2 := F0 m 54 ls []) rfl ?_
    refine lv_aload_n hx hb dX9_image_54 rfl (lv_at hl 0 rfl) ?_
    refine x_gn C hTH106 (ci := 9) (k := 1) rfl inX9 (by decide) wF_X9_348 ga0 rg_68 rfl dX9_image_55 (fun z => absurd (z.symm.trans m117) (by intro h; cases h)) (fun q125 eq125 fq125 gq125 => ?_)
    have uq125 : kq = q125 := by have h := m117.symm.trans fq125; cases h; rfl
    subst uq125
    refine lv_ifnull hx hb dX9_image_58 ?_
    refine lv_iconst (v := 1) hx hb dX9_image_61 (by decide) ?_
    refine lv_goto (tgt := 66) hx hb dX9_image_62 (by decide) ?_
    exact x_zret C hQ (Or.inr rfl) dX9_image_66 hSH106 (by decide) (by decide) (⟨1, rfl, by omega, G, fun _ _ => rfl, hTH106, m113, by rw [← ex107]; omega, by rw [← ex108]; omega, by rw [← ex109]; omega, by rw [← ex110]; omega, by rw [← ex111]; omega, by rw [← ex112]; omega, m114⟩)
  · have k102 := i_ne c101
    exfalso
    omega

set_option maxHeartbeats 4000000 in
set_option maxRecDepth 100000 in
theorem a_X9_image_b1n (l : Launch) (K : KE) (G : Nat → Option Nat) (H : Heap) {a0 wq : Nat} (s1 : Int32) (s4 : Int32) (s5 : Int32) (s10 : Int32) (s13 : Int32) (s16 : Int32) (tp : Int32) {bq : Nat}  (hT : TY K G H) (ga0 : G a0 = some 68) (gwq : G wq = some 0) (ewq : wq = fR H a0 (K.1.2 9 0)) (es1 : s1 = fI H wq (K.1.2 8 1)) (es4 : s4 = fI H wq (K.1.2 8 4)) (es5 : s5 = fI H wq (K.1.2 8 5)) (es10 : s10 = fI H wq (K.1.2 8 10)) (es13 : s13 = fI H wq (K.1.2 8 13)) (es16 : s16 = fI H wq (K.1.2 8 16)) (gbq : G bq = some 25) (ebq : bq = fR H wq (K.1.2 8 0)) (dbn : DB H bq) (etp : tp = fI H a0 (K.1.2 9 3)) (hkv : fV H a0 (K.1.2 9 1) = .null) : MX l K yX9_image cX9_image 2 (some .boolean) 3 84 434 13027 [.ref a0, .int 1] H (AE G [68, 34, 35, 36, 37, 38, 39, 40, 41, 42, 43, 44, 46, 48, 49, 50, 51, 52, 53, 54, 55, 56, 57, 58, 62, 63, 64, 65, 66, 67] H.size) (fun v H1 => ∃ (r : Int32), v = some (.int r) ∧ r.toInt = 1 ∧ ∃ G1 : Nat → Option Nat, (∀ q, q < H.size → G1 q = G q) ∧ TY K G1 H1 ∧ wq = fR H1 a0 (K.1.2 9 0) ∧ tp = fI H1 a0 (K.1.2 9 3) ∧ ∃ q kb1 : Nat, fV H1 a0 (K.1.2 9 1) = .ref q ∧ G1 q = some 34 ∧ G1 kb1 = some 59 ∧ kb1 = fR H1 q (K.1.2 8 0) ∧ DB H1 kb1 ∧ (fI H1 q (K.1.2 8 1)).toInt = s1.toInt ∧ (fI H1 q (K.1.2 8 4)).toInt = s4.toInt ∧ (fI H1 q (K.1.2 8 5)).toInt = s5.toInt ∧ (fI H1 q (K.1.2 8 10)).toInt = s10.toInt ∧ (fI H1 q (K.1.2 8 13)).toInt = s13.toInt ∧ (fI H1 q (K.1.2 8 16)).toInt = s16.toInt ∧ (∀ j : Nat, j < 10 → j < s1.toNatClampNeg → fI H1 (fR H1 kb1 j) (K.1.2 0 14) = fI H1 (fR H1 bq j) (K.1.2 0 14))) := by
  refine MX.of (by decide +kernel) (Nat.le_of_ble_eq_true rfl) ?_
  intro p e s m below meth c ls Q C hH hl hQ
  subst hH
  have C : CX p K s m _ meth c RX9 cX9_image 2 (some .boolean) "image" := C
  obtain ⟨hx, hb, hml, hown, hts, hKT, hr, hlocks, hnm⟩ := id C
  have hl : lv_has ls 2 [(0, .ref a0), (1, .int 1)] := hl
  have hS : va_S (AE G [68, 34, 35, 36, 37, 38, 39, 40, 41, 42, 43, 44, 46, 48, 49, 50, 51, 52, 53, 54, 55, 56, 57, 58, 62, 63, 64, 65, 66, 67] s.heap.size) s.heap s.heap [] := va_S.rf
  have n_0 : (0 : Int32).toInt = 0 := rfl
  have n_1 : (1 : Int32).toInt = 1 := rfl
  have n_10 : (10 : Int32).toInt = 10 := rfl
  have hT_0 := hT
  have hGo : ∀ q, q < s.heap.size → G q = G q := fun _ _ => rfl
  refine lv_iload_n hx hb dX9_image_0 rfl (lv_at hl 1 rfl) ?_
  refine lv_if_eq (tgt := 36) hx hb dX9_image_1 (by decide) (fun c101 => ?_) (fun c101 => ?_)
  · have k102 := i_eq c101
    exfalso
    omega
  · have k102 := i_ne c101
    refine lv_aload_n hx hb dX9_image_4 rfl (lv_at hl 0 rfl) ?_
    refine x_gn C hT (ci := 9) (k := 1) rfl inX9 (by decide) wF_X9_348 ga0 rg_68 rfl dX9_image_5 (fun _ => ?_) (fun q _ hq _ => absurd (hq.symm.trans hkv) (by intro h; cases h))
    refine lv_ifnonnullN hx hb dX9_image_8 ?_
    refine lv_aload_n hx hb dX9_image_11 rfl (lv_at hl 0 rfl) ?_
    refine x_new C hT hS (ci := 8) (ty0 := tyX8) (vs := [.null, .int 0, .null, .null, .int 0, .int 0, .int 0, .int 0, .null, .null, .int 0, .null, .null, .int 0, .null, .null, .int 0]) rfl inX8 tyX8_ok wC_X9_9 wIS_X8 wIN_X8 dfX8 ⟨by decide, by decide⟩ dX9_image_12 (fun H103 hR105 hTH103 hSH103 oH103 zH103 => ?_)
    have hNq104 : G s.heap.size = none := hT.gb _ (Nat.le_refl _)
    replace dbn := DB.kept dbn (oH103 _ (hT.lt gbq))
    have m106 := (ewq).trans (fR_kept (oH103 _ (hT.lt ga0))).symm
    have m107 := (es1).trans (fI_kept (oH103 _ (hT.lt gwq))).symm
    have m108 := (es4).trans (fI_kept (oH103 _ (hT.lt gwq))).symm
    have m109 := (es5).trans (fI_kept (oH103 _ (hT.lt gwq))).symm
    have m110 := (es10).trans (fI_kept (oH103 _ (hT.lt gwq))).symm
    have m111 := (es13).trans (fI_kept (oH103 _ (hT.lt gwq))).symm
    have m112 := (es16).trans (fI_kept (oH103 _ (hT.lt gwq))).symm
    have m113 := (etp).trans (fI_kept (oH103 _ (hT.lt ga0))).symm
    have m114 := (ebq).trans (fR_kept (oH103 _ (hT.lt gwq))).symm
    have m115 := (fV_kept (oH103 _ (hT.lt ga0))).trans hkv
    obtain ⟨q104, eq104⟩ : ∃ q, q = s.heap.size := ⟨_, rfl⟩
    have leq104 : s.heap.size ≤ q104 := by rw [eq104]; exact hS.1
    rw [← eq104] at hNq104 hR105
    rw [← eq104]
    clear eq104
    clear oH103 zH103 hT
    refine lv_dup hx hb dX9_image_15 rfl ?_
    refine x_I (As := []) (rest := [.ref q104, .ref a0]) C (k_X8_init_kept l K G H103 (a := q104) hTH103 hNq104 hR105) yo_X8_init rfl wM_X9_11 ⟨⟨by decide, by decide⟩, by decide, by decide⟩ rfl hl.1 rfl (Nat.le_of_ble_eq_true rfl) dX9_image_16 hSH103 (fun x h => Or.inr (h.elim (fun e => by rw [e]; exact leq104) (fun h => Nat.le_trans hSH103.1 h))) (fun vH116 H116 locsH116 pH116 zH116 kH116 hSH116 => ?_)
    obtain ⟨hvH116, G117, hgH116, ggH116, hTH116, bqq104, gbqq104, ebqq104, dbq104, fq104_1, fq104_4, fq104_5, fq104_6, fq104_7, fq104_10, fq104_13, fq104_16⟩ := pH116
    subst hvH116
    replace dbn := DB.kept dbn (kH116 _ (hTH103.lt gbq) (fun h => h.elim (g_ne gbq hNq104) (Nat.not_le.mpr (hTH103.lt gbq))))
    have m118 := (m106).trans (fR_kept (kH116 _ (hTH103.lt ga0) (fun h => h.elim (g_ne ga0 hNq104) (Nat.not_le.mpr (hTH103.lt ga0))))).symm
    clear m106
    have m119 := (m107).trans (fI_kept (kH116 _ (hTH103.lt gwq) (fun h => h.elim (g_ne gwq hNq104) (Nat.not_le.mpr (hTH103.lt gwq))))).symm
    clear m107
    have m120 := (m108).trans (fI_kept (kH116 _ (hTH103.lt gwq) (fun h => h.elim (g_ne gwq hNq104) (Nat.not_le.mpr (hTH103.lt gwq))))).symm
    clear m108
    have m121 := (m109).trans (fI_kept (kH116 _ (hTH103.lt gwq) (fun h => h.elim (g_ne gwq hNq104) (Nat.not_le.mpr (hTH103.lt gwq))))).symm
    clear m109
    have m122 := (m110).trans (fI_kept (kH116 _ (hTH103.lt gwq) (fun h => h.elim (g_ne gwq hNq104) (Nat.not_le.mpr (hTH103.lt gwq))))).symm
    clear m110
    have m123 := (m111).trans (fI_kept (kH116 _ (hTH103.lt gwq) (fun h => h.elim (g_ne gwq hNq104) (Nat.not_le.mpr (hTH103.lt gwq))))).symm
    clear m111
    have m124 := (m112).trans (fI_kept (kH116 _ (hTH103.lt gwq) (fun h => h.elim (g_ne gwq hNq104) (Nat.not_le.mpr (hTH103.lt gwq))))).symm
    clear m112
    have m125 := (m113).trans (fI_kept (kH116 _ (hTH103.lt ga0) (fun h => h.elim (g_ne ga0 hNq104) (Nat.not_le.mpr (hTH103.lt ga0))))).symm
    clear m113
    have m126 := (m114).trans (fR_kept (kH116 _ (hTH103.lt gwq) (fun h => h.elim (g_ne gwq hNq104) (Nat.not_le.mpr (hTH103.lt gwq))))).symm
    clear m114
    have m127 := (fV_kept (kH116 _ (hTH103.lt ga0) (fun h => h.elim (g_ne ga0 hNq104) (Nat.not_le.mpr (hTH103.lt ga0))))).trans m115
    clear m115
    replace ga0 : G117 a0 = some 68 := (hgH116 _ (hTH103.lt ga0) (g_ne ga0 hNq104)).trans ga0
    replace gwq : G117 wq = some 0 := (hgH116 _ (hTH103.lt gwq) (g_ne gwq hNq104)).trans gwq
    replace gbq : G117 bq = some 25 := (hgH116 _ (hTH103.lt gbq) (g_ne gbq hNq104)).trans gbq
    replace hGo : ∀ q, q < s.heap.size → G117 q = G q := fun q hq => (hgH116 q (Nat.lt_of_lt_of_le hq hSH103.1) (Nat.ne_of_lt (Nat.lt_of_lt_of_le hq leq104))).trans (hGo q hq)
    have gq104 : G117 q104 = some 34 := ggH116
    clear hR105 hNq104 ggH116 hgH116 kH116 zH116 hTH103 
    refine W.eq (g2 := F0 m 19 ls [.ref q104, .ref a0]) rfl ?_
    refine x_put C hTH116 hSH116 (ci := 9) (k := 1) (v := .ref q104) (ty0 := tyX9) rfl inX9 tyX9_ok nmX9 (by decide) rfl wF_X9_348 ga0 rg_68 rfl rfl (Or.inr ⟨q104, rfl, gq104⟩) rfl rfl (AE_sub hGo (fun _ h => h) (Nat.le_refl _) _ (AE_in ga0 (by decide))) dX9_image_19 (fun H128 locsH128 hTH128 hSH128 wH128 => ?_)
    have m129 := m118.trans (Wr.neR wH128 (Or.inr (x_apart hKT hts inX9 tyX9 tyX9_ok nmX9 rfl 0 1 (by decide) (by decide) (by decide)))).symm
    have m130 := m119.trans (Wr.neI wH128 (Or.inl (G_ne gwq ga0 (by decide)))).symm
    have m131 := m120.trans (Wr.neI wH128 (Or.inl (G_ne gwq ga0 (by decide)))).symm
    have m132 := m121.trans (Wr.neI wH128 (Or.inl (G_ne gwq ga0 (by decide)))).symm
    have m133 := m122.trans (Wr.neI wH128 (Or.inl (G_ne gwq ga0 (by decide)))).symm
    have m134 := m123.trans (Wr.neI wH128 (Or.inl (G_ne gwq ga0 (by decide)))).symm
    have m135 := m124.trans (Wr.neI wH128 (Or.inl (G_ne gwq ga0 (by decide)))).symm
    have m136 := m125.trans (Wr.neI wH128 (Or.inr (x_apart hKT hts inX9 tyX9 tyX9_ok nmX9 rfl 3 1 (by decide) (by decide) (by decide)))).symm
    have m137 := m126.trans (Wr.neR wH128 (Or.inl (G_ne gwq ga0 (by decide)))).symm
    have m139 := ebqq104.trans (Wr.neR wH128 (Or.inl (G_ne gq104 ga0 (by decide)))).symm
    have m140 := (Wr.neI wH128 (Or.inl (G_ne gq104 ga0 (by decide)))).trans fq104_1
    have m141 := (Wr.neI wH128 (Or.inl (G_ne gq104 ga0 (by decide)))).trans fq104_4
    have m142 := (Wr.neI wH128 (Or.inl (G_ne gq104 ga0 (by decide)))).trans fq104_5
    have m143 := (Wr.neI wH128 (Or.inl (G_ne gq104 ga0 (by decide)))).trans fq104_6
    have m144 := (Wr.neI wH128 (Or.inl (G_ne gq104 ga0 (by decide)))).trans fq104_7
    have m145 := (Wr.neI wH128 (Or.inl (G_ne gq104 ga0 (by decide)))).trans fq104_10
    have m146 := (Wr.neI wH128 (Or.inl (G_ne gq104 ga0 (by decide)))).trans fq104_13
    have m147 := (Wr.neI wH128 (Or.inl (G_ne gq104 ga0 (by decide)))).trans fq104_16
    replace dbn := DB.kept dbn (wH128.off (G_ne gbq ga0 (by decide)))
    replace dbq104 := DB.kept dbq104 (wH128.off (G_ne gbqq104 ga0 (by decide)))
    have m148 := wH128.2.2.1
    refine lv_aload_n hx hb dX9_image_22 rfl (lv_at hl 0 rfl) ?_
    refine x_gn C hTH128 (ci := 9) (k := 1) rfl inX9 (by decide) wF_X9_348 ga0 rg_68 rfl dX9_image_23 (fun z => absurd (z.symm.trans m148) (by intro h; cases h)) (fun q149 eq149 fq149 gq149 => ?_)
    have uq149 : q104 = q149 := by have h := m148.symm.trans fq149; cases h; rfl
    subst uq149
    refine lv_aload_n hx hb dX9_image_26 rfl (lv_at hl 0 rfl) ?_
    refine x_gr C hTH128 (ci := 9) (k := 0) rfl inX9 (by decide) wF_X9_12 ga0 rg_68 rfl dX9_image_27 (fun q150 eq150 gq150 => ?_)
    have uq150 : wq = q150 := (m129).trans eq150.symm
    subst uq150
    refine x_V (As := [.ref wq]) (rest := []) C (a_X8_copyFrom_bk l K G117 H128 (0) (0) (10) (0) (0) (0) (s1) (s4) (s5) (s10) (s13) (s16) hTH128 gq104 gwq gbqq104 m139 gbq m137 (m140).symm (m141).symm (m142).symm (m145).symm (m146).symm (m147).symm m130 m131 m132 m133 m134 m135 (dbq104)) yo_X8_copyFrom wM_X9_351 ⟨⟨by decide, by decide⟩, by decide, by decide⟩ (x_rv C hTH128 (ci := 8) rfl gq104 rg_34) rfl hl.1 rfl (Nat.le_of_ble_eq_true rfl) dX9_image_30 hSH128 (AE_sub hGo (by decide) hSH128.1) (fun vH151 H151 locsH151 pH151 zH151 kH151 hSH151 => ?_)
    obtain ⟨x152, x153, x154, x155, x156, x157, hvH151, ex152, ex153, ex154, ex155, ex156, ex157, hrH151, m158, m159, hTH151⟩ := pH151
    subst hvH151
    replace dbn := DB.kept dbn (x_lt hTH128 kH151 gbq (by decide))
    replace dbq104 := DB.kept dbq104 (x_lt hTH128 kH151 gbqq104 (by decide))
    have m160 := (m129).trans (fR_kept (x_lt hTH128 kH151 ga0 (by decide))).symm
    have m161 := (m130).trans (fI_kept (x_lt hTH128 kH151 gwq (by decide))).symm
    have m162 := (m131).trans (fI_kept (x_lt hTH128 kH151 gwq (by decide))).symm
    have m163 := (m132).trans (fI_kept (x_lt hTH128 kH151 gwq (by decide))).symm
    have m164 := (m133).trans (fI_kept (x_lt hTH128 kH151 gwq (by decide))).symm
    have m165 := (m134).trans (fI_kept (x_lt hTH128 kH151 gwq (by decide))).symm
    have m166 := (m135).trans (fI_kept (x_lt hTH128 kH151 gwq (by decide))).symm
    have m167 := (m136).trans (fI_kept (x_lt hTH128 kH151 ga0 (by decide))).symm
    have m168 := (m137).trans (fR_kept (x_lt hTH128 kH151 gwq (by decide))).symm
    have m169 := (fV_kept (x_lt hTH128 kH151 ga0 (by decide))).trans m148
    have bx152 := ty_fi (x := x152) (k := 1) ex152 hTH151 gq104 rg_34 rfl
    have bx153 := ty_fi (x := x153) (k := 4) ex153 hTH151 gq104 rg_34 rfl
    have bx154 := ty_fi (x := x154) (k := 5) ex154 hTH151 gq104 rg_34 rfl
    have bx155 := ty_fi (x := x155) (k := 10) ex155 hTH151 gq104 rg_34 rfl
    have bx156 := ty_fi (x := x156) (k := 13) ex156 hTH151 gq104 rg_34 rfl
    have bx157 := ty_fi (x := x157) (k := 16) ex157 hTH151 gq104 rg_34 rfl
    refine W.eq (g2 := F0 m 33 ls []) rfl ?_
    refine lv_goto (tgt := 54) hx hb dX9_image_33 (by decide) ?_
    refine lv_aload_n hx hb dX9_image_54 rfl (lv_at hl 0 rfl) ?_
    refine x_gn C hTH151 (ci := 9) (k := 1) rfl inX9 (by decide) wF_X9_348 ga0 rg_68 rfl dX9_image_55 (fun z => absurd (z.symm.trans m169) (by intro h; cases h)) (fun q170 eq170 fq170 gq170 => ?_)
    have uq170 : q104 = q170 := by have h := m169.symm.trans fq170; cases h; rfl
    subst uq170
    refine lv_ifnull hx hb dX9_image_58 ?_
    refine lv_iconst (v := 1) hx hb dX9_image_61 (by decide) ?_
    refine lv_goto (tgt := 66) hx hb dX9_image_62 (by decide) ?_
    exact x_zret C hQ (Or.inr rfl) dX9_image_66 hSH151 (by decide) (by decide) (⟨1, rfl, by omega, G117, hGo, hTH151, m160, m167, q104, bqq104, m169, gq104, gbqq104, m158, dbq104, by rw [← ex152]; omega, by rw [← ex153]; omega, by rw [← ex154]; omega, by rw [← ex155]; omega, by rw [← ex156]; omega, by rw [← ex157]; omega, m159⟩)

set_option maxHeartbeats 4000000 in
set_option maxRecDepth 100000 in
theorem a_X9_image_b1v (l : Launch) (K : KE) (G : Nat → Option Nat) (H : Heap) {a0 wq : Nat} (s1 : Int32) (s4 : Int32) (s5 : Int32) (s10 : Int32) (s13 : Int32) (s16 : Int32) (tp : Int32) {bq : Nat} {kq kb : Nat} (k1 : Int32) (k4 : Int32) (k5 : Int32) (k10 : Int32) (k13 : Int32) (k16 : Int32) (hT : TY K G H) (ga0 : G a0 = some 68) (gwq : G wq = some 0) (ewq : wq = fR H a0 (K.1.2 9 0)) (es1 : s1 = fI H wq (K.1.2 8 1)) (es4 : s4 = fI H wq (K.1.2 8 4)) (es5 : s5 = fI H wq (K.1.2 8 5)) (es10 : s10 = fI H wq (K.1.2 8 10)) (es13 : s13 = fI H wq (K.1.2 8 13)) (es16 : s16 = fI H wq (K.1.2 8 16)) (gbq : G bq = some 25) (ebq : bq = fR H wq (K.1.2 8 0)) (dbn : DB H bq) (etp : tp = fI H a0 (K.1.2 9 3)) (hkv : fV H a0 (K.1.2 9 1) = .ref kq) (gkq : G kq = some 34) (gkb : G kb = some 59) (ekb : kb = fR H kq (K.1.2 8 0)) (dbk : DB H kb) (ek1 : k1 = fI H kq (K.1.2 8 1)) (ek4 : k4 = fI H kq (K.1.2 8 4)) (ek5 : k5 = fI H kq (K.1.2 8 5)) (ek10 : k10 = fI H kq (K.1.2 8 10)) (ek13 : k13 = fI H kq (K.1.2 8 13)) (ek16 : k16 = fI H kq (K.1.2 8 16)) : MX l K yX9_image cX9_image 2 (some .boolean) 3 84 0 0 [.ref a0, .int 1] H (AE G [68, 34, 35, 36, 37, 38, 39, 40, 41, 42, 43, 44, 46, 48, 49, 50, 51, 52, 53, 54, 55, 56, 57, 58, 62, 63, 64, 65, 66, 67] H.size) (fun v H1 => ∃ (r : Int32), v = some (.int r) ∧ r.toInt = 1 ∧ ∃ G1 : Nat → Option Nat, (∀ q, q < H.size → G1 q = G q) ∧ TY K G1 H1 ∧ wq = fR H1 a0 (K.1.2 9 0) ∧ tp = fI H1 a0 (K.1.2 9 3) ∧ ∃ q kb1 : Nat, fV H1 a0 (K.1.2 9 1) = .ref q ∧ G1 q = some 34 ∧ G1 kb1 = some 59 ∧ kb1 = fR H1 q (K.1.2 8 0) ∧ DB H1 kb1 ∧ (fI H1 q (K.1.2 8 1)).toInt = s1.toInt ∧ (fI H1 q (K.1.2 8 4)).toInt = s4.toInt ∧ (fI H1 q (K.1.2 8 5)).toInt = s5.toInt ∧ (fI H1 q (K.1.2 8 10)).toInt = s10.toInt ∧ (fI H1 q (K.1.2 8 13)).toInt = s13.toInt ∧ (fI H1 q (K.1.2 8 16)).toInt = s16.toInt ∧ (∀ j : Nat, j < 10 → j < s1.toNatClampNeg → fI H1 (fR H1 kb1 j) (K.1.2 0 14) = fI H1 (fR H1 bq j) (K.1.2 0 14))) := by
  refine MX.of (by decide +kernel) (Nat.le_of_ble_eq_true rfl) ?_
  intro p e s m below meth c ls Q C hH hl hQ
  subst hH
  have C : CX p K s m _ meth c RX9 cX9_image 2 (some .boolean) "image" := C
  obtain ⟨hx, hb, hml, hown, hts, hKT, hr, hlocks, hnm⟩ := id C
  have hl : lv_has ls 2 [(0, .ref a0), (1, .int 1)] := hl
  have hS : va_S (AE G [68, 34, 35, 36, 37, 38, 39, 40, 41, 42, 43, 44, 46, 48, 49, 50, 51, 52, 53, 54, 55, 56, 57, 58, 62, 63, 64, 65, 66, 67] s.heap.size) s.heap s.heap [] := va_S.rf
  have n_0 : (0 : Int32).toInt = 0 := rfl
  have n_1 : (1 : Int32).toInt = 1 := rfl
  have hT_0 := hT
  have hGo : ∀ q, q < s.heap.size → G q = G q := fun _ _ => rfl
  refine lv_iload_n hx hb dX9_image_0 rfl (lv_at hl 1 rfl) ?_
  refine lv_if_eq (tgt := 36) hx hb dX9_image_1 (by decide) (fun c101 => ?_) (fun c101 => ?_)
  · have k102 := i_eq c101
    exfalso
    omega
  · have k102 := i_ne c101
    refine lv_aload_n hx hb dX9_image_4 rfl (lv_at hl 0 rfl) ?_
    refine x_gn C hT (ci := 9) (k := 1) rfl inX9 (by decide) wF_X9_348 ga0 rg_68 rfl dX9_image_5 (fun z => absurd (z.symm.trans hkv) (by intro h; cases h)) (fun q103 eq103 fq103 gq103 => ?_)
    have uq103 : kq = q103 := by have h := hkv.symm.trans fq103; cases h; rfl
    subst uq103
    refine lv_ifnonnull (tgt := 22) hx hb dX9_image_8 (by decide) ?_
    refine lv_aload_n hx hb dX9_image_22 rfl (lv_at hl 0 rfl) ?_
    refine x_gn C hT (ci := 9) (k := 1) rfl inX9 (by decide) wF_X9_348 ga0 rg_68 rfl dX9_image_23 (fun z => absurd (z.symm.trans hkv) (by intro h; cases h)) (fun q104 eq104 fq104 gq104 => ?_)
    have uq104 : kq = q104 := by have h := hkv.symm.trans fq104; cases h; rfl
    subst uq104
    refine lv_aload_n hx hb dX9_image_26 rfl (lv_at hl 0 rfl) ?_
    refine x_gr C hT (ci := 9) (k := 0) rfl inX9 (by decide) wF_X9_12 ga0 rg_68 rfl dX9_image_27 (fun q105 eq105 gq105 => ?_)
    have uq105 : wq = q105 := (ewq).trans eq105.symm
    subst uq105
    refine x_V (As := [.ref wq]) (rest := []) C (a_X8_copyFrom_bk l K G s.heap (k1) (k4) (k5) (k10) (k13) (k16) (s1) (s4) (s5) (s10) (s13) (s16) hT gkq gwq gkb ekb gbq ebq ek1 ek4 ek5 ek10 ek13 ek16 es1 es4 es5 es10 es13 es16 (dbk)) yo_X8_copyFrom wM_X9_351 ⟨⟨by decide, by decide⟩, by decide, by decide⟩ (x_rv C hT (ci := 8) rfl gkq rg_34) rfl hl.1 rfl (Nat.le_of_ble_eq_true rfl) dX9_image_30 hS (AE_sub (fun _ _ => rfl) (by decide) hS.1) (fun vH106 H106 locsH106 pH106 zH106 kH106 hSH106 => ?_)
    obtain ⟨x107, x108, x109, x110, x111, x112, hvH106, ex107, ex108, ex109, ex110, ex111, ex112, hrH106, m113, m114, hTH106⟩ := pH106
    subst hvH106
    replace dbn := DB.kept dbn (x_lt hT kH106 gbq (by decide))
    replace dbk := DB.kept dbk (x_lt hT kH106 gkb (by decide))
    have m115 := (ewq).trans (fR_kept (x_lt hT kH106 ga0 (by decide))).symm
    have m116 := (es1).trans (fI_kept (x_lt hT kH106 gwq (by decide))).symm
    have m117 := (es4).trans (fI_kept (x_lt hT kH106 gwq (by decide))).symm
    have m118 := (es5).trans (fI_kept (x_lt hT kH106 gwq (by decide))).symm
    have m119 := (es10).trans (fI_kept (x_lt hT kH106 gwq (by decide))).symm
    have m120 := (es13).trans (fI_kept (x_lt hT kH106 gwq (by decide))).symm
    have m121 := (es16).trans (fI_kept (x_lt hT kH106 gwq (by decide))).symm
    have m122 := (etp).trans (fI_kept (x_lt hT kH106 ga0 (by decide))).symm
    have m123 := (ebq).trans (fR_kept (x_lt hT kH106 gwq (by decide))).symm
    have m124 := (fV_kept (x_lt hT kH106 ga0 (by decide))).trans hkv
    have bx107 := ty_fi (x := x107) (k := 1) ex107 hTH106 gkq rg_34 rfl
    have bx108 := ty_fi (x := x108) (k := 4) ex108 hTH106 gkq rg_34 rfl
    have bx109 := ty_fi (x := x109) (k := 5) ex109 hTH106 gkq rg_34 rfl
    have bx110 := ty_fi (x := x110) (k := 10) ex110 hTH106 gkq rg_34 rfl
    have bx111 := ty_fi (x := x111) (k := 13) ex111 hTH106 gkq rg_34 rfl
    have bx112 := ty_fi (x := x112) (k := 16) ex112 hTH106 gkq rg_34 rfl
    refine W.eq (g2 := F0 m 33 ls []) rfl ?_
    refine lv_goto (tgt := 54) hx hb dX9_image_33 (by decide) ?_
    refine lv_aload_n hx hb dX9_image_54 rfl (lv_at hl 0 rfl) ?_
    refine x_gn C hTH106 (ci := 9) (k := 1) rfl inX9 (by decide) wF_X9_348 ga0 rg_68 rfl dX9_image_55 (fun z => absurd (z.symm.trans m124) (by intro h; cases h)) (fun q125 eq125 fq125 gq125 => ?_)
    have uq125 : kq = q125 := by have h := m124.symm.trans fq125; cases h; rfl
    subst uq125
    refine lv_ifnull hx hb dX9_image_58 ?_
    refine lv_iconst (v := 1) hx hb dX9_image_61 (by decide) ?_
    refine lv_goto (tgt := 66) hx hb dX9_image_62 (by decide) ?_
    exact x_zret C hQ (Or.inr rfl) dX9_image_66 hSH106 (by decide) (by decide) (⟨1, rfl, by omega, G, fun _ _ => rfl, hTH106, m115, m122, kq, kb, m124, gkq, gkb, m113, dbk, by rw [← ex107]; omega, by rw [← ex108]; omega, by rw [← ex109]; omega, by rw [← ex110]; omega, by rw [← ex111]; omega, by rw [← ex112]; omega, m114⟩)
