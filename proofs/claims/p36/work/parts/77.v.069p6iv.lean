set_option maxHeartbeats 4000000 in
set_option maxRecDepth 100000 in
theorem a_X10_unlikeBy_k (l : Launch) (K : KE) (G : Nat → Option Nat) (H : Heap) {a0 : Nat} (x1 : Int32) (x2 : Int32) {slq : Nat} {kq : Nat} {gnq : Nat} {gkp : Nat} (sz : Int32) (hT : TY K G H) (ga0 : G a0 = some 112) (hx1 : 0 ≤ x1.toInt ∧ x1.toInt ≤ 9) (hx2 : 0 ≤ x2.toInt ∧ x2.toInt ≤ 15) (gslq : G slq = some 113) (eslq : @Eq Ad slq (fR H a0 (K.1.2 10 4))) (gkq : G kq = some 114) (ekq : @Eq Ad kq (fR H a0 (K.1.2 10 5))) (ggnq : G gnq = some 115) (egnq : @Eq Ad gnq (fR H a0 (K.1.2 10 6))) (ggkp : G gkp = some 151) (egkp : @Eq Ad gkp (fR H a0 (K.1.2 10 55))) (esz : sz = fI H slq (x1 : Int32).toNatClampNeg) (hg_CG : CG (avw K H a0)) (hp0 : sz.toInt ≤ 5) (hy0 : ∀ i : Nat, i < sz.toNatClampNeg → fI H gkp i = fI H gnq (16 * x1.toNatClampNeg + i)) : MX l K yX10_unlikeBy cX10_unlikeBy 8 (some .int) 6 145 0 0 [.ref a0, .int x1, .int x2] H (AE G [114, 115, 153, 140, 139] H.size) (fun v H1 => ∃ (r : Int32), v = some (.int r) ∧ (∀ j : Nat, fI H1 kq j = fI H kq j) ∧ (∀ j : Nat, fI H1 gnq j = fI H gnq j) ∧ TY K G H1) := by
  refine MX.of (by decide +kernel) (Nat.le_of_ble_eq_true rfl) ?_
  intro p e s m below meth c ls Q C hH hl hQ
  subst hH
  have C : CX p K s m _ meth c RX10 cX10_unlikeBy 8 (some .int) "unlikeBy" := C
  obtain ⟨hx, hb, hml, hown, hts, hKT, hr, hlocks, hnm⟩ := id C
  have hl : lv_has ls 8 [(0, .ref a0), (1, .int x1), (2, .int x2)] := hl
  have hS : va_S (AE G [114, 115, 153, 140, 139] s.heap.size) s.heap s.heap [] := va_S.rf
  have n_0 : (0 : Int32).toInt = 0 := rfl
  have n_1 : (1 : Int32).toInt = 1 := rfl
  have n_5 : (5 : Int32).toInt = 5 := rfl
  have n_16 : (16 : Int32).toInt = 16 := rfl
  have bsz := ty_ai (x := sz) esz hT gslq rg_113 (by omega)
  have hap : ∀ x y, x < 74 → y < 74 → x ≠ y → K.1.2 10 x ≠ K.1.2 10 y := x_apart hKT hts inX10 tyX10 tyX10_ok nmX10 rfl
  have ro0_kq : ∀ j : Nat, fI s.heap kq j = fI s.heap kq j := fun _ => rfl
  have ro0_gnq : ∀ j : Nat, fI s.heap gnq j = fI s.heap gnq j := fun _ => rfl
  have J37 : ∀ (nf : Nat)  (ls1634 : Array Slot) (H1633 : Heap) (locsH1633 : List Loc) (x1636 : Int32) (x1637 : Int32) (x1638 : Int32), lv_has ls1634 8 [(0, .ref a0), (1, .int x1), (2, .int x2), (3, .int x1636), (4, .int x1637), (5, .int x1638)] → TY K G H1633 → va_S (AE G [114, 115, 153, 140, 139] s.heap.size) s.heap H1633 locsH1633 → (0 ≤ x1636.toInt ∧ x1636.toInt ≤ 1024) → (0 ≤ x1637.toInt ∧ x1637.toInt ≤ 5) → (0 ≤ x1638.toInt ∧ x1638.toInt ≤ 1024) → (@Eq Ad slq (fR H1633 a0 (K.1.2 10 4))) → (@Eq Ad kq (fR H1633 a0 (K.1.2 10 5))) → (@Eq Ad gnq (fR H1633 a0 (K.1.2 10 6))) → (@Eq Ad gkp (fR H1633 a0 (K.1.2 10 55))) → (sz = fI H1633 slq (x1 : Int32).toNatClampNeg) → (CG (avw K H1633 a0)) → (1024 - x1638.toInt < (nf : Int)) → (x1636.toInt ≤ x1638.toInt ∧ 0 ≤ x1636.toInt) → (∀ j : Nat, j ≠ (16 * x1.toNatClampNeg + x2.toNatClampNeg) → fI H1633 kq j = fI s.heap kq j) → (∀ j : Nat, (j < 16 * x1.toNatClampNeg ∨ 16 * x1.toNatClampNeg + x1637.toNatClampNeg ≤ j) → fI H1633 gnq j = fI s.heap gnq j) → (fI H1633 kq (16 * x1.toNatClampNeg + x2.toNatClampNeg) = fI s.heap kq (16 * x1.toNatClampNeg + x2.toNatClampNeg) - 1) → (∀ i : Nat, i < sz.toNatClampNeg → fI H1633 gkp i = fI s.heap gnq (16 * x1.toNatClampNeg + i)) → (x1637.toInt = sz.toInt) → W p l e ({ frames := 6, cells := 0, slots := 0, locals := 145 } : Room) s m (([.ref a0, .int x1, .int x2] : List Value).toArray) below meth c H1633 locsH1633 0 0 Q (F0 m 37 ls1634 []) := by
    intro nf
    induction nf with
    | zero =>
      intro  ls1634 H1633 locsH1633 x1636 x1637 x1638 hl1635 hTH1633 hSH1633 bx1636 bx1637 bx1638 cy1639_0 cy1639_1 cy1639_2 cy1639_3 cy1639_4 gy1639_CG hm37 iv37 hro37_kq hro37_gnq hrv37_v hrv37_g hrv37_e
      exfalso
      omega
    | succ nf ih37 =>
      intro  ls1634 H1633 locsH1633 x1636 x1637 x1638 hl1635 hTH1633 hSH1633 bx1636 bx1637 bx1638 cy1639_0 cy1639_1 cy1639_2 cy1639_3 cy1639_4 gy1639_CG hm37 iv37 hro37_kq hro37_gnq hrv37_v hrv37_g hrv37_e
      have J176 : ∀ (nf : Nat)  (ls1641 : Array Slot) (H1640 : Heap) (locsH1640 : List Loc) (x1643 : Int32), lv_has ls1641 8 [(0, .ref a0), (1, .int x1), (3, .int x1636), (4, .int x1637), (5, .int x1643)] → TY K G H1640 → va_S (AE G [114, 115, 153, 140, 139] s.heap.size) s.heap H1640 locsH1640 → (0 ≤ x1643.toInt ∧ x1643.toInt ≤ 5) → (@Eq Ad slq (fR H1640 a0 (K.1.2 10 4))) → (@Eq Ad kq (fR H1640 a0 (K.1.2 10 5))) → (@Eq Ad gnq (fR H1640 a0 (K.1.2 10 6))) → (@Eq Ad gkp (fR H1640 a0 (K.1.2 10 55))) → (sz = fI H1640 slq (x1 : Int32).toNatClampNeg) → (CG (avw K H1640 a0)) → (5 - x1643.toInt < (nf : Int)) → (∀ j : Nat, fI H1640 kq j = fI s.heap kq j) → (∀ j : Nat, (j < 16 * x1.toNatClampNeg ∨ 16 * x1.toNatClampNeg + x1637.toNatClampNeg ≤ j) → fI H1640 gnq j = fI s.heap gnq j) → (∀ i : Nat, i < sz.toNatClampNeg → fI H1640 gkp i = fI s.heap gnq (16 * x1.toNatClampNeg + i)) → (x1637.toInt = sz.toInt) → (∀ i : Nat, i < x1643.toNatClampNeg → fI H1640 gnq (16 * x1.toNatClampNeg + i) = fI s.heap gnq (16 * x1.toNatClampNeg + i)) → W p l e ({ frames := 6, cells := 0, slots := 0, locals := 145 } : Room) s m (([.ref a0, .int x1, .int x2] : List Value).toArray) below meth c H1640 locsH1640 0 0 Q (F0 m 176 ls1641 []) := by
        intro nf
        induction nf with
        | zero =>
          intro  ls1641 H1640 locsH1640 x1643 hl1642 hTH1640 hSH1640 bx1643 cy1644_0 cy1644_1 cy1644_2 cy1644_3 cy1644_4 gy1644_CG hm176 hro176_kq hro176_gnq hrv176_g hrv176_e hrv176_b
          exfalso
          omega
        | succ nf ih176 =>
          intro  ls1641 H1640 locsH1640 x1643 hl1642 hTH1640 hSH1640 bx1643 cy1644_0 cy1644_1 cy1644_2 cy1644_3 cy1644_4 gy1644_CG hm176 hro176_kq hro176_gnq hrv176_g hrv176_e hrv176_b
          refine lv_iload hx hb dX10_unlikeBy_176 (lv_at hl1642 4 rfl) ?_
          refine lv_iload hx hb dX10_unlikeBy_178 (lv_at hl1642 3 rfl) ?_
          refine lv_icmp_ge (tgt := 208) hx hb dX10_unlikeBy_180 (by decide) (fun c1645 => ?_) (fun c1645 => ?_)
          · have k1646 := i_le c1645
            refine lv_iload_n hx hb dX10_unlikeBy_208 rfl (lv_at hl1642 2 rfl) ?_
            have cn_x1 := i_cl (x := x1) (by omega)
            have cn_x1637 := i_cl (x := x1637) bx1637.1
            have cn_x1643 := i_cl (x := x1643) bx1643.1
            have fu1647 : ∀ j : Nat, fI H1640 gnq j = fI s.heap gnq j := fun j => if hj : j < 16 * x1.toNatClampNeg ∨ 16 * x1.toNatClampNeg + x1637.toNatClampNeg ≤ j then hro176_gnq j hj else (by have zb := hrv176_b (j - 16 * x1.toNatClampNeg) (by omega); rwa [show 16 * x1.toNatClampNeg + (j - 16 * x1.toNatClampNeg) = j by omega] at zb)
            exact x_iret C hQ dX10_unlikeBy_209 hSH1640 (by decide) (by decide) (⟨x1636, rfl, hro176_kq, fu1647, hTH1640⟩)
          · have k1646 := i_nle c1645
            refine lv_aload_n hx hb dX10_unlikeBy_183 rfl (lv_at hl1642 0 rfl) ?_
            refine x_gr C hTH1640 (ci := 10) (k := 6) rfl inX10 (by decide) wF_X10_20 ga0 rg_112 rfl dX10_unlikeBy_184 (fun q1648 eq1648 gq1648 => ?_)
            have uq1648 : gnq = q1648 := (cy1644_2).trans eq1648.symm
            subst uq1648
            refine lv_bipush (v := 16) hx hb dX10_unlikeBy_187 (by decide) ?_
            refine lv_iload_n hx hb dX10_unlikeBy_189 rfl (lv_at hl1642 1 rfl) ?_
            refine lv_imul hx hb dX10_unlikeBy_190 ?_
            refine lv_topi (fun x1649 ex1649 => ?_)
            have tx1649 := i_mul ex1649 (by rw [n_16]; omega)
            rw [n_16] at tx1649
            refine lv_iload hx hb dX10_unlikeBy_191 (lv_at hl1642 4 rfl) ?_
            refine lv_iadd hx hb dX10_unlikeBy_193 ?_
            refine lv_topi (fun x1650 ex1650 => ?_)
            have tx1650 := i_add ex1650 (by omega)
            refine lv_aload_n hx hb dX10_unlikeBy_194 rfl (lv_at hl1642 0 rfl) ?_
            refine x_gr C hTH1640 (ci := 10) (k := 55) rfl inX10 (by decide) wF_X10_131 ga0 rg_112 rfl dX10_unlikeBy_195 (fun q1651 eq1651 gq1651 => ?_)
            have uq1651 : gkp = q1651 := (cy1644_3).trans eq1651.symm
            subst uq1651
            refine lv_iload hx hb dX10_unlikeBy_198 (lv_at hl1642 4 rfl) ?_
            refine x_ai C hTH1640 ggkp rg_151 ⟨bx1643.1, by show _ < ((5 : Nat) : Int); omega⟩ dX10_unlikeBy_200 (fun x1652 ex1652 bx1652 => ?_)
            refine x_iast C hTH1640 hSH1640 ggnq rg_115 (by omega) (by show _ < ((160 : Nat) : Int); omega) (i_rng x1652) (AE_in ggnq (by decide)) dX10_unlikeBy_201 (fun H1653 locsH1653 hTH1653 hSH1653 wH1653 => ?_)
            have g1654 : CG (avw K H1653 a0) := CG.congr (fun k hk j => av_arr hTH1640 ga0 wH1653 ggnq (by decide) (CG_ok 115 (by decide) k hk)) gy1644_CG
            have m1655 := cy1644_0.trans (Wr.neR wH1653 (Or.inl (G_ne ga0 ggnq (by decide)))).symm
            have m1656 := cy1644_1.trans (Wr.neR wH1653 (Or.inl (G_ne ga0 ggnq (by decide)))).symm
            have m1657 := cy1644_2.trans (Wr.neR wH1653 (Or.inl (G_ne ga0 ggnq (by decide)))).symm
            have m1658 := cy1644_3.trans (Wr.neR wH1653 (Or.inl (G_ne ga0 ggnq (by decide)))).symm
            have m1659 := cy1644_4.trans (Wr.neI wH1653 (Or.inl (G_ne gslq ggnq (by decide)))).symm
            have m1660 := ex1652.trans (Wr.neI wH1653 (Or.inl (G_ne ggkp ggnq (by decide)))).symm
            have m1661 := Wr.I wH1653
            have m1661 := m1661.symm
            have ro1662 : ∀ j : Nat, fI H1653 kq j = fI s.heap kq j := fun j => (Wr.neI wH1653 (Or.inl (G_ne gkq ggnq (by decide)))).trans (hro176_kq j)
            have cn_x1 := i_cl (x := x1) (by omega)
            have cn_x1637 := i_cl (x := x1637) bx1637.1
            have cn_x1650 := i_cl (x := x1650) (by omega)
            have ro1663 : ∀ j : Nat, (j < 16 * x1.toNatClampNeg ∨ 16 * x1.toNatClampNeg + x1637.toNatClampNeg ≤ j) → fI H1653 gnq j = fI s.heap gnq j := fun j hj => (Wr.neI wH1653 (Or.inr (by omega))).trans (hro176_gnq j hj)
            have rv1664 : ∀ i : Nat, i < sz.toNatClampNeg → fI H1653 gkp i = fI s.heap gnq (16 * x1.toNatClampNeg + i) := (fun i hi => (Wr.neI wH1653 (Or.inl (G_ne ggkp ggnq (by decide)))).trans (hrv176_g i hi))
            have rv1665 : x1637.toInt = sz.toInt := hrv176_e
            have cn_x1643 := i_cl (x := x1643) bx1643.1
            have cn_x1637 := i_cl (x := x1637) bx1637.1
            have cn_x1643 := i_cl (x := x1643) bx1643.1
            have rg1666 : x1652 = fI s.heap gnq (16 * x1.toNatClampNeg + x1643.toNatClampNeg) := ex1652.trans (hrv176_g _ (by omega))
            have cn_x1643 := i_cl (x := x1643) bx1643.1
            have rv1667 : ∀ i : Nat, i < x1643.toNatClampNeg + 1 → fI H1653 gnq (16 * x1.toNatClampNeg + i) = fI s.heap gnq (16 * x1.toNatClampNeg + i) := fun i hi => if hj : i = x1643.toNatClampNeg then (by subst hj; rw [← (show x1650.toNatClampNeg = 16 * x1.toNatClampNeg + x1643.toNatClampNeg by omega)]; rw [Wr.I wH1653, show x1650.toNatClampNeg = 16 * x1.toNatClampNeg + x1643.toNatClampNeg by omega]; exact rg1666) else (Wr.neI wH1653 (Or.inr (by omega))).trans (hrv176_b i (by omega))
            obtain ⟨x1668, ex1668⟩ : ∃ y : Int32, y = x1643 + 1 := ⟨_, rfl⟩
            have tx1668 := i_add ex1668 (by omega)
            refine lv_iinc (v := x1668) (lv' := [(5, .int x1668), (0, .ref a0), (1, .int x1), (3, .int x1636), (4, .int x1637)]) hx hb dX10_unlikeBy_202 hl1642 (k := 4) rfl (by rw [ex1668]; rfl) (by decide) rfl (fun ls1669 hl1670 => ?_)
            refine lv_goto (tgt := 176) hx hb dX10_unlikeBy_205 (by decide) ?_
            have cn_sz := i_cl (x := sz) (by omega)
            have cn_x1643 := i_cl (x := x1643) bx1643.1
            have cn_x1668 := i_cl (x := x1668) (by omega)
            exact ih176  ls1669 H1653 locsH1653 (x1668) (lv_sub hl1670 [1, 2, 3, 4, 0] rfl) hTH1653 hSH1653 (by have := i_rng x1668; omega) m1655 m1656 m1657 m1658 m1659 g1654 (by omega) ro1662 ro1663 (fun i hi => rv1664 i (by omega)) rv1665 (fun i hi => rv1667 i (by omega))
      have J49 : ∀ (nf : Nat)  (ls1672 : Array Slot) (H1671 : Heap) (locsH1671 : List Loc) (x1675 : Int32), lv_has ls1672 8 [(0, .ref a0), (1, .int x1), (2, .int x2), (3, .int x1636), (4, .int x1637), (5, .int x1638), (6, .int x1675)] → TY K G H1671 → va_S (AE G [114, 115, 153, 140, 139] s.heap.size) s.heap H1671 locsH1671 → (0 ≤ x1638.toInt ∧ x1638.toInt ≤ 1023) → (0 ≤ x1675.toInt ∧ x1675.toInt ≤ 5) → (@Eq Ad slq (fR H1671 a0 (K.1.2 10 4))) → (@Eq Ad kq (fR H1671 a0 (K.1.2 10 5))) → (@Eq Ad gnq (fR H1671 a0 (K.1.2 10 6))) → (@Eq Ad gkp (fR H1671 a0 (K.1.2 10 55))) → (sz = fI H1671 slq (x1 : Int32).toNatClampNeg) → (CG (avw K H1671 a0)) → (5 - x1675.toInt < (nf : Int)) → (x1636.toInt ≤ x1638.toInt ∧ 0 ≤ x1636.toInt ∧ x1638.toInt ≤ 1023) → (∀ j : Nat, j ≠ (16 * x1.toNatClampNeg + x2.toNatClampNeg) → fI H1671 kq j = fI s.heap kq j) → (∀ j : Nat, (j < 16 * x1.toNatClampNeg ∨ 16 * x1.toNatClampNeg + x1637.toNatClampNeg ≤ j) → fI H1671 gnq j = fI s.heap gnq j) → (fI H1671 kq (16 * x1.toNatClampNeg + x2.toNatClampNeg) = fI s.heap kq (16 * x1.toNatClampNeg + x2.toNatClampNeg) - 1) → (∀ i : Nat, i < sz.toNatClampNeg → fI H1671 gkp i = fI s.heap gnq (16 * x1.toNatClampNeg + i)) → (x1637.toInt = sz.toInt) → W p l e ({ frames := 6, cells := 0, slots := 0, locals := 145 } : Room) s m (([.ref a0, .int x1, .int x2] : List Value).toArray) below meth c H1671 locsH1671 0 0 Q (F0 m 49 ls1672 []) := by
        intro nf
        induction nf with
        | zero =>
          intro  ls1672 H1671 locsH1671 x1675 hl1673 hTH1671 hSH1671 b1674 bx1675 cy1676_0 cy1676_1 cy1676_2 cy1676_3 cy1676_4 gy1676_CG hm49 iv49 hro49_kq hro49_gnq hrv49_v hrv49_g hrv49_e
          exfalso
          omega
        | succ nf ih49 =>
          intro  ls1672 H1671 locsH1671 x1675 hl1673 hTH1671 hSH1671 b1674 bx1675 cy1676_0 cy1676_1 cy1676_2 cy1676_3 cy1676_4 gy1676_CG hm49 iv49 hro49_kq hro49_gnq hrv49_v hrv49_g hrv49_e
          have J97 : ∀ (nf : Nat)  (ls1678 : Array Slot) (H1677 : Heap) (locsH1677 : List Loc) (x1680 : Int32) (x1681 : Int32), lv_has ls1678 8 [(0, .ref a0), (1, .int x1), (2, .int x2), (3, .int x1636), (4, .int x1637), (5, .int x1638), (6, .int x1680), (7, .int x1681)] → TY K G H1677 → va_S (AE G [114, 115, 153, 140, 139] s.heap.size) s.heap H1677 locsH1677 → (0 ≤ x1681.toInt ∧ x1681.toInt ≤ 1024) → (@Eq Ad slq (fR H1677 a0 (K.1.2 10 4))) → (@Eq Ad kq (fR H1677 a0 (K.1.2 10 5))) → (@Eq Ad gnq (fR H1677 a0 (K.1.2 10 6))) → (@Eq Ad gkp (fR H1677 a0 (K.1.2 10 55))) → (sz = fI H1677 slq (x1 : Int32).toNatClampNeg) → (CG (avw K H1677 a0)) → (1024 - x1681.toInt < (nf : Int)) → (x1636.toInt ≤ x1638.toInt ∧ 0 ≤ x1636.toInt ∧ x1681.toInt ≤ x1636.toInt ∧ x1638.toInt ≤ 1023) → (∀ j : Nat, j ≠ (16 * x1.toNatClampNeg + x2.toNatClampNeg) → fI H1677 kq j = fI s.heap kq j) → (∀ j : Nat, (j < 16 * x1.toNatClampNeg ∨ 16 * x1.toNatClampNeg + x1637.toNatClampNeg ≤ j) → fI H1677 gnq j = fI s.heap gnq j) → (fI H1677 kq (16 * x1.toNatClampNeg + x2.toNatClampNeg) = fI s.heap kq (16 * x1.toNatClampNeg + x2.toNatClampNeg) - 1) → (∀ i : Nat, i < sz.toNatClampNeg → fI H1677 gkp i = fI s.heap gnq (16 * x1.toNatClampNeg + i)) → (x1637.toInt = sz.toInt) → W p l e ({ frames := 6, cells := 0, slots := 0, locals := 145 } : Room) s m (([.ref a0, .int x1, .int x2] : List Value).toArray) below meth c H1677 locsH1677 0 0 Q (F0 m 97 ls1678 []) := by
            intro nf
            induction nf with
            | zero =>
              intro  ls1678 H1677 locsH1677 x1680 x1681 hl1679 hTH1677 hSH1677 bx1681 cy1682_0 cy1682_1 cy1682_2 cy1682_3 cy1682_4 gy1682_CG hm97 iv97 hro97_kq hro97_gnq hrv97_v hrv97_g hrv97_e
              have rx1680 := i_rng x1680
              exfalso
              omega
            | succ nf ih97 =>
              intro  ls1678 H1677 locsH1677 x1680 x1681 hl1679 hTH1677 hSH1677 bx1681 cy1682_0 cy1682_1 cy1682_2 cy1682_3 cy1682_4 gy1682_CG hm97 iv97 hro97_kq hro97_gnq hrv97_v hrv97_g hrv97_e
              have rx1680 := i_rng x1680
              have J124 : ∀  (ls1684 : Array Slot) (H1683 : Heap) (locsH1683 : List Loc) , lv_has ls1684 8 [(0, .ref a0), (1, .int x1), (2, .int x2), (3, .int x1636), (4, .int x1637), (5, .int x1638), (6, .int x1680), (7, .int x1681)] → TY K G H1683 → va_S (AE G [114, 115, 153, 140, 139] s.heap.size) s.heap H1683 locsH1683 → (@Eq Ad slq (fR H1683 a0 (K.1.2 10 4))) → (@Eq Ad kq (fR H1683 a0 (K.1.2 10 5))) → (@Eq Ad gnq (fR H1683 a0 (K.1.2 10 6))) → (@Eq Ad gkp (fR H1683 a0 (K.1.2 10 55))) → (sz = fI H1683 slq (x1 : Int32).toNatClampNeg) → (CG (avw K H1683 a0)) → (x1636.toInt ≤ x1638.toInt ∧ 0 ≤ x1636.toInt ∧ x1681.toInt ≤ x1636.toInt ∧ x1638.toInt ≤ 1023) → (∀ j : Nat, j ≠ (16 * x1.toNatClampNeg + x2.toNatClampNeg) → fI H1683 kq j = fI s.heap kq j) → (∀ j : Nat, (j < 16 * x1.toNatClampNeg ∨ 16 * x1.toNatClampNeg + x1637.toNatClampNeg ≤ j) → fI H1683 gnq j = fI s.heap gnq j) → (fI H1683 kq (16 * x1.toNatClampNeg + x2.toNatClampNeg) = fI s.heap kq (16 * x1.toNatClampNeg + x2.toNatClampNeg) - 1) → (∀ i : Nat, i < sz.toNatClampNeg → fI H1683 gkp i = fI s.heap gnq (16 * x1.toNatClampNeg + i)) → (x1637.toInt = sz.toInt) → W p l e ({ frames := 6, cells := 0, slots := 0, locals := 145 } : Room) s m (([.ref a0, .int x1, .int x2] : List Value).toArray) below meth c H1683 locsH1683 0 0 Q (F0 m 124 ls1684 []) := by
                intro  ls1684 H1683 locsH1683  hl1685 hTH1683 hSH1683 cy1686_0 cy1686_1 cy1686_2 cy1686_3 cy1686_4 gy1686_CG iv124 hro124_kq hro124_gnq hrv124_v hrv124_g hrv124_e
                have J143 : ∀  (ls1688 : Array Slot) (H1687 : Heap) (locsH1687 : List Loc) (x1690 : Int32), lv_has ls1688 8 [(0, .ref a0), (1, .int x1), (2, .int x2), (3, .int x1690), (4, .int x1637), (5, .int x1638)] → TY K G H1687 → va_S (AE G [114, 115, 153, 140, 139] s.heap.size) s.heap H1687 locsH1687 → (0 ≤ x1690.toInt ∧ x1690.toInt ≤ 1024) → (@Eq Ad slq (fR H1687 a0 (K.1.2 10 4))) → (@Eq Ad kq (fR H1687 a0 (K.1.2 10 5))) → (@Eq Ad gnq (fR H1687 a0 (K.1.2 10 6))) → (@Eq Ad gkp (fR H1687 a0 (K.1.2 10 55))) → (sz = fI H1687 slq (x1 : Int32).toNatClampNeg) → (CG (avw K H1687 a0)) → (x1690.toInt ≤ x1638.toInt + 1 ∧ x1638.toInt ≤ 1023) → (∀ j : Nat, j ≠ (16 * x1.toNatClampNeg + x2.toNatClampNeg) → fI H1687 kq j = fI s.heap kq j) → (∀ j : Nat, (j < 16 * x1.toNatClampNeg ∨ 16 * x1.toNatClampNeg + x1637.toNatClampNeg ≤ j) → fI H1687 gnq j = fI s.heap gnq j) → (fI H1687 kq (16 * x1.toNatClampNeg + x2.toNatClampNeg) = fI s.heap kq (16 * x1.toNatClampNeg + x2.toNatClampNeg) - 1) → (∀ i : Nat, i < sz.toNatClampNeg → fI H1687 gkp i = fI s.heap gnq (16 * x1.toNatClampNeg + i)) → (x1637.toInt = sz.toInt) → W p l e ({ frames := 6, cells := 0, slots := 0, locals := 145 } : Room) s m (([.ref a0, .int x1, .int x2] : List Value).toArray) below meth c H1687 locsH1687 0 0 Q (F0 m 143 ls1688 []) := by
                  intro  ls1688 H1687 locsH1687 x1690 hl1689 hTH1687 hSH1687 bx1690 cy1691_0 cy1691_1 cy1691_2 cy1691_3 cy1691_4 gy1691_CG iv143 hro143_kq hro143_gnq hrv143_v hrv143_g hrv143_e
                  obtain ⟨x1692, ex1692⟩ : ∃ y : Int32, y = x1638 + 1 := ⟨_, rfl⟩
                  have tx1692 := i_add ex1692 (by omega)
                  refine lv_iinc (v := x1692) (lv' := [(5, .int x1692), (0, .ref a0), (1, .int x1), (2, .int x2), (3, .int x1690), (4, .int x1637)]) hx hb dX10_unlikeBy_143 hl1689 (k := 5) rfl (by rw [ex1692]; rfl) (by decide) rfl (fun ls1693 hl1694 => ?_)
                  refine lv_goto (tgt := 37) hx hb dX10_unlikeBy_146 (by decide) ?_
                  have cn_x1 := i_cl (x := x1) (by omega)
                  have cn_x2 := i_cl (x := x2) (by omega)
                  have cn_sz := i_cl (x := sz) (by omega)
                  exact ih37  ls1693 H1687 locsH1687 (x1690) (x1637) (x1692) (lv_sub hl1694 [1, 2, 3, 4, 5, 0] rfl) hTH1687 hSH1687 bx1690 bx1637 (by have := i_rng x1692; omega) cy1691_0 cy1691_1 cy1691_2 cy1691_3 cy1691_4 gy1691_CG (by omega) (by omega) hro143_kq hro143_gnq hrv143_v (fun i hi => hrv143_g i (by omega)) hrv143_e
                refine lv_aload_n hx hb dX10_unlikeBy_124 rfl (lv_at hl1685 0 rfl) ?_
                refine x_gr C hTH1683 (ci := 10) (k := 58) rfl inX10 (by decide) wF_X10_137 ga0 rg_112 rfl dX10_unlikeBy_125 (fun q1695 eq1695 gq1695 => ?_)
                replace eq1695 : @Eq Ad q1695 (fR H1683 a0 (K.1.2 10 58)) := eq1695
                refine lv_iload hx hb dX10_unlikeBy_128 (lv_at hl1685 7 rfl) ?_
                refine lv_iload hx hb dX10_unlikeBy_130 (lv_at hl1685 6 rfl) ?_
                refine x_iast C hTH1683 hSH1683 gq1695 rg_153 bx1681.1 (by show _ < ((1024 : Nat) : Int); omega) (i_rng x1680) (AE_in gq1695 (by decide)) dX10_unlikeBy_132 (fun H1696 locsH1696 hTH1696 hSH1696 wH1696 => ?_)
                have g1697 : CG (avw K H1696 a0) := CG.congr (fun k hk j => av_arr hTH1683 ga0 wH1696 gq1695 (by decide) (CG_ok 153 (by decide) k hk)) gy1686_CG
                have m1698 := cy1686_0.trans (Wr.neR wH1696 (Or.inl (G_ne ga0 gq1695 (by decide)))).symm
                have m1699 := cy1686_1.trans (Wr.neR wH1696 (Or.inl (G_ne ga0 gq1695 (by decide)))).symm
                have m1700 := cy1686_2.trans (Wr.neR wH1696 (Or.inl (G_ne ga0 gq1695 (by decide)))).symm
                have m1701 := cy1686_3.trans (Wr.neR wH1696 (Or.inl (G_ne ga0 gq1695 (by decide)))).symm
                have m1702 := cy1686_4.trans (Wr.neI wH1696 (Or.inl (G_ne gslq gq1695 (by decide)))).symm
                have m1703 := eq1695.trans (Wr.neR wH1696 (Or.inl (G_ne ga0 gq1695 (by decide)))).symm
                have m1704 := Wr.I wH1696
                have m1704 := m1704.symm
                have ro1705 : ∀ j : Nat, j ≠ (16 * x1.toNatClampNeg + x2.toNatClampNeg) → fI H1696 kq j = fI s.heap kq j := fun j hj => (Wr.neI wH1696 (Or.inl (G_ne gkq gq1695 (by decide)))).trans (hro124_kq j hj)
                have ro1706 : ∀ j : Nat, (j < 16 * x1.toNatClampNeg ∨ 16 * x1.toNatClampNeg + x1637.toNatClampNeg ≤ j) → fI H1696 gnq j = fI s.heap gnq j := fun j hj => (Wr.neI wH1696 (Or.inl (G_ne ggnq gq1695 (by decide)))).trans (hro124_gnq j hj)
                have rv1707 : fI H1696 kq (16 * x1.toNatClampNeg + x2.toNatClampNeg) = fI s.heap kq (16 * x1.toNatClampNeg + x2.toNatClampNeg) - 1 := (Wr.neI wH1696 (Or.inl (G_ne gkq gq1695 (by decide)))).trans hrv124_v
                have rv1708 : ∀ i : Nat, i < sz.toNatClampNeg → fI H1696 gkp i = fI s.heap gnq (16 * x1.toNatClampNeg + i) := (fun i hi => (Wr.neI wH1696 (Or.inl (G_ne ggkp gq1695 (by decide)))).trans (hrv124_g i hi))
                have rv1709 : x1637.toInt = sz.toInt := hrv124_e
                refine lv_iload hx hb dX10_unlikeBy_133 (lv_at hl1685 7 rfl) ?_
                refine lv_iload_n hx hb dX10_unlikeBy_135 rfl (lv_at hl1685 3 rfl) ?_
                refine lv_icmp_ne (tgt := 143) hx hb dX10_unlikeBy_136 (by decide) (fun c1710 => ?_) (fun c1710 => ?_)
                · have k1711 := i_ne c1710
                  have cn_x1 := i_cl (x := x1) (by omega)
                  have cn_x2 := i_cl (x := x2) (by omega)
                  have cn_sz := i_cl (x := sz) (by omega)
                  exact J143  ls1684 H1696 locsH1696 (x1636) (lv_sub hl1685 [0, 1, 2, 3, 4, 5] rfl) hTH1696 hSH1696 bx1636 m1698 m1699 m1700 m1701 m1702 g1697 (by omega) ro1705 ro1706 rv1707 (fun i hi => rv1708 i (by omega)) rv1709
                · have k1711 := i_eq c1710
                  refine lv_iload_n hx hb dX10_unlikeBy_139 rfl (lv_at hl1685 3 rfl) ?_
                  refine lv_iconst (v := 1) hx hb dX10_unlikeBy_140 (by decide) ?_
                  refine lv_iadd hx hb dX10_unlikeBy_141 ?_
                  refine lv_topi (fun x1712 ex1712 => ?_)
                  have tx1712 := i_add ex1712 (by omega)
                  refine lv_istore_n (lv' := [(3, .int x1712), (0, .ref a0), (1, .int x1), (2, .int x2), (4, .int x1637), (5, .int x1638), (6, .int x1680), (7, .int x1681)]) hx hb dX10_unlikeBy_142 rfl hl1685 (by decide) rfl (fun ls1713 hl1714 => ?_)
                  have cn_x1 := i_cl (x := x1) (by omega)
                  have cn_x2 := i_cl (x := x2) (by omega)
                  have cn_sz := i_cl (x := sz) (by omega)
                  exact J143  ls1713 H1696 locsH1696 (x1712) (lv_sub hl1714 [1, 2, 3, 0, 4, 5] rfl) hTH1696 hSH1696 (by have := i_rng x1712; omega) m1698 m1699 m1700 m1701 m1702 g1697 (by omega) ro1705 ro1706 rv1707 (fun i hi => rv1708 i (by omega)) rv1709
              refine lv_iload hx hb dX10_unlikeBy_97 (lv_at hl1679 7 rfl) ?_
              refine lv_iload_n hx hb dX10_unlikeBy_99 rfl (lv_at hl1679 3 rfl) ?_
              refine lv_icmp_ge (tgt := 124) hx hb dX10_unlikeBy_100 (by decide) (fun c1715 => ?_) (fun c1715 => ?_)
              · have k1716 := i_le c1715
                have cn_x1 := i_cl (x := x1) (by omega)
                have cn_x2 := i_cl (x := x2) (by omega)
                have cn_sz := i_cl (x := sz) (by omega)
                exact J124  ls1678 H1677 locsH1677 (lv_sub hl1679 [0, 1, 2, 3, 4, 5, 6, 7] rfl) hTH1677 hSH1677 cy1682_0 cy1682_1 cy1682_2 cy1682_3 cy1682_4 gy1682_CG (by omega) hro97_kq hro97_gnq hrv97_v (fun i hi => hrv97_g i (by omega)) hrv97_e
              · have k1716 := i_nle c1715
                refine lv_aload_n hx hb dX10_unlikeBy_103 rfl (lv_at hl1679 0 rfl) ?_
                refine x_gr C hTH1677 (ci := 10) (k := 58) rfl inX10 (by decide) wF_X10_137 ga0 rg_112 rfl dX10_unlikeBy_104 (fun q1717 eq1717 gq1717 => ?_)
                replace eq1717 : @Eq Ad q1717 (fR H1677 a0 (K.1.2 10 58)) := eq1717
                refine lv_iload hx hb dX10_unlikeBy_107 (lv_at hl1679 7 rfl) ?_
                refine x_ai C hTH1677 gq1717 rg_153 ⟨bx1681.1, by show _ < ((1024 : Nat) : Int); omega⟩ dX10_unlikeBy_109 (fun x1718 ex1718 bx1718 => ?_)
                refine lv_iload hx hb dX10_unlikeBy_110 (lv_at hl1679 6 rfl) ?_
                refine lv_icmp_eq (tgt := 124) hx hb dX10_unlikeBy_112 (by decide) (fun c1719 => ?_) (fun c1719 => ?_)
                · have k1720 := i_eq c1719
                  have cn_x1 := i_cl (x := x1) (by omega)
                  have cn_x2 := i_cl (x := x2) (by omega)
                  have cn_sz := i_cl (x := sz) (by omega)
                  exact J124  ls1678 H1677 locsH1677 (lv_sub hl1679 [0, 1, 2, 3, 4, 5, 6, 7] rfl) hTH1677 hSH1677 cy1682_0 cy1682_1 cy1682_2 cy1682_3 cy1682_4 gy1682_CG (by omega) hro97_kq hro97_gnq hrv97_v (fun i hi => hrv97_g i (by omega)) hrv97_e
                · have k1720 := i_ne c1719
                  refine lv_iload hx hb dX10_unlikeBy_115 (lv_at hl1679 7 rfl) ?_
                  refine lv_iconst (v := 1) hx hb dX10_unlikeBy_117 (by decide) ?_
                  refine lv_iadd hx hb dX10_unlikeBy_118 ?_
                  refine lv_topi (fun x1721 ex1721 => ?_)
                  have tx1721 := i_add ex1721 (by omega)
                  refine lv_istore (lv' := [(7, .int x1721), (0, .ref a0), (1, .int x1), (2, .int x2), (3, .int x1636), (4, .int x1637), (5, .int x1638), (6, .int x1680)]) hx hb dX10_unlikeBy_119 hl1679 (by decide) rfl (fun ls1722 hl1723 => ?_)
                  refine lv_goto (tgt := 97) hx hb dX10_unlikeBy_121 (by decide) ?_
                  have cn_x1 := i_cl (x := x1) (by omega)
                  have cn_x2 := i_cl (x := x2) (by omega)
                  have cn_sz := i_cl (x := sz) (by omega)
                  exact ih97  ls1722 H1677 locsH1677 (x1680) (x1721) (lv_sub hl1723 [1, 2, 3, 4, 5, 6, 7, 0] rfl) hTH1677 hSH1677 (by have := i_rng x1721; omega) cy1682_0 cy1682_1 cy1682_2 cy1682_3 cy1682_4 gy1682_CG (by omega) (by omega) hro97_kq hro97_gnq hrv97_v (fun i hi => hrv97_g i (by omega)) hrv97_e
          refine lv_iload hx hb dX10_unlikeBy_49 (lv_at hl1673 6 rfl) ?_
          refine lv_iload hx hb dX10_unlikeBy_51 (lv_at hl1673 4 rfl) ?_
          refine lv_icmp_ge (tgt := 86) hx hb dX10_unlikeBy_53 (by decide) (fun c1724 => ?_) (fun c1724 => ?_)
          · have k1725 := i_le c1724
            refine lv_aload_n hx hb dX10_unlikeBy_86 rfl (lv_at hl1673 0 rfl) ?_
            refine lv_iload_n hx hb dX10_unlikeBy_87 rfl (lv_at hl1673 1 rfl) ?_
            refine lv_iconst (v := 0) hx hb dX10_unlikeBy_88 (by decide) ?_
            refine x_V (As := [.int x1, .int 0]) (rest := []) C (a_X10_toneNow l K G H1671 (x1) (0) hTH1671 ga0 (by omega) gy1676_CG) yo_X10_toneNow wM_X10_335 ⟨⟨by decide, by decide⟩, by decide, by decide⟩ (x_rv C hTH1671 (ci := 10) rfl ga0 rg_112) rfl hl1673.1 rfl (Nat.le_of_ble_eq_true rfl) dX10_unlikeBy_89 hSH1671 (AE_sub (fun _ _ => rfl) (by decide) hSH1671.1) (fun vH1726 H1726 locsH1726 pH1726 zH1726 kH1726 hSH1726 => ?_)
            obtain ⟨x1727, hvH1726, hTH1726⟩ := pH1726
            subst hvH1726
            have g1728 : CG (avw K H1726 a0) := CG.congr (fun k hk j => av_eff hTH1671 kH1726 ga0 (by decide) (CG_eff [140, 139] (by decide) k hk)) gy1676_CG
            have m1729 := (cy1676_0).trans (fR_kept (x_lt hTH1671 kH1726 ga0 (by decide))).symm
            have m1730 := (cy1676_1).trans (fR_kept (x_lt hTH1671 kH1726 ga0 (by decide))).symm
            have m1731 := (cy1676_2).trans (fR_kept (x_lt hTH1671 kH1726 ga0 (by decide))).symm
            have m1732 := (cy1676_3).trans (fR_kept (x_lt hTH1671 kH1726 ga0 (by decide))).symm
            have m1733 := (cy1676_4).trans (fI_kept (x_lt hTH1671 kH1726 gslq (by decide))).symm
            have ro1734 : ∀ j : Nat, j ≠ (16 * x1.toNatClampNeg + x2.toNatClampNeg) → fI H1726 kq j = fI s.heap kq j := fun j hj => (fI_kept (x_lt hTH1671 kH1726 gkq (by decide))).trans (hro49_kq j hj)
            have ro1735 : ∀ j : Nat, (j < 16 * x1.toNatClampNeg ∨ 16 * x1.toNatClampNeg + x1637.toNatClampNeg ≤ j) → fI H1726 gnq j = fI s.heap gnq j := fun j hj => (fI_kept (x_lt hTH1671 kH1726 ggnq (by decide))).trans (hro49_gnq j hj)
            have rv1736 : fI H1726 kq (16 * x1.toNatClampNeg + x2.toNatClampNeg) = fI s.heap kq (16 * x1.toNatClampNeg + x2.toNatClampNeg) - 1 := (fI_kept (x_lt hTH1671 kH1726 gkq (by decide))).trans hrv49_v
            have rv1737 : ∀ i : Nat, i < sz.toNatClampNeg → fI H1726 gkp i = fI s.heap gnq (16 * x1.toNatClampNeg + i) := (fun i hi => (fI_kept (x_lt hTH1671 kH1726 ggkp (by decide))).trans (hrv49_g i hi))
            have rv1738 : x1637.toInt = sz.toInt := hrv49_e
            refine W.eq (g2 := F0 m 92 ls1672 [.int x1727]) rfl ?_
            refine lv_istore (lv' := [(6, .int x1727), (0, .ref a0), (1, .int x1), (2, .int x2), (3, .int x1636), (4, .int x1637), (5, .int x1638)]) hx hb dX10_unlikeBy_92 hl1673 (by decide) rfl (fun ls1739 hl1740 => ?_)
            refine lv_iconst (v := 0) hx hb dX10_unlikeBy_94 (by decide) ?_
            refine lv_istore (lv' := [(7, .int 0), (6, .int x1727), (0, .ref a0), (1, .int x1), (2, .int x2), (3, .int x1636), (4, .int x1637), (5, .int x1638)]) hx hb dX10_unlikeBy_95 hl1740 (by decide) rfl (fun ls1741 hl1742 => ?_)
            have cn_x1 := i_cl (x := x1) (by omega)
            have cn_x2 := i_cl (x := x2) (by omega)
            have cn_sz := i_cl (x := sz) (by omega)
            exact J97 ((1024 - (0 : Int32).toInt).toNat + 1)  ls1741 H1726 locsH1726 (x1727) (0) (lv_sub hl1742 [2, 3, 4, 5, 6, 7, 1, 0] rfl) hTH1726 hSH1726 (by decide) m1729 m1730 m1731 m1732 m1733 g1728 (by omega) (by omega) ro1734 ro1735 rv1736 (fun i hi => rv1737 i (by omega)) rv1738
          · have k1725 := i_nle c1724
            refine lv_aload_n hx hb dX10_unlikeBy_56 rfl (lv_at hl1673 0 rfl) ?_
            refine x_gr C hTH1671 (ci := 10) (k := 6) rfl inX10 (by decide) wF_X10_20 ga0 rg_112 rfl dX10_unlikeBy_57 (fun q1743 eq1743 gq1743 => ?_)
            have uq1743 : gnq = q1743 := (cy1676_2).trans eq1743.symm
            subst uq1743
            refine lv_bipush (v := 16) hx hb dX10_unlikeBy_60 (by decide) ?_
            refine lv_iload_n hx hb dX10_unlikeBy_62 rfl (lv_at hl1673 1 rfl) ?_
            refine lv_imul hx hb dX10_unlikeBy_63 ?_
            refine lv_topi (fun x1744 ex1744 => ?_)
            have tx1744 := i_mul ex1744 (by rw [n_16]; omega)
            rw [n_16] at tx1744
            refine lv_iload hx hb dX10_unlikeBy_64 (lv_at hl1673 6 rfl) ?_
            refine lv_iadd hx hb dX10_unlikeBy_66 ?_
            refine lv_topi (fun x1745 ex1745 => ?_)
            have tx1745 := i_add ex1745 (by omega)
            refine lv_aload_n hx hb dX10_unlikeBy_67 rfl (lv_at hl1673 0 rfl) ?_
            refine x_gr C hTH1671 (ci := 10) (k := 57) rfl inX10 (by decide) wF_X10_134 ga0 rg_112 rfl dX10_unlikeBy_68 (fun q1746 eq1746 gq1746 => ?_)
            replace eq1746 : @Eq Ad q1746 (fR H1671 a0 (K.1.2 10 57)) := eq1746
            refine lv_iconst (v := 5) hx hb dX10_unlikeBy_71 (by decide) ?_
            refine lv_iload hx hb dX10_unlikeBy_72 (lv_at hl1673 5 rfl) ?_
            refine lv_imul hx hb dX10_unlikeBy_74 ?_
            refine lv_topi (fun x1747 ex1747 => ?_)
            have tx1747 := i_mul ex1747 (by rw [n_5]; omega)
            rw [n_5] at tx1747
            refine lv_iload hx hb dX10_unlikeBy_75 (lv_at hl1673 6 rfl) ?_
            refine lv_iadd hx hb dX10_unlikeBy_77 ?_
            refine lv_topi (fun x1748 ex1748 => ?_)
            have tx1748 := i_add ex1748 (by omega)
            refine x_ai C hTH1671 gq1746 rg_152 ⟨by omega, by show _ < ((5120 : Nat) : Int); omega⟩ dX10_unlikeBy_78 (fun x1749 ex1749 bx1749 => ?_)
            refine x_iast C hTH1671 hSH1671 ggnq rg_115 (by omega) (by show _ < ((160 : Nat) : Int); omega) (i_rng x1749) (AE_in ggnq (by decide)) dX10_unlikeBy_79 (fun H1750 locsH1750 hTH1750 hSH1750 wH1750 => ?_)
            have g1751 : CG (avw K H1750 a0) := CG.congr (fun k hk j => av_arr hTH1671 ga0 wH1750 ggnq (by decide) (CG_ok 115 (by decide) k hk)) gy1676_CG
            have m1752 := cy1676_0.trans (Wr.neR wH1750 (Or.inl (G_ne ga0 ggnq (by decide)))).symm
            have m1753 := cy1676_1.trans (Wr.neR wH1750 (Or.inl (G_ne ga0 ggnq (by decide)))).symm
            have m1754 := cy1676_2.trans (Wr.neR wH1750 (Or.inl (G_ne ga0 ggnq (by decide)))).symm
            have m1755 := cy1676_3.trans (Wr.neR wH1750 (Or.inl (G_ne ga0 ggnq (by decide)))).symm
            have m1756 := cy1676_4.trans (Wr.neI wH1750 (Or.inl (G_ne gslq ggnq (by decide)))).symm
            have m1757 := eq1746.trans (Wr.neR wH1750 (Or.inl (G_ne ga0 ggnq (by decide)))).symm
            have m1758 := ex1749.trans (Wr.neI wH1750 (Or.inl (G_ne gq1746 ggnq (by decide)))).symm
            have m1759 := Wr.I wH1750
            have m1759 := m1759.symm
            have ro1760 : ∀ j : Nat, j ≠ (16 * x1.toNatClampNeg + x2.toNatClampNeg) → fI H1750 kq j = fI s.heap kq j := fun j hj => (Wr.neI wH1750 (Or.inl (G_ne gkq ggnq (by decide)))).trans (hro49_kq j hj)
            have cn_x1 := i_cl (x := x1) (by omega)
            have cn_x1637 := i_cl (x := x1637) bx1637.1
            have cn_x1745 := i_cl (x := x1745) (by omega)
            have ro1761 : ∀ j : Nat, (j < 16 * x1.toNatClampNeg ∨ 16 * x1.toNatClampNeg + x1637.toNatClampNeg ≤ j) → fI H1750 gnq j = fI s.heap gnq j := fun j hj => (Wr.neI wH1750 (Or.inr (by omega))).trans (hro49_gnq j hj)
            have rv1762 : fI H1750 kq (16 * x1.toNatClampNeg + x2.toNatClampNeg) = fI s.heap kq (16 * x1.toNatClampNeg + x2.toNatClampNeg) - 1 := (Wr.neI wH1750 (Or.inl (G_ne gkq ggnq (by decide)))).trans hrv49_v
            have rv1763 : ∀ i : Nat, i < sz.toNatClampNeg → fI H1750 gkp i = fI s.heap gnq (16 * x1.toNatClampNeg + i) := (fun i hi => (Wr.neI wH1750 (Or.inl (G_ne ggkp ggnq (by decide)))).trans (hrv49_g i hi))
            have rv1764 : x1637.toInt = sz.toInt := hrv49_e
            obtain ⟨x1765, ex1765⟩ : ∃ y : Int32, y = x1675 + 1 := ⟨_, rfl⟩
            have tx1765 := i_add ex1765 (by omega)
            refine lv_iinc (v := x1765) (lv' := [(6, .int x1765), (0, .ref a0), (1, .int x1), (2, .int x2), (3, .int x1636), (4, .int x1637), (5, .int x1638)]) hx hb dX10_unlikeBy_80 hl1673 (k := 6) rfl (by rw [ex1765]; rfl) (by decide) rfl (fun ls1766 hl1767 => ?_)
            refine lv_goto (tgt := 49) hx hb dX10_unlikeBy_83 (by decide) ?_
            have cn_x2 := i_cl (x := x2) (by omega)
            have cn_sz := i_cl (x := sz) (by omega)
            exact ih49  ls1766 H1750 locsH1750 (x1765) (lv_sub hl1767 [1, 2, 3, 4, 5, 6, 0] rfl) hTH1750 hSH1750 (by have := i_rng x1638; omega) (by have := i_rng x1765; omega) m1752 m1753 m1754 m1755 m1756 g1751 (by omega) (by omega) ro1760 ro1761 rv1762 (fun i hi => rv1763 i (by omega)) rv1764
      refine lv_iload hx hb dX10_unlikeBy_37 (lv_at hl1635 5 rfl) ?_
      refine lv_aload_n hx hb dX10_unlikeBy_39 rfl (lv_at hl1635 0 rfl) ?_
      refine x_gi C hTH1633 (ci := 10) (k := 56) rfl inX10 (by decide) wF_X10_378 ga0 rg_112 rfl dX10_unlikeBy_40 (fun x1768 ex1768 bx1768 => ?_)
      refine lv_icmp_ge (tgt := 149) hx hb dX10_unlikeBy_43 (by decide) (fun c1769 => ?_) (fun c1769 => ?_)
      · have k1770 := i_le c1769
        refine lv_aload_n hx hb dX10_unlikeBy_149 rfl (lv_at hl1635 0 rfl) ?_
        refine x_gr C hTH1633 (ci := 10) (k := 5) rfl inX10 (by decide) wF_X10_17 ga0 rg_112 rfl dX10_unlikeBy_150 (fun q1771 eq1771 gq1771 => ?_)
        have uq1771 : kq = q1771 := (cy1639_1).trans eq1771.symm
        subst uq1771
        refine lv_bipush (v := 16) hx hb dX10_unlikeBy_153 (by decide) ?_
        refine lv_iload_n hx hb dX10_unlikeBy_155 rfl (lv_at hl1635 1 rfl) ?_
        refine lv_imul hx hb dX10_unlikeBy_156 ?_
        refine lv_topi (fun x1772 ex1772 => ?_)
        have tx1772 := i_mul ex1772 (by rw [n_16]; omega)
        rw [n_16] at tx1772
        refine lv_iload_n hx hb dX10_unlikeBy_157 rfl (lv_at hl1635 2 rfl) ?_
        refine lv_iadd hx hb dX10_unlikeBy_158 ?_
        refine lv_topi (fun x1773 ex1773 => ?_)
        have tx1773 := i_add ex1773 (by omega)
        refine lv_aload_n hx hb dX10_unlikeBy_159 rfl (lv_at hl1635 0 rfl) ?_
        refine x_gr C hTH1633 (ci := 10) (k := 5) rfl inX10 (by decide) wF_X10_17 ga0 rg_112 rfl dX10_unlikeBy_160 (fun q1774 eq1774 gq1774 => ?_)
        have uq1774 : kq = q1774 := (cy1639_1).trans eq1774.symm
        subst uq1774
        refine lv_bipush (v := 16) hx hb dX10_unlikeBy_163 (by decide) ?_
        refine lv_iload_n hx hb dX10_unlikeBy_165 rfl (lv_at hl1635 1 rfl) ?_
        refine lv_imul hx hb dX10_unlikeBy_166 ?_
        refine lv_topi (fun x1775 ex1775 => ?_)
        have tx1775 := i_mul ex1775 (by rw [n_16]; omega)
        rw [n_16] at tx1775
        refine lv_iload_n hx hb dX10_unlikeBy_167 rfl (lv_at hl1635 2 rfl) ?_
        refine lv_iadd hx hb dX10_unlikeBy_168 ?_
        refine lv_topi (fun x1776 ex1776 => ?_)
        have tx1776 := i_add ex1776 (by omega)
        refine x_ai C hTH1633 gkq rg_114 ⟨by omega, by show _ < ((160 : Nat) : Int); omega⟩ dX10_unlikeBy_169 (fun x1777 ex1777 bx1777 => ?_)
        refine lv_iconst (v := 1) hx hb dX10_unlikeBy_170 (by decide) ?_
        refine lv_iadd hx hb dX10_unlikeBy_171 ?_
        refine lv_topi (fun x1778 ex1778 => ?_)
        refine x_iast C hTH1633 hSH1633 gkq rg_114 (by omega) (by show _ < ((160 : Nat) : Int); omega) (i_rng x1778) (AE_in gkq (by decide)) dX10_unlikeBy_172 (fun H1779 locsH1779 hTH1779 hSH1779 wH1779 => ?_)
        have g1780 : CG (avw K H1779 a0) := CG.congr (fun k hk j => av_arr hTH1633 ga0 wH1779 gkq (by decide) (CG_ok 114 (by decide) k hk)) gy1639_CG
        have m1781 := cy1639_0.trans (Wr.neR wH1779 (Or.inl (G_ne ga0 gkq (by decide)))).symm
        have m1782 := cy1639_1.trans (Wr.neR wH1779 (Or.inl (G_ne ga0 gkq (by decide)))).symm
        have m1783 := cy1639_2.trans (Wr.neR wH1779 (Or.inl (G_ne ga0 gkq (by decide)))).symm
        have m1784 := cy1639_3.trans (Wr.neR wH1779 (Or.inl (G_ne ga0 gkq (by decide)))).symm
        have m1785 := cy1639_4.trans (Wr.neI wH1779 (Or.inl (G_ne gslq gkq (by decide)))).symm
        have m1786 := ex1768.trans (Wr.neI wH1779 (Or.inl (G_ne ga0 gkq (by decide)))).symm
        have m1788 := Wr.I wH1779
        have m1788 := m1788.symm
        have cn_x1 := i_cl (x := x1) (by omega)
        have cn_x2 := i_cl (x := x2) (by omega)
        have cn_x1776 := i_cl (x := x1776) (by omega)
        have rb1789 : x1778 = fI s.heap kq (16 * x1.toNatClampNeg + x2.toNatClampNeg) := by have z : x1777 = _ := ex1777.trans ((congrArg (fI H1633 kq) (show x1776.toNatClampNeg = (16 * x1.toNatClampNeg + x2.toNatClampNeg) by omega)).trans hrv37_v); rw [ex1778, z, Int32.sub_add_cancel]
        have cn_x1773 := i_cl (x := x1773) (by omega)
        have hixH1779 : x1773.toNatClampNeg = (16 * x1.toNatClampNeg + x2.toNatClampNeg) := by omega
        have ro1790 : ∀ j : Nat, fI H1779 kq j = fI s.heap kq j := fun j => if hj : j = (16 * x1.toNatClampNeg + x2.toNatClampNeg) then (by subst hj; rw [← hixH1779, Wr.I wH1779, hixH1779]; exact rb1789) else (Wr.neI wH1779 (Or.inr (by omega))).trans (hro37_kq j hj)
        have ro1791 : ∀ j : Nat, (j < 16 * x1.toNatClampNeg ∨ 16 * x1.toNatClampNeg + x1637.toNatClampNeg ≤ j) → fI H1779 gnq j = fI s.heap gnq j := fun j hj => (Wr.neI wH1779 (Or.inl (G_ne ggnq gkq (by decide)))).trans (hro37_gnq j hj)
        have rv1792 : ∀ i : Nat, i < sz.toNatClampNeg → fI H1779 gkp i = fI s.heap gnq (16 * x1.toNatClampNeg + i) := (fun i hi => (Wr.neI wH1779 (Or.inl (G_ne ggkp gkq (by decide)))).trans (hrv37_g i hi))
        have rv1793 : x1637.toInt = sz.toInt := hrv37_e
        refine lv_iconst (v := 0) hx hb dX10_unlikeBy_173 (by decide) ?_
        refine lv_istore (lv' := [(5, .int 0), (0, .ref a0), (1, .int x1), (2, .int x2), (3, .int x1636), (4, .int x1637)]) hx hb dX10_unlikeBy_174 hl1635 (by decide) rfl (fun ls1794 hl1795 => ?_)
        have cn_sz := i_cl (x := sz) (by omega)
        exact J176 ((5 - (0 : Int32).toInt).toNat + 1)  ls1794 H1779 locsH1779 (0) (lv_sub hl1795 [1, 2, 4, 5, 0] rfl) hTH1779 hSH1779 (by decide) m1781 m1782 m1783 m1784 m1785 g1780 (by omega) ro1790 ro1791 (fun i hi => rv1792 i (by omega)) rv1793 (fun i hi => by have z : (0 : Int32).toNatClampNeg = 0 := rfl; omega)
      · have k1770 := i_nle c1769
        refine lv_iconst (v := 0) hx hb dX10_unlikeBy_46 (by decide) ?_
        refine lv_istore (lv' := [(6, .int 0), (0, .ref a0), (1, .int x1), (2, .int x2), (3, .int x1636), (4, .int x1637), (5, .int x1638)]) hx hb dX10_unlikeBy_47 hl1635 (by decide) rfl (fun ls1796 hl1797 => ?_)
        have cn_x1 := i_cl (x := x1) (by omega)
        have cn_x2 := i_cl (x := x2) (by omega)
        have cn_sz := i_cl (x := sz) (by omega)
        exact J49 ((5 - (0 : Int32).toInt).toNat + 1)  ls1796 H1633 locsH1633 (0) (lv_sub hl1797 [1, 2, 3, 4, 5, 6, 0] rfl) hTH1633 hSH1633 (by have := i_rng x1638; omega) (by decide) cy1639_0 cy1639_1 cy1639_2 cy1639_3 cy1639_4 gy1639_CG (by omega) (by omega) hro37_kq hro37_gnq hrv37_v (fun i hi => hrv37_g i (by omega)) hrv37_e
  refine lv_iconst (v := 0) hx hb dX10_unlikeBy_0 (by decide) ?_
  refine lv_istore_n (lv' := [(3, .int 0), (0, .ref a0), (1, .int x1), (2, .int x2)]) hx hb dX10_unlikeBy_1 rfl hl (by decide) rfl (fun ls1798 hl1799 => ?_)
  refine lv_aload_n hx hb dX10_unlikeBy_2 rfl (lv_at hl1799 1 rfl) ?_
  refine x_gr C hT (ci := 10) (k := 4) rfl inX10 (by decide) wF_X10_13 ga0 rg_112 rfl dX10_unlikeBy_3 (fun q1800 eq1800 gq1800 => ?_)
  have uq1800 : slq = q1800 := (eslq).trans eq1800.symm
  subst uq1800
  refine lv_iload_n hx hb dX10_unlikeBy_6 rfl (lv_at hl1799 2 rfl) ?_
  refine x_ai C hT gslq rg_113 ⟨by omega, by show _ < ((10 : Nat) : Int); omega⟩ dX10_unlikeBy_7 (fun x1801 ex1801 bx1801 => ?_)
  have ux1801 : sz = x1801 := (esz).trans ex1801.symm
  subst ux1801
  refine lv_istore (lv' := [(4, .int sz), (3, .int 0), (0, .ref a0), (1, .int x1), (2, .int x2)]) hx hb dX10_unlikeBy_8 hl1799 (by decide) rfl (fun ls1802 hl1803 => ?_)
  refine lv_aload_n hx hb dX10_unlikeBy_10 rfl (lv_at hl1803 2 rfl) ?_
  refine x_gr C hT (ci := 10) (k := 5) rfl inX10 (by decide) wF_X10_17 ga0 rg_112 rfl dX10_unlikeBy_11 (fun q1804 eq1804 gq1804 => ?_)
  have uq1804 : kq = q1804 := (ekq).trans eq1804.symm
  subst uq1804
  refine lv_bipush (v := 16) hx hb dX10_unlikeBy_14 (by decide) ?_
  refine lv_iload_n hx hb dX10_unlikeBy_16 rfl (lv_at hl1803 3 rfl) ?_
  refine lv_imul hx hb dX10_unlikeBy_17 ?_
  refine lv_topi (fun x1805 ex1805 => ?_)
  have tx1805 := i_mul ex1805 (by rw [n_16]; omega)
  rw [n_16] at tx1805
  refine lv_iload_n hx hb dX10_unlikeBy_18 rfl (lv_at hl1803 4 rfl) ?_
  refine lv_iadd hx hb dX10_unlikeBy_19 ?_
  refine lv_topi (fun x1806 ex1806 => ?_)
  have tx1806 := i_add ex1806 (by omega)
  refine lv_aload_n hx hb dX10_unlikeBy_20 rfl (lv_at hl1803 2 rfl) ?_
  refine x_gr C hT (ci := 10) (k := 5) rfl inX10 (by decide) wF_X10_17 ga0 rg_112 rfl dX10_unlikeBy_21 (fun q1807 eq1807 gq1807 => ?_)
  have uq1807 : kq = q1807 := (ekq).trans eq1807.symm
  subst uq1807
  refine lv_bipush (v := 16) hx hb dX10_unlikeBy_24 (by decide) ?_
  refine lv_iload_n hx hb dX10_unlikeBy_26 rfl (lv_at hl1803 3 rfl) ?_
  refine lv_imul hx hb dX10_unlikeBy_27 ?_
  refine lv_topi (fun x1808 ex1808 => ?_)
  have tx1808 := i_mul ex1808 (by rw [n_16]; omega)
  rw [n_16] at tx1808
  refine lv_iload_n hx hb dX10_unlikeBy_28 rfl (lv_at hl1803 4 rfl) ?_
  refine lv_iadd hx hb dX10_unlikeBy_29 ?_
  refine lv_topi (fun x1809 ex1809 => ?_)
  have tx1809 := i_add ex1809 (by omega)
  refine x_ai C hT gkq rg_114 ⟨by omega, by show _ < ((160 : Nat) : Int); omega⟩ dX10_unlikeBy_30 (fun x1810 ex1810 bx1810 => ?_)
  refine lv_iconst (v := 1) hx hb dX10_unlikeBy_31 (by decide) ?_
  refine lv_isub hx hb dX10_unlikeBy_32 ?_
  refine lv_topi (fun x1811 ex1811 => ?_)
  refine x_iast C hT hS gkq rg_114 (by omega) (by show _ < ((160 : Nat) : Int); omega) (i_rng x1811) (AE_in gkq (by decide)) dX10_unlikeBy_33 (fun H1812 locsH1812 hTH1812 hSH1812 wH1812 => ?_)
  have g1813 : CG (avw K H1812 a0) := CG.congr (fun k hk j => av_arr hT ga0 wH1812 gkq (by decide) (CG_ok 114 (by decide) k hk)) hg_CG
  have m1814 := eslq.trans (Wr.neR wH1812 (Or.inl (G_ne ga0 gkq (by decide)))).symm
  have m1815 := ekq.trans (Wr.neR wH1812 (Or.inl (G_ne ga0 gkq (by decide)))).symm
  have m1816 := egnq.trans (Wr.neR wH1812 (Or.inl (G_ne ga0 gkq (by decide)))).symm
  have m1817 := egkp.trans (Wr.neR wH1812 (Or.inl (G_ne ga0 gkq (by decide)))).symm
  have m1818 := esz.trans (Wr.neI wH1812 (Or.inl (G_ne gslq gkq (by decide)))).symm
  have m1820 := Wr.I wH1812
  have m1820 := m1820.symm
  have cn_x1 := i_cl (x := x1) (by omega)
  have cn_x1806 := i_cl (x := x1806) (by omega)
  have cn_x2 := i_cl (x := x2) (by omega)
  have ro1821 : ∀ j : Nat, j ≠ (16 * x1.toNatClampNeg + x2.toNatClampNeg) → fI H1812 kq j = fI s.heap kq j := fun j hj => (Wr.neI wH1812 (Or.inr (by omega))).trans (ro0_kq j)
  have ro1822 : ∀ j : Nat, fI H1812 gnq j = fI s.heap gnq j := fun j => (Wr.neI wH1812 (Or.inl (G_ne ggnq gkq (by decide)))).trans (ro0_gnq j)
  have rv1823 : ∀ i : Nat, i < sz.toNatClampNeg → fI H1812 gkp i = fI s.heap gnq (16 * x1.toNatClampNeg + i) := (fun i hi => (Wr.neI wH1812 (Or.inl (G_ne ggkp gkq (by decide)))).trans (hy0 i hi))
  have cn_x1809 := i_cl (x := x1809) (by omega)
  have rx1824 : x1810 = fI s.heap kq (16 * x1.toNatClampNeg + x2.toNatClampNeg) := ex1810.trans ((ro0_kq _).trans (by rw [show x1809.toNatClampNeg = (16 * x1.toNatClampNeg + x2.toNatClampNeg) by omega]))
  have rv1825 : fI H1812 kq (16 * x1.toNatClampNeg + x2.toNatClampNeg) = fI s.heap kq (16 * x1.toNatClampNeg + x2.toNatClampNeg) - 1 := by rw [← (show x1806.toNatClampNeg = (16 * x1.toNatClampNeg + x2.toNatClampNeg) by omega), Wr.I wH1812, (show x1806.toNatClampNeg = (16 * x1.toNatClampNeg + x2.toNatClampNeg) by omega), ex1811, rx1824]
  refine lv_iconst (v := 0) hx hb dX10_unlikeBy_34 (by decide) ?_
  refine lv_istore (lv' := [(5, .int 0), (4, .int sz), (3, .int 0), (0, .ref a0), (1, .int x1), (2, .int x2)]) hx hb dX10_unlikeBy_35 hl1803 (by decide) rfl (fun ls1826 hl1827 => ?_)
  have cn_sz := i_cl (x := sz) (by omega)
  exact J37 ((1024 - (0 : Int32).toInt).toNat + 1)  ls1826 H1812 locsH1812 (0) (sz) (0) (lv_sub hl1827 [3, 4, 5, 2, 1, 0] rfl) hTH1812 hSH1812 (by decide) (by have := i_rng sz; omega) (by decide) m1814 m1815 m1816 m1817 m1818 g1813 (by omega) (by omega) ro1821 (fun j _ => ro1822 j) rv1825 (fun i hi => rv1823 i (by omega)) rfl

set_option maxHeartbeats 4000000 in
set_option maxRecDepth 100000 in
theorem a_X10_nextPass_k (l : Launch) (K : KE) (G : Nat → Option Nat) (H : Heap) {a0 : Nat} (x1 : Int32) {slq : Nat} {kq : Nat} {gnq : Nat} {gkp : Nat} (sz : Int32) (hT : TY K G H) (ga0 : G a0 = some 112) (hx1 : 0 ≤ x1.toInt ∧ x1.toInt ≤ 9) (gslq : G slq = some 113) (eslq : @Eq Ad slq (fR H a0 (K.1.2 10 4))) (gkq : G kq = some 114) (ekq : @Eq Ad kq (fR H a0 (K.1.2 10 5))) (ggnq : G gnq = some 115) (egnq : @Eq Ad gnq (fR H a0 (K.1.2 10 6))) (ggkp : G gkp = some 151) (egkp : @Eq Ad gkp (fR H a0 (K.1.2 10 55))) (esz : sz = fI H slq (x1 : Int32).toNatClampNeg) (hg_CG : CG (avw K H a0)) (hp0 : sz.toInt ≤ 5) (hy0 : ∀ i : Nat, i < sz.toNatClampNeg → fI H gkp i = fI H gnq (16 * x1.toNatClampNeg + i)) : MX l K yX10_nextPass cX10_nextPass 6 (some .int) 7 172 0 0 [.ref a0, .int x1] H (AE G [114, 115, 153, 140, 139] H.size) (fun v H1 => ∃ (r : Int32), v = some (.int r) ∧ (∀ j : Nat, fI H1 kq j = fI H kq j) ∧ (∀ j : Nat, fI H1 gnq j = fI H gnq j) ∧ TY K G H1) := by
  refine MX.of (by decide +kernel) (Nat.le_of_ble_eq_true rfl) ?_
  intro p e s m below meth c ls Q C hH hl hQ
  subst hH
  have C : CX p K s m _ meth c RX10 cX10_nextPass 6 (some .int) "nextPass" := C
  obtain ⟨hx, hb, hml, hown, hts, hKT, hr, hlocks, hnm⟩ := id C
  have hl : lv_has ls 6 [(0, .ref a0), (1, .int x1)] := hl
  have hS : va_S (AE G [114, 115, 153, 140, 139] s.heap.size) s.heap s.heap [] := va_S.rf
  have n_m1 : ((-1) : Int32).toInt = -1 := rfl
  have n_0 : (0 : Int32).toInt = 0 := rfl
  have n_1 : (1 : Int32).toInt = 1 := rfl
  have n_16 : (16 : Int32).toInt = 16 := rfl
  have bsz := ty_ai (x := sz) esz hT gslq rg_113 (by omega)
  have hap : ∀ x y, x < 74 → y < 74 → x ≠ y → K.1.2 10 x ≠ K.1.2 10 y := x_apart hKT hts inX10 tyX10 tyX10_ok nmX10 rfl
  have ro0_kq : ∀ j : Nat, fI s.heap kq j = fI s.heap kq j := fun _ => rfl
  have ro0_gnq : ∀ j : Nat, fI s.heap gnq j = fI s.heap gnq j := fun _ => rfl
  have J7 : ∀ (nf : Nat)  (ls486 : Array Slot) (H485 : Heap) (locsH485 : List Loc) (x488 : Int32) (x489 : Int32) (x490 : Int32), lv_has ls486 6 [(0, .ref a0), (1, .int x1), (2, .int x488), (3, .int x489), (4, .int x490)] → TY K G H485 → va_S (AE G [114, 115, 153, 140, 139] s.heap.size) s.heap H485 locsH485 → ((-1) ≤ x488.toInt ∧ x488.toInt ≤ 4) → (0 ≤ x489.toInt ∧ x489.toInt ≤ 2147483647) → (0 ≤ x490.toInt ∧ x490.toInt ≤ 5) → (@Eq Ad slq (fR H485 a0 (K.1.2 10 4))) → (@Eq Ad kq (fR H485 a0 (K.1.2 10 5))) → (@Eq Ad gnq (fR H485 a0 (K.1.2 10 6))) → (@Eq Ad gkp (fR H485 a0 (K.1.2 10 55))) → (sz = fI H485 slq (x1 : Int32).toNatClampNeg) → (CG (avw K H485 a0)) → (5 - x490.toInt < (nf : Int)) → (∀ j : Nat, fI H485 kq j = fI s.heap kq j) → (∀ j : Nat, fI H485 gnq j = fI s.heap gnq j) → (∀ i : Nat, i < sz.toNatClampNeg → fI H485 gkp i = fI s.heap gnq (16 * x1.toNatClampNeg + i)) → W p l e ({ frames := 7, cells := 0, slots := 0, locals := 172 } : Room) s m (([.ref a0, .int x1] : List Value).toArray) below meth c H485 locsH485 0 0 Q (F0 m 7 ls486 []) := by
    intro nf
    induction nf with
    | zero =>
      intro  ls486 H485 locsH485 x488 x489 x490 hl487 hTH485 hSH485 bx488 bx489 bx490 cy491_0 cy491_1 cy491_2 cy491_3 cy491_4 gy491_CG hm7 hro7_kq hro7_gnq hrv7_g
      exfalso
      omega
    | succ nf ih7 =>
      intro  ls486 H485 locsH485 x488 x489 x490 hl487 hTH485 hSH485 bx488 bx489 bx490 cy491_0 cy491_1 cy491_2 cy491_3 cy491_4 gy491_CG hm7 hro7_kq hro7_gnq hrv7_g
      refine lv_iload hx hb dX10_nextPass_7 (lv_at hl487 4 rfl) ?_
      refine lv_aload_n hx hb dX10_nextPass_9 rfl (lv_at hl487 0 rfl) ?_
      refine x_gr C hTH485 (ci := 10) (k := 4) rfl inX10 (by decide) wF_X10_13 ga0 rg_112 rfl dX10_nextPass_10 (fun q492 eq492 gq492 => ?_)
      have uq492 : slq = q492 := (cy491_0).trans eq492.symm
      subst uq492
      refine lv_iload_n hx hb dX10_nextPass_13 rfl (lv_at hl487 1 rfl) ?_
      refine x_ai C hTH485 gslq rg_113 ⟨by omega, by show _ < ((10 : Nat) : Int); omega⟩ dX10_nextPass_14 (fun x493 ex493 bx493 => ?_)
      have ux493 : sz = x493 := (cy491_4).trans ex493.symm
      subst ux493
      refine lv_icmp_ge (tgt := 67) hx hb dX10_nextPass_15 (by decide) (fun c494 => ?_) (fun c494 => ?_)
      · have k495 := i_le c494
        refine lv_iload_n hx hb dX10_nextPass_67 rfl (lv_at hl487 2 rfl) ?_
        exact x_iret C hQ dX10_nextPass_68 hSH485 (by decide) (by decide) (⟨x488, rfl, hro7_kq, hro7_gnq, hTH485⟩)
      · have k495 := i_nle c494
        refine lv_aload_n hx hb dX10_nextPass_18 rfl (lv_at hl487 0 rfl) ?_
        refine x_gr C hTH485 (ci := 10) (k := 5) rfl inX10 (by decide) wF_X10_17 ga0 rg_112 rfl dX10_nextPass_19 (fun q496 eq496 gq496 => ?_)
        have uq496 : kq = q496 := (cy491_1).trans eq496.symm
        subst uq496
        refine lv_bipush (v := 16) hx hb dX10_nextPass_22 (by decide) ?_
        refine lv_iload_n hx hb dX10_nextPass_24 rfl (lv_at hl487 1 rfl) ?_
        refine lv_imul hx hb dX10_nextPass_25 ?_
        refine lv_topi (fun x497 ex497 => ?_)
        have tx497 := i_mul ex497 (by rw [n_16]; omega)
        rw [n_16] at tx497
        refine lv_iload hx hb dX10_nextPass_26 (lv_at hl487 4 rfl) ?_
        refine lv_iadd hx hb dX10_nextPass_28 ?_
        refine lv_topi (fun x498 ex498 => ?_)
        have tx498 := i_add ex498 (by omega)
        refine x_ai C hTH485 gkq rg_114 ⟨by omega, by show _ < ((160 : Nat) : Int); omega⟩ dX10_nextPass_29 (fun x499 ex499 bx499 => ?_)
        refine lv_iconst (v := 1) hx hb dX10_nextPass_30 (by decide) ?_
        refine lv_icmp_gt (tgt := 37) hx hb dX10_nextPass_31 (by decide) (fun c500 => ?_) (fun c500 => ?_)
        · have k501 := i_lt c500
          refine lv_aload_n hx hb dX10_nextPass_37 rfl (lv_at hl487 0 rfl) ?_
          refine lv_iload_n hx hb dX10_nextPass_38 rfl (lv_at hl487 1 rfl) ?_
          refine lv_iload hx hb dX10_nextPass_39 (lv_at hl487 4 rfl) ?_
          refine x_V (As := [.int x1, .int x490]) (rest := []) C (a_X10_unlikeBy_k l K G H485 (x1) (x490) (sz) hTH485 ga0 (by omega) (by omega) gslq cy491_0 gkq cy491_1 ggnq cy491_2 ggkp cy491_3 cy491_4 gy491_CG (by omega) ((fun i hi => (hrv7_g i hi).trans (hro7_gnq _).symm))) yo_X10_unlikeBy wM_X10_384 ⟨⟨by decide, by decide⟩, by decide, by decide⟩ (x_rv C hTH485 (ci := 10) rfl ga0 rg_112) rfl hl487.1 rfl (Nat.le_of_ble_eq_true rfl) dX10_nextPass_41 hSH485 (AE_sub (fun _ _ => rfl) (by decide) hSH485.1) (fun vH502 H502 locsH502 pH502 zH502 kH502 hSH502 => ?_)
          obtain ⟨x503, hvH502, m504, m505, hTH502⟩ := pH502
          subst hvH502
          have g506 : CG (avw K H502 a0) := CG.congr (fun k hk j => av_eff hTH485 kH502 ga0 (by decide) (CG_eff [114, 115, 153, 140, 139] (by decide) k hk)) gy491_CG
          have m507 := (cy491_0).trans (fR_kept (x_lt hTH485 kH502 ga0 (by decide))).symm
          have m508 := (cy491_1).trans (fR_kept (x_lt hTH485 kH502 ga0 (by decide))).symm
          have m509 := (cy491_2).trans (fR_kept (x_lt hTH485 kH502 ga0 (by decide))).symm
          have m510 := (cy491_3).trans (fR_kept (x_lt hTH485 kH502 ga0 (by decide))).symm
          have m511 := (cy491_4).trans (fI_kept (x_lt hTH485 kH502 gslq (by decide))).symm
          have rv512 : ∀ i : Nat, i < sz.toNatClampNeg → fI H502 gkp i = fI s.heap gnq (16 * x1.toNatClampNeg + i) := (fun i hi => (fI_kept (x_lt hTH485 kH502 ggkp (by decide))).trans (hrv7_g i hi))
          have ro513 : ∀ j : Nat, fI H502 kq j = fI s.heap kq j := fun j => (m504 j).trans (hro7_kq j)
          have ro514 : ∀ j : Nat, fI H502 gnq j = fI s.heap gnq j := fun j => (m505 j).trans (hro7_gnq j)
          refine W.eq (g2 := F0 m 44 ls486 [.int x503]) rfl ?_
          refine lv_istore (lv' := [(5, .int x503), (0, .ref a0), (1, .int x1), (2, .int x488), (3, .int x489), (4, .int x490)]) hx hb dX10_nextPass_44 hl487 (by decide) rfl (fun ls515 hl516 => ?_)
          refine lv_iload hx hb dX10_nextPass_46 (lv_at hl516 0 rfl) ?_
          refine lv_iload_n hx hb dX10_nextPass_48 rfl (lv_at hl516 4 rfl) ?_
          refine lv_icmp_gt (tgt := 55) hx hb dX10_nextPass_49 (by decide) (fun c517 => ?_) (fun c517 => ?_)
          · have k518 := i_lt c517
            refine lv_iload hx hb dX10_nextPass_55 (lv_at hl516 5 rfl) ?_
            refine lv_istore_n (lv' := [(2, .int x490), (5, .int x503), (0, .ref a0), (1, .int x1), (3, .int x489), (4, .int x490)]) hx hb dX10_nextPass_57 rfl hl516 (by decide) rfl (fun ls519 hl520 => ?_)
            refine lv_iload hx hb dX10_nextPass_58 (lv_at hl520 1 rfl) ?_
            refine lv_istore_n (lv' := [(3, .int x503), (2, .int x490), (5, .int x503), (0, .ref a0), (1, .int x1), (4, .int x490)]) hx hb dX10_nextPass_60 rfl hl520 (by decide) rfl (fun ls521 hl522 => ?_)
            obtain ⟨x523, ex523⟩ : ∃ y : Int32, y = x490 + 1 := ⟨_, rfl⟩
            have tx523 := i_add ex523 (by omega)
            refine lv_iinc (v := x523) (lv' := [(4, .int x523), (3, .int x503), (2, .int x490), (5, .int x503), (0, .ref a0), (1, .int x1)]) hx hb dX10_nextPass_61 hl522 (k := 5) rfl (by rw [ex523]; rfl) (by decide) rfl (fun ls524 hl525 => ?_)
            refine lv_goto (tgt := 7) hx hb dX10_nextPass_64 (by decide) ?_
            exact ih7  ls524 H502 locsH502 (x490) (x503) (x523) (lv_sub hl525 [4, 5, 2, 1, 0] rfl) hTH502 hSH502 (by have := i_rng x490; omega) (by have := i_rng x503; omega) (by have := i_rng x523; omega) m507 m508 m509 m510 m511 g506 (by omega) ro513 ro514 rv512
          · have k518 := i_nlt c517
            refine lv_goto (tgt := 61) hx hb dX10_nextPass_52 (by decide) ?_
            obtain ⟨x526, ex526⟩ : ∃ y : Int32, y = x490 + 1 := ⟨_, rfl⟩
            have tx526 := i_add ex526 (by omega)
            refine lv_iinc (v := x526) (lv' := [(4, .int x526), (5, .int x503), (0, .ref a0), (1, .int x1), (2, .int x488), (3, .int x489)]) hx hb dX10_nextPass_61 hl516 (k := 5) rfl (by rw [ex526]; rfl) (by decide) rfl (fun ls527 hl528 => ?_)
            refine lv_goto (tgt := 7) hx hb dX10_nextPass_64 (by decide) ?_
            exact ih7  ls527 H502 locsH502 (x488) (x489) (x526) (lv_sub hl528 [2, 3, 4, 5, 0] rfl) hTH502 hSH502 bx488 bx489 (by have := i_rng x526; omega) m507 m508 m509 m510 m511 g506 (by omega) ro513 ro514 rv512
        · have k501 := i_nlt c500
          refine lv_goto (tgt := 61) hx hb dX10_nextPass_34 (by decide) ?_
          obtain ⟨x529, ex529⟩ : ∃ y : Int32, y = x490 + 1 := ⟨_, rfl⟩
          have tx529 := i_add ex529 (by omega)
          refine lv_iinc (v := x529) (lv' := [(4, .int x529), (0, .ref a0), (1, .int x1), (2, .int x488), (3, .int x489)]) hx hb dX10_nextPass_61 hl487 (k := 4) rfl (by rw [ex529]; rfl) (by decide) rfl (fun ls530 hl531 => ?_)
          refine lv_goto (tgt := 7) hx hb dX10_nextPass_64 (by decide) ?_
          exact ih7  ls530 H485 locsH485 (x488) (x489) (x529) (lv_sub hl531 [1, 2, 3, 4, 0] rfl) hTH485 hSH485 bx488 bx489 (by have := i_rng x529; omega) cy491_0 cy491_1 cy491_2 cy491_3 cy491_4 gy491_CG (by omega) hro7_kq hro7_gnq hrv7_g
  refine lv_iconst (v := (-1)) hx hb dX10_nextPass_0 (by decide) ?_
  refine lv_istore_n (lv' := [(2, .int (-1)), (0, .ref a0), (1, .int x1)]) hx hb dX10_nextPass_1 rfl hl (by decide) rfl (fun ls532 hl533 => ?_)
  refine lv_iconst (v := 0) hx hb dX10_nextPass_2 (by decide) ?_
  refine lv_istore_n (lv' := [(3, .int 0), (2, .int (-1)), (0, .ref a0), (1, .int x1)]) hx hb dX10_nextPass_3 rfl hl533 (by decide) rfl (fun ls534 hl535 => ?_)
  refine lv_iconst (v := 0) hx hb dX10_nextPass_4 (by decide) ?_
  refine lv_istore (lv' := [(4, .int 0), (3, .int 0), (2, .int (-1)), (0, .ref a0), (1, .int x1)]) hx hb dX10_nextPass_5 hl535 (by decide) rfl (fun ls536 hl537 => ?_)
  exact J7 ((5 - (0 : Int32).toInt).toNat + 1)  ls536 s.heap [] ((-1)) (0) (0) (lv_sub hl537 [3, 4, 2, 1, 0] rfl) hT hS (by decide) (by decide) (by decide) eslq ekq egnq egkp esz hg_CG (by omega) ro0_kq ro0_gnq hy0

set_option maxHeartbeats 4000000 in
set_option maxRecDepth 100000 in
theorem a_X10_fits_k (l : Launch) (K : KE) (G : Nat → Option Nat) (H : Heap) {a0 : Nat} (x1 : Int32) (x2 : Int32) (x3 : Int32) (x4 : Int32) {slq : Nat} {kq : Nat} {gnq : Nat} {gkp : Nat} (hT : TY K G H) (ga0 : G a0 = some 112) (gslq : G slq = some 113) (eslq : @Eq Ad slq (fR H a0 (K.1.2 10 4))) (gkq : G kq = some 114) (ekq : @Eq Ad kq (fR H a0 (K.1.2 10 5))) (ggnq : G gnq = some 115) (egnq : @Eq Ad gnq (fR H a0 (K.1.2 10 6))) (ggkp : G gkp = some 151) (egkp : @Eq Ad gkp (fR H a0 (K.1.2 10 55))) (hg_CG : CG (avw K H a0)) (hg_TU : TU (avw K H a0) (svw K H a0)) (hg_WD : WD (avw K H a0)) (hg_IM : IM (avw K H a0)) : MX l K yX10_fits cX10_fits 5 (some .int) 8 197 0 0 [.ref a0, .int x1, .int x2, .int x3, .int x4] H (AE G [112, 151, 141, 115, 152, 114, 153, 140, 139] H.size) (fun v H1 => ∃ (r : Int32), v = some (.int r) ∧ @Eq Ad slq (fR H1 a0 (K.1.2 10 4)) ∧ @Eq Ad kq (fR H1 a0 (K.1.2 10 5)) ∧ @Eq Ad gnq (fR H1 a0 (K.1.2 10 6)) ∧ @Eq Ad gkp (fR H1 a0 (K.1.2 10 55)) ∧ (CG (avw K H1 a0)) ∧ (TU (avw K H1 a0) (svw K H1 a0)) ∧ (WD (avw K H1 a0)) ∧ (IM (avw K H1 a0)) ∧ MF K H H1 a0 [0, 56] ∧ (∀ j : Nat, fI H1 kq j = fI H kq j) ∧ (∀ j : Nat, fI H1 gnq j = fI H gnq j) ∧ TY K G H1) := by
  refine MX.of (by decide +kernel) (Nat.le_of_ble_eq_true rfl) ?_
  intro p e s m below meth c ls Q C hH hl hQ
  subst hH
  have C : CX p K s m _ meth c RX10 cX10_fits 5 (some .int) "fits" := C
  obtain ⟨hx, hb, hml, hown, hts, hKT, hr, hlocks, hnm⟩ := id C
  have hl : lv_has ls 5 [(0, .ref a0), (1, .int x1), (2, .int x2), (3, .int x3), (4, .int x4)] := hl
  have hS : va_S (AE G [112, 151, 141, 115, 152, 114, 153, 140, 139] s.heap.size) s.heap s.heap [] := va_S.rf
  have n_m1 : ((-1) : Int32).toInt = -1 := rfl
  have n_0 : (0 : Int32).toInt = 0 := rfl
  have n_1 : (1 : Int32).toInt = 1 := rfl
  have n_4 : (4 : Int32).toInt = 4 := rfl
  have n_5 : (5 : Int32).toInt = 5 := rfl
  have n_9 : (9 : Int32).toInt = 9 := rfl
  have n_10 : (10 : Int32).toInt = 10 := rfl
  have n_99999 : (99999 : Int32).toInt = 99999 := rfl
  have hap : ∀ x y, x < 74 → y < 74 → x ≠ y → K.1.2 10 x ≠ K.1.2 10 y := x_apart hKT hts inX10 tyX10 tyX10_ok nmX10 rfl
  have mf0 : MF K s.heap s.heap a0 [0, 56] := fun _ _ _ => rfl
  have ro0_kq : ∀ j : Nat, fI s.heap kq j = fI s.heap kq j := fun _ => rfl
  have ro0_gnq : ∀ j : Nat, fI s.heap gnq j = fI s.heap gnq j := fun _ => rfl
  have f0_sls : ∀ j : Nat, fI s.heap slq j = fI s.heap slq j := fun _ => rfl
  have J78 : ∀  (ls766 : Array Slot) (H765 : Heap) (locsH765 : List Loc) , lv_has ls766 5 [(0, .ref a0), (1, .int x1), (2, .int x2), (3, .int x3), (4, .int x4)] → TY K G H765 → va_S (AE G [112, 151, 141, 115, 152, 114, 153, 140, 139] s.heap.size) s.heap H765 locsH765 → (0 ≤ x1.toInt ∧ x1.toInt ≤ 9) → (@Eq Ad slq (fR H765 a0 (K.1.2 10 4))) → (@Eq Ad kq (fR H765 a0 (K.1.2 10 5))) → (@Eq Ad gnq (fR H765 a0 (K.1.2 10 6))) → (@Eq Ad gkp (fR H765 a0 (K.1.2 10 55))) → (MF K s.heap H765 a0 [0, 56]) → (CG (avw K H765 a0)) → (TU (avw K H765 a0) (svw K H765 a0)) → (WD (avw K H765 a0)) → (IM (avw K H765 a0)) → (∀ j : Nat, fI H765 slq j = fI s.heap slq j) → ((1 ≤ (fI s.heap slq x1.toNatClampNeg).toInt ∧ (fI s.heap slq x1.toNatClampNeg).toInt ≤ 5 ∧ (x4.toInt = 0 ∨ x4.toInt = 1 ∨ (10 ≤ x4.toInt ∧ x4.toInt ≤ 9 + (fI s.heap slq x1.toNatClampNeg).toInt)))) → (∀ j : Nat, fI H765 kq j = fI s.heap kq j) → (∀ j : Nat, fI H765 gnq j = fI s.heap gnq j) → W p l e ({ frames := 8, cells := 0, slots := 0, locals := 197 } : Room) s m (([.ref a0, .int x1, .int x2, .int x3, .int x4] : List Value).toArray) below meth c H765 locsH765 0 0 Q (F0 m 78 ls766 []) := by
    intro  ls766 H765 locsH765  hl767 hTH765 hSH765 b768 cy769_0 cy769_1 cy769_2 cy769_3 mfy769 gy769_CG gy769_TU gy769_WD gy769_IM fy769_sls iv78 hro78_kq hro78_gnq
    refine lv_aload_n hx hb dX10_fits_78 rfl (lv_at hl767 0 rfl) ?_
    refine lv_iload_n hx hb dX10_fits_79 rfl (lv_at hl767 1 rfl) ?_
    refine lv_iload_n hx hb dX10_fits_80 rfl (lv_at hl767 2 rfl) ?_
    refine lv_iload_n hx hb dX10_fits_81 rfl (lv_at hl767 3 rfl) ?_
    obtain ⟨q770, eq770⟩ : ∃ z : Nat, @Eq Ad z (fR H765 a0 (K.1.2 10 45)) := ⟨_, rfl⟩
    have gq770 := ty_fr (q := q770) (k := 45) (u := 141) eq770 hTH765 ga0 rg_112 rfl
    obtain ⟨x771, ex771⟩ : ∃ z : Int32, z = fI H765 a0 (K.1.2 10 56) := ⟨_, rfl⟩
    have bx771 := ty_fi (x := x771) (k := 56) ex771 hTH765 ga0 rg_112 rfl
    obtain ⟨x772, ex772⟩ : ∃ z : Int32, z = fI H765 slq (x1 : Int32).toNatClampNeg := ⟨_, rfl⟩
    have bx772 := ty_ai (x := x772) ex772 hTH765 gslq rg_113 (by omega)
    have q0x772 := congrArg Int32.toInt (ex772.trans (fy769_sls _))
    refine x_V (As := [.int x1, .int x2, .int x3]) (rest := []) C (a_X10_findsFits_k l K G H765 (x1) (x2) (x3) (x771) (x772) hTH765 ga0 (by omega) (by omega) gslq cy769_0 gq770 eq770 ggnq cy769_2 ggkp cy769_3 ex771 ex772 gy769_CG gy769_TU gy769_WD gy769_IM (by omega) (by omega)) yo_X10_findsFits wM_X10_387 ⟨⟨by decide, by decide⟩, by decide, by decide⟩ (x_rv C hTH765 (ci := 10) rfl ga0 rg_112) rfl hl767.1 rfl (Nat.le_of_ble_eq_true rfl) dX10_fits_82 hSH765 (AE_sub (fun _ _ => rfl) (by decide) hSH765.1) (fun vH773 H773 locsH773 pH773 zH773 kH773 hSH773 => ?_)
    obtain ⟨x774, hvH773, ex774, m775, m776, m777, m778, g779, g780, g781, g782, mf783, m784, m785, hTH773⟩ := pH773
    subst hvH773
    have f786 : ∀ j : Nat, fI H773 slq j = fI s.heap slq j := fun j => (fI_kept (x_lt hTH765 kH773 gslq (by decide))).trans (fy769_sls j)
    have m787 := (ex772).trans (fI_kept (x_lt hTH765 kH773 gslq (by decide))).symm
    have ro788 : ∀ j : Nat, fI H773 kq j = fI s.heap kq j := fun j => (fI_kept (x_lt hTH765 kH773 gkq (by decide))).trans (hro78_kq j)
    have m789 := (cy769_0).trans (MF.r mf783 (k := 4) (by decide) (by decide)).symm
    have m790 := (cy769_1).trans (MF.r mf783 (k := 5) (by decide) (by decide)).symm
    have m791 := (cy769_2).trans (MF.r mf783 (k := 6) (by decide) (by decide)).symm
    have m792 := (cy769_3).trans (MF.r mf783 (k := 55) (by decide) (by decide)).symm
    have m793 := (eq770).trans (MF.r mf783 (k := 45) (by decide) (by decide)).symm
    have mf794 : MF K s.heap H773 a0 [0, 56] := MF.trans mfy769 mf783 (by decide)
    have bx774 := ty_fi (x := x774) (k := 56) ex774 hTH773 ga0 rg_112 rfl
    have ro795 : ∀ j : Nat, fI H773 gnq j = fI s.heap gnq j := fun j => (m784 j).trans (hro78_gnq j)
    refine W.eq (g2 := F0 m 85 ls766 []) rfl ?_
    refine lv_iload hx hb dX10_fits_85 (lv_at hl767 4 rfl) ?_
    refine lv_if_ne (tgt := 95) hx hb dX10_fits_87 (by decide) (fun c796 => ?_) (fun c796 => ?_)
    · have k797 := i_ne c796
      refine lv_iload hx hb dX10_fits_95 (lv_at hl767 4 rfl) ?_
      refine lv_iconst (v := 1) hx hb dX10_fits_97 (by decide) ?_
      refine lv_icmp_ne (tgt := 109) hx hb dX10_fits_98 (by decide) (fun c798 => ?_) (fun c798 => ?_)
      · have k799 := i_ne c798
        refine lv_aload_n hx hb dX10_fits_109 rfl (lv_at hl767 0 rfl) ?_
        refine lv_iload hx hb dX10_fits_110 (lv_at hl767 4 rfl) ?_
        refine lv_bipush (v := 10) hx hb dX10_fits_112 (by decide) ?_
        refine lv_isub hx hb dX10_fits_114 ?_
        refine lv_topi (fun x800 ex800 => ?_)
        refine x_V (As := [.int x800]) (rest := []) C (a_X10_sureOf l K G H773 (x800) hTH773 ga0 (by omega)) yo_X10_sureOf wM_X10_393 ⟨⟨by decide, by decide⟩, by decide, by decide⟩ (x_rv C hTH773 (ci := 10) rfl ga0 rg_112) rfl hl767.1 rfl (Nat.le_of_ble_eq_true rfl) dX10_fits_115 hSH773 (AE_sub (fun _ _ => rfl) (by decide) hSH773.1) (fun vH801 H801 locsH801 pH801 zH801 kH801 hSH801 => ?_)
        obtain ⟨x802, hvH801, hTH801⟩ := pH801
        subst hvH801
        have mf803 : MF K s.heap H801 a0 [0, 56] := MF.eff (x_lt hTH773 kH801 ga0 (by decide)) mf794
        have g804 : CG (avw K H801 a0) := CG.congr (fun k hk j => av_eff hTH773 kH801 ga0 (by decide) (CG_eff [] (by decide) k hk)) g779
        have g805 : TU (avw K H801 a0) (svw K H801 a0) := TU.congr (fun k hk j => av_eff hTH773 kH801 ga0 (by decide) (TU_eff [] (by decide) k hk)) (fun k hk => sv_eff hTH773 kH801 ga0 (by decide)) g780
        have g806 : WD (avw K H801 a0) := WD.congr (fun k hk j => av_eff hTH773 kH801 ga0 (by decide) (WD_eff [] (by decide) k hk)) g781
        have g807 : IM (avw K H801 a0) := IM.congr (fun k hk j => av_eff hTH773 kH801 ga0 (by decide) (IM_eff [] (by decide) k hk)) g782
        have f808 : ∀ j : Nat, fI H801 slq j = fI s.heap slq j := fun j => (fI_kept (x_lt hTH773 kH801 gslq (by decide))).trans (f786 j)
        have m809 := (m787).trans (fI_kept (x_lt hTH773 kH801 gslq (by decide))).symm
        have m810 := (m775).trans (fR_kept (x_lt hTH773 kH801 ga0 (by decide))).symm
        have m811 := (m790).trans (fR_kept (x_lt hTH773 kH801 ga0 (by decide))).symm
        have m812 := (m777).trans (fR_kept (x_lt hTH773 kH801 ga0 (by decide))).symm
        have m813 := (m778).trans (fR_kept (x_lt hTH773 kH801 ga0 (by decide))).symm
        have m814 := (m776).trans (fR_kept (x_lt hTH773 kH801 ga0 (by decide))).symm
        have m815 := (ex774).trans (fI_kept (x_lt hTH773 kH801 ga0 (by decide))).symm
        have ro816 : ∀ j : Nat, fI H801 kq j = fI s.heap kq j := fun j => (fI_kept (x_lt hTH773 kH801 gkq (by decide))).trans (ro788 j)
        have ro817 : ∀ j : Nat, fI H801 gnq j = fI s.heap gnq j := fun j => (fI_kept (x_lt hTH773 kH801 ggnq (by decide))).trans (ro795 j)
        refine W.eq (g2 := F0 m 118 ls766 [.int x802]) rfl ?_
        exact x_iret C hQ dX10_fits_118 hSH801 (by decide) (by decide) (⟨x802, rfl, m810, m811, m812, m813, g804, g805, g806, g807, mf803, ro816, ro817, hTH801⟩)
      · have k799 := i_eq c798
        refine lv_aload_n hx hb dX10_fits_101 rfl (lv_at hl767 0 rfl) ?_
        refine lv_iload_n hx hb dX10_fits_102 rfl (lv_at hl767 1 rfl) ?_
        refine x_V (As := [.int x1]) (rest := []) C (a_X10_nextPass_k l K G H773 (x1) (x772) hTH773 ga0 (by omega) gslq m775 gkq m790 ggnq m777 ggkp m778 m787 g779 (by omega) (m785)) yo_X10_nextPass wM_X10_390 ⟨⟨by decide, by decide⟩, by decide, by decide⟩ (x_rv C hTH773 (ci := 10) rfl ga0 rg_112) rfl hl767.1 rfl (Nat.le_of_ble_eq_true rfl) dX10_fits_103 hSH773 (AE_sub (fun _ _ => rfl) (by decide) hSH773.1) (fun vH818 H818 locsH818 pH818 zH818 kH818 hSH818 => ?_)
        obtain ⟨x819, hvH818, m820, m821, hTH818⟩ := pH818
        subst hvH818
        have mf822 : MF K s.heap H818 a0 [0, 56] := MF.eff (x_lt hTH773 kH818 ga0 (by decide)) mf794
        have g823 : CG (avw K H818 a0) := CG.congr (fun k hk j => av_eff hTH773 kH818 ga0 (by decide) (CG_eff [114, 115, 153, 140, 139] (by decide) k hk)) g779
        have g824 : TU (avw K H818 a0) (svw K H818 a0) := TU.congr (fun k hk j => av_eff hTH773 kH818 ga0 (by decide) (TU_eff [114, 115, 153, 140, 139] (by decide) k hk)) (fun k hk => sv_eff hTH773 kH818 ga0 (by decide)) g780
        have g825 : WD (avw K H818 a0) := WD.congr (fun k hk j => av_eff hTH773 kH818 ga0 (by decide) (WD_eff [114, 115, 153, 140, 139] (by decide) k hk)) g781
        have g826 : IM (avw K H818 a0) := IM.congr (fun k hk j => av_eff hTH773 kH818 ga0 (by decide) (IM_eff [114, 115, 153, 140, 139] (by decide) k hk)) g782
        have f827 : ∀ j : Nat, fI H818 slq j = fI s.heap slq j := fun j => (fI_kept (x_lt hTH773 kH818 gslq (by decide))).trans (f786 j)
        have m828 := (m787).trans (fI_kept (x_lt hTH773 kH818 gslq (by decide))).symm
        have m829 := (m775).trans (fR_kept (x_lt hTH773 kH818 ga0 (by decide))).symm
        have m830 := (m790).trans (fR_kept (x_lt hTH773 kH818 ga0 (by decide))).symm
        have m831 := (m777).trans (fR_kept (x_lt hTH773 kH818 ga0 (by decide))).symm
        have m832 := (m778).trans (fR_kept (x_lt hTH773 kH818 ga0 (by decide))).symm
        have m833 := (m776).trans (fR_kept (x_lt hTH773 kH818 ga0 (by decide))).symm
        have m834 := (ex774).trans (fI_kept (x_lt hTH773 kH818 ga0 (by decide))).symm
        have ro835 : ∀ j : Nat, fI H818 kq j = fI s.heap kq j := fun j => (m820 j).trans (ro788 j)
        have ro836 : ∀ j : Nat, fI H818 gnq j = fI s.heap gnq j := fun j => (m821 j).trans (ro795 j)
        refine W.eq (g2 := F0 m 106 ls766 [.int x819]) rfl ?_
        refine lv_goto (tgt := 118) hx hb dX10_fits_106 (by decide) ?_
        exact x_iret C hQ dX10_fits_118 hSH818 (by decide) (by decide) (⟨x819, rfl, m829, m830, m831, m832, g823, g824, g825, g826, mf822, ro835, ro836, hTH818⟩)
    · have k797 := i_eq c796
      refine lv_aload_n hx hb dX10_fits_90 rfl (lv_at hl767 0 rfl) ?_
      refine x_gi C hTH773 (ci := 10) (k := 56) rfl inX10 (by decide) wF_X10_378 ga0 rg_112 rfl dX10_fits_91 (fun x837 ex837 bx837 => ?_)
      have ux837 : x774 = x837 := (ex774).trans ex837.symm
      subst ux837
      exact x_iret C hQ dX10_fits_94 hSH773 (by decide) (by decide) (⟨x774, rfl, m775, m790, m777, m778, g779, g780, g781, g782, mf794, ro788, ro795, hTH773⟩)
  refine lv_aload_n hx hb dX10_fits_0 rfl (lv_at hl 0 rfl) ?_
  refine lv_iconst (v := 0) hx hb dX10_fits_1 (by decide) ?_
  refine x_put C hT hS (ci := 10) (k := 0) (v := .int 0) (ty0 := tyX10) rfl inX10 tyX10_ok nmX10 (by decide) rfl wF_X10_167 ga0 rg_112 rfl rfl (okI (i_rng (0 : Int32)).1 (i_rng (0 : Int32)).2) rfl rfl (AE_in ga0 (by decide)) dX10_fits_2 (fun H838 locsH838 hTH838 hSH838 wH838 => ?_)
  have mf839 : MF K s.heap H838 a0 [0, 56] := MF.fld hap wH838 (by decide) (by decide) mf0
  have g840 : CG (avw K H838 a0) := CG.congr (fun k hk j => av_fld hT ga0 hap wH838 (by decide) (CG_ok 112 (by decide) k hk) (CG_ne 0 (by decide) k hk)) hg_CG
  have g841 : TU (avw K H838 a0) (svw K H838 a0) := TU.congr (fun k hk j => av_fld hT ga0 hap wH838 (by decide) (TU_ok 112 (by decide) k hk) (TU_ne 0 (by decide) k hk)) (fun k hk => sv_fld hap wH838 (by decide) (TU_slt k hk) (TU_sne 0 (by decide) k hk)) hg_TU
  have g842 : WD (avw K H838 a0) := WD.congr (fun k hk j => av_fld hT ga0 hap wH838 (by decide) (WD_ok 112 (by decide) k hk) (WD_ne 0 (by decide) k hk)) hg_WD
  have g843 : IM (avw K H838 a0) := IM.congr (fun k hk j => av_fld hT ga0 hap wH838 (by decide) (IM_ok 112 (by decide) k hk) (IM_ne 0 (by decide) k hk)) hg_IM
  have f844 : ∀ j : Nat, fI H838 slq j = fI s.heap slq j := fun j => (Wr.neI wH838 (Or.inl (G_ne gslq ga0 (by decide)))).trans (f0_sls j)
  have m845 := eslq.trans (Wr.neR wH838 (Or.inr (x_apart hKT hts inX10 tyX10 tyX10_ok nmX10 rfl 4 0 (by decide) (by decide) (by decide)))).symm
  have m846 := ekq.trans (Wr.neR wH838 (Or.inr (x_apart hKT hts inX10 tyX10 tyX10_ok nmX10 rfl 5 0 (by decide) (by decide) (by decide)))).symm
  have m847 := egnq.trans (Wr.neR wH838 (Or.inr (x_apart hKT hts inX10 tyX10 tyX10_ok nmX10 rfl 6 0 (by decide) (by decide) (by decide)))).symm
  have m848 := egkp.trans (Wr.neR wH838 (Or.inr (x_apart hKT hts inX10 tyX10 tyX10_ok nmX10 rfl 55 0 (by decide) (by decide) (by decide)))).symm
  have m849 := Wr.I wH838
  have ro850 : ∀ j : Nat, fI H838 kq j = fI s.heap kq j := fun j => (Wr.neI wH838 (Or.inl (G_ne gkq ga0 (by decide)))).trans (ro0_kq j)
  have ro851 : ∀ j : Nat, fI H838 gnq j = fI s.heap gnq j := fun j => (Wr.neI wH838 (Or.inl (G_ne ggnq ga0 (by decide)))).trans (ro0_gnq j)
  refine lv_aload_n hx hb dX10_fits_5 rfl (lv_at hl 0 rfl) ?_
  refine lv_iload_n hx hb dX10_fits_6 rfl (lv_at hl 1 rfl) ?_
  obtain ⟨x852, ex852⟩ : ∃ z : Int32, z = fI H838 a0 (K.1.2 10 1) := ⟨_, rfl⟩
  have bx852 := ty_fi (x := x852) (k := 1) ex852 hTH838 ga0 rg_112 rfl
  refine x_V (As := [.int x1]) (rest := []) C (a_X10_isBar l K G H838 (x1) (x852) hTH838 ga0 ex852) yo_X10_isBar wM_X10_173 ⟨⟨by decide, by decide⟩, by decide, by decide⟩ (x_rv C hTH838 (ci := 10) rfl ga0 rg_112) rfl hl.1 rfl (Nat.le_of_ble_eq_true rfl) dX10_fits_7 hSH838 (AE_sub (fun _ _ => rfl) (by decide) hSH838.1) (fun vH853 H853 locsH853 pH853 zH853 kH853 hSH853 => ?_)
  obtain ⟨x854, hvH853, bx854, hrH853, hTH853⟩ := pH853
  subst hvH853
  have mf855 : MF K s.heap H853 a0 [0, 56] := MF.eff (x_lt hTH838 kH853 ga0 (by decide)) mf839
  have g856 : CG (avw K H853 a0) := CG.congr (fun k hk j => av_eff hTH838 kH853 ga0 (by decide) (CG_eff [] (by decide) k hk)) g840
  have g857 : TU (avw K H853 a0) (svw K H853 a0) := TU.congr (fun k hk j => av_eff hTH838 kH853 ga0 (by decide) (TU_eff [] (by decide) k hk)) (fun k hk => sv_eff hTH838 kH853 ga0 (by decide)) g841
  have g858 : WD (avw K H853 a0) := WD.congr (fun k hk j => av_eff hTH838 kH853 ga0 (by decide) (WD_eff [] (by decide) k hk)) g842
  have g859 : IM (avw K H853 a0) := IM.congr (fun k hk j => av_eff hTH838 kH853 ga0 (by decide) (IM_eff [] (by decide) k hk)) g843
  have f860 : ∀ j : Nat, fI H853 slq j = fI s.heap slq j := fun j => (fI_kept (x_lt hTH838 kH853 gslq (by decide))).trans (f844 j)
  have m861 := (m845).trans (fR_kept (x_lt hTH838 kH853 ga0 (by decide))).symm
  have m862 := (m846).trans (fR_kept (x_lt hTH838 kH853 ga0 (by decide))).symm
  have m863 := (m847).trans (fR_kept (x_lt hTH838 kH853 ga0 (by decide))).symm
  have m864 := (m848).trans (fR_kept (x_lt hTH838 kH853 ga0 (by decide))).symm
  have m865 := (fI_kept (x_lt hTH838 kH853 ga0 (by decide))).trans m849
  have m866 := (ex852).trans (fI_kept (x_lt hTH838 kH853 ga0 (by decide))).symm
  have ro867 : ∀ j : Nat, fI H853 kq j = fI s.heap kq j := fun j => (fI_kept (x_lt hTH838 kH853 gkq (by decide))).trans (ro850 j)
  have ro868 : ∀ j : Nat, fI H853 gnq j = fI s.heap gnq j := fun j => (fI_kept (x_lt hTH838 kH853 ggnq (by decide))).trans (ro851 j)
  refine W.eq (g2 := F0 m 10 ls [.int x854]) rfl ?_
  refine lv_if_eq (tgt := 76) hx hb dX10_fits_10 (by decide) (fun c869 => ?_) (fun c869 => ?_)
  · have k870 := i_eq c869
    refine lv_iconst (v := (-1)) hx hb dX10_fits_76 (by decide) ?_
    exact x_iret C hQ dX10_fits_77 hSH853 (by decide) (by decide) (⟨(-1), rfl, m861, m862, m863, m864, g856, g857, g858, g859, mf855, ro867, ro868, hTH853⟩)
  · have k870 := i_ne c869
    refine lv_aload_n hx hb dX10_fits_13 rfl (lv_at hl 0 rfl) ?_
    refine x_gr C hTH853 (ci := 10) (k := 4) rfl inX10 (by decide) wF_X10_13 ga0 rg_112 rfl dX10_fits_14 (fun q871 eq871 gq871 => ?_)
    have uq871 : slq = q871 := (m861).trans eq871.symm
    subst uq871
    refine lv_iload_n hx hb dX10_fits_17 rfl (lv_at hl 1 rfl) ?_
    refine x_ai C hTH853 gslq rg_113 ⟨by omega, by show _ < ((10 : Nat) : Int); omega⟩ dX10_fits_18 (fun x872 ex872 bx872 => ?_)
    have q0x872 := congrArg Int32.toInt (ex872.trans (f860 _))
    refine lv_iconst (v := 5) hx hb dX10_fits_19 (by decide) ?_
    refine lv_icmp_gt (tgt := 76) hx hb dX10_fits_20 (by decide) (fun c873 => ?_) (fun c873 => ?_)
    · have k874 := i_lt c873
      refine lv_iconst (v := (-1)) hx hb dX10_fits_76 (by decide) ?_
      exact x_iret C hQ dX10_fits_77 hSH853 (by decide) (by decide) (⟨(-1), rfl, m861, m862, m863, m864, g856, g857, g858, g859, mf855, ro867, ro868, hTH853⟩)
    · have k874 := i_nlt c873
      refine lv_aload_n hx hb dX10_fits_23 rfl (lv_at hl 0 rfl) ?_
      refine lv_iload_n hx hb dX10_fits_24 rfl (lv_at hl 2 rfl) ?_
      refine lv_iconst (v := 1) hx hb dX10_fits_25 (by decide) ?_
      refine lv_iconst (v := 4) hx hb dX10_fits_26 (by decide) ?_
      refine x_V (As := [.int x2, .int 1, .int 4]) (rest := []) C (a_X10_isIn_v l K G H853 (x2) (1) (4) hTH853 ga0) yo_X10_isIn wM_X10_177 ⟨⟨by decide, by decide⟩, by decide, by decide⟩ (x_rv C hTH853 (ci := 10) rfl ga0 rg_112) rfl hl.1 rfl (Nat.le_of_ble_eq_true rfl) dX10_fits_27 hSH853 (AE_sub (fun _ _ => rfl) (by decide) hSH853.1) (fun vH875 H875 locsH875 pH875 zH875 kH875 hSH875 => ?_)
      obtain ⟨x876, hvH875, bx876, hrH875, hTH875⟩ := pH875
      subst hvH875
      clear f844 m845 m846 m847 m848 m849
      have mf877 : MF K s.heap H875 a0 [0, 56] := MF.eff (x_lt hTH853 kH875 ga0 (by decide)) mf855
      have g878 : CG (avw K H875 a0) := CG.congr (fun k hk j => av_eff hTH853 kH875 ga0 (by decide) (CG_eff [] (by decide) k hk)) g856
      have g879 : TU (avw K H875 a0) (svw K H875 a0) := TU.congr (fun k hk j => av_eff hTH853 kH875 ga0 (by decide) (TU_eff [] (by decide) k hk)) (fun k hk => sv_eff hTH853 kH875 ga0 (by decide)) g857
      have g880 : WD (avw K H875 a0) := WD.congr (fun k hk j => av_eff hTH853 kH875 ga0 (by decide) (WD_eff [] (by decide) k hk)) g858
      have g881 : IM (avw K H875 a0) := IM.congr (fun k hk j => av_eff hTH853 kH875 ga0 (by decide) (IM_eff [] (by decide) k hk)) g859
      have f882 : ∀ j : Nat, fI H875 slq j = fI s.heap slq j := fun j => (fI_kept (x_lt hTH853 kH875 gslq (by decide))).trans (f860 j)
      have m883 := (m861).trans (fR_kept (x_lt hTH853 kH875 ga0 (by decide))).symm
      have m884 := (m862).trans (fR_kept (x_lt hTH853 kH875 ga0 (by decide))).symm
      have m885 := (m863).trans (fR_kept (x_lt hTH853 kH875 ga0 (by decide))).symm
      have m886 := (m864).trans (fR_kept (x_lt hTH853 kH875 ga0 (by decide))).symm
      have m887 := (fI_kept (x_lt hTH853 kH875 ga0 (by decide))).trans m865
      have m888 := (m866).trans (fI_kept (x_lt hTH853 kH875 ga0 (by decide))).symm
      have m889 := (ex872).trans (fI_kept (x_lt hTH853 kH875 gslq (by decide))).symm
      have ro890 : ∀ j : Nat, fI H875 kq j = fI s.heap kq j := fun j => (fI_kept (x_lt hTH853 kH875 gkq (by decide))).trans (ro867 j)
      have ro891 : ∀ j : Nat, fI H875 gnq j = fI s.heap gnq j := fun j => (fI_kept (x_lt hTH853 kH875 ggnq (by decide))).trans (ro868 j)
      refine W.eq (g2 := F0 m 30 ls [.int x876]) rfl ?_
      refine lv_if_eq (tgt := 76) hx hb dX10_fits_30 (by decide) (fun c892 => ?_) (fun c892 => ?_)
      · have k893 := i_eq c892
        refine lv_iconst (v := (-1)) hx hb dX10_fits_76 (by decide) ?_
        exact x_iret C hQ dX10_fits_77 hSH875 (by decide) (by decide) (⟨(-1), rfl, m883, m884, m885, m886, g878, g879, g880, g881, mf877, ro890, ro891, hTH875⟩)
      · have k893 := i_ne c892
        refine lv_aload_n hx hb dX10_fits_33 rfl (lv_at hl 0 rfl) ?_
        refine lv_iload_n hx hb dX10_fits_34 rfl (lv_at hl 3 rfl) ?_
        refine lv_iconst (v := 0) hx hb dX10_fits_35 (by decide) ?_
        refine lv_ldcw (v := 99999) hx hb hown (hts _ wK_X10_308) dX10_fits_36 ?_
        refine x_V (As := [.int x3, .int 0, .int 99999]) (rest := []) C (a_X10_isIn_v l K G H875 (x3) (0) (99999) hTH875 ga0) yo_X10_isIn wM_X10_177 ⟨⟨by decide, by decide⟩, by decide, by decide⟩ (x_rv C hTH875 (ci := 10) rfl ga0 rg_112) rfl hl.1 rfl (Nat.le_of_ble_eq_true rfl) dX10_fits_39 hSH875 (AE_sub (fun _ _ => rfl) (by decide) hSH875.1) (fun vH894 H894 locsH894 pH894 zH894 kH894 hSH894 => ?_)
        obtain ⟨x895, hvH894, bx895, hrH894, hTH894⟩ := pH894
        subst hvH894
        clear f860 m861 m862 m863 m864 m865 m866
        have mf896 : MF K s.heap H894 a0 [0, 56] := MF.eff (x_lt hTH875 kH894 ga0 (by decide)) mf877
        have g897 : CG (avw K H894 a0) := CG.congr (fun k hk j => av_eff hTH875 kH894 ga0 (by decide) (CG_eff [] (by decide) k hk)) g878
        have g898 : TU (avw K H894 a0) (svw K H894 a0) := TU.congr (fun k hk j => av_eff hTH875 kH894 ga0 (by decide) (TU_eff [] (by decide) k hk)) (fun k hk => sv_eff hTH875 kH894 ga0 (by decide)) g879
        have g899 : WD (avw K H894 a0) := WD.congr (fun k hk j => av_eff hTH875 kH894 ga0 (by decide) (WD_eff [] (by decide) k hk)) g880
        have g900 : IM (avw K H894 a0) := IM.congr (fun k hk j => av_eff hTH875 kH894 ga0 (by decide) (IM_eff [] (by decide) k hk)) g881
        have f901 : ∀ j : Nat, fI H894 slq j = fI s.heap slq j := fun j => (fI_kept (x_lt hTH875 kH894 gslq (by decide))).trans (f882 j)
        have m902 := (m883).trans (fR_kept (x_lt hTH875 kH894 ga0 (by decide))).symm
        have m903 := (m884).trans (fR_kept (x_lt hTH875 kH894 ga0 (by decide))).symm
        have m904 := (m885).trans (fR_kept (x_lt hTH875 kH894 ga0 (by decide))).symm
        have m905 := (m886).trans (fR_kept (x_lt hTH875 kH894 ga0 (by decide))).symm
        have m906 := (fI_kept (x_lt hTH875 kH894 ga0 (by decide))).trans m887
        have m907 := (m888).trans (fI_kept (x_lt hTH875 kH894 ga0 (by decide))).symm
        have m908 := (m889).trans (fI_kept (x_lt hTH875 kH894 gslq (by decide))).symm
        have ro909 : ∀ j : Nat, fI H894 kq j = fI s.heap kq j := fun j => (fI_kept (x_lt hTH875 kH894 gkq (by decide))).trans (ro890 j)
        have ro910 : ∀ j : Nat, fI H894 gnq j = fI s.heap gnq j := fun j => (fI_kept (x_lt hTH875 kH894 ggnq (by decide))).trans (ro891 j)
        refine W.eq (g2 := F0 m 42 ls [.int x895]) rfl ?_
        refine lv_if_eq (tgt := 76) hx hb dX10_fits_42 (by decide) (fun c911 => ?_) (fun c911 => ?_)
        · have k912 := i_eq c911
          refine lv_iconst (v := (-1)) hx hb dX10_fits_76 (by decide) ?_
          exact x_iret C hQ dX10_fits_77 hSH894 (by decide) (by decide) (⟨(-1), rfl, m902, m903, m904, m905, g897, g898, g899, g900, mf896, ro909, ro910, hTH894⟩)
        · have k912 := i_ne c911
          refine lv_aload_n hx hb dX10_fits_45 rfl (lv_at hl 0 rfl) ?_
          refine lv_iload hx hb dX10_fits_46 (lv_at hl 4 rfl) ?_
          refine lv_iconst (v := 0) hx hb dX10_fits_48 (by decide) ?_
          refine lv_iconst (v := 1) hx hb dX10_fits_49 (by decide) ?_
          refine x_V (As := [.int x4, .int 0, .int 1]) (rest := []) C (a_X10_isIn_v l K G H894 (x4) (0) (1) hTH894 ga0) yo_X10_isIn wM_X10_177 ⟨⟨by decide, by decide⟩, by decide, by decide⟩ (x_rv C hTH894 (ci := 10) rfl ga0 rg_112) rfl hl.1 rfl (Nat.le_of_ble_eq_true rfl) dX10_fits_50 hSH894 (AE_sub (fun _ _ => rfl) (by decide) hSH894.1) (fun vH913 H913 locsH913 pH913 zH913 kH913 hSH913 => ?_)
          obtain ⟨x914, hvH913, bx914, hrH913, hTH913⟩ := pH913
          subst hvH913
          clear f882 m883 m884 m885 m886 m887 m888 m889
          have mf915 : MF K s.heap H913 a0 [0, 56] := MF.eff (x_lt hTH894 kH913 ga0 (by decide)) mf896
          have g916 : CG (avw K H913 a0) := CG.congr (fun k hk j => av_eff hTH894 kH913 ga0 (by decide) (CG_eff [] (by decide) k hk)) g897
          have g917 : TU (avw K H913 a0) (svw K H913 a0) := TU.congr (fun k hk j => av_eff hTH894 kH913 ga0 (by decide) (TU_eff [] (by decide) k hk)) (fun k hk => sv_eff hTH894 kH913 ga0 (by decide)) g898
          have g918 : WD (avw K H913 a0) := WD.congr (fun k hk j => av_eff hTH894 kH913 ga0 (by decide) (WD_eff [] (by decide) k hk)) g899
          have g919 : IM (avw K H913 a0) := IM.congr (fun k hk j => av_eff hTH894 kH913 ga0 (by decide) (IM_eff [] (by decide) k hk)) g900
          have f920 : ∀ j : Nat, fI H913 slq j = fI s.heap slq j := fun j => (fI_kept (x_lt hTH894 kH913 gslq (by decide))).trans (f901 j)
          have m921 := (m902).trans (fR_kept (x_lt hTH894 kH913 ga0 (by decide))).symm
          have m922 := (m903).trans (fR_kept (x_lt hTH894 kH913 ga0 (by decide))).symm
          have m923 := (m904).trans (fR_kept (x_lt hTH894 kH913 ga0 (by decide))).symm
          have m924 := (m905).trans (fR_kept (x_lt hTH894 kH913 ga0 (by decide))).symm
          have m925 := (fI_kept (x_lt hTH894 kH913 ga0 (by decide))).trans m906
          have m926 := (m907).trans (fI_kept (x_lt hTH894 kH913 ga0 (by decide))).symm
          have m927 := (m908).trans (fI_kept (x_lt hTH894 kH913 gslq (by decide))).symm
          have ro928 : ∀ j : Nat, fI H913 kq j = fI s.heap kq j := fun j => (fI_kept (x_lt hTH894 kH913 gkq (by decide))).trans (ro909 j)
          have ro929 : ∀ j : Nat, fI H913 gnq j = fI s.heap gnq j := fun j => (fI_kept (x_lt hTH894 kH913 ggnq (by decide))).trans (ro910 j)
          refine W.eq (g2 := F0 m 53 ls [.int x914]) rfl ?_
          refine lv_if_ne (tgt := 78) hx hb dX10_fits_53 (by decide) (fun c930 => ?_) (fun c930 => ?_)
          · have k931 := i_ne c930
            exact J78  ls H913 locsH913 (lv_sub hl [0, 1, 2, 3, 4] rfl) hTH913 hSH913 (by have := i_rng x1; omega) m921 m922 m923 m924 mf915 g916 g917 g918 g919 f920 (by omega) ro928 ro929
          · have k931 := i_eq c930
            refine lv_aload_n hx hb dX10_fits_56 rfl (lv_at hl 0 rfl) ?_
            refine lv_iload hx hb dX10_fits_57 (lv_at hl 4 rfl) ?_
            refine lv_bipush (v := 10) hx hb dX10_fits_59 (by decide) ?_
            refine lv_bipush (v := 9) hx hb dX10_fits_61 (by decide) ?_
            refine lv_aload_n hx hb dX10_fits_63 rfl (lv_at hl 0 rfl) ?_
            refine x_gr C hTH913 (ci := 10) (k := 4) rfl inX10 (by decide) wF_X10_13 ga0 rg_112 rfl dX10_fits_64 (fun q932 eq932 gq932 => ?_)
            have uq932 : slq = q932 := (m921).trans eq932.symm
            subst uq932
            refine lv_iload_n hx hb dX10_fits_67 rfl (lv_at hl 1 rfl) ?_
            refine x_ai C hTH913 gslq rg_113 ⟨by omega, by show _ < ((10 : Nat) : Int); omega⟩ dX10_fits_68 (fun x933 ex933 bx933 => ?_)
            have ux933 : x872 = x933 := (m927).trans ex933.symm
            subst ux933
            refine lv_iadd hx hb dX10_fits_69 ?_
            refine lv_topi (fun x934 ex934 => ?_)
            have tx934 := i_add ex934 (by omega)
            refine x_V (As := [.int x4, .int 10, .int x934]) (rest := []) C (a_X10_isIn_v l K G H913 (x4) (10) (x934) hTH913 ga0) yo_X10_isIn wM_X10_177 ⟨⟨by decide, by decide⟩, by decide, by decide⟩ (x_rv C hTH913 (ci := 10) rfl ga0 rg_112) rfl hl.1 rfl (Nat.le_of_ble_eq_true rfl) dX10_fits_70 hSH913 (AE_sub (fun _ _ => rfl) (by decide) hSH913.1) (fun vH935 H935 locsH935 pH935 zH935 kH935 hSH935 => ?_)
            obtain ⟨x936, hvH935, bx936, hrH935, hTH935⟩ := pH935
            subst hvH935
            clear f901 m902 m903 m904 m905 m906 m907 m908
            have mf937 : MF K s.heap H935 a0 [0, 56] := MF.eff (x_lt hTH913 kH935 ga0 (by decide)) mf915
            have g938 : CG (avw K H935 a0) := CG.congr (fun k hk j => av_eff hTH913 kH935 ga0 (by decide) (CG_eff [] (by decide) k hk)) g916
            have g939 : TU (avw K H935 a0) (svw K H935 a0) := TU.congr (fun k hk j => av_eff hTH913 kH935 ga0 (by decide) (TU_eff [] (by decide) k hk)) (fun k hk => sv_eff hTH913 kH935 ga0 (by decide)) g917
            have g940 : WD (avw K H935 a0) := WD.congr (fun k hk j => av_eff hTH913 kH935 ga0 (by decide) (WD_eff [] (by decide) k hk)) g918
            have g941 : IM (avw K H935 a0) := IM.congr (fun k hk j => av_eff hTH913 kH935 ga0 (by decide) (IM_eff [] (by decide) k hk)) g919
            have f942 : ∀ j : Nat, fI H935 slq j = fI s.heap slq j := fun j => (fI_kept (x_lt hTH913 kH935 gslq (by decide))).trans (f920 j)
            have m943 := (m921).trans (fR_kept (x_lt hTH913 kH935 ga0 (by decide))).symm
            have m944 := (m922).trans (fR_kept (x_lt hTH913 kH935 ga0 (by decide))).symm
            have m945 := (m923).trans (fR_kept (x_lt hTH913 kH935 ga0 (by decide))).symm
            have m946 := (m924).trans (fR_kept (x_lt hTH913 kH935 ga0 (by decide))).symm
            have m947 := (fI_kept (x_lt hTH913 kH935 ga0 (by decide))).trans m925
            have m948 := (m926).trans (fI_kept (x_lt hTH913 kH935 ga0 (by decide))).symm
            have m949 := (m927).trans (fI_kept (x_lt hTH913 kH935 gslq (by decide))).symm
            have ro950 : ∀ j : Nat, fI H935 kq j = fI s.heap kq j := fun j => (fI_kept (x_lt hTH913 kH935 gkq (by decide))).trans (ro928 j)
            have ro951 : ∀ j : Nat, fI H935 gnq j = fI s.heap gnq j := fun j => (fI_kept (x_lt hTH913 kH935 ggnq (by decide))).trans (ro929 j)
            refine W.eq (g2 := F0 m 73 ls [.int x936]) rfl ?_
            refine lv_if_ne (tgt := 78) hx hb dX10_fits_73 (by decide) (fun c952 => ?_) (fun c952 => ?_)
            · have k953 := i_ne c952
              exact J78  ls H935 locsH935 (lv_sub hl [0, 1, 2, 3, 4] rfl) hTH935 hSH935 (by have := i_rng x1; omega) m943 m944 m945 m946 mf937 g938 g939 g940 g941 f942 (by omega) ro950 ro951
            · have k953 := i_eq c952
              refine lv_iconst (v := (-1)) hx hb dX10_fits_76 (by decide) ?_
              exact x_iret C hQ dX10_fits_77 hSH935 (by decide) (by decide) (⟨(-1), rfl, m943, m944, m945, m946, g938, g939, g940, g941, mf937, ro950, ro951, hTH935⟩)
