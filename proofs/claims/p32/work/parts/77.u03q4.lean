set_option maxHeartbeats 4000000 in
set_option maxRecDepth 100000 in
theorem a_X5_goOn_e4 (l : Launch) (K : KE) (G : Nat → Option Nat) (H : Heap) {a0 : Nat} {a1 : Nat} (x2 : Int32) (x3 : Int32) (x4 : Int32) {tq : Nat} {bq : Nat} {mq : Nat} {nq : Nat} {lq : Nat} {kq : Nat} (le : Int32) (nc : Int32) (bc : Int32) (sd : Int32) (g : List Nat) (nl : Nat → Int) (bl : Nat → Int) (br : Nat → Int) (hT : TY K G H) (ga0 : G a0 = some 104) (ga1 : G a1 = some 0) (hx2 : 4 ≤ x2.toInt ∧ x2.toInt ≤ 4) (hx3 : 0 ≤ x3.toInt ∧ x3.toInt ≤ 255) (hx4 : 0 ≤ x4.toInt ∧ x4.toInt ≤ 396) (gtq : G tq = some 106) (etq : tq = fR H a0 (K.1.2 5 1)) (gbq : G bq = some 105) (ebq : bq = fR H a0 (K.1.2 5 0)) (gmq : G mq = some 107) (emq : mq = fR H a0 (K.1.2 5 2)) (gnq : G nq = some 31) (enq : nq = fR H a1 (K.1.2 8 12)) (glq : G lq = some 32) (elq : lq = fR H a1 (K.1.2 8 14)) (gkq : G kq = some 33) (ekq : kq = fR H a1 (K.1.2 8 15)) (ele : le = fI H a0 (K.1.2 5 3)) (enc : nc = fI H a1 (K.1.2 8 13)) (ebc : bc = fI H a1 (K.1.2 8 16)) (esd : sd = fI H a0 (K.1.2 5 4)) (hp0 : 4 ≤ nc.toInt) (hy0 : pr (fun j => (fI H tq j).toInt) 4 = g) (hy1 : x3.toInt = ((ky g : Nat) : Int)) (hy2 : x4.toInt = wsB nl bl g) (hy3 : ∀ x ∈ g, x < bc.toNatClampNeg) (hy4 : ∀ j : Nat, j < nc.toNatClampNeg → 0 ≤ nl j ∧ nl j ≤ 99) (hy5 : ∀ j : Nat, j < bc.toNatClampNeg → 0 ≤ bl j ∧ bl j ≤ 99) (hy6 : ∀ j : Nat, j < bc.toNatClampNeg → 0 ≤ br j ∧ br j ≤ 99) (hv_nl : ∀ j : Nat, nl j = (fI H nq j).toInt) (hv_bl : ∀ j : Nat, bl j = (fI H lq j).toInt) (hv_br : ∀ j : Nat, br j = (fI H kq j).toInt) : MX l K yX5_goOn cX5_goOn 8 none 5 148 0 0 [.ref a0, .ref a1, .int x2, .int x3, .int x4] H (AE G [104, 105, 106, 107] H.size) (fun v H1 => ∃ (t0 : Int32), v = none ∧ t0 = fI H1 a0 (K.1.2 5 3) ∧ tq = fR H1 a0 (K.1.2 5 1) ∧ bq = fR H1 a0 (K.1.2 5 0) ∧ mq = fR H1 a0 (K.1.2 5 2) ∧ sd = fI H1 a0 (K.1.2 5 4) ∧ (pr (fun j => (fI H1 tq j).toInt) 4 = g) ∧ (HD (goM nl bl br sd.toInt bc.toNatClampNeg (nc.toNatClampNeg - 4) g ((fun j => (fI H mq j).toInt), le.toInt, acL le.toInt (fun j => (fI H bq j).toInt) nc.toNatClampNeg) = ((fun j => (fI H1 mq j).toInt), t0.toInt, acL t0.toInt (fun j => (fI H1 bq j).toInt) nc.toNatClampNeg))) ∧ TY K G H1) := by
  refine MX.of (by decide +kernel) (Nat.le_of_ble_eq_true rfl) ?_
  intro p e s m below meth c ls Q C hH hl hQ
  subst hH
  have C : CX p K s m _ meth c RX5 cX5_goOn 8 none "goOn" := C
  obtain ⟨hx, hb, hml, hown, hts, hKT, hr, hlocks, hnm⟩ := id C
  have hl : lv_has ls 8 [(0, .ref a0), (1, .ref a1), (2, .int x2), (3, .int x3), (4, .int x4)] := hl
  have hS : va_S (AE G [104, 105, 106, 107] s.heap.size) s.heap s.heap [] := va_S.rf
  have n_m1 : ((-1) : Int32).toInt = -1 := rfl
  have n_0 : (0 : Int32).toInt = 0 := rfl
  have n_1 : (1 : Int32).toInt = 1 := rfl
  have n_8 : (8 : Int32).toInt = 8 := rfl
  have ble := ty_fi (x := le) (k := 3) ele hT ga0 rg_104 rfl
  have bnc := ty_fi (x := nc) (k := 13) enc hT ga1 rg_0 rfl
  have bbc := ty_fi (x := bc) (k := 16) ebc hT ga1 rg_0 rfl
  have bsd := ty_fi (x := sd) (k := 4) esd hT ga0 rg_104 rfl
  have f0_nl := hv_nl
  have f0_bl := hv_bl
  have f0_br := hv_br
  have J56 : ∀ (nf : Nat)  (ls1582 : Array Slot) (H1581 : Heap) (locsH1581 : List Loc) (x1584 : Int32) (x1585 : Int32), lv_has ls1582 8 [(0, .ref a0), (1, .ref a1), (2, .int x2), (3, .int x3), (4, .int x4), (5, .int x1584)] → TY K G H1581 → va_S (AE G [104, 105, 106, 107] s.heap.size) s.heap H1581 locsH1581 → (0 ≤ x1584.toInt ∧ x1584.toInt ≤ 8) → (x1585 = fI H1581 a0 (K.1.2 5 3)) → (tq = fR H1581 a0 (K.1.2 5 1)) → (bq = fR H1581 a0 (K.1.2 5 0)) → (mq = fR H1581 a0 (K.1.2 5 2)) → (nq = fR H1581 a1 (K.1.2 8 12)) → (lq = fR H1581 a1 (K.1.2 8 14)) → (kq = fR H1581 a1 (K.1.2 8 15)) → (nc = fI H1581 a1 (K.1.2 8 13)) → (bc = fI H1581 a1 (K.1.2 8 16)) → (sd = fI H1581 a0 (K.1.2 5 4)) → (∀ j : Nat, nl j = (fI H1581 nq j).toInt) → (∀ j : Nat, bl j = (fI H1581 lq j).toInt) → (∀ j : Nat, br j = (fI H1581 kq j).toInt) → (8 - x1584.toInt < (nf : Int)) → (4 < nc.toInt) → (HD (goM nl bl br sd.toInt bc.toNatClampNeg (nc.toNatClampNeg - 4) g ((fun j => (fI s.heap mq j).toInt), le.toInt, acL le.toInt (fun j => (fI s.heap bq j).toInt) nc.toNatClampNeg) = frM (gF nl bl br sd.toInt bc.toNatClampNeg (nc.toNatClampNeg - 5) g) (bc.toNatClampNeg - x1584.toNatClampNeg) x1584.toNatClampNeg ((fun j => (fI H1581 mq j).toInt), x1585.toInt, acL x1585.toInt (fun j => (fI H1581 bq j).toInt) nc.toNatClampNeg))) → (pr (fun j => (fI H1581 tq j).toInt) 4 = g) → W p l e ({ frames := 5, cells := 0, slots := 0, locals := 148 } : Room) s m (([.ref a0, .ref a1, .int x2, .int x3, .int x4] : List Value).toArray) below meth c H1581 locsH1581 0 0 Q (F0 m 56 ls1582 []) := by
    intro nf
    induction nf with
    | zero =>
      intro  ls1582 H1581 locsH1581 x1584 x1585 hl1583 hTH1581 hSH1581 bx1584 ex1585 cy1586_0 cy1586_1 cy1586_2 cy1586_3 cy1586_4 cy1586_5 cy1586_6 cy1586_7 cy1586_8 fy1586_nl fy1586_bl fy1586_br hm56 iv56 hsp56 hpr56
      have rx1585 := i_rng x1585
      exfalso
      omega
    | succ nf ih56 =>
      intro  ls1582 H1581 locsH1581 x1584 x1585 hl1583 hTH1581 hSH1581 bx1584 ex1585 cy1586_0 cy1586_1 cy1586_2 cy1586_3 cy1586_4 cy1586_5 cy1586_6 cy1586_7 cy1586_8 fy1586_nl fy1586_bl fy1586_br hm56 iv56 hsp56 hpr56
      have rx1585 := i_rng x1585
      have hlen : g.length = 4 := by rw [← hy0, pr_len]
      have cn_x1584 := i_cl (x := x1584) (by omega)
      have cn_bc := i_cl (x := bc) (by omega)
      have cn_nc := i_cl (x := nc) (by omega)
      have cn_x2 := i_cl (x := x2) (by omega)
      have x01587 : ∀ j : Nat, fI H1581 mq j = fI H1581 mq j := fun _ => rfl
      have x01588 : ∀ j : Nat, fI H1581 bq j = fI H1581 bq j := fun _ => rfl
      have x01589 : ∀ j : Nat, fI H1581 tq j = fI H1581 tq j := fun _ => rfl
      refine lv_iload hx hb dX5_goOn_56 (lv_at hl1583 5 rfl) ?_
      refine lv_aload_n hx hb dX5_goOn_58 rfl (lv_at hl1583 1 rfl) ?_
      refine x_gi C hTH1581 (ci := 8) (k := 16) rfl inX8 (by decide) wF_X5_49 ga1 rg_0 rfl dX5_goOn_59 (fun x1590 ex1590 bx1590 => ?_)
      have ux1590 : bc = x1590 := (cy1586_7).trans ex1590.symm
      subst ux1590
      refine lv_icmp_ge (tgt := 158) hx hb dX5_goOn_62 (by decide) (fun c1591 => ?_) (fun c1591 => ?_)
      · have k1592 := i_le c1591
        exact x_vret C hQ dX5_goOn_158 hSH1581 (by decide) (by decide) (⟨x1585, rfl, ex1585, cy1586_0, cy1586_1, cy1586_2, cy1586_8, hpr56, HD.mk ((HD.get hsp56).trans (gm_end (by omega))), hTH1581⟩)
      · have k1592 := i_nle c1591
        refine lv_aload_n hx hb dX5_goOn_65 rfl (lv_at hl1583 1 rfl) ?_
        refine x_gr C hTH1581 (ci := 8) (k := 14) rfl inX8 (by decide) wF_X5_52 ga1 rg_0 rfl dX5_goOn_66 (fun q1593 eq1593 gq1593 => ?_)
        have uq1593 : lq = q1593 := (cy1586_4).trans eq1593.symm
        subst uq1593
        refine lv_iload hx hb dX5_goOn_69 (lv_at hl1583 5 rfl) ?_
        refine x_ai C hTH1581 glq rg_32 ⟨by omega, by show _ < ((8 : Nat) : Int); omega⟩ dX5_goOn_71 (fun x1594 ex1594 bx1594 => ?_)
        have qvx1594 : bl x1584.toNatClampNeg = x1594.toInt := (fy1586_bl _).trans (congrArg Int32.toInt ex1594.symm)
        have hn_x1594 : 0 ≤ x1594.toInt ∧ x1594.toInt ≤ 99 := by have c_ := i_cl (x := x1584) (by omega); have d_ := i_cl (x := bc) (by omega); have q_ := hy5 x1584.toNatClampNeg (by omega); omega
        refine lv_aload_n hx hb dX5_goOn_72 rfl (lv_at hl1583 1 rfl) ?_
        refine x_gr C hTH1581 (ci := 8) (k := 12) rfl inX8 (by decide) wF_X5_55 ga1 rg_0 rfl dX5_goOn_73 (fun q1595 eq1595 gq1595 => ?_)
        have uq1595 : nq = q1595 := (cy1586_3).trans eq1595.symm
        subst uq1595
        refine lv_iload_n hx hb dX5_goOn_76 rfl (lv_at hl1583 2 rfl) ?_
        refine x_ai C hTH1581 gnq rg_31 ⟨by omega, by show _ < ((8 : Nat) : Int); omega⟩ dX5_goOn_77 (fun x1596 ex1596 bx1596 => ?_)
        have qvx1596 : nl x2.toNatClampNeg = x1596.toInt := (fy1586_nl _).trans (congrArg Int32.toInt ex1596.symm)
        have hn_x1596 : 0 ≤ x1596.toInt ∧ x1596.toInt ≤ 99 := by have c_ := i_cl (x := x2) (by omega); have d_ := i_cl (x := nc) (by omega); have q_ := hy4 x2.toNatClampNeg (by omega); omega
        refine lv_isub hx hb dX5_goOn_78 ?_
        refine lv_topi (fun x1597 ex1597 => ?_)
        have tx1597 := i_sub ex1597 (by omega)
        refine lv_istore (lv' := [(6, .int x1597), (0, .ref a0), (1, .ref a1), (2, .int x2), (3, .int x3), (4, .int x4), (5, .int x1584)]) hx hb dX5_goOn_79 hl1583 (by decide) rfl (fun ls1598 hl1599 => ?_)
        refine lv_iload_n hx hb dX5_goOn_81 rfl (lv_at hl1599 4 rfl) ?_
        refine lv_iconst (v := 1) hx hb dX5_goOn_82 (by decide) ?_
        refine lv_iload hx hb dX5_goOn_83 (lv_at hl1599 6 rfl) ?_
        refine lv_ishl hx hb dX5_goOn_85 ?_
        refine lv_topi (fun x1600 ex1600 => ?_)
        have tx1600 := i_shl7 ex1600 (by omega)
        refine lv_ior hx hb dX5_goOn_86 ?_
        refine lv_topi (fun x1601 ex1601 => ?_)
        have tx1601 := i_or8 ex1601 (by omega) (by omega)
        refine lv_istore (lv' := [(7, .int x1601), (6, .int x1597), (0, .ref a0), (1, .ref a1), (2, .int x2), (3, .int x3), (4, .int x4), (5, .int x1584)]) hx hb dX5_goOn_87 hl1599 (by decide) rfl (fun ls1602 hl1603 => ?_)
        have hky_ : x1601.toInt = ((ky (x1584.toNatClampNeg :: g) : Nat) : Int) := sb_ky hy1 (by omega) (by omega) ex1600 ex1601
        have cn_x1601 := i_cl (x := x1601) (by omega)
        refine lv_iload hx hb dX5_goOn_89 (lv_at hl1603 0 rfl) ?_
        refine lv_iload_n hx hb dX5_goOn_91 rfl (lv_at hl1603 5 rfl) ?_
        refine lv_icmp_eq (tgt := 152) hx hb dX5_goOn_92 (by decide) (fun c1604 => ?_) (fun c1604 => ?_)
        · have k1605 := i_eq c1604
          obtain ⟨x1606, ex1606⟩ : ∃ y : Int32, y = x1584 + 1 := ⟨_, rfl⟩
          have tx1606 := i_add ex1606 (by omega)
          refine lv_iinc (v := x1606) (lv' := [(5, .int x1606), (7, .int x1601), (6, .int x1597), (0, .ref a0), (1, .ref a1), (2, .int x2), (3, .int x3), (4, .int x4)]) hx hb dX5_goOn_152 hl1603 (k := 7) rfl (by rw [ex1606]; rfl) (by decide) rfl (fun ls1607 hl1608 => ?_)
          refine lv_goto (tgt := 56) hx hb dX5_goOn_155 (by decide) ?_
          have cn_x1606 := i_cl (x := x1606) (by omega)
          have sk_ : frM (gF nl bl br sd.toInt bc.toNatClampNeg (nc.toNatClampNeg - 5) g) (bc.toNatClampNeg - x1584.toNatClampNeg) x1584.toNatClampNeg ((fun j => (fI H1581 mq j).toInt), x1585.toInt, acL x1585.toInt (fun j => (fI H1581 bq j).toInt) nc.toNatClampNeg) = frM (gF nl bl br sd.toInt bc.toNatClampNeg (nc.toNatClampNeg - 5) g) (bc.toNatClampNeg - x1606.toNatClampNeg) x1606.toNatClampNeg ((fun j => (fI H1581 mq j).toInt), x1585.toInt, acL x1585.toInt (fun j => (fI H1581 bq j).toInt) nc.toNatClampNeg) := gm_skip (by omega) (by omega) (Or.inl (okB_n1 (ky_eq.mp (by omega))))
          exact ih56  ls1607 H1581 locsH1581 (x1606) (x1585) (lv_sub hl1608 [3, 4, 5, 6, 7, 0] rfl) hTH1581 hSH1581 (by have := i_rng x1606; omega) ex1585 cy1586_0 cy1586_1 cy1586_2 cy1586_3 cy1586_4 cy1586_5 cy1586_6 cy1586_7 cy1586_8 fy1586_nl fy1586_bl fy1586_br (by omega) (by omega) (HD.mk ((HD.get hsp56).trans sk_)) hpr56
        · have k1605 := i_ne c1604
          refine lv_iload hx hb dX5_goOn_95 (lv_at hl1603 1 rfl) ?_
          refine lv_if_lt (tgt := 152) hx hb dX5_goOn_97 (by decide) (fun c1609 => ?_) (fun c1609 => ?_)
          · have k1610 := i_lt c1609
            obtain ⟨x1611, ex1611⟩ : ∃ y : Int32, y = x1584 + 1 := ⟨_, rfl⟩
            have tx1611 := i_add ex1611 (by omega)
            refine lv_iinc (v := x1611) (lv' := [(5, .int x1611), (7, .int x1601), (6, .int x1597), (0, .ref a0), (1, .ref a1), (2, .int x2), (3, .int x3), (4, .int x4)]) hx hb dX5_goOn_152 hl1603 (k := 7) rfl (by rw [ex1611]; rfl) (by decide) rfl (fun ls1612 hl1613 => ?_)
            refine lv_goto (tgt := 56) hx hb dX5_goOn_155 (by decide) ?_
            have cn_x1611 := i_cl (x := x1611) (by omega)
            have qk_ : nl 4 = _ := (congrArg nl (show 4 = x2.toNatClampNeg by omega)).trans qvx1596
            have sk_ : frM (gF nl bl br sd.toInt bc.toNatClampNeg (nc.toNatClampNeg - 5) g) (bc.toNatClampNeg - x1584.toNatClampNeg) x1584.toNatClampNeg ((fun j => (fI H1581 mq j).toInt), x1585.toInt, acL x1585.toInt (fun j => (fI H1581 bq j).toInt) nc.toNatClampNeg) = frM (gF nl bl br sd.toInt bc.toNatClampNeg (nc.toNatClampNeg - 5) g) (bc.toNatClampNeg - x1611.toNatClampNeg) x1611.toNatClampNeg ((fun j => (fI H1581 mq j).toInt), x1585.toInt, acL x1585.toInt (fun j => (fI H1581 bq j).toInt) nc.toNatClampNeg) := gm_skip (by omega) (by omega) (Or.inl (okB_n2 hlen (by omega)))
            exact ih56  ls1612 H1581 locsH1581 (x1611) (x1585) (lv_sub hl1613 [3, 4, 5, 6, 7, 0] rfl) hTH1581 hSH1581 (by have := i_rng x1611; omega) ex1585 cy1586_0 cy1586_1 cy1586_2 cy1586_3 cy1586_4 cy1586_5 cy1586_6 cy1586_7 cy1586_8 fy1586_nl fy1586_bl fy1586_br (by omega) (by omega) (HD.mk ((HD.get hsp56).trans sk_)) hpr56
          · have k1610 := i_nlt c1609
            refine lv_aload_n hx hb dX5_goOn_100 rfl (lv_at hl1603 2 rfl) ?_
            refine x_gr C hTH1581 (ci := 5) (k := 2) rfl inX5 (by decide) wF_X5_18 ga0 rg_104 rfl dX5_goOn_101 (fun q1614 eq1614 gq1614 => ?_)
            have uq1614 : mq = q1614 := (cy1586_2).trans eq1614.symm
            subst uq1614
            refine lv_iload hx hb dX5_goOn_104 (lv_at hl1603 0 rfl) ?_
            refine x_ai C hTH1581 gmq rg_107 ⟨by omega, by show _ < ((256 : Nat) : Int); omega⟩ dX5_goOn_106 (fun x1615 ex1615 bx1615 => ?_)
            refine lv_if_ne (tgt := 152) hx hb dX5_goOn_107 (by decide) (fun c1616 => ?_) (fun c1616 => ?_)
            · have k1617 := i_ne c1616
              obtain ⟨x1618, ex1618⟩ : ∃ y : Int32, y = x1584 + 1 := ⟨_, rfl⟩
              have tx1618 := i_add ex1618 (by omega)
              refine lv_iinc (v := x1618) (lv' := [(5, .int x1618), (7, .int x1601), (6, .int x1597), (0, .ref a0), (1, .ref a1), (2, .int x2), (3, .int x3), (4, .int x4)]) hx hb dX5_goOn_152 hl1603 (k := 7) rfl (by rw [ex1618]; rfl) (by decide) rfl (fun ls1619 hl1620 => ?_)
              refine lv_goto (tgt := 56) hx hb dX5_goOn_155 (by decide) ?_
              have cn_x1618 := i_cl (x := x1618) (by omega)
              have hm1_ : (fun j => (fI H1581 mq j).toInt) (ky (x1584.toNatClampNeg :: g)) ≠ 0 := by show (fI _ mq _).toInt ≠ 0; rw [show ky (x1584.toNatClampNeg :: g) = x1601.toNatClampNeg by omega, ← x01587 _, ← ex1615]; omega
              have sk_ : frM (gF nl bl br sd.toInt bc.toNatClampNeg (nc.toNatClampNeg - 5) g) (bc.toNatClampNeg - x1584.toNatClampNeg) x1584.toNatClampNeg ((fun j => (fI H1581 mq j).toInt), x1585.toInt, acL x1585.toInt (fun j => (fI H1581 bq j).toInt) nc.toNatClampNeg) = frM (gF nl bl br sd.toInt bc.toNatClampNeg (nc.toNatClampNeg - 5) g) (bc.toNatClampNeg - x1618.toNatClampNeg) x1618.toNatClampNeg ((fun j => (fI H1581 mq j).toInt), x1585.toInt, acL x1585.toInt (fun j => (fI H1581 bq j).toInt) nc.toNatClampNeg) := gm_skip (by omega) (by omega) (Or.inr hm1_)
              exact ih56  ls1619 H1581 locsH1581 (x1618) (x1585) (lv_sub hl1620 [3, 4, 5, 6, 7, 0] rfl) hTH1581 hSH1581 (by have := i_rng x1618; omega) ex1585 cy1586_0 cy1586_1 cy1586_2 cy1586_3 cy1586_4 cy1586_5 cy1586_6 cy1586_7 cy1586_8 fy1586_nl fy1586_bl fy1586_br (by omega) (by omega) (HD.mk ((HD.get hsp56).trans sk_)) hpr56
            · have k1617 := i_eq c1616
              refine lv_aload_n hx hb dX5_goOn_110 rfl (lv_at hl1603 2 rfl) ?_
              refine lv_aload_n hx hb dX5_goOn_111 rfl (lv_at hl1603 3 rfl) ?_
              refine lv_iload_n hx hb dX5_goOn_112 rfl (lv_at hl1603 5 rfl) ?_
              refine lv_iload hx hb dX5_goOn_113 (lv_at hl1603 7 rfl) ?_
              refine x_V (As := [.ref a1, .int x3, .int x1584]) (rest := []) C (a_X5_ringsTogether_e l K G H1581 (x3) (x1584) (sd) (bc) (g) br hTH1581 ga0 ga1 (by omega) (by omega) gkq cy1586_5 cy1586_8 cy1586_7 (by omega) (hy1) (hy6) fy1586_br) yo_X5_ringsTogether wM_X5_58 ⟨⟨by decide, by decide⟩, by decide, by decide⟩ (x_rv C hTH1581 (ci := 5) rfl ga0 rg_104) rfl hl1603.1 rfl (Nat.le_of_ble_eq_true rfl) dX5_goOn_115 hSH1581 (AE_sub (fun _ _ => rfl) (by decide) hSH1581.1) (fun vH1621 H1621 locsH1621 pH1621 zH1621 kH1621 hSH1621 => ?_)
              obtain ⟨x1622, hvH1621, bx1622, m1623, hTH1621⟩ := pH1621
              subst hvH1621
              have f1624 : ∀ j : Nat, nl j = (fI H1621 nq j).toInt := fun j => (fy1586_nl j).trans (congrArg Int32.toInt (fI_kept (x_lt hTH1581 kH1621 gnq (by decide))).symm)
              have f1625 : ∀ j : Nat, bl j = (fI H1621 lq j).toInt := fun j => (fy1586_bl j).trans (congrArg Int32.toInt (fI_kept (x_lt hTH1581 kH1621 glq (by decide))).symm)
              have f1626 : ∀ j : Nat, br j = (fI H1621 kq j).toInt := fun j => (fy1586_br j).trans (congrArg Int32.toInt (fI_kept (x_lt hTH1581 kH1621 gkq (by decide))).symm)
              have f1627 : ∀ j : Nat, fI H1621 mq j = fI H1581 mq j := fun j => (fI_kept (x_lt hTH1581 kH1621 gmq (by decide))).trans (x01587 j)
              have f1628 : ∀ j : Nat, fI H1621 bq j = fI H1581 bq j := fun j => (fI_kept (x_lt hTH1581 kH1621 gbq (by decide))).trans (x01588 j)
              have f1629 : ∀ j : Nat, fI H1621 tq j = fI H1581 tq j := fun j => (fI_kept (x_lt hTH1581 kH1621 gtq (by decide))).trans (x01589 j)
              have m1630 := (ex1585).trans (fI_kept (x_lt hTH1581 kH1621 ga0 (by decide))).symm
              have m1631 := (cy1586_0).trans (fR_kept (x_lt hTH1581 kH1621 ga0 (by decide))).symm
              have m1632 := (cy1586_1).trans (fR_kept (x_lt hTH1581 kH1621 ga0 (by decide))).symm
              have m1633 := (cy1586_2).trans (fR_kept (x_lt hTH1581 kH1621 ga0 (by decide))).symm
              have m1634 := (cy1586_3).trans (fR_kept (x_lt hTH1581 kH1621 ga1 (by decide))).symm
              have m1635 := (cy1586_4).trans (fR_kept (x_lt hTH1581 kH1621 ga1 (by decide))).symm
              have m1636 := (cy1586_5).trans (fR_kept (x_lt hTH1581 kH1621 ga1 (by decide))).symm
              have m1637 := (cy1586_6).trans (fI_kept (x_lt hTH1581 kH1621 ga1 (by decide))).symm
              have m1638 := (cy1586_7).trans (fI_kept (x_lt hTH1581 kH1621 ga1 (by decide))).symm
              have m1639 := (cy1586_8).trans (fI_kept (x_lt hTH1581 kH1621 ga0 (by decide))).symm
              have m1640 := (ex1594).trans (fI_kept (x_lt hTH1581 kH1621 glq (by decide))).symm
              have m1641 := (ex1596).trans (fI_kept (x_lt hTH1581 kH1621 gnq (by decide))).symm
              have m1642 := (ex1615).trans (fI_kept (x_lt hTH1581 kH1621 gmq (by decide))).symm
              refine W.eq (g2 := F0 m 118 ls1602 [.int x1622]) rfl ?_
              refine lv_if_eq (tgt := 152) hx hb dX5_goOn_118 (by decide) (fun c1643 => ?_) (fun c1643 => ?_)
              · have k1644 := i_eq c1643
                obtain ⟨x1645, ex1645⟩ : ∃ y : Int32, y = x1584 + 1 := ⟨_, rfl⟩
                have tx1645 := i_add ex1645 (by omega)
                refine lv_iinc (v := x1645) (lv' := [(5, .int x1645), (7, .int x1601), (6, .int x1597), (0, .ref a0), (1, .ref a1), (2, .int x2), (3, .int x3), (4, .int x4)]) hx hb dX5_goOn_152 hl1603 (k := 7) rfl (by rw [ex1645]; rfl) (by decide) rfl (fun ls1646 hl1647 => ?_)
                refine lv_goto (tgt := 56) hx hb dX5_goOn_155 (by decide) ?_
                have cn_x1645 := i_cl (x := x1645) (by omega)
                have sk_ : frM (gF nl bl br sd.toInt bc.toNatClampNeg (nc.toNatClampNeg - 5) g) (bc.toNatClampNeg - x1584.toNatClampNeg) x1584.toNatClampNeg ((fun j => (fI H1581 mq j).toInt), x1585.toInt, acL x1585.toInt (fun j => (fI H1581 bq j).toInt) nc.toNatClampNeg) = frM (gF nl bl br sd.toInt bc.toNatClampNeg (nc.toNatClampNeg - 5) g) (bc.toNatClampNeg - x1645.toNatClampNeg) x1645.toNatClampNeg ((fun j => (fI H1581 mq j).toInt), x1585.toInt, acL x1585.toInt (fun j => (fI H1581 bq j).toInt) nc.toNatClampNeg) := gm_skip (by omega) (by omega) (Or.inl (okB_n3 ((HD.get m1623).elim (fun z => absurd z.1 (by omega)) (fun z => z.2))))
                have em_ : (fun j => (fI H1621 mq j).toInt) = (fun j => (fI H1581 mq j).toInt) := funext fun j => congrArg Int32.toInt (f1627 j)
                have eb_ : (fun j => (fI H1621 bq j).toInt) = (fun j => (fI H1581 bq j).toInt) := funext fun j => congrArg Int32.toInt (f1628 j)
                exact ih56  ls1646 H1621 locsH1621 (x1645) (x1585) (lv_sub hl1647 [3, 4, 5, 6, 7, 0] rfl) hTH1621 hSH1621 (by have := i_rng x1645; omega) m1630 m1631 m1632 m1633 m1634 m1635 m1636 m1637 m1638 m1639 f1624 f1625 f1626 (by omega) (by omega) (HD.mk ((HD.get hsp56).trans (sk_.trans (by rw [em_, eb_])))) ((pr_c 4 (fun j _ => congrArg Int32.toInt (f1629 j))).trans hpr56)
              · have k1644 := i_ne c1643
                have qk_ : nl 4 = _ := (congrArg nl (show 4 = x2.toNatClampNeg by omega)).trans qvx1596
                have hok_ : okB nl bl br sd.toInt g x1584.toNatClampNeg = true := okB_y hlen (fun z => by have q_ := ky_eq.mpr z; omega) (by omega) hy3 ((HD.get m1623).elim (fun z => z.2) (fun z => absurd z.1 (by omega)))
                have hm0_ : (fun j => (fI H1581 mq j).toInt) (ky (x1584.toNatClampNeg :: g)) = 0 := by show (fI _ mq _).toInt = 0; rw [show ky (x1584.toNatClampNeg :: g) = x1601.toNatClampNeg by omega, ← x01587 _, ← ex1615]; omega
                refine lv_aload_n hx hb dX5_goOn_121 rfl (lv_at hl1603 2 rfl) ?_
                refine x_gr C hTH1621 (ci := 5) (k := 2) rfl inX5 (by decide) wF_X5_18 ga0 rg_104 rfl dX5_goOn_122 (fun q1648 eq1648 gq1648 => ?_)
                have uq1648 : mq = q1648 := (m1633).trans eq1648.symm
                subst uq1648
                refine lv_iload hx hb dX5_goOn_125 (lv_at hl1603 0 rfl) ?_
                refine lv_iconst (v := 1) hx hb dX5_goOn_127 (by decide) ?_
                refine x_iast C hTH1621 hSH1621 gmq rg_107 (by omega) (by show _ < ((256 : Nat) : Int); omega) (by decide) (AE_in gmq (by decide)) dX5_goOn_128 (fun H1649 locsH1649 hTH1649 hSH1649 wH1649 => ?_)
                have f1650 : ∀ j : Nat, nl j = (fI H1649 nq j).toInt := fun j => (f1624 j).trans (congrArg Int32.toInt (Wr.neI wH1649 (Or.inl (G_ne gnq gmq (by decide)))).symm)
                have f1651 : ∀ j : Nat, bl j = (fI H1649 lq j).toInt := fun j => (f1625 j).trans (congrArg Int32.toInt (Wr.neI wH1649 (Or.inl (G_ne glq gmq (by decide)))).symm)
                have f1652 : ∀ j : Nat, br j = (fI H1649 kq j).toInt := fun j => (f1626 j).trans (congrArg Int32.toInt (Wr.neI wH1649 (Or.inl (G_ne gkq gmq (by decide)))).symm)
                have f1653 : ∀ j : Nat, fI H1649 bq j = fI H1581 bq j := fun j => (fI_kept (wH1649.off (G_ne gbq gmq (by decide)))).trans (f1628 j)
                have f1654 : ∀ j : Nat, fI H1649 tq j = fI H1581 tq j := fun j => (fI_kept (wH1649.off (G_ne gtq gmq (by decide)))).trans (f1629 j)
                have m1655 := m1630.trans (Wr.neI wH1649 (Or.inl (G_ne ga0 gmq (by decide)))).symm
                have m1656 := m1631.trans (Wr.neR wH1649 (Or.inl (G_ne ga0 gmq (by decide)))).symm
                have m1657 := m1632.trans (Wr.neR wH1649 (Or.inl (G_ne ga0 gmq (by decide)))).symm
                have m1658 := m1633.trans (Wr.neR wH1649 (Or.inl (G_ne ga0 gmq (by decide)))).symm
                have m1659 := m1634.trans (Wr.neR wH1649 (Or.inl (G_ne ga1 gmq (by decide)))).symm
                have m1660 := m1635.trans (Wr.neR wH1649 (Or.inl (G_ne ga1 gmq (by decide)))).symm
                have m1661 := m1636.trans (Wr.neR wH1649 (Or.inl (G_ne ga1 gmq (by decide)))).symm
                have m1662 := m1637.trans (Wr.neI wH1649 (Or.inl (G_ne ga1 gmq (by decide)))).symm
                have m1663 := m1638.trans (Wr.neI wH1649 (Or.inl (G_ne ga1 gmq (by decide)))).symm
                have m1664 := m1639.trans (Wr.neI wH1649 (Or.inl (G_ne ga0 gmq (by decide)))).symm
                have m1665 := m1640.trans (Wr.neI wH1649 (Or.inl (G_ne glq gmq (by decide)))).symm
                have m1666 := m1641.trans (Wr.neI wH1649 (Or.inl (G_ne gnq gmq (by decide)))).symm
                have m1668 := Wr.I wH1649
                refine lv_aload_n hx hb dX5_goOn_129 rfl (lv_at hl1603 2 rfl) ?_
                refine x_gr C hTH1649 (ci := 5) (k := 1) rfl inX5 (by decide) wF_X5_15 ga0 rg_104 rfl dX5_goOn_130 (fun q1669 eq1669 gq1669 => ?_)
                have uq1669 : tq = q1669 := (m1656).trans eq1669.symm
                subst uq1669
                refine lv_iload_n hx hb dX5_goOn_133 rfl (lv_at hl1603 4 rfl) ?_
                refine lv_iload hx hb dX5_goOn_134 (lv_at hl1603 7 rfl) ?_
                refine x_iast C hTH1649 hSH1649 gtq rg_106 (by omega) (by show _ < ((8 : Nat) : Int); omega) ⟨by have := i_rng x1584; omega, by have := i_rng x1584; omega⟩ (AE_in gtq (by decide)) dX5_goOn_136 (fun H1670 locsH1670 hTH1670 hSH1670 wH1670 => ?_)
                have f1671 : ∀ j : Nat, nl j = (fI H1670 nq j).toInt := fun j => (f1650 j).trans (congrArg Int32.toInt (Wr.neI wH1670 (Or.inl (G_ne gnq gtq (by decide)))).symm)
                have f1672 : ∀ j : Nat, bl j = (fI H1670 lq j).toInt := fun j => (f1651 j).trans (congrArg Int32.toInt (Wr.neI wH1670 (Or.inl (G_ne glq gtq (by decide)))).symm)
                have f1673 : ∀ j : Nat, br j = (fI H1670 kq j).toInt := fun j => (f1652 j).trans (congrArg Int32.toInt (Wr.neI wH1670 (Or.inl (G_ne gkq gtq (by decide)))).symm)
                have f1674 : ∀ j : Nat, fI H1670 bq j = fI H1581 bq j := fun j => (fI_kept (wH1670.off (G_ne gbq gtq (by decide)))).trans (f1653 j)
                have m1675 := m1655.trans (Wr.neI wH1670 (Or.inl (G_ne ga0 gtq (by decide)))).symm
                have m1676 := m1656.trans (Wr.neR wH1670 (Or.inl (G_ne ga0 gtq (by decide)))).symm
                have m1677 := m1657.trans (Wr.neR wH1670 (Or.inl (G_ne ga0 gtq (by decide)))).symm
                have m1678 := m1658.trans (Wr.neR wH1670 (Or.inl (G_ne ga0 gtq (by decide)))).symm
                have m1679 := m1659.trans (Wr.neR wH1670 (Or.inl (G_ne ga1 gtq (by decide)))).symm
                have m1680 := m1660.trans (Wr.neR wH1670 (Or.inl (G_ne ga1 gtq (by decide)))).symm
                have m1681 := m1661.trans (Wr.neR wH1670 (Or.inl (G_ne ga1 gtq (by decide)))).symm
                have m1682 := m1662.trans (Wr.neI wH1670 (Or.inl (G_ne ga1 gtq (by decide)))).symm
                have m1683 := m1663.trans (Wr.neI wH1670 (Or.inl (G_ne ga1 gtq (by decide)))).symm
                have m1684 := m1664.trans (Wr.neI wH1670 (Or.inl (G_ne ga0 gtq (by decide)))).symm
                have m1685 := m1665.trans (Wr.neI wH1670 (Or.inl (G_ne glq gtq (by decide)))).symm
                have m1686 := m1666.trans (Wr.neI wH1670 (Or.inl (G_ne gnq gtq (by decide)))).symm
                have m1687 := (Wr.neI wH1670 (Or.inl (G_ne gmq gtq (by decide)))).trans m1668
                have m1688 := Wr.I wH1670
                have m1688 := m1688.symm
                refine lv_aload_n hx hb dX5_goOn_137 rfl (lv_at hl1603 2 rfl) ?_
                refine lv_aload_n hx hb dX5_goOn_138 rfl (lv_at hl1603 3 rfl) ?_
                refine lv_iload_n hx hb dX5_goOn_139 rfl (lv_at hl1603 4 rfl) ?_
                refine lv_iconst (v := 1) hx hb dX5_goOn_140 (by decide) ?_
                refine lv_iadd hx hb dX5_goOn_141 ?_
                refine lv_topi (fun x1689 ex1689 => ?_)
                have tx1689 := i_add ex1689 (by omega)
                refine lv_iload hx hb dX5_goOn_142 (lv_at hl1603 0 rfl) ?_
                refine lv_iload hx hb dX5_goOn_144 (lv_at hl1603 6 rfl) ?_
                refine lv_iload hx hb dX5_goOn_146 (lv_at hl1603 1 rfl) ?_
                refine lv_iadd hx hb dX5_goOn_148 ?_
                refine lv_topi (fun x1690 ex1690 => ?_)
                have tx1690 := i_add ex1690 (by omega)
                have em_ : (fun j => (fI H1670 mq j).toInt) = upM (fun j => (fI H1581 mq j).toInt) (ky (x1584.toNatClampNeg :: g)) := up_w (f1 := fun j => fI H1670 mq j) (f0 := fun j => fI H1581 mq j) (q := x1601.toNatClampNeg) ((Wr.neI wH1670 (Or.inl (G_ne gmq gtq (by decide)))).trans (Wr.I wH1649)) n_1 (fun j hj => (Wr.neI wH1670 (Or.inl (G_ne gmq gtq (by decide)))).trans ((Wr.neI wH1649 (Or.inr hj)).trans (f1627 j))) (by omega)
                have eb_ : (fun j => (fI H1670 bq j).toInt) = (fun j => (fI H1581 bq j).toInt) := funext fun j => congrArg Int32.toInt (f1674 j)
                have hp1_ : pr (fun j => (fI H1670 tq j).toInt) 5 = x1584.toNatClampNeg :: g := pr_w (f0 := (fun j => (fI H1581 tq j).toInt)) (by show (fI _ tq _).toInt.toNat = _; rw [show 4 = x2.toNatClampNeg by omega, Wr.I wH1670]; omega) (fun j hj => congrArg Int32.toInt ((Wr.neI wH1670 (Or.inr (by omega))).trans ((Wr.neI wH1649 (Or.inl (G_ne gtq gmq (by decide)))).trans (f1629 j)))) hpr56
                have hg1_ : ∀ x ∈ x1584.toNatClampNeg :: g, x < bc.toNatClampNeg := fun x hx => (List.mem_cons.mp hx).elim (fun e => by rw [e]; omega) (fun e => hy3 x e)
                have hws_ : x1690.toInt = wsB nl bl (x1584.toNatClampNeg :: g) := by rw [wsB, hlen]; omega
                refine x_V (As := [.ref a1, .int x1689, .int x1601, .int x1690]) (rest := []) C (a_X5_goOn_e5 l K G H1670 (x1689) (x1601) (x1690) (x1585) (nc) (bc) (sd) (x1584.toNatClampNeg :: g) nl bl br hTH1670 ga0 ga1 (by omega) (by omega) (by omega) gtq m1676 gbq m1677 gmq m1678 gnq m1679 glq m1680 gkq m1681 m1675 m1682 m1683 m1684 (by omega) (hp1_) (hky_) (hws_) (hg1_) (hy4) (hy5) (hy6) f1671 f1672 f1673) yo_X5_goOn wM_X5_34 ⟨⟨by decide, by decide⟩, by decide, by decide⟩ (x_rv C hTH1670 (ci := 5) rfl ga0 rg_104) rfl hl1603.1 rfl (Nat.le_of_ble_eq_true rfl) dX5_goOn_149 hSH1670 (AE_sub (fun _ _ => rfl) (by decide) hSH1670.1) (fun vH1691 H1691 locsH1691 pH1691 zH1691 kH1691 hSH1691 => ?_)
                obtain ⟨x1692, hvH1691, ex1692, m1693, m1694, m1695, m1696, m1697, m1698, hTH1691⟩ := pH1691
                subst hvH1691
                have f1699 : ∀ j : Nat, nl j = (fI H1691 nq j).toInt := fun j => (f1671 j).trans (congrArg Int32.toInt (fI_kept (x_lt hTH1670 kH1691 gnq (by decide))).symm)
                have f1700 : ∀ j : Nat, bl j = (fI H1691 lq j).toInt := fun j => (f1672 j).trans (congrArg Int32.toInt (fI_kept (x_lt hTH1670 kH1691 glq (by decide))).symm)
                have f1701 : ∀ j : Nat, br j = (fI H1691 kq j).toInt := fun j => (f1673 j).trans (congrArg Int32.toInt (fI_kept (x_lt hTH1670 kH1691 gkq (by decide))).symm)
                have m1702 := (m1679).trans (fR_kept (x_lt hTH1670 kH1691 ga1 (by decide))).symm
                have m1703 := (m1680).trans (fR_kept (x_lt hTH1670 kH1691 ga1 (by decide))).symm
                have m1704 := (m1681).trans (fR_kept (x_lt hTH1670 kH1691 ga1 (by decide))).symm
                have m1705 := (m1682).trans (fI_kept (x_lt hTH1670 kH1691 ga1 (by decide))).symm
                have m1706 := (m1683).trans (fI_kept (x_lt hTH1670 kH1691 ga1 (by decide))).symm
                have m1707 := (m1685).trans (fI_kept (x_lt hTH1670 kH1691 glq (by decide))).symm
                have m1708 := (m1686).trans (fI_kept (x_lt hTH1670 kH1691 gnq (by decide))).symm
                have bx1692 := ty_fi (x := x1692) (k := 3) ex1692 hTH1691 ga0 rg_104 rfl
                refine W.eq (g2 := F0 m 152 ls1602 []) rfl ?_
                obtain ⟨x1709, ex1709⟩ : ∃ y : Int32, y = x1584 + 1 := ⟨_, rfl⟩
                have tx1709 := i_add ex1709 (by omega)
                refine lv_iinc (v := x1709) (lv' := [(5, .int x1709), (7, .int x1601), (6, .int x1597), (0, .ref a0), (1, .ref a1), (2, .int x2), (3, .int x3), (4, .int x4)]) hx hb dX5_goOn_152 hl1603 (k := 7) rfl (by rw [ex1709]; rfl) (by decide) rfl (fun ls1710 hl1711 => ?_)
                refine lv_goto (tgt := 56) hx hb dX5_goOn_155 (by decide) ?_
                have cn_x1709 := i_cl (x := x1709) (by omega)
                have hr_ := HD.get m1698
                rw [em_, eb_] at hr_
                exact ih56  ls1710 H1691 locsH1691 (x1709) (x1692) (lv_sub hl1711 [3, 4, 5, 6, 7, 0] rfl) hTH1691 hSH1691 (by have := i_rng x1709; omega) ex1692 m1693 m1694 m1695 m1702 m1703 m1704 m1705 m1706 m1696 f1699 f1700 f1701 (by omega) (by omega) (HD.mk ((HD.get hsp56).trans (gm_take (by omega) (by omega) hok_ hm0_ hr_))) (pr_tl m1697)
  have x01712 : ∀ j : Nat, fI s.heap mq j = fI s.heap mq j := fun _ => rfl
  have x01713 : ∀ j : Nat, fI s.heap bq j = fI s.heap bq j := fun _ => rfl
  have x01714 : ∀ j : Nat, fI s.heap tq j = fI s.heap tq j := fun _ => rfl
  have hlen : g.length = 4 := by rw [← hy0, pr_len]
  have cn_nc := i_cl (x := nc) (by omega)
  have cn_bc := i_cl (x := bc) (by omega)
  refine lv_iload_n hx hb dX5_goOn_0 rfl (lv_at hl 2 rfl) ?_
  refine lv_aload_n hx hb dX5_goOn_1 rfl (lv_at hl 1 rfl) ?_
  refine x_gi C hT (ci := 8) (k := 13) rfl inX8 (by decide) wF_X5_38 ga1 rg_0 rfl dX5_goOn_2 (fun x1715 ex1715 bx1715 => ?_)
  have ux1715 : nc = x1715 := (enc).trans ex1715.symm
  subst ux1715
  refine lv_icmp_ge (tgt := 14) hx hb dX5_goOn_5 (by decide) (fun c1716 => ?_) (fun c1716 => ?_)
  · have k1717 := i_le c1716
    refine lv_aload_n hx hb dX5_goOn_14 rfl (lv_at hl 0 rfl) ?_
    refine x_gi C hT (ci := 5) (k := 3) rfl inX5 (by decide) wF_X5_27 ga0 rg_104 rfl dX5_goOn_15 (fun x1718 ex1718 bx1718 => ?_)
    have ux1718 : le = x1718 := (ele).trans ex1718.symm
    subst ux1718
    refine lv_iconst (v := (-1)) hx hb dX5_goOn_18 (by decide) ?_
    refine lv_icmp_eq (tgt := 31) hx hb dX5_goOn_19 (by decide) (fun c1719 => ?_) (fun c1719 => ?_)
    · have k1720 := i_eq c1719
      refine lv_aload_n hx hb dX5_goOn_31 rfl (lv_at hl 0 rfl) ?_
      refine lv_iload hx hb dX5_goOn_32 (lv_at hl 4 rfl) ?_
      refine x_put C hT hS (ci := 5) (k := 3) (v := .int x4) (ty0 := tyX5) rfl inX5 tyX5_ok nmX5 (by decide) rfl wF_X5_27 ga0 rg_104 rfl rfl (okI (by have := i_rng x4; omega) (by have := i_rng x4; omega)) rfl rfl (AE_in ga0 (by decide)) dX5_goOn_34 (fun H1721 locsH1721 hTH1721 hSH1721 wH1721 => ?_)
      have f1722 : ∀ j : Nat, nl j = (fI H1721 nq j).toInt := fun j => (f0_nl j).trans (congrArg Int32.toInt (Wr.neI wH1721 (Or.inl (G_ne gnq ga0 (by decide)))).symm)
      have f1723 : ∀ j : Nat, bl j = (fI H1721 lq j).toInt := fun j => (f0_bl j).trans (congrArg Int32.toInt (Wr.neI wH1721 (Or.inl (G_ne glq ga0 (by decide)))).symm)
      have f1724 : ∀ j : Nat, br j = (fI H1721 kq j).toInt := fun j => (f0_br j).trans (congrArg Int32.toInt (Wr.neI wH1721 (Or.inl (G_ne gkq ga0 (by decide)))).symm)
      have f1725 : ∀ j : Nat, fI H1721 mq j = fI s.heap mq j := fun j => (fI_kept (wH1721.off (G_ne gmq ga0 (by decide)))).trans (x01712 j)
      have f1726 : ∀ j : Nat, fI H1721 bq j = fI s.heap bq j := fun j => (fI_kept (wH1721.off (G_ne gbq ga0 (by decide)))).trans (x01713 j)
      have f1727 : ∀ j : Nat, fI H1721 tq j = fI s.heap tq j := fun j => (fI_kept (wH1721.off (G_ne gtq ga0 (by decide)))).trans (x01714 j)
      have m1728 := etq.trans (Wr.neR wH1721 (Or.inr (x_apart hKT hts inX5 tyX5 tyX5_ok nmX5 rfl 1 3 (by decide) (by decide) (by decide)))).symm
      have m1729 := ebq.trans (Wr.neR wH1721 (Or.inr (x_apart hKT hts inX5 tyX5 tyX5_ok nmX5 rfl 0 3 (by decide) (by decide) (by decide)))).symm
      have m1730 := emq.trans (Wr.neR wH1721 (Or.inr (x_apart hKT hts inX5 tyX5 tyX5_ok nmX5 rfl 2 3 (by decide) (by decide) (by decide)))).symm
      have m1731 := enq.trans (Wr.neR wH1721 (Or.inl (G_ne ga1 ga0 (by decide)))).symm
      have m1732 := elq.trans (Wr.neR wH1721 (Or.inl (G_ne ga1 ga0 (by decide)))).symm
      have m1733 := ekq.trans (Wr.neR wH1721 (Or.inl (G_ne ga1 ga0 (by decide)))).symm
      have m1735 := enc.trans (Wr.neI wH1721 (Or.inl (G_ne ga1 ga0 (by decide)))).symm
      have m1736 := ebc.trans (Wr.neI wH1721 (Or.inl (G_ne ga1 ga0 (by decide)))).symm
      have m1737 := esd.trans (Wr.neI wH1721 (Or.inr (x_apart hKT hts inX5 tyX5 tyX5_ok nmX5 rfl 4 3 (by decide) (by decide) (by decide)))).symm
      have m1738 := Wr.I wH1721
      have m1738 := m1738.symm
      refine lv_aload_n hx hb dX5_goOn_37 rfl (lv_at hl 0 rfl) ?_
      refine x_gr C hTH1721 (ci := 5) (k := 1) rfl inX5 (by decide) wF_X5_15 ga0 rg_104 rfl dX5_goOn_38 (fun q1739 eq1739 gq1739 => ?_)
      have uq1739 : tq = q1739 := (m1728).trans eq1739.symm
      subst uq1739
      refine lv_iconst (v := 0) hx hb dX5_goOn_41 (by decide) ?_
      refine lv_aload_n hx hb dX5_goOn_42 rfl (lv_at hl 0 rfl) ?_
      refine x_gr C hTH1721 (ci := 5) (k := 0) rfl inX5 (by decide) wF_X5_9 ga0 rg_104 rfl dX5_goOn_43 (fun q1740 eq1740 gq1740 => ?_)
      have uq1740 : bq = q1740 := (m1729).trans eq1740.symm
      subst uq1740
      refine lv_iconst (v := 0) hx hb dX5_goOn_46 (by decide) ?_
      refine lv_bipush (v := 8) hx hb dX5_goOn_47 (by decide) ?_
      refine x_copy C hTH1721 hSH1721 wM_X5_43 wNT_arraycopy wST_arraycopy wIN_J10 gtq gbq rg_106 rg_105 (by decide) (by omega) (by omega) (by omega) (by show _ ≤ ((8 : Nat) : Int); omega) (by show _ ≤ ((8 : Nat) : Int); omega) (AE_in gbq (by decide)) hl.1 (by decide) dX5_goOn_49 (fun H1741 locsH1741 hTH1741 hSH1741 zH1741 oH1741 vH1741 wH1741 => ?_)
      have m1742 := (m1728).trans (fR_kept (oH1741 _ (G_ne ga0 gbq (by decide)))).symm
      have m1743 := (m1729).trans (fR_kept (oH1741 _ (G_ne ga0 gbq (by decide)))).symm
      have m1744 := (m1730).trans (fR_kept (oH1741 _ (G_ne ga0 gbq (by decide)))).symm
      have m1745 := (m1731).trans (fR_kept (oH1741 _ (G_ne ga1 gbq (by decide)))).symm
      have m1746 := (m1732).trans (fR_kept (oH1741 _ (G_ne ga1 gbq (by decide)))).symm
      have m1747 := (m1733).trans (fR_kept (oH1741 _ (G_ne ga1 gbq (by decide)))).symm
      have m1748 := (m1735).trans (fI_kept (oH1741 _ (G_ne ga1 gbq (by decide)))).symm
      have m1749 := (m1736).trans (fI_kept (oH1741 _ (G_ne ga1 gbq (by decide)))).symm
      have m1750 := (m1737).trans (fI_kept (oH1741 _ (G_ne ga0 gbq (by decide)))).symm
      have m1751 := (m1738).trans (fI_kept (oH1741 _ (G_ne ga0 gbq (by decide)))).symm
      have f1752 : ∀ j : Nat, nl j = (fI H1741 nq j).toInt := fun j => (f1722 j).trans (congrArg Int32.toInt (fI_kept (oH1741 _ (G_ne gnq gbq (by decide)))).symm)
      have f1753 : ∀ j : Nat, bl j = (fI H1741 lq j).toInt := fun j => (f1723 j).trans (congrArg Int32.toInt (fI_kept (oH1741 _ (G_ne glq gbq (by decide)))).symm)
      have f1754 : ∀ j : Nat, br j = (fI H1741 kq j).toInt := fun j => (f1724 j).trans (congrArg Int32.toInt (fI_kept (oH1741 _ (G_ne gkq gbq (by decide)))).symm)
      have f1755 : ∀ j : Nat, fI H1741 mq j = fI s.heap mq j := fun j => (fI_kept (oH1741 _ (G_ne gmq gbq (by decide)))).trans (f1725 j)
      have f1756 : ∀ j : Nat, fI H1741 tq j = fI s.heap tq j := fun j => (fI_kept (oH1741 _ (G_ne gtq gbq (by decide)))).trans (f1727 j)
      have c00 : (0 : Int32).toNatClampNeg = 0 := rfl
      have n_8_ : (8 : Int32).toInt = 8 := rfl
      have cpy_ : pr (fun j => (fI H1741 bq j).toInt) nc.toNatClampNeg = g := by rw [show nc.toNatClampNeg = 4 by omega, ← hy0]; exact pr_c 4 (fun j hj => congrArg Int32.toInt (by have z := wH1741 j (by omega); rw [c00, Nat.zero_add] at z; exact z.trans (f1727 j)))
      exact x_vret C hQ dX5_goOn_52 hSH1741 (by decide) (by decide) (⟨x4, rfl, m1751, m1742, m1743, m1744, m1750, ((pr_c 4 (fun j _ => congrArg Int32.toInt (f1756 j))).trans hy0), HD.mk (gm_yes (by omega) (by omega) hy2 (by omega) (fun j => congrArg Int32.toInt (f1755 j)) cpy_), hTH1741⟩)
    · have k1720 := i_ne c1719
      refine lv_iload hx hb dX5_goOn_22 (lv_at hl 4 rfl) ?_
      refine lv_aload_n hx hb dX5_goOn_24 rfl (lv_at hl 0 rfl) ?_
      refine x_gi C hT (ci := 5) (k := 3) rfl inX5 (by decide) wF_X5_27 ga0 rg_104 rfl dX5_goOn_25 (fun x1757 ex1757 bx1757 => ?_)
      have ux1757 : le = x1757 := (ele).trans ex1757.symm
      subst ux1757
      refine lv_icmp_ge (tgt := 52) hx hb dX5_goOn_28 (by decide) (fun c1758 => ?_) (fun c1758 => ?_)
      · have k1759 := i_le c1758
        exact x_vret C hQ dX5_goOn_52 hS (by decide) (by decide) (⟨le, rfl, ele, etq, ebq, emq, esd, ((pr_c 4 (fun j _ => congrArg Int32.toInt (x01714 j))).trans hy0), HD.mk (gm_not (by omega) (by omega) hy2 (fun j => congrArg Int32.toInt (x01712 j)) (fun j => congrArg Int32.toInt (x01713 j))), hT⟩)
      · have k1759 := i_nle c1758
        refine lv_aload_n hx hb dX5_goOn_31 rfl (lv_at hl 0 rfl) ?_
        refine lv_iload hx hb dX5_goOn_32 (lv_at hl 4 rfl) ?_
        refine x_put C hT hS (ci := 5) (k := 3) (v := .int x4) (ty0 := tyX5) rfl inX5 tyX5_ok nmX5 (by decide) rfl wF_X5_27 ga0 rg_104 rfl rfl (okI (by have := i_rng x4; omega) (by have := i_rng x4; omega)) rfl rfl (AE_in ga0 (by decide)) dX5_goOn_34 (fun H1760 locsH1760 hTH1760 hSH1760 wH1760 => ?_)
        have f1761 : ∀ j : Nat, nl j = (fI H1760 nq j).toInt := fun j => (f0_nl j).trans (congrArg Int32.toInt (Wr.neI wH1760 (Or.inl (G_ne gnq ga0 (by decide)))).symm)
        have f1762 : ∀ j : Nat, bl j = (fI H1760 lq j).toInt := fun j => (f0_bl j).trans (congrArg Int32.toInt (Wr.neI wH1760 (Or.inl (G_ne glq ga0 (by decide)))).symm)
        have f1763 : ∀ j : Nat, br j = (fI H1760 kq j).toInt := fun j => (f0_br j).trans (congrArg Int32.toInt (Wr.neI wH1760 (Or.inl (G_ne gkq ga0 (by decide)))).symm)
        have f1764 : ∀ j : Nat, fI H1760 mq j = fI s.heap mq j := fun j => (fI_kept (wH1760.off (G_ne gmq ga0 (by decide)))).trans (x01712 j)
        have f1765 : ∀ j : Nat, fI H1760 bq j = fI s.heap bq j := fun j => (fI_kept (wH1760.off (G_ne gbq ga0 (by decide)))).trans (x01713 j)
        have f1766 : ∀ j : Nat, fI H1760 tq j = fI s.heap tq j := fun j => (fI_kept (wH1760.off (G_ne gtq ga0 (by decide)))).trans (x01714 j)
        have m1767 := etq.trans (Wr.neR wH1760 (Or.inr (x_apart hKT hts inX5 tyX5 tyX5_ok nmX5 rfl 1 3 (by decide) (by decide) (by decide)))).symm
        have m1768 := ebq.trans (Wr.neR wH1760 (Or.inr (x_apart hKT hts inX5 tyX5 tyX5_ok nmX5 rfl 0 3 (by decide) (by decide) (by decide)))).symm
        have m1769 := emq.trans (Wr.neR wH1760 (Or.inr (x_apart hKT hts inX5 tyX5 tyX5_ok nmX5 rfl 2 3 (by decide) (by decide) (by decide)))).symm
        have m1770 := enq.trans (Wr.neR wH1760 (Or.inl (G_ne ga1 ga0 (by decide)))).symm
        have m1771 := elq.trans (Wr.neR wH1760 (Or.inl (G_ne ga1 ga0 (by decide)))).symm
        have m1772 := ekq.trans (Wr.neR wH1760 (Or.inl (G_ne ga1 ga0 (by decide)))).symm
        have m1774 := enc.trans (Wr.neI wH1760 (Or.inl (G_ne ga1 ga0 (by decide)))).symm
        have m1775 := ebc.trans (Wr.neI wH1760 (Or.inl (G_ne ga1 ga0 (by decide)))).symm
        have m1776 := esd.trans (Wr.neI wH1760 (Or.inr (x_apart hKT hts inX5 tyX5 tyX5_ok nmX5 rfl 4 3 (by decide) (by decide) (by decide)))).symm
        have m1777 := Wr.I wH1760
        have m1777 := m1777.symm
        refine lv_aload_n hx hb dX5_goOn_37 rfl (lv_at hl 0 rfl) ?_
        refine x_gr C hTH1760 (ci := 5) (k := 1) rfl inX5 (by decide) wF_X5_15 ga0 rg_104 rfl dX5_goOn_38 (fun q1778 eq1778 gq1778 => ?_)
        have uq1778 : tq = q1778 := (m1767).trans eq1778.symm
        subst uq1778
        refine lv_iconst (v := 0) hx hb dX5_goOn_41 (by decide) ?_
        refine lv_aload_n hx hb dX5_goOn_42 rfl (lv_at hl 0 rfl) ?_
        refine x_gr C hTH1760 (ci := 5) (k := 0) rfl inX5 (by decide) wF_X5_9 ga0 rg_104 rfl dX5_goOn_43 (fun q1779 eq1779 gq1779 => ?_)
        have uq1779 : bq = q1779 := (m1768).trans eq1779.symm
        subst uq1779
        refine lv_iconst (v := 0) hx hb dX5_goOn_46 (by decide) ?_
        refine lv_bipush (v := 8) hx hb dX5_goOn_47 (by decide) ?_
        refine x_copy C hTH1760 hSH1760 wM_X5_43 wNT_arraycopy wST_arraycopy wIN_J10 gtq gbq rg_106 rg_105 (by decide) (by omega) (by omega) (by omega) (by show _ ≤ ((8 : Nat) : Int); omega) (by show _ ≤ ((8 : Nat) : Int); omega) (AE_in gbq (by decide)) hl.1 (by decide) dX5_goOn_49 (fun H1780 locsH1780 hTH1780 hSH1780 zH1780 oH1780 vH1780 wH1780 => ?_)
        have m1781 := (m1767).trans (fR_kept (oH1780 _ (G_ne ga0 gbq (by decide)))).symm
        have m1782 := (m1768).trans (fR_kept (oH1780 _ (G_ne ga0 gbq (by decide)))).symm
        have m1783 := (m1769).trans (fR_kept (oH1780 _ (G_ne ga0 gbq (by decide)))).symm
        have m1784 := (m1770).trans (fR_kept (oH1780 _ (G_ne ga1 gbq (by decide)))).symm
        have m1785 := (m1771).trans (fR_kept (oH1780 _ (G_ne ga1 gbq (by decide)))).symm
        have m1786 := (m1772).trans (fR_kept (oH1780 _ (G_ne ga1 gbq (by decide)))).symm
        have m1787 := (m1774).trans (fI_kept (oH1780 _ (G_ne ga1 gbq (by decide)))).symm
        have m1788 := (m1775).trans (fI_kept (oH1780 _ (G_ne ga1 gbq (by decide)))).symm
        have m1789 := (m1776).trans (fI_kept (oH1780 _ (G_ne ga0 gbq (by decide)))).symm
        have m1790 := (m1777).trans (fI_kept (oH1780 _ (G_ne ga0 gbq (by decide)))).symm
        have f1791 : ∀ j : Nat, nl j = (fI H1780 nq j).toInt := fun j => (f1761 j).trans (congrArg Int32.toInt (fI_kept (oH1780 _ (G_ne gnq gbq (by decide)))).symm)
        have f1792 : ∀ j : Nat, bl j = (fI H1780 lq j).toInt := fun j => (f1762 j).trans (congrArg Int32.toInt (fI_kept (oH1780 _ (G_ne glq gbq (by decide)))).symm)
        have f1793 : ∀ j : Nat, br j = (fI H1780 kq j).toInt := fun j => (f1763 j).trans (congrArg Int32.toInt (fI_kept (oH1780 _ (G_ne gkq gbq (by decide)))).symm)
        have f1794 : ∀ j : Nat, fI H1780 mq j = fI s.heap mq j := fun j => (fI_kept (oH1780 _ (G_ne gmq gbq (by decide)))).trans (f1764 j)
        have f1795 : ∀ j : Nat, fI H1780 tq j = fI s.heap tq j := fun j => (fI_kept (oH1780 _ (G_ne gtq gbq (by decide)))).trans (f1766 j)
        have c00 : (0 : Int32).toNatClampNeg = 0 := rfl
        have n_8_ : (8 : Int32).toInt = 8 := rfl
        have cpy_ : pr (fun j => (fI H1780 bq j).toInt) nc.toNatClampNeg = g := by rw [show nc.toNatClampNeg = 4 by omega, ← hy0]; exact pr_c 4 (fun j hj => congrArg Int32.toInt (by have z := wH1780 j (by omega); rw [c00, Nat.zero_add] at z; exact z.trans (f1766 j)))
        exact x_vret C hQ dX5_goOn_52 hSH1780 (by decide) (by decide) (⟨x4, rfl, m1790, m1781, m1782, m1783, m1789, ((pr_c 4 (fun j _ => congrArg Int32.toInt (f1795 j))).trans hy0), HD.mk (gm_yes (by omega) (by omega) hy2 (by omega) (fun j => congrArg Int32.toInt (f1794 j)) cpy_), hTH1780⟩)
  · have k1717 := i_nle c1716
    refine lv_iload_n hx hb dX5_goOn_8 rfl (lv_at hl 2 rfl) ?_
    refine lv_bipush (v := 8) hx hb dX5_goOn_9 (by decide) ?_
    refine lv_icmp_lt (tgt := 53) hx hb dX5_goOn_11 (by decide) (fun c1796 => ?_) (fun c1796 => ?_)
    · have k1797 := i_lt c1796
      refine lv_iconst (v := 0) hx hb dX5_goOn_53 (by decide) ?_
      refine lv_istore (lv' := [(5, .int 0), (0, .ref a0), (1, .ref a1), (2, .int x2), (3, .int x3), (4, .int x4)]) hx hb dX5_goOn_54 hl (by decide) rfl (fun ls1798 hl1799 => ?_)
      exact J56 ((8 - (0 : Int32).toInt).toNat + 1)  ls1798 s.heap [] (0) (le) (lv_sub hl1799 [1, 2, 3, 4, 5, 0] rfl) hT hS (by decide) ele etq ebq emq enq elq ekq enc ebc esd f0_nl f0_bl f0_br (by omega) (by omega) (HD.mk (gm_start (by omega))) hy0
    · have k1797 := i_nlt c1796
      exfalso
      omega

set_option maxHeartbeats 4000000 in
set_option maxRecDepth 100000 in
theorem a_X5_goOn_e3 (l : Launch) (K : KE) (G : Nat → Option Nat) (H : Heap) {a0 : Nat} {a1 : Nat} (x2 : Int32) (x3 : Int32) (x4 : Int32) {tq : Nat} {bq : Nat} {mq : Nat} {nq : Nat} {lq : Nat} {kq : Nat} (le : Int32) (nc : Int32) (bc : Int32) (sd : Int32) (g : List Nat) (nl : Nat → Int) (bl : Nat → Int) (br : Nat → Int) (hT : TY K G H) (ga0 : G a0 = some 104) (ga1 : G a1 = some 0) (hx2 : 3 ≤ x2.toInt ∧ x2.toInt ≤ 3) (hx3 : 0 ≤ x3.toInt ∧ x3.toInt ≤ 255) (hx4 : 0 ≤ x4.toInt ∧ x4.toInt ≤ 297) (gtq : G tq = some 106) (etq : tq = fR H a0 (K.1.2 5 1)) (gbq : G bq = some 105) (ebq : bq = fR H a0 (K.1.2 5 0)) (gmq : G mq = some 107) (emq : mq = fR H a0 (K.1.2 5 2)) (gnq : G nq = some 31) (enq : nq = fR H a1 (K.1.2 8 12)) (glq : G lq = some 32) (elq : lq = fR H a1 (K.1.2 8 14)) (gkq : G kq = some 33) (ekq : kq = fR H a1 (K.1.2 8 15)) (ele : le = fI H a0 (K.1.2 5 3)) (enc : nc = fI H a1 (K.1.2 8 13)) (ebc : bc = fI H a1 (K.1.2 8 16)) (esd : sd = fI H a0 (K.1.2 5 4)) (hp0 : 3 ≤ nc.toInt) (hy0 : pr (fun j => (fI H tq j).toInt) 3 = g) (hy1 : x3.toInt = ((ky g : Nat) : Int)) (hy2 : x4.toInt = wsB nl bl g) (hy3 : ∀ x ∈ g, x < bc.toNatClampNeg) (hy4 : ∀ j : Nat, j < nc.toNatClampNeg → 0 ≤ nl j ∧ nl j ≤ 99) (hy5 : ∀ j : Nat, j < bc.toNatClampNeg → 0 ≤ bl j ∧ bl j ≤ 99) (hy6 : ∀ j : Nat, j < bc.toNatClampNeg → 0 ≤ br j ∧ br j ≤ 99) (hv_nl : ∀ j : Nat, nl j = (fI H nq j).toInt) (hv_bl : ∀ j : Nat, bl j = (fI H lq j).toInt) (hv_br : ∀ j : Nat, br j = (fI H kq j).toInt) : MX l K yX5_goOn cX5_goOn 8 none 6 175 0 0 [.ref a0, .ref a1, .int x2, .int x3, .int x4] H (AE G [104, 105, 106, 107] H.size) (fun v H1 => ∃ (t0 : Int32), v = none ∧ t0 = fI H1 a0 (K.1.2 5 3) ∧ tq = fR H1 a0 (K.1.2 5 1) ∧ bq = fR H1 a0 (K.1.2 5 0) ∧ mq = fR H1 a0 (K.1.2 5 2) ∧ sd = fI H1 a0 (K.1.2 5 4) ∧ (pr (fun j => (fI H1 tq j).toInt) 3 = g) ∧ (HD (goM nl bl br sd.toInt bc.toNatClampNeg (nc.toNatClampNeg - 3) g ((fun j => (fI H mq j).toInt), le.toInt, acL le.toInt (fun j => (fI H bq j).toInt) nc.toNatClampNeg) = ((fun j => (fI H1 mq j).toInt), t0.toInt, acL t0.toInt (fun j => (fI H1 bq j).toInt) nc.toNatClampNeg))) ∧ TY K G H1) := by
  refine MX.of (by decide +kernel) (Nat.le_of_ble_eq_true rfl) ?_
  intro p e s m below meth c ls Q C hH hl hQ
  subst hH
  have C : CX p K s m _ meth c RX5 cX5_goOn 8 none "goOn" := C
  obtain ⟨hx, hb, hml, hown, hts, hKT, hr, hlocks, hnm⟩ := id C
  have hl : lv_has ls 8 [(0, .ref a0), (1, .ref a1), (2, .int x2), (3, .int x3), (4, .int x4)] := hl
  have hS : va_S (AE G [104, 105, 106, 107] s.heap.size) s.heap s.heap [] := va_S.rf
  have n_m1 : ((-1) : Int32).toInt = -1 := rfl
  have n_0 : (0 : Int32).toInt = 0 := rfl
  have n_1 : (1 : Int32).toInt = 1 := rfl
  have n_8 : (8 : Int32).toInt = 8 := rfl
  have ble := ty_fi (x := le) (k := 3) ele hT ga0 rg_104 rfl
  have bnc := ty_fi (x := nc) (k := 13) enc hT ga1 rg_0 rfl
  have bbc := ty_fi (x := bc) (k := 16) ebc hT ga1 rg_0 rfl
  have bsd := ty_fi (x := sd) (k := 4) esd hT ga0 rg_104 rfl
  have f0_nl := hv_nl
  have f0_bl := hv_bl
  have f0_br := hv_br
  have J56 : ∀ (nf : Nat)  (ls1582 : Array Slot) (H1581 : Heap) (locsH1581 : List Loc) (x1584 : Int32) (x1585 : Int32), lv_has ls1582 8 [(0, .ref a0), (1, .ref a1), (2, .int x2), (3, .int x3), (4, .int x4), (5, .int x1584)] → TY K G H1581 → va_S (AE G [104, 105, 106, 107] s.heap.size) s.heap H1581 locsH1581 → (0 ≤ x1584.toInt ∧ x1584.toInt ≤ 8) → (x1585 = fI H1581 a0 (K.1.2 5 3)) → (tq = fR H1581 a0 (K.1.2 5 1)) → (bq = fR H1581 a0 (K.1.2 5 0)) → (mq = fR H1581 a0 (K.1.2 5 2)) → (nq = fR H1581 a1 (K.1.2 8 12)) → (lq = fR H1581 a1 (K.1.2 8 14)) → (kq = fR H1581 a1 (K.1.2 8 15)) → (nc = fI H1581 a1 (K.1.2 8 13)) → (bc = fI H1581 a1 (K.1.2 8 16)) → (sd = fI H1581 a0 (K.1.2 5 4)) → (∀ j : Nat, nl j = (fI H1581 nq j).toInt) → (∀ j : Nat, bl j = (fI H1581 lq j).toInt) → (∀ j : Nat, br j = (fI H1581 kq j).toInt) → (8 - x1584.toInt < (nf : Int)) → (3 < nc.toInt) → (HD (goM nl bl br sd.toInt bc.toNatClampNeg (nc.toNatClampNeg - 3) g ((fun j => (fI s.heap mq j).toInt), le.toInt, acL le.toInt (fun j => (fI s.heap bq j).toInt) nc.toNatClampNeg) = frM (gF nl bl br sd.toInt bc.toNatClampNeg (nc.toNatClampNeg - 4) g) (bc.toNatClampNeg - x1584.toNatClampNeg) x1584.toNatClampNeg ((fun j => (fI H1581 mq j).toInt), x1585.toInt, acL x1585.toInt (fun j => (fI H1581 bq j).toInt) nc.toNatClampNeg))) → (pr (fun j => (fI H1581 tq j).toInt) 3 = g) → W p l e ({ frames := 6, cells := 0, slots := 0, locals := 175 } : Room) s m (([.ref a0, .ref a1, .int x2, .int x3, .int x4] : List Value).toArray) below meth c H1581 locsH1581 0 0 Q (F0 m 56 ls1582 []) := by
    intro nf
    induction nf with
    | zero =>
      intro  ls1582 H1581 locsH1581 x1584 x1585 hl1583 hTH1581 hSH1581 bx1584 ex1585 cy1586_0 cy1586_1 cy1586_2 cy1586_3 cy1586_4 cy1586_5 cy1586_6 cy1586_7 cy1586_8 fy1586_nl fy1586_bl fy1586_br hm56 iv56 hsp56 hpr56
      have rx1585 := i_rng x1585
      exfalso
      omega
    | succ nf ih56 =>
      intro  ls1582 H1581 locsH1581 x1584 x1585 hl1583 hTH1581 hSH1581 bx1584 ex1585 cy1586_0 cy1586_1 cy1586_2 cy1586_3 cy1586_4 cy1586_5 cy1586_6 cy1586_7 cy1586_8 fy1586_nl fy1586_bl fy1586_br hm56 iv56 hsp56 hpr56
      have rx1585 := i_rng x1585
      have hlen : g.length = 3 := by rw [← hy0, pr_len]
      have cn_x1584 := i_cl (x := x1584) (by omega)
      have cn_bc := i_cl (x := bc) (by omega)
      have cn_nc := i_cl (x := nc) (by omega)
      have cn_x2 := i_cl (x := x2) (by omega)
      have x01587 : ∀ j : Nat, fI H1581 mq j = fI H1581 mq j := fun _ => rfl
      have x01588 : ∀ j : Nat, fI H1581 bq j = fI H1581 bq j := fun _ => rfl
      have x01589 : ∀ j : Nat, fI H1581 tq j = fI H1581 tq j := fun _ => rfl
      refine lv_iload hx hb dX5_goOn_56 (lv_at hl1583 5 rfl) ?_
      refine lv_aload_n hx hb dX5_goOn_58 rfl (lv_at hl1583 1 rfl) ?_
      refine x_gi C hTH1581 (ci := 8) (k := 16) rfl inX8 (by decide) wF_X5_49 ga1 rg_0 rfl dX5_goOn_59 (fun x1590 ex1590 bx1590 => ?_)
      have ux1590 : bc = x1590 := (cy1586_7).trans ex1590.symm
      subst ux1590
      refine lv_icmp_ge (tgt := 158) hx hb dX5_goOn_62 (by decide) (fun c1591 => ?_) (fun c1591 => ?_)
      · have k1592 := i_le c1591
        exact x_vret C hQ dX5_goOn_158 hSH1581 (by decide) (by decide) (⟨x1585, rfl, ex1585, cy1586_0, cy1586_1, cy1586_2, cy1586_8, hpr56, HD.mk ((HD.get hsp56).trans (gm_end (by omega))), hTH1581⟩)
      · have k1592 := i_nle c1591
        refine lv_aload_n hx hb dX5_goOn_65 rfl (lv_at hl1583 1 rfl) ?_
        refine x_gr C hTH1581 (ci := 8) (k := 14) rfl inX8 (by decide) wF_X5_52 ga1 rg_0 rfl dX5_goOn_66 (fun q1593 eq1593 gq1593 => ?_)
        have uq1593 : lq = q1593 := (cy1586_4).trans eq1593.symm
        subst uq1593
        refine lv_iload hx hb dX5_goOn_69 (lv_at hl1583 5 rfl) ?_
        refine x_ai C hTH1581 glq rg_32 ⟨by omega, by show _ < ((8 : Nat) : Int); omega⟩ dX5_goOn_71 (fun x1594 ex1594 bx1594 => ?_)
        have qvx1594 : bl x1584.toNatClampNeg = x1594.toInt := (fy1586_bl _).trans (congrArg Int32.toInt ex1594.symm)
        have hn_x1594 : 0 ≤ x1594.toInt ∧ x1594.toInt ≤ 99 := by have c_ := i_cl (x := x1584) (by omega); have d_ := i_cl (x := bc) (by omega); have q_ := hy5 x1584.toNatClampNeg (by omega); omega
        refine lv_aload_n hx hb dX5_goOn_72 rfl (lv_at hl1583 1 rfl) ?_
        refine x_gr C hTH1581 (ci := 8) (k := 12) rfl inX8 (by decide) wF_X5_55 ga1 rg_0 rfl dX5_goOn_73 (fun q1595 eq1595 gq1595 => ?_)
        have uq1595 : nq = q1595 := (cy1586_3).trans eq1595.symm
        subst uq1595
        refine lv_iload_n hx hb dX5_goOn_76 rfl (lv_at hl1583 2 rfl) ?_
        refine x_ai C hTH1581 gnq rg_31 ⟨by omega, by show _ < ((8 : Nat) : Int); omega⟩ dX5_goOn_77 (fun x1596 ex1596 bx1596 => ?_)
        have qvx1596 : nl x2.toNatClampNeg = x1596.toInt := (fy1586_nl _).trans (congrArg Int32.toInt ex1596.symm)
        have hn_x1596 : 0 ≤ x1596.toInt ∧ x1596.toInt ≤ 99 := by have c_ := i_cl (x := x2) (by omega); have d_ := i_cl (x := nc) (by omega); have q_ := hy4 x2.toNatClampNeg (by omega); omega
        refine lv_isub hx hb dX5_goOn_78 ?_
        refine lv_topi (fun x1597 ex1597 => ?_)
        have tx1597 := i_sub ex1597 (by omega)
        refine lv_istore (lv' := [(6, .int x1597), (0, .ref a0), (1, .ref a1), (2, .int x2), (3, .int x3), (4, .int x4), (5, .int x1584)]) hx hb dX5_goOn_79 hl1583 (by decide) rfl (fun ls1598 hl1599 => ?_)
        refine lv_iload_n hx hb dX5_goOn_81 rfl (lv_at hl1599 4 rfl) ?_
        refine lv_iconst (v := 1) hx hb dX5_goOn_82 (by decide) ?_
        refine lv_iload hx hb dX5_goOn_83 (lv_at hl1599 6 rfl) ?_
        refine lv_ishl hx hb dX5_goOn_85 ?_
        refine lv_topi (fun x1600 ex1600 => ?_)
        have tx1600 := i_shl7 ex1600 (by omega)
        refine lv_ior hx hb dX5_goOn_86 ?_
        refine lv_topi (fun x1601 ex1601 => ?_)
        have tx1601 := i_or8 ex1601 (by omega) (by omega)
        refine lv_istore (lv' := [(7, .int x1601), (6, .int x1597), (0, .ref a0), (1, .ref a1), (2, .int x2), (3, .int x3), (4, .int x4), (5, .int x1584)]) hx hb dX5_goOn_87 hl1599 (by decide) rfl (fun ls1602 hl1603 => ?_)
        have hky_ : x1601.toInt = ((ky (x1584.toNatClampNeg :: g) : Nat) : Int) := sb_ky hy1 (by omega) (by omega) ex1600 ex1601
        have cn_x1601 := i_cl (x := x1601) (by omega)
        refine lv_iload hx hb dX5_goOn_89 (lv_at hl1603 0 rfl) ?_
        refine lv_iload_n hx hb dX5_goOn_91 rfl (lv_at hl1603 5 rfl) ?_
        refine lv_icmp_eq (tgt := 152) hx hb dX5_goOn_92 (by decide) (fun c1604 => ?_) (fun c1604 => ?_)
        · have k1605 := i_eq c1604
          obtain ⟨x1606, ex1606⟩ : ∃ y : Int32, y = x1584 + 1 := ⟨_, rfl⟩
          have tx1606 := i_add ex1606 (by omega)
          refine lv_iinc (v := x1606) (lv' := [(5, .int x1606), (7, .int x1601), (6, .int x1597), (0, .ref a0), (1, .ref a1), (2, .int x2), (3, .int x3), (4, .int x4)]) hx hb dX5_goOn_152 hl1603 (k := 7) rfl (by rw [ex1606]; rfl) (by decide) rfl (fun ls1607 hl1608 => ?_)
          refine lv_goto (tgt := 56) hx hb dX5_goOn_155 (by decide) ?_
          have cn_x1606 := i_cl (x := x1606) (by omega)
          have sk_ : frM (gF nl bl br sd.toInt bc.toNatClampNeg (nc.toNatClampNeg - 4) g) (bc.toNatClampNeg - x1584.toNatClampNeg) x1584.toNatClampNeg ((fun j => (fI H1581 mq j).toInt), x1585.toInt, acL x1585.toInt (fun j => (fI H1581 bq j).toInt) nc.toNatClampNeg) = frM (gF nl bl br sd.toInt bc.toNatClampNeg (nc.toNatClampNeg - 4) g) (bc.toNatClampNeg - x1606.toNatClampNeg) x1606.toNatClampNeg ((fun j => (fI H1581 mq j).toInt), x1585.toInt, acL x1585.toInt (fun j => (fI H1581 bq j).toInt) nc.toNatClampNeg) := gm_skip (by omega) (by omega) (Or.inl (okB_n1 (ky_eq.mp (by omega))))
          exact ih56  ls1607 H1581 locsH1581 (x1606) (x1585) (lv_sub hl1608 [3, 4, 5, 6, 7, 0] rfl) hTH1581 hSH1581 (by have := i_rng x1606; omega) ex1585 cy1586_0 cy1586_1 cy1586_2 cy1586_3 cy1586_4 cy1586_5 cy1586_6 cy1586_7 cy1586_8 fy1586_nl fy1586_bl fy1586_br (by omega) (by omega) (HD.mk ((HD.get hsp56).trans sk_)) hpr56
        · have k1605 := i_ne c1604
          refine lv_iload hx hb dX5_goOn_95 (lv_at hl1603 1 rfl) ?_
          refine lv_if_lt (tgt := 152) hx hb dX5_goOn_97 (by decide) (fun c1609 => ?_) (fun c1609 => ?_)
          · have k1610 := i_lt c1609
            obtain ⟨x1611, ex1611⟩ : ∃ y : Int32, y = x1584 + 1 := ⟨_, rfl⟩
            have tx1611 := i_add ex1611 (by omega)
            refine lv_iinc (v := x1611) (lv' := [(5, .int x1611), (7, .int x1601), (6, .int x1597), (0, .ref a0), (1, .ref a1), (2, .int x2), (3, .int x3), (4, .int x4)]) hx hb dX5_goOn_152 hl1603 (k := 7) rfl (by rw [ex1611]; rfl) (by decide) rfl (fun ls1612 hl1613 => ?_)
            refine lv_goto (tgt := 56) hx hb dX5_goOn_155 (by decide) ?_
            have cn_x1611 := i_cl (x := x1611) (by omega)
            have qk_ : nl 3 = _ := (congrArg nl (show 3 = x2.toNatClampNeg by omega)).trans qvx1596
            have sk_ : frM (gF nl bl br sd.toInt bc.toNatClampNeg (nc.toNatClampNeg - 4) g) (bc.toNatClampNeg - x1584.toNatClampNeg) x1584.toNatClampNeg ((fun j => (fI H1581 mq j).toInt), x1585.toInt, acL x1585.toInt (fun j => (fI H1581 bq j).toInt) nc.toNatClampNeg) = frM (gF nl bl br sd.toInt bc.toNatClampNeg (nc.toNatClampNeg - 4) g) (bc.toNatClampNeg - x1611.toNatClampNeg) x1611.toNatClampNeg ((fun j => (fI H1581 mq j).toInt), x1585.toInt, acL x1585.toInt (fun j => (fI H1581 bq j).toInt) nc.toNatClampNeg) := gm_skip (by omega) (by omega) (Or.inl (okB_n2 hlen (by omega)))
            exact ih56  ls1612 H1581 locsH1581 (x1611) (x1585) (lv_sub hl1613 [3, 4, 5, 6, 7, 0] rfl) hTH1581 hSH1581 (by have := i_rng x1611; omega) ex1585 cy1586_0 cy1586_1 cy1586_2 cy1586_3 cy1586_4 cy1586_5 cy1586_6 cy1586_7 cy1586_8 fy1586_nl fy1586_bl fy1586_br (by omega) (by omega) (HD.mk ((HD.get hsp56).trans sk_)) hpr56
          · have k1610 := i_nlt c1609
            refine lv_aload_n hx hb dX5_goOn_100 rfl (lv_at hl1603 2 rfl) ?_
            refine x_gr C hTH1581 (ci := 5) (k := 2) rfl inX5 (by decide) wF_X5_18 ga0 rg_104 rfl dX5_goOn_101 (fun q1614 eq1614 gq1614 => ?_)
            have uq1614 : mq = q1614 := (cy1586_2).trans eq1614.symm
            subst uq1614
            refine lv_iload hx hb dX5_goOn_104 (lv_at hl1603 0 rfl) ?_
            refine x_ai C hTH1581 gmq rg_107 ⟨by omega, by show _ < ((256 : Nat) : Int); omega⟩ dX5_goOn_106 (fun x1615 ex1615 bx1615 => ?_)
            refine lv_if_ne (tgt := 152) hx hb dX5_goOn_107 (by decide) (fun c1616 => ?_) (fun c1616 => ?_)
            · have k1617 := i_ne c1616
              obtain ⟨x1618, ex1618⟩ : ∃ y : Int32, y = x1584 + 1 := ⟨_, rfl⟩
              have tx1618 := i_add ex1618 (by omega)
              refine lv_iinc (v := x1618) (lv' := [(5, .int x1618), (7, .int x1601), (6, .int x1597), (0, .ref a0), (1, .ref a1), (2, .int x2), (3, .int x3), (4, .int x4)]) hx hb dX5_goOn_152 hl1603 (k := 7) rfl (by rw [ex1618]; rfl) (by decide) rfl (fun ls1619 hl1620 => ?_)
              refine lv_goto (tgt := 56) hx hb dX5_goOn_155 (by decide) ?_
              have cn_x1618 := i_cl (x := x1618) (by omega)
              have hm1_ : (fun j => (fI H1581 mq j).toInt) (ky (x1584.toNatClampNeg :: g)) ≠ 0 := by show (fI _ mq _).toInt ≠ 0; rw [show ky (x1584.toNatClampNeg :: g) = x1601.toNatClampNeg by omega, ← x01587 _, ← ex1615]; omega
              have sk_ : frM (gF nl bl br sd.toInt bc.toNatClampNeg (nc.toNatClampNeg - 4) g) (bc.toNatClampNeg - x1584.toNatClampNeg) x1584.toNatClampNeg ((fun j => (fI H1581 mq j).toInt), x1585.toInt, acL x1585.toInt (fun j => (fI H1581 bq j).toInt) nc.toNatClampNeg) = frM (gF nl bl br sd.toInt bc.toNatClampNeg (nc.toNatClampNeg - 4) g) (bc.toNatClampNeg - x1618.toNatClampNeg) x1618.toNatClampNeg ((fun j => (fI H1581 mq j).toInt), x1585.toInt, acL x1585.toInt (fun j => (fI H1581 bq j).toInt) nc.toNatClampNeg) := gm_skip (by omega) (by omega) (Or.inr hm1_)
              exact ih56  ls1619 H1581 locsH1581 (x1618) (x1585) (lv_sub hl1620 [3, 4, 5, 6, 7, 0] rfl) hTH1581 hSH1581 (by have := i_rng x1618; omega) ex1585 cy1586_0 cy1586_1 cy1586_2 cy1586_3 cy1586_4 cy1586_5 cy1586_6 cy1586_7 cy1586_8 fy1586_nl fy1586_bl fy1586_br (by omega) (by omega) (HD.mk ((HD.get hsp56).trans sk_)) hpr56
            · have k1617 := i_eq c1616
              refine lv_aload_n hx hb dX5_goOn_110 rfl (lv_at hl1603 2 rfl) ?_
              refine lv_aload_n hx hb dX5_goOn_111 rfl (lv_at hl1603 3 rfl) ?_
              refine lv_iload_n hx hb dX5_goOn_112 rfl (lv_at hl1603 5 rfl) ?_
              refine lv_iload hx hb dX5_goOn_113 (lv_at hl1603 7 rfl) ?_
              refine x_V (As := [.ref a1, .int x3, .int x1584]) (rest := []) C (a_X5_ringsTogether_e l K G H1581 (x3) (x1584) (sd) (bc) (g) br hTH1581 ga0 ga1 (by omega) (by omega) gkq cy1586_5 cy1586_8 cy1586_7 (by omega) (hy1) (hy6) fy1586_br) yo_X5_ringsTogether wM_X5_58 ⟨⟨by decide, by decide⟩, by decide, by decide⟩ (x_rv C hTH1581 (ci := 5) rfl ga0 rg_104) rfl hl1603.1 rfl (Nat.le_of_ble_eq_true rfl) dX5_goOn_115 hSH1581 (AE_sub (fun _ _ => rfl) (by decide) hSH1581.1) (fun vH1621 H1621 locsH1621 pH1621 zH1621 kH1621 hSH1621 => ?_)
              obtain ⟨x1622, hvH1621, bx1622, m1623, hTH1621⟩ := pH1621
              subst hvH1621
              have f1624 : ∀ j : Nat, nl j = (fI H1621 nq j).toInt := fun j => (fy1586_nl j).trans (congrArg Int32.toInt (fI_kept (x_lt hTH1581 kH1621 gnq (by decide))).symm)
              have f1625 : ∀ j : Nat, bl j = (fI H1621 lq j).toInt := fun j => (fy1586_bl j).trans (congrArg Int32.toInt (fI_kept (x_lt hTH1581 kH1621 glq (by decide))).symm)
              have f1626 : ∀ j : Nat, br j = (fI H1621 kq j).toInt := fun j => (fy1586_br j).trans (congrArg Int32.toInt (fI_kept (x_lt hTH1581 kH1621 gkq (by decide))).symm)
              have f1627 : ∀ j : Nat, fI H1621 mq j = fI H1581 mq j := fun j => (fI_kept (x_lt hTH1581 kH1621 gmq (by decide))).trans (x01587 j)
              have f1628 : ∀ j : Nat, fI H1621 bq j = fI H1581 bq j := fun j => (fI_kept (x_lt hTH1581 kH1621 gbq (by decide))).trans (x01588 j)
              have f1629 : ∀ j : Nat, fI H1621 tq j = fI H1581 tq j := fun j => (fI_kept (x_lt hTH1581 kH1621 gtq (by decide))).trans (x01589 j)
              have m1630 := (ex1585).trans (fI_kept (x_lt hTH1581 kH1621 ga0 (by decide))).symm
              have m1631 := (cy1586_0).trans (fR_kept (x_lt hTH1581 kH1621 ga0 (by decide))).symm
              have m1632 := (cy1586_1).trans (fR_kept (x_lt hTH1581 kH1621 ga0 (by decide))).symm
              have m1633 := (cy1586_2).trans (fR_kept (x_lt hTH1581 kH1621 ga0 (by decide))).symm
              have m1634 := (cy1586_3).trans (fR_kept (x_lt hTH1581 kH1621 ga1 (by decide))).symm
              have m1635 := (cy1586_4).trans (fR_kept (x_lt hTH1581 kH1621 ga1 (by decide))).symm
              have m1636 := (cy1586_5).trans (fR_kept (x_lt hTH1581 kH1621 ga1 (by decide))).symm
              have m1637 := (cy1586_6).trans (fI_kept (x_lt hTH1581 kH1621 ga1 (by decide))).symm
              have m1638 := (cy1586_7).trans (fI_kept (x_lt hTH1581 kH1621 ga1 (by decide))).symm
              have m1639 := (cy1586_8).trans (fI_kept (x_lt hTH1581 kH1621 ga0 (by decide))).symm
              have m1640 := (ex1594).trans (fI_kept (x_lt hTH1581 kH1621 glq (by decide))).symm
              have m1641 := (ex1596).trans (fI_kept (x_lt hTH1581 kH1621 gnq (by decide))).symm
              have m1642 := (ex1615).trans (fI_kept (x_lt hTH1581 kH1621 gmq (by decide))).symm
              refine W.eq (g2 := F0 m 118 ls1602 [.int x1622]) rfl ?_
              refine lv_if_eq (tgt := 152) hx hb dX5_goOn_118 (by decide) (fun c1643 => ?_) (fun c1643 => ?_)
              · have k1644 := i_eq c1643
                obtain ⟨x1645, ex1645⟩ : ∃ y : Int32, y = x1584 + 1 := ⟨_, rfl⟩
                have tx1645 := i_add ex1645 (by omega)
                refine lv_iinc (v := x1645) (lv' := [(5, .int x1645), (7, .int x1601), (6, .int x1597), (0, .ref a0), (1, .ref a1), (2, .int x2), (3, .int x3), (4, .int x4)]) hx hb dX5_goOn_152 hl1603 (k := 7) rfl (by rw [ex1645]; rfl) (by decide) rfl (fun ls1646 hl1647 => ?_)
                refine lv_goto (tgt := 56) hx hb dX5_goOn_155 (by decide) ?_
                have cn_x1645 := i_cl (x := x1645) (by omega)
                have sk_ : frM (gF nl bl br sd.toInt bc.toNatClampNeg (nc.toNatClampNeg - 4) g) (bc.toNatClampNeg - x1584.toNatClampNeg) x1584.toNatClampNeg ((fun j => (fI H1581 mq j).toInt), x1585.toInt, acL x1585.toInt (fun j => (fI H1581 bq j).toInt) nc.toNatClampNeg) = frM (gF nl bl br sd.toInt bc.toNatClampNeg (nc.toNatClampNeg - 4) g) (bc.toNatClampNeg - x1645.toNatClampNeg) x1645.toNatClampNeg ((fun j => (fI H1581 mq j).toInt), x1585.toInt, acL x1585.toInt (fun j => (fI H1581 bq j).toInt) nc.toNatClampNeg) := gm_skip (by omega) (by omega) (Or.inl (okB_n3 ((HD.get m1623).elim (fun z => absurd z.1 (by omega)) (fun z => z.2))))
                have em_ : (fun j => (fI H1621 mq j).toInt) = (fun j => (fI H1581 mq j).toInt) := funext fun j => congrArg Int32.toInt (f1627 j)
                have eb_ : (fun j => (fI H1621 bq j).toInt) = (fun j => (fI H1581 bq j).toInt) := funext fun j => congrArg Int32.toInt (f1628 j)
                exact ih56  ls1646 H1621 locsH1621 (x1645) (x1585) (lv_sub hl1647 [3, 4, 5, 6, 7, 0] rfl) hTH1621 hSH1621 (by have := i_rng x1645; omega) m1630 m1631 m1632 m1633 m1634 m1635 m1636 m1637 m1638 m1639 f1624 f1625 f1626 (by omega) (by omega) (HD.mk ((HD.get hsp56).trans (sk_.trans (by rw [em_, eb_])))) ((pr_c 3 (fun j _ => congrArg Int32.toInt (f1629 j))).trans hpr56)
              · have k1644 := i_ne c1643
                have qk_ : nl 3 = _ := (congrArg nl (show 3 = x2.toNatClampNeg by omega)).trans qvx1596
                have hok_ : okB nl bl br sd.toInt g x1584.toNatClampNeg = true := okB_y hlen (fun z => by have q_ := ky_eq.mpr z; omega) (by omega) hy3 ((HD.get m1623).elim (fun z => z.2) (fun z => absurd z.1 (by omega)))
                have hm0_ : (fun j => (fI H1581 mq j).toInt) (ky (x1584.toNatClampNeg :: g)) = 0 := by show (fI _ mq _).toInt = 0; rw [show ky (x1584.toNatClampNeg :: g) = x1601.toNatClampNeg by omega, ← x01587 _, ← ex1615]; omega
                refine lv_aload_n hx hb dX5_goOn_121 rfl (lv_at hl1603 2 rfl) ?_
                refine x_gr C hTH1621 (ci := 5) (k := 2) rfl inX5 (by decide) wF_X5_18 ga0 rg_104 rfl dX5_goOn_122 (fun q1648 eq1648 gq1648 => ?_)
                have uq1648 : mq = q1648 := (m1633).trans eq1648.symm
                subst uq1648
                refine lv_iload hx hb dX5_goOn_125 (lv_at hl1603 0 rfl) ?_
                refine lv_iconst (v := 1) hx hb dX5_goOn_127 (by decide) ?_
                refine x_iast C hTH1621 hSH1621 gmq rg_107 (by omega) (by show _ < ((256 : Nat) : Int); omega) (by decide) (AE_in gmq (by decide)) dX5_goOn_128 (fun H1649 locsH1649 hTH1649 hSH1649 wH1649 => ?_)
                have f1650 : ∀ j : Nat, nl j = (fI H1649 nq j).toInt := fun j => (f1624 j).trans (congrArg Int32.toInt (Wr.neI wH1649 (Or.inl (G_ne gnq gmq (by decide)))).symm)
                have f1651 : ∀ j : Nat, bl j = (fI H1649 lq j).toInt := fun j => (f1625 j).trans (congrArg Int32.toInt (Wr.neI wH1649 (Or.inl (G_ne glq gmq (by decide)))).symm)
                have f1652 : ∀ j : Nat, br j = (fI H1649 kq j).toInt := fun j => (f1626 j).trans (congrArg Int32.toInt (Wr.neI wH1649 (Or.inl (G_ne gkq gmq (by decide)))).symm)
                have f1653 : ∀ j : Nat, fI H1649 bq j = fI H1581 bq j := fun j => (fI_kept (wH1649.off (G_ne gbq gmq (by decide)))).trans (f1628 j)
                have f1654 : ∀ j : Nat, fI H1649 tq j = fI H1581 tq j := fun j => (fI_kept (wH1649.off (G_ne gtq gmq (by decide)))).trans (f1629 j)
                have m1655 := m1630.trans (Wr.neI wH1649 (Or.inl (G_ne ga0 gmq (by decide)))).symm
                have m1656 := m1631.trans (Wr.neR wH1649 (Or.inl (G_ne ga0 gmq (by decide)))).symm
                have m1657 := m1632.trans (Wr.neR wH1649 (Or.inl (G_ne ga0 gmq (by decide)))).symm
                have m1658 := m1633.trans (Wr.neR wH1649 (Or.inl (G_ne ga0 gmq (by decide)))).symm
                have m1659 := m1634.trans (Wr.neR wH1649 (Or.inl (G_ne ga1 gmq (by decide)))).symm
                have m1660 := m1635.trans (Wr.neR wH1649 (Or.inl (G_ne ga1 gmq (by decide)))).symm
                have m1661 := m1636.trans (Wr.neR wH1649 (Or.inl (G_ne ga1 gmq (by decide)))).symm
                have m1662 := m1637.trans (Wr.neI wH1649 (Or.inl (G_ne ga1 gmq (by decide)))).symm
                have m1663 := m1638.trans (Wr.neI wH1649 (Or.inl (G_ne ga1 gmq (by decide)))).symm
                have m1664 := m1639.trans (Wr.neI wH1649 (Or.inl (G_ne ga0 gmq (by decide)))).symm
                have m1665 := m1640.trans (Wr.neI wH1649 (Or.inl (G_ne glq gmq (by decide)))).symm
                have m1666 := m1641.trans (Wr.neI wH1649 (Or.inl (G_ne gnq gmq (by decide)))).symm
                have m1668 := Wr.I wH1649
                refine lv_aload_n hx hb dX5_goOn_129 rfl (lv_at hl1603 2 rfl) ?_
                refine x_gr C hTH1649 (ci := 5) (k := 1) rfl inX5 (by decide) wF_X5_15 ga0 rg_104 rfl dX5_goOn_130 (fun q1669 eq1669 gq1669 => ?_)
                have uq1669 : tq = q1669 := (m1656).trans eq1669.symm
                subst uq1669
                refine lv_iload_n hx hb dX5_goOn_133 rfl (lv_at hl1603 4 rfl) ?_
                refine lv_iload hx hb dX5_goOn_134 (lv_at hl1603 7 rfl) ?_
                refine x_iast C hTH1649 hSH1649 gtq rg_106 (by omega) (by show _ < ((8 : Nat) : Int); omega) ⟨by have := i_rng x1584; omega, by have := i_rng x1584; omega⟩ (AE_in gtq (by decide)) dX5_goOn_136 (fun H1670 locsH1670 hTH1670 hSH1670 wH1670 => ?_)
                have f1671 : ∀ j : Nat, nl j = (fI H1670 nq j).toInt := fun j => (f1650 j).trans (congrArg Int32.toInt (Wr.neI wH1670 (Or.inl (G_ne gnq gtq (by decide)))).symm)
                have f1672 : ∀ j : Nat, bl j = (fI H1670 lq j).toInt := fun j => (f1651 j).trans (congrArg Int32.toInt (Wr.neI wH1670 (Or.inl (G_ne glq gtq (by decide)))).symm)
                have f1673 : ∀ j : Nat, br j = (fI H1670 kq j).toInt := fun j => (f1652 j).trans (congrArg Int32.toInt (Wr.neI wH1670 (Or.inl (G_ne gkq gtq (by decide)))).symm)
                have f1674 : ∀ j : Nat, fI H1670 bq j = fI H1581 bq j := fun j => (fI_kept (wH1670.off (G_ne gbq gtq (by decide)))).trans (f1653 j)
                have m1675 := m1655.trans (Wr.neI wH1670 (Or.inl (G_ne ga0 gtq (by decide)))).symm
                have m1676 := m1656.trans (Wr.neR wH1670 (Or.inl (G_ne ga0 gtq (by decide)))).symm
                have m1677 := m1657.trans (Wr.neR wH1670 (Or.inl (G_ne ga0 gtq (by decide)))).symm
                have m1678 := m1658.trans (Wr.neR wH1670 (Or.inl (G_ne ga0 gtq (by decide)))).symm
                have m1679 := m1659.trans (Wr.neR wH1670 (Or.inl (G_ne ga1 gtq (by decide)))).symm
                have m1680 := m1660.trans (Wr.neR wH1670 (Or.inl (G_ne ga1 gtq (by decide)))).symm
                have m1681 := m1661.trans (Wr.neR wH1670 (Or.inl (G_ne ga1 gtq (by decide)))).symm
                have m1682 := m1662.trans (Wr.neI wH1670 (Or.inl (G_ne ga1 gtq (by decide)))).symm
                have m1683 := m1663.trans (Wr.neI wH1670 (Or.inl (G_ne ga1 gtq (by decide)))).symm
                have m1684 := m1664.trans (Wr.neI wH1670 (Or.inl (G_ne ga0 gtq (by decide)))).symm
                have m1685 := m1665.trans (Wr.neI wH1670 (Or.inl (G_ne glq gtq (by decide)))).symm
                have m1686 := m1666.trans (Wr.neI wH1670 (Or.inl (G_ne gnq gtq (by decide)))).symm
                have m1687 := (Wr.neI wH1670 (Or.inl (G_ne gmq gtq (by decide)))).trans m1668
                have m1688 := Wr.I wH1670
                have m1688 := m1688.symm
                refine lv_aload_n hx hb dX5_goOn_137 rfl (lv_at hl1603 2 rfl) ?_
                refine lv_aload_n hx hb dX5_goOn_138 rfl (lv_at hl1603 3 rfl) ?_
                refine lv_iload_n hx hb dX5_goOn_139 rfl (lv_at hl1603 4 rfl) ?_
                refine lv_iconst (v := 1) hx hb dX5_goOn_140 (by decide) ?_
                refine lv_iadd hx hb dX5_goOn_141 ?_
                refine lv_topi (fun x1689 ex1689 => ?_)
                have tx1689 := i_add ex1689 (by omega)
                refine lv_iload hx hb dX5_goOn_142 (lv_at hl1603 0 rfl) ?_
                refine lv_iload hx hb dX5_goOn_144 (lv_at hl1603 6 rfl) ?_
                refine lv_iload hx hb dX5_goOn_146 (lv_at hl1603 1 rfl) ?_
                refine lv_iadd hx hb dX5_goOn_148 ?_
                refine lv_topi (fun x1690 ex1690 => ?_)
                have tx1690 := i_add ex1690 (by omega)
                have em_ : (fun j => (fI H1670 mq j).toInt) = upM (fun j => (fI H1581 mq j).toInt) (ky (x1584.toNatClampNeg :: g)) := up_w (f1 := fun j => fI H1670 mq j) (f0 := fun j => fI H1581 mq j) (q := x1601.toNatClampNeg) ((Wr.neI wH1670 (Or.inl (G_ne gmq gtq (by decide)))).trans (Wr.I wH1649)) n_1 (fun j hj => (Wr.neI wH1670 (Or.inl (G_ne gmq gtq (by decide)))).trans ((Wr.neI wH1649 (Or.inr hj)).trans (f1627 j))) (by omega)
                have eb_ : (fun j => (fI H1670 bq j).toInt) = (fun j => (fI H1581 bq j).toInt) := funext fun j => congrArg Int32.toInt (f1674 j)
                have hp1_ : pr (fun j => (fI H1670 tq j).toInt) 4 = x1584.toNatClampNeg :: g := pr_w (f0 := (fun j => (fI H1581 tq j).toInt)) (by show (fI _ tq _).toInt.toNat = _; rw [show 3 = x2.toNatClampNeg by omega, Wr.I wH1670]; omega) (fun j hj => congrArg Int32.toInt ((Wr.neI wH1670 (Or.inr (by omega))).trans ((Wr.neI wH1649 (Or.inl (G_ne gtq gmq (by decide)))).trans (f1629 j)))) hpr56
                have hg1_ : ∀ x ∈ x1584.toNatClampNeg :: g, x < bc.toNatClampNeg := fun x hx => (List.mem_cons.mp hx).elim (fun e => by rw [e]; omega) (fun e => hy3 x e)
                have hws_ : x1690.toInt = wsB nl bl (x1584.toNatClampNeg :: g) := by rw [wsB, hlen]; omega
                refine x_V (As := [.ref a1, .int x1689, .int x1601, .int x1690]) (rest := []) C (a_X5_goOn_e4 l K G H1670 (x1689) (x1601) (x1690) (x1585) (nc) (bc) (sd) (x1584.toNatClampNeg :: g) nl bl br hTH1670 ga0 ga1 (by omega) (by omega) (by omega) gtq m1676 gbq m1677 gmq m1678 gnq m1679 glq m1680 gkq m1681 m1675 m1682 m1683 m1684 (by omega) (hp1_) (hky_) (hws_) (hg1_) (hy4) (hy5) (hy6) f1671 f1672 f1673) yo_X5_goOn wM_X5_34 ⟨⟨by decide, by decide⟩, by decide, by decide⟩ (x_rv C hTH1670 (ci := 5) rfl ga0 rg_104) rfl hl1603.1 rfl (Nat.le_of_ble_eq_true rfl) dX5_goOn_149 hSH1670 (AE_sub (fun _ _ => rfl) (by decide) hSH1670.1) (fun vH1691 H1691 locsH1691 pH1691 zH1691 kH1691 hSH1691 => ?_)
                obtain ⟨x1692, hvH1691, ex1692, m1693, m1694, m1695, m1696, m1697, m1698, hTH1691⟩ := pH1691
                subst hvH1691
                have f1699 : ∀ j : Nat, nl j = (fI H1691 nq j).toInt := fun j => (f1671 j).trans (congrArg Int32.toInt (fI_kept (x_lt hTH1670 kH1691 gnq (by decide))).symm)
                have f1700 : ∀ j : Nat, bl j = (fI H1691 lq j).toInt := fun j => (f1672 j).trans (congrArg Int32.toInt (fI_kept (x_lt hTH1670 kH1691 glq (by decide))).symm)
                have f1701 : ∀ j : Nat, br j = (fI H1691 kq j).toInt := fun j => (f1673 j).trans (congrArg Int32.toInt (fI_kept (x_lt hTH1670 kH1691 gkq (by decide))).symm)
                have m1702 := (m1679).trans (fR_kept (x_lt hTH1670 kH1691 ga1 (by decide))).symm
                have m1703 := (m1680).trans (fR_kept (x_lt hTH1670 kH1691 ga1 (by decide))).symm
                have m1704 := (m1681).trans (fR_kept (x_lt hTH1670 kH1691 ga1 (by decide))).symm
                have m1705 := (m1682).trans (fI_kept (x_lt hTH1670 kH1691 ga1 (by decide))).symm
                have m1706 := (m1683).trans (fI_kept (x_lt hTH1670 kH1691 ga1 (by decide))).symm
                have m1707 := (m1685).trans (fI_kept (x_lt hTH1670 kH1691 glq (by decide))).symm
                have m1708 := (m1686).trans (fI_kept (x_lt hTH1670 kH1691 gnq (by decide))).symm
                have bx1692 := ty_fi (x := x1692) (k := 3) ex1692 hTH1691 ga0 rg_104 rfl
                refine W.eq (g2 := F0 m 152 ls1602 []) rfl ?_
                obtain ⟨x1709, ex1709⟩ : ∃ y : Int32, y = x1584 + 1 := ⟨_, rfl⟩
                have tx1709 := i_add ex1709 (by omega)
                refine lv_iinc (v := x1709) (lv' := [(5, .int x1709), (7, .int x1601), (6, .int x1597), (0, .ref a0), (1, .ref a1), (2, .int x2), (3, .int x3), (4, .int x4)]) hx hb dX5_goOn_152 hl1603 (k := 7) rfl (by rw [ex1709]; rfl) (by decide) rfl (fun ls1710 hl1711 => ?_)
                refine lv_goto (tgt := 56) hx hb dX5_goOn_155 (by decide) ?_
                have cn_x1709 := i_cl (x := x1709) (by omega)
                have hr_ := HD.get m1698
                rw [em_, eb_] at hr_
                exact ih56  ls1710 H1691 locsH1691 (x1709) (x1692) (lv_sub hl1711 [3, 4, 5, 6, 7, 0] rfl) hTH1691 hSH1691 (by have := i_rng x1709; omega) ex1692 m1693 m1694 m1695 m1702 m1703 m1704 m1705 m1706 m1696 f1699 f1700 f1701 (by omega) (by omega) (HD.mk ((HD.get hsp56).trans (gm_take (by omega) (by omega) hok_ hm0_ hr_))) (pr_tl m1697)
  have x01712 : ∀ j : Nat, fI s.heap mq j = fI s.heap mq j := fun _ => rfl
  have x01713 : ∀ j : Nat, fI s.heap bq j = fI s.heap bq j := fun _ => rfl
  have x01714 : ∀ j : Nat, fI s.heap tq j = fI s.heap tq j := fun _ => rfl
  have hlen : g.length = 3 := by rw [← hy0, pr_len]
  have cn_nc := i_cl (x := nc) (by omega)
  have cn_bc := i_cl (x := bc) (by omega)
  refine lv_iload_n hx hb dX5_goOn_0 rfl (lv_at hl 2 rfl) ?_
  refine lv_aload_n hx hb dX5_goOn_1 rfl (lv_at hl 1 rfl) ?_
  refine x_gi C hT (ci := 8) (k := 13) rfl inX8 (by decide) wF_X5_38 ga1 rg_0 rfl dX5_goOn_2 (fun x1715 ex1715 bx1715 => ?_)
  have ux1715 : nc = x1715 := (enc).trans ex1715.symm
  subst ux1715
  refine lv_icmp_ge (tgt := 14) hx hb dX5_goOn_5 (by decide) (fun c1716 => ?_) (fun c1716 => ?_)
  · have k1717 := i_le c1716
    refine lv_aload_n hx hb dX5_goOn_14 rfl (lv_at hl 0 rfl) ?_
    refine x_gi C hT (ci := 5) (k := 3) rfl inX5 (by decide) wF_X5_27 ga0 rg_104 rfl dX5_goOn_15 (fun x1718 ex1718 bx1718 => ?_)
    have ux1718 : le = x1718 := (ele).trans ex1718.symm
    subst ux1718
    refine lv_iconst (v := (-1)) hx hb dX5_goOn_18 (by decide) ?_
    refine lv_icmp_eq (tgt := 31) hx hb dX5_goOn_19 (by decide) (fun c1719 => ?_) (fun c1719 => ?_)
    · have k1720 := i_eq c1719
      refine lv_aload_n hx hb dX5_goOn_31 rfl (lv_at hl 0 rfl) ?_
      refine lv_iload hx hb dX5_goOn_32 (lv_at hl 4 rfl) ?_
      refine x_put C hT hS (ci := 5) (k := 3) (v := .int x4) (ty0 := tyX5) rfl inX5 tyX5_ok nmX5 (by decide) rfl wF_X5_27 ga0 rg_104 rfl rfl (okI (by have := i_rng x4; omega) (by have := i_rng x4; omega)) rfl rfl (AE_in ga0 (by decide)) dX5_goOn_34 (fun H1721 locsH1721 hTH1721 hSH1721 wH1721 => ?_)
      have f1722 : ∀ j : Nat, nl j = (fI H1721 nq j).toInt := fun j => (f0_nl j).trans (congrArg Int32.toInt (Wr.neI wH1721 (Or.inl (G_ne gnq ga0 (by decide)))).symm)
      have f1723 : ∀ j : Nat, bl j = (fI H1721 lq j).toInt := fun j => (f0_bl j).trans (congrArg Int32.toInt (Wr.neI wH1721 (Or.inl (G_ne glq ga0 (by decide)))).symm)
      have f1724 : ∀ j : Nat, br j = (fI H1721 kq j).toInt := fun j => (f0_br j).trans (congrArg Int32.toInt (Wr.neI wH1721 (Or.inl (G_ne gkq ga0 (by decide)))).symm)
      have f1725 : ∀ j : Nat, fI H1721 mq j = fI s.heap mq j := fun j => (fI_kept (wH1721.off (G_ne gmq ga0 (by decide)))).trans (x01712 j)
      have f1726 : ∀ j : Nat, fI H1721 bq j = fI s.heap bq j := fun j => (fI_kept (wH1721.off (G_ne gbq ga0 (by decide)))).trans (x01713 j)
      have f1727 : ∀ j : Nat, fI H1721 tq j = fI s.heap tq j := fun j => (fI_kept (wH1721.off (G_ne gtq ga0 (by decide)))).trans (x01714 j)
      have m1728 := etq.trans (Wr.neR wH1721 (Or.inr (x_apart hKT hts inX5 tyX5 tyX5_ok nmX5 rfl 1 3 (by decide) (by decide) (by decide)))).symm
      have m1729 := ebq.trans (Wr.neR wH1721 (Or.inr (x_apart hKT hts inX5 tyX5 tyX5_ok nmX5 rfl 0 3 (by decide) (by decide) (by decide)))).symm
      have m1730 := emq.trans (Wr.neR wH1721 (Or.inr (x_apart hKT hts inX5 tyX5 tyX5_ok nmX5 rfl 2 3 (by decide) (by decide) (by decide)))).symm
      have m1731 := enq.trans (Wr.neR wH1721 (Or.inl (G_ne ga1 ga0 (by decide)))).symm
      have m1732 := elq.trans (Wr.neR wH1721 (Or.inl (G_ne ga1 ga0 (by decide)))).symm
      have m1733 := ekq.trans (Wr.neR wH1721 (Or.inl (G_ne ga1 ga0 (by decide)))).symm
      have m1735 := enc.trans (Wr.neI wH1721 (Or.inl (G_ne ga1 ga0 (by decide)))).symm
      have m1736 := ebc.trans (Wr.neI wH1721 (Or.inl (G_ne ga1 ga0 (by decide)))).symm
      have m1737 := esd.trans (Wr.neI wH1721 (Or.inr (x_apart hKT hts inX5 tyX5 tyX5_ok nmX5 rfl 4 3 (by decide) (by decide) (by decide)))).symm
      have m1738 := Wr.I wH1721
      have m1738 := m1738.symm
      refine lv_aload_n hx hb dX5_goOn_37 rfl (lv_at hl 0 rfl) ?_
      refine x_gr C hTH1721 (ci := 5) (k := 1) rfl inX5 (by decide) wF_X5_15 ga0 rg_104 rfl dX5_goOn_38 (fun q1739 eq1739 gq1739 => ?_)
      have uq1739 : tq = q1739 := (m1728).trans eq1739.symm
      subst uq1739
      refine lv_iconst (v := 0) hx hb dX5_goOn_41 (by decide) ?_
      refine lv_aload_n hx hb dX5_goOn_42 rfl (lv_at hl 0 rfl) ?_
      refine x_gr C hTH1721 (ci := 5) (k := 0) rfl inX5 (by decide) wF_X5_9 ga0 rg_104 rfl dX5_goOn_43 (fun q1740 eq1740 gq1740 => ?_)
      have uq1740 : bq = q1740 := (m1729).trans eq1740.symm
      subst uq1740
      refine lv_iconst (v := 0) hx hb dX5_goOn_46 (by decide) ?_
      refine lv_bipush (v := 8) hx hb dX5_goOn_47 (by decide) ?_
      refine x_copy C hTH1721 hSH1721 wM_X5_43 wNT_arraycopy wST_arraycopy wIN_J10 gtq gbq rg_106 rg_105 (by decide) (by omega) (by omega) (by omega) (by show _ ≤ ((8 : Nat) : Int); omega) (by show _ ≤ ((8 : Nat) : Int); omega) (AE_in gbq (by decide)) hl.1 (by decide) dX5_goOn_49 (fun H1741 locsH1741 hTH1741 hSH1741 zH1741 oH1741 vH1741 wH1741 => ?_)
      have m1742 := (m1728).trans (fR_kept (oH1741 _ (G_ne ga0 gbq (by decide)))).symm
      have m1743 := (m1729).trans (fR_kept (oH1741 _ (G_ne ga0 gbq (by decide)))).symm
      have m1744 := (m1730).trans (fR_kept (oH1741 _ (G_ne ga0 gbq (by decide)))).symm
      have m1745 := (m1731).trans (fR_kept (oH1741 _ (G_ne ga1 gbq (by decide)))).symm
      have m1746 := (m1732).trans (fR_kept (oH1741 _ (G_ne ga1 gbq (by decide)))).symm
      have m1747 := (m1733).trans (fR_kept (oH1741 _ (G_ne ga1 gbq (by decide)))).symm
      have m1748 := (m1735).trans (fI_kept (oH1741 _ (G_ne ga1 gbq (by decide)))).symm
      have m1749 := (m1736).trans (fI_kept (oH1741 _ (G_ne ga1 gbq (by decide)))).symm
      have m1750 := (m1737).trans (fI_kept (oH1741 _ (G_ne ga0 gbq (by decide)))).symm
      have m1751 := (m1738).trans (fI_kept (oH1741 _ (G_ne ga0 gbq (by decide)))).symm
      have f1752 : ∀ j : Nat, nl j = (fI H1741 nq j).toInt := fun j => (f1722 j).trans (congrArg Int32.toInt (fI_kept (oH1741 _ (G_ne gnq gbq (by decide)))).symm)
      have f1753 : ∀ j : Nat, bl j = (fI H1741 lq j).toInt := fun j => (f1723 j).trans (congrArg Int32.toInt (fI_kept (oH1741 _ (G_ne glq gbq (by decide)))).symm)
      have f1754 : ∀ j : Nat, br j = (fI H1741 kq j).toInt := fun j => (f1724 j).trans (congrArg Int32.toInt (fI_kept (oH1741 _ (G_ne gkq gbq (by decide)))).symm)
      have f1755 : ∀ j : Nat, fI H1741 mq j = fI s.heap mq j := fun j => (fI_kept (oH1741 _ (G_ne gmq gbq (by decide)))).trans (f1725 j)
      have f1756 : ∀ j : Nat, fI H1741 tq j = fI s.heap tq j := fun j => (fI_kept (oH1741 _ (G_ne gtq gbq (by decide)))).trans (f1727 j)
      have c00 : (0 : Int32).toNatClampNeg = 0 := rfl
      have n_8_ : (8 : Int32).toInt = 8 := rfl
      have cpy_ : pr (fun j => (fI H1741 bq j).toInt) nc.toNatClampNeg = g := by rw [show nc.toNatClampNeg = 3 by omega, ← hy0]; exact pr_c 3 (fun j hj => congrArg Int32.toInt (by have z := wH1741 j (by omega); rw [c00, Nat.zero_add] at z; exact z.trans (f1727 j)))
      exact x_vret C hQ dX5_goOn_52 hSH1741 (by decide) (by decide) (⟨x4, rfl, m1751, m1742, m1743, m1744, m1750, ((pr_c 3 (fun j _ => congrArg Int32.toInt (f1756 j))).trans hy0), HD.mk (gm_yes (by omega) (by omega) hy2 (by omega) (fun j => congrArg Int32.toInt (f1755 j)) cpy_), hTH1741⟩)
    · have k1720 := i_ne c1719
      refine lv_iload hx hb dX5_goOn_22 (lv_at hl 4 rfl) ?_
      refine lv_aload_n hx hb dX5_goOn_24 rfl (lv_at hl 0 rfl) ?_
      refine x_gi C hT (ci := 5) (k := 3) rfl inX5 (by decide) wF_X5_27 ga0 rg_104 rfl dX5_goOn_25 (fun x1757 ex1757 bx1757 => ?_)
      have ux1757 : le = x1757 := (ele).trans ex1757.symm
      subst ux1757
      refine lv_icmp_ge (tgt := 52) hx hb dX5_goOn_28 (by decide) (fun c1758 => ?_) (fun c1758 => ?_)
      · have k1759 := i_le c1758
        exact x_vret C hQ dX5_goOn_52 hS (by decide) (by decide) (⟨le, rfl, ele, etq, ebq, emq, esd, ((pr_c 3 (fun j _ => congrArg Int32.toInt (x01714 j))).trans hy0), HD.mk (gm_not (by omega) (by omega) hy2 (fun j => congrArg Int32.toInt (x01712 j)) (fun j => congrArg Int32.toInt (x01713 j))), hT⟩)
      · have k1759 := i_nle c1758
        refine lv_aload_n hx hb dX5_goOn_31 rfl (lv_at hl 0 rfl) ?_
        refine lv_iload hx hb dX5_goOn_32 (lv_at hl 4 rfl) ?_
        refine x_put C hT hS (ci := 5) (k := 3) (v := .int x4) (ty0 := tyX5) rfl inX5 tyX5_ok nmX5 (by decide) rfl wF_X5_27 ga0 rg_104 rfl rfl (okI (by have := i_rng x4; omega) (by have := i_rng x4; omega)) rfl rfl (AE_in ga0 (by decide)) dX5_goOn_34 (fun H1760 locsH1760 hTH1760 hSH1760 wH1760 => ?_)
        have f1761 : ∀ j : Nat, nl j = (fI H1760 nq j).toInt := fun j => (f0_nl j).trans (congrArg Int32.toInt (Wr.neI wH1760 (Or.inl (G_ne gnq ga0 (by decide)))).symm)
        have f1762 : ∀ j : Nat, bl j = (fI H1760 lq j).toInt := fun j => (f0_bl j).trans (congrArg Int32.toInt (Wr.neI wH1760 (Or.inl (G_ne glq ga0 (by decide)))).symm)
        have f1763 : ∀ j : Nat, br j = (fI H1760 kq j).toInt := fun j => (f0_br j).trans (congrArg Int32.toInt (Wr.neI wH1760 (Or.inl (G_ne gkq ga0 (by decide)))).symm)
        have f1764 : ∀ j : Nat, fI H1760 mq j = fI s.heap mq j := fun j => (fI_kept (wH1760.off (G_ne gmq ga0 (by decide)))).trans (x01712 j)
        have f1765 : ∀ j : Nat, fI H1760 bq j = fI s.heap bq j := fun j => (fI_kept (wH1760.off (G_ne gbq ga0 (by decide)))).trans (x01713 j)
        have f1766 : ∀ j : Nat, fI H1760 tq j = fI s.heap tq j := fun j => (fI_kept (wH1760.off (G_ne gtq ga0 (by decide)))).trans (x01714 j)
        have m1767 := etq.trans (Wr.neR wH1760 (Or.inr (x_apart hKT hts inX5 tyX5 tyX5_ok nmX5 rfl 1 3 (by decide) (by decide) (by decide)))).symm
        have m1768 := ebq.trans (Wr.neR wH1760 (Or.inr (x_apart hKT hts inX5 tyX5 tyX5_ok nmX5 rfl 0 3 (by decide) (by decide) (by decide)))).symm
        have m1769 := emq.trans (Wr.neR wH1760 (Or.inr (x_apart hKT hts inX5 tyX5 tyX5_ok nmX5 rfl 2 3 (by decide) (by decide) (by decide)))).symm
        have m1770 := enq.trans (Wr.neR wH1760 (Or.inl (G_ne ga1 ga0 (by decide)))).symm
        have m1771 := elq.trans (Wr.neR wH1760 (Or.inl (G_ne ga1 ga0 (by decide)))).symm
        have m1772 := ekq.trans (Wr.neR wH1760 (Or.inl (G_ne ga1 ga0 (by decide)))).symm
        have m1774 := enc.trans (Wr.neI wH1760 (Or.inl (G_ne ga1 ga0 (by decide)))).symm
        have m1775 := ebc.trans (Wr.neI wH1760 (Or.inl (G_ne ga1 ga0 (by decide)))).symm
        have m1776 := esd.trans (Wr.neI wH1760 (Or.inr (x_apart hKT hts inX5 tyX5 tyX5_ok nmX5 rfl 4 3 (by decide) (by decide) (by decide)))).symm
        have m1777 := Wr.I wH1760
        have m1777 := m1777.symm
        refine lv_aload_n hx hb dX5_goOn_37 rfl (lv_at hl 0 rfl) ?_
        refine x_gr C hTH1760 (ci := 5) (k := 1) rfl inX5 (by decide) wF_X5_15 ga0 rg_104 rfl dX5_goOn_38 (fun q1778 eq1778 gq1778 => ?_)
        have uq1778 : tq = q1778 := (m1767).trans eq1778.symm
        subst uq1778
        refine lv_iconst (v := 0) hx hb dX5_goOn_41 (by decide) ?_
        refine lv_aload_n hx hb dX5_goOn_42 rfl (lv_at hl 0 rfl) ?_
        refine x_gr C hTH1760 (ci := 5) (k := 0) rfl inX5 (by decide) wF_X5_9 ga0 rg_104 rfl dX5_goOn_43 (fun q1779 eq1779 gq1779 => ?_)
        have uq1779 : bq = q1779 := (m1768).trans eq1779.symm
        subst uq1779
        refine lv_iconst (v := 0) hx hb dX5_goOn_46 (by decide) ?_
        refine lv_bipush (v := 8) hx hb dX5_goOn_47 (by decide) ?_
        refine x_copy C hTH1760 hSH1760 wM_X5_43 wNT_arraycopy wST_arraycopy wIN_J10 gtq gbq rg_106 rg_105 (by decide) (by omega) (by omega) (by omega) (by show _ ≤ ((8 : Nat) : Int); omega) (by show _ ≤ ((8 : Nat) : Int); omega) (AE_in gbq (by decide)) hl.1 (by decide) dX5_goOn_49 (fun H1780 locsH1780 hTH1780 hSH1780 zH1780 oH1780 vH1780 wH1780 => ?_)
        have m1781 := (m1767).trans (fR_kept (oH1780 _ (G_ne ga0 gbq (by decide)))).symm
        have m1782 := (m1768).trans (fR_kept (oH1780 _ (G_ne ga0 gbq (by decide)))).symm
        have m1783 := (m1769).trans (fR_kept (oH1780 _ (G_ne ga0 gbq (by decide)))).symm
        have m1784 := (m1770).trans (fR_kept (oH1780 _ (G_ne ga1 gbq (by decide)))).symm
        have m1785 := (m1771).trans (fR_kept (oH1780 _ (G_ne ga1 gbq (by decide)))).symm
        have m1786 := (m1772).trans (fR_kept (oH1780 _ (G_ne ga1 gbq (by decide)))).symm
        have m1787 := (m1774).trans (fI_kept (oH1780 _ (G_ne ga1 gbq (by decide)))).symm
        have m1788 := (m1775).trans (fI_kept (oH1780 _ (G_ne ga1 gbq (by decide)))).symm
        have m1789 := (m1776).trans (fI_kept (oH1780 _ (G_ne ga0 gbq (by decide)))).symm
        have m1790 := (m1777).trans (fI_kept (oH1780 _ (G_ne ga0 gbq (by decide)))).symm
        have f1791 : ∀ j : Nat, nl j = (fI H1780 nq j).toInt := fun j => (f1761 j).trans (congrArg Int32.toInt (fI_kept (oH1780 _ (G_ne gnq gbq (by decide)))).symm)
        have f1792 : ∀ j : Nat, bl j = (fI H1780 lq j).toInt := fun j => (f1762 j).trans (congrArg Int32.toInt (fI_kept (oH1780 _ (G_ne glq gbq (by decide)))).symm)
        have f1793 : ∀ j : Nat, br j = (fI H1780 kq j).toInt := fun j => (f1763 j).trans (congrArg Int32.toInt (fI_kept (oH1780 _ (G_ne gkq gbq (by decide)))).symm)
        have f1794 : ∀ j : Nat, fI H1780 mq j = fI s.heap mq j := fun j => (fI_kept (oH1780 _ (G_ne gmq gbq (by decide)))).trans (f1764 j)
        have f1795 : ∀ j : Nat, fI H1780 tq j = fI s.heap tq j := fun j => (fI_kept (oH1780 _ (G_ne gtq gbq (by decide)))).trans (f1766 j)
        have c00 : (0 : Int32).toNatClampNeg = 0 := rfl
        have n_8_ : (8 : Int32).toInt = 8 := rfl
        have cpy_ : pr (fun j => (fI H1780 bq j).toInt) nc.toNatClampNeg = g := by rw [show nc.toNatClampNeg = 3 by omega, ← hy0]; exact pr_c 3 (fun j hj => congrArg Int32.toInt (by have z := wH1780 j (by omega); rw [c00, Nat.zero_add] at z; exact z.trans (f1766 j)))
        exact x_vret C hQ dX5_goOn_52 hSH1780 (by decide) (by decide) (⟨x4, rfl, m1790, m1781, m1782, m1783, m1789, ((pr_c 3 (fun j _ => congrArg Int32.toInt (f1795 j))).trans hy0), HD.mk (gm_yes (by omega) (by omega) hy2 (by omega) (fun j => congrArg Int32.toInt (f1794 j)) cpy_), hTH1780⟩)
  · have k1717 := i_nle c1716
    refine lv_iload_n hx hb dX5_goOn_8 rfl (lv_at hl 2 rfl) ?_
    refine lv_bipush (v := 8) hx hb dX5_goOn_9 (by decide) ?_
    refine lv_icmp_lt (tgt := 53) hx hb dX5_goOn_11 (by decide) (fun c1796 => ?_) (fun c1796 => ?_)
    · have k1797 := i_lt c1796
      refine lv_iconst (v := 0) hx hb dX5_goOn_53 (by decide) ?_
      refine lv_istore (lv' := [(5, .int 0), (0, .ref a0), (1, .ref a1), (2, .int x2), (3, .int x3), (4, .int x4)]) hx hb dX5_goOn_54 hl (by decide) rfl (fun ls1798 hl1799 => ?_)
      exact J56 ((8 - (0 : Int32).toInt).toNat + 1)  ls1798 s.heap [] (0) (le) (lv_sub hl1799 [1, 2, 3, 4, 5, 0] rfl) hT hS (by decide) ele etq ebq emq enq elq ekq enc ebc esd f0_nl f0_bl f0_br (by omega) (by omega) (HD.mk (gm_start (by omega))) hy0
    · have k1797 := i_nlt c1796
      exfalso
      omega
