set_option maxHeartbeats 4000000 in
set_option maxRecDepth 100000 in
theorem a_X5_goOn_e6 (l : Launch) (K : KE) (G : Nat → Option Nat) (H : Heap) {a0 : Nat} {a1 : Nat} (x2 : Int32) (x3 : Int32) (x4 : Int32) {tq : Nat} {bq : Nat} {mq : Nat} {nq : Nat} {lq : Nat} {kq : Nat} (le : Int32) (nc : Int32) (bc : Int32) (sd : Int32) (g : List Nat) (nl : Nat → Int) (bl : Nat → Int) (br : Nat → Int) (hT : TY K G H) (ga0 : G a0 = some 104) (ga1 : G a1 = some 0) (hx2 : 6 ≤ x2.toInt ∧ x2.toInt ≤ 6) (hx3 : 0 ≤ x3.toInt ∧ x3.toInt ≤ 255) (hx4 : 0 ≤ x4.toInt ∧ x4.toInt ≤ 594) (gtq : G tq = some 106) (etq : tq = fR H a0 (K.1.2 5 1)) (gbq : G bq = some 105) (ebq : bq = fR H a0 (K.1.2 5 0)) (gmq : G mq = some 107) (emq : mq = fR H a0 (K.1.2 5 2)) (gnq : G nq = some 31) (enq : nq = fR H a1 (K.1.2 8 12)) (glq : G lq = some 32) (elq : lq = fR H a1 (K.1.2 8 14)) (gkq : G kq = some 33) (ekq : kq = fR H a1 (K.1.2 8 15)) (ele : le = fI H a0 (K.1.2 5 3)) (enc : nc = fI H a1 (K.1.2 8 13)) (ebc : bc = fI H a1 (K.1.2 8 16)) (esd : sd = fI H a0 (K.1.2 5 4)) (hp0 : 6 ≤ nc.toInt) (hy0 : pr (fun j => (fI H tq j).toInt) 6 = g) (hy1 : x3.toInt = ((ky g : Nat) : Int)) (hy2 : x4.toInt = wsB nl bl g) (hy3 : ∀ x ∈ g, x < bc.toNatClampNeg) (hy4 : ∀ j : Nat, j < nc.toNatClampNeg → 0 ≤ nl j ∧ nl j ≤ 99) (hy5 : ∀ j : Nat, j < bc.toNatClampNeg → 0 ≤ bl j ∧ bl j ≤ 99) (hy6 : ∀ j : Nat, j < bc.toNatClampNeg → 0 ≤ br j ∧ br j ≤ 99) (hv_nl : ∀ j : Nat, nl j = (fI H nq j).toInt) (hv_bl : ∀ j : Nat, bl j = (fI H lq j).toInt) (hv_br : ∀ j : Nat, br j = (fI H kq j).toInt) : MX l K yX5_goOn cX5_goOn 8 none 3 94 0 0 [.ref a0, .ref a1, .int x2, .int x3, .int x4] H (AE G [104, 105, 106, 107] H.size) (fun v H1 => ∃ (t0 : Int32), v = none ∧ t0 = fI H1 a0 (K.1.2 5 3) ∧ tq = fR H1 a0 (K.1.2 5 1) ∧ bq = fR H1 a0 (K.1.2 5 0) ∧ mq = fR H1 a0 (K.1.2 5 2) ∧ sd = fI H1 a0 (K.1.2 5 4) ∧ (pr (fun j => (fI H1 tq j).toInt) 6 = g) ∧ (HD (goM nl bl br sd.toInt bc.toNatClampNeg (nc.toNatClampNeg - 6) g ((fun j => (fI H mq j).toInt), le.toInt, acL le.toInt (fun j => (fI H bq j).toInt) nc.toNatClampNeg) = ((fun j => (fI H1 mq j).toInt), t0.toInt, acL t0.toInt (fun j => (fI H1 bq j).toInt) nc.toNatClampNeg))) ∧ TY K G H1) := by
  refine MX.of (by decide +kernel) (Nat.le_of_ble_eq_true rfl) ?_
  intro p e s m below meth c ls Q C hH hl hQ
  subst hH
  have C : CX p K s m _ meth c RX5 cX5_goOn 8 none "goOn" := C
  obtain ⟨hx, hb, hml, hown, hts, hKT, hr, hlocks, hnm⟩ := id C
  have hl : lv_has ls 8 [(0, .ref a0), (1, .ref a1), (2, .int x2), (3, .int x3), (4, .int x4)] := hl
  have hS : va_S (AE G [104, 105, 106, 107] s.heap.size) s.heap s.heap [] := va_S.rf
  have n_m1 : ((-1) : Int32).toInt = -1 := rfl
  have n_0 : (0 : Int32).toInt = 0 := rfl
  have n_1 : (1 : Int32).toInt = 1 := rfl
  have n_8 : (8 : Int32).toInt = 8 := rfl
  have ble := ty_fi (x := le) (k := 3) ele hT ga0 rg_104 rfl
  have bnc := ty_fi (x := nc) (k := 13) enc hT ga1 rg_0 rfl
  have bbc := ty_fi (x := bc) (k := 16) ebc hT ga1 rg_0 rfl
  have bsd := ty_fi (x := sd) (k := 4) esd hT ga0 rg_104 rfl
  have f0_nl := hv_nl
  have f0_bl := hv_bl
  have f0_br := hv_br
  have J56 : ∀ (nf : Nat)  (ls1700 : Array Slot) (H1699 : Heap) (locsH1699 : List Loc) (x1702 : Int32) (x1703 : Int32), lv_has ls1700 8 [(0, .ref a0), (1, .ref a1), (2, .int x2), (3, .int x3), (4, .int x4), (5, .int x1702)] → TY K G H1699 → va_S (AE G [104, 105, 106, 107] s.heap.size) s.heap H1699 locsH1699 → (0 ≤ x1702.toInt ∧ x1702.toInt ≤ 8) → (x1703 = fI H1699 a0 (K.1.2 5 3)) → (tq = fR H1699 a0 (K.1.2 5 1)) → (bq = fR H1699 a0 (K.1.2 5 0)) → (mq = fR H1699 a0 (K.1.2 5 2)) → (nq = fR H1699 a1 (K.1.2 8 12)) → (lq = fR H1699 a1 (K.1.2 8 14)) → (kq = fR H1699 a1 (K.1.2 8 15)) → (nc = fI H1699 a1 (K.1.2 8 13)) → (bc = fI H1699 a1 (K.1.2 8 16)) → (sd = fI H1699 a0 (K.1.2 5 4)) → (∀ j : Nat, nl j = (fI H1699 nq j).toInt) → (∀ j : Nat, bl j = (fI H1699 lq j).toInt) → (∀ j : Nat, br j = (fI H1699 kq j).toInt) → (8 - x1702.toInt < (nf : Int)) → (6 < nc.toInt) → (HD (goM nl bl br sd.toInt bc.toNatClampNeg (nc.toNatClampNeg - 6) g ((fun j => (fI s.heap mq j).toInt), le.toInt, acL le.toInt (fun j => (fI s.heap bq j).toInt) nc.toNatClampNeg) = frM (gF nl bl br sd.toInt bc.toNatClampNeg (nc.toNatClampNeg - 7) g) (bc.toNatClampNeg - x1702.toNatClampNeg) x1702.toNatClampNeg ((fun j => (fI H1699 mq j).toInt), x1703.toInt, acL x1703.toInt (fun j => (fI H1699 bq j).toInt) nc.toNatClampNeg))) → (pr (fun j => (fI H1699 tq j).toInt) 6 = g) → W p l e ({ frames := 3, cells := 0, slots := 0, locals := 94 } : Room) s m (([.ref a0, .ref a1, .int x2, .int x3, .int x4] : List Value).toArray) below meth c H1699 locsH1699 0 0 Q (F0 m 56 ls1700 []) := by
    intro nf
    induction nf with
    | zero =>
      intro  ls1700 H1699 locsH1699 x1702 x1703 hl1701 hTH1699 hSH1699 bx1702 ex1703 cy1704_0 cy1704_1 cy1704_2 cy1704_3 cy1704_4 cy1704_5 cy1704_6 cy1704_7 cy1704_8 fy1704_nl fy1704_bl fy1704_br hm56 iv56 hsp56 hpr56
      have rx1703 := i_rng x1703
      exfalso
      omega
    | succ nf ih56 =>
      intro  ls1700 H1699 locsH1699 x1702 x1703 hl1701 hTH1699 hSH1699 bx1702 ex1703 cy1704_0 cy1704_1 cy1704_2 cy1704_3 cy1704_4 cy1704_5 cy1704_6 cy1704_7 cy1704_8 fy1704_nl fy1704_bl fy1704_br hm56 iv56 hsp56 hpr56
      have rx1703 := i_rng x1703
      have hlen : g.length = 6 := by rw [← hy0, pr_len]
      have cn_x1702 := i_cl (x := x1702) (by omega)
      have cn_bc := i_cl (x := bc) (by omega)
      have cn_nc := i_cl (x := nc) (by omega)
      have cn_x2 := i_cl (x := x2) (by omega)
      have x01705 : ∀ j : Nat, fI H1699 mq j = fI H1699 mq j := fun _ => rfl
      have x01706 : ∀ j : Nat, fI H1699 bq j = fI H1699 bq j := fun _ => rfl
      have x01707 : ∀ j : Nat, fI H1699 tq j = fI H1699 tq j := fun _ => rfl
      refine lv_iload hx hb dX5_goOn_56 (lv_at hl1701 5 rfl) ?_
      refine lv_aload_n hx hb dX5_goOn_58 rfl (lv_at hl1701 1 rfl) ?_
      refine x_gi C hTH1699 (ci := 8) (k := 16) rfl inX8 (by decide) wF_X5_49 ga1 rg_0 rfl dX5_goOn_59 (fun x1708 ex1708 bx1708 => ?_)
      have ux1708 : bc = x1708 := (cy1704_7).trans ex1708.symm
      subst ux1708
      refine lv_icmp_ge (tgt := 158) hx hb dX5_goOn_62 (by decide) (fun c1709 => ?_) (fun c1709 => ?_)
      · have k1710 := i_le c1709
        exact x_vret C hQ dX5_goOn_158 hSH1699 (by decide) (by decide) (⟨x1703, rfl, ex1703, cy1704_0, cy1704_1, cy1704_2, cy1704_8, hpr56, HD.mk ((HD.get hsp56).trans (gm_end (by omega))), hTH1699⟩)
      · have k1710 := i_nle c1709
        refine lv_aload_n hx hb dX5_goOn_65 rfl (lv_at hl1701 1 rfl) ?_
        refine x_gr C hTH1699 (ci := 8) (k := 14) rfl inX8 (by decide) wF_X5_52 ga1 rg_0 rfl dX5_goOn_66 (fun q1711 eq1711 gq1711 => ?_)
        have uq1711 : lq = q1711 := (cy1704_4).trans eq1711.symm
        subst uq1711
        refine lv_iload hx hb dX5_goOn_69 (lv_at hl1701 5 rfl) ?_
        refine x_ai C hTH1699 glq rg_32 ⟨by omega, by show _ < ((8 : Nat) : Int); omega⟩ dX5_goOn_71 (fun x1712 ex1712 bx1712 => ?_)
        have qvx1712 : bl x1702.toNatClampNeg = x1712.toInt := (fy1704_bl _).trans (congrArg Int32.toInt ex1712.symm)
        have hn_x1712 : 0 ≤ x1712.toInt ∧ x1712.toInt ≤ 99 := by have c_ := i_cl (x := x1702) (by omega); have d_ := i_cl (x := bc) (by omega); have q_ := hy5 x1702.toNatClampNeg (by omega); omega
        refine lv_aload_n hx hb dX5_goOn_72 rfl (lv_at hl1701 1 rfl) ?_
        refine x_gr C hTH1699 (ci := 8) (k := 12) rfl inX8 (by decide) wF_X5_55 ga1 rg_0 rfl dX5_goOn_73 (fun q1713 eq1713 gq1713 => ?_)
        have uq1713 : nq = q1713 := (cy1704_3).trans eq1713.symm
        subst uq1713
        refine lv_iload_n hx hb dX5_goOn_76 rfl (lv_at hl1701 2 rfl) ?_
        refine x_ai C hTH1699 gnq rg_31 ⟨by omega, by show _ < ((8 : Nat) : Int); omega⟩ dX5_goOn_77 (fun x1714 ex1714 bx1714 => ?_)
        have qvx1714 : nl x2.toNatClampNeg = x1714.toInt := (fy1704_nl _).trans (congrArg Int32.toInt ex1714.symm)
        have hn_x1714 : 0 ≤ x1714.toInt ∧ x1714.toInt ≤ 99 := by have c_ := i_cl (x := x2) (by omega); have d_ := i_cl (x := nc) (by omega); have q_ := hy4 x2.toNatClampNeg (by omega); omega
        refine lv_isub hx hb dX5_goOn_78 ?_
        refine lv_topi (fun x1715 ex1715 => ?_)
        have tx1715 := i_sub ex1715 (by omega)
        refine lv_istore (lv' := [(6, .int x1715), (0, .ref a0), (1, .ref a1), (2, .int x2), (3, .int x3), (4, .int x4), (5, .int x1702)]) hx hb dX5_goOn_79 hl1701 (by decide) rfl (fun ls1716 hl1717 => ?_)
        refine lv_iload_n hx hb dX5_goOn_81 rfl (lv_at hl1717 4 rfl) ?_
        refine lv_iconst (v := 1) hx hb dX5_goOn_82 (by decide) ?_
        refine lv_iload hx hb dX5_goOn_83 (lv_at hl1717 6 rfl) ?_
        refine lv_ishl hx hb dX5_goOn_85 ?_
        refine lv_topi (fun x1718 ex1718 => ?_)
        have tx1718 := i_shl7 ex1718 (by omega)
        refine lv_ior hx hb dX5_goOn_86 ?_
        refine lv_topi (fun x1719 ex1719 => ?_)
        have tx1719 := i_or8 ex1719 (by omega) (by omega)
        refine lv_istore (lv' := [(7, .int x1719), (6, .int x1715), (0, .ref a0), (1, .ref a1), (2, .int x2), (3, .int x3), (4, .int x4), (5, .int x1702)]) hx hb dX5_goOn_87 hl1717 (by decide) rfl (fun ls1720 hl1721 => ?_)
        have hky_ : x1719.toInt = ((ky (x1702.toNatClampNeg :: g) : Nat) : Int) := sb_ky hy1 (by omega) (by omega) ex1718 ex1719
        have cn_x1719 := i_cl (x := x1719) (by omega)
        refine lv_iload hx hb dX5_goOn_89 (lv_at hl1721 0 rfl) ?_
        refine lv_iload_n hx hb dX5_goOn_91 rfl (lv_at hl1721 5 rfl) ?_
        refine lv_icmp_eq (tgt := 152) hx hb dX5_goOn_92 (by decide) (fun c1722 => ?_) (fun c1722 => ?_)
        · have k1723 := i_eq c1722
          obtain ⟨x1724, ex1724⟩ : ∃ y : Int32, y = x1702 + 1 := ⟨_, rfl⟩
          have tx1724 := i_add ex1724 (by omega)
          refine lv_iinc (v := x1724) (lv' := [(5, .int x1724), (7, .int x1719), (6, .int x1715), (0, .ref a0), (1, .ref a1), (2, .int x2), (3, .int x3), (4, .int x4)]) hx hb dX5_goOn_152 hl1721 (k := 7) rfl (by rw [ex1724]; rfl) (by decide) rfl (fun ls1725 hl1726 => ?_)
          refine lv_goto (tgt := 56) hx hb dX5_goOn_155 (by decide) ?_
          have cn_x1724 := i_cl (x := x1724) (by omega)
          have sk_ : frM (gF nl bl br sd.toInt bc.toNatClampNeg (nc.toNatClampNeg - 7) g) (bc.toNatClampNeg - x1702.toNatClampNeg) x1702.toNatClampNeg ((fun j => (fI H1699 mq j).toInt), x1703.toInt, acL x1703.toInt (fun j => (fI H1699 bq j).toInt) nc.toNatClampNeg) = frM (gF nl bl br sd.toInt bc.toNatClampNeg (nc.toNatClampNeg - 7) g) (bc.toNatClampNeg - x1724.toNatClampNeg) x1724.toNatClampNeg ((fun j => (fI H1699 mq j).toInt), x1703.toInt, acL x1703.toInt (fun j => (fI H1699 bq j).toInt) nc.toNatClampNeg) := gm_skip (by omega) (by omega) (Or.inl (okB_n1 (ky_eq.mp (by omega))))
          exact ih56  ls1725 H1699 locsH1699 (x1724) (x1703) (lv_sub hl1726 [3, 4, 5, 6, 7, 0] rfl) hTH1699 hSH1699 (by have := i_rng x1724; omega) ex1703 cy1704_0 cy1704_1 cy1704_2 cy1704_3 cy1704_4 cy1704_5 cy1704_6 cy1704_7 cy1704_8 fy1704_nl fy1704_bl fy1704_br (by omega) (by omega) (HD.mk ((HD.get hsp56).trans sk_)) hpr56
        · have k1723 := i_ne c1722
          refine lv_iload hx hb dX5_goOn_95 (lv_at hl1721 1 rfl) ?_
          refine lv_if_lt (tgt := 152) hx hb dX5_goOn_97 (by decide) (fun c1727 => ?_) (fun c1727 => ?_)
          · have k1728 := i_lt c1727
            obtain ⟨x1729, ex1729⟩ : ∃ y : Int32, y = x1702 + 1 := ⟨_, rfl⟩
            have tx1729 := i_add ex1729 (by omega)
            refine lv_iinc (v := x1729) (lv' := [(5, .int x1729), (7, .int x1719), (6, .int x1715), (0, .ref a0), (1, .ref a1), (2, .int x2), (3, .int x3), (4, .int x4)]) hx hb dX5_goOn_152 hl1721 (k := 7) rfl (by rw [ex1729]; rfl) (by decide) rfl (fun ls1730 hl1731 => ?_)
            refine lv_goto (tgt := 56) hx hb dX5_goOn_155 (by decide) ?_
            have cn_x1729 := i_cl (x := x1729) (by omega)
            have qk_ : nl 6 = _ := (congrArg nl (show 6 = x2.toNatClampNeg by omega)).trans qvx1714
            have sk_ : frM (gF nl bl br sd.toInt bc.toNatClampNeg (nc.toNatClampNeg - 7) g) (bc.toNatClampNeg - x1702.toNatClampNeg) x1702.toNatClampNeg ((fun j => (fI H1699 mq j).toInt), x1703.toInt, acL x1703.toInt (fun j => (fI H1699 bq j).toInt) nc.toNatClampNeg) = frM (gF nl bl br sd.toInt bc.toNatClampNeg (nc.toNatClampNeg - 7) g) (bc.toNatClampNeg - x1729.toNatClampNeg) x1729.toNatClampNeg ((fun j => (fI H1699 mq j).toInt), x1703.toInt, acL x1703.toInt (fun j => (fI H1699 bq j).toInt) nc.toNatClampNeg) := gm_skip (by omega) (by omega) (Or.inl (okB_n2 hlen (by omega)))
            exact ih56  ls1730 H1699 locsH1699 (x1729) (x1703) (lv_sub hl1731 [3, 4, 5, 6, 7, 0] rfl) hTH1699 hSH1699 (by have := i_rng x1729; omega) ex1703 cy1704_0 cy1704_1 cy1704_2 cy1704_3 cy1704_4 cy1704_5 cy1704_6 cy1704_7 cy1704_8 fy1704_nl fy1704_bl fy1704_br (by omega) (by omega) (HD.mk ((HD.get hsp56).trans sk_)) hpr56
          · have k1728 := i_nlt c1727
            refine lv_aload_n hx hb dX5_goOn_100 rfl (lv_at hl1721 2 rfl) ?_
            refine x_gr C hTH1699 (ci := 5) (k := 2) rfl inX5 (by decide) wF_X5_18 ga0 rg_104 rfl dX5_goOn_101 (fun q1732 eq1732 gq1732 => ?_)
            have uq1732 : mq = q1732 := (cy1704_2).trans eq1732.symm
            subst uq1732
            refine lv_iload hx hb dX5_goOn_104 (lv_at hl1721 0 rfl) ?_
            refine x_ai C hTH1699 gmq rg_107 ⟨by omega, by show _ < ((256 : Nat) : Int); omega⟩ dX5_goOn_106 (fun x1733 ex1733 bx1733 => ?_)
            refine lv_if_ne (tgt := 152) hx hb dX5_goOn_107 (by decide) (fun c1734 => ?_) (fun c1734 => ?_)
            · have k1735 := i_ne c1734
              obtain ⟨x1736, ex1736⟩ : ∃ y : Int32, y = x1702 + 1 := ⟨_, rfl⟩
              have tx1736 := i_add ex1736 (by omega)
              refine lv_iinc (v := x1736) (lv' := [(5, .int x1736), (7, .int x1719), (6, .int x1715), (0, .ref a0), (1, .ref a1), (2, .int x2), (3, .int x3), (4, .int x4)]) hx hb dX5_goOn_152 hl1721 (k := 7) rfl (by rw [ex1736]; rfl) (by decide) rfl (fun ls1737 hl1738 => ?_)
              refine lv_goto (tgt := 56) hx hb dX5_goOn_155 (by decide) ?_
              have cn_x1736 := i_cl (x := x1736) (by omega)
              have hm1_ : (fun j => (fI H1699 mq j).toInt) (ky (x1702.toNatClampNeg :: g)) ≠ 0 := by show (fI _ mq _).toInt ≠ 0; rw [show ky (x1702.toNatClampNeg :: g) = x1719.toNatClampNeg by omega, ← x01705 _, ← ex1733]; omega
              have sk_ : frM (gF nl bl br sd.toInt bc.toNatClampNeg (nc.toNatClampNeg - 7) g) (bc.toNatClampNeg - x1702.toNatClampNeg) x1702.toNatClampNeg ((fun j => (fI H1699 mq j).toInt), x1703.toInt, acL x1703.toInt (fun j => (fI H1699 bq j).toInt) nc.toNatClampNeg) = frM (gF nl bl br sd.toInt bc.toNatClampNeg (nc.toNatClampNeg - 7) g) (bc.toNatClampNeg - x1736.toNatClampNeg) x1736.toNatClampNeg ((fun j => (fI H1699 mq j).toInt), x1703.toInt, acL x1703.toInt (fun j => (fI H1699 bq j).toInt) nc.toNatClampNeg) := gm_skip (by omega) (by omega) (Or.inr hm1_)
              exact ih56  ls1737 H1699 locsH1699 (x1736) (x1703) (lv_sub hl1738 [3, 4, 5, 6, 7, 0] rfl) hTH1699 hSH1699 (by have := i_rng x1736; omega) ex1703 cy1704_0 cy1704_1 cy1704_2 cy1704_3 cy1704_4 cy1704_5 cy1704_6 cy1704_7 cy1704_8 fy1704_nl fy1704_bl fy1704_br (by omega) (by omega) (HD.mk ((HD.get hsp56).trans sk_)) hpr56
            · have k1735 := i_eq c1734
              refine lv_aload_n hx hb dX5_goOn_110 rfl (lv_at hl1721 2 rfl) ?_
              refine lv_aload_n hx hb dX5_goOn_111 rfl (lv_at hl1721 3 rfl) ?_
              refine lv_iload_n hx hb dX5_goOn_112 rfl (lv_at hl1721 5 rfl) ?_
              refine lv_iload hx hb dX5_goOn_113 (lv_at hl1721 7 rfl) ?_
              refine x_V (As := [.ref a1, .int x3, .int x1702]) (rest := []) C (a_X5_ringsTogether_e l K G H1699 (x3) (x1702) (sd) (bc) (g) br hTH1699 ga0 ga1 (by omega) (by omega) gkq cy1704_5 cy1704_8 cy1704_7 (by omega) (hy1) (hy6) fy1704_br) yo_X5_ringsTogether wM_X5_58 ⟨⟨by decide, by decide⟩, by decide, by decide⟩ (x_rv C hTH1699 (ci := 5) rfl ga0 rg_104) rfl hl1721.1 rfl (Nat.le_of_ble_eq_true rfl) dX5_goOn_115 hSH1699 (AE_sub (fun _ _ => rfl) (by decide) hSH1699.1) (fun vH1739 H1739 locsH1739 pH1739 zH1739 kH1739 hSH1739 => ?_)
              obtain ⟨x1740, hvH1739, bx1740, m1741, hTH1739⟩ := pH1739
              subst hvH1739
              have f1742 : ∀ j : Nat, nl j = (fI H1739 nq j).toInt := fun j => (fy1704_nl j).trans (congrArg Int32.toInt (fI_kept (x_lt hTH1699 kH1739 gnq (by decide))).symm)
              have f1743 : ∀ j : Nat, bl j = (fI H1739 lq j).toInt := fun j => (fy1704_bl j).trans (congrArg Int32.toInt (fI_kept (x_lt hTH1699 kH1739 glq (by decide))).symm)
              have f1744 : ∀ j : Nat, br j = (fI H1739 kq j).toInt := fun j => (fy1704_br j).trans (congrArg Int32.toInt (fI_kept (x_lt hTH1699 kH1739 gkq (by decide))).symm)
              have f1745 : ∀ j : Nat, fI H1739 mq j = fI H1699 mq j := fun j => (fI_kept (x_lt hTH1699 kH1739 gmq (by decide))).trans (x01705 j)
              have f1746 : ∀ j : Nat, fI H1739 bq j = fI H1699 bq j := fun j => (fI_kept (x_lt hTH1699 kH1739 gbq (by decide))).trans (x01706 j)
              have f1747 : ∀ j : Nat, fI H1739 tq j = fI H1699 tq j := fun j => (fI_kept (x_lt hTH1699 kH1739 gtq (by decide))).trans (x01707 j)
              have m1748 := (ex1703).trans (fI_kept (x_lt hTH1699 kH1739 ga0 (by decide))).symm
              have m1749 := (cy1704_0).trans (fR_kept (x_lt hTH1699 kH1739 ga0 (by decide))).symm
              have m1750 := (cy1704_1).trans (fR_kept (x_lt hTH1699 kH1739 ga0 (by decide))).symm
              have m1751 := (cy1704_2).trans (fR_kept (x_lt hTH1699 kH1739 ga0 (by decide))).symm
              have m1752 := (cy1704_3).trans (fR_kept (x_lt hTH1699 kH1739 ga1 (by decide))).symm
              have m1753 := (cy1704_4).trans (fR_kept (x_lt hTH1699 kH1739 ga1 (by decide))).symm
              have m1754 := (cy1704_5).trans (fR_kept (x_lt hTH1699 kH1739 ga1 (by decide))).symm
              have m1755 := (cy1704_6).trans (fI_kept (x_lt hTH1699 kH1739 ga1 (by decide))).symm
              have m1756 := (cy1704_7).trans (fI_kept (x_lt hTH1699 kH1739 ga1 (by decide))).symm
              have m1757 := (cy1704_8).trans (fI_kept (x_lt hTH1699 kH1739 ga0 (by decide))).symm
              have m1758 := (ex1712).trans (fI_kept (x_lt hTH1699 kH1739 glq (by decide))).symm
              have m1759 := (ex1714).trans (fI_kept (x_lt hTH1699 kH1739 gnq (by decide))).symm
              have m1760 := (ex1733).trans (fI_kept (x_lt hTH1699 kH1739 gmq (by decide))).symm
              refine W.eq (g2 := F0 m 118 ls1720 [.int x1740]) rfl ?_
              refine lv_if_eq (tgt := 152) hx hb dX5_goOn_118 (by decide) (fun c1761 => ?_) (fun c1761 => ?_)
              · have k1762 := i_eq c1761
                obtain ⟨x1763, ex1763⟩ : ∃ y : Int32, y = x1702 + 1 := ⟨_, rfl⟩
                have tx1763 := i_add ex1763 (by omega)
                refine lv_iinc (v := x1763) (lv' := [(5, .int x1763), (7, .int x1719), (6, .int x1715), (0, .ref a0), (1, .ref a1), (2, .int x2), (3, .int x3), (4, .int x4)]) hx hb dX5_goOn_152 hl1721 (k := 7) rfl (by rw [ex1763]; rfl) (by decide) rfl (fun ls1764 hl1765 => ?_)
                refine lv_goto (tgt := 56) hx hb dX5_goOn_155 (by decide) ?_
                have cn_x1763 := i_cl (x := x1763) (by omega)
                have sk_ : frM (gF nl bl br sd.toInt bc.toNatClampNeg (nc.toNatClampNeg - 7) g) (bc.toNatClampNeg - x1702.toNatClampNeg) x1702.toNatClampNeg ((fun j => (fI H1699 mq j).toInt), x1703.toInt, acL x1703.toInt (fun j => (fI H1699 bq j).toInt) nc.toNatClampNeg) = frM (gF nl bl br sd.toInt bc.toNatClampNeg (nc.toNatClampNeg - 7) g) (bc.toNatClampNeg - x1763.toNatClampNeg) x1763.toNatClampNeg ((fun j => (fI H1699 mq j).toInt), x1703.toInt, acL x1703.toInt (fun j => (fI H1699 bq j).toInt) nc.toNatClampNeg) := gm_skip (by omega) (by omega) (Or.inl (okB_n3 ((HD.get m1741).elim (fun z => absurd z.1 (by omega)) (fun z => z.2))))
                have em_ : (fun j => (fI H1739 mq j).toInt) = (fun j => (fI H1699 mq j).toInt) := funext fun j => congrArg Int32.toInt (f1745 j)
                have eb_ : (fun j => (fI H1739 bq j).toInt) = (fun j => (fI H1699 bq j).toInt) := funext fun j => congrArg Int32.toInt (f1746 j)
                exact ih56  ls1764 H1739 locsH1739 (x1763) (x1703) (lv_sub hl1765 [3, 4, 5, 6, 7, 0] rfl) hTH1739 hSH1739 (by have := i_rng x1763; omega) m1748 m1749 m1750 m1751 m1752 m1753 m1754 m1755 m1756 m1757 f1742 f1743 f1744 (by omega) (by omega) (HD.mk ((HD.get hsp56).trans (sk_.trans (by rw [em_, eb_])))) ((pr_c 6 (fun j _ => congrArg Int32.toInt (f1747 j))).trans hpr56)
              · have k1762 := i_ne c1761
                have qk_ : nl 6 = _ := (congrArg nl (show 6 = x2.toNatClampNeg by omega)).trans qvx1714
                have hok_ : okB nl bl br sd.toInt g x1702.toNatClampNeg = true := okB_y hlen (fun z => by have q_ := ky_eq.mpr z; omega) (by omega) hy3 ((HD.get m1741).elim (fun z => z.2) (fun z => absurd z.1 (by omega)))
                have hm0_ : (fun j => (fI H1699 mq j).toInt) (ky (x1702.toNatClampNeg :: g)) = 0 := by show (fI _ mq _).toInt = 0; rw [show ky (x1702.toNatClampNeg :: g) = x1719.toNatClampNeg by omega, ← x01705 _, ← ex1733]; omega
                refine lv_aload_n hx hb dX5_goOn_121 rfl (lv_at hl1721 2 rfl) ?_
                refine x_gr C hTH1739 (ci := 5) (k := 2) rfl inX5 (by decide) wF_X5_18 ga0 rg_104 rfl dX5_goOn_122 (fun q1766 eq1766 gq1766 => ?_)
                have uq1766 : mq = q1766 := (m1751).trans eq1766.symm
                subst uq1766
                refine lv_iload hx hb dX5_goOn_125 (lv_at hl1721 0 rfl) ?_
                refine lv_iconst (v := 1) hx hb dX5_goOn_127 (by decide) ?_
                refine x_iast C hTH1739 hSH1739 gmq rg_107 (by omega) (by show _ < ((256 : Nat) : Int); omega) (by decide) (AE_in gmq (by decide)) dX5_goOn_128 (fun H1767 locsH1767 hTH1767 hSH1767 wH1767 => ?_)
                have f1768 : ∀ j : Nat, nl j = (fI H1767 nq j).toInt := fun j => (f1742 j).trans (congrArg Int32.toInt (Wr.neI wH1767 (Or.inl (G_ne gnq gmq (by decide)))).symm)
                have f1769 : ∀ j : Nat, bl j = (fI H1767 lq j).toInt := fun j => (f1743 j).trans (congrArg Int32.toInt (Wr.neI wH1767 (Or.inl (G_ne glq gmq (by decide)))).symm)
                have f1770 : ∀ j : Nat, br j = (fI H1767 kq j).toInt := fun j => (f1744 j).trans (congrArg Int32.toInt (Wr.neI wH1767 (Or.inl (G_ne gkq gmq (by decide)))).symm)
                have f1771 : ∀ j : Nat, fI H1767 bq j = fI H1699 bq j := fun j => (fI_kept (wH1767.off (G_ne gbq gmq (by decide)))).trans (f1746 j)
                have f1772 : ∀ j : Nat, fI H1767 tq j = fI H1699 tq j := fun j => (fI_kept (wH1767.off (G_ne gtq gmq (by decide)))).trans (f1747 j)
                have m1773 := m1748.trans (Wr.neI wH1767 (Or.inl (G_ne ga0 gmq (by decide)))).symm
                have m1774 := m1749.trans (Wr.neR wH1767 (Or.inl (G_ne ga0 gmq (by decide)))).symm
                have m1775 := m1750.trans (Wr.neR wH1767 (Or.inl (G_ne ga0 gmq (by decide)))).symm
                have m1776 := m1751.trans (Wr.neR wH1767 (Or.inl (G_ne ga0 gmq (by decide)))).symm
                have m1777 := m1752.trans (Wr.neR wH1767 (Or.inl (G_ne ga1 gmq (by decide)))).symm
                have m1778 := m1753.trans (Wr.neR wH1767 (Or.inl (G_ne ga1 gmq (by decide)))).symm
                have m1779 := m1754.trans (Wr.neR wH1767 (Or.inl (G_ne ga1 gmq (by decide)))).symm
                have m1780 := m1755.trans (Wr.neI wH1767 (Or.inl (G_ne ga1 gmq (by decide)))).symm
                have m1781 := m1756.trans (Wr.neI wH1767 (Or.inl (G_ne ga1 gmq (by decide)))).symm
                have m1782 := m1757.trans (Wr.neI wH1767 (Or.inl (G_ne ga0 gmq (by decide)))).symm
                have m1783 := m1758.trans (Wr.neI wH1767 (Or.inl (G_ne glq gmq (by decide)))).symm
                have m1784 := m1759.trans (Wr.neI wH1767 (Or.inl (G_ne gnq gmq (by decide)))).symm
                have m1786 := Wr.I wH1767
                refine lv_aload_n hx hb dX5_goOn_129 rfl (lv_at hl1721 2 rfl) ?_
                refine x_gr C hTH1767 (ci := 5) (k := 1) rfl inX5 (by decide) wF_X5_15 ga0 rg_104 rfl dX5_goOn_130 (fun q1787 eq1787 gq1787 => ?_)
                have uq1787 : tq = q1787 := (m1774).trans eq1787.symm
                subst uq1787
                refine lv_iload_n hx hb dX5_goOn_133 rfl (lv_at hl1721 4 rfl) ?_
                refine lv_iload hx hb dX5_goOn_134 (lv_at hl1721 7 rfl) ?_
                refine x_iast C hTH1767 hSH1767 gtq rg_106 (by omega) (by show _ < ((8 : Nat) : Int); omega) ⟨by have := i_rng x1702; omega, by have := i_rng x1702; omega⟩ (AE_in gtq (by decide)) dX5_goOn_136 (fun H1788 locsH1788 hTH1788 hSH1788 wH1788 => ?_)
                have f1789 : ∀ j : Nat, nl j = (fI H1788 nq j).toInt := fun j => (f1768 j).trans (congrArg Int32.toInt (Wr.neI wH1788 (Or.inl (G_ne gnq gtq (by decide)))).symm)
                have f1790 : ∀ j : Nat, bl j = (fI H1788 lq j).toInt := fun j => (f1769 j).trans (congrArg Int32.toInt (Wr.neI wH1788 (Or.inl (G_ne glq gtq (by decide)))).symm)
                have f1791 : ∀ j : Nat, br j = (fI H1788 kq j).toInt := fun j => (f1770 j).trans (congrArg Int32.toInt (Wr.neI wH1788 (Or.inl (G_ne gkq gtq (by decide)))).symm)
                have f1792 : ∀ j : Nat, fI H1788 bq j = fI H1699 bq j := fun j => (fI_kept (wH1788.off (G_ne gbq gtq (by decide)))).trans (f1771 j)
                have m1793 := m1773.trans (Wr.neI wH1788 (Or.inl (G_ne ga0 gtq (by decide)))).symm
                have m1794 := m1774.trans (Wr.neR wH1788 (Or.inl (G_ne ga0 gtq (by decide)))).symm
                have m1795 := m1775.trans (Wr.neR wH1788 (Or.inl (G_ne ga0 gtq (by decide)))).symm
                have m1796 := m1776.trans (Wr.neR wH1788 (Or.inl (G_ne ga0 gtq (by decide)))).symm
                have m1797 := m1777.trans (Wr.neR wH1788 (Or.inl (G_ne ga1 gtq (by decide)))).symm
                have m1798 := m1778.trans (Wr.neR wH1788 (Or.inl (G_ne ga1 gtq (by decide)))).symm
                have m1799 := m1779.trans (Wr.neR wH1788 (Or.inl (G_ne ga1 gtq (by decide)))).symm
                have m1800 := m1780.trans (Wr.neI wH1788 (Or.inl (G_ne ga1 gtq (by decide)))).symm
                have m1801 := m1781.trans (Wr.neI wH1788 (Or.inl (G_ne ga1 gtq (by decide)))).symm
                have m1802 := m1782.trans (Wr.neI wH1788 (Or.inl (G_ne ga0 gtq (by decide)))).symm
                have m1803 := m1783.trans (Wr.neI wH1788 (Or.inl (G_ne glq gtq (by decide)))).symm
                have m1804 := m1784.trans (Wr.neI wH1788 (Or.inl (G_ne gnq gtq (by decide)))).symm
                have m1805 := (Wr.neI wH1788 (Or.inl (G_ne gmq gtq (by decide)))).trans m1786
                have m1806 := Wr.I wH1788
                have m1806 := m1806.symm
                refine lv_aload_n hx hb dX5_goOn_137 rfl (lv_at hl1721 2 rfl) ?_
                refine lv_aload_n hx hb dX5_goOn_138 rfl (lv_at hl1721 3 rfl) ?_
                refine lv_iload_n hx hb dX5_goOn_139 rfl (lv_at hl1721 4 rfl) ?_
                refine lv_iconst (v := 1) hx hb dX5_goOn_140 (by decide) ?_
                refine lv_iadd hx hb dX5_goOn_141 ?_
                refine lv_topi (fun x1807 ex1807 => ?_)
                have tx1807 := i_add ex1807 (by omega)
                refine lv_iload hx hb dX5_goOn_142 (lv_at hl1721 0 rfl) ?_
                refine lv_iload hx hb dX5_goOn_144 (lv_at hl1721 6 rfl) ?_
                refine lv_iload hx hb dX5_goOn_146 (lv_at hl1721 1 rfl) ?_
                refine lv_iadd hx hb dX5_goOn_148 ?_
                refine lv_topi (fun x1808 ex1808 => ?_)
                have tx1808 := i_add ex1808 (by omega)
                have em_ : (fun j => (fI H1788 mq j).toInt) = upM (fun j => (fI H1699 mq j).toInt) (ky (x1702.toNatClampNeg :: g)) := up_w (f1 := fun j => fI H1788 mq j) (f0 := fun j => fI H1699 mq j) (q := x1719.toNatClampNeg) ((Wr.neI wH1788 (Or.inl (G_ne gmq gtq (by decide)))).trans (Wr.I wH1767)) n_1 (fun j hj => (Wr.neI wH1788 (Or.inl (G_ne gmq gtq (by decide)))).trans ((Wr.neI wH1767 (Or.inr hj)).trans (f1745 j))) (by omega)
                have eb_ : (fun j => (fI H1788 bq j).toInt) = (fun j => (fI H1699 bq j).toInt) := funext fun j => congrArg Int32.toInt (f1792 j)
                have hp1_ : pr (fun j => (fI H1788 tq j).toInt) 7 = x1702.toNatClampNeg :: g := pr_w (f0 := (fun j => (fI H1699 tq j).toInt)) (by show (fI _ tq _).toInt.toNat = _; rw [show 6 = x2.toNatClampNeg by omega, Wr.I wH1788]; omega) (fun j hj => congrArg Int32.toInt ((Wr.neI wH1788 (Or.inr (by omega))).trans ((Wr.neI wH1767 (Or.inl (G_ne gtq gmq (by decide)))).trans (f1747 j)))) hpr56
                have hg1_ : ∀ x ∈ x1702.toNatClampNeg :: g, x < bc.toNatClampNeg := fun x hx => (List.mem_cons.mp hx).elim (fun e => by rw [e]; omega) (fun e => hy3 x e)
                have hws_ : x1808.toInt = wsB nl bl (x1702.toNatClampNeg :: g) := by rw [wsB, hlen]; omega
                refine x_V (As := [.ref a1, .int x1807, .int x1719, .int x1808]) (rest := []) C (a_X5_goOn_e7 l K G H1788 (x1807) (x1719) (x1808) (x1703) (nc) (bc) (sd) (x1702.toNatClampNeg :: g) nl bl br hTH1788 ga0 ga1 (by omega) (by omega) (by omega) gtq m1794 gbq m1795 gmq m1796 gnq m1797 glq m1798 gkq m1799 m1793 m1800 m1801 m1802 (by omega) (hp1_) (hky_) (hws_) (hg1_) (hy4) (hy5) (hy6) f1789 f1790 f1791) yo_X5_goOn wM_X5_34 ⟨⟨by decide, by decide⟩, by decide, by decide⟩ (x_rv C hTH1788 (ci := 5) rfl ga0 rg_104) rfl hl1721.1 rfl (Nat.le_of_ble_eq_true rfl) dX5_goOn_149 hSH1788 (AE_sub (fun _ _ => rfl) (by decide) hSH1788.1) (fun vH1809 H1809 locsH1809 pH1809 zH1809 kH1809 hSH1809 => ?_)
                obtain ⟨x1810, hvH1809, ex1810, m1811, m1812, m1813, m1814, m1815, m1816, hTH1809⟩ := pH1809
                subst hvH1809
                have f1817 : ∀ j : Nat, nl j = (fI H1809 nq j).toInt := fun j => (f1789 j).trans (congrArg Int32.toInt (fI_kept (x_lt hTH1788 kH1809 gnq (by decide))).symm)
                have f1818 : ∀ j : Nat, bl j = (fI H1809 lq j).toInt := fun j => (f1790 j).trans (congrArg Int32.toInt (fI_kept (x_lt hTH1788 kH1809 glq (by decide))).symm)
                have f1819 : ∀ j : Nat, br j = (fI H1809 kq j).toInt := fun j => (f1791 j).trans (congrArg Int32.toInt (fI_kept (x_lt hTH1788 kH1809 gkq (by decide))).symm)
                have m1820 := (m1797).trans (fR_kept (x_lt hTH1788 kH1809 ga1 (by decide))).symm
                have m1821 := (m1798).trans (fR_kept (x_lt hTH1788 kH1809 ga1 (by decide))).symm
                have m1822 := (m1799).trans (fR_kept (x_lt hTH1788 kH1809 ga1 (by decide))).symm
                have m1823 := (m1800).trans (fI_kept (x_lt hTH1788 kH1809 ga1 (by decide))).symm
                have m1824 := (m1801).trans (fI_kept (x_lt hTH1788 kH1809 ga1 (by decide))).symm
                have m1825 := (m1803).trans (fI_kept (x_lt hTH1788 kH1809 glq (by decide))).symm
                have m1826 := (m1804).trans (fI_kept (x_lt hTH1788 kH1809 gnq (by decide))).symm
                have bx1810 := ty_fi (x := x1810) (k := 3) ex1810 hTH1809 ga0 rg_104 rfl
                refine W.eq (g2 := F0 m 152 ls1720 []) rfl ?_
                obtain ⟨x1827, ex1827⟩ : ∃ y : Int32, y = x1702 + 1 := ⟨_, rfl⟩
                have tx1827 := i_add ex1827 (by omega)
                refine lv_iinc (v := x1827) (lv' := [(5, .int x1827), (7, .int x1719), (6, .int x1715), (0, .ref a0), (1, .ref a1), (2, .int x2), (3, .int x3), (4, .int x4)]) hx hb dX5_goOn_152 hl1721 (k := 7) rfl (by rw [ex1827]; rfl) (by decide) rfl (fun ls1828 hl1829 => ?_)
                refine lv_goto (tgt := 56) hx hb dX5_goOn_155 (by decide) ?_
                have cn_x1827 := i_cl (x := x1827) (by omega)
                have hr_ := HD.get m1816
                rw [em_, eb_] at hr_
                exact ih56  ls1828 H1809 locsH1809 (x1827) (x1810) (lv_sub hl1829 [3, 4, 5, 6, 7, 0] rfl) hTH1809 hSH1809 (by have := i_rng x1827; omega) ex1810 m1811 m1812 m1813 m1820 m1821 m1822 m1823 m1824 m1814 f1817 f1818 f1819 (by omega) (by omega) (HD.mk ((HD.get hsp56).trans (gm_take (by omega) (by omega) hok_ hm0_ hr_))) (pr_tl m1815)
  have x01830 : ∀ j : Nat, fI s.heap mq j = fI s.heap mq j := fun _ => rfl
  have x01831 : ∀ j : Nat, fI s.heap bq j = fI s.heap bq j := fun _ => rfl
  have x01832 : ∀ j : Nat, fI s.heap tq j = fI s.heap tq j := fun _ => rfl
  have hlen : g.length = 6 := by rw [← hy0, pr_len]
  have cn_nc := i_cl (x := nc) (by omega)
  have cn_bc := i_cl (x := bc) (by omega)
  refine lv_iload_n hx hb dX5_goOn_0 rfl (lv_at hl 2 rfl) ?_
  refine lv_aload_n hx hb dX5_goOn_1 rfl (lv_at hl 1 rfl) ?_
  refine x_gi C hT (ci := 8) (k := 13) rfl inX8 (by decide) wF_X5_38 ga1 rg_0 rfl dX5_goOn_2 (fun x1833 ex1833 bx1833 => ?_)
  have ux1833 : nc = x1833 := (enc).trans ex1833.symm
  subst ux1833
  refine lv_icmp_ge (tgt := 14) hx hb dX5_goOn_5 (by decide) (fun c1834 => ?_) (fun c1834 => ?_)
  · have k1835 := i_le c1834
    refine lv_aload_n hx hb dX5_goOn_14 rfl (lv_at hl 0 rfl) ?_
    refine x_gi C hT (ci := 5) (k := 3) rfl inX5 (by decide) wF_X5_27 ga0 rg_104 rfl dX5_goOn_15 (fun x1836 ex1836 bx1836 => ?_)
    have ux1836 : le = x1836 := (ele).trans ex1836.symm
    subst ux1836
    refine lv_iconst (v := (-1)) hx hb dX5_goOn_18 (by decide) ?_
    refine lv_icmp_eq (tgt := 31) hx hb dX5_goOn_19 (by decide) (fun c1837 => ?_) (fun c1837 => ?_)
    · have k1838 := i_eq c1837
      refine lv_aload_n hx hb dX5_goOn_31 rfl (lv_at hl 0 rfl) ?_
      refine lv_iload hx hb dX5_goOn_32 (lv_at hl 4 rfl) ?_
      refine x_put C hT hS (ci := 5) (k := 3) (v := .int x4) (ty0 := tyX5) rfl inX5 tyX5_ok nmX5 (by decide) rfl wF_X5_27 ga0 rg_104 rfl rfl (okI (by have := i_rng x4; omega) (by have := i_rng x4; omega)) rfl rfl (AE_in ga0 (by decide)) dX5_goOn_34 (fun H1839 locsH1839 hTH1839 hSH1839 wH1839 => ?_)
      have f1840 : ∀ j : Nat, nl j = (fI H1839 nq j).toInt := fun j => (f0_nl j).trans (congrArg Int32.toInt (Wr.neI wH1839 (Or.inl (G_ne gnq ga0 (by decide)))).symm)
      have f1841 : ∀ j : Nat, bl j = (fI H1839 lq j).toInt := fun j => (f0_bl j).trans (congrArg Int32.toInt (Wr.neI wH1839 (Or.inl (G_ne glq ga0 (by decide)))).symm)
      have f1842 : ∀ j : Nat, br j = (fI H1839 kq j).toInt := fun j => (f0_br j).trans (congrArg Int32.toInt (Wr.neI wH1839 (Or.inl (G_ne gkq ga0 (by decide)))).symm)
      have f1843 : ∀ j : Nat, fI H1839 mq j = fI s.heap mq j := fun j => (fI_kept (wH1839.off (G_ne gmq ga0 (by decide)))).trans (x01830 j)
      have f1844 : ∀ j : Nat, fI H1839 bq j = fI s.heap bq j := fun j => (fI_kept (wH1839.off (G_ne gbq ga0 (by decide)))).trans (x01831 j)
      have f1845 : ∀ j : Nat, fI H1839 tq j = fI s.heap tq j := fun j => (fI_kept (wH1839.off (G_ne gtq ga0 (by decide)))).trans (x01832 j)
      have m1846 := etq.trans (Wr.neR wH1839 (Or.inr (x_apart hKT hts inX5 tyX5 tyX5_ok nmX5 rfl 1 3 (by decide) (by decide) (by decide)))).symm
      have m1847 := ebq.trans (Wr.neR wH1839 (Or.inr (x_apart hKT hts inX5 tyX5 tyX5_ok nmX5 rfl 0 3 (by decide) (by decide) (by decide)))).symm
      have m1848 := emq.trans (Wr.neR wH1839 (Or.inr (x_apart hKT hts inX5 tyX5 tyX5_ok nmX5 rfl 2 3 (by decide) (by decide) (by decide)))).symm
      have m1849 := enq.trans (Wr.neR wH1839 (Or.inl (G_ne ga1 ga0 (by decide)))).symm
      have m1850 := elq.trans (Wr.neR wH1839 (Or.inl (G_ne ga1 ga0 (by decide)))).symm
      have m1851 := ekq.trans (Wr.neR wH1839 (Or.inl (G_ne ga1 ga0 (by decide)))).symm
      have m1853 := enc.trans (Wr.neI wH1839 (Or.inl (G_ne ga1 ga0 (by decide)))).symm
      have m1854 := ebc.trans (Wr.neI wH1839 (Or.inl (G_ne ga1 ga0 (by decide)))).symm
      have m1855 := esd.trans (Wr.neI wH1839 (Or.inr (x_apart hKT hts inX5 tyX5 tyX5_ok nmX5 rfl 4 3 (by decide) (by decide) (by decide)))).symm
      have m1856 := Wr.I wH1839
      have m1856 := m1856.symm
      refine lv_aload_n hx hb dX5_goOn_37 rfl (lv_at hl 0 rfl) ?_
      refine x_gr C hTH1839 (ci := 5) (k := 1) rfl inX5 (by decide) wF_X5_15 ga0 rg_104 rfl dX5_goOn_38 (fun q1857 eq1857 gq1857 => ?_)
      have uq1857 : tq = q1857 := (m1846).trans eq1857.symm
      subst uq1857
      refine lv_iconst (v := 0) hx hb dX5_goOn_41 (by decide) ?_
      refine lv_aload_n hx hb dX5_goOn_42 rfl (lv_at hl 0 rfl) ?_
      refine x_gr C hTH1839 (ci := 5) (k := 0) rfl inX5 (by decide) wF_X5_9 ga0 rg_104 rfl dX5_goOn_43 (fun q1858 eq1858 gq1858 => ?_)
      have uq1858 : bq = q1858 := (m1847).trans eq1858.symm
      subst uq1858
      refine lv_iconst (v := 0) hx hb dX5_goOn_46 (by decide) ?_
      refine lv_bipush (v := 8) hx hb dX5_goOn_47 (by decide) ?_
      refine x_copy C hTH1839 hSH1839 wM_X5_43 wNT_arraycopy wST_arraycopy wIN_J10 gtq gbq rg_106 rg_105 (by decide) (by omega) (by omega) (by omega) (by show _ ≤ ((8 : Nat) : Int); omega) (by show _ ≤ ((8 : Nat) : Int); omega) (AE_in gbq (by decide)) hl.1 (by decide) dX5_goOn_49 (fun H1859 locsH1859 hTH1859 hSH1859 zH1859 oH1859 vH1859 wH1859 => ?_)
      have m1860 := (m1846).trans (fR_kept (oH1859 _ (G_ne ga0 gbq (by decide)))).symm
      have m1861 := (m1847).trans (fR_kept (oH1859 _ (G_ne ga0 gbq (by decide)))).symm
      have m1862 := (m1848).trans (fR_kept (oH1859 _ (G_ne ga0 gbq (by decide)))).symm
      have m1863 := (m1849).trans (fR_kept (oH1859 _ (G_ne ga1 gbq (by decide)))).symm
      have m1864 := (m1850).trans (fR_kept (oH1859 _ (G_ne ga1 gbq (by decide)))).symm
      have m1865 := (m1851).trans (fR_kept (oH1859 _ (G_ne ga1 gbq (by decide)))).symm
      have m1866 := (m1853).trans (fI_kept (oH1859 _ (G_ne ga1 gbq (by decide)))).symm
      have m1867 := (m1854).trans (fI_kept (oH1859 _ (G_ne ga1 gbq (by decide)))).symm
      have m1868 := (m1855).trans (fI_kept (oH1859 _ (G_ne ga0 gbq (by decide)))).symm
      have m1869 := (m1856).trans (fI_kept (oH1859 _ (G_ne ga0 gbq (by decide)))).symm
      have f1870 : ∀ j : Nat, nl j = (fI H1859 nq j).toInt := fun j => (f1840 j).trans (congrArg Int32.toInt (fI_kept (oH1859 _ (G_ne gnq gbq (by decide)))).symm)
      have f1871 : ∀ j : Nat, bl j = (fI H1859 lq j).toInt := fun j => (f1841 j).trans (congrArg Int32.toInt (fI_kept (oH1859 _ (G_ne glq gbq (by decide)))).symm)
      have f1872 : ∀ j : Nat, br j = (fI H1859 kq j).toInt := fun j => (f1842 j).trans (congrArg Int32.toInt (fI_kept (oH1859 _ (G_ne gkq gbq (by decide)))).symm)
      have f1873 : ∀ j : Nat, fI H1859 mq j = fI s.heap mq j := fun j => (fI_kept (oH1859 _ (G_ne gmq gbq (by decide)))).trans (f1843 j)
      have f1874 : ∀ j : Nat, fI H1859 tq j = fI s.heap tq j := fun j => (fI_kept (oH1859 _ (G_ne gtq gbq (by decide)))).trans (f1845 j)
      have c00 : (0 : Int32).toNatClampNeg = 0 := rfl
      have n_8_ : (8 : Int32).toInt = 8 := rfl
      have cpy_ : pr (fun j => (fI H1859 bq j).toInt) nc.toNatClampNeg = g := by rw [show nc.toNatClampNeg = 6 by omega, ← hy0]; exact pr_c 6 (fun j hj => congrArg Int32.toInt (by have z := wH1859 j (by omega); rw [c00, Nat.zero_add] at z; exact z.trans (f1845 j)))
      exact x_vret C hQ dX5_goOn_52 hSH1859 (by decide) (by decide) (⟨x4, rfl, m1869, m1860, m1861, m1862, m1868, ((pr_c 6 (fun j _ => congrArg Int32.toInt (f1874 j))).trans hy0), HD.mk (gm_yes (by omega) (by omega) hy2 (by omega) (fun j => congrArg Int32.toInt (f1873 j)) cpy_), hTH1859⟩)
    · have k1838 := i_ne c1837
      refine lv_iload hx hb dX5_goOn_22 (lv_at hl 4 rfl) ?_
      refine lv_aload_n hx hb dX5_goOn_24 rfl (lv_at hl 0 rfl) ?_
      refine x_gi C hT (ci := 5) (k := 3) rfl inX5 (by decide) wF_X5_27 ga0 rg_104 rfl dX5_goOn_25 (fun x1875 ex1875 bx1875 => ?_)
      have ux1875 : le = x1875 := (ele).trans ex1875.symm
      subst ux1875
      refine lv_icmp_ge (tgt := 52) hx hb dX5_goOn_28 (by decide) (fun c1876 => ?_) (fun c1876 => ?_)
      · have k1877 := i_le c1876
        exact x_vret C hQ dX5_goOn_52 hS (by decide) (by decide) (⟨le, rfl, ele, etq, ebq, emq, esd, ((pr_c 6 (fun j _ => congrArg Int32.toInt (x01832 j))).trans hy0), HD.mk (gm_not (by omega) (by omega) hy2 (fun j => congrArg Int32.toInt (x01830 j)) (fun j => congrArg Int32.toInt (x01831 j))), hT⟩)
      · have k1877 := i_nle c1876
        refine lv_aload_n hx hb dX5_goOn_31 rfl (lv_at hl 0 rfl) ?_
        refine lv_iload hx hb dX5_goOn_32 (lv_at hl 4 rfl) ?_
        refine x_put C hT hS (ci := 5) (k := 3) (v := .int x4) (ty0 := tyX5) rfl inX5 tyX5_ok nmX5 (by decide) rfl wF_X5_27 ga0 rg_104 rfl rfl (okI (by have := i_rng x4; omega) (by have := i_rng x4; omega)) rfl rfl (AE_in ga0 (by decide)) dX5_goOn_34 (fun H1878 locsH1878 hTH1878 hSH1878 wH1878 => ?_)
        have f1879 : ∀ j : Nat, nl j = (fI H1878 nq j).toInt := fun j => (f0_nl j).trans (congrArg Int32.toInt (Wr.neI wH1878 (Or.inl (G_ne gnq ga0 (by decide)))).symm)
        have f1880 : ∀ j : Nat, bl j = (fI H1878 lq j).toInt := fun j => (f0_bl j).trans (congrArg Int32.toInt (Wr.neI wH1878 (Or.inl (G_ne glq ga0 (by decide)))).symm)
        have f1881 : ∀ j : Nat, br j = (fI H1878 kq j).toInt := fun j => (f0_br j).trans (congrArg Int32.toInt (Wr.neI wH1878 (Or.inl (G_ne gkq ga0 (by decide)))).symm)
        have f1882 : ∀ j : Nat, fI H1878 mq j = fI s.heap mq j := fun j => (fI_kept (wH1878.off (G_ne gmq ga0 (by decide)))).trans (x01830 j)
        have f1883 : ∀ j : Nat, fI H1878 bq j = fI s.heap bq j := fun j => (fI_kept (wH1878.off (G_ne gbq ga0 (by decide)))).trans (x01831 j)
        have f1884 : ∀ j : Nat, fI H1878 tq j = fI s.heap tq j := fun j => (fI_kept (wH1878.off (G_ne gtq ga0 (by decide)))).trans (x01832 j)
        have m1885 := etq.trans (Wr.neR wH1878 (Or.inr (x_apart hKT hts inX5 tyX5 tyX5_ok nmX5 rfl 1 3 (by decide) (by decide) (by decide)))).symm
        have m1886 := ebq.trans (Wr.neR wH1878 (Or.inr (x_apart hKT hts inX5 tyX5 tyX5_ok nmX5 rfl 0 3 (by decide) (by decide) (by decide)))).symm
        have m1887 := emq.trans (Wr.neR wH1878 (Or.inr (x_apart hKT hts inX5 tyX5 tyX5_ok nmX5 rfl 2 3 (by decide) (by decide) (by decide)))).symm
        have m1888 := enq.trans (Wr.neR wH1878 (Or.inl (G_ne ga1 ga0 (by decide)))).symm
        have m1889 := elq.trans (Wr.neR wH1878 (Or.inl (G_ne ga1 ga0 (by decide)))).symm
        have m1890 := ekq.trans (Wr.neR wH1878 (Or.inl (G_ne ga1 ga0 (by decide)))).symm
        have m1892 := enc.trans (Wr.neI wH1878 (Or.inl (G_ne ga1 ga0 (by decide)))).symm
        have m1893 := ebc.trans (Wr.neI wH1878 (Or.inl (G_ne ga1 ga0 (by decide)))).symm
        have m1894 := esd.trans (Wr.neI wH1878 (Or.inr (x_apart hKT hts inX5 tyX5 tyX5_ok nmX5 rfl 4 3 (by decide) (by decide) (by decide)))).symm
        have m1895 := Wr.I wH1878
        have m1895 := m1895.symm
        refine lv_aload_n hx hb dX5_goOn_37 rfl (lv_at hl 0 rfl) ?_
        refine x_gr C hTH1878 (ci := 5) (k := 1) rfl inX5 (by decide) wF_X5_15 ga0 rg_104 rfl dX5_goOn_38 (fun q1896 eq1896 gq1896 => ?_)
        have uq1896 : tq = q1896 := (m1885).trans eq1896.symm
        subst uq1896
        refine lv_iconst (v := 0) hx hb dX5_goOn_41 (by decide) ?_
        refine lv_aload_n hx hb dX5_goOn_42 rfl (lv_at hl 0 rfl) ?_
        refine x_gr C hTH1878 (ci := 5) (k := 0) rfl inX5 (by decide) wF_X5_9 ga0 rg_104 rfl dX5_goOn_43 (fun q1897 eq1897 gq1897 => ?_)
        have uq1897 : bq = q1897 := (m1886).trans eq1897.symm
        subst uq1897
        refine lv_iconst (v := 0) hx hb dX5_goOn_46 (by decide) ?_
        refine lv_bipush (v := 8) hx hb dX5_goOn_47 (by decide) ?_
        refine x_copy C hTH1878 hSH1878 wM_X5_43 wNT_arraycopy wST_arraycopy wIN_J10 gtq gbq rg_106 rg_105 (by decide) (by omega) (by omega) (by omega) (by show _ ≤ ((8 : Nat) : Int); omega) (by show _ ≤ ((8 : Nat) : Int); omega) (AE_in gbq (by decide)) hl.1 (by decide) dX5_goOn_49 (fun H1898 locsH1898 hTH1898 hSH1898 zH1898 oH1898 vH1898 wH1898 => ?_)
        have m1899 := (m1885).trans (fR_kept (oH1898 _ (G_ne ga0 gbq (by decide)))).symm
        have m1900 := (m1886).trans (fR_kept (oH1898 _ (G_ne ga0 gbq (by decide)))).symm
        have m1901 := (m1887).trans (fR_kept (oH1898 _ (G_ne ga0 gbq (by decide)))).symm
        have m1902 := (m1888).trans (fR_kept (oH1898 _ (G_ne ga1 gbq (by decide)))).symm
        have m1903 := (m1889).trans (fR_kept (oH1898 _ (G_ne ga1 gbq (by decide)))).symm
        have m1904 := (m1890).trans (fR_kept (oH1898 _ (G_ne ga1 gbq (by decide)))).symm
        have m1905 := (m1892).trans (fI_kept (oH1898 _ (G_ne ga1 gbq (by decide)))).symm
        have m1906 := (m1893).trans (fI_kept (oH1898 _ (G_ne ga1 gbq (by decide)))).symm
        have m1907 := (m1894).trans (fI_kept (oH1898 _ (G_ne ga0 gbq (by decide)))).symm
        have m1908 := (m1895).trans (fI_kept (oH1898 _ (G_ne ga0 gbq (by decide)))).symm
        have f1909 : ∀ j : Nat, nl j = (fI H1898 nq j).toInt := fun j => (f1879 j).trans (congrArg Int32.toInt (fI_kept (oH1898 _ (G_ne gnq gbq (by decide)))).symm)
        have f1910 : ∀ j : Nat, bl j = (fI H1898 lq j).toInt := fun j => (f1880 j).trans (congrArg Int32.toInt (fI_kept (oH1898 _ (G_ne glq gbq (by decide)))).symm)
        have f1911 : ∀ j : Nat, br j = (fI H1898 kq j).toInt := fun j => (f1881 j).trans (congrArg Int32.toInt (fI_kept (oH1898 _ (G_ne gkq gbq (by decide)))).symm)
        have f1912 : ∀ j : Nat, fI H1898 mq j = fI s.heap mq j := fun j => (fI_kept (oH1898 _ (G_ne gmq gbq (by decide)))).trans (f1882 j)
        have f1913 : ∀ j : Nat, fI H1898 tq j = fI s.heap tq j := fun j => (fI_kept (oH1898 _ (G_ne gtq gbq (by decide)))).trans (f1884 j)
        have c00 : (0 : Int32).toNatClampNeg = 0 := rfl
        have n_8_ : (8 : Int32).toInt = 8 := rfl
        have cpy_ : pr (fun j => (fI H1898 bq j).toInt) nc.toNatClampNeg = g := by rw [show nc.toNatClampNeg = 6 by omega, ← hy0]; exact pr_c 6 (fun j hj => congrArg Int32.toInt (by have z := wH1898 j (by omega); rw [c00, Nat.zero_add] at z; exact z.trans (f1884 j)))
        exact x_vret C hQ dX5_goOn_52 hSH1898 (by decide) (by decide) (⟨x4, rfl, m1908, m1899, m1900, m1901, m1907, ((pr_c 6 (fun j _ => congrArg Int32.toInt (f1913 j))).trans hy0), HD.mk (gm_yes (by omega) (by omega) hy2 (by omega) (fun j => congrArg Int32.toInt (f1912 j)) cpy_), hTH1898⟩)
  · have k1835 := i_nle c1834
    refine lv_iload_n hx hb dX5_goOn_8 rfl (lv_at hl 2 rfl) ?_
    refine lv_bipush (v := 8) hx hb dX5_goOn_9 (by decide) ?_
    refine lv_icmp_lt (tgt := 53) hx hb dX5_goOn_11 (by decide) (fun c1914 => ?_) (fun c1914 => ?_)
    · have k1915 := i_lt c1914
      refine lv_iconst (v := 0) hx hb dX5_goOn_53 (by decide) ?_
      refine lv_istore (lv' := [(5, .int 0), (0, .ref a0), (1, .ref a1), (2, .int x2), (3, .int x3), (4, .int x4)]) hx hb dX5_goOn_54 hl (by decide) rfl (fun ls1916 hl1917 => ?_)
      exact J56 ((8 - (0 : Int32).toInt).toNat + 1)  ls1916 s.heap [] (0) (le) (lv_sub hl1917 [1, 2, 3, 4, 5, 0] rfl) hT hS (by decide) ele etq ebq emq enq elq ekq enc ebc esd f0_nl f0_bl f0_br (by omega) (by omega) (HD.mk (gm_start (by omega))) hy0
    · have k1915 := i_nlt c1914
      exfalso
      omega

set_option maxHeartbeats 4000000 in
set_option maxRecDepth 100000 in
theorem a_X5_goOn_e5 (l : Launch) (K : KE) (G : Nat → Option Nat) (H : Heap) {a0 : Nat} {a1 : Nat} (x2 : Int32) (x3 : Int32) (x4 : Int32) {tq : Nat} {bq : Nat} {mq : Nat} {nq : Nat} {lq : Nat} {kq : Nat} (le : Int32) (nc : Int32) (bc : Int32) (sd : Int32) (g : List Nat) (nl : Nat → Int) (bl : Nat → Int) (br : Nat → Int) (hT : TY K G H) (ga0 : G a0 = some 104) (ga1 : G a1 = some 0) (hx2 : 5 ≤ x2.toInt ∧ x2.toInt ≤ 5) (hx3 : 0 ≤ x3.toInt ∧ x3.toInt ≤ 255) (hx4 : 0 ≤ x4.toInt ∧ x4.toInt ≤ 495) (gtq : G tq = some 106) (etq : tq = fR H a0 (K.1.2 5 1)) (gbq : G bq = some 105) (ebq : bq = fR H a0 (K.1.2 5 0)) (gmq : G mq = some 107) (emq : mq = fR H a0 (K.1.2 5 2)) (gnq : G nq = some 31) (enq : nq = fR H a1 (K.1.2 8 12)) (glq : G lq = some 32) (elq : lq = fR H a1 (K.1.2 8 14)) (gkq : G kq = some 33) (ekq : kq = fR H a1 (K.1.2 8 15)) (ele : le = fI H a0 (K.1.2 5 3)) (enc : nc = fI H a1 (K.1.2 8 13)) (ebc : bc = fI H a1 (K.1.2 8 16)) (esd : sd = fI H a0 (K.1.2 5 4)) (hp0 : 5 ≤ nc.toInt) (hy0 : pr (fun j => (fI H tq j).toInt) 5 = g) (hy1 : x3.toInt = ((ky g : Nat) : Int)) (hy2 : x4.toInt = wsB nl bl g) (hy3 : ∀ x ∈ g, x < bc.toNatClampNeg) (hy4 : ∀ j : Nat, j < nc.toNatClampNeg → 0 ≤ nl j ∧ nl j ≤ 99) (hy5 : ∀ j : Nat, j < bc.toNatClampNeg → 0 ≤ bl j ∧ bl j ≤ 99) (hy6 : ∀ j : Nat, j < bc.toNatClampNeg → 0 ≤ br j ∧ br j ≤ 99) (hv_nl : ∀ j : Nat, nl j = (fI H nq j).toInt) (hv_bl : ∀ j : Nat, bl j = (fI H lq j).toInt) (hv_br : ∀ j : Nat, br j = (fI H kq j).toInt) : MX l K yX5_goOn cX5_goOn 8 none 4 121 0 0 [.ref a0, .ref a1, .int x2, .int x3, .int x4] H (AE G [104, 105, 106, 107] H.size) (fun v H1 => ∃ (t0 : Int32), v = none ∧ t0 = fI H1 a0 (K.1.2 5 3) ∧ tq = fR H1 a0 (K.1.2 5 1) ∧ bq = fR H1 a0 (K.1.2 5 0) ∧ mq = fR H1 a0 (K.1.2 5 2) ∧ sd = fI H1 a0 (K.1.2 5 4) ∧ (pr (fun j => (fI H1 tq j).toInt) 5 = g) ∧ (HD (goM nl bl br sd.toInt bc.toNatClampNeg (nc.toNatClampNeg - 5) g ((fun j => (fI H mq j).toInt), le.toInt, acL le.toInt (fun j => (fI H bq j).toInt) nc.toNatClampNeg) = ((fun j => (fI H1 mq j).toInt), t0.toInt, acL t0.toInt (fun j => (fI H1 bq j).toInt) nc.toNatClampNeg))) ∧ TY K G H1) := by
  refine MX.of (by decide +kernel) (Nat.le_of_ble_eq_true rfl) ?_
  intro p e s m below meth c ls Q C hH hl hQ
  subst hH
  have C : CX p K s m _ meth c RX5 cX5_goOn 8 none "goOn" := C
  obtain ⟨hx, hb, hml, hown, hts, hKT, hr, hlocks, hnm⟩ := id C
  have hl : lv_has ls 8 [(0, .ref a0), (1, .ref a1), (2, .int x2), (3, .int x3), (4, .int x4)] := hl
  have hS : va_S (AE G [104, 105, 106, 107] s.heap.size) s.heap s.heap [] := va_S.rf
  have n_m1 : ((-1) : Int32).toInt = -1 := rfl
  have n_0 : (0 : Int32).toInt = 0 := rfl
  have n_1 : (1 : Int32).toInt = 1 := rfl
  have n_8 : (8 : Int32).toInt = 8 := rfl
  have ble := ty_fi (x := le) (k := 3) ele hT ga0 rg_104 rfl
  have bnc := ty_fi (x := nc) (k := 13) enc hT ga1 rg_0 rfl
  have bbc := ty_fi (x := bc) (k := 16) ebc hT ga1 rg_0 rfl
  have bsd := ty_fi (x := sd) (k := 4) esd hT ga0 rg_104 rfl
  have f0_nl := hv_nl
  have f0_bl := hv_bl
  have f0_br := hv_br
  have J56 : ∀ (nf : Nat)  (ls1700 : Array Slot) (H1699 : Heap) (locsH1699 : List Loc) (x1702 : Int32) (x1703 : Int32), lv_has ls1700 8 [(0, .ref a0), (1, .ref a1), (2, .int x2), (3, .int x3), (4, .int x4), (5, .int x1702)] → TY K G H1699 → va_S (AE G [104, 105, 106, 107] s.heap.size) s.heap H1699 locsH1699 → (0 ≤ x1702.toInt ∧ x1702.toInt ≤ 8) → (x1703 = fI H1699 a0 (K.1.2 5 3)) → (tq = fR H1699 a0 (K.1.2 5 1)) → (bq = fR H1699 a0 (K.1.2 5 0)) → (mq = fR H1699 a0 (K.1.2 5 2)) → (nq = fR H1699 a1 (K.1.2 8 12)) → (lq = fR H1699 a1 (K.1.2 8 14)) → (kq = fR H1699 a1 (K.1.2 8 15)) → (nc = fI H1699 a1 (K.1.2 8 13)) → (bc = fI H1699 a1 (K.1.2 8 16)) → (sd = fI H1699 a0 (K.1.2 5 4)) → (∀ j : Nat, nl j = (fI H1699 nq j).toInt) → (∀ j : Nat, bl j = (fI H1699 lq j).toInt) → (∀ j : Nat, br j = (fI H1699 kq j).toInt) → (8 - x1702.toInt < (nf : Int)) → (5 < nc.toInt) → (HD (goM nl bl br sd.toInt bc.toNatClampNeg (nc.toNatClampNeg - 5) g ((fun j => (fI s.heap mq j).toInt), le.toInt, acL le.toInt (fun j => (fI s.heap bq j).toInt) nc.toNatClampNeg) = frM (gF nl bl br sd.toInt bc.toNatClampNeg (nc.toNatClampNeg - 6) g) (bc.toNatClampNeg - x1702.toNatClampNeg) x1702.toNatClampNeg ((fun j => (fI H1699 mq j).toInt), x1703.toInt, acL x1703.toInt (fun j => (fI H1699 bq j).toInt) nc.toNatClampNeg))) → (pr (fun j => (fI H1699 tq j).toInt) 5 = g) → W p l e ({ frames := 4, cells := 0, slots := 0, locals := 121 } : Room) s m (([.ref a0, .ref a1, .int x2, .int x3, .int x4] : List Value).toArray) below meth c H1699 locsH1699 0 0 Q (F0 m 56 ls1700 []) := by
    intro nf
    induction nf with
    | zero =>
      intro  ls1700 H1699 locsH1699 x1702 x1703 hl1701 hTH1699 hSH1699 bx1702 ex1703 cy1704_0 cy1704_1 cy1704_2 cy1704_3 cy1704_4 cy1704_5 cy1704_6 cy1704_7 cy1704_8 fy1704_nl fy1704_bl fy1704_br hm56 iv56 hsp56 hpr56
      have rx1703 := i_rng x1703
      exfalso
      omega
    | succ nf ih56 =>
      intro  ls1700 H1699 locsH1699 x1702 x1703 hl1701 hTH1699 hSH1699 bx1702 ex1703 cy1704_0 cy1704_1 cy1704_2 cy1704_3 cy1704_4 cy1704_5 cy1704_6 cy1704_7 cy1704_8 fy1704_nl fy1704_bl fy1704_br hm56 iv56 hsp56 hpr56
      have rx1703 := i_rng x1703
      have hlen : g.length = 5 := by rw [← hy0, pr_len]
      have cn_x1702 := i_cl (x := x1702) (by omega)
      have cn_bc := i_cl (x := bc) (by omega)
      have cn_nc := i_cl (x := nc) (by omega)
      have cn_x2 := i_cl (x := x2) (by omega)
      have x01705 : ∀ j : Nat, fI H1699 mq j = fI H1699 mq j := fun _ => rfl
      have x01706 : ∀ j : Nat, fI H1699 bq j = fI H1699 bq j := fun _ => rfl
      have x01707 : ∀ j : Nat, fI H1699 tq j = fI H1699 tq j := fun _ => rfl
      refine lv_iload hx hb dX5_goOn_56 (lv_at hl1701 5 rfl) ?_
      refine lv_aload_n hx hb dX5_goOn_58 rfl (lv_at hl1701 1 rfl) ?_
      refine x_gi C hTH1699 (ci := 8) (k := 16) rfl inX8 (by decide) wF_X5_49 ga1 rg_0 rfl dX5_goOn_59 (fun x1708 ex1708 bx1708 => ?_)
      have ux1708 : bc = x1708 := (cy1704_7).trans ex1708.symm
      subst ux1708
      refine lv_icmp_ge (tgt := 158) hx hb dX5_goOn_62 (by decide) (fun c1709 => ?_) (fun c1709 => ?_)
      · have k1710 := i_le c1709
        exact x_vret C hQ dX5_goOn_158 hSH1699 (by decide) (by decide) (⟨x1703, rfl, ex1703, cy1704_0, cy1704_1, cy1704_2, cy1704_8, hpr56, HD.mk ((HD.get hsp56).trans (gm_end (by omega))), hTH1699⟩)
      · have k1710 := i_nle c1709
        refine lv_aload_n hx hb dX5_goOn_65 rfl (lv_at hl1701 1 rfl) ?_
        refine x_gr C hTH1699 (ci := 8) (k := 14) rfl inX8 (by decide) wF_X5_52 ga1 rg_0 rfl dX5_goOn_66 (fun q1711 eq1711 gq1711 => ?_)
        have uq1711 : lq = q1711 := (cy1704_4).trans eq1711.symm
        subst uq1711
        refine lv_iload hx hb dX5_goOn_69 (lv_at hl1701 5 rfl) ?_
        refine x_ai C hTH1699 glq rg_32 ⟨by omega, by show _ < ((8 : Nat) : Int); omega⟩ dX5_goOn_71 (fun x1712 ex1712 bx1712 => ?_)
        have qvx1712 : bl x1702.toNatClampNeg = x1712.toInt := (fy1704_bl _).trans (congrArg Int32.toInt ex1712.symm)
        have hn_x1712 : 0 ≤ x1712.toInt ∧ x1712.toInt ≤ 99 := by have c_ := i_cl (x := x1702) (by omega); have d_ := i_cl (x := bc) (by omega); have q_ := hy5 x1702.toNatClampNeg (by omega); omega
        refine lv_aload_n hx hb dX5_goOn_72 rfl (lv_at hl1701 1 rfl) ?_
        refine x_gr C hTH1699 (ci := 8) (k := 12) rfl inX8 (by decide) wF_X5_55 ga1 rg_0 rfl dX5_goOn_73 (fun q1713 eq1713 gq1713 => ?_)
        have uq1713 : nq = q1713 := (cy1704_3).trans eq1713.symm
        subst uq1713
        refine lv_iload_n hx hb dX5_goOn_76 rfl (lv_at hl1701 2 rfl) ?_
        refine x_ai C hTH1699 gnq rg_31 ⟨by omega, by show _ < ((8 : Nat) : Int); omega⟩ dX5_goOn_77 (fun x1714 ex1714 bx1714 => ?_)
        have qvx1714 : nl x2.toNatClampNeg = x1714.toInt := (fy1704_nl _).trans (congrArg Int32.toInt ex1714.symm)
        have hn_x1714 : 0 ≤ x1714.toInt ∧ x1714.toInt ≤ 99 := by have c_ := i_cl (x := x2) (by omega); have d_ := i_cl (x := nc) (by omega); have q_ := hy4 x2.toNatClampNeg (by omega); omega
        refine lv_isub hx hb dX5_goOn_78 ?_
        refine lv_topi (fun x1715 ex1715 => ?_)
        have tx1715 := i_sub ex1715 (by omega)
        refine lv_istore (lv' := [(6, .int x1715), (0, .ref a0), (1, .ref a1), (2, .int x2), (3, .int x3), (4, .int x4), (5, .int x1702)]) hx hb dX5_goOn_79 hl1701 (by decide) rfl (fun ls1716 hl1717 => ?_)
        refine lv_iload_n hx hb dX5_goOn_81 rfl (lv_at hl1717 4 rfl) ?_
        refine lv_iconst (v := 1) hx hb dX5_goOn_82 (by decide) ?_
        refine lv_iload hx hb dX5_goOn_83 (lv_at hl1717 6 rfl) ?_
        refine lv_ishl hx hb dX5_goOn_85 ?_
        refine lv_topi (fun x1718 ex1718 => ?_)
        have tx1718 := i_shl7 ex1718 (by omega)
        refine lv_ior hx hb dX5_goOn_86 ?_
        refine lv_topi (fun x1719 ex1719 => ?_)
        have tx1719 := i_or8 ex1719 (by omega) (by omega)
        refine lv_istore (lv' := [(7, .int x1719), (6, .int x1715), (0, .ref a0), (1, .ref a1), (2, .int x2), (3, .int x3), (4, .int x4), (5, .int x1702)]) hx hb dX5_goOn_87 hl1717 (by decide) rfl (fun ls1720 hl1721 => ?_)
        have hky_ : x1719.toInt = ((ky (x1702.toNatClampNeg :: g) : Nat) : Int) := sb_ky hy1 (by omega) (by omega) ex1718 ex1719
        have cn_x1719 := i_cl (x := x1719) (by omega)
        refine lv_iload hx hb dX5_goOn_89 (lv_at hl1721 0 rfl) ?_
        refine lv_iload_n hx hb dX5_goOn_91 rfl (lv_at hl1721 5 rfl) ?_
        refine lv_icmp_eq (tgt := 152) hx hb dX5_goOn_92 (by decide) (fun c1722 => ?_) (fun c1722 => ?_)
        · have k1723 := i_eq c1722
          obtain ⟨x1724, ex1724⟩ : ∃ y : Int32, y = x1702 + 1 := ⟨_, rfl⟩
          have tx1724 := i_add ex1724 (by omega)
          refine lv_iinc (v := x1724) (lv' := [(5, .int x1724), (7, .int x1719), (6, .int x1715), (0, .ref a0), (1, .ref a1), (2, .int x2), (3, .int x3), (4, .int x4)]) hx hb dX5_goOn_152 hl1721 (k := 7) rfl (by rw [ex1724]; rfl) (by decide) rfl (fun ls1725 hl1726 => ?_)
          refine lv_goto (tgt := 56) hx hb dX5_goOn_155 (by decide) ?_
          have cn_x1724 := i_cl (x := x1724) (by omega)
          have sk_ : frM (gF nl bl br sd.toInt bc.toNatClampNeg (nc.toNatClampNeg - 6) g) (bc.toNatClampNeg - x1702.toNatClampNeg) x1702.toNatClampNeg ((fun j => (fI H1699 mq j).toInt), x1703.toInt, acL x1703.toInt (fun j => (fI H1699 bq j).toInt) nc.toNatClampNeg) = frM (gF nl bl br sd.toInt bc.toNatClampNeg (nc.toNatClampNeg - 6) g) (bc.toNatClampNeg - x1724.toNatClampNeg) x1724.toNatClampNeg ((fun j => (fI H1699 mq j).toInt), x1703.toInt, acL x1703.toInt (fun j => (fI H1699 bq j).toInt) nc.toNatClampNeg) := gm_skip (by omega) (by omega) (Or.inl (okB_n1 (ky_eq.mp (by omega))))
          exact ih56  ls1725 H1699 locsH1699 (x1724) (x1703) (lv_sub hl1726 [3, 4, 5, 6, 7, 0] rfl) hTH1699 hSH1699 (by have := i_rng x1724; omega) ex1703 cy1704_0 cy1704_1 cy1704_2 cy1704_3 cy1704_4 cy1704_5 cy1704_6 cy1704_7 cy1704_8 fy1704_nl fy1704_bl fy1704_br (by omega) (by omega) (HD.mk ((HD.get hsp56).trans sk_)) hpr56
        · have k1723 := i_ne c1722
          refine lv_iload hx hb dX5_goOn_95 (lv_at hl1721 1 rfl) ?_
          refine lv_if_lt (tgt := 152) hx hb dX5_goOn_97 (by decide) (fun c1727 => ?_) (fun c1727 => ?_)
          · have k1728 := i_lt c1727
            obtain ⟨x1729, ex1729⟩ : ∃ y : Int32, y = x1702 + 1 := ⟨_, rfl⟩
            have tx1729 := i_add ex1729 (by omega)
            refine lv_iinc (v := x1729) (lv' := [(5, .int x1729), (7, .int x1719), (6, .int x1715), (0, .ref a0), (1, .ref a1), (2, .int x2), (3, .int x3), (4, .int x4)]) hx hb dX5_goOn_152 hl1721 (k := 7) rfl (by rw [ex1729]; rfl) (by decide) rfl (fun ls1730 hl1731 => ?_)
            refine lv_goto (tgt := 56) hx hb dX5_goOn_155 (by decide) ?_
            have cn_x1729 := i_cl (x := x1729) (by omega)
            have qk_ : nl 5 = _ := (congrArg nl (show 5 = x2.toNatClampNeg by omega)).trans qvx1714
            have sk_ : frM (gF nl bl br sd.toInt bc.toNatClampNeg (nc.toNatClampNeg - 6) g) (bc.toNatClampNeg - x1702.toNatClampNeg) x1702.toNatClampNeg ((fun j => (fI H1699 mq j).toInt), x1703.toInt, acL x1703.toInt (fun j => (fI H1699 bq j).toInt) nc.toNatClampNeg) = frM (gF nl bl br sd.toInt bc.toNatClampNeg (nc.toNatClampNeg - 6) g) (bc.toNatClampNeg - x1729.toNatClampNeg) x1729.toNatClampNeg ((fun j => (fI H1699 mq j).toInt), x1703.toInt, acL x1703.toInt (fun j => (fI H1699 bq j).toInt) nc.toNatClampNeg) := gm_skip (by omega) (by omega) (Or.inl (okB_n2 hlen (by omega)))
            exact ih56  ls1730 H1699 locsH1699 (x1729) (x1703) (lv_sub hl1731 [3, 4, 5, 6, 7, 0] rfl) hTH1699 hSH1699 (by have := i_rng x1729; omega) ex1703 cy1704_0 cy1704_1 cy1704_2 cy1704_3 cy1704_4 cy1704_5 cy1704_6 cy1704_7 cy1704_8 fy1704_nl fy1704_bl fy1704_br (by omega) (by omega) (HD.mk ((HD.get hsp56).trans sk_)) hpr56
          · have k1728 := i_nlt c1727
            refine lv_aload_n hx hb dX5_goOn_100 rfl (lv_at hl1721 2 rfl) ?_
            refine x_gr C hTH1699 (ci := 5) (k := 2) rfl inX5 (by decide) wF_X5_18 ga0 rg_104 rfl dX5_goOn_101 (fun q1732 eq1732 gq1732 => ?_)
            have uq1732 : mq = q1732 := (cy1704_2).trans eq1732.symm
            subst uq1732
            refine lv_iload hx hb dX5_goOn_104 (lv_at hl1721 0 rfl) ?_
            refine x_ai C hTH1699 gmq rg_107 ⟨by omega, by show _ < ((256 : Nat) : Int); omega⟩ dX5_goOn_106 (fun x1733 ex1733 bx1733 => ?_)
            refine lv_if_ne (tgt := 152) hx hb dX5_goOn_107 (by decide) (fun c1734 => ?_) (fun c1734 => ?_)
            · have k1735 := i_ne c1734
              obtain ⟨x1736, ex1736⟩ : ∃ y : Int32, y = x1702 + 1 := ⟨_, rfl⟩
              have tx1736 := i_add ex1736 (by omega)
              refine lv_iinc (v := x1736) (lv' := [(5, .int x1736), (7, .int x1719), (6, .int x1715), (0, .ref a0), (1, .ref a1), (2, .int x2), (3, .int x3), (4, .int x4)]) hx hb dX5_goOn_152 hl1721 (k := 7) rfl (by rw [ex1736]; rfl) (by decide) rfl (fun ls1737 hl1738 => ?_)
              refine lv_goto (tgt := 56) hx hb dX5_goOn_155 (by decide) ?_
              have cn_x1736 := i_cl (x := x1736) (by omega)
              have hm1_ : (fun j => (fI H1699 mq j).toInt) (ky (x1702.toNatClampNeg :: g)) ≠ 0 := by show (fI _ mq _).toInt ≠ 0; rw [show ky (x1702.toNatClampNeg :: g) = x1719.toNatClampNeg by omega, ← x01705 _, ← ex1733]; omega
              have sk_ : frM (gF nl bl br sd.toInt bc.toNatClampNeg (nc.toNatClampNeg - 6) g) (bc.toNatClampNeg - x1702.toNatClampNeg) x1702.toNatClampNeg ((fun j => (fI H1699 mq j).toInt), x1703.toInt, acL x1703.toInt (fun j => (fI H1699 bq j).toInt) nc.toNatClampNeg) = frM (gF nl bl br sd.toInt bc.toNatClampNeg (nc.toNatClampNeg - 6) g) (bc.toNatClampNeg - x1736.toNatClampNeg) x1736.toNatClampNeg ((fun j => (fI H1699 mq j).toInt), x1703.toInt, acL x1703.toInt (fun j => (fI H1699 bq j).toInt) nc.toNatClampNeg) := gm_skip (by omega) (by omega) (Or.inr hm1_)
              exact ih56  ls1737 H1699 locsH1699 (x1736) (x1703) (lv_sub hl1738 [3, 4, 5, 6, 7, 0] rfl) hTH1699 hSH1699 (by have := i_rng x1736; omega) ex1703 cy1704_0 cy1704_1 cy1704_2 cy1704_3 cy1704_4 cy1704_5 cy1704_6 cy1704_7 cy1704_8 fy1704_nl fy1704_bl fy1704_br (by omega) (by omega) (HD.mk ((HD.get hsp56).trans sk_)) hpr56
            · have k1735 := i_eq c1734
              refine lv_aload_n hx hb dX5_goOn_110 rfl (lv_at hl1721 2 rfl) ?_
              refine lv_aload_n hx hb dX5_goOn_111 rfl (lv_at hl1721 3 rfl) ?_
              refine lv_iload_n hx hb dX5_goOn_112 rfl (lv_at hl1721 5 rfl) ?_
              refine lv_iload hx hb dX5_goOn_113 (lv_at hl1721 7 rfl) ?_
              refine x_V (As := [.ref a1, .int x3, .int x1702]) (rest := []) C (a_X5_ringsTogether_e l K G H1699 (x3) (x1702) (sd) (bc) (g) br hTH1699 ga0 ga1 (by omega) (by omega) gkq cy1704_5 cy1704_8 cy1704_7 (by omega) (hy1) (hy6) fy1704_br) yo_X5_ringsTogether wM_X5_58 ⟨⟨by decide, by decide⟩, by decide, by decide⟩ (x_rv C hTH1699 (ci := 5) rfl ga0 rg_104) rfl hl1721.1 rfl (Nat.le_of_ble_eq_true rfl) dX5_goOn_115 hSH1699 (AE_sub (fun _ _ => rfl) (by decide) hSH1699.1) (fun vH1739 H1739 locsH1739 pH1739 zH1739 kH1739 hSH1739 => ?_)
              obtain ⟨x1740, hvH1739, bx1740, m1741, hTH1739⟩ := pH1739
              subst hvH1739
              have f1742 : ∀ j : Nat, nl j = (fI H1739 nq j).toInt := fun j => (fy1704_nl j).trans (congrArg Int32.toInt (fI_kept (x_lt hTH1699 kH1739 gnq (by decide))).symm)
              have f1743 : ∀ j : Nat, bl j = (fI H1739 lq j).toInt := fun j => (fy1704_bl j).trans (congrArg Int32.toInt (fI_kept (x_lt hTH1699 kH1739 glq (by decide))).symm)
              have f1744 : ∀ j : Nat, br j = (fI H1739 kq j).toInt := fun j => (fy1704_br j).trans (congrArg Int32.toInt (fI_kept (x_lt hTH1699 kH1739 gkq (by decide))).symm)
              have f1745 : ∀ j : Nat, fI H1739 mq j = fI H1699 mq j := fun j => (fI_kept (x_lt hTH1699 kH1739 gmq (by decide))).trans (x01705 j)
              have f1746 : ∀ j : Nat, fI H1739 bq j = fI H1699 bq j := fun j => (fI_kept (x_lt hTH1699 kH1739 gbq (by decide))).trans (x01706 j)
              have f1747 : ∀ j : Nat, fI H1739 tq j = fI H1699 tq j := fun j => (fI_kept (x_lt hTH1699 kH1739 gtq (by decide))).trans (x01707 j)
              have m1748 := (ex1703).trans (fI_kept (x_lt hTH1699 kH1739 ga0 (by decide))).symm
              have m1749 := (cy1704_0).trans (fR_kept (x_lt hTH1699 kH1739 ga0 (by decide))).symm
              have m1750 := (cy1704_1).trans (fR_kept (x_lt hTH1699 kH1739 ga0 (by decide))).symm
              have m1751 := (cy1704_2).trans (fR_kept (x_lt hTH1699 kH1739 ga0 (by decide))).symm
              have m1752 := (cy1704_3).trans (fR_kept (x_lt hTH1699 kH1739 ga1 (by decide))).symm
              have m1753 := (cy1704_4).trans (fR_kept (x_lt hTH1699 kH1739 ga1 (by decide))).symm
              have m1754 := (cy1704_5).trans (fR_kept (x_lt hTH1699 kH1739 ga1 (by decide))).symm
              have m1755 := (cy1704_6).trans (fI_kept (x_lt hTH1699 kH1739 ga1 (by decide))).symm
              have m1756 := (cy1704_7).trans (fI_kept (x_lt hTH1699 kH1739 ga1 (by decide))).symm
              have m1757 := (cy1704_8).trans (fI_kept (x_lt hTH1699 kH1739 ga0 (by decide))).symm
              have m1758 := (ex1712).trans (fI_kept (x_lt hTH1699 kH1739 glq (by decide))).symm
              have m1759 := (ex1714).trans (fI_kept (x_lt hTH1699 kH1739 gnq (by decide))).symm
              have m1760 := (ex1733).trans (fI_kept (x_lt hTH1699 kH1739 gmq (by decide))).symm
              refine W.eq (g2 := F0 m 118 ls1720 [.int x1740]) rfl ?_
              refine lv_if_eq (tgt := 152) hx hb dX5_goOn_118 (by decide) (fun c1761 => ?_) (fun c1761 => ?_)
              · have k1762 := i_eq c1761
                obtain ⟨x1763, ex1763⟩ : ∃ y : Int32, y = x1702 + 1 := ⟨_, rfl⟩
                have tx1763 := i_add ex1763 (by omega)
                refine lv_iinc (v := x1763) (lv' := [(5, .int x1763), (7, .int x1719), (6, .int x1715), (0, .ref a0), (1, .ref a1), (2, .int x2), (3, .int x3), (4, .int x4)]) hx hb dX5_goOn_152 hl1721 (k := 7) rfl (by rw [ex1763]; rfl) (by decide) rfl (fun ls1764 hl1765 => ?_)
                refine lv_goto (tgt := 56) hx hb dX5_goOn_155 (by decide) ?_
                have cn_x1763 := i_cl (x := x1763) (by omega)
                have sk_ : frM (gF nl bl br sd.toInt bc.toNatClampNeg (nc.toNatClampNeg - 6) g) (bc.toNatClampNeg - x1702.toNatClampNeg) x1702.toNatClampNeg ((fun j => (fI H1699 mq j).toInt), x1703.toInt, acL x1703.toInt (fun j => (fI H1699 bq j).toInt) nc.toNatClampNeg) = frM (gF nl bl br sd.toInt bc.toNatClampNeg (nc.toNatClampNeg - 6) g) (bc.toNatClampNeg - x1763.toNatClampNeg) x1763.toNatClampNeg ((fun j => (fI H1699 mq j).toInt), x1703.toInt, acL x1703.toInt (fun j => (fI H1699 bq j).toInt) nc.toNatClampNeg) := gm_skip (by omega) (by omega) (Or.inl (okB_n3 ((HD.get m1741).elim (fun z => absurd z.1 (by omega)) (fun z => z.2))))
                have em_ : (fun j => (fI H1739 mq j).toInt) = (fun j => (fI H1699 mq j).toInt) := funext fun j => congrArg Int32.toInt (f1745 j)
                have eb_ : (fun j => (fI H1739 bq j).toInt) = (fun j => (fI H1699 bq j).toInt) := funext fun j => congrArg Int32.toInt (f1746 j)
                exact ih56  ls1764 H1739 locsH1739 (x1763) (x1703) (lv_sub hl1765 [3, 4, 5, 6, 7, 0] rfl) hTH1739 hSH1739 (by have := i_rng x1763; omega) m1748 m1749 m1750 m1751 m1752 m1753 m1754 m1755 m1756 m1757 f1742 f1743 f1744 (by omega) (by omega) (HD.mk ((HD.get hsp56).trans (sk_.trans (by rw [em_, eb_])))) ((pr_c 5 (fun j _ => congrArg Int32.toInt (f1747 j))).trans hpr56)
              · have k1762 := i_ne c1761
                have qk_ : nl 5 = _ := (congrArg nl (show 5 = x2.toNatClampNeg by omega)).trans qvx1714
                have hok_ : okB nl bl br sd.toInt g x1702.toNatClampNeg = true := okB_y hlen (fun z => by have q_ := ky_eq.mpr z; omega) (by omega) hy3 ((HD.get m1741).elim (fun z => z.2) (fun z => absurd z.1 (by omega)))
                have hm0_ : (fun j => (fI H1699 mq j).toInt) (ky (x1702.toNatClampNeg :: g)) = 0 := by show (fI _ mq _).toInt = 0; rw [show ky (x1702.toNatClampNeg :: g) = x1719.toNatClampNeg by omega, ← x01705 _, ← ex1733]; omega
                refine lv_aload_n hx hb dX5_goOn_121 rfl (lv_at hl1721 2 rfl) ?_
                refine x_gr C hTH1739 (ci := 5) (k := 2) rfl inX5 (by decide) wF_X5_18 ga0 rg_104 rfl dX5_goOn_122 (fun q1766 eq1766 gq1766 => ?_)
                have uq1766 : mq = q1766 := (m1751).trans eq1766.symm
                subst uq1766
                refine lv_iload hx hb dX5_goOn_125 (lv_at hl1721 0 rfl) ?_
                refine lv_iconst (v := 1) hx hb dX5_goOn_127 (by decide) ?_
                refine x_iast C hTH1739 hSH1739 gmq rg_107 (by omega) (by show _ < ((256 : Nat) : Int); omega) (by decide) (AE_in gmq (by decide)) dX5_goOn_128 (fun H1767 locsH1767 hTH1767 hSH1767 wH1767 => ?_)
                have f1768 : ∀ j : Nat, nl j = (fI H1767 nq j).toInt := fun j => (f1742 j).trans (congrArg Int32.toInt (Wr.neI wH1767 (Or.inl (G_ne gnq gmq (by decide)))).symm)
                have f1769 : ∀ j : Nat, bl j = (fI H1767 lq j).toInt := fun j => (f1743 j).trans (congrArg Int32.toInt (Wr.neI wH1767 (Or.inl (G_ne glq gmq (by decide)))).symm)
                have f1770 : ∀ j : Nat, br j = (fI H1767 kq j).toInt := fun j => (f1744 j).trans (congrArg Int32.toInt (Wr.neI wH1767 (Or.inl (G_ne gkq gmq (by decide)))).symm)
                have f1771 : ∀ j : Nat, fI H1767 bq j = fI H1699 bq j := fun j => (fI_kept (wH1767.off (G_ne gbq gmq (by decide)))).trans (f1746 j)
                have f1772 : ∀ j : Nat, fI H1767 tq j = fI H1699 tq j := fun j => (fI_kept (wH1767.off (G_ne gtq gmq (by decide)))).trans (f1747 j)
                have m1773 := m1748.trans (Wr.neI wH1767 (Or.inl (G_ne ga0 gmq (by decide)))).symm
                have m1774 := m1749.trans (Wr.neR wH1767 (Or.inl (G_ne ga0 gmq (by decide)))).symm
                have m1775 := m1750.trans (Wr.neR wH1767 (Or.inl (G_ne ga0 gmq (by decide)))).symm
                have m1776 := m1751.trans (Wr.neR wH1767 (Or.inl (G_ne ga0 gmq (by decide)))).symm
                have m1777 := m1752.trans (Wr.neR wH1767 (Or.inl (G_ne ga1 gmq (by decide)))).symm
                have m1778 := m1753.trans (Wr.neR wH1767 (Or.inl (G_ne ga1 gmq (by decide)))).symm
                have m1779 := m1754.trans (Wr.neR wH1767 (Or.inl (G_ne ga1 gmq (by decide)))).symm
                have m1780 := m1755.trans (Wr.neI wH1767 (Or.inl (G_ne ga1 gmq (by decide)))).symm
                have m1781 := m1756.trans (Wr.neI wH1767 (Or.inl (G_ne ga1 gmq (by decide)))).symm
                have m1782 := m1757.trans (Wr.neI wH1767 (Or.inl (G_ne ga0 gmq (by decide)))).symm
                have m1783 := m1758.trans (Wr.neI wH1767 (Or.inl (G_ne glq gmq (by decide)))).symm
                have m1784 := m1759.trans (Wr.neI wH1767 (Or.inl (G_ne gnq gmq (by decide)))).symm
                have m1786 := Wr.I wH1767
                refine lv_aload_n hx hb dX5_goOn_129 rfl (lv_at hl1721 2 rfl) ?_
                refine x_gr C hTH1767 (ci := 5) (k := 1) rfl inX5 (by decide) wF_X5_15 ga0 rg_104 rfl dX5_goOn_130 (fun q1787 eq1787 gq1787 => ?_)
                have uq1787 : tq = q1787 := (m1774).trans eq1787.symm
                subst uq1787
                refine lv_iload_n hx hb dX5_goOn_133 rfl (lv_at hl1721 4 rfl) ?_
                refine lv_iload hx hb dX5_goOn_134 (lv_at hl1721 7 rfl) ?_
                refine x_iast C hTH1767 hSH1767 gtq rg_106 (by omega) (by show _ < ((8 : Nat) : Int); omega) ⟨by have := i_rng x1702; omega, by have := i_rng x1702; omega⟩ (AE_in gtq (by decide)) dX5_goOn_136 (fun H1788 locsH1788 hTH1788 hSH1788 wH1788 => ?_)
                have f1789 : ∀ j : Nat, nl j = (fI H1788 nq j).toInt := fun j => (f1768 j).trans (congrArg Int32.toInt (Wr.neI wH1788 (Or.inl (G_ne gnq gtq (by decide)))).symm)
                have f1790 : ∀ j : Nat, bl j = (fI H1788 lq j).toInt := fun j => (f1769 j).trans (congrArg Int32.toInt (Wr.neI wH1788 (Or.inl (G_ne glq gtq (by decide)))).symm)
                have f1791 : ∀ j : Nat, br j = (fI H1788 kq j).toInt := fun j => (f1770 j).trans (congrArg Int32.toInt (Wr.neI wH1788 (Or.inl (G_ne gkq gtq (by decide)))).symm)
                have f1792 : ∀ j : Nat, fI H1788 bq j = fI H1699 bq j := fun j => (fI_kept (wH1788.off (G_ne gbq gtq (by decide)))).trans (f1771 j)
                have m1793 := m1773.trans (Wr.neI wH1788 (Or.inl (G_ne ga0 gtq (by decide)))).symm
                have m1794 := m1774.trans (Wr.neR wH1788 (Or.inl (G_ne ga0 gtq (by decide)))).symm
                have m1795 := m1775.trans (Wr.neR wH1788 (Or.inl (G_ne ga0 gtq (by decide)))).symm
                have m1796 := m1776.trans (Wr.neR wH1788 (Or.inl (G_ne ga0 gtq (by decide)))).symm
                have m1797 := m1777.trans (Wr.neR wH1788 (Or.inl (G_ne ga1 gtq (by decide)))).symm
                have m1798 := m1778.trans (Wr.neR wH1788 (Or.inl (G_ne ga1 gtq (by decide)))).symm
                have m1799 := m1779.trans (Wr.neR wH1788 (Or.inl (G_ne ga1 gtq (by decide)))).symm
                have m1800 := m1780.trans (Wr.neI wH1788 (Or.inl (G_ne ga1 gtq (by decide)))).symm
                have m1801 := m1781.trans (Wr.neI wH1788 (Or.inl (G_ne ga1 gtq (by decide)))).symm
                have m1802 := m1782.trans (Wr.neI wH1788 (Or.inl (G_ne ga0 gtq (by decide)))).symm
                have m1803 := m1783.trans (Wr.neI wH1788 (Or.inl (G_ne glq gtq (by decide)))).symm
                have m1804 := m1784.trans (Wr.neI wH1788 (Or.inl (G_ne gnq gtq (by decide)))).symm
                have m1805 := (Wr.neI wH1788 (Or.inl (G_ne gmq gtq (by decide)))).trans m1786
                have m1806 := Wr.I wH1788
                have m1806 := m1806.symm
                refine lv_aload_n hx hb dX5_goOn_137 rfl (lv_at hl1721 2 rfl) ?_
                refine lv_aload_n hx hb dX5_goOn_138 rfl (lv_at hl1721 3 rfl) ?_
                refine lv_iload_n hx hb dX5_goOn_139 rfl (lv_at hl1721 4 rfl) ?_
                refine lv_iconst (v := 1) hx hb dX5_goOn_140 (by decide) ?_
                refine lv_iadd hx hb dX5_goOn_141 ?_
                refine lv_topi (fun x1807 ex1807 => ?_)
                have tx1807 := i_add ex1807 (by omega)
                refine lv_iload hx hb dX5_goOn_142 (lv_at hl1721 0 rfl) ?_
                refine lv_iload hx hb dX5_goOn_144 (lv_at hl1721 6 rfl) ?_
                refine lv_iload hx hb dX5_goOn_146 (lv_at hl1721 1 rfl) ?_
                refine lv_iadd hx hb dX5_goOn_148 ?_
                refine lv_topi (fun x1808 ex1808 => ?_)
                have tx1808 := i_add ex1808 (by omega)
                have em_ : (fun j => (fI H1788 mq j).toInt) = upM (fun j => (fI H1699 mq j).toInt) (ky (x1702.toNatClampNeg :: g)) := up_w (f1 := fun j => fI H1788 mq j) (f0 := fun j => fI H1699 mq j) (q := x1719.toNatClampNeg) ((Wr.neI wH1788 (Or.inl (G_ne gmq gtq (by decide)))).trans (Wr.I wH1767)) n_1 (fun j hj => (Wr.neI wH1788 (Or.inl (G_ne gmq gtq (by decide)))).trans ((Wr.neI wH1767 (Or.inr hj)).trans (f1745 j))) (by omega)
                have eb_ : (fun j => (fI H1788 bq j).toInt) = (fun j => (fI H1699 bq j).toInt) := funext fun j => congrArg Int32.toInt (f1792 j)
                have hp1_ : pr (fun j => (fI H1788 tq j).toInt) 6 = x1702.toNatClampNeg :: g := pr_w (f0 := (fun j => (fI H1699 tq j).toInt)) (by show (fI _ tq _).toInt.toNat = _; rw [show 5 = x2.toNatClampNeg by omega, Wr.I wH1788]; omega) (fun j hj => congrArg Int32.toInt ((Wr.neI wH1788 (Or.inr (by omega))).trans ((Wr.neI wH1767 (Or.inl (G_ne gtq gmq (by decide)))).trans (f1747 j)))) hpr56
                have hg1_ : ∀ x ∈ x1702.toNatClampNeg :: g, x < bc.toNatClampNeg := fun x hx => (List.mem_cons.mp hx).elim (fun e => by rw [e]; omega) (fun e => hy3 x e)
                have hws_ : x1808.toInt = wsB nl bl (x1702.toNatClampNeg :: g) := by rw [wsB, hlen]; omega
                refine x_V (As := [.ref a1, .int x1807, .int x1719, .int x1808]) (rest := []) C (a_X5_goOn_e6 l K G H1788 (x1807) (x1719) (x1808) (x1703) (nc) (bc) (sd) (x1702.toNatClampNeg :: g) nl bl br hTH1788 ga0 ga1 (by omega) (by omega) (by omega) gtq m1794 gbq m1795 gmq m1796 gnq m1797 glq m1798 gkq m1799 m1793 m1800 m1801 m1802 (by omega) (hp1_) (hky_) (hws_) (hg1_) (hy4) (hy5) (hy6) f1789 f1790 f1791) yo_X5_goOn wM_X5_34 ⟨⟨by decide, by decide⟩, by decide, by decide⟩ (x_rv C hTH1788 (ci := 5) rfl ga0 rg_104) rfl hl1721.1 rfl (Nat.le_of_ble_eq_true rfl) dX5_goOn_149 hSH1788 (AE_sub (fun _ _ => rfl) (by decide) hSH1788.1) (fun vH1809 H1809 locsH1809 pH1809 zH1809 kH1809 hSH1809 => ?_)
                obtain ⟨x1810, hvH1809, ex1810, m1811, m1812, m1813, m1814, m1815, m1816, hTH1809⟩ := pH1809
                subst hvH1809
                have f1817 : ∀ j : Nat, nl j = (fI H1809 nq j).toInt := fun j => (f1789 j).trans (congrArg Int32.toInt (fI_kept (x_lt hTH1788 kH1809 gnq (by decide))).symm)
                have f1818 : ∀ j : Nat, bl j = (fI H1809 lq j).toInt := fun j => (f1790 j).trans (congrArg Int32.toInt (fI_kept (x_lt hTH1788 kH1809 glq (by decide))).symm)
                have f1819 : ∀ j : Nat, br j = (fI H1809 kq j).toInt := fun j => (f1791 j).trans (congrArg Int32.toInt (fI_kept (x_lt hTH1788 kH1809 gkq (by decide))).symm)
                have m1820 := (m1797).trans (fR_kept (x_lt hTH1788 kH1809 ga1 (by decide))).symm
                have m1821 := (m1798).trans (fR_kept (x_lt hTH1788 kH1809 ga1 (by decide))).symm
                have m1822 := (m1799).trans (fR_kept (x_lt hTH1788 kH1809 ga1 (by decide))).symm
                have m1823 := (m1800).trans (fI_kept (x_lt hTH1788 kH1809 ga1 (by decide))).symm
                have m1824 := (m1801).trans (fI_kept (x_lt hTH1788 kH1809 ga1 (by decide))).symm
                have m1825 := (m1803).trans (fI_kept (x_lt hTH1788 kH1809 glq (by decide))).symm
                have m1826 := (m1804).trans (fI_kept (x_lt hTH1788 kH1809 gnq (by decide))).symm
                have bx1810 := ty_fi (x := x1810) (k := 3) ex1810 hTH1809 ga0 rg_104 rfl
                refine W.eq (g2 := F0 m 152 ls1720 []) rfl ?_
                obtain ⟨x1827, ex1827⟩ : ∃ y : Int32, y = x1702 + 1 := ⟨_, rfl⟩
                have tx1827 := i_add ex1827 (by omega)
                refine lv_iinc (v := x1827) (lv' := [(5, .int x1827), (7, .int x1719), (6, .int x1715), (0, .ref a0), (1, .ref a1), (2, .int x2), (3, .int x3), (4, .int x4)]) hx hb dX5_goOn_152 hl1721 (k := 7) rfl (by rw [ex1827]; rfl) (by decide) rfl (fun ls1828 hl1829 => ?_)
                refine lv_goto (tgt := 56) hx hb dX5_goOn_155 (by decide) ?_
                have cn_x1827 := i_cl (x := x1827) (by omega)
                have hr_ := HD.get m1816
                rw [em_, eb_] at hr_
                exact ih56  ls1828 H1809 locsH1809 (x1827) (x1810) (lv_sub hl1829 [3, 4, 5, 6, 7, 0] rfl) hTH1809 hSH1809 (by have := i_rng x1827; omega) ex1810 m1811 m1812 m1813 m1820 m1821 m1822 m1823 m1824 m1814 f1817 f1818 f1819 (by omega) (by omega) (HD.mk ((HD.get hsp56).trans (gm_take (by omega) (by omega) hok_ hm0_ hr_))) (pr_tl m1815)
  have x01830 : ∀ j : Nat, fI s.heap mq j = fI s.heap mq j := fun _ => rfl
  have x01831 : ∀ j : Nat, fI s.heap bq j = fI s.heap bq j := fun _ => rfl
  have x01832 : ∀ j : Nat, fI s.heap tq j = fI s.heap tq j := fun _ => rfl
  have hlen : g.length = 5 := by rw [← hy0, pr_len]
  have cn_nc := i_cl (x := nc) (by omega)
  have cn_bc := i_cl (x := bc) (by omega)
  refine lv_iload_n hx hb dX5_goOn_0 rfl (lv_at hl 2 rfl) ?_
  refine lv_aload_n hx hb dX5_goOn_1 rfl (lv_at hl 1 rfl) ?_
  refine x_gi C hT (ci := 8) (k := 13) rfl inX8 (by decide) wF_X5_38 ga1 rg_0 rfl dX5_goOn_2 (fun x1833 ex1833 bx1833 => ?_)
  have ux1833 : nc = x1833 := (enc).trans ex1833.symm
  subst ux1833
  refine lv_icmp_ge (tgt := 14) hx hb dX5_goOn_5 (by decide) (fun c1834 => ?_) (fun c1834 => ?_)
  · have k1835 := i_le c1834
    refine lv_aload_n hx hb dX5_goOn_14 rfl (lv_at hl 0 rfl) ?_
    refine x_gi C hT (ci := 5) (k := 3) rfl inX5 (by decide) wF_X5_27 ga0 rg_104 rfl dX5_goOn_15 (fun x1836 ex1836 bx1836 => ?_)
    have ux1836 : le = x1836 := (ele).trans ex1836.symm
    subst ux1836
    refine lv_iconst (v := (-1)) hx hb dX5_goOn_18 (by decide) ?_
    refine lv_icmp_eq (tgt := 31) hx hb dX5_goOn_19 (by decide) (fun c1837 => ?_) (fun c1837 => ?_)
    · have k1838 := i_eq c1837
      refine lv_aload_n hx hb dX5_goOn_31 rfl (lv_at hl 0 rfl) ?_
      refine lv_iload hx hb dX5_goOn_32 (lv_at hl 4 rfl) ?_
      refine x_put C hT hS (ci := 5) (k := 3) (v := .int x4) (ty0 := tyX5) rfl inX5 tyX5_ok nmX5 (by decide) rfl wF_X5_27 ga0 rg_104 rfl rfl (okI (by have := i_rng x4; omega) (by have := i_rng x4; omega)) rfl rfl (AE_in ga0 (by decide)) dX5_goOn_34 (fun H1839 locsH1839 hTH1839 hSH1839 wH1839 => ?_)
      have f1840 : ∀ j : Nat, nl j = (fI H1839 nq j).toInt := fun j => (f0_nl j).trans (congrArg Int32.toInt (Wr.neI wH1839 (Or.inl (G_ne gnq ga0 (by decide)))).symm)
      have f1841 : ∀ j : Nat, bl j = (fI H1839 lq j).toInt := fun j => (f0_bl j).trans (congrArg Int32.toInt (Wr.neI wH1839 (Or.inl (G_ne glq ga0 (by decide)))).symm)
      have f1842 : ∀ j : Nat, br j = (fI H1839 kq j).toInt := fun j => (f0_br j).trans (congrArg Int32.toInt (Wr.neI wH1839 (Or.inl (G_ne gkq ga0 (by decide)))).symm)
      have f1843 : ∀ j : Nat, fI H1839 mq j = fI s.heap mq j := fun j => (fI_kept (wH1839.off (G_ne gmq ga0 (by decide)))).trans (x01830 j)
      have f1844 : ∀ j : Nat, fI H1839 bq j = fI s.heap bq j := fun j => (fI_kept (wH1839.off (G_ne gbq ga0 (by decide)))).trans (x01831 j)
      have f1845 : ∀ j : Nat, fI H1839 tq j = fI s.heap tq j := fun j => (fI_kept (wH1839.off (G_ne gtq ga0 (by decide)))).trans (x01832 j)
      have m1846 := etq.trans (Wr.neR wH1839 (Or.inr (x_apart hKT hts inX5 tyX5 tyX5_ok nmX5 rfl 1 3 (by decide) (by decide) (by decide)))).symm
      have m1847 := ebq.trans (Wr.neR wH1839 (Or.inr (x_apart hKT hts inX5 tyX5 tyX5_ok nmX5 rfl 0 3 (by decide) (by decide) (by decide)))).symm
      have m1848 := emq.trans (Wr.neR wH1839 (Or.inr (x_apart hKT hts inX5 tyX5 tyX5_ok nmX5 rfl 2 3 (by decide) (by decide) (by decide)))).symm
      have m1849 := enq.trans (Wr.neR wH1839 (Or.inl (G_ne ga1 ga0 (by decide)))).symm
      have m1850 := elq.trans (Wr.neR wH1839 (Or.inl (G_ne ga1 ga0 (by decide)))).symm
      have m1851 := ekq.trans (Wr.neR wH1839 (Or.inl (G_ne ga1 ga0 (by decide)))).symm
      have m1853 := enc.trans (Wr.neI wH1839 (Or.inl (G_ne ga1 ga0 (by decide)))).symm
      have m1854 := ebc.trans (Wr.neI wH1839 (Or.inl (G_ne ga1 ga0 (by decide)))).symm
      have m1855 := esd.trans (Wr.neI wH1839 (Or.inr (x_apart hKT hts inX5 tyX5 tyX5_ok nmX5 rfl 4 3 (by decide) (by decide) (by decide)))).symm
      have m1856 := Wr.I wH1839
      have m1856 := m1856.symm
      refine lv_aload_n hx hb dX5_goOn_37 rfl (lv_at hl 0 rfl) ?_
      refine x_gr C hTH1839 (ci := 5) (k := 1) rfl inX5 (by decide) wF_X5_15 ga0 rg_104 rfl dX5_goOn_38 (fun q1857 eq1857 gq1857 => ?_)
      have uq1857 : tq = q1857 := (m1846).trans eq1857.symm
      subst uq1857
      refine lv_iconst (v := 0) hx hb dX5_goOn_41 (by decide) ?_
      refine lv_aload_n hx hb dX5_goOn_42 rfl (lv_at hl 0 rfl) ?_
      refine x_gr C hTH1839 (ci := 5) (k := 0) rfl inX5 (by decide) wF_X5_9 ga0 rg_104 rfl dX5_goOn_43 (fun q1858 eq1858 gq1858 => ?_)
      have uq1858 : bq = q1858 := (m1847).trans eq1858.symm
      subst uq1858
      refine lv_iconst (v := 0) hx hb dX5_goOn_46 (by decide) ?_
      refine lv_bipush (v := 8) hx hb dX5_goOn_47 (by decide) ?_
      refine x_copy C hTH1839 hSH1839 wM_X5_43 wNT_arraycopy wST_arraycopy wIN_J10 gtq gbq rg_106 rg_105 (by decide) (by omega) (by omega) (by omega) (by show _ ≤ ((8 : Nat) : Int); omega) (by show _ ≤ ((8 : Nat) : Int); omega) (AE_in gbq (by decide)) hl.1 (by decide) dX5_goOn_49 (fun H1859 locsH1859 hTH1859 hSH1859 zH1859 oH1859 vH1859 wH1859 => ?_)
      have m1860 := (m1846).trans (fR_kept (oH1859 _ (G_ne ga0 gbq (by decide)))).symm
      have m1861 := (m1847).trans (fR_kept (oH1859 _ (G_ne ga0 gbq (by decide)))).symm
      have m1862 := (m1848).trans (fR_kept (oH1859 _ (G_ne ga0 gbq (by decide)))).symm
      have m1863 := (m1849).trans (fR_kept (oH1859 _ (G_ne ga1 gbq (by decide)))).symm
      have m1864 := (m1850).trans (fR_kept (oH1859 _ (G_ne ga1 gbq (by decide)))).symm
      have m1865 := (m1851).trans (fR_kept (oH1859 _ (G_ne ga1 gbq (by decide)))).symm
      have m1866 := (m1853).trans (fI_kept (oH1859 _ (G_ne ga1 gbq (by decide)))).symm
      have m1867 := (m1854).trans (fI_kept (oH1859 _ (G_ne ga1 gbq (by decide)))).symm
      have m1868 := (m1855).trans (fI_kept (oH1859 _ (G_ne ga0 gbq (by decide)))).symm
      have m1869 := (m1856).trans (fI_kept (oH1859 _ (G_ne ga0 gbq (by decide)))).symm
      have f1870 : ∀ j : Nat, nl j = (fI H1859 nq j).toInt := fun j => (f1840 j).trans (congrArg Int32.toInt (fI_kept (oH1859 _ (G_ne gnq gbq (by decide)))).symm)
      have f1871 : ∀ j : Nat, bl j = (fI H1859 lq j).toInt := fun j => (f1841 j).trans (congrArg Int32.toInt (fI_kept (oH1859 _ (G_ne glq gbq (by decide)))).symm)
      have f1872 : ∀ j : Nat, br j = (fI H1859 kq j).toInt := fun j => (f1842 j).trans (congrArg Int32.toInt (fI_kept (oH1859 _ (G_ne gkq gbq (by decide)))).symm)
      have f1873 : ∀ j : Nat, fI H1859 mq j = fI s.heap mq j := fun j => (fI_kept (oH1859 _ (G_ne gmq gbq (by decide)))).trans (f1843 j)
      have f1874 : ∀ j : Nat, fI H1859 tq j = fI s.heap tq j := fun j => (fI_kept (oH1859 _ (G_ne gtq gbq (by decide)))).trans (f1845 j)
      have c00 : (0 : Int32).toNatClampNeg = 0 := rfl
      have n_8_ : (8 : Int32).toInt = 8 := rfl
      have cpy_ : pr (fun j => (fI H1859 bq j).toInt) nc.toNatClampNeg = g := by rw [show nc.toNatClampNeg = 5 by omega, ← hy0]; exact pr_c 5 (fun j hj => congrArg Int32.toInt (by have z := wH1859 j (by omega); rw [c00, Nat.zero_add] at z; exact z.trans (f1845 j)))
      exact x_vret C hQ dX5_goOn_52 hSH1859 (by decide) (by decide) (⟨x4, rfl, m1869, m1860, m1861, m1862, m1868, ((pr_c 5 (fun j _ => congrArg Int32.toInt (f1874 j))).trans hy0), HD.mk (gm_yes (by omega) (by omega) hy2 (by omega) (fun j => congrArg Int32.toInt (f1873 j)) cpy_), hTH1859⟩)
    · have k1838 := i_ne c1837
      refine lv_iload hx hb dX5_goOn_22 (lv_at hl 4 rfl) ?_
      refine lv_aload_n hx hb dX5_goOn_24 rfl (lv_at hl 0 rfl) ?_
      refine x_gi C hT (ci := 5) (k := 3) rfl inX5 (by decide) wF_X5_27 ga0 rg_104 rfl dX5_goOn_25 (fun x1875 ex1875 bx1875 => ?_)
      have ux1875 : le = x1875 := (ele).trans ex1875.symm
      subst ux1875
      refine lv_icmp_ge (tgt := 52) hx hb dX5_goOn_28 (by decide) (fun c1876 => ?_) (fun c1876 => ?_)
      · have k1877 := i_le c1876
        exact x_vret C hQ dX5_goOn_52 hS (by decide) (by decide) (⟨le, rfl, ele, etq, ebq, emq, esd, ((pr_c 5 (fun j _ => congrArg Int32.toInt (x01832 j))).trans hy0), HD.mk (gm_not (by omega) (by omega) hy2 (fun j => congrArg Int32.toInt (x01830 j)) (fun j => congrArg Int32.toInt (x01831 j))), hT⟩)
      · have k1877 := i_nle c1876
        refine lv_aload_n hx hb dX5_goOn_31 rfl (lv_at hl 0 rfl) ?_
        refine lv_iload hx hb dX5_goOn_32 (lv_at hl 4 rfl) ?_
        refine x_put C hT hS (ci := 5) (k := 3) (v := .int x4) (ty0 := tyX5) rfl inX5 tyX5_ok nmX5 (by decide) rfl wF_X5_27 ga0 rg_104 rfl rfl (okI (by have := i_rng x4; omega) (by have := i_rng x4; omega)) rfl rfl (AE_in ga0 (by decide)) dX5_goOn_34 (fun H1878 locsH1878 hTH1878 hSH1878 wH1878 => ?_)
        have f1879 : ∀ j : Nat, nl j = (fI H1878 nq j).toInt := fun j => (f0_nl j).trans (congrArg Int32.toInt (Wr.neI wH1878 (Or.inl (G_ne gnq ga0 (by decide)))).symm)
        have f1880 : ∀ j : Nat, bl j = (fI H1878 lq j).toInt := fun j => (f0_bl j).trans (congrArg Int32.toInt (Wr.neI wH1878 (Or.inl (G_ne glq ga0 (by decide)))).symm)
        have f1881 : ∀ j : Nat, br j = (fI H1878 kq j).toInt := fun j => (f0_br j).trans (congrArg Int32.toInt (Wr.neI wH1878 (Or.inl (G_ne gkq ga0 (by decide)))).symm)
        have f1882 : ∀ j : Nat, fI H1878 mq j = fI s.heap mq j := fun j => (fI_kept (wH1878.off (G_ne gmq ga0 (by decide)))).trans (x01830 j)
        have f1883 : ∀ j : Nat, fI H1878 bq j = fI s.heap bq j := fun j => (fI_kept (wH1878.off (G_ne gbq ga0 (by decide)))).trans (x01831 j)
        have f1884 : ∀ j : Nat, fI H1878 tq j = fI s.heap tq j := fun j => (fI_kept (wH1878.off (G_ne gtq ga0 (by decide)))).trans (x01832 j)
        have m1885 := etq.trans (Wr.neR wH1878 (Or.inr (x_apart hKT hts inX5 tyX5 tyX5_ok nmX5 rfl 1 3 (by decide) (by decide) (by decide)))).symm
        have m1886 := ebq.trans (Wr.neR wH1878 (Or.inr (x_apart hKT hts inX5 tyX5 tyX5_ok nmX5 rfl 0 3 (by decide) (by decide) (by decide)))).symm
        have m1887 := emq.trans (Wr.neR wH1878 (Or.inr (x_apart hKT hts inX5 tyX5 tyX5_ok nmX5 rfl 2 3 (by decide) (by decide) (by decide)))).symm
        have m1888 := enq.trans (Wr.neR wH1878 (Or.inl (G_ne ga1 ga0 (by decide)))).symm
        have m1889 := elq.trans (Wr.neR wH1878 (Or.inl (G_ne ga1 ga0 (by decide)))).symm
        have m1890 := ekq.trans (Wr.neR wH1878 (Or.inl (G_ne ga1 ga0 (by decide)))).symm
        have m1892 := enc.trans (Wr.neI wH1878 (Or.inl (G_ne ga1 ga0 (by decide)))).symm
        have m1893 := ebc.trans (Wr.neI wH1878 (Or.inl (G_ne ga1 ga0 (by decide)))).symm
        have m1894 := esd.trans (Wr.neI wH1878 (Or.inr (x_apart hKT hts inX5 tyX5 tyX5_ok nmX5 rfl 4 3 (by decide) (by decide) (by decide)))).symm
        have m1895 := Wr.I wH1878
        have m1895 := m1895.symm
        refine lv_aload_n hx hb dX5_goOn_37 rfl (lv_at hl 0 rfl) ?_
        refine x_gr C hTH1878 (ci := 5) (k := 1) rfl inX5 (by decide) wF_X5_15 ga0 rg_104 rfl dX5_goOn_38 (fun q1896 eq1896 gq1896 => ?_)
        have uq1896 : tq = q1896 := (m1885).trans eq1896.symm
        subst uq1896
        refine lv_iconst (v := 0) hx hb dX5_goOn_41 (by decide) ?_
        refine lv_aload_n hx hb dX5_goOn_42 rfl (lv_at hl 0 rfl) ?_
        refine x_gr C hTH1878 (ci := 5) (k := 0) rfl inX5 (by decide) wF_X5_9 ga0 rg_104 rfl dX5_goOn_43 (fun q1897 eq1897 gq1897 => ?_)
        have uq1897 : bq = q1897 := (m1886).trans eq1897.symm
        subst uq1897
        refine lv_iconst (v := 0) hx hb dX5_goOn_46 (by decide) ?_
        refine lv_bipush (v := 8) hx hb dX5_goOn_47 (by decide) ?_
        refine x_copy C hTH1878 hSH1878 wM_X5_43 wNT_arraycopy wST_arraycopy wIN_J10 gtq gbq rg_106 rg_105 (by decide) (by omega) (by omega) (by omega) (by show _ ≤ ((8 : Nat) : Int); omega) (by show _ ≤ ((8 : Nat) : Int); omega) (AE_in gbq (by decide)) hl.1 (by decide) dX5_goOn_49 (fun H1898 locsH1898 hTH1898 hSH1898 zH1898 oH1898 vH1898 wH1898 => ?_)
        have m1899 := (m1885).trans (fR_kept (oH1898 _ (G_ne ga0 gbq (by decide)))).symm
        have m1900 := (m1886).trans (fR_kept (oH1898 _ (G_ne ga0 gbq (by decide)))).symm
        have m1901 := (m1887).trans (fR_kept (oH1898 _ (G_ne ga0 gbq (by decide)))).symm
        have m1902 := (m1888).trans (fR_kept (oH1898 _ (G_ne ga1 gbq (by decide)))).symm
        have m1903 := (m1889).trans (fR_kept (oH1898 _ (G_ne ga1 gbq (by decide)))).symm
        have m1904 := (m1890).trans (fR_kept (oH1898 _ (G_ne ga1 gbq (by decide)))).symm
        have m1905 := (m1892).trans (fI_kept (oH1898 _ (G_ne ga1 gbq (by decide)))).symm
        have m1906 := (m1893).trans (fI_kept (oH1898 _ (G_ne ga1 gbq (by decide)))).symm
        have m1907 := (m1894).trans (fI_kept (oH1898 _ (G_ne ga0 gbq (by decide)))).symm
        have m1908 := (m1895).trans (fI_kept (oH1898 _ (G_ne ga0 gbq (by decide)))).symm
        have f1909 : ∀ j : Nat, nl j = (fI H1898 nq j).toInt := fun j => (f1879 j).trans (congrArg Int32.toInt (fI_kept (oH1898 _ (G_ne gnq gbq (by decide)))).symm)
        have f1910 : ∀ j : Nat, bl j = (fI H1898 lq j).toInt := fun j => (f1880 j).trans (congrArg Int32.toInt (fI_kept (oH1898 _ (G_ne glq gbq (by decide)))).symm)
        have f1911 : ∀ j : Nat, br j = (fI H1898 kq j).toInt := fun j => (f1881 j).trans (congrArg Int32.toInt (fI_kept (oH1898 _ (G_ne gkq gbq (by decide)))).symm)
        have f1912 : ∀ j : Nat, fI H1898 mq j = fI s.heap mq j := fun j => (fI_kept (oH1898 _ (G_ne gmq gbq (by decide)))).trans (f1882 j)
        have f1913 : ∀ j : Nat, fI H1898 tq j = fI s.heap tq j := fun j => (fI_kept (oH1898 _ (G_ne gtq gbq (by decide)))).trans (f1884 j)
        have c00 : (0 : Int32).toNatClampNeg = 0 := rfl
        have n_8_ : (8 : Int32).toInt = 8 := rfl
        have cpy_ : pr (fun j => (fI H1898 bq j).toInt) nc.toNatClampNeg = g := by rw [show nc.toNatClampNeg = 5 by omega, ← hy0]; exact pr_c 5 (fun j hj => congrArg Int32.toInt (by have z := wH1898 j (by omega); rw [c00, Nat.zero_add] at z; exact z.trans (f1884 j)))
        exact x_vret C hQ dX5_goOn_52 hSH1898 (by decide) (by decide) (⟨x4, rfl, m1908, m1899, m1900, m1901, m1907, ((pr_c 5 (fun j _ => congrArg Int32.toInt (f1913 j))).trans hy0), HD.mk (gm_yes (by omega) (by omega) hy2 (by omega) (fun j => congrArg Int32.toInt (f1912 j)) cpy_), hTH1898⟩)
  · have k1835 := i_nle c1834
    refine lv_iload_n hx hb dX5_goOn_8 rfl (lv_at hl 2 rfl) ?_
    refine lv_bipush (v := 8) hx hb dX5_goOn_9 (by decide) ?_
    refine lv_icmp_lt (tgt := 53) hx hb dX5_goOn_11 (by decide) (fun c1914 => ?_) (fun c1914 => ?_)
    · have k1915 := i_lt c1914
      refine lv_iconst (v := 0) hx hb dX5_goOn_53 (by decide) ?_
      refine lv_istore (lv' := [(5, .int 0), (0, .ref a0), (1, .ref a1), (2, .int x2), (3, .int x3), (4, .int x4)]) hx hb dX5_goOn_54 hl (by decide) rfl (fun ls1916 hl1917 => ?_)
      exact J56 ((8 - (0 : Int32).toInt).toNat + 1)  ls1916 s.heap [] (0) (le) (lv_sub hl1917 [1, 2, 3, 4, 5, 0] rfl) hT hS (by decide) ele etq ebq emq enq elq ekq enc ebc esd f0_nl f0_bl f0_br (by omega) (by omega) (HD.mk (gm_start (by omega))) hy0
    · have k1915 := i_nlt c1914
      exfalso
      omega
