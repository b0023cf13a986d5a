set_option maxHeartbeats 4000000 in
set_option maxRecDepth 100000 in
theorem a_X10_barsThat_l (l : Launch) (K : KE) (G : Nat → Option Nat) (H : Heap) {a0 : Nat} (x1 : Int32) {gq : Nat} (fo : Int32) (sl : Int32) (bs : Int32) (fsE : Nat → EF) (fwE : Nat → EF) (hT : TY K G H) (ga0 : G a0 = some 112) (hx1 : 1 ≤ x1.toInt ∧ x1.toInt ≤ 1) (ggq : G gq = some 118) (egq : @Eq Ad gq (fR H a0 (K.1.2 10 9))) (efo : fo = fI H a0 (K.1.2 10 2)) (esl : sl = fI H a0 (K.1.2 10 3)) (ebs : bs = fI H a0 (K.1.2 10 1)) (hg_CG : CG (avw K H a0)) (hp0 : 0 ≤ sl.toInt ∧ sl.toInt ≤ 9999) (hy0 : TXR K H a0 fo.toNatClampNeg 1 fsE fwE) (hy1 : ∀ j : Nat, j < 10 → (j : Int) < bs.toInt → GoV (vwR K H a0 j)) : MX l K yX10_barsThat cX10_barsThat 4 (some .int) 7 167 0 0 [.ref a0, .int x1] H (AE G [140, 139] H.size) (fun v H1 => ∃ (r : Int32), v = some (.int r) ∧ (0 ≤ r.toInt ∧ r.toInt ≤ 10) ∧ (r.toInt = cntB (fun j : Nat => lostW (tlR K H a0 fo.toNatClampNeg fsE fwE) (vwR K H a0 j) sl.toInt) bs.toNatClampNeg 0) ∧ TY K G H1) := by
  refine MX.of (by decide +kernel) (Nat.le_of_ble_eq_true rfl) ?_
  intro p e s m below meth c ls Q C hH hl hQ
  subst hH
  have C : CX p K s m _ meth c RX10 cX10_barsThat 4 (some .int) "barsThat" := C
  obtain ⟨hx, hb, hml, hown, hts, hKT, hr, hlocks, hnm⟩ := id C
  have hl : lv_has ls 4 [(0, .ref a0), (1, .int x1)] := hl
  have hS : va_S (AE G [140, 139] s.heap.size) s.heap s.heap [] := va_S.rf
  have n_0 : (0 : Int32).toInt = 0 := rfl
  have n_1 : (1 : Int32).toInt = 1 := rfl
  have bfo := ty_fi (x := fo) (k := 2) efo hT ga0 rg_112 rfl
  have bsl := ty_fi (x := sl) (k := 3) esl hT ga0 rg_112 rfl
  have bbs := ty_fi (x := bs) (k := 1) ebs hT ga0 rg_112 rfl
  have hap : ∀ x y, x < 74 → y < 74 → x ≠ y → K.1.2 10 x ≠ K.1.2 10 y := x_apart hKT hts inX10 tyX10 tyX10_ok nmX10 rfl
  have f0_fr : FRR G s.heap s.heap := FRR.rf
  have J4 : ∀ (nf : Nat)  (ls658 : Array Slot) (H657 : Heap) (locsH657 : List Loc) (x660 : Int32) (x661 : Int32), lv_has ls658 4 [(0, .ref a0), (1, .int x1), (2, .int x660), (3, .int x661)] → TY K G H657 → va_S (AE G [140, 139] s.heap.size) s.heap H657 locsH657 → (0 ≤ x660.toInt ∧ x660.toInt ≤ 10) → (0 ≤ x661.toInt ∧ x661.toInt ≤ 10) → (@Eq Ad gq (fR H657 a0 (K.1.2 10 9))) → (fo = fI H657 a0 (K.1.2 10 2)) → (sl = fI H657 a0 (K.1.2 10 3)) → (bs = fI H657 a0 (K.1.2 10 1)) → (CG (avw K H657 a0)) → (FRR G H657 s.heap) → (10 - x661.toInt < (nf : Int)) → (x660.toInt ≤ x661.toInt ∧ x661.toInt ≤ bs.toInt) → (x660.toInt + cntB (fun j : Nat => lostW (tlR K s.heap a0 fo.toNatClampNeg fsE fwE) (vwR K s.heap a0 j) sl.toInt) (bs.toNatClampNeg - x661.toNatClampNeg) x661.toNatClampNeg = cntB (fun j : Nat => lostW (tlR K s.heap a0 fo.toNatClampNeg fsE fwE) (vwR K s.heap a0 j) sl.toInt) bs.toNatClampNeg 0) → W p l e ({ frames := 7, cells := 0, slots := 0, locals := 167 } : Room) s m (([.ref a0, .int x1] : List Value).toArray) below meth c H657 locsH657 0 0 Q (F0 m 4 ls658 []) := by
    intro nf
    induction nf with
    | zero =>
      intro  ls658 H657 locsH657 x660 x661 hl659 hTH657 hSH657 bx660 bx661 cy662_0 cy662_1 cy662_2 cy662_3 gy662_CG fy662_fr hm4 iv4 hsp4
      exfalso
      omega
    | succ nf ih4 =>
      intro  ls658 H657 locsH657 x660 x661 hl659 hTH657 hSH657 bx660 bx661 cy662_0 cy662_1 cy662_2 cy662_3 gy662_CG fy662_fr hm4 iv4 hsp4
      refine lv_iload_n hx hb dX10_barsThat_4 rfl (lv_at hl659 3 rfl) ?_
      refine lv_aload_n hx hb dX10_barsThat_5 rfl (lv_at hl659 0 rfl) ?_
      refine x_gi C hTH657 (ci := 10) (k := 1) rfl inX10 (by decide) wF_X10_170 ga0 rg_112 rfl dX10_barsThat_6 (fun x663 ex663 bx663 => ?_)
      have ux663 : bs = x663 := (cy662_3).trans ex663.symm
      subst ux663
      refine lv_icmp_ge (tgt := 45) hx hb dX10_barsThat_9 (by decide) (fun c664 => ?_) (fun c664 => ?_)
      · have k665 := i_le c664
        refine lv_iload_n hx hb dX10_barsThat_45 rfl (lv_at hl659 2 rfl) ?_
        have cn_x661 := i_cl (x := x661) bx661.1
        have cn_bs := i_cl (x := bs) (by omega)
        exact x_iret C hQ dX10_barsThat_46 hSH657 (by decide) (by decide) (⟨x660, rfl, by omega, (by have z := cntB_0 (f := (fun j : Nat => lostW (tlR K s.heap a0 fo.toNatClampNeg fsE fwE) (vwR K s.heap a0 j) sl.toInt)) (n := bs.toNatClampNeg - x661.toNatClampNeg) (k := x661.toNatClampNeg) (by omega); omega), hTH657⟩)
      · have k665 := i_nle c664
        refine lv_iload_n hx hb dX10_barsThat_12 rfl (lv_at hl659 1 rfl) ?_
        refine lv_if_eq (tgt := 27) hx hb dX10_barsThat_13 (by decide) (fun c666 => ?_) (fun c666 => ?_)
        · have k667 := i_eq c666
          exfalso
          omega
        · have k667 := i_ne c666
          refine lv_aload_n hx hb dX10_barsThat_16 rfl (lv_at hl659 0 rfl) ?_
          refine lv_iload_n hx hb dX10_barsThat_17 rfl (lv_at hl659 3 rfl) ?_
          have cn_x661 := i_cl (x := x661) bx661.1
          refine x_V (As := [.int x661]) (rest := []) C (a_X10_isLost_v l K G H657 (x661) (fo) (sl) (fsE) (fwE) hTH657 ga0 (by omega) ggq cy662_0 cy662_1 cy662_2 gy662_CG (by omega) ((TXR.frr hT ga0 (FRR.tx ga0 fy662_fr) hy0)) (fun j hj => by have z := (hy1 x661.toNatClampNeg (by omega) (by omega)).1 j hj; rw [← vr_frr hT ga0 fy662_fr, vwR_a (k := 5) (by decide)] at z; rw [cy662_0]; exact z)) yo_X10_isLost wM_X10_338 ⟨⟨by decide, by decide⟩, by decide, by decide⟩ (x_rv C hTH657 (ci := 10) rfl ga0 rg_112) rfl hl659.1 rfl (Nat.le_of_ble_eq_true rfl) dX10_barsThat_18 hSH657 (AE_sub (fun _ _ => rfl) (by decide) hSH657.1) (fun vH668 H668 locsH668 pH668 zH668 kH668 hSH668 => ?_)
          obtain ⟨x669, hvH668, bx669, m670, hTH668⟩ := pH668
          subst hvH668
          have g671 : CG (avw K H668 a0) := CG.congr (fun k hk j => av_eff hTH657 kH668 ga0 (by decide) (CG_eff [140, 139] (by decide) k hk)) gy662_CG
          have f672 : FRR G H668 s.heap := (fun q t hq h1 h2 => (x_lt hTH657 kH668 hq (nm2 h1 (nm2 h2 nm0))).trans (fy662_fr q t hq h1 h2))
          have m673 := (cy662_0).trans (fR_kept (x_lt hTH657 kH668 ga0 (by decide))).symm
          have m674 := (cy662_1).trans (fI_kept (x_lt hTH657 kH668 ga0 (by decide))).symm
          have m675 := (cy662_2).trans (fI_kept (x_lt hTH657 kH668 ga0 (by decide))).symm
          have m676 := (cy662_3).trans (fI_kept (x_lt hTH657 kH668 ga0 (by decide))).symm
          have lw677 : lostW (tlR K s.heap a0 fo.toNatClampNeg fsE fwE) (vwR K s.heap a0 x661.toNatClampNeg) sl.toInt = decide (x669.toInt = 1) := by rw [← tlR_frr hT ga0 (FRR.tx ga0 fy662_fr), ← vr_frr hT ga0 fy662_fr, lost_tnR, ← cy662_0]; exact m670
          refine W.eq (g2 := F0 m 21 ls658 [.int x669]) rfl ?_
          refine lv_if_eq (tgt := 39) hx hb dX10_barsThat_21 (by decide) (fun c678 => ?_) (fun c678 => ?_)
          · have k679 := i_eq c678
            obtain ⟨x680, ex680⟩ : ∃ y : Int32, y = x661 + 1 := ⟨_, rfl⟩
            have tx680 := i_add ex680 (by omega)
            refine lv_iinc (v := x680) (lv' := [(3, .int x680), (0, .ref a0), (1, .int x1), (2, .int x660)]) hx hb dX10_barsThat_39 hl659 (k := 3) rfl (by rw [ex680]; rfl) (by decide) rfl (fun ls681 hl682 => ?_)
            refine lv_goto (tgt := 4) hx hb dX10_barsThat_42 (by decide) ?_
            have cn_x661 := i_cl (x := x661) bx661.1
            have cn_x680 := i_cl (x := x680) (by omega)
            have cn_bs := i_cl (x := bs) (by omega)
            exact ih4  ls681 H668 locsH668 (x660) (x680) (lv_sub hl682 [1, 2, 3, 0] rfl) hTH668 hSH668 bx660 (by have := i_rng x680; omega) m673 m674 m675 m676 g671 f672 (by omega) (by omega) (by first | (have z := cntB_y (f := (fun j : Nat => lostW (tlR K s.heap a0 fo.toNatClampNeg fsE fwE) (vwR K s.heap a0 j) sl.toInt)) (n := bs.toNatClampNeg - x661.toNatClampNeg) (m := bs.toNatClampNeg - x680.toNatClampNeg) (k := x661.toNatClampNeg) (k2 := x680.toNatClampNeg) (by omega) (by omega) (lw677.trans (decide_eq_true (by omega))); omega) | (have z := cntB_n (f := (fun j : Nat => lostW (tlR K s.heap a0 fo.toNatClampNeg fsE fwE) (vwR K s.heap a0 j) sl.toInt)) (n := bs.toNatClampNeg - x661.toNatClampNeg) (m := bs.toNatClampNeg - x680.toNatClampNeg) (k := x661.toNatClampNeg) (k2 := x680.toNatClampNeg) (by omega) (by omega) (lw677.trans (decide_eq_false (by omega))); omega))
          · have k679 := i_ne c678
            refine lv_goto (tgt := 35) hx hb dX10_barsThat_24 (by decide) ?_
            refine lv_iload_n hx hb dX10_barsThat_35 rfl (lv_at hl659 2 rfl) ?_
            refine lv_iconst (v := 1) hx hb dX10_barsThat_36 (by decide) ?_
            refine lv_iadd hx hb dX10_barsThat_37 ?_
            refine lv_topi (fun x683 ex683 => ?_)
            have tx683 := i_add ex683 (by omega)
            refine lv_istore_n (lv' := [(2, .int x683), (0, .ref a0), (1, .int x1), (3, .int x661)]) hx hb dX10_barsThat_38 rfl hl659 (by decide) rfl (fun ls684 hl685 => ?_)
            obtain ⟨x686, ex686⟩ : ∃ y : Int32, y = x661 + 1 := ⟨_, rfl⟩
            have tx686 := i_add ex686 (by omega)
            refine lv_iinc (v := x686) (lv' := [(3, .int x686), (2, .int x683), (0, .ref a0), (1, .int x1)]) hx hb dX10_barsThat_39 hl685 (k := 3) rfl (by rw [ex686]; rfl) (by decide) rfl (fun ls687 hl688 => ?_)
            refine lv_goto (tgt := 4) hx hb dX10_barsThat_42 (by decide) ?_
            have cn_x661 := i_cl (x := x661) bx661.1
            have cn_x686 := i_cl (x := x686) (by omega)
            have cn_bs := i_cl (x := bs) (by omega)
            exact ih4  ls687 H668 locsH668 (x683) (x686) (lv_sub hl688 [2, 3, 1, 0] rfl) hTH668 hSH668 (by have := i_rng x683; omega) (by have := i_rng x686; omega) m673 m674 m675 m676 g671 f672 (by omega) (by omega) (by first | (have z := cntB_y (f := (fun j : Nat => lostW (tlR K s.heap a0 fo.toNatClampNeg fsE fwE) (vwR K s.heap a0 j) sl.toInt)) (n := bs.toNatClampNeg - x661.toNatClampNeg) (m := bs.toNatClampNeg - x686.toNatClampNeg) (k := x661.toNatClampNeg) (k2 := x686.toNatClampNeg) (by omega) (by omega) (lw677.trans (decide_eq_true (by omega))); omega) | (have z := cntB_n (f := (fun j : Nat => lostW (tlR K s.heap a0 fo.toNatClampNeg fsE fwE) (vwR K s.heap a0 j) sl.toInt)) (n := bs.toNatClampNeg - x661.toNatClampNeg) (m := bs.toNatClampNeg - x686.toNatClampNeg) (k := x661.toNatClampNeg) (k2 := x686.toNatClampNeg) (by omega) (by omega) (lw677.trans (decide_eq_false (by omega))); omega))
  refine lv_iconst (v := 0) hx hb dX10_barsThat_0 (by decide) ?_
  refine lv_istore_n (lv' := [(2, .int 0), (0, .ref a0), (1, .int x1)]) hx hb dX10_barsThat_1 rfl hl (by decide) rfl (fun ls689 hl690 => ?_)
  refine lv_iconst (v := 0) hx hb dX10_barsThat_2 (by decide) ?_
  refine lv_istore_n (lv' := [(3, .int 0), (2, .int 0), (0, .ref a0), (1, .int x1)]) hx hb dX10_barsThat_3 rfl hl690 (by decide) rfl (fun ls691 hl692 => ?_)
  exact J4 ((10 - (0 : Int32).toInt).toNat + 1)  ls691 s.heap [] (0) (0) (lv_sub hl692 [2, 3, 1, 0] rfl) hT hS (by decide) (by decide) egq efo esl ebs hg_CG f0_fr (by omega) (by omega) (by rw [n_0, Int.zero_add]; rfl)

set_option maxHeartbeats 4000000 in
set_option maxRecDepth 100000 in
theorem a_X10_barsThat_t (l : Launch) (K : KE) (G : Nat → Option Nat) (H : Heap) {a0 : Nat} (x1 : Int32) {gq : Nat} (fo : Int32) (sl : Int32) (bs : Int32) (fsE : Nat → EF) (fwE : Nat → EF) (hT : TY K G H) (ga0 : G a0 = some 112) (hx1 : 0 ≤ x1.toInt ∧ x1.toInt ≤ 0) (ggq : G gq = some 118) (egq : @Eq Ad gq (fR H a0 (K.1.2 10 9))) (efo : fo = fI H a0 (K.1.2 10 2)) (esl : sl = fI H a0 (K.1.2 10 3)) (ebs : bs = fI H a0 (K.1.2 10 1)) (hg_CG : CG (avw K H a0)) (hp0 : 0 ≤ sl.toInt ∧ sl.toInt ≤ 9999) (hy0 : TXR K H a0 fo.toNatClampNeg 1 fsE fwE) (hy1 : ∀ j : Nat, j < 10 → (j : Int) < bs.toInt → GoV (vwR K H a0 j)) : MX l K yX10_barsThat cX10_barsThat 4 (some .int) 7 167 0 0 [.ref a0, .int x1] H (AE G [140, 139] H.size) (fun v H1 => ∃ (r : Int32), v = some (.int r) ∧ (0 ≤ r.toInt ∧ r.toInt ≤ 10) ∧ (r.toInt = cntB (fun j : Nat => trueW (tlR K H a0 fo.toNatClampNeg fsE fwE) (vwR K H a0 j) sl.toInt) bs.toNatClampNeg 0) ∧ TY K G H1) := by
  refine MX.of (by decide +kernel) (Nat.le_of_ble_eq_true rfl) ?_
  intro p e s m below meth c ls Q C hH hl hQ
  subst hH
  have C : CX p K s m _ meth c RX10 cX10_barsThat 4 (some .int) "barsThat" := C
  obtain ⟨hx, hb, hml, hown, hts, hKT, hr, hlocks, hnm⟩ := id C
  have hl : lv_has ls 4 [(0, .ref a0), (1, .int x1)] := hl
  have hS : va_S (AE G [140, 139] s.heap.size) s.heap s.heap [] := va_S.rf
  have n_0 : (0 : Int32).toInt = 0 := rfl
  have n_1 : (1 : Int32).toInt = 1 := rfl
  have bfo := ty_fi (x := fo) (k := 2) efo hT ga0 rg_112 rfl
  have bsl := ty_fi (x := sl) (k := 3) esl hT ga0 rg_112 rfl
  have bbs := ty_fi (x := bs) (k := 1) ebs hT ga0 rg_112 rfl
  have hap : ∀ x y, x < 74 → y < 74 → x ≠ y → K.1.2 10 x ≠ K.1.2 10 y := x_apart hKT hts inX10 tyX10 tyX10_ok nmX10 rfl
  have f0_fr : FRR G s.heap s.heap := FRR.rf
  have J4 : ∀ (nf : Nat)  (ls658 : Array Slot) (H657 : Heap) (locsH657 : List Loc) (x660 : Int32) (x661 : Int32), lv_has ls658 4 [(0, .ref a0), (1, .int x1), (2, .int x660), (3, .int x661)] → TY K G H657 → va_S (AE G [140, 139] s.heap.size) s.heap H657 locsH657 → (0 ≤ x660.toInt ∧ x660.toInt ≤ 10) → (0 ≤ x661.toInt ∧ x661.toInt ≤ 10) → (@Eq Ad gq (fR H657 a0 (K.1.2 10 9))) → (fo = fI H657 a0 (K.1.2 10 2)) → (sl = fI H657 a0 (K.1.2 10 3)) → (bs = fI H657 a0 (K.1.2 10 1)) → (CG (avw K H657 a0)) → (FRR G H657 s.heap) → (10 - x661.toInt < (nf : Int)) → (x660.toInt ≤ x661.toInt ∧ x661.toInt ≤ bs.toInt) → (x660.toInt + cntB (fun j : Nat => trueW (tlR K s.heap a0 fo.toNatClampNeg fsE fwE) (vwR K s.heap a0 j) sl.toInt) (bs.toNatClampNeg - x661.toNatClampNeg) x661.toNatClampNeg = cntB (fun j : Nat => trueW (tlR K s.heap a0 fo.toNatClampNeg fsE fwE) (vwR K s.heap a0 j) sl.toInt) bs.toNatClampNeg 0) → W p l e ({ frames := 7, cells := 0, slots := 0, locals := 167 } : Room) s m (([.ref a0, .int x1] : List Value).toArray) below meth c H657 locsH657 0 0 Q (F0 m 4 ls658 []) := by
    intro nf
    induction nf with
    | zero =>
      intro  ls658 H657 locsH657 x660 x661 hl659 hTH657 hSH657 bx660 bx661 cy662_0 cy662_1 cy662_2 cy662_3 gy662_CG fy662_fr hm4 iv4 hsp4
      exfalso
      omega
    | succ nf ih4 =>
      intro  ls658 H657 locsH657 x660 x661 hl659 hTH657 hSH657 bx660 bx661 cy662_0 cy662_1 cy662_2 cy662_3 gy662_CG fy662_fr hm4 iv4 hsp4
      refine lv_iload_n hx hb dX10_barsThat_4 rfl (lv_at hl659 3 rfl) ?_
      refine lv_aload_n hx hb dX10_barsThat_5 rfl (lv_at hl659 0 rfl) ?_
      refine x_gi C hTH657 (ci := 10) (k := 1) rfl inX10 (by decide) wF_X10_170 ga0 rg_112 rfl dX10_barsThat_6 (fun x663 ex663 bx663 => ?_)
      have ux663 : bs = x663 := (cy662_3).trans ex663.symm
      subst ux663
      refine lv_icmp_ge (tgt := 45) hx hb dX10_barsThat_9 (by decide) (fun c664 => ?_) (fun c664 => ?_)
      · have k665 := i_le c664
        refine lv_iload_n hx hb dX10_barsThat_45 rfl (lv_at hl659 2 rfl) ?_
        have cn_x661 := i_cl (x := x661) bx661.1
        have cn_bs := i_cl (x := bs) (by omega)
        exact x_iret C hQ dX10_barsThat_46 hSH657 (by decide) (by decide) (⟨x660, rfl, by omega, (by have z := cntB_0 (f := (fun j : Nat => trueW (tlR K s.heap a0 fo.toNatClampNeg fsE fwE) (vwR K s.heap a0 j) sl.toInt)) (n := bs.toNatClampNeg - x661.toNatClampNeg) (k := x661.toNatClampNeg) (by omega); omega), hTH657⟩)
      · have k665 := i_nle c664
        refine lv_iload_n hx hb dX10_barsThat_12 rfl (lv_at hl659 1 rfl) ?_
        refine lv_if_eq (tgt := 27) hx hb dX10_barsThat_13 (by decide) (fun c666 => ?_) (fun c666 => ?_)
        · have k667 := i_eq c666
          refine lv_aload_n hx hb dX10_barsThat_27 rfl (lv_at hl659 0 rfl) ?_
          refine lv_iload_n hx hb dX10_barsThat_28 rfl (lv_at hl659 3 rfl) ?_
          have cn_x661 := i_cl (x := x661) bx661.1
          refine x_V (As := [.int x661]) (rest := []) C (a_X10_isTrue_v l K G H657 (x661) (fo) (sl) (fsE) (fwE) hTH657 ga0 (by omega) ggq cy662_0 cy662_1 cy662_2 gy662_CG (by omega) ((TXR.frr hT ga0 (FRR.tx ga0 fy662_fr) hy0)) (fun j hj => by have z := (hy1 x661.toNatClampNeg (by omega) (by omega)).1 j hj; rw [← vr_frr hT ga0 fy662_fr, vwR_a (k := 5) (by decide)] at z; rw [cy662_0]; exact z)) yo_X10_isTrue wM_X10_414 ⟨⟨by decide, by decide⟩, by decide, by decide⟩ (x_rv C hTH657 (ci := 10) rfl ga0 rg_112) rfl hl659.1 rfl (Nat.le_of_ble_eq_true rfl) dX10_barsThat_29 hSH657 (AE_sub (fun _ _ => rfl) (by decide) hSH657.1) (fun vH668 H668 locsH668 pH668 zH668 kH668 hSH668 => ?_)
          obtain ⟨x669, hvH668, bx669, m670, hTH668⟩ := pH668
          subst hvH668
          have g671 : CG (avw K H668 a0) := CG.congr (fun k hk j => av_eff hTH657 kH668 ga0 (by decide) (CG_eff [140, 139] (by decide) k hk)) gy662_CG
          have f672 : FRR G H668 s.heap := (fun q t hq h1 h2 => (x_lt hTH657 kH668 hq (nm2 h1 (nm2 h2 nm0))).trans (fy662_fr q t hq h1 h2))
          have m673 := (cy662_0).trans (fR_kept (x_lt hTH657 kH668 ga0 (by decide))).symm
          have m674 := (cy662_1).trans (fI_kept (x_lt hTH657 kH668 ga0 (by decide))).symm
          have m675 := (cy662_2).trans (fI_kept (x_lt hTH657 kH668 ga0 (by decide))).symm
          have m676 := (cy662_3).trans (fI_kept (x_lt hTH657 kH668 ga0 (by decide))).symm
          have lw677 : trueW (tlR K s.heap a0 fo.toNatClampNeg fsE fwE) (vwR K s.heap a0 x661.toNatClampNeg) sl.toInt = decide (x669.toInt = 1) := by rw [← tlR_frr hT ga0 (FRR.tx ga0 fy662_fr), ← vr_frr hT ga0 fy662_fr, true_tnR, ← cy662_0]; exact m670
          refine W.eq (g2 := F0 m 32 ls658 [.int x669]) rfl ?_
          refine lv_if_eq (tgt := 39) hx hb dX10_barsThat_32 (by decide) (fun c678 => ?_) (fun c678 => ?_)
          · have k679 := i_eq c678
            obtain ⟨x680, ex680⟩ : ∃ y : Int32, y = x661 + 1 := ⟨_, rfl⟩
            have tx680 := i_add ex680 (by omega)
            refine lv_iinc (v := x680) (lv' := [(3, .int x680), (0, .ref a0), (1, .int x1), (2, .int x660)]) hx hb dX10_barsThat_39 hl659 (k := 3) rfl (by rw [ex680]; rfl) (by decide) rfl (fun ls681 hl682 => ?_)
            refine lv_goto (tgt := 4) hx hb dX10_barsThat_42 (by decide) ?_
            have cn_x661 := i_cl (x := x661) bx661.1
            have cn_x680 := i_cl (x := x680) (by omega)
            have cn_bs := i_cl (x := bs) (by omega)
            exact ih4  ls681 H668 locsH668 (x660) (x680) (lv_sub hl682 [1, 2, 3, 0] rfl) hTH668 hSH668 bx660 (by have := i_rng x680; omega) m673 m674 m675 m676 g671 f672 (by omega) (by omega) (by first | (have z := cntB_y (f := (fun j : Nat => trueW (tlR K s.heap a0 fo.toNatClampNeg fsE fwE) (vwR K s.heap a0 j) sl.toInt)) (n := bs.toNatClampNeg - x661.toNatClampNeg) (m := bs.toNatClampNeg - x680.toNatClampNeg) (k := x661.toNatClampNeg) (k2 := x680.toNatClampNeg) (by omega) (by omega) (lw677.trans (decide_eq_true (by omega))); omega) | (have z := cntB_n (f := (fun j : Nat => trueW (tlR K s.heap a0 fo.toNatClampNeg fsE fwE) (vwR K s.heap a0 j) sl.toInt)) (n := bs.toNatClampNeg - x661.toNatClampNeg) (m := bs.toNatClampNeg - x680.toNatClampNeg) (k := x661.toNatClampNeg) (k2 := x680.toNatClampNeg) (by omega) (by omega) (lw677.trans (decide_eq_false (by omega))); omega))
          · have k679 := i_ne c678
            refine lv_iload_n hx hb dX10_barsThat_35 rfl (lv_at hl659 2 rfl) ?_
            refine lv_iconst (v := 1) hx hb dX10_barsThat_36 (by decide) ?_
            refine lv_iadd hx hb dX10_barsThat_37 ?_
            refine lv_topi (fun x683 ex683 => ?_)
            have tx683 := i_add ex683 (by omega)
            refine lv_istore_n (lv' := [(2, .int x683), (0, .ref a0), (1, .int x1), (3, .int x661)]) hx hb dX10_barsThat_38 rfl hl659 (by decide) rfl (fun ls684 hl685 => ?_)
            obtain ⟨x686, ex686⟩ : ∃ y : Int32, y = x661 + 1 := ⟨_, rfl⟩
            have tx686 := i_add ex686 (by omega)
            refine lv_iinc (v := x686) (lv' := [(3, .int x686), (2, .int x683), (0, .ref a0), (1, .int x1)]) hx hb dX10_barsThat_39 hl685 (k := 3) rfl (by rw [ex686]; rfl) (by decide) rfl (fun ls687 hl688 => ?_)
            refine lv_goto (tgt := 4) hx hb dX10_barsThat_42 (by decide) ?_
            have cn_x661 := i_cl (x := x661) bx661.1
            have cn_x686 := i_cl (x := x686) (by omega)
            have cn_bs := i_cl (x := bs) (by omega)
            exact ih4  ls687 H668 locsH668 (x683) (x686) (lv_sub hl688 [2, 3, 1, 0] rfl) hTH668 hSH668 (by have := i_rng x683; omega) (by have := i_rng x686; omega) m673 m674 m675 m676 g671 f672 (by omega) (by omega) (by first | (have z := cntB_y (f := (fun j : Nat => trueW (tlR K s.heap a0 fo.toNatClampNeg fsE fwE) (vwR K s.heap a0 j) sl.toInt)) (n := bs.toNatClampNeg - x661.toNatClampNeg) (m := bs.toNatClampNeg - x686.toNatClampNeg) (k := x661.toNatClampNeg) (k2 := x686.toNatClampNeg) (by omega) (by omega) (lw677.trans (decide_eq_true (by omega))); omega) | (have z := cntB_n (f := (fun j : Nat => trueW (tlR K s.heap a0 fo.toNatClampNeg fsE fwE) (vwR K s.heap a0 j) sl.toInt)) (n := bs.toNatClampNeg - x661.toNatClampNeg) (m := bs.toNatClampNeg - x686.toNatClampNeg) (k := x661.toNatClampNeg) (k2 := x686.toNatClampNeg) (by omega) (by omega) (lw677.trans (decide_eq_false (by omega))); omega))
        · have k667 := i_ne c666
          exfalso
          omega
  refine lv_iconst (v := 0) hx hb dX10_barsThat_0 (by decide) ?_
  refine lv_istore_n (lv' := [(2, .int 0), (0, .ref a0), (1, .int x1)]) hx hb dX10_barsThat_1 rfl hl (by decide) rfl (fun ls689 hl690 => ?_)
  refine lv_iconst (v := 0) hx hb dX10_barsThat_2 (by decide) ?_
  refine lv_istore_n (lv' := [(3, .int 0), (2, .int 0), (0, .ref a0), (1, .int x1)]) hx hb dX10_barsThat_3 rfl hl690 (by decide) rfl (fun ls691 hl692 => ?_)
  exact J4 ((10 - (0 : Int32).toInt).toNat + 1)  ls691 s.heap [] (0) (0) (lv_sub hl692 [2, 3, 1, 0] rfl) hT hS (by decide) (by decide) egq efo esl ebs hg_CG f0_fr (by omega) (by omega) (by rw [n_0, Int.zero_add]; rfl)

set_option maxHeartbeats 4000000 in
set_option maxRecDepth 100000 in
theorem a_X10_look_v (l : Launch) (K : KE) (G : Nat → Option Nat) (H : Heap) {a0 : Nat} (x1 : Int32) {gq : Nat} (fo : Int32) (sl : Int32) (bs : Int32) (s10 : Int32) (s13 : Int32) (s16 : Int32) (fsE : Nat → EF) (fwE : Nat → EF) (hT : TY K G H) (ga0 : G a0 = some 112) (ggq : G gq = some 118) (egq : @Eq Ad gq (fR H a0 (K.1.2 10 9))) (efo : fo = fI H a0 (K.1.2 10 2)) (esl : sl = fI H a0 (K.1.2 10 3)) (ebs : bs = fI H a0 (K.1.2 10 1)) (es10 : s10 = fI H a0 (K.1.2 10 59)) (es13 : s13 = fI H a0 (K.1.2 10 62)) (es16 : s16 = fI H a0 (K.1.2 10 65)) (hg_CG : CG (avw K H a0)) (hg_TU : TU (avw K H a0) (svw K H a0)) (hg_WD : WD (avw K H a0)) (hg_IM : IM (avw K H a0)) (hp0 : 0 ≤ sl.toInt ∧ sl.toInt ≤ 9999) (hy0 : TXR K H a0 fo.toNatClampNeg 1 fsE fwE) (hy1 : ∀ j : Nat, j < 10 → (j : Int) < bs.toInt → GoV (vwR K H a0 j)) : MX l K yX10_look cX10_look 2 (some .int) 8 190 0 0 [.ref a0, .int x1] H (AE G [112, 140, 139] H.size) (fun v H1 => ∃ (r : Int32), v = some (.int r) ∧ @Eq Ad gq (fR H1 a0 (K.1.2 10 9)) ∧ fo = fI H1 a0 (K.1.2 10 2) ∧ sl = fI H1 a0 (K.1.2 10 3) ∧ bs = fI H1 a0 (K.1.2 10 1) ∧ s10 = fI H1 a0 (K.1.2 10 59) ∧ s13 = fI H1 a0 (K.1.2 10 62) ∧ s16 = fI H1 a0 (K.1.2 10 65) ∧ (CG (avw K H1 a0)) ∧ (TU (avw K H1 a0) (svw K H1 a0)) ∧ (WD (avw K H1 a0)) ∧ (IM (avw K H1 a0)) ∧ MF K H H1 a0 [0] ∧ ((x1.toInt = 0 ∧ r.toInt = bs.toInt) ∨ (x1.toInt = 1 ∧ r.toInt = s10.toInt) ∨ (x1.toInt = 2 ∧ r.toInt = s13.toInt) ∨ (x1.toInt = 3 ∧ r.toInt = s16.toInt) ∨ (x1.toInt = 4 ∧ r.toInt = sl.toInt) ∨ (x1.toInt = 5 ∧ r.toInt = fo.toInt) ∨ (x1.toInt = 6 ∧ r.toInt = cntB (fun j : Nat => lostW (tlR K H a0 fo.toNatClampNeg fsE fwE) (vwR K H a0 j) sl.toInt) bs.toNatClampNeg 0) ∨ (x1.toInt = 7 ∧ r.toInt = cntB (fun j : Nat => trueW (tlR K H a0 fo.toNatClampNeg fsE fwE) (vwR K H a0 j) sl.toInt) bs.toNatClampNeg 0) ∨ ((x1.toInt < 0 ∨ 7 < x1.toInt) ∧ r.toInt = -1)) ∧ TY K G H1) := by
  refine MX.of (by decide +kernel) (Nat.le_of_ble_eq_true rfl) ?_
  intro p e s m below meth c ls Q C hH hl hQ
  subst hH
  have C : CX p K s m _ meth c RX10 cX10_look 2 (some .int) "look" := C
  obtain ⟨hx, hb, hml, hown, hts, hKT, hr, hlocks, hnm⟩ := id C
  have hl : lv_has ls 2 [(0, .ref a0), (1, .int x1)] := hl
  have hS : va_S (AE G [112, 140, 139] s.heap.size) s.heap s.heap [] := va_S.rf
  have n_m1 : ((-1) : Int32).toInt = -1 := rfl
  have n_0 : (0 : Int32).toInt = 0 := rfl
  have n_1 : (1 : Int32).toInt = 1 := rfl
  have n_2 : (2 : Int32).toInt = 2 := rfl
  have n_3 : (3 : Int32).toInt = 3 := rfl
  have n_4 : (4 : Int32).toInt = 4 := rfl
  have n_5 : (5 : Int32).toInt = 5 := rfl
  have n_6 : (6 : Int32).toInt = 6 := rfl
  have n_7 : (7 : Int32).toInt = 7 := rfl
  have bfo := ty_fi (x := fo) (k := 2) efo hT ga0 rg_112 rfl
  have bsl := ty_fi (x := sl) (k := 3) esl hT ga0 rg_112 rfl
  have bbs := ty_fi (x := bs) (k := 1) ebs hT ga0 rg_112 rfl
  have bs10 := ty_fi (x := s10) (k := 59) es10 hT ga0 rg_112 rfl
  have bs13 := ty_fi (x := s13) (k := 62) es13 hT ga0 rg_112 rfl
  have bs16 := ty_fi (x := s16) (k := 65) es16 hT ga0 rg_112 rfl
  have hap : ∀ x y, x < 74 → y < 74 → x ≠ y → K.1.2 10 x ≠ K.1.2 10 y := x_apart hKT hts inX10 tyX10 tyX10_ok nmX10 rfl
  have mf0 : MF K s.heap s.heap a0 [0] := fun _ _ _ => rfl
  have f0_tf : TXG K a0 G s.heap s.heap := TXG.rf
  refine lv_aload_n hx hb dX10_look_0 rfl (lv_at hl 0 rfl) ?_
  refine lv_iconst (v := 0) hx hb dX10_look_1 (by decide) ?_
  refine x_put C hT hS (ci := 10) (k := 0) (v := .int 0) (ty0 := tyX10) rfl inX10 tyX10_ok nmX10 (by decide) rfl wF_X10_167 ga0 rg_112 rfl rfl (okI (i_rng (0 : Int32)).1 (i_rng (0 : Int32)).2) rfl rfl (AE_in ga0 (by decide)) dX10_look_2 (fun H401 locsH401 hTH401 hSH401 wH401 => ?_)
  have mf402 : MF K s.heap H401 a0 [0] := MF.fld hap wH401 (by decide) (by decide) mf0
  have g403 : CG (avw K H401 a0) := CG.congr (fun k hk j => av_fld hT ga0 hap wH401 (by decide) (CG_ok 112 (by decide) k hk) (CG_ne 0 (by decide) k hk)) hg_CG
  have g404 : TU (avw K H401 a0) (svw K H401 a0) := TU.congr (fun k hk j => av_fld hT ga0 hap wH401 (by decide) (TU_ok 112 (by decide) k hk) (TU_ne 0 (by decide) k hk)) (fun k hk => sv_fld hap wH401 (by decide) (TU_slt k hk) (TU_sne 0 (by decide) k hk)) hg_TU
  have g405 : WD (avw K H401 a0) := WD.congr (fun k hk j => av_fld hT ga0 hap wH401 (by decide) (WD_ok 112 (by decide) k hk) (WD_ne 0 (by decide) k hk)) hg_WD
  have g406 : IM (avw K H401 a0) := IM.congr (fun k hk j => av_fld hT ga0 hap wH401 (by decide) (IM_ok 112 (by decide) k hk) (IM_ne 0 (by decide) k hk)) hg_IM
  have f407 : TXG K a0 G H401 s.heap := ⟨fun k h0 h1 => (Wr.neR wH401 (Or.inr (hap k 0 h1 (by decide) (by omega)))).trans (f0_tf.1 k h0 h1), fun q t hq h1 => (wH401.off (G_ne hq ga0 (by first | (intro z; simp only [List.mem_cons, List.not_mem_nil, or_false] at z <;> omega) | omega))).trans (f0_tf.2 q t hq h1)⟩
  have m408 := egq.trans (Wr.neR wH401 (Or.inr (x_apart hKT hts inX10 tyX10 tyX10_ok nmX10 rfl 9 0 (by decide) (by decide) (by decide)))).symm
  have m409 := efo.trans (Wr.neI wH401 (Or.inr (x_apart hKT hts inX10 tyX10 tyX10_ok nmX10 rfl 2 0 (by decide) (by decide) (by decide)))).symm
  have m410 := esl.trans (Wr.neI wH401 (Or.inr (x_apart hKT hts inX10 tyX10 tyX10_ok nmX10 rfl 3 0 (by decide) (by decide) (by decide)))).symm
  have m411 := ebs.trans (Wr.neI wH401 (Or.inr (x_apart hKT hts inX10 tyX10 tyX10_ok nmX10 rfl 1 0 (by decide) (by decide) (by decide)))).symm
  have m412 := es10.trans (Wr.neI wH401 (Or.inr (x_apart hKT hts inX10 tyX10 tyX10_ok nmX10 rfl 59 0 (by decide) (by decide) (by decide)))).symm
  have m413 := es13.trans (Wr.neI wH401 (Or.inr (x_apart hKT hts inX10 tyX10 tyX10_ok nmX10 rfl 62 0 (by decide) (by decide) (by decide)))).symm
  have m414 := es16.trans (Wr.neI wH401 (Or.inr (x_apart hKT hts inX10 tyX10 tyX10_ok nmX10 rfl 65 0 (by decide) (by decide) (by decide)))).symm
  have m415 := Wr.I wH401
  have va416 : ∀ b2 : Nat, vwR K H401 a0 b2 = vwR K s.heap a0 b2 := fun b2 => vr_told hap hT ga0 wH401
  refine lv_iload_n hx hb dX10_look_5 rfl (lv_at hl 1 rfl) ?_
  refine lv_if_ne (tgt := 14) hx hb dX10_look_6 (by decide) (fun c417 => ?_) (fun c417 => ?_)
  · have k418 := i_ne c417
    refine lv_iload_n hx hb dX10_look_14 rfl (lv_at hl 1 rfl) ?_
    refine lv_iconst (v := 1) hx hb dX10_look_15 (by decide) ?_
    refine lv_icmp_ne (tgt := 24) hx hb dX10_look_16 (by decide) (fun c419 => ?_) (fun c419 => ?_)
    · have k420 := i_ne c419
      refine lv_iload_n hx hb dX10_look_24 rfl (lv_at hl 1 rfl) ?_
      refine lv_iconst (v := 2) hx hb dX10_look_25 (by decide) ?_
      refine lv_icmp_ne (tgt := 34) hx hb dX10_look_26 (by decide) (fun c421 => ?_) (fun c421 => ?_)
      · have k422 := i_ne c421
        refine lv_iload_n hx hb dX10_look_34 rfl (lv_at hl 1 rfl) ?_
        refine lv_iconst (v := 3) hx hb dX10_look_35 (by decide) ?_
        refine lv_icmp_ne (tgt := 44) hx hb dX10_look_36 (by decide) (fun c423 => ?_) (fun c423 => ?_)
        · have k424 := i_ne c423
          refine lv_iload_n hx hb dX10_look_44 rfl (lv_at hl 1 rfl) ?_
          refine lv_iconst (v := 4) hx hb dX10_look_45 (by decide) ?_
          refine lv_icmp_ne (tgt := 54) hx hb dX10_look_46 (by decide) (fun c425 => ?_) (fun c425 => ?_)
          · have k426 := i_ne c425
            refine lv_iload_n hx hb dX10_look_54 rfl (lv_at hl 1 rfl) ?_
            refine lv_iconst (v := 5) hx hb dX10_look_55 (by decide) ?_
            refine lv_icmp_ne (tgt := 64) hx hb dX10_look_56 (by decide) (fun c427 => ?_) (fun c427 => ?_)
            · have k428 := i_ne c427
              refine lv_iload_n hx hb dX10_look_64 rfl (lv_at hl 1 rfl) ?_
              refine lv_bipush (v := 6) hx hb dX10_look_65 (by decide) ?_
              refine lv_icmp_eq (tgt := 76) hx hb dX10_look_67 (by decide) (fun c429 => ?_) (fun c429 => ?_)
              · have k430 := i_eq c429
                refine lv_aload_n hx hb dX10_look_76 rfl (lv_at hl 0 rfl) ?_
                refine lv_iload_n hx hb dX10_look_77 rfl (lv_at hl 1 rfl) ?_
                refine lv_bipush (v := 6) hx hb dX10_look_78 (by decide) ?_
                refine lv_icmp_ne (tgt := 87) hx hb dX10_look_80 (by decide) (fun c431 => ?_) (fun c431 => ?_)
                · have k432 := i_ne c431
                  exfalso
                  omega
                · have k432 := i_eq c431
                  refine lv_iconst (v := 1) hx hb dX10_look_83 (by decide) ?_
                  refine lv_goto (tgt := 88) hx hb dX10_look_84 (by decide) ?_
                  refine x_V (As := [.int 1]) (rest := []) C (a_X10_barsThat_l l K G H401 (1) (fo) (sl) (bs) (fsE) (fwE) hTH401 ga0 (by decide) ggq m408 m409 m410 m411 g403 (by omega) ((TXR.frr hT ga0 f407 hy0)) ((fun j h1 h2 => by rw [va416 j]; exact hy1 j h1 h2))) yo_X10_barsThat wM_X10_488 ⟨⟨by decide, by decide⟩, by decide, by decide⟩ (x_rv C hTH401 (ci := 10) rfl ga0 rg_112) rfl hl.1 rfl (Nat.le_of_ble_eq_true rfl) dX10_look_88 hSH401 (AE_sub (fun _ _ => rfl) (by decide) hSH401.1) (fun vH433 H433 locsH433 pH433 zH433 kH433 hSH433 => ?_)
                  obtain ⟨x434, hvH433, bx434, m435, hTH433⟩ := pH433
                  subst hvH433
                  have mf436 : MF K s.heap H433 a0 [0] := MF.eff (x_lt hTH401 kH433 ga0 (by decide)) mf402
                  have g437 : CG (avw K H433 a0) := CG.congr (fun k hk j => av_eff hTH401 kH433 ga0 (by decide) (CG_eff [140, 139] (by decide) k hk)) g403
                  have g438 : TU (avw K H433 a0) (svw K H433 a0) := TU.congr (fun k hk j => av_eff hTH401 kH433 ga0 (by decide) (TU_eff [140, 139] (by decide) k hk)) (fun k hk => sv_eff hTH401 kH433 ga0 (by decide)) g404
                  have g439 : WD (avw K H433 a0) := WD.congr (fun k hk j => av_eff hTH401 kH433 ga0 (by decide) (WD_eff [140, 139] (by decide) k hk)) g405
                  have g440 : IM (avw K H433 a0) := IM.congr (fun k hk j => av_eff hTH401 kH433 ga0 (by decide) (IM_eff [140, 139] (by decide) k hk)) g406
                  have f441 : TXG K a0 G H433 s.heap := ⟨fun k h0 h1 => (fR_kept (x_lt hTH401 kH433 ga0 (by decide))).trans (f407.1 k h0 h1), fun q t hq h1 => (x_lt hTH401 kH433 hq (by first | (intro z; simp only [List.mem_cons, List.not_mem_nil, or_false] at z <;> omega) | omega)).trans (f407.2 q t hq h1)⟩
                  have m442 := (m408).trans (fR_kept (x_lt hTH401 kH433 ga0 (by decide))).symm
                  have m443 := (m409).trans (fI_kept (x_lt hTH401 kH433 ga0 (by decide))).symm
                  have m444 := (m410).trans (fI_kept (x_lt hTH401 kH433 ga0 (by decide))).symm
                  have m445 := (m411).trans (fI_kept (x_lt hTH401 kH433 ga0 (by decide))).symm
                  have m446 := (m412).trans (fI_kept (x_lt hTH401 kH433 ga0 (by decide))).symm
                  have m447 := (m413).trans (fI_kept (x_lt hTH401 kH433 ga0 (by decide))).symm
                  have m448 := (m414).trans (fI_kept (x_lt hTH401 kH433 ga0 (by decide))).symm
                  have m449 := (fI_kept (x_lt hTH401 kH433 ga0 (by decide))).trans m415
                  have cn450 := m435
                  rw [show (fun j : Nat => lostW (tlR K H401 a0 fo.toNatClampNeg fsE fwE) (vwR K H401 a0 j) sl.toInt) = (fun j : Nat => lostW (tlR K s.heap a0 fo.toNatClampNeg fsE fwE) (vwR K s.heap a0 j) sl.toInt) from funext fun j => by rw [tlR_frr hT ga0 f407, va416 j]] at cn450
                  refine W.eq (g2 := F0 m 91 ls [.int x434]) rfl ?_
                  refine lv_goto (tgt := 95) hx hb dX10_look_91 (by decide) ?_
                  exact x_iret C hQ dX10_look_95 hSH433 (by decide) (by decide) (⟨x434, rfl, m442, m443, m444, m445, m446, m447, m448, g437, g438, g439, g440, mf436, (by have z_ := cn450; omega), hTH433⟩)
              · have k430 := i_ne c429
                refine lv_iload_n hx hb dX10_look_70 rfl (lv_at hl 1 rfl) ?_
                refine lv_bipush (v := 7) hx hb dX10_look_71 (by decide) ?_
                refine lv_icmp_ne (tgt := 94) hx hb dX10_look_73 (by decide) (fun c451 => ?_) (fun c451 => ?_)
                · have k452 := i_ne c451
                  refine lv_iconst (v := (-1)) hx hb dX10_look_94 (by decide) ?_
                  exact x_iret C hQ dX10_look_95 hSH401 (by decide) (by decide) (⟨(-1), rfl, m408, m409, m410, m411, m412, m413, m414, g403, g404, g405, g406, mf402, (by omega), hTH401⟩)
                · have k452 := i_eq c451
                  refine lv_aload_n hx hb dX10_look_76 rfl (lv_at hl 0 rfl) ?_
                  refine lv_iload_n hx hb dX10_look_77 rfl (lv_at hl 1 rfl) ?_
                  refine lv_bipush (v := 6) hx hb dX10_look_78 (by decide) ?_
                  refine lv_icmp_ne (tgt := 87) hx hb dX10_look_80 (by decide) (fun c453 => ?_) (fun c453 => ?_)
                  · have k454 := i_ne c453
                    refine lv_iconst (v := 0) hx hb dX10_look_87 (by decide) ?_
                    refine x_V (As := [.int 0]) (rest := []) C (a_X10_barsThat_t l K G H401 (0) (fo) (sl) (bs) (fsE) (fwE) hTH401 ga0 (by decide) ggq m408 m409 m410 m411 g403 (by omega) ((TXR.frr hT ga0 f407 hy0)) ((fun j h1 h2 => by rw [va416 j]; exact hy1 j h1 h2))) yo_X10_barsThat wM_X10_488 ⟨⟨by decide, by decide⟩, by decide, by decide⟩ (x_rv C hTH401 (ci := 10) rfl ga0 rg_112) rfl hl.1 rfl (Nat.le_of_ble_eq_true rfl) dX10_look_88 hSH401 (AE_sub (fun _ _ => rfl) (by decide) hSH401.1) (fun vH455 H455 locsH455 pH455 zH455 kH455 hSH455 => ?_)
                    obtain ⟨x456, hvH455, bx456, m457, hTH455⟩ := pH455
                    subst hvH455
                    have mf458 : MF K s.heap H455 a0 [0] := MF.eff (x_lt hTH401 kH455 ga0 (by decide)) mf402
                    have g459 : CG (avw K H455 a0) := CG.congr (fun k hk j => av_eff hTH401 kH455 ga0 (by decide) (CG_eff [140, 139] (by decide) k hk)) g403
                    have g460 : TU (avw K H455 a0) (svw K H455 a0) := TU.congr (fun k hk j => av_eff hTH401 kH455 ga0 (by decide) (TU_eff [140, 139] (by decide) k hk)) (fun k hk => sv_eff hTH401 kH455 ga0 (by decide)) g404
                    have g461 : WD (avw K H455 a0) := WD.congr (fun k hk j => av_eff hTH401 kH455 ga0 (by decide) (WD_eff [140, 139] (by decide) k hk)) g405
                    have g462 : IM (avw K H455 a0) := IM.congr (fun k hk j => av_eff hTH401 kH455 ga0 (by decide) (IM_eff [140, 139] (by decide) k hk)) g406
                    have f463 : TXG K a0 G H455 s.heap := ⟨fun k h0 h1 => (fR_kept (x_lt hTH401 kH455 ga0 (by decide))).trans (f407.1 k h0 h1), fun q t hq h1 => (x_lt hTH401 kH455 hq (by first | (intro z; simp only [List.mem_cons, List.not_mem_nil, or_false] at z <;> omega) | omega)).trans (f407.2 q t hq h1)⟩
                    have m464 := (m408).trans (fR_kept (x_lt hTH401 kH455 ga0 (by decide))).symm
                    have m465 := (m409).trans (fI_kept (x_lt hTH401 kH455 ga0 (by decide))).symm
                    have m466 := (m410).trans (fI_kept (x_lt hTH401 kH455 ga0 (by decide))).symm
                    have m467 := (m411).trans (fI_kept (x_lt hTH401 kH455 ga0 (by decide))).symm
                    have m468 := (m412).trans (fI_kept (x_lt hTH401 kH455 ga0 (by decide))).symm
                    have m469 := (m413).trans (fI_kept (x_lt hTH401 kH455 ga0 (by decide))).symm
                    have m470 := (m414).trans (fI_kept (x_lt hTH401 kH455 ga0 (by decide))).symm
                    have m471 := (fI_kept (x_lt hTH401 kH455 ga0 (by decide))).trans m415
                    have cn472 := m457
                    rw [show (fun j : Nat => trueW (tlR K H401 a0 fo.toNatClampNeg fsE fwE) (vwR K H401 a0 j) sl.toInt) = (fun j : Nat => trueW (tlR K s.heap a0 fo.toNatClampNeg fsE fwE) (vwR K s.heap a0 j) sl.toInt) from funext fun j => by rw [tlR_frr hT ga0 f407, va416 j]] at cn472
                    refine W.eq (g2 := F0 m 91 ls [.int x456]) rfl ?_
                    refine lv_goto (tgt := 95) hx hb dX10_look_91 (by decide) ?_
                    exact x_iret C hQ dX10_look_95 hSH455 (by decide) (by decide) (⟨x456, rfl, m464, m465, m466, m467, m468, m469, m470, g459, g460, g461, g462, mf458, (by have z_ := cn472; omega), hTH455⟩)
                  · have k454 := i_eq c453
                    exfalso
                    omega
            · have k428 := i_eq c427
              refine lv_aload_n hx hb dX10_look_59 rfl (lv_at hl 0 rfl) ?_
              refine x_gi C hTH401 (ci := 10) (k := 2) rfl inX10 (by decide) wF_X10_322 ga0 rg_112 rfl dX10_look_60 (fun x473 ex473 bx473 => ?_)
              have ux473 : fo = x473 := (m409).trans ex473.symm
              subst ux473
              exact x_iret C hQ dX10_look_63 hSH401 (by decide) (by decide) (⟨fo, rfl, m408, m409, m410, m411, m412, m413, m414, g403, g404, g405, g406, mf402, (by omega), hTH401⟩)
          · have k426 := i_eq c425
            refine lv_aload_n hx hb dX10_look_49 rfl (lv_at hl 0 rfl) ?_
            refine x_gi C hTH401 (ci := 10) (k := 3) rfl inX10 (by decide) wF_X10_7 ga0 rg_112 rfl dX10_look_50 (fun x474 ex474 bx474 => ?_)
            have ux474 : sl = x474 := (m410).trans ex474.symm
            subst ux474
            exact x_iret C hQ dX10_look_53 hSH401 (by decide) (by decide) (⟨sl, rfl, m408, m409, m410, m411, m412, m413, m414, g403, g404, g405, g406, mf402, (by omega), hTH401⟩)
        · have k424 := i_eq c423
          refine lv_aload_n hx hb dX10_look_39 rfl (lv_at hl 0 rfl) ?_
          refine x_gi C hTH401 (ci := 10) (k := 65) rfl inX10 (by decide) wF_X10_458 ga0 rg_112 rfl dX10_look_40 (fun x475 ex475 bx475 => ?_)
          have ux475 : s16 = x475 := (m414).trans ex475.symm
          subst ux475
          exact x_iret C hQ dX10_look_43 hSH401 (by decide) (by decide) (⟨s16, rfl, m408, m409, m410, m411, m412, m413, m414, g403, g404, g405, g406, mf402, (by omega), hTH401⟩)
      · have k422 := i_eq c421
        refine lv_aload_n hx hb dX10_look_29 rfl (lv_at hl 0 rfl) ?_
        refine x_gi C hTH401 (ci := 10) (k := 62) rfl inX10 (by decide) wF_X10_455 ga0 rg_112 rfl dX10_look_30 (fun x476 ex476 bx476 => ?_)
        have ux476 : s13 = x476 := (m413).trans ex476.symm
        subst ux476
        exact x_iret C hQ dX10_look_33 hSH401 (by decide) (by decide) (⟨s13, rfl, m408, m409, m410, m411, m412, m413, m414, g403, g404, g405, g406, mf402, (by omega), hTH401⟩)
    · have k420 := i_eq c419
      refine lv_aload_n hx hb dX10_look_19 rfl (lv_at hl 0 rfl) ?_
      refine x_gi C hTH401 (ci := 10) (k := 59) rfl inX10 (by decide) wF_X10_438 ga0 rg_112 rfl dX10_look_20 (fun x477 ex477 bx477 => ?_)
      have ux477 : s10 = x477 := (m412).trans ex477.symm
      subst ux477
      exact x_iret C hQ dX10_look_23 hSH401 (by decide) (by decide) (⟨s10, rfl, m408, m409, m410, m411, m412, m413, m414, g403, g404, g405, g406, mf402, (by omega), hTH401⟩)
  · have k418 := i_eq c417
    refine lv_aload_n hx hb dX10_look_9 rfl (lv_at hl 0 rfl) ?_
    refine x_gi C hTH401 (ci := 10) (k := 1) rfl inX10 (by decide) wF_X10_170 ga0 rg_112 rfl dX10_look_10 (fun x478 ex478 bx478 => ?_)
    have ux478 : bs = x478 := (m411).trans ex478.symm
    subst ux478
    exact x_iret C hQ dX10_look_13 hSH401 (by decide) (by decide) (⟨bs, rfl, m408, m409, m410, m411, m412, m413, m414, g403, g404, g405, g406, mf402, (by omega), hTH401⟩)
