theorem toV_tn {K : KE} {H : Heap} {tx q : Nat} {fsE fwE : Nat → EF} {k : Int} : toV (tlC K H tx fsE fwE) (vwC K H q) k = tnC K H tx q fsE fwE k := by
  unfold toV tnC
  rw [vwC_f (Or.inl rfl), vwC_a (k := 1) (by decide), vwC_a (k := 2) (by decide), vwC_a (k := 3) (by decide), vwC_a (k := 4) (by decide)]
/-- whether line l of the class's text jx holds for a bar -/
def coC (K : KE) (H : Heap) (jx : Nat) (fwJ : Nat → EF) (T : TF) (v : BW) (l : Nat) : Prop := (fI H (fR H jx (K.1.2 7 7)) l).toInt ≤ (fI H (fR H jx (K.1.2 7 6)) l).toInt ∨ fwJ l (sbE (toV T v 0) (toV T v 1) (toV T v 2) (v 8 0)) ≠ 0
set_option maxHeartbeats 4000000 in
set_option maxRecDepth 100000 in
theorem a_X9_comesTrue_v (l : Launch) (K : KE) (G : Nat → Option Nat) (H : Heap) {a0 : Nat} {a1 : Nat} (x2 : Int32) {a3 : Nat} {smq : Nat} {w0 : Nat} {lawq : Nat} {tx : Nat} {cq : Nat} {dq : Nat} {sq : Nat} {uq : Nat} (fo : Int32) (li : Int32) (pcn : Int32) (fsE : Nat → EF) (fwE : Nat → EF) (fsJ : Nat → EF) (fwJ : Nat → EF) (hT : TY K G H) (ga0 : G a0 = some 68) (ga1 : G a1 = some 16) (hx2 : 0 ≤ x2.toInt ∧ x2.toInt ≤ 15) (ga3 : G a3 = some 1) (gsmq : G smq = some 82) (esmq : smq = fR H a0 (K.1.2 9 5)) (gw0 : G w0 = some 0) (ew0 : w0 = fR H a0 (K.1.2 9 0)) (glawq : G lawq = some 26) (elawq : lawq = fR H w0 (K.1.2 8 2)) (gtx : G tx = some 16) (etx : tx = fR H lawq (fo : Int32).toNatClampNeg) (gcq : G cq = some 22) (ecq : cq = fR H a1 (K.1.2 7 6)) (gdq : G dq = some 23) (edq : dq = fR H a1 (K.1.2 7 7)) (gsq : G sq = some 24) (esq : sq = fR H a1 (K.1.2 7 8)) (guq : G uq = some 83) (euq : uq = fR H smq (K.1.2 6 0)) (efo : fo = fI H w0 (K.1.2 8 4)) (eli : li = fI H a1 (K.1.2 7 0)) (epcn : pcn = fI H a3 (K.1.2 0 8)) (hp0 : x2.toInt < li.toInt) (hy0 : TXC K H tx 1 fsE fwE) (hy1 : TXC K H a1 0 fsJ fwJ) : MX l K yX9_comesTrue cX9_comesTrue 7 (some .boolean) 5 126 0 0 [.ref a0, .ref a1, .int x2, .ref a3] H (AE G [83, 84] H.size) (fun v H1 => ∃ (r : Int32), v = some (.int r) ∧ (0 ≤ r.toInt ∧ r.toInt ≤ 1) ∧ ((r.toInt = 1 ∧ coC K H a1 fwJ (tlC K H tx fsE fwE) (vwC K H a3) x2.toNatClampNeg) ∨ (r.toInt = 0 ∧ ¬ coC K H a1 fwJ (tlC K H tx fsE fwE) (vwC K H a3) x2.toNatClampNeg)) ∧ TY K G H1) := by
  refine MX.of (by decide +kernel) (Nat.le_of_ble_eq_true rfl) ?_
  intro p e s m below meth c ls Q C hH hl hQ
  subst hH
  have C : CX p K s m _ meth c RX9 cX9_comesTrue 7 (some .boolean) "comesTrue" := C
  obtain ⟨hx, hb, hml, hown, hts, hKT, hr, hlocks, hnm⟩ := id C
  have hl : lv_has ls 7 [(0, .ref a0), (1, .ref a1), (2, .int x2), (3, .ref a3)] := hl
  have hS : va_S (AE G [83, 84] s.heap.size) s.heap s.heap [] := va_S.rf
  have n_0 : (0 : Int32).toInt = 0 := rfl
  have n_1 : (1 : Int32).toInt = 1 := rfl
  have n_2 : (2 : Int32).toInt = 2 := rfl
  have bfo := ty_fi (x := fo) (k := 4) efo hT gw0 rg_0 rfl
  have bli := ty_fi (x := li) (k := 0) eli hT ga1 rg_16 rfl
  have bpcn := ty_fi (x := pcn) (k := 8) epcn hT ga3 rg_1 rfl
  have f0_fr : FRM G s.heap s.heap := FRM.rf
  refine lv_aload_n hx hb dX9_comesTrue_0 rfl (lv_at hl 1 rfl) ?_
  refine lv_iload_n hx hb dX9_comesTrue_1 rfl (lv_at hl 2 rfl) ?_
  refine x_V (As := [.int x2]) (rest := []) C (a_X7_hasWhen_v l K G s.heap (x2) hT ga1 (by omega) gcq ecq gdq edq) yo_X7_hasWhen wM_X9_367 ⟨⟨by decide, by decide⟩, by decide, by decide⟩ (x_rv C hT (ci := 7) rfl ga1 rg_16) rfl hl.1 rfl (Nat.le_of_ble_eq_true rfl) dX9_comesTrue_2 hS (AE_sub (fun _ _ => rfl) (by decide) hS.1) (fun vH541 H541 locsH541 pH541 zH541 kH541 hSH541 => ?_)
  obtain ⟨x542, hvH541, bx542, m543, hTH541⟩ := pH541
  subst hvH541
  have f544 : FRM G H541 s.heap := (fun q t hq h1 h2 => (x_lt hT kH541 hq (by intro z; simp only [List.mem_cons, List.not_mem_nil, or_false] at z <;> omega)).trans (f0_fr q t hq h1 h2))
  have m545 := (esmq).trans (fR_kept (x_lt hT kH541 ga0 (by decide))).symm
  have m546 := (ew0).trans (fR_kept (x_lt hT kH541 ga0 (by decide))).symm
  have m547 := (elawq).trans (fR_kept (x_lt hT kH541 gw0 (by decide))).symm
  have m548 := (etx).trans (fR_kept (x_lt hT kH541 glawq (by decide))).symm
  have m549 := (ecq).trans (fR_kept (x_lt hT kH541 ga1 (by decide))).symm
  have m550 := (edq).trans (fR_kept (x_lt hT kH541 ga1 (by decide))).symm
  have m551 := (esq).trans (fR_kept (x_lt hT kH541 ga1 (by decide))).symm
  have m552 := (euq).trans (fR_kept (x_lt hT kH541 gsmq (by decide))).symm
  have m553 := (efo).trans (fI_kept (x_lt hT kH541 gw0 (by decide))).symm
  have m554 := (eli).trans (fI_kept (x_lt hT kH541 ga1 (by decide))).symm
  have m555 := (epcn).trans (fI_kept (x_lt hT kH541 ga3 (by decide))).symm
  have hw556 : (x542.toInt = 1 ∧ (fI s.heap cq x2.toNatClampNeg).toInt < (fI s.heap dq x2.toNatClampNeg).toInt) ∨ (x542.toInt = 0 ∧ (fI s.heap dq x2.toNatClampNeg).toInt ≤ (fI s.heap cq x2.toNatClampNeg).toInt) := by rw [← FRM.I f0_fr gcq (by decide) (by decide), ← FRM.I f0_fr gdq (by decide) (by decide)]; exact m543
  refine W.eq (g2 := F0 m 5 ls [.int x542]) rfl ?_
  refine lv_if_ne (tgt := 10) hx hb dX9_comesTrue_5 (by decide) (fun c557 => ?_) (fun c557 => ?_)
  · have k558 := i_ne c557
    refine lv_aload_n hx hb dX9_comesTrue_10 rfl (lv_at hl 0 rfl) ?_
    refine lv_aload_n hx hb dX9_comesTrue_11 rfl (lv_at hl 3 rfl) ?_
    refine lv_iconst (v := 0) hx hb dX9_comesTrue_12 (by decide) ?_
    refine x_V (As := [.ref a3, .int 0]) (rest := []) C (a_X9_toneNow_v l K G H541 (0) (fo) (fsE) (fwE) hTH541 ga0 ga3 (by decide) gsmq m545 gw0 m546 glawq m547 gtx m548 m553 ((TXC.frm hT gtx (FRM.tx f544) hy0))) yo_X9_toneNow wM_X9_166 ⟨⟨by decide, by decide⟩, by decide, by decide⟩ (x_rv C hTH541 (ci := 9) rfl ga0 rg_68) rfl hl.1 rfl (Nat.le_of_ble_eq_true rfl) dX9_comesTrue_13 hSH541 (AE_sub (fun _ _ => rfl) (by decide) hSH541.1) (fun vH559 H559 locsH559 pH559 zH559 kH559 hSH559 => ?_)
    obtain ⟨x560, hvH559, bx560, m561, hTH559⟩ := pH559
    subst hvH559
    have f562 : FRM G H559 s.heap := (fun q t hq h1 h2 => (x_lt hTH541 kH559 hq (by intro z; simp only [List.mem_cons, List.not_mem_nil, or_false] at z <;> omega)).trans (f544 q t hq h1 h2))
    have m563 := (m545).trans (fR_kept (x_lt hTH541 kH559 ga0 (by decide))).symm
    have m564 := (m546).trans (fR_kept (x_lt hTH541 kH559 ga0 (by decide))).symm
    have m565 := (m547).trans (fR_kept (x_lt hTH541 kH559 gw0 (by decide))).symm
    have m566 := (m548).trans (fR_kept (x_lt hTH541 kH559 glawq (by decide))).symm
    have m567 := (m549).trans (fR_kept (x_lt hTH541 kH559 ga1 (by decide))).symm
    have m568 := (m550).trans (fR_kept (x_lt hTH541 kH559 ga1 (by decide))).symm
    have m569 := (m551).trans (fR_kept (x_lt hTH541 kH559 ga1 (by decide))).symm
    have m570 := (m552).trans (fR_kept (x_lt hTH541 kH559 gsmq (by decide))).symm
    have m571 := (m553).trans (fI_kept (x_lt hTH541 kH559 gw0 (by decide))).symm
    have m572 := (m554).trans (fI_kept (x_lt hTH541 kH559 ga1 (by decide))).symm
    have m573 := (m555).trans (fI_kept (x_lt hTH541 kH559 ga3 (by decide))).symm
    have tn574 : x560.toInt = toV (tlC K s.heap tx fsE fwE) (vwC K s.heap a3) 0 := by rw [toV_tn, ← tnC_frm hT gtx ga3 f544]; exact m561
    refine W.eq (g2 := F0 m 16 ls [.int x560]) rfl ?_
    refine lv_istore (lv' := [(4, .int x560), (0, .ref a0), (1, .ref a1), (2, .int x2), (3, .ref a3)]) hx hb dX9_comesTrue_16 hl (by decide) rfl (fun ls575 hl576 => ?_)
    refine lv_aload_n hx hb dX9_comesTrue_18 rfl (lv_at hl576 1 rfl) ?_
    refine lv_aload_n hx hb dX9_comesTrue_19 rfl (lv_at hl576 4 rfl) ?_
    refine lv_iconst (v := 1) hx hb dX9_comesTrue_20 (by decide) ?_
    refine x_V (As := [.ref a3, .int 1]) (rest := []) C (a_X9_toneNow_v l K G H559 (1) (fo) (fsE) (fwE) hTH559 ga0 ga3 (by decide) gsmq m563 gw0 m564 glawq m565 gtx m566 m571 ((TXC.frm hT gtx (FRM.tx f562) hy0))) yo_X9_toneNow wM_X9_166 ⟨⟨by decide, by decide⟩, by decide, by decide⟩ (x_rv C hTH559 (ci := 9) rfl ga0 rg_68) rfl hl576.1 rfl (Nat.le_of_ble_eq_true rfl) dX9_comesTrue_21 hSH559 (AE_sub (fun _ _ => rfl) (by decide) hSH559.1) (fun vH577 H577 locsH577 pH577 zH577 kH577 hSH577 => ?_)
    obtain ⟨x578, hvH577, bx578, m579, hTH577⟩ := pH577
    subst hvH577
    have f580 : FRM G H577 s.heap := (fun q t hq h1 h2 => (x_lt hTH559 kH577 hq (by intro z; simp only [List.mem_cons, List.not_mem_nil, or_false] at z <;> omega)).trans (f562 q t hq h1 h2))
    have m581 := (m563).trans (fR_kept (x_lt hTH559 kH577 ga0 (by decide))).symm
    have m582 := (m564).trans (fR_kept (x_lt hTH559 kH577 ga0 (by decide))).symm
    have m583 := (m565).trans (fR_kept (x_lt hTH559 kH577 gw0 (by decide))).symm
    have m584 := (m566).trans (fR_kept (x_lt hTH559 kH577 glawq (by decide))).symm
    have m585 := (m567).trans (fR_kept (x_lt hTH559 kH577 ga1 (by decide))).symm
    have m586 := (m568).trans (fR_kept (x_lt hTH559 kH577 ga1 (by decide))).symm
    have m587 := (m569).trans (fR_kept (x_lt hTH559 kH577 ga1 (by decide))).symm
    have m588 := (m570).trans (fR_kept (x_lt hTH559 kH577 gsmq (by decide))).symm
    have m589 := (m571).trans (fI_kept (x_lt hTH559 kH577 gw0 (by decide))).symm
    have m590 := (m572).trans (fI_kept (x_lt hTH559 kH577 ga1 (by decide))).symm
    have m591 := (m573).trans (fI_kept (x_lt hTH559 kH577 ga3 (by decide))).symm
    have tn592 : x578.toInt = toV (tlC K s.heap tx fsE fwE) (vwC K s.heap a3) 1 := by rw [toV_tn, ← tnC_frm hT gtx ga3 f562]; exact m579
    refine W.eq (g2 := F0 m 24 ls575 [.int x578]) rfl ?_
    refine lv_istore (lv' := [(5, .int x578), (4, .int x560), (0, .ref a0), (1, .ref a1), (2, .int x2), (3, .ref a3)]) hx hb dX9_comesTrue_24 hl576 (by decide) rfl (fun ls593 hl594 => ?_)
    refine lv_aload_n hx hb dX9_comesTrue_26 rfl (lv_at hl594 2 rfl) ?_
    refine lv_aload_n hx hb dX9_comesTrue_27 rfl (lv_at hl594 5 rfl) ?_
    refine lv_iconst (v := 2) hx hb dX9_comesTrue_28 (by decide) ?_
    refine x_V (As := [.ref a3, .int 2]) (rest := []) C (a_X9_toneNow_v l K G H577 (2) (fo) (fsE) (fwE) hTH577 ga0 ga3 (by decide) gsmq m581 gw0 m582 glawq m583 gtx m584 m589 ((TXC.frm hT gtx (FRM.tx f580) hy0))) yo_X9_toneNow wM_X9_166 ⟨⟨by decide, by decide⟩, by decide, by decide⟩ (x_rv C hTH577 (ci := 9) rfl ga0 rg_68) rfl hl594.1 rfl (Nat.le_of_ble_eq_true rfl) dX9_comesTrue_29 hSH577 (AE_sub (fun _ _ => rfl) (by decide) hSH577.1) (fun vH595 H595 locsH595 pH595 zH595 kH595 hSH595 => ?_)
    obtain ⟨x596, hvH595, bx596, m597, hTH595⟩ := pH595
    subst hvH595
    have f598 : FRM G H595 s.heap := (fun q t hq h1 h2 => (x_lt hTH577 kH595 hq (by intro z; simp only [List.mem_cons, List.not_mem_nil, or_false] at z <;> omega)).trans (f580 q t hq h1 h2))
    have m599 := (m581).trans (fR_kept (x_lt hTH577 kH595 ga0 (by decide))).symm
    have m600 := (m582).trans (fR_kept (x_lt hTH577 kH595 ga0 (by decide))).symm
    have m601 := (m583).trans (fR_kept (x_lt hTH577 kH595 gw0 (by decide))).symm
    have m602 := (m584).trans (fR_kept (x_lt hTH577 kH595 glawq (by decide))).symm
    have m603 := (m585).trans (fR_kept (x_lt hTH577 kH595 ga1 (by decide))).symm
    have m604 := (m586).trans (fR_kept (x_lt hTH577 kH595 ga1 (by decide))).symm
    have m605 := (m587).trans (fR_kept (x_lt hTH577 kH595 ga1 (by decide))).symm
    have m606 := (m588).trans (fR_kept (x_lt hTH577 kH595 gsmq (by decide))).symm
    have m607 := (m589).trans (fI_kept (x_lt hTH577 kH595 gw0 (by decide))).symm
    have m608 := (m590).trans (fI_kept (x_lt hTH577 kH595 ga1 (by decide))).symm
    have m609 := (m591).trans (fI_kept (x_lt hTH577 kH595 ga3 (by decide))).symm
    have tn610 : x596.toInt = toV (tlC K s.heap tx fsE fwE) (vwC K s.heap a3) 2 := by rw [toV_tn, ← tnC_frm hT gtx ga3 f580]; exact m597
    refine W.eq (g2 := F0 m 32 ls593 [.int x596]) rfl ?_
    refine lv_istore (lv' := [(6, .int x596), (5, .int x578), (4, .int x560), (0, .ref a0), (1, .ref a1), (2, .int x2), (3, .ref a3)]) hx hb dX9_comesTrue_32 hl594 (by decide) rfl (fun ls611 hl612 => ?_)
    refine lv_aload_n hx hb dX9_comesTrue_34 rfl (lv_at hl612 3 rfl) ?_
    refine x_gr C hTH595 (ci := 9) (k := 5) rfl inX9 (by decide) wF_X9_30 ga0 rg_68 rfl dX9_comesTrue_35 (fun q613 eq613 gq613 => ?_)
    have uq613 : smq = q613 := (m599).trans eq613.symm
    subst uq613
    refine lv_iload hx hb dX9_comesTrue_38 (lv_at hl612 2 rfl) ?_
    refine lv_iload hx hb dX9_comesTrue_40 (lv_at hl612 1 rfl) ?_
    refine lv_iload hx hb dX9_comesTrue_42 (lv_at hl612 0 rfl) ?_
    refine lv_aload_n hx hb dX9_comesTrue_44 rfl (lv_at hl612 6 rfl) ?_
    refine x_gi C hTH595 (ci := 0) (k := 8) rfl inX0 (by decide) wF_X9_86 ga3 rg_1 rfl dX9_comesTrue_45 (fun x614 ex614 bx614 => ?_)
    have ux614 : pcn = x614 := (m609).trans ex614.symm
    subst ux614
    refine x_V (As := [.int x560, .int x578, .int x596, .int pcn]) (rest := []) C (a_X6_seeBar_v l K G H595 (x560) (x578) (x596) (pcn) hTH595 gsmq guq m606) yo_X6_seeBar wM_X9_370 ⟨⟨by decide, by decide⟩, by decide, by decide⟩ (x_rv C hTH595 (ci := 6) rfl gsmq rg_82) rfl hl612.1 rfl (Nat.le_of_ble_eq_true rfl) dX9_comesTrue_48 hSH595 (AE_sub (fun _ _ => rfl) (by decide) hSH595.1) (fun vH615 H615 locsH615 pH615 zH615 kH615 hSH615 => ?_)
    obtain ⟨hvH615, m616, hTH615⟩ := pH615
    subst hvH615
    have f617 : FRM G H615 s.heap := (fun q t hq h1 h2 => (x_lt hTH595 kH615 hq (by intro z; simp only [List.mem_cons, List.not_mem_nil, or_false] at z <;> omega)).trans (f598 q t hq h1 h2))
    have m618 := (m599).trans (fR_kept (x_lt hTH595 kH615 ga0 (by decide))).symm
    have m619 := (m600).trans (fR_kept (x_lt hTH595 kH615 ga0 (by decide))).symm
    have m620 := (m601).trans (fR_kept (x_lt hTH595 kH615 gw0 (by decide))).symm
    have m621 := (m602).trans (fR_kept (x_lt hTH595 kH615 glawq (by decide))).symm
    have m622 := (m603).trans (fR_kept (x_lt hTH595 kH615 ga1 (by decide))).symm
    have m623 := (m604).trans (fR_kept (x_lt hTH595 kH615 ga1 (by decide))).symm
    have m624 := (m605).trans (fR_kept (x_lt hTH595 kH615 ga1 (by decide))).symm
    have m625 := (m606).trans (fR_kept (x_lt hTH595 kH615 gsmq (by decide))).symm
    have m626 := (m607).trans (fI_kept (x_lt hTH595 kH615 gw0 (by decide))).symm
    have m627 := (m608).trans (fI_kept (x_lt hTH595 kH615 ga1 (by decide))).symm
    have m628 := (m609).trans (fI_kept (x_lt hTH595 kH615 ga3 (by decide))).symm
    have sb629 : mkE 0 (eC (fun j => fI H615 uq j)) = sbE (toV (tlC K s.heap tx fsE fwE) (vwC K s.heap a3) 0) (toV (tlC K s.heap tx fsE fwE) (vwC K s.heap a3) 1) (toV (tlC K s.heap tx fsE fwE) (vwC K s.heap a3) 2) (vwC K s.heap a3 8 0) := by
      rw [← tn574, ← tn592, ← tn610, vwC_f (Or.inr (Or.inl rfl)), ← epcn]
      exact sb_cls m616
    refine W.eq (g2 := F0 m 51 ls611 []) rfl ?_
    refine lv_aload_n hx hb dX9_comesTrue_51 rfl (lv_at hl612 3 rfl) ?_
    refine x_gr C hTH615 (ci := 9) (k := 5) rfl inX9 (by decide) wF_X9_30 ga0 rg_68 rfl dX9_comesTrue_52 (fun q630 eq630 gq630 => ?_)
    have uq630 : smq = q630 := (m618).trans eq630.symm
    subst uq630
    refine lv_aload_n hx hb dX9_comesTrue_55 rfl (lv_at hl612 4 rfl) ?_
    refine lv_aload_n hx hb dX9_comesTrue_56 rfl (lv_at hl612 4 rfl) ?_
    refine x_gr C hTH615 (ci := 7) (k := 6) rfl inX7 (by decide) wF_X9_374 ga1 rg_16 rfl dX9_comesTrue_57 (fun q631 eq631 gq631 => ?_)
    have uq631 : cq = q631 := (m622).trans eq631.symm
    subst uq631
    refine lv_iload_n hx hb dX9_comesTrue_60 rfl (lv_at hl612 5 rfl) ?_
    refine x_ai C hTH615 gcq rg_22 ⟨by omega, by show _ < ((16 : Nat) : Int); omega⟩ dX9_comesTrue_61 (fun x632 ex632 bx632 => ?_)
    refine lv_aload_n hx hb dX9_comesTrue_62 rfl (lv_at hl612 4 rfl) ?_
    refine x_gr C hTH615 (ci := 7) (k := 7) rfl inX7 (by decide) wF_X9_377 ga1 rg_16 rfl dX9_comesTrue_63 (fun q633 eq633 gq633 => ?_)
    have uq633 : dq = q633 := (m623).trans eq633.symm
    subst uq633
    refine lv_iload_n hx hb dX9_comesTrue_66 rfl (lv_at hl612 5 rfl) ?_
    refine x_ai C hTH615 gdq rg_23 ⟨by omega, by show _ < ((16 : Nat) : Int); omega⟩ dX9_comesTrue_67 (fun x634 ex634 bx634 => ?_)
    obtain ⟨q635, eq635⟩ : ∃ z : Nat, z = fR H615 smq (K.1.2 6 1) := ⟨_, rfl⟩
    have gq635 := ty_fr (q := q635) (k := 1) (u := 84) eq635 hTH615 gsmq rg_82 rfl
    have cn_x2 := i_cl (x := x2) (by omega)
    refine x_V (As := [.ref a1, .int x632, .int x634]) (rest := []) C (a_X6_value_v l K G H615 (x632) (x634) hTH615 gsmq ga1 (by omega) (by omega) guq m625 gq635 eq635 gsq m624 ((fun j h1 h2 => by have z := (TXC.frm hT ga1 (FRM.tx f617) hy1).1 x2.toNatClampNeg (by rw [FRM.I f617 ga1 (by decide) (by decide), ← eli]; omega) j (Or.inr ⟨by rw [← m622, ← ex632]; exact h1, by rw [← m623, ← ex634]; exact h2⟩); rw [← m624] at z; exact z))) yo_X6_value wM_X9_380 ⟨⟨by decide, by decide⟩, by decide, by decide⟩ (x_rv C hTH615 (ci := 6) rfl gsmq rg_82) rfl hl612.1 rfl (Nat.le_of_ble_eq_true rfl) dX9_comesTrue_68 hSH615 (AE_sub (fun _ _ => rfl) (by decide) hSH615.1) (fun vH636 H636 locsH636 pH636 zH636 kH636 hSH636 => ?_)
    obtain ⟨x637, hvH636, m638, hTH636⟩ := pH636
    subst hvH636
    have f639 : FRM G H636 s.heap := (fun q t hq h1 h2 => (x_lt hTH615 kH636 hq (by intro z; simp only [List.mem_cons, List.not_mem_nil, or_false] at z <;> omega)).trans (f617 q t hq h1 h2))
    have m640 := (m618).trans (fR_kept (x_lt hTH615 kH636 ga0 (by decide))).symm
    have m641 := (m619).trans (fR_kept (x_lt hTH615 kH636 ga0 (by decide))).symm
    have m642 := (m620).trans (fR_kept (x_lt hTH615 kH636 gw0 (by decide))).symm
    have m643 := (m621).trans (fR_kept (x_lt hTH615 kH636 glawq (by decide))).symm
    have m644 := (m622).trans (fR_kept (x_lt hTH615 kH636 ga1 (by decide))).symm
    have m645 := (m623).trans (fR_kept (x_lt hTH615 kH636 ga1 (by decide))).symm
    have m646 := (m624).trans (fR_kept (x_lt hTH615 kH636 ga1 (by decide))).symm
    have m647 := (m625).trans (fR_kept (x_lt hTH615 kH636 gsmq (by decide))).symm
    have m648 := (m626).trans (fI_kept (x_lt hTH615 kH636 gw0 (by decide))).symm
    have m649 := (m627).trans (fI_kept (x_lt hTH615 kH636 ga1 (by decide))).symm
    have m650 := (m628).trans (fI_kept (x_lt hTH615 kH636 ga3 (by decide))).symm
    have m651 := (ex632).trans (fI_kept (x_lt hTH615 kH636 gcq (by decide))).symm
    have m652 := (ex634).trans (fI_kept (x_lt hTH615 kH636 gdq (by decide))).symm
    have m653 := (eq635).trans (fR_kept (x_lt hTH615 kH636 gsmq (by decide))).symm
    have cn_x2 := i_cl (x := x2) (by omega)
    have cn_li := i_cl (x := li) (by omega)
    have cv654 : x637 = fwJ x2.toNatClampNeg (sbE (toV (tlC K s.heap tx fsE fwE) (vwC K s.heap a3) 0) (toV (tlC K s.heap tx fsE fwE) (vwC K s.heap a3) 1) (toV (tlC K s.heap tx fsE fwE) (vwC K s.heap a3) 2) (vwC K s.heap a3 8 0)) := by
      have z := (TXC.frm hT ga1 (FRM.tx f617) hy1).2.2 x2.toNatClampNeg (by rw [FRM.I f617 ga1 (by decide) (by decide), ← eli]; omega) (by rw [← m622, ← m623, FRM.I f617 gcq (by decide) (by decide), FRM.I f617 gdq (by decide) (by decide)]; omega) (fun j => fI H615 uq j)
      rw [← m624, ← m622, ← m623, sb629] at z
      rw [m638, show x632 = fI H615 cq x2.toNatClampNeg from ex632, show x634 = fI H615 dq x2.toNatClampNeg from ex634]
      exact z _
    refine W.eq (g2 := F0 m 71 ls611 [.int x637]) rfl ?_
    refine lv_if_eq (tgt := 78) hx hb dX9_comesTrue_71 (by decide) (fun c655 => ?_) (fun c655 => ?_)
    · have k656 := i_eq c655
      refine lv_iconst (v := 0) hx hb dX9_comesTrue_78 (by decide) ?_
      exact x_zret C hQ (Or.inl rfl) dX9_comesTrue_79 hSH636 (by decide) (by decide) (⟨0, rfl, by decide, (Or.inr ⟨rfl, fun z => z.elim (fun y => by rw [← ecq, ← edq] at y; omega) (fun y => y (by rw [← cv654]; exact Int32.toInt_inj.mp (by omega)))⟩), hTH636⟩)
    · have k656 := i_ne c655
      refine lv_iconst (v := 1) hx hb dX9_comesTrue_74 (by decide) ?_
      refine lv_goto (tgt := 79) hx hb dX9_comesTrue_75 (by decide) ?_
      exact x_zret C hQ (Or.inr rfl) dX9_comesTrue_79 hSH636 (by decide) (by decide) (⟨1, rfl, by decide, (Or.inl ⟨rfl, Or.inr (by rw [← cv654]; intro z; have z := i_eq z; omega)⟩), hTH636⟩)
  · have k558 := i_eq c557
    refine lv_iconst (v := 1) hx hb dX9_comesTrue_8 (by decide) ?_
    exact x_zret C hQ (Or.inr rfl) dX9_comesTrue_9 hSH541 (by decide) (by decide) (⟨1, rfl, by decide, (Or.inl ⟨rfl, (Or.inl (by rw [← ecq, ← edq]; omega))⟩), hTH541⟩)
