set_option maxHeartbeats 4000000 in
set_option maxRecDepth 100000 in
theorem a_X9_within_v (l : Launch) (K : KE) (G : Nat → Option Nat) (H : Heap) (x0 : Int32) (x1 : Int32) (x2 : Int32)  (hT : TY K G H)  : MX l K yX9_within cX9_within 3 (some .boolean) 0 0 0 0 [.int x0, .int x1, .int x2] H (AE G [] H.size) (fun v H1 => H1 = H ∧ ((v = some (.int 1) ∧ (x1.toInt ≤ x0.toInt ∧ x0.toInt ≤ x2.toInt)) ∨ (v = some (.int 0) ∧ ¬ (x1.toInt ≤ x0.toInt ∧ x0.toInt ≤ x2.toInt)))) := by
  refine MX.of (by decide +kernel) (Nat.le_of_ble_eq_true rfl) ?_
  intro p e s m below meth c ls Q C hH hl hQ
  subst hH
  have C : CX p K s m _ meth c RX9 cX9_within 3 (some .boolean) "within" := C
  obtain ⟨hx, hb, hml, hown, hts, hKT, hr, hlocks, hnm⟩ := id C
  have hl : lv_has ls 3 [(0, .int x0), (1, .int x1), (2, .int x2)] := hl
  have hS : va_S (AE G [] s.heap.size) s.heap s.heap [] := va_S.rf
  have n_0 : (0 : Int32).toInt = 0 := rfl
  have n_1 : (1 : Int32).toInt = 1 := rfl
  refine lv_iload_n hx hb dX9_within_0 rfl (lv_at hl 0 rfl) ?_
  refine lv_iload_n hx hb dX9_within_1 rfl (lv_at hl 1 rfl) ?_
  refine lv_icmp_lt (tgt := 14) hx hb dX9_within_2 (by decide) (fun c101 => ?_) (fun c101 => ?_)
  · have k102 := i_lt c101
    refine lv_iconst (v := 0) hx hb dX9_within_14 (by decide) ?_
    exact x_zret C hQ (Or.inl rfl) dX9_within_15 hS (by decide) (by decide) (⟨rfl, Or.inr ⟨rfl, by omega⟩⟩)
  · have k102 := i_nlt c101
    refine lv_iload_n hx hb dX9_within_5 rfl (lv_at hl 0 rfl) ?_
    refine lv_iload_n hx hb dX9_within_6 rfl (lv_at hl 2 rfl) ?_
    refine lv_icmp_gt (tgt := 14) hx hb dX9_within_7 (by decide) (fun c103 => ?_) (fun c103 => ?_)
    · have k104 := i_lt c103
      refine lv_iconst (v := 0) hx hb dX9_within_14 (by decide) ?_
      exact x_zret C hQ (Or.inl rfl) dX9_within_15 hS (by decide) (by decide) (⟨rfl, Or.inr ⟨rfl, by omega⟩⟩)
    · have k104 := i_nlt c103
      refine lv_iconst (v := 1) hx hb dX9_within_10 (by decide) ?_
      refine lv_goto (tgt := 15) hx hb dX9_within_11 (by decide) ?_
      exact x_zret C hQ (Or.inr rfl) dX9_within_15 hS (by decide) (by decide) (⟨rfl, Or.inl ⟨rfl, by omega⟩⟩)

set_option maxHeartbeats 4000000 in
set_option maxRecDepth 100000 in
theorem a_X9_barAt_v (l : Launch) (K : KE) (G : Nat → Option Nat) (H : Heap) {a0 w0 bq bb : Nat} (x1 s1 : Int32) (hT : TY K G H) (ga0 : G a0 = some 68) (gw0 : G w0 = some 0) (ew0 : w0 = fR H a0 (K.1.2 9 0)) (gbq : G bq = some 25) (ebq : bq = fR H w0 (K.1.2 8 0)) (es1 : s1 = fI H w0 (K.1.2 8 1)) (gbb : G bb = some 1) (ebb : bb = fR H bq x1.toNatClampNeg) (hr : 0 ≤ x1.toInt ∧ x1.toInt < s1.toInt) : MX l K yX9_barAt cX9_barAt 2 (some (.object "RingBars$Bar")) 1 22 0 0 [.ref a0, .int x1] H (AE G [] H.size) (fun v H1 => H1 = H ∧ v = some (.ref bb)) := by
  refine MX.of (by decide +kernel) (Nat.le_of_ble_eq_true rfl) ?_
  intro p e s m below meth c ls Q C hH hl hQ
  subst hH
  have C : CX p K s m _ meth c RX9 cX9_barAt 2 (some (.object "RingBars$Bar")) "barAt" := C
  obtain ⟨hx, hb, hml, hown, hts, hKT, hr, hlocks, hnm⟩ := id C
  have hl : lv_has ls 2 [(0, .ref a0), (1, .int x1)] := hl
  have hS : va_S (AE G [] s.heap.size) s.heap s.heap [] := va_S.rf
  have n_0 : (0 : Int32).toInt = 0 := rfl
  have n_1 : (1 : Int32).toInt = 1 := rfl
  have bs1 := ty_fi (x := s1) (k := 1) es1 hT gw0 rg_0 rfl
  refine lv_iload_n hx hb dX9_barAt_0 rfl (lv_at hl 1 rfl) ?_
  refine lv_iconst (v := 0) hx hb dX9_barAt_1 (by decide) ?_
  refine lv_aload_n hx hb dX9_barAt_2 rfl (lv_at hl 0 rfl) ?_
  refine x_gr C hT (ci := 9) (k := 0) rfl inX9 (by decide) wF_X9_12 ga0 rg_68 rfl dX9_barAt_3 (fun q101 eq101 gq101 => ?_)
  have uq101 : w0 = q101 := (ew0).trans eq101.symm
  subst uq101
  refine x_gi C hT (ci := 8) (k := 1) rfl inX8 (by decide) wF_X9_64 gw0 rg_0 rfl dX9_barAt_6 (fun x102 ex102 bx102 => ?_)
  have ux102 : s1 = x102 := (es1).trans ex102.symm
  subst ux102
  refine lv_iconst (v := 1) hx hb dX9_barAt_9 (by decide) ?_
  refine lv_isub hx hb dX9_barAt_10 ?_
  refine lv_topi (fun x103 ex103 => ?_)
  have tx103 := i_sub ex103 (by omega)
  refine x_S (As := [.int x1, .int 0, .int x103]) (rest := []) C (a_X9_within_v l K G s.heap (x1) (0) (x103) hT) yo_X9_within wM_X9_89 ⟨⟨by decide, by decide⟩, by decide, by decide⟩ rfl hl.1 rfl (Nat.le_of_ble_eq_true rfl) dX9_barAt_11 hS (AE_sub (fun _ _ => rfl) (by decide) hS.1) (fun vH104 H104 locsH104 pH104 zH104 kH104 hSH104 => ?_)
  have hqH104 := pH104.1.symm
  subst hqH104
  rcases pH104.2 with ⟨hvH104, hcH104⟩ | ⟨hvH104, hcH104⟩
  · subst hvH104
    refine W.eq (g2 := F0 m 14 ls [.int 1]) rfl ?_
    refine lv_if_eq (tgt := 29) hx hb dX9_barAt_14 (by decide) (fun c105 => ?_) (fun c105 => ?_)
    · have k106 := i_eq c105
      exfalso
      omega
    · have k106 := i_ne c105
      refine lv_aload_n hx hb dX9_barAt_17 rfl (lv_at hl 0 rfl) ?_
      refine x_gr C hT (ci := 9) (k := 0) rfl inX9 (by decide) wF_X9_12 ga0 rg_68 rfl dX9_barAt_18 (fun q107 eq107 gq107 => ?_)
      have uq107 : w0 = q107 := (ew0).trans eq107.symm
      subst uq107
      refine x_gr C hT (ci := 8) (k := 0) rfl inX8 (by decide) wF_X9_68 gw0 rg_0 rfl dX9_barAt_21 (fun q108 eq108 gq108 => ?_)
      have uq108 : bq = q108 := (ebq).trans eq108.symm
      subst uq108
      refine lv_iload_n hx hb dX9_barAt_24 rfl (lv_at hl 1 rfl) ?_
      refine x_ar C hT rfl rfl gbq rg_25 ⟨by omega, by show _ < ((10 : Nat) : Int); omega⟩ dX9_barAt_25 (fun q109 eq109 gq109 => ?_)
      refine lv_goto (tgt := 30) hx hb dX9_barAt_26 (by decide) ?_
      exact x_aret C hQ (Or.inr ⟨_, rfl⟩) dX9_barAt_30 hSH104 (by decide) (by decide) (⟨rfl, by rw [← show bb = q109 from ebb.trans eq109.symm]⟩)
  · subst hvH104
    refine W.eq (g2 := F0 m 14 ls [.int 0]) rfl ?_
    refine lv_if_eq (tgt := 29) hx hb dX9_barAt_14 (by decide) (fun c110 => ?_) (fun c110 => ?_)
    · have k111 := i_eq c110
      refine lv_null hx hb dX9_barAt_29 ?_
      exact x_aret C hQ (Or.inl rfl) dX9_barAt_30 hSH104 (by decide) (by decide) ((by exfalso; omega))
    · have k111 := i_ne c110
      exfalso
      omega

set_option maxHeartbeats 4000000 in
set_option maxRecDepth 100000 in
theorem a_X9_job_v (l : Launch) (K : KE) (G : Nat → Option Nat) (H : Heap) {a0 : Nat} (x1 : Int32) (x2 : Int32) {smq : Nat} {w0 : Nat} {lawq : Nat} {tx : Nat} {bq : Nat} {jbq : Nat} {jx : Nat} {bb : Nat} {kq : Nat} {xq : Nat} {gq : Nat} {psq : Nat} {pdq : Nat} {jwq : Nat} {jfq : Nat} {jjq : Nat} {jeq : Nat} {cq : Nat} {dq : Nat} {sq : Nat} {uq : Nat} (pcn : Int32) (lb : Int32) (fo : Int32) (sl : Int32) (s1 : Int32) (sz : Int32) (li : Int32) (fsE : Nat → EF) (fwE : Nat → EF) (fsJ : Nat → EF) (fwJ : Nat → EF) (hT : TY K G H) (ga0 : G a0 = some 68) (hx1 : 0 ≤ x1.toInt ∧ x1.toInt ≤ 3) (hx2 : 0 ≤ x2.toInt ∧ x2.toInt ≤ 9) (gsmq : G smq = some 82) (esmq : smq = fR H a0 (K.1.2 9 5)) (gw0 : G w0 = some 0) (ew0 : w0 = fR H a0 (K.1.2 9 0)) (glawq : G lawq = some 26) (elawq : lawq = fR H w0 (K.1.2 8 2)) (gtx : G tx = some 16) (etx : tx = fR H lawq (fo : Int32).toNatClampNeg) (gbq : G bq = some 25) (ebq : bq = fR H w0 (K.1.2 8 0)) (gjbq : G jbq = some 27) (ejbq : jbq = fR H w0 (K.1.2 8 3)) (gjx : G jx = some 16) (ejx : jx = fR H jbq (x1 : Int32).toNatClampNeg) (gbb : G bb = some 1) (ebb : bb = fR H bq (x2 : Int32).toNatClampNeg) (gkq : G kq = some 2) (ekq : kq = fR H bb (K.1.2 0 1)) (gxq : G xq = some 5) (exq : xq = fR H bb (K.1.2 0 4)) (ggq : G gq = some 6) (egq : gq = fR H bb (K.1.2 0 5)) (gpsq : G psq = some 7) (epsq : psq = fR H bb (K.1.2 0 6)) (gpdq : G pdq = some 8) (epdq : pdq = fR H bb (K.1.2 0 7)) (gjwq : G jwq = some 17) (ejwq : jwq = fR H jx (K.1.2 7 1)) (gjfq : G jfq = some 18) (ejfq : jfq = fR H jx (K.1.2 7 2)) (gjjq : G jjq = some 19) (ejjq : jjq = fR H jx (K.1.2 7 3)) (gjeq : G jeq = some 20) (ejeq : jeq = fR H jx (K.1.2 7 4)) (gcq : G cq = some 22) (ecq : cq = fR H jx (K.1.2 7 6)) (gdq : G dq = some 23) (edq : dq = fR H jx (K.1.2 7 7)) (gsq : G sq = some 24) (esq : sq = fR H jx (K.1.2 7 8)) (guq : G uq = some 83) (euq : uq = fR H smq (K.1.2 6 0)) (epcn : pcn = fI H bb (K.1.2 0 8)) (elb : lb = fI H bb (K.1.2 0 9)) (efo : fo = fI H w0 (K.1.2 8 4)) (esl : sl = fI H w0 (K.1.2 8 5)) (es1 : s1 = fI H w0 (K.1.2 8 1)) (esz : sz = fI H bb (K.1.2 0 0)) (eli : li = fI H jx (K.1.2 7 0)) (hp0 : 0 ≤ sl.toInt ∧ sl.toInt ≤ 9999) (hp1 : 3 ≤ sz.toInt) (hp2 : x2.toInt < s1.toInt) (hy0 : TXC K H tx 1 fsE fwE) (hy1 : ∀ j : Nat, j < 3 → 0 ≤ (fI H gq j).toInt ∧ (fI H gq j).toInt ≤ 999999) (hy2 : TXC K H jx 0 fsJ fwJ) (hy3 : ∀ j : Nat, (j : Int) < li.toInt → 0 ≤ (fI H jfq j).toInt ∧ (fI H jfq j).toInt ≤ 15 ∧ ((fI H jwq j).toInt = 4 ∨ (fI H jwq j).toInt = 6 ∨ (0 ≤ (fI H jjq j).toInt ∧ (fI H jjq j).toInt ≤ 15)) ∧ 0 ≤ (fI H jeq j).toInt ∧ (fI H jeq j).toInt ≤ 99) : MX l K yX9_job cX9_job 7 (some .int) 7 177 0 0 [.ref a0, .int x1, .int x2] H (AE G [1, 2, 7, 8, 83, 84, 5] H.size) (fun v H1 => ∃ (r : Int32) (t0 : Int32) (t1 : Int32), v = some (.int r) ∧ t0 = fI H1 bb (K.1.2 0 8) ∧ t1 = fI H1 bb (K.1.2 0 9) ∧ kq = fR H1 bb (K.1.2 0 1) ∧ xq = fR H1 bb (K.1.2 0 4) ∧ gq = fR H1 bb (K.1.2 0 5) ∧ psq = fR H1 bb (K.1.2 0 6) ∧ pdq = fR H1 bb (K.1.2 0 7) ∧ sz = fI H1 bb (K.1.2 0 0) ∧ (vwC K H1 bb = joV (tlC K H tx fsE fwE) sl.toInt (fun j => (fI H jwq j).toInt) (fun j => (fI H jfq j).toInt) (fun j => (fI H jjq j).toInt) (fun j => (fI H jeq j).toInt) (fun j => decide ((fI H cq j).toInt < (fI H dq j).toInt)) fwJ (li.toNatClampNeg) (0) (vwC K H bb)) ∧ (r.toInt = vwC K H1 bb 8 0 - vwC K H bb 8 0) ∧ (∀ q t : Nat, G q = some t → t ≠ 83 → t ≠ 84 → q ≠ bb → q ≠ kq → q ≠ xq → q ≠ psq → q ≠ pdq → H1[q]? = H[q]?) ∧ (RFB K H1 H bb) ∧ TY K G H1) := by
  refine MX.of (by decide +kernel) (Nat.le_of_ble_eq_true rfl) ?_
  intro p e s m below meth c ls Q C hH hl hQ
  subst hH
  have C : CX p K s m _ meth c RX9 cX9_job 7 (some .int) "job" := C
  obtain ⟨hx, hb, hml, hown, hts, hKT, hr, hlocks, hnm⟩ := id C
  have hl : lv_has ls 7 [(0, .ref a0), (1, .int x1), (2, .int x2)] := hl
  have hS : va_S (AE G [1, 2, 7, 8, 83, 84, 5] s.heap.size) s.heap s.heap [] := va_S.rf
  have n_0 : (0 : Int32).toInt = 0 := rfl
  have n_1 : (1 : Int32).toInt = 1 := rfl
  have n_3 : (3 : Int32).toInt = 3 := rfl
  have bpcn := ty_fi (x := pcn) (k := 8) epcn hT gbb rg_1 rfl
  have blb := ty_fi (x := lb) (k := 9) elb hT gbb rg_1 rfl
  have bfo := ty_fi (x := fo) (k := 4) efo hT gw0 rg_0 rfl
  have bsl := ty_fi (x := sl) (k := 5) esl hT gw0 rg_0 rfl
  have bs1 := ty_fi (x := s1) (k := 1) es1 hT gw0 rg_0 rfl
  have bsz := ty_fi (x := sz) (k := 0) esz hT gbb rg_1 rfl
  have bli := ty_fi (x := li) (k := 0) eli hT gjx rg_16 rfl
  have hapB : ∀ x y, x < 18 → y < 18 → x ≠ y → K.1.2 0 x ≠ K.1.2 0 y := x_apart hKT hts inX0 tyX0 tyX0_ok nmX0 rfl
  have vw_0 : vwC K s.heap bb = vwC K s.heap bb := rfl
  have f0_fx : ∀ q t : Nat, G q = some t → t ≠ 83 → t ≠ 84 → q ≠ bb → q ≠ kq → q ≠ xq → q ≠ psq → q ≠ pdq → s.heap[q]? = s.heap[q]? := fun _ _ _ _ _ _ _ _ _ _ => rfl
  have f0_tf : TXF G s.heap s.heap := TXF.rf
  have f0_rb : RFB K s.heap s.heap bb := RFB.rf
  have f0_s_gq : ∀ j : Nat, fI s.heap gq j = fI s.heap gq j := fun _ => rfl
  have f0_s_jwq : ∀ j : Nat, fI s.heap jwq j = fI s.heap jwq j := fun _ => rfl
  have f0_s_jfq : ∀ j : Nat, fI s.heap jfq j = fI s.heap jfq j := fun _ => rfl
  have f0_s_jjq : ∀ j : Nat, fI s.heap jjq j = fI s.heap jjq j := fun _ => rfl
  have f0_s_jeq : ∀ j : Nat, fI s.heap jeq j = fI s.heap jeq j := fun _ => rfl
  have f0_s_cq : ∀ j : Nat, fI s.heap cq j = fI s.heap cq j := fun _ => rfl
  have f0_s_dq : ∀ j : Nat, fI s.heap dq j = fI s.heap dq j := fun _ => rfl
  have J41 : ∀ (nf : Nat) (vb : BW) (ls1734 : Array Slot) (H1733 : Heap) (locsH1733 : List Loc) (x1736 : Int32) (x1737 : Int32) (x1738 : Int32) (x1739 : Int32), lv_has ls1734 7 [(0, .ref a0), (3, .ref bb), (4, .int x1736), (5, .ref jx), (6, .int x1737)] → TY K G H1733 → va_S (AE G [1, 2, 7, 8, 83, 84, 5] s.heap.size) s.heap H1733 locsH1733 → (0 ≤ x1736.toInt ∧ x1736.toInt ≤ 200) → (0 ≤ x1737.toInt ∧ x1737.toInt ≤ 16) → (0 ≤ x1738.toInt ∧ x1738.toInt ≤ 200) → (x1738 = fI H1733 bb (K.1.2 0 8)) → (x1739 = fI H1733 bb (K.1.2 0 9)) → (smq = fR H1733 a0 (K.1.2 9 5)) → (w0 = fR H1733 a0 (K.1.2 9 0)) → (lawq = fR H1733 w0 (K.1.2 8 2)) → (tx = fR H1733 lawq (fo : Int32).toNatClampNeg) → (bq = fR H1733 w0 (K.1.2 8 0)) → (jbq = fR H1733 w0 (K.1.2 8 3)) → (jx = fR H1733 jbq (x1 : Int32).toNatClampNeg) → (bb = fR H1733 bq (x2 : Int32).toNatClampNeg) → (kq = fR H1733 bb (K.1.2 0 1)) → (xq = fR H1733 bb (K.1.2 0 4)) → (gq = fR H1733 bb (K.1.2 0 5)) → (psq = fR H1733 bb (K.1.2 0 6)) → (pdq = fR H1733 bb (K.1.2 0 7)) → (jwq = fR H1733 jx (K.1.2 7 1)) → (jfq = fR H1733 jx (K.1.2 7 2)) → (jjq = fR H1733 jx (K.1.2 7 3)) → (jeq = fR H1733 jx (K.1.2 7 4)) → (cq = fR H1733 jx (K.1.2 7 6)) → (dq = fR H1733 jx (K.1.2 7 7)) → (sq = fR H1733 jx (K.1.2 7 8)) → (uq = fR H1733 smq (K.1.2 6 0)) → (fo = fI H1733 w0 (K.1.2 8 4)) → (sl = fI H1733 w0 (K.1.2 8 5)) → (s1 = fI H1733 w0 (K.1.2 8 1)) → (sz = fI H1733 bb (K.1.2 0 0)) → (li = fI H1733 jx (K.1.2 7 0)) → (∀ q t : Nat, G q = some t → t ≠ 83 → t ≠ 84 → q ≠ bb → q ≠ kq → q ≠ xq → q ≠ psq → q ≠ pdq → H1733[q]? = s.heap[q]?) → (TXF G H1733 s.heap) → (RFB K H1733 s.heap bb) → (∀ j : Nat, fI H1733 gq j = fI s.heap gq j) → (∀ j : Nat, fI H1733 jwq j = fI s.heap jwq j) → (∀ j : Nat, fI H1733 jfq j = fI s.heap jfq j) → (∀ j : Nat, fI H1733 jjq j = fI s.heap jjq j) → (∀ j : Nat, fI H1733 jeq j = fI s.heap jeq j) → (∀ j : Nat, fI H1733 cq j = fI s.heap cq j) → (∀ j : Nat, fI H1733 dq j = fI s.heap dq j) → (16 - x1737.toInt < (nf : Int)) → (x1736.toInt = pcn.toInt) → (vwC K H1733 bb = vb) → (joV (tlC K s.heap tx fsE fwE) sl.toInt (fun j => (fI s.heap jwq j).toInt) (fun j => (fI s.heap jfq j).toInt) (fun j => (fI s.heap jjq j).toInt) (fun j => (fI s.heap jeq j).toInt) (fun j => decide ((fI s.heap cq j).toInt < (fI s.heap dq j).toInt)) fwJ (li.toNatClampNeg) (0) (vwC K s.heap bb) = joV (tlC K s.heap tx fsE fwE) sl.toInt (fun j => (fI s.heap jwq j).toInt) (fun j => (fI s.heap jfq j).toInt) (fun j => (fI s.heap jjq j).toInt) (fun j => (fI s.heap jeq j).toInt) (fun j => decide ((fI s.heap cq j).toInt < (fI s.heap dq j).toInt)) fwJ (li.toNatClampNeg - x1737.toNatClampNeg) (x1737.toNatClampNeg) (vb)) → W p l e ({ frames := 7, cells := 0, slots := 0, locals := 177 } : Room) s m (([.ref a0, .int x1, .int x2] : List Value).toArray) below meth c H1733 locsH1733 0 0 Q (F0 m 41 ls1734 []) := by
    intro nf
    induction nf with
    | zero =>
      intro vb ls1734 H1733 locsH1733 x1736 x1737 x1738 x1739 hl1735 hTH1733 hSH1733 bx1736 bx1737 bx1738 ex1738 ex1739 cy1740_0 cy1740_1 cy1740_2 cy1740_3 cy1740_4 cy1740_5 cy1740_6 cy1740_7 cy1740_8 cy1740_9 cy1740_10 cy1740_11 cy1740_12 cy1740_13 cy1740_14 cy1740_15 cy1740_16 cy1740_17 cy1740_18 cy1740_19 cy1740_20 cy1740_21 cy1740_22 cy1740_23 cy1740_24 cy1740_25 fy1740_fx fy1740_tf fy1740_rb fy1740_s_gq fy1740_s_jwq fy1740_s_jfq fy1740_s_jjq fy1740_s_jeq fy1740_s_cq fy1740_s_dq hm41 iv41 hvb41 hsp41
      have rx1739 := i_rng x1739
      exfalso
      omega
    | succ nf ih41 =>
      intro vb ls1734 H1733 locsH1733 x1736 x1737 x1738 x1739 hl1735 hTH1733 hSH1733 bx1736 bx1737 bx1738 ex1738 ex1739 cy1740_0 cy1740_1 cy1740_2 cy1740_3 cy1740_4 cy1740_5 cy1740_6 cy1740_7 cy1740_8 cy1740_9 cy1740_10 cy1740_11 cy1740_12 cy1740_13 cy1740_14 cy1740_15 cy1740_16 cy1740_17 cy1740_18 cy1740_19 cy1740_20 cy1740_21 cy1740_22 cy1740_23 cy1740_24 cy1740_25 fy1740_fx fy1740_tf fy1740_rb fy1740_s_gq fy1740_s_jwq fy1740_s_jfq fy1740_s_jjq fy1740_s_jeq fy1740_s_cq fy1740_s_dq hm41 iv41 hvb41 hsp41
      have rx1739 := i_rng x1739
      refine lv_iload hx hb dX9_job_41 (lv_at hl1735 4 rfl) ?_
      refine lv_aload hx hb dX9_job_43 (lv_at hl1735 3 rfl) ?_
      refine x_gi C hTH1733 (ci := 7) (k := 0) rfl inX7 (by decide) wF_X9_144 gjx rg_16 rfl dX9_job_45 (fun x1741 ex1741 bx1741 => ?_)
      have ux1741 : li = x1741 := (cy1740_25).trans ex1741.symm
      subst ux1741
      refine lv_icmp_ge (tgt := 78) hx hb dX9_job_48 (by decide) (fun c1742 => ?_) (fun c1742 => ?_)
      · have k1743 := i_le c1742
        refine lv_aload_n hx hb dX9_job_78 rfl (lv_at hl1735 1 rfl) ?_
        refine x_gi C hTH1733 (ci := 0) (k := 8) rfl inX0 (by decide) wF_X9_86 gbb rg_1 rfl dX9_job_79 (fun x1744 ex1744 bx1744 => ?_)
        have ux1744 : x1738 = x1744 := (ex1738).trans ex1744.symm
        subst ux1744
        refine lv_iload hx hb dX9_job_82 (lv_at hl1735 2 rfl) ?_
        refine lv_isub hx hb dX9_job_84 ?_
        refine lv_topi (fun x1745 ex1745 => ?_)
        have tx1745 := i_sub ex1745 (by omega)
        have cn_x1737 := i_cl (x := x1737) (by omega)
        have cn_li := i_cl (x := li) (by omega)
        exact x_iret C hQ dX9_job_85 hSH1733 (by decide) (by decide) (⟨x1745, x1738, x1739, rfl, ex1738, ex1739, cy1740_8, cy1740_9, cy1740_10, cy1740_11, cy1740_12, cy1740_24, (hvb41.trans ((joV_0 (by omega)).symm.trans hsp41.symm)), (by rw [vwC_f (Or.inr (Or.inl rfl)), vwC_f (Or.inr (Or.inl rfl)), ← epcn, ← ex1738]; omega), fy1740_fx, fy1740_rb, hTH1733⟩)
      · have k1743 := i_nle c1742
        refine lv_aload_n hx hb dX9_job_51 rfl (lv_at hl1735 0 rfl) ?_
        refine lv_aload hx hb dX9_job_52 (lv_at hl1735 3 rfl) ?_
        refine lv_iload hx hb dX9_job_54 (lv_at hl1735 4 rfl) ?_
        refine lv_aload_n hx hb dX9_job_56 rfl (lv_at hl1735 1 rfl) ?_
        refine x_V (As := [.ref jx, .int x1737, .ref bb]) (rest := []) C (a_X9_comesTrue_v l K G H1733 (x1737) (fo) (li) (x1738) (fsE) (fwE) (fsJ) (fwJ) hTH1733 ga0 gjx (by omega) gbb gsmq cy1740_0 gw0 cy1740_1 glawq cy1740_2 gtx cy1740_3 gcq cy1740_17 gdq cy1740_18 gsq cy1740_19 guq cy1740_20 cy1740_21 cy1740_25 ex1738 (by omega) ((TXC.frm hT gtx fy1740_tf hy0)) ((TXC.frm hT gjx fy1740_tf hy2))) yo_X9_comesTrue wM_X9_223 ⟨⟨by decide, by decide⟩, by decide, by decide⟩ (x_rv C hTH1733 (ci := 9) rfl ga0 rg_68) rfl hl1735.1 rfl (Nat.le_of_ble_eq_true rfl) dX9_job_57 hSH1733 (AE_sub (fun _ _ => rfl) (by decide) hSH1733.1) (fun vH1746 H1746 locsH1746 pH1746 zH1746 kH1746 hSH1746 => ?_)
        obtain ⟨x1747, hvH1746, bx1747, m1748, hTH1746⟩ := pH1746
        subst hvH1746
        have f1749 : ∀ q t : Nat, G q = some t → t ≠ 83 → t ≠ 84 → q ≠ bb → q ≠ kq → q ≠ xq → q ≠ psq → q ≠ pdq → H1746[q]? = s.heap[q]? := (fun q t hq h1 h2 n1 n2 n3 n4 n5 => (x_lt hTH1733 kH1746 hq (by first | omega | (intro z; simp only [List.mem_cons, List.not_mem_nil, or_false] at z <;> omega))).trans (fy1740_fx q t hq h1 h2 n1 n2 n3 n4 n5))
        have f1750 : TXF G H1746 s.heap := (fun q t hq h1 h2 => (x_lt hTH1733 kH1746 hq (by first | omega | (intro z; simp only [List.mem_cons, List.not_mem_nil, or_false] at z <;> omega))).trans (fy1740_tf q t hq h1 h2))
        have f1751 : RFB K H1746 s.heap bb := RFB.st fy1740_rb (fun k hk => fR_kept (x_lt hTH1733 kH1746 gbb (by decide)))
        have f1752 : ∀ j : Nat, fI H1746 gq j = fI s.heap gq j := fun j => (fI_kept (x_lt hTH1733 kH1746 ggq (by decide))).trans (fy1740_s_gq j)
        have f1753 : ∀ j : Nat, fI H1746 jwq j = fI s.heap jwq j := fun j => (fI_kept (x_lt hTH1733 kH1746 gjwq (by decide))).trans (fy1740_s_jwq j)
        have f1754 : ∀ j : Nat, fI H1746 jfq j = fI s.heap jfq j := fun j => (fI_kept (x_lt hTH1733 kH1746 gjfq (by decide))).trans (fy1740_s_jfq j)
        have f1755 : ∀ j : Nat, fI H1746 jjq j = fI s.heap jjq j := fun j => (fI_kept (x_lt hTH1733 kH1746 gjjq (by decide))).trans (fy1740_s_jjq j)
        have f1756 : ∀ j : Nat, fI H1746 jeq j = fI s.heap jeq j := fun j => (fI_kept (x_lt hTH1733 kH1746 gjeq (by decide))).trans (fy1740_s_jeq j)
        have f1757 : ∀ j : Nat, fI H1746 cq j = fI s.heap cq j := fun j => (fI_kept (x_lt hTH1733 kH1746 gcq (by decide))).trans (fy1740_s_cq j)
        have f1758 : ∀ j : Nat, fI H1746 dq j = fI s.heap dq j := fun j => (fI_kept (x_lt hTH1733 kH1746 gdq (by decide))).trans (fy1740_s_dq j)
        have m1759 := (ex1738).trans (fI_kept (x_lt hTH1733 kH1746 gbb (by decide))).symm
        have m1760 := (ex1739).trans (fI_kept (x_lt hTH1733 kH1746 gbb (by decide))).symm
        have m1761 := (cy1740_0).trans (fR_kept (x_lt hTH1733 kH1746 ga0 (by decide))).symm
        have m1762 := (cy1740_1).trans (fR_kept (x_lt hTH1733 kH1746 ga0 (by decide))).symm
        have m1763 := (cy1740_2).trans (fR_kept (x_lt hTH1733 kH1746 gw0 (by decide))).symm
        have m1764 := (cy1740_3).trans (fR_kept (x_lt hTH1733 kH1746 glawq (by decide))).symm
        have m1765 := (cy1740_4).trans (fR_kept (x_lt hTH1733 kH1746 gw0 (by decide))).symm
        have m1766 := (cy1740_5).trans (fR_kept (x_lt hTH1733 kH1746 gw0 (by decide))).symm
        have m1767 := (cy1740_6).trans (fR_kept (x_lt hTH1733 kH1746 gjbq (by decide))).symm
        have m1768 := (cy1740_7).trans (fR_kept (x_lt hTH1733 kH1746 gbq (by decide))).symm
        have m1769 := (cy1740_8).trans (fR_kept (x_lt hTH1733 kH1746 gbb (by decide))).symm
        have m1770 := (cy1740_9).trans (fR_kept (x_lt hTH1733 kH1746 gbb (by decide))).symm
        have m1771 := (cy1740_10).trans (fR_kept (x_lt hTH1733 kH1746 gbb (by decide))).symm
        have m1772 := (cy1740_11).trans (fR_kept (x_lt hTH1733 kH1746 gbb (by decide))).symm
        have m1773 := (cy1740_12).trans (fR_kept (x_lt hTH1733 kH1746 gbb (by decide))).symm
        have m1774 := (cy1740_13).trans (fR_kept (x_lt hTH1733 kH1746 gjx (by decide))).symm
        have m1775 := (cy1740_14).trans (fR_kept (x_lt hTH1733 kH1746 gjx (by decide))).symm
        have m1776 := (cy1740_15).trans (fR_kept (x_lt hTH1733 kH1746 gjx (by decide))).symm
        have m1777 := (cy1740_16).trans (fR_kept (x_lt hTH1733 kH1746 gjx (by decide))).symm
        have m1778 := (cy1740_17).trans (fR_kept (x_lt hTH1733 kH1746 gjx (by decide))).symm
        have m1779 := (cy1740_18).trans (fR_kept (x_lt hTH1733 kH1746 gjx (by decide))).symm
        have m1780 := (cy1740_19).trans (fR_kept (x_lt hTH1733 kH1746 gjx (by decide))).symm
        have m1781 := (cy1740_20).trans (fR_kept (x_lt hTH1733 kH1746 gsmq (by decide))).symm
        have m1782 := (cy1740_21).trans (fI_kept (x_lt hTH1733 kH1746 gw0 (by decide))).symm
        have m1783 := (cy1740_22).trans (fI_kept (x_lt hTH1733 kH1746 gw0 (by decide))).symm
        have m1784 := (cy1740_23).trans (fI_kept (x_lt hTH1733 kH1746 gw0 (by decide))).symm
        have m1785 := (cy1740_24).trans (fI_kept (x_lt hTH1733 kH1746 gbb (by decide))).symm
        have m1786 := (cy1740_25).trans (fI_kept (x_lt hTH1733 kH1746 gjx (by decide))).symm
        have cn_x1737 := i_cl (x := x1737) (by omega)
        have co1787 : (x1747.toInt = 1 ∧ ((fI s.heap dq x1737.toNatClampNeg).toInt ≤ (fI s.heap cq x1737.toNatClampNeg).toInt ∨ fwJ x1737.toNatClampNeg (sbE (toV (tlC K s.heap tx fsE fwE) vb 0) (toV (tlC K s.heap tx fsE fwE) vb 1) (toV (tlC K s.heap tx fsE fwE) vb 2) (vb 8 0)) ≠ 0)) ∨ (x1747.toInt = 0 ∧ ¬ ((fI s.heap dq x1737.toNatClampNeg).toInt ≤ (fI s.heap cq x1737.toNatClampNeg).toInt ∨ fwJ x1737.toNatClampNeg (sbE (toV (tlC K s.heap tx fsE fwE) vb 0) (toV (tlC K s.heap tx fsE fwE) vb 1) (toV (tlC K s.heap tx fsE fwE) vb 2) (vb 8 0)) ≠ 0)) := by
          have z := m1748
          unfold coC at z
          rw [tlC_frm hT gtx fy1740_tf, hvb41, ← cy1740_18, ← cy1740_17, fy1740_s_dq x1737.toNatClampNeg, fy1740_s_cq x1737.toNatClampNeg] at z
          exact z
        have vw1788 : vwC K H1746 bb = vb := (vw_frm hTH1733 gbb (fun q t hq h1 h2 => x_lt hTH1733 kH1746 hq (by first | omega | (intro z; simp only [List.mem_cons, List.not_mem_nil, or_false] at z <;> omega)))).trans hvb41
        refine W.eq (g2 := F0 m 60 ls1734 [.int x1747]) rfl ?_
        refine lv_if_eq (tgt := 72) hx hb dX9_job_60 (by decide) (fun c1789 => ?_) (fun c1789 => ?_)
        · have k1790 := i_eq c1789
          obtain ⟨x1791, ex1791⟩ : ∃ y : Int32, y = x1737 + 1 := ⟨_, rfl⟩
          have tx1791 := i_add ex1791 (by omega)
          refine lv_iinc (v := x1791) (lv' := [(6, .int x1791), (0, .ref a0), (3, .ref bb), (4, .int x1736), (5, .ref jx)]) hx hb dX9_job_72 hl1735 (k := 4) rfl (by rw [ex1791]; rfl) (by decide) rfl (fun ls1792 hl1793 => ?_)
          refine lv_goto (tgt := 41) hx hb dX9_job_75 (by decide) ?_
          have cn_x1737 := i_cl (x := x1737) (by omega)
          have cn_x1791 := i_cl (x := x1791) (by omega)
          have cn_li := i_cl (x := li) (by omega)
          exact ih41 vb ls1792 H1746 locsH1746 (x1736) (x1791) (x1738) (x1739) (lv_sub hl1793 [1, 2, 3, 4, 0] rfl) hTH1746 hSH1746 (by have := i_rng x1736; omega) (by have := i_rng x1791; omega) (by have := i_rng x1738; omega) m1759 m1760 m1761 m1762 m1763 m1764 m1765 m1766 m1767 m1768 m1769 m1770 m1771 m1772 m1773 m1774 m1775 m1776 m1777 m1778 m1779 m1780 m1781 m1782 m1783 m1784 m1785 m1786 f1749 f1750 f1751 f1752 f1753 f1754 f1755 f1756 f1757 f1758 (by omega) (by omega) vw1788 (hsp41.trans (joV_n (by omega) (by omega) (fun z => (co1787.resolve_left (fun z => by have := z.1; omega)).2 (z.imp (fun y => by have := of_decide_eq_false y; omega) id))))
        · have k1790 := i_ne c1789
          refine lv_aload_n hx hb dX9_job_63 rfl (lv_at hl1735 0 rfl) ?_
          refine lv_aload hx hb dX9_job_64 (lv_at hl1735 3 rfl) ?_
          refine lv_iload hx hb dX9_job_66 (lv_at hl1735 4 rfl) ?_
          refine lv_aload_n hx hb dX9_job_68 rfl (lv_at hl1735 1 rfl) ?_
          have cn_x1737 := i_cl (x := x1737) (by omega)
          refine x_V (As := [.ref jx, .int x1737, .ref bb]) (rest := []) C (a_X9_doLine_v l K G H1746 (x1737) (x1738) (x1739) (fo) (sl) (sz) (fsE) (fwE) hTH1746 ga0 gjx (by omega) gbb gsmq m1761 gw0 m1762 glawq m1763 gtx m1764 gkq m1769 gxq m1770 ggq m1771 gpsq m1772 gpdq m1773 gjwq m1774 gjfq m1775 gjjq m1776 gjeq m1777 m1759 m1760 m1782 m1783 m1785 (by omega) (by omega) ((TXC.frm hT gtx f1750 hy0)) ((fun j hj => by rw [f1752 j]; exact hy1 j hj)) ((by rw [f1754 x1737.toNatClampNeg, f1753 x1737.toNatClampNeg, f1755 x1737.toNatClampNeg, f1756 x1737.toNatClampNeg]; exact hy3 x1737.toNatClampNeg (by omega)))) yo_X9_doLine wM_X9_227 ⟨⟨by decide, by decide⟩, by decide, by decide⟩ (x_rv C hTH1746 (ci := 9) rfl ga0 rg_68) rfl hl1735.1 rfl (Nat.le_of_ble_eq_true rfl) dX9_job_69 hSH1746 (AE_sub (fun _ _ => rfl) (by decide) hSH1746.1) (fun vH1794 H1794 locsH1794 pH1794 zH1794 kH1794 hSH1794 => ?_)
          obtain ⟨x1795, x1796, hvH1794, ex1795, ex1796, m1797, m1798, m1799, m1800, m1801, m1802, m1803, m1804, m1805, hTH1794⟩ := pH1794
          subst hvH1794
          have f1806 : TXF G H1794 s.heap := (fun q t hq h1 h2 => (x_lt hTH1746 kH1794 hq (by first | omega | (intro z; simp only [List.mem_cons, List.not_mem_nil, or_false] at z <;> omega))).trans (f1750 q t hq h1 h2))
          have f1807 : ∀ j : Nat, fI H1794 gq j = fI s.heap gq j := fun j => (fI_kept (x_lt hTH1746 kH1794 ggq (by decide))).trans (f1752 j)
          have f1808 : ∀ j : Nat, fI H1794 jwq j = fI s.heap jwq j := fun j => (fI_kept (x_lt hTH1746 kH1794 gjwq (by decide))).trans (f1753 j)
          have f1809 : ∀ j : Nat, fI H1794 jfq j = fI s.heap jfq j := fun j => (fI_kept (x_lt hTH1746 kH1794 gjfq (by decide))).trans (f1754 j)
          have f1810 : ∀ j : Nat, fI H1794 jjq j = fI s.heap jjq j := fun j => (fI_kept (x_lt hTH1746 kH1794 gjjq (by decide))).trans (f1755 j)
          have f1811 : ∀ j : Nat, fI H1794 jeq j = fI s.heap jeq j := fun j => (fI_kept (x_lt hTH1746 kH1794 gjeq (by decide))).trans (f1756 j)
          have f1812 : ∀ j : Nat, fI H1794 cq j = fI s.heap cq j := fun j => (fI_kept (x_lt hTH1746 kH1794 gcq (by decide))).trans (f1757 j)
          have f1813 : ∀ j : Nat, fI H1794 dq j = fI s.heap dq j := fun j => (fI_kept (x_lt hTH1746 kH1794 gdq (by decide))).trans (f1758 j)
          have m1814 := (m1761).trans (fR_kept (x_lt hTH1746 kH1794 ga0 (by decide))).symm
          have m1815 := (m1762).trans (fR_kept (x_lt hTH1746 kH1794 ga0 (by decide))).symm
          have m1816 := (m1763).trans (fR_kept (x_lt hTH1746 kH1794 gw0 (by decide))).symm
          have m1817 := (m1764).trans (fR_kept (x_lt hTH1746 kH1794 glawq (by decide))).symm
          have m1818 := (m1765).trans (fR_kept (x_lt hTH1746 kH1794 gw0 (by decide))).symm
          have m1819 := (m1766).trans (fR_kept (x_lt hTH1746 kH1794 gw0 (by decide))).symm
          have m1820 := (m1767).trans (fR_kept (x_lt hTH1746 kH1794 gjbq (by decide))).symm
          have m1821 := (m1768).trans (fR_kept (x_lt hTH1746 kH1794 gbq (by decide))).symm
          have m1822 := (m1774).trans (fR_kept (x_lt hTH1746 kH1794 gjx (by decide))).symm
          have m1823 := (m1775).trans (fR_kept (x_lt hTH1746 kH1794 gjx (by decide))).symm
          have m1824 := (m1776).trans (fR_kept (x_lt hTH1746 kH1794 gjx (by decide))).symm
          have m1825 := (m1777).trans (fR_kept (x_lt hTH1746 kH1794 gjx (by decide))).symm
          have m1826 := (m1778).trans (fR_kept (x_lt hTH1746 kH1794 gjx (by decide))).symm
          have m1827 := (m1779).trans (fR_kept (x_lt hTH1746 kH1794 gjx (by decide))).symm
          have m1828 := (m1780).trans (fR_kept (x_lt hTH1746 kH1794 gjx (by decide))).symm
          have m1829 := (m1781).trans (fR_kept (x_lt hTH1746 kH1794 gsmq (by decide))).symm
          have m1830 := (m1782).trans (fI_kept (x_lt hTH1746 kH1794 gw0 (by decide))).symm
          have m1831 := (m1783).trans (fI_kept (x_lt hTH1746 kH1794 gw0 (by decide))).symm
          have m1832 := (m1784).trans (fI_kept (x_lt hTH1746 kH1794 gw0 (by decide))).symm
          have m1833 := (m1786).trans (fI_kept (x_lt hTH1746 kH1794 gjx (by decide))).symm
          have bx1795 := ty_fi (x := x1795) (k := 8) ex1795 hTH1794 gbb rg_1 rfl
          have bx1796 := ty_fi (x := x1796) (k := 9) ex1796 hTH1794 gbb rg_1 rfl
          have cn_x1737 := i_cl (x := x1737) (by omega)
          have vw1834 : vwC K H1794 bb = (liV (tlC K s.heap tx fsE fwE) sl.toInt (fI s.heap jwq x1737.toNatClampNeg).toInt (fI s.heap jfq x1737.toNatClampNeg).toInt (fI s.heap jjq x1737.toNatClampNeg).toInt (fI s.heap jeq x1737.toNatClampNeg).toInt vb) := by rw [m1803, tlC_frm hT gtx f1750, vw1788, f1753 x1737.toNatClampNeg, f1754 x1737.toNatClampNeg, f1755 x1737.toNatClampNeg, f1756 x1737.toNatClampNeg]
          have f1835 : ∀ q t : Nat, G q = some t → t ≠ 83 → t ≠ 84 → q ≠ bb → q ≠ kq → q ≠ xq → q ≠ psq → q ≠ pdq → H1794[q]? = s.heap[q]? := fun q t hq h1 h2 n1 n2 n3 n4 n5 => (m1804 q t hq h1 h2 n1 n2 n3 n4 n5).trans (f1749 q t hq h1 h2 n1 n2 n3 n4 n5)
          have f1836 : RFB K H1794 s.heap bb := RFB.st f1751 m1805
          refine W.eq (g2 := F0 m 72 ls1734 []) rfl ?_
          obtain ⟨x1838, ex1838⟩ : ∃ y : Int32, y = x1737 + 1 := ⟨_, rfl⟩
          have tx1838 := i_add ex1838 (by omega)
          refine lv_iinc (v := x1838) (lv' := [(6, .int x1838), (0, .ref a0), (3, .ref bb), (4, .int x1736), (5, .ref jx)]) hx hb dX9_job_72 hl1735 (k := 4) rfl (by rw [ex1838]; rfl) (by decide) rfl (fun ls1839 hl1840 => ?_)
          refine lv_goto (tgt := 41) hx hb dX9_job_75 (by decide) ?_
          have cn_x1737 := i_cl (x := x1737) (by omega)
          have cn_x1838 := i_cl (x := x1838) (by omega)
          have cn_li := i_cl (x := li) (by omega)
          exact ih41 (liV (tlC K s.heap tx fsE fwE) sl.toInt (fI s.heap jwq x1737.toNatClampNeg).toInt (fI s.heap jfq x1737.toNatClampNeg).toInt (fI s.heap jjq x1737.toNatClampNeg).toInt (fI s.heap jeq x1737.toNatClampNeg).toInt vb) ls1839 H1794 locsH1794 (x1736) (x1838) (x1795) (x1796) (lv_sub hl1840 [1, 2, 3, 4, 0] rfl) hTH1794 hSH1794 (by have := i_rng x1736; omega) (by have := i_rng x1838; omega) (by have := i_rng x1795; omega) ex1795 ex1796 m1814 m1815 m1816 m1817 m1818 m1819 m1820 m1821 m1797 m1798 m1799 m1800 m1801 m1822 m1823 m1824 m1825 m1826 m1827 m1828 m1829 m1830 m1831 m1832 m1802 m1833 f1835 f1806 f1836 f1807 f1808 f1809 f1810 f1811 f1812 f1813 (by omega) (by omega) vw1834 (hsp41.trans (joV_y (by omega) (by omega) ((co1787.resolve_right (fun z => by have := z.1; omega)).2.imp (fun z => decide_eq_false (by omega)) id)))
  refine lv_aload_n hx hb dX9_job_0 rfl (lv_at hl 0 rfl) ?_
  refine lv_iload_n hx hb dX9_job_1 rfl (lv_at hl 2 rfl) ?_
  refine x_V (As := [.int x2]) (rest := []) C (a_X9_barAt_v l K G s.heap (x2) (s1) hT ga0 gw0 ew0 gbq ebq es1 gbb ebb (by omega)) yo_X9_barAt wM_X9_78 ⟨⟨by decide, by decide⟩, by decide, by decide⟩ (x_rv C hT (ci := 9) rfl ga0 rg_68) rfl hl.1 rfl (Nat.le_of_ble_eq_true rfl) dX9_job_2 hS (AE_sub (fun _ _ => rfl) (by decide) hS.1) (fun vH1841 H1841 locsH1841 pH1841 zH1841 kH1841 hSH1841 => ?_)
  have hqH1841 := pH1841.1.symm
  subst hqH1841
  have hvH1841 := pH1841.2
  subst hvH1841
  refine W.eq (g2 := F0 m 5 ls [.ref bb]) rfl ?_
  refine lv_astore_n (lv' := [(3, .ref bb), (0, .ref a0), (1, .int x1), (2, .int x2)]) hx hb dX9_job_5 rfl hl (by decide) rfl (fun ls1842 hl1843 => ?_)
  refine lv_aload_n hx hb dX9_job_6 rfl (lv_at hl1843 0 rfl) ?_
  refine lv_ifnull hx hb dX9_job_7 ?_
  refine lv_iload_n hx hb dX9_job_10 rfl (lv_at hl1843 2 rfl) ?_
  refine lv_iconst (v := 0) hx hb dX9_job_11 (by decide) ?_
  refine lv_iconst (v := 3) hx hb dX9_job_12 (by decide) ?_
  refine x_S (As := [.int x1, .int 0, .int 3]) (rest := []) C (c_X9_within l K G s.heap (x1) (0) (3) hT) yo_X9_within wM_X9_89 ⟨⟨by decide, by decide⟩, by decide, by decide⟩ rfl hl1843.1 rfl (Nat.le_of_ble_eq_true rfl) dX9_job_13 hSH1841 (AE_sub (fun _ _ => rfl) (by decide) hSH1841.1) (fun vH1844 H1844 locsH1844 pH1844 zH1844 kH1844 hSH1844 => ?_)
  have hqH1844 := pH1844.1.symm
  subst hqH1844
  rcases pH1844.2 with ⟨hvH1844, hcH1844⟩ | ⟨hvH1844, hcH1844⟩
  · subst hvH1844
    refine W.eq (g2 := F0 m 16 ls1842 [.int 1]) rfl ?_
    refine lv_if_ne (tgt := 21) hx hb dX9_job_16 (by decide) (fun c1845 => ?_) (fun c1845 => ?_)
    · have k1846 := i_ne c1845
      refine lv_aload_n hx hb dX9_job_21 rfl (lv_at hl1843 0 rfl) ?_
      refine x_gi C hT (ci := 0) (k := 8) rfl inX0 (by decide) wF_X9_86 gbb rg_1 rfl dX9_job_22 (fun x1847 ex1847 bx1847 => ?_)
      have ux1847 : pcn = x1847 := (epcn).trans ex1847.symm
      subst ux1847
      refine lv_istore (lv' := [(4, .int pcn), (3, .ref bb), (0, .ref a0), (1, .int x1), (2, .int x2)]) hx hb dX9_job_25 hl1843 (by decide) rfl (fun ls1848 hl1849 => ?_)
      refine lv_aload_n hx hb dX9_job_27 rfl (lv_at hl1849 2 rfl) ?_
      refine x_gr C hT (ci := 9) (k := 0) rfl inX9 (by decide) wF_X9_12 ga0 rg_68 rfl dX9_job_28 (fun q1850 eq1850 gq1850 => ?_)
      have uq1850 : w0 = q1850 := (ew0).trans eq1850.symm
      subst uq1850
      refine x_gr C hT (ci := 8) (k := 3) rfl inX8 (by decide) wF_X9_220 gw0 rg_0 rfl dX9_job_31 (fun q1851 eq1851 gq1851 => ?_)
      have uq1851 : jbq = q1851 := (ejbq).trans eq1851.symm
      subst uq1851
      refine lv_iload_n hx hb dX9_job_34 rfl (lv_at hl1849 3 rfl) ?_
      refine x_ar C hT rfl rfl gjbq rg_27 ⟨by omega, by show _ < ((4 : Nat) : Int); omega⟩ dX9_job_35 (fun q1852 eq1852 gq1852 => ?_)
      have uq1852 : jx = q1852 := (ejx).trans eq1852.symm
      subst uq1852
      refine lv_astore (lv' := [(5, .ref jx), (4, .int pcn), (3, .ref bb), (0, .ref a0), (1, .int x1), (2, .int x2)]) hx hb dX9_job_36 hl1849 (by decide) rfl (fun ls1853 hl1854 => ?_)
      refine lv_iconst (v := 0) hx hb dX9_job_38 (by decide) ?_
      refine lv_istore (lv' := [(6, .int 0), (5, .ref jx), (4, .int pcn), (3, .ref bb), (0, .ref a0), (1, .int x1), (2, .int x2)]) hx hb dX9_job_39 hl1854 (by decide) rfl (fun ls1855 hl1856 => ?_)
      exact J41 ((16 - (0 : Int32).toInt).toNat + 1) (vwC K s.heap bb) ls1855 s.heap locsH1844 (pcn) (0) (pcn) (lb) (lv_sub hl1856 [4, 3, 2, 1, 0] rfl) hT hSH1844 (by have := i_rng pcn; omega) (by decide) (by have := i_rng pcn; omega) epcn elb esmq ew0 elawq etx ebq ejbq ejx ebb ekq exq egq epsq epdq ejwq ejfq ejjq ejeq ecq edq esq euq efo esl es1 esz eli f0_fx f0_tf f0_rb f0_s_gq f0_s_jwq f0_s_jfq f0_s_jjq f0_s_jeq f0_s_cq f0_s_dq (by omega) (by omega) vw_0 (by rfl)
    · have k1846 := i_eq c1845
      exfalso
      omega
  · subst hvH1844
    refine W.eq (g2 := F0 m 16 ls1842 [.int 0]) rfl ?_
    exfalso
    omega
