set_option maxHeartbeats 4000000 in
set_option maxRecDepth 100000 in
theorem a_X10_isIn_v (l : Launch) (K : KE) (G : Nat → Option Nat) (H : Heap) {a0 : Nat} (x1 : Int32) (x2 : Int32) (x3 : Int32) (hT : TY K G H) (ga0 : G a0 = some 112) : MX l K yX10_isIn cX10_isIn 4 (some .boolean) 0 0 0 0 [.ref a0, .int x1, .int x2, .int x3] H (AE G [] H.size) (fun v H1 => ∃ (r : Int32), v = some (.int r) ∧ (0 ≤ r.toInt ∧ r.toInt ≤ 1) ∧ ((r.toInt = 1 ∧ x2.toInt ≤ x1.toInt ∧ x1.toInt ≤ x3.toInt) ∨ (r.toInt = 0 ∧ (x1.toInt < x2.toInt ∨ x3.toInt < x1.toInt))) ∧ TY K G H1) := by
  refine MX.of (by decide +kernel) (Nat.le_of_ble_eq_true rfl) ?_
  intro p e s m below meth c ls Q C hH hl hQ
  subst hH
  have C : CX p K s m _ meth c RX10 cX10_isIn 4 (some .boolean) "isIn" := C
  obtain ⟨hx, hb, hml, hown, hts, hKT, hr, hlocks, hnm⟩ := id C
  have hl : lv_has ls 4 [(0, .ref a0), (1, .int x1), (2, .int x2), (3, .int x3)] := hl
  have hS : va_S (AE G [] s.heap.size) s.heap s.heap [] := va_S.rf
  have n_0 : (0 : Int32).toInt = 0 := rfl
  have n_1 : (1 : Int32).toInt = 1 := rfl
  have hap : ∀ x y, x < 74 → y < 74 → x ≠ y → K.1.2 10 x ≠ K.1.2 10 y := x_apart hKT hts inX10 tyX10 tyX10_ok nmX10 rfl
  refine lv_iload_n hx hb dX10_isIn_0 rfl (lv_at hl 1 rfl) ?_
  refine lv_iload_n hx hb dX10_isIn_1 rfl (lv_at hl 2 rfl) ?_
  refine lv_icmp_lt (tgt := 14) hx hb dX10_isIn_2 (by decide) (fun c117 => ?_) (fun c117 => ?_)
  · have k118 := i_lt c117
    refine lv_iconst (v := 0) hx hb dX10_isIn_14 (by decide) ?_
    exact x_zret C hQ (Or.inl rfl) dX10_isIn_15 hS (by decide) (by decide) (⟨0, rfl, by decide, by omega, hT⟩)
  · have k118 := i_nlt c117
    refine lv_iload_n hx hb dX10_isIn_5 rfl (lv_at hl 1 rfl) ?_
    refine lv_iload_n hx hb dX10_isIn_6 rfl (lv_at hl 3 rfl) ?_
    refine lv_icmp_gt (tgt := 14) hx hb dX10_isIn_7 (by decide) (fun c119 => ?_) (fun c119 => ?_)
    · have k120 := i_lt c119
      refine lv_iconst (v := 0) hx hb dX10_isIn_14 (by decide) ?_
      exact x_zret C hQ (Or.inl rfl) dX10_isIn_15 hS (by decide) (by decide) (⟨0, rfl, by decide, by omega, hT⟩)
    · have k120 := i_nlt c119
      refine lv_iconst (v := 1) hx hb dX10_isIn_10 (by decide) ?_
      refine lv_goto (tgt := 15) hx hb dX10_isIn_11 (by decide) ?_
      exact x_zret C hQ (Or.inr rfl) dX10_isIn_15 hS (by decide) (by decide) (⟨1, rfl, by decide, by omega, hT⟩)

set_option maxHeartbeats 4000000 in
set_option maxRecDepth 100000 in
theorem a_X10_job_v (l : Launch) (K : KE) (G : Nat → Option Nat) (H : Heap) {a0 : Nat} (x1 : Int32) (x2 : Int32) {kq : Nat} {paq : Nat} {pdq : Nat} {psq : Nat} {lbq : Nat} {gq : Nat} {slq : Nat} {wxq : Nat} {lsq : Nat} {l1q : Nat} {l2q : Nat} {l3q : Nat} {mq : Nat} {oq : Nat} {aq : Nat} {sq : Nat} {uq : Nat} {nq : Nat} {tq : Nat} (ps : Int32) (lb : Int32) (sz : Int32) (bs : Int32) (fo : Int32) (sl : Int32) (fsE : Nat → EF) (fwE : Nat → EF) (fsJ : Nat → EF) (fwJ : Nat → EF) (lm : Int32) (hT : TY K G H) (ga0 : G a0 = some 112) (hx1 : 0 ≤ x1.toInt ∧ x1.toInt ≤ 3) (hx2 : 0 ≤ x2.toInt ∧ x2.toInt ≤ 9) (gkq : G kq = some 114) (ekq : kq = fR H a0 (K.1.2 10 5)) (gpaq : G paq = some 120) (epaq : paq = fR H a0 (K.1.2 10 11)) (gpdq : G pdq = some 121) (epdq : pdq = fR H a0 (K.1.2 10 12)) (gpsq : G psq = some 119) (epsq : psq = fR H a0 (K.1.2 10 10)) (glbq : G lbq = some 122) (elbq : lbq = fR H a0 (K.1.2 10 13)) (ggq : G gq = some 118) (egq : gq = fR H a0 (K.1.2 10 9)) (gslq : G slq = some 113) (eslq : slq = fR H a0 (K.1.2 10 4)) (gwxq : G wxq = some 117) (ewxq : wxq = fR H a0 (K.1.2 10 8)) (glsq : G lsq = some 129) (elsq : lsq = fR H a0 (K.1.2 10 25)) (gl1q : G l1q = some 130) (el1q : l1q = fR H a0 (K.1.2 10 26)) (gl2q : G l2q = some 131) (el2q : l2q = fR H a0 (K.1.2 10 27)) (gl3q : G l3q = some 132) (el3q : l3q = fR H a0 (K.1.2 10 28)) (gmq : G mq = some 128) (emq : mq = fR H a0 (K.1.2 10 24)) (goq : G oq = some 136) (eoq : oq = fR H a0 (K.1.2 10 32)) (gaq : G aq = some 137) (eaq : aq = fR H a0 (K.1.2 10 33)) (gsq : G sq = some 140) (esq : sq = fR H a0 (K.1.2 10 44)) (guq : G uq = some 139) (euq : uq = fR H a0 (K.1.2 10 43)) (gnq : G nq = some 134) (enq : nq = fR H a0 (K.1.2 10 30)) (gtq : G tq = some 135) (etq : tq = fR H a0 (K.1.2 10 31)) (eps : ps = fI H psq (x2 : Int32).toNatClampNeg) (elb : lb = fI H lbq (x2 : Int32).toNatClampNeg) (esz : sz = fI H slq (x2 : Int32).toNatClampNeg) (ebs : bs = fI H a0 (K.1.2 10 1)) (efo : fo = fI H a0 (K.1.2 10 2)) (esl : sl = fI H a0 (K.1.2 10 3)) (hg_CG : CG (avw K H a0)) (hg_TU : TU (avw K H a0) (svw K H a0)) (hg_WD : WD (avw K H a0)) (hg_IM : IM (avw K H a0)) (hp0 : 0 ≤ sl.toInt ∧ sl.toInt ≤ 9999) (hp1 : x2.toInt < bs.toInt) (hy0 : TXR K H a0 fo.toNatClampNeg 1 fsE fwE) (hy1 : ∀ j : Nat, j < 3 → 0 ≤ (fI H gq (3 * x2.toNatClampNeg + j)).toInt ∧ (fI H gq (3 * x2.toNatClampNeg + j)).toInt ≤ 999999) (hy2 : TXR K H a0 (2 + x1.toNatClampNeg) 0 fsJ fwJ) (hy3 : lm = fI H mq (2 + x1.toNatClampNeg)) (hy4 : ∀ l : Nat, 16 * (2 + x1.toNatClampNeg) ≤ l → l < 16 * (2 + x1.toNatClampNeg) + lm.toNatClampNeg → (0 ≤ (fI H l1q l).toInt ∧ (fI H l1q l).toInt ≤ 15) ∧ (0 ≤ (fI H l3q l).toInt ∧ (fI H l3q l).toInt ≤ 99) ∧ ((fI H lsq l).toInt = 4 ∨ (fI H lsq l).toInt = 5 ∨ (fI H lsq l).toInt = 17) ∧ ((fI H lsq l).toInt = 17 ∨ (1 ≤ (fI H l3q l).toInt ∧ (fI H l3q l).toInt ≤ 9)) ∧ ((fI H lsq l).toInt ≠ 5 ∨ (0 ≤ (fI H l2q l).toInt ∧ (fI H l2q l).toInt ≤ 15))) : MX l K yX10_job cX10_job 6 (some .int) 9 216 0 0 [.ref a0, .int x1, .int x2] H (AE G [112, 114, 120, 121, 119, 122, 117, 140, 139] H.size) (fun v H1 => ∃ (r : Int32) (t0 : Int32) (t1 : Int32), v = some (.int r) ∧ t0 = fI H1 psq (x2 : Int32).toNatClampNeg ∧ t1 = fI H1 lbq (x2 : Int32).toNatClampNeg ∧ kq = fR H1 a0 (K.1.2 10 5) ∧ paq = fR H1 a0 (K.1.2 10 11) ∧ pdq = fR H1 a0 (K.1.2 10 12) ∧ psq = fR H1 a0 (K.1.2 10 10) ∧ lbq = fR H1 a0 (K.1.2 10 13) ∧ gq = fR H1 a0 (K.1.2 10 9) ∧ slq = fR H1 a0 (K.1.2 10 4) ∧ wxq = fR H1 a0 (K.1.2 10 8) ∧ lsq = fR H1 a0 (K.1.2 10 25) ∧ l1q = fR H1 a0 (K.1.2 10 26) ∧ l2q = fR H1 a0 (K.1.2 10 27) ∧ l3q = fR H1 a0 (K.1.2 10 28) ∧ mq = fR H1 a0 (K.1.2 10 24) ∧ oq = fR H1 a0 (K.1.2 10 32) ∧ aq = fR H1 a0 (K.1.2 10 33) ∧ sq = fR H1 a0 (K.1.2 10 44) ∧ uq = fR H1 a0 (K.1.2 10 43) ∧ nq = fR H1 a0 (K.1.2 10 30) ∧ tq = fR H1 a0 (K.1.2 10 31) ∧ bs = fI H1 a0 (K.1.2 10 1) ∧ fo = fI H1 a0 (K.1.2 10 2) ∧ sl = fI H1 a0 (K.1.2 10 3) ∧ (CG (avw K H1 a0)) ∧ (TU (avw K H1 a0) (svw K H1 a0)) ∧ (WD (avw K H1 a0)) ∧ (IM (avw K H1 a0)) ∧ MF K H H1 a0 [0] ∧ (vwR K H1 a0 x2.toNatClampNeg = joV (tlR K H a0 fo.toNatClampNeg fsE fwE) sl.toInt (fun j => wdR (fI H lsq (16 * (2 + x1.toNatClampNeg) + j)).toInt) (fun j => (fI H l1q (16 * (2 + x1.toNatClampNeg) + j)).toInt) (fun j => (fI H l2q (16 * (2 + x1.toNatClampNeg) + j)).toInt) (fun j => (fI H l3q (16 * (2 + x1.toNatClampNeg) + j)).toInt) (fun j => decide ((fI H nq (16 * (2 + x1.toNatClampNeg) + j)).toInt ≠ (fI H tq (16 * (2 + x1.toNatClampNeg) + j)).toInt)) (fun j => fwJ (16 * (2 + x1.toNatClampNeg) + j)) (lm.toNatClampNeg) (0) ((vwR K H a0 x2.toNatClampNeg))) ∧ (r.toInt = vwR K H1 a0 x2.toNatClampNeg 8 0 - vwR K H a0 x2.toNatClampNeg 8 0) ∧ (∀ b2 : Nat, b2 ≠ x2.toNatClampNeg → EqV (vwR K H1 a0 b2) (vwR K H a0 b2)) ∧ TY K G H1) := by
  refine MX.of (by decide +kernel) (Nat.le_of_ble_eq_true rfl) ?_
  intro p e s m below meth c ls Q C hH hl hQ
  subst hH
  have C : CX p K s m _ meth c RX10 cX10_job 6 (some .int) "job" := C
  obtain ⟨hx, hb, hml, hown, hts, hKT, hr, hlocks, hnm⟩ := id C
  have hl : lv_has ls 6 [(0, .ref a0), (1, .int x1), (2, .int x2)] := hl
  have hS : va_S (AE G [112, 114, 120, 121, 119, 122, 117, 140, 139] s.heap.size) s.heap s.heap [] := va_S.rf
  have n_m1 : ((-1) : Int32).toInt = -1 := rfl
  have n_0 : (0 : Int32).toInt = 0 := rfl
  have n_1 : (1 : Int32).toInt = 1 := rfl
  have n_2 : (2 : Int32).toInt = 2 := rfl
  have n_3 : (3 : Int32).toInt = 3 := rfl
  have n_16 : (16 : Int32).toInt = 16 := rfl
  have bps := ty_ai (x := ps) eps hT gpsq rg_119 (by omega)
  have blb := ty_ai (x := lb) elb hT glbq rg_122 (by omega)
  have bsz := ty_ai (x := sz) esz hT gslq rg_113 (by omega)
  have bbs := ty_fi (x := bs) (k := 1) ebs hT ga0 rg_112 rfl
  have bfo := ty_fi (x := fo) (k := 2) efo hT ga0 rg_112 rfl
  have bsl := ty_fi (x := sl) (k := 3) esl hT ga0 rg_112 rfl
  have hap : ∀ x y, x < 74 → y < 74 → x ≠ y → K.1.2 10 x ≠ K.1.2 10 y := x_apart hKT hts inX10 tyX10 tyX10_ok nmX10 rfl
  have mf0 : MF K s.heap s.heap a0 [0] := fun _ _ _ => rfl
  have vr_0 : vwR K s.heap a0 x2.toNatClampNeg = vwR K s.heap a0 x2.toNatClampNeg := rfl
  have vo_0 : ∀ b2 : Nat, b2 ≠ x2.toNatClampNeg → EqV (vwR K s.heap a0 b2) (vwR K s.heap a0 b2) := fun _ _ => EqV.rf
  have cx1_ := i_cl (x := x1) (by omega)
  have blm : 0 ≤ lm.toInt ∧ lm.toInt ≤ 16 := by obtain ⟨-, -, -, -, -, -, z⟩ := hT.aint gmq rg_128 (j := (2 + x1.toNatClampNeg)) (by omega); rw [hy3]; exact z
  have f0_tf : TXG K a0 G s.heap s.heap := TXG.rf
  have f0_s_gq : ∀ j : Nat, fI s.heap gq j = fI s.heap gq j := fun _ => rfl
  have f0_s_mq : ∀ j : Nat, fI s.heap mq j = fI s.heap mq j := fun _ => rfl
  have f0_s_lsq : ∀ j : Nat, fI s.heap lsq j = fI s.heap lsq j := fun _ => rfl
  have f0_s_l1q : ∀ j : Nat, fI s.heap l1q j = fI s.heap l1q j := fun _ => rfl
  have f0_s_l2q : ∀ j : Nat, fI s.heap l2q j = fI s.heap l2q j := fun _ => rfl
  have f0_s_l3q : ∀ j : Nat, fI s.heap l3q j = fI s.heap l3q j := fun _ => rfl
  have f0_s_nq : ∀ j : Nat, fI s.heap nq j = fI s.heap nq j := fun _ => rfl
  have f0_s_tq : ∀ j : Nat, fI s.heap tq j = fI s.heap tq j := fun _ => rfl
  have J43 : ∀ (nf : Nat) (vb : BW) (ls1764 : Array Slot) (H1763 : Heap) (locsH1763 : List Loc) (x1766 : Int32) (x1767 : Int32) (x1768 : Int32) (x1769 : Int32) (x1770 : Int32), lv_has ls1764 6 [(0, .ref a0), (2, .int x2), (3, .int x1766), (4, .int x1767), (5, .int x1768)] → TY K G H1763 → va_S (AE G [112, 114, 120, 121, 119, 122, 117, 140, 139] s.heap.size) s.heap H1763 locsH1763 → (2 ≤ x1766.toInt ∧ x1766.toInt ≤ 5) → (0 ≤ x1767.toInt ∧ x1767.toInt ≤ 200) → (32 ≤ x1768.toInt ∧ x1768.toInt ≤ 96) → (0 ≤ x1769.toInt ∧ x1769.toInt ≤ 200) → (x1769 = fI H1763 psq (x2 : Int32).toNatClampNeg) → (x1770 = fI H1763 lbq (x2 : Int32).toNatClampNeg) → (kq = fR H1763 a0 (K.1.2 10 5)) → (paq = fR H1763 a0 (K.1.2 10 11)) → (pdq = fR H1763 a0 (K.1.2 10 12)) → (psq = fR H1763 a0 (K.1.2 10 10)) → (lbq = fR H1763 a0 (K.1.2 10 13)) → (gq = fR H1763 a0 (K.1.2 10 9)) → (slq = fR H1763 a0 (K.1.2 10 4)) → (wxq = fR H1763 a0 (K.1.2 10 8)) → (lsq = fR H1763 a0 (K.1.2 10 25)) → (l1q = fR H1763 a0 (K.1.2 10 26)) → (l2q = fR H1763 a0 (K.1.2 10 27)) → (l3q = fR H1763 a0 (K.1.2 10 28)) → (mq = fR H1763 a0 (K.1.2 10 24)) → (oq = fR H1763 a0 (K.1.2 10 32)) → (aq = fR H1763 a0 (K.1.2 10 33)) → (sq = fR H1763 a0 (K.1.2 10 44)) → (uq = fR H1763 a0 (K.1.2 10 43)) → (nq = fR H1763 a0 (K.1.2 10 30)) → (tq = fR H1763 a0 (K.1.2 10 31)) → (sz = fI H1763 slq (x2 : Int32).toNatClampNeg) → (bs = fI H1763 a0 (K.1.2 10 1)) → (fo = fI H1763 a0 (K.1.2 10 2)) → (sl = fI H1763 a0 (K.1.2 10 3)) → (MF K s.heap H1763 a0 [0]) → (CG (avw K H1763 a0)) → (TU (avw K H1763 a0) (svw K H1763 a0)) → (WD (avw K H1763 a0)) → (IM (avw K H1763 a0)) → (TXG K a0 G H1763 s.heap) → (∀ j : Nat, fI H1763 gq j = fI s.heap gq j) → (∀ j : Nat, fI H1763 mq j = fI s.heap mq j) → (∀ j : Nat, fI H1763 lsq j = fI s.heap lsq j) → (∀ j : Nat, fI H1763 l1q j = fI s.heap l1q j) → (∀ j : Nat, fI H1763 l2q j = fI s.heap l2q j) → (∀ j : Nat, fI H1763 l3q j = fI s.heap l3q j) → (∀ j : Nat, fI H1763 nq j = fI s.heap nq j) → (∀ j : Nat, fI H1763 tq j = fI s.heap tq j) → (96 - x1768.toInt < (nf : Int)) → (x1767.toInt = ps.toInt) → (vwR K H1763 a0 x2.toNatClampNeg = vb) → (∀ b2 : Nat, b2 ≠ x2.toNatClampNeg → EqV (vwR K H1763 a0 b2) (vwR K s.heap a0 b2)) → (x1766.toInt = 2 + x1.toInt ∧ 16 * x1766.toInt ≤ x1768.toInt ∧ x1768.toInt ≤ 16 * x1766.toInt + lm.toInt) → (joV (tlR K s.heap a0 fo.toNatClampNeg fsE fwE) sl.toInt (fun j => wdR (fI s.heap lsq (16 * (2 + x1.toNatClampNeg) + j)).toInt) (fun j => (fI s.heap l1q (16 * (2 + x1.toNatClampNeg) + j)).toInt) (fun j => (fI s.heap l2q (16 * (2 + x1.toNatClampNeg) + j)).toInt) (fun j => (fI s.heap l3q (16 * (2 + x1.toNatClampNeg) + j)).toInt) (fun j => decide ((fI s.heap nq (16 * (2 + x1.toNatClampNeg) + j)).toInt ≠ (fI s.heap tq (16 * (2 + x1.toNatClampNeg) + j)).toInt)) (fun j => fwJ (16 * (2 + x1.toNatClampNeg) + j)) (lm.toNatClampNeg) (0) ((vwR K s.heap a0 x2.toNatClampNeg)) = joV (tlR K s.heap a0 fo.toNatClampNeg fsE fwE) sl.toInt (fun j => wdR (fI s.heap lsq (16 * (2 + x1.toNatClampNeg) + j)).toInt) (fun j => (fI s.heap l1q (16 * (2 + x1.toNatClampNeg) + j)).toInt) (fun j => (fI s.heap l2q (16 * (2 + x1.toNatClampNeg) + j)).toInt) (fun j => (fI s.heap l3q (16 * (2 + x1.toNatClampNeg) + j)).toInt) (fun j => decide ((fI s.heap nq (16 * (2 + x1.toNatClampNeg) + j)).toInt ≠ (fI s.heap tq (16 * (2 + x1.toNatClampNeg) + j)).toInt)) (fun j => fwJ (16 * (2 + x1.toNatClampNeg) + j)) (16 * (2 + x1.toNatClampNeg) + lm.toNatClampNeg - x1768.toNatClampNeg) (x1768.toNatClampNeg - 16 * (2 + x1.toNatClampNeg)) (vb)) → W p l e ({ frames := 9, cells := 0, slots := 0, locals := 216 } : Room) s m (([.ref a0, .int x1, .int x2] : List Value).toArray) below meth c H1763 locsH1763 0 0 Q (F0 m 43 ls1764 []) := by
    intro nf
    induction nf with
    | zero =>
      intro vb ls1764 H1763 locsH1763 x1766 x1767 x1768 x1769 x1770 hl1765 hTH1763 hSH1763 bx1766 bx1767 bx1768 bx1769 ex1769 ex1770 cy1771_0 cy1771_1 cy1771_2 cy1771_3 cy1771_4 cy1771_5 cy1771_6 cy1771_7 cy1771_8 cy1771_9 cy1771_10 cy1771_11 cy1771_12 cy1771_13 cy1771_14 cy1771_15 cy1771_16 cy1771_17 cy1771_18 cy1771_19 cy1771_20 cy1771_21 cy1771_22 mfy1771 gy1771_CG gy1771_TU gy1771_WD gy1771_IM fy1771_tf fy1771_s_gq fy1771_s_mq fy1771_s_lsq fy1771_s_l1q fy1771_s_l2q fy1771_s_l3q fy1771_s_nq fy1771_s_tq hm43 iv43 hvb43 hvo43 hrw43 hsp43
      have rx1770 := i_rng x1770
      exfalso
      omega
    | succ nf ih43 =>
      intro vb ls1764 H1763 locsH1763 x1766 x1767 x1768 x1769 x1770 hl1765 hTH1763 hSH1763 bx1766 bx1767 bx1768 bx1769 ex1769 ex1770 cy1771_0 cy1771_1 cy1771_2 cy1771_3 cy1771_4 cy1771_5 cy1771_6 cy1771_7 cy1771_8 cy1771_9 cy1771_10 cy1771_11 cy1771_12 cy1771_13 cy1771_14 cy1771_15 cy1771_16 cy1771_17 cy1771_18 cy1771_19 cy1771_20 cy1771_21 cy1771_22 mfy1771 gy1771_CG gy1771_TU gy1771_WD gy1771_IM fy1771_tf fy1771_s_gq fy1771_s_mq fy1771_s_lsq fy1771_s_l1q fy1771_s_l2q fy1771_s_l3q fy1771_s_nq fy1771_s_tq hm43 iv43 hvb43 hvo43 hrw43 hsp43
      have rx1770 := i_rng x1770
      refine lv_iload hx hb dX10_job_43 (lv_at hl1765 4 rfl) ?_
      refine lv_bipush (v := 16) hx hb dX10_job_45 (by decide) ?_
      refine lv_iload_n hx hb dX10_job_47 rfl (lv_at hl1765 2 rfl) ?_
      refine lv_imul hx hb dX10_job_48 ?_
      refine lv_topi (fun x1772 ex1772 => ?_)
      have tx1772 := i_mul ex1772 (by rw [n_16]; omega)
      rw [n_16] at tx1772
      refine lv_aload_n hx hb dX10_job_49 rfl (lv_at hl1765 0 rfl) ?_
      refine x_gr C hTH1763 (ci := 10) (k := 24) rfl inX10 (by decide) wF_X10_59 ga0 rg_112 rfl dX10_job_50 (fun q1773 eq1773 gq1773 => ?_)
      have uq1773 : mq = q1773 := (cy1771_12).trans eq1773.symm
      subst uq1773
      refine lv_iload_n hx hb dX10_job_53 rfl (lv_at hl1765 2 rfl) ?_
      refine x_ai C hTH1763 gmq rg_128 ⟨by omega, by show _ < ((7 : Nat) : Int); omega⟩ dX10_job_54 (fun x1774 ex1774 bx1774 => ?_)
      have cn_x1766 := i_cl (x := x1766) (by omega)
      have cn_x1 := i_cl (x := x1) (by omega)
      have qr1775 : fI s.heap mq x1766.toNatClampNeg = x1774 := ((fy1771_s_mq _).symm.trans ex1774.symm)
      have lmx1776 : x1774.toInt = lm.toInt := congrArg Int32.toInt (by rw [hy3, show (2 + x1.toNatClampNeg) = x1766.toNatClampNeg by omega]; exact qr1775.symm)
      refine lv_iadd hx hb dX10_job_55 ?_
      refine lv_topi (fun x1777 ex1777 => ?_)
      have tx1777 := i_add ex1777 (by omega)
      refine lv_icmp_ge (tgt := 87) hx hb dX10_job_56 (by decide) (fun c1778 => ?_) (fun c1778 => ?_)
      · have k1779 := i_le c1778
        refine lv_aload_n hx hb dX10_job_87 rfl (lv_at hl1765 0 rfl) ?_
        refine x_gr C hTH1763 (ci := 10) (k := 10) rfl inX10 (by decide) wF_X10_32 ga0 rg_112 rfl dX10_job_88 (fun q1780 eq1780 gq1780 => ?_)
        have uq1780 : psq = q1780 := (cy1771_3).trans eq1780.symm
        subst uq1780
        refine lv_iload_n hx hb dX10_job_91 rfl (lv_at hl1765 1 rfl) ?_
        refine x_ai C hTH1763 gpsq rg_119 ⟨by omega, by show _ < ((10 : Nat) : Int); omega⟩ dX10_job_92 (fun x1781 ex1781 bx1781 => ?_)
        have ux1781 : x1769 = x1781 := (ex1769).trans ex1781.symm
        subst ux1781
        refine lv_iload hx hb dX10_job_93 (lv_at hl1765 3 rfl) ?_
        refine lv_isub hx hb dX10_job_95 ?_
        refine lv_topi (fun x1782 ex1782 => ?_)
        have tx1782 := i_sub ex1782 (by omega)
        have cn_x1766 := i_cl (x := x1766) (by omega)
        have cn_x1768 := i_cl (x := x1768) (by omega)
        have cn_x1 := i_cl (x := x1) (by omega)
        have cn_lm := i_cl (x := lm) (by omega)
        exact x_iret C hQ dX10_job_96 hSH1763 (by decide) (by decide) (⟨x1782, x1769, x1770, rfl, ex1769, ex1770, cy1771_0, cy1771_1, cy1771_2, cy1771_3, cy1771_4, cy1771_5, cy1771_6, cy1771_7, cy1771_8, cy1771_9, cy1771_10, cy1771_11, cy1771_12, cy1771_13, cy1771_14, cy1771_15, cy1771_16, cy1771_17, cy1771_18, cy1771_20, cy1771_21, cy1771_22, gy1771_CG, gy1771_TU, gy1771_WD, gy1771_IM, mfy1771, (hvb43.trans ((joV_0 (by omega)).symm.trans hsp43.symm)), (by rw [show vwR K s.heap a0 x2.toNatClampNeg 8 0 = ps.toInt from by rw [vwR_f (Or.inr (Or.inl rfl))]; show (fI s.heap (fR s.heap a0 (K.1.2 10 10)) x2.toNatClampNeg).toInt = _; rw [← epsq, ← eps], show vwR K H1763 a0 x2.toNatClampNeg 8 0 = x1769.toInt from by rw [vwR_f (Or.inr (Or.inl rfl))]; show (fI H1763 (fR H1763 a0 (K.1.2 10 10)) x2.toNatClampNeg).toInt = _; rw [← cy1771_3, ← ex1769]]; omega), hvo43, hTH1763⟩)
      · have k1779 := i_nle c1778
        refine lv_aload_n hx hb dX10_job_59 rfl (lv_at hl1765 0 rfl) ?_
        refine lv_iload_n hx hb dX10_job_60 rfl (lv_at hl1765 1 rfl) ?_
        refine x_V (As := [.int x2]) (rest := []) C (a_X10_asksJob_v l K G H1763 (x2) (x1769) (fo) (fsE) (fwE) hTH1763 ga0 (by omega) guq cy1771_16 gpsq cy1771_3 ex1769 cy1771_21 gy1771_CG ((TXR.frr hT ga0 fy1771_tf hy0))) yo_X10_asksJob wM_X10_350 ⟨⟨by decide, by decide⟩, by decide, by decide⟩ (x_rv C hTH1763 (ci := 10) rfl ga0 rg_112) rfl hl1765.1 rfl (Nat.le_of_ble_eq_true rfl) dX10_job_61 hSH1763 (AE_sub (fun _ _ => rfl) (by decide) hSH1763.1) (fun vH1783 H1783 locsH1783 pH1783 zH1783 kH1783 hSH1783 => ?_)
        obtain ⟨hvH1783, m1784, hTH1783⟩ := pH1783
        subst hvH1783
        have mf1785 : MF K s.heap H1783 a0 [0] := MF.eff (x_lt hTH1763 kH1783 ga0 (by decide)) mfy1771
        have g1786 : CG (avw K H1783 a0) := CG.congr (fun k hk j => av_eff hTH1763 kH1783 ga0 (by decide) (CG_eff [140, 139] (by decide) k hk)) gy1771_CG
        have g1787 : TU (avw K H1783 a0) (svw K H1783 a0) := TU.congr (fun k hk j => av_eff hTH1763 kH1783 ga0 (by decide) (TU_eff [140, 139] (by decide) k hk)) (fun k hk => sv_eff hTH1763 kH1783 ga0 (by decide)) gy1771_TU
        have g1788 : WD (avw K H1783 a0) := WD.congr (fun k hk j => av_eff hTH1763 kH1783 ga0 (by decide) (WD_eff [140, 139] (by decide) k hk)) gy1771_WD
        have g1789 : IM (avw K H1783 a0) := IM.congr (fun k hk j => av_eff hTH1763 kH1783 ga0 (by decide) (IM_eff [140, 139] (by decide) k hk)) gy1771_IM
        have f1790 : TXG K a0 G H1783 s.heap := ⟨fun k h0 h1 => (fR_kept (x_lt hTH1763 kH1783 ga0 (by decide))).trans (fy1771_tf.1 k h0 h1), fun q t hq h1 => (x_lt hTH1763 kH1783 hq (by first | omega | (intro z; simp only [List.mem_cons, List.not_mem_nil, or_false] at z <;> omega))).trans (fy1771_tf.2 q t hq h1)⟩
        have f1791 : ∀ j : Nat, fI H1783 gq j = fI s.heap gq j := fun j => (fI_kept (x_lt hTH1763 kH1783 ggq (by decide))).trans (fy1771_s_gq j)
        have f1792 : ∀ j : Nat, fI H1783 mq j = fI s.heap mq j := fun j => (fI_kept (x_lt hTH1763 kH1783 gmq (by decide))).trans (fy1771_s_mq j)
        have f1793 : ∀ j : Nat, fI H1783 lsq j = fI s.heap lsq j := fun j => (fI_kept (x_lt hTH1763 kH1783 glsq (by decide))).trans (fy1771_s_lsq j)
        have f1794 : ∀ j : Nat, fI H1783 l1q j = fI s.heap l1q j := fun j => (fI_kept (x_lt hTH1763 kH1783 gl1q (by decide))).trans (fy1771_s_l1q j)
        have f1795 : ∀ j : Nat, fI H1783 l2q j = fI s.heap l2q j := fun j => (fI_kept (x_lt hTH1763 kH1783 gl2q (by decide))).trans (fy1771_s_l2q j)
        have f1796 : ∀ j : Nat, fI H1783 l3q j = fI s.heap l3q j := fun j => (fI_kept (x_lt hTH1763 kH1783 gl3q (by decide))).trans (fy1771_s_l3q j)
        have f1797 : ∀ j : Nat, fI H1783 nq j = fI s.heap nq j := fun j => (fI_kept (x_lt hTH1763 kH1783 gnq (by decide))).trans (fy1771_s_nq j)
        have f1798 : ∀ j : Nat, fI H1783 tq j = fI s.heap tq j := fun j => (fI_kept (x_lt hTH1763 kH1783 gtq (by decide))).trans (fy1771_s_tq j)
        have m1799 := (ex1769).trans (fI_kept (x_lt hTH1763 kH1783 gpsq (by decide))).symm
        have m1800 := (ex1770).trans (fI_kept (x_lt hTH1763 kH1783 glbq (by decide))).symm
        have m1801 := (cy1771_0).trans (fR_kept (x_lt hTH1763 kH1783 ga0 (by decide))).symm
        have m1802 := (cy1771_1).trans (fR_kept (x_lt hTH1763 kH1783 ga0 (by decide))).symm
        have m1803 := (cy1771_2).trans (fR_kept (x_lt hTH1763 kH1783 ga0 (by decide))).symm
        have m1804 := (cy1771_3).trans (fR_kept (x_lt hTH1763 kH1783 ga0 (by decide))).symm
        have m1805 := (cy1771_4).trans (fR_kept (x_lt hTH1763 kH1783 ga0 (by decide))).symm
        have m1806 := (cy1771_5).trans (fR_kept (x_lt hTH1763 kH1783 ga0 (by decide))).symm
        have m1807 := (cy1771_6).trans (fR_kept (x_lt hTH1763 kH1783 ga0 (by decide))).symm
        have m1808 := (cy1771_7).trans (fR_kept (x_lt hTH1763 kH1783 ga0 (by decide))).symm
        have m1809 := (cy1771_8).trans (fR_kept (x_lt hTH1763 kH1783 ga0 (by decide))).symm
        have m1810 := (cy1771_9).trans (fR_kept (x_lt hTH1763 kH1783 ga0 (by decide))).symm
        have m1811 := (cy1771_10).trans (fR_kept (x_lt hTH1763 kH1783 ga0 (by decide))).symm
        have m1812 := (cy1771_11).trans (fR_kept (x_lt hTH1763 kH1783 ga0 (by decide))).symm
        have m1813 := (cy1771_12).trans (fR_kept (x_lt hTH1763 kH1783 ga0 (by decide))).symm
        have m1814 := (cy1771_13).trans (fR_kept (x_lt hTH1763 kH1783 ga0 (by decide))).symm
        have m1815 := (cy1771_14).trans (fR_kept (x_lt hTH1763 kH1783 ga0 (by decide))).symm
        have m1816 := (cy1771_15).trans (fR_kept (x_lt hTH1763 kH1783 ga0 (by decide))).symm
        have m1817 := (cy1771_16).trans (fR_kept (x_lt hTH1763 kH1783 ga0 (by decide))).symm
        have m1818 := (cy1771_17).trans (fR_kept (x_lt hTH1763 kH1783 ga0 (by decide))).symm
        have m1819 := (cy1771_18).trans (fR_kept (x_lt hTH1763 kH1783 ga0 (by decide))).symm
        have m1820 := (cy1771_19).trans (fI_kept (x_lt hTH1763 kH1783 gslq (by decide))).symm
        have m1821 := (cy1771_20).trans (fI_kept (x_lt hTH1763 kH1783 ga0 (by decide))).symm
        have m1822 := (cy1771_21).trans (fI_kept (x_lt hTH1763 kH1783 ga0 (by decide))).symm
        have m1823 := (cy1771_22).trans (fI_kept (x_lt hTH1763 kH1783 ga0 (by decide))).symm
        have m1824 := (ex1774).trans (fI_kept (x_lt hTH1763 kH1783 gmq (by decide))).symm
        have sb1825 : mkE 0 (fun j => fI H1783 uq j) = sbE (toV (tlR K s.heap a0 fo.toNatClampNeg fsE fwE) vb 0) (toV (tlR K s.heap a0 fo.toNatClampNeg fsE fwE) vb 1) (toV (tlR K s.heap a0 fo.toNatClampNeg fsE fwE) vb 2) (vb 8 0) := by
          rw [show vb 8 0 = x1769.toInt from by rw [← hvb43, vwR_f (Or.inr (Or.inl rfl))]; show (fI H1763 (fR H1763 a0 (K.1.2 10 10)) x2.toNatClampNeg).toInt = _; rw [← cy1771_3, ← ex1769], ← hvb43, ← tlR_frr hT ga0 fy1771_tf, toV_tnR, toV_tnR, toV_tnR]
          exact sb_all m1784
        have vr1826 : vwR K H1783 a0 x2.toNatClampNeg = vb := (vr_frr hTH1763 ga0 (fun q t hq h1 h2 => x_lt hTH1763 kH1783 hq (by first | omega | (intro z; simp only [List.mem_cons, List.not_mem_nil, or_false] at z <;> omega)))).trans hvb43
        have vo1827 : ∀ b2 : Nat, b2 ≠ x2.toNatClampNeg → EqV (vwR K H1783 a0 b2) (vwR K s.heap a0 b2) := fun b2 hb => by rw [vr_frr hTH1763 ga0 (fun q t hq h1 h2 => x_lt hTH1763 kH1783 hq (by first | omega | (intro z; simp only [List.mem_cons, List.not_mem_nil, or_false] at z <;> omega)))]; exact hvo43 b2 hb
        refine W.eq (g2 := F0 m 64 ls1764 []) rfl ?_
        refine lv_aload_n hx hb dX10_job_64 rfl (lv_at hl1765 0 rfl) ?_
        refine lv_iload_n hx hb dX10_job_65 rfl (lv_at hl1765 2 rfl) ?_
        refine lv_iload hx hb dX10_job_66 (lv_at hl1765 4 rfl) ?_
        have cn_x1766 := i_cl (x := x1766) (by omega)
        have cn_x1768 := i_cl (x := x1768) (by omega)
        have cn_x1 := i_cl (x := x1) (by omega)
        have cn_lm := i_cl (x := lm) (by omega)
        refine x_V (As := [.int x1766, .int x1768]) (rest := []) C (a_X10_isSo_v l K G H1783 (x1766) (x1768) (x1774) ((fun l => fwJ l (mkE 0 (fun j => fI H1783 uq j)))) hTH1783 ga0 (by omega) (by omega) gmq m1813 goq m1814 gaq m1815 gsq m1816 guq m1817 gnq m1818 gtq m1819 m1824 g1786 (by omega) (by rw [show x1766.toNatClampNeg = (2 + x1.toNatClampNeg) by omega, m1814, m1815, m1818, m1819]; intro hne k; exact (TXR.frr hT ga0 f1790 hy2).2 x1768.toNatClampNeg (by omega) (by rw [← m1813, f1792 _, ← hy3]; omega) hne _ k)) yo_X10_isSo wM_X10_305 ⟨⟨by decide, by decide⟩, by decide, by decide⟩ (x_rv C hTH1783 (ci := 10) rfl ga0 rg_112) rfl hl1765.1 rfl (Nat.le_of_ble_eq_true rfl) dX10_job_68 hSH1783 (AE_sub (fun _ _ => rfl) (by decide) hSH1783.1) (fun vH1828 H1828 locsH1828 pH1828 zH1828 kH1828 hSH1828 => ?_)
        obtain ⟨x1829, hvH1828, bx1829, m1830, hTH1828⟩ := pH1828
        subst hvH1828
        have mf1831 : MF K s.heap H1828 a0 [0] := MF.eff (x_lt hTH1783 kH1828 ga0 (by decide)) mf1785
        have g1832 : CG (avw K H1828 a0) := CG.congr (fun k hk j => av_eff hTH1783 kH1828 ga0 (by decide) (CG_eff [140] (by decide) k hk)) g1786
        have g1833 : TU (avw K H1828 a0) (svw K H1828 a0) := TU.congr (fun k hk j => av_eff hTH1783 kH1828 ga0 (by decide) (TU_eff [140] (by decide) k hk)) (fun k hk => sv_eff hTH1783 kH1828 ga0 (by decide)) g1787
        have g1834 : WD (avw K H1828 a0) := WD.congr (fun k hk j => av_eff hTH1783 kH1828 ga0 (by decide) (WD_eff [140] (by decide) k hk)) g1788
        have g1835 : IM (avw K H1828 a0) := IM.congr (fun k hk j => av_eff hTH1783 kH1828 ga0 (by decide) (IM_eff [140] (by decide) k hk)) g1789
        have f1836 : TXG K a0 G H1828 s.heap := ⟨fun k h0 h1 => (fR_kept (x_lt hTH1783 kH1828 ga0 (by decide))).trans (f1790.1 k h0 h1), fun q t hq h1 => (x_lt hTH1783 kH1828 hq (by first | omega | (intro z; simp only [List.mem_cons, List.not_mem_nil, or_false] at z <;> omega))).trans (f1790.2 q t hq h1)⟩
        have f1837 : ∀ j : Nat, fI H1828 gq j = fI s.heap gq j := fun j => (fI_kept (x_lt hTH1783 kH1828 ggq (by decide))).trans (f1791 j)
        have f1838 : ∀ j : Nat, fI H1828 mq j = fI s.heap mq j := fun j => (fI_kept (x_lt hTH1783 kH1828 gmq (by decide))).trans (f1792 j)
        have f1839 : ∀ j : Nat, fI H1828 lsq j = fI s.heap lsq j := fun j => (fI_kept (x_lt hTH1783 kH1828 glsq (by decide))).trans (f1793 j)
        have f1840 : ∀ j : Nat, fI H1828 l1q j = fI s.heap l1q j := fun j => (fI_kept (x_lt hTH1783 kH1828 gl1q (by decide))).trans (f1794 j)
        have f1841 : ∀ j : Nat, fI H1828 l2q j = fI s.heap l2q j := fun j => (fI_kept (x_lt hTH1783 kH1828 gl2q (by decide))).trans (f1795 j)
        have f1842 : ∀ j : Nat, fI H1828 l3q j = fI s.heap l3q j := fun j => (fI_kept (x_lt hTH1783 kH1828 gl3q (by decide))).trans (f1796 j)
        have f1843 : ∀ j : Nat, fI H1828 nq j = fI s.heap nq j := fun j => (fI_kept (x_lt hTH1783 kH1828 gnq (by decide))).trans (f1797 j)
        have f1844 : ∀ j : Nat, fI H1828 tq j = fI s.heap tq j := fun j => (fI_kept (x_lt hTH1783 kH1828 gtq (by decide))).trans (f1798 j)
        have m1845 := (m1799).trans (fI_kept (x_lt hTH1783 kH1828 gpsq (by decide))).symm
        have m1846 := (m1800).trans (fI_kept (x_lt hTH1783 kH1828 glbq (by decide))).symm
        have m1847 := (m1801).trans (fR_kept (x_lt hTH1783 kH1828 ga0 (by decide))).symm
        have m1848 := (m1802).trans (fR_kept (x_lt hTH1783 kH1828 ga0 (by decide))).symm
        have m1849 := (m1803).trans (fR_kept (x_lt hTH1783 kH1828 ga0 (by decide))).symm
        have m1850 := (m1804).trans (fR_kept (x_lt hTH1783 kH1828 ga0 (by decide))).symm
        have m1851 := (m1805).trans (fR_kept (x_lt hTH1783 kH1828 ga0 (by decide))).symm
        have m1852 := (m1806).trans (fR_kept (x_lt hTH1783 kH1828 ga0 (by decide))).symm
        have m1853 := (m1807).trans (fR_kept (x_lt hTH1783 kH1828 ga0 (by decide))).symm
        have m1854 := (m1808).trans (fR_kept (x_lt hTH1783 kH1828 ga0 (by decide))).symm
        have m1855 := (m1809).trans (fR_kept (x_lt hTH1783 kH1828 ga0 (by decide))).symm
        have m1856 := (m1810).trans (fR_kept (x_lt hTH1783 kH1828 ga0 (by decide))).symm
        have m1857 := (m1811).trans (fR_kept (x_lt hTH1783 kH1828 ga0 (by decide))).symm
        have m1858 := (m1812).trans (fR_kept (x_lt hTH1783 kH1828 ga0 (by decide))).symm
        have m1859 := (m1813).trans (fR_kept (x_lt hTH1783 kH1828 ga0 (by decide))).symm
        have m1860 := (m1814).trans (fR_kept (x_lt hTH1783 kH1828 ga0 (by decide))).symm
        have m1861 := (m1815).trans (fR_kept (x_lt hTH1783 kH1828 ga0 (by decide))).symm
        have m1862 := (m1816).trans (fR_kept (x_lt hTH1783 kH1828 ga0 (by decide))).symm
        have m1863 := (m1817).trans (fR_kept (x_lt hTH1783 kH1828 ga0 (by decide))).symm
        have m1864 := (m1818).trans (fR_kept (x_lt hTH1783 kH1828 ga0 (by decide))).symm
        have m1865 := (m1819).trans (fR_kept (x_lt hTH1783 kH1828 ga0 (by decide))).symm
        have m1866 := (m1820).trans (fI_kept (x_lt hTH1783 kH1828 gslq (by decide))).symm
        have m1867 := (m1821).trans (fI_kept (x_lt hTH1783 kH1828 ga0 (by decide))).symm
        have m1868 := (m1822).trans (fI_kept (x_lt hTH1783 kH1828 ga0 (by decide))).symm
        have m1869 := (m1823).trans (fI_kept (x_lt hTH1783 kH1828 ga0 (by decide))).symm
        have m1870 := (m1824).trans (fI_kept (x_lt hTH1783 kH1828 gmq (by decide))).symm
        have co1871 : (x1829.toInt = 1 ∧ (fI s.heap tq x1768.toNatClampNeg = fI s.heap nq x1768.toNatClampNeg ∨ fwJ x1768.toNatClampNeg (sbE (toV (tlR K s.heap a0 fo.toNatClampNeg fsE fwE) vb 0) (toV (tlR K s.heap a0 fo.toNatClampNeg fsE fwE) vb 1) (toV (tlR K s.heap a0 fo.toNatClampNeg fsE fwE) vb 2) (vb 8 0)) ≠ 0)) ∨ (x1829.toInt = 0 ∧ fI s.heap tq x1768.toNatClampNeg ≠ fI s.heap nq x1768.toNatClampNeg ∧ fwJ x1768.toNatClampNeg (sbE (toV (tlR K s.heap a0 fo.toNatClampNeg fsE fwE) vb 0) (toV (tlR K s.heap a0 fo.toNatClampNeg fsE fwE) vb 1) (toV (tlR K s.heap a0 fo.toNatClampNeg fsE fwE) vb 2) (vb 8 0)) = 0) := by
          have z := m1830
          (try dsimp only at z)
          rw [sb1825, f1798 x1768.toNatClampNeg, f1797 x1768.toNatClampNeg] at z
          exact z
        have vr1872 : vwR K H1828 a0 x2.toNatClampNeg = vb := (vr_frr hTH1783 ga0 (fun q t hq h1 h2 => x_lt hTH1783 kH1828 hq (by first | omega | (intro z; simp only [List.mem_cons, List.not_mem_nil, or_false] at z <;> omega)))).trans vr1826
        have vo1873 : ∀ b2 : Nat, b2 ≠ x2.toNatClampNeg → EqV (vwR K H1828 a0 b2) (vwR K s.heap a0 b2) := fun b2 hb => by rw [vr_frr hTH1783 ga0 (fun q t hq h1 h2 => x_lt hTH1783 kH1828 hq (by first | omega | (intro z; simp only [List.mem_cons, List.not_mem_nil, or_false] at z <;> omega)))]; exact vo1827 b2 hb
        refine W.eq (g2 := F0 m 71 ls1764 [.int x1829]) rfl ?_
        refine lv_if_eq (tgt := 81) hx hb dX10_job_71 (by decide) (fun c1874 => ?_) (fun c1874 => ?_)
        · have k1875 := i_eq c1874
          obtain ⟨x1876, ex1876⟩ : ∃ y : Int32, y = x1768 + 1 := ⟨_, rfl⟩
          have tx1876 := i_add ex1876 (by omega)
          refine lv_iinc (v := x1876) (lv' := [(5, .int x1876), (0, .ref a0), (2, .int x2), (3, .int x1766), (4, .int x1767)]) hx hb dX10_job_81 hl1765 (k := 4) rfl (by rw [ex1876]; rfl) (by decide) rfl (fun ls1877 hl1878 => ?_)
          refine lv_goto (tgt := 43) hx hb dX10_job_84 (by decide) ?_
          have cn_x1766 := i_cl (x := x1766) (by omega)
          have cn_x1876 := i_cl (x := x1876) (by omega)
          have cn_x1 := i_cl (x := x1) (by omega)
          have cn_lm := i_cl (x := lm) (by omega)
          have cn_x1768 := i_cl (x := x1768) (by omega)
          exact ih43 vb ls1877 H1828 locsH1828 (x1766) (x1767) (x1876) (x1769) (x1770) (lv_sub hl1878 [1, 2, 3, 4, 0] rfl) hTH1828 hSH1828 (by have := i_rng x1766; omega) (by have := i_rng x1767; omega) (by have := i_rng x1876; omega) (by have := i_rng x1769; omega) m1845 m1846 m1847 m1848 m1849 m1850 m1851 m1852 m1853 m1854 m1855 m1856 m1857 m1858 m1859 m1860 m1861 m1862 m1863 m1864 m1865 m1866 m1867 m1868 m1869 mf1831 g1832 g1833 g1834 g1835 f1836 f1837 f1838 f1839 f1840 f1841 f1842 f1843 f1844 (by omega) (by omega) vr1872 vo1873 (by omega) (hsp43.trans (joV_n (by omega) (by omega) (by (try dsimp only); rw [show 16 * (2 + x1.toNatClampNeg) + (x1768.toNatClampNeg - 16 * (2 + x1.toNatClampNeg)) = x1768.toNatClampNeg by omega]; exact (fun z => by have c_ := (co1871.resolve_left (fun z => by have := z.1; omega)).2; exact z.elim (fun z => c_.1 (Int32.toInt_inj.mp (Classical.not_not.mp (of_decide_eq_false z)).symm)) (fun z => z c_.2)))))
        · have k1875 := i_ne c1874
          have cn_x1766 := i_cl (x := x1766) (by omega)
          have cn_x1768 := i_cl (x := x1768) (by omega)
          have cn_x1 := i_cl (x := x1) (by omega)
          have cn_lm := i_cl (x := lm) (by omega)
          have rl1879 := hy4 x1768.toNatClampNeg (by omega) (by omega)
          obtain ⟨x1880, ex1880⟩ : ∃ z : Int32, z = fI H1828 lsq (x1768 : Int32).toNatClampNeg := ⟨_, rfl⟩
          have bx1880 := ty_ai (x := x1880) ex1880 hTH1828 glsq rg_129 (by omega)
          obtain ⟨x1881, ex1881⟩ : ∃ z : Int32, z = fI H1828 l1q (x1768 : Int32).toNatClampNeg := ⟨_, rfl⟩
          have bx1881 := ty_ai (x := x1881) ex1881 hTH1828 gl1q rg_130 (by omega)
          obtain ⟨x1882, ex1882⟩ : ∃ z : Int32, z = fI H1828 l2q (x1768 : Int32).toNatClampNeg := ⟨_, rfl⟩
          have bx1882 := ty_ai (x := x1882) ex1882 hTH1828 gl2q rg_131 (by omega)
          obtain ⟨x1883, ex1883⟩ : ∃ z : Int32, z = fI H1828 l3q (x1768 : Int32).toNatClampNeg := ⟨_, rfl⟩
          have bx1883 := ty_ai (x := x1883) ex1883 hTH1828 gl3q rg_132 (by omega)
          rw [show fI s.heap lsq x1768.toNatClampNeg = x1880 from (ex1880.trans (f1839 _)).symm, show fI s.heap l1q x1768.toNatClampNeg = x1881 from (ex1881.trans (f1840 _)).symm, show fI s.heap l2q x1768.toNatClampNeg = x1882 from (ex1882.trans (f1841 _)).symm, show fI s.heap l3q x1768.toNatClampNeg = x1883 from (ex1883.trans (f1842 _)).symm] at rl1879
          refine lv_aload_n hx hb dX10_job_74 rfl (lv_at hl1765 0 rfl) ?_
          refine lv_iload_n hx hb dX10_job_75 rfl (lv_at hl1765 1 rfl) ?_
          refine lv_iload hx hb dX10_job_76 (lv_at hl1765 4 rfl) ?_
          refine x_V (As := [.int x2, .int x1768]) (rest := []) C (a_X10_doesLine_v l K G H1828 (x2) (x1768) (x1769) (x1770) (bs) (sz) (x1880) (x1881) (x1882) (x1883) (fo) (sl) (fsE) (fwE) hTH1828 ga0 (by omega) (by omega) gkq m1847 gpaq m1848 gpdq m1849 gpsq m1850 glbq m1851 ggq m1852 gslq m1853 gwxq m1854 glsq m1855 gl1q m1856 gl2q m1857 gl3q m1858 m1845 m1846 m1867 m1866 ex1880 ex1881 ex1882 ex1883 m1868 m1869 g1832 (by omega) (by omega) (by omega) (by omega) (by omega) (by omega) (by omega) ((TXR.frr hT ga0 f1836 hy0)) ((fun j hj => by rw [f1837 (3 * x2.toNatClampNeg + j)]; exact hy1 j hj))) yo_X10_doesLine wM_X10_353 ⟨⟨by decide, by decide⟩, by decide, by decide⟩ (x_rv C hTH1828 (ci := 10) rfl ga0 rg_112) rfl hl1765.1 rfl (Nat.le_of_ble_eq_true rfl) dX10_job_78 hSH1828 (AE_sub (fun _ _ => rfl) (by decide) hSH1828.1) (fun vH1884 H1884 locsH1884 pH1884 zH1884 kH1884 hSH1884 => ?_)
          obtain ⟨x1885, x1886, hvH1884, ex1885, ex1886, m1887, m1888, hTH1884⟩ := pH1884
          subst hvH1884
          have mf1889 : MF K s.heap H1884 a0 [0] := MF.eff (x_lt hTH1828 kH1884 ga0 (by decide)) mf1831
          have g1890 : CG (avw K H1884 a0) := CG.congr (fun k hk j => av_eff hTH1828 kH1884 ga0 (by decide) (CG_eff [114, 120, 121, 119, 122, 117, 140, 139] (by decide) k hk)) g1832
          have g1891 : TU (avw K H1884 a0) (svw K H1884 a0) := TU.congr (fun k hk j => av_eff hTH1828 kH1884 ga0 (by decide) (TU_eff [114, 120, 121, 119, 122, 117, 140, 139] (by decide) k hk)) (fun k hk => sv_eff hTH1828 kH1884 ga0 (by decide)) g1833
          have g1892 : WD (avw K H1884 a0) := WD.congr (fun k hk j => av_eff hTH1828 kH1884 ga0 (by decide) (WD_eff [114, 120, 121, 119, 122, 117, 140, 139] (by decide) k hk)) g1834
          have g1893 : IM (avw K H1884 a0) := IM.congr (fun k hk j => av_eff hTH1828 kH1884 ga0 (by decide) (IM_eff [114, 120, 121, 119, 122, 117, 140, 139] (by decide) k hk)) g1835
          have f1894 : TXG K a0 G H1884 s.heap := ⟨fun k h0 h1 => (fR_kept (x_lt hTH1828 kH1884 ga0 (by decide))).trans (f1836.1 k h0 h1), fun q t hq h1 => (x_lt hTH1828 kH1884 hq (by first | omega | (intro z; simp only [List.mem_cons, List.not_mem_nil, or_false] at z <;> omega))).trans (f1836.2 q t hq h1)⟩
          have f1895 : ∀ j : Nat, fI H1884 gq j = fI s.heap gq j := fun j => (fI_kept (x_lt hTH1828 kH1884 ggq (by decide))).trans (f1837 j)
          have f1896 : ∀ j : Nat, fI H1884 mq j = fI s.heap mq j := fun j => (fI_kept (x_lt hTH1828 kH1884 gmq (by decide))).trans (f1838 j)
          have f1897 : ∀ j : Nat, fI H1884 lsq j = fI s.heap lsq j := fun j => (fI_kept (x_lt hTH1828 kH1884 glsq (by decide))).trans (f1839 j)
          have f1898 : ∀ j : Nat, fI H1884 l1q j = fI s.heap l1q j := fun j => (fI_kept (x_lt hTH1828 kH1884 gl1q (by decide))).trans (f1840 j)
          have f1899 : ∀ j : Nat, fI H1884 l2q j = fI s.heap l2q j := fun j => (fI_kept (x_lt hTH1828 kH1884 gl2q (by decide))).trans (f1841 j)
          have f1900 : ∀ j : Nat, fI H1884 l3q j = fI s.heap l3q j := fun j => (fI_kept (x_lt hTH1828 kH1884 gl3q (by decide))).trans (f1842 j)
          have f1901 : ∀ j : Nat, fI H1884 nq j = fI s.heap nq j := fun j => (fI_kept (x_lt hTH1828 kH1884 gnq (by decide))).trans (f1843 j)
          have f1902 : ∀ j : Nat, fI H1884 tq j = fI s.heap tq j := fun j => (fI_kept (x_lt hTH1828 kH1884 gtq (by decide))).trans (f1844 j)
          have m1903 := (m1847).trans (fR_kept (x_lt hTH1828 kH1884 ga0 (by decide))).symm
          have m1904 := (m1848).trans (fR_kept (x_lt hTH1828 kH1884 ga0 (by decide))).symm
          have m1905 := (m1849).trans (fR_kept (x_lt hTH1828 kH1884 ga0 (by decide))).symm
          have m1906 := (m1850).trans (fR_kept (x_lt hTH1828 kH1884 ga0 (by decide))).symm
          have m1907 := (m1851).trans (fR_kept (x_lt hTH1828 kH1884 ga0 (by decide))).symm
          have m1908 := (m1852).trans (fR_kept (x_lt hTH1828 kH1884 ga0 (by decide))).symm
          have m1909 := (m1853).trans (fR_kept (x_lt hTH1828 kH1884 ga0 (by decide))).symm
          have m1910 := (m1854).trans (fR_kept (x_lt hTH1828 kH1884 ga0 (by decide))).symm
          have m1911 := (m1855).trans (fR_kept (x_lt hTH1828 kH1884 ga0 (by decide))).symm
          have m1912 := (m1856).trans (fR_kept (x_lt hTH1828 kH1884 ga0 (by decide))).symm
          have m1913 := (m1857).trans (fR_kept (x_lt hTH1828 kH1884 ga0 (by decide))).symm
          have m1914 := (m1858).trans (fR_kept (x_lt hTH1828 kH1884 ga0 (by decide))).symm
          have m1915 := (m1859).trans (fR_kept (x_lt hTH1828 kH1884 ga0 (by decide))).symm
          have m1916 := (m1860).trans (fR_kept (x_lt hTH1828 kH1884 ga0 (by decide))).symm
          have m1917 := (m1861).trans (fR_kept (x_lt hTH1828 kH1884 ga0 (by decide))).symm
          have m1918 := (m1862).trans (fR_kept (x_lt hTH1828 kH1884 ga0 (by decide))).symm
          have m1919 := (m1863).trans (fR_kept (x_lt hTH1828 kH1884 ga0 (by decide))).symm
          have m1920 := (m1864).trans (fR_kept (x_lt hTH1828 kH1884 ga0 (by decide))).symm
          have m1921 := (m1865).trans (fR_kept (x_lt hTH1828 kH1884 ga0 (by decide))).symm
          have m1922 := (m1866).trans (fI_kept (x_lt hTH1828 kH1884 gslq (by decide))).symm
          have m1923 := (m1867).trans (fI_kept (x_lt hTH1828 kH1884 ga0 (by decide))).symm
          have m1924 := (m1868).trans (fI_kept (x_lt hTH1828 kH1884 ga0 (by decide))).symm
          have m1925 := (m1869).trans (fI_kept (x_lt hTH1828 kH1884 ga0 (by decide))).symm
          have m1926 := (m1870).trans (fI_kept (x_lt hTH1828 kH1884 gmq (by decide))).symm
          have m1927 := (ex1880).trans (fI_kept (x_lt hTH1828 kH1884 glsq (by decide))).symm
          have m1928 := (ex1881).trans (fI_kept (x_lt hTH1828 kH1884 gl1q (by decide))).symm
          have m1929 := (ex1882).trans (fI_kept (x_lt hTH1828 kH1884 gl2q (by decide))).symm
          have m1930 := (ex1883).trans (fI_kept (x_lt hTH1828 kH1884 gl3q (by decide))).symm
          have bx1885 := ty_ai (x := x1885) ex1885 hTH1884 gpsq rg_119 (by omega)
          have bx1886 := ty_ai (x := x1886) ex1886 hTH1884 glbq rg_122 (by omega)
          have vr1931 : vwR K H1884 a0 x2.toNatClampNeg = (liV (tlR K s.heap a0 fo.toNatClampNeg fsE fwE) sl.toInt (wdR (fI s.heap lsq (16 * (2 + x1.toNatClampNeg) + (x1768.toNatClampNeg - 16 * (2 + x1.toNatClampNeg)))).toInt) (fI s.heap l1q (16 * (2 + x1.toNatClampNeg) + (x1768.toNatClampNeg - 16 * (2 + x1.toNatClampNeg)))).toInt (fI s.heap l2q (16 * (2 + x1.toNatClampNeg) + (x1768.toNatClampNeg - 16 * (2 + x1.toNatClampNeg)))).toInt (fI s.heap l3q (16 * (2 + x1.toNatClampNeg) + (x1768.toNatClampNeg - 16 * (2 + x1.toNatClampNeg)))).toInt vb) := by rw [show 16 * (2 + x1.toNatClampNeg) + (x1768.toNatClampNeg - 16 * (2 + x1.toNatClampNeg)) = x1768.toNatClampNeg by omega, m1887, tlR_frr hT ga0 f1836, vr1872, show x1880 = fI s.heap lsq x1768.toNatClampNeg from ex1880.trans (f1839 _), show x1881 = fI s.heap l1q x1768.toNatClampNeg from ex1881.trans (f1840 _), show x1882 = fI s.heap l2q x1768.toNatClampNeg from ex1882.trans (f1841 _), show x1883 = fI s.heap l3q x1768.toNatClampNeg from ex1883.trans (f1842 _)]
          have vo1932 : ∀ b2 : Nat, b2 ≠ x2.toNatClampNeg → EqV (vwR K H1884 a0 b2) (vwR K s.heap a0 b2) := fun b2 hb => (m1888 b2 hb).tr (vo1873 b2 hb)
          refine W.eq (g2 := F0 m 81 ls1764 []) rfl ?_
          obtain ⟨x1933, ex1933⟩ : ∃ y : Int32, y = x1768 + 1 := ⟨_, rfl⟩
          have tx1933 := i_add ex1933 (by omega)
          refine lv_iinc (v := x1933) (lv' := [(5, .int x1933), (0, .ref a0), (2, .int x2), (3, .int x1766), (4, .int x1767)]) hx hb dX10_job_81 hl1765 (k := 4) rfl (by rw [ex1933]; rfl) (by decide) rfl (fun ls1934 hl1935 => ?_)
          refine lv_goto (tgt := 43) hx hb dX10_job_84 (by decide) ?_
          have cn_x1766 := i_cl (x := x1766) (by omega)
          have cn_x1933 := i_cl (x := x1933) (by omega)
          have cn_x1 := i_cl (x := x1) (by omega)
          have cn_lm := i_cl (x := lm) (by omega)
          have cn_x1768 := i_cl (x := x1768) (by omega)
          exact ih43 (liV (tlR K s.heap a0 fo.toNatClampNeg fsE fwE) sl.toInt (wdR (fI s.heap lsq (16 * (2 + x1.toNatClampNeg) + (x1768.toNatClampNeg - 16 * (2 + x1.toNatClampNeg)))).toInt) (fI s.heap l1q (16 * (2 + x1.toNatClampNeg) + (x1768.toNatClampNeg - 16 * (2 + x1.toNatClampNeg)))).toInt (fI s.heap l2q (16 * (2 + x1.toNatClampNeg) + (x1768.toNatClampNeg - 16 * (2 + x1.toNatClampNeg)))).toInt (fI s.heap l3q (16 * (2 + x1.toNatClampNeg) + (x1768.toNatClampNeg - 16 * (2 + x1.toNatClampNeg)))).toInt vb) ls1934 H1884 locsH1884 (x1766) (x1767) (x1933) (x1885) (x1886) (lv_sub hl1935 [1, 2, 3, 4, 0] rfl) hTH1884 hSH1884 (by have := i_rng x1766; omega) (by have := i_rng x1767; omega) (by have := i_rng x1933; omega) (by have := i_rng x1885; omega) ex1885 ex1886 m1903 m1904 m1905 m1906 m1907 m1908 m1909 m1910 m1911 m1912 m1913 m1914 m1915 m1916 m1917 m1918 m1919 m1920 m1921 m1922 m1923 m1924 m1925 mf1889 g1890 g1891 g1892 g1893 f1894 f1895 f1896 f1897 f1898 f1899 f1900 f1901 f1902 (by omega) (by omega) vr1931 vo1932 (by omega) (hsp43.trans (joV_y (by omega) (by omega) (by (try dsimp only); rw [show 16 * (2 + x1.toNatClampNeg) + (x1768.toNatClampNeg - 16 * (2 + x1.toNatClampNeg)) = x1768.toNatClampNeg by omega]; exact (co1871.resolve_right (fun z => by have := z.1; omega)).2.imp (fun z => decide_eq_false (fun y => y (congrArg Int32.toInt z.symm))) id)))
  refine lv_aload_n hx hb dX10_job_0 rfl (lv_at hl 0 rfl) ?_
  refine lv_iconst (v := 0) hx hb dX10_job_1 (by decide) ?_
  refine x_put C hT hS (ci := 10) (k := 0) (v := .int 0) (ty0 := tyX10) rfl inX10 tyX10_ok nmX10 (by decide) rfl wF_X10_167 ga0 rg_112 rfl rfl (okI (by have := i_rng (0 : Int32); omega) (by have := i_rng (0 : Int32); omega)) rfl rfl (AE_in ga0 (by decide)) dX10_job_2 (fun H1936 locsH1936 hTH1936 hSH1936 wH1936 => ?_)
  have mf1937 : MF K s.heap H1936 a0 [0] := MF.fld hap wH1936 (by decide) (by decide) mf0
  have g1938 : CG (avw K H1936 a0) := CG.congr (fun k hk j => av_fld hT ga0 hap wH1936 (by decide) (CG_ok 112 (by decide) k hk) (CG_ne 0 (by decide) k hk)) hg_CG
  have g1939 : TU (avw K H1936 a0) (svw K H1936 a0) := TU.congr (fun k hk j => av_fld hT ga0 hap wH1936 (by decide) (TU_ok 112 (by decide) k hk) (TU_ne 0 (by decide) k hk)) (fun k hk => sv_fld hap wH1936 (by decide) (TU_slt k hk) (TU_sne 0 (by decide) k hk)) hg_TU
  have g1940 : WD (avw K H1936 a0) := WD.congr (fun k hk j => av_fld hT ga0 hap wH1936 (by decide) (WD_ok 112 (by decide) k hk) (WD_ne 0 (by decide) k hk)) hg_WD
  have g1941 : IM (avw K H1936 a0) := IM.congr (fun k hk j => av_fld hT ga0 hap wH1936 (by decide) (IM_ok 112 (by decide) k hk) (IM_ne 0 (by decide) k hk)) hg_IM
  have f1942 : TXG K a0 G H1936 s.heap := ⟨fun k h0 h1 => (Wr.neR wH1936 (Or.inr (hap k 0 h1 (by decide) (by omega)))).trans (f0_tf.1 k h0 h1), fun q t hq h1 => (wH1936.off (G_ne hq ga0 (by first | omega | (intro z; simp only [List.mem_cons, List.not_mem_nil, or_false] at z <;> omega)))).trans (f0_tf.2 q t hq h1)⟩
  have f1943 : ∀ j : Nat, fI H1936 gq j = fI s.heap gq j := fun j => (Wr.neI wH1936 (Or.inl (G_ne ggq ga0 (by decide)))).trans (f0_s_gq j)
  have f1944 : ∀ j : Nat, fI H1936 mq j = fI s.heap mq j := fun j => (Wr.neI wH1936 (Or.inl (G_ne gmq ga0 (by decide)))).trans (f0_s_mq j)
  have f1945 : ∀ j : Nat, fI H1936 lsq j = fI s.heap lsq j := fun j => (Wr.neI wH1936 (Or.inl (G_ne glsq ga0 (by decide)))).trans (f0_s_lsq j)
  have f1946 : ∀ j : Nat, fI H1936 l1q j = fI s.heap l1q j := fun j => (Wr.neI wH1936 (Or.inl (G_ne gl1q ga0 (by decide)))).trans (f0_s_l1q j)
  have f1947 : ∀ j : Nat, fI H1936 l2q j = fI s.heap l2q j := fun j => (Wr.neI wH1936 (Or.inl (G_ne gl2q ga0 (by decide)))).trans (f0_s_l2q j)
  have f1948 : ∀ j : Nat, fI H1936 l3q j = fI s.heap l3q j := fun j => (Wr.neI wH1936 (Or.inl (G_ne gl3q ga0 (by decide)))).trans (f0_s_l3q j)
  have f1949 : ∀ j : Nat, fI H1936 nq j = fI s.heap nq j := fun j => (Wr.neI wH1936 (Or.inl (G_ne gnq ga0 (by decide)))).trans (f0_s_nq j)
  have f1950 : ∀ j : Nat, fI H1936 tq j = fI s.heap tq j := fun j => (Wr.neI wH1936 (Or.inl (G_ne gtq ga0 (by decide)))).trans (f0_s_tq j)
  have m1951 := ekq.trans (Wr.neR wH1936 (Or.inr (x_apart hKT hts inX10 tyX10 tyX10_ok nmX10 rfl 5 0 (by decide) (by decide) (by decide)))).symm
  have m1952 := epaq.trans (Wr.neR wH1936 (Or.inr (x_apart hKT hts inX10 tyX10 tyX10_ok nmX10 rfl 11 0 (by decide) (by decide) (by decide)))).symm
  have m1953 := epdq.trans (Wr.neR wH1936 (Or.inr (x_apart hKT hts inX10 tyX10 tyX10_ok nmX10 rfl 12 0 (by decide) (by decide) (by decide)))).symm
  have m1954 := epsq.trans (Wr.neR wH1936 (Or.inr (x_apart hKT hts inX10 tyX10 tyX10_ok nmX10 rfl 10 0 (by decide) (by decide) (by decide)))).symm
  have m1955 := elbq.trans (Wr.neR wH1936 (Or.inr (x_apart hKT hts inX10 tyX10 tyX10_ok nmX10 rfl 13 0 (by decide) (by decide) (by decide)))).symm
  have m1956 := egq.trans (Wr.neR wH1936 (Or.inr (x_apart hKT hts inX10 tyX10 tyX10_ok nmX10 rfl 9 0 (by decide) (by decide) (by decide)))).symm
  have m1957 := eslq.trans (Wr.neR wH1936 (Or.inr (x_apart hKT hts inX10 tyX10 tyX10_ok nmX10 rfl 4 0 (by decide) (by decide) (by decide)))).symm
  have m1958 := ewxq.trans (Wr.neR wH1936 (Or.inr (x_apart hKT hts inX10 tyX10 tyX10_ok nmX10 rfl 8 0 (by decide) (by decide) (by decide)))).symm
  have m1959 := elsq.trans (Wr.neR wH1936 (Or.inr (x_apart hKT hts inX10 tyX10 tyX10_ok nmX10 rfl 25 0 (by decide) (by decide) (by decide)))).symm
  have m1960 := el1q.trans (Wr.neR wH1936 (Or.inr (x_apart hKT hts inX10 tyX10 tyX10_ok nmX10 rfl 26 0 (by decide) (by decide) (by decide)))).symm
  have m1961 := el2q.trans (Wr.neR wH1936 (Or.inr (x_apart hKT hts inX10 tyX10 tyX10_ok nmX10 rfl 27 0 (by decide) (by decide) (by decide)))).symm
  have m1962 := el3q.trans (Wr.neR wH1936 (Or.inr (x_apart hKT hts inX10 tyX10 tyX10_ok nmX10 rfl 28 0 (by decide) (by decide) (by decide)))).symm
  have m1963 := emq.trans (Wr.neR wH1936 (Or.inr (x_apart hKT hts inX10 tyX10 tyX10_ok nmX10 rfl 24 0 (by decide) (by decide) (by decide)))).symm
  have m1964 := eoq.trans (Wr.neR wH1936 (Or.inr (x_apart hKT hts inX10 tyX10 tyX10_ok nmX10 rfl 32 0 (by decide) (by decide) (by decide)))).symm
  have m1965 := eaq.trans (Wr.neR wH1936 (Or.inr (x_apart hKT hts inX10 tyX10 tyX10_ok nmX10 rfl 33 0 (by decide) (by decide) (by decide)))).symm
  have m1966 := esq.trans (Wr.neR wH1936 (Or.inr (x_apart hKT hts inX10 tyX10 tyX10_ok nmX10 rfl 44 0 (by decide) (by decide) (by decide)))).symm
  have m1967 := euq.trans (Wr.neR wH1936 (Or.inr (x_apart hKT hts inX10 tyX10 tyX10_ok nmX10 rfl 43 0 (by decide) (by decide) (by decide)))).symm
  have m1968 := enq.trans (Wr.neR wH1936 (Or.inr (x_apart hKT hts inX10 tyX10 tyX10_ok nmX10 rfl 30 0 (by decide) (by decide) (by decide)))).symm
  have m1969 := etq.trans (Wr.neR wH1936 (Or.inr (x_apart hKT hts inX10 tyX10 tyX10_ok nmX10 rfl 31 0 (by decide) (by decide) (by decide)))).symm
  have m1970 := eps.trans (Wr.neI wH1936 (Or.inl (G_ne gpsq ga0 (by decide)))).symm
  have m1971 := elb.trans (Wr.neI wH1936 (Or.inl (G_ne glbq ga0 (by decide)))).symm
  have m1972 := esz.trans (Wr.neI wH1936 (Or.inl (G_ne gslq ga0 (by decide)))).symm
  have m1973 := ebs.trans (Wr.neI wH1936 (Or.inr (x_apart hKT hts inX10 tyX10 tyX10_ok nmX10 rfl 1 0 (by decide) (by decide) (by decide)))).symm
  have m1974 := efo.trans (Wr.neI wH1936 (Or.inr (x_apart hKT hts inX10 tyX10 tyX10_ok nmX10 rfl 2 0 (by decide) (by decide) (by decide)))).symm
  have m1975 := esl.trans (Wr.neI wH1936 (Or.inr (x_apart hKT hts inX10 tyX10 tyX10_ok nmX10 rfl 3 0 (by decide) (by decide) (by decide)))).symm
  have m1976 := Wr.I wH1936
  have vr1977 : vwR K H1936 a0 x2.toNatClampNeg = (vwR K s.heap a0 x2.toNatClampNeg) := (vr_told hap hT ga0 wH1936).trans vr_0
  have vo1978 : ∀ b2 : Nat, b2 ≠ x2.toNatClampNeg → EqV (vwR K H1936 a0 b2) (vwR K s.heap a0 b2) := fun b2 hb => by rw [vr_told hap hT ga0 wH1936]; exact vo_0 b2 hb
  refine lv_aload_n hx hb dX10_job_5 rfl (lv_at hl 0 rfl) ?_
  refine lv_iload_n hx hb dX10_job_6 rfl (lv_at hl 1 rfl) ?_
  refine lv_iconst (v := 0) hx hb dX10_job_7 (by decide) ?_
  refine lv_iconst (v := 3) hx hb dX10_job_8 (by decide) ?_
  refine x_V (As := [.int x1, .int 0, .int 3]) (rest := []) C (a_X10_isIn_v l K G H1936 (x1) (0) (3) hTH1936 ga0) yo_X10_isIn wM_X10_177 ⟨⟨by decide, by decide⟩, by decide, by decide⟩ (x_rv C hTH1936 (ci := 10) rfl ga0 rg_112) rfl hl.1 rfl (Nat.le_of_ble_eq_true rfl) dX10_job_9 hSH1936 (AE_sub (fun _ _ => rfl) (by decide) hSH1936.1) (fun vH1979 H1979 locsH1979 pH1979 zH1979 kH1979 hSH1979 => ?_)
  obtain ⟨x1980, hvH1979, bx1980, hrH1979, hTH1979⟩ := pH1979
  subst hvH1979
  have mf1981 : MF K s.heap H1979 a0 [0] := MF.eff (x_lt hTH1936 kH1979 ga0 (by decide)) mf1937
  have g1982 : CG (avw K H1979 a0) := CG.congr (fun k hk j => av_eff hTH1936 kH1979 ga0 (by decide) (CG_eff [] (by decide) k hk)) g1938
  have g1983 : TU (avw K H1979 a0) (svw K H1979 a0) := TU.congr (fun k hk j => av_eff hTH1936 kH1979 ga0 (by decide) (TU_eff [] (by decide) k hk)) (fun k hk => sv_eff hTH1936 kH1979 ga0 (by decide)) g1939
  have g1984 : WD (avw K H1979 a0) := WD.congr (fun k hk j => av_eff hTH1936 kH1979 ga0 (by decide) (WD_eff [] (by decide) k hk)) g1940
  have g1985 : IM (avw K H1979 a0) := IM.congr (fun k hk j => av_eff hTH1936 kH1979 ga0 (by decide) (IM_eff [] (by decide) k hk)) g1941
  have f1986 : TXG K a0 G H1979 s.heap := ⟨fun k h0 h1 => (fR_kept (x_lt hTH1936 kH1979 ga0 (by decide))).trans (f1942.1 k h0 h1), fun q t hq h1 => (x_lt hTH1936 kH1979 hq (by first | omega | (intro z; simp only [List.mem_cons, List.not_mem_nil, or_false] at z <;> omega))).trans (f1942.2 q t hq h1)⟩
  have f1987 : ∀ j : Nat, fI H1979 gq j = fI s.heap gq j := fun j => (fI_kept (x_lt hTH1936 kH1979 ggq (by decide))).trans (f1943 j)
  have f1988 : ∀ j : Nat, fI H1979 mq j = fI s.heap mq j := fun j => (fI_kept (x_lt hTH1936 kH1979 gmq (by decide))).trans (f1944 j)
  have f1989 : ∀ j : Nat, fI H1979 lsq j = fI s.heap lsq j := fun j => (fI_kept (x_lt hTH1936 kH1979 glsq (by decide))).trans (f1945 j)
  have f1990 : ∀ j : Nat, fI H1979 l1q j = fI s.heap l1q j := fun j => (fI_kept (x_lt hTH1936 kH1979 gl1q (by decide))).trans (f1946 j)
  have f1991 : ∀ j : Nat, fI H1979 l2q j = fI s.heap l2q j := fun j => (fI_kept (x_lt hTH1936 kH1979 gl2q (by decide))).trans (f1947 j)
  have f1992 : ∀ j : Nat, fI H1979 l3q j = fI s.heap l3q j := fun j => (fI_kept (x_lt hTH1936 kH1979 gl3q (by decide))).trans (f1948 j)
  have f1993 : ∀ j : Nat, fI H1979 nq j = fI s.heap nq j := fun j => (fI_kept (x_lt hTH1936 kH1979 gnq (by decide))).trans (f1949 j)
  have f1994 : ∀ j : Nat, fI H1979 tq j = fI s.heap tq j := fun j => (fI_kept (x_lt hTH1936 kH1979 gtq (by decide))).trans (f1950 j)
  have m1995 := (m1951).trans (fR_kept (x_lt hTH1936 kH1979 ga0 (by decide))).symm
  have m1996 := (m1952).trans (fR_kept (x_lt hTH1936 kH1979 ga0 (by decide))).symm
  have m1997 := (m1953).trans (fR_kept (x_lt hTH1936 kH1979 ga0 (by decide))).symm
  have m1998 := (m1954).trans (fR_kept (x_lt hTH1936 kH1979 ga0 (by decide))).symm
  have m1999 := (m1955).trans (fR_kept (x_lt hTH1936 kH1979 ga0 (by decide))).symm
  have m2000 := (m1956).trans (fR_kept (x_lt hTH1936 kH1979 ga0 (by decide))).symm
  have m2001 := (m1957).trans (fR_kept (x_lt hTH1936 kH1979 ga0 (by decide))).symm
  have m2002 := (m1958).trans (fR_kept (x_lt hTH1936 kH1979 ga0 (by decide))).symm
  have m2003 := (m1959).trans (fR_kept (x_lt hTH1936 kH1979 ga0 (by decide))).symm
  have m2004 := (m1960).trans (fR_kept (x_lt hTH1936 kH1979 ga0 (by decide))).symm
  have m2005 := (m1961).trans (fR_kept (x_lt hTH1936 kH1979 ga0 (by decide))).symm
  have m2006 := (m1962).trans (fR_kept (x_lt hTH1936 kH1979 ga0 (by decide))).symm
  have m2007 := (m1963).trans (fR_kept (x_lt hTH1936 kH1979 ga0 (by decide))).symm
  have m2008 := (m1964).trans (fR_kept (x_lt hTH1936 kH1979 ga0 (by decide))).symm
  have m2009 := (m1965).trans (fR_kept (x_lt hTH1936 kH1979 ga0 (by decide))).symm
  have m2010 := (m1966).trans (fR_kept (x_lt hTH1936 kH1979 ga0 (by decide))).symm
  have m2011 := (m1967).trans (fR_kept (x_lt hTH1936 kH1979 ga0 (by decide))).symm
  have m2012 := (m1968).trans (fR_kept (x_lt hTH1936 kH1979 ga0 (by decide))).symm
  have m2013 := (m1969).trans (fR_kept (x_lt hTH1936 kH1979 ga0 (by decide))).symm
  have m2014 := (m1970).trans (fI_kept (x_lt hTH1936 kH1979 gpsq (by decide))).symm
  have m2015 := (m1971).trans (fI_kept (x_lt hTH1936 kH1979 glbq (by decide))).symm
  have m2016 := (m1972).trans (fI_kept (x_lt hTH1936 kH1979 gslq (by decide))).symm
  have m2017 := (m1973).trans (fI_kept (x_lt hTH1936 kH1979 ga0 (by decide))).symm
  have m2018 := (m1974).trans (fI_kept (x_lt hTH1936 kH1979 ga0 (by decide))).symm
  have m2019 := (m1975).trans (fI_kept (x_lt hTH1936 kH1979 ga0 (by decide))).symm
  have m2020 := (fI_kept (x_lt hTH1936 kH1979 ga0 (by decide))).trans m1976
  have vr2021 : vwR K H1979 a0 x2.toNatClampNeg = (vwR K s.heap a0 x2.toNatClampNeg) := (vr_frr hTH1936 ga0 (fun q t hq h1 h2 => x_lt hTH1936 kH1979 hq (by first | omega | (intro z; simp only [List.mem_cons, List.not_mem_nil, or_false] at z <;> omega)))).trans vr1977
  have vo2022 : ∀ b2 : Nat, b2 ≠ x2.toNatClampNeg → EqV (vwR K H1979 a0 b2) (vwR K s.heap a0 b2) := fun b2 hb => by rw [vr_frr hTH1936 ga0 (fun q t hq h1 h2 => x_lt hTH1936 kH1979 hq (by first | omega | (intro z; simp only [List.mem_cons, List.not_mem_nil, or_false] at z <;> omega)))]; exact vo1978 b2 hb
  refine W.eq (g2 := F0 m 12 ls [.int x1980]) rfl ?_
  refine lv_if_eq (tgt := 23) hx hb dX10_job_12 (by decide) (fun c2023 => ?_) (fun c2023 => ?_)
  · have k2024 := i_eq c2023
    refine lv_iconst (v := (-1)) hx hb dX10_job_23 (by decide) ?_
    exact x_iret C hQ dX10_job_24 hSH1979 (by decide) (by decide) (⟨(-1), ps, lb, rfl, m2014, m2015, m1995, m1996, m1997, m1998, m1999, m2000, m2001, m2002, m2003, m2004, m2005, m2006, m2007, m2008, m2009, m2010, m2011, m2012, m2013, m2017, m2018, m2019, g1982, g1983, g1984, g1985, mf1981, (by exfalso; omega), (by exfalso; omega), vo2022, hTH1979⟩)
  · have k2024 := i_ne c2023
    refine lv_aload_n hx hb dX10_job_15 rfl (lv_at hl 0 rfl) ?_
    refine lv_iload_n hx hb dX10_job_16 rfl (lv_at hl 2 rfl) ?_
    refine x_V (As := [.int x2]) (rest := []) C (a_X10_isBar_r l K G H1979 (x2) (bs) hTH1979 ga0 m2017) yo_X10_isBar wM_X10_173 ⟨⟨by decide, by decide⟩, by decide, by decide⟩ (x_rv C hTH1979 (ci := 10) rfl ga0 rg_112) rfl hl.1 rfl (Nat.le_of_ble_eq_true rfl) dX10_job_17 hSH1979 (AE_sub (fun _ _ => rfl) (by decide) hSH1979.1) (fun vH2025 H2025 locsH2025 pH2025 zH2025 kH2025 hSH2025 => ?_)
    obtain ⟨x2026, hvH2025, bx2026, hrH2025, hTH2025⟩ := pH2025
    subst hvH2025
    have mf2027 : MF K s.heap H2025 a0 [0] := MF.eff (x_lt hTH1979 kH2025 ga0 (by decide)) mf1981
    have g2028 : CG (avw K H2025 a0) := CG.congr (fun k hk j => av_eff hTH1979 kH2025 ga0 (by decide) (CG_eff [] (by decide) k hk)) g1982
    have g2029 : TU (avw K H2025 a0) (svw K H2025 a0) := TU.congr (fun k hk j => av_eff hTH1979 kH2025 ga0 (by decide) (TU_eff [] (by decide) k hk)) (fun k hk => sv_eff hTH1979 kH2025 ga0 (by decide)) g1983
    have g2030 : WD (avw K H2025 a0) := WD.congr (fun k hk j => av_eff hTH1979 kH2025 ga0 (by decide) (WD_eff [] (by decide) k hk)) g1984
    have g2031 : IM (avw K H2025 a0) := IM.congr (fun k hk j => av_eff hTH1979 kH2025 ga0 (by decide) (IM_eff [] (by decide) k hk)) g1985
    have f2032 : TXG K a0 G H2025 s.heap := ⟨fun k h0 h1 => (fR_kept (x_lt hTH1979 kH2025 ga0 (by decide))).trans (f1986.1 k h0 h1), fun q t hq h1 => (x_lt hTH1979 kH2025 hq (by first | omega | (intro z; simp only [List.mem_cons, List.not_mem_nil, or_false] at z <;> omega))).trans (f1986.2 q t hq h1)⟩
    have f2033 : ∀ j : Nat, fI H2025 gq j = fI s.heap gq j := fun j => (fI_kept (x_lt hTH1979 kH2025 ggq (by decide))).trans (f1987 j)
    have f2034 : ∀ j : Nat, fI H2025 mq j = fI s.heap mq j := fun j => (fI_kept (x_lt hTH1979 kH2025 gmq (by decide))).trans (f1988 j)
    have f2035 : ∀ j : Nat, fI H2025 lsq j = fI s.heap lsq j := fun j => (fI_kept (x_lt hTH1979 kH2025 glsq (by decide))).trans (f1989 j)
    have f2036 : ∀ j : Nat, fI H2025 l1q j = fI s.heap l1q j := fun j => (fI_kept (x_lt hTH1979 kH2025 gl1q (by decide))).trans (f1990 j)
    have f2037 : ∀ j : Nat, fI H2025 l2q j = fI s.heap l2q j := fun j => (fI_kept (x_lt hTH1979 kH2025 gl2q (by decide))).trans (f1991 j)
    have f2038 : ∀ j : Nat, fI H2025 l3q j = fI s.heap l3q j := fun j => (fI_kept (x_lt hTH1979 kH2025 gl3q (by decide))).trans (f1992 j)
    have f2039 : ∀ j : Nat, fI H2025 nq j = fI s.heap nq j := fun j => (fI_kept (x_lt hTH1979 kH2025 gnq (by decide))).trans (f1993 j)
    have f2040 : ∀ j : Nat, fI H2025 tq j = fI s.heap tq j := fun j => (fI_kept (x_lt hTH1979 kH2025 gtq (by decide))).trans (f1994 j)
    have m2041 := (m1995).trans (fR_kept (x_lt hTH1979 kH2025 ga0 (by decide))).symm
    have m2042 := (m1996).trans (fR_kept (x_lt hTH1979 kH2025 ga0 (by decide))).symm
    have m2043 := (m1997).trans (fR_kept (x_lt hTH1979 kH2025 ga0 (by decide))).symm
    have m2044 := (m1998).trans (fR_kept (x_lt hTH1979 kH2025 ga0 (by decide))).symm
    have m2045 := (m1999).trans (fR_kept (x_lt hTH1979 kH2025 ga0 (by decide))).symm
    have m2046 := (m2000).trans (fR_kept (x_lt hTH1979 kH2025 ga0 (by decide))).symm
    have m2047 := (m2001).trans (fR_kept (x_lt hTH1979 kH2025 ga0 (by decide))).symm
    have m2048 := (m2002).trans (fR_kept (x_lt hTH1979 kH2025 ga0 (by decide))).symm
    have m2049 := (m2003).trans (fR_kept (x_lt hTH1979 kH2025 ga0 (by decide))).symm
    have m2050 := (m2004).trans (fR_kept (x_lt hTH1979 kH2025 ga0 (by decide))).symm
    have m2051 := (m2005).trans (fR_kept (x_lt hTH1979 kH2025 ga0 (by decide))).symm
    have m2052 := (m2006).trans (fR_kept (x_lt hTH1979 kH2025 ga0 (by decide))).symm
    have m2053 := (m2007).trans (fR_kept (x_lt hTH1979 kH2025 ga0 (by decide))).symm
    have m2054 := (m2008).trans (fR_kept (x_lt hTH1979 kH2025 ga0 (by decide))).symm
    have m2055 := (m2009).trans (fR_kept (x_lt hTH1979 kH2025 ga0 (by decide))).symm
    have m2056 := (m2010).trans (fR_kept (x_lt hTH1979 kH2025 ga0 (by decide))).symm
    have m2057 := (m2011).trans (fR_kept (x_lt hTH1979 kH2025 ga0 (by decide))).symm
    have m2058 := (m2012).trans (fR_kept (x_lt hTH1979 kH2025 ga0 (by decide))).symm
    have m2059 := (m2013).trans (fR_kept (x_lt hTH1979 kH2025 ga0 (by decide))).symm
    have m2060 := (m2014).trans (fI_kept (x_lt hTH1979 kH2025 gpsq (by decide))).symm
    have m2061 := (m2015).trans (fI_kept (x_lt hTH1979 kH2025 glbq (by decide))).symm
    have m2062 := (m2016).trans (fI_kept (x_lt hTH1979 kH2025 gslq (by decide))).symm
    have m2063 := (m2017).trans (fI_kept (x_lt hTH1979 kH2025 ga0 (by decide))).symm
    have m2064 := (m2018).trans (fI_kept (x_lt hTH1979 kH2025 ga0 (by decide))).symm
    have m2065 := (m2019).trans (fI_kept (x_lt hTH1979 kH2025 ga0 (by decide))).symm
    have m2066 := (fI_kept (x_lt hTH1979 kH2025 ga0 (by decide))).trans m2020
    have vr2067 : vwR K H2025 a0 x2.toNatClampNeg = (vwR K s.heap a0 x2.toNatClampNeg) := (vr_frr hTH1979 ga0 (fun q t hq h1 h2 => x_lt hTH1979 kH2025 hq (by first | omega | (intro z; simp only [List.mem_cons, List.not_mem_nil, or_false] at z <;> omega)))).trans vr2021
    have vo2068 : ∀ b2 : Nat, b2 ≠ x2.toNatClampNeg → EqV (vwR K H2025 a0 b2) (vwR K s.heap a0 b2) := fun b2 hb => by rw [vr_frr hTH1979 ga0 (fun q t hq h1 h2 => x_lt hTH1979 kH2025 hq (by first | omega | (intro z; simp only [List.mem_cons, List.not_mem_nil, or_false] at z <;> omega)))]; exact vo2022 b2 hb
    refine W.eq (g2 := F0 m 20 ls [.int x2026]) rfl ?_
    refine lv_if_ne (tgt := 25) hx hb dX10_job_20 (by decide) (fun c2069 => ?_) (fun c2069 => ?_)
    · have k2070 := i_ne c2069
      refine lv_iconst (v := 2) hx hb dX10_job_25 (by decide) ?_
      refine lv_iload_n hx hb dX10_job_26 rfl (lv_at hl 1 rfl) ?_
      refine lv_iadd hx hb dX10_job_27 ?_
      refine lv_topi (fun x2071 ex2071 => ?_)
      have tx2071 := i_add ex2071 (by omega)
      refine lv_istore_n (lv' := [(3, .int x2071), (0, .ref a0), (1, .int x1), (2, .int x2)]) hx hb dX10_job_28 rfl hl (by decide) rfl (fun ls2072 hl2073 => ?_)
      refine lv_aload_n hx hb dX10_job_29 rfl (lv_at hl2073 1 rfl) ?_
      refine x_gr C hTH2025 (ci := 10) (k := 10) rfl inX10 (by decide) wF_X10_32 ga0 rg_112 rfl dX10_job_30 (fun q2074 eq2074 gq2074 => ?_)
      have uq2074 : psq = q2074 := (m2044).trans eq2074.symm
      subst uq2074
      refine lv_iload_n hx hb dX10_job_33 rfl (lv_at hl2073 3 rfl) ?_
      refine x_ai C hTH2025 gpsq rg_119 ⟨by omega, by show _ < ((10 : Nat) : Int); omega⟩ dX10_job_34 (fun x2075 ex2075 bx2075 => ?_)
      have ux2075 : ps = x2075 := (m2060).trans ex2075.symm
      subst ux2075
      refine lv_istore (lv' := [(4, .int ps), (3, .int x2071), (0, .ref a0), (1, .int x1), (2, .int x2)]) hx hb dX10_job_35 hl2073 (by decide) rfl (fun ls2076 hl2077 => ?_)
      refine lv_bipush (v := 16) hx hb dX10_job_37 (by decide) ?_
      refine lv_iload_n hx hb dX10_job_39 rfl (lv_at hl2077 1 rfl) ?_
      refine lv_imul hx hb dX10_job_40 ?_
      refine lv_topi (fun x2078 ex2078 => ?_)
      have tx2078 := i_mul ex2078 (by rw [n_16]; omega)
      rw [n_16] at tx2078
      refine lv_istore (lv' := [(5, .int x2078), (4, .int ps), (3, .int x2071), (0, .ref a0), (1, .int x1), (2, .int x2)]) hx hb dX10_job_41 hl2077 (by decide) rfl (fun ls2079 hl2080 => ?_)
      have cn_x2071 := i_cl (x := x2071) (by omega)
      have cn_x2078 := i_cl (x := x2078) (by omega)
      have cn_x1 := i_cl (x := x1) (by omega)
      have cn_lm := i_cl (x := lm) (by omega)
      exact J43 ((96 - x2078.toInt).toNat + 1) (vwR K s.heap a0 x2.toNatClampNeg) ls2079 H2025 locsH2025 (x2071) (ps) (x2078) (ps) (lb) (lv_sub hl2080 [3, 5, 2, 1, 0] rfl) hTH2025 hSH2025 (by have := i_rng x2071; omega) (by have := i_rng ps; omega) (by have := i_rng x2078; omega) (by have := i_rng ps; omega) m2060 m2061 m2041 m2042 m2043 m2044 m2045 m2046 m2047 m2048 m2049 m2050 m2051 m2052 m2053 m2054 m2055 m2056 m2057 m2058 m2059 m2062 m2063 m2064 m2065 mf2027 g2028 g2029 g2030 g2031 f2032 f2033 f2034 f2035 f2036 f2037 f2038 f2039 f2040 (by omega) (by omega) vr2067 vo2068 (by omega) (by rw [show 16 * (2 + x1.toNatClampNeg) + lm.toNatClampNeg - x2078.toNatClampNeg = lm.toNatClampNeg by omega, show x2078.toNatClampNeg - 16 * (2 + x1.toNatClampNeg) = 0 by omega])
    · have k2070 := i_eq c2069
      refine lv_iconst (v := (-1)) hx hb dX10_job_23 (by decide) ?_
      exact x_iret C hQ dX10_job_24 hSH2025 (by decide) (by decide) (⟨(-1), ps, lb, rfl, m2060, m2061, m2041, m2042, m2043, m2044, m2045, m2046, m2047, m2048, m2049, m2050, m2051, m2052, m2053, m2054, m2055, m2056, m2057, m2058, m2059, m2063, m2064, m2065, g2028, g2029, g2030, g2031, mf2027, (by exfalso; omega), (by exfalso; omega), vo2068, hTH2025⟩)
