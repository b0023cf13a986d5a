/-- the lines' conditions lie among the steps there are -/
def TXB (K : KE) (H : Heap) (q n : Nat) : Prop := ∀ l : Nat, l < n → (fI H (fR H q (K.1.2 7 6)) l).toNatClampNeg ≤ (fI H q (K.1.2 7 9)).toNatClampNeg ∧ (fI H (fR H q (K.1.2 7 7)) l).toNatClampNeg ≤ (fI H q (K.1.2 7 9)).toNatClampNeg
set_option maxHeartbeats 4000000 in
set_option maxRecDepth 100000 in
theorem a_X9_textAt_l (l : Launch) (K : KE) (G : Nat → Option Nat) (H : Heap) {a0 nw lq tx : Nat} (x1 x2 : Int32) (hT : TY K G H) (ga0 : G a0 = some 68) (gnw : G nw = some 0) (enw : nw = fR H a0 (K.1.2 9 0)) (glq : G lq = some 26) (elq : lq = fR H nw (K.1.2 8 2)) (gtx : G tx = some 16) (etx : tx = fR H lq x2.toNatClampNeg) (hr : x1.toInt = 0 ∧ 0 ≤ x2.toInt ∧ x2.toInt < 2) : MX l K yX9_textAt cX9_textAt 3 (some (.object "RingBars$Text")) 1 22 0 0 [.ref a0, .int x1, .int x2] H (AE G [] H.size) (fun v H1 => H1 = H ∧ v = some (.ref tx)) := by
  refine MX.of (by decide +kernel) (Nat.le_of_ble_eq_true rfl) ?_
  intro p e s m below meth c ls Q C hH hl hQ
  subst hH
  have C : CX p K s m _ meth c RX9 cX9_textAt 3 (some (.object "RingBars$Text")) "textAt" := C
  obtain ⟨hx, hb, hml, hown, hts, hKT, hr, hlocks, hnm⟩ := id C
  have hl : lv_has ls 3 [(0, .ref a0), (1, .int x1), (2, .int x2)] := hl
  have hS : va_S (AE G [] s.heap.size) s.heap s.heap [] := va_S.rf
  have n_0 : (0 : Int32).toInt = 0 := rfl
  have n_1 : (1 : Int32).toInt = 1 := rfl
  refine lv_iload_n hx hb dX9_textAt_0 rfl (lv_at hl 1 rfl) ?_
  refine lv_if_ne (tgt := 23) hx hb dX9_textAt_1 (by decide) (fun c101 => ?_) (fun c101 => ?_)
  · have k102 := i_ne c101
    exfalso
    omega
  · have k102 := i_eq c101
    refine lv_iload_n hx hb dX9_textAt_4 rfl (lv_at hl 2 rfl) ?_
    refine lv_iconst (v := 0) hx hb dX9_textAt_5 (by decide) ?_
    refine lv_iconst (v := 1) hx hb dX9_textAt_6 (by decide) ?_
    refine x_S (As := [.int x2, .int 0, .int 1]) (rest := []) C (a_X9_within_v l K G s.heap (x2) (0) (1) hT) yo_X9_within wM_X9_89 ⟨⟨by decide, by decide⟩, by decide, by decide⟩ rfl hl.1 rfl (Nat.le_of_ble_eq_true rfl) dX9_textAt_7 hS (AE_sub (fun _ _ => rfl) (by decide) hS.1) (fun vH103 H103 locsH103 pH103 zH103 kH103 hSH103 => ?_)
    have hqH103 := pH103.1.symm
    subst hqH103
    rcases pH103.2 with ⟨hvH103, hcH103⟩ | ⟨hvH103, hcH103⟩
    · subst hvH103
      refine W.eq (g2 := F0 m 10 ls [.int 1]) rfl ?_
      refine lv_if_eq (tgt := 23) hx hb dX9_textAt_10 (by decide) (fun c104 => ?_) (fun c104 => ?_)
      · have k105 := i_eq c104
        exfalso
        omega
      · have k105 := i_ne c104
        refine lv_aload_n hx hb dX9_textAt_13 rfl (lv_at hl 0 rfl) ?_
        refine x_gr C hT (ci := 9) (k := 0) rfl inX9 (by decide) wF_X9_12 ga0 rg_68 rfl dX9_textAt_14 (fun q106 eq106 gq106 => ?_)
        have uq106 : nw = q106 := (enw).trans eq106.symm
        subst uq106
        refine x_gr C hT (ci := 8) (k := 2) rfl inX8 (by decide) wF_X9_158 gnw rg_0 rfl dX9_textAt_17 (fun q107 eq107 gq107 => ?_)
        have uq107 : lq = q107 := (elq).trans eq107.symm
        subst uq107
        refine lv_iload_n hx hb dX9_textAt_20 rfl (lv_at hl 2 rfl) ?_
        refine x_ar C hT rfl rfl glq rg_26 ⟨by omega, by show _ < ((2 : Nat) : Int); omega⟩ dX9_textAt_21 (fun q108 eq108 gq108 => ?_)
        replace eq108 : @Eq Ad q108 (fR s.heap lq (x2 : Int32).toNatClampNeg) := eq108
        exact x_aret C hQ (Or.inr ⟨_, rfl⟩) dX9_textAt_22 hSH103 (by decide) (by decide) (⟨rfl, by rw [← show tx = q108 from etx.trans eq108.symm]⟩)
    · subst hvH103
      refine W.eq (g2 := F0 m 10 ls [.int 0]) rfl ?_
      exfalso
      omega

set_option maxHeartbeats 4000000 in
set_option maxRecDepth 100000 in
theorem a_X9_text_l (l : Launch) (K : KE) (G : Nat → Option Nat) (H : Heap) {a0 : Nat} (x1 : Int32) (x2 : Int32) {nw : Nat} {lawq : Nat} {tx : Nat} {rq : Nat} {tq : Nat} {mq : Nat} {kq : Nat} {vq : Nat} {mw : Nat} {mf : Nat} {mj : Nat} {me : Nat} {ma : Nat} {mc : Nat} {md : Nat} {ms : Nat} {xw : Nat} {xf : Nat} {xj : Nat} {xe : Nat} {xa : Nat} {xc : Nat} {xd : Nat} {xs : Nat} (tp : Int32) (tat : Int32) (fa : Int32) (li : Int32) (lw : Int32) (sc : Int32) (s1 : Int32) (s4 : Int32) (s5 : Int32) (s10 : Int32) (s13 : Int32) (s16 : Int32) {kv : Value} (bt : Nat → Int) (hT : TY K G H) (ga0 : G a0 = some 68) (hx1 : 0 ≤ x1.toInt ∧ x1.toInt ≤ 0) (hx2 : 0 ≤ x2.toInt ∧ x2.toInt ≤ 1) (gnw : G nw = some 0) (enw : @Eq Ad nw (fR H a0 (K.1.2 9 0))) (glawq : G lawq = some 26) (elawq : @Eq Ad lawq (fR H nw (K.1.2 8 2))) (gtx : G tx = some 16) (etx : @Eq Ad tx (fR H lawq (x2 : Int32).toNatClampNeg)) (grq : G rq = some 78) (erq : @Eq Ad rq (fR H a0 (K.1.2 9 4))) (gtq : G tq = some 108) (etq : @Eq Ad tq (fR H a0 (K.1.2 9 2))) (gmq : G mq = some 69) (emq : @Eq Ad mq (fR H rq (K.1.2 4 0))) (gkq : G kq = some 79) (ekq : @Eq Ad kq (fR H rq (K.1.2 4 3))) (gvq : G vq = some 80) (evq : @Eq Ad vq (fR H rq (K.1.2 4 4))) (gmw : G mw = some 70) (emw : @Eq Ad mw (fR H mq (K.1.2 7 1))) (gmf : G mf = some 71) (emf : @Eq Ad mf (fR H mq (K.1.2 7 2))) (gmj : G mj = some 72) (emj : @Eq Ad mj (fR H mq (K.1.2 7 3))) (gme : G me = some 73) (eme : @Eq Ad me (fR H mq (K.1.2 7 4))) (gma : G ma = some 74) (ema : @Eq Ad ma (fR H mq (K.1.2 7 5))) (gmc : G mc = some 75) (emc : @Eq Ad mc (fR H mq (K.1.2 7 6))) (gmd : G md = some 76) (emd : @Eq Ad md (fR H mq (K.1.2 7 7))) (gms : G ms = some 77) (ems : @Eq Ad ms (fR H mq (K.1.2 7 8))) (gxw : G xw = some 17) (exw : @Eq Ad xw (fR H tx (K.1.2 7 1))) (gxf : G xf = some 18) (exf : @Eq Ad xf (fR H tx (K.1.2 7 2))) (gxj : G xj = some 19) (exj : @Eq Ad xj (fR H tx (K.1.2 7 3))) (gxe : G xe = some 20) (exe : @Eq Ad xe (fR H tx (K.1.2 7 4))) (gxa : G xa = some 21) (exa : @Eq Ad xa (fR H tx (K.1.2 7 5))) (gxc : G xc = some 22) (exc : @Eq Ad xc (fR H tx (K.1.2 7 6))) (gxd : G xd = some 23) (exd : @Eq Ad xd (fR H tx (K.1.2 7 7))) (gxs : G xs = some 24) (exs : @Eq Ad xs (fR H tx (K.1.2 7 8))) (etp : tp = fI H a0 (K.1.2 9 3)) (etat : tat = fI H rq (K.1.2 4 7)) (efa : fa = fI H rq (K.1.2 4 1)) (eli : li = fI H mq (K.1.2 7 0)) (elw : lw = fI H rq (K.1.2 4 8)) (esc : sc = fI H mq (K.1.2 7 9)) (es1 : s1 = fI H nw (K.1.2 8 1)) (es4 : s4 = fI H nw (K.1.2 8 4)) (es5 : s5 = fI H nw (K.1.2 8 5)) (es10 : s10 = fI H nw (K.1.2 8 10)) (es13 : s13 = fI H nw (K.1.2 8 13)) (es16 : s16 = fI H nw (K.1.2 8 16)) (hkv : fV H a0 (K.1.2 9 1) = kv) (hv_bt : ∀ j : Nat, bt j = (fI H tq j).toInt) : MX l K yX9_text cX9_text 6 (some .int) 39 869 0 0 [.ref a0, .int x1, .int x2] H (AE G [68, 0, 78, 79, 80, 81, 69, 70, 71, 72, 73, 74, 75, 76, 77, 16, 17, 18, 19, 20, 21, 22, 23, 24] H.size) (fun v H1 => ∃ (r : Int32) (t0 : Int32) (t1 : Int32) (t2 : Int32) (t3 : Int32) (t4 : Int32) (t5 : Int32), v = some (.int r) ∧ t0 = fI H1 a0 (K.1.2 9 3) ∧ t1 = fI H1 rq (K.1.2 4 7) ∧ t2 = fI H1 rq (K.1.2 4 1) ∧ t3 = fI H1 mq (K.1.2 7 0) ∧ t4 = fI H1 rq (K.1.2 4 8) ∧ t5 = fI H1 mq (K.1.2 7 9) ∧ (t0.toInt = 0) ∧ @Eq Ad nw (fR H1 a0 (K.1.2 9 0)) ∧ @Eq Ad lawq (fR H1 nw (K.1.2 8 2)) ∧ @Eq Ad rq (fR H1 a0 (K.1.2 9 4)) ∧ @Eq Ad tq (fR H1 a0 (K.1.2 9 2)) ∧ @Eq Ad mq (fR H1 rq (K.1.2 4 0)) ∧ @Eq Ad kq (fR H1 rq (K.1.2 4 3)) ∧ @Eq Ad vq (fR H1 rq (K.1.2 4 4)) ∧ @Eq Ad mw (fR H1 mq (K.1.2 7 1)) ∧ @Eq Ad mf (fR H1 mq (K.1.2 7 2)) ∧ @Eq Ad mj (fR H1 mq (K.1.2 7 3)) ∧ @Eq Ad me (fR H1 mq (K.1.2 7 4)) ∧ @Eq Ad ma (fR H1 mq (K.1.2 7 5)) ∧ @Eq Ad mc (fR H1 mq (K.1.2 7 6)) ∧ @Eq Ad md (fR H1 mq (K.1.2 7 7)) ∧ @Eq Ad ms (fR H1 mq (K.1.2 7 8)) ∧ @Eq Ad xw (fR H1 tx (K.1.2 7 1)) ∧ @Eq Ad xf (fR H1 tx (K.1.2 7 2)) ∧ @Eq Ad xj (fR H1 tx (K.1.2 7 3)) ∧ @Eq Ad xe (fR H1 tx (K.1.2 7 4)) ∧ @Eq Ad xa (fR H1 tx (K.1.2 7 5)) ∧ @Eq Ad xc (fR H1 tx (K.1.2 7 6)) ∧ @Eq Ad xd (fR H1 tx (K.1.2 7 7)) ∧ @Eq Ad xs (fR H1 tx (K.1.2 7 8)) ∧ s1 = fI H1 nw (K.1.2 8 1) ∧ s4 = fI H1 nw (K.1.2 8 4) ∧ s5 = fI H1 nw (K.1.2 8 5) ∧ s10 = fI H1 nw (K.1.2 8 10) ∧ s13 = fI H1 nw (K.1.2 8 13) ∧ s16 = fI H1 nw (K.1.2 8 16) ∧ (TXA bt tp.toNatClampNeg x1 x2 r) ∧ ((r.toInt = -1) ∨ (∃ n : Nat, r.toInt = (n : Int) ∧ n ≤ 16 ∧ fI H1 tx (K.1.2 7 0) = r ∧ TXM K H1 tx (kK bt tp.toNatClampNeg) (vV bt tp.toNatClampNeg) 1 n ∧ TXB K H1 tx n)) ∧ (∀ q t : Nat, G q = some t → t ≠ 68 → t ≠ 0 → t ≠ 78 → t ≠ 79 → t ≠ 80 → t ≠ 81 → t ≠ 69 → t ≠ 70 → t ≠ 71 → t ≠ 72 → t ≠ 73 → t ≠ 74 → t ≠ 75 → t ≠ 76 → t ≠ 77 → q ≠ tx → q ≠ xw → q ≠ xf → q ≠ xj → q ≠ xe → q ≠ xa → q ≠ xc → q ≠ xd → q ≠ xs → H1[q]? = H[q]?) ∧ ((r.toInt ≠ -1) ∨ ∀ q t : Nat, G q = some t → t ≠ 68 → t ≠ 0 → t ≠ 78 → t ≠ 79 → t ≠ 80 → t ≠ 81 → t ≠ 69 → t ≠ 70 → t ≠ 71 → t ≠ 72 → t ≠ 73 → t ≠ 74 → t ≠ 75 → t ≠ 76 → t ≠ 77 → H1[q]? = H[q]?) ∧ (NWF K H1 H nw) ∧ fV H1 a0 (K.1.2 9 1) = kv ∧ TY K G H1) := by
  refine MX.of (by decide +kernel) (Nat.le_of_ble_eq_true rfl) ?_
  intro p e s m below meth c ls Q C hH hl hQ
  subst hH
  have C : CX p K s m _ meth c RX9 cX9_text 6 (some .int) "text" := C
  obtain ⟨hx, hb, hml, hown, hts, hKT, hr, hlocks, hnm⟩ := id C
  have hl : lv_has ls 6 [(0, .ref a0), (1, .int x1), (2, .int x2)] := hl
  have hS : va_S (AE G [68, 0, 78, 79, 80, 81, 69, 70, 71, 72, 73, 74, 75, 76, 77, 16, 17, 18, 19, 20, 21, 22, 23, 24] s.heap.size) s.heap s.heap [] := va_S.rf
  have n_m1 : ((-1) : Int32).toInt = -1 := rfl
  have n_0 : (0 : Int32).toInt = 0 := rfl
  have n_1 : (1 : Int32).toInt = 1 := rfl
  have n_16 : (16 : Int32).toInt = 16 := rfl
  have n_26 : (26 : Int32).toInt = 26 := rfl
  have btp := ty_fi (x := tp) (k := 3) etp hT ga0 rg_68 rfl
  have btat := ty_fi (x := tat) (k := 7) etat hT grq rg_78 rfl
  have bfa := ty_fi (x := fa) (k := 1) efa hT grq rg_78 rfl
  have bli := ty_fi (x := li) (k := 0) eli hT gmq rg_69 rfl
  have blw := ty_fi (x := lw) (k := 8) elw hT grq rg_78 rfl
  have bsc := ty_fi (x := sc) (k := 9) esc hT gmq rg_69 rfl
  have bs1 := ty_fi (x := s1) (k := 1) es1 hT gnw rg_0 rfl
  have bs4 := ty_fi (x := s4) (k := 4) es4 hT gnw rg_0 rfl
  have bs5 := ty_fi (x := s5) (k := 5) es5 hT gnw rg_0 rfl
  have bs10 := ty_fi (x := s10) (k := 10) es10 hT gnw rg_0 rfl
  have bs13 := ty_fi (x := s13) (k := 13) es13 hT gnw rg_0 rfl
  have bs16 := ty_fi (x := s16) (k := 16) es16 hT gnw rg_0 rfl
  have hapW : ∀ x y, x < 17 → y < 17 → x ≠ y → K.1.2 8 x ≠ K.1.2 8 y := x_apart hKT hts inX8 tyX8 tyX8_ok nmX8 rfl
  have f0_bt := hv_bt
  have f0_fx : ∀ q t : Nat, G q = some t → t ≠ 68 → t ≠ 0 → t ≠ 78 → t ≠ 79 → t ≠ 80 → t ≠ 81 → t ≠ 69 → t ≠ 70 → t ≠ 71 → t ≠ 72 → t ≠ 73 → t ≠ 74 → t ≠ 75 → t ≠ 76 → t ≠ 77 → q ≠ tx → q ≠ xw → q ≠ xf → q ≠ xj → q ≠ xe → q ≠ xa → q ≠ xc → q ≠ xd → q ≠ xs → s.heap[q]? = s.heap[q]? := fun _ _ _ _ _ _ _ _ _ _ _ _ _ _ _ _ _ _ _ _ _ _ _ _ _ _ _ => rfl
  have f0_fy : ∀ q t : Nat, G q = some t → t ≠ 68 → t ≠ 0 → t ≠ 78 → t ≠ 79 → t ≠ 80 → t ≠ 81 → t ≠ 69 → t ≠ 70 → t ≠ 71 → t ≠ 72 → t ≠ 73 → t ≠ 74 → t ≠ 75 → t ≠ 76 → t ≠ 77 → s.heap[q]? = s.heap[q]? := fun _ _ _ _ _ _ _ _ _ _ _ _ _ _ _ _ _ _ => rfl
  have f0_nw : NWF K s.heap s.heap nw := NWF.rf
  have J65 : ∀ (nf : Nat) (F : Int32) (ls6316 : Array Slot) (H6315 : Heap) (locsH6315 : List Loc) (x6318 : Int32) (x6319 : Int32) (x6320 : Int32) (x6321 : Int32) (x6322 : Int32) (x6323 : Int32) (x6324 : Int32), lv_has ls6316 6 [(0, .ref a0), (4, .ref tx), (5, .int x6318)] → TY K G H6315 → va_S (AE G [68, 0, 78, 79, 80, 81, 69, 70, 71, 72, 73, 74, 75, 76, 77, 16, 17, 18, 19, 20, 21, 22, 23, 24] s.heap.size) s.heap H6315 locsH6315 → (0 ≤ x6318.toInt ∧ x6318.toInt ≤ 17) → (0 ≤ x6319.toInt ∧ x6319.toInt ≤ 0) → (0 ≤ x6320.toInt ∧ x6320.toInt ≤ 500) → (0 ≤ x6322.toInt ∧ x6322.toInt ≤ 16) → (0 ≤ x6323.toInt ∧ x6323.toInt ≤ 1) → (0 ≤ x6324.toInt ∧ x6324.toInt ≤ 500) → (x6319 = fI H6315 a0 (K.1.2 9 3)) → (x6320 = fI H6315 rq (K.1.2 4 7)) → (x6321 = fI H6315 rq (K.1.2 4 1)) → (x6322 = fI H6315 mq (K.1.2 7 0)) → (x6323 = fI H6315 rq (K.1.2 4 8)) → (x6324 = fI H6315 mq (K.1.2 7 9)) → (@Eq Ad nw (fR H6315 a0 (K.1.2 9 0))) → (@Eq Ad lawq (fR H6315 nw (K.1.2 8 2))) → (@Eq Ad tx (fR H6315 lawq (x2 : Int32).toNatClampNeg)) → (@Eq Ad rq (fR H6315 a0 (K.1.2 9 4))) → (@Eq Ad tq (fR H6315 a0 (K.1.2 9 2))) → (@Eq Ad mq (fR H6315 rq (K.1.2 4 0))) → (@Eq Ad kq (fR H6315 rq (K.1.2 4 3))) → (@Eq Ad vq (fR H6315 rq (K.1.2 4 4))) → (@Eq Ad mw (fR H6315 mq (K.1.2 7 1))) → (@Eq Ad mf (fR H6315 mq (K.1.2 7 2))) → (@Eq Ad mj (fR H6315 mq (K.1.2 7 3))) → (@Eq Ad me (fR H6315 mq (K.1.2 7 4))) → (@Eq Ad ma (fR H6315 mq (K.1.2 7 5))) → (@Eq Ad mc (fR H6315 mq (K.1.2 7 6))) → (@Eq Ad md (fR H6315 mq (K.1.2 7 7))) → (@Eq Ad ms (fR H6315 mq (K.1.2 7 8))) → (@Eq Ad xw (fR H6315 tx (K.1.2 7 1))) → (@Eq Ad xf (fR H6315 tx (K.1.2 7 2))) → (@Eq Ad xj (fR H6315 tx (K.1.2 7 3))) → (@Eq Ad xe (fR H6315 tx (K.1.2 7 4))) → (@Eq Ad xa (fR H6315 tx (K.1.2 7 5))) → (@Eq Ad xc (fR H6315 tx (K.1.2 7 6))) → (@Eq Ad xd (fR H6315 tx (K.1.2 7 7))) → (@Eq Ad xs (fR H6315 tx (K.1.2 7 8))) → (s1 = fI H6315 nw (K.1.2 8 1)) → (s4 = fI H6315 nw (K.1.2 8 4)) → (s5 = fI H6315 nw (K.1.2 8 5)) → (s10 = fI H6315 nw (K.1.2 8 10)) → (s13 = fI H6315 nw (K.1.2 8 13)) → (s16 = fI H6315 nw (K.1.2 8 16)) → (fV H6315 a0 (K.1.2 9 1) = kv) → (∀ j : Nat, bt j = (fI H6315 tq j).toInt) → (∀ q t : Nat, G q = some t → t ≠ 68 → t ≠ 0 → t ≠ 78 → t ≠ 79 → t ≠ 80 → t ≠ 81 → t ≠ 69 → t ≠ 70 → t ≠ 71 → t ≠ 72 → t ≠ 73 → t ≠ 74 → t ≠ 75 → t ≠ 76 → t ≠ 77 → q ≠ tx → q ≠ xw → q ≠ xf → q ≠ xj → q ≠ xe → q ≠ xa → q ≠ xc → q ≠ xd → q ≠ xs → H6315[q]? = s.heap[q]?) → (∀ q t : Nat, G q = some t → t ≠ 68 → t ≠ 0 → t ≠ 78 → t ≠ 79 → t ≠ 80 → t ≠ 81 → t ≠ 69 → t ≠ 70 → t ≠ 71 → t ≠ 72 → t ≠ 73 → t ≠ 74 → t ≠ 75 → t ≠ 76 → t ≠ 77 → H6315[q]? = s.heap[q]?) → (NWF K H6315 s.heap nw) → (17 - x6318.toInt < (nf : Int)) → (x6319.toInt = 0 ∧ (x6321.toInt ≠ 0 ∨ x6318.toInt = x6322.toInt) ∧ x6323.toInt = 1 ∧ (x6321.toInt ≠ 0 ∨ x6324.toInt ≤ x6320.toInt) ∧ ((x1.toInt = 0 ∧ 0 ≤ x2.toInt ∧ x2.toInt ≤ 1) ∨ (x1.toInt = 1 ∧ 0 ≤ x2.toInt ∧ x2.toInt ≤ 3))) → (0 ≤ F.toInt ∧ F.toInt ≤ 500) → (x6320.toInt ≤ F.toInt) → (fI H6315 kq F.toNatClampNeg = 26) → (∀ j : Nat, j ≤ F.toNatClampNeg → (kK bt tp.toNatClampNeg) j = (fI H6315 kq j).toInt) → (∀ j : Nat, j ≤ F.toNatClampNeg → (vV bt tp.toNatClampNeg) j = (fI H6315 vq j).toInt) → (HD (x6321.toInt = 0 → txS (kK bt tp.toNatClampNeg) (vV bt tp.toNatClampNeg) (if x1.toInt = 0 then 1 else 0) 18 0 0 = txS (kK bt tp.toNatClampNeg) (vV bt tp.toNatClampNeg) (if x1.toInt = 0 then 1 else 0) (18 - x6318.toNatClampNeg) x6322.toNatClampNeg x6320.toNatClampNeg)) → (HD (x6321.toInt ≠ 0 → txS (kK bt tp.toNatClampNeg) (vV bt tp.toNatClampNeg) (if x1.toInt = 0 then 1 else 0) 18 0 0 = none)) → (HD (x6321.toInt = 0 → TXW H6315 mw mf mj me ma mc md ms (kK bt tp.toNatClampNeg) (vV bt tp.toNatClampNeg) 1 x6322.toNatClampNeg x6320.toNatClampNeg x6324.toNatClampNeg)) → W p l e ({ frames := 39, cells := 0, slots := 0, locals := 869 } : Room) s m (([.ref a0, .int x1, .int x2] : List Value).toArray) below meth c H6315 locsH6315 0 0 Q (F0 m 65 ls6316 []) := by
    intro nf
    induction nf with
    | zero =>
      intro F ls6316 H6315 locsH6315 x6318 x6319 x6320 x6321 x6322 x6323 x6324 hl6317 hTH6315 hSH6315 bx6318 bx6319 bx6320 bx6322 bx6323 bx6324 ex6319 ex6320 ex6321 ex6322 ex6323 ex6324 cy6325_0 cy6325_1 cy6325_2 cy6325_3 cy6325_4 cy6325_5 cy6325_6 cy6325_7 cy6325_8 cy6325_9 cy6325_10 cy6325_11 cy6325_12 cy6325_13 cy6325_14 cy6325_15 cy6325_16 cy6325_17 cy6325_18 cy6325_19 cy6325_20 cy6325_21 cy6325_22 cy6325_23 cy6325_24 cy6325_25 cy6325_26 cy6325_27 cy6325_28 cy6325_29 cy6325_30 fy6325_bt fy6325_fx fy6325_fy fy6325_nw hm65 iv65 hF1 hF2 hF3 hF4 hF5 hF6 hF7 hF8
      have rx6321 := i_rng x6321
      exfalso
      omega
    | succ nf ih65 =>
      intro F ls6316 H6315 locsH6315 x6318 x6319 x6320 x6321 x6322 x6323 x6324 hl6317 hTH6315 hSH6315 bx6318 bx6319 bx6320 bx6322 bx6323 bx6324 ex6319 ex6320 ex6321 ex6322 ex6323 ex6324 cy6325_0 cy6325_1 cy6325_2 cy6325_3 cy6325_4 cy6325_5 cy6325_6 cy6325_7 cy6325_8 cy6325_9 cy6325_10 cy6325_11 cy6325_12 cy6325_13 cy6325_14 cy6325_15 cy6325_16 cy6325_17 cy6325_18 cy6325_19 cy6325_20 cy6325_21 cy6325_22 cy6325_23 cy6325_24 cy6325_25 cy6325_26 cy6325_27 cy6325_28 cy6325_29 cy6325_30 fy6325_bt fy6325_fx fy6325_fy fy6325_nw hm65 iv65 hF1 hF2 hF3 hF4 hF5 hF6 hF7 hF8
      have rx6321 := i_rng x6321
      refine lv_iload hx hb dX9_text_65 (lv_at hl6317 2 rfl) ?_
      refine lv_bipush (v := 16) hx hb dX9_text_67 (by decide) ?_
      refine lv_icmp_gt (tgt := 96) hx hb dX9_text_69 (by decide) (fun c6326 => ?_) (fun c6326 => ?_)
      · have k6327 := i_lt c6326
        refine lv_aload_n hx hb dX9_text_96 rfl (lv_at hl6317 0 rfl) ?_
        refine x_gr C hTH6315 (ci := 9) (k := 4) rfl inX9 (by decide) wF_X9_23 ga0 rg_68 rfl dX9_text_97 (fun q6328 eq6328 gq6328 => ?_)
        have uq6328 : rq = q6328 := (cy6325_3).trans eq6328.symm
        subst uq6328
        refine x_gi C hTH6315 (ci := 4) (k := 1) rfl inX4 (by decide) wF_X9_132 grq rg_78 rfl dX9_text_100 (fun x6329 ex6329 bx6329 => ?_)
        have ux6329 : x6321 = x6329 := (ex6321).trans ex6329.symm
        subst ux6329
        refine lv_if_eq (tgt := 136) hx hb dX9_text_103 (by decide) (fun c6330 => ?_) (fun c6330 => ?_)
        · have k6331 := i_eq c6330
          refine lv_aload hx hb dX9_text_136 (lv_at hl6317 1 rfl) ?_
          refine lv_aload_n hx hb dX9_text_138 rfl (lv_at hl6317 0 rfl) ?_
          refine x_gr C hTH6315 (ci := 9) (k := 4) rfl inX9 (by decide) wF_X9_23 ga0 rg_68 rfl dX9_text_139 (fun q6332 eq6332 gq6332 => ?_)
          have uq6332 : rq = q6332 := (cy6325_3).trans eq6332.symm
          subst uq6332
          refine x_gr C hTH6315 (ci := 4) (k := 0) rfl inX4 (by decide) wF_X9_134 grq rg_78 rfl dX9_text_142 (fun q6333 eq6333 gq6333 => ?_)
          have uq6333 : mq = q6333 := (cy6325_5).trans eq6333.symm
          subst uq6333
          obtain ⟨x6334, ex6334⟩ : ∃ z : Int32, z = fI H6315 tx (K.1.2 7 0) := ⟨_, rfl⟩
          have bx6334 := ty_fi (x := x6334) (k := 0) ex6334 hTH6315 gtx rg_16 rfl
          obtain ⟨x6335, ex6335⟩ : ∃ z : Int32, z = fI H6315 tx (K.1.2 7 9) := ⟨_, rfl⟩
          have bx6335 := ty_fi (x := x6335) (k := 9) ex6335 hTH6315 gtx rg_16 rfl
          refine x_V (As := [.ref mq]) (rest := []) C (a_X7_copyFrom_gm l K G H6315 (x6334) (x6335) (x6322) (x6324) hTH6315 gtx gmq gxw cy6325_16 gxf cy6325_17 gxj cy6325_18 gxe cy6325_19 gxa cy6325_20 gxc cy6325_21 gxd cy6325_22 gxs cy6325_23 gmw cy6325_8 gmf cy6325_9 gmj cy6325_10 gme cy6325_11 gma cy6325_12 gmc cy6325_13 gmd cy6325_14 gms cy6325_15 ex6334 ex6335 ex6322 ex6324) yo_X7_copyFrom wM_X9_138 ⟨⟨by decide, by decide⟩, by decide, by decide⟩ (x_rv C hTH6315 (ci := 7) rfl gtx rg_16) rfl hl6317.1 rfl (Nat.le_of_ble_eq_true rfl) dX9_text_145 hSH6315 (AE_sub (fun _ _ => rfl) (by decide) hSH6315.1) (fun vH6336 H6336 locsH6336 pH6336 zH6336 kH6336 hSH6336 => ?_)
          obtain ⟨x6337, x6338, hvH6336, ex6337, ex6338, hrH6336, m6339, m6340, m6341, m6342, m6343, m6344, m6345, m6346, m6347, m6348, m6349, m6350, m6351, m6352, m6353, m6354, m6355, hTH6336⟩ := pH6336
          subst hvH6336
          have f6356 : ∀ j : Nat, bt j = (fI H6336 tq j).toInt := fun j => (fy6325_bt j).trans (congrArg Int32.toInt (fI_kept (x_lt hTH6315 kH6336 gtq (by decide))).symm)
          have f6357 : NWF K H6336 s.heap nw := NWF.st fy6325_nw (fun k hk => fR_kept (x_lt hTH6315 kH6336 gnw (by decide)))
          have f6358 : ∀ j : Nat, j ≤ F.toNatClampNeg → (kK bt tp.toNatClampNeg) j = (fI H6336 kq j).toInt := fun j hj => (hF4 j hj).trans (congrArg Int32.toInt (fI_kept (x_lt hTH6315 kH6336 gkq (by decide))).symm)
          have f6359 : ∀ j : Nat, j ≤ F.toNatClampNeg → (vV bt tp.toNatClampNeg) j = (fI H6336 vq j).toInt := fun j hj => (hF5 j hj).trans (congrArg Int32.toInt (fI_kept (x_lt hTH6315 kH6336 gvq (by decide))).symm)
          have m6360 := (ex6319).trans (fI_kept (x_lt hTH6315 kH6336 ga0 (by decide))).symm
          have m6361 := (ex6320).trans (fI_kept (x_lt hTH6315 kH6336 grq (by decide))).symm
          have m6362 := (ex6321).trans (fI_kept (x_lt hTH6315 kH6336 grq (by decide))).symm
          have m6363 := (ex6322).trans (fI_kept (x_lt hTH6315 kH6336 gmq (by decide))).symm
          have m6364 := (ex6323).trans (fI_kept (x_lt hTH6315 kH6336 grq (by decide))).symm
          have m6365 := (ex6324).trans (fI_kept (x_lt hTH6315 kH6336 gmq (by decide))).symm
          have m6366 := (cy6325_0).trans (fR_kept (x_lt hTH6315 kH6336 ga0 (by decide))).symm
          have m6367 := (cy6325_1).trans (fR_kept (x_lt hTH6315 kH6336 gnw (by decide))).symm
          have m6368 := (cy6325_2).trans (fR_kept (x_lt hTH6315 kH6336 glawq (by decide))).symm
          have m6369 := (cy6325_3).trans (fR_kept (x_lt hTH6315 kH6336 ga0 (by decide))).symm
          have m6370 := (cy6325_4).trans (fR_kept (x_lt hTH6315 kH6336 ga0 (by decide))).symm
          have m6371 := (cy6325_5).trans (fR_kept (x_lt hTH6315 kH6336 grq (by decide))).symm
          have m6372 := (cy6325_6).trans (fR_kept (x_lt hTH6315 kH6336 grq (by decide))).symm
          have m6373 := (cy6325_7).trans (fR_kept (x_lt hTH6315 kH6336 grq (by decide))).symm
          have m6374 := (cy6325_8).trans (fR_kept (x_lt hTH6315 kH6336 gmq (by decide))).symm
          have m6375 := (cy6325_9).trans (fR_kept (x_lt hTH6315 kH6336 gmq (by decide))).symm
          have m6376 := (cy6325_10).trans (fR_kept (x_lt hTH6315 kH6336 gmq (by decide))).symm
          have m6377 := (cy6325_11).trans (fR_kept (x_lt hTH6315 kH6336 gmq (by decide))).symm
          have m6378 := (cy6325_12).trans (fR_kept (x_lt hTH6315 kH6336 gmq (by decide))).symm
          have m6379 := (cy6325_13).trans (fR_kept (x_lt hTH6315 kH6336 gmq (by decide))).symm
          have m6380 := (cy6325_14).trans (fR_kept (x_lt hTH6315 kH6336 gmq (by decide))).symm
          have m6381 := (cy6325_15).trans (fR_kept (x_lt hTH6315 kH6336 gmq (by decide))).symm
          have m6382 := (cy6325_24).trans (fI_kept (x_lt hTH6315 kH6336 gnw (by decide))).symm
          have m6383 := (cy6325_25).trans (fI_kept (x_lt hTH6315 kH6336 gnw (by decide))).symm
          have m6384 := (cy6325_26).trans (fI_kept (x_lt hTH6315 kH6336 gnw (by decide))).symm
          have m6385 := (cy6325_27).trans (fI_kept (x_lt hTH6315 kH6336 gnw (by decide))).symm
          have m6386 := (cy6325_28).trans (fI_kept (x_lt hTH6315 kH6336 gnw (by decide))).symm
          have m6387 := (cy6325_29).trans (fI_kept (x_lt hTH6315 kH6336 gnw (by decide))).symm
          have m6388 := (fV_kept (x_lt hTH6315 kH6336 ga0 (by decide))).trans cy6325_30
          have m6389 := (fI_kept (x_lt hTH6315 kH6336 gkq (by decide))).trans hF3
          have bx6337 := ty_fi (x := x6337) (k := 0) ex6337 hTH6336 gtx rg_16 rfl
          have bx6338 := ty_fi (x := x6338) (k := 9) ex6338 hTH6336 gtx rg_16 rfl
          have f6390 : ∀ q t : Nat, G q = some t → t ≠ 68 → t ≠ 0 → t ≠ 78 → t ≠ 79 → t ≠ 80 → t ≠ 81 → t ≠ 69 → t ≠ 70 → t ≠ 71 → t ≠ 72 → t ≠ 73 → t ≠ 74 → t ≠ 75 → t ≠ 76 → t ≠ 77 → q ≠ tx → q ≠ xw → q ≠ xf → q ≠ xj → q ≠ xe → q ≠ xa → q ≠ xc → q ≠ xd → q ≠ xs → H6336[q]? = s.heap[q]? := fun q t hq h1 h2 h3 h4 h5 h6 h7 h8 h9 h10 h11 h12 h13 h14 h15 n1 n2 n3 n4 n5 n6 n7 n8 n9 => (m6355 q t hq n1 n2 n3 n4 n5 n6 n7 n8 n9).trans (fy6325_fx q t hq h1 h2 h3 h4 h5 h6 h7 h8 h9 h10 h11 h12 h13 h14 h15 n1 n2 n3 n4 n5 n6 n7 n8 n9)
          refine W.eq (g2 := F0 m 148 ls6316 []) rfl ?_
          refine lv_aload hx hb dX9_text_148 (lv_at hl6317 1 rfl) ?_
          refine x_gi C hTH6336 (ci := 7) (k := 0) rfl inX7 (by decide) wF_X9_144 gtx rg_16 rfl dX9_text_150 (fun x6391 ex6391 bx6391 => ?_)
          have ux6391 : x6337 = x6391 := (ex6337).trans ex6391.symm
          subst ux6391
          have cn_x6322 := i_cl (x := x6322) bx6322.1
          have cn_x6320 := i_cl (x := x6320) bx6320.1
          have cn_x6318 := i_cl (x := x6318) bx6318.1
          have cn_F := i_cl (x := F) (by omega)
          have cn_x6324 := i_cl (x := x6324) bx6324.1
          exact x_iret C hQ dX9_text_153 hSH6336 (by decide) (by decide) (⟨x6337, x6319, x6320, x6321, x6322, x6323, x6324, rfl, m6360, m6361, m6362, m6363, m6364, m6365, by omega, m6366, m6367, m6369, m6370, m6371, m6372, m6373, m6374, m6375, m6376, m6377, m6378, m6379, m6380, m6381, m6339, m6340, m6341, m6342, m6343, m6344, m6345, m6346, m6382, m6383, m6384, m6385, m6386, m6387, Or.inl ⟨by omega, Or.inr ⟨x6322.toNatClampNeg, (HD.get hF6 (by omega)).trans (tx_end (by omega) (by omega)), by omega⟩⟩, (Or.inr ⟨x6322.toNatClampNeg, by omega, by omega, (ex6337).symm, fun j hj => by rw [← m6339, ← m6340, ← m6341, ← m6342, ← m6343, ← m6344, ← m6345, ← m6346, m6347 j (by omega), m6348 j (by omega), m6349 j (by omega), m6350 j (by omega), m6351 j (by omega), m6352 j (by omega), m6353 j (by omega)]; exact ((HD.get hF8 (by omega)).2 j (by omega)).1.keep (fun i hi => m6354 i (by omega)) ((HD.get hF8 (by omega)).2 j (by omega)).2.1 ((HD.get hF8 (by omega)).2 j (by omega)).2.2, fun j hj => by have zz := ((HD.get hF8 (by omega)).2 j (by omega)).2; have zc : x6338 = x6324 := Int32.toInt_inj.mp (by omega); rw [← m6344, ← m6345, m6352 j (by omega), m6353 j (by omega), ← ex6338, zc]; exact zz⟩), f6390, (Or.inl (by omega)), f6357, m6388, hTH6336⟩)
        · have k6331 := i_ne c6330
          refine lv_aload_n hx hb dX9_text_106 rfl (lv_at hl6317 0 rfl) ?_
          refine x_gr C hTH6315 (ci := 9) (k := 0) rfl inX9 (by decide) wF_X9_12 ga0 rg_68 rfl dX9_text_107 (fun q6392 eq6392 gq6392 => ?_)
          have uq6392 : nw = q6392 := (cy6325_0).trans eq6392.symm
          subst uq6392
          refine lv_aload_n hx hb dX9_text_110 rfl (lv_at hl6317 0 rfl) ?_
          refine x_gr C hTH6315 (ci := 9) (k := 4) rfl inX9 (by decide) wF_X9_23 ga0 rg_68 rfl dX9_text_111 (fun q6393 eq6393 gq6393 => ?_)
          have uq6393 : rq = q6393 := (cy6325_3).trans eq6393.symm
          subst uq6393
          refine x_gi C hTH6315 (ci := 4) (k := 1) rfl inX4 (by decide) wF_X9_132 grq rg_78 rfl dX9_text_114 (fun x6394 ex6394 bx6394 => ?_)
          have ux6394 : x6321 = x6394 := (ex6321).trans ex6394.symm
          subst ux6394
          refine x_put C hTH6315 hSH6315 (ci := 8) (k := 6) (v := .int x6321) (ty0 := tyX8) rfl inX8 tyX8_ok nmX8 (by decide) rfl wF_X9_111 gnw rg_0 rfl rfl (okI (i_rng x6321).1 (i_rng x6321).2) rfl rfl (AE_in gnw (by decide)) dX9_text_117 (fun H6395 locsH6395 hTH6395 hSH6395 wH6395 => ?_)
          have f6396 : ∀ j : Nat, bt j = (fI H6395 tq j).toInt := fun j => (fy6325_bt j).trans (congrArg Int32.toInt (Wr.neI wH6395 (Or.inl (G_ne gtq gnw (by decide)))).symm)
          have f6397 : ∀ q t : Nat, G q = some t → t ≠ 68 → t ≠ 0 → t ≠ 78 → t ≠ 79 → t ≠ 80 → t ≠ 81 → t ≠ 69 → t ≠ 70 → t ≠ 71 → t ≠ 72 → t ≠ 73 → t ≠ 74 → t ≠ 75 → t ≠ 76 → t ≠ 77 → q ≠ tx → q ≠ xw → q ≠ xf → q ≠ xj → q ≠ xe → q ≠ xa → q ≠ xc → q ≠ xd → q ≠ xs → H6395[q]? = s.heap[q]? := (fun q t hq h1 h2 h3 h4 h5 h6 h7 h8 h9 h10 h11 h12 h13 h14 h15 n1 n2 n3 n4 n5 n6 n7 n8 n9 => (wH6395.off (G_ne hq gnw h2)).trans (fy6325_fx q t hq h1 h2 h3 h4 h5 h6 h7 h8 h9 h10 h11 h12 h13 h14 h15 n1 n2 n3 n4 n5 n6 n7 n8 n9))
          have f6398 : ∀ q t : Nat, G q = some t → t ≠ 68 → t ≠ 0 → t ≠ 78 → t ≠ 79 → t ≠ 80 → t ≠ 81 → t ≠ 69 → t ≠ 70 → t ≠ 71 → t ≠ 72 → t ≠ 73 → t ≠ 74 → t ≠ 75 → t ≠ 76 → t ≠ 77 → H6395[q]? = s.heap[q]? := (fun q t hq h1 h2 h3 h4 h5 h6 h7 h8 h9 h10 h11 h12 h13 h14 h15  => (wH6395.off (G_ne hq gnw h2)).trans (fy6325_fy q t hq h1 h2 h3 h4 h5 h6 h7 h8 h9 h10 h11 h12 h13 h14 h15 ))
          have f6399 : NWF K H6395 s.heap nw := NWF.st fy6325_nw (fun k hk => Wr.neR wH6395 (Or.inr (hapW k _ (by omega) (by decide) (by omega))))
          have f6400 : ∀ j : Nat, j ≤ F.toNatClampNeg → (kK bt tp.toNatClampNeg) j = (fI H6395 kq j).toInt := fun j hj => (hF4 j hj).trans (congrArg Int32.toInt (Wr.neI wH6395 (Or.inl (G_ne gkq gnw (by decide)))).symm)
          have f6401 : ∀ j : Nat, j ≤ F.toNatClampNeg → (vV bt tp.toNatClampNeg) j = (fI H6395 vq j).toInt := fun j hj => (hF5 j hj).trans (congrArg Int32.toInt (Wr.neI wH6395 (Or.inl (G_ne gvq gnw (by decide)))).symm)
          have m6402 := ex6319.trans (Wr.neI wH6395 (Or.inl (G_ne ga0 gnw (by decide)))).symm
          have m6403 := ex6320.trans (Wr.neI wH6395 (Or.inl (G_ne grq gnw (by decide)))).symm
          have m6404 := ex6321.trans (Wr.neI wH6395 (Or.inl (G_ne grq gnw (by decide)))).symm
          have m6405 := ex6322.trans (Wr.neI wH6395 (Or.inl (G_ne gmq gnw (by decide)))).symm
          have m6406 := ex6323.trans (Wr.neI wH6395 (Or.inl (G_ne grq gnw (by decide)))).symm
          have m6407 := ex6324.trans (Wr.neI wH6395 (Or.inl (G_ne gmq gnw (by decide)))).symm
          have m6408 := cy6325_0.trans (Wr.neR wH6395 (Or.inl (G_ne ga0 gnw (by decide)))).symm
          have m6409 := cy6325_1.trans (Wr.neR wH6395 (Or.inr (x_apart hKT hts inX8 tyX8 tyX8_ok nmX8 rfl 2 6 (by decide) (by decide) (by decide)))).symm
          have m6410 := cy6325_2.trans (Wr.neR wH6395 (Or.inl (G_ne glawq gnw (by decide)))).symm
          have m6411 := cy6325_3.trans (Wr.neR wH6395 (Or.inl (G_ne ga0 gnw (by decide)))).symm
          have m6412 := cy6325_4.trans (Wr.neR wH6395 (Or.inl (G_ne ga0 gnw (by decide)))).symm
          have m6413 := cy6325_5.trans (Wr.neR wH6395 (Or.inl (G_ne grq gnw (by decide)))).symm
          have m6414 := cy6325_6.trans (Wr.neR wH6395 (Or.inl (G_ne grq gnw (by decide)))).symm
          have m6415 := cy6325_7.trans (Wr.neR wH6395 (Or.inl (G_ne grq gnw (by decide)))).symm
          have m6416 := cy6325_8.trans (Wr.neR wH6395 (Or.inl (G_ne gmq gnw (by decide)))).symm
          have m6417 := cy6325_9.trans (Wr.neR wH6395 (Or.inl (G_ne gmq gnw (by decide)))).symm
          have m6418 := cy6325_10.trans (Wr.neR wH6395 (Or.inl (G_ne gmq gnw (by decide)))).symm
          have m6419 := cy6325_11.trans (Wr.neR wH6395 (Or.inl (G_ne gmq gnw (by decide)))).symm
          have m6420 := cy6325_12.trans (Wr.neR wH6395 (Or.inl (G_ne gmq gnw (by decide)))).symm
          have m6421 := cy6325_13.trans (Wr.neR wH6395 (Or.inl (G_ne gmq gnw (by decide)))).symm
          have m6422 := cy6325_14.trans (Wr.neR wH6395 (Or.inl (G_ne gmq gnw (by decide)))).symm
          have m6423 := cy6325_15.trans (Wr.neR wH6395 (Or.inl (G_ne gmq gnw (by decide)))).symm
          have m6424 := cy6325_16.trans (Wr.neR wH6395 (Or.inl (G_ne gtx gnw (by decide)))).symm
          have m6425 := cy6325_17.trans (Wr.neR wH6395 (Or.inl (G_ne gtx gnw (by decide)))).symm
          have m6426 := cy6325_18.trans (Wr.neR wH6395 (Or.inl (G_ne gtx gnw (by decide)))).symm
          have m6427 := cy6325_19.trans (Wr.neR wH6395 (Or.inl (G_ne gtx gnw (by decide)))).symm
          have m6428 := cy6325_20.trans (Wr.neR wH6395 (Or.inl (G_ne gtx gnw (by decide)))).symm
          have m6429 := cy6325_21.trans (Wr.neR wH6395 (Or.inl (G_ne gtx gnw (by decide)))).symm
          have m6430 := cy6325_22.trans (Wr.neR wH6395 (Or.inl (G_ne gtx gnw (by decide)))).symm
          have m6431 := cy6325_23.trans (Wr.neR wH6395 (Or.inl (G_ne gtx gnw (by decide)))).symm
          have m6432 := cy6325_24.trans (Wr.neI wH6395 (Or.inr (x_apart hKT hts inX8 tyX8 tyX8_ok nmX8 rfl 1 6 (by decide) (by decide) (by decide)))).symm
          have m6433 := cy6325_25.trans (Wr.neI wH6395 (Or.inr (x_apart hKT hts inX8 tyX8 tyX8_ok nmX8 rfl 4 6 (by decide) (by decide) (by decide)))).symm
          have m6434 := cy6325_26.trans (Wr.neI wH6395 (Or.inr (x_apart hKT hts inX8 tyX8 tyX8_ok nmX8 rfl 5 6 (by decide) (by decide) (by decide)))).symm
          have m6435 := cy6325_27.trans (Wr.neI wH6395 (Or.inr (x_apart hKT hts inX8 tyX8 tyX8_ok nmX8 rfl 10 6 (by decide) (by decide) (by decide)))).symm
          have m6436 := cy6325_28.trans (Wr.neI wH6395 (Or.inr (x_apart hKT hts inX8 tyX8 tyX8_ok nmX8 rfl 13 6 (by decide) (by decide) (by decide)))).symm
          have m6437 := cy6325_29.trans (Wr.neI wH6395 (Or.inr (x_apart hKT hts inX8 tyX8 tyX8_ok nmX8 rfl 16 6 (by decide) (by decide) (by decide)))).symm
          have m6438 := (Wr.neV wH6395 (Or.inl (G_ne ga0 gnw (by decide)))).trans cy6325_30
          have m6439 := (Wr.neI wH6395 (Or.inl (G_ne gkq gnw (by decide)))).trans hF3
          have m6440 := Wr.I wH6395
          have m6440 := m6440.symm
          refine lv_aload_n hx hb dX9_text_120 rfl (lv_at hl6317 0 rfl) ?_
          refine x_gr C hTH6395 (ci := 9) (k := 0) rfl inX9 (by decide) wF_X9_12 ga0 rg_68 rfl dX9_text_121 (fun q6441 eq6441 gq6441 => ?_)
          have uq6441 : nw = q6441 := (m6408).trans eq6441.symm
          subst uq6441
          refine lv_aload_n hx hb dX9_text_124 rfl (lv_at hl6317 0 rfl) ?_
          refine x_gr C hTH6395 (ci := 9) (k := 4) rfl inX9 (by decide) wF_X9_23 ga0 rg_68 rfl dX9_text_125 (fun q6442 eq6442 gq6442 => ?_)
          have uq6442 : rq = q6442 := (m6411).trans eq6442.symm
          subst uq6442
          refine x_gi C hTH6395 (ci := 4) (k := 2) rfl inX4 (by decide) wF_X9_133 grq rg_78 rfl dX9_text_128 (fun x6443 ex6443 bx6443 => ?_)
          refine x_put C hTH6395 hSH6395 (ci := 8) (k := 7) (v := .int x6443) (ty0 := tyX8) rfl inX8 tyX8_ok nmX8 (by decide) rfl wF_X9_114 gnw rg_0 rfl rfl (okI bx6443.1 bx6443.2) rfl rfl (AE_in gnw (by decide)) dX9_text_131 (fun H6444 locsH6444 hTH6444 hSH6444 wH6444 => ?_)
          have f6445 : ∀ j : Nat, bt j = (fI H6444 tq j).toInt := fun j => (f6396 j).trans (congrArg Int32.toInt (Wr.neI wH6444 (Or.inl (G_ne gtq gnw (by decide)))).symm)
          have f6446 : ∀ q t : Nat, G q = some t → t ≠ 68 → t ≠ 0 → t ≠ 78 → t ≠ 79 → t ≠ 80 → t ≠ 81 → t ≠ 69 → t ≠ 70 → t ≠ 71 → t ≠ 72 → t ≠ 73 → t ≠ 74 → t ≠ 75 → t ≠ 76 → t ≠ 77 → q ≠ tx → q ≠ xw → q ≠ xf → q ≠ xj → q ≠ xe → q ≠ xa → q ≠ xc → q ≠ xd → q ≠ xs → H6444[q]? = s.heap[q]? := (fun q t hq h1 h2 h3 h4 h5 h6 h7 h8 h9 h10 h11 h12 h13 h14 h15 n1 n2 n3 n4 n5 n6 n7 n8 n9 => (wH6444.off (G_ne hq gnw h2)).trans (f6397 q t hq h1 h2 h3 h4 h5 h6 h7 h8 h9 h10 h11 h12 h13 h14 h15 n1 n2 n3 n4 n5 n6 n7 n8 n9))
          have f6447 : ∀ q t : Nat, G q = some t → t ≠ 68 → t ≠ 0 → t ≠ 78 → t ≠ 79 → t ≠ 80 → t ≠ 81 → t ≠ 69 → t ≠ 70 → t ≠ 71 → t ≠ 72 → t ≠ 73 → t ≠ 74 → t ≠ 75 → t ≠ 76 → t ≠ 77 → H6444[q]? = s.heap[q]? := (fun q t hq h1 h2 h3 h4 h5 h6 h7 h8 h9 h10 h11 h12 h13 h14 h15  => (wH6444.off (G_ne hq gnw h2)).trans (f6398 q t hq h1 h2 h3 h4 h5 h6 h7 h8 h9 h10 h11 h12 h13 h14 h15 ))
          have f6448 : NWF K H6444 s.heap nw := NWF.st f6399 (fun k hk => Wr.neR wH6444 (Or.inr (hapW k _ (by omega) (by decide) (by omega))))
          have f6449 : ∀ j : Nat, j ≤ F.toNatClampNeg → (kK bt tp.toNatClampNeg) j = (fI H6444 kq j).toInt := fun j hj => (f6400 j hj).trans (congrArg Int32.toInt (Wr.neI wH6444 (Or.inl (G_ne gkq gnw (by decide)))).symm)
          have f6450 : ∀ j : Nat, j ≤ F.toNatClampNeg → (vV bt tp.toNatClampNeg) j = (fI H6444 vq j).toInt := fun j hj => (f6401 j hj).trans (congrArg Int32.toInt (Wr.neI wH6444 (Or.inl (G_ne gvq gnw (by decide)))).symm)
          have m6451 := m6402.trans (Wr.neI wH6444 (Or.inl (G_ne ga0 gnw (by decide)))).symm
          have m6452 := m6403.trans (Wr.neI wH6444 (Or.inl (G_ne grq gnw (by decide)))).symm
          have m6453 := m6404.trans (Wr.neI wH6444 (Or.inl (G_ne grq gnw (by decide)))).symm
          have m6454 := m6405.trans (Wr.neI wH6444 (Or.inl (G_ne gmq gnw (by decide)))).symm
          have m6455 := m6406.trans (Wr.neI wH6444 (Or.inl (G_ne grq gnw (by decide)))).symm
          have m6456 := m6407.trans (Wr.neI wH6444 (Or.inl (G_ne gmq gnw (by decide)))).symm
          have m6457 := m6408.trans (Wr.neR wH6444 (Or.inl (G_ne ga0 gnw (by decide)))).symm
          have m6458 := m6409.trans (Wr.neR wH6444 (Or.inr (x_apart hKT hts inX8 tyX8 tyX8_ok nmX8 rfl 2 7 (by decide) (by decide) (by decide)))).symm
          have m6459 := m6410.trans (Wr.neR wH6444 (Or.inl (G_ne glawq gnw (by decide)))).symm
          have m6460 := m6411.trans (Wr.neR wH6444 (Or.inl (G_ne ga0 gnw (by decide)))).symm
          have m6461 := m6412.trans (Wr.neR wH6444 (Or.inl (G_ne ga0 gnw (by decide)))).symm
          have m6462 := m6413.trans (Wr.neR wH6444 (Or.inl (G_ne grq gnw (by decide)))).symm
          have m6463 := m6414.trans (Wr.neR wH6444 (Or.inl (G_ne grq gnw (by decide)))).symm
          have m6464 := m6415.trans (Wr.neR wH6444 (Or.inl (G_ne grq gnw (by decide)))).symm
          have m6465 := m6416.trans (Wr.neR wH6444 (Or.inl (G_ne gmq gnw (by decide)))).symm
          have m6466 := m6417.trans (Wr.neR wH6444 (Or.inl (G_ne gmq gnw (by decide)))).symm
          have m6467 := m6418.trans (Wr.neR wH6444 (Or.inl (G_ne gmq gnw (by decide)))).symm
          have m6468 := m6419.trans (Wr.neR wH6444 (Or.inl (G_ne gmq gnw (by decide)))).symm
          have m6469 := m6420.trans (Wr.neR wH6444 (Or.inl (G_ne gmq gnw (by decide)))).symm
          have m6470 := m6421.trans (Wr.neR wH6444 (Or.inl (G_ne gmq gnw (by decide)))).symm
          have m6471 := m6422.trans (Wr.neR wH6444 (Or.inl (G_ne gmq gnw (by decide)))).symm
          have m6472 := m6423.trans (Wr.neR wH6444 (Or.inl (G_ne gmq gnw (by decide)))).symm
          have m6473 := m6424.trans (Wr.neR wH6444 (Or.inl (G_ne gtx gnw (by decide)))).symm
          have m6474 := m6425.trans (Wr.neR wH6444 (Or.inl (G_ne gtx gnw (by decide)))).symm
          have m6475 := m6426.trans (Wr.neR wH6444 (Or.inl (G_ne gtx gnw (by decide)))).symm
          have m6476 := m6427.trans (Wr.neR wH6444 (Or.inl (G_ne gtx gnw (by decide)))).symm
          have m6477 := m6428.trans (Wr.neR wH6444 (Or.inl (G_ne gtx gnw (by decide)))).symm
          have m6478 := m6429.trans (Wr.neR wH6444 (Or.inl (G_ne gtx gnw (by decide)))).symm
          have m6479 := m6430.trans (Wr.neR wH6444 (Or.inl (G_ne gtx gnw (by decide)))).symm
          have m6480 := m6431.trans (Wr.neR wH6444 (Or.inl (G_ne gtx gnw (by decide)))).symm
          have m6481 := m6432.trans (Wr.neI wH6444 (Or.inr (x_apart hKT hts inX8 tyX8 tyX8_ok nmX8 rfl 1 7 (by decide) (by decide) (by decide)))).symm
          have m6482 := m6433.trans (Wr.neI wH6444 (Or.inr (x_apart hKT hts inX8 tyX8 tyX8_ok nmX8 rfl 4 7 (by decide) (by decide) (by decide)))).symm
          have m6483 := m6434.trans (Wr.neI wH6444 (Or.inr (x_apart hKT hts inX8 tyX8 tyX8_ok nmX8 rfl 5 7 (by decide) (by decide) (by decide)))).symm
          have m6484 := m6435.trans (Wr.neI wH6444 (Or.inr (x_apart hKT hts inX8 tyX8 tyX8_ok nmX8 rfl 10 7 (by decide) (by decide) (by decide)))).symm
          have m6485 := m6436.trans (Wr.neI wH6444 (Or.inr (x_apart hKT hts inX8 tyX8 tyX8_ok nmX8 rfl 13 7 (by decide) (by decide) (by decide)))).symm
          have m6486 := m6437.trans (Wr.neI wH6444 (Or.inr (x_apart hKT hts inX8 tyX8 tyX8_ok nmX8 rfl 16 7 (by decide) (by decide) (by decide)))).symm
          have m6487 := (Wr.neV wH6444 (Or.inl (G_ne ga0 gnw (by decide)))).trans m6438
          have m6488 := (Wr.neI wH6444 (Or.inl (G_ne gkq gnw (by decide)))).trans m6439
          have m6489 := m6440.trans (Wr.neI wH6444 (Or.inr (x_apart hKT hts inX8 tyX8 tyX8_ok nmX8 rfl 6 7 (by decide) (by decide) (by decide)))).symm
          have m6490 := ex6443.trans (Wr.neI wH6444 (Or.inl (G_ne grq gnw (by decide)))).symm
          have m6491 := Wr.I wH6444
          have m6491 := m6491.symm
          refine lv_iconst (v := (-1)) hx hb dX9_text_134 (by decide) ?_
          have cn_x6322 := i_cl (x := x6322) bx6322.1
          have cn_x6320 := i_cl (x := x6320) bx6320.1
          have cn_x6318 := i_cl (x := x6318) bx6318.1
          have cn_F := i_cl (x := F) (by omega)
          exact x_iret C hQ dX9_text_135 hSH6444 (by decide) (by decide) (⟨(-1), x6319, x6320, x6321, x6322, x6323, x6324, rfl, m6451, m6452, m6453, m6454, m6455, m6456, by omega, m6457, m6458, m6460, m6461, m6462, m6463, m6464, m6465, m6466, m6467, m6468, m6469, m6470, m6471, m6472, m6473, m6474, m6475, m6476, m6477, m6478, m6479, m6480, m6481, m6482, m6483, m6484, m6485, m6486, Or.inl ⟨by omega, Or.inl ⟨HD.get hF7 (by omega), by omega⟩⟩, (Or.inl (by omega)), f6446, (Or.inr f6447), f6448, m6487, hTH6444⟩)
      · have k6327 := i_nlt c6326
        refine lv_aload_n hx hb dX9_text_72 rfl (lv_at hl6317 0 rfl) ?_
        refine x_gr C hTH6315 (ci := 9) (k := 4) rfl inX9 (by decide) wF_X9_23 ga0 rg_68 rfl dX9_text_73 (fun q6492 eq6492 gq6492 => ?_)
        have uq6492 : rq = q6492 := (cy6325_3).trans eq6492.symm
        subst uq6492
        refine x_V (As := []) (rest := []) C (a_X4_goesOn_e l K G H6315 (F) (x6320) (x6321) (kK bt tp.toNatClampNeg) (vV bt tp.toNatClampNeg) hTH6315 grq gmq cy6325_5 gkq cy6325_6 gvq cy6325_7 ex6320 ex6321 hF3 (by omega) (by omega) hF4 hF5) yo_X4_goesOn wM_X9_125 ⟨⟨by decide, by decide⟩, by decide, by decide⟩ (x_rv C hTH6315 (ci := 4) rfl grq rg_78) rfl hl6317.1 rfl (Nat.le_of_ble_eq_true rfl) dX9_text_76 hSH6315 (AE_sub (fun _ _ => rfl) (by decide) hSH6315.1) (fun vH6493 H6493 locsH6493 pH6493 zH6493 kH6493 hSH6493 => ?_)
        obtain ⟨x6494, hvH6493, bx6494, hrH6493, hTH6493⟩ := pH6493
        subst hvH6493
        have f6495 : ∀ j : Nat, bt j = (fI H6493 tq j).toInt := fun j => (fy6325_bt j).trans (congrArg Int32.toInt (fI_kept (x_lt hTH6315 kH6493 gtq (by decide))).symm)
        have f6496 : ∀ q t : Nat, G q = some t → t ≠ 68 → t ≠ 0 → t ≠ 78 → t ≠ 79 → t ≠ 80 → t ≠ 81 → t ≠ 69 → t ≠ 70 → t ≠ 71 → t ≠ 72 → t ≠ 73 → t ≠ 74 → t ≠ 75 → t ≠ 76 → t ≠ 77 → q ≠ tx → q ≠ xw → q ≠ xf → q ≠ xj → q ≠ xe → q ≠ xa → q ≠ xc → q ≠ xd → q ≠ xs → H6493[q]? = s.heap[q]? := (fun q t hq h1 h2 h3 h4 h5 h6 h7 h8 h9 h10 h11 h12 h13 h14 h15 n1 n2 n3 n4 n5 n6 n7 n8 n9 => (x_lt hTH6315 kH6493 hq nm0).trans (fy6325_fx q t hq h1 h2 h3 h4 h5 h6 h7 h8 h9 h10 h11 h12 h13 h14 h15 n1 n2 n3 n4 n5 n6 n7 n8 n9))
        have f6497 : ∀ q t : Nat, G q = some t → t ≠ 68 → t ≠ 0 → t ≠ 78 → t ≠ 79 → t ≠ 80 → t ≠ 81 → t ≠ 69 → t ≠ 70 → t ≠ 71 → t ≠ 72 → t ≠ 73 → t ≠ 74 → t ≠ 75 → t ≠ 76 → t ≠ 77 → H6493[q]? = s.heap[q]? := (fun q t hq h1 h2 h3 h4 h5 h6 h7 h8 h9 h10 h11 h12 h13 h14 h15  => (x_lt hTH6315 kH6493 hq nm0).trans (fy6325_fy q t hq h1 h2 h3 h4 h5 h6 h7 h8 h9 h10 h11 h12 h13 h14 h15 ))
        have f6498 : NWF K H6493 s.heap nw := NWF.st fy6325_nw (fun k hk => fR_kept (x_lt hTH6315 kH6493 gnw (by decide)))
        have f6499 : ∀ j : Nat, j ≤ F.toNatClampNeg → (kK bt tp.toNatClampNeg) j = (fI H6493 kq j).toInt := fun j hj => (hF4 j hj).trans (congrArg Int32.toInt (fI_kept (x_lt hTH6315 kH6493 gkq (by decide))).symm)
        have f6500 : ∀ j : Nat, j ≤ F.toNatClampNeg → (vV bt tp.toNatClampNeg) j = (fI H6493 vq j).toInt := fun j hj => (hF5 j hj).trans (congrArg Int32.toInt (fI_kept (x_lt hTH6315 kH6493 gvq (by decide))).symm)
        have m6501 := (ex6319).trans (fI_kept (x_lt hTH6315 kH6493 ga0 (by decide))).symm
        have m6502 := (ex6320).trans (fI_kept (x_lt hTH6315 kH6493 grq (by decide))).symm
        have m6503 := (ex6321).trans (fI_kept (x_lt hTH6315 kH6493 grq (by decide))).symm
        have m6504 := (ex6322).trans (fI_kept (x_lt hTH6315 kH6493 gmq (by decide))).symm
        have m6505 := (ex6323).trans (fI_kept (x_lt hTH6315 kH6493 grq (by decide))).symm
        have m6506 := (ex6324).trans (fI_kept (x_lt hTH6315 kH6493 gmq (by decide))).symm
        have m6507 := (cy6325_0).trans (fR_kept (x_lt hTH6315 kH6493 ga0 (by decide))).symm
        have m6508 := (cy6325_1).trans (fR_kept (x_lt hTH6315 kH6493 gnw (by decide))).symm
        have m6509 := (cy6325_2).trans (fR_kept (x_lt hTH6315 kH6493 glawq (by decide))).symm
        have m6510 := (cy6325_3).trans (fR_kept (x_lt hTH6315 kH6493 ga0 (by decide))).symm
        have m6511 := (cy6325_4).trans (fR_kept (x_lt hTH6315 kH6493 ga0 (by decide))).symm
        have m6512 := (cy6325_5).trans (fR_kept (x_lt hTH6315 kH6493 grq (by decide))).symm
        have m6513 := (cy6325_6).trans (fR_kept (x_lt hTH6315 kH6493 grq (by decide))).symm
        have m6514 := (cy6325_7).trans (fR_kept (x_lt hTH6315 kH6493 grq (by decide))).symm
        have m6515 := (cy6325_8).trans (fR_kept (x_lt hTH6315 kH6493 gmq (by decide))).symm
        have m6516 := (cy6325_9).trans (fR_kept (x_lt hTH6315 kH6493 gmq (by decide))).symm
        have m6517 := (cy6325_10).trans (fR_kept (x_lt hTH6315 kH6493 gmq (by decide))).symm
        have m6518 := (cy6325_11).trans (fR_kept (x_lt hTH6315 kH6493 gmq (by decide))).symm
        have m6519 := (cy6325_12).trans (fR_kept (x_lt hTH6315 kH6493 gmq (by decide))).symm
        have m6520 := (cy6325_13).trans (fR_kept (x_lt hTH6315 kH6493 gmq (by decide))).symm
        have m6521 := (cy6325_14).trans (fR_kept (x_lt hTH6315 kH6493 gmq (by decide))).symm
        have m6522 := (cy6325_15).trans (fR_kept (x_lt hTH6315 kH6493 gmq (by decide))).symm
        have m6523 := (cy6325_16).trans (fR_kept (x_lt hTH6315 kH6493 gtx (by decide))).symm
        have m6524 := (cy6325_17).trans (fR_kept (x_lt hTH6315 kH6493 gtx (by decide))).symm
        have m6525 := (cy6325_18).trans (fR_kept (x_lt hTH6315 kH6493 gtx (by decide))).symm
        have m6526 := (cy6325_19).trans (fR_kept (x_lt hTH6315 kH6493 gtx (by decide))).symm
        have m6527 := (cy6325_20).trans (fR_kept (x_lt hTH6315 kH6493 gtx (by decide))).symm
        have m6528 := (cy6325_21).trans (fR_kept (x_lt hTH6315 kH6493 gtx (by decide))).symm
        have m6529 := (cy6325_22).trans (fR_kept (x_lt hTH6315 kH6493 gtx (by decide))).symm
        have m6530 := (cy6325_23).trans (fR_kept (x_lt hTH6315 kH6493 gtx (by decide))).symm
        have m6531 := (cy6325_24).trans (fI_kept (x_lt hTH6315 kH6493 gnw (by decide))).symm
        have m6532 := (cy6325_25).trans (fI_kept (x_lt hTH6315 kH6493 gnw (by decide))).symm
        have m6533 := (cy6325_26).trans (fI_kept (x_lt hTH6315 kH6493 gnw (by decide))).symm
        have m6534 := (cy6325_27).trans (fI_kept (x_lt hTH6315 kH6493 gnw (by decide))).symm
        have m6535 := (cy6325_28).trans (fI_kept (x_lt hTH6315 kH6493 gnw (by decide))).symm
        have m6536 := (cy6325_29).trans (fI_kept (x_lt hTH6315 kH6493 gnw (by decide))).symm
        have m6537 := (fV_kept (x_lt hTH6315 kH6493 ga0 (by decide))).trans cy6325_30
        have m6538 := (fI_kept (x_lt hTH6315 kH6493 gkq (by decide))).trans hF3
        have tw6539 : HD (x6321.toInt = 0 → TXW H6493 mw mf mj me ma mc md ms (kK bt tp.toNatClampNeg) (vV bt tp.toNatClampNeg) 1 x6322.toNatClampNeg x6320.toNatClampNeg x6324.toNatClampNeg) := HD.mk (fun h0 => TXW.kept (HD.get hF8 h0) (fun l => fI_kept (x_lt hTH6315 kH6493 gmw (by decide))) (fun l => fI_kept (x_lt hTH6315 kH6493 gmf (by decide))) (fun l => fI_kept (x_lt hTH6315 kH6493 gmj (by decide))) (fun l => fI_kept (x_lt hTH6315 kH6493 gme (by decide))) (fun l => fI_kept (x_lt hTH6315 kH6493 gma (by decide))) (fun l => fI_kept (x_lt hTH6315 kH6493 gmc (by decide))) (fun l => fI_kept (x_lt hTH6315 kH6493 gmd (by decide))) (fun l => fI_kept (x_lt hTH6315 kH6493 gms (by decide))))
        refine W.eq (g2 := F0 m 79 ls6316 [.int x6494]) rfl ?_
        refine lv_if_eq (tgt := 96) hx hb dX9_text_79 (by decide) (fun c6540 => ?_) (fun c6540 => ?_)
        · have k6541 := i_eq c6540
          refine lv_aload_n hx hb dX9_text_96 rfl (lv_at hl6317 0 rfl) ?_
          refine x_gr C hTH6493 (ci := 9) (k := 4) rfl inX9 (by decide) wF_X9_23 ga0 rg_68 rfl dX9_text_97 (fun q6542 eq6542 gq6542 => ?_)
          have uq6542 : rq = q6542 := (m6510).trans eq6542.symm
          subst uq6542
          refine x_gi C hTH6493 (ci := 4) (k := 1) rfl inX4 (by decide) wF_X9_132 grq rg_78 rfl dX9_text_100 (fun x6543 ex6543 bx6543 => ?_)
          have ux6543 : x6321 = x6543 := (m6503).trans ex6543.symm
          subst ux6543
          refine lv_if_eq (tgt := 136) hx hb dX9_text_103 (by decide) (fun c6544 => ?_) (fun c6544 => ?_)
          · have k6545 := i_eq c6544
            refine lv_aload hx hb dX9_text_136 (lv_at hl6317 1 rfl) ?_
            refine lv_aload_n hx hb dX9_text_138 rfl (lv_at hl6317 0 rfl) ?_
            refine x_gr C hTH6493 (ci := 9) (k := 4) rfl inX9 (by decide) wF_X9_23 ga0 rg_68 rfl dX9_text_139 (fun q6546 eq6546 gq6546 => ?_)
            have uq6546 : rq = q6546 := (m6510).trans eq6546.symm
            subst uq6546
            refine x_gr C hTH6493 (ci := 4) (k := 0) rfl inX4 (by decide) wF_X9_134 grq rg_78 rfl dX9_text_142 (fun q6547 eq6547 gq6547 => ?_)
            have uq6547 : mq = q6547 := (m6512).trans eq6547.symm
            subst uq6547
            obtain ⟨x6548, ex6548⟩ : ∃ z : Int32, z = fI H6493 tx (K.1.2 7 0) := ⟨_, rfl⟩
            have bx6548 := ty_fi (x := x6548) (k := 0) ex6548 hTH6493 gtx rg_16 rfl
            obtain ⟨x6549, ex6549⟩ : ∃ z : Int32, z = fI H6493 tx (K.1.2 7 9) := ⟨_, rfl⟩
            have bx6549 := ty_fi (x := x6549) (k := 9) ex6549 hTH6493 gtx rg_16 rfl
            refine x_V (As := [.ref mq]) (rest := []) C (a_X7_copyFrom_gm l K G H6493 (x6548) (x6549) (x6322) (x6324) hTH6493 gtx gmq gxw m6523 gxf m6524 gxj m6525 gxe m6526 gxa m6527 gxc m6528 gxd m6529 gxs m6530 gmw m6515 gmf m6516 gmj m6517 gme m6518 gma m6519 gmc m6520 gmd m6521 gms m6522 ex6548 ex6549 m6504 m6506) yo_X7_copyFrom wM_X9_138 ⟨⟨by decide, by decide⟩, by decide, by decide⟩ (x_rv C hTH6493 (ci := 7) rfl gtx rg_16) rfl hl6317.1 rfl (Nat.le_of_ble_eq_true rfl) dX9_text_145 hSH6493 (AE_sub (fun _ _ => rfl) (by decide) hSH6493.1) (fun vH6550 H6550 locsH6550 pH6550 zH6550 kH6550 hSH6550 => ?_)
            obtain ⟨x6551, x6552, hvH6550, ex6551, ex6552, hrH6550, m6553, m6554, m6555, m6556, m6557, m6558, m6559, m6560, m6561, m6562, m6563, m6564, m6565, m6566, m6567, m6568, m6569, hTH6550⟩ := pH6550
            subst hvH6550
            have f6570 : ∀ j : Nat, bt j = (fI H6550 tq j).toInt := fun j => (f6495 j).trans (congrArg Int32.toInt (fI_kept (x_lt hTH6493 kH6550 gtq (by decide))).symm)
            have f6571 : NWF K H6550 s.heap nw := NWF.st f6498 (fun k hk => fR_kept (x_lt hTH6493 kH6550 gnw (by decide)))
            have f6572 : ∀ j : Nat, j ≤ F.toNatClampNeg → (kK bt tp.toNatClampNeg) j = (fI H6550 kq j).toInt := fun j hj => (f6499 j hj).trans (congrArg Int32.toInt (fI_kept (x_lt hTH6493 kH6550 gkq (by decide))).symm)
            have f6573 : ∀ j : Nat, j ≤ F.toNatClampNeg → (vV bt tp.toNatClampNeg) j = (fI H6550 vq j).toInt := fun j hj => (f6500 j hj).trans (congrArg Int32.toInt (fI_kept (x_lt hTH6493 kH6550 gvq (by decide))).symm)
            have m6574 := (m6501).trans (fI_kept (x_lt hTH6493 kH6550 ga0 (by decide))).symm
            have m6575 := (m6502).trans (fI_kept (x_lt hTH6493 kH6550 grq (by decide))).symm
            have m6576 := (m6503).trans (fI_kept (x_lt hTH6493 kH6550 grq (by decide))).symm
            have m6577 := (m6504).trans (fI_kept (x_lt hTH6493 kH6550 gmq (by decide))).symm
            have m6578 := (m6505).trans (fI_kept (x_lt hTH6493 kH6550 grq (by decide))).symm
            have m6579 := (m6506).trans (fI_kept (x_lt hTH6493 kH6550 gmq (by decide))).symm
            have m6580 := (m6507).trans (fR_kept (x_lt hTH6493 kH6550 ga0 (by decide))).symm
            have m6581 := (m6508).trans (fR_kept (x_lt hTH6493 kH6550 gnw (by decide))).symm
            have m6582 := (m6509).trans (fR_kept (x_lt hTH6493 kH6550 glawq (by decide))).symm
            have m6583 := (m6510).trans (fR_kept (x_lt hTH6493 kH6550 ga0 (by decide))).symm
            have m6584 := (m6511).trans (fR_kept (x_lt hTH6493 kH6550 ga0 (by decide))).symm
            have m6585 := (m6512).trans (fR_kept (x_lt hTH6493 kH6550 grq (by decide))).symm
            have m6586 := (m6513).trans (fR_kept (x_lt hTH6493 kH6550 grq (by decide))).symm
            have m6587 := (m6514).trans (fR_kept (x_lt hTH6493 kH6550 grq (by decide))).symm
            have m6588 := (m6515).trans (fR_kept (x_lt hTH6493 kH6550 gmq (by decide))).symm
            have m6589 := (m6516).trans (fR_kept (x_lt hTH6493 kH6550 gmq (by decide))).symm
            have m6590 := (m6517).trans (fR_kept (x_lt hTH6493 kH6550 gmq (by decide))).symm
            have m6591 := (m6518).trans (fR_kept (x_lt hTH6493 kH6550 gmq (by decide))).symm
            have m6592 := (m6519).trans (fR_kept (x_lt hTH6493 kH6550 gmq (by decide))).symm
            have m6593 := (m6520).trans (fR_kept (x_lt hTH6493 kH6550 gmq (by decide))).symm
            have m6594 := (m6521).trans (fR_kept (x_lt hTH6493 kH6550 gmq (by decide))).symm
            have m6595 := (m6522).trans (fR_kept (x_lt hTH6493 kH6550 gmq (by decide))).symm
            have m6596 := (m6531).trans (fI_kept (x_lt hTH6493 kH6550 gnw (by decide))).symm
            have m6597 := (m6532).trans (fI_kept (x_lt hTH6493 kH6550 gnw (by decide))).symm
            have m6598 := (m6533).trans (fI_kept (x_lt hTH6493 kH6550 gnw (by decide))).symm
            have m6599 := (m6534).trans (fI_kept (x_lt hTH6493 kH6550 gnw (by decide))).symm
            have m6600 := (m6535).trans (fI_kept (x_lt hTH6493 kH6550 gnw (by decide))).symm
            have m6601 := (m6536).trans (fI_kept (x_lt hTH6493 kH6550 gnw (by decide))).symm
            have m6602 := (fV_kept (x_lt hTH6493 kH6550 ga0 (by decide))).trans m6537
            have m6603 := (fI_kept (x_lt hTH6493 kH6550 gkq (by decide))).trans m6538
            have bx6551 := ty_fi (x := x6551) (k := 0) ex6551 hTH6550 gtx rg_16 rfl
            have bx6552 := ty_fi (x := x6552) (k := 9) ex6552 hTH6550 gtx rg_16 rfl
            have f6604 : ∀ q t : Nat, G q = some t → t ≠ 68 → t ≠ 0 → t ≠ 78 → t ≠ 79 → t ≠ 80 → t ≠ 81 → t ≠ 69 → t ≠ 70 → t ≠ 71 → t ≠ 72 → t ≠ 73 → t ≠ 74 → t ≠ 75 → t ≠ 76 → t ≠ 77 → q ≠ tx → q ≠ xw → q ≠ xf → q ≠ xj → q ≠ xe → q ≠ xa → q ≠ xc → q ≠ xd → q ≠ xs → H6550[q]? = s.heap[q]? := fun q t hq h1 h2 h3 h4 h5 h6 h7 h8 h9 h10 h11 h12 h13 h14 h15 n1 n2 n3 n4 n5 n6 n7 n8 n9 => (m6569 q t hq n1 n2 n3 n4 n5 n6 n7 n8 n9).trans (f6496 q t hq h1 h2 h3 h4 h5 h6 h7 h8 h9 h10 h11 h12 h13 h14 h15 n1 n2 n3 n4 n5 n6 n7 n8 n9)
            refine W.eq (g2 := F0 m 148 ls6316 []) rfl ?_
            refine lv_aload hx hb dX9_text_148 (lv_at hl6317 1 rfl) ?_
            refine x_gi C hTH6550 (ci := 7) (k := 0) rfl inX7 (by decide) wF_X9_144 gtx rg_16 rfl dX9_text_150 (fun x6605 ex6605 bx6605 => ?_)
            have ux6605 : x6551 = x6605 := (ex6551).trans ex6605.symm
            subst ux6605
            have cn_x6322 := i_cl (x := x6322) bx6322.1
            have cn_x6320 := i_cl (x := x6320) bx6320.1
            have cn_x6318 := i_cl (x := x6318) bx6318.1
            have cn_F := i_cl (x := F) (by omega)
            have cn_x6324 := i_cl (x := x6324) bx6324.1
            exact x_iret C hQ dX9_text_153 hSH6550 (by decide) (by decide) (⟨x6551, x6319, x6320, x6321, x6322, x6323, x6324, rfl, m6574, m6575, m6576, m6577, m6578, m6579, by omega, m6580, m6581, m6583, m6584, m6585, m6586, m6587, m6588, m6589, m6590, m6591, m6592, m6593, m6594, m6595, m6553, m6554, m6555, m6556, m6557, m6558, m6559, m6560, m6596, m6597, m6598, m6599, m6600, m6601, Or.inl ⟨by omega, Or.inr ⟨x6322.toNatClampNeg, (HD.get hF6 (by omega)).trans (tx_end (by omega) (by omega)), by omega⟩⟩, (Or.inr ⟨x6322.toNatClampNeg, by omega, by omega, (ex6551).symm, fun j hj => by rw [← m6553, ← m6554, ← m6555, ← m6556, ← m6557, ← m6558, ← m6559, ← m6560, m6561 j (by omega), m6562 j (by omega), m6563 j (by omega), m6564 j (by omega), m6565 j (by omega), m6566 j (by omega), m6567 j (by omega)]; exact ((HD.get tw6539 (by omega)).2 j (by omega)).1.keep (fun i hi => m6568 i (by omega)) ((HD.get tw6539 (by omega)).2 j (by omega)).2.1 ((HD.get tw6539 (by omega)).2 j (by omega)).2.2, fun j hj => by have zz := ((HD.get tw6539 (by omega)).2 j (by omega)).2; have zc : x6552 = x6324 := Int32.toInt_inj.mp (by omega); rw [← m6558, ← m6559, m6566 j (by omega), m6567 j (by omega), ← ex6552, zc]; exact zz⟩), f6604, (Or.inl (by omega)), f6571, m6602, hTH6550⟩)
          · have k6545 := i_ne c6544
            refine lv_aload_n hx hb dX9_text_106 rfl (lv_at hl6317 0 rfl) ?_
            refine x_gr C hTH6493 (ci := 9) (k := 0) rfl inX9 (by decide) wF_X9_12 ga0 rg_68 rfl dX9_text_107 (fun q6606 eq6606 gq6606 => ?_)
            have uq6606 : nw = q6606 := (m6507).trans eq6606.symm
            subst uq6606
            refine lv_aload_n hx hb dX9_text_110 rfl (lv_at hl6317 0 rfl) ?_
            refine x_gr C hTH6493 (ci := 9) (k := 4) rfl inX9 (by decide) wF_X9_23 ga0 rg_68 rfl dX9_text_111 (fun q6607 eq6607 gq6607 => ?_)
            have uq6607 : rq = q6607 := (m6510).trans eq6607.symm
            subst uq6607
            refine x_gi C hTH6493 (ci := 4) (k := 1) rfl inX4 (by decide) wF_X9_132 grq rg_78 rfl dX9_text_114 (fun x6608 ex6608 bx6608 => ?_)
            have ux6608 : x6321 = x6608 := (m6503).trans ex6608.symm
            subst ux6608
            refine x_put C hTH6493 hSH6493 (ci := 8) (k := 6) (v := .int x6321) (ty0 := tyX8) rfl inX8 tyX8_ok nmX8 (by decide) rfl wF_X9_111 gnw rg_0 rfl rfl (okI (i_rng x6321).1 (i_rng x6321).2) rfl rfl (AE_in gnw (by decide)) dX9_text_117 (fun H6609 locsH6609 hTH6609 hSH6609 wH6609 => ?_)
            have f6610 : ∀ j : Nat, bt j = (fI H6609 tq j).toInt := fun j => (f6495 j).trans (congrArg Int32.toInt (Wr.neI wH6609 (Or.inl (G_ne gtq gnw (by decide)))).symm)
            have f6611 : ∀ q t : Nat, G q = some t → t ≠ 68 → t ≠ 0 → t ≠ 78 → t ≠ 79 → t ≠ 80 → t ≠ 81 → t ≠ 69 → t ≠ 70 → t ≠ 71 → t ≠ 72 → t ≠ 73 → t ≠ 74 → t ≠ 75 → t ≠ 76 → t ≠ 77 → q ≠ tx → q ≠ xw → q ≠ xf → q ≠ xj → q ≠ xe → q ≠ xa → q ≠ xc → q ≠ xd → q ≠ xs → H6609[q]? = s.heap[q]? := (fun q t hq h1 h2 h3 h4 h5 h6 h7 h8 h9 h10 h11 h12 h13 h14 h15 n1 n2 n3 n4 n5 n6 n7 n8 n9 => (wH6609.off (G_ne hq gnw h2)).trans (f6496 q t hq h1 h2 h3 h4 h5 h6 h7 h8 h9 h10 h11 h12 h13 h14 h15 n1 n2 n3 n4 n5 n6 n7 n8 n9))
            have f6612 : ∀ q t : Nat, G q = some t → t ≠ 68 → t ≠ 0 → t ≠ 78 → t ≠ 79 → t ≠ 80 → t ≠ 81 → t ≠ 69 → t ≠ 70 → t ≠ 71 → t ≠ 72 → t ≠ 73 → t ≠ 74 → t ≠ 75 → t ≠ 76 → t ≠ 77 → H6609[q]? = s.heap[q]? := (fun q t hq h1 h2 h3 h4 h5 h6 h7 h8 h9 h10 h11 h12 h13 h14 h15  => (wH6609.off (G_ne hq gnw h2)).trans (f6497 q t hq h1 h2 h3 h4 h5 h6 h7 h8 h9 h10 h11 h12 h13 h14 h15 ))
            have f6613 : NWF K H6609 s.heap nw := NWF.st f6498 (fun k hk => Wr.neR wH6609 (Or.inr (hapW k _ (by omega) (by decide) (by omega))))
            have f6614 : ∀ j : Nat, j ≤ F.toNatClampNeg → (kK bt tp.toNatClampNeg) j = (fI H6609 kq j).toInt := fun j hj => (f6499 j hj).trans (congrArg Int32.toInt (Wr.neI wH6609 (Or.inl (G_ne gkq gnw (by decide)))).symm)
            have f6615 : ∀ j : Nat, j ≤ F.toNatClampNeg → (vV bt tp.toNatClampNeg) j = (fI H6609 vq j).toInt := fun j hj => (f6500 j hj).trans (congrArg Int32.toInt (Wr.neI wH6609 (Or.inl (G_ne gvq gnw (by decide)))).symm)
            have m6616 := m6501.trans (Wr.neI wH6609 (Or.inl (G_ne ga0 gnw (by decide)))).symm
            have m6617 := m6502.trans (Wr.neI wH6609 (Or.inl (G_ne grq gnw (by decide)))).symm
            have m6618 := m6503.trans (Wr.neI wH6609 (Or.inl (G_ne grq gnw (by decide)))).symm
            have m6619 := m6504.trans (Wr.neI wH6609 (Or.inl (G_ne gmq gnw (by decide)))).symm
            have m6620 := m6505.trans (Wr.neI wH6609 (Or.inl (G_ne grq gnw (by decide)))).symm
            have m6621 := m6506.trans (Wr.neI wH6609 (Or.inl (G_ne gmq gnw (by decide)))).symm
            have m6622 := m6507.trans (Wr.neR wH6609 (Or.inl (G_ne ga0 gnw (by decide)))).symm
            have m6623 := m6508.trans (Wr.neR wH6609 (Or.inr (x_apart hKT hts inX8 tyX8 tyX8_ok nmX8 rfl 2 6 (by decide) (by decide) (by decide)))).symm
            have m6624 := m6509.trans (Wr.neR wH6609 (Or.inl (G_ne glawq gnw (by decide)))).symm
            have m6625 := m6510.trans (Wr.neR wH6609 (Or.inl (G_ne ga0 gnw (by decide)))).symm
            have m6626 := m6511.trans (Wr.neR wH6609 (Or.inl (G_ne ga0 gnw (by decide)))).symm
            have m6627 := m6512.trans (Wr.neR wH6609 (Or.inl (G_ne grq gnw (by decide)))).symm
            have m6628 := m6513.trans (Wr.neR wH6609 (Or.inl (G_ne grq gnw (by decide)))).symm
            have m6629 := m6514.trans (Wr.neR wH6609 (Or.inl (G_ne grq gnw (by decide)))).symm
            have m6630 := m6515.trans (Wr.neR wH6609 (Or.inl (G_ne gmq gnw (by decide)))).symm
            have m6631 := m6516.trans (Wr.neR wH6609 (Or.inl (G_ne gmq gnw (by decide)))).symm
            have m6632 := m6517.trans (Wr.neR wH6609 (Or.inl (G_ne gmq gnw (by decide)))).symm
            have m6633 := m6518.trans (Wr.neR wH6609 (Or.inl (G_ne gmq gnw (by decide)))).symm
            have m6634 := m6519.trans (Wr.neR wH6609 (Or.inl (G_ne gmq gnw (by decide)))).symm
            have m6635 := m6520.trans (Wr.neR wH6609 (Or.inl (G_ne gmq gnw (by decide)))).symm
            have m6636 := m6521.trans (Wr.neR wH6609 (Or.inl (G_ne gmq gnw (by decide)))).symm
            have m6637 := m6522.trans (Wr.neR wH6609 (Or.inl (G_ne gmq gnw (by decide)))).symm
            have m6638 := m6523.trans (Wr.neR wH6609 (Or.inl (G_ne gtx gnw (by decide)))).symm
            have m6639 := m6524.trans (Wr.neR wH6609 (Or.inl (G_ne gtx gnw (by decide)))).symm
            have m6640 := m6525.trans (Wr.neR wH6609 (Or.inl (G_ne gtx gnw (by decide)))).symm
            have m6641 := m6526.trans (Wr.neR wH6609 (Or.inl (G_ne gtx gnw (by decide)))).symm
            have m6642 := m6527.trans (Wr.neR wH6609 (Or.inl (G_ne gtx gnw (by decide)))).symm
            have m6643 := m6528.trans (Wr.neR wH6609 (Or.inl (G_ne gtx gnw (by decide)))).symm
            have m6644 := m6529.trans (Wr.neR wH6609 (Or.inl (G_ne gtx gnw (by decide)))).symm
            have m6645 := m6530.trans (Wr.neR wH6609 (Or.inl (G_ne gtx gnw (by decide)))).symm
            have m6646 := m6531.trans (Wr.neI wH6609 (Or.inr (x_apart hKT hts inX8 tyX8 tyX8_ok nmX8 rfl 1 6 (by decide) (by decide) (by decide)))).symm
            have m6647 := m6532.trans (Wr.neI wH6609 (Or.inr (x_apart hKT hts inX8 tyX8 tyX8_ok nmX8 rfl 4 6 (by decide) (by decide) (by decide)))).symm
            have m6648 := m6533.trans (Wr.neI wH6609 (Or.inr (x_apart hKT hts inX8 tyX8 tyX8_ok nmX8 rfl 5 6 (by decide) (by decide) (by decide)))).symm
            have m6649 := m6534.trans (Wr.neI wH6609 (Or.inr (x_apart hKT hts inX8 tyX8 tyX8_ok nmX8 rfl 10 6 (by decide) (by decide) (by decide)))).symm
            have m6650 := m6535.trans (Wr.neI wH6609 (Or.inr (x_apart hKT hts inX8 tyX8 tyX8_ok nmX8 rfl 13 6 (by decide) (by decide) (by decide)))).symm
            have m6651 := m6536.trans (Wr.neI wH6609 (Or.inr (x_apart hKT hts inX8 tyX8 tyX8_ok nmX8 rfl 16 6 (by decide) (by decide) (by decide)))).symm
            have m6652 := (Wr.neV wH6609 (Or.inl (G_ne ga0 gnw (by decide)))).trans m6537
            have m6653 := (Wr.neI wH6609 (Or.inl (G_ne gkq gnw (by decide)))).trans m6538
            have m6654 := Wr.I wH6609
            have m6654 := m6654.symm
            refine lv_aload_n hx hb dX9_text_120 rfl (lv_at hl6317 0 rfl) ?_
            refine x_gr C hTH6609 (ci := 9) (k := 0) rfl inX9 (by decide) wF_X9_12 ga0 rg_68 rfl dX9_text_121 (fun q6655 eq6655 gq6655 => ?_)
            have uq6655 : nw = q6655 := (m6622).trans eq6655.symm
            subst uq6655
            refine lv_aload_n hx hb dX9_text_124 rfl (lv_at hl6317 0 rfl) ?_
            refine x_gr C hTH6609 (ci := 9) (k := 4) rfl inX9 (by decide) wF_X9_23 ga0 rg_68 rfl dX9_text_125 (fun q6656 eq6656 gq6656 => ?_)
            have uq6656 : rq = q6656 := (m6625).trans eq6656.symm
            subst uq6656
            refine x_gi C hTH6609 (ci := 4) (k := 2) rfl inX4 (by decide) wF_X9_133 grq rg_78 rfl dX9_text_128 (fun x6657 ex6657 bx6657 => ?_)
            refine x_put C hTH6609 hSH6609 (ci := 8) (k := 7) (v := .int x6657) (ty0 := tyX8) rfl inX8 tyX8_ok nmX8 (by decide) rfl wF_X9_114 gnw rg_0 rfl rfl (okI bx6657.1 bx6657.2) rfl rfl (AE_in gnw (by decide)) dX9_text_131 (fun H6658 locsH6658 hTH6658 hSH6658 wH6658 => ?_)
            clear f6495 f6496 f6497 f6498 f6499 f6500 m6501 m6502 m6503 m6504 m6505 m6506 m6507 m6508 m6509 m6510 m6511 m6512 m6513 m6514 m6515 m6516 m6517 m6518 m6519 m6520 m6521 m6522 m6523 m6524 m6525 m6526 m6527 m6528 m6529 m6530 m6531 m6532 m6533 m6534 m6535 m6536 m6537 m6538
            have f6659 : ∀ j : Nat, bt j = (fI H6658 tq j).toInt := fun j => (f6610 j).trans (congrArg Int32.toInt (Wr.neI wH6658 (Or.inl (G_ne gtq gnw (by decide)))).symm)
            have f6660 : ∀ q t : Nat, G q = some t → t ≠ 68 → t ≠ 0 → t ≠ 78 → t ≠ 79 → t ≠ 80 → t ≠ 81 → t ≠ 69 → t ≠ 70 → t ≠ 71 → t ≠ 72 → t ≠ 73 → t ≠ 74 → t ≠ 75 → t ≠ 76 → t ≠ 77 → q ≠ tx → q ≠ xw → q ≠ xf → q ≠ xj → q ≠ xe → q ≠ xa → q ≠ xc → q ≠ xd → q ≠ xs → H6658[q]? = s.heap[q]? := (fun q t hq h1 h2 h3 h4 h5 h6 h7 h8 h9 h10 h11 h12 h13 h14 h15 n1 n2 n3 n4 n5 n6 n7 n8 n9 => (wH6658.off (G_ne hq gnw h2)).trans (f6611 q t hq h1 h2 h3 h4 h5 h6 h7 h8 h9 h10 h11 h12 h13 h14 h15 n1 n2 n3 n4 n5 n6 n7 n8 n9))
            have f6661 : ∀ q t : Nat, G q = some t → t ≠ 68 → t ≠ 0 → t ≠ 78 → t ≠ 79 → t ≠ 80 → t ≠ 81 → t ≠ 69 → t ≠ 70 → t ≠ 71 → t ≠ 72 → t ≠ 73 → t ≠ 74 → t ≠ 75 → t ≠ 76 → t ≠ 77 → H6658[q]? = s.heap[q]? := (fun q t hq h1 h2 h3 h4 h5 h6 h7 h8 h9 h10 h11 h12 h13 h14 h15  => (wH6658.off (G_ne hq gnw h2)).trans (f6612 q t hq h1 h2 h3 h4 h5 h6 h7 h8 h9 h10 h11 h12 h13 h14 h15 ))
            have f6662 : NWF K H6658 s.heap nw := NWF.st f6613 (fun k hk => Wr.neR wH6658 (Or.inr (hapW k _ (by omega) (by decide) (by omega))))
            have f6663 : ∀ j : Nat, j ≤ F.toNatClampNeg → (kK bt tp.toNatClampNeg) j = (fI H6658 kq j).toInt := fun j hj => (f6614 j hj).trans (congrArg Int32.toInt (Wr.neI wH6658 (Or.inl (G_ne gkq gnw (by decide)))).symm)
            have f6664 : ∀ j : Nat, j ≤ F.toNatClampNeg → (vV bt tp.toNatClampNeg) j = (fI H6658 vq j).toInt := fun j hj => (f6615 j hj).trans (congrArg Int32.toInt (Wr.neI wH6658 (Or.inl (G_ne gvq gnw (by decide)))).symm)
            have m6665 := m6616.trans (Wr.neI wH6658 (Or.inl (G_ne ga0 gnw (by decide)))).symm
            have m6666 := m6617.trans (Wr.neI wH6658 (Or.inl (G_ne grq gnw (by decide)))).symm
            have m6667 := m6618.trans (Wr.neI wH6658 (Or.inl (G_ne grq gnw (by decide)))).symm
            have m6668 := m6619.trans (Wr.neI wH6658 (Or.inl (G_ne gmq gnw (by decide)))).symm
            have m6669 := m6620.trans (Wr.neI wH6658 (Or.inl (G_ne grq gnw (by decide)))).symm
            have m6670 := m6621.trans (Wr.neI wH6658 (Or.inl (G_ne gmq gnw (by decide)))).symm
            have m6671 := m6622.trans (Wr.neR wH6658 (Or.inl (G_ne ga0 gnw (by decide)))).symm
            have m6672 := m6623.trans (Wr.neR wH6658 (Or.inr (x_apart hKT hts inX8 tyX8 tyX8_ok nmX8 rfl 2 7 (by decide) (by decide) (by decide)))).symm
            have m6673 := m6624.trans (Wr.neR wH6658 (Or.inl (G_ne glawq gnw (by decide)))).symm
            have m6674 := m6625.trans (Wr.neR wH6658 (Or.inl (G_ne ga0 gnw (by decide)))).symm
            have m6675 := m6626.trans (Wr.neR wH6658 (Or.inl (G_ne ga0 gnw (by decide)))).symm
            have m6676 := m6627.trans (Wr.neR wH6658 (Or.inl (G_ne grq gnw (by decide)))).symm
            have m6677 := m6628.trans (Wr.neR wH6658 (Or.inl (G_ne grq gnw (by decide)))).symm
            have m6678 := m6629.trans (Wr.neR wH6658 (Or.inl (G_ne grq gnw (by decide)))).symm
            have m6679 := m6630.trans (Wr.neR wH6658 (Or.inl (G_ne gmq gnw (by decide)))).symm
            have m6680 := m6631.trans (Wr.neR wH6658 (Or.inl (G_ne gmq gnw (by decide)))).symm
            have m6681 := m6632.trans (Wr.neR wH6658 (Or.inl (G_ne gmq gnw (by decide)))).symm
            have m6682 := m6633.trans (Wr.neR wH6658 (Or.inl (G_ne gmq gnw (by decide)))).symm
            have m6683 := m6634.trans (Wr.neR wH6658 (Or.inl (G_ne gmq gnw (by decide)))).symm
            have m6684 := m6635.trans (Wr.neR wH6658 (Or.inl (G_ne gmq gnw (by decide)))).symm
            have m6685 := m6636.trans (Wr.neR wH6658 (Or.inl (G_ne gmq gnw (by decide)))).symm
            have m6686 := m6637.trans (Wr.neR wH6658 (Or.inl (G_ne gmq gnw (by decide)))).symm
            have m6687 := m6638.trans (Wr.neR wH6658 (Or.inl (G_ne gtx gnw (by decide)))).symm
            have m6688 := m6639.trans (Wr.neR wH6658 (Or.inl (G_ne gtx gnw (by decide)))).symm
            have m6689 := m6640.trans (Wr.neR wH6658 (Or.inl (G_ne gtx gnw (by decide)))).symm
            have m6690 := m6641.trans (Wr.neR wH6658 (Or.inl (G_ne gtx gnw (by decide)))).symm
            have m6691 := m6642.trans (Wr.neR wH6658 (Or.inl (G_ne gtx gnw (by decide)))).symm
            have m6692 := m6643.trans (Wr.neR wH6658 (Or.inl (G_ne gtx gnw (by decide)))).symm
            have m6693 := m6644.trans (Wr.neR wH6658 (Or.inl (G_ne gtx gnw (by decide)))).symm
            have m6694 := m6645.trans (Wr.neR wH6658 (Or.inl (G_ne gtx gnw (by decide)))).symm
            have m6695 := m6646.trans (Wr.neI wH6658 (Or.inr (x_apart hKT hts inX8 tyX8 tyX8_ok nmX8 rfl 1 7 (by decide) (by decide) (by decide)))).symm
            have m6696 := m6647.trans (Wr.neI wH6658 (Or.inr (x_apart hKT hts inX8 tyX8 tyX8_ok nmX8 rfl 4 7 (by decide) (by decide) (by decide)))).symm
            have m6697 := m6648.trans (Wr.neI wH6658 (Or.inr (x_apart hKT hts inX8 tyX8 tyX8_ok nmX8 rfl 5 7 (by decide) (by decide) (by decide)))).symm
            have m6698 := m6649.trans (Wr.neI wH6658 (Or.inr (x_apart hKT hts inX8 tyX8 tyX8_ok nmX8 rfl 10 7 (by decide) (by decide) (by decide)))).symm
            have m6699 := m6650.trans (Wr.neI wH6658 (Or.inr (x_apart hKT hts inX8 tyX8 tyX8_ok nmX8 rfl 13 7 (by decide) (by decide) (by decide)))).symm
            have m6700 := m6651.trans (Wr.neI wH6658 (Or.inr (x_apart hKT hts inX8 tyX8 tyX8_ok nmX8 rfl 16 7 (by decide) (by decide) (by decide)))).symm
            have m6701 := (Wr.neV wH6658 (Or.inl (G_ne ga0 gnw (by decide)))).trans m6652
            have m6702 := (Wr.neI wH6658 (Or.inl (G_ne gkq gnw (by decide)))).trans m6653
            have m6703 := m6654.trans (Wr.neI wH6658 (Or.inr (x_apart hKT hts inX8 tyX8 tyX8_ok nmX8 rfl 6 7 (by decide) (by decide) (by decide)))).symm
            have m6704 := ex6657.trans (Wr.neI wH6658 (Or.inl (G_ne grq gnw (by decide)))).symm
            have m6705 := Wr.I wH6658
            have m6705 := m6705.symm
            refine lv_iconst (v := (-1)) hx hb dX9_text_134 (by decide) ?_
            have cn_x6322 := i_cl (x := x6322) bx6322.1
            have cn_x6320 := i_cl (x := x6320) bx6320.1
            have cn_x6318 := i_cl (x := x6318) bx6318.1
            have cn_F := i_cl (x := F) (by omega)
            exact x_iret C hQ dX9_text_135 hSH6658 (by decide) (by decide) (⟨(-1), x6319, x6320, x6321, x6322, x6323, x6324, rfl, m6665, m6666, m6667, m6668, m6669, m6670, by omega, m6671, m6672, m6674, m6675, m6676, m6677, m6678, m6679, m6680, m6681, m6682, m6683, m6684, m6685, m6686, m6687, m6688, m6689, m6690, m6691, m6692, m6693, m6694, m6695, m6696, m6697, m6698, m6699, m6700, Or.inl ⟨by omega, Or.inl ⟨HD.get hF7 (by omega), by omega⟩⟩, (Or.inl (by omega)), f6660, (Or.inr f6661), f6662, m6701, hTH6658⟩)
        · have k6541 := i_ne c6540
          refine lv_aload_n hx hb dX9_text_82 rfl (lv_at hl6317 0 rfl) ?_
          refine x_gr C hTH6493 (ci := 9) (k := 4) rfl inX9 (by decide) wF_X9_23 ga0 rg_68 rfl dX9_text_83 (fun q6706 eq6706 gq6706 => ?_)
          have uq6706 : rq = q6706 := (m6510).trans eq6706.symm
          subst uq6706
          refine x_V (As := []) (rest := []) C (a_X4_line_g l K G H6493 (F) (x6320) (x6321) (x6322) (x6324) (x6323) (kK bt tp.toNatClampNeg) (vV bt tp.toNatClampNeg) hTH6493 grq gmq m6512 gkq m6513 gvq m6514 gms m6522 gmw m6515 gmf m6516 gmj m6517 gme m6518 gma m6519 gmc m6520 gmd m6521 m6502 m6503 m6504 m6506 m6505 m6538 (by omega) (by omega) (by omega) (fun j => vV_r j) f6499 f6500) yo_X4_line wM_X9_129 ⟨⟨by decide, by decide⟩, by decide, by decide⟩ (x_rv C hTH6493 (ci := 4) rfl grq rg_78) rfl hl6317.1 rfl (Nat.le_of_ble_eq_true rfl) dX9_text_86 hSH6493 (AE_sub (fun _ _ => rfl) (by decide) hSH6493.1) (fun vH6707 H6707 locsH6707 pH6707 zH6707 kH6707 hSH6707 => ?_)
          obtain ⟨x6708, x6709, x6710, x6711, x6712, hvH6707, bx6708, ex6709, ex6710, ex6711, ex6712, hrH6707, m6713, m6714, m6715, m6716, m6717, m6718, m6719, m6720, m6721, m6722, m6723, m6724, m6725, m6726, m6727, m6728, m6729, m6730, m6731, m6732, m6733, m6734, m6735, hTH6707⟩ := pH6707
          subst hvH6707
          have f6736 : ∀ j : Nat, bt j = (fI H6707 tq j).toInt := fun j => (f6495 j).trans (congrArg Int32.toInt (fI_kept (x_lt hTH6493 kH6707 gtq (by decide))).symm)
          have f6737 : ∀ q t : Nat, G q = some t → t ≠ 68 → t ≠ 0 → t ≠ 78 → t ≠ 79 → t ≠ 80 → t ≠ 81 → t ≠ 69 → t ≠ 70 → t ≠ 71 → t ≠ 72 → t ≠ 73 → t ≠ 74 → t ≠ 75 → t ≠ 76 → t ≠ 77 → q ≠ tx → q ≠ xw → q ≠ xf → q ≠ xj → q ≠ xe → q ≠ xa → q ≠ xc → q ≠ xd → q ≠ xs → H6707[q]? = s.heap[q]? := (fun q t hq h1 h2 h3 h4 h5 h6 h7 h8 h9 h10 h11 h12 h13 h14 h15 n1 n2 n3 n4 n5 n6 n7 n8 n9 => (x_lt hTH6493 kH6707 hq (nm2 h3 (nm2 h7 (nm2 h15 (nm2 h8 (nm2 h9 (nm2 h10 (nm2 h11 (nm2 h12 (nm2 h13 (nm2 h14 nm0))))))))))).trans (f6496 q t hq h1 h2 h3 h4 h5 h6 h7 h8 h9 h10 h11 h12 h13 h14 h15 n1 n2 n3 n4 n5 n6 n7 n8 n9))
          have f6738 : ∀ q t : Nat, G q = some t → t ≠ 68 → t ≠ 0 → t ≠ 78 → t ≠ 79 → t ≠ 80 → t ≠ 81 → t ≠ 69 → t ≠ 70 → t ≠ 71 → t ≠ 72 → t ≠ 73 → t ≠ 74 → t ≠ 75 → t ≠ 76 → t ≠ 77 → H6707[q]? = s.heap[q]? := (fun q t hq h1 h2 h3 h4 h5 h6 h7 h8 h9 h10 h11 h12 h13 h14 h15  => (x_lt hTH6493 kH6707 hq (nm2 h3 (nm2 h7 (nm2 h15 (nm2 h8 (nm2 h9 (nm2 h10 (nm2 h11 (nm2 h12 (nm2 h13 (nm2 h14 nm0))))))))))).trans (f6497 q t hq h1 h2 h3 h4 h5 h6 h7 h8 h9 h10 h11 h12 h13 h14 h15 ))
          have f6739 : NWF K H6707 s.heap nw := NWF.st f6498 (fun k hk => fR_kept (x_lt hTH6493 kH6707 gnw (by decide)))
          have f6740 : ∀ j : Nat, j ≤ F.toNatClampNeg → (kK bt tp.toNatClampNeg) j = (fI H6707 kq j).toInt := fun j hj => (f6499 j hj).trans (congrArg Int32.toInt (fI_kept (x_lt hTH6493 kH6707 gkq (by decide))).symm)
          have f6741 : ∀ j : Nat, j ≤ F.toNatClampNeg → (vV bt tp.toNatClampNeg) j = (fI H6707 vq j).toInt := fun j hj => (f6500 j hj).trans (congrArg Int32.toInt (fI_kept (x_lt hTH6493 kH6707 gvq (by decide))).symm)
          have m6742 := (m6501).trans (fI_kept (x_lt hTH6493 kH6707 ga0 (by decide))).symm
          have m6743 := (m6507).trans (fR_kept (x_lt hTH6493 kH6707 ga0 (by decide))).symm
          have m6744 := (m6508).trans (fR_kept (x_lt hTH6493 kH6707 gnw (by decide))).symm
          have m6745 := (m6509).trans (fR_kept (x_lt hTH6493 kH6707 glawq (by decide))).symm
          have m6746 := (m6510).trans (fR_kept (x_lt hTH6493 kH6707 ga0 (by decide))).symm
          have m6747 := (m6511).trans (fR_kept (x_lt hTH6493 kH6707 ga0 (by decide))).symm
          have m6748 := (m6523).trans (fR_kept (x_lt hTH6493 kH6707 gtx (by decide))).symm
          have m6749 := (m6524).trans (fR_kept (x_lt hTH6493 kH6707 gtx (by decide))).symm
          have m6750 := (m6525).trans (fR_kept (x_lt hTH6493 kH6707 gtx (by decide))).symm
          have m6751 := (m6526).trans (fR_kept (x_lt hTH6493 kH6707 gtx (by decide))).symm
          have m6752 := (m6527).trans (fR_kept (x_lt hTH6493 kH6707 gtx (by decide))).symm
          have m6753 := (m6528).trans (fR_kept (x_lt hTH6493 kH6707 gtx (by decide))).symm
          have m6754 := (m6529).trans (fR_kept (x_lt hTH6493 kH6707 gtx (by decide))).symm
          have m6755 := (m6530).trans (fR_kept (x_lt hTH6493 kH6707 gtx (by decide))).symm
          have m6756 := (m6531).trans (fI_kept (x_lt hTH6493 kH6707 gnw (by decide))).symm
          have m6757 := (m6532).trans (fI_kept (x_lt hTH6493 kH6707 gnw (by decide))).symm
          have m6758 := (m6533).trans (fI_kept (x_lt hTH6493 kH6707 gnw (by decide))).symm
          have m6759 := (m6534).trans (fI_kept (x_lt hTH6493 kH6707 gnw (by decide))).symm
          have m6760 := (m6535).trans (fI_kept (x_lt hTH6493 kH6707 gnw (by decide))).symm
          have m6761 := (m6536).trans (fI_kept (x_lt hTH6493 kH6707 gnw (by decide))).symm
          have m6762 := (fV_kept (x_lt hTH6493 kH6707 ga0 (by decide))).trans m6537
          have m6763 := (fI_kept (x_lt hTH6493 kH6707 gkq (by decide))).trans m6538
          have bx6709 := ty_fi (x := x6709) (k := 7) ex6709 hTH6707 grq rg_78 rfl
          have bx6710 := ty_fi (x := x6710) (k := 1) ex6710 hTH6707 grq rg_78 rfl
          have bx6711 := ty_fi (x := x6711) (k := 0) ex6711 hTH6707 gmq rg_69 rfl
          have bx6712 := ty_fi (x := x6712) (k := 9) ex6712 hTH6707 gmq rg_69 rfl
          have cn_x6711 := i_cl (x := x6711) bx6711.1
          have cn_x6709 := i_cl (x := x6709) bx6709.1
          have cn_x6712 := i_cl (x := x6712) bx6712.1
          have cn_x6322 := i_cl (x := x6322) bx6322.1
          have cn_x6320 := i_cl (x := x6320) bx6320.1
          have cn_x6324 := i_cl (x := x6324) bx6324.1
          have tw6764 : HD (x6710.toInt = 0 → TXW H6707 mw mf mj me ma mc md ms (kK bt tp.toNatClampNeg) (vV bt tp.toNatClampNeg) 1 x6711.toNatClampNeg x6709.toNatClampNeg x6712.toNatClampNeg) := HD.mk (fun h0 => TXW.go (HD.get tw6539 (by omega)) (by omega) (by have z := (if_neg (show ¬ 16 ≤ x6322.toInt by omega)).symm.trans (RQ.yes m6725 (by omega)); rw [show x6323.toInt = 1 by omega] at z; exact z) (by have z := m6726.resolve_left (by omega); rw [show x6323.toInt = 1 by omega] at z; exact z) m6729 m6730 m6731 m6732 m6733 m6734 m6735 (m6727.resolve_left (by omega)) (by omega) (by rw [m6728.resolve_left (by omega)]; exact Nat.le_refl _))
          refine W.eq (g2 := F0 m 89 ls6316 [.int x6708]) rfl ?_
          refine lv_pop hx hb dX9_text_89 rfl ?_
          obtain ⟨x6765, ex6765⟩ : ∃ y : Int32, y = x6318 + 1 := ⟨_, rfl⟩
          have tx6765 := i_add ex6765 (by omega)
          refine lv_iinc (v := x6765) (lv' := [(5, .int x6765), (0, .ref a0), (4, .ref tx)]) hx hb dX9_text_90 hl6317 (k := 2) rfl (by rw [ex6765]; rfl) (by decide) rfl (fun ls6766 hl6767 => ?_)
          refine lv_goto (tgt := 65) hx hb dX9_text_93 (by decide) ?_
          have cn_x6765 := i_cl (x := x6765) (by omega)
          have cn_F := i_cl (x := F) (by omega)
          have cn_x6318 := i_cl (x := x6318) bx6318.1
          have ee_ := HD.get hF6 (by omega)
          have lq_ : (if x1.toInt = 0 then (1 : Int) else 0) = x6323.toInt := by split <;> omega
          rw [lq_] at ee_
          exact ih65 F ls6766 H6707 locsH6707 (x6765) (x6319) (x6709) (x6710) (x6711) (x6323) (x6712) (lv_sub hl6767 [1, 2, 0] rfl) hTH6707 hSH6707 (by have := i_rng x6765; omega) bx6319 bx6709 bx6711 bx6323 bx6712 m6742 ex6709 ex6710 ex6711 m6724 ex6712 m6743 m6744 m6745 m6746 m6747 m6713 m6714 m6715 m6717 m6718 m6719 m6720 m6721 m6722 m6723 m6716 m6748 m6749 m6750 m6751 m6752 m6753 m6754 m6755 m6756 m6757 m6758 m6759 m6760 m6761 m6762 f6736 f6737 f6738 f6739 (by omega) (by omega) (by omega) (by omega) m6763 f6740 f6741 (HD.mk (fun h0 => by rw [lq_]; exact ee_.trans (tx_go (by omega) (by omega) (by omega) ((if_neg (by omega)).symm.trans (RQ.yes m6725 (by omega))) (by omega)))) (HD.mk (fun h0 => by rw [lq_]; exact ee_.trans (tx_no (by omega) (by by_cases h16 : 16 ≤ x6322.toNatClampNeg; exact Or.inl h16; exact Or.inr ((if_neg (by omega)).symm.trans (RQ.no m6725 (by omega))))))) tw6764
  refine lv_aload_n hx hb dX9_text_0 rfl (lv_at hl 0 rfl) ?_
  refine x_gi C hT (ci := 9) (k := 3) rfl inX9 (by decide) wF_X9_105 ga0 rg_68 rfl dX9_text_1 (fun x6768 ex6768 bx6768 => ?_)
  have ux6768 : tp = x6768 := (etp).trans ex6768.symm
  subst ux6768
  refine lv_istore_n (lv' := [(3, .int tp), (0, .ref a0), (1, .int x1), (2, .int x2)]) hx hb dX9_text_4 rfl hl (by decide) rfl (fun ls6769 hl6770 => ?_)
  refine lv_aload_n hx hb dX9_text_5 rfl (lv_at hl6770 1 rfl) ?_
  refine lv_iconst (v := 0) hx hb dX9_text_6 (by decide) ?_
  refine x_put C hT hS (ci := 9) (k := 3) (v := .int 0) (ty0 := tyX9) rfl inX9 tyX9_ok nmX9 (by decide) rfl wF_X9_105 ga0 rg_68 rfl rfl (okI (by have := i_rng (0 : Int32); omega) (by have := i_rng (0 : Int32); omega)) rfl rfl (AE_in ga0 (by decide)) dX9_text_7 (fun H6771 locsH6771 hTH6771 hSH6771 wH6771 => ?_)
  have f6772 : ∀ j : Nat, bt j = (fI H6771 tq j).toInt := fun j => (f0_bt j).trans (congrArg Int32.toInt (Wr.neI wH6771 (Or.inl (G_ne gtq ga0 (by decide)))).symm)
  have f6773 : ∀ q t : Nat, G q = some t → t ≠ 68 → t ≠ 0 → t ≠ 78 → t ≠ 79 → t ≠ 80 → t ≠ 81 → t ≠ 69 → t ≠ 70 → t ≠ 71 → t ≠ 72 → t ≠ 73 → t ≠ 74 → t ≠ 75 → t ≠ 76 → t ≠ 77 → q ≠ tx → q ≠ xw → q ≠ xf → q ≠ xj → q ≠ xe → q ≠ xa → q ≠ xc → q ≠ xd → q ≠ xs → H6771[q]? = s.heap[q]? := (fun q t hq h1 h2 h3 h4 h5 h6 h7 h8 h9 h10 h11 h12 h13 h14 h15 n1 n2 n3 n4 n5 n6 n7 n8 n9 => (wH6771.off (G_ne hq ga0 h1)).trans (f0_fx q t hq h1 h2 h3 h4 h5 h6 h7 h8 h9 h10 h11 h12 h13 h14 h15 n1 n2 n3 n4 n5 n6 n7 n8 n9))
  have f6774 : ∀ q t : Nat, G q = some t → t ≠ 68 → t ≠ 0 → t ≠ 78 → t ≠ 79 → t ≠ 80 → t ≠ 81 → t ≠ 69 → t ≠ 70 → t ≠ 71 → t ≠ 72 → t ≠ 73 → t ≠ 74 → t ≠ 75 → t ≠ 76 → t ≠ 77 → H6771[q]? = s.heap[q]? := (fun q t hq h1 h2 h3 h4 h5 h6 h7 h8 h9 h10 h11 h12 h13 h14 h15  => (wH6771.off (G_ne hq ga0 h1)).trans (f0_fy q t hq h1 h2 h3 h4 h5 h6 h7 h8 h9 h10 h11 h12 h13 h14 h15 ))
  have f6775 : NWF K H6771 s.heap nw := NWF.st f0_nw (fun k hk => fR_kept (wH6771.off (G_ne gnw ga0 (by decide))))
  have m6776 := enw.trans (Wr.neR wH6771 (Or.inr (x_apart hKT hts inX9 tyX9 tyX9_ok nmX9 rfl 0 3 (by decide) (by decide) (by decide)))).symm
  have m6777 := elawq.trans (Wr.neR wH6771 (Or.inl (G_ne gnw ga0 (by decide)))).symm
  have m6778 := etx.trans (Wr.neR wH6771 (Or.inl (G_ne glawq ga0 (by decide)))).symm
  have m6779 := erq.trans (Wr.neR wH6771 (Or.inr (x_apart hKT hts inX9 tyX9 tyX9_ok nmX9 rfl 4 3 (by decide) (by decide) (by decide)))).symm
  have m6780 := etq.trans (Wr.neR wH6771 (Or.inr (x_apart hKT hts inX9 tyX9 tyX9_ok nmX9 rfl 2 3 (by decide) (by decide) (by decide)))).symm
  have m6781 := emq.trans (Wr.neR wH6771 (Or.inl (G_ne grq ga0 (by decide)))).symm
  have m6782 := ekq.trans (Wr.neR wH6771 (Or.inl (G_ne grq ga0 (by decide)))).symm
  have m6783 := evq.trans (Wr.neR wH6771 (Or.inl (G_ne grq ga0 (by decide)))).symm
  have m6784 := emw.trans (Wr.neR wH6771 (Or.inl (G_ne gmq ga0 (by decide)))).symm
  have m6785 := emf.trans (Wr.neR wH6771 (Or.inl (G_ne gmq ga0 (by decide)))).symm
  have m6786 := emj.trans (Wr.neR wH6771 (Or.inl (G_ne gmq ga0 (by decide)))).symm
  have m6787 := eme.trans (Wr.neR wH6771 (Or.inl (G_ne gmq ga0 (by decide)))).symm
  have m6788 := ema.trans (Wr.neR wH6771 (Or.inl (G_ne gmq ga0 (by decide)))).symm
  have m6789 := emc.trans (Wr.neR wH6771 (Or.inl (G_ne gmq ga0 (by decide)))).symm
  have m6790 := emd.trans (Wr.neR wH6771 (Or.inl (G_ne gmq ga0 (by decide)))).symm
  have m6791 := ems.trans (Wr.neR wH6771 (Or.inl (G_ne gmq ga0 (by decide)))).symm
  have m6792 := exw.trans (Wr.neR wH6771 (Or.inl (G_ne gtx ga0 (by decide)))).symm
  have m6793 := exf.trans (Wr.neR wH6771 (Or.inl (G_ne gtx ga0 (by decide)))).symm
  have m6794 := exj.trans (Wr.neR wH6771 (Or.inl (G_ne gtx ga0 (by decide)))).symm
  have m6795 := exe.trans (Wr.neR wH6771 (Or.inl (G_ne gtx ga0 (by decide)))).symm
  have m6796 := exa.trans (Wr.neR wH6771 (Or.inl (G_ne gtx ga0 (by decide)))).symm
  have m6797 := exc.trans (Wr.neR wH6771 (Or.inl (G_ne gtx ga0 (by decide)))).symm
  have m6798 := exd.trans (Wr.neR wH6771 (Or.inl (G_ne gtx ga0 (by decide)))).symm
  have m6799 := exs.trans (Wr.neR wH6771 (Or.inl (G_ne gtx ga0 (by decide)))).symm
  have m6801 := etat.trans (Wr.neI wH6771 (Or.inl (G_ne grq ga0 (by decide)))).symm
  have m6802 := efa.trans (Wr.neI wH6771 (Or.inl (G_ne grq ga0 (by decide)))).symm
  have m6803 := eli.trans (Wr.neI wH6771 (Or.inl (G_ne gmq ga0 (by decide)))).symm
  have m6804 := elw.trans (Wr.neI wH6771 (Or.inl (G_ne grq ga0 (by decide)))).symm
  have m6805 := esc.trans (Wr.neI wH6771 (Or.inl (G_ne gmq ga0 (by decide)))).symm
  have m6806 := es1.trans (Wr.neI wH6771 (Or.inl (G_ne gnw ga0 (by decide)))).symm
  have m6807 := es4.trans (Wr.neI wH6771 (Or.inl (G_ne gnw ga0 (by decide)))).symm
  have m6808 := es5.trans (Wr.neI wH6771 (Or.inl (G_ne gnw ga0 (by decide)))).symm
  have m6809 := es10.trans (Wr.neI wH6771 (Or.inl (G_ne gnw ga0 (by decide)))).symm
  have m6810 := es13.trans (Wr.neI wH6771 (Or.inl (G_ne gnw ga0 (by decide)))).symm
  have m6811 := es16.trans (Wr.neI wH6771 (Or.inl (G_ne gnw ga0 (by decide)))).symm
  have m6812 := (Wr.neV wH6771 (Or.inr (x_apart hKT hts inX9 tyX9 tyX9_ok nmX9 rfl 1 3 (by decide) (by decide) (by decide)))).trans hkv
  have m6813 := Wr.I wH6771
  refine lv_aload_n hx hb dX9_text_10 rfl (lv_at hl6770 1 rfl) ?_
  refine x_gr C hTH6771 (ci := 9) (k := 0) rfl inX9 (by decide) wF_X9_12 ga0 rg_68 rfl dX9_text_11 (fun q6814 eq6814 gq6814 => ?_)
  have uq6814 : nw = q6814 := (m6776).trans eq6814.symm
  subst uq6814
  refine lv_iconst (v := 0) hx hb dX9_text_14 (by decide) ?_
  refine x_put C hTH6771 hSH6771 (ci := 8) (k := 6) (v := .int 0) (ty0 := tyX8) rfl inX8 tyX8_ok nmX8 (by decide) rfl wF_X9_111 gnw rg_0 rfl rfl (okI (i_rng (0 : Int32)).1 (i_rng (0 : Int32)).2) rfl rfl (AE_in gnw (by decide)) dX9_text_15 (fun H6815 locsH6815 hTH6815 hSH6815 wH6815 => ?_)
  have f6816 : ∀ j : Nat, bt j = (fI H6815 tq j).toInt := fun j => (f6772 j).trans (congrArg Int32.toInt (Wr.neI wH6815 (Or.inl (G_ne gtq gnw (by decide)))).symm)
  have f6817 : ∀ q t : Nat, G q = some t → t ≠ 68 → t ≠ 0 → t ≠ 78 → t ≠ 79 → t ≠ 80 → t ≠ 81 → t ≠ 69 → t ≠ 70 → t ≠ 71 → t ≠ 72 → t ≠ 73 → t ≠ 74 → t ≠ 75 → t ≠ 76 → t ≠ 77 → q ≠ tx → q ≠ xw → q ≠ xf → q ≠ xj → q ≠ xe → q ≠ xa → q ≠ xc → q ≠ xd → q ≠ xs → H6815[q]? = s.heap[q]? := (fun q t hq h1 h2 h3 h4 h5 h6 h7 h8 h9 h10 h11 h12 h13 h14 h15 n1 n2 n3 n4 n5 n6 n7 n8 n9 => (wH6815.off (G_ne hq gnw h2)).trans (f6773 q t hq h1 h2 h3 h4 h5 h6 h7 h8 h9 h10 h11 h12 h13 h14 h15 n1 n2 n3 n4 n5 n6 n7 n8 n9))
  have f6818 : ∀ q t : Nat, G q = some t → t ≠ 68 → t ≠ 0 → t ≠ 78 → t ≠ 79 → t ≠ 80 → t ≠ 81 → t ≠ 69 → t ≠ 70 → t ≠ 71 → t ≠ 72 → t ≠ 73 → t ≠ 74 → t ≠ 75 → t ≠ 76 → t ≠ 77 → H6815[q]? = s.heap[q]? := (fun q t hq h1 h2 h3 h4 h5 h6 h7 h8 h9 h10 h11 h12 h13 h14 h15  => (wH6815.off (G_ne hq gnw h2)).trans (f6774 q t hq h1 h2 h3 h4 h5 h6 h7 h8 h9 h10 h11 h12 h13 h14 h15 ))
  have f6819 : NWF K H6815 s.heap nw := NWF.st f6775 (fun k hk => Wr.neR wH6815 (Or.inr (hapW k _ (by omega) (by decide) (by omega))))
  have m6820 := m6776.trans (Wr.neR wH6815 (Or.inl (G_ne ga0 gnw (by decide)))).symm
  have m6821 := m6777.trans (Wr.neR wH6815 (Or.inr (x_apart hKT hts inX8 tyX8 tyX8_ok nmX8 rfl 2 6 (by decide) (by decide) (by decide)))).symm
  have m6822 := m6778.trans (Wr.neR wH6815 (Or.inl (G_ne glawq gnw (by decide)))).symm
  have m6823 := m6779.trans (Wr.neR wH6815 (Or.inl (G_ne ga0 gnw (by decide)))).symm
  have m6824 := m6780.trans (Wr.neR wH6815 (Or.inl (G_ne ga0 gnw (by decide)))).symm
  have m6825 := m6781.trans (Wr.neR wH6815 (Or.inl (G_ne grq gnw (by decide)))).symm
  have m6826 := m6782.trans (Wr.neR wH6815 (Or.inl (G_ne grq gnw (by decide)))).symm
  have m6827 := m6783.trans (Wr.neR wH6815 (Or.inl (G_ne grq gnw (by decide)))).symm
  have m6828 := m6784.trans (Wr.neR wH6815 (Or.inl (G_ne gmq gnw (by decide)))).symm
  have m6829 := m6785.trans (Wr.neR wH6815 (Or.inl (G_ne gmq gnw (by decide)))).symm
  have m6830 := m6786.trans (Wr.neR wH6815 (Or.inl (G_ne gmq gnw (by decide)))).symm
  have m6831 := m6787.trans (Wr.neR wH6815 (Or.inl (G_ne gmq gnw (by decide)))).symm
  have m6832 := m6788.trans (Wr.neR wH6815 (Or.inl (G_ne gmq gnw (by decide)))).symm
  have m6833 := m6789.trans (Wr.neR wH6815 (Or.inl (G_ne gmq gnw (by decide)))).symm
  have m6834 := m6790.trans (Wr.neR wH6815 (Or.inl (G_ne gmq gnw (by decide)))).symm
  have m6835 := m6791.trans (Wr.neR wH6815 (Or.inl (G_ne gmq gnw (by decide)))).symm
  have m6836 := m6792.trans (Wr.neR wH6815 (Or.inl (G_ne gtx gnw (by decide)))).symm
  have m6837 := m6793.trans (Wr.neR wH6815 (Or.inl (G_ne gtx gnw (by decide)))).symm
  have m6838 := m6794.trans (Wr.neR wH6815 (Or.inl (G_ne gtx gnw (by decide)))).symm
  have m6839 := m6795.trans (Wr.neR wH6815 (Or.inl (G_ne gtx gnw (by decide)))).symm
  have m6840 := m6796.trans (Wr.neR wH6815 (Or.inl (G_ne gtx gnw (by decide)))).symm
  have m6841 := m6797.trans (Wr.neR wH6815 (Or.inl (G_ne gtx gnw (by decide)))).symm
  have m6842 := m6798.trans (Wr.neR wH6815 (Or.inl (G_ne gtx gnw (by decide)))).symm
  have m6843 := m6799.trans (Wr.neR wH6815 (Or.inl (G_ne gtx gnw (by decide)))).symm
  have m6844 := m6801.trans (Wr.neI wH6815 (Or.inl (G_ne grq gnw (by decide)))).symm
  have m6845 := m6802.trans (Wr.neI wH6815 (Or.inl (G_ne grq gnw (by decide)))).symm
  have m6846 := m6803.trans (Wr.neI wH6815 (Or.inl (G_ne gmq gnw (by decide)))).symm
  have m6847 := m6804.trans (Wr.neI wH6815 (Or.inl (G_ne grq gnw (by decide)))).symm
  have m6848 := m6805.trans (Wr.neI wH6815 (Or.inl (G_ne gmq gnw (by decide)))).symm
  have m6849 := m6806.trans (Wr.neI wH6815 (Or.inr (x_apart hKT hts inX8 tyX8 tyX8_ok nmX8 rfl 1 6 (by decide) (by decide) (by decide)))).symm
  have m6850 := m6807.trans (Wr.neI wH6815 (Or.inr (x_apart hKT hts inX8 tyX8 tyX8_ok nmX8 rfl 4 6 (by decide) (by decide) (by decide)))).symm
  have m6851 := m6808.trans (Wr.neI wH6815 (Or.inr (x_apart hKT hts inX8 tyX8 tyX8_ok nmX8 rfl 5 6 (by decide) (by decide) (by decide)))).symm
  have m6852 := m6809.trans (Wr.neI wH6815 (Or.inr (x_apart hKT hts inX8 tyX8 tyX8_ok nmX8 rfl 10 6 (by decide) (by decide) (by decide)))).symm
  have m6853 := m6810.trans (Wr.neI wH6815 (Or.inr (x_apart hKT hts inX8 tyX8 tyX8_ok nmX8 rfl 13 6 (by decide) (by decide) (by decide)))).symm
  have m6854 := m6811.trans (Wr.neI wH6815 (Or.inr (x_apart hKT hts inX8 tyX8 tyX8_ok nmX8 rfl 16 6 (by decide) (by decide) (by decide)))).symm
  have m6855 := (Wr.neV wH6815 (Or.inl (G_ne ga0 gnw (by decide)))).trans m6812
  have m6856 := (Wr.neI wH6815 (Or.inl (G_ne ga0 gnw (by decide)))).trans m6813
  have m6857 := Wr.I wH6815
  refine lv_aload_n hx hb dX9_text_18 rfl (lv_at hl6770 1 rfl) ?_
  refine x_gr C hTH6815 (ci := 9) (k := 0) rfl inX9 (by decide) wF_X9_12 ga0 rg_68 rfl dX9_text_19 (fun q6858 eq6858 gq6858 => ?_)
  have uq6858 : nw = q6858 := (m6820).trans eq6858.symm
  subst uq6858
  refine lv_iconst (v := (-1)) hx hb dX9_text_22 (by decide) ?_
  refine x_put C hTH6815 hSH6815 (ci := 8) (k := 7) (v := .int (-1)) (ty0 := tyX8) rfl inX8 tyX8_ok nmX8 (by decide) rfl wF_X9_114 gnw rg_0 rfl rfl (okI (i_rng ((-1) : Int32)).1 (i_rng ((-1) : Int32)).2) rfl rfl (AE_in gnw (by decide)) dX9_text_23 (fun H6859 locsH6859 hTH6859 hSH6859 wH6859 => ?_)
  clear f6772 f6773 f6774 f6775 m6776 m6777 m6778 m6779 m6780 m6781 m6782 m6783 m6784 m6785 m6786 m6787 m6788 m6789 m6790 m6791 m6792 m6793 m6794 m6795 m6796 m6797 m6798 m6799 m6801 m6802 m6803 m6804 m6805 m6806 m6807 m6808 m6809 m6810 m6811 m6812 m6813
  have f6860 : ∀ j : Nat, bt j = (fI H6859 tq j).toInt := fun j => (f6816 j).trans (congrArg Int32.toInt (Wr.neI wH6859 (Or.inl (G_ne gtq gnw (by decide)))).symm)
  have f6861 : ∀ q t : Nat, G q = some t → t ≠ 68 → t ≠ 0 → t ≠ 78 → t ≠ 79 → t ≠ 80 → t ≠ 81 → t ≠ 69 → t ≠ 70 → t ≠ 71 → t ≠ 72 → t ≠ 73 → t ≠ 74 → t ≠ 75 → t ≠ 76 → t ≠ 77 → q ≠ tx → q ≠ xw → q ≠ xf → q ≠ xj → q ≠ xe → q ≠ xa → q ≠ xc → q ≠ xd → q ≠ xs → H6859[q]? = s.heap[q]? := (fun q t hq h1 h2 h3 h4 h5 h6 h7 h8 h9 h10 h11 h12 h13 h14 h15 n1 n2 n3 n4 n5 n6 n7 n8 n9 => (wH6859.off (G_ne hq gnw h2)).trans (f6817 q t hq h1 h2 h3 h4 h5 h6 h7 h8 h9 h10 h11 h12 h13 h14 h15 n1 n2 n3 n4 n5 n6 n7 n8 n9))
  have f6862 : ∀ q t : Nat, G q = some t → t ≠ 68 → t ≠ 0 → t ≠ 78 → t ≠ 79 → t ≠ 80 → t ≠ 81 → t ≠ 69 → t ≠ 70 → t ≠ 71 → t ≠ 72 → t ≠ 73 → t ≠ 74 → t ≠ 75 → t ≠ 76 → t ≠ 77 → H6859[q]? = s.heap[q]? := (fun q t hq h1 h2 h3 h4 h5 h6 h7 h8 h9 h10 h11 h12 h13 h14 h15  => (wH6859.off (G_ne hq gnw h2)).trans (f6818 q t hq h1 h2 h3 h4 h5 h6 h7 h8 h9 h10 h11 h12 h13 h14 h15 ))
  have f6863 : NWF K H6859 s.heap nw := NWF.st f6819 (fun k hk => Wr.neR wH6859 (Or.inr (hapW k _ (by omega) (by decide) (by omega))))
  have m6864 := m6820.trans (Wr.neR wH6859 (Or.inl (G_ne ga0 gnw (by decide)))).symm
  have m6865 := m6821.trans (Wr.neR wH6859 (Or.inr (x_apart hKT hts inX8 tyX8 tyX8_ok nmX8 rfl 2 7 (by decide) (by decide) (by decide)))).symm
  have m6866 := m6822.trans (Wr.neR wH6859 (Or.inl (G_ne glawq gnw (by decide)))).symm
  have m6867 := m6823.trans (Wr.neR wH6859 (Or.inl (G_ne ga0 gnw (by decide)))).symm
  have m6868 := m6824.trans (Wr.neR wH6859 (Or.inl (G_ne ga0 gnw (by decide)))).symm
  have m6869 := m6825.trans (Wr.neR wH6859 (Or.inl (G_ne grq gnw (by decide)))).symm
  have m6870 := m6826.trans (Wr.neR wH6859 (Or.inl (G_ne grq gnw (by decide)))).symm
  have m6871 := m6827.trans (Wr.neR wH6859 (Or.inl (G_ne grq gnw (by decide)))).symm
  have m6872 := m6828.trans (Wr.neR wH6859 (Or.inl (G_ne gmq gnw (by decide)))).symm
  have m6873 := m6829.trans (Wr.neR wH6859 (Or.inl (G_ne gmq gnw (by decide)))).symm
  have m6874 := m6830.trans (Wr.neR wH6859 (Or.inl (G_ne gmq gnw (by decide)))).symm
  have m6875 := m6831.trans (Wr.neR wH6859 (Or.inl (G_ne gmq gnw (by decide)))).symm
  have m6876 := m6832.trans (Wr.neR wH6859 (Or.inl (G_ne gmq gnw (by decide)))).symm
  have m6877 := m6833.trans (Wr.neR wH6859 (Or.inl (G_ne gmq gnw (by decide)))).symm
  have m6878 := m6834.trans (Wr.neR wH6859 (Or.inl (G_ne gmq gnw (by decide)))).symm
  have m6879 := m6835.trans (Wr.neR wH6859 (Or.inl (G_ne gmq gnw (by decide)))).symm
  have m6880 := m6836.trans (Wr.neR wH6859 (Or.inl (G_ne gtx gnw (by decide)))).symm
  have m6881 := m6837.trans (Wr.neR wH6859 (Or.inl (G_ne gtx gnw (by decide)))).symm
  have m6882 := m6838.trans (Wr.neR wH6859 (Or.inl (G_ne gtx gnw (by decide)))).symm
  have m6883 := m6839.trans (Wr.neR wH6859 (Or.inl (G_ne gtx gnw (by decide)))).symm
  have m6884 := m6840.trans (Wr.neR wH6859 (Or.inl (G_ne gtx gnw (by decide)))).symm
  have m6885 := m6841.trans (Wr.neR wH6859 (Or.inl (G_ne gtx gnw (by decide)))).symm
  have m6886 := m6842.trans (Wr.neR wH6859 (Or.inl (G_ne gtx gnw (by decide)))).symm
  have m6887 := m6843.trans (Wr.neR wH6859 (Or.inl (G_ne gtx gnw (by decide)))).symm
  have m6888 := m6844.trans (Wr.neI wH6859 (Or.inl (G_ne grq gnw (by decide)))).symm
  have m6889 := m6845.trans (Wr.neI wH6859 (Or.inl (G_ne grq gnw (by decide)))).symm
  have m6890 := m6846.trans (Wr.neI wH6859 (Or.inl (G_ne gmq gnw (by decide)))).symm
  have m6891 := m6847.trans (Wr.neI wH6859 (Or.inl (G_ne grq gnw (by decide)))).symm
  have m6892 := m6848.trans (Wr.neI wH6859 (Or.inl (G_ne gmq gnw (by decide)))).symm
  have m6893 := m6849.trans (Wr.neI wH6859 (Or.inr (x_apart hKT hts inX8 tyX8 tyX8_ok nmX8 rfl 1 7 (by decide) (by decide) (by decide)))).symm
  have m6894 := m6850.trans (Wr.neI wH6859 (Or.inr (x_apart hKT hts inX8 tyX8 tyX8_ok nmX8 rfl 4 7 (by decide) (by decide) (by decide)))).symm
  have m6895 := m6851.trans (Wr.neI wH6859 (Or.inr (x_apart hKT hts inX8 tyX8 tyX8_ok nmX8 rfl 5 7 (by decide) (by decide) (by decide)))).symm
  have m6896 := m6852.trans (Wr.neI wH6859 (Or.inr (x_apart hKT hts inX8 tyX8 tyX8_ok nmX8 rfl 10 7 (by decide) (by decide) (by decide)))).symm
  have m6897 := m6853.trans (Wr.neI wH6859 (Or.inr (x_apart hKT hts inX8 tyX8 tyX8_ok nmX8 rfl 13 7 (by decide) (by decide) (by decide)))).symm
  have m6898 := m6854.trans (Wr.neI wH6859 (Or.inr (x_apart hKT hts inX8 tyX8 tyX8_ok nmX8 rfl 16 7 (by decide) (by decide) (by decide)))).symm
  have m6899 := (Wr.neV wH6859 (Or.inl (G_ne ga0 gnw (by decide)))).trans m6855
  have m6900 := (Wr.neI wH6859 (Or.inl (G_ne ga0 gnw (by decide)))).trans m6856
  have m6901 := (Wr.neI wH6859 (Or.inr (x_apart hKT hts inX8 tyX8 tyX8_ok nmX8 rfl 6 7 (by decide) (by decide) (by decide)))).trans m6857
  have m6902 := Wr.I wH6859
  refine lv_aload_n hx hb dX9_text_26 rfl (lv_at hl6770 1 rfl) ?_
  refine lv_iload_n hx hb dX9_text_27 rfl (lv_at hl6770 2 rfl) ?_
  refine lv_iload_n hx hb dX9_text_28 rfl (lv_at hl6770 3 rfl) ?_
  refine x_V (As := [.int x1, .int x2]) (rest := []) C (a_X9_textAt_l l K G H6859 (x1) (x2) hTH6859 ga0 gnw m6864 glawq m6865 gtx m6866 (by omega)) yo_X9_textAt wM_X9_117 ⟨⟨by decide, by decide⟩, by decide, by decide⟩ (x_rv C hTH6859 (ci := 9) rfl ga0 rg_68) rfl hl6770.1 rfl (Nat.le_of_ble_eq_true rfl) dX9_text_29 hSH6859 (AE_sub (fun _ _ => rfl) (by decide) hSH6859.1) (fun vH6903 H6903 locsH6903 pH6903 zH6903 kH6903 hSH6903 => ?_)
  have hqH6903 := pH6903.1.symm
  subst hqH6903
  have hvH6903 := pH6903.2
  subst hvH6903
  refine W.eq (g2 := F0 m 32 ls6769 [.ref tx]) rfl ?_
  refine lv_astore (lv' := [(4, .ref tx), (3, .int tp), (0, .ref a0), (1, .int x1), (2, .int x2)]) hx hb dX9_text_32 hl6770 (by decide) rfl (fun ls6904 hl6905 => ?_)
  refine lv_aload hx hb dX9_text_34 (lv_at hl6905 0 rfl) ?_
  refine lv_ifnonnull (tgt := 41) hx hb dX9_text_36 (by decide) ?_
  refine lv_aload_n hx hb dX9_text_41 rfl (lv_at hl6905 2 rfl) ?_
  refine x_gr C hTH6859 (ci := 9) (k := 4) rfl inX9 (by decide) wF_X9_23 ga0 rg_68 rfl dX9_text_42 (fun q6906 eq6906 gq6906 => ?_)
  have uq6906 : rq = q6906 := (m6867).trans eq6906.symm
  subst uq6906
  refine lv_aload_n hx hb dX9_text_45 rfl (lv_at hl6905 2 rfl) ?_
  refine x_gr C hTH6859 (ci := 9) (k := 2) rfl inX9 (by decide) wF_X9_16 ga0 rg_68 rfl dX9_text_46 (fun q6907 eq6907 gq6907 => ?_)
  have uq6907 : tq = q6907 := (m6868).trans eq6907.symm
  subst uq6907
  refine lv_iload_n hx hb dX9_text_49 rfl (lv_at hl6905 1 rfl) ?_
  refine lv_iload_n hx hb dX9_text_50 rfl (lv_at hl6905 3 rfl) ?_
  refine lv_if_ne (tgt := 58) hx hb dX9_text_51 (by decide) (fun c6908 => ?_) (fun c6908 => ?_)
  · have k6909 := i_ne c6908
    exfalso
    omega
  · have k6909 := i_eq c6908
    refine lv_iconst (v := 1) hx hb dX9_text_54 (by decide) ?_
    refine lv_goto (tgt := 59) hx hb dX9_text_55 (by decide) ?_
    obtain ⟨x6910, ex6910⟩ : ∃ z : Int32, z = fI H6859 rq (K.1.2 4 6) := ⟨_, rfl⟩
    have bx6910 := ty_fi (x := x6910) (k := 6) ex6910 hTH6859 grq rg_78 rfl
    refine x_V (As := [.ref tq, .int tp, .int 1]) (rest := []) C (a_X4_start_g l K G H6859 (tp) (1) (tat) (x6910) (lw) (fa) (li) (sc) bt hTH6859 grq gtq (by omega) (by decide) gmq m6869 gkq m6870 gvq m6871 gms m6879 gmw m6872 gmf m6873 gmj m6874 gme m6875 gma m6876 gmc m6877 gmd m6878 m6888 ex6910 m6891 m6889 m6890 m6892 f6860) yo_X4_start wM_X9_121 ⟨⟨by decide, by decide⟩, by decide, by decide⟩ (x_rv C hTH6859 (ci := 4) rfl grq rg_78) rfl hl6905.1 rfl (Nat.le_of_ble_eq_true rfl) dX9_text_59 hSH6903 (AE_sub (fun _ _ => rfl) (by decide) hSH6903.1) (fun vH6911 H6911 locsH6911 pH6911 zH6911 kH6911 hSH6911 => ?_)
    obtain ⟨x6912, x6913, x6914, x6915, x6916, x6917, hvH6911, ex6912, ex6913, ex6914, ex6915, ex6916, ex6917, hrH6911, m6918, m6919, m6920, m6921, m6922, m6923, m6924, m6925, m6926, m6927, m6928, m6929, hTH6911⟩ := pH6911
    subst hvH6911
    clear f6816 f6817 f6818 f6819 m6820 m6821 m6822 m6823 m6824 m6825 m6826 m6827 m6828 m6829 m6830 m6831 m6832 m6833 m6834 m6835 m6836 m6837 m6838 m6839 m6840 m6841 m6842 m6843 m6844 m6845 m6846 m6847 m6848 m6849 m6850 m6851 m6852 m6853 m6854 m6855 m6856 m6857
    have f6930 : ∀ j : Nat, bt j = (fI H6911 tq j).toInt := fun j => (f6860 j).trans (congrArg Int32.toInt (fI_kept (x_lt hTH6859 kH6911 gtq (by decide))).symm)
    have f6931 : ∀ q t : Nat, G q = some t → t ≠ 68 → t ≠ 0 → t ≠ 78 → t ≠ 79 → t ≠ 80 → t ≠ 81 → t ≠ 69 → t ≠ 70 → t ≠ 71 → t ≠ 72 → t ≠ 73 → t ≠ 74 → t ≠ 75 → t ≠ 76 → t ≠ 77 → q ≠ tx → q ≠ xw → q ≠ xf → q ≠ xj → q ≠ xe → q ≠ xa → q ≠ xc → q ≠ xd → q ≠ xs → H6911[q]? = s.heap[q]? := (fun q t hq h1 h2 h3 h4 h5 h6 h7 h8 h9 h10 h11 h12 h13 h14 h15 n1 n2 n3 n4 n5 n6 n7 n8 n9 => (x_lt hTH6859 kH6911 hq (nm2 h3 (nm2 h4 (nm2 h5 (nm2 h6 (nm2 h7 nm0)))))).trans (f6861 q t hq h1 h2 h3 h4 h5 h6 h7 h8 h9 h10 h11 h12 h13 h14 h15 n1 n2 n3 n4 n5 n6 n7 n8 n9))
    have f6932 : ∀ q t : Nat, G q = some t → t ≠ 68 → t ≠ 0 → t ≠ 78 → t ≠ 79 → t ≠ 80 → t ≠ 81 → t ≠ 69 → t ≠ 70 → t ≠ 71 → t ≠ 72 → t ≠ 73 → t ≠ 74 → t ≠ 75 → t ≠ 76 → t ≠ 77 → H6911[q]? = s.heap[q]? := (fun q t hq h1 h2 h3 h4 h5 h6 h7 h8 h9 h10 h11 h12 h13 h14 h15  => (x_lt hTH6859 kH6911 hq (nm2 h3 (nm2 h4 (nm2 h5 (nm2 h6 (nm2 h7 nm0)))))).trans (f6862 q t hq h1 h2 h3 h4 h5 h6 h7 h8 h9 h10 h11 h12 h13 h14 h15 ))
    have f6933 : NWF K H6911 s.heap nw := NWF.st f6863 (fun k hk => fR_kept (x_lt hTH6859 kH6911 gnw (by decide)))
    have m6934 := (m6864).trans (fR_kept (x_lt hTH6859 kH6911 ga0 (by decide))).symm
    have m6935 := (m6865).trans (fR_kept (x_lt hTH6859 kH6911 gnw (by decide))).symm
    have m6936 := (m6866).trans (fR_kept (x_lt hTH6859 kH6911 glawq (by decide))).symm
    have m6937 := (m6867).trans (fR_kept (x_lt hTH6859 kH6911 ga0 (by decide))).symm
    have m6938 := (m6868).trans (fR_kept (x_lt hTH6859 kH6911 ga0 (by decide))).symm
    have m6939 := (m6880).trans (fR_kept (x_lt hTH6859 kH6911 gtx (by decide))).symm
    have m6940 := (m6881).trans (fR_kept (x_lt hTH6859 kH6911 gtx (by decide))).symm
    have m6941 := (m6882).trans (fR_kept (x_lt hTH6859 kH6911 gtx (by decide))).symm
    have m6942 := (m6883).trans (fR_kept (x_lt hTH6859 kH6911 gtx (by decide))).symm
    have m6943 := (m6884).trans (fR_kept (x_lt hTH6859 kH6911 gtx (by decide))).symm
    have m6944 := (m6885).trans (fR_kept (x_lt hTH6859 kH6911 gtx (by decide))).symm
    have m6945 := (m6886).trans (fR_kept (x_lt hTH6859 kH6911 gtx (by decide))).symm
    have m6946 := (m6887).trans (fR_kept (x_lt hTH6859 kH6911 gtx (by decide))).symm
    have m6947 := (m6893).trans (fI_kept (x_lt hTH6859 kH6911 gnw (by decide))).symm
    have m6948 := (m6894).trans (fI_kept (x_lt hTH6859 kH6911 gnw (by decide))).symm
    have m6949 := (m6895).trans (fI_kept (x_lt hTH6859 kH6911 gnw (by decide))).symm
    have m6950 := (m6896).trans (fI_kept (x_lt hTH6859 kH6911 gnw (by decide))).symm
    have m6951 := (m6897).trans (fI_kept (x_lt hTH6859 kH6911 gnw (by decide))).symm
    have m6952 := (m6898).trans (fI_kept (x_lt hTH6859 kH6911 gnw (by decide))).symm
    have m6953 := (fV_kept (x_lt hTH6859 kH6911 ga0 (by decide))).trans m6899
    have m6954 := (fI_kept (x_lt hTH6859 kH6911 ga0 (by decide))).trans m6900
    have m6955 := (fI_kept (x_lt hTH6859 kH6911 gnw (by decide))).trans m6901
    have m6956 := (fI_kept (x_lt hTH6859 kH6911 gnw (by decide))).trans m6902
    have bx6912 := ty_fi (x := x6912) (k := 7) ex6912 hTH6911 grq rg_78 rfl
    have bx6913 := ty_fi (x := x6913) (k := 6) ex6913 hTH6911 grq rg_78 rfl
    have bx6914 := ty_fi (x := x6914) (k := 8) ex6914 hTH6911 grq rg_78 rfl
    have bx6915 := ty_fi (x := x6915) (k := 1) ex6915 hTH6911 grq rg_78 rfl
    have bx6916 := ty_fi (x := x6916) (k := 0) ex6916 hTH6911 gmq rg_69 rfl
    have bx6917 := ty_fi (x := x6917) (k := 9) ex6917 hTH6911 gmq rg_69 rfl
    obtain ⟨F6957, bF6957, mF6957, tkF6957⟩ := m6929
    have fkF6957 : ∀ j : Nat, j ≤ F6957.toNatClampNeg → (kK bt tp.toNatClampNeg) j = (fI H6911 kq j).toInt := fun j hj => ((tkF6957 j (by omega)).1).symm
    have fvF6957 : ∀ j : Nat, j ≤ F6957.toNatClampNeg → (vV bt tp.toNatClampNeg) j = (fI H6911 vq j).toInt := fun j hj => ((tkF6957 j (by omega)).2).symm
    refine W.eq (g2 := F0 m 62 ls6904 []) rfl ?_
    refine lv_iconst (v := 0) hx hb dX9_text_62 (by decide) ?_
    refine lv_istore (lv' := [(5, .int 0), (4, .ref tx), (3, .int tp), (0, .ref a0), (1, .int x1), (2, .int x2)]) hx hb dX9_text_63 hl6905 (by decide) rfl (fun ls6958 hl6959 => ?_)
    have cn_x6916 := i_cl (x := x6916) bx6916.1
    have cn_x6912 := i_cl (x := x6912) bx6912.1
    have cn_x6917 := i_cl (x := x6917) bx6917.1
    have tw6960 : HD (x6915.toInt = 0 → TXW H6911 mw mf mj me ma mc md ms (kK bt tp.toNatClampNeg) (vV bt tp.toNatClampNeg) 1 x6916.toNatClampNeg x6912.toNatClampNeg x6917.toNatClampNeg) := HD.mk (fun h0 => TXW.nil (by omega) (by omega))
    have cn_F6957 := i_cl (x := F6957) (by omega)
    have z1_ : x6916.toNatClampNeg = 0 := by omega
    have z2_ : x6912.toNatClampNeg = 0 := by omega
    exact J65 ((17 - (0 : Int32).toInt).toNat + 1) F6957 ls6958 H6911 locsH6911 (0) (0) (x6912) (x6915) (x6916) (x6914) (x6917) (lv_sub hl6959 [3, 1, 0] rfl) hTH6911 hSH6911 (by decide) (by decide) bx6912 bx6916 bx6914 bx6917 (m6954).symm ex6912 ex6915 ex6916 ex6914 ex6917 m6934 m6935 m6936 m6937 m6938 m6918 m6919 m6920 m6922 m6923 m6924 m6925 m6926 m6927 m6928 m6921 m6939 m6940 m6941 m6942 m6943 m6944 m6945 m6946 m6947 m6948 m6949 m6950 m6951 m6952 m6953 f6930 f6931 f6932 f6933 (by omega) (by omega) (by omega) (by omega) mF6957 fkF6957 fvF6957 (HD.mk (fun _ => by rw [z1_, z2_]; rfl)) (HD.mk (fun h => by exfalso; omega)) tw6960

set_option maxHeartbeats 4000000 in
set_option maxRecDepth 100000 in
theorem a_X9_textAt_j (l : Launch) (K : KE) (G : Nat → Option Nat) (H : Heap) {a0 nw lq tx : Nat} (x1 x2 : Int32) (hT : TY K G H) (ga0 : G a0 = some 68) (gnw : G nw = some 0) (enw : nw = fR H a0 (K.1.2 9 0)) (glq : G lq = some 27) (elq : lq = fR H nw (K.1.2 8 3)) (gtx : G tx = some 16) (etx : tx = fR H lq x2.toNatClampNeg) (hr : x1.toInt = 1 ∧ 0 ≤ x2.toInt ∧ x2.toInt < 4) : MX l K yX9_textAt cX9_textAt 3 (some (.object "RingBars$Text")) 1 22 0 0 [.ref a0, .int x1, .int x2] H (AE G [] H.size) (fun v H1 => H1 = H ∧ v = some (.ref tx)) := by
  refine MX.of (by decide +kernel) (Nat.le_of_ble_eq_true rfl) ?_
  intro p e s m below meth c ls Q C hH hl hQ
  subst hH
  have C : CX p K s m _ meth c RX9 cX9_textAt 3 (some (.object "RingBars$Text")) "textAt" := C
  obtain ⟨hx, hb, hml, hown, hts, hKT, hr, hlocks, hnm⟩ := id C
  have hl : lv_has ls 3 [(0, .ref a0), (1, .int x1), (2, .int x2)] := hl
  have hS : va_S (AE G [] s.heap.size) s.heap s.heap [] := va_S.rf
  have n_0 : (0 : Int32).toInt = 0 := rfl
  have n_1 : (1 : Int32).toInt = 1 := rfl
  have n_3 : (3 : Int32).toInt = 3 := rfl
  refine lv_iload_n hx hb dX9_textAt_0 rfl (lv_at hl 1 rfl) ?_
  refine lv_if_ne (tgt := 23) hx hb dX9_textAt_1 (by decide) (fun c101 => ?_) (fun c101 => ?_)
  · have k102 := i_ne c101
    refine lv_iload_n hx hb dX9_textAt_23 rfl (lv_at hl 1 rfl) ?_
    refine lv_iconst (v := 1) hx hb dX9_textAt_24 (by decide) ?_
    refine lv_icmp_ne (tgt := 49) hx hb dX9_textAt_25 (by decide) (fun c103 => ?_) (fun c103 => ?_)
    · have k104 := i_ne c103
      exfalso
      omega
    · have k104 := i_eq c103
      refine lv_iload_n hx hb dX9_textAt_28 rfl (lv_at hl 2 rfl) ?_
      refine lv_iconst (v := 0) hx hb dX9_textAt_29 (by decide) ?_
      refine lv_iconst (v := 3) hx hb dX9_textAt_30 (by decide) ?_
      refine x_S (As := [.int x2, .int 0, .int 3]) (rest := []) C (a_X9_within_v l K G s.heap (x2) (0) (3) hT) yo_X9_within wM_X9_89 ⟨⟨by decide, by decide⟩, by decide, by decide⟩ rfl hl.1 rfl (Nat.le_of_ble_eq_true rfl) dX9_textAt_31 hS (AE_sub (fun _ _ => rfl) (by decide) hS.1) (fun vH105 H105 locsH105 pH105 zH105 kH105 hSH105 => ?_)
      have hqH105 := pH105.1.symm
      subst hqH105
      rcases pH105.2 with ⟨hvH105, hcH105⟩ | ⟨hvH105, hcH105⟩
      · subst hvH105
        refine W.eq (g2 := F0 m 34 ls [.int 1]) rfl ?_
        refine lv_if_eq (tgt := 49) hx hb dX9_textAt_34 (by decide) (fun c106 => ?_) (fun c106 => ?_)
        · have k107 := i_eq c106
          exfalso
          omega
        · have k107 := i_ne c106
          refine lv_aload_n hx hb dX9_textAt_37 rfl (lv_at hl 0 rfl) ?_
          refine x_gr C hT (ci := 9) (k := 0) rfl inX9 (by decide) wF_X9_12 ga0 rg_68 rfl dX9_textAt_38 (fun q108 eq108 gq108 => ?_)
          have uq108 : nw = q108 := (enw).trans eq108.symm
          subst uq108
          refine x_gr C hT (ci := 8) (k := 3) rfl inX8 (by decide) wF_X9_220 gnw rg_0 rfl dX9_textAt_41 (fun q109 eq109 gq109 => ?_)
          have uq109 : lq = q109 := (elq).trans eq109.symm
          subst uq109
          refine lv_iload_n hx hb dX9_textAt_44 rfl (lv_at hl 2 rfl) ?_
          refine x_ar C hT rfl rfl glq rg_27 ⟨by omega, by show _ < ((4 : Nat) : Int); omega⟩ dX9_textAt_45 (fun q110 eq110 gq110 => ?_)
          replace eq110 : @Eq Ad q110 (fR s.heap lq (x2 : Int32).toNatClampNeg) := eq110
          refine lv_goto (tgt := 50) hx hb dX9_textAt_46 (by decide) ?_
          exact x_aret C hQ (Or.inr ⟨_, rfl⟩) dX9_textAt_50 hSH105 (by decide) (by decide) (⟨rfl, by rw [← show tx = q110 from etx.trans eq110.symm]⟩)
      · subst hvH105
        refine W.eq (g2 := F0 m 34 ls [.int 0]) rfl ?_
        exfalso
        omega
  · have k102 := i_eq c101
    exfalso
    omega

set_option maxHeartbeats 4000000 in
set_option maxRecDepth 100000 in
theorem a_X9_text_j (l : Launch) (K : KE) (G : Nat → Option Nat) (H : Heap) {a0 : Nat} (x1 : Int32) (x2 : Int32) {nw : Nat} {lawq : Nat} {tx : Nat} {rq : Nat} {tq : Nat} {mq : Nat} {kq : Nat} {vq : Nat} {mw : Nat} {mf : Nat} {mj : Nat} {me : Nat} {ma : Nat} {mc : Nat} {md : Nat} {ms : Nat} {xw : Nat} {xf : Nat} {xj : Nat} {xe : Nat} {xa : Nat} {xc : Nat} {xd : Nat} {xs : Nat} (tp : Int32) (tat : Int32) (fa : Int32) (li : Int32) (lw : Int32) (sc : Int32) (s1 : Int32) (s4 : Int32) (s5 : Int32) (s10 : Int32) (s13 : Int32) (s16 : Int32) {kv : Value} (bt : Nat → Int) (hT : TY K G H) (ga0 : G a0 = some 68) (hx1 : 1 ≤ x1.toInt ∧ x1.toInt ≤ 1) (hx2 : 0 ≤ x2.toInt ∧ x2.toInt ≤ 3) (gnw : G nw = some 0) (enw : @Eq Ad nw (fR H a0 (K.1.2 9 0))) (glawq : G lawq = some 27) (elawq : @Eq Ad lawq (fR H nw (K.1.2 8 3))) (gtx : G tx = some 16) (etx : @Eq Ad tx (fR H lawq (x2 : Int32).toNatClampNeg)) (grq : G rq = some 78) (erq : @Eq Ad rq (fR H a0 (K.1.2 9 4))) (gtq : G tq = some 108) (etq : @Eq Ad tq (fR H a0 (K.1.2 9 2))) (gmq : G mq = some 69) (emq : @Eq Ad mq (fR H rq (K.1.2 4 0))) (gkq : G kq = some 79) (ekq : @Eq Ad kq (fR H rq (K.1.2 4 3))) (gvq : G vq = some 80) (evq : @Eq Ad vq (fR H rq (K.1.2 4 4))) (gmw : G mw = some 70) (emw : @Eq Ad mw (fR H mq (K.1.2 7 1))) (gmf : G mf = some 71) (emf : @Eq Ad mf (fR H mq (K.1.2 7 2))) (gmj : G mj = some 72) (emj : @Eq Ad mj (fR H mq (K.1.2 7 3))) (gme : G me = some 73) (eme : @Eq Ad me (fR H mq (K.1.2 7 4))) (gma : G ma = some 74) (ema : @Eq Ad ma (fR H mq (K.1.2 7 5))) (gmc : G mc = some 75) (emc : @Eq Ad mc (fR H mq (K.1.2 7 6))) (gmd : G md = some 76) (emd : @Eq Ad md (fR H mq (K.1.2 7 7))) (gms : G ms = some 77) (ems : @Eq Ad ms (fR H mq (K.1.2 7 8))) (gxw : G xw = some 17) (exw : @Eq Ad xw (fR H tx (K.1.2 7 1))) (gxf : G xf = some 18) (exf : @Eq Ad xf (fR H tx (K.1.2 7 2))) (gxj : G xj = some 19) (exj : @Eq Ad xj (fR H tx (K.1.2 7 3))) (gxe : G xe = some 20) (exe : @Eq Ad xe (fR H tx (K.1.2 7 4))) (gxa : G xa = some 21) (exa : @Eq Ad xa (fR H tx (K.1.2 7 5))) (gxc : G xc = some 22) (exc : @Eq Ad xc (fR H tx (K.1.2 7 6))) (gxd : G xd = some 23) (exd : @Eq Ad xd (fR H tx (K.1.2 7 7))) (gxs : G xs = some 24) (exs : @Eq Ad xs (fR H tx (K.1.2 7 8))) (etp : tp = fI H a0 (K.1.2 9 3)) (etat : tat = fI H rq (K.1.2 4 7)) (efa : fa = fI H rq (K.1.2 4 1)) (eli : li = fI H mq (K.1.2 7 0)) (elw : lw = fI H rq (K.1.2 4 8)) (esc : sc = fI H mq (K.1.2 7 9)) (es1 : s1 = fI H nw (K.1.2 8 1)) (es4 : s4 = fI H nw (K.1.2 8 4)) (es5 : s5 = fI H nw (K.1.2 8 5)) (es10 : s10 = fI H nw (K.1.2 8 10)) (es13 : s13 = fI H nw (K.1.2 8 13)) (es16 : s16 = fI H nw (K.1.2 8 16)) (hkv : fV H a0 (K.1.2 9 1) = kv) (hv_bt : ∀ j : Nat, bt j = (fI H tq j).toInt) : MX l K yX9_text cX9_text 6 (some .int) 39 869 0 0 [.ref a0, .int x1, .int x2] H (AE G [68, 0, 78, 79, 80, 81, 69, 70, 71, 72, 73, 74, 75, 76, 77, 16, 17, 18, 19, 20, 21, 22, 23, 24] H.size) (fun v H1 => ∃ (r : Int32) (t0 : Int32) (t1 : Int32) (t2 : Int32) (t3 : Int32) (t4 : Int32) (t5 : Int32), v = some (.int r) ∧ t0 = fI H1 a0 (K.1.2 9 3) ∧ t1 = fI H1 rq (K.1.2 4 7) ∧ t2 = fI H1 rq (K.1.2 4 1) ∧ t3 = fI H1 mq (K.1.2 7 0) ∧ t4 = fI H1 rq (K.1.2 4 8) ∧ t5 = fI H1 mq (K.1.2 7 9) ∧ (t0.toInt = 0) ∧ @Eq Ad nw (fR H1 a0 (K.1.2 9 0)) ∧ @Eq Ad lawq (fR H1 nw (K.1.2 8 3)) ∧ @Eq Ad rq (fR H1 a0 (K.1.2 9 4)) ∧ @Eq Ad tq (fR H1 a0 (K.1.2 9 2)) ∧ @Eq Ad mq (fR H1 rq (K.1.2 4 0)) ∧ @Eq Ad kq (fR H1 rq (K.1.2 4 3)) ∧ @Eq Ad vq (fR H1 rq (K.1.2 4 4)) ∧ @Eq Ad mw (fR H1 mq (K.1.2 7 1)) ∧ @Eq Ad mf (fR H1 mq (K.1.2 7 2)) ∧ @Eq Ad mj (fR H1 mq (K.1.2 7 3)) ∧ @Eq Ad me (fR H1 mq (K.1.2 7 4)) ∧ @Eq Ad ma (fR H1 mq (K.1.2 7 5)) ∧ @Eq Ad mc (fR H1 mq (K.1.2 7 6)) ∧ @Eq Ad md (fR H1 mq (K.1.2 7 7)) ∧ @Eq Ad ms (fR H1 mq (K.1.2 7 8)) ∧ @Eq Ad xw (fR H1 tx (K.1.2 7 1)) ∧ @Eq Ad xf (fR H1 tx (K.1.2 7 2)) ∧ @Eq Ad xj (fR H1 tx (K.1.2 7 3)) ∧ @Eq Ad xe (fR H1 tx (K.1.2 7 4)) ∧ @Eq Ad xa (fR H1 tx (K.1.2 7 5)) ∧ @Eq Ad xc (fR H1 tx (K.1.2 7 6)) ∧ @Eq Ad xd (fR H1 tx (K.1.2 7 7)) ∧ @Eq Ad xs (fR H1 tx (K.1.2 7 8)) ∧ s1 = fI H1 nw (K.1.2 8 1) ∧ s4 = fI H1 nw (K.1.2 8 4) ∧ s5 = fI H1 nw (K.1.2 8 5) ∧ s10 = fI H1 nw (K.1.2 8 10) ∧ s13 = fI H1 nw (K.1.2 8 13) ∧ s16 = fI H1 nw (K.1.2 8 16) ∧ (TXA bt tp.toNatClampNeg x1 x2 r) ∧ ((r.toInt = -1) ∨ (∃ n : Nat, r.toInt = (n : Int) ∧ n ≤ 16 ∧ fI H1 tx (K.1.2 7 0) = r ∧ TXM K H1 tx (kK bt tp.toNatClampNeg) (vV bt tp.toNatClampNeg) 0 n ∧ TXB K H1 tx n)) ∧ (∀ q t : Nat, G q = some t → t ≠ 68 → t ≠ 0 → t ≠ 78 → t ≠ 79 → t ≠ 80 → t ≠ 81 → t ≠ 69 → t ≠ 70 → t ≠ 71 → t ≠ 72 → t ≠ 73 → t ≠ 74 → t ≠ 75 → t ≠ 76 → t ≠ 77 → q ≠ tx → q ≠ xw → q ≠ xf → q ≠ xj → q ≠ xe → q ≠ xa → q ≠ xc → q ≠ xd → q ≠ xs → H1[q]? = H[q]?) ∧ ((r.toInt ≠ -1) ∨ ∀ q t : Nat, G q = some t → t ≠ 68 → t ≠ 0 → t ≠ 78 → t ≠ 79 → t ≠ 80 → t ≠ 81 → t ≠ 69 → t ≠ 70 → t ≠ 71 → t ≠ 72 → t ≠ 73 → t ≠ 74 → t ≠ 75 → t ≠ 76 → t ≠ 77 → H1[q]? = H[q]?) ∧ (NWF K H1 H nw) ∧ fV H1 a0 (K.1.2 9 1) = kv ∧ TY K G H1) := by
  refine MX.of (by decide +kernel) (Nat.le_of_ble_eq_true rfl) ?_
  intro p e s m below meth c ls Q C hH hl hQ
  subst hH
  have C : CX p K s m _ meth c RX9 cX9_text 6 (some .int) "text" := C
  obtain ⟨hx, hb, hml, hown, hts, hKT, hr, hlocks, hnm⟩ := id C
  have hl : lv_has ls 6 [(0, .ref a0), (1, .int x1), (2, .int x2)] := hl
  have hS : va_S (AE G [68, 0, 78, 79, 80, 81, 69, 70, 71, 72, 73, 74, 75, 76, 77, 16, 17, 18, 19, 20, 21, 22, 23, 24] s.heap.size) s.heap s.heap [] := va_S.rf
  have n_m1 : ((-1) : Int32).toInt = -1 := rfl
  have n_0 : (0 : Int32).toInt = 0 := rfl
  have n_1 : (1 : Int32).toInt = 1 := rfl
  have n_16 : (16 : Int32).toInt = 16 := rfl
  have n_26 : (26 : Int32).toInt = 26 := rfl
  have btp := ty_fi (x := tp) (k := 3) etp hT ga0 rg_68 rfl
  have btat := ty_fi (x := tat) (k := 7) etat hT grq rg_78 rfl
  have bfa := ty_fi (x := fa) (k := 1) efa hT grq rg_78 rfl
  have bli := ty_fi (x := li) (k := 0) eli hT gmq rg_69 rfl
  have blw := ty_fi (x := lw) (k := 8) elw hT grq rg_78 rfl
  have bsc := ty_fi (x := sc) (k := 9) esc hT gmq rg_69 rfl
  have bs1 := ty_fi (x := s1) (k := 1) es1 hT gnw rg_0 rfl
  have bs4 := ty_fi (x := s4) (k := 4) es4 hT gnw rg_0 rfl
  have bs5 := ty_fi (x := s5) (k := 5) es5 hT gnw rg_0 rfl
  have bs10 := ty_fi (x := s10) (k := 10) es10 hT gnw rg_0 rfl
  have bs13 := ty_fi (x := s13) (k := 13) es13 hT gnw rg_0 rfl
  have bs16 := ty_fi (x := s16) (k := 16) es16 hT gnw rg_0 rfl
  have hapW : ∀ x y, x < 17 → y < 17 → x ≠ y → K.1.2 8 x ≠ K.1.2 8 y := x_apart hKT hts inX8 tyX8 tyX8_ok nmX8 rfl
  have f0_bt := hv_bt
  have f0_fx : ∀ q t : Nat, G q = some t → t ≠ 68 → t ≠ 0 → t ≠ 78 → t ≠ 79 → t ≠ 80 → t ≠ 81 → t ≠ 69 → t ≠ 70 → t ≠ 71 → t ≠ 72 → t ≠ 73 → t ≠ 74 → t ≠ 75 → t ≠ 76 → t ≠ 77 → q ≠ tx → q ≠ xw → q ≠ xf → q ≠ xj → q ≠ xe → q ≠ xa → q ≠ xc → q ≠ xd → q ≠ xs → s.heap[q]? = s.heap[q]? := fun _ _ _ _ _ _ _ _ _ _ _ _ _ _ _ _ _ _ _ _ _ _ _ _ _ _ _ => rfl
  have f0_fy : ∀ q t : Nat, G q = some t → t ≠ 68 → t ≠ 0 → t ≠ 78 → t ≠ 79 → t ≠ 80 → t ≠ 81 → t ≠ 69 → t ≠ 70 → t ≠ 71 → t ≠ 72 → t ≠ 73 → t ≠ 74 → t ≠ 75 → t ≠ 76 → t ≠ 77 → s.heap[q]? = s.heap[q]? := fun _ _ _ _ _ _ _ _ _ _ _ _ _ _ _ _ _ _ => rfl
  have f0_nw : NWF K s.heap s.heap nw := NWF.rf
  have J65 : ∀ (nf : Nat) (F : Int32) (ls6316 : Array Slot) (H6315 : Heap) (locsH6315 : List Loc) (x6318 : Int32) (x6319 : Int32) (x6320 : Int32) (x6321 : Int32) (x6322 : Int32) (x6323 : Int32) (x6324 : Int32), lv_has ls6316 6 [(0, .ref a0), (4, .ref tx), (5, .int x6318)] → TY K G H6315 → va_S (AE G [68, 0, 78, 79, 80, 81, 69, 70, 71, 72, 73, 74, 75, 76, 77, 16, 17, 18, 19, 20, 21, 22, 23, 24] s.heap.size) s.heap H6315 locsH6315 → (0 ≤ x6318.toInt ∧ x6318.toInt ≤ 17) → (0 ≤ x6319.toInt ∧ x6319.toInt ≤ 0) → (0 ≤ x6320.toInt ∧ x6320.toInt ≤ 500) → (0 ≤ x6322.toInt ∧ x6322.toInt ≤ 16) → (0 ≤ x6323.toInt ∧ x6323.toInt ≤ 1) → (0 ≤ x6324.toInt ∧ x6324.toInt ≤ 500) → (x6319 = fI H6315 a0 (K.1.2 9 3)) → (x6320 = fI H6315 rq (K.1.2 4 7)) → (x6321 = fI H6315 rq (K.1.2 4 1)) → (x6322 = fI H6315 mq (K.1.2 7 0)) → (x6323 = fI H6315 rq (K.1.2 4 8)) → (x6324 = fI H6315 mq (K.1.2 7 9)) → (@Eq Ad nw (fR H6315 a0 (K.1.2 9 0))) → (@Eq Ad lawq (fR H6315 nw (K.1.2 8 3))) → (@Eq Ad tx (fR H6315 lawq (x2 : Int32).toNatClampNeg)) → (@Eq Ad rq (fR H6315 a0 (K.1.2 9 4))) → (@Eq Ad tq (fR H6315 a0 (K.1.2 9 2))) → (@Eq Ad mq (fR H6315 rq (K.1.2 4 0))) → (@Eq Ad kq (fR H6315 rq (K.1.2 4 3))) → (@Eq Ad vq (fR H6315 rq (K.1.2 4 4))) → (@Eq Ad mw (fR H6315 mq (K.1.2 7 1))) → (@Eq Ad mf (fR H6315 mq (K.1.2 7 2))) → (@Eq Ad mj (fR H6315 mq (K.1.2 7 3))) → (@Eq Ad me (fR H6315 mq (K.1.2 7 4))) → (@Eq Ad ma (fR H6315 mq (K.1.2 7 5))) → (@Eq Ad mc (fR H6315 mq (K.1.2 7 6))) → (@Eq Ad md (fR H6315 mq (K.1.2 7 7))) → (@Eq Ad ms (fR H6315 mq (K.1.2 7 8))) → (@Eq Ad xw (fR H6315 tx (K.1.2 7 1))) → (@Eq Ad xf (fR H6315 tx (K.1.2 7 2))) → (@Eq Ad xj (fR H6315 tx (K.1.2 7 3))) → (@Eq Ad xe (fR H6315 tx (K.1.2 7 4))) → (@Eq Ad xa (fR H6315 tx (K.1.2 7 5))) → (@Eq Ad xc (fR H6315 tx (K.1.2 7 6))) → (@Eq Ad xd (fR H6315 tx (K.1.2 7 7))) → (@Eq Ad xs (fR H6315 tx (K.1.2 7 8))) → (s1 = fI H6315 nw (K.1.2 8 1)) → (s4 = fI H6315 nw (K.1.2 8 4)) → (s5 = fI H6315 nw (K.1.2 8 5)) → (s10 = fI H6315 nw (K.1.2 8 10)) → (s13 = fI H6315 nw (K.1.2 8 13)) → (s16 = fI H6315 nw (K.1.2 8 16)) → (fV H6315 a0 (K.1.2 9 1) = kv) → (∀ j : Nat, bt j = (fI H6315 tq j).toInt) → (∀ q t : Nat, G q = some t → t ≠ 68 → t ≠ 0 → t ≠ 78 → t ≠ 79 → t ≠ 80 → t ≠ 81 → t ≠ 69 → t ≠ 70 → t ≠ 71 → t ≠ 72 → t ≠ 73 → t ≠ 74 → t ≠ 75 → t ≠ 76 → t ≠ 77 → q ≠ tx → q ≠ xw → q ≠ xf → q ≠ xj → q ≠ xe → q ≠ xa → q ≠ xc → q ≠ xd → q ≠ xs → H6315[q]? = s.heap[q]?) → (∀ q t : Nat, G q = some t → t ≠ 68 → t ≠ 0 → t ≠ 78 → t ≠ 79 → t ≠ 80 → t ≠ 81 → t ≠ 69 → t ≠ 70 → t ≠ 71 → t ≠ 72 → t ≠ 73 → t ≠ 74 → t ≠ 75 → t ≠ 76 → t ≠ 77 → H6315[q]? = s.heap[q]?) → (NWF K H6315 s.heap nw) → (17 - x6318.toInt < (nf : Int)) → (x6319.toInt = 0 ∧ (x6321.toInt ≠ 0 ∨ x6318.toInt = x6322.toInt) ∧ x6323.toInt = 0 ∧ (x6321.toInt ≠ 0 ∨ x6324.toInt ≤ x6320.toInt) ∧ ((x1.toInt = 0 ∧ 0 ≤ x2.toInt ∧ x2.toInt ≤ 1) ∨ (x1.toInt = 1 ∧ 0 ≤ x2.toInt ∧ x2.toInt ≤ 3))) → (0 ≤ F.toInt ∧ F.toInt ≤ 500) → (x6320.toInt ≤ F.toInt) → (fI H6315 kq F.toNatClampNeg = 26) → (∀ j : Nat, j ≤ F.toNatClampNeg → (kK bt tp.toNatClampNeg) j = (fI H6315 kq j).toInt) → (∀ j : Nat, j ≤ F.toNatClampNeg → (vV bt tp.toNatClampNeg) j = (fI H6315 vq j).toInt) → (HD (x6321.toInt = 0 → txS (kK bt tp.toNatClampNeg) (vV bt tp.toNatClampNeg) (if x1.toInt = 0 then 1 else 0) 18 0 0 = txS (kK bt tp.toNatClampNeg) (vV bt tp.toNatClampNeg) (if x1.toInt = 0 then 1 else 0) (18 - x6318.toNatClampNeg) x6322.toNatClampNeg x6320.toNatClampNeg)) → (HD (x6321.toInt ≠ 0 → txS (kK bt tp.toNatClampNeg) (vV bt tp.toNatClampNeg) (if x1.toInt = 0 then 1 else 0) 18 0 0 = none)) → (HD (x6321.toInt = 0 → TXW H6315 mw mf mj me ma mc md ms (kK bt tp.toNatClampNeg) (vV bt tp.toNatClampNeg) 0 x6322.toNatClampNeg x6320.toNatClampNeg x6324.toNatClampNeg)) → W p l e ({ frames := 39, cells := 0, slots := 0, locals := 869 } : Room) s m (([.ref a0, .int x1, .int x2] : List Value).toArray) below meth c H6315 locsH6315 0 0 Q (F0 m 65 ls6316 []) := by
    intro nf
    induction nf with
    | zero =>
      intro F ls6316 H6315 locsH6315 x6318 x6319 x6320 x6321 x6322 x6323 x6324 hl6317 hTH6315 hSH6315 bx6318 bx6319 bx6320 bx6322 bx6323 bx6324 ex6319 ex6320 ex6321 ex6322 ex6323 ex6324 cy6325_0 cy6325_1 cy6325_2 cy6325_3 cy6325_4 cy6325_5 cy6325_6 cy6325_7 cy6325_8 cy6325_9 cy6325_10 cy6325_11 cy6325_12 cy6325_13 cy6325_14 cy6325_15 cy6325_16 cy6325_17 cy6325_18 cy6325_19 cy6325_20 cy6325_21 cy6325_22 cy6325_23 cy6325_24 cy6325_25 cy6325_26 cy6325_27 cy6325_28 cy6325_29 cy6325_30 fy6325_bt fy6325_fx fy6325_fy fy6325_nw hm65 iv65 hF1 hF2 hF3 hF4 hF5 hF6 hF7 hF8
      have rx6321 := i_rng x6321
      exfalso
      omega
    | succ nf ih65 =>
      intro F ls6316 H6315 locsH6315 x6318 x6319 x6320 x6321 x6322 x6323 x6324 hl6317 hTH6315 hSH6315 bx6318 bx6319 bx6320 bx6322 bx6323 bx6324 ex6319 ex6320 ex6321 ex6322 ex6323 ex6324 cy6325_0 cy6325_1 cy6325_2 cy6325_3 cy6325_4 cy6325_5 cy6325_6 cy6325_7 cy6325_8 cy6325_9 cy6325_10 cy6325_11 cy6325_12 cy6325_13 cy6325_14 cy6325_15 cy6325_16 cy6325_17 cy6325_18 cy6325_19 cy6325_20 cy6325_21 cy6325_22 cy6325_23 cy6325_24 cy6325_25 cy6325_26 cy6325_27 cy6325_28 cy6325_29 cy6325_30 fy6325_bt fy6325_fx fy6325_fy fy6325_nw hm65 iv65 hF1 hF2 hF3 hF4 hF5 hF6 hF7 hF8
      have rx6321 := i_rng x6321
      refine lv_iload hx hb dX9_text_65 (lv_at hl6317 2 rfl) ?_
      refine lv_bipush (v := 16) hx hb dX9_text_67 (by decide) ?_
      refine lv_icmp_gt (tgt := 96) hx hb dX9_text_69 (by decide) (fun c6326 => ?_) (fun c6326 => ?_)
      · have k6327 := i_lt c6326
        refine lv_aload_n hx hb dX9_text_96 rfl (lv_at hl6317 0 rfl) ?_
        refine x_gr C hTH6315 (ci := 9) (k := 4) rfl inX9 (by decide) wF_X9_23 ga0 rg_68 rfl dX9_text_97 (fun q6328 eq6328 gq6328 => ?_)
        have uq6328 : rq = q6328 := (cy6325_3).trans eq6328.symm
        subst uq6328
        refine x_gi C hTH6315 (ci := 4) (k := 1) rfl inX4 (by decide) wF_X9_132 grq rg_78 rfl dX9_text_100 (fun x6329 ex6329 bx6329 => ?_)
        have ux6329 : x6321 = x6329 := (ex6321).trans ex6329.symm
        subst ux6329
        refine lv_if_eq (tgt := 136) hx hb dX9_text_103 (by decide) (fun c6330 => ?_) (fun c6330 => ?_)
        · have k6331 := i_eq c6330
          refine lv_aload hx hb dX9_text_136 (lv_at hl6317 1 rfl) ?_
          refine lv_aload_n hx hb dX9_text_138 rfl (lv_at hl6317 0 rfl) ?_
          refine x_gr C hTH6315 (ci := 9) (k := 4) rfl inX9 (by decide) wF_X9_23 ga0 rg_68 rfl dX9_text_139 (fun q6332 eq6332 gq6332 => ?_)
          have uq6332 : rq = q6332 := (cy6325_3).trans eq6332.symm
          subst uq6332
          refine x_gr C hTH6315 (ci := 4) (k := 0) rfl inX4 (by decide) wF_X9_134 grq rg_78 rfl dX9_text_142 (fun q6333 eq6333 gq6333 => ?_)
          have uq6333 : mq = q6333 := (cy6325_5).trans eq6333.symm
          subst uq6333
          obtain ⟨x6334, ex6334⟩ : ∃ z : Int32, z = fI H6315 tx (K.1.2 7 0) := ⟨_, rfl⟩
          have bx6334 := ty_fi (x := x6334) (k := 0) ex6334 hTH6315 gtx rg_16 rfl
          obtain ⟨x6335, ex6335⟩ : ∃ z : Int32, z = fI H6315 tx (K.1.2 7 9) := ⟨_, rfl⟩
          have bx6335 := ty_fi (x := x6335) (k := 9) ex6335 hTH6315 gtx rg_16 rfl
          refine x_V (As := [.ref mq]) (rest := []) C (a_X7_copyFrom_gm l K G H6315 (x6334) (x6335) (x6322) (x6324) hTH6315 gtx gmq gxw cy6325_16 gxf cy6325_17 gxj cy6325_18 gxe cy6325_19 gxa cy6325_20 gxc cy6325_21 gxd cy6325_22 gxs cy6325_23 gmw cy6325_8 gmf cy6325_9 gmj cy6325_10 gme cy6325_11 gma cy6325_12 gmc cy6325_13 gmd cy6325_14 gms cy6325_15 ex6334 ex6335 ex6322 ex6324) yo_X7_copyFrom wM_X9_138 ⟨⟨by decide, by decide⟩, by decide, by decide⟩ (x_rv C hTH6315 (ci := 7) rfl gtx rg_16) rfl hl6317.1 rfl (Nat.le_of_ble_eq_true rfl) dX9_text_145 hSH6315 (AE_sub (fun _ _ => rfl) (by decide) hSH6315.1) (fun vH6336 H6336 locsH6336 pH6336 zH6336 kH6336 hSH6336 => ?_)
          obtain ⟨x6337, x6338, hvH6336, ex6337, ex6338, hrH6336, m6339, m6340, m6341, m6342, m6343, m6344, m6345, m6346, m6347, m6348, m6349, m6350, m6351, m6352, m6353, m6354, m6355, hTH6336⟩ := pH6336
          subst hvH6336
          have f6356 : ∀ j : Nat, bt j = (fI H6336 tq j).toInt := fun j => (fy6325_bt j).trans (congrArg Int32.toInt (fI_kept (x_lt hTH6315 kH6336 gtq (by decide))).symm)
          have f6357 : NWF K H6336 s.heap nw := NWF.st fy6325_nw (fun k hk => fR_kept (x_lt hTH6315 kH6336 gnw (by decide)))
          have f6358 : ∀ j : Nat, j ≤ F.toNatClampNeg → (kK bt tp.toNatClampNeg) j = (fI H6336 kq j).toInt := fun j hj => (hF4 j hj).trans (congrArg Int32.toInt (fI_kept (x_lt hTH6315 kH6336 gkq (by decide))).symm)
          have f6359 : ∀ j : Nat, j ≤ F.toNatClampNeg → (vV bt tp.toNatClampNeg) j = (fI H6336 vq j).toInt := fun j hj => (hF5 j hj).trans (congrArg Int32.toInt (fI_kept (x_lt hTH6315 kH6336 gvq (by decide))).symm)
          have m6360 := (ex6319).trans (fI_kept (x_lt hTH6315 kH6336 ga0 (by decide))).symm
          have m6361 := (ex6320).trans (fI_kept (x_lt hTH6315 kH6336 grq (by decide))).symm
          have m6362 := (ex6321).trans (fI_kept (x_lt hTH6315 kH6336 grq (by decide))).symm
          have m6363 := (ex6322).trans (fI_kept (x_lt hTH6315 kH6336 gmq (by decide))).symm
          have m6364 := (ex6323).trans (fI_kept (x_lt hTH6315 kH6336 grq (by decide))).symm
          have m6365 := (ex6324).trans (fI_kept (x_lt hTH6315 kH6336 gmq (by decide))).symm
          have m6366 := (cy6325_0).trans (fR_kept (x_lt hTH6315 kH6336 ga0 (by decide))).symm
          have m6367 := (cy6325_1).trans (fR_kept (x_lt hTH6315 kH6336 gnw (by decide))).symm
          have m6368 := (cy6325_2).trans (fR_kept (x_lt hTH6315 kH6336 glawq (by decide))).symm
          have m6369 := (cy6325_3).trans (fR_kept (x_lt hTH6315 kH6336 ga0 (by decide))).symm
          have m6370 := (cy6325_4).trans (fR_kept (x_lt hTH6315 kH6336 ga0 (by decide))).symm
          have m6371 := (cy6325_5).trans (fR_kept (x_lt hTH6315 kH6336 grq (by decide))).symm
          have m6372 := (cy6325_6).trans (fR_kept (x_lt hTH6315 kH6336 grq (by decide))).symm
          have m6373 := (cy6325_7).trans (fR_kept (x_lt hTH6315 kH6336 grq (by decide))).symm
          have m6374 := (cy6325_8).trans (fR_kept (x_lt hTH6315 kH6336 gmq (by decide))).symm
          have m6375 := (cy6325_9).trans (fR_kept (x_lt hTH6315 kH6336 gmq (by decide))).symm
          have m6376 := (cy6325_10).trans (fR_kept (x_lt hTH6315 kH6336 gmq (by decide))).symm
          have m6377 := (cy6325_11).trans (fR_kept (x_lt hTH6315 kH6336 gmq (by decide))).symm
          have m6378 := (cy6325_12).trans (fR_kept (x_lt hTH6315 kH6336 gmq (by decide))).symm
          have m6379 := (cy6325_13).trans (fR_kept (x_lt hTH6315 kH6336 gmq (by decide))).symm
          have m6380 := (cy6325_14).trans (fR_kept (x_lt hTH6315 kH6336 gmq (by decide))).symm
          have m6381 := (cy6325_15).trans (fR_kept (x_lt hTH6315 kH6336 gmq (by decide))).symm
          have m6382 := (cy6325_24).trans (fI_kept (x_lt hTH6315 kH6336 gnw (by decide))).symm
          have m6383 := (cy6325_25).trans (fI_kept (x_lt hTH6315 kH6336 gnw (by decide))).symm
          have m6384 := (cy6325_26).trans (fI_kept (x_lt hTH6315 kH6336 gnw (by decide))).symm
          have m6385 := (cy6325_27).trans (fI_kept (x_lt hTH6315 kH6336 gnw (by decide))).symm
          have m6386 := (cy6325_28).trans (fI_kept (x_lt hTH6315 kH6336 gnw (by decide))).symm
          have m6387 := (cy6325_29).trans (fI_kept (x_lt hTH6315 kH6336 gnw (by decide))).symm
          have m6388 := (fV_kept (x_lt hTH6315 kH6336 ga0 (by decide))).trans cy6325_30
          have m6389 := (fI_kept (x_lt hTH6315 kH6336 gkq (by decide))).trans hF3
          have bx6337 := ty_fi (x := x6337) (k := 0) ex6337 hTH6336 gtx rg_16 rfl
          have bx6338 := ty_fi (x := x6338) (k := 9) ex6338 hTH6336 gtx rg_16 rfl
          have f6390 : ∀ q t : Nat, G q = some t → t ≠ 68 → t ≠ 0 → t ≠ 78 → t ≠ 79 → t ≠ 80 → t ≠ 81 → t ≠ 69 → t ≠ 70 → t ≠ 71 → t ≠ 72 → t ≠ 73 → t ≠ 74 → t ≠ 75 → t ≠ 76 → t ≠ 77 → q ≠ tx → q ≠ xw → q ≠ xf → q ≠ xj → q ≠ xe → q ≠ xa → q ≠ xc → q ≠ xd → q ≠ xs → H6336[q]? = s.heap[q]? := fun q t hq h1 h2 h3 h4 h5 h6 h7 h8 h9 h10 h11 h12 h13 h14 h15 n1 n2 n3 n4 n5 n6 n7 n8 n9 => (m6355 q t hq n1 n2 n3 n4 n5 n6 n7 n8 n9).trans (fy6325_fx q t hq h1 h2 h3 h4 h5 h6 h7 h8 h9 h10 h11 h12 h13 h14 h15 n1 n2 n3 n4 n5 n6 n7 n8 n9)
          refine W.eq (g2 := F0 m 148 ls6316 []) rfl ?_
          refine lv_aload hx hb dX9_text_148 (lv_at hl6317 1 rfl) ?_
          refine x_gi C hTH6336 (ci := 7) (k := 0) rfl inX7 (by decide) wF_X9_144 gtx rg_16 rfl dX9_text_150 (fun x6391 ex6391 bx6391 => ?_)
          have ux6391 : x6337 = x6391 := (ex6337).trans ex6391.symm
          subst ux6391
          have cn_x6322 := i_cl (x := x6322) bx6322.1
          have cn_x6320 := i_cl (x := x6320) bx6320.1
          have cn_x6318 := i_cl (x := x6318) bx6318.1
          have cn_F := i_cl (x := F) (by omega)
          have cn_x6324 := i_cl (x := x6324) bx6324.1
          exact x_iret C hQ dX9_text_153 hSH6336 (by decide) (by decide) (⟨x6337, x6319, x6320, x6321, x6322, x6323, x6324, rfl, m6360, m6361, m6362, m6363, m6364, m6365, by omega, m6366, m6367, m6369, m6370, m6371, m6372, m6373, m6374, m6375, m6376, m6377, m6378, m6379, m6380, m6381, m6339, m6340, m6341, m6342, m6343, m6344, m6345, m6346, m6382, m6383, m6384, m6385, m6386, m6387, Or.inl ⟨by omega, Or.inr ⟨x6322.toNatClampNeg, (HD.get hF6 (by omega)).trans (tx_end (by omega) (by omega)), by omega⟩⟩, (Or.inr ⟨x6322.toNatClampNeg, by omega, by omega, (ex6337).symm, fun j hj => by rw [← m6339, ← m6340, ← m6341, ← m6342, ← m6343, ← m6344, ← m6345, ← m6346, m6347 j (by omega), m6348 j (by omega), m6349 j (by omega), m6350 j (by omega), m6351 j (by omega), m6352 j (by omega), m6353 j (by omega)]; exact ((HD.get hF8 (by omega)).2 j (by omega)).1.keep (fun i hi => m6354 i (by omega)) ((HD.get hF8 (by omega)).2 j (by omega)).2.1 ((HD.get hF8 (by omega)).2 j (by omega)).2.2, fun j hj => by have zz := ((HD.get hF8 (by omega)).2 j (by omega)).2; have zc : x6338 = x6324 := Int32.toInt_inj.mp (by omega); rw [← m6344, ← m6345, m6352 j (by omega), m6353 j (by omega), ← ex6338, zc]; exact zz⟩), f6390, (Or.inl (by omega)), f6357, m6388, hTH6336⟩)
        · have k6331 := i_ne c6330
          refine lv_aload_n hx hb dX9_text_106 rfl (lv_at hl6317 0 rfl) ?_
          refine x_gr C hTH6315 (ci := 9) (k := 0) rfl inX9 (by decide) wF_X9_12 ga0 rg_68 rfl dX9_text_107 (fun q6392 eq6392 gq6392 => ?_)
          have uq6392 : nw = q6392 := (cy6325_0).trans eq6392.symm
          subst uq6392
          refine lv_aload_n hx hb dX9_text_110 rfl (lv_at hl6317 0 rfl) ?_
          refine x_gr C hTH6315 (ci := 9) (k := 4) rfl inX9 (by decide) wF_X9_23 ga0 rg_68 rfl dX9_text_111 (fun q6393 eq6393 gq6393 => ?_)
          have uq6393 : rq = q6393 := (cy6325_3).trans eq6393.symm
          subst uq6393
          refine x_gi C hTH6315 (ci := 4) (k := 1) rfl inX4 (by decide) wF_X9_132 grq rg_78 rfl dX9_text_114 (fun x6394 ex6394 bx6394 => ?_)
          have ux6394 : x6321 = x6394 := (ex6321).trans ex6394.symm
          subst ux6394
          refine x_put C hTH6315 hSH6315 (ci := 8) (k := 6) (v := .int x6321) (ty0 := tyX8) rfl inX8 tyX8_ok nmX8 (by decide) rfl wF_X9_111 gnw rg_0 rfl rfl (okI (i_rng x6321).1 (i_rng x6321).2) rfl rfl (AE_in gnw (by decide)) dX9_text_117 (fun H6395 locsH6395 hTH6395 hSH6395 wH6395 => ?_)
          have f6396 : ∀ j : Nat, bt j = (fI H6395 tq j).toInt := fun j => (fy6325_bt j).trans (congrArg Int32.toInt (Wr.neI wH6395 (Or.inl (G_ne gtq gnw (by decide)))).symm)
          have f6397 : ∀ q t : Nat, G q = some t → t ≠ 68 → t ≠ 0 → t ≠ 78 → t ≠ 79 → t ≠ 80 → t ≠ 81 → t ≠ 69 → t ≠ 70 → t ≠ 71 → t ≠ 72 → t ≠ 73 → t ≠ 74 → t ≠ 75 → t ≠ 76 → t ≠ 77 → q ≠ tx → q ≠ xw → q ≠ xf → q ≠ xj → q ≠ xe → q ≠ xa → q ≠ xc → q ≠ xd → q ≠ xs → H6395[q]? = s.heap[q]? := (fun q t hq h1 h2 h3 h4 h5 h6 h7 h8 h9 h10 h11 h12 h13 h14 h15 n1 n2 n3 n4 n5 n6 n7 n8 n9 => (wH6395.off (G_ne hq gnw h2)).trans (fy6325_fx q t hq h1 h2 h3 h4 h5 h6 h7 h8 h9 h10 h11 h12 h13 h14 h15 n1 n2 n3 n4 n5 n6 n7 n8 n9))
          have f6398 : ∀ q t : Nat, G q = some t → t ≠ 68 → t ≠ 0 → t ≠ 78 → t ≠ 79 → t ≠ 80 → t ≠ 81 → t ≠ 69 → t ≠ 70 → t ≠ 71 → t ≠ 72 → t ≠ 73 → t ≠ 74 → t ≠ 75 → t ≠ 76 → t ≠ 77 → H6395[q]? = s.heap[q]? := (fun q t hq h1 h2 h3 h4 h5 h6 h7 h8 h9 h10 h11 h12 h13 h14 h15  => (wH6395.off (G_ne hq gnw h2)).trans (fy6325_fy q t hq h1 h2 h3 h4 h5 h6 h7 h8 h9 h10 h11 h12 h13 h14 h15 ))
          have f6399 : NWF K H6395 s.heap nw := NWF.st fy6325_nw (fun k hk => Wr.neR wH6395 (Or.inr (hapW k _ (by omega) (by decide) (by omega))))
          have f6400 : ∀ j : Nat, j ≤ F.toNatClampNeg → (kK bt tp.toNatClampNeg) j = (fI H6395 kq j).toInt := fun j hj => (hF4 j hj).trans (congrArg Int32.toInt (Wr.neI wH6395 (Or.inl (G_ne gkq gnw (by decide)))).symm)
          have f6401 : ∀ j : Nat, j ≤ F.toNatClampNeg → (vV bt tp.toNatClampNeg) j = (fI H6395 vq j).toInt := fun j hj => (hF5 j hj).trans (congrArg Int32.toInt (Wr.neI wH6395 (Or.inl (G_ne gvq gnw (by decide)))).symm)
          have m6402 := ex6319.trans (Wr.neI wH6395 (Or.inl (G_ne ga0 gnw (by decide)))).symm
          have m6403 := ex6320.trans (Wr.neI wH6395 (Or.inl (G_ne grq gnw (by decide)))).symm
          have m6404 := ex6321.trans (Wr.neI wH6395 (Or.inl (G_ne grq gnw (by decide)))).symm
          have m6405 := ex6322.trans (Wr.neI wH6395 (Or.inl (G_ne gmq gnw (by decide)))).symm
          have m6406 := ex6323.trans (Wr.neI wH6395 (Or.inl (G_ne grq gnw (by decide)))).symm
          have m6407 := ex6324.trans (Wr.neI wH6395 (Or.inl (G_ne gmq gnw (by decide)))).symm
          have m6408 := cy6325_0.trans (Wr.neR wH6395 (Or.inl (G_ne ga0 gnw (by decide)))).symm
          have m6409 := cy6325_1.trans (Wr.neR wH6395 (Or.inr (x_apart hKT hts inX8 tyX8 tyX8_ok nmX8 rfl 3 6 (by decide) (by decide) (by decide)))).symm
          have m6410 := cy6325_2.trans (Wr.neR wH6395 (Or.inl (G_ne glawq gnw (by decide)))).symm
          have m6411 := cy6325_3.trans (Wr.neR wH6395 (Or.inl (G_ne ga0 gnw (by decide)))).symm
          have m6412 := cy6325_4.trans (Wr.neR wH6395 (Or.inl (G_ne ga0 gnw (by decide)))).symm
          have m6413 := cy6325_5.trans (Wr.neR wH6395 (Or.inl (G_ne grq gnw (by decide)))).symm
          have m6414 := cy6325_6.trans (Wr.neR wH6395 (Or.inl (G_ne grq gnw (by decide)))).symm
          have m6415 := cy6325_7.trans (Wr.neR wH6395 (Or.inl (G_ne grq gnw (by decide)))).symm
          have m6416 := cy6325_8.trans (Wr.neR wH6395 (Or.inl (G_ne gmq gnw (by decide)))).symm
          have m6417 := cy6325_9.trans (Wr.neR wH6395 (Or.inl (G_ne gmq gnw (by decide)))).symm
          have m6418 := cy6325_10.trans (Wr.neR wH6395 (Or.inl (G_ne gmq gnw (by decide)))).symm
          have m6419 := cy6325_11.trans (Wr.neR wH6395 (Or.inl (G_ne gmq gnw (by decide)))).symm
          have m6420 := cy6325_12.trans (Wr.neR wH6395 (Or.inl (G_ne gmq gnw (by decide)))).symm
          have m6421 := cy6325_13.trans (Wr.neR wH6395 (Or.inl (G_ne gmq gnw (by decide)))).symm
          have m6422 := cy6325_14.trans (Wr.neR wH6395 (Or.inl (G_ne gmq gnw (by decide)))).symm
          have m6423 := cy6325_15.trans (Wr.neR wH6395 (Or.inl (G_ne gmq gnw (by decide)))).symm
          have m6424 := cy6325_16.trans (Wr.neR wH6395 (Or.inl (G_ne gtx gnw (by decide)))).symm
          have m6425 := cy6325_17.trans (Wr.neR wH6395 (Or.inl (G_ne gtx gnw (by decide)))).symm
          have m6426 := cy6325_18.trans (Wr.neR wH6395 (Or.inl (G_ne gtx gnw (by decide)))).symm
          have m6427 := cy6325_19.trans (Wr.neR wH6395 (Or.inl (G_ne gtx gnw (by decide)))).symm
          have m6428 := cy6325_20.trans (Wr.neR wH6395 (Or.inl (G_ne gtx gnw (by decide)))).symm
          have m6429 := cy6325_21.trans (Wr.neR wH6395 (Or.inl (G_ne gtx gnw (by decide)))).symm
          have m6430 := cy6325_22.trans (Wr.neR wH6395 (Or.inl (G_ne gtx gnw (by decide)))).symm
          have m6431 := cy6325_23.trans (Wr.neR wH6395 (Or.inl (G_ne gtx gnw (by decide)))).symm
          have m6432 := cy6325_24.trans (Wr.neI wH6395 (Or.inr (x_apart hKT hts inX8 tyX8 tyX8_ok nmX8 rfl 1 6 (by decide) (by decide) (by decide)))).symm
          have m6433 := cy6325_25.trans (Wr.neI wH6395 (Or.inr (x_apart hKT hts inX8 tyX8 tyX8_ok nmX8 rfl 4 6 (by decide) (by decide) (by decide)))).symm
          have m6434 := cy6325_26.trans (Wr.neI wH6395 (Or.inr (x_apart hKT hts inX8 tyX8 tyX8_ok nmX8 rfl 5 6 (by decide) (by decide) (by decide)))).symm
          have m6435 := cy6325_27.trans (Wr.neI wH6395 (Or.inr (x_apart hKT hts inX8 tyX8 tyX8_ok nmX8 rfl 10 6 (by decide) (by decide) (by decide)))).symm
          have m6436 := cy6325_28.trans (Wr.neI wH6395 (Or.inr (x_apart hKT hts inX8 tyX8 tyX8_ok nmX8 rfl 13 6 (by decide) (by decide) (by decide)))).symm
          have m6437 := cy6325_29.trans (Wr.neI wH6395 (Or.inr (x_apart hKT hts inX8 tyX8 tyX8_ok nmX8 rfl 16 6 (by decide) (by decide) (by decide)))).symm
          have m6438 := (Wr.neV wH6395 (Or.inl (G_ne ga0 gnw (by decide)))).trans cy6325_30
          have m6439 := (Wr.neI wH6395 (Or.inl (G_ne gkq gnw (by decide)))).trans hF3
          have m6440 := Wr.I wH6395
          have m6440 := m6440.symm
          refine lv_aload_n hx hb dX9_text_120 rfl (lv_at hl6317 0 rfl) ?_
          refine x_gr C hTH6395 (ci := 9) (k := 0) rfl inX9 (by decide) wF_X9_12 ga0 rg_68 rfl dX9_text_121 (fun q6441 eq6441 gq6441 => ?_)
          have uq6441 : nw = q6441 := (m6408).trans eq6441.symm
          subst uq6441
          refine lv_aload_n hx hb dX9_text_124 rfl (lv_at hl6317 0 rfl) ?_
          refine x_gr C hTH6395 (ci := 9) (k := 4) rfl inX9 (by decide) wF_X9_23 ga0 rg_68 rfl dX9_text_125 (fun q6442 eq6442 gq6442 => ?_)
          have uq6442 : rq = q6442 := (m6411).trans eq6442.symm
          subst uq6442
          refine x_gi C hTH6395 (ci := 4) (k := 2) rfl inX4 (by decide) wF_X9_133 grq rg_78 rfl dX9_text_128 (fun x6443 ex6443 bx6443 => ?_)
          refine x_put C hTH6395 hSH6395 (ci := 8) (k := 7) (v := .int x6443) (ty0 := tyX8) rfl inX8 tyX8_ok nmX8 (by decide) rfl wF_X9_114 gnw rg_0 rfl rfl (okI bx6443.1 bx6443.2) rfl rfl (AE_in gnw (by decide)) dX9_text_131 (fun H6444 locsH6444 hTH6444 hSH6444 wH6444 => ?_)
          have f6445 : ∀ j : Nat, bt j = (fI H6444 tq j).toInt := fun j => (f6396 j).trans (congrArg Int32.toInt (Wr.neI wH6444 (Or.inl (G_ne gtq gnw (by decide)))).symm)
          have f6446 : ∀ q t : Nat, G q = some t → t ≠ 68 → t ≠ 0 → t ≠ 78 → t ≠ 79 → t ≠ 80 → t ≠ 81 → t ≠ 69 → t ≠ 70 → t ≠ 71 → t ≠ 72 → t ≠ 73 → t ≠ 74 → t ≠ 75 → t ≠ 76 → t ≠ 77 → q ≠ tx → q ≠ xw → q ≠ xf → q ≠ xj → q ≠ xe → q ≠ xa → q ≠ xc → q ≠ xd → q ≠ xs → H6444[q]? = s.heap[q]? := (fun q t hq h1 h2 h3 h4 h5 h6 h7 h8 h9 h10 h11 h12 h13 h14 h15 n1 n2 n3 n4 n5 n6 n7 n8 n9 => (wH6444.off (G_ne hq gnw h2)).trans (f6397 q t hq h1 h2 h3 h4 h5 h6 h7 h8 h9 h10 h11 h12 h13 h14 h15 n1 n2 n3 n4 n5 n6 n7 n8 n9))
          have f6447 : ∀ q t : Nat, G q = some t → t ≠ 68 → t ≠ 0 → t ≠ 78 → t ≠ 79 → t ≠ 80 → t ≠ 81 → t ≠ 69 → t ≠ 70 → t ≠ 71 → t ≠ 72 → t ≠ 73 → t ≠ 74 → t ≠ 75 → t ≠ 76 → t ≠ 77 → H6444[q]? = s.heap[q]? := (fun q t hq h1 h2 h3 h4 h5 h6 h7 h8 h9 h10 h11 h12 h13 h14 h15  => (wH6444.off (G_ne hq gnw h2)).trans (f6398 q t hq h1 h2 h3 h4 h5 h6 h7 h8 h9 h10 h11 h12 h13 h14 h15 ))
          have f6448 : NWF K H6444 s.heap nw := NWF.st f6399 (fun k hk => Wr.neR wH6444 (Or.inr (hapW k _ (by omega) (by decide) (by omega))))
          have f6449 : ∀ j : Nat, j ≤ F.toNatClampNeg → (kK bt tp.toNatClampNeg) j = (fI H6444 kq j).toInt := fun j hj => (f6400 j hj).trans (congrArg Int32.toInt (Wr.neI wH6444 (Or.inl (G_ne gkq gnw (by decide)))).symm)
          have f6450 : ∀ j : Nat, j ≤ F.toNatClampNeg → (vV bt tp.toNatClampNeg) j = (fI H6444 vq j).toInt := fun j hj => (f6401 j hj).trans (congrArg Int32.toInt (Wr.neI wH6444 (Or.inl (G_ne gvq gnw (by decide)))).symm)
          have m6451 := m6402.trans (Wr.neI wH6444 (Or.inl (G_ne ga0 gnw (by decide)))).symm
          have m6452 := m6403.trans (Wr.neI wH6444 (Or.inl (G_ne grq gnw (by decide)))).symm
          have m6453 := m6404.trans (Wr.neI wH6444 (Or.inl (G_ne grq gnw (by decide)))).symm
          have m6454 := m6405.trans (Wr.neI wH6444 (Or.inl (G_ne gmq gnw (by decide)))).symm
          have m6455 := m6406.trans (Wr.neI wH6444 (Or.inl (G_ne grq gnw (by decide)))).symm
          have m6456 := m6407.trans (Wr.neI wH6444 (Or.inl (G_ne gmq gnw (by decide)))).symm
          have m6457 := m6408.trans (Wr.neR wH6444 (Or.inl (G_ne ga0 gnw (by decide)))).symm
          have m6458 := m6409.trans (Wr.neR wH6444 (Or.inr (x_apart hKT hts inX8 tyX8 tyX8_ok nmX8 rfl 3 7 (by decide) (by decide) (by decide)))).symm
          have m6459 := m6410.trans (Wr.neR wH6444 (Or.inl (G_ne glawq gnw (by decide)))).symm
          have m6460 := m6411.trans (Wr.neR wH6444 (Or.inl (G_ne ga0 gnw (by decide)))).symm
          have m6461 := m6412.trans (Wr.neR wH6444 (Or.inl (G_ne ga0 gnw (by decide)))).symm
          have m6462 := m6413.trans (Wr.neR wH6444 (Or.inl (G_ne grq gnw (by decide)))).symm
          have m6463 := m6414.trans (Wr.neR wH6444 (Or.inl (G_ne grq gnw (by decide)))).symm
          have m6464 := m6415.trans (Wr.neR wH6444 (Or.inl (G_ne grq gnw (by decide)))).symm
          have m6465 := m6416.trans (Wr.neR wH6444 (Or.inl (G_ne gmq gnw (by decide)))).symm
          have m6466 := m6417.trans (Wr.neR wH6444 (Or.inl (G_ne gmq gnw (by decide)))).symm
          have m6467 := m6418.trans (Wr.neR wH6444 (Or.inl (G_ne gmq gnw (by decide)))).symm
          have m6468 := m6419.trans (Wr.neR wH6444 (Or.inl (G_ne gmq gnw (by decide)))).symm
          have m6469 := m6420.trans (Wr.neR wH6444 (Or.inl (G_ne gmq gnw (by decide)))).symm
          have m6470 := m6421.trans (Wr.neR wH6444 (Or.inl (G_ne gmq gnw (by decide)))).symm
          have m6471 := m6422.trans (Wr.neR wH6444 (Or.inl (G_ne gmq gnw (by decide)))).symm
          have m6472 := m6423.trans (Wr.neR wH6444 (Or.inl (G_ne gmq gnw (by decide)))).symm
          have m6473 := m6424.trans (Wr.neR wH6444 (Or.inl (G_ne gtx gnw (by decide)))).symm
          have m6474 := m6425.trans (Wr.neR wH6444 (Or.inl (G_ne gtx gnw (by decide)))).symm
          have m6475 := m6426.trans (Wr.neR wH6444 (Or.inl (G_ne gtx gnw (by decide)))).symm
          have m6476 := m6427.trans (Wr.neR wH6444 (Or.inl (G_ne gtx gnw (by decide)))).symm
          have m6477 := m6428.trans (Wr.neR wH6444 (Or.inl (G_ne gtx gnw (by decide)))).symm
          have m6478 := m6429.trans (Wr.neR wH6444 (Or.inl (G_ne gtx gnw (by decide)))).symm
          have m6479 := m6430.trans (Wr.neR wH6444 (Or.inl (G_ne gtx gnw (by decide)))).symm
          have m6480 := m6431.trans (Wr.neR wH6444 (Or.inl (G_ne gtx gnw (by decide)))).symm
          have m6481 := m6432.trans (Wr.neI wH6444 (Or.inr (x_apart hKT hts inX8 tyX8 tyX8_ok nmX8 rfl 1 7 (by decide) (by decide) (by decide)))).symm
          have m6482 := m6433.trans (Wr.neI wH6444 (Or.inr (x_apart hKT hts inX8 tyX8 tyX8_ok nmX8 rfl 4 7 (by decide) (by decide) (by decide)))).symm
          have m6483 := m6434.trans (Wr.neI wH6444 (Or.inr (x_apart hKT hts inX8 tyX8 tyX8_ok nmX8 rfl 5 7 (by decide) (by decide) (by decide)))).symm
          have m6484 := m6435.trans (Wr.neI wH6444 (Or.inr (x_apart hKT hts inX8 tyX8 tyX8_ok nmX8 rfl 10 7 (by decide) (by decide) (by decide)))).symm
          have m6485 := m6436.trans (Wr.neI wH6444 (Or.inr (x_apart hKT hts inX8 tyX8 tyX8_ok nmX8 rfl 13 7 (by decide) (by decide) (by decide)))).symm
          have m6486 := m6437.trans (Wr.neI wH6444 (Or.inr (x_apart hKT hts inX8 tyX8 tyX8_ok nmX8 rfl 16 7 (by decide) (by decide) (by decide)))).symm
          have m6487 := (Wr.neV wH6444 (Or.inl (G_ne ga0 gnw (by decide)))).trans m6438
          have m6488 := (Wr.neI wH6444 (Or.inl (G_ne gkq gnw (by decide)))).trans m6439
          have m6489 := m6440.trans (Wr.neI wH6444 (Or.inr (x_apart hKT hts inX8 tyX8 tyX8_ok nmX8 rfl 6 7 (by decide) (by decide) (by decide)))).symm
          have m6490 := ex6443.trans (Wr.neI wH6444 (Or.inl (G_ne grq gnw (by decide)))).symm
          have m6491 := Wr.I wH6444
          have m6491 := m6491.symm
          refine lv_iconst (v := (-1)) hx hb dX9_text_134 (by decide) ?_
          have cn_x6322 := i_cl (x := x6322) bx6322.1
          have cn_x6320 := i_cl (x := x6320) bx6320.1
          have cn_x6318 := i_cl (x := x6318) bx6318.1
          have cn_F := i_cl (x := F) (by omega)
          exact x_iret C hQ dX9_text_135 hSH6444 (by decide) (by decide) (⟨(-1), x6319, x6320, x6321, x6322, x6323, x6324, rfl, m6451, m6452, m6453, m6454, m6455, m6456, by omega, m6457, m6458, m6460, m6461, m6462, m6463, m6464, m6465, m6466, m6467, m6468, m6469, m6470, m6471, m6472, m6473, m6474, m6475, m6476, m6477, m6478, m6479, m6480, m6481, m6482, m6483, m6484, m6485, m6486, Or.inl ⟨by omega, Or.inl ⟨HD.get hF7 (by omega), by omega⟩⟩, (Or.inl (by omega)), f6446, (Or.inr f6447), f6448, m6487, hTH6444⟩)
      · have k6327 := i_nlt c6326
        refine lv_aload_n hx hb dX9_text_72 rfl (lv_at hl6317 0 rfl) ?_
        refine x_gr C hTH6315 (ci := 9) (k := 4) rfl inX9 (by decide) wF_X9_23 ga0 rg_68 rfl dX9_text_73 (fun q6492 eq6492 gq6492 => ?_)
        have uq6492 : rq = q6492 := (cy6325_3).trans eq6492.symm
        subst uq6492
        refine x_V (As := []) (rest := []) C (a_X4_goesOn_e l K G H6315 (F) (x6320) (x6321) (kK bt tp.toNatClampNeg) (vV bt tp.toNatClampNeg) hTH6315 grq gmq cy6325_5 gkq cy6325_6 gvq cy6325_7 ex6320 ex6321 hF3 (by omega) (by omega) hF4 hF5) yo_X4_goesOn wM_X9_125 ⟨⟨by decide, by decide⟩, by decide, by decide⟩ (x_rv C hTH6315 (ci := 4) rfl grq rg_78) rfl hl6317.1 rfl (Nat.le_of_ble_eq_true rfl) dX9_text_76 hSH6315 (AE_sub (fun _ _ => rfl) (by decide) hSH6315.1) (fun vH6493 H6493 locsH6493 pH6493 zH6493 kH6493 hSH6493 => ?_)
        obtain ⟨x6494, hvH6493, bx6494, hrH6493, hTH6493⟩ := pH6493
        subst hvH6493
        have f6495 : ∀ j : Nat, bt j = (fI H6493 tq j).toInt := fun j => (fy6325_bt j).trans (congrArg Int32.toInt (fI_kept (x_lt hTH6315 kH6493 gtq (by decide))).symm)
        have f6496 : ∀ q t : Nat, G q = some t → t ≠ 68 → t ≠ 0 → t ≠ 78 → t ≠ 79 → t ≠ 80 → t ≠ 81 → t ≠ 69 → t ≠ 70 → t ≠ 71 → t ≠ 72 → t ≠ 73 → t ≠ 74 → t ≠ 75 → t ≠ 76 → t ≠ 77 → q ≠ tx → q ≠ xw → q ≠ xf → q ≠ xj → q ≠ xe → q ≠ xa → q ≠ xc → q ≠ xd → q ≠ xs → H6493[q]? = s.heap[q]? := (fun q t hq h1 h2 h3 h4 h5 h6 h7 h8 h9 h10 h11 h12 h13 h14 h15 n1 n2 n3 n4 n5 n6 n7 n8 n9 => (x_lt hTH6315 kH6493 hq nm0).trans (fy6325_fx q t hq h1 h2 h3 h4 h5 h6 h7 h8 h9 h10 h11 h12 h13 h14 h15 n1 n2 n3 n4 n5 n6 n7 n8 n9))
        have f6497 : ∀ q t : Nat, G q = some t → t ≠ 68 → t ≠ 0 → t ≠ 78 → t ≠ 79 → t ≠ 80 → t ≠ 81 → t ≠ 69 → t ≠ 70 → t ≠ 71 → t ≠ 72 → t ≠ 73 → t ≠ 74 → t ≠ 75 → t ≠ 76 → t ≠ 77 → H6493[q]? = s.heap[q]? := (fun q t hq h1 h2 h3 h4 h5 h6 h7 h8 h9 h10 h11 h12 h13 h14 h15  => (x_lt hTH6315 kH6493 hq nm0).trans (fy6325_fy q t hq h1 h2 h3 h4 h5 h6 h7 h8 h9 h10 h11 h12 h13 h14 h15 ))
        have f6498 : NWF K H6493 s.heap nw := NWF.st fy6325_nw (fun k hk => fR_kept (x_lt hTH6315 kH6493 gnw (by decide)))
        have f6499 : ∀ j : Nat, j ≤ F.toNatClampNeg → (kK bt tp.toNatClampNeg) j = (fI H6493 kq j).toInt := fun j hj => (hF4 j hj).trans (congrArg Int32.toInt (fI_kept (x_lt hTH6315 kH6493 gkq (by decide))).symm)
        have f6500 : ∀ j : Nat, j ≤ F.toNatClampNeg → (vV bt tp.toNatClampNeg) j = (fI H6493 vq j).toInt := fun j hj => (hF5 j hj).trans (congrArg Int32.toInt (fI_kept (x_lt hTH6315 kH6493 gvq (by decide))).symm)
        have m6501 := (ex6319).trans (fI_kept (x_lt hTH6315 kH6493 ga0 (by decide))).symm
        have m6502 := (ex6320).trans (fI_kept (x_lt hTH6315 kH6493 grq (by decide))).symm
        have m6503 := (ex6321).trans (fI_kept (x_lt hTH6315 kH6493 grq (by decide))).symm
        have m6504 := (ex6322).trans (fI_kept (x_lt hTH6315 kH6493 gmq (by decide))).symm
        have m6505 := (ex6323).trans (fI_kept (x_lt hTH6315 kH6493 grq (by decide))).symm
        have m6506 := (ex6324).trans (fI_kept (x_lt hTH6315 kH6493 gmq (by decide))).symm
        have m6507 := (cy6325_0).trans (fR_kept (x_lt hTH6315 kH6493 ga0 (by decide))).symm
        have m6508 := (cy6325_1).trans (fR_kept (x_lt hTH6315 kH6493 gnw (by decide))).symm
        have m6509 := (cy6325_2).trans (fR_kept (x_lt hTH6315 kH6493 glawq (by decide))).symm
        have m6510 := (cy6325_3).trans (fR_kept (x_lt hTH6315 kH6493 ga0 (by decide))).symm
        have m6511 := (cy6325_4).trans (fR_kept (x_lt hTH6315 kH6493 ga0 (by decide))).symm
        have m6512 := (cy6325_5).trans (fR_kept (x_lt hTH6315 kH6493 grq (by decide))).symm
        have m6513 := (cy6325_6).trans (fR_kept (x_lt hTH6315 kH6493 grq (by decide))).symm
        have m6514 := (cy6325_7).trans (fR_kept (x_lt hTH6315 kH6493 grq (by decide))).symm
        have m6515 := (cy6325_8).trans (fR_kept (x_lt hTH6315 kH6493 gmq (by decide))).symm
        have m6516 := (cy6325_9).trans (fR_kept (x_lt hTH6315 kH6493 gmq (by decide))).symm
        have m6517 := (cy6325_10).trans (fR_kept (x_lt hTH6315 kH6493 gmq (by decide))).symm
        have m6518 := (cy6325_11).trans (fR_kept (x_lt hTH6315 kH6493 gmq (by decide))).symm
        have m6519 := (cy6325_12).trans (fR_kept (x_lt hTH6315 kH6493 gmq (by decide))).symm
        have m6520 := (cy6325_13).trans (fR_kept (x_lt hTH6315 kH6493 gmq (by decide))).symm
        have m6521 := (cy6325_14).trans (fR_kept (x_lt hTH6315 kH6493 gmq (by decide))).symm
        have m6522 := (cy6325_15).trans (fR_kept (x_lt hTH6315 kH6493 gmq (by decide))).symm
        have m6523 := (cy6325_16).trans (fR_kept (x_lt hTH6315 kH6493 gtx (by decide))).symm
        have m6524 := (cy6325_17).trans (fR_kept (x_lt hTH6315 kH6493 gtx (by decide))).symm
        have m6525 := (cy6325_18).trans (fR_kept (x_lt hTH6315 kH6493 gtx (by decide))).symm
        have m6526 := (cy6325_19).trans (fR_kept (x_lt hTH6315 kH6493 gtx (by decide))).symm
        have m6527 := (cy6325_20).trans (fR_kept (x_lt hTH6315 kH6493 gtx (by decide))).symm
        have m6528 := (cy6325_21).trans (fR_kept (x_lt hTH6315 kH6493 gtx (by decide))).symm
        have m6529 := (cy6325_22).trans (fR_kept (x_lt hTH6315 kH6493 gtx (by decide))).symm
        have m6530 := (cy6325_23).trans (fR_kept (x_lt hTH6315 kH6493 gtx (by decide))).symm
        have m6531 := (cy6325_24).trans (fI_kept (x_lt hTH6315 kH6493 gnw (by decide))).symm
        have m6532 := (cy6325_25).trans (fI_kept (x_lt hTH6315 kH6493 gnw (by decide))).symm
        have m6533 := (cy6325_26).trans (fI_kept (x_lt hTH6315 kH6493 gnw (by decide))).symm
        have m6534 := (cy6325_27).trans (fI_kept (x_lt hTH6315 kH6493 gnw (by decide))).symm
        have m6535 := (cy6325_28).trans (fI_kept (x_lt hTH6315 kH6493 gnw (by decide))).symm
        have m6536 := (cy6325_29).trans (fI_kept (x_lt hTH6315 kH6493 gnw (by decide))).symm
        have m6537 := (fV_kept (x_lt hTH6315 kH6493 ga0 (by decide))).trans cy6325_30
        have m6538 := (fI_kept (x_lt hTH6315 kH6493 gkq (by decide))).trans hF3
        have tw6539 : HD (x6321.toInt = 0 → TXW H6493 mw mf mj me ma mc md ms (kK bt tp.toNatClampNeg) (vV bt tp.toNatClampNeg) 0 x6322.toNatClampNeg x6320.toNatClampNeg x6324.toNatClampNeg) := HD.mk (fun h0 => TXW.kept (HD.get hF8 h0) (fun l => fI_kept (x_lt hTH6315 kH6493 gmw (by decide))) (fun l => fI_kept (x_lt hTH6315 kH6493 gmf (by decide))) (fun l => fI_kept (x_lt hTH6315 kH6493 gmj (by decide))) (fun l => fI_kept (x_lt hTH6315 kH6493 gme (by decide))) (fun l => fI_kept (x_lt hTH6315 kH6493 gma (by decide))) (fun l => fI_kept (x_lt hTH6315 kH6493 gmc (by decide))) (fun l => fI_kept (x_lt hTH6315 kH6493 gmd (by decide))) (fun l => fI_kept (x_lt hTH6315 kH6493 gms (by decide))))
        refine W.eq (g2 := F0 m 79 ls6316 [.int x6494]) rfl ?_
        refine lv_if_eq (tgt := 96) hx hb dX9_text_79 (by decide) (fun c6540 => ?_) (fun c6540 => ?_)
        · have k6541 := i_eq c6540
          refine lv_aload_n hx hb dX9_text_96 rfl (lv_at hl6317 0 rfl) ?_
          refine x_gr C hTH6493 (ci := 9) (k := 4) rfl inX9 (by decide) wF_X9_23 ga0 rg_68 rfl dX9_text_97 (fun q6542 eq6542 gq6542 => ?_)
          have uq6542 : rq = q6542 := (m6510).trans eq6542.symm
          subst uq6542
          refine x_gi C hTH6493 (ci := 4) (k := 1) rfl inX4 (by decide) wF_X9_132 grq rg_78 rfl dX9_text_100 (fun x6543 ex6543 bx6543 => ?_)
          have ux6543 : x6321 = x6543 := (m6503).trans ex6543.symm
          subst ux6543
          refine lv_if_eq (tgt := 136) hx hb dX9_text_103 (by decide) (fun c6544 => ?_) (fun c6544 => ?_)
          · have k6545 := i_eq c6544
            refine lv_aload hx hb dX9_text_136 (lv_at hl6317 1 rfl) ?_
            refine lv_aload_n hx hb dX9_text_138 rfl (lv_at hl6317 0 rfl) ?_
            refine x_gr C hTH6493 (ci := 9) (k := 4) rfl inX9 (by decide) wF_X9_23 ga0 rg_68 rfl dX9_text_139 (fun q6546 eq6546 gq6546 => ?_)
            have uq6546 : rq = q6546 := (m6510).trans eq6546.symm
            subst uq6546
            refine x_gr C hTH6493 (ci := 4) (k := 0) rfl inX4 (by decide) wF_X9_134 grq rg_78 rfl dX9_text_142 (fun q6547 eq6547 gq6547 => ?_)
            have uq6547 : mq = q6547 := (m6512).trans eq6547.symm
            subst uq6547
            obtain ⟨x6548, ex6548⟩ : ∃ z : Int32, z = fI H6493 tx (K.1.2 7 0) := ⟨_, rfl⟩
            have bx6548 := ty_fi (x := x6548) (k := 0) ex6548 hTH6493 gtx rg_16 rfl
            obtain ⟨x6549, ex6549⟩ : ∃ z : Int32, z = fI H6493 tx (K.1.2 7 9) := ⟨_, rfl⟩
            have bx6549 := ty_fi (x := x6549) (k := 9) ex6549 hTH6493 gtx rg_16 rfl
            refine x_V (As := [.ref mq]) (rest := []) C (a_X7_copyFrom_gm l K G H6493 (x6548) (x6549) (x6322) (x6324) hTH6493 gtx gmq gxw m6523 gxf m6524 gxj m6525 gxe m6526 gxa m6527 gxc m6528 gxd m6529 gxs m6530 gmw m6515 gmf m6516 gmj m6517 gme m6518 gma m6519 gmc m6520 gmd m6521 gms m6522 ex6548 ex6549 m6504 m6506) yo_X7_copyFrom wM_X9_138 ⟨⟨by decide, by decide⟩, by decide, by decide⟩ (x_rv C hTH6493 (ci := 7) rfl gtx rg_16) rfl hl6317.1 rfl (Nat.le_of_ble_eq_true rfl) dX9_text_145 hSH6493 (AE_sub (fun _ _ => rfl) (by decide) hSH6493.1) (fun vH6550 H6550 locsH6550 pH6550 zH6550 kH6550 hSH6550 => ?_)
            obtain ⟨x6551, x6552, hvH6550, ex6551, ex6552, hrH6550, m6553, m6554, m6555, m6556, m6557, m6558, m6559, m6560, m6561, m6562, m6563, m6564, m6565, m6566, m6567, m6568, m6569, hTH6550⟩ := pH6550
            subst hvH6550
            have f6570 : ∀ j : Nat, bt j = (fI H6550 tq j).toInt := fun j => (f6495 j).trans (congrArg Int32.toInt (fI_kept (x_lt hTH6493 kH6550 gtq (by decide))).symm)
            have f6571 : NWF K H6550 s.heap nw := NWF.st f6498 (fun k hk => fR_kept (x_lt hTH6493 kH6550 gnw (by decide)))
            have f6572 : ∀ j : Nat, j ≤ F.toNatClampNeg → (kK bt tp.toNatClampNeg) j = (fI H6550 kq j).toInt := fun j hj => (f6499 j hj).trans (congrArg Int32.toInt (fI_kept (x_lt hTH6493 kH6550 gkq (by decide))).symm)
            have f6573 : ∀ j : Nat, j ≤ F.toNatClampNeg → (vV bt tp.toNatClampNeg) j = (fI H6550 vq j).toInt := fun j hj => (f6500 j hj).trans (congrArg Int32.toInt (fI_kept (x_lt hTH6493 kH6550 gvq (by decide))).symm)
            have m6574 := (m6501).trans (fI_kept (x_lt hTH6493 kH6550 ga0 (by decide))).symm
            have m6575 := (m6502).trans (fI_kept (x_lt hTH6493 kH6550 grq (by decide))).symm
            have m6576 := (m6503).trans (fI_kept (x_lt hTH6493 kH6550 grq (by decide))).symm
            have m6577 := (m6504).trans (fI_kept (x_lt hTH6493 kH6550 gmq (by decide))).symm
            have m6578 := (m6505).trans (fI_kept (x_lt hTH6493 kH6550 grq (by decide))).symm
            have m6579 := (m6506).trans (fI_kept (x_lt hTH6493 kH6550 gmq (by decide))).symm
            have m6580 := (m6507).trans (fR_kept (x_lt hTH6493 kH6550 ga0 (by decide))).symm
            have m6581 := (m6508).trans (fR_kept (x_lt hTH6493 kH6550 gnw (by decide))).symm
            have m6582 := (m6509).trans (fR_kept (x_lt hTH6493 kH6550 glawq (by decide))).symm
            have m6583 := (m6510).trans (fR_kept (x_lt hTH6493 kH6550 ga0 (by decide))).symm
            have m6584 := (m6511).trans (fR_kept (x_lt hTH6493 kH6550 ga0 (by decide))).symm
            have m6585 := (m6512).trans (fR_kept (x_lt hTH6493 kH6550 grq (by decide))).symm
            have m6586 := (m6513).trans (fR_kept (x_lt hTH6493 kH6550 grq (by decide))).symm
            have m6587 := (m6514).trans (fR_kept (x_lt hTH6493 kH6550 grq (by decide))).symm
            have m6588 := (m6515).trans (fR_kept (x_lt hTH6493 kH6550 gmq (by decide))).symm
            have m6589 := (m6516).trans (fR_kept (x_lt hTH6493 kH6550 gmq (by decide))).symm
            have m6590 := (m6517).trans (fR_kept (x_lt hTH6493 kH6550 gmq (by decide))).symm
            have m6591 := (m6518).trans (fR_kept (x_lt hTH6493 kH6550 gmq (by decide))).symm
            have m6592 := (m6519).trans (fR_kept (x_lt hTH6493 kH6550 gmq (by decide))).symm
            have m6593 := (m6520).trans (fR_kept (x_lt hTH6493 kH6550 gmq (by decide))).symm
            have m6594 := (m6521).trans (fR_kept (x_lt hTH6493 kH6550 gmq (by decide))).symm
            have m6595 := (m6522).trans (fR_kept (x_lt hTH6493 kH6550 gmq (by decide))).symm
            have m6596 := (m6531).trans (fI_kept (x_lt hTH6493 kH6550 gnw (by decide))).symm
            have m6597 := (m6532).trans (fI_kept (x_lt hTH6493 kH6550 gnw (by decide))).symm
            have m6598 := (m6533).trans (fI_kept (x_lt hTH6493 kH6550 gnw (by decide))).symm
            have m6599 := (m6534).trans (fI_kept (x_lt hTH6493 kH6550 gnw (by decide))).symm
            have m6600 := (m6535).trans (fI_kept (x_lt hTH6493 kH6550 gnw (by decide))).symm
            have m6601 := (m6536).trans (fI_kept (x_lt hTH6493 kH6550 gnw (by decide))).symm
            have m6602 := (fV_kept (x_lt hTH6493 kH6550 ga0 (by decide))).trans m6537
            have m6603 := (fI_kept (x_lt hTH6493 kH6550 gkq (by decide))).trans m6538
            have bx6551 := ty_fi (x := x6551) (k := 0) ex6551 hTH6550 gtx rg_16 rfl
            have bx6552 := ty_fi (x := x6552) (k := 9) ex6552 hTH6550 gtx rg_16 rfl
            have f6604 : ∀ q t : Nat, G q = some t → t ≠ 68 → t ≠ 0 → t ≠ 78 → t ≠ 79 → t ≠ 80 → t ≠ 81 → t ≠ 69 → t ≠ 70 → t ≠ 71 → t ≠ 72 → t ≠ 73 → t ≠ 74 → t ≠ 75 → t ≠ 76 → t ≠ 77 → q ≠ tx → q ≠ xw → q ≠ xf → q ≠ xj → q ≠ xe → q ≠ xa → q ≠ xc → q ≠ xd → q ≠ xs → H6550[q]? = s.heap[q]? := fun q t hq h1 h2 h3 h4 h5 h6 h7 h8 h9 h10 h11 h12 h13 h14 h15 n1 n2 n3 n4 n5 n6 n7 n8 n9 => (m6569 q t hq n1 n2 n3 n4 n5 n6 n7 n8 n9).trans (f6496 q t hq h1 h2 h3 h4 h5 h6 h7 h8 h9 h10 h11 h12 h13 h14 h15 n1 n2 n3 n4 n5 n6 n7 n8 n9)
            refine W.eq (g2 := F0 m 148 ls6316 []) rfl ?_
            refine lv_aload hx hb dX9_text_148 (lv_at hl6317 1 rfl) ?_
            refine x_gi C hTH6550 (ci := 7) (k := 0) rfl inX7 (by decide) wF_X9_144 gtx rg_16 rfl dX9_text_150 (fun x6605 ex6605 bx6605 => ?_)
            have ux6605 : x6551 = x6605 := (ex6551).trans ex6605.symm
            subst ux6605
            have cn_x6322 := i_cl (x := x6322) bx6322.1
            have cn_x6320 := i_cl (x := x6320) bx6320.1
            have cn_x6318 := i_cl (x := x6318) bx6318.1
            have cn_F := i_cl (x := F) (by omega)
            have cn_x6324 := i_cl (x := x6324) bx6324.1
            exact x_iret C hQ dX9_text_153 hSH6550 (by decide) (by decide) (⟨x6551, x6319, x6320, x6321, x6322, x6323, x6324, rfl, m6574, m6575, m6576, m6577, m6578, m6579, by omega, m6580, m6581, m6583, m6584, m6585, m6586, m6587, m6588, m6589, m6590, m6591, m6592, m6593, m6594, m6595, m6553, m6554, m6555, m6556, m6557, m6558, m6559, m6560, m6596, m6597, m6598, m6599, m6600, m6601, Or.inl ⟨by omega, Or.inr ⟨x6322.toNatClampNeg, (HD.get hF6 (by omega)).trans (tx_end (by omega) (by omega)), by omega⟩⟩, (Or.inr ⟨x6322.toNatClampNeg, by omega, by omega, (ex6551).symm, fun j hj => by rw [← m6553, ← m6554, ← m6555, ← m6556, ← m6557, ← m6558, ← m6559, ← m6560, m6561 j (by omega), m6562 j (by omega), m6563 j (by omega), m6564 j (by omega), m6565 j (by omega), m6566 j (by omega), m6567 j (by omega)]; exact ((HD.get tw6539 (by omega)).2 j (by omega)).1.keep (fun i hi => m6568 i (by omega)) ((HD.get tw6539 (by omega)).2 j (by omega)).2.1 ((HD.get tw6539 (by omega)).2 j (by omega)).2.2, fun j hj => by have zz := ((HD.get tw6539 (by omega)).2 j (by omega)).2; have zc : x6552 = x6324 := Int32.toInt_inj.mp (by omega); rw [← m6558, ← m6559, m6566 j (by omega), m6567 j (by omega), ← ex6552, zc]; exact zz⟩), f6604, (Or.inl (by omega)), f6571, m6602, hTH6550⟩)
          · have k6545 := i_ne c6544
            refine lv_aload_n hx hb dX9_text_106 rfl (lv_at hl6317 0 rfl) ?_
            refine x_gr C hTH6493 (ci := 9) (k := 0) rfl inX9 (by decide) wF_X9_12 ga0 rg_68 rfl dX9_text_107 (fun q6606 eq6606 gq6606 => ?_)
            have uq6606 : nw = q6606 := (m6507).trans eq6606.symm
            subst uq6606
            refine lv_aload_n hx hb dX9_text_110 rfl (lv_at hl6317 0 rfl) ?_
            refine x_gr C hTH6493 (ci := 9) (k := 4) rfl inX9 (by decide) wF_X9_23 ga0 rg_68 rfl dX9_text_111 (fun q6607 eq6607 gq6607 => ?_)
            have uq6607 : rq = q6607 := (m6510).trans eq6607.symm
            subst uq6607
            refine x_gi C hTH6493 (ci := 4) (k := 1) rfl inX4 (by decide) wF_X9_132 grq rg_78 rfl dX9_text_114 (fun x6608 ex6608 bx6608 => ?_)
            have ux6608 : x6321 = x6608 := (m6503).trans ex6608.symm
            subst ux6608
            refine x_put C hTH6493 hSH6493 (ci := 8) (k := 6) (v := .int x6321) (ty0 := tyX8) rfl inX8 tyX8_ok nmX8 (by decide) rfl wF_X9_111 gnw rg_0 rfl rfl (okI (i_rng x6321).1 (i_rng x6321).2) rfl rfl (AE_in gnw (by decide)) dX9_text_117 (fun H6609 locsH6609 hTH6609 hSH6609 wH6609 => ?_)
            have f6610 : ∀ j : Nat, bt j = (fI H6609 tq j).toInt := fun j => (f6495 j).trans (congrArg Int32.toInt (Wr.neI wH6609 (Or.inl (G_ne gtq gnw (by decide)))).symm)
            have f6611 : ∀ q t : Nat, G q = some t → t ≠ 68 → t ≠ 0 → t ≠ 78 → t ≠ 79 → t ≠ 80 → t ≠ 81 → t ≠ 69 → t ≠ 70 → t ≠ 71 → t ≠ 72 → t ≠ 73 → t ≠ 74 → t ≠ 75 → t ≠ 76 → t ≠ 77 → q ≠ tx → q ≠ xw → q ≠ xf → q ≠ xj → q ≠ xe → q ≠ xa → q ≠ xc → q ≠ xd → q ≠ xs → H6609[q]? = s.heap[q]? := (fun q t hq h1 h2 h3 h4 h5 h6 h7 h8 h9 h10 h11 h12 h13 h14 h15 n1 n2 n3 n4 n5 n6 n7 n8 n9 => (wH6609.off (G_ne hq gnw h2)).trans (f6496 q t hq h1 h2 h3 h4 h5 h6 h7 h8 h9 h10 h11 h12 h13 h14 h15 n1 n2 n3 n4 n5 n6 n7 n8 n9))
            have f6612 : ∀ q t : Nat, G q = some t → t ≠ 68 → t ≠ 0 → t ≠ 78 → t ≠ 79 → t ≠ 80 → t ≠ 81 → t ≠ 69 → t ≠ 70 → t ≠ 71 → t ≠ 72 → t ≠ 73 → t ≠ 74 → t ≠ 75 → t ≠ 76 → t ≠ 77 → H6609[q]? = s.heap[q]? := (fun q t hq h1 h2 h3 h4 h5 h6 h7 h8 h9 h10 h11 h12 h13 h14 h15  => (wH6609.off (G_ne hq gnw h2)).trans (f6497 q t hq h1 h2 h3 h4 h5 h6 h7 h8 h9 h10 h11 h12 h13 h14 h15 ))
            have f6613 : NWF K H6609 s.heap nw := NWF.st f6498 (fun k hk => Wr.neR wH6609 (Or.inr (hapW k _ (by omega) (by decide) (by omega))))
            have f6614 : ∀ j : Nat, j ≤ F.toNatClampNeg → (kK bt tp.toNatClampNeg) j = (fI H6609 kq j).toInt := fun j hj => (f6499 j hj).trans (congrArg Int32.toInt (Wr.neI wH6609 (Or.inl (G_ne gkq gnw (by decide)))).symm)
            have f6615 : ∀ j : Nat, j ≤ F.toNatClampNeg → (vV bt tp.toNatClampNeg) j = (fI H6609 vq j).toInt := fun j hj => (f6500 j hj).trans (congrArg Int32.toInt (Wr.neI wH6609 (Or.inl (G_ne gvq gnw (by decide)))).symm)
            have m6616 := m6501.trans (Wr.neI wH6609 (Or.inl (G_ne ga0 gnw (by decide)))).symm
            have m6617 := m6502.trans (Wr.neI wH6609 (Or.inl (G_ne grq gnw (by decide)))).symm
            have m6618 := m6503.trans (Wr.neI wH6609 (Or.inl (G_ne grq gnw (by decide)))).symm
            have m6619 := m6504.trans (Wr.neI wH6609 (Or.inl (G_ne gmq gnw (by decide)))).symm
            have m6620 := m6505.trans (Wr.neI wH6609 (Or.inl (G_ne grq gnw (by decide)))).symm
            have m6621 := m6506.trans (Wr.neI wH6609 (Or.inl (G_ne gmq gnw (by decide)))).symm
            have m6622 := m6507.trans (Wr.neR wH6609 (Or.inl (G_ne ga0 gnw (by decide)))).symm
            have m6623 := m6508.trans (Wr.neR wH6609 (Or.inr (x_apart hKT hts inX8 tyX8 tyX8_ok nmX8 rfl 3 6 (by decide) (by decide) (by decide)))).symm
            have m6624 := m6509.trans (Wr.neR wH6609 (Or.inl (G_ne glawq gnw (by decide)))).symm
            have m6625 := m6510.trans (Wr.neR wH6609 (Or.inl (G_ne ga0 gnw (by decide)))).symm
            have m6626 := m6511.trans (Wr.neR wH6609 (Or.inl (G_ne ga0 gnw (by decide)))).symm
            have m6627 := m6512.trans (Wr.neR wH6609 (Or.inl (G_ne grq gnw (by decide)))).symm
            have m6628 := m6513.trans (Wr.neR wH6609 (Or.inl (G_ne grq gnw (by decide)))).symm
            have m6629 := m6514.trans (Wr.neR wH6609 (Or.inl (G_ne grq gnw (by decide)))).symm
            have m6630 := m6515.trans (Wr.neR wH6609 (Or.inl (G_ne gmq gnw (by decide)))).symm
            have m6631 := m6516.trans (Wr.neR wH6609 (Or.inl (G_ne gmq gnw (by decide)))).symm
            have m6632 := m6517.trans (Wr.neR wH6609 (Or.inl (G_ne gmq gnw (by decide)))).symm
            have m6633 := m6518.trans (Wr.neR wH6609 (Or.inl (G_ne gmq gnw (by decide)))).symm
            have m6634 := m6519.trans (Wr.neR wH6609 (Or.inl (G_ne gmq gnw (by decide)))).symm
            have m6635 := m6520.trans (Wr.neR wH6609 (Or.inl (G_ne gmq gnw (by decide)))).symm
            have m6636 := m6521.trans (Wr.neR wH6609 (Or.inl (G_ne gmq gnw (by decide)))).symm
            have m6637 := m6522.trans (Wr.neR wH6609 (Or.inl (G_ne gmq gnw (by decide)))).symm
            have m6638 := m6523.trans (Wr.neR wH6609 (Or.inl (G_ne gtx gnw (by decide)))).symm
            have m6639 := m6524.trans (Wr.neR wH6609 (Or.inl (G_ne gtx gnw (by decide)))).symm
            have m6640 := m6525.trans (Wr.neR wH6609 (Or.inl (G_ne gtx gnw (by decide)))).symm
            have m6641 := m6526.trans (Wr.neR wH6609 (Or.inl (G_ne gtx gnw (by decide)))).symm
            have m6642 := m6527.trans (Wr.neR wH6609 (Or.inl (G_ne gtx gnw (by decide)))).symm
            have m6643 := m6528.trans (Wr.neR wH6609 (Or.inl (G_ne gtx gnw (by decide)))).symm
            have m6644 := m6529.trans (Wr.neR wH6609 (Or.inl (G_ne gtx gnw (by decide)))).symm
            have m6645 := m6530.trans (Wr.neR wH6609 (Or.inl (G_ne gtx gnw (by decide)))).symm
            have m6646 := m6531.trans (Wr.neI wH6609 (Or.inr (x_apart hKT hts inX8 tyX8 tyX8_ok nmX8 rfl 1 6 (by decide) (by decide) (by decide)))).symm
            have m6647 := m6532.trans (Wr.neI wH6609 (Or.inr (x_apart hKT hts inX8 tyX8 tyX8_ok nmX8 rfl 4 6 (by decide) (by decide) (by decide)))).symm
            have m6648 := m6533.trans (Wr.neI wH6609 (Or.inr (x_apart hKT hts inX8 tyX8 tyX8_ok nmX8 rfl 5 6 (by decide) (by decide) (by decide)))).symm
            have m6649 := m6534.trans (Wr.neI wH6609 (Or.inr (x_apart hKT hts inX8 tyX8 tyX8_ok nmX8 rfl 10 6 (by decide) (by decide) (by decide)))).symm
            have m6650 := m6535.trans (Wr.neI wH6609 (Or.inr (x_apart hKT hts inX8 tyX8 tyX8_ok nmX8 rfl 13 6 (by decide) (by decide) (by decide)))).symm
            have m6651 := m6536.trans (Wr.neI wH6609 (Or.inr (x_apart hKT hts inX8 tyX8 tyX8_ok nmX8 rfl 16 6 (by decide) (by decide) (by decide)))).symm
            have m6652 := (Wr.neV wH6609 (Or.inl (G_ne ga0 gnw (by decide)))).trans m6537
            have m6653 := (Wr.neI wH6609 (Or.inl (G_ne gkq gnw (by decide)))).trans m6538
            have m6654 := Wr.I wH6609
            have m6654 := m6654.symm
            refine lv_aload_n hx hb dX9_text_120 rfl (lv_at hl6317 0 rfl) ?_
            refine x_gr C hTH6609 (ci := 9) (k := 0) rfl inX9 (by decide) wF_X9_12 ga0 rg_68 rfl dX9_text_121 (fun q6655 eq6655 gq6655 => ?_)
            have uq6655 : nw = q6655 := (m6622).trans eq6655.symm
            subst uq6655
            refine lv_aload_n hx hb dX9_text_124 rfl (lv_at hl6317 0 rfl) ?_
            refine x_gr C hTH6609 (ci := 9) (k := 4) rfl inX9 (by decide) wF_X9_23 ga0 rg_68 rfl dX9_text_125 (fun q6656 eq6656 gq6656 => ?_)
            have uq6656 : rq = q6656 := (m6625).trans eq6656.symm
            subst uq6656
            refine x_gi C hTH6609 (ci := 4) (k := 2) rfl inX4 (by decide) wF_X9_133 grq rg_78 rfl dX9_text_128 (fun x6657 ex6657 bx6657 => ?_)
            refine x_put C hTH6609 hSH6609 (ci := 8) (k := 7) (v := .int x6657) (ty0 := tyX8) rfl inX8 tyX8_ok nmX8 (by decide) rfl wF_X9_114 gnw rg_0 rfl rfl (okI bx6657.1 bx6657.2) rfl rfl (AE_in gnw (by decide)) dX9_text_131 (fun H6658 locsH6658 hTH6658 hSH6658 wH6658 => ?_)
            clear f6495 f6496 f6497 f6498 f6499 f6500 m6501 m6502 m6503 m6504 m6505 m6506 m6507 m6508 m6509 m6510 m6511 m6512 m6513 m6514 m6515 m6516 m6517 m6518 m6519 m6520 m6521 m6522 m6523 m6524 m6525 m6526 m6527 m6528 m6529 m6530 m6531 m6532 m6533 m6534 m6535 m6536 m6537 m6538
            have f6659 : ∀ j : Nat, bt j = (fI H6658 tq j).toInt := fun j => (f6610 j).trans (congrArg Int32.toInt (Wr.neI wH6658 (Or.inl (G_ne gtq gnw (by decide)))).symm)
            have f6660 : ∀ q t : Nat, G q = some t → t ≠ 68 → t ≠ 0 → t ≠ 78 → t ≠ 79 → t ≠ 80 → t ≠ 81 → t ≠ 69 → t ≠ 70 → t ≠ 71 → t ≠ 72 → t ≠ 73 → t ≠ 74 → t ≠ 75 → t ≠ 76 → t ≠ 77 → q ≠ tx → q ≠ xw → q ≠ xf → q ≠ xj → q ≠ xe → q ≠ xa → q ≠ xc → q ≠ xd → q ≠ xs → H6658[q]? = s.heap[q]? := (fun q t hq h1 h2 h3 h4 h5 h6 h7 h8 h9 h10 h11 h12 h13 h14 h15 n1 n2 n3 n4 n5 n6 n7 n8 n9 => (wH6658.off (G_ne hq gnw h2)).trans (f6611 q t hq h1 h2 h3 h4 h5 h6 h7 h8 h9 h10 h11 h12 h13 h14 h15 n1 n2 n3 n4 n5 n6 n7 n8 n9))
            have f6661 : ∀ q t : Nat, G q = some t → t ≠ 68 → t ≠ 0 → t ≠ 78 → t ≠ 79 → t ≠ 80 → t ≠ 81 → t ≠ 69 → t ≠ 70 → t ≠ 71 → t ≠ 72 → t ≠ 73 → t ≠ 74 → t ≠ 75 → t ≠ 76 → t ≠ 77 → H6658[q]? = s.heap[q]? := (fun q t hq h1 h2 h3 h4 h5 h6 h7 h8 h9 h10 h11 h12 h13 h14 h15  => (wH6658.off (G_ne hq gnw h2)).trans (f6612 q t hq h1 h2 h3 h4 h5 h6 h7 h8 h9 h10 h11 h12 h13 h14 h15 ))
            have f6662 : NWF K H6658 s.heap nw := NWF.st f6613 (fun k hk => Wr.neR wH6658 (Or.inr (hapW k _ (by omega) (by decide) (by omega))))
            have f6663 : ∀ j : Nat, j ≤ F.toNatClampNeg → (kK bt tp.toNatClampNeg) j = (fI H6658 kq j).toInt := fun j hj => (f6614 j hj).trans (congrArg Int32.toInt (Wr.neI wH6658 (Or.inl (G_ne gkq gnw (by decide)))).symm)
            have f6664 : ∀ j : Nat, j ≤ F.toNatClampNeg → (vV bt tp.toNatClampNeg) j = (fI H6658 vq j).toInt := fun j hj => (f6615 j hj).trans (congrArg Int32.toInt (Wr.neI wH6658 (Or.inl (G_ne gvq gnw (by decide)))).symm)
            have m6665 := m6616.trans (Wr.neI wH6658 (Or.inl (G_ne ga0 gnw (by decide)))).symm
            have m6666 := m6617.trans (Wr.neI wH6658 (Or.inl (G_ne grq gnw (by decide)))).symm
            have m6667 := m6618.trans (Wr.neI wH6658 (Or.inl (G_ne grq gnw (by decide)))).symm
            have m6668 := m6619.trans (Wr.neI wH6658 (Or.inl (G_ne gmq gnw (by decide)))).symm
            have m6669 := m6620.trans (Wr.neI wH6658 (Or.inl (G_ne grq gnw (by decide)))).symm
            have m6670 := m6621.trans (Wr.neI wH6658 (Or.inl (G_ne gmq gnw (by decide)))).symm
            have m6671 := m6622.trans (Wr.neR wH6658 (Or.inl (G_ne ga0 gnw (by decide)))).symm
            have m6672 := m6623.trans (Wr.neR wH6658 (Or.inr (x_apart hKT hts inX8 tyX8 tyX8_ok nmX8 rfl 3 7 (by decide) (by decide) (by decide)))).symm
            have m6673 := m6624.trans (Wr.neR wH6658 (Or.inl (G_ne glawq gnw (by decide)))).symm
            have m6674 := m6625.trans (Wr.neR wH6658 (Or.inl (G_ne ga0 gnw (by decide)))).symm
            have m6675 := m6626.trans (Wr.neR wH6658 (Or.inl (G_ne ga0 gnw (by decide)))).symm
            have m6676 := m6627.trans (Wr.neR wH6658 (Or.inl (G_ne grq gnw (by decide)))).symm
            have m6677 := m6628.trans (Wr.neR wH6658 (Or.inl (G_ne grq gnw (by decide)))).symm
            have m6678 := m6629.trans (Wr.neR wH6658 (Or.inl (G_ne grq gnw (by decide)))).symm
            have m6679 := m6630.trans (Wr.neR wH6658 (Or.inl (G_ne gmq gnw (by decide)))).symm
            have m6680 := m6631.trans (Wr.neR wH6658 (Or.inl (G_ne gmq gnw (by decide)))).symm
            have m6681 := m6632.trans (Wr.neR wH6658 (Or.inl (G_ne gmq gnw (by decide)))).symm
            have m6682 := m6633.trans (Wr.neR wH6658 (Or.inl (G_ne gmq gnw (by decide)))).symm
            have m6683 := m6634.trans (Wr.neR wH6658 (Or.inl (G_ne gmq gnw (by decide)))).symm
            have m6684 := m6635.trans (Wr.neR wH6658 (Or.inl (G_ne gmq gnw (by decide)))).symm
            have m6685 := m6636.trans (Wr.neR wH6658 (Or.inl (G_ne gmq gnw (by decide)))).symm
            have m6686 := m6637.trans (Wr.neR wH6658 (Or.inl (G_ne gmq gnw (by decide)))).symm
            have m6687 := m6638.trans (Wr.neR wH6658 (Or.inl (G_ne gtx gnw (by decide)))).symm
            have m6688 := m6639.trans (Wr.neR wH6658 (Or.inl (G_ne gtx gnw (by decide)))).symm
            have m6689 := m6640.trans (Wr.neR wH6658 (Or.inl (G_ne gtx gnw (by decide)))).symm
            have m6690 := m6641.trans (Wr.neR wH6658 (Or.inl (G_ne gtx gnw (by decide)))).symm
            have m6691 := m6642.trans (Wr.neR wH6658 (Or.inl (G_ne gtx gnw (by decide)))).symm
            have m6692 := m6643.trans (Wr.neR wH6658 (Or.inl (G_ne gtx gnw (by decide)))).symm
            have m6693 := m6644.trans (Wr.neR wH6658 (Or.inl (G_ne gtx gnw (by decide)))).symm
            have m6694 := m6645.trans (Wr.neR wH6658 (Or.inl (G_ne gtx gnw (by decide)))).symm
            have m6695 := m6646.trans (Wr.neI wH6658 (Or.inr (x_apart hKT hts inX8 tyX8 tyX8_ok nmX8 rfl 1 7 (by decide) (by decide) (by decide)))).symm
            have m6696 := m6647.trans (Wr.neI wH6658 (Or.inr (x_apart hKT hts inX8 tyX8 tyX8_ok nmX8 rfl 4 7 (by decide) (by decide) (by decide)))).symm
            have m6697 := m6648.trans (Wr.neI wH6658 (Or.inr (x_apart hKT hts inX8 tyX8 tyX8_ok nmX8 rfl 5 7 (by decide) (by decide) (by decide)))).symm
            have m6698 := m6649.trans (Wr.neI wH6658 (Or.inr (x_apart hKT hts inX8 tyX8 tyX8_ok nmX8 rfl 10 7 (by decide) (by decide) (by decide)))).symm
            have m6699 := m6650.trans (Wr.neI wH6658 (Or.inr (x_apart hKT hts inX8 tyX8 tyX8_ok nmX8 rfl 13 7 (by decide) (by decide) (by decide)))).symm
            have m6700 := m6651.trans (Wr.neI wH6658 (Or.inr (x_apart hKT hts inX8 tyX8 tyX8_ok nmX8 rfl 16 7 (by decide) (by decide) (by decide)))).symm
            have m6701 := (Wr.neV wH6658 (Or.inl (G_ne ga0 gnw (by decide)))).trans m6652
            have m6702 := (Wr.neI wH6658 (Or.inl (G_ne gkq gnw (by decide)))).trans m6653
            have m6703 := m6654.trans (Wr.neI wH6658 (Or.inr (x_apart hKT hts inX8 tyX8 tyX8_ok nmX8 rfl 6 7 (by decide) (by decide) (by decide)))).symm
            have m6704 := ex6657.trans (Wr.neI wH6658 (Or.inl (G_ne grq gnw (by decide)))).symm
            have m6705 := Wr.I wH6658
            have m6705 := m6705.symm
            refine lv_iconst (v := (-1)) hx hb dX9_text_134 (by decide) ?_
            have cn_x6322 := i_cl (x := x6322) bx6322.1
            have cn_x6320 := i_cl (x := x6320) bx6320.1
            have cn_x6318 := i_cl (x := x6318) bx6318.1
            have cn_F := i_cl (x := F) (by omega)
            exact x_iret C hQ dX9_text_135 hSH6658 (by decide) (by decide) (⟨(-1), x6319, x6320, x6321, x6322, x6323, x6324, rfl, m6665, m6666, m6667, m6668, m6669, m6670, by omega, m6671, m6672, m6674, m6675, m6676, m6677, m6678, m6679, m6680, m6681, m6682, m6683, m6684, m6685, m6686, m6687, m6688, m6689, m6690, m6691, m6692, m6693, m6694, m6695, m6696, m6697, m6698, m6699, m6700, Or.inl ⟨by omega, Or.inl ⟨HD.get hF7 (by omega), by omega⟩⟩, (Or.inl (by omega)), f6660, (Or.inr f6661), f6662, m6701, hTH6658⟩)
        · have k6541 := i_ne c6540
          refine lv_aload_n hx hb dX9_text_82 rfl (lv_at hl6317 0 rfl) ?_
          refine x_gr C hTH6493 (ci := 9) (k := 4) rfl inX9 (by decide) wF_X9_23 ga0 rg_68 rfl dX9_text_83 (fun q6706 eq6706 gq6706 => ?_)
          have uq6706 : rq = q6706 := (m6510).trans eq6706.symm
          subst uq6706
          refine x_V (As := []) (rest := []) C (a_X4_line_g l K G H6493 (F) (x6320) (x6321) (x6322) (x6324) (x6323) (kK bt tp.toNatClampNeg) (vV bt tp.toNatClampNeg) hTH6493 grq gmq m6512 gkq m6513 gvq m6514 gms m6522 gmw m6515 gmf m6516 gmj m6517 gme m6518 gma m6519 gmc m6520 gmd m6521 m6502 m6503 m6504 m6506 m6505 m6538 (by omega) (by omega) (by omega) (fun j => vV_r j) f6499 f6500) yo_X4_line wM_X9_129 ⟨⟨by decide, by decide⟩, by decide, by decide⟩ (x_rv C hTH6493 (ci := 4) rfl grq rg_78) rfl hl6317.1 rfl (Nat.le_of_ble_eq_true rfl) dX9_text_86 hSH6493 (AE_sub (fun _ _ => rfl) (by decide) hSH6493.1) (fun vH6707 H6707 locsH6707 pH6707 zH6707 kH6707 hSH6707 => ?_)
          obtain ⟨x6708, x6709, x6710, x6711, x6712, hvH6707, bx6708, ex6709, ex6710, ex6711, ex6712, hrH6707, m6713, m6714, m6715, m6716, m6717, m6718, m6719, m6720, m6721, m6722, m6723, m6724, m6725, m6726, m6727, m6728, m6729, m6730, m6731, m6732, m6733, m6734, m6735, hTH6707⟩ := pH6707
          subst hvH6707
          have f6736 : ∀ j : Nat, bt j = (fI H6707 tq j).toInt := fun j => (f6495 j).trans (congrArg Int32.toInt (fI_kept (x_lt hTH6493 kH6707 gtq (by decide))).symm)
          have f6737 : ∀ q t : Nat, G q = some t → t ≠ 68 → t ≠ 0 → t ≠ 78 → t ≠ 79 → t ≠ 80 → t ≠ 81 → t ≠ 69 → t ≠ 70 → t ≠ 71 → t ≠ 72 → t ≠ 73 → t ≠ 74 → t ≠ 75 → t ≠ 76 → t ≠ 77 → q ≠ tx → q ≠ xw → q ≠ xf → q ≠ xj → q ≠ xe → q ≠ xa → q ≠ xc → q ≠ xd → q ≠ xs → H6707[q]? = s.heap[q]? := (fun q t hq h1 h2 h3 h4 h5 h6 h7 h8 h9 h10 h11 h12 h13 h14 h15 n1 n2 n3 n4 n5 n6 n7 n8 n9 => (x_lt hTH6493 kH6707 hq (nm2 h3 (nm2 h7 (nm2 h15 (nm2 h8 (nm2 h9 (nm2 h10 (nm2 h11 (nm2 h12 (nm2 h13 (nm2 h14 nm0))))))))))).trans (f6496 q t hq h1 h2 h3 h4 h5 h6 h7 h8 h9 h10 h11 h12 h13 h14 h15 n1 n2 n3 n4 n5 n6 n7 n8 n9))
          have f6738 : ∀ q t : Nat, G q = some t → t ≠ 68 → t ≠ 0 → t ≠ 78 → t ≠ 79 → t ≠ 80 → t ≠ 81 → t ≠ 69 → t ≠ 70 → t ≠ 71 → t ≠ 72 → t ≠ 73 → t ≠ 74 → t ≠ 75 → t ≠ 76 → t ≠ 77 → H6707[q]? = s.heap[q]? := (fun q t hq h1 h2 h3 h4 h5 h6 h7 h8 h9 h10 h11 h12 h13 h14 h15  => (x_lt hTH6493 kH6707 hq (nm2 h3 (nm2 h7 (nm2 h15 (nm2 h8 (nm2 h9 (nm2 h10 (nm2 h11 (nm2 h12 (nm2 h13 (nm2 h14 nm0))))))))))).trans (f6497 q t hq h1 h2 h3 h4 h5 h6 h7 h8 h9 h10 h11 h12 h13 h14 h15 ))
          have f6739 : NWF K H6707 s.heap nw := NWF.st f6498 (fun k hk => fR_kept (x_lt hTH6493 kH6707 gnw (by decide)))
          have f6740 : ∀ j : Nat, j ≤ F.toNatClampNeg → (kK bt tp.toNatClampNeg) j = (fI H6707 kq j).toInt := fun j hj => (f6499 j hj).trans (congrArg Int32.toInt (fI_kept (x_lt hTH6493 kH6707 gkq (by decide))).symm)
          have f6741 : ∀ j : Nat, j ≤ F.toNatClampNeg → (vV bt tp.toNatClampNeg) j = (fI H6707 vq j).toInt := fun j hj => (f6500 j hj).trans (congrArg Int32.toInt (fI_kept (x_lt hTH6493 kH6707 gvq (by decide))).symm)
          have m6742 := (m6501).trans (fI_kept (x_lt hTH6493 kH6707 ga0 (by decide))).symm
          have m6743 := (m6507).trans (fR_kept (x_lt hTH6493 kH6707 ga0 (by decide))).symm
          have m6744 := (m6508).trans (fR_kept (x_lt hTH6493 kH6707 gnw (by decide))).symm
          have m6745 := (m6509).trans (fR_kept (x_lt hTH6493 kH6707 glawq (by decide))).symm
          have m6746 := (m6510).trans (fR_kept (x_lt hTH6493 kH6707 ga0 (by decide))).symm
          have m6747 := (m6511).trans (fR_kept (x_lt hTH6493 kH6707 ga0 (by decide))).symm
          have m6748 := (m6523).trans (fR_kept (x_lt hTH6493 kH6707 gtx (by decide))).symm
          have m6749 := (m6524).trans (fR_kept (x_lt hTH6493 kH6707 gtx (by decide))).symm
          have m6750 := (m6525).trans (fR_kept (x_lt hTH6493 kH6707 gtx (by decide))).symm
          have m6751 := (m6526).trans (fR_kept (x_lt hTH6493 kH6707 gtx (by decide))).symm
          have m6752 := (m6527).trans (fR_kept (x_lt hTH6493 kH6707 gtx (by decide))).symm
          have m6753 := (m6528).trans (fR_kept (x_lt hTH6493 kH6707 gtx (by decide))).symm
          have m6754 := (m6529).trans (fR_kept (x_lt hTH6493 kH6707 gtx (by decide))).symm
          have m6755 := (m6530).trans (fR_kept (x_lt hTH6493 kH6707 gtx (by decide))).symm
          have m6756 := (m6531).trans (fI_kept (x_lt hTH6493 kH6707 gnw (by decide))).symm
          have m6757 := (m6532).trans (fI_kept (x_lt hTH6493 kH6707 gnw (by decide))).symm
          have m6758 := (m6533).trans (fI_kept (x_lt hTH6493 kH6707 gnw (by decide))).symm
          have m6759 := (m6534).trans (fI_kept (x_lt hTH6493 kH6707 gnw (by decide))).symm
          have m6760 := (m6535).trans (fI_kept (x_lt hTH6493 kH6707 gnw (by decide))).symm
          have m6761 := (m6536).trans (fI_kept (x_lt hTH6493 kH6707 gnw (by decide))).symm
          have m6762 := (fV_kept (x_lt hTH6493 kH6707 ga0 (by decide))).trans m6537
          have m6763 := (fI_kept (x_lt hTH6493 kH6707 gkq (by decide))).trans m6538
          have bx6709 := ty_fi (x := x6709) (k := 7) ex6709 hTH6707 grq rg_78 rfl
          have bx6710 := ty_fi (x := x6710) (k := 1) ex6710 hTH6707 grq rg_78 rfl
          have bx6711 := ty_fi (x := x6711) (k := 0) ex6711 hTH6707 gmq rg_69 rfl
          have bx6712 := ty_fi (x := x6712) (k := 9) ex6712 hTH6707 gmq rg_69 rfl
          have cn_x6711 := i_cl (x := x6711) bx6711.1
          have cn_x6709 := i_cl (x := x6709) bx6709.1
          have cn_x6712 := i_cl (x := x6712) bx6712.1
          have cn_x6322 := i_cl (x := x6322) bx6322.1
          have cn_x6320 := i_cl (x := x6320) bx6320.1
          have cn_x6324 := i_cl (x := x6324) bx6324.1
          have tw6764 : HD (x6710.toInt = 0 → TXW H6707 mw mf mj me ma mc md ms (kK bt tp.toNatClampNeg) (vV bt tp.toNatClampNeg) 0 x6711.toNatClampNeg x6709.toNatClampNeg x6712.toNatClampNeg) := HD.mk (fun h0 => TXW.go (HD.get tw6539 (by omega)) (by omega) (by have z := (if_neg (show ¬ 16 ≤ x6322.toInt by omega)).symm.trans (RQ.yes m6725 (by omega)); rw [show x6323.toInt = 0 by omega] at z; exact z) (by have z := m6726.resolve_left (by omega); rw [show x6323.toInt = 0 by omega] at z; exact z) m6729 m6730 m6731 m6732 m6733 m6734 m6735 (m6727.resolve_left (by omega)) (by omega) (by rw [m6728.resolve_left (by omega)]; exact Nat.le_refl _))
          refine W.eq (g2 := F0 m 89 ls6316 [.int x6708]) rfl ?_
          refine lv_pop hx hb dX9_text_89 rfl ?_
          obtain ⟨x6765, ex6765⟩ : ∃ y : Int32, y = x6318 + 1 := ⟨_, rfl⟩
          have tx6765 := i_add ex6765 (by omega)
          refine lv_iinc (v := x6765) (lv' := [(5, .int x6765), (0, .ref a0), (4, .ref tx)]) hx hb dX9_text_90 hl6317 (k := 2) rfl (by rw [ex6765]; rfl) (by decide) rfl (fun ls6766 hl6767 => ?_)
          refine lv_goto (tgt := 65) hx hb dX9_text_93 (by decide) ?_
          have cn_x6765 := i_cl (x := x6765) (by omega)
          have cn_F := i_cl (x := F) (by omega)
          have cn_x6318 := i_cl (x := x6318) bx6318.1
          have ee_ := HD.get hF6 (by omega)
          have lq_ : (if x1.toInt = 0 then (1 : Int) else 0) = x6323.toInt := by split <;> omega
          rw [lq_] at ee_
          exact ih65 F ls6766 H6707 locsH6707 (x6765) (x6319) (x6709) (x6710) (x6711) (x6323) (x6712) (lv_sub hl6767 [1, 2, 0] rfl) hTH6707 hSH6707 (by have := i_rng x6765; omega) bx6319 bx6709 bx6711 bx6323 bx6712 m6742 ex6709 ex6710 ex6711 m6724 ex6712 m6743 m6744 m6745 m6746 m6747 m6713 m6714 m6715 m6717 m6718 m6719 m6720 m6721 m6722 m6723 m6716 m6748 m6749 m6750 m6751 m6752 m6753 m6754 m6755 m6756 m6757 m6758 m6759 m6760 m6761 m6762 f6736 f6737 f6738 f6739 (by omega) (by omega) (by omega) (by omega) m6763 f6740 f6741 (HD.mk (fun h0 => by rw [lq_]; exact ee_.trans (tx_go (by omega) (by omega) (by omega) ((if_neg (by omega)).symm.trans (RQ.yes m6725 (by omega))) (by omega)))) (HD.mk (fun h0 => by rw [lq_]; exact ee_.trans (tx_no (by omega) (by by_cases h16 : 16 ≤ x6322.toNatClampNeg; exact Or.inl h16; exact Or.inr ((if_neg (by omega)).symm.trans (RQ.no m6725 (by omega))))))) tw6764
  refine lv_aload_n hx hb dX9_text_0 rfl (lv_at hl 0 rfl) ?_
  refine x_gi C hT (ci := 9) (k := 3) rfl inX9 (by decide) wF_X9_105 ga0 rg_68 rfl dX9_text_1 (fun x6768 ex6768 bx6768 => ?_)
  have ux6768 : tp = x6768 := (etp).trans ex6768.symm
  subst ux6768
  refine lv_istore_n (lv' := [(3, .int tp), (0, .ref a0), (1, .int x1), (2, .int x2)]) hx hb dX9_text_4 rfl hl (by decide) rfl (fun ls6769 hl6770 => ?_)
  refine lv_aload_n hx hb dX9_text_5 rfl (lv_at hl6770 1 rfl) ?_
  refine lv_iconst (v := 0) hx hb dX9_text_6 (by decide) ?_
  refine x_put C hT hS (ci := 9) (k := 3) (v := .int 0) (ty0 := tyX9) rfl inX9 tyX9_ok nmX9 (by decide) rfl wF_X9_105 ga0 rg_68 rfl rfl (okI (by have := i_rng (0 : Int32); omega) (by have := i_rng (0 : Int32); omega)) rfl rfl (AE_in ga0 (by decide)) dX9_text_7 (fun H6771 locsH6771 hTH6771 hSH6771 wH6771 => ?_)
  have f6772 : ∀ j : Nat, bt j = (fI H6771 tq j).toInt := fun j => (f0_bt j).trans (congrArg Int32.toInt (Wr.neI wH6771 (Or.inl (G_ne gtq ga0 (by decide)))).symm)
  have f6773 : ∀ q t : Nat, G q = some t → t ≠ 68 → t ≠ 0 → t ≠ 78 → t ≠ 79 → t ≠ 80 → t ≠ 81 → t ≠ 69 → t ≠ 70 → t ≠ 71 → t ≠ 72 → t ≠ 73 → t ≠ 74 → t ≠ 75 → t ≠ 76 → t ≠ 77 → q ≠ tx → q ≠ xw → q ≠ xf → q ≠ xj → q ≠ xe → q ≠ xa → q ≠ xc → q ≠ xd → q ≠ xs → H6771[q]? = s.heap[q]? := (fun q t hq h1 h2 h3 h4 h5 h6 h7 h8 h9 h10 h11 h12 h13 h14 h15 n1 n2 n3 n4 n5 n6 n7 n8 n9 => (wH6771.off (G_ne hq ga0 h1)).trans (f0_fx q t hq h1 h2 h3 h4 h5 h6 h7 h8 h9 h10 h11 h12 h13 h14 h15 n1 n2 n3 n4 n5 n6 n7 n8 n9))
  have f6774 : ∀ q t : Nat, G q = some t → t ≠ 68 → t ≠ 0 → t ≠ 78 → t ≠ 79 → t ≠ 80 → t ≠ 81 → t ≠ 69 → t ≠ 70 → t ≠ 71 → t ≠ 72 → t ≠ 73 → t ≠ 74 → t ≠ 75 → t ≠ 76 → t ≠ 77 → H6771[q]? = s.heap[q]? := (fun q t hq h1 h2 h3 h4 h5 h6 h7 h8 h9 h10 h11 h12 h13 h14 h15  => (wH6771.off (G_ne hq ga0 h1)).trans (f0_fy q t hq h1 h2 h3 h4 h5 h6 h7 h8 h9 h10 h11 h12 h13 h14 h15 ))
  have f6775 : NWF K H6771 s.heap nw := NWF.st f0_nw (fun k hk => fR_kept (wH6771.off (G_ne gnw ga0 (by decide))))
  have m6776 := enw.trans (Wr.neR wH6771 (Or.inr (x_apart hKT hts inX9 tyX9 tyX9_ok nmX9 rfl 0 3 (by decide) (by decide) (by decide)))).symm
  have m6777 := elawq.trans (Wr.neR wH6771 (Or.inl (G_ne gnw ga0 (by decide)))).symm
  have m6778 := etx.trans (Wr.neR wH6771 (Or.inl (G_ne glawq ga0 (by decide)))).symm
  have m6779 := erq.trans (Wr.neR wH6771 (Or.inr (x_apart hKT hts inX9 tyX9 tyX9_ok nmX9 rfl 4 3 (by decide) (by decide) (by decide)))).symm
  have m6780 := etq.trans (Wr.neR wH6771 (Or.inr (x_apart hKT hts inX9 tyX9 tyX9_ok nmX9 rfl 2 3 (by decide) (by decide) (by decide)))).symm
  have m6781 := emq.trans (Wr.neR wH6771 (Or.inl (G_ne grq ga0 (by decide)))).symm
  have m6782 := ekq.trans (Wr.neR wH6771 (Or.inl (G_ne grq ga0 (by decide)))).symm
  have m6783 := evq.trans (Wr.neR wH6771 (Or.inl (G_ne grq ga0 (by decide)))).symm
  have m6784 := emw.trans (Wr.neR wH6771 (Or.inl (G_ne gmq ga0 (by decide)))).symm
  have m6785 := emf.trans (Wr.neR wH6771 (Or.inl (G_ne gmq ga0 (by decide)))).symm
  have m6786 := emj.trans (Wr.neR wH6771 (Or.inl (G_ne gmq ga0 (by decide)))).symm
  have m6787 := eme.trans (Wr.neR wH6771 (Or.inl (G_ne gmq ga0 (by decide)))).symm
  have m6788 := ema.trans (Wr.neR wH6771 (Or.inl (G_ne gmq ga0 (by decide)))).symm
  have m6789 := emc.trans (Wr.neR wH6771 (Or.inl (G_ne gmq ga0 (by decide)))).symm
  have m6790 := emd.trans (Wr.neR wH6771 (Or.inl (G_ne gmq ga0 (by decide)))).symm
  have m6791 := ems.trans (Wr.neR wH6771 (Or.inl (G_ne gmq ga0 (by decide)))).symm
  have m6792 := exw.trans (Wr.neR wH6771 (Or.inl (G_ne gtx ga0 (by decide)))).symm
  have m6793 := exf.trans (Wr.neR wH6771 (Or.inl (G_ne gtx ga0 (by decide)))).symm
  have m6794 := exj.trans (Wr.neR wH6771 (Or.inl (G_ne gtx ga0 (by decide)))).symm
  have m6795 := exe.trans (Wr.neR wH6771 (Or.inl (G_ne gtx ga0 (by decide)))).symm
  have m6796 := exa.trans (Wr.neR wH6771 (Or.inl (G_ne gtx ga0 (by decide)))).symm
  have m6797 := exc.trans (Wr.neR wH6771 (Or.inl (G_ne gtx ga0 (by decide)))).symm
  have m6798 := exd.trans (Wr.neR wH6771 (Or.inl (G_ne gtx ga0 (by decide)))).symm
  have m6799 := exs.trans (Wr.neR wH6771 (Or.inl (G_ne gtx ga0 (by decide)))).symm
  have m6801 := etat.trans (Wr.neI wH6771 (Or.inl (G_ne grq ga0 (by decide)))).symm
  have m6802 := efa.trans (Wr.neI wH6771 (Or.inl (G_ne grq ga0 (by decide)))).symm
  have m6803 := eli.trans (Wr.neI wH6771 (Or.inl (G_ne gmq ga0 (by decide)))).symm
  have m6804 := elw.trans (Wr.neI wH6771 (Or.inl (G_ne grq ga0 (by decide)))).symm
  have m6805 := esc.trans (Wr.neI wH6771 (Or.inl (G_ne gmq ga0 (by decide)))).symm
  have m6806 := es1.trans (Wr.neI wH6771 (Or.inl (G_ne gnw ga0 (by decide)))).symm
  have m6807 := es4.trans (Wr.neI wH6771 (Or.inl (G_ne gnw ga0 (by decide)))).symm
  have m6808 := es5.trans (Wr.neI wH6771 (Or.inl (G_ne gnw ga0 (by decide)))).symm
  have m6809 := es10.trans (Wr.neI wH6771 (Or.inl (G_ne gnw ga0 (by decide)))).symm
  have m6810 := es13.trans (Wr.neI wH6771 (Or.inl (G_ne gnw ga0 (by decide)))).symm
  have m6811 := es16.trans (Wr.neI wH6771 (Or.inl (G_ne gnw ga0 (by decide)))).symm
  have m6812 := (Wr.neV wH6771 (Or.inr (x_apart hKT hts inX9 tyX9 tyX9_ok nmX9 rfl 1 3 (by decide) (by decide) (by decide)))).trans hkv
  have m6813 := Wr.I wH6771
  refine lv_aload_n hx hb dX9_text_10 rfl (lv_at hl6770 1 rfl) ?_
  refine x_gr C hTH6771 (ci := 9) (k := 0) rfl inX9 (by decide) wF_X9_12 ga0 rg_68 rfl dX9_text_11 (fun q6814 eq6814 gq6814 => ?_)
  have uq6814 : nw = q6814 := (m6776).trans eq6814.symm
  subst uq6814
  refine lv_iconst (v := 0) hx hb dX9_text_14 (by decide) ?_
  refine x_put C hTH6771 hSH6771 (ci := 8) (k := 6) (v := .int 0) (ty0 := tyX8) rfl inX8 tyX8_ok nmX8 (by decide) rfl wF_X9_111 gnw rg_0 rfl rfl (okI (i_rng (0 : Int32)).1 (i_rng (0 : Int32)).2) rfl rfl (AE_in gnw (by decide)) dX9_text_15 (fun H6815 locsH6815 hTH6815 hSH6815 wH6815 => ?_)
  have f6816 : ∀ j : Nat, bt j = (fI H6815 tq j).toInt := fun j => (f6772 j).trans (congrArg Int32.toInt (Wr.neI wH6815 (Or.inl (G_ne gtq gnw (by decide)))).symm)
  have f6817 : ∀ q t : Nat, G q = some t → t ≠ 68 → t ≠ 0 → t ≠ 78 → t ≠ 79 → t ≠ 80 → t ≠ 81 → t ≠ 69 → t ≠ 70 → t ≠ 71 → t ≠ 72 → t ≠ 73 → t ≠ 74 → t ≠ 75 → t ≠ 76 → t ≠ 77 → q ≠ tx → q ≠ xw → q ≠ xf → q ≠ xj → q ≠ xe → q ≠ xa → q ≠ xc → q ≠ xd → q ≠ xs → H6815[q]? = s.heap[q]? := (fun q t hq h1 h2 h3 h4 h5 h6 h7 h8 h9 h10 h11 h12 h13 h14 h15 n1 n2 n3 n4 n5 n6 n7 n8 n9 => (wH6815.off (G_ne hq gnw h2)).trans (f6773 q t hq h1 h2 h3 h4 h5 h6 h7 h8 h9 h10 h11 h12 h13 h14 h15 n1 n2 n3 n4 n5 n6 n7 n8 n9))
  have f6818 : ∀ q t : Nat, G q = some t → t ≠ 68 → t ≠ 0 → t ≠ 78 → t ≠ 79 → t ≠ 80 → t ≠ 81 → t ≠ 69 → t ≠ 70 → t ≠ 71 → t ≠ 72 → t ≠ 73 → t ≠ 74 → t ≠ 75 → t ≠ 76 → t ≠ 77 → H6815[q]? = s.heap[q]? := (fun q t hq h1 h2 h3 h4 h5 h6 h7 h8 h9 h10 h11 h12 h13 h14 h15  => (wH6815.off (G_ne hq gnw h2)).trans (f6774 q t hq h1 h2 h3 h4 h5 h6 h7 h8 h9 h10 h11 h12 h13 h14 h15 ))
  have f6819 : NWF K H6815 s.heap nw := NWF.st f6775 (fun k hk => Wr.neR wH6815 (Or.inr (hapW k _ (by omega) (by decide) (by omega))))
  have m6820 := m6776.trans (Wr.neR wH6815 (Or.inl (G_ne ga0 gnw (by decide)))).symm
  have m6821 := m6777.trans (Wr.neR wH6815 (Or.inr (x_apart hKT hts inX8 tyX8 tyX8_ok nmX8 rfl 3 6 (by decide) (by decide) (by decide)))).symm
  have m6822 := m6778.trans (Wr.neR wH6815 (Or.inl (G_ne glawq gnw (by decide)))).symm
  have m6823 := m6779.trans (Wr.neR wH6815 (Or.inl (G_ne ga0 gnw (by decide)))).symm
  have m6824 := m6780.trans (Wr.neR wH6815 (Or.inl (G_ne ga0 gnw (by decide)))).symm
  have m6825 := m6781.trans (Wr.neR wH6815 (Or.inl (G_ne grq gnw (by decide)))).symm
  have m6826 := m6782.trans (Wr.neR wH6815 (Or.inl (G_ne grq gnw (by decide)))).symm
  have m6827 := m6783.trans (Wr.neR wH6815 (Or.inl (G_ne grq gnw (by decide)))).symm
  have m6828 := m6784.trans (Wr.neR wH6815 (Or.inl (G_ne gmq gnw (by decide)))).symm
  have m6829 := m6785.trans (Wr.neR wH6815 (Or.inl (G_ne gmq gnw (by decide)))).symm
  have m6830 := m6786.trans (Wr.neR wH6815 (Or.inl (G_ne gmq gnw (by decide)))).symm
  have m6831 := m6787.trans (Wr.neR wH6815 (Or.inl (G_ne gmq gnw (by decide)))).symm
  have m6832 := m6788.trans (Wr.neR wH6815 (Or.inl (G_ne gmq gnw (by decide)))).symm
  have m6833 := m6789.trans (Wr.neR wH6815 (Or.inl (G_ne gmq gnw (by decide)))).symm
  have m6834 := m6790.trans (Wr.neR wH6815 (Or.inl (G_ne gmq gnw (by decide)))).symm
  have m6835 := m6791.trans (Wr.neR wH6815 (Or.inl (G_ne gmq gnw (by decide)))).symm
  have m6836 := m6792.trans (Wr.neR wH6815 (Or.inl (G_ne gtx gnw (by decide)))).symm
  have m6837 := m6793.trans (Wr.neR wH6815 (Or.inl (G_ne gtx gnw (by decide)))).symm
  have m6838 := m6794.trans (Wr.neR wH6815 (Or.inl (G_ne gtx gnw (by decide)))).symm
  have m6839 := m6795.trans (Wr.neR wH6815 (Or.inl (G_ne gtx gnw (by decide)))).symm
  have m6840 := m6796.trans (Wr.neR wH6815 (Or.inl (G_ne gtx gnw (by decide)))).symm
  have m6841 := m6797.trans (Wr.neR wH6815 (Or.inl (G_ne gtx gnw (by decide)))).symm
  have m6842 := m6798.trans (Wr.neR wH6815 (Or.inl (G_ne gtx gnw (by decide)))).symm
  have m6843 := m6799.trans (Wr.neR wH6815 (Or.inl (G_ne gtx gnw (by decide)))).symm
  have m6844 := m6801.trans (Wr.neI wH6815 (Or.inl (G_ne grq gnw (by decide)))).symm
  have m6845 := m6802.trans (Wr.neI wH6815 (Or.inl (G_ne grq gnw (by decide)))).symm
  have m6846 := m6803.trans (Wr.neI wH6815 (Or.inl (G_ne gmq gnw (by decide)))).symm
  have m6847 := m6804.trans (Wr.neI wH6815 (Or.inl (G_ne grq gnw (by decide)))).symm
  have m6848 := m6805.trans (Wr.neI wH6815 (Or.inl (G_ne gmq gnw (by decide)))).symm
  have m6849 := m6806.trans (Wr.neI wH6815 (Or.inr (x_apart hKT hts inX8 tyX8 tyX8_ok nmX8 rfl 1 6 (by decide) (by decide) (by decide)))).symm
  have m6850 := m6807.trans (Wr.neI wH6815 (Or.inr (x_apart hKT hts inX8 tyX8 tyX8_ok nmX8 rfl 4 6 (by decide) (by decide) (by decide)))).symm
  have m6851 := m6808.trans (Wr.neI wH6815 (Or.inr (x_apart hKT hts inX8 tyX8 tyX8_ok nmX8 rfl 5 6 (by decide) (by decide) (by decide)))).symm
  have m6852 := m6809.trans (Wr.neI wH6815 (Or.inr (x_apart hKT hts inX8 tyX8 tyX8_ok nmX8 rfl 10 6 (by decide) (by decide) (by decide)))).symm
  have m6853 := m6810.trans (Wr.neI wH6815 (Or.inr (x_apart hKT hts inX8 tyX8 tyX8_ok nmX8 rfl 13 6 (by decide) (by decide) (by decide)))).symm
  have m6854 := m6811.trans (Wr.neI wH6815 (Or.inr (x_apart hKT hts inX8 tyX8 tyX8_ok nmX8 rfl 16 6 (by decide) (by decide) (by decide)))).symm
  have m6855 := (Wr.neV wH6815 (Or.inl (G_ne ga0 gnw (by decide)))).trans m6812
  have m6856 := (Wr.neI wH6815 (Or.inl (G_ne ga0 gnw (by decide)))).trans m6813
  have m6857 := Wr.I wH6815
  refine lv_aload_n hx hb dX9_text_18 rfl (lv_at hl6770 1 rfl) ?_
  refine x_gr C hTH6815 (ci := 9) (k := 0) rfl inX9 (by decide) wF_X9_12 ga0 rg_68 rfl dX9_text_19 (fun q6858 eq6858 gq6858 => ?_)
  have uq6858 : nw = q6858 := (m6820).trans eq6858.symm
  subst uq6858
  refine lv_iconst (v := (-1)) hx hb dX9_text_22 (by decide) ?_
  refine x_put C hTH6815 hSH6815 (ci := 8) (k := 7) (v := .int (-1)) (ty0 := tyX8) rfl inX8 tyX8_ok nmX8 (by decide) rfl wF_X9_114 gnw rg_0 rfl rfl (okI (i_rng ((-1) : Int32)).1 (i_rng ((-1) : Int32)).2) rfl rfl (AE_in gnw (by decide)) dX9_text_23 (fun H6859 locsH6859 hTH6859 hSH6859 wH6859 => ?_)
  clear f6772 f6773 f6774 f6775 m6776 m6777 m6778 m6779 m6780 m6781 m6782 m6783 m6784 m6785 m6786 m6787 m6788 m6789 m6790 m6791 m6792 m6793 m6794 m6795 m6796 m6797 m6798 m6799 m6801 m6802 m6803 m6804 m6805 m6806 m6807 m6808 m6809 m6810 m6811 m6812 m6813
  have f6860 : ∀ j : Nat, bt j = (fI H6859 tq j).toInt := fun j => (f6816 j).trans (congrArg Int32.toInt (Wr.neI wH6859 (Or.inl (G_ne gtq gnw (by decide)))).symm)
  have f6861 : ∀ q t : Nat, G q = some t → t ≠ 68 → t ≠ 0 → t ≠ 78 → t ≠ 79 → t ≠ 80 → t ≠ 81 → t ≠ 69 → t ≠ 70 → t ≠ 71 → t ≠ 72 → t ≠ 73 → t ≠ 74 → t ≠ 75 → t ≠ 76 → t ≠ 77 → q ≠ tx → q ≠ xw → q ≠ xf → q ≠ xj → q ≠ xe → q ≠ xa → q ≠ xc → q ≠ xd → q ≠ xs → H6859[q]? = s.heap[q]? := (fun q t hq h1 h2 h3 h4 h5 h6 h7 h8 h9 h10 h11 h12 h13 h14 h15 n1 n2 n3 n4 n5 n6 n7 n8 n9 => (wH6859.off (G_ne hq gnw h2)).trans (f6817 q t hq h1 h2 h3 h4 h5 h6 h7 h8 h9 h10 h11 h12 h13 h14 h15 n1 n2 n3 n4 n5 n6 n7 n8 n9))
  have f6862 : ∀ q t : Nat, G q = some t → t ≠ 68 → t ≠ 0 → t ≠ 78 → t ≠ 79 → t ≠ 80 → t ≠ 81 → t ≠ 69 → t ≠ 70 → t ≠ 71 → t ≠ 72 → t ≠ 73 → t ≠ 74 → t ≠ 75 → t ≠ 76 → t ≠ 77 → H6859[q]? = s.heap[q]? := (fun q t hq h1 h2 h3 h4 h5 h6 h7 h8 h9 h10 h11 h12 h13 h14 h15  => (wH6859.off (G_ne hq gnw h2)).trans (f6818 q t hq h1 h2 h3 h4 h5 h6 h7 h8 h9 h10 h11 h12 h13 h14 h15 ))
  have f6863 : NWF K H6859 s.heap nw := NWF.st f6819 (fun k hk => Wr.neR wH6859 (Or.inr (hapW k _ (by omega) (by decide) (by omega))))
  have m6864 := m6820.trans (Wr.neR wH6859 (Or.inl (G_ne ga0 gnw (by decide)))).symm
  have m6865 := m6821.trans (Wr.neR wH6859 (Or.inr (x_apart hKT hts inX8 tyX8 tyX8_ok nmX8 rfl 3 7 (by decide) (by decide) (by decide)))).symm
  have m6866 := m6822.trans (Wr.neR wH6859 (Or.inl (G_ne glawq gnw (by decide)))).symm
  have m6867 := m6823.trans (Wr.neR wH6859 (Or.inl (G_ne ga0 gnw (by decide)))).symm
  have m6868 := m6824.trans (Wr.neR wH6859 (Or.inl (G_ne ga0 gnw (by decide)))).symm
  have m6869 := m6825.trans (Wr.neR wH6859 (Or.inl (G_ne grq gnw (by decide)))).symm
  have m6870 := m6826.trans (Wr.neR wH6859 (Or.inl (G_ne grq gnw (by decide)))).symm
  have m6871 := m6827.trans (Wr.neR wH6859 (Or.inl (G_ne grq gnw (by decide)))).symm
  have m6872 := m6828.trans (Wr.neR wH6859 (Or.inl (G_ne gmq gnw (by decide)))).symm
  have m6873 := m6829.trans (Wr.neR wH6859 (Or.inl (G_ne gmq gnw (by decide)))).symm
  have m6874 := m6830.trans (Wr.neR wH6859 (Or.inl (G_ne gmq gnw (by decide)))).symm
  have m6875 := m6831.trans (Wr.neR wH6859 (Or.inl (G_ne gmq gnw (by decide)))).symm
  have m6876 := m6832.trans (Wr.neR wH6859 (Or.inl (G_ne gmq gnw (by decide)))).symm
  have m6877 := m6833.trans (Wr.neR wH6859 (Or.inl (G_ne gmq gnw (by decide)))).symm
  have m6878 := m6834.trans (Wr.neR wH6859 (Or.inl (G_ne gmq gnw (by decide)))).symm
  have m6879 := m6835.trans (Wr.neR wH6859 (Or.inl (G_ne gmq gnw (by decide)))).symm
  have m6880 := m6836.trans (Wr.neR wH6859 (Or.inl (G_ne gtx gnw (by decide)))).symm
  have m6881 := m6837.trans (Wr.neR wH6859 (Or.inl (G_ne gtx gnw (by decide)))).symm
  have m6882 := m6838.trans (Wr.neR wH6859 (Or.inl (G_ne gtx gnw (by decide)))).symm
  have m6883 := m6839.trans (Wr.neR wH6859 (Or.inl (G_ne gtx gnw (by decide)))).symm
  have m6884 := m6840.trans (Wr.neR wH6859 (Or.inl (G_ne gtx gnw (by decide)))).symm
  have m6885 := m6841.trans (Wr.neR wH6859 (Or.inl (G_ne gtx gnw (by decide)))).symm
  have m6886 := m6842.trans (Wr.neR wH6859 (Or.inl (G_ne gtx gnw (by decide)))).symm
  have m6887 := m6843.trans (Wr.neR wH6859 (Or.inl (G_ne gtx gnw (by decide)))).symm
  have m6888 := m6844.trans (Wr.neI wH6859 (Or.inl (G_ne grq gnw (by decide)))).symm
  have m6889 := m6845.trans (Wr.neI wH6859 (Or.inl (G_ne grq gnw (by decide)))).symm
  have m6890 := m6846.trans (Wr.neI wH6859 (Or.inl (G_ne gmq gnw (by decide)))).symm
  have m6891 := m6847.trans (Wr.neI wH6859 (Or.inl (G_ne grq gnw (by decide)))).symm
  have m6892 := m6848.trans (Wr.neI wH6859 (Or.inl (G_ne gmq gnw (by decide)))).symm
  have m6893 := m6849.trans (Wr.neI wH6859 (Or.inr (x_apart hKT hts inX8 tyX8 tyX8_ok nmX8 rfl 1 7 (by decide) (by decide) (by decide)))).symm
  have m6894 := m6850.trans (Wr.neI wH6859 (Or.inr (x_apart hKT hts inX8 tyX8 tyX8_ok nmX8 rfl 4 7 (by decide) (by decide) (by decide)))).symm
  have m6895 := m6851.trans (Wr.neI wH6859 (Or.inr (x_apart hKT hts inX8 tyX8 tyX8_ok nmX8 rfl 5 7 (by decide) (by decide) (by decide)))).symm
  have m6896 := m6852.trans (Wr.neI wH6859 (Or.inr (x_apart hKT hts inX8 tyX8 tyX8_ok nmX8 rfl 10 7 (by decide) (by decide) (by decide)))).symm
  have m6897 := m6853.trans (Wr.neI wH6859 (Or.inr (x_apart hKT hts inX8 tyX8 tyX8_ok nmX8 rfl 13 7 (by decide) (by decide) (by decide)))).symm
  have m6898 := m6854.trans (Wr.neI wH6859 (Or.inr (x_apart hKT hts inX8 tyX8 tyX8_ok nmX8 rfl 16 7 (by decide) (by decide) (by decide)))).symm
  have m6899 := (Wr.neV wH6859 (Or.inl (G_ne ga0 gnw (by decide)))).trans m6855
  have m6900 := (Wr.neI wH6859 (Or.inl (G_ne ga0 gnw (by decide)))).trans m6856
  have m6901 := (Wr.neI wH6859 (Or.inr (x_apart hKT hts inX8 tyX8 tyX8_ok nmX8 rfl 6 7 (by decide) (by decide) (by decide)))).trans m6857
  have m6902 := Wr.I wH6859
  refine lv_aload_n hx hb dX9_text_26 rfl (lv_at hl6770 1 rfl) ?_
  refine lv_iload_n hx hb dX9_text_27 rfl (lv_at hl6770 2 rfl) ?_
  refine lv_iload_n hx hb dX9_text_28 rfl (lv_at hl6770 3 rfl) ?_
  refine x_V (As := [.int x1, .int x2]) (rest := []) C (a_X9_textAt_j l K G H6859 (x1) (x2) hTH6859 ga0 gnw m6864 glawq m6865 gtx m6866 (by omega)) yo_X9_textAt wM_X9_117 ⟨⟨by decide, by decide⟩, by decide, by decide⟩ (x_rv C hTH6859 (ci := 9) rfl ga0 rg_68) rfl hl6770.1 rfl (Nat.le_of_ble_eq_true rfl) dX9_text_29 hSH6859 (AE_sub (fun _ _ => rfl) (by decide) hSH6859.1) (fun vH6903 H6903 locsH6903 pH6903 zH6903 kH6903 hSH6903 => ?_)
  have hqH6903 := pH6903.1.symm
  subst hqH6903
  have hvH6903 := pH6903.2
  subst hvH6903
  refine W.eq (g2 := F0 m 32 ls6769 [.ref tx]) rfl ?_
  refine lv_astore (lv' := [(4, .ref tx), (3, .int tp), (0, .ref a0), (1, .int x1), (2, .int x2)]) hx hb dX9_text_32 hl6770 (by decide) rfl (fun ls6904 hl6905 => ?_)
  refine lv_aload hx hb dX9_text_34 (lv_at hl6905 0 rfl) ?_
  refine lv_ifnonnull (tgt := 41) hx hb dX9_text_36 (by decide) ?_
  refine lv_aload_n hx hb dX9_text_41 rfl (lv_at hl6905 2 rfl) ?_
  refine x_gr C hTH6859 (ci := 9) (k := 4) rfl inX9 (by decide) wF_X9_23 ga0 rg_68 rfl dX9_text_42 (fun q6906 eq6906 gq6906 => ?_)
  have uq6906 : rq = q6906 := (m6867).trans eq6906.symm
  subst uq6906
  refine lv_aload_n hx hb dX9_text_45 rfl (lv_at hl6905 2 rfl) ?_
  refine x_gr C hTH6859 (ci := 9) (k := 2) rfl inX9 (by decide) wF_X9_16 ga0 rg_68 rfl dX9_text_46 (fun q6907 eq6907 gq6907 => ?_)
  have uq6907 : tq = q6907 := (m6868).trans eq6907.symm
  subst uq6907
  refine lv_iload_n hx hb dX9_text_49 rfl (lv_at hl6905 1 rfl) ?_
  refine lv_iload_n hx hb dX9_text_50 rfl (lv_at hl6905 3 rfl) ?_
  refine lv_if_ne (tgt := 58) hx hb dX9_text_51 (by decide) (fun c6908 => ?_) (fun c6908 => ?_)
  · have k6909 := i_ne c6908
    refine lv_iconst (v := 0) hx hb dX9_text_58 (by decide) ?_
    obtain ⟨x6910, ex6910⟩ : ∃ z : Int32, z = fI H6859 rq (K.1.2 4 6) := ⟨_, rfl⟩
    have bx6910 := ty_fi (x := x6910) (k := 6) ex6910 hTH6859 grq rg_78 rfl
    refine x_V (As := [.ref tq, .int tp, .int 0]) (rest := []) C (a_X4_start_g l K G H6859 (tp) (0) (tat) (x6910) (lw) (fa) (li) (sc) bt hTH6859 grq gtq (by omega) (by decide) gmq m6869 gkq m6870 gvq m6871 gms m6879 gmw m6872 gmf m6873 gmj m6874 gme m6875 gma m6876 gmc m6877 gmd m6878 m6888 ex6910 m6891 m6889 m6890 m6892 f6860) yo_X4_start wM_X9_121 ⟨⟨by decide, by decide⟩, by decide, by decide⟩ (x_rv C hTH6859 (ci := 4) rfl grq rg_78) rfl hl6905.1 rfl (Nat.le_of_ble_eq_true rfl) dX9_text_59 hSH6903 (AE_sub (fun _ _ => rfl) (by decide) hSH6903.1) (fun vH6911 H6911 locsH6911 pH6911 zH6911 kH6911 hSH6911 => ?_)
    obtain ⟨x6912, x6913, x6914, x6915, x6916, x6917, hvH6911, ex6912, ex6913, ex6914, ex6915, ex6916, ex6917, hrH6911, m6918, m6919, m6920, m6921, m6922, m6923, m6924, m6925, m6926, m6927, m6928, m6929, hTH6911⟩ := pH6911
    subst hvH6911
    clear f6816 f6817 f6818 f6819 m6820 m6821 m6822 m6823 m6824 m6825 m6826 m6827 m6828 m6829 m6830 m6831 m6832 m6833 m6834 m6835 m6836 m6837 m6838 m6839 m6840 m6841 m6842 m6843 m6844 m6845 m6846 m6847 m6848 m6849 m6850 m6851 m6852 m6853 m6854 m6855 m6856 m6857
    have f6930 : ∀ j : Nat, bt j = (fI H6911 tq j).toInt := fun j => (f6860 j).trans (congrArg Int32.toInt (fI_kept (x_lt hTH6859 kH6911 gtq (by decide))).symm)
    have f6931 : ∀ q t : Nat, G q = some t → t ≠ 68 → t ≠ 0 → t ≠ 78 → t ≠ 79 → t ≠ 80 → t ≠ 81 → t ≠ 69 → t ≠ 70 → t ≠ 71 → t ≠ 72 → t ≠ 73 → t ≠ 74 → t ≠ 75 → t ≠ 76 → t ≠ 77 → q ≠ tx → q ≠ xw → q ≠ xf → q ≠ xj → q ≠ xe → q ≠ xa → q ≠ xc → q ≠ xd → q ≠ xs → H6911[q]? = s.heap[q]? := (fun q t hq h1 h2 h3 h4 h5 h6 h7 h8 h9 h10 h11 h12 h13 h14 h15 n1 n2 n3 n4 n5 n6 n7 n8 n9 => (x_lt hTH6859 kH6911 hq (nm2 h3 (nm2 h4 (nm2 h5 (nm2 h6 (nm2 h7 nm0)))))).trans (f6861 q t hq h1 h2 h3 h4 h5 h6 h7 h8 h9 h10 h11 h12 h13 h14 h15 n1 n2 n3 n4 n5 n6 n7 n8 n9))
    have f6932 : ∀ q t : Nat, G q = some t → t ≠ 68 → t ≠ 0 → t ≠ 78 → t ≠ 79 → t ≠ 80 → t ≠ 81 → t ≠ 69 → t ≠ 70 → t ≠ 71 → t ≠ 72 → t ≠ 73 → t ≠ 74 → t ≠ 75 → t ≠ 76 → t ≠ 77 → H6911[q]? = s.heap[q]? := (fun q t hq h1 h2 h3 h4 h5 h6 h7 h8 h9 h10 h11 h12 h13 h14 h15  => (x_lt hTH6859 kH6911 hq (nm2 h3 (nm2 h4 (nm2 h5 (nm2 h6 (nm2 h7 nm0)))))).trans (f6862 q t hq h1 h2 h3 h4 h5 h6 h7 h8 h9 h10 h11 h12 h13 h14 h15 ))
    have f6933 : NWF K H6911 s.heap nw := NWF.st f6863 (fun k hk => fR_kept (x_lt hTH6859 kH6911 gnw (by decide)))
    have m6934 := (m6864).trans (fR_kept (x_lt hTH6859 kH6911 ga0 (by decide))).symm
    have m6935 := (m6865).trans (fR_kept (x_lt hTH6859 kH6911 gnw (by decide))).symm
    have m6936 := (m6866).trans (fR_kept (x_lt hTH6859 kH6911 glawq (by decide))).symm
    have m6937 := (m6867).trans (fR_kept (x_lt hTH6859 kH6911 ga0 (by decide))).symm
    have m6938 := (m6868).trans (fR_kept (x_lt hTH6859 kH6911 ga0 (by decide))).symm
    have m6939 := (m6880).trans (fR_kept (x_lt hTH6859 kH6911 gtx (by decide))).symm
    have m6940 := (m6881).trans (fR_kept (x_lt hTH6859 kH6911 gtx (by decide))).symm
    have m6941 := (m6882).trans (fR_kept (x_lt hTH6859 kH6911 gtx (by decide))).symm
    have m6942 := (m6883).trans (fR_kept (x_lt hTH6859 kH6911 gtx (by decide))).symm
    have m6943 := (m6884).trans (fR_kept (x_lt hTH6859 kH6911 gtx (by decide))).symm
    have m6944 := (m6885).trans (fR_kept (x_lt hTH6859 kH6911 gtx (by decide))).symm
    have m6945 := (m6886).trans (fR_kept (x_lt hTH6859 kH6911 gtx (by decide))).symm
    have m6946 := (m6887).trans (fR_kept (x_lt hTH6859 kH6911 gtx (by decide))).symm
    have m6947 := (m6893).trans (fI_kept (x_lt hTH6859 kH6911 gnw (by decide))).symm
    have m6948 := (m6894).trans (fI_kept (x_lt hTH6859 kH6911 gnw (by decide))).symm
    have m6949 := (m6895).trans (fI_kept (x_lt hTH6859 kH6911 gnw (by decide))).symm
    have m6950 := (m6896).trans (fI_kept (x_lt hTH6859 kH6911 gnw (by decide))).symm
    have m6951 := (m6897).trans (fI_kept (x_lt hTH6859 kH6911 gnw (by decide))).symm
    have m6952 := (m6898).trans (fI_kept (x_lt hTH6859 kH6911 gnw (by decide))).symm
    have m6953 := (fV_kept (x_lt hTH6859 kH6911 ga0 (by decide))).trans m6899
    have m6954 := (fI_kept (x_lt hTH6859 kH6911 ga0 (by decide))).trans m6900
    have m6955 := (fI_kept (x_lt hTH6859 kH6911 gnw (by decide))).trans m6901
    have m6956 := (fI_kept (x_lt hTH6859 kH6911 gnw (by decide))).trans m6902
    have bx6912 := ty_fi (x := x6912) (k := 7) ex6912 hTH6911 grq rg_78 rfl
    have bx6913 := ty_fi (x := x6913) (k := 6) ex6913 hTH6911 grq rg_78 rfl
    have bx6914 := ty_fi (x := x6914) (k := 8) ex6914 hTH6911 grq rg_78 rfl
    have bx6915 := ty_fi (x := x6915) (k := 1) ex6915 hTH6911 grq rg_78 rfl
    have bx6916 := ty_fi (x := x6916) (k := 0) ex6916 hTH6911 gmq rg_69 rfl
    have bx6917 := ty_fi (x := x6917) (k := 9) ex6917 hTH6911 gmq rg_69 rfl
    obtain ⟨F6957, bF6957, mF6957, tkF6957⟩ := m6929
    have fkF6957 : ∀ j : Nat, j ≤ F6957.toNatClampNeg → (kK bt tp.toNatClampNeg) j = (fI H6911 kq j).toInt := fun j hj => ((tkF6957 j (by omega)).1).symm
    have fvF6957 : ∀ j : Nat, j ≤ F6957.toNatClampNeg → (vV bt tp.toNatClampNeg) j = (fI H6911 vq j).toInt := fun j hj => ((tkF6957 j (by omega)).2).symm
    refine W.eq (g2 := F0 m 62 ls6904 []) rfl ?_
    refine lv_iconst (v := 0) hx hb dX9_text_62 (by decide) ?_
    refine lv_istore (lv' := [(5, .int 0), (4, .ref tx), (3, .int tp), (0, .ref a0), (1, .int x1), (2, .int x2)]) hx hb dX9_text_63 hl6905 (by decide) rfl (fun ls6958 hl6959 => ?_)
    have cn_x6916 := i_cl (x := x6916) bx6916.1
    have cn_x6912 := i_cl (x := x6912) bx6912.1
    have cn_x6917 := i_cl (x := x6917) bx6917.1
    have tw6960 : HD (x6915.toInt = 0 → TXW H6911 mw mf mj me ma mc md ms (kK bt tp.toNatClampNeg) (vV bt tp.toNatClampNeg) 0 x6916.toNatClampNeg x6912.toNatClampNeg x6917.toNatClampNeg) := HD.mk (fun h0 => TXW.nil (by omega) (by omega))
    have cn_F6957 := i_cl (x := F6957) (by omega)
    have z1_ : x6916.toNatClampNeg = 0 := by omega
    have z2_ : x6912.toNatClampNeg = 0 := by omega
    exact J65 ((17 - (0 : Int32).toInt).toNat + 1) F6957 ls6958 H6911 locsH6911 (0) (0) (x6912) (x6915) (x6916) (x6914) (x6917) (lv_sub hl6959 [3, 1, 0] rfl) hTH6911 hSH6911 (by decide) (by decide) bx6912 bx6916 bx6914 bx6917 (m6954).symm ex6912 ex6915 ex6916 ex6914 ex6917 m6934 m6935 m6936 m6937 m6938 m6918 m6919 m6920 m6922 m6923 m6924 m6925 m6926 m6927 m6928 m6921 m6939 m6940 m6941 m6942 m6943 m6944 m6945 m6946 m6947 m6948 m6949 m6950 m6951 m6952 m6953 f6930 f6931 f6932 f6933 (by omega) (by omega) (by omega) (by omega) mF6957 fkF6957 fvF6957 (HD.mk (fun _ => by rw [z1_, z2_]; rfl)) (HD.mk (fun h => by exfalso; omega)) tw6960
  · have k6909 := i_eq c6908
    exfalso
    omega
