set_option maxHeartbeats 4000000 in
set_option maxRecDepth 100000 in
theorem a_X9_countLost_v (l : Launch) (K : KE) (G : Nat → Option Nat) (H : Heap) {a0 : Nat} {smq : Nat} {w0 : Nat} {lawq : Nat} {tx : Nat} {bq : Nat} (fo : Int32) (sl : Int32) (s1 : Int32) (fsE : Nat → EF) (fwE : Nat → EF) (hT : TY K G H) (ga0 : G a0 = some 68) (gsmq : G smq = some 82) (esmq : @Eq Ad smq (fR H a0 (K.1.2 9 5))) (gw0 : G w0 = some 0) (ew0 : @Eq Ad w0 (fR H a0 (K.1.2 9 0))) (glawq : G lawq = some 26) (elawq : @Eq Ad lawq (fR H w0 (K.1.2 8 2))) (gtx : G tx = some 16) (etx : @Eq Ad tx (fR H lawq (fo : Int32).toNatClampNeg)) (gbq : G bq = some 25) (ebq : @Eq Ad bq (fR H w0 (K.1.2 8 0))) (efo : fo = fI H w0 (K.1.2 8 4)) (esl : sl = fI H w0 (K.1.2 8 5)) (es1 : s1 = fI H w0 (K.1.2 8 1)) (hp0 : 0 ≤ sl.toInt ∧ sl.toInt ≤ 9999) (hy0 : TXC K H tx 1 fsE fwE) (hy1 : ∀ j : Nat, j < 10 → (j : Int) < s1.toInt → GoV (vwC K H (fR H bq j))) : MX l K yX9_countLost cX9_countLost 3 (some .int) 5 126 0 0 [.ref a0] H (AE G [83, 84] H.size) (fun v H1 => ∃ (r : Int32), v = some (.int r) ∧ (0 ≤ r.toInt ∧ r.toInt ≤ 10) ∧ (r.toInt = cntB (fun j : Nat => lostW (tlC K H tx fsE fwE) (vwC K H (fR H bq j)) sl.toInt) s1.toNatClampNeg 0) ∧ TY K G H1) := by
  refine MX.of (by decide +kernel) (Nat.le_of_ble_eq_true rfl) ?_
  intro p e s m below meth c ls Q C hH hl hQ
  subst hH
  have C : CX p K s m _ meth c RX9 cX9_countLost 3 (some .int) "countLost" := C
  obtain ⟨hx, hb, hml, hown, hts, hKT, hr, hlocks, hnm⟩ := id C
  have hl : lv_has ls 3 [(0, .ref a0)] := hl
  have hS : va_S (AE G [83, 84] s.heap.size) s.heap s.heap [] := va_S.rf
  have n_0 : (0 : Int32).toInt = 0 := rfl
  have n_1 : (1 : Int32).toInt = 1 := rfl
  have bfo := ty_fi (x := fo) (k := 4) efo hT gw0 rg_0 rfl
  have bsl := ty_fi (x := sl) (k := 5) esl hT gw0 rg_0 rfl
  have bs1 := ty_fi (x := s1) (k := 1) es1 hT gw0 rg_0 rfl
  have f0_fr : FRM G s.heap s.heap := FRM.rf
  have J4 : ∀ (nf : Nat)  (ls858 : Array Slot) (H857 : Heap) (locsH857 : List Loc) (x860 : Int32) (x861 : Int32), lv_has ls858 3 [(0, .ref a0), (1, .int x860), (2, .int x861)] → TY K G H857 → va_S (AE G [83, 84] s.heap.size) s.heap H857 locsH857 → (0 ≤ x860.toInt ∧ x860.toInt ≤ 10) → (0 ≤ x861.toInt ∧ x861.toInt ≤ 10) → (@Eq Ad smq (fR H857 a0 (K.1.2 9 5))) → (@Eq Ad w0 (fR H857 a0 (K.1.2 9 0))) → (@Eq Ad lawq (fR H857 w0 (K.1.2 8 2))) → (@Eq Ad tx (fR H857 lawq (fo : Int32).toNatClampNeg)) → (@Eq Ad bq (fR H857 w0 (K.1.2 8 0))) → (fo = fI H857 w0 (K.1.2 8 4)) → (sl = fI H857 w0 (K.1.2 8 5)) → (s1 = fI H857 w0 (K.1.2 8 1)) → (FRM G H857 s.heap) → (10 - x861.toInt < (nf : Int)) → (x860.toInt ≤ x861.toInt ∧ x861.toInt ≤ s1.toInt) → (x860.toInt + cntB (fun j : Nat => lostW (tlC K s.heap tx fsE fwE) (vwC K s.heap (fR s.heap bq j)) sl.toInt) (s1.toNatClampNeg - x861.toNatClampNeg) x861.toNatClampNeg = cntB (fun j : Nat => lostW (tlC K s.heap tx fsE fwE) (vwC K s.heap (fR s.heap bq j)) sl.toInt) s1.toNatClampNeg 0) → W p l e ({ frames := 5, cells := 0, slots := 0, locals := 126 } : Room) s m (([.ref a0] : List Value).toArray) below meth c H857 locsH857 0 0 Q (F0 m 4 ls858 []) := by
    intro nf
    induction nf with
    | zero =>
      intro  ls858 H857 locsH857 x860 x861 hl859 hTH857 hSH857 bx860 bx861 cy862_0 cy862_1 cy862_2 cy862_3 cy862_4 cy862_5 cy862_6 cy862_7 fy862_fr hm4 iv4 hsp4
      exfalso
      omega
    | succ nf ih4 =>
      intro  ls858 H857 locsH857 x860 x861 hl859 hTH857 hSH857 bx860 bx861 cy862_0 cy862_1 cy862_2 cy862_3 cy862_4 cy862_5 cy862_6 cy862_7 fy862_fr hm4 iv4 hsp4
      refine lv_iload_n hx hb dX9_countLost_4 rfl (lv_at hl859 2 rfl) ?_
      refine lv_aload_n hx hb dX9_countLost_5 rfl (lv_at hl859 0 rfl) ?_
      refine x_gr C hTH857 (ci := 9) (k := 0) rfl inX9 (by decide) wF_X9_12 ga0 rg_68 rfl dX9_countLost_6 (fun q863 eq863 gq863 => ?_)
      have uq863 : w0 = q863 := (cy862_1).trans eq863.symm
      subst uq863
      refine x_gi C hTH857 (ci := 8) (k := 1) rfl inX8 (by decide) wF_X9_64 gw0 rg_0 rfl dX9_countLost_9 (fun x864 ex864 bx864 => ?_)
      have ux864 : s1 = x864 := (cy862_7).trans ex864.symm
      subst ux864
      refine lv_icmp_ge (tgt := 45) hx hb dX9_countLost_12 (by decide) (fun c865 => ?_) (fun c865 => ?_)
      · have k866 := i_le c865
        refine lv_iload_n hx hb dX9_countLost_45 rfl (lv_at hl859 1 rfl) ?_
        have cn_x861 := i_cl (x := x861) bx861.1
        have cn_s1 := i_cl (x := s1) (by omega)
        exact x_iret C hQ dX9_countLost_46 hSH857 (by decide) (by decide) (⟨x860, rfl, by omega, (by have z := cntB_0 (f := (fun j : Nat => lostW (tlC K s.heap tx fsE fwE) (vwC K s.heap (fR s.heap bq j)) sl.toInt)) (n := s1.toNatClampNeg - x861.toNatClampNeg) (k := x861.toNatClampNeg) (by omega); omega), hTH857⟩)
      · have k866 := i_nle c865
        refine lv_iload_n hx hb dX9_countLost_15 rfl (lv_at hl859 1 rfl) ?_
        refine lv_aload_n hx hb dX9_countLost_16 rfl (lv_at hl859 0 rfl) ?_
        refine lv_aload_n hx hb dX9_countLost_17 rfl (lv_at hl859 0 rfl) ?_
        refine x_gr C hTH857 (ci := 9) (k := 0) rfl inX9 (by decide) wF_X9_12 ga0 rg_68 rfl dX9_countLost_18 (fun q867 eq867 gq867 => ?_)
        have uq867 : w0 = q867 := (cy862_1).trans eq867.symm
        subst uq867
        refine x_gr C hTH857 (ci := 8) (k := 0) rfl inX8 (by decide) wF_X9_68 gw0 rg_0 rfl dX9_countLost_21 (fun q868 eq868 gq868 => ?_)
        have uq868 : bq = q868 := (cy862_4).trans eq868.symm
        subst uq868
        refine lv_iload_n hx hb dX9_countLost_24 rfl (lv_at hl859 2 rfl) ?_
        refine x_ar C hTH857 rfl rfl gbq rg_25 ⟨bx861.1, by show _ < ((10 : Nat) : Int); omega⟩ dX9_countLost_25 (fun q869 eq869 gq869 => ?_)
        replace eq869 : @Eq Ad q869 (fR H857 bq (x861 : Int32).toNatClampNeg) := eq869
        obtain ⟨q870, eq870⟩ : ∃ z : Nat, @Eq Ad z (fR H857 q869 (K.1.2 0 5)) := ⟨_, rfl⟩
        have gq870 := ty_fr (q := q870) (k := 5) (u := 6) eq870 hTH857 gq869 rg_1 rfl
        have cn_x861 := i_cl (x := x861) bx861.1
        refine x_V (As := [.ref q869]) (rest := [.int x860]) C (a_X9_isLost_v l K G H857 (fo) (sl) (fsE) (fwE) hTH857 ga0 gq869 gsmq cy862_0 gw0 cy862_1 glawq cy862_2 gtx cy862_3 gq870 eq870 cy862_5 cy862_6 (by omega) ((TXC.frm hT gtx (FRM.tx fy862_fr) hy0)) (fun j hj => by have z := (hy1 x861.toNatClampNeg (by omega) (by omega)).1 j hj; rw [show fR s.heap bq x861.toNatClampNeg = q869 from ((FRM.R fy862_fr gbq (by decide) (by decide)).symm.trans eq869.symm), ← vw_frm hT gq869 fy862_fr, vwC_a (k := 5) (by decide)] at z; rw [eq870]; exact z)) yo_X9_isLost wM_X9_190 ⟨⟨by decide, by decide⟩, by decide, by decide⟩ (x_rv C hTH857 (ci := 9) rfl ga0 rg_68) rfl hl859.1 rfl (Nat.le_of_ble_eq_true rfl) dX9_countLost_26 hSH857 (AE_sub (fun _ _ => rfl) (by decide) hSH857.1) (fun vH871 H871 locsH871 pH871 zH871 kH871 hSH871 => ?_)
        obtain ⟨x872, hvH871, bx872, m873, hTH871⟩ := pH871
        subst hvH871
        have f874 : FRM G H871 s.heap := (fun q t hq h1 h2 => (x_lt hTH857 kH871 hq (nm2 h1 (nm2 h2 nm0))).trans (fy862_fr q t hq h1 h2))
        have m875 := (cy862_0).trans (fR_kept (x_lt hTH857 kH871 ga0 (by decide))).symm
        have m876 := (cy862_1).trans (fR_kept (x_lt hTH857 kH871 ga0 (by decide))).symm
        have m877 := (cy862_2).trans (fR_kept (x_lt hTH857 kH871 gw0 (by decide))).symm
        have m878 := (cy862_3).trans (fR_kept (x_lt hTH857 kH871 glawq (by decide))).symm
        have m879 := (cy862_4).trans (fR_kept (x_lt hTH857 kH871 gw0 (by decide))).symm
        have m880 := (cy862_5).trans (fI_kept (x_lt hTH857 kH871 gw0 (by decide))).symm
        have m881 := (cy862_6).trans (fI_kept (x_lt hTH857 kH871 gw0 (by decide))).symm
        have m882 := (cy862_7).trans (fI_kept (x_lt hTH857 kH871 gw0 (by decide))).symm
        have m883 := (eq870).trans (fR_kept (x_lt hTH857 kH871 gq869 (by decide))).symm
        have lw884 : lostW (tlC K s.heap tx fsE fwE) (vwC K s.heap (fR s.heap bq x861.toNatClampNeg)) sl.toInt = decide (x872.toInt = 1) := by
          rw [show fR s.heap bq x861.toNatClampNeg = q869 from ((FRM.R fy862_fr gbq (by decide) (by decide)).symm.trans eq869.symm), ← tlC_frm hT gtx (FRM.tx fy862_fr), ← vw_frm hT gq869 fy862_fr, lost_tn]
          show loV _ (fun j => (fI H857 (fR H857 q869 (K.1.2 0 5)) j).toInt) _ _ _ = _
          rw [← eq870]
          exact m873
        refine W.eq (g2 := F0 m 29 ls858 [.int x872, .int x860]) rfl ?_
        refine lv_if_eq (tgt := 36) hx hb dX9_countLost_29 (by decide) (fun c885 => ?_) (fun c885 => ?_)
        · have k886 := i_eq c885
          refine lv_iconst (v := 0) hx hb dX9_countLost_36 (by decide) ?_
          refine lv_iadd hx hb dX9_countLost_37 ?_
          refine lv_topi (fun x887 ex887 => ?_)
          have tx887 := i_add ex887 (by omega)
          refine lv_istore_n (lv' := [(1, .int x887), (0, .ref a0), (2, .int x861)]) hx hb dX9_countLost_38 rfl hl859 (by decide) rfl (fun ls888 hl889 => ?_)
          obtain ⟨x890, ex890⟩ : ∃ y : Int32, y = x861 + 1 := ⟨_, rfl⟩
          have tx890 := i_add ex890 (by omega)
          refine lv_iinc (v := x890) (lv' := [(2, .int x890), (1, .int x887), (0, .ref a0)]) hx hb dX9_countLost_39 hl889 (k := 2) rfl (by rw [ex890]; rfl) (by decide) rfl (fun ls891 hl892 => ?_)
          refine lv_goto (tgt := 4) hx hb dX9_countLost_42 (by decide) ?_
          have cn_x861 := i_cl (x := x861) bx861.1
          have cn_x890 := i_cl (x := x890) (by omega)
          have cn_s1 := i_cl (x := s1) (by omega)
          exact ih4  ls891 H871 locsH871 (x887) (x890) (lv_sub hl892 [2, 1, 0] rfl) hTH871 hSH871 (by have := i_rng x887; omega) (by have := i_rng x890; omega) m875 m876 m877 m878 m879 m880 m881 m882 f874 (by omega) (by omega) (by first | (have z := cntB_y (f := (fun j : Nat => lostW (tlC K s.heap tx fsE fwE) (vwC K s.heap (fR s.heap bq j)) sl.toInt)) (n := s1.toNatClampNeg - x861.toNatClampNeg) (m := s1.toNatClampNeg - x890.toNatClampNeg) (k := x861.toNatClampNeg) (k2 := x890.toNatClampNeg) (by omega) (by omega) (lw884.trans (decide_eq_true (by omega))); omega) | (have z := cntB_n (f := (fun j : Nat => lostW (tlC K s.heap tx fsE fwE) (vwC K s.heap (fR s.heap bq j)) sl.toInt)) (n := s1.toNatClampNeg - x861.toNatClampNeg) (m := s1.toNatClampNeg - x890.toNatClampNeg) (k := x861.toNatClampNeg) (k2 := x890.toNatClampNeg) (by omega) (by omega) (lw884.trans (decide_eq_false (by omega))); omega))
        · have k886 := i_ne c885
          refine lv_iconst (v := 1) hx hb dX9_countLost_32 (by decide) ?_
          refine lv_goto (tgt := 37) hx hb dX9_countLost_33 (by decide) ?_
          refine lv_iadd hx hb dX9_countLost_37 ?_
          refine lv_topi (fun x893 ex893 => ?_)
          have tx893 := i_add ex893 (by omega)
          refine lv_istore_n (lv' := [(1, .int x893), (0, .ref a0), (2, .int x861)]) hx hb dX9_countLost_38 rfl hl859 (by decide) rfl (fun ls894 hl895 => ?_)
          obtain ⟨x896, ex896⟩ : ∃ y : Int32, y = x861 + 1 := ⟨_, rfl⟩
          have tx896 := i_add ex896 (by omega)
          refine lv_iinc (v := x896) (lv' := [(2, .int x896), (1, .int x893), (0, .ref a0)]) hx hb dX9_countLost_39 hl895 (k := 2) rfl (by rw [ex896]; rfl) (by decide) rfl (fun ls897 hl898 => ?_)
          refine lv_goto (tgt := 4) hx hb dX9_countLost_42 (by decide) ?_
          have cn_x861 := i_cl (x := x861) bx861.1
          have cn_x896 := i_cl (x := x896) (by omega)
          have cn_s1 := i_cl (x := s1) (by omega)
          exact ih4  ls897 H871 locsH871 (x893) (x896) (lv_sub hl898 [2, 1, 0] rfl) hTH871 hSH871 (by have := i_rng x893; omega) (by have := i_rng x896; omega) m875 m876 m877 m878 m879 m880 m881 m882 f874 (by omega) (by omega) (by first | (have z := cntB_y (f := (fun j : Nat => lostW (tlC K s.heap tx fsE fwE) (vwC K s.heap (fR s.heap bq j)) sl.toInt)) (n := s1.toNatClampNeg - x861.toNatClampNeg) (m := s1.toNatClampNeg - x896.toNatClampNeg) (k := x861.toNatClampNeg) (k2 := x896.toNatClampNeg) (by omega) (by omega) (lw884.trans (decide_eq_true (by omega))); omega) | (have z := cntB_n (f := (fun j : Nat => lostW (tlC K s.heap tx fsE fwE) (vwC K s.heap (fR s.heap bq j)) sl.toInt)) (n := s1.toNatClampNeg - x861.toNatClampNeg) (m := s1.toNatClampNeg - x896.toNatClampNeg) (k := x861.toNatClampNeg) (k2 := x896.toNatClampNeg) (by omega) (by omega) (lw884.trans (decide_eq_false (by omega))); omega))
  refine lv_iconst (v := 0) hx hb dX9_countLost_0 (by decide) ?_
  refine lv_istore_n (lv' := [(1, .int 0), (0, .ref a0)]) hx hb dX9_countLost_1 rfl hl (by decide) rfl (fun ls899 hl900 => ?_)
  refine lv_iconst (v := 0) hx hb dX9_countLost_2 (by decide) ?_
  refine lv_istore_n (lv' := [(2, .int 0), (1, .int 0), (0, .ref a0)]) hx hb dX9_countLost_3 rfl hl900 (by decide) rfl (fun ls901 hl902 => ?_)
  exact J4 ((10 - (0 : Int32).toInt).toNat + 1)  ls901 s.heap [] (0) (0) (lv_sub hl902 [2, 1, 0] rfl) hT hS (by decide) (by decide) esmq ew0 elawq etx ebq efo esl es1 f0_fr (by omega) (by omega) (by rw [n_0, Int.zero_add]; rfl)

set_option maxHeartbeats 4000000 in
set_option maxRecDepth 100000 in
theorem a_X9_countTrue_v (l : Launch) (K : KE) (G : Nat → Option Nat) (H : Heap) {a0 : Nat} {smq : Nat} {w0 : Nat} {lawq : Nat} {tx : Nat} {bq : Nat} (fo : Int32) (sl : Int32) (s1 : Int32) (fsE : Nat → EF) (fwE : Nat → EF) (hT : TY K G H) (ga0 : G a0 = some 68) (gsmq : G smq = some 82) (esmq : @Eq Ad smq (fR H a0 (K.1.2 9 5))) (gw0 : G w0 = some 0) (ew0 : @Eq Ad w0 (fR H a0 (K.1.2 9 0))) (glawq : G lawq = some 26) (elawq : @Eq Ad lawq (fR H w0 (K.1.2 8 2))) (gtx : G tx = some 16) (etx : @Eq Ad tx (fR H lawq (fo : Int32).toNatClampNeg)) (gbq : G bq = some 25) (ebq : @Eq Ad bq (fR H w0 (K.1.2 8 0))) (efo : fo = fI H w0 (K.1.2 8 4)) (esl : sl = fI H w0 (K.1.2 8 5)) (es1 : s1 = fI H w0 (K.1.2 8 1)) (hp0 : 0 ≤ sl.toInt ∧ sl.toInt ≤ 9999) (hy0 : TXC K H tx 1 fsE fwE) (hy1 : ∀ j : Nat, j < 10 → (j : Int) < s1.toInt → GoV (vwC K H (fR H bq j))) : MX l K yX9_countTrue cX9_countTrue 3 (some .int) 6 148 0 0 [.ref a0] H (AE G [83, 84] H.size) (fun v H1 => ∃ (r : Int32), v = some (.int r) ∧ (0 ≤ r.toInt ∧ r.toInt ≤ 10) ∧ (r.toInt = cntB (fun j : Nat => trueW (tlC K H tx fsE fwE) (vwC K H (fR H bq j)) sl.toInt) s1.toNatClampNeg 0) ∧ TY K G H1) := by
  refine MX.of (by decide +kernel) (Nat.le_of_ble_eq_true rfl) ?_
  intro p e s m below meth c ls Q C hH hl hQ
  subst hH
  have C : CX p K s m _ meth c RX9 cX9_countTrue 3 (some .int) "countTrue" := C
  obtain ⟨hx, hb, hml, hown, hts, hKT, hr, hlocks, hnm⟩ := id C
  have hl : lv_has ls 3 [(0, .ref a0)] := hl
  have hS : va_S (AE G [83, 84] s.heap.size) s.heap s.heap [] := va_S.rf
  have n_0 : (0 : Int32).toInt = 0 := rfl
  have n_1 : (1 : Int32).toInt = 1 := rfl
  have bfo := ty_fi (x := fo) (k := 4) efo hT gw0 rg_0 rfl
  have bsl := ty_fi (x := sl) (k := 5) esl hT gw0 rg_0 rfl
  have bs1 := ty_fi (x := s1) (k := 1) es1 hT gw0 rg_0 rfl
  have f0_fr : FRM G s.heap s.heap := FRM.rf
  have J4 : ∀ (nf : Nat)  (ls858 : Array Slot) (H857 : Heap) (locsH857 : List Loc) (x860 : Int32) (x861 : Int32), lv_has ls858 3 [(0, .ref a0), (1, .int x860), (2, .int x861)] → TY K G H857 → va_S (AE G [83, 84] s.heap.size) s.heap H857 locsH857 → (0 ≤ x860.toInt ∧ x860.toInt ≤ 10) → (0 ≤ x861.toInt ∧ x861.toInt ≤ 10) → (@Eq Ad smq (fR H857 a0 (K.1.2 9 5))) → (@Eq Ad w0 (fR H857 a0 (K.1.2 9 0))) → (@Eq Ad lawq (fR H857 w0 (K.1.2 8 2))) → (@Eq Ad tx (fR H857 lawq (fo : Int32).toNatClampNeg)) → (@Eq Ad bq (fR H857 w0 (K.1.2 8 0))) → (fo = fI H857 w0 (K.1.2 8 4)) → (sl = fI H857 w0 (K.1.2 8 5)) → (s1 = fI H857 w0 (K.1.2 8 1)) → (FRM G H857 s.heap) → (10 - x861.toInt < (nf : Int)) → (x860.toInt ≤ x861.toInt ∧ x861.toInt ≤ s1.toInt) → (x860.toInt + cntB (fun j : Nat => trueW (tlC K s.heap tx fsE fwE) (vwC K s.heap (fR s.heap bq j)) sl.toInt) (s1.toNatClampNeg - x861.toNatClampNeg) x861.toNatClampNeg = cntB (fun j : Nat => trueW (tlC K s.heap tx fsE fwE) (vwC K s.heap (fR s.heap bq j)) sl.toInt) s1.toNatClampNeg 0) → W p l e ({ frames := 6, cells := 0, slots := 0, locals := 148 } : Room) s m (([.ref a0] : List Value).toArray) below meth c H857 locsH857 0 0 Q (F0 m 4 ls858 []) := by
    intro nf
    induction nf with
    | zero =>
      intro  ls858 H857 locsH857 x860 x861 hl859 hTH857 hSH857 bx860 bx861 cy862_0 cy862_1 cy862_2 cy862_3 cy862_4 cy862_5 cy862_6 cy862_7 fy862_fr hm4 iv4 hsp4
      exfalso
      omega
    | succ nf ih4 =>
      intro  ls858 H857 locsH857 x860 x861 hl859 hTH857 hSH857 bx860 bx861 cy862_0 cy862_1 cy862_2 cy862_3 cy862_4 cy862_5 cy862_6 cy862_7 fy862_fr hm4 iv4 hsp4
      refine lv_iload_n hx hb dX9_countTrue_4 rfl (lv_at hl859 2 rfl) ?_
      refine lv_aload_n hx hb dX9_countTrue_5 rfl (lv_at hl859 0 rfl) ?_
      refine x_gr C hTH857 (ci := 9) (k := 0) rfl inX9 (by decide) wF_X9_12 ga0 rg_68 rfl dX9_countTrue_6 (fun q863 eq863 gq863 => ?_)
      have uq863 : w0 = q863 := (cy862_1).trans eq863.symm
      subst uq863
      refine x_gi C hTH857 (ci := 8) (k := 1) rfl inX8 (by decide) wF_X9_64 gw0 rg_0 rfl dX9_countTrue_9 (fun x864 ex864 bx864 => ?_)
      have ux864 : s1 = x864 := (cy862_7).trans ex864.symm
      subst ux864
      refine lv_icmp_ge (tgt := 45) hx hb dX9_countTrue_12 (by decide) (fun c865 => ?_) (fun c865 => ?_)
      · have k866 := i_le c865
        refine lv_iload_n hx hb dX9_countTrue_45 rfl (lv_at hl859 1 rfl) ?_
        have cn_x861 := i_cl (x := x861) bx861.1
        have cn_s1 := i_cl (x := s1) (by omega)
        exact x_iret C hQ dX9_countTrue_46 hSH857 (by decide) (by decide) (⟨x860, rfl, by omega, (by have z := cntB_0 (f := (fun j : Nat => trueW (tlC K s.heap tx fsE fwE) (vwC K s.heap (fR s.heap bq j)) sl.toInt)) (n := s1.toNatClampNeg - x861.toNatClampNeg) (k := x861.toNatClampNeg) (by omega); omega), hTH857⟩)
      · have k866 := i_nle c865
        refine lv_iload_n hx hb dX9_countTrue_15 rfl (lv_at hl859 1 rfl) ?_
        refine lv_aload_n hx hb dX9_countTrue_16 rfl (lv_at hl859 0 rfl) ?_
        refine lv_aload_n hx hb dX9_countTrue_17 rfl (lv_at hl859 0 rfl) ?_
        refine x_gr C hTH857 (ci := 9) (k := 0) rfl inX9 (by decide) wF_X9_12 ga0 rg_68 rfl dX9_countTrue_18 (fun q867 eq867 gq867 => ?_)
        have uq867 : w0 = q867 := (cy862_1).trans eq867.symm
        subst uq867
        refine x_gr C hTH857 (ci := 8) (k := 0) rfl inX8 (by decide) wF_X9_68 gw0 rg_0 rfl dX9_countTrue_21 (fun q868 eq868 gq868 => ?_)
        have uq868 : bq = q868 := (cy862_4).trans eq868.symm
        subst uq868
        refine lv_iload_n hx hb dX9_countTrue_24 rfl (lv_at hl859 2 rfl) ?_
        refine x_ar C hTH857 rfl rfl gbq rg_25 ⟨bx861.1, by show _ < ((10 : Nat) : Int); omega⟩ dX9_countTrue_25 (fun q869 eq869 gq869 => ?_)
        replace eq869 : @Eq Ad q869 (fR H857 bq (x861 : Int32).toNatClampNeg) := eq869
        obtain ⟨q870, eq870⟩ : ∃ z : Nat, @Eq Ad z (fR H857 q869 (K.1.2 0 5)) := ⟨_, rfl⟩
        have gq870 := ty_fr (q := q870) (k := 5) (u := 6) eq870 hTH857 gq869 rg_1 rfl
        have cn_x861 := i_cl (x := x861) bx861.1
        refine x_V (As := [.ref q869]) (rest := [.int x860]) C (a_X9_isTrue_v l K G H857 (fo) (sl) (fsE) (fwE) hTH857 ga0 gq869 gsmq cy862_0 gw0 cy862_1 glawq cy862_2 gtx cy862_3 gq870 eq870 cy862_5 cy862_6 (by omega) ((TXC.frm hT gtx (FRM.tx fy862_fr) hy0)) (fun j hj => by have z := (hy1 x861.toNatClampNeg (by omega) (by omega)).1 j hj; rw [show fR s.heap bq x861.toNatClampNeg = q869 from ((FRM.R fy862_fr gbq (by decide) (by decide)).symm.trans eq869.symm), ← vw_frm hT gq869 fy862_fr, vwC_a (k := 5) (by decide)] at z; rw [eq870]; exact z)) yo_X9_isTrue wM_X9_194 ⟨⟨by decide, by decide⟩, by decide, by decide⟩ (x_rv C hTH857 (ci := 9) rfl ga0 rg_68) rfl hl859.1 rfl (Nat.le_of_ble_eq_true rfl) dX9_countTrue_26 hSH857 (AE_sub (fun _ _ => rfl) (by decide) hSH857.1) (fun vH871 H871 locsH871 pH871 zH871 kH871 hSH871 => ?_)
        obtain ⟨x872, hvH871, bx872, m873, hTH871⟩ := pH871
        subst hvH871
        have f874 : FRM G H871 s.heap := (fun q t hq h1 h2 => (x_lt hTH857 kH871 hq (nm2 h1 (nm2 h2 nm0))).trans (fy862_fr q t hq h1 h2))
        have m875 := (cy862_0).trans (fR_kept (x_lt hTH857 kH871 ga0 (by decide))).symm
        have m876 := (cy862_1).trans (fR_kept (x_lt hTH857 kH871 ga0 (by decide))).symm
        have m877 := (cy862_2).trans (fR_kept (x_lt hTH857 kH871 gw0 (by decide))).symm
        have m878 := (cy862_3).trans (fR_kept (x_lt hTH857 kH871 glawq (by decide))).symm
        have m879 := (cy862_4).trans (fR_kept (x_lt hTH857 kH871 gw0 (by decide))).symm
        have m880 := (cy862_5).trans (fI_kept (x_lt hTH857 kH871 gw0 (by decide))).symm
        have m881 := (cy862_6).trans (fI_kept (x_lt hTH857 kH871 gw0 (by decide))).symm
        have m882 := (cy862_7).trans (fI_kept (x_lt hTH857 kH871 gw0 (by decide))).symm
        have m883 := (eq870).trans (fR_kept (x_lt hTH857 kH871 gq869 (by decide))).symm
        have lw884 : trueW (tlC K s.heap tx fsE fwE) (vwC K s.heap (fR s.heap bq x861.toNatClampNeg)) sl.toInt = decide (x872.toInt = 1) := by
          rw [show fR s.heap bq x861.toNatClampNeg = q869 from ((FRM.R fy862_fr gbq (by decide) (by decide)).symm.trans eq869.symm), ← tlC_frm hT gtx (FRM.tx fy862_fr), ← vw_frm hT gq869 fy862_fr, true_tn]
          show trV _ (fun j => (fI H857 (fR H857 q869 (K.1.2 0 5)) j).toInt) _ _ _ = _
          rw [← eq870]
          exact m873
        refine W.eq (g2 := F0 m 29 ls858 [.int x872, .int x860]) rfl ?_
        refine lv_if_eq (tgt := 36) hx hb dX9_countTrue_29 (by decide) (fun c885 => ?_) (fun c885 => ?_)
        · have k886 := i_eq c885
          refine lv_iconst (v := 0) hx hb dX9_countTrue_36 (by decide) ?_
          refine lv_iadd hx hb dX9_countTrue_37 ?_
          refine lv_topi (fun x887 ex887 => ?_)
          have tx887 := i_add ex887 (by omega)
          refine lv_istore_n (lv' := [(1, .int x887), (0, .ref a0), (2, .int x861)]) hx hb dX9_countTrue_38 rfl hl859 (by decide) rfl (fun ls888 hl889 => ?_)
          obtain ⟨x890, ex890⟩ : ∃ y : Int32, y = x861 + 1 := ⟨_, rfl⟩
          have tx890 := i_add ex890 (by omega)
          refine lv_iinc (v := x890) (lv' := [(2, .int x890), (1, .int x887), (0, .ref a0)]) hx hb dX9_countTrue_39 hl889 (k := 2) rfl (by rw [ex890]; rfl) (by decide) rfl (fun ls891 hl892 => ?_)
          refine lv_goto (tgt := 4) hx hb dX9_countTrue_42 (by decide) ?_
          have cn_x861 := i_cl (x := x861) bx861.1
          have cn_x890 := i_cl (x := x890) (by omega)
          have cn_s1 := i_cl (x := s1) (by omega)
          exact ih4  ls891 H871 locsH871 (x887) (x890) (lv_sub hl892 [2, 1, 0] rfl) hTH871 hSH871 (by have := i_rng x887; omega) (by have := i_rng x890; omega) m875 m876 m877 m878 m879 m880 m881 m882 f874 (by omega) (by omega) (by first | (have z := cntB_y (f := (fun j : Nat => trueW (tlC K s.heap tx fsE fwE) (vwC K s.heap (fR s.heap bq j)) sl.toInt)) (n := s1.toNatClampNeg - x861.toNatClampNeg) (m := s1.toNatClampNeg - x890.toNatClampNeg) (k := x861.toNatClampNeg) (k2 := x890.toNatClampNeg) (by omega) (by omega) (lw884.trans (decide_eq_true (by omega))); omega) | (have z := cntB_n (f := (fun j : Nat => trueW (tlC K s.heap tx fsE fwE) (vwC K s.heap (fR s.heap bq j)) sl.toInt)) (n := s1.toNatClampNeg - x861.toNatClampNeg) (m := s1.toNatClampNeg - x890.toNatClampNeg) (k := x861.toNatClampNeg) (k2 := x890.toNatClampNeg) (by omega) (by omega) (lw884.trans (decide_eq_false (by omega))); omega))
        · have k886 := i_ne c885
          refine lv_iconst (v := 1) hx hb dX9_countTrue_32 (by decide) ?_
          refine lv_goto (tgt := 37) hx hb dX9_countTrue_33 (by decide) ?_
          refine lv_iadd hx hb dX9_countTrue_37 ?_
          refine lv_topi (fun x893 ex893 => ?_)
          have tx893 := i_add ex893 (by omega)
          refine lv_istore_n (lv' := [(1, .int x893), (0, .ref a0), (2, .int x861)]) hx hb dX9_countTrue_38 rfl hl859 (by decide) rfl (fun ls894 hl895 => ?_)
          obtain ⟨x896, ex896⟩ : ∃ y : Int32, y = x861 + 1 := ⟨_, rfl⟩
          have tx896 := i_add ex896 (by omega)
          refine lv_iinc (v := x896) (lv' := [(2, .int x896), (1, .int x893), (0, .ref a0)]) hx hb dX9_countTrue_39 hl895 (k := 2) rfl (by rw [ex896]; rfl) (by decide) rfl (fun ls897 hl898 => ?_)
          refine lv_goto (tgt := 4) hx hb dX9_countTrue_42 (by decide) ?_
          have cn_x861 := i_cl (x := x861) bx861.1
          have cn_x896 := i_cl (x := x896) (by omega)
          have cn_s1 := i_cl (x := s1) (by omega)
          exact ih4  ls897 H871 locsH871 (x893) (x896) (lv_sub hl898 [2, 1, 0] rfl) hTH871 hSH871 (by have := i_rng x893; omega) (by have := i_rng x896; omega) m875 m876 m877 m878 m879 m880 m881 m882 f874 (by omega) (by omega) (by first | (have z := cntB_y (f := (fun j : Nat => trueW (tlC K s.heap tx fsE fwE) (vwC K s.heap (fR s.heap bq j)) sl.toInt)) (n := s1.toNatClampNeg - x861.toNatClampNeg) (m := s1.toNatClampNeg - x896.toNatClampNeg) (k := x861.toNatClampNeg) (k2 := x896.toNatClampNeg) (by omega) (by omega) (lw884.trans (decide_eq_true (by omega))); omega) | (have z := cntB_n (f := (fun j : Nat => trueW (tlC K s.heap tx fsE fwE) (vwC K s.heap (fR s.heap bq j)) sl.toInt)) (n := s1.toNatClampNeg - x861.toNatClampNeg) (m := s1.toNatClampNeg - x896.toNatClampNeg) (k := x861.toNatClampNeg) (k2 := x896.toNatClampNeg) (by omega) (by omega) (lw884.trans (decide_eq_false (by omega))); omega))
  refine lv_iconst (v := 0) hx hb dX9_countTrue_0 (by decide) ?_
  refine lv_istore_n (lv' := [(1, .int 0), (0, .ref a0)]) hx hb dX9_countTrue_1 rfl hl (by decide) rfl (fun ls899 hl900 => ?_)
  refine lv_iconst (v := 0) hx hb dX9_countTrue_2 (by decide) ?_
  refine lv_istore_n (lv' := [(2, .int 0), (1, .int 0), (0, .ref a0)]) hx hb dX9_countTrue_3 rfl hl900 (by decide) rfl (fun ls901 hl902 => ?_)
  exact J4 ((10 - (0 : Int32).toInt).toNat + 1)  ls901 s.heap [] (0) (0) (lv_sub hl902 [2, 1, 0] rfl) hT hS (by decide) (by decide) esmq ew0 elawq etx ebq efo esl es1 f0_fr (by omega) (by omega) (by rw [n_0, Int.zero_add]; rfl)

set_option maxHeartbeats 4000000 in
set_option maxRecDepth 100000 in
theorem a_X9_look_v (l : Launch) (K : KE) (G : Nat → Option Nat) (H : Heap) {a0 : Nat} (x1 : Int32) {smq : Nat} {w0 : Nat} {lawq : Nat} {tx : Nat} {bq : Nat} (fo : Int32) (sl : Int32) (s1 : Int32) (s10 : Int32) (s13 : Int32) (s16 : Int32) (fsE : Nat → EF) (fwE : Nat → EF) (hT : TY K G H) (ga0 : G a0 = some 68) (gsmq : G smq = some 82) (esmq : @Eq Ad smq (fR H a0 (K.1.2 9 5))) (gw0 : G w0 = some 0) (ew0 : @Eq Ad w0 (fR H a0 (K.1.2 9 0))) (glawq : G lawq = some 26) (elawq : @Eq Ad lawq (fR H w0 (K.1.2 8 2))) (gtx : G tx = some 16) (etx : @Eq Ad tx (fR H lawq (fo : Int32).toNatClampNeg)) (gbq : G bq = some 25) (ebq : @Eq Ad bq (fR H w0 (K.1.2 8 0))) (efo : fo = fI H w0 (K.1.2 8 4)) (esl : sl = fI H w0 (K.1.2 8 5)) (es1 : s1 = fI H w0 (K.1.2 8 1)) (es10 : s10 = fI H w0 (K.1.2 8 10)) (es13 : s13 = fI H w0 (K.1.2 8 13)) (es16 : s16 = fI H w0 (K.1.2 8 16)) (hp0 : 0 ≤ sl.toInt ∧ sl.toInt ≤ 9999) (hy0 : TXC K H tx 1 fsE fwE) (hy1 : ∀ j : Nat, j < 10 → (j : Int) < s1.toInt → GoV (vwC K H (fR H bq j))) : MX l K yX9_look cX9_look 2 (some .int) 7 170 0 0 [.ref a0, .int x1] H (AE G [83, 84] H.size) (fun v H1 => ∃ (r : Int32), v = some (.int r) ∧ ((x1.toInt = 0 ∧ r.toInt = s1.toInt) ∨ (x1.toInt = 1 ∧ r.toInt = s10.toInt) ∨ (x1.toInt = 2 ∧ r.toInt = s13.toInt) ∨ (x1.toInt = 3 ∧ r.toInt = s16.toInt) ∨ (x1.toInt = 4 ∧ r.toInt = sl.toInt) ∨ (x1.toInt = 5 ∧ r.toInt = fo.toInt) ∨ (x1.toInt = 6 ∧ r.toInt = cntB (fun j : Nat => lostW (tlC K H tx fsE fwE) (vwC K H (fR H bq j)) sl.toInt) s1.toNatClampNeg 0) ∨ (x1.toInt = 7 ∧ r.toInt = cntB (fun j : Nat => trueW (tlC K H tx fsE fwE) (vwC K H (fR H bq j)) sl.toInt) s1.toNatClampNeg 0) ∨ ((x1.toInt < 0 ∨ 7 < x1.toInt) ∧ r.toInt = -1)) ∧ TY K G H1) := by
  refine MX.of (by decide +kernel) (Nat.le_of_ble_eq_true rfl) ?_
  intro p e s m below meth c ls Q C hH hl hQ
  subst hH
  have C : CX p K s m _ meth c RX9 cX9_look 2 (some .int) "look" := C
  obtain ⟨hx, hb, hml, hown, hts, hKT, hr, hlocks, hnm⟩ := id C
  have hl : lv_has ls 2 [(0, .ref a0), (1, .int x1)] := hl
  have hS : va_S (AE G [83, 84] s.heap.size) s.heap s.heap [] := va_S.rf
  have n_m1 : ((-1) : Int32).toInt = -1 := rfl
  have n_0 : (0 : Int32).toInt = 0 := rfl
  have n_1 : (1 : Int32).toInt = 1 := rfl
  have n_2 : (2 : Int32).toInt = 2 := rfl
  have n_3 : (3 : Int32).toInt = 3 := rfl
  have n_4 : (4 : Int32).toInt = 4 := rfl
  have n_5 : (5 : Int32).toInt = 5 := rfl
  have n_6 : (6 : Int32).toInt = 6 := rfl
  have n_7 : (7 : Int32).toInt = 7 := rfl
  have bfo := ty_fi (x := fo) (k := 4) efo hT gw0 rg_0 rfl
  have bsl := ty_fi (x := sl) (k := 5) esl hT gw0 rg_0 rfl
  have bs1 := ty_fi (x := s1) (k := 1) es1 hT gw0 rg_0 rfl
  have bs10 := ty_fi (x := s10) (k := 10) es10 hT gw0 rg_0 rfl
  have bs13 := ty_fi (x := s13) (k := 13) es13 hT gw0 rg_0 rfl
  have bs16 := ty_fi (x := s16) (k := 16) es16 hT gw0 rg_0 rfl
  refine lv_iload_n hx hb dX9_look_0 rfl (lv_at hl 1 rfl) ?_
  by_cases c293 : x1 = 0
  · have kc293 := i_eq c293
    refine lv_tableIn (tgt := 48) hx hb dX9_look_1 (by omega) (by omega) (off := 47) (by rw [c293]; rfl) (by decide) ?_
    refine lv_aload_n hx hb dX9_look_48 rfl (lv_at hl 0 rfl) ?_
    refine x_gr C hT (ci := 9) (k := 0) rfl inX9 (by decide) wF_X9_12 ga0 rg_68 rfl dX9_look_49 (fun q294 eq294 gq294 => ?_)
    have uq294 : w0 = q294 := (ew0).trans eq294.symm
    subst uq294
    refine x_gi C hT (ci := 8) (k := 1) rfl inX8 (by decide) wF_X9_64 gw0 rg_0 rfl dX9_look_52 (fun x295 ex295 bx295 => ?_)
    have ux295 : s1 = x295 := (es1).trans ex295.symm
    subst ux295
    exact x_iret C hQ dX9_look_55 hS (by decide) (by decide) (⟨s1, rfl, (by omega), hT⟩)
  have kc293 := i_ne c293
  by_cases c296 : x1 = 1
  · have kc296 := i_eq c296
    refine lv_tableIn (tgt := 56) hx hb dX9_look_1 (by omega) (by omega) (off := 55) (by rw [c296]; rfl) (by decide) ?_
    refine lv_aload_n hx hb dX9_look_56 rfl (lv_at hl 0 rfl) ?_
    refine x_gr C hT (ci := 9) (k := 0) rfl inX9 (by decide) wF_X9_12 ga0 rg_68 rfl dX9_look_57 (fun q297 eq297 gq297 => ?_)
    have uq297 : w0 = q297 := (ew0).trans eq297.symm
    subst uq297
    refine x_gi C hT (ci := 8) (k := 10) rfl inX8 (by decide) wF_X9_293 gw0 rg_0 rfl dX9_look_60 (fun x298 ex298 bx298 => ?_)
    have ux298 : s10 = x298 := (es10).trans ex298.symm
    subst ux298
    exact x_iret C hQ dX9_look_63 hS (by decide) (by decide) (⟨s10, rfl, (by omega), hT⟩)
  have kc296 := i_ne c296
  by_cases c299 : x1 = 2
  · have kc299 := i_eq c299
    refine lv_tableIn (tgt := 64) hx hb dX9_look_1 (by omega) (by omega) (off := 63) (by rw [c299]; rfl) (by decide) ?_
    refine lv_aload_n hx hb dX9_look_64 rfl (lv_at hl 0 rfl) ?_
    refine x_gr C hT (ci := 9) (k := 0) rfl inX9 (by decide) wF_X9_12 ga0 rg_68 rfl dX9_look_65 (fun q300 eq300 gq300 => ?_)
    have uq300 : w0 = q300 := (ew0).trans eq300.symm
    subst uq300
    refine x_gi C hT (ci := 8) (k := 13) rfl inX8 (by decide) wF_X9_317 gw0 rg_0 rfl dX9_look_68 (fun x301 ex301 bx301 => ?_)
    have ux301 : s13 = x301 := (es13).trans ex301.symm
    subst ux301
    exact x_iret C hQ dX9_look_71 hS (by decide) (by decide) (⟨s13, rfl, (by omega), hT⟩)
  have kc299 := i_ne c299
  by_cases c302 : x1 = 3
  · have kc302 := i_eq c302
    refine lv_tableIn (tgt := 72) hx hb dX9_look_1 (by omega) (by omega) (off := 71) (by rw [c302]; rfl) (by decide) ?_
    refine lv_aload_n hx hb dX9_look_72 rfl (lv_at hl 0 rfl) ?_
    refine x_gr C hT (ci := 9) (k := 0) rfl inX9 (by decide) wF_X9_12 ga0 rg_68 rfl dX9_look_73 (fun q303 eq303 gq303 => ?_)
    have uq303 : w0 = q303 := (ew0).trans eq303.symm
    subst uq303
    refine x_gi C hT (ci := 8) (k := 16) rfl inX8 (by decide) wF_X9_326 gw0 rg_0 rfl dX9_look_76 (fun x304 ex304 bx304 => ?_)
    have ux304 : s16 = x304 := (es16).trans ex304.symm
    subst ux304
    exact x_iret C hQ dX9_look_79 hS (by decide) (by decide) (⟨s16, rfl, (by omega), hT⟩)
  have kc302 := i_ne c302
  by_cases c305 : x1 = 4
  · have kc305 := i_eq c305
    refine lv_tableIn (tgt := 80) hx hb dX9_look_1 (by omega) (by omega) (off := 79) (by rw [c305]; rfl) (by decide) ?_
    refine lv_aload_n hx hb dX9_look_80 rfl (lv_at hl 0 rfl) ?_
    refine x_gr C hT (ci := 9) (k := 0) rfl inX9 (by decide) wF_X9_12 ga0 rg_68 rfl dX9_look_81 (fun q306 eq306 gq306 => ?_)
    have uq306 : w0 = q306 := (ew0).trans eq306.symm
    subst uq306
    refine x_gi C hT (ci := 8) (k := 5) rfl inX8 (by decide) wF_X9_184 gw0 rg_0 rfl dX9_look_84 (fun x307 ex307 bx307 => ?_)
    have ux307 : sl = x307 := (esl).trans ex307.symm
    subst ux307
    exact x_iret C hQ dX9_look_87 hS (by decide) (by decide) (⟨sl, rfl, (by omega), hT⟩)
  have kc305 := i_ne c305
  by_cases c308 : x1 = 5
  · have kc308 := i_eq c308
    refine lv_tableIn (tgt := 88) hx hb dX9_look_1 (by omega) (by omega) (off := 87) (by rw [c308]; rfl) (by decide) ?_
    refine lv_aload_n hx hb dX9_look_88 rfl (lv_at hl 0 rfl) ?_
    refine x_gr C hT (ci := 9) (k := 0) rfl inX9 (by decide) wF_X9_12 ga0 rg_68 rfl dX9_look_89 (fun q309 eq309 gq309 => ?_)
    have uq309 : w0 = q309 := (ew0).trans eq309.symm
    subst uq309
    refine x_gi C hT (ci := 8) (k := 4) rfl inX8 (by decide) wF_X9_147 gw0 rg_0 rfl dX9_look_92 (fun x310 ex310 bx310 => ?_)
    have ux310 : fo = x310 := (efo).trans ex310.symm
    subst ux310
    exact x_iret C hQ dX9_look_95 hS (by decide) (by decide) (⟨fo, rfl, (by omega), hT⟩)
  have kc308 := i_ne c308
  by_cases c311 : x1 = 6
  · have kc311 := i_eq c311
    refine lv_tableIn (tgt := 96) hx hb dX9_look_1 (by omega) (by omega) (off := 95) (by rw [c311]; rfl) (by decide) ?_
    refine lv_aload_n hx hb dX9_look_96 rfl (lv_at hl 0 rfl) ?_
    refine x_V (As := []) (rest := []) C (a_X9_countLost_v l K G s.heap (fo) (sl) (s1) (fsE) (fwE) hT ga0 gsmq esmq gw0 ew0 glawq elawq gtx etx gbq ebq efo esl es1 (by omega) (hy0) (hy1)) yo_X9_countLost wM_X9_354 ⟨⟨by decide, by decide⟩, by decide, by decide⟩ (x_rv C hT (ci := 9) rfl ga0 rg_68) rfl hl.1 rfl (Nat.le_of_ble_eq_true rfl) dX9_look_97 hS (AE_sub (fun _ _ => rfl) (by decide) hS.1) (fun vH312 H312 locsH312 pH312 zH312 kH312 hSH312 => ?_)
    obtain ⟨x313, hvH312, bx313, m314, hTH312⟩ := pH312
    subst hvH312
    have m315 := (esmq).trans (fR_kept (x_lt hT kH312 ga0 (by decide))).symm
    have m316 := (ew0).trans (fR_kept (x_lt hT kH312 ga0 (by decide))).symm
    have m317 := (elawq).trans (fR_kept (x_lt hT kH312 gw0 (by decide))).symm
    have m318 := (etx).trans (fR_kept (x_lt hT kH312 glawq (by decide))).symm
    have m319 := (ebq).trans (fR_kept (x_lt hT kH312 gw0 (by decide))).symm
    have m320 := (efo).trans (fI_kept (x_lt hT kH312 gw0 (by decide))).symm
    have m321 := (esl).trans (fI_kept (x_lt hT kH312 gw0 (by decide))).symm
    have m322 := (es1).trans (fI_kept (x_lt hT kH312 gw0 (by decide))).symm
    have m323 := (es10).trans (fI_kept (x_lt hT kH312 gw0 (by decide))).symm
    have m324 := (es13).trans (fI_kept (x_lt hT kH312 gw0 (by decide))).symm
    have m325 := (es16).trans (fI_kept (x_lt hT kH312 gw0 (by decide))).symm
    refine W.eq (g2 := F0 m 100 ls [.int x313]) rfl ?_
    exact x_iret C hQ dX9_look_100 hSH312 (by decide) (by decide) (⟨x313, rfl, (by have z_ := m314; omega), hTH312⟩)
  have kc311 := i_ne c311
  by_cases c326 : x1 = 7
  · have kc326 := i_eq c326
    refine lv_tableIn (tgt := 101) hx hb dX9_look_1 (by omega) (by omega) (off := 100) (by rw [c326]; rfl) (by decide) ?_
    refine lv_aload_n hx hb dX9_look_101 rfl (lv_at hl 0 rfl) ?_
    refine x_V (As := []) (rest := []) C (a_X9_countTrue_v l K G s.heap (fo) (sl) (s1) (fsE) (fwE) hT ga0 gsmq esmq gw0 ew0 glawq elawq gtx etx gbq ebq efo esl es1 (by omega) (hy0) (hy1)) yo_X9_countTrue wM_X9_357 ⟨⟨by decide, by decide⟩, by decide, by decide⟩ (x_rv C hT (ci := 9) rfl ga0 rg_68) rfl hl.1 rfl (Nat.le_of_ble_eq_true rfl) dX9_look_102 hS (AE_sub (fun _ _ => rfl) (by decide) hS.1) (fun vH327 H327 locsH327 pH327 zH327 kH327 hSH327 => ?_)
    obtain ⟨x328, hvH327, bx328, m329, hTH327⟩ := pH327
    subst hvH327
    have m330 := (esmq).trans (fR_kept (x_lt hT kH327 ga0 (by decide))).symm
    have m331 := (ew0).trans (fR_kept (x_lt hT kH327 ga0 (by decide))).symm
    have m332 := (elawq).trans (fR_kept (x_lt hT kH327 gw0 (by decide))).symm
    have m333 := (etx).trans (fR_kept (x_lt hT kH327 glawq (by decide))).symm
    have m334 := (ebq).trans (fR_kept (x_lt hT kH327 gw0 (by decide))).symm
    have m335 := (efo).trans (fI_kept (x_lt hT kH327 gw0 (by decide))).symm
    have m336 := (esl).trans (fI_kept (x_lt hT kH327 gw0 (by decide))).symm
    have m337 := (es1).trans (fI_kept (x_lt hT kH327 gw0 (by decide))).symm
    have m338 := (es10).trans (fI_kept (x_lt hT kH327 gw0 (by decide))).symm
    have m339 := (es13).trans (fI_kept (x_lt hT kH327 gw0 (by decide))).symm
    have m340 := (es16).trans (fI_kept (x_lt hT kH327 gw0 (by decide))).symm
    refine W.eq (g2 := F0 m 105 ls [.int x328]) rfl ?_
    exact x_iret C hQ dX9_look_105 hSH327 (by decide) (by decide) (⟨x328, rfl, (by have z_ := m329; omega), hTH327⟩)
  have kc326 := i_ne c326
  refine lv_tableOut (tgt := 106) hx hb dX9_look_1 (by omega) (by decide) ?_
  refine lv_iconst (v := (-1)) hx hb dX9_look_106 (by decide) ?_
  exact x_iret C hQ dX9_look_107 hS (by decide) (by decide) (⟨(-1), rfl, (by omega), hT⟩)
