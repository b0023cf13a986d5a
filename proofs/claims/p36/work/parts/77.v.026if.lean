set_option maxHeartbeats 4000000 in
set_option maxRecDepth 100000 in
theorem a_X10_bar_v (l : Launch) (K : KE) (G : Nat → Option Nat) (H : Heap) {a0 : Nat} (x1 : Int32) {slq : Nat} {kq : Nat} {gnq : Nat} {hvq : Nat} {wxq : Nat} {tbq : Nat} {gq : Nat} {paq : Nat} {pdq : Nat} {psq : Nat} {lbq : Nat} (bs : Int32) (hT : TY K G H) (ga0 : G a0 = some 112) (hx1 : 3 ≤ x1.toInt ∧ x1.toInt ≤ 16) (gslq : G slq = some 113) (eslq : slq = fR H a0 (K.1.2 10 4)) (gkq : G kq = some 114) (ekq : kq = fR H a0 (K.1.2 10 5)) (ggnq : G gnq = some 115) (egnq : gnq = fR H a0 (K.1.2 10 6)) (ghvq : G hvq = some 116) (ehvq : hvq = fR H a0 (K.1.2 10 7)) (gwxq : G wxq = some 117) (ewxq : wxq = fR H a0 (K.1.2 10 8)) (gtbq : G tbq = some 125) (etbq : tbq = fR H a0 (K.1.2 10 16)) (ggq : G gq = some 118) (egq : gq = fR H a0 (K.1.2 10 9)) (gpaq : G paq = some 120) (epaq : paq = fR H a0 (K.1.2 10 11)) (gpdq : G pdq = some 121) (epdq : pdq = fR H a0 (K.1.2 10 12)) (gpsq : G psq = some 119) (epsq : psq = fR H a0 (K.1.2 10 10)) (glbq : G lbq = some 122) (elbq : lbq = fR H a0 (K.1.2 10 13)) (ebs : bs = fI H a0 (K.1.2 10 1)) (hg_CG : CG (avw K H a0)) (hg_TU : TU (avw K H a0) (svw K H a0)) (hg_WD : WD (avw K H a0)) (hg_IM : IM (avw K H a0)) (hp0 : bs.toInt ≤ 9) (hy0 : PrsV (vwR K H a0 bs.toNatClampNeg)) : MX l K yX10_bar cX10_bar 3 (some .int) 1 23 0 0 [.ref a0, .int x1] H (AE G [112, 113, 114, 115, 116, 117, 125] H.size) (fun v H1 => ∃ (r : Int32) (t0 : Int32), v = some (.int r) ∧ t0 = fI H1 a0 (K.1.2 10 1) ∧ (r.toInt = bs.toInt ∧ t0.toInt = bs.toInt + 1) ∧ slq = fR H1 a0 (K.1.2 10 4) ∧ kq = fR H1 a0 (K.1.2 10 5) ∧ gnq = fR H1 a0 (K.1.2 10 6) ∧ hvq = fR H1 a0 (K.1.2 10 7) ∧ wxq = fR H1 a0 (K.1.2 10 8) ∧ tbq = fR H1 a0 (K.1.2 10 16) ∧ gq = fR H1 a0 (K.1.2 10 9) ∧ paq = fR H1 a0 (K.1.2 10 11) ∧ pdq = fR H1 a0 (K.1.2 10 12) ∧ psq = fR H1 a0 (K.1.2 10 10) ∧ lbq = fR H1 a0 (K.1.2 10 13) ∧ (CG (avw K H1 a0)) ∧ (TU (avw K H1 a0) (svw K H1 a0)) ∧ (WD (avw K H1 a0)) ∧ (IM (avw K H1 a0)) ∧ MF K H H1 a0 [0, 1] ∧ (NewV (vwR K H1 a0 bs.toNatClampNeg) x1.toInt) ∧ (∀ b2 : Nat, b2 ≠ bs.toNatClampNeg → EqV (vwR K H1 a0 b2) (vwR K H a0 b2)) ∧ TY K G H1) := by
  refine MX.of (by decide +kernel) (Nat.le_of_ble_eq_true rfl) ?_
  intro p e s m below meth c ls Q C hH hl hQ
  subst hH
  have C : CX p K s m _ meth c RX10 cX10_bar 3 (some .int) "bar" := C
  obtain ⟨hx, hb, hml, hown, hts, hKT, hr, hlocks, hnm⟩ := id C
  have hl : lv_has ls 3 [(0, .ref a0), (1, .int x1)] := hl
  have hS : va_S (AE G [112, 113, 114, 115, 116, 117, 125] s.heap.size) s.heap s.heap [] := va_S.rf
  have n_0 : (0 : Int32).toInt = 0 := rfl
  have n_1 : (1 : Int32).toInt = 1 := rfl
  have n_2 : (2 : Int32).toInt = 2 := rfl
  have n_3 : (3 : Int32).toInt = 3 := rfl
  have n_5 : (5 : Int32).toInt = 5 := rfl
  have n_10 : (10 : Int32).toInt = 10 := rfl
  have n_16 : (16 : Int32).toInt = 16 := rfl
  have n_20 : (20 : Int32).toInt = 20 := rfl
  have n_500 : (500 : Int32).toInt = 500 := rfl
  have bbs := ty_fi (x := bs) (k := 1) ebs hT ga0 rg_112 rfl
  have hap : ∀ x y, x < 74 → y < 74 → x ≠ y → K.1.2 10 x ≠ K.1.2 10 y := x_apart hKT hts inX10 tyX10 tyX10_ok nmX10 rfl
  have mf0 : MF K s.heap s.heap a0 [0, 1] := fun _ _ _ => rfl
  have f0_o_gq : ∀ j : Nat, fI s.heap gq j = fI s.heap gq j := fun _ => rfl
  have f0_o_paq : ∀ j : Nat, fI s.heap paq j = fI s.heap paq j := fun _ => rfl
  have f0_o_pdq : ∀ j : Nat, fI s.heap pdq j = fI s.heap pdq j := fun _ => rfl
  have f0_o_psq : ∀ j : Nat, fI s.heap psq j = fI s.heap psq j := fun _ => rfl
  have f0_o_lbq : ∀ j : Nat, fI s.heap lbq j = fI s.heap lbq j := fun _ => rfl
  have f0_o_slq : ∀ j : Nat, j ≠ bs.toNatClampNeg → fI s.heap slq j = fI s.heap slq j := fun _ _ => rfl
  have J45 : ∀ (nf : Nat)  (ls1959 : Array Slot) (H1958 : Heap) (locsH1958 : List Loc) (x1961 : Int32) (x1962 : Int32), lv_has ls1959 3 [(0, .ref a0), (2, .int x1961)] → TY K G H1958 → va_S (AE G [112, 113, 114, 115, 116, 117, 125] s.heap.size) s.heap H1958 locsH1958 → (0 ≤ x1961.toInt ∧ x1961.toInt ≤ 160) → (0 ≤ x1962.toInt ∧ x1962.toInt ≤ 9) → (x1962 = fI H1958 a0 (K.1.2 10 1)) → (slq = fR H1958 a0 (K.1.2 10 4)) → (kq = fR H1958 a0 (K.1.2 10 5)) → (gnq = fR H1958 a0 (K.1.2 10 6)) → (hvq = fR H1958 a0 (K.1.2 10 7)) → (wxq = fR H1958 a0 (K.1.2 10 8)) → (tbq = fR H1958 a0 (K.1.2 10 16)) → (gq = fR H1958 a0 (K.1.2 10 9)) → (paq = fR H1958 a0 (K.1.2 10 11)) → (pdq = fR H1958 a0 (K.1.2 10 12)) → (psq = fR H1958 a0 (K.1.2 10 10)) → (lbq = fR H1958 a0 (K.1.2 10 13)) → (AB H1958 slq (bs.toNatClampNeg + 1) (1) (16)) → (MF K s.heap H1958 a0 [0, 1]) → (CG (avw K H1958 a0)) → (TU (avw K H1958 a0) (svw K H1958 a0)) → (WD (avw K H1958 a0)) → (IM (avw K H1958 a0)) → (∀ j : Nat, fI H1958 gq j = fI s.heap gq j) → (∀ j : Nat, fI H1958 paq j = fI s.heap paq j) → (∀ j : Nat, fI H1958 pdq j = fI s.heap pdq j) → (∀ j : Nat, fI H1958 psq j = fI s.heap psq j) → (∀ j : Nat, fI H1958 lbq j = fI s.heap lbq j) → (∀ j : Nat, j ≠ bs.toNatClampNeg → fI H1958 slq j = fI s.heap slq j) → (200 - x1961.toInt < (nf : Int)) → (16 * bs.toInt ≤ x1961.toInt ∧ x1961.toInt ≤ 16 * bs.toInt + 16 ∧ x1962.toInt = bs.toInt) → (BLP H1958 s.heap kq gnq hvq wxq (16 * bs.toNatClampNeg) x1961.toNatClampNeg) → ((fI H1958 slq bs.toNatClampNeg).toInt = x1.toInt) → W p l e ({ frames := 1, cells := 0, slots := 0, locals := 23 } : Room) s m (([.ref a0, .int x1] : List Value).toArray) below meth c H1958 locsH1958 0 0 Q (F0 m 45 ls1959 []) := by
    intro nf
    induction nf with
    | zero =>
      intro  ls1959 H1958 locsH1958 x1961 x1962 hl1960 hTH1958 hSH1958 bx1961 bx1962 ex1962 cy1963_0 cy1963_1 cy1963_2 cy1963_3 cy1963_4 cy1963_5 cy1963_6 cy1963_7 cy1963_8 cy1963_9 cy1963_10 by1963_sl mfy1963 gy1963_CG gy1963_TU gy1963_WD gy1963_IM fy1963_o_gq fy1963_o_paq fy1963_o_pdq fy1963_o_psq fy1963_o_lbq fy1963_o_slq hm45 iv45 hbl45 hsl45
      exfalso
      omega
    | succ nf ih45 =>
      intro  ls1959 H1958 locsH1958 x1961 x1962 hl1960 hTH1958 hSH1958 bx1961 bx1962 ex1962 cy1963_0 cy1963_1 cy1963_2 cy1963_3 cy1963_4 cy1963_5 cy1963_6 cy1963_7 cy1963_8 cy1963_9 cy1963_10 by1963_sl mfy1963 gy1963_CG gy1963_TU gy1963_WD gy1963_IM fy1963_o_gq fy1963_o_paq fy1963_o_pdq fy1963_o_psq fy1963_o_lbq fy1963_o_slq hm45 iv45 hbl45 hsl45
      refine lv_iload_n hx hb dX10_bar_45 rfl (lv_at hl1960 1 rfl) ?_
      refine lv_bipush (v := 16) hx hb dX10_bar_46 (by decide) ?_
      refine lv_aload_n hx hb dX10_bar_48 rfl (lv_at hl1960 0 rfl) ?_
      refine x_gi C hTH1958 (ci := 10) (k := 1) rfl inX10 (by decide) wF_X10_170 ga0 rg_112 rfl dX10_bar_49 (fun x1964 ex1964 bx1964 => ?_)
      have ux1964 : x1962 = x1964 := (ex1962).trans ex1964.symm
      subst ux1964
      refine lv_imul hx hb dX10_bar_52 ?_
      refine lv_topi (fun x1965 ex1965 => ?_)
      have tx1965 := i_mul ex1965 (by rw [n_16]; omega)
      rw [n_16] at tx1965
      refine lv_bipush (v := 16) hx hb dX10_bar_53 (by decide) ?_
      refine lv_iadd hx hb dX10_bar_55 ?_
      refine lv_topi (fun x1966 ex1966 => ?_)
      have tx1966 := i_add ex1966 (by omega)
      refine lv_icmp_ge (tgt := 94) hx hb dX10_bar_56 (by decide) (fun c1967 => ?_) (fun c1967 => ?_)
      · have k1968 := i_le c1967
        have cbtb := i_cl (x := x1962) (by omega)
        have atb : AB H1958 tbq (2 * x1962.toNatClampNeg) 1 9999 := TU.abT gy1963_TU cy1963_5 ex1962 (by omega) (fun j hj => (by obtain ⟨c, -, -, -, -, -, -, h⟩ := hTH1958.aint gtbq rg_125 (j := j) (by omega); exact h))
        refine lv_aload_n hx hb dX10_bar_94 rfl (lv_at hl1960 0 rfl) ?_
        refine x_gr C hTH1958 (ci := 10) (k := 16) rfl inX10 (by decide) wF_X10_50 ga0 rg_112 rfl dX10_bar_95 (fun q1969 eq1969 gq1969 => ?_)
        have uq1969 : tbq = q1969 := (cy1963_5).trans eq1969.symm
        subst uq1969
        refine lv_iconst (v := 2) hx hb dX10_bar_98 (by decide) ?_
        refine lv_aload_n hx hb dX10_bar_99 rfl (lv_at hl1960 0 rfl) ?_
        refine x_gi C hTH1958 (ci := 10) (k := 1) rfl inX10 (by decide) wF_X10_170 ga0 rg_112 rfl dX10_bar_100 (fun x1970 ex1970 bx1970 => ?_)
        have ux1970 : x1962 = x1970 := (ex1962).trans ex1970.symm
        subst ux1970
        refine lv_imul hx hb dX10_bar_103 ?_
        refine lv_topi (fun x1971 ex1971 => ?_)
        have tx1971 := i_mul ex1971 (by rw [n_2]; omega)
        rw [n_2] at tx1971
        refine lv_sipush (v := 500) hx hb dX10_bar_104 (by decide) ?_
        refine x_iast C hTH1958 hSH1958 gtbq rg_125 (by omega) (by show _ < ((20 : Nat) : Int); omega) (by decide) (AE_in gtbq (by decide)) dX10_bar_107 (fun H1972 locsH1972 hTH1972 hSH1972 wH1972 => ?_)
        have mf1973 : MF K s.heap H1972 a0 [0, 1] := MF.arr wH1972 (G_ne ga0 gtbq (by decide)) mfy1963
        have g1974 : CG (avw K H1972 a0) := CG.congr (fun k hk j => av_arr hTH1958 ga0 wH1972 gtbq (by decide) (CG_ok 125 (by decide) k hk)) gy1963_CG
        have g1975 : TU (avw K H1972 a0) (svw K H1972 a0) := TU.putT hTH1958 ga0 wH1972 gtbq cy1963_5 (by omega) gy1963_TU
        have g1976 : WD (avw K H1972 a0) := WD.congr (fun k hk j => av_arr hTH1958 ga0 wH1972 gtbq (by decide) (WD_ok 125 (by decide) k hk)) gy1963_WD
        have g1977 : IM (avw K H1972 a0) := IM.congr (fun k hk j => av_arr hTH1958 ga0 wH1972 gtbq (by decide) (IM_ok 125 (by decide) k hk)) gy1963_IM
        have b1978 : AB H1972 slq (bs.toNatClampNeg + 1) (1) (16) := AB.kept (fun j => Wr.neI wH1972 (Or.inl (G_ne gslq gtbq (by decide)))) by1963_sl
        have cjH1972 := i_cl (x := x1971) (by omega)
        have b1979 : AB H1972 tbq (2 * x1962.toNatClampNeg + 1) (1) (9999) := (AB.ext wH1972 (by omega) atb (by omega) rfl)
        have f1980 : ∀ j : Nat, fI H1972 gq j = fI s.heap gq j := fun j => (Wr.neI wH1972 (Or.inl (G_ne ggq gtbq (by decide)))).trans (fy1963_o_gq j)
        have f1981 : ∀ j : Nat, fI H1972 paq j = fI s.heap paq j := fun j => (Wr.neI wH1972 (Or.inl (G_ne gpaq gtbq (by decide)))).trans (fy1963_o_paq j)
        have f1982 : ∀ j : Nat, fI H1972 pdq j = fI s.heap pdq j := fun j => (Wr.neI wH1972 (Or.inl (G_ne gpdq gtbq (by decide)))).trans (fy1963_o_pdq j)
        have f1983 : ∀ j : Nat, fI H1972 psq j = fI s.heap psq j := fun j => (Wr.neI wH1972 (Or.inl (G_ne gpsq gtbq (by decide)))).trans (fy1963_o_psq j)
        have f1984 : ∀ j : Nat, fI H1972 lbq j = fI s.heap lbq j := fun j => (Wr.neI wH1972 (Or.inl (G_ne glbq gtbq (by decide)))).trans (fy1963_o_lbq j)
        have f1985 : ∀ j : Nat, j ≠ bs.toNatClampNeg → fI H1972 slq j = fI s.heap slq j := fun j hj => (Wr.neI wH1972 (Or.inl (G_ne gslq gtbq (by decide)))).trans (fy1963_o_slq j hj)
        have m1986 := ex1962.trans (Wr.neI wH1972 (Or.inl (G_ne ga0 gtbq (by decide)))).symm
        have m1987 := cy1963_0.trans (Wr.neR wH1972 (Or.inl (G_ne ga0 gtbq (by decide)))).symm
        have m1988 := cy1963_1.trans (Wr.neR wH1972 (Or.inl (G_ne ga0 gtbq (by decide)))).symm
        have m1989 := cy1963_2.trans (Wr.neR wH1972 (Or.inl (G_ne ga0 gtbq (by decide)))).symm
        have m1990 := cy1963_3.trans (Wr.neR wH1972 (Or.inl (G_ne ga0 gtbq (by decide)))).symm
        have m1991 := cy1963_4.trans (Wr.neR wH1972 (Or.inl (G_ne ga0 gtbq (by decide)))).symm
        have m1992 := cy1963_5.trans (Wr.neR wH1972 (Or.inl (G_ne ga0 gtbq (by decide)))).symm
        have m1993 := cy1963_6.trans (Wr.neR wH1972 (Or.inl (G_ne ga0 gtbq (by decide)))).symm
        have m1994 := cy1963_7.trans (Wr.neR wH1972 (Or.inl (G_ne ga0 gtbq (by decide)))).symm
        have m1995 := cy1963_8.trans (Wr.neR wH1972 (Or.inl (G_ne ga0 gtbq (by decide)))).symm
        have m1996 := cy1963_9.trans (Wr.neR wH1972 (Or.inl (G_ne ga0 gtbq (by decide)))).symm
        have m1997 := cy1963_10.trans (Wr.neR wH1972 (Or.inl (G_ne ga0 gtbq (by decide)))).symm
        have m1998 := Wr.I wH1972
        refine lv_aload_n hx hb dX10_bar_108 rfl (lv_at hl1960 0 rfl) ?_
        refine x_gr C hTH1972 (ci := 10) (k := 16) rfl inX10 (by decide) wF_X10_50 ga0 rg_112 rfl dX10_bar_109 (fun q1999 eq1999 gq1999 => ?_)
        have uq1999 : tbq = q1999 := (m1992).trans eq1999.symm
        subst uq1999
        refine lv_iconst (v := 2) hx hb dX10_bar_112 (by decide) ?_
        refine lv_aload_n hx hb dX10_bar_113 rfl (lv_at hl1960 0 rfl) ?_
        refine x_gi C hTH1972 (ci := 10) (k := 1) rfl inX10 (by decide) wF_X10_170 ga0 rg_112 rfl dX10_bar_114 (fun x2000 ex2000 bx2000 => ?_)
        have ux2000 : x1962 = x2000 := (m1986).trans ex2000.symm
        subst ux2000
        refine lv_imul hx hb dX10_bar_117 ?_
        refine lv_topi (fun x2001 ex2001 => ?_)
        have tx2001 := i_mul ex2001 (by rw [n_2]; omega)
        rw [n_2] at tx2001
        refine lv_iconst (v := 1) hx hb dX10_bar_118 (by decide) ?_
        refine lv_iadd hx hb dX10_bar_119 ?_
        refine lv_topi (fun x2002 ex2002 => ?_)
        have tx2002 := i_add ex2002 (by omega)
        refine lv_sipush (v := 500) hx hb dX10_bar_120 (by decide) ?_
        refine x_iast C hTH1972 hSH1972 gtbq rg_125 (by omega) (by show _ < ((20 : Nat) : Int); omega) (by decide) (AE_in gtbq (by decide)) dX10_bar_123 (fun H2003 locsH2003 hTH2003 hSH2003 wH2003 => ?_)
        have mf2004 : MF K s.heap H2003 a0 [0, 1] := MF.arr wH2003 (G_ne ga0 gtbq (by decide)) mf1973
        have g2005 : CG (avw K H2003 a0) := CG.congr (fun k hk j => av_arr hTH1972 ga0 wH2003 gtbq (by decide) (CG_ok 125 (by decide) k hk)) g1974
        have g2006 : TU (avw K H2003 a0) (svw K H2003 a0) := TU.putT hTH1972 ga0 wH2003 gtbq m1992 (by omega) g1975
        have g2007 : WD (avw K H2003 a0) := WD.congr (fun k hk j => av_arr hTH1972 ga0 wH2003 gtbq (by decide) (WD_ok 125 (by decide) k hk)) g1976
        have g2008 : IM (avw K H2003 a0) := IM.congr (fun k hk j => av_arr hTH1972 ga0 wH2003 gtbq (by decide) (IM_ok 125 (by decide) k hk)) g1977
        have b2009 : AB H2003 slq (bs.toNatClampNeg + 1) (1) (16) := AB.kept (fun j => Wr.neI wH2003 (Or.inl (G_ne gslq gtbq (by decide)))) b1978
        have cjH2003 := i_cl (x := x2002) (by omega)
        have b2010 : AB H2003 tbq (2 * x1962.toNatClampNeg + 1 + 1) (1) (9999) := (AB.ext wH2003 (by omega) b1979 (by omega) rfl)
        have f2011 : ∀ j : Nat, fI H2003 gq j = fI s.heap gq j := fun j => (Wr.neI wH2003 (Or.inl (G_ne ggq gtbq (by decide)))).trans (f1980 j)
        have f2012 : ∀ j : Nat, fI H2003 paq j = fI s.heap paq j := fun j => (Wr.neI wH2003 (Or.inl (G_ne gpaq gtbq (by decide)))).trans (f1981 j)
        have f2013 : ∀ j : Nat, fI H2003 pdq j = fI s.heap pdq j := fun j => (Wr.neI wH2003 (Or.inl (G_ne gpdq gtbq (by decide)))).trans (f1982 j)
        have f2014 : ∀ j : Nat, fI H2003 psq j = fI s.heap psq j := fun j => (Wr.neI wH2003 (Or.inl (G_ne gpsq gtbq (by decide)))).trans (f1983 j)
        have f2015 : ∀ j : Nat, fI H2003 lbq j = fI s.heap lbq j := fun j => (Wr.neI wH2003 (Or.inl (G_ne glbq gtbq (by decide)))).trans (f1984 j)
        have f2016 : ∀ j : Nat, j ≠ bs.toNatClampNeg → fI H2003 slq j = fI s.heap slq j := fun j hj => (Wr.neI wH2003 (Or.inl (G_ne gslq gtbq (by decide)))).trans (f1985 j hj)
        have m2017 := m1986.trans (Wr.neI wH2003 (Or.inl (G_ne ga0 gtbq (by decide)))).symm
        have m2018 := m1987.trans (Wr.neR wH2003 (Or.inl (G_ne ga0 gtbq (by decide)))).symm
        have m2019 := m1988.trans (Wr.neR wH2003 (Or.inl (G_ne ga0 gtbq (by decide)))).symm
        have m2020 := m1989.trans (Wr.neR wH2003 (Or.inl (G_ne ga0 gtbq (by decide)))).symm
        have m2021 := m1990.trans (Wr.neR wH2003 (Or.inl (G_ne ga0 gtbq (by decide)))).symm
        have m2022 := m1991.trans (Wr.neR wH2003 (Or.inl (G_ne ga0 gtbq (by decide)))).symm
        have m2023 := m1992.trans (Wr.neR wH2003 (Or.inl (G_ne ga0 gtbq (by decide)))).symm
        have m2024 := m1993.trans (Wr.neR wH2003 (Or.inl (G_ne ga0 gtbq (by decide)))).symm
        have m2025 := m1994.trans (Wr.neR wH2003 (Or.inl (G_ne ga0 gtbq (by decide)))).symm
        have m2026 := m1995.trans (Wr.neR wH2003 (Or.inl (G_ne ga0 gtbq (by decide)))).symm
        have m2027 := m1996.trans (Wr.neR wH2003 (Or.inl (G_ne ga0 gtbq (by decide)))).symm
        have m2028 := m1997.trans (Wr.neR wH2003 (Or.inl (G_ne ga0 gtbq (by decide)))).symm
        have m2030 := Wr.I wH2003
        refine lv_aload_n hx hb dX10_bar_124 rfl (lv_at hl1960 0 rfl) ?_
        refine lv_aload_n hx hb dX10_bar_125 rfl (lv_at hl1960 0 rfl) ?_
        refine x_gi C hTH2003 (ci := 10) (k := 1) rfl inX10 (by decide) wF_X10_170 ga0 rg_112 rfl dX10_bar_126 (fun x2031 ex2031 bx2031 => ?_)
        have ux2031 : x1962 = x2031 := (m2017).trans ex2031.symm
        subst ux2031
        refine lv_iconst (v := 1) hx hb dX10_bar_129 (by decide) ?_
        refine lv_iadd hx hb dX10_bar_130 ?_
        refine lv_topi (fun x2032 ex2032 => ?_)
        have tx2032 := i_add ex2032 (by omega)
        refine x_put C hTH2003 hSH2003 (ci := 10) (k := 1) (v := .int x2032) (ty0 := tyX10) rfl inX10 tyX10_ok nmX10 (by decide) rfl wF_X10_170 ga0 rg_112 rfl rfl (okI (by have := i_rng x2032; omega) (by have := i_rng x2032; omega)) rfl rfl (AE_in ga0 (by decide)) dX10_bar_131 (fun H2033 locsH2033 hTH2033 hSH2033 wH2033 => ?_)
        have mf2034 : MF K s.heap H2033 a0 [0, 1] := MF.fld hap wH2033 (by decide) (by decide) mf2004
        have g2035 : CG (avw K H2033 a0) := CG.congr (fun k hk j => av_fld hTH2003 ga0 hap wH2033 (by decide) (CG_ok 112 (by decide) k hk) (CG_ne 1 (by decide) k hk)) g2005
        have clt_bs := i_cl (x := bs) (by omega)
        have clt_x1962 := i_cl (x := x1962) (by omega)
        have g2036 : TU (avw K H2033 a0) (svw K H2033 a0) := TU.grow hTH2003 ga0 hap wH2033 m2023 m2018 b2010 b2009 (by omega) (by omega)
        have g2037 : WD (avw K H2033 a0) := WD.congr (fun k hk j => av_fld hTH2003 ga0 hap wH2033 (by decide) (WD_ok 112 (by decide) k hk) (WD_ne 1 (by decide) k hk)) g2007
        have g2038 : IM (avw K H2033 a0) := IM.congr (fun k hk j => av_fld hTH2003 ga0 hap wH2033 (by decide) (IM_ok 112 (by decide) k hk) (IM_ne 1 (by decide) k hk)) g2008
        have b2039 : AB H2033 slq (bs.toNatClampNeg + 1) (1) (16) := AB.kept (fun j => Wr.neI wH2033 (Or.inl (G_ne gslq ga0 (by decide)))) b2009
        have b2040 : AB H2033 tbq (2 * x1962.toNatClampNeg + 1 + 1) (1) (9999) := AB.kept (fun j => Wr.neI wH2033 (Or.inl (G_ne gtbq ga0 (by decide)))) b2010
        have f2041 : ∀ j : Nat, fI H2033 gq j = fI s.heap gq j := fun j => (Wr.neI wH2033 (Or.inl (G_ne ggq ga0 (by decide)))).trans (f2011 j)
        have f2042 : ∀ j : Nat, fI H2033 paq j = fI s.heap paq j := fun j => (Wr.neI wH2033 (Or.inl (G_ne gpaq ga0 (by decide)))).trans (f2012 j)
        have f2043 : ∀ j : Nat, fI H2033 pdq j = fI s.heap pdq j := fun j => (Wr.neI wH2033 (Or.inl (G_ne gpdq ga0 (by decide)))).trans (f2013 j)
        have f2044 : ∀ j : Nat, fI H2033 psq j = fI s.heap psq j := fun j => (Wr.neI wH2033 (Or.inl (G_ne gpsq ga0 (by decide)))).trans (f2014 j)
        have f2045 : ∀ j : Nat, fI H2033 lbq j = fI s.heap lbq j := fun j => (Wr.neI wH2033 (Or.inl (G_ne glbq ga0 (by decide)))).trans (f2015 j)
        have f2046 : ∀ j : Nat, j ≠ bs.toNatClampNeg → fI H2033 slq j = fI s.heap slq j := fun j hj => (Wr.neI wH2033 (Or.inl (G_ne gslq ga0 (by decide)))).trans (f2016 j hj)
        have m2048 := m2018.trans (Wr.neR wH2033 (Or.inr (x_apart hKT hts inX10 tyX10 tyX10_ok nmX10 rfl 4 1 (by decide) (by decide) (by decide)))).symm
        have m2049 := m2019.trans (Wr.neR wH2033 (Or.inr (x_apart hKT hts inX10 tyX10 tyX10_ok nmX10 rfl 5 1 (by decide) (by decide) (by decide)))).symm
        have m2050 := m2020.trans (Wr.neR wH2033 (Or.inr (x_apart hKT hts inX10 tyX10 tyX10_ok nmX10 rfl 6 1 (by decide) (by decide) (by decide)))).symm
        have m2051 := m2021.trans (Wr.neR wH2033 (Or.inr (x_apart hKT hts inX10 tyX10 tyX10_ok nmX10 rfl 7 1 (by decide) (by decide) (by decide)))).symm
        have m2052 := m2022.trans (Wr.neR wH2033 (Or.inr (x_apart hKT hts inX10 tyX10 tyX10_ok nmX10 rfl 8 1 (by decide) (by decide) (by decide)))).symm
        have m2053 := m2023.trans (Wr.neR wH2033 (Or.inr (x_apart hKT hts inX10 tyX10 tyX10_ok nmX10 rfl 16 1 (by decide) (by decide) (by decide)))).symm
        have m2054 := m2024.trans (Wr.neR wH2033 (Or.inr (x_apart hKT hts inX10 tyX10 tyX10_ok nmX10 rfl 9 1 (by decide) (by decide) (by decide)))).symm
        have m2055 := m2025.trans (Wr.neR wH2033 (Or.inr (x_apart hKT hts inX10 tyX10 tyX10_ok nmX10 rfl 11 1 (by decide) (by decide) (by decide)))).symm
        have m2056 := m2026.trans (Wr.neR wH2033 (Or.inr (x_apart hKT hts inX10 tyX10 tyX10_ok nmX10 rfl 12 1 (by decide) (by decide) (by decide)))).symm
        have m2057 := m2027.trans (Wr.neR wH2033 (Or.inr (x_apart hKT hts inX10 tyX10 tyX10_ok nmX10 rfl 10 1 (by decide) (by decide) (by decide)))).symm
        have m2058 := m2028.trans (Wr.neR wH2033 (Or.inr (x_apart hKT hts inX10 tyX10 tyX10_ok nmX10 rfl 13 1 (by decide) (by decide) (by decide)))).symm
        have m2059 := (Wr.neI wH2033 (Or.inl (G_ne gtbq ga0 (by decide)))).trans m2030
        have m2060 := Wr.I wH2033
        have m2060 := m2060.symm
        refine lv_aload_n hx hb dX10_bar_134 rfl (lv_at hl1960 0 rfl) ?_
        refine x_gi C hTH2033 (ci := 10) (k := 1) rfl inX10 (by decide) wF_X10_170 ga0 rg_112 rfl dX10_bar_135 (fun x2061 ex2061 bx2061 => ?_)
        have ux2061 : x2032 = x2061 := (m2060).trans ex2061.symm
        subst ux2061
        refine lv_iconst (v := 1) hx hb dX10_bar_138 (by decide) ?_
        refine lv_isub hx hb dX10_bar_139 ?_
        refine lv_topi (fun x2062 ex2062 => ?_)
        have tx2062 := i_sub ex2062 (by omega)
        have cn_bs := i_cl (x := bs) (by omega)
        have cn_x1961 := i_cl (x := x1961) (by omega)
        have rr_ : ∀ k, k < 10 → fR H2033 a0 (K.1.2 10 (rcR k)) = fR s.heap a0 (K.1.2 10 (rcR k)) := fun k hk => MF.r mf2034 (rcR_lt k hk).1 (by have rv := rcR_v k hk; intro z; simp only [List.mem_cons, List.not_mem_nil, or_false] at z; omega)
        have bl_ : BLP H2033 s.heap (fR s.heap a0 (K.1.2 10 5)) (fR s.heap a0 (K.1.2 10 6)) (fR s.heap a0 (K.1.2 10 7)) (fR s.heap a0 (K.1.2 10 8)) (16 * bs.toNatClampNeg) (16 * bs.toNatClampNeg + 16) := by rw [← ekq, ← egnq, ← ehvq, ← ewxq]; have z := hbl45; rw [show x1961.toNatClampNeg = 16 * bs.toNatClampNeg + 16 by omega] at z; exact BLP.kept z (fun l => (Wr.neI wH2033 (Or.inl (G_ne gkq ga0 (by decide)))).trans ((Wr.neI wH2003 (Or.inl (G_ne gkq gtbq (by decide)))).trans (Wr.neI wH1972 (Or.inl (G_ne gkq gtbq (by decide)))))) (fun l => (Wr.neI wH2033 (Or.inl (G_ne ggnq ga0 (by decide)))).trans ((Wr.neI wH2003 (Or.inl (G_ne ggnq gtbq (by decide)))).trans (Wr.neI wH1972 (Or.inl (G_ne ggnq gtbq (by decide)))))) (fun l => (Wr.neI wH2033 (Or.inl (G_ne ghvq ga0 (by decide)))).trans ((Wr.neI wH2003 (Or.inl (G_ne ghvq gtbq (by decide)))).trans (Wr.neI wH1972 (Or.inl (G_ne ghvq gtbq (by decide)))))) (fun l => (Wr.neI wH2033 (Or.inl (G_ne gwxq ga0 (by decide)))).trans ((Wr.neI wH2003 (Or.inl (G_ne gwxq gtbq (by decide)))).trans (Wr.neI wH1972 (Or.inl (G_ne gwxq gtbq (by decide))))))
        have oo_ : ∀ k, 5 ≤ k → k < 10 → ∀ j, fI H2033 (fR s.heap a0 (K.1.2 10 (rcR k))) j = fI s.heap (fR s.heap a0 (K.1.2 10 (rcR k))) j := fun k h5 hk j => by have : k = 5 ∨ k = 6 ∨ k = 7 ∨ k = 8 ∨ k = 9 := (by omega); rcases this with rfl | rfl | rfl | rfl | rfl; exact (by show fI _ (fR s.heap a0 (K.1.2 10 9)) j = fI _ (fR s.heap a0 (K.1.2 10 9)) j; rw [← egq]; exact f2041 j); exact (by show fI _ (fR s.heap a0 (K.1.2 10 11)) j = fI _ (fR s.heap a0 (K.1.2 10 11)) j; rw [← epaq]; exact f2042 j); exact (by show fI _ (fR s.heap a0 (K.1.2 10 12)) j = fI _ (fR s.heap a0 (K.1.2 10 12)) j; rw [← epdq]; exact f2043 j); exact (by show fI _ (fR s.heap a0 (K.1.2 10 10)) j = fI _ (fR s.heap a0 (K.1.2 10 10)) j; rw [← epsq]; exact f2044 j); exact (by show fI _ (fR s.heap a0 (K.1.2 10 13)) j = fI _ (fR s.heap a0 (K.1.2 10 13)) j; rw [← elbq]; exact f2045 j)
        exact x_iret C hQ dX10_bar_140 hSH2033 (by decide) (by decide) (⟨x2062, x2032, rfl, m2060, by omega, m2048, m2049, m2050, m2051, m2052, m2053, m2054, m2055, m2056, m2057, m2058, g2035, g2036, g2037, g2038, mf2034, (newR hy0 rr_ (by rw [← eslq]; exact (congrArg Int32.toInt ((Wr.neI wH2033 (Or.inl (G_ne gslq ga0 (by decide)))).trans ((Wr.neI wH2003 (Or.inl (G_ne gslq gtbq (by decide)))).trans (Wr.neI wH1972 (Or.inl (G_ne gslq gtbq (by decide))))))).trans hsl45) bl_ (fun k hk => oo_ k (by omega) (by omega))), (fun b2 hb => newO hb rr_ (fun j hj => by rw [← eslq]; exact f2046 j hj) bl_ oo_), hTH2033⟩)
      · have k1968 := i_nle c1967
        refine lv_aload_n hx hb dX10_bar_59 rfl (lv_at hl1960 0 rfl) ?_
        refine x_gr C hTH1958 (ci := 10) (k := 5) rfl inX10 (by decide) wF_X10_17 ga0 rg_112 rfl dX10_bar_60 (fun q2063 eq2063 gq2063 => ?_)
        have uq2063 : kq = q2063 := (cy1963_1).trans eq2063.symm
        subst uq2063
        refine lv_iload_n hx hb dX10_bar_63 rfl (lv_at hl1960 1 rfl) ?_
        refine lv_bipush (v := 20) hx hb dX10_bar_64 (by decide) ?_
        refine x_iast C hTH1958 hSH1958 gkq rg_114 (by omega) (by show _ < ((160 : Nat) : Int); omega) (by decide) (AE_in gkq (by decide)) dX10_bar_66 (fun H2064 locsH2064 hTH2064 hSH2064 wH2064 => ?_)
        have mf2065 : MF K s.heap H2064 a0 [0, 1] := MF.arr wH2064 (G_ne ga0 gkq (by decide)) mfy1963
        have g2066 : CG (avw K H2064 a0) := CG.congr (fun k hk j => av_arr hTH1958 ga0 wH2064 gkq (by decide) (CG_ok 114 (by decide) k hk)) gy1963_CG
        have g2067 : TU (avw K H2064 a0) (svw K H2064 a0) := TU.congr (fun k hk j => av_arr hTH1958 ga0 wH2064 gkq (by decide) (TU_ok 114 (by decide) k hk)) (fun k hk => sv_arr ga0 wH2064 gkq (by decide)) gy1963_TU
        have g2068 : WD (avw K H2064 a0) := WD.congr (fun k hk j => av_arr hTH1958 ga0 wH2064 gkq (by decide) (WD_ok 114 (by decide) k hk)) gy1963_WD
        have g2069 : IM (avw K H2064 a0) := IM.congr (fun k hk j => av_arr hTH1958 ga0 wH2064 gkq (by decide) (IM_ok 114 (by decide) k hk)) gy1963_IM
        have b2070 : AB H2064 slq (bs.toNatClampNeg + 1) (1) (16) := AB.kept (fun j => Wr.neI wH2064 (Or.inl (G_ne gslq gkq (by decide)))) by1963_sl
        have f2071 : ∀ j : Nat, fI H2064 gq j = fI s.heap gq j := fun j => (Wr.neI wH2064 (Or.inl (G_ne ggq gkq (by decide)))).trans (fy1963_o_gq j)
        have f2072 : ∀ j : Nat, fI H2064 paq j = fI s.heap paq j := fun j => (Wr.neI wH2064 (Or.inl (G_ne gpaq gkq (by decide)))).trans (fy1963_o_paq j)
        have f2073 : ∀ j : Nat, fI H2064 pdq j = fI s.heap pdq j := fun j => (Wr.neI wH2064 (Or.inl (G_ne gpdq gkq (by decide)))).trans (fy1963_o_pdq j)
        have f2074 : ∀ j : Nat, fI H2064 psq j = fI s.heap psq j := fun j => (Wr.neI wH2064 (Or.inl (G_ne gpsq gkq (by decide)))).trans (fy1963_o_psq j)
        have f2075 : ∀ j : Nat, fI H2064 lbq j = fI s.heap lbq j := fun j => (Wr.neI wH2064 (Or.inl (G_ne glbq gkq (by decide)))).trans (fy1963_o_lbq j)
        have f2076 : ∀ j : Nat, j ≠ bs.toNatClampNeg → fI H2064 slq j = fI s.heap slq j := fun j hj => (Wr.neI wH2064 (Or.inl (G_ne gslq gkq (by decide)))).trans (fy1963_o_slq j hj)
        have m2077 := ex1962.trans (Wr.neI wH2064 (Or.inl (G_ne ga0 gkq (by decide)))).symm
        have m2078 := cy1963_0.trans (Wr.neR wH2064 (Or.inl (G_ne ga0 gkq (by decide)))).symm
        have m2079 := cy1963_1.trans (Wr.neR wH2064 (Or.inl (G_ne ga0 gkq (by decide)))).symm
        have m2080 := cy1963_2.trans (Wr.neR wH2064 (Or.inl (G_ne ga0 gkq (by decide)))).symm
        have m2081 := cy1963_3.trans (Wr.neR wH2064 (Or.inl (G_ne ga0 gkq (by decide)))).symm
        have m2082 := cy1963_4.trans (Wr.neR wH2064 (Or.inl (G_ne ga0 gkq (by decide)))).symm
        have m2083 := cy1963_5.trans (Wr.neR wH2064 (Or.inl (G_ne ga0 gkq (by decide)))).symm
        have m2084 := cy1963_6.trans (Wr.neR wH2064 (Or.inl (G_ne ga0 gkq (by decide)))).symm
        have m2085 := cy1963_7.trans (Wr.neR wH2064 (Or.inl (G_ne ga0 gkq (by decide)))).symm
        have m2086 := cy1963_8.trans (Wr.neR wH2064 (Or.inl (G_ne ga0 gkq (by decide)))).symm
        have m2087 := cy1963_9.trans (Wr.neR wH2064 (Or.inl (G_ne ga0 gkq (by decide)))).symm
        have m2088 := cy1963_10.trans (Wr.neR wH2064 (Or.inl (G_ne ga0 gkq (by decide)))).symm
        have m2089 := Wr.I wH2064
        refine lv_aload_n hx hb dX10_bar_67 rfl (lv_at hl1960 0 rfl) ?_
        refine x_gr C hTH2064 (ci := 10) (k := 6) rfl inX10 (by decide) wF_X10_20 ga0 rg_112 rfl dX10_bar_68 (fun q2090 eq2090 gq2090 => ?_)
        have uq2090 : gnq = q2090 := (m2080).trans eq2090.symm
        subst uq2090
        refine lv_iload_n hx hb dX10_bar_71 rfl (lv_at hl1960 1 rfl) ?_
        refine lv_iconst (v := 5) hx hb dX10_bar_72 (by decide) ?_
        refine x_iast C hTH2064 hSH2064 ggnq rg_115 (by omega) (by show _ < ((160 : Nat) : Int); omega) (by decide) (AE_in ggnq (by decide)) dX10_bar_73 (fun H2091 locsH2091 hTH2091 hSH2091 wH2091 => ?_)
        have mf2092 : MF K s.heap H2091 a0 [0, 1] := MF.arr wH2091 (G_ne ga0 ggnq (by decide)) mf2065
        have g2093 : CG (avw K H2091 a0) := CG.congr (fun k hk j => av_arr hTH2064 ga0 wH2091 ggnq (by decide) (CG_ok 115 (by decide) k hk)) g2066
        have g2094 : TU (avw K H2091 a0) (svw K H2091 a0) := TU.congr (fun k hk j => av_arr hTH2064 ga0 wH2091 ggnq (by decide) (TU_ok 115 (by decide) k hk)) (fun k hk => sv_arr ga0 wH2091 ggnq (by decide)) g2067
        have g2095 : WD (avw K H2091 a0) := WD.congr (fun k hk j => av_arr hTH2064 ga0 wH2091 ggnq (by decide) (WD_ok 115 (by decide) k hk)) g2068
        have g2096 : IM (avw K H2091 a0) := IM.congr (fun k hk j => av_arr hTH2064 ga0 wH2091 ggnq (by decide) (IM_ok 115 (by decide) k hk)) g2069
        have b2097 : AB H2091 slq (bs.toNatClampNeg + 1) (1) (16) := AB.kept (fun j => Wr.neI wH2091 (Or.inl (G_ne gslq ggnq (by decide)))) b2070
        have f2098 : ∀ j : Nat, fI H2091 gq j = fI s.heap gq j := fun j => (Wr.neI wH2091 (Or.inl (G_ne ggq ggnq (by decide)))).trans (f2071 j)
        have f2099 : ∀ j : Nat, fI H2091 paq j = fI s.heap paq j := fun j => (Wr.neI wH2091 (Or.inl (G_ne gpaq ggnq (by decide)))).trans (f2072 j)
        have f2100 : ∀ j : Nat, fI H2091 pdq j = fI s.heap pdq j := fun j => (Wr.neI wH2091 (Or.inl (G_ne gpdq ggnq (by decide)))).trans (f2073 j)
        have f2101 : ∀ j : Nat, fI H2091 psq j = fI s.heap psq j := fun j => (Wr.neI wH2091 (Or.inl (G_ne gpsq ggnq (by decide)))).trans (f2074 j)
        have f2102 : ∀ j : Nat, fI H2091 lbq j = fI s.heap lbq j := fun j => (Wr.neI wH2091 (Or.inl (G_ne glbq ggnq (by decide)))).trans (f2075 j)
        have f2103 : ∀ j : Nat, j ≠ bs.toNatClampNeg → fI H2091 slq j = fI s.heap slq j := fun j hj => (Wr.neI wH2091 (Or.inl (G_ne gslq ggnq (by decide)))).trans (f2076 j hj)
        have m2104 := m2077.trans (Wr.neI wH2091 (Or.inl (G_ne ga0 ggnq (by decide)))).symm
        have m2105 := m2078.trans (Wr.neR wH2091 (Or.inl (G_ne ga0 ggnq (by decide)))).symm
        have m2106 := m2079.trans (Wr.neR wH2091 (Or.inl (G_ne ga0 ggnq (by decide)))).symm
        have m2107 := m2080.trans (Wr.neR wH2091 (Or.inl (G_ne ga0 ggnq (by decide)))).symm
        have m2108 := m2081.trans (Wr.neR wH2091 (Or.inl (G_ne ga0 ggnq (by decide)))).symm
        have m2109 := m2082.trans (Wr.neR wH2091 (Or.inl (G_ne ga0 ggnq (by decide)))).symm
        have m2110 := m2083.trans (Wr.neR wH2091 (Or.inl (G_ne ga0 ggnq (by decide)))).symm
        have m2111 := m2084.trans (Wr.neR wH2091 (Or.inl (G_ne ga0 ggnq (by decide)))).symm
        have m2112 := m2085.trans (Wr.neR wH2091 (Or.inl (G_ne ga0 ggnq (by decide)))).symm
        have m2113 := m2086.trans (Wr.neR wH2091 (Or.inl (G_ne ga0 ggnq (by decide)))).symm
        have m2114 := m2087.trans (Wr.neR wH2091 (Or.inl (G_ne ga0 ggnq (by decide)))).symm
        have m2115 := m2088.trans (Wr.neR wH2091 (Or.inl (G_ne ga0 ggnq (by decide)))).symm
        have m2116 := (Wr.neI wH2091 (Or.inl (G_ne gkq ggnq (by decide)))).trans m2089
        have m2117 := Wr.I wH2091
        refine lv_aload_n hx hb dX10_bar_74 rfl (lv_at hl1960 0 rfl) ?_
        refine x_gr C hTH2091 (ci := 10) (k := 7) rfl inX10 (by decide) wF_X10_23 ga0 rg_112 rfl dX10_bar_75 (fun q2118 eq2118 gq2118 => ?_)
        have uq2118 : hvq = q2118 := (m2108).trans eq2118.symm
        subst uq2118
        refine lv_iload_n hx hb dX10_bar_78 rfl (lv_at hl1960 1 rfl) ?_
        refine lv_iconst (v := 5) hx hb dX10_bar_79 (by decide) ?_
        refine x_iast C hTH2091 hSH2091 ghvq rg_116 (by omega) (by show _ < ((160 : Nat) : Int); omega) (by decide) (AE_in ghvq (by decide)) dX10_bar_80 (fun H2119 locsH2119 hTH2119 hSH2119 wH2119 => ?_)
        have mf2120 : MF K s.heap H2119 a0 [0, 1] := MF.arr wH2119 (G_ne ga0 ghvq (by decide)) mf2092
        have g2121 : CG (avw K H2119 a0) := CG.congr (fun k hk j => av_arr hTH2091 ga0 wH2119 ghvq (by decide) (CG_ok 116 (by decide) k hk)) g2093
        have g2122 : TU (avw K H2119 a0) (svw K H2119 a0) := TU.congr (fun k hk j => av_arr hTH2091 ga0 wH2119 ghvq (by decide) (TU_ok 116 (by decide) k hk)) (fun k hk => sv_arr ga0 wH2119 ghvq (by decide)) g2094
        have g2123 : WD (avw K H2119 a0) := WD.congr (fun k hk j => av_arr hTH2091 ga0 wH2119 ghvq (by decide) (WD_ok 116 (by decide) k hk)) g2095
        have g2124 : IM (avw K H2119 a0) := IM.congr (fun k hk j => av_arr hTH2091 ga0 wH2119 ghvq (by decide) (IM_ok 116 (by decide) k hk)) g2096
        have b2125 : AB H2119 slq (bs.toNatClampNeg + 1) (1) (16) := AB.kept (fun j => Wr.neI wH2119 (Or.inl (G_ne gslq ghvq (by decide)))) b2097
        have f2126 : ∀ j : Nat, fI H2119 gq j = fI s.heap gq j := fun j => (Wr.neI wH2119 (Or.inl (G_ne ggq ghvq (by decide)))).trans (f2098 j)
        have f2127 : ∀ j : Nat, fI H2119 paq j = fI s.heap paq j := fun j => (Wr.neI wH2119 (Or.inl (G_ne gpaq ghvq (by decide)))).trans (f2099 j)
        have f2128 : ∀ j : Nat, fI H2119 pdq j = fI s.heap pdq j := fun j => (Wr.neI wH2119 (Or.inl (G_ne gpdq ghvq (by decide)))).trans (f2100 j)
        have f2129 : ∀ j : Nat, fI H2119 psq j = fI s.heap psq j := fun j => (Wr.neI wH2119 (Or.inl (G_ne gpsq ghvq (by decide)))).trans (f2101 j)
        have f2130 : ∀ j : Nat, fI H2119 lbq j = fI s.heap lbq j := fun j => (Wr.neI wH2119 (Or.inl (G_ne glbq ghvq (by decide)))).trans (f2102 j)
        have f2131 : ∀ j : Nat, j ≠ bs.toNatClampNeg → fI H2119 slq j = fI s.heap slq j := fun j hj => (Wr.neI wH2119 (Or.inl (G_ne gslq ghvq (by decide)))).trans (f2103 j hj)
        have m2132 := m2104.trans (Wr.neI wH2119 (Or.inl (G_ne ga0 ghvq (by decide)))).symm
        have m2133 := m2105.trans (Wr.neR wH2119 (Or.inl (G_ne ga0 ghvq (by decide)))).symm
        have m2134 := m2106.trans (Wr.neR wH2119 (Or.inl (G_ne ga0 ghvq (by decide)))).symm
        have m2135 := m2107.trans (Wr.neR wH2119 (Or.inl (G_ne ga0 ghvq (by decide)))).symm
        have m2136 := m2108.trans (Wr.neR wH2119 (Or.inl (G_ne ga0 ghvq (by decide)))).symm
        have m2137 := m2109.trans (Wr.neR wH2119 (Or.inl (G_ne ga0 ghvq (by decide)))).symm
        have m2138 := m2110.trans (Wr.neR wH2119 (Or.inl (G_ne ga0 ghvq (by decide)))).symm
        have m2139 := m2111.trans (Wr.neR wH2119 (Or.inl (G_ne ga0 ghvq (by decide)))).symm
        have m2140 := m2112.trans (Wr.neR wH2119 (Or.inl (G_ne ga0 ghvq (by decide)))).symm
        have m2141 := m2113.trans (Wr.neR wH2119 (Or.inl (G_ne ga0 ghvq (by decide)))).symm
        have m2142 := m2114.trans (Wr.neR wH2119 (Or.inl (G_ne ga0 ghvq (by decide)))).symm
        have m2143 := m2115.trans (Wr.neR wH2119 (Or.inl (G_ne ga0 ghvq (by decide)))).symm
        have m2144 := (Wr.neI wH2119 (Or.inl (G_ne gkq ghvq (by decide)))).trans m2116
        have m2145 := (Wr.neI wH2119 (Or.inl (G_ne ggnq ghvq (by decide)))).trans m2117
        have m2146 := Wr.I wH2119
        refine lv_aload_n hx hb dX10_bar_81 rfl (lv_at hl1960 0 rfl) ?_
        refine x_gr C hTH2119 (ci := 10) (k := 8) rfl inX10 (by decide) wF_X10_26 ga0 rg_112 rfl dX10_bar_82 (fun q2147 eq2147 gq2147 => ?_)
        have uq2147 : wxq = q2147 := (m2137).trans eq2147.symm
        subst uq2147
        refine lv_iload_n hx hb dX10_bar_85 rfl (lv_at hl1960 1 rfl) ?_
        refine lv_iconst (v := 0) hx hb dX10_bar_86 (by decide) ?_
        refine x_iast C hTH2119 hSH2119 gwxq rg_117 (by omega) (by show _ < ((160 : Nat) : Int); omega) (by decide) (AE_in gwxq (by decide)) dX10_bar_87 (fun H2148 locsH2148 hTH2148 hSH2148 wH2148 => ?_)
        have mf2149 : MF K s.heap H2148 a0 [0, 1] := MF.arr wH2148 (G_ne ga0 gwxq (by decide)) mf2120
        have g2150 : CG (avw K H2148 a0) := CG.congr (fun k hk j => av_arr hTH2119 ga0 wH2148 gwxq (by decide) (CG_ok 117 (by decide) k hk)) g2121
        have g2151 : TU (avw K H2148 a0) (svw K H2148 a0) := TU.congr (fun k hk j => av_arr hTH2119 ga0 wH2148 gwxq (by decide) (TU_ok 117 (by decide) k hk)) (fun k hk => sv_arr ga0 wH2148 gwxq (by decide)) g2122
        have g2152 : WD (avw K H2148 a0) := WD.congr (fun k hk j => av_arr hTH2119 ga0 wH2148 gwxq (by decide) (WD_ok 117 (by decide) k hk)) g2123
        have g2153 : IM (avw K H2148 a0) := IM.congr (fun k hk j => av_arr hTH2119 ga0 wH2148 gwxq (by decide) (IM_ok 117 (by decide) k hk)) g2124
        have b2154 : AB H2148 slq (bs.toNatClampNeg + 1) (1) (16) := AB.kept (fun j => Wr.neI wH2148 (Or.inl (G_ne gslq gwxq (by decide)))) b2125
        have f2155 : ∀ j : Nat, fI H2148 gq j = fI s.heap gq j := fun j => (Wr.neI wH2148 (Or.inl (G_ne ggq gwxq (by decide)))).trans (f2126 j)
        have f2156 : ∀ j : Nat, fI H2148 paq j = fI s.heap paq j := fun j => (Wr.neI wH2148 (Or.inl (G_ne gpaq gwxq (by decide)))).trans (f2127 j)
        have f2157 : ∀ j : Nat, fI H2148 pdq j = fI s.heap pdq j := fun j => (Wr.neI wH2148 (Or.inl (G_ne gpdq gwxq (by decide)))).trans (f2128 j)
        have f2158 : ∀ j : Nat, fI H2148 psq j = fI s.heap psq j := fun j => (Wr.neI wH2148 (Or.inl (G_ne gpsq gwxq (by decide)))).trans (f2129 j)
        have f2159 : ∀ j : Nat, fI H2148 lbq j = fI s.heap lbq j := fun j => (Wr.neI wH2148 (Or.inl (G_ne glbq gwxq (by decide)))).trans (f2130 j)
        have f2160 : ∀ j : Nat, j ≠ bs.toNatClampNeg → fI H2148 slq j = fI s.heap slq j := fun j hj => (Wr.neI wH2148 (Or.inl (G_ne gslq gwxq (by decide)))).trans (f2131 j hj)
        have m2161 := m2132.trans (Wr.neI wH2148 (Or.inl (G_ne ga0 gwxq (by decide)))).symm
        have m2162 := m2133.trans (Wr.neR wH2148 (Or.inl (G_ne ga0 gwxq (by decide)))).symm
        have m2163 := m2134.trans (Wr.neR wH2148 (Or.inl (G_ne ga0 gwxq (by decide)))).symm
        have m2164 := m2135.trans (Wr.neR wH2148 (Or.inl (G_ne ga0 gwxq (by decide)))).symm
        have m2165 := m2136.trans (Wr.neR wH2148 (Or.inl (G_ne ga0 gwxq (by decide)))).symm
        have m2166 := m2137.trans (Wr.neR wH2148 (Or.inl (G_ne ga0 gwxq (by decide)))).symm
        have m2167 := m2138.trans (Wr.neR wH2148 (Or.inl (G_ne ga0 gwxq (by decide)))).symm
        have m2168 := m2139.trans (Wr.neR wH2148 (Or.inl (G_ne ga0 gwxq (by decide)))).symm
        have m2169 := m2140.trans (Wr.neR wH2148 (Or.inl (G_ne ga0 gwxq (by decide)))).symm
        have m2170 := m2141.trans (Wr.neR wH2148 (Or.inl (G_ne ga0 gwxq (by decide)))).symm
        have m2171 := m2142.trans (Wr.neR wH2148 (Or.inl (G_ne ga0 gwxq (by decide)))).symm
        have m2172 := m2143.trans (Wr.neR wH2148 (Or.inl (G_ne ga0 gwxq (by decide)))).symm
        have m2173 := (Wr.neI wH2148 (Or.inl (G_ne gkq gwxq (by decide)))).trans m2144
        have m2174 := (Wr.neI wH2148 (Or.inl (G_ne ggnq gwxq (by decide)))).trans m2145
        have m2175 := (Wr.neI wH2148 (Or.inl (G_ne ghvq gwxq (by decide)))).trans m2146
        have m2176 := Wr.I wH2148
        obtain ⟨x2177, ex2177⟩ : ∃ y : Int32, y = x1961 + 1 := ⟨_, rfl⟩
        have tx2177 := i_add ex2177 (by omega)
        refine lv_iinc (v := x2177) (lv' := [(2, .int x2177), (0, .ref a0)]) hx hb dX10_bar_88 hl1960 (k := 1) rfl (by rw [ex2177]; rfl) (by decide) rfl (fun ls2178 hl2179 => ?_)
        refine lv_goto (tgt := 45) hx hb dX10_bar_91 (by decide) ?_
        have cl_bs := i_cl (x := bs) (by omega)
        have cn_x2177 := i_cl (x := x2177) (by omega)
        have cn_bs := i_cl (x := bs) (by omega)
        have cn_x1961 := i_cl (x := x1961) (by omega)
        exact ih45  ls2178 H2148 locsH2148 (x2177) (x1962) (lv_sub hl2179 [1, 0] rfl) hTH2148 hSH2148 (by have := i_rng x2177; omega) (by have := i_rng x1962; omega) m2161 m2162 m2163 m2164 m2165 m2166 m2167 m2168 m2169 m2170 m2171 m2172 (AB.weak b2154 (by omega) (by omega) (by omega)) mf2149 g2150 g2151 g2152 g2153 f2155 f2156 f2157 f2158 f2159 f2160 (by omega) (by omega) (BLP.go hbl45 (by omega) (by omega) (fun l hl => ((Wr.neI wH2148 (Or.inl (G_ne gkq gwxq (by decide)))).trans ((Wr.neI wH2119 (Or.inl (G_ne gkq ghvq (by decide)))).trans (Wr.neI wH2091 (Or.inl (G_ne gkq ggnq (by decide)))))).trans (Wr.neI wH2064 (Or.inr hl))) (((Wr.neI wH2148 (Or.inl (G_ne gkq gwxq (by decide)))).trans ((Wr.neI wH2119 (Or.inl (G_ne gkq ghvq (by decide)))).trans (Wr.neI wH2091 (Or.inl (G_ne gkq ggnq (by decide)))))).trans (Wr.I wH2064)) (fun l hl => ((Wr.neI wH2148 (Or.inl (G_ne ggnq gwxq (by decide)))).trans (Wr.neI wH2119 (Or.inl (G_ne ggnq ghvq (by decide))))).trans ((Wr.neI wH2091 (Or.inr hl)).trans (Wr.neI wH2064 (Or.inl (G_ne ggnq gkq (by decide)))))) (((Wr.neI wH2148 (Or.inl (G_ne ggnq gwxq (by decide)))).trans (Wr.neI wH2119 (Or.inl (G_ne ggnq ghvq (by decide))))).trans (Wr.I wH2091)) (fun l hl => (Wr.neI wH2148 (Or.inl (G_ne ghvq gwxq (by decide)))).trans (((Wr.neI wH2119 (Or.inr hl)).trans (Wr.neI wH2091 (Or.inl (G_ne ghvq ggnq (by decide))))).trans (Wr.neI wH2064 (Or.inl (G_ne ghvq gkq (by decide)))))) ((Wr.neI wH2148 (Or.inl (G_ne ghvq gwxq (by decide)))).trans (Wr.I wH2119)) (fun l hl => (((Wr.neI wH2148 (Or.inr hl)).trans (Wr.neI wH2119 (Or.inl (G_ne gwxq ghvq (by decide))))).trans (Wr.neI wH2091 (Or.inl (G_ne gwxq ggnq (by decide))))).trans (Wr.neI wH2064 (Or.inl (G_ne gwxq gkq (by decide))))) (Wr.I wH2148)) ((congrArg Int32.toInt ((Wr.neI wH2148 (Or.inl (G_ne gslq gwxq (by decide)))).trans ((Wr.neI wH2119 (Or.inl (G_ne gslq ghvq (by decide)))).trans ((Wr.neI wH2091 (Or.inl (G_ne gslq ggnq (by decide)))).trans (Wr.neI wH2064 (Or.inl (G_ne gslq gkq (by decide)))))))).trans hsl45)
  refine lv_aload_n hx hb dX10_bar_0 rfl (lv_at hl 0 rfl) ?_
  refine lv_iconst (v := 0) hx hb dX10_bar_1 (by decide) ?_
  refine x_put C hT hS (ci := 10) (k := 0) (v := .int 0) (ty0 := tyX10) rfl inX10 tyX10_ok nmX10 (by decide) rfl wF_X10_167 ga0 rg_112 rfl rfl (okI (by have := i_rng (0 : Int32); omega) (by have := i_rng (0 : Int32); omega)) rfl rfl (AE_in ga0 (by decide)) dX10_bar_2 (fun H2180 locsH2180 hTH2180 hSH2180 wH2180 => ?_)
  have mf2181 : MF K s.heap H2180 a0 [0, 1] := MF.fld hap wH2180 (by decide) (by decide) mf0
  have g2182 : CG (avw K H2180 a0) := CG.congr (fun k hk j => av_fld hT ga0 hap wH2180 (by decide) (CG_ok 112 (by decide) k hk) (CG_ne 0 (by decide) k hk)) hg_CG
  have g2183 : TU (avw K H2180 a0) (svw K H2180 a0) := TU.congr (fun k hk j => av_fld hT ga0 hap wH2180 (by decide) (TU_ok 112 (by decide) k hk) (TU_ne 0 (by decide) k hk)) (fun k hk => sv_fld hap wH2180 (by decide) (TU_slt k hk) (TU_sne 0 (by decide) k hk)) hg_TU
  have g2184 : WD (avw K H2180 a0) := WD.congr (fun k hk j => av_fld hT ga0 hap wH2180 (by decide) (WD_ok 112 (by decide) k hk) (WD_ne 0 (by decide) k hk)) hg_WD
  have g2185 : IM (avw K H2180 a0) := IM.congr (fun k hk j => av_fld hT ga0 hap wH2180 (by decide) (IM_ok 112 (by decide) k hk) (IM_ne 0 (by decide) k hk)) hg_IM
  have f2186 : ∀ j : Nat, fI H2180 gq j = fI s.heap gq j := fun j => (Wr.neI wH2180 (Or.inl (G_ne ggq ga0 (by decide)))).trans (f0_o_gq j)
  have f2187 : ∀ j : Nat, fI H2180 paq j = fI s.heap paq j := fun j => (Wr.neI wH2180 (Or.inl (G_ne gpaq ga0 (by decide)))).trans (f0_o_paq j)
  have f2188 : ∀ j : Nat, fI H2180 pdq j = fI s.heap pdq j := fun j => (Wr.neI wH2180 (Or.inl (G_ne gpdq ga0 (by decide)))).trans (f0_o_pdq j)
  have f2189 : ∀ j : Nat, fI H2180 psq j = fI s.heap psq j := fun j => (Wr.neI wH2180 (Or.inl (G_ne gpsq ga0 (by decide)))).trans (f0_o_psq j)
  have f2190 : ∀ j : Nat, fI H2180 lbq j = fI s.heap lbq j := fun j => (Wr.neI wH2180 (Or.inl (G_ne glbq ga0 (by decide)))).trans (f0_o_lbq j)
  have f2191 : ∀ j : Nat, j ≠ bs.toNatClampNeg → fI H2180 slq j = fI s.heap slq j := fun j hj => (Wr.neI wH2180 (Or.inl (G_ne gslq ga0 (by decide)))).trans (f0_o_slq j hj)
  have m2192 := eslq.trans (Wr.neR wH2180 (Or.inr (x_apart hKT hts inX10 tyX10 tyX10_ok nmX10 rfl 4 0 (by decide) (by decide) (by decide)))).symm
  have m2193 := ekq.trans (Wr.neR wH2180 (Or.inr (x_apart hKT hts inX10 tyX10 tyX10_ok nmX10 rfl 5 0 (by decide) (by decide) (by decide)))).symm
  have m2194 := egnq.trans (Wr.neR wH2180 (Or.inr (x_apart hKT hts inX10 tyX10 tyX10_ok nmX10 rfl 6 0 (by decide) (by decide) (by decide)))).symm
  have m2195 := ehvq.trans (Wr.neR wH2180 (Or.inr (x_apart hKT hts inX10 tyX10 tyX10_ok nmX10 rfl 7 0 (by decide) (by decide) (by decide)))).symm
  have m2196 := ewxq.trans (Wr.neR wH2180 (Or.inr (x_apart hKT hts inX10 tyX10 tyX10_ok nmX10 rfl 8 0 (by decide) (by decide) (by decide)))).symm
  have m2197 := etbq.trans (Wr.neR wH2180 (Or.inr (x_apart hKT hts inX10 tyX10 tyX10_ok nmX10 rfl 16 0 (by decide) (by decide) (by decide)))).symm
  have m2198 := egq.trans (Wr.neR wH2180 (Or.inr (x_apart hKT hts inX10 tyX10 tyX10_ok nmX10 rfl 9 0 (by decide) (by decide) (by decide)))).symm
  have m2199 := epaq.trans (Wr.neR wH2180 (Or.inr (x_apart hKT hts inX10 tyX10 tyX10_ok nmX10 rfl 11 0 (by decide) (by decide) (by decide)))).symm
  have m2200 := epdq.trans (Wr.neR wH2180 (Or.inr (x_apart hKT hts inX10 tyX10 tyX10_ok nmX10 rfl 12 0 (by decide) (by decide) (by decide)))).symm
  have m2201 := epsq.trans (Wr.neR wH2180 (Or.inr (x_apart hKT hts inX10 tyX10 tyX10_ok nmX10 rfl 10 0 (by decide) (by decide) (by decide)))).symm
  have m2202 := elbq.trans (Wr.neR wH2180 (Or.inr (x_apart hKT hts inX10 tyX10 tyX10_ok nmX10 rfl 13 0 (by decide) (by decide) (by decide)))).symm
  have m2203 := ebs.trans (Wr.neI wH2180 (Or.inr (x_apart hKT hts inX10 tyX10 tyX10_ok nmX10 rfl 1 0 (by decide) (by decide) (by decide)))).symm
  have m2204 := Wr.I wH2180
  refine lv_aload_n hx hb dX10_bar_5 rfl (lv_at hl 0 rfl) ?_
  refine lv_iload_n hx hb dX10_bar_6 rfl (lv_at hl 1 rfl) ?_
  refine lv_iconst (v := 3) hx hb dX10_bar_7 (by decide) ?_
  refine lv_bipush (v := 16) hx hb dX10_bar_8 (by decide) ?_
  refine x_V (As := [.int x1, .int 3, .int 16]) (rest := []) C (a_X10_isIn_v l K G H2180 (x1) (3) (16) hTH2180 ga0) yo_X10_isIn wM_X10_177 ⟨⟨by decide, by decide⟩, by decide, by decide⟩ (x_rv C hTH2180 (ci := 10) rfl ga0 rg_112) rfl hl.1 rfl (Nat.le_of_ble_eq_true rfl) dX10_bar_10 hSH2180 (AE_sub (fun _ _ => rfl) (by decide) hSH2180.1) (fun vH2205 H2205 locsH2205 pH2205 zH2205 kH2205 hSH2205 => ?_)
  obtain ⟨x2206, hvH2205, bx2206, hrH2205, hTH2205⟩ := pH2205
  subst hvH2205
  have mf2207 : MF K s.heap H2205 a0 [0, 1] := MF.eff (x_lt hTH2180 kH2205 ga0 (by decide)) mf2181
  have g2208 : CG (avw K H2205 a0) := CG.congr (fun k hk j => av_eff hTH2180 kH2205 ga0 (by decide) (CG_eff [] (by decide) k hk)) g2182
  have g2209 : TU (avw K H2205 a0) (svw K H2205 a0) := TU.congr (fun k hk j => av_eff hTH2180 kH2205 ga0 (by decide) (TU_eff [] (by decide) k hk)) (fun k hk => sv_eff hTH2180 kH2205 ga0 (by decide)) g2183
  have g2210 : WD (avw K H2205 a0) := WD.congr (fun k hk j => av_eff hTH2180 kH2205 ga0 (by decide) (WD_eff [] (by decide) k hk)) g2184
  have g2211 : IM (avw K H2205 a0) := IM.congr (fun k hk j => av_eff hTH2180 kH2205 ga0 (by decide) (IM_eff [] (by decide) k hk)) g2185
  have f2212 : ∀ j : Nat, fI H2205 gq j = fI s.heap gq j := fun j => (fI_kept (x_lt hTH2180 kH2205 ggq (by decide))).trans (f2186 j)
  have f2213 : ∀ j : Nat, fI H2205 paq j = fI s.heap paq j := fun j => (fI_kept (x_lt hTH2180 kH2205 gpaq (by decide))).trans (f2187 j)
  have f2214 : ∀ j : Nat, fI H2205 pdq j = fI s.heap pdq j := fun j => (fI_kept (x_lt hTH2180 kH2205 gpdq (by decide))).trans (f2188 j)
  have f2215 : ∀ j : Nat, fI H2205 psq j = fI s.heap psq j := fun j => (fI_kept (x_lt hTH2180 kH2205 gpsq (by decide))).trans (f2189 j)
  have f2216 : ∀ j : Nat, fI H2205 lbq j = fI s.heap lbq j := fun j => (fI_kept (x_lt hTH2180 kH2205 glbq (by decide))).trans (f2190 j)
  have f2217 : ∀ j : Nat, j ≠ bs.toNatClampNeg → fI H2205 slq j = fI s.heap slq j := fun j hj => (fI_kept (x_lt hTH2180 kH2205 gslq (by decide))).trans (f2191 j hj)
  have m2218 := (m2192).trans (fR_kept (x_lt hTH2180 kH2205 ga0 (by decide))).symm
  have m2219 := (m2193).trans (fR_kept (x_lt hTH2180 kH2205 ga0 (by decide))).symm
  have m2220 := (m2194).trans (fR_kept (x_lt hTH2180 kH2205 ga0 (by decide))).symm
  have m2221 := (m2195).trans (fR_kept (x_lt hTH2180 kH2205 ga0 (by decide))).symm
  have m2222 := (m2196).trans (fR_kept (x_lt hTH2180 kH2205 ga0 (by decide))).symm
  have m2223 := (m2197).trans (fR_kept (x_lt hTH2180 kH2205 ga0 (by decide))).symm
  have m2224 := (m2198).trans (fR_kept (x_lt hTH2180 kH2205 ga0 (by decide))).symm
  have m2225 := (m2199).trans (fR_kept (x_lt hTH2180 kH2205 ga0 (by decide))).symm
  have m2226 := (m2200).trans (fR_kept (x_lt hTH2180 kH2205 ga0 (by decide))).symm
  have m2227 := (m2201).trans (fR_kept (x_lt hTH2180 kH2205 ga0 (by decide))).symm
  have m2228 := (m2202).trans (fR_kept (x_lt hTH2180 kH2205 ga0 (by decide))).symm
  have m2229 := (m2203).trans (fI_kept (x_lt hTH2180 kH2205 ga0 (by decide))).symm
  have m2230 := (fI_kept (x_lt hTH2180 kH2205 ga0 (by decide))).trans m2204
  refine W.eq (g2 := F0 m 13 ls [.int x2206]) rfl ?_
  refine lv_if_eq (tgt := 25) hx hb dX10_bar_13 (by decide) (fun c2231 => ?_) (fun c2231 => ?_)
  · have k2232 := i_eq c2231
    exfalso
    omega
  · have k2232 := i_ne c2231
    refine lv_aload_n hx hb dX10_bar_16 rfl (lv_at hl 0 rfl) ?_
    refine x_gi C hTH2205 (ci := 10) (k := 1) rfl inX10 (by decide) wF_X10_170 ga0 rg_112 rfl dX10_bar_17 (fun x2233 ex2233 bx2233 => ?_)
    have ux2233 : bs = x2233 := (m2229).trans ex2233.symm
    subst ux2233
    refine lv_bipush (v := 10) hx hb dX10_bar_20 (by decide) ?_
    refine lv_icmp_ne (tgt := 27) hx hb dX10_bar_22 (by decide) (fun c2234 => ?_) (fun c2234 => ?_)
    · have k2235 := i_ne c2234
      have cbsl := i_cl (x := bs) (by omega)
      have asl : AB H2205 slq (bs.toNatClampNeg) 1 16 := TU.abS g2209 m2218 m2229 (by omega) (fun j hj => (by obtain ⟨c, -, -, -, -, -, -, h⟩ := hTH2205.aint gslq rg_113 (j := j) (by omega); exact h))
      refine lv_aload_n hx hb dX10_bar_27 rfl (lv_at hl 0 rfl) ?_
      refine x_gr C hTH2205 (ci := 10) (k := 4) rfl inX10 (by decide) wF_X10_13 ga0 rg_112 rfl dX10_bar_28 (fun q2236 eq2236 gq2236 => ?_)
      have uq2236 : slq = q2236 := (m2218).trans eq2236.symm
      subst uq2236
      refine lv_aload_n hx hb dX10_bar_31 rfl (lv_at hl 0 rfl) ?_
      refine x_gi C hTH2205 (ci := 10) (k := 1) rfl inX10 (by decide) wF_X10_170 ga0 rg_112 rfl dX10_bar_32 (fun x2237 ex2237 bx2237 => ?_)
      have ux2237 : bs = x2237 := (m2229).trans ex2237.symm
      subst ux2237
      refine lv_iload_n hx hb dX10_bar_35 rfl (lv_at hl 1 rfl) ?_
      refine x_iast C hTH2205 hSH2205 gslq rg_113 (by omega) (by show _ < ((10 : Nat) : Int); omega) ⟨by have := i_rng x1; omega, by have := i_rng x1; omega⟩ (AE_in gslq (by decide)) dX10_bar_36 (fun H2238 locsH2238 hTH2238 hSH2238 wH2238 => ?_)
      have mf2239 : MF K s.heap H2238 a0 [0, 1] := MF.arr wH2238 (G_ne ga0 gslq (by decide)) mf2207
      have g2240 : CG (avw K H2238 a0) := CG.congr (fun k hk j => av_arr hTH2205 ga0 wH2238 gslq (by decide) (CG_ok 113 (by decide) k hk)) g2208
      have g2241 : TU (avw K H2238 a0) (svw K H2238 a0) := TU.putS hTH2205 ga0 wH2238 gslq m2218 (by omega) g2209
      have g2242 : WD (avw K H2238 a0) := WD.congr (fun k hk j => av_arr hTH2205 ga0 wH2238 gslq (by decide) (WD_ok 113 (by decide) k hk)) g2210
      have g2243 : IM (avw K H2238 a0) := IM.congr (fun k hk j => av_arr hTH2205 ga0 wH2238 gslq (by decide) (IM_ok 113 (by decide) k hk)) g2211
      have cjH2238 := i_cl (x := bs) (by omega)
      have b2244 : AB H2238 slq (bs.toNatClampNeg + 1) (1) (16) := (AB.ext wH2238 (by omega) asl (by omega) rfl)
      have f2245 : ∀ j : Nat, fI H2238 gq j = fI s.heap gq j := fun j => (Wr.neI wH2238 (Or.inl (G_ne ggq gslq (by decide)))).trans (f2212 j)
      have f2246 : ∀ j : Nat, fI H2238 paq j = fI s.heap paq j := fun j => (Wr.neI wH2238 (Or.inl (G_ne gpaq gslq (by decide)))).trans (f2213 j)
      have f2247 : ∀ j : Nat, fI H2238 pdq j = fI s.heap pdq j := fun j => (Wr.neI wH2238 (Or.inl (G_ne gpdq gslq (by decide)))).trans (f2214 j)
      have f2248 : ∀ j : Nat, fI H2238 psq j = fI s.heap psq j := fun j => (Wr.neI wH2238 (Or.inl (G_ne gpsq gslq (by decide)))).trans (f2215 j)
      have f2249 : ∀ j : Nat, fI H2238 lbq j = fI s.heap lbq j := fun j => (Wr.neI wH2238 (Or.inl (G_ne glbq gslq (by decide)))).trans (f2216 j)
      have f2250 : ∀ j : Nat, j ≠ bs.toNatClampNeg → fI H2238 slq j = fI s.heap slq j := fun j hj => (Wr.neI wH2238 (Or.inr hj)).trans (f2217 j hj)
      have m2251 := m2218.trans (Wr.neR wH2238 (Or.inl (G_ne ga0 gslq (by decide)))).symm
      have m2252 := m2219.trans (Wr.neR wH2238 (Or.inl (G_ne ga0 gslq (by decide)))).symm
      have m2253 := m2220.trans (Wr.neR wH2238 (Or.inl (G_ne ga0 gslq (by decide)))).symm
      have m2254 := m2221.trans (Wr.neR wH2238 (Or.inl (G_ne ga0 gslq (by decide)))).symm
      have m2255 := m2222.trans (Wr.neR wH2238 (Or.inl (G_ne ga0 gslq (by decide)))).symm
      have m2256 := m2223.trans (Wr.neR wH2238 (Or.inl (G_ne ga0 gslq (by decide)))).symm
      have m2257 := m2224.trans (Wr.neR wH2238 (Or.inl (G_ne ga0 gslq (by decide)))).symm
      have m2258 := m2225.trans (Wr.neR wH2238 (Or.inl (G_ne ga0 gslq (by decide)))).symm
      have m2259 := m2226.trans (Wr.neR wH2238 (Or.inl (G_ne ga0 gslq (by decide)))).symm
      have m2260 := m2227.trans (Wr.neR wH2238 (Or.inl (G_ne ga0 gslq (by decide)))).symm
      have m2261 := m2228.trans (Wr.neR wH2238 (Or.inl (G_ne ga0 gslq (by decide)))).symm
      have m2262 := m2229.trans (Wr.neI wH2238 (Or.inl (G_ne ga0 gslq (by decide)))).symm
      have m2263 := (Wr.neI wH2238 (Or.inl (G_ne ga0 gslq (by decide)))).trans m2230
      have m2264 := Wr.I wH2238
      have m2264 := m2264.symm
      refine lv_bipush (v := 16) hx hb dX10_bar_37 (by decide) ?_
      refine lv_aload_n hx hb dX10_bar_39 rfl (lv_at hl 0 rfl) ?_
      refine x_gi C hTH2238 (ci := 10) (k := 1) rfl inX10 (by decide) wF_X10_170 ga0 rg_112 rfl dX10_bar_40 (fun x2265 ex2265 bx2265 => ?_)
      have ux2265 : bs = x2265 := (m2262).trans ex2265.symm
      subst ux2265
      refine lv_imul hx hb dX10_bar_43 ?_
      refine lv_topi (fun x2266 ex2266 => ?_)
      have tx2266 := i_mul ex2266 (by rw [n_16]; omega)
      rw [n_16] at tx2266
      refine lv_istore_n (lv' := [(2, .int x2266), (0, .ref a0), (1, .int x1)]) hx hb dX10_bar_44 rfl hl (by decide) rfl (fun ls2267 hl2268 => ?_)
      have cl_bs := i_cl (x := bs) (by omega)
      have cn_x2266 := i_cl (x := x2266) (by omega)
      have cn_bs := i_cl (x := bs) (by omega)
      exact J45 ((200 - x2266.toInt).toNat + 1)  ls2267 H2238 locsH2238 (x2266) (bs) (lv_sub hl2268 [1, 0] rfl) hTH2238 hSH2238 (by have := i_rng x2266; omega) (by have := i_rng bs; omega) m2262 m2251 m2252 m2253 m2254 m2255 m2256 m2257 m2258 m2259 m2260 m2261 (AB.weak b2244 (by omega) (by omega) (by omega)) mf2239 g2240 g2241 g2242 g2243 f2245 f2246 f2247 f2248 f2249 f2250 (by omega) (by omega) (BLP.nil (by omega) (fun l => (Wr.neI wH2238 (Or.inl (G_ne gkq gslq (by decide)))).trans ((fI_kept (x_lt hTH2180 kH2205 gkq (by decide))).trans (Wr.neI wH2180 (Or.inl (G_ne gkq ga0 (by decide)))))) (fun l => (Wr.neI wH2238 (Or.inl (G_ne ggnq gslq (by decide)))).trans ((fI_kept (x_lt hTH2180 kH2205 ggnq (by decide))).trans (Wr.neI wH2180 (Or.inl (G_ne ggnq ga0 (by decide)))))) (fun l => (Wr.neI wH2238 (Or.inl (G_ne ghvq gslq (by decide)))).trans ((fI_kept (x_lt hTH2180 kH2205 ghvq (by decide))).trans (Wr.neI wH2180 (Or.inl (G_ne ghvq ga0 (by decide)))))) (fun l => (Wr.neI wH2238 (Or.inl (G_ne gwxq gslq (by decide)))).trans ((fI_kept (x_lt hTH2180 kH2205 gwxq (by decide))).trans (Wr.neI wH2180 (Or.inl (G_ne gwxq ga0 (by decide))))))) (by rw [← m2264])
    · have k2235 := i_eq c2234
      exfalso
      omega

set_option maxHeartbeats 4000000 in
set_option maxRecDepth 100000 in
theorem a_X10_bar_n (l : Launch) (K : KE) (G : Nat → Option Nat) (H : Heap) {a0 : Nat} (x1 : Int32) (bs : Int32) (hT : TY K G H) (ga0 : G a0 = some 112) (ebs : bs = fI H a0 (K.1.2 10 1)) (hg_CG : CG (avw K H a0)) (hg_TU : TU (avw K H a0) (svw K H a0)) (hg_WD : WD (avw K H a0)) (hg_IM : IM (avw K H a0)) (hp0 : x1.toInt < 3 ∨ 16 < x1.toInt ∨ 10 ≤ bs.toInt) : MX l K yX10_bar cX10_bar 3 (some .int) 1 23 0 0 [.ref a0, .int x1] H (AE G [112] H.size) (fun v H1 => ∃ (r : Int32), v = some (.int r) ∧ ((-1) ≤ r.toInt ∧ r.toInt ≤ (-1)) ∧ bs = fI H1 a0 (K.1.2 10 1) ∧ (CG (avw K H1 a0)) ∧ (TU (avw K H1 a0) (svw K H1 a0)) ∧ (WD (avw K H1 a0)) ∧ (IM (avw K H1 a0)) ∧ MF K H H1 a0 [0, 1] ∧ TY K G H1) := by
  refine MX.of (by decide +kernel) (Nat.le_of_ble_eq_true rfl) ?_
  intro p e s m below meth c ls Q C hH hl hQ
  subst hH
  have C : CX p K s m _ meth c RX10 cX10_bar 3 (some .int) "bar" := C
  obtain ⟨hx, hb, hml, hown, hts, hKT, hr, hlocks, hnm⟩ := id C
  have hl : lv_has ls 3 [(0, .ref a0), (1, .int x1)] := hl
  have hS : va_S (AE G [112] s.heap.size) s.heap s.heap [] := va_S.rf
  have n_m1 : ((-1) : Int32).toInt = -1 := rfl
  have n_0 : (0 : Int32).toInt = 0 := rfl
  have n_3 : (3 : Int32).toInt = 3 := rfl
  have n_10 : (10 : Int32).toInt = 10 := rfl
  have n_16 : (16 : Int32).toInt = 16 := rfl
  have bbs := ty_fi (x := bs) (k := 1) ebs hT ga0 rg_112 rfl
  have hap : ∀ x y, x < 74 → y < 74 → x ≠ y → K.1.2 10 x ≠ K.1.2 10 y := x_apart hKT hts inX10 tyX10 tyX10_ok nmX10 rfl
  have mf0 : MF K s.heap s.heap a0 [0, 1] := fun _ _ _ => rfl
  refine lv_aload_n hx hb dX10_bar_0 rfl (lv_at hl 0 rfl) ?_
  refine lv_iconst (v := 0) hx hb dX10_bar_1 (by decide) ?_
  refine x_put C hT hS (ci := 10) (k := 0) (v := .int 0) (ty0 := tyX10) rfl inX10 tyX10_ok nmX10 (by decide) rfl wF_X10_167 ga0 rg_112 rfl rfl (okI (by have := i_rng (0 : Int32); omega) (by have := i_rng (0 : Int32); omega)) rfl rfl (AE_in ga0 (by decide)) dX10_bar_2 (fun H189 locsH189 hTH189 hSH189 wH189 => ?_)
  have mf190 : MF K s.heap H189 a0 [0, 1] := MF.fld hap wH189 (by decide) (by decide) mf0
  have g191 : CG (avw K H189 a0) := CG.congr (fun k hk j => av_fld hT ga0 hap wH189 (by decide) (CG_ok 112 (by decide) k hk) (CG_ne 0 (by decide) k hk)) hg_CG
  have g192 : TU (avw K H189 a0) (svw K H189 a0) := TU.congr (fun k hk j => av_fld hT ga0 hap wH189 (by decide) (TU_ok 112 (by decide) k hk) (TU_ne 0 (by decide) k hk)) (fun k hk => sv_fld hap wH189 (by decide) (TU_slt k hk) (TU_sne 0 (by decide) k hk)) hg_TU
  have g193 : WD (avw K H189 a0) := WD.congr (fun k hk j => av_fld hT ga0 hap wH189 (by decide) (WD_ok 112 (by decide) k hk) (WD_ne 0 (by decide) k hk)) hg_WD
  have g194 : IM (avw K H189 a0) := IM.congr (fun k hk j => av_fld hT ga0 hap wH189 (by decide) (IM_ok 112 (by decide) k hk) (IM_ne 0 (by decide) k hk)) hg_IM
  have m195 := ebs.trans (Wr.neI wH189 (Or.inr (x_apart hKT hts inX10 tyX10 tyX10_ok nmX10 rfl 1 0 (by decide) (by decide) (by decide)))).symm
  have m196 := Wr.I wH189
  refine lv_aload_n hx hb dX10_bar_5 rfl (lv_at hl 0 rfl) ?_
  refine lv_iload_n hx hb dX10_bar_6 rfl (lv_at hl 1 rfl) ?_
  refine lv_iconst (v := 3) hx hb dX10_bar_7 (by decide) ?_
  refine lv_bipush (v := 16) hx hb dX10_bar_8 (by decide) ?_
  refine x_V (As := [.int x1, .int 3, .int 16]) (rest := []) C (a_X10_isIn_v l K G H189 (x1) (3) (16) hTH189 ga0) yo_X10_isIn wM_X10_177 ⟨⟨by decide, by decide⟩, by decide, by decide⟩ (x_rv C hTH189 (ci := 10) rfl ga0 rg_112) rfl hl.1 rfl (Nat.le_of_ble_eq_true rfl) dX10_bar_10 hSH189 (AE_sub (fun _ _ => rfl) (by decide) hSH189.1) (fun vH197 H197 locsH197 pH197 zH197 kH197 hSH197 => ?_)
  obtain ⟨x198, hvH197, bx198, hrH197, hTH197⟩ := pH197
  subst hvH197
  have mf199 : MF K s.heap H197 a0 [0, 1] := MF.eff (x_lt hTH189 kH197 ga0 (by decide)) mf190
  have g200 : CG (avw K H197 a0) := CG.congr (fun k hk j => av_eff hTH189 kH197 ga0 (by decide) (CG_eff [] (by decide) k hk)) g191
  have g201 : TU (avw K H197 a0) (svw K H197 a0) := TU.congr (fun k hk j => av_eff hTH189 kH197 ga0 (by decide) (TU_eff [] (by decide) k hk)) (fun k hk => sv_eff hTH189 kH197 ga0 (by decide)) g192
  have g202 : WD (avw K H197 a0) := WD.congr (fun k hk j => av_eff hTH189 kH197 ga0 (by decide) (WD_eff [] (by decide) k hk)) g193
  have g203 : IM (avw K H197 a0) := IM.congr (fun k hk j => av_eff hTH189 kH197 ga0 (by decide) (IM_eff [] (by decide) k hk)) g194
  have m204 := (m195).trans (fI_kept (x_lt hTH189 kH197 ga0 (by decide))).symm
  have m205 := (fI_kept (x_lt hTH189 kH197 ga0 (by decide))).trans m196
  refine W.eq (g2 := F0 m 13 ls [.int x198]) rfl ?_
  refine lv_if_eq (tgt := 25) hx hb dX10_bar_13 (by decide) (fun c206 => ?_) (fun c206 => ?_)
  · have k207 := i_eq c206
    refine lv_iconst (v := (-1)) hx hb dX10_bar_25 (by decide) ?_
    exact x_iret C hQ dX10_bar_26 hSH197 (by decide) (by decide) (⟨(-1), rfl, by decide, m204, g200, g201, g202, g203, mf199, hTH197⟩)
  · have k207 := i_ne c206
    refine lv_aload_n hx hb dX10_bar_16 rfl (lv_at hl 0 rfl) ?_
    refine x_gi C hTH197 (ci := 10) (k := 1) rfl inX10 (by decide) wF_X10_170 ga0 rg_112 rfl dX10_bar_17 (fun x208 ex208 bx208 => ?_)
    have ux208 : bs = x208 := (m204).trans ex208.symm
    subst ux208
    refine lv_bipush (v := 10) hx hb dX10_bar_20 (by decide) ?_
    refine lv_icmp_ne (tgt := 27) hx hb dX10_bar_22 (by decide) (fun c209 => ?_) (fun c209 => ?_)
    · have k210 := i_ne c209
      exfalso
      omega
    · have k210 := i_eq c209
      refine lv_iconst (v := (-1)) hx hb dX10_bar_25 (by decide) ?_
      exact x_iret C hQ dX10_bar_26 hSH197 (by decide) (by decide) (⟨(-1), rfl, by decide, m204, g200, g201, g202, g203, mf199, hTH197⟩)
