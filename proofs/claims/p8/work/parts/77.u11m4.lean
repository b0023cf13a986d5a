set_option maxHeartbeats 4000000 in
set_option maxRecDepth 100000 in
theorem a_X10_readSum_e (l : Launch) (K : KE) (G : Nat → Option Nat) (H : Heap) {a0 : Nat} {oq : Nat} {aq : Nat} {tq : Nat} (sp : Int32) (fr : Int32) (tk : Int32) (vl : Int32) (mn : Int32) (tp : Int32) (jb : Int32) (ci : Nat) (bt : Nat → Int) (hT : TY K G H) (ga0 : G a0 = some 112) (goq : G oq = some 136) (eoq : oq = fR H a0 (K.1.2 10 32)) (gaq : G aq = some 137) (eaq : aq = fR H a0 (K.1.2 10 33)) (gtq : G tq = some 126) (etq : tq = fR H a0 (K.1.2 10 17)) (esp : sp = fI H a0 (K.1.2 10 19)) (efr : fr = fI H a0 (K.1.2 10 20)) (etk : tk = fI H a0 (K.1.2 10 21)) (evl : vl = fI H a0 (K.1.2 10 22)) (emn : mn = fI H a0 (K.1.2 10 35)) (etp : tp = fI H a0 (K.1.2 10 18)) (ejb : jb = fI H a0 (K.1.2 10 34)) (hg_CG : CG (avw K H a0)) (hg_TU : TU (avw K H a0) (svw K H a0)) (hg_WD : WD (avw K H a0)) (hg_IM : IM (avw K H a0)) (hp0 : (sp.toInt ≤ tp.toInt ∧ fr.toInt ≤ sp.toInt ∧ (tk.toInt = 0 ∨ fr.toInt < sp.toInt) ∧ (tk.toInt ≠ 2 ∨ (0 ≤ vl.toInt ∧ vl.toInt ≤ 23)))) (hp1 : mn.toInt ≤ fr.toInt) (hy0 : CU bt tp.toNatClampNeg ci fr sp tk vl) (hy1 : ∀ j : Nat, j < tp.toNatClampNeg → 0 ≤ bt j) (hv_bt : ∀ j : Nat, bt j = (fI H tq j).toInt) : MX l K yX10_readSum cX10_readSum 2 (some .int) 5 107 0 0 [.ref a0] H (AE G [112, 136, 137] H.size) (fun v H1 => ∃ (r : Int32) (t0 : Int32) (t1 : Int32) (t2 : Int32) (t3 : Int32) (t4 : Int32), v = some (.int r) ∧ ((-1) ≤ r.toInt ∧ r.toInt ≤ 0) ∧ t0 = fI H1 a0 (K.1.2 10 19) ∧ t1 = fI H1 a0 (K.1.2 10 20) ∧ t2 = fI H1 a0 (K.1.2 10 21) ∧ t3 = fI H1 a0 (K.1.2 10 22) ∧ t4 = fI H1 a0 (K.1.2 10 35) ∧ (r.toInt = -1 ∨ (r.toInt = 0 ∧ t0.toInt ≤ tp.toInt ∧ t1.toInt ≤ t0.toInt ∧ (t2.toInt = 0 ∨ t1.toInt < t0.toInt) ∧ (t2.toInt ≠ 2 ∨ (0 ≤ t3.toInt ∧ t3.toInt ≤ 23)) ∧ t4.toInt + fr.toInt ≤ mn.toInt + t1.toInt ∧ mn.toInt < t4.toInt ∧ fr.toInt < t1.toInt)) ∧ oq = fR H1 a0 (K.1.2 10 32) ∧ aq = fR H1 a0 (K.1.2 10 33) ∧ tq = fR H1 a0 (K.1.2 10 17) ∧ (CG (avw K H1 a0)) ∧ (TU (avw K H1 a0) (svw K H1 a0)) ∧ (WD (avw K H1 a0)) ∧ (IM (avw K H1 a0)) ∧ MF K H H1 a0 [19, 20, 21, 22, 35, 39, 40] ∧ (∀ j : Nat, j < 3000 + mn.toNatClampNeg → fI H1 oq j = fI H oq j ∧ fI H1 aq j = fI H aq j) ∧ (r.toInt = -1 ∨ WF (fun k => fI H1 oq k) (fun k => fI H1 aq k) (3000 + mn.toNatClampNeg) (3000 + t4.toNatClampNeg) 0 1) ∧ (RC (lpI (tmI (kK bt tp.toNatClampNeg) (vV bt tp.toNatClampNeg) (1 - jb.toInt) 0) (cPM (kK bt tp.toNatClampNeg)) ci) r bt tp.toNatClampNeg t1 t0 t2 t3) ∧ TY K G H1) := by
  refine MX.of (by decide +kernel) (Nat.le_of_ble_eq_true rfl) ?_
  intro p e s m below meth c ls Q C hH hl hQ
  subst hH
  have C : CX p K s m _ meth c RX10 cX10_readSum 2 (some .int) "readSum" := C
  obtain ⟨hx, hb, hml, hown, hts, hKT, hr, hlocks, hnm⟩ := id C
  have hl : lv_has ls 2 [(0, .ref a0)] := hl
  have hS : va_S (AE G [112, 136, 137] s.heap.size) s.heap s.heap [] := va_S.rf
  have n_m1 : ((-1) : Int32).toInt = -1 := rfl
  have n_0 : (0 : Int32).toInt = 0 := rfl
  have n_2 : (2 : Int32).toInt = 2 := rfl
  have n_3 : (3 : Int32).toInt = 3 := rfl
  have n_43 : (43 : Int32).toInt = 43 := rfl
  have n_45 : (45 : Int32).toInt = 45 := rfl
  have bsp := ty_fi (x := sp) (k := 19) esp hT ga0 rg_112 rfl
  have bfr := ty_fi (x := fr) (k := 20) efr hT ga0 rg_112 rfl
  have btk := ty_fi (x := tk) (k := 21) etk hT ga0 rg_112 rfl
  have bvl := ty_fi (x := vl) (k := 22) evl hT ga0 rg_112 rfl
  have bmn := ty_fi (x := mn) (k := 35) emn hT ga0 rg_112 rfl
  have btp := ty_fi (x := tp) (k := 18) etp hT ga0 rg_112 rfl
  have bjb := ty_fi (x := jb) (k := 34) ejb hT ga0 rg_112 rfl
  have hap : ∀ x y, x < 74 → y < 74 → x ≠ y → K.1.2 10 x ≠ K.1.2 10 y := x_apart hKT hts inX10 tyX10 tyX10_ok nmX10 rfl
  have mf0 : MF K s.heap s.heap a0 [19, 20, 21, 22, 35, 39, 40] := fun _ _ _ => rfl
  have f0_bt := hv_bt
  have J10 : ∀ (nf : Nat) (cj : Nat) (ls878 : Array Slot) (H877 : Heap) (locsH877 : List Loc) (x880 : Int32) (x881 : Int32) (x882 : Int32) (x883 : Int32) (x884 : Int32), lv_has ls878 2 [(0, .ref a0)] → TY K G H877 → va_S (AE G [112, 136, 137] s.heap.size) s.heap H877 locsH877 → (0 ≤ x880.toInt ∧ x880.toInt ≤ 500) → (0 ≤ x881.toInt ∧ x881.toInt ≤ 500) → (0 ≤ x884.toInt ∧ x884.toInt ≤ 500) → (x880 = fI H877 a0 (K.1.2 10 19)) → (x881 = fI H877 a0 (K.1.2 10 20)) → (x882 = fI H877 a0 (K.1.2 10 21)) → (x883 = fI H877 a0 (K.1.2 10 22)) → (x884 = fI H877 a0 (K.1.2 10 35)) → (oq = fR H877 a0 (K.1.2 10 32)) → (aq = fR H877 a0 (K.1.2 10 33)) → (tq = fR H877 a0 (K.1.2 10 17)) → (tp = fI H877 a0 (K.1.2 10 18)) → (jb = fI H877 a0 (K.1.2 10 34)) → (∀ j : Nat, j < 3000 + mn.toNatClampNeg → fI H877 oq j = fI s.heap oq j ∧ fI H877 aq j = fI s.heap aq j) → (WF (fun k => fI H877 oq k) (fun k => fI H877 aq k) (3000 + mn.toNatClampNeg) (3000 + x884.toNatClampNeg) 0 1) → (MF K s.heap H877 a0 [19, 20, 21, 22, 35, 39, 40]) → (CG (avw K H877 a0)) → (TU (avw K H877 a0) (svw K H877 a0)) → (WD (avw K H877 a0)) → (IM (avw K H877 a0)) → (∀ j : Nat, bt j = (fI H877 tq j).toInt) → (500 - x881.toInt < (nf : Int)) → ((x880.toInt ≤ tp.toInt ∧ x881.toInt ≤ x880.toInt ∧ (x882.toInt = 0 ∨ x881.toInt < x880.toInt) ∧ (x882.toInt ≠ 2 ∨ (0 ≤ x883.toInt ∧ x883.toInt ≤ 23))) ∧ x884.toInt + fr.toInt ≤ mn.toInt + x881.toInt ∧ mn.toInt < x884.toInt ∧ fr.toInt < x881.toInt) → (CU bt tp.toNatClampNeg cj x881 x880 x882 x883) → (lpI (tmI (kK bt tp.toNatClampNeg) (vV bt tp.toNatClampNeg) (1 - jb.toInt) 0) (cPM (kK bt tp.toNatClampNeg)) ci = (if cPM (kK bt tp.toNatClampNeg) cj = true then lpI (tmI (kK bt tp.toNatClampNeg) (vV bt tp.toNatClampNeg) (1 - jb.toInt) 0) (cPM (kK bt tp.toNatClampNeg)) (cj + 1) else some cj)) → W p l e ({ frames := 5, cells := 0, slots := 0, locals := 107 } : Room) s m (([.ref a0] : List Value).toArray) below meth c H877 locsH877 0 0 Q (F0 m 10 ls878 []) := by
    intro nf
    induction nf with
    | zero =>
      intro cj ls878 H877 locsH877 x880 x881 x882 x883 x884 hl879 hTH877 hSH877 bx880 bx881 bx884 ex880 ex881 ex882 ex883 ex884 cy885_0 cy885_1 cy885_2 cy885_3 cy885_4 by885_pf by885_wf mfy885 gy885_CG gy885_TU gy885_WD gy885_IM fy885_bt hm10 iv10 hcu10 hsp10
      have rx882 := i_rng x882
      have rx883 := i_rng x883
      exfalso
      omega
    | succ nf ih10 =>
      intro cj ls878 H877 locsH877 x880 x881 x882 x883 x884 hl879 hTH877 hSH877 bx880 bx881 bx884 ex880 ex881 ex882 ex883 ex884 cy885_0 cy885_1 cy885_2 cy885_3 cy885_4 by885_pf by885_wf mfy885 gy885_CG gy885_TU gy885_WD gy885_IM fy885_bt hm10 iv10 hcu10 hsp10
      have rx882 := i_rng x882
      have rx883 := i_rng x883
      have cn_x881 := i_cl (x := x881) (by omega)
      have cn_tp := i_cl (x := tp) (by omega)
      have cn_fr := i_cl (x := fr) (by omega)
      have J28 : ∀  (ls887 : Array Slot) (H886 : Heap) (locsH886 : List Loc) (x889 : Int32) (x890 : Int32) (x891 : Int32) (x892 : Int32) (x893 : Int32), lv_has ls887 2 [(0, .ref a0)] → TY K G H886 → va_S (AE G [112, 136, 137] s.heap.size) s.heap H886 locsH886 → (0 ≤ x889.toInt ∧ x889.toInt ≤ 500) → (0 ≤ x890.toInt ∧ x890.toInt ≤ 500) → (0 ≤ x893.toInt ∧ x893.toInt ≤ 500) → (x889 = fI H886 a0 (K.1.2 10 19)) → (x890 = fI H886 a0 (K.1.2 10 20)) → (x891 = fI H886 a0 (K.1.2 10 21)) → (x892 = fI H886 a0 (K.1.2 10 22)) → (x893 = fI H886 a0 (K.1.2 10 35)) → (oq = fR H886 a0 (K.1.2 10 32)) → (aq = fR H886 a0 (K.1.2 10 33)) → (tq = fR H886 a0 (K.1.2 10 17)) → (tp = fI H886 a0 (K.1.2 10 18)) → (jb = fI H886 a0 (K.1.2 10 34)) → (∀ j : Nat, j < 3000 + mn.toNatClampNeg → fI H886 oq j = fI s.heap oq j ∧ fI H886 aq j = fI s.heap aq j) → (WF (fun k => fI H886 oq k) (fun k => fI H886 aq k) (3000 + mn.toNatClampNeg) (3000 + x893.toNatClampNeg) 0 1) → (MF K s.heap H886 a0 [19, 20, 21, 22, 35, 39, 40]) → (CG (avw K H886 a0)) → (TU (avw K H886 a0) (svw K H886 a0)) → (WD (avw K H886 a0)) → (IM (avw K H886 a0)) → (∀ j : Nat, bt j = (fI H886 tq j).toInt) → ((x889.toInt ≤ tp.toInt ∧ x890.toInt ≤ x889.toInt ∧ (x891.toInt = 0 ∨ x890.toInt < x889.toInt) ∧ (x891.toInt ≠ 2 ∨ (0 ≤ x892.toInt ∧ x892.toInt ≤ 23))) ∧ x893.toInt + fr.toInt ≤ mn.toInt + x890.toInt ∧ mn.toInt < x893.toInt ∧ fr.toInt < x890.toInt ∧ x891.toInt = 4 ∧ x890.toInt = x881.toInt) → (CU bt tp.toNatClampNeg cj x890 x889 x891 x892) → (cPM (kK bt tp.toNatClampNeg) cj = true) → W p l e ({ frames := 5, cells := 0, slots := 0, locals := 107 } : Room) s m (([.ref a0] : List Value).toArray) below meth c H886 locsH886 0 0 Q (F0 m 28 ls887 []) := by
        intro  ls887 H886 locsH886 x889 x890 x891 x892 x893 hl888 hTH886 hSH886 bx889 bx890 bx893 ex889 ex890 ex891 ex892 ex893 cy894_0 cy894_1 cy894_2 cy894_3 cy894_4 by894_pf by894_wf mfy894 gy894_CG gy894_TU gy894_WD gy894_IM fy894_bt iv28 hcu28 hpm28
        have cn_x890 := i_cl (x := x890) (by omega)
        have cn_tp := i_cl (x := tp) (by omega)
        have cn_fr := i_cl (x := fr) (by omega)
        have J42 : ∀  (ls896 : Array Slot) (H895 : Heap) (locsH895 : List Loc) (x898 : Int32) (x899 : Int32) (x900 : Int32) (x901 : Int32) (x902 : Int32) (x903 : Int32), lv_has ls896 2 [(0, .ref a0)] → TY K G H895 → va_S (AE G [112, 136, 137] s.heap.size) s.heap H895 locsH895 → (2 ≤ x898.toInt ∧ x898.toInt ≤ 3) → (0 ≤ x899.toInt ∧ x899.toInt ≤ 500) → (0 ≤ x900.toInt ∧ x900.toInt ≤ 500) → (0 ≤ x903.toInt ∧ x903.toInt ≤ 500) → (x899 = fI H895 a0 (K.1.2 10 19)) → (x900 = fI H895 a0 (K.1.2 10 20)) → (x901 = fI H895 a0 (K.1.2 10 21)) → (x902 = fI H895 a0 (K.1.2 10 22)) → (x903 = fI H895 a0 (K.1.2 10 35)) → (oq = fR H895 a0 (K.1.2 10 32)) → (aq = fR H895 a0 (K.1.2 10 33)) → (tq = fR H895 a0 (K.1.2 10 17)) → (tp = fI H895 a0 (K.1.2 10 18)) → (jb = fI H895 a0 (K.1.2 10 34)) → (∀ j : Nat, j < 3000 + mn.toNatClampNeg → fI H895 oq j = fI s.heap oq j ∧ fI H895 aq j = fI s.heap aq j) → (WF (fun k => fI H895 oq k) (fun k => fI H895 aq k) (3000 + mn.toNatClampNeg) (3000 + x903.toNatClampNeg) 0 1) → (MF K s.heap H895 a0 [19, 20, 21, 22, 35, 39, 40]) → (CG (avw K H895 a0)) → (TU (avw K H895 a0) (svw K H895 a0)) → (WD (avw K H895 a0)) → (IM (avw K H895 a0)) → (∀ j : Nat, bt j = (fI H895 tq j).toInt) → ((x899.toInt ≤ tp.toInt ∧ x900.toInt ≤ x899.toInt ∧ (x901.toInt = 0 ∨ x900.toInt < x899.toInt) ∧ (x901.toInt ≠ 2 ∨ (0 ≤ x902.toInt ∧ x902.toInt ≤ 23))) ∧ x903.toInt + fr.toInt ≤ mn.toInt + x900.toInt ∧ mn.toInt < x903.toInt ∧ fr.toInt < x900.toInt ∧ x901.toInt = 4 ∧ x900.toInt = x890.toInt) → (CU bt tp.toNatClampNeg cj x900 x899 x901 x902) → W p l e ({ frames := 5, cells := 0, slots := 0, locals := 107 } : Room) s m (([.ref a0] : List Value).toArray) below meth c H895 locsH895 0 0 Q (F0 m 42 ls896 [.int x898]) := by
          intro  ls896 H895 locsH895 x898 x899 x900 x901 x902 x903 hl897 hTH895 hSH895 bx898 bx899 bx900 bx903 ex899 ex900 ex901 ex902 ex903 cy904_0 cy904_1 cy904_2 cy904_3 cy904_4 by904_pf by904_wf mfy904 gy904_CG gy904_TU gy904_WD gy904_IM fy904_bt iv42 hcu42
          have cn_x900 := i_cl (x := x900) (by omega)
          have cn_tp := i_cl (x := tp) (by omega)
          have cn_fr := i_cl (x := fr) (by omega)
          refine lv_istore_n (lv' := [(1, .int x898), (0, .ref a0)]) hx hb dX10_readSum_42 rfl hl897 (by decide) rfl (fun ls905 hl906 => ?_)
          refine lv_aload_n hx hb dX10_readSum_43 rfl (lv_at hl906 1 rfl) ?_
          refine x_V (As := []) (rest := []) C (a_X10_reads_e l K G H895 (x899) (x900) (x901) (x902) (tp) bt hTH895 ga0 gtq cy904_2 ex899 ex900 ex901 ex902 cy904_3 gy904_CG gy904_TU gy904_WD gy904_IM (by omega) (hy1) fy904_bt) yo_X10_reads wM_X10_242 ⟨⟨by decide, by decide⟩, by decide, by decide⟩ (x_rv C hTH895 (ci := 10) rfl ga0 rg_112) rfl hl906.1 rfl (Nat.le_of_ble_eq_true rfl) dX10_readSum_44 hSH895 (AE_sub (fun _ _ => rfl) (by decide) hSH895.1) (fun vH907 H907 locsH907 pH907 zH907 kH907 hSH907 => ?_)
          obtain ⟨x908, x909, x910, x911, hvH907, ex908, ex909, ex910, ex911, hrH907, m912, g913, g914, g915, g916, mf917, m918, m919, m920, hTH907⟩ := pH907
          subst hvH907
          have b921 : ∀ j : Nat, j < 3000 + mn.toNatClampNeg → fI H907 oq j = fI s.heap oq j ∧ fI H907 aq j = fI s.heap aq j := fun j hj => ⟨(fI_kept (x_lt hTH895 kH907 goq (by decide))).trans (by904_pf j hj).1, (fI_kept (x_lt hTH895 kH907 gaq (by decide))).trans (by904_pf j hj).2⟩
          have b922 : WF (fun k => fI H907 oq k) (fun k => fI H907 aq k) (3000 + mn.toNatClampNeg) (3000 + x903.toNatClampNeg) 0 1 := WF.congr (fun j => fI_kept (x_lt hTH895 kH907 goq (by decide))) (fun j => fI_kept (x_lt hTH895 kH907 gaq (by decide))) by904_wf
          have f923 : ∀ j : Nat, bt j = (fI H907 tq j).toInt := fun j => (fy904_bt j).trans (congrArg Int32.toInt (fI_kept (x_lt hTH895 kH907 gtq (by decide))).symm)
          have m924 := (ex903).trans (MF.i mf917 (k := 35) (by decide) (by decide)).symm
          have m925 := (cy904_0).trans (MF.r mf917 (k := 32) (by decide) (by decide)).symm
          have m926 := (cy904_1).trans (MF.r mf917 (k := 33) (by decide) (by decide)).symm
          have m927 := (cy904_2).trans (MF.r mf917 (k := 17) (by decide) (by decide)).symm
          have m928 := (cy904_3).trans (MF.i mf917 (k := 18) (by decide) (by decide)).symm
          have m929 := (cy904_4).trans (MF.i mf917 (k := 34) (by decide) (by decide)).symm
          have mf930 : MF K s.heap H907 a0 [19, 20, 21, 22, 35, 39, 40] := MF.trans mfy904 mf917 (by decide)
          have bx908 := ty_fi (x := x908) (k := 19) ex908 hTH907 ga0 rg_112 rfl
          have bx909 := ty_fi (x := x909) (k := 20) ex909 hTH907 ga0 rg_112 rfl
          have bx910 := ty_fi (x := x910) (k := 21) ex910 hTH907 ga0 rg_112 rfl
          have bx911 := ty_fi (x := x911) (k := 22) ex911 hTH907 ga0 rg_112 rfl
          have cn_x909 := i_cl (x := x909) (by omega)
          have cn_x900 := i_cl (x := x900) (by omega)
          have cu931 : CU bt tp.toNatClampNeg (cj + 1) x909 x908 x910 x911 := CU.next hcu42 m918 m919 m920 (by omega)
          refine W.eq (g2 := F0 m 47 ls905 []) rfl ?_
          refine lv_aload_n hx hb dX10_readSum_47 rfl (lv_at hl906 1 rfl) ?_
          refine x_V (As := []) (rest := []) C (a_X10_readProduct_e l K G H907 (x908) (x909) (x910) (x911) (x903) (tp) (jb) ((cj + 1)) bt hTH907 ga0 goq m925 gaq m926 gtq m912 ex908 ex909 ex910 ex911 m924 m928 m929 g913 g914 g915 g916 (by omega) (by omega) (cu931) (hy1) f923) yo_X10_readProduct wM_X10_252 ⟨⟨by decide, by decide⟩, by decide, by decide⟩ (x_rv C hTH907 (ci := 10) rfl ga0 rg_112) rfl hl906.1 rfl (Nat.le_of_ble_eq_true rfl) dX10_readSum_48 hSH907 (AE_sub (fun _ _ => rfl) (by decide) hSH907.1) (fun vH932 H932 locsH932 pH932 zH932 kH932 hSH932 => ?_)
          obtain ⟨x933, x934, x935, x936, x937, x938, hvH932, bx933, ex934, ex935, ex936, ex937, ex938, hrH932, m939, m940, m941, g942, g943, g944, g945, mf946, m947, m948, m949, hTH932⟩ := pH932
          subst hvH932
          have f950 : ∀ j : Nat, bt j = (fI H932 tq j).toInt := fun j => (f923 j).trans (congrArg Int32.toInt (fI_kept (x_lt hTH907 kH932 gtq (by decide))).symm)
          have m951 := (m925).trans (MF.r mf946 (k := 32) (by decide) (by decide)).symm
          have m952 := (m926).trans (MF.r mf946 (k := 33) (by decide) (by decide)).symm
          have m953 := (m912).trans (MF.r mf946 (k := 17) (by decide) (by decide)).symm
          have m954 := (m928).trans (MF.i mf946 (k := 18) (by decide) (by decide)).symm
          have m955 := (m929).trans (MF.i mf946 (k := 34) (by decide) (by decide)).symm
          have mf956 : MF K s.heap H932 a0 [19, 20, 21, 22, 35, 39, 40] := MF.trans mf930 mf946 (by decide)
          have bx934 := ty_fi (x := x934) (k := 19) ex934 hTH932 ga0 rg_112 rfl
          have bx935 := ty_fi (x := x935) (k := 20) ex935 hTH932 ga0 rg_112 rfl
          have bx936 := ty_fi (x := x936) (k := 21) ex936 hTH932 ga0 rg_112 rfl
          have bx937 := ty_fi (x := x937) (k := 22) ex937 hTH932 ga0 rg_112 rfl
          have bx938 := ty_fi (x := x938) (k := 35) ex938 hTH932 ga0 rg_112 rfl
          have csm947 := i_cl (x := x903) (by omega)
          have cs_mn := i_cl (x := mn) (by omega)
          have b957 : ∀ j : Nat, j < 3000 + mn.toNatClampNeg → fI H932 oq j = fI s.heap oq j ∧ fI H932 aq j = fI s.heap aq j := fun j hj => ⟨(m947 j (by omega)).1.trans (b921 j hj).1, (m947 j (by omega)).2.trans (b921 j hj).2⟩
          have cs_mn := i_cl (x := mn) (by omega)
          have b958 : WF (fun k => fI H932 oq k) (fun k => fI H932 aq k) (3000 + mn.toNatClampNeg) (3000 + x903.toNatClampNeg) 0 1 := WF.keep b922 (fun j hj => (m947 j (by omega)).1) (fun j hj => (m947 j (by omega)).2)
          refine W.eq (g2 := F0 m 51 ls905 [.int x933]) rfl ?_
          refine lv_iconst (v := (-1)) hx hb dX10_readSum_51 (by decide) ?_
          refine lv_icmp_ne (tgt := 57) hx hb dX10_readSum_52 (by decide) (fun c959 => ?_) (fun c959 => ?_)
          · have k960 := i_ne c959
            have wu0 : WF (fun k => fI H932 oq k) (fun k => fI H932 aq k) (3000 + x903.toNatClampNeg) (3000 + x938.toNatClampNeg) 0 1 := by
              rcases m948 with h | h
              · exfalso; omega
              · exact h
            refine lv_aload_n hx hb dX10_readSum_57 rfl (lv_at hl906 1 rfl) ?_
            refine lv_iload_n hx hb dX10_readSum_58 rfl (lv_at hl906 0 rfl) ?_
            refine lv_iconst (v := 0) hx hb dX10_readSum_59 (by decide) ?_
            refine x_V (As := [.int x898, .int 0]) (rest := []) C (a_X10_emits l K G H932 (x898) (0) (x938) hTH932 ga0 goq m939 gaq m940 ex938 g942 g943 g944 g945 (by omega)) yo_X10_emits wM_X10_238 ⟨⟨by decide, by decide⟩, by decide, by decide⟩ (x_rv C hTH932 (ci := 10) rfl ga0 rg_112) rfl hl906.1 rfl (Nat.le_of_ble_eq_true rfl) dX10_readSum_60 hSH932 (AE_sub (fun _ _ => rfl) (by decide) hSH932.1) (fun vH961 H961 locsH961 pH961 zH961 kH961 hSH961 => ?_)
            obtain ⟨x962, hvH961, ex962, hrH961, m963, m964, g965, g966, g967, g968, mf969, m970, m971, m972, m973, hTH961⟩ := pH961
            subst hvH961
            have f974 : ∀ j : Nat, bt j = (fI H961 tq j).toInt := fun j => (f950 j).trans (congrArg Int32.toInt (fI_kept (x_lt hTH932 kH961 gtq (by decide))).symm)
            have m975 := (m939).trans (MF.r mf969 (k := 32) (by decide) (by decide)).symm
            have m976 := (m940).trans (MF.r mf969 (k := 33) (by decide) (by decide)).symm
            have m977 := (m941).trans (MF.r mf969 (k := 17) (by decide) (by decide)).symm
            have m978 := (m954).trans (MF.i mf969 (k := 18) (by decide) (by decide)).symm
            have m979 := (m955).trans (MF.i mf969 (k := 34) (by decide) (by decide)).symm
            have m980 := (ex934).trans (MF.i mf969 (k := 19) (by decide) (by decide)).symm
            have m981 := (ex935).trans (MF.i mf969 (k := 20) (by decide) (by decide)).symm
            have m982 := (ex936).trans (MF.i mf969 (k := 21) (by decide) (by decide)).symm
            have m983 := (ex937).trans (MF.i mf969 (k := 22) (by decide) (by decide)).symm
            have mf984 : MF K s.heap H961 a0 [19, 20, 21, 22, 35, 39, 40] := MF.trans mf956 mf969 (by decide)
            have bx962 := ty_fi (x := x962) (k := 35) ex962 hTH961 ga0 rg_112 rfl
            have cem973 := i_cl (x := x938) (by omega)
            have ce_mn := i_cl (x := mn) (by omega)
            have b985 : ∀ j : Nat, j < 3000 + mn.toNatClampNeg → fI H961 oq j = fI s.heap oq j ∧ fI H961 aq j = fI s.heap aq j := fun j hj => ⟨(m972 j (by omega)).trans (b957 j hj).1, (m973 j (by omega)).trans (b957 j hj).2⟩
            have ce_mn := i_cl (x := mn) (by omega)
            have ce_x903 := i_cl (x := x903) (by omega)
            have b986 : WF (fun k => fI H961 oq k) (fun k => fI H961 aq k) (3000 + mn.toNatClampNeg) (3000 + x903.toNatClampNeg) 0 1 := WF.keep b958 (fun j hj => m972 j (by omega)) (fun j hj => m973 j (by omega))
            have ce_x903 := i_cl (x := x903) (by omega)
            have b987 : WF (fun k => fI H961 oq k) (fun k => fI H961 aq k) (3000 + x903.toNatClampNeg) (3000 + x938.toNatClampNeg) 0 1 := WF.keep wu0 (fun j hj => m972 j (by omega)) (fun j hj => m973 j (by omega))
            refine W.eq (g2 := F0 m 63 ls905 []) rfl ?_
            have ho := congrArg Int32.toInt m970
            have cb_mn := i_cl (x := mn) (by omega)
            have cb_x903 := i_cl (x := x903) (by omega)
            have cb_x938 := i_cl (x := x938) (by omega)
            have wn : WF (fun k => fI H961 oq k) (fun k => fI H961 aq k) (3000 + mn.toNatClampNeg) (3000 + x938.toNatClampNeg + 1) 0 1 := WF.bin b986 b987 (by omega) (by omega) (by show 2 ≤ (fI _ oq _).toInt ∧ (fI _ oq _).toInt ≤ 11 ∧ (fI _ oq _).toInt ≠ 9; omega) (Or.inl (by show (fI _ oq _).toInt ≠ 5; omega))
            refine lv_goto (tgt := 10) hx hb dX10_readSum_63 (by decide) ?_
            have cl_mn := i_cl (x := mn) (by omega)
            have cl_mn := i_cl (x := mn) (by omega)
            have cl_x938 := i_cl (x := x938) (by omega)
            have cl_x962 := i_cl (x := x962) (by omega)
            obtain ⟨cj988, ho990, cu989⟩ := RC.yes m949 (by omega)
            exact ih10 cj988 ls905 H961 locsH961 (x934) (x935) (x936) (x937) (x962) (lv_sub hl906 [1] rfl) hTH961 hSH961 (by have := i_rng x934; omega) (by have := i_rng x935; omega) (by have := i_rng x962; omega) m980 m981 m982 m983 ex962 m963 m964 m977 m978 m979 b985 (WF.cast wn (by omega) (by omega)) mf984 g965 g966 g967 g968 f974 (by omega) (by omega) cu989 (hsp10.trans ((if_y hpm28).trans (lp_if tmI_gp ho990)))
          · have k960 := i_eq c959
            refine lv_iconst (v := (-1)) hx hb dX10_readSum_55 (by decide) ?_
            have cn_fr := i_cl (x := fr) (by omega)
            exact x_iret C hQ dX10_readSum_56 hSH932 (by decide) (by decide) (⟨(-1), x934, x935, x936, x937, x938, rfl, by decide, ex934, ex935, ex936, ex937, ex938, by omega, m939, m940, m941, g942, g943, g944, g945, mf956, b957, Or.inl (by omega), Or.inl ⟨hsp10.trans ((if_y hpm28).trans (lp_none tmI_gp (RC.no m949 (by omega)))), by omega⟩, hTH932⟩)
        refine lv_aload_n hx hb dX10_readSum_28 rfl (lv_at hl888 0 rfl) ?_
        refine x_gi C hTH886 (ci := 10) (k := 22) rfl inX10 (by decide) wF_X10_205 ga0 rg_112 rfl dX10_readSum_29 (fun x991 ex991 bx991 => ?_)
        have ux991 : x892 = x991 := (ex892).trans ex991.symm
        subst ux991
        refine lv_bipush (v := 43) hx hb dX10_readSum_32 (by decide) ?_
        refine lv_icmp_ne (tgt := 41) hx hb dX10_readSum_34 (by decide) (fun c992 => ?_) (fun c992 => ?_)
        · have k993 := i_ne c992
          refine lv_iconst (v := 3) hx hb dX10_readSum_41 (by decide) ?_
          have cl_mn := i_cl (x := mn) (by omega)
          have cl_mn := i_cl (x := mn) (by omega)
          have cl_x893 := i_cl (x := x893) (by omega)
          exact J42  ls887 H886 locsH886 (3) (x889) (x890) (x891) (x892) (x893) (lv_sub hl888 [0] rfl) hTH886 hSH886 (by decide) (by have := i_rng x889; omega) (by have := i_rng x890; omega) (by have := i_rng x893; omega) ex889 ex890 ex891 ex892 ex893 cy894_0 cy894_1 cy894_2 cy894_3 cy894_4 by894_pf (WF.cast by894_wf (by omega) (by omega)) mfy894 gy894_CG gy894_TU gy894_WD gy894_IM fy894_bt (by omega) hcu28
        · have k993 := i_eq c992
          refine lv_iconst (v := 2) hx hb dX10_readSum_37 (by decide) ?_
          refine lv_goto (tgt := 42) hx hb dX10_readSum_38 (by decide) ?_
          have cl_mn := i_cl (x := mn) (by omega)
          have cl_mn := i_cl (x := mn) (by omega)
          have cl_x893 := i_cl (x := x893) (by omega)
          exact J42  ls887 H886 locsH886 (2) (x889) (x890) (x891) (x892) (x893) (lv_sub hl888 [0] rfl) hTH886 hSH886 (by decide) (by have := i_rng x889; omega) (by have := i_rng x890; omega) (by have := i_rng x893; omega) ex889 ex890 ex891 ex892 ex893 cy894_0 cy894_1 cy894_2 cy894_3 cy894_4 by894_pf (WF.cast by894_wf (by omega) (by omega)) mfy894 gy894_CG gy894_TU gy894_WD gy894_IM fy894_bt (by omega) hcu28
      refine lv_aload_n hx hb dX10_readSum_10 rfl (lv_at hl879 0 rfl) ?_
      refine lv_bipush (v := 43) hx hb dX10_readSum_11 (by decide) ?_
      refine x_V (As := [.int 43]) (rest := []) C (a_X10_isSign_e l K G H877 (43) (x882) (x883) hTH877 ga0 ex882 ex883) yo_X10_isSign wM_X10_249 ⟨⟨by decide, by decide⟩, by decide, by decide⟩ (x_rv C hTH877 (ci := 10) rfl ga0 rg_112) rfl hl879.1 rfl (Nat.le_of_ble_eq_true rfl) dX10_readSum_13 hSH877 (AE_sub (fun _ _ => rfl) (by decide) hSH877.1) (fun vH994 H994 locsH994 pH994 zH994 kH994 hSH994 => ?_)
      obtain ⟨x995, hvH994, bx995, hrH994, hTH994⟩ := pH994
      subst hvH994
      have mf996 : MF K s.heap H994 a0 [19, 20, 21, 22, 35, 39, 40] := MF.eff (x_lt hTH877 kH994 ga0 (by decide)) mfy885
      have b997 : ∀ j : Nat, j < 3000 + mn.toNatClampNeg → fI H994 oq j = fI s.heap oq j ∧ fI H994 aq j = fI s.heap aq j := fun j hj => ⟨(fI_kept (x_lt hTH877 kH994 goq (by decide))).trans (by885_pf j hj).1, (fI_kept (x_lt hTH877 kH994 gaq (by decide))).trans (by885_pf j hj).2⟩
      have b998 : WF (fun k => fI H994 oq k) (fun k => fI H994 aq k) (3000 + mn.toNatClampNeg) (3000 + x884.toNatClampNeg) 0 1 := WF.congr (fun j => fI_kept (x_lt hTH877 kH994 goq (by decide))) (fun j => fI_kept (x_lt hTH877 kH994 gaq (by decide))) by885_wf
      have g999 : CG (avw K H994 a0) := CG.congr (fun k hk j => av_eff hTH877 kH994 ga0 (by decide) (CG_eff [] (by decide) k hk)) gy885_CG
      have g1000 : TU (avw K H994 a0) (svw K H994 a0) := TU.congr (fun k hk j => av_eff hTH877 kH994 ga0 (by decide) (TU_eff [] (by decide) k hk)) (fun k hk => sv_eff hTH877 kH994 ga0 (by decide)) gy885_TU
      have g1001 : WD (avw K H994 a0) := WD.congr (fun k hk j => av_eff hTH877 kH994 ga0 (by decide) (WD_eff [] (by decide) k hk)) gy885_WD
      have g1002 : IM (avw K H994 a0) := IM.congr (fun k hk j => av_eff hTH877 kH994 ga0 (by decide) (IM_eff [] (by decide) k hk)) gy885_IM
      have f1003 : ∀ j : Nat, bt j = (fI H994 tq j).toInt := fun j => (fy885_bt j).trans (congrArg Int32.toInt (fI_kept (x_lt hTH877 kH994 gtq (by decide))).symm)
      have m1004 := (ex880).trans (fI_kept (x_lt hTH877 kH994 ga0 (by decide))).symm
      have m1005 := (ex881).trans (fI_kept (x_lt hTH877 kH994 ga0 (by decide))).symm
      have m1006 := (ex882).trans (fI_kept (x_lt hTH877 kH994 ga0 (by decide))).symm
      have m1007 := (ex883).trans (fI_kept (x_lt hTH877 kH994 ga0 (by decide))).symm
      have m1008 := (ex884).trans (fI_kept (x_lt hTH877 kH994 ga0 (by decide))).symm
      have m1009 := (cy885_0).trans (fR_kept (x_lt hTH877 kH994 ga0 (by decide))).symm
      have m1010 := (cy885_1).trans (fR_kept (x_lt hTH877 kH994 ga0 (by decide))).symm
      have m1011 := (cy885_2).trans (fR_kept (x_lt hTH877 kH994 ga0 (by decide))).symm
      have m1012 := (cy885_3).trans (fI_kept (x_lt hTH877 kH994 ga0 (by decide))).symm
      have m1013 := (cy885_4).trans (fI_kept (x_lt hTH877 kH994 ga0 (by decide))).symm
      refine W.eq (g2 := F0 m 16 ls878 [.int x995]) rfl ?_
      refine lv_if_ne (tgt := 28) hx hb dX10_readSum_16 (by decide) (fun c1014 => ?_) (fun c1014 => ?_)
      · have k1015 := i_ne c1014
        have cl_mn := i_cl (x := mn) (by omega)
        have cl_mn := i_cl (x := mn) (by omega)
        have cl_x884 := i_cl (x := x884) (by omega)
        have kc_ : kK bt tp.toNatClampNeg cj = 43 := (TV.sg (c := 43) hcu10.2.2.1 (by decide)).mp ⟨by omega, by omega⟩
        exact J28  ls878 H994 locsH994 (x880) (x881) (x882) (x883) (x884) (lv_sub hl879 [0] rfl) hTH994 hSH994 (by have := i_rng x880; omega) (by have := i_rng x881; omega) (by have := i_rng x884; omega) m1004 m1005 m1006 m1007 m1008 m1009 m1010 m1011 m1012 m1013 b997 (WF.cast b998 (by omega) (by omega)) mf996 g999 g1000 g1001 g1002 f1003 (by omega) hcu10 (show cPM (kK bt tp.toNatClampNeg) cj = true from decide_eq_true (Or.inl kc_))
      · have k1015 := i_eq c1014
        refine lv_aload_n hx hb dX10_readSum_19 rfl (lv_at hl879 0 rfl) ?_
        refine lv_bipush (v := 45) hx hb dX10_readSum_20 (by decide) ?_
        refine x_V (As := [.int 45]) (rest := []) C (a_X10_isSign_e l K G H994 (45) (x882) (x883) hTH994 ga0 m1006 m1007) yo_X10_isSign wM_X10_249 ⟨⟨by decide, by decide⟩, by decide, by decide⟩ (x_rv C hTH994 (ci := 10) rfl ga0 rg_112) rfl hl879.1 rfl (Nat.le_of_ble_eq_true rfl) dX10_readSum_22 hSH994 (AE_sub (fun _ _ => rfl) (by decide) hSH994.1) (fun vH1016 H1016 locsH1016 pH1016 zH1016 kH1016 hSH1016 => ?_)
        obtain ⟨x1017, hvH1016, bx1017, hrH1016, hTH1016⟩ := pH1016
        subst hvH1016
        have mf1018 : MF K s.heap H1016 a0 [19, 20, 21, 22, 35, 39, 40] := MF.eff (x_lt hTH994 kH1016 ga0 (by decide)) mf996
        have b1019 : ∀ j : Nat, j < 3000 + mn.toNatClampNeg → fI H1016 oq j = fI s.heap oq j ∧ fI H1016 aq j = fI s.heap aq j := fun j hj => ⟨(fI_kept (x_lt hTH994 kH1016 goq (by decide))).trans (b997 j hj).1, (fI_kept (x_lt hTH994 kH1016 gaq (by decide))).trans (b997 j hj).2⟩
        have b1020 : WF (fun k => fI H1016 oq k) (fun k => fI H1016 aq k) (3000 + mn.toNatClampNeg) (3000 + x884.toNatClampNeg) 0 1 := WF.congr (fun j => fI_kept (x_lt hTH994 kH1016 goq (by decide))) (fun j => fI_kept (x_lt hTH994 kH1016 gaq (by decide))) b998
        have g1021 : CG (avw K H1016 a0) := CG.congr (fun k hk j => av_eff hTH994 kH1016 ga0 (by decide) (CG_eff [] (by decide) k hk)) g999
        have g1022 : TU (avw K H1016 a0) (svw K H1016 a0) := TU.congr (fun k hk j => av_eff hTH994 kH1016 ga0 (by decide) (TU_eff [] (by decide) k hk)) (fun k hk => sv_eff hTH994 kH1016 ga0 (by decide)) g1000
        have g1023 : WD (avw K H1016 a0) := WD.congr (fun k hk j => av_eff hTH994 kH1016 ga0 (by decide) (WD_eff [] (by decide) k hk)) g1001
        have g1024 : IM (avw K H1016 a0) := IM.congr (fun k hk j => av_eff hTH994 kH1016 ga0 (by decide) (IM_eff [] (by decide) k hk)) g1002
        have f1025 : ∀ j : Nat, bt j = (fI H1016 tq j).toInt := fun j => (f1003 j).trans (congrArg Int32.toInt (fI_kept (x_lt hTH994 kH1016 gtq (by decide))).symm)
        have m1026 := (m1004).trans (fI_kept (x_lt hTH994 kH1016 ga0 (by decide))).symm
        have m1027 := (m1005).trans (fI_kept (x_lt hTH994 kH1016 ga0 (by decide))).symm
        have m1028 := (m1006).trans (fI_kept (x_lt hTH994 kH1016 ga0 (by decide))).symm
        have m1029 := (m1007).trans (fI_kept (x_lt hTH994 kH1016 ga0 (by decide))).symm
        have m1030 := (m1008).trans (fI_kept (x_lt hTH994 kH1016 ga0 (by decide))).symm
        have m1031 := (m1009).trans (fR_kept (x_lt hTH994 kH1016 ga0 (by decide))).symm
        have m1032 := (m1010).trans (fR_kept (x_lt hTH994 kH1016 ga0 (by decide))).symm
        have m1033 := (m1011).trans (fR_kept (x_lt hTH994 kH1016 ga0 (by decide))).symm
        have m1034 := (m1012).trans (fI_kept (x_lt hTH994 kH1016 ga0 (by decide))).symm
        have m1035 := (m1013).trans (fI_kept (x_lt hTH994 kH1016 ga0 (by decide))).symm
        refine W.eq (g2 := F0 m 25 ls878 [.int x1017]) rfl ?_
        refine lv_if_eq (tgt := 66) hx hb dX10_readSum_25 (by decide) (fun c1036 => ?_) (fun c1036 => ?_)
        · have k1037 := i_eq c1036
          refine lv_iconst (v := 0) hx hb dX10_readSum_66 (by decide) ?_
          have cr_mn := i_cl (x := mn) (by omega)
          have cr_x884 := i_cl (x := x884) (by omega)
          have cn_fr := i_cl (x := fr) (by omega)
          have k43_ : kK bt tp.toNatClampNeg cj ≠ 43 := fun e => by have z_ := (TV.sg (c := 43) hcu10.2.2.1 (by decide)).mpr e; omega
          have k45_ : kK bt tp.toNatClampNeg cj ≠ 45 := fun e => by have z_ := (TV.sg (c := 45) hcu10.2.2.1 (by decide)).mpr e; omega
          exact x_iret C hQ dX10_readSum_67 hSH1016 (by decide) (by decide) (⟨0, x880, x881, x882, x883, x884, rfl, by decide, m1026, m1027, m1028, m1029, m1030, by omega, m1031, m1032, m1033, g1021, g1022, g1023, g1024, mf1018, b1019, Or.inr (WF.cast b1020 (by omega) (by omega)), Or.inr ⟨cj, hsp10.trans (if_n (show cPM (kK bt tp.toNatClampNeg) cj = false from decide_eq_false (fun z => z.elim k43_ k45_))), by omega, hcu10⟩, hTH1016⟩)
        · have k1037 := i_ne c1036
          have cl_mn := i_cl (x := mn) (by omega)
          have cl_mn := i_cl (x := mn) (by omega)
          have cl_x884 := i_cl (x := x884) (by omega)
          have kc_ : kK bt tp.toNatClampNeg cj = 45 := (TV.sg (c := 45) hcu10.2.2.1 (by decide)).mp ⟨by omega, by omega⟩
          exact J28  ls878 H1016 locsH1016 (x880) (x881) (x882) (x883) (x884) (lv_sub hl879 [0] rfl) hTH1016 hSH1016 (by have := i_rng x880; omega) (by have := i_rng x881; omega) (by have := i_rng x884; omega) m1026 m1027 m1028 m1029 m1030 m1031 m1032 m1033 m1034 m1035 b1019 (WF.cast b1020 (by omega) (by omega)) mf1018 g1021 g1022 g1023 g1024 f1025 (by omega) hcu10 (show cPM (kK bt tp.toNatClampNeg) cj = true from decide_eq_true (Or.inr kc_))
  have pf00 : ∀ j : Nat, j < 3000 + mn.toNatClampNeg → fI s.heap oq j = fI s.heap oq j ∧ fI s.heap aq j = fI s.heap aq j := fun _ _ => ⟨rfl, rfl⟩
  have hmn := i_cl (x := mn) (by omega)
  refine lv_aload_n hx hb dX10_readSum_0 rfl (lv_at hl 0 rfl) ?_
  refine x_V (As := []) (rest := []) C (a_X10_readProduct_e l K G s.heap (sp) (fr) (tk) (vl) (mn) (tp) (jb) (ci) bt hT ga0 goq eoq gaq eaq gtq etq esp efr etk evl emn etp ejb hg_CG hg_TU hg_WD hg_IM (by omega) (by omega) (hy0) (hy1) f0_bt) yo_X10_readProduct wM_X10_252 ⟨⟨by decide, by decide⟩, by decide, by decide⟩ (x_rv C hT (ci := 10) rfl ga0 rg_112) rfl hl.1 rfl (Nat.le_of_ble_eq_true rfl) dX10_readSum_1 hS (AE_sub (fun _ _ => rfl) (by decide) hS.1) (fun vH1038 H1038 locsH1038 pH1038 zH1038 kH1038 hSH1038 => ?_)
  obtain ⟨x1039, x1040, x1041, x1042, x1043, x1044, hvH1038, bx1039, ex1040, ex1041, ex1042, ex1043, ex1044, hrH1038, m1045, m1046, m1047, g1048, g1049, g1050, g1051, mf1052, m1053, m1054, m1055, hTH1038⟩ := pH1038
  subst hvH1038
  have f1056 : ∀ j : Nat, bt j = (fI H1038 tq j).toInt := fun j => (f0_bt j).trans (congrArg Int32.toInt (fI_kept (x_lt hT kH1038 gtq (by decide))).symm)
  have m1057 := (eoq).trans (MF.r mf1052 (k := 32) (by decide) (by decide)).symm
  have m1058 := (eaq).trans (MF.r mf1052 (k := 33) (by decide) (by decide)).symm
  have m1059 := (etq).trans (MF.r mf1052 (k := 17) (by decide) (by decide)).symm
  have m1060 := (etp).trans (MF.i mf1052 (k := 18) (by decide) (by decide)).symm
  have m1061 := (ejb).trans (MF.i mf1052 (k := 34) (by decide) (by decide)).symm
  have mf1062 : MF K s.heap H1038 a0 [19, 20, 21, 22, 35, 39, 40] := MF.trans mf0 mf1052 (by decide)
  have bx1040 := ty_fi (x := x1040) (k := 19) ex1040 hTH1038 ga0 rg_112 rfl
  have bx1041 := ty_fi (x := x1041) (k := 20) ex1041 hTH1038 ga0 rg_112 rfl
  have bx1042 := ty_fi (x := x1042) (k := 21) ex1042 hTH1038 ga0 rg_112 rfl
  have bx1043 := ty_fi (x := x1043) (k := 22) ex1043 hTH1038 ga0 rg_112 rfl
  have bx1044 := ty_fi (x := x1044) (k := 35) ex1044 hTH1038 ga0 rg_112 rfl
  have csm1053 := i_cl (x := mn) (by omega)
  have b1063 : ∀ j : Nat, j < 3000 + mn.toNatClampNeg → fI H1038 oq j = fI s.heap oq j ∧ fI H1038 aq j = fI s.heap aq j := fun j hj => ⟨(m1053 j (by omega)).1.trans (pf00 j hj).1, (m1053 j (by omega)).2.trans (pf00 j hj).2⟩
  refine W.eq (g2 := F0 m 4 ls [.int x1039]) rfl ?_
  refine lv_iconst (v := (-1)) hx hb dX10_readSum_4 (by decide) ?_
  refine lv_icmp_ne (tgt := 10) hx hb dX10_readSum_5 (by decide) (fun c1064 => ?_) (fun c1064 => ?_)
  · have k1065 := i_ne c1064
    have wf0 : WF (fun k => fI H1038 oq k) (fun k => fI H1038 aq k) (3000 + mn.toNatClampNeg) (3000 + x1044.toNatClampNeg) 0 1 := by
      rcases m1054 with h | h
      · exfalso; omega
      · exact h
    have cl_mn := i_cl (x := mn) (by omega)
    have cl_mn := i_cl (x := mn) (by omega)
    have cl_x1044 := i_cl (x := x1044) (by omega)
    obtain ⟨cj1066, ho1068, cu1067⟩ := RC.yes m1055 (by omega)
    exact J10 ((500 - x1041.toInt).toNat + 1) cj1066 ls H1038 locsH1038 (x1040) (x1041) (x1042) (x1043) (x1044) (lv_sub hl [0] rfl) hTH1038 hSH1038 (by have := i_rng x1040; omega) (by have := i_rng x1041; omega) (by have := i_rng x1044; omega) ex1040 ex1041 ex1042 ex1043 ex1044 m1045 m1046 m1047 m1060 m1061 b1063 (WF.cast wf0 (by omega) (by omega)) mf1062 g1048 g1049 g1050 g1051 f1056 (by omega) (by omega) cu1067 (lp_if tmI_gp ho1068)
  · have k1065 := i_eq c1064
    refine lv_iconst (v := (-1)) hx hb dX10_readSum_8 (by decide) ?_
    have cn_fr := i_cl (x := fr) (by omega)
    exact x_iret C hQ dX10_readSum_9 hSH1038 (by decide) (by decide) (⟨(-1), x1040, x1041, x1042, x1043, x1044, rfl, by decide, ex1040, ex1041, ex1042, ex1043, ex1044, by omega, m1045, m1046, m1047, g1048, g1049, g1050, g1051, mf1062, b1063, Or.inl (by omega), Or.inl ⟨lp_none tmI_gp (RC.no m1055 (by omega)), by omega⟩, hTH1038⟩)

set_option maxHeartbeats 4000000 in
set_option maxRecDepth 100000 in
theorem a_X10_readCompared_e (l : Launch) (K : KE) (G : Nat → Option Nat) (H : Heap) {a0 : Nat} {oq : Nat} {aq : Nat} {tq : Nat} (sp : Int32) (fr : Int32) (tk : Int32) (vl : Int32) (mn : Int32) (tp : Int32) (jb : Int32) (ci : Nat) (bt : Nat → Int) (hT : TY K G H) (ga0 : G a0 = some 112) (goq : G oq = some 136) (eoq : oq = fR H a0 (K.1.2 10 32)) (gaq : G aq = some 137) (eaq : aq = fR H a0 (K.1.2 10 33)) (gtq : G tq = some 126) (etq : tq = fR H a0 (K.1.2 10 17)) (esp : sp = fI H a0 (K.1.2 10 19)) (efr : fr = fI H a0 (K.1.2 10 20)) (etk : tk = fI H a0 (K.1.2 10 21)) (evl : vl = fI H a0 (K.1.2 10 22)) (emn : mn = fI H a0 (K.1.2 10 35)) (etp : tp = fI H a0 (K.1.2 10 18)) (ejb : jb = fI H a0 (K.1.2 10 34)) (hg_CG : CG (avw K H a0)) (hg_TU : TU (avw K H a0) (svw K H a0)) (hg_WD : WD (avw K H a0)) (hg_IM : IM (avw K H a0)) (hp0 : (sp.toInt ≤ tp.toInt ∧ fr.toInt ≤ sp.toInt ∧ (tk.toInt = 0 ∨ fr.toInt < sp.toInt) ∧ (tk.toInt ≠ 2 ∨ (0 ≤ vl.toInt ∧ vl.toInt ≤ 23)))) (hp1 : mn.toInt ≤ fr.toInt) (hy0 : CU bt tp.toNatClampNeg ci fr sp tk vl) (hy1 : ∀ j : Nat, j < tp.toNatClampNeg → 0 ≤ bt j) (hv_bt : ∀ j : Nat, bt j = (fI H tq j).toInt) : MX l K yX10_readCompared cX10_readCompared 2 (some .int) 6 128 0 0 [.ref a0] H (AE G [112, 136, 137] H.size) (fun v H1 => ∃ (r : Int32) (t0 : Int32) (t1 : Int32) (t2 : Int32) (t3 : Int32) (t4 : Int32), v = some (.int r) ∧ ((-1) ≤ r.toInt ∧ r.toInt ≤ 0) ∧ t0 = fI H1 a0 (K.1.2 10 19) ∧ t1 = fI H1 a0 (K.1.2 10 20) ∧ t2 = fI H1 a0 (K.1.2 10 21) ∧ t3 = fI H1 a0 (K.1.2 10 22) ∧ t4 = fI H1 a0 (K.1.2 10 35) ∧ (r.toInt = -1 ∨ (r.toInt = 0 ∧ t0.toInt ≤ tp.toInt ∧ t1.toInt ≤ t0.toInt ∧ (t2.toInt = 0 ∨ t1.toInt < t0.toInt) ∧ (t2.toInt ≠ 2 ∨ (0 ≤ t3.toInt ∧ t3.toInt ≤ 23)) ∧ t4.toInt + fr.toInt ≤ mn.toInt + t1.toInt ∧ mn.toInt < t4.toInt ∧ fr.toInt < t1.toInt)) ∧ oq = fR H1 a0 (K.1.2 10 32) ∧ aq = fR H1 a0 (K.1.2 10 33) ∧ tq = fR H1 a0 (K.1.2 10 17) ∧ (CG (avw K H1 a0)) ∧ (TU (avw K H1 a0) (svw K H1 a0)) ∧ (WD (avw K H1 a0)) ∧ (IM (avw K H1 a0)) ∧ MF K H H1 a0 [19, 20, 21, 22, 35, 39, 40] ∧ (∀ j : Nat, j < 3000 + mn.toNatClampNeg → fI H1 oq j = fI H oq j ∧ fI H1 aq j = fI H aq j) ∧ (r.toInt = -1 ∨ WF (fun k => fI H1 oq k) (fun k => fI H1 aq k) (3000 + mn.toNatClampNeg) (3000 + t4.toNatClampNeg) 0 1) ∧ (RC (cpI (kK bt tp.toNatClampNeg) (vV bt tp.toNatClampNeg) (1 - jb.toInt) ci) r bt tp.toNatClampNeg t1 t0 t2 t3) ∧ TY K G H1) := by
  refine MX.of (by decide +kernel) (Nat.le_of_ble_eq_true rfl) ?_
  intro p e s m below meth c ls Q C hH hl hQ
  subst hH
  have C : CX p K s m _ meth c RX10 cX10_readCompared 2 (some .int) "readCompared" := C
  obtain ⟨hx, hb, hml, hown, hts, hKT, hr, hlocks, hnm⟩ := id C
  have hl : lv_has ls 2 [(0, .ref a0)] := hl
  have hS : va_S (AE G [112, 136, 137] s.heap.size) s.heap s.heap [] := va_S.rf
  have n_m1 : ((-1) : Int32).toInt = -1 := rfl
  have n_0 : (0 : Int32).toInt = 0 := rfl
  have n_1 : (1 : Int32).toInt = 1 := rfl
  have n_6 : (6 : Int32).toInt = 6 := rfl
  have n_7 : (7 : Int32).toInt = 7 := rfl
  have n_8 : (8 : Int32).toInt = 8 := rfl
  have n_60 : (60 : Int32).toInt = 60 := rfl
  have n_61 : (61 : Int32).toInt = 61 := rfl
  have n_62 : (62 : Int32).toInt = 62 := rfl
  have bsp := ty_fi (x := sp) (k := 19) esp hT ga0 rg_112 rfl
  have bfr := ty_fi (x := fr) (k := 20) efr hT ga0 rg_112 rfl
  have btk := ty_fi (x := tk) (k := 21) etk hT ga0 rg_112 rfl
  have bvl := ty_fi (x := vl) (k := 22) evl hT ga0 rg_112 rfl
  have bmn := ty_fi (x := mn) (k := 35) emn hT ga0 rg_112 rfl
  have btp := ty_fi (x := tp) (k := 18) etp hT ga0 rg_112 rfl
  have bjb := ty_fi (x := jb) (k := 34) ejb hT ga0 rg_112 rfl
  have hap : ∀ x y, x < 74 → y < 74 → x ≠ y → K.1.2 10 x ≠ K.1.2 10 y := x_apart hKT hts inX10 tyX10 tyX10_ok nmX10 rfl
  have mf0 : MF K s.heap s.heap a0 [19, 20, 21, 22, 35, 39, 40] := fun _ _ _ => rfl
  have f0_bt := hv_bt
  have J43 : ∀ (cj : Nat) (ls1098 : Array Slot) (H1097 : Heap) (locsH1097 : List Loc) (x1100 : Int32) (x1101 : Int32) (x1102 : Int32) (x1103 : Int32) (x1104 : Int32), lv_has ls1098 2 [(0, .ref a0)] → TY K G H1097 → va_S (AE G [112, 136, 137] s.heap.size) s.heap H1097 locsH1097 → (0 ≤ x1100.toInt ∧ x1100.toInt ≤ 500) → (0 ≤ x1101.toInt ∧ x1101.toInt ≤ 500) → (0 ≤ x1104.toInt ∧ x1104.toInt ≤ 500) → (x1100 = fI H1097 a0 (K.1.2 10 19)) → (x1101 = fI H1097 a0 (K.1.2 10 20)) → (x1102 = fI H1097 a0 (K.1.2 10 21)) → (x1103 = fI H1097 a0 (K.1.2 10 22)) → (x1104 = fI H1097 a0 (K.1.2 10 35)) → (oq = fR H1097 a0 (K.1.2 10 32)) → (aq = fR H1097 a0 (K.1.2 10 33)) → (tq = fR H1097 a0 (K.1.2 10 17)) → (tp = fI H1097 a0 (K.1.2 10 18)) → (jb = fI H1097 a0 (K.1.2 10 34)) → (∀ j : Nat, j < 3000 + mn.toNatClampNeg → fI H1097 oq j = fI s.heap oq j ∧ fI H1097 aq j = fI s.heap aq j) → (WF (fun k => fI H1097 oq k) (fun k => fI H1097 aq k) (3000 + mn.toNatClampNeg) (3000 + x1104.toNatClampNeg) 0 1) → (MF K s.heap H1097 a0 [19, 20, 21, 22, 35, 39, 40]) → (CG (avw K H1097 a0)) → (TU (avw K H1097 a0) (svw K H1097 a0)) → (WD (avw K H1097 a0)) → (IM (avw K H1097 a0)) → (∀ j : Nat, bt j = (fI H1097 tq j).toInt) → ((x1100.toInt ≤ tp.toInt ∧ x1101.toInt ≤ x1100.toInt ∧ (x1102.toInt = 0 ∨ x1101.toInt < x1100.toInt) ∧ (x1102.toInt ≠ 2 ∨ (0 ≤ x1103.toInt ∧ x1103.toInt ≤ 23))) ∧ x1104.toInt + fr.toInt ≤ mn.toInt + x1101.toInt ∧ mn.toInt < x1104.toInt ∧ fr.toInt < x1101.toInt ∧ x1102.toInt = 4) → (CU bt tp.toNatClampNeg cj x1101 x1100 x1102 x1103) → (smI (kK bt tp.toNatClampNeg) (vV bt tp.toNatClampNeg) (1 - jb.toInt) ci = some cj) → (HD (kK bt tp.toNatClampNeg cj = 60 ∨ kK bt tp.toNatClampNeg cj = 61 ∨ kK bt tp.toNatClampNeg cj = 62)) → W p l e ({ frames := 6, cells := 0, slots := 0, locals := 128 } : Room) s m (([.ref a0] : List Value).toArray) below meth c H1097 locsH1097 0 0 Q (F0 m 43 ls1098 []) := by
    intro cj ls1098 H1097 locsH1097 x1100 x1101 x1102 x1103 x1104 hl1099 hTH1097 hSH1097 bx1100 bx1101 bx1104 ex1100 ex1101 ex1102 ex1103 ex1104 cy1105_0 cy1105_1 cy1105_2 cy1105_3 cy1105_4 by1105_pf by1105_wf mfy1105 gy1105_CG gy1105_TU gy1105_WD gy1105_IM fy1105_bt iv43 hcu43 hsm43 hkc43
    have cn_x1101 := i_cl (x := x1101) (by omega)
    have cn_tp := i_cl (x := tp) (by omega)
    have cn_fr := i_cl (x := fr) (by omega)
    have J73 : ∀  (ls1107 : Array Slot) (H1106 : Heap) (locsH1106 : List Loc) (x1109 : Int32) (x1110 : Int32) (x1111 : Int32) (x1112 : Int32) (x1113 : Int32) (x1114 : Int32), lv_has ls1107 2 [(0, .ref a0)] → TY K G H1106 → va_S (AE G [112, 136, 137] s.heap.size) s.heap H1106 locsH1106 → (6 ≤ x1109.toInt ∧ x1109.toInt ≤ 8) → (0 ≤ x1110.toInt ∧ x1110.toInt ≤ 500) → (0 ≤ x1111.toInt ∧ x1111.toInt ≤ 500) → (0 ≤ x1114.toInt ∧ x1114.toInt ≤ 500) → (x1110 = fI H1106 a0 (K.1.2 10 19)) → (x1111 = fI H1106 a0 (K.1.2 10 20)) → (x1112 = fI H1106 a0 (K.1.2 10 21)) → (x1113 = fI H1106 a0 (K.1.2 10 22)) → (x1114 = fI H1106 a0 (K.1.2 10 35)) → (oq = fR H1106 a0 (K.1.2 10 32)) → (aq = fR H1106 a0 (K.1.2 10 33)) → (tq = fR H1106 a0 (K.1.2 10 17)) → (tp = fI H1106 a0 (K.1.2 10 18)) → (jb = fI H1106 a0 (K.1.2 10 34)) → (∀ j : Nat, j < 3000 + mn.toNatClampNeg → fI H1106 oq j = fI s.heap oq j ∧ fI H1106 aq j = fI s.heap aq j) → (WF (fun k => fI H1106 oq k) (fun k => fI H1106 aq k) (3000 + mn.toNatClampNeg) (3000 + x1114.toNatClampNeg) 0 1) → (MF K s.heap H1106 a0 [19, 20, 21, 22, 35, 39, 40]) → (CG (avw K H1106 a0)) → (TU (avw K H1106 a0) (svw K H1106 a0)) → (WD (avw K H1106 a0)) → (IM (avw K H1106 a0)) → (∀ j : Nat, bt j = (fI H1106 tq j).toInt) → ((x1110.toInt ≤ tp.toInt ∧ x1111.toInt ≤ x1110.toInt ∧ (x1112.toInt = 0 ∨ x1111.toInt < x1110.toInt) ∧ (x1112.toInt ≠ 2 ∨ (0 ≤ x1113.toInt ∧ x1113.toInt ≤ 23))) ∧ x1114.toInt + fr.toInt ≤ mn.toInt + x1111.toInt ∧ mn.toInt < x1114.toInt ∧ fr.toInt < x1111.toInt ∧ x1112.toInt = 4) → (CU bt tp.toNatClampNeg cj x1111 x1110 x1112 x1113) → W p l e ({ frames := 6, cells := 0, slots := 0, locals := 128 } : Room) s m (([.ref a0] : List Value).toArray) below meth c H1106 locsH1106 0 0 Q (F0 m 73 ls1107 [.int x1109]) := by
      intro  ls1107 H1106 locsH1106 x1109 x1110 x1111 x1112 x1113 x1114 hl1108 hTH1106 hSH1106 bx1109 bx1110 bx1111 bx1114 ex1110 ex1111 ex1112 ex1113 ex1114 cy1115_0 cy1115_1 cy1115_2 cy1115_3 cy1115_4 by1115_pf by1115_wf mfy1115 gy1115_CG gy1115_TU gy1115_WD gy1115_IM fy1115_bt iv73 hcu73
      have cn_x1111 := i_cl (x := x1111) (by omega)
      have cn_tp := i_cl (x := tp) (by omega)
      have cn_fr := i_cl (x := fr) (by omega)
      refine lv_istore_n (lv' := [(1, .int x1109), (0, .ref a0)]) hx hb dX10_readCompared_73 rfl hl1108 (by decide) rfl (fun ls1116 hl1117 => ?_)
      refine lv_aload_n hx hb dX10_readCompared_74 rfl (lv_at hl1117 1 rfl) ?_
      refine x_V (As := []) (rest := []) C (a_X10_reads_e l K G H1106 (x1110) (x1111) (x1112) (x1113) (tp) bt hTH1106 ga0 gtq cy1115_2 ex1110 ex1111 ex1112 ex1113 cy1115_3 gy1115_CG gy1115_TU gy1115_WD gy1115_IM (by omega) (hy1) fy1115_bt) yo_X10_reads wM_X10_242 ⟨⟨by decide, by decide⟩, by decide, by decide⟩ (x_rv C hTH1106 (ci := 10) rfl ga0 rg_112) rfl hl1117.1 rfl (Nat.le_of_ble_eq_true rfl) dX10_readCompared_75 hSH1106 (AE_sub (fun _ _ => rfl) (by decide) hSH1106.1) (fun vH1118 H1118 locsH1118 pH1118 zH1118 kH1118 hSH1118 => ?_)
      obtain ⟨x1119, x1120, x1121, x1122, hvH1118, ex1119, ex1120, ex1121, ex1122, hrH1118, m1123, g1124, g1125, g1126, g1127, mf1128, m1129, m1130, m1131, hTH1118⟩ := pH1118
      subst hvH1118
      have b1132 : ∀ j : Nat, j < 3000 + mn.toNatClampNeg → fI H1118 oq j = fI s.heap oq j ∧ fI H1118 aq j = fI s.heap aq j := fun j hj => ⟨(fI_kept (x_lt hTH1106 kH1118 goq (by decide))).trans (by1115_pf j hj).1, (fI_kept (x_lt hTH1106 kH1118 gaq (by decide))).trans (by1115_pf j hj).2⟩
      have b1133 : WF (fun k => fI H1118 oq k) (fun k => fI H1118 aq k) (3000 + mn.toNatClampNeg) (3000 + x1114.toNatClampNeg) 0 1 := WF.congr (fun j => fI_kept (x_lt hTH1106 kH1118 goq (by decide))) (fun j => fI_kept (x_lt hTH1106 kH1118 gaq (by decide))) by1115_wf
      have f1134 : ∀ j : Nat, bt j = (fI H1118 tq j).toInt := fun j => (fy1115_bt j).trans (congrArg Int32.toInt (fI_kept (x_lt hTH1106 kH1118 gtq (by decide))).symm)
      have m1135 := (ex1114).trans (MF.i mf1128 (k := 35) (by decide) (by decide)).symm
      have m1136 := (cy1115_0).trans (MF.r mf1128 (k := 32) (by decide) (by decide)).symm
      have m1137 := (cy1115_1).trans (MF.r mf1128 (k := 33) (by decide) (by decide)).symm
      have m1138 := (cy1115_2).trans (MF.r mf1128 (k := 17) (by decide) (by decide)).symm
      have m1139 := (cy1115_3).trans (MF.i mf1128 (k := 18) (by decide) (by decide)).symm
      have m1140 := (cy1115_4).trans (MF.i mf1128 (k := 34) (by decide) (by decide)).symm
      have mf1141 : MF K s.heap H1118 a0 [19, 20, 21, 22, 35, 39, 40] := MF.trans mfy1115 mf1128 (by decide)
      have bx1119 := ty_fi (x := x1119) (k := 19) ex1119 hTH1118 ga0 rg_112 rfl
      have bx1120 := ty_fi (x := x1120) (k := 20) ex1120 hTH1118 ga0 rg_112 rfl
      have bx1121 := ty_fi (x := x1121) (k := 21) ex1121 hTH1118 ga0 rg_112 rfl
      have bx1122 := ty_fi (x := x1122) (k := 22) ex1122 hTH1118 ga0 rg_112 rfl
      have cn_x1120 := i_cl (x := x1120) (by omega)
      have cn_x1111 := i_cl (x := x1111) (by omega)
      have cu1142 : CU bt tp.toNatClampNeg (cj + 1) x1120 x1119 x1121 x1122 := CU.next hcu73 m1129 m1130 m1131 (by omega)
      refine W.eq (g2 := F0 m 78 ls1116 []) rfl ?_
      refine lv_aload_n hx hb dX10_readCompared_78 rfl (lv_at hl1117 1 rfl) ?_
      refine x_V (As := []) (rest := []) C (a_X10_readSum_e l K G H1118 (x1119) (x1120) (x1121) (x1122) (x1114) (tp) (jb) ((cj + 1)) bt hTH1118 ga0 goq m1136 gaq m1137 gtq m1123 ex1119 ex1120 ex1121 ex1122 m1135 m1139 m1140 g1124 g1125 g1126 g1127 (by omega) (by omega) (cu1142) (hy1) f1134) yo_X10_readSum wM_X10_255 ⟨⟨by decide, by decide⟩, by decide, by decide⟩ (x_rv C hTH1118 (ci := 10) rfl ga0 rg_112) rfl hl1117.1 rfl (Nat.le_of_ble_eq_true rfl) dX10_readCompared_79 hSH1118 (AE_sub (fun _ _ => rfl) (by decide) hSH1118.1) (fun vH1143 H1143 locsH1143 pH1143 zH1143 kH1143 hSH1143 => ?_)
      obtain ⟨x1144, x1145, x1146, x1147, x1148, x1149, hvH1143, bx1144, ex1145, ex1146, ex1147, ex1148, ex1149, hrH1143, m1150, m1151, m1152, g1153, g1154, g1155, g1156, mf1157, m1158, m1159, m1160, hTH1143⟩ := pH1143
      subst hvH1143
      have f1161 : ∀ j : Nat, bt j = (fI H1143 tq j).toInt := fun j => (f1134 j).trans (congrArg Int32.toInt (fI_kept (x_lt hTH1118 kH1143 gtq (by decide))).symm)
      have m1162 := (m1136).trans (MF.r mf1157 (k := 32) (by decide) (by decide)).symm
      have m1163 := (m1137).trans (MF.r mf1157 (k := 33) (by decide) (by decide)).symm
      have m1164 := (m1123).trans (MF.r mf1157 (k := 17) (by decide) (by decide)).symm
      have m1165 := (m1139).trans (MF.i mf1157 (k := 18) (by decide) (by decide)).symm
      have m1166 := (m1140).trans (MF.i mf1157 (k := 34) (by decide) (by decide)).symm
      have mf1167 : MF K s.heap H1143 a0 [19, 20, 21, 22, 35, 39, 40] := MF.trans mf1141 mf1157 (by decide)
      have bx1145 := ty_fi (x := x1145) (k := 19) ex1145 hTH1143 ga0 rg_112 rfl
      have bx1146 := ty_fi (x := x1146) (k := 20) ex1146 hTH1143 ga0 rg_112 rfl
      have bx1147 := ty_fi (x := x1147) (k := 21) ex1147 hTH1143 ga0 rg_112 rfl
      have bx1148 := ty_fi (x := x1148) (k := 22) ex1148 hTH1143 ga0 rg_112 rfl
      have bx1149 := ty_fi (x := x1149) (k := 35) ex1149 hTH1143 ga0 rg_112 rfl
      have csm1158 := i_cl (x := x1114) (by omega)
      have cs_mn := i_cl (x := mn) (by omega)
      have b1168 : ∀ j : Nat, j < 3000 + mn.toNatClampNeg → fI H1143 oq j = fI s.heap oq j ∧ fI H1143 aq j = fI s.heap aq j := fun j hj => ⟨(m1158 j (by omega)).1.trans (b1132 j hj).1, (m1158 j (by omega)).2.trans (b1132 j hj).2⟩
      have cs_mn := i_cl (x := mn) (by omega)
      have b1169 : WF (fun k => fI H1143 oq k) (fun k => fI H1143 aq k) (3000 + mn.toNatClampNeg) (3000 + x1114.toNatClampNeg) 0 1 := WF.keep b1133 (fun j hj => (m1158 j (by omega)).1) (fun j hj => (m1158 j (by omega)).2)
      refine W.eq (g2 := F0 m 82 ls1116 [.int x1144]) rfl ?_
      refine lv_iconst (v := (-1)) hx hb dX10_readCompared_82 (by decide) ?_
      refine lv_icmp_ne (tgt := 88) hx hb dX10_readCompared_83 (by decide) (fun c1170 => ?_) (fun c1170 => ?_)
      · have k1171 := i_ne c1170
        have wu0 : WF (fun k => fI H1143 oq k) (fun k => fI H1143 aq k) (3000 + x1114.toNatClampNeg) (3000 + x1149.toNatClampNeg) 0 1 := by
          rcases m1159 with h | h
          · exfalso; omega
          · exact h
        refine lv_aload_n hx hb dX10_readCompared_88 rfl (lv_at hl1117 1 rfl) ?_
        refine lv_iload_n hx hb dX10_readCompared_89 rfl (lv_at hl1117 0 rfl) ?_
        refine lv_iconst (v := 0) hx hb dX10_readCompared_90 (by decide) ?_
        refine x_V (As := [.int x1109, .int 0]) (rest := []) C (a_X10_emits l K G H1143 (x1109) (0) (x1149) hTH1143 ga0 goq m1150 gaq m1151 ex1149 g1153 g1154 g1155 g1156 (by omega)) yo_X10_emits wM_X10_238 ⟨⟨by decide, by decide⟩, by decide, by decide⟩ (x_rv C hTH1143 (ci := 10) rfl ga0 rg_112) rfl hl1117.1 rfl (Nat.le_of_ble_eq_true rfl) dX10_readCompared_91 hSH1143 (AE_sub (fun _ _ => rfl) (by decide) hSH1143.1) (fun vH1172 H1172 locsH1172 pH1172 zH1172 kH1172 hSH1172 => ?_)
        obtain ⟨x1173, hvH1172, ex1173, hrH1172, m1174, m1175, g1176, g1177, g1178, g1179, mf1180, m1181, m1182, m1183, m1184, hTH1172⟩ := pH1172
        subst hvH1172
        have f1185 : ∀ j : Nat, bt j = (fI H1172 tq j).toInt := fun j => (f1161 j).trans (congrArg Int32.toInt (fI_kept (x_lt hTH1143 kH1172 gtq (by decide))).symm)
        have m1186 := (m1150).trans (MF.r mf1180 (k := 32) (by decide) (by decide)).symm
        have m1187 := (m1151).trans (MF.r mf1180 (k := 33) (by decide) (by decide)).symm
        have m1188 := (m1152).trans (MF.r mf1180 (k := 17) (by decide) (by decide)).symm
        have m1189 := (m1165).trans (MF.i mf1180 (k := 18) (by decide) (by decide)).symm
        have m1190 := (m1166).trans (MF.i mf1180 (k := 34) (by decide) (by decide)).symm
        have m1191 := (ex1145).trans (MF.i mf1180 (k := 19) (by decide) (by decide)).symm
        have m1192 := (ex1146).trans (MF.i mf1180 (k := 20) (by decide) (by decide)).symm
        have m1193 := (ex1147).trans (MF.i mf1180 (k := 21) (by decide) (by decide)).symm
        have m1194 := (ex1148).trans (MF.i mf1180 (k := 22) (by decide) (by decide)).symm
        have mf1195 : MF K s.heap H1172 a0 [19, 20, 21, 22, 35, 39, 40] := MF.trans mf1167 mf1180 (by decide)
        have bx1173 := ty_fi (x := x1173) (k := 35) ex1173 hTH1172 ga0 rg_112 rfl
        have cem1184 := i_cl (x := x1149) (by omega)
        have ce_mn := i_cl (x := mn) (by omega)
        have b1196 : ∀ j : Nat, j < 3000 + mn.toNatClampNeg → fI H1172 oq j = fI s.heap oq j ∧ fI H1172 aq j = fI s.heap aq j := fun j hj => ⟨(m1183 j (by omega)).trans (b1168 j hj).1, (m1184 j (by omega)).trans (b1168 j hj).2⟩
        have ce_mn := i_cl (x := mn) (by omega)
        have ce_x1114 := i_cl (x := x1114) (by omega)
        have b1197 : WF (fun k => fI H1172 oq k) (fun k => fI H1172 aq k) (3000 + mn.toNatClampNeg) (3000 + x1114.toNatClampNeg) 0 1 := WF.keep b1169 (fun j hj => m1183 j (by omega)) (fun j hj => m1184 j (by omega))
        have ce_x1114 := i_cl (x := x1114) (by omega)
        have b1198 : WF (fun k => fI H1172 oq k) (fun k => fI H1172 aq k) (3000 + x1114.toNatClampNeg) (3000 + x1149.toNatClampNeg) 0 1 := WF.keep wu0 (fun j hj => m1183 j (by omega)) (fun j hj => m1184 j (by omega))
        refine W.eq (g2 := F0 m 94 ls1116 []) rfl ?_
        have ho := congrArg Int32.toInt m1181
        have cb_mn := i_cl (x := mn) (by omega)
        have cb_x1114 := i_cl (x := x1114) (by omega)
        have cb_x1149 := i_cl (x := x1149) (by omega)
        have wn : WF (fun k => fI H1172 oq k) (fun k => fI H1172 aq k) (3000 + mn.toNatClampNeg) (3000 + x1149.toNatClampNeg + 1) 0 1 := WF.bin b1197 b1198 (by omega) (by omega) (by show 2 ≤ (fI _ oq _).toInt ∧ (fI _ oq _).toInt ≤ 11 ∧ (fI _ oq _).toInt ≠ 9; omega) (Or.inl (by show (fI _ oq _).toInt ≠ 5; omega))
        refine lv_iconst (v := 0) hx hb dX10_readCompared_94 (by decide) ?_
        have cr_mn := i_cl (x := mn) (by omega)
        have cr_x1149 := i_cl (x := x1149) (by omega)
        have cr_x1173 := i_cl (x := x1173) (by omega)
        have cn_fr := i_cl (x := fr) (by omega)
        obtain ⟨cj1199, ho1201, cu1200⟩ := RC.yes m1160 (by omega)
        exact x_iret C hQ dX10_readCompared_95 hSH1172 (by decide) (by decide) (⟨0, x1145, x1146, x1147, x1148, x1173, rfl, by decide, m1191, m1192, m1193, m1194, ex1173, by omega, m1174, m1175, m1188, g1176, g1177, g1178, g1179, mf1195, b1196, Or.inr (WF.cast wn (by omega) (by omega)), Or.inr ⟨cj1199, (cp_go hsm43 (HD.get hkc43) rfl).trans ho1201, by omega, cu1200⟩, hTH1172⟩)
      · have k1171 := i_eq c1170
        refine lv_iconst (v := (-1)) hx hb dX10_readCompared_86 (by decide) ?_
        have cn_fr := i_cl (x := fr) (by omega)
        exact x_iret C hQ dX10_readCompared_87 hSH1143 (by decide) (by decide) (⟨(-1), x1145, x1146, x1147, x1148, x1149, rfl, by decide, ex1145, ex1146, ex1147, ex1148, ex1149, by omega, m1150, m1151, m1152, g1153, g1154, g1155, g1156, mf1167, b1168, Or.inl (by omega), Or.inl ⟨(cp_go hsm43 (HD.get hkc43) rfl).trans (RC.no m1160 (by omega)), by omega⟩, hTH1143⟩)
    refine lv_aload_n hx hb dX10_readCompared_43 rfl (lv_at hl1099 0 rfl) ?_
    refine x_gi C hTH1097 (ci := 10) (k := 22) rfl inX10 (by decide) wF_X10_205 ga0 rg_112 rfl dX10_readCompared_44 (fun x1202 ex1202 bx1202 => ?_)
    have ux1202 : x1103 = x1202 := (ex1103).trans ex1202.symm
    subst ux1202
    refine lv_bipush (v := 60) hx hb dX10_readCompared_47 (by decide) ?_
    refine lv_icmp_ne (tgt := 57) hx hb dX10_readCompared_49 (by decide) (fun c1203 => ?_) (fun c1203 => ?_)
    · have k1204 := i_ne c1203
      refine lv_aload_n hx hb dX10_readCompared_57 rfl (lv_at hl1099 0 rfl) ?_
      refine x_gi C hTH1097 (ci := 10) (k := 22) rfl inX10 (by decide) wF_X10_205 ga0 rg_112 rfl dX10_readCompared_58 (fun x1205 ex1205 bx1205 => ?_)
      have ux1205 : x1103 = x1205 := (ex1103).trans ex1205.symm
      subst ux1205
      refine lv_bipush (v := 61) hx hb dX10_readCompared_61 (by decide) ?_
      refine lv_icmp_ne (tgt := 71) hx hb dX10_readCompared_63 (by decide) (fun c1206 => ?_) (fun c1206 => ?_)
      · have k1207 := i_ne c1206
        refine lv_bipush (v := 8) hx hb dX10_readCompared_71 (by decide) ?_
        have cl_mn := i_cl (x := mn) (by omega)
        have cl_mn := i_cl (x := mn) (by omega)
        have cl_x1104 := i_cl (x := x1104) (by omega)
        exact J73  ls1098 H1097 locsH1097 (8) (x1100) (x1101) (x1102) (x1103) (x1104) (lv_sub hl1099 [0] rfl) hTH1097 hSH1097 (by decide) (by have := i_rng x1100; omega) (by have := i_rng x1101; omega) (by have := i_rng x1104; omega) ex1100 ex1101 ex1102 ex1103 ex1104 cy1105_0 cy1105_1 cy1105_2 cy1105_3 cy1105_4 by1105_pf (WF.cast by1105_wf (by omega) (by omega)) mfy1105 gy1105_CG gy1105_TU gy1105_WD gy1105_IM fy1105_bt (by omega) hcu43
      · have k1207 := i_eq c1206
        refine lv_bipush (v := 7) hx hb dX10_readCompared_66 (by decide) ?_
        refine lv_goto (tgt := 73) hx hb dX10_readCompared_68 (by decide) ?_
        have cl_mn := i_cl (x := mn) (by omega)
        have cl_mn := i_cl (x := mn) (by omega)
        have cl_x1104 := i_cl (x := x1104) (by omega)
        exact J73  ls1098 H1097 locsH1097 (7) (x1100) (x1101) (x1102) (x1103) (x1104) (lv_sub hl1099 [0] rfl) hTH1097 hSH1097 (by decide) (by have := i_rng x1100; omega) (by have := i_rng x1101; omega) (by have := i_rng x1104; omega) ex1100 ex1101 ex1102 ex1103 ex1104 cy1105_0 cy1105_1 cy1105_2 cy1105_3 cy1105_4 by1105_pf (WF.cast by1105_wf (by omega) (by omega)) mfy1105 gy1105_CG gy1105_TU gy1105_WD gy1105_IM fy1105_bt (by omega) hcu43
    · have k1204 := i_eq c1203
      refine lv_bipush (v := 6) hx hb dX10_readCompared_52 (by decide) ?_
      refine lv_goto (tgt := 73) hx hb dX10_readCompared_54 (by decide) ?_
      have cl_mn := i_cl (x := mn) (by omega)
      have cl_mn := i_cl (x := mn) (by omega)
      have cl_x1104 := i_cl (x := x1104) (by omega)
      exact J73  ls1098 H1097 locsH1097 (6) (x1100) (x1101) (x1102) (x1103) (x1104) (lv_sub hl1099 [0] rfl) hTH1097 hSH1097 (by decide) (by have := i_rng x1100; omega) (by have := i_rng x1101; omega) (by have := i_rng x1104; omega) ex1100 ex1101 ex1102 ex1103 ex1104 cy1105_0 cy1105_1 cy1105_2 cy1105_3 cy1105_4 by1105_pf (WF.cast by1105_wf (by omega) (by omega)) mfy1105 gy1105_CG gy1105_TU gy1105_WD gy1105_IM fy1105_bt (by omega) hcu43
  have pf00 : ∀ j : Nat, j < 3000 + mn.toNatClampNeg → fI s.heap oq j = fI s.heap oq j ∧ fI s.heap aq j = fI s.heap aq j := fun _ _ => ⟨rfl, rfl⟩
  have hmn := i_cl (x := mn) (by omega)
  refine lv_aload_n hx hb dX10_readCompared_0 rfl (lv_at hl 0 rfl) ?_
  refine x_V (As := []) (rest := []) C (a_X10_readSum_e l K G s.heap (sp) (fr) (tk) (vl) (mn) (tp) (jb) (ci) bt hT ga0 goq eoq gaq eaq gtq etq esp efr etk evl emn etp ejb hg_CG hg_TU hg_WD hg_IM (by omega) (by omega) (hy0) (hy1) f0_bt) yo_X10_readSum wM_X10_255 ⟨⟨by decide, by decide⟩, by decide, by decide⟩ (x_rv C hT (ci := 10) rfl ga0 rg_112) rfl hl.1 rfl (Nat.le_of_ble_eq_true rfl) dX10_readCompared_1 hS (AE_sub (fun _ _ => rfl) (by decide) hS.1) (fun vH1208 H1208 locsH1208 pH1208 zH1208 kH1208 hSH1208 => ?_)
  obtain ⟨x1209, x1210, x1211, x1212, x1213, x1214, hvH1208, bx1209, ex1210, ex1211, ex1212, ex1213, ex1214, hrH1208, m1215, m1216, m1217, g1218, g1219, g1220, g1221, mf1222, m1223, m1224, m1225, hTH1208⟩ := pH1208
  subst hvH1208
  have f1226 : ∀ j : Nat, bt j = (fI H1208 tq j).toInt := fun j => (f0_bt j).trans (congrArg Int32.toInt (fI_kept (x_lt hT kH1208 gtq (by decide))).symm)
  have m1227 := (eoq).trans (MF.r mf1222 (k := 32) (by decide) (by decide)).symm
  have m1228 := (eaq).trans (MF.r mf1222 (k := 33) (by decide) (by decide)).symm
  have m1229 := (etq).trans (MF.r mf1222 (k := 17) (by decide) (by decide)).symm
  have m1230 := (etp).trans (MF.i mf1222 (k := 18) (by decide) (by decide)).symm
  have m1231 := (ejb).trans (MF.i mf1222 (k := 34) (by decide) (by decide)).symm
  have mf1232 : MF K s.heap H1208 a0 [19, 20, 21, 22, 35, 39, 40] := MF.trans mf0 mf1222 (by decide)
  have bx1210 := ty_fi (x := x1210) (k := 19) ex1210 hTH1208 ga0 rg_112 rfl
  have bx1211 := ty_fi (x := x1211) (k := 20) ex1211 hTH1208 ga0 rg_112 rfl
  have bx1212 := ty_fi (x := x1212) (k := 21) ex1212 hTH1208 ga0 rg_112 rfl
  have bx1213 := ty_fi (x := x1213) (k := 22) ex1213 hTH1208 ga0 rg_112 rfl
  have bx1214 := ty_fi (x := x1214) (k := 35) ex1214 hTH1208 ga0 rg_112 rfl
  have csm1223 := i_cl (x := mn) (by omega)
  have b1233 : ∀ j : Nat, j < 3000 + mn.toNatClampNeg → fI H1208 oq j = fI s.heap oq j ∧ fI H1208 aq j = fI s.heap aq j := fun j hj => ⟨(m1223 j (by omega)).1.trans (pf00 j hj).1, (m1223 j (by omega)).2.trans (pf00 j hj).2⟩
  refine W.eq (g2 := F0 m 4 ls [.int x1209]) rfl ?_
  refine lv_iconst (v := (-1)) hx hb dX10_readCompared_4 (by decide) ?_
  refine lv_icmp_ne (tgt := 10) hx hb dX10_readCompared_5 (by decide) (fun c1234 => ?_) (fun c1234 => ?_)
  · have k1235 := i_ne c1234
    have wf0 : WF (fun k => fI H1208 oq k) (fun k => fI H1208 aq k) (3000 + mn.toNatClampNeg) (3000 + x1214.toNatClampNeg) 0 1 := by
      rcases m1224 with h | h
      · exfalso; omega
      · exact h
    refine lv_aload_n hx hb dX10_readCompared_10 rfl (lv_at hl 0 rfl) ?_
    refine lv_bipush (v := 60) hx hb dX10_readCompared_11 (by decide) ?_
    refine x_V (As := [.int 60]) (rest := []) C (a_X10_isSign_e l K G H1208 (60) (x1212) (x1213) hTH1208 ga0 ex1212 ex1213) yo_X10_isSign wM_X10_249 ⟨⟨by decide, by decide⟩, by decide, by decide⟩ (x_rv C hTH1208 (ci := 10) rfl ga0 rg_112) rfl hl.1 rfl (Nat.le_of_ble_eq_true rfl) dX10_readCompared_13 hSH1208 (AE_sub (fun _ _ => rfl) (by decide) hSH1208.1) (fun vH1236 H1236 locsH1236 pH1236 zH1236 kH1236 hSH1236 => ?_)
    obtain ⟨x1237, hvH1236, bx1237, hrH1236, hTH1236⟩ := pH1236
    subst hvH1236
    have mf1238 : MF K s.heap H1236 a0 [19, 20, 21, 22, 35, 39, 40] := MF.eff (x_lt hTH1208 kH1236 ga0 (by decide)) mf1232
    have b1239 : ∀ j : Nat, j < 3000 + mn.toNatClampNeg → fI H1236 oq j = fI s.heap oq j ∧ fI H1236 aq j = fI s.heap aq j := fun j hj => ⟨(fI_kept (x_lt hTH1208 kH1236 goq (by decide))).trans (b1233 j hj).1, (fI_kept (x_lt hTH1208 kH1236 gaq (by decide))).trans (b1233 j hj).2⟩
    have b1240 : WF (fun k => fI H1236 oq k) (fun k => fI H1236 aq k) (3000 + mn.toNatClampNeg) (3000 + x1214.toNatClampNeg) 0 1 := WF.congr (fun j => fI_kept (x_lt hTH1208 kH1236 goq (by decide))) (fun j => fI_kept (x_lt hTH1208 kH1236 gaq (by decide))) wf0
    have g1241 : CG (avw K H1236 a0) := CG.congr (fun k hk j => av_eff hTH1208 kH1236 ga0 (by decide) (CG_eff [] (by decide) k hk)) g1218
    have g1242 : TU (avw K H1236 a0) (svw K H1236 a0) := TU.congr (fun k hk j => av_eff hTH1208 kH1236 ga0 (by decide) (TU_eff [] (by decide) k hk)) (fun k hk => sv_eff hTH1208 kH1236 ga0 (by decide)) g1219
    have g1243 : WD (avw K H1236 a0) := WD.congr (fun k hk j => av_eff hTH1208 kH1236 ga0 (by decide) (WD_eff [] (by decide) k hk)) g1220
    have g1244 : IM (avw K H1236 a0) := IM.congr (fun k hk j => av_eff hTH1208 kH1236 ga0 (by decide) (IM_eff [] (by decide) k hk)) g1221
    have f1245 : ∀ j : Nat, bt j = (fI H1236 tq j).toInt := fun j => (f1226 j).trans (congrArg Int32.toInt (fI_kept (x_lt hTH1208 kH1236 gtq (by decide))).symm)
    have m1246 := (m1215).trans (fR_kept (x_lt hTH1208 kH1236 ga0 (by decide))).symm
    have m1247 := (m1216).trans (fR_kept (x_lt hTH1208 kH1236 ga0 (by decide))).symm
    have m1248 := (m1217).trans (fR_kept (x_lt hTH1208 kH1236 ga0 (by decide))).symm
    have m1249 := (m1230).trans (fI_kept (x_lt hTH1208 kH1236 ga0 (by decide))).symm
    have m1250 := (m1231).trans (fI_kept (x_lt hTH1208 kH1236 ga0 (by decide))).symm
    have m1251 := (ex1210).trans (fI_kept (x_lt hTH1208 kH1236 ga0 (by decide))).symm
    have m1252 := (ex1211).trans (fI_kept (x_lt hTH1208 kH1236 ga0 (by decide))).symm
    have m1253 := (ex1212).trans (fI_kept (x_lt hTH1208 kH1236 ga0 (by decide))).symm
    have m1254 := (ex1213).trans (fI_kept (x_lt hTH1208 kH1236 ga0 (by decide))).symm
    have m1255 := (ex1214).trans (fI_kept (x_lt hTH1208 kH1236 ga0 (by decide))).symm
    refine W.eq (g2 := F0 m 16 ls [.int x1237]) rfl ?_
    refine lv_if_ne (tgt := 43) hx hb dX10_readCompared_16 (by decide) (fun c1256 => ?_) (fun c1256 => ?_)
    · have k1257 := i_ne c1256
      have cl_mn := i_cl (x := mn) (by omega)
      have cl_mn := i_cl (x := mn) (by omega)
      have cl_x1214 := i_cl (x := x1214) (by omega)
      obtain ⟨cj1258, ho1260, cu1259⟩ := RC.yes m1225 (by omega)
      have kc_ : kK bt tp.toNatClampNeg cj1258 = 60 := (TV.sg (c := 60) cu1259.2.2.1 (by decide)).mp ⟨by omega, by omega⟩
      exact J43 cj1258 ls H1236 locsH1236 (x1210) (x1211) (x1212) (x1213) (x1214) (lv_sub hl [0] rfl) hTH1236 hSH1236 (by have := i_rng x1210; omega) (by have := i_rng x1211; omega) (by have := i_rng x1214; omega) m1251 m1252 m1253 m1254 m1255 m1246 m1247 m1248 m1249 m1250 b1239 (WF.cast b1240 (by omega) (by omega)) mf1238 g1241 g1242 g1243 g1244 f1245 (by omega) cu1259 ho1260 (HD.mk (Or.inl kc_))
    · have k1257 := i_eq c1256
      refine lv_aload_n hx hb dX10_readCompared_19 rfl (lv_at hl 0 rfl) ?_
      refine lv_bipush (v := 61) hx hb dX10_readCompared_20 (by decide) ?_
      refine x_V (As := [.int 61]) (rest := []) C (a_X10_isSign_e l K G H1236 (61) (x1212) (x1213) hTH1236 ga0 m1253 m1254) yo_X10_isSign wM_X10_249 ⟨⟨by decide, by decide⟩, by decide, by decide⟩ (x_rv C hTH1236 (ci := 10) rfl ga0 rg_112) rfl hl.1 rfl (Nat.le_of_ble_eq_true rfl) dX10_readCompared_22 hSH1236 (AE_sub (fun _ _ => rfl) (by decide) hSH1236.1) (fun vH1261 H1261 locsH1261 pH1261 zH1261 kH1261 hSH1261 => ?_)
      obtain ⟨x1262, hvH1261, bx1262, hrH1261, hTH1261⟩ := pH1261
      subst hvH1261
      have mf1263 : MF K s.heap H1261 a0 [19, 20, 21, 22, 35, 39, 40] := MF.eff (x_lt hTH1236 kH1261 ga0 (by decide)) mf1238
      have b1264 : ∀ j : Nat, j < 3000 + mn.toNatClampNeg → fI H1261 oq j = fI s.heap oq j ∧ fI H1261 aq j = fI s.heap aq j := fun j hj => ⟨(fI_kept (x_lt hTH1236 kH1261 goq (by decide))).trans (b1239 j hj).1, (fI_kept (x_lt hTH1236 kH1261 gaq (by decide))).trans (b1239 j hj).2⟩
      have b1265 : WF (fun k => fI H1261 oq k) (fun k => fI H1261 aq k) (3000 + mn.toNatClampNeg) (3000 + x1214.toNatClampNeg) 0 1 := WF.congr (fun j => fI_kept (x_lt hTH1236 kH1261 goq (by decide))) (fun j => fI_kept (x_lt hTH1236 kH1261 gaq (by decide))) b1240
      have g1266 : CG (avw K H1261 a0) := CG.congr (fun k hk j => av_eff hTH1236 kH1261 ga0 (by decide) (CG_eff [] (by decide) k hk)) g1241
      have g1267 : TU (avw K H1261 a0) (svw K H1261 a0) := TU.congr (fun k hk j => av_eff hTH1236 kH1261 ga0 (by decide) (TU_eff [] (by decide) k hk)) (fun k hk => sv_eff hTH1236 kH1261 ga0 (by decide)) g1242
      have g1268 : WD (avw K H1261 a0) := WD.congr (fun k hk j => av_eff hTH1236 kH1261 ga0 (by decide) (WD_eff [] (by decide) k hk)) g1243
      have g1269 : IM (avw K H1261 a0) := IM.congr (fun k hk j => av_eff hTH1236 kH1261 ga0 (by decide) (IM_eff [] (by decide) k hk)) g1244
      have f1270 : ∀ j : Nat, bt j = (fI H1261 tq j).toInt := fun j => (f1245 j).trans (congrArg Int32.toInt (fI_kept (x_lt hTH1236 kH1261 gtq (by decide))).symm)
      have m1271 := (m1246).trans (fR_kept (x_lt hTH1236 kH1261 ga0 (by decide))).symm
      have m1272 := (m1247).trans (fR_kept (x_lt hTH1236 kH1261 ga0 (by decide))).symm
      have m1273 := (m1248).trans (fR_kept (x_lt hTH1236 kH1261 ga0 (by decide))).symm
      have m1274 := (m1249).trans (fI_kept (x_lt hTH1236 kH1261 ga0 (by decide))).symm
      have m1275 := (m1250).trans (fI_kept (x_lt hTH1236 kH1261 ga0 (by decide))).symm
      have m1276 := (m1251).trans (fI_kept (x_lt hTH1236 kH1261 ga0 (by decide))).symm
      have m1277 := (m1252).trans (fI_kept (x_lt hTH1236 kH1261 ga0 (by decide))).symm
      have m1278 := (m1253).trans (fI_kept (x_lt hTH1236 kH1261 ga0 (by decide))).symm
      have m1279 := (m1254).trans (fI_kept (x_lt hTH1236 kH1261 ga0 (by decide))).symm
      have m1280 := (m1255).trans (fI_kept (x_lt hTH1236 kH1261 ga0 (by decide))).symm
      refine W.eq (g2 := F0 m 25 ls [.int x1262]) rfl ?_
      refine lv_if_ne (tgt := 43) hx hb dX10_readCompared_25 (by decide) (fun c1281 => ?_) (fun c1281 => ?_)
      · have k1282 := i_ne c1281
        have cl_mn := i_cl (x := mn) (by omega)
        have cl_mn := i_cl (x := mn) (by omega)
        have cl_x1214 := i_cl (x := x1214) (by omega)
        obtain ⟨cj1283, ho1285, cu1284⟩ := RC.yes m1225 (by omega)
        have kc_ : kK bt tp.toNatClampNeg cj1283 = 61 := (TV.sg (c := 61) cu1284.2.2.1 (by decide)).mp ⟨by omega, by omega⟩
        exact J43 cj1283 ls H1261 locsH1261 (x1210) (x1211) (x1212) (x1213) (x1214) (lv_sub hl [0] rfl) hTH1261 hSH1261 (by have := i_rng x1210; omega) (by have := i_rng x1211; omega) (by have := i_rng x1214; omega) m1276 m1277 m1278 m1279 m1280 m1271 m1272 m1273 m1274 m1275 b1264 (WF.cast b1265 (by omega) (by omega)) mf1263 g1266 g1267 g1268 g1269 f1270 (by omega) cu1284 ho1285 (HD.mk (Or.inr (Or.inl kc_)))
      · have k1282 := i_eq c1281
        refine lv_aload_n hx hb dX10_readCompared_28 rfl (lv_at hl 0 rfl) ?_
        refine lv_bipush (v := 62) hx hb dX10_readCompared_29 (by decide) ?_
        refine x_V (As := [.int 62]) (rest := []) C (a_X10_isSign_e l K G H1261 (62) (x1212) (x1213) hTH1261 ga0 m1278 m1279) yo_X10_isSign wM_X10_249 ⟨⟨by decide, by decide⟩, by decide, by decide⟩ (x_rv C hTH1261 (ci := 10) rfl ga0 rg_112) rfl hl.1 rfl (Nat.le_of_ble_eq_true rfl) dX10_readCompared_31 hSH1261 (AE_sub (fun _ _ => rfl) (by decide) hSH1261.1) (fun vH1286 H1286 locsH1286 pH1286 zH1286 kH1286 hSH1286 => ?_)
        obtain ⟨x1287, hvH1286, bx1287, hrH1286, hTH1286⟩ := pH1286
        subst hvH1286
        have mf1288 : MF K s.heap H1286 a0 [19, 20, 21, 22, 35, 39, 40] := MF.eff (x_lt hTH1261 kH1286 ga0 (by decide)) mf1263
        have b1289 : ∀ j : Nat, j < 3000 + mn.toNatClampNeg → fI H1286 oq j = fI s.heap oq j ∧ fI H1286 aq j = fI s.heap aq j := fun j hj => ⟨(fI_kept (x_lt hTH1261 kH1286 goq (by decide))).trans (b1264 j hj).1, (fI_kept (x_lt hTH1261 kH1286 gaq (by decide))).trans (b1264 j hj).2⟩
        have b1290 : WF (fun k => fI H1286 oq k) (fun k => fI H1286 aq k) (3000 + mn.toNatClampNeg) (3000 + x1214.toNatClampNeg) 0 1 := WF.congr (fun j => fI_kept (x_lt hTH1261 kH1286 goq (by decide))) (fun j => fI_kept (x_lt hTH1261 kH1286 gaq (by decide))) b1265
        have g1291 : CG (avw K H1286 a0) := CG.congr (fun k hk j => av_eff hTH1261 kH1286 ga0 (by decide) (CG_eff [] (by decide) k hk)) g1266
        have g1292 : TU (avw K H1286 a0) (svw K H1286 a0) := TU.congr (fun k hk j => av_eff hTH1261 kH1286 ga0 (by decide) (TU_eff [] (by decide) k hk)) (fun k hk => sv_eff hTH1261 kH1286 ga0 (by decide)) g1267
        have g1293 : WD (avw K H1286 a0) := WD.congr (fun k hk j => av_eff hTH1261 kH1286 ga0 (by decide) (WD_eff [] (by decide) k hk)) g1268
        have g1294 : IM (avw K H1286 a0) := IM.congr (fun k hk j => av_eff hTH1261 kH1286 ga0 (by decide) (IM_eff [] (by decide) k hk)) g1269
        have f1295 : ∀ j : Nat, bt j = (fI H1286 tq j).toInt := fun j => (f1270 j).trans (congrArg Int32.toInt (fI_kept (x_lt hTH1261 kH1286 gtq (by decide))).symm)
        have m1296 := (m1271).trans (fR_kept (x_lt hTH1261 kH1286 ga0 (by decide))).symm
        have m1297 := (m1272).trans (fR_kept (x_lt hTH1261 kH1286 ga0 (by decide))).symm
        have m1298 := (m1273).trans (fR_kept (x_lt hTH1261 kH1286 ga0 (by decide))).symm
        have m1299 := (m1274).trans (fI_kept (x_lt hTH1261 kH1286 ga0 (by decide))).symm
        have m1300 := (m1275).trans (fI_kept (x_lt hTH1261 kH1286 ga0 (by decide))).symm
        have m1301 := (m1276).trans (fI_kept (x_lt hTH1261 kH1286 ga0 (by decide))).symm
        have m1302 := (m1277).trans (fI_kept (x_lt hTH1261 kH1286 ga0 (by decide))).symm
        have m1303 := (m1278).trans (fI_kept (x_lt hTH1261 kH1286 ga0 (by decide))).symm
        have m1304 := (m1279).trans (fI_kept (x_lt hTH1261 kH1286 ga0 (by decide))).symm
        have m1305 := (m1280).trans (fI_kept (x_lt hTH1261 kH1286 ga0 (by decide))).symm
        refine W.eq (g2 := F0 m 34 ls [.int x1287]) rfl ?_
        refine lv_if_ne (tgt := 43) hx hb dX10_readCompared_34 (by decide) (fun c1306 => ?_) (fun c1306 => ?_)
        · have k1307 := i_ne c1306
          have cl_mn := i_cl (x := mn) (by omega)
          have cl_mn := i_cl (x := mn) (by omega)
          have cl_x1214 := i_cl (x := x1214) (by omega)
          obtain ⟨cj1308, ho1310, cu1309⟩ := RC.yes m1225 (by omega)
          have kc_ : kK bt tp.toNatClampNeg cj1308 = 62 := (TV.sg (c := 62) cu1309.2.2.1 (by decide)).mp ⟨by omega, by omega⟩
          exact J43 cj1308 ls H1286 locsH1286 (x1210) (x1211) (x1212) (x1213) (x1214) (lv_sub hl [0] rfl) hTH1286 hSH1286 (by have := i_rng x1210; omega) (by have := i_rng x1211; omega) (by have := i_rng x1214; omega) m1301 m1302 m1303 m1304 m1305 m1296 m1297 m1298 m1299 m1300 b1289 (WF.cast b1290 (by omega) (by omega)) mf1288 g1291 g1292 g1293 g1294 f1295 (by omega) cu1309 ho1310 (HD.mk (Or.inr (Or.inr kc_)))
        · have k1307 := i_eq c1306
          refine lv_aload_n hx hb dX10_readCompared_37 rfl (lv_at hl 0 rfl) ?_
          refine lv_iconst (v := 1) hx hb dX10_readCompared_38 (by decide) ?_
          refine x_V (As := [.int 1]) (rest := []) C (a_X10_fails l K G H1286 (1) hTH1286 ga0 g1291 g1292 g1293 g1294) yo_X10_fails wM_X10_235 ⟨⟨by decide, by decide⟩, by decide, by decide⟩ (x_rv C hTH1286 (ci := 10) rfl ga0 rg_112) rfl hl.1 rfl (Nat.le_of_ble_eq_true rfl) dX10_readCompared_39 hSH1286 (AE_sub (fun _ _ => rfl) (by decide) hSH1286.1) (fun vH1311 H1311 locsH1311 pH1311 zH1311 kH1311 hSH1311 => ?_)
          obtain ⟨x1312, hvH1311, bx1312, g1313, g1314, g1315, g1316, mf1317, hTH1311⟩ := pH1311
          subst hvH1311
          have b1318 : ∀ j : Nat, j < 3000 + mn.toNatClampNeg → fI H1311 oq j = fI s.heap oq j ∧ fI H1311 aq j = fI s.heap aq j := fun j hj => ⟨(fI_kept (x_lt hTH1286 kH1311 goq (by decide))).trans (b1289 j hj).1, (fI_kept (x_lt hTH1286 kH1311 gaq (by decide))).trans (b1289 j hj).2⟩
          have b1319 : WF (fun k => fI H1311 oq k) (fun k => fI H1311 aq k) (3000 + mn.toNatClampNeg) (3000 + x1214.toNatClampNeg) 0 1 := WF.congr (fun j => fI_kept (x_lt hTH1286 kH1311 goq (by decide))) (fun j => fI_kept (x_lt hTH1286 kH1311 gaq (by decide))) b1290
          have f1320 : ∀ j : Nat, bt j = (fI H1311 tq j).toInt := fun j => (f1295 j).trans (congrArg Int32.toInt (fI_kept (x_lt hTH1286 kH1311 gtq (by decide))).symm)
          have m1321 := (m1296).trans (MF.r mf1317 (k := 32) (by decide) (by decide)).symm
          have m1322 := (m1297).trans (MF.r mf1317 (k := 33) (by decide) (by decide)).symm
          have m1323 := (m1298).trans (MF.r mf1317 (k := 17) (by decide) (by decide)).symm
          have m1324 := (m1299).trans (MF.i mf1317 (k := 18) (by decide) (by decide)).symm
          have m1325 := (m1300).trans (MF.i mf1317 (k := 34) (by decide) (by decide)).symm
          have m1326 := (m1301).trans (MF.i mf1317 (k := 19) (by decide) (by decide)).symm
          have m1327 := (m1302).trans (MF.i mf1317 (k := 20) (by decide) (by decide)).symm
          have m1328 := (m1303).trans (MF.i mf1317 (k := 21) (by decide) (by decide)).symm
          have m1329 := (m1304).trans (MF.i mf1317 (k := 22) (by decide) (by decide)).symm
          have m1330 := (m1305).trans (MF.i mf1317 (k := 35) (by decide) (by decide)).symm
          have mf1331 : MF K s.heap H1311 a0 [19, 20, 21, 22, 35, 39, 40] := MF.trans mf1288 mf1317 (by decide)
          refine W.eq (g2 := F0 m 42 ls [.int x1312]) rfl ?_
          have cn_fr := i_cl (x := fr) (by omega)
          obtain ⟨cj1332, ho1334, cu1333⟩ := RC.yes m1225 (by omega)
          have k60_ : kK bt tp.toNatClampNeg cj1332 ≠ 60 := fun e => by have z_ := (TV.sg (c := 60) cu1333.2.2.1 (by decide)).mpr e; omega
          have k61_ : kK bt tp.toNatClampNeg cj1332 ≠ 61 := fun e => by have z_ := (TV.sg (c := 61) cu1333.2.2.1 (by decide)).mpr e; omega
          have k62_ : kK bt tp.toNatClampNeg cj1332 ≠ 62 := fun e => by have z_ := (TV.sg (c := 62) cu1333.2.2.1 (by decide)).mpr e; omega
          exact x_iret C hQ dX10_readCompared_42 hSH1311 (by decide) (by decide) (⟨x1312, x1210, x1211, x1212, x1213, x1214, rfl, by omega, m1326, m1327, m1328, m1329, m1330, by omega, m1321, m1322, m1323, g1313, g1314, g1315, g1316, mf1331, b1318, Or.inl (by omega), Or.inl ⟨cp_no2 ho1334 ⟨k60_, k61_, k62_⟩, by omega⟩, hTH1311⟩)
  · have k1235 := i_eq c1234
    refine lv_iconst (v := (-1)) hx hb dX10_readCompared_8 (by decide) ?_
    have cn_fr := i_cl (x := fr) (by omega)
    exact x_iret C hQ dX10_readCompared_9 hSH1208 (by decide) (by decide) (⟨(-1), x1210, x1211, x1212, x1213, x1214, rfl, by decide, ex1210, ex1211, ex1212, ex1213, ex1214, by omega, m1215, m1216, m1217, g1218, g1219, g1220, g1221, mf1232, b1233, Or.inl (by omega), Or.inl ⟨cp_no1 (RC.no m1225 (by omega)), by omega⟩, hTH1208⟩)
