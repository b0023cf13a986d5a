set_option maxHeartbeats 4000000 in
set_option maxRecDepth 100000 in
theorem a_X10_readText_e (l : Launch) (K : KE) (G : Nat → Option Nat) (H : Heap) {a0 : Nat} {oq : Nat} {aq : Nat} {f9 : Nat} {f0 : Nat} {f1 : Nat} {tq : Nat} (sp : Int32) (fr : Int32) (tk : Int32) (vl : Int32) (mn : Int32) (on : Int32) (tp : Int32) (jb : Int32) (ci : Nat) (bt : Nat → Int) (hT : TY K G H) (ga0 : G a0 = some 112) (goq : G oq = some 136) (eoq : oq = fR H a0 (K.1.2 10 32)) (gaq : G aq = some 137) (eaq : aq = fR H a0 (K.1.2 10 33)) (gf9 : G f9 = some 133) (ef9 : f9 = fR H a0 (K.1.2 10 29)) (gf0 : G f0 = some 134) (ef0 : f0 = fR H a0 (K.1.2 10 30)) (gf1 : G f1 = some 135) (ef1 : f1 = fR H a0 (K.1.2 10 31)) (gtq : G tq = some 126) (etq : tq = fR H a0 (K.1.2 10 17)) (esp : sp = fI H a0 (K.1.2 10 19)) (efr : fr = fI H a0 (K.1.2 10 20)) (etk : tk = fI H a0 (K.1.2 10 21)) (evl : vl = fI H a0 (K.1.2 10 22)) (emn : mn = fI H a0 (K.1.2 10 35)) (eon : on = fI H a0 (K.1.2 10 36)) (etp : tp = fI H a0 (K.1.2 10 18)) (ejb : jb = fI H a0 (K.1.2 10 34)) (hg_CG : CG (avw K H a0)) (hg_TU : TU (avw K H a0) (svw K H a0)) (hg_WD : WD (avw K H a0)) (hg_IM : IM (avw K H a0)) (hp0 : (sp.toInt ≤ tp.toInt ∧ fr.toInt ≤ sp.toInt ∧ (tk.toInt = 0 ∨ fr.toInt < sp.toInt) ∧ (tk.toInt ≠ 2 ∨ (0 ≤ vl.toInt ∧ vl.toInt ≤ 23)))) (hp1 : mn.toInt ≤ fr.toInt) (hp2 : on.toInt = 0) (hy0 : CU bt tp.toNatClampNeg ci fr sp tk vl) (hy1 : ∀ j : Nat, j < tp.toNatClampNeg → 0 ≤ bt j) (hv_bt : ∀ j : Nat, bt j = (fI H tq j).toInt) : MX l K yX10_readText cX10_readText 2 (some .int) 9 194 0 0 [.ref a0] H (AE G [112, 136, 137, 138, 129, 130, 131, 132, 133, 134, 135] H.size) (fun v H1 => ∃ (r : Int32) (t0 : Int32) (t1 : Int32) (t2 : Int32) (t3 : Int32) (t4 : Int32) (t5 : Int32), v = some (.int r) ∧ ((-1) ≤ r.toInt ∧ r.toInt ≤ 16) ∧ t0 = fI H1 a0 (K.1.2 10 19) ∧ t1 = fI H1 a0 (K.1.2 10 20) ∧ t2 = fI H1 a0 (K.1.2 10 21) ∧ t3 = fI H1 a0 (K.1.2 10 22) ∧ t4 = fI H1 a0 (K.1.2 10 35) ∧ t5 = fI H1 a0 (K.1.2 10 36) ∧ (-1 ≤ r.toInt) ∧ oq = fR H1 a0 (K.1.2 10 32) ∧ aq = fR H1 a0 (K.1.2 10 33) ∧ f9 = fR H1 a0 (K.1.2 10 29) ∧ f0 = fR H1 a0 (K.1.2 10 30) ∧ f1 = fR H1 a0 (K.1.2 10 31) ∧ tq = fR H1 a0 (K.1.2 10 17) ∧ (CG (avw K H1 a0)) ∧ (TU (avw K H1 a0) (svw K H1 a0)) ∧ (WD (avw K H1 a0)) ∧ (IM (avw K H1 a0)) ∧ MF K H H1 a0 [19, 20, 21, 22, 35, 36, 38, 39, 40] ∧ (r.toInt = -1 ∨ DL (fun k => fI H1 f9 k) (fun k => fI H1 f0 k) (fun k => fI H1 f1 k) (fun k => fI H1 oq k) (fun k => fI H1 aq k) r.toNatClampNeg t4.toInt) ∧ (RT (txS (kK bt tp.toNatClampNeg) (vV bt tp.toNatClampNeg) (1 - jb.toInt) 18 0 ci) r) ∧ TY K G H1) := by
  refine MX.of (by decide +kernel) (Nat.le_of_ble_eq_true rfl) ?_
  intro p e s m below meth c ls Q C hH hl hQ
  subst hH
  have C : CX p K s m _ meth c RX10 cX10_readText 2 (some .int) "readText" := C
  obtain ⟨hx, hb, hml, hown, hts, hKT, hr, hlocks, hnm⟩ := id C
  have hl : lv_has ls 2 [(0, .ref a0)] := hl
  have hS : va_S (AE G [112, 136, 137, 138, 129, 130, 131, 132, 133, 134, 135] s.heap.size) s.heap s.heap [] := va_S.rf
  have n_m1 : ((-1) : Int32).toInt = -1 := rfl
  have n_0 : (0 : Int32).toInt = 0 := rfl
  have n_1 : (1 : Int32).toInt = 1 := rfl
  have n_3 : (3 : Int32).toInt = 3 := rfl
  have n_16 : (16 : Int32).toInt = 16 := rfl
  have n_96 : (96 : Int32).toInt = 96 := rfl
  have bsp := ty_fi (x := sp) (k := 19) esp hT ga0 rg_112 rfl
  have bfr := ty_fi (x := fr) (k := 20) efr hT ga0 rg_112 rfl
  have btk := ty_fi (x := tk) (k := 21) etk hT ga0 rg_112 rfl
  have bvl := ty_fi (x := vl) (k := 22) evl hT ga0 rg_112 rfl
  have bmn := ty_fi (x := mn) (k := 35) emn hT ga0 rg_112 rfl
  have bon := ty_fi (x := on) (k := 36) eon hT ga0 rg_112 rfl
  have btp := ty_fi (x := tp) (k := 18) etp hT ga0 rg_112 rfl
  have bjb := ty_fi (x := jb) (k := 34) ejb hT ga0 rg_112 rfl
  have hap : ∀ x y, x < 74 → y < 74 → x ≠ y → K.1.2 10 x ≠ K.1.2 10 y := x_apart hKT hts inX10 tyX10 tyX10_ok nmX10 rfl
  have mf0 : MF K s.heap s.heap a0 [19, 20, 21, 22, 35, 36, 38, 39, 40] := fun _ _ _ => rfl
  replace eoq := EQN.mk eoq
  replace eaq := EQN.mk eaq
  replace ef9 := EQN.mk ef9
  replace ef0 := EQN.mk ef0
  replace ef1 := EQN.mk ef1
  replace etq := EQN.mk etq
  have f0_bt := hv_bt
  have J2 : ∀ (nf : Nat) (cj : Nat) (ls1818 : Array Slot) (H1817 : Heap) (locsH1817 : List Loc) (x1820 : Int32) (x1821 : Int32) (x1822 : Int32) (x1823 : Int32) (x1824 : Int32) (x1825 : Int32) (x1826 : Int32), lv_has ls1818 2 [(0, .ref a0), (1, .int x1820)] → TY K G H1817 → va_S (AE G [112, 136, 137, 138, 129, 130, 131, 132, 133, 134, 135] s.heap.size) s.heap H1817 locsH1817 → (0 ≤ x1820.toInt ∧ x1820.toInt ≤ 16) → (0 ≤ x1821.toInt ∧ x1821.toInt ≤ 500) → (0 ≤ x1822.toInt ∧ x1822.toInt ≤ 500) → (0 ≤ x1825.toInt ∧ x1825.toInt ≤ 500) → (0 ≤ x1826.toInt ∧ x1826.toInt ≤ 8) → (x1821 = fI H1817 a0 (K.1.2 10 19)) → (x1822 = fI H1817 a0 (K.1.2 10 20)) → (x1823 = fI H1817 a0 (K.1.2 10 21)) → (x1824 = fI H1817 a0 (K.1.2 10 22)) → (x1825 = fI H1817 a0 (K.1.2 10 35)) → (x1826 = fI H1817 a0 (K.1.2 10 36)) → (EQN oq (fR H1817 a0 (K.1.2 10 32))) → (EQN aq (fR H1817 a0 (K.1.2 10 33))) → (EQN f9 (fR H1817 a0 (K.1.2 10 29))) → (EQN f0 (fR H1817 a0 (K.1.2 10 30))) → (EQN f1 (fR H1817 a0 (K.1.2 10 31))) → (EQN tq (fR H1817 a0 (K.1.2 10 17))) → (tp = fI H1817 a0 (K.1.2 10 18)) → (jb = fI H1817 a0 (K.1.2 10 34)) → (MF K s.heap H1817 a0 [19, 20, 21, 22, 35, 36, 38, 39, 40]) → (CG (avw K H1817 a0)) → (TU (avw K H1817 a0) (svw K H1817 a0)) → (WD (avw K H1817 a0)) → (IM (avw K H1817 a0)) → (∀ j : Nat, bt j = (fI H1817 tq j).toInt) → (500 - x1822.toInt < (nf : Int)) → ((x1821.toInt ≤ tp.toInt ∧ x1822.toInt ≤ x1821.toInt ∧ (x1823.toInt = 0 ∨ x1822.toInt < x1821.toInt) ∧ (x1823.toInt ≠ 2 ∨ (0 ≤ x1824.toInt ∧ x1824.toInt ≤ 23))) ∧ x1825.toInt ≤ x1822.toInt ∧ x1826.toInt = 0) → (DL (fun k => fI H1817 f9 k) (fun k => fI H1817 f0 k) (fun k => fI H1817 f1 k) (fun k => fI H1817 oq k) (fun k => fI H1817 aq k) x1820.toNatClampNeg x1825.toInt) → (CU bt tp.toNatClampNeg cj x1822 x1821 x1823 x1824) → (txS (kK bt tp.toNatClampNeg) (vV bt tp.toNatClampNeg) (1 - jb.toInt) 18 0 ci = txS (kK bt tp.toNatClampNeg) (vV bt tp.toNatClampNeg) (1 - jb.toInt) (18 - x1820.toNatClampNeg) x1820.toNatClampNeg cj) → W p l e ({ frames := 9, cells := 0, slots := 0, locals := 194 } : Room) s m (([.ref a0] : List Value).toArray) below meth c H1817 locsH1817 0 0 Q (F0 m 2 ls1818 []) := by
    intro nf
    induction nf with
    | zero =>
      intro cj ls1818 H1817 locsH1817 x1820 x1821 x1822 x1823 x1824 x1825 x1826 hl1819 hTH1817 hSH1817 bx1820 bx1821 bx1822 bx1825 bx1826 ex1821 ex1822 ex1823 ex1824 ex1825 ex1826 cy1827_0 cy1827_1 cy1827_2 cy1827_3 cy1827_4 cy1827_5 cy1827_6 cy1827_7 mfy1827 gy1827_CG gy1827_TU gy1827_WD gy1827_IM fy1827_bt hm2 iv2 hDL hcu2 hsp2
      have rx1823 := i_rng x1823
      have rx1824 := i_rng x1824
      exfalso
      omega
    | succ nf ih2 =>
      intro cj ls1818 H1817 locsH1817 x1820 x1821 x1822 x1823 x1824 x1825 x1826 hl1819 hTH1817 hSH1817 bx1820 bx1821 bx1822 bx1825 bx1826 ex1821 ex1822 ex1823 ex1824 ex1825 ex1826 cy1827_0 cy1827_1 cy1827_2 cy1827_3 cy1827_4 cy1827_5 cy1827_6 cy1827_7 mfy1827 gy1827_CG gy1827_TU gy1827_WD gy1827_IM fy1827_bt hm2 iv2 hDL hcu2 hsp2
      have rx1823 := i_rng x1823
      have rx1824 := i_rng x1824
      obtain ⟨⟨i1, i2, i3, i4⟩, i5, i6⟩ := iv2
      refine lv_aload_n hx hb dX10_readText_2 rfl (lv_at hl1819 0 rfl) ?_
      refine x_V (As := []) (rest := []) C (a_X10_isBegin_e l K G H1817 (x1823) (x1824) (jb) hTH1817 ga0 ex1823 ex1824 cy1827_7) yo_X10_isBegin wM_X10_285 ⟨⟨by decide, by decide⟩, by decide, by decide⟩ (x_rv C hTH1817 (ci := 10) rfl ga0 rg_112) rfl hl1819.1 rfl (Nat.le_of_ble_eq_true rfl) dX10_readText_3 hSH1817 (AE_sub (fun _ _ => rfl) (by decide) hSH1817.1) (fun vH1828 H1828 locsH1828 pH1828 zH1828 kH1828 hSH1828 => ?_)
      obtain ⟨x1829, hvH1828, bx1829, hrH1828, hTH1828⟩ := pH1828
      subst hvH1828
      clear zH1828
      have mf1830 : MF K s.heap H1828 a0 [19, 20, 21, 22, 35, 36, 38, 39, 40] := MF.eff (x_lt hTH1817 kH1828 ga0 (by decide)) mfy1827
      have g1831 : CG (avw K H1828 a0) := CG.congr (fun k hk j => av_eff hTH1817 kH1828 ga0 (by decide) (CG_eff [] (by decide) k hk)) gy1827_CG
      have g1832 : TU (avw K H1828 a0) (svw K H1828 a0) := TU.congr (fun k hk j => av_eff hTH1817 kH1828 ga0 (by decide) (TU_eff [] (by decide) k hk)) (fun k hk => sv_eff hTH1817 kH1828 ga0 (by decide)) gy1827_TU
      have g1833 : WD (avw K H1828 a0) := WD.congr (fun k hk j => av_eff hTH1817 kH1828 ga0 (by decide) (WD_eff [] (by decide) k hk)) gy1827_WD
      have g1834 : IM (avw K H1828 a0) := IM.congr (fun k hk j => av_eff hTH1817 kH1828 ga0 (by decide) (IM_eff [] (by decide) k hk)) gy1827_IM
      have f1835 : ∀ j : Nat, bt j = (fI H1828 tq j).toInt := fun j => (fy1827_bt j).trans (congrArg Int32.toInt (fI_kept (x_lt hTH1817 kH1828 gtq (by decide))).symm)
      have m1836 := (ex1821).trans (fI_kept (x_lt hTH1817 kH1828 ga0 (by decide))).symm
      have m1837 := (ex1822).trans (fI_kept (x_lt hTH1817 kH1828 ga0 (by decide))).symm
      have m1838 := (ex1823).trans (fI_kept (x_lt hTH1817 kH1828 ga0 (by decide))).symm
      have m1839 := (ex1824).trans (fI_kept (x_lt hTH1817 kH1828 ga0 (by decide))).symm
      have m1840 := (ex1825).trans (fI_kept (x_lt hTH1817 kH1828 ga0 (by decide))).symm
      have m1841 := (ex1826).trans (fI_kept (x_lt hTH1817 kH1828 ga0 (by decide))).symm
      have m1842 := (cy1827_0).trans (fR_kept (x_lt hTH1817 kH1828 ga0 (by decide))).symm
      have m1843 := (cy1827_1).trans (fR_kept (x_lt hTH1817 kH1828 ga0 (by decide))).symm
      have m1844 := (cy1827_2).trans (fR_kept (x_lt hTH1817 kH1828 ga0 (by decide))).symm
      have m1845 := (cy1827_3).trans (fR_kept (x_lt hTH1817 kH1828 ga0 (by decide))).symm
      have m1846 := (cy1827_4).trans (fR_kept (x_lt hTH1817 kH1828 ga0 (by decide))).symm
      have m1847 := (cy1827_5).trans (fR_kept (x_lt hTH1817 kH1828 ga0 (by decide))).symm
      have m1848 := (cy1827_6).trans (fI_kept (x_lt hTH1817 kH1828 ga0 (by decide))).symm
      have m1849 := (cy1827_7).trans (fI_kept (x_lt hTH1817 kH1828 ga0 (by decide))).symm
      replace hDL := DL.congr (fun j => fI_kept (x_lt hTH1817 kH1828 gf9 (by decide))) (fun j => fI_kept (x_lt hTH1817 kH1828 gf0 (by decide))) (fun j => fI_kept (x_lt hTH1817 kH1828 gf1 (by decide))) (fun j => fI_kept (x_lt hTH1817 kH1828 goq (by decide))) (fun j => fI_kept (x_lt hTH1817 kH1828 gaq (by decide))) hDL
      refine W.eq (g2 := F0 m 6 ls1818 [.int x1829]) rfl ?_
      refine lv_if_eq (tgt := 42) hx hb dX10_readText_6 (by decide) (fun c1850 => ?_) (fun c1850 => ?_)
      · have k1851 := i_eq c1850
        refine lv_aload_n hx hb dX10_readText_42 rfl (lv_at hl1819 0 rfl) ?_
        refine x_gi C hTH1828 (ci := 10) (k := 21) rfl inX10 (by decide) wF_X10_202 ga0 rg_112 rfl dX10_readText_43 (fun x1852 ex1852 bx1852 => ?_)
        have ux1852 : x1823 = x1852 := (m1838).trans ex1852.symm
        subst ux1852
        refine lv_if_ne (tgt := 53) hx hb dX10_readText_46 (by decide) (fun c1853 => ?_) (fun c1853 => ?_)
        · have k1854 := i_ne c1853
          refine lv_aload_n hx hb dX10_readText_53 rfl (lv_at hl1819 0 rfl) ?_
          refine lv_iconst (v := 1) hx hb dX10_readText_54 (by decide) ?_
          refine x_V (As := [.int 1]) (rest := []) C (a_X10_fails l K G H1828 (1) hTH1828 ga0 g1831 g1832 g1833 g1834) yo_X10_fails wM_X10_235 ⟨⟨by decide, by decide⟩, by decide, by decide⟩ (x_rv C hTH1828 (ci := 10) rfl ga0 rg_112) rfl hl1819.1 rfl (Nat.le_of_ble_eq_true rfl) dX10_readText_55 hSH1828 (AE_sub (fun _ _ => rfl) (by decide) hSH1828.1) (fun vH1855 H1855 locsH1855 pH1855 zH1855 kH1855 hSH1855 => ?_)
          obtain ⟨x1856, hvH1855, bx1856, g1857, g1858, g1859, g1860, mf1861, hTH1855⟩ := pH1855
          subst hvH1855
          clear zH1855
          have f1862 : ∀ j : Nat, bt j = (fI H1855 tq j).toInt := fun j => (f1835 j).trans (congrArg Int32.toInt (fI_kept (x_lt hTH1828 kH1855 gtq (by decide))).symm)
          have m1863 := (m1836).trans (MF.i mf1861 (k := 19) (by decide) (by decide)).symm
          have m1864 := (m1837).trans (MF.i mf1861 (k := 20) (by decide) (by decide)).symm
          have m1865 := (m1838).trans (MF.i mf1861 (k := 21) (by decide) (by decide)).symm
          have m1866 := (m1839).trans (MF.i mf1861 (k := 22) (by decide) (by decide)).symm
          have m1867 := (m1840).trans (MF.i mf1861 (k := 35) (by decide) (by decide)).symm
          have m1868 := (m1841).trans (MF.i mf1861 (k := 36) (by decide) (by decide)).symm
          have m1869 := (m1842).trans (MF.r mf1861 (k := 32) (by decide) (by decide)).symm
          have m1870 := (m1843).trans (MF.r mf1861 (k := 33) (by decide) (by decide)).symm
          have m1871 := (m1844).trans (MF.r mf1861 (k := 29) (by decide) (by decide)).symm
          have m1872 := (m1845).trans (MF.r mf1861 (k := 30) (by decide) (by decide)).symm
          have m1873 := (m1846).trans (MF.r mf1861 (k := 31) (by decide) (by decide)).symm
          have m1874 := (m1847).trans (MF.r mf1861 (k := 17) (by decide) (by decide)).symm
          have m1875 := (m1848).trans (MF.i mf1861 (k := 18) (by decide) (by decide)).symm
          have m1876 := (m1849).trans (MF.i mf1861 (k := 34) (by decide) (by decide)).symm
          have mf1877 : MF K s.heap H1855 a0 [19, 20, 21, 22, 35, 36, 38, 39, 40] := MF.trans mf1830 mf1861 (by decide)
          refine W.eq (g2 := F0 m 58 ls1818 [.int x1856]) rfl ?_
          exact x_iret C hQ dX10_readText_58 hSH1855 (by decide) (by decide) (⟨x1856, x1821, x1822, x1823, x1824, x1825, x1826, rfl, by omega, m1863, m1864, m1865, m1866, m1867, m1868, by omega, m1869, m1870, m1871, m1872, m1873, m1874, g1857, g1858, g1859, g1860, mf1877, Or.inl (by omega), Or.inl ⟨hsp2.trans (tx_no (fun e => by have z_ := (TV.en hcu2.2.2.1).mpr e; omega) (Or.inr (ln_no0 (TV.nb (j := jb.toInt) hcu2.2.2.1 (by omega) (by omega))))), by omega⟩, hTH1855⟩)
        · have k1854 := i_eq c1853
          refine lv_iload_n hx hb dX10_readText_49 rfl (lv_at hl1819 1 rfl) ?_
          refine lv_goto (tgt := 58) hx hb dX10_readText_50 (by decide) ?_
          have cn_x1820 := i_cl (x := x1820) (by omega)
          exact x_iret C hQ dX10_readText_58 hSH1828 (by decide) (by decide) (⟨x1820, x1821, x1822, x1823, x1824, x1825, x1826, rfl, by omega, m1836, m1837, m1838, m1839, m1840, m1841, by omega, m1842, m1843, m1844, m1845, m1846, m1847, g1831, g1832, g1833, g1834, mf1830, Or.inr hDL, Or.inr ⟨x1820.toNatClampNeg, hsp2.trans (tx_end (by omega) ((TV.en hcu2.2.2.1).mp (by omega))), by omega⟩, hTH1828⟩)
      · have k1851 := i_ne c1850
        replace hrH1828 := hrH1828.resolve_left (fun h => absurd h.1 (by omega))
        have k26_ : kK bt tp.toNatClampNeg cj ≠ 26 := fun e => by have z_ := (TV.en hcu2.2.2.1).mpr e; omega
        refine lv_iload_n hx hb dX10_readText_9 rfl (lv_at hl1819 1 rfl) ?_
        refine lv_bipush (v := 16) hx hb dX10_readText_10 (by decide) ?_
        refine lv_icmp_ne (tgt := 21) hx hb dX10_readText_12 (by decide) (fun c1878 => ?_) (fun c1878 => ?_)
        · have k1879 := i_ne c1878
          refine lv_aload_n hx hb dX10_readText_21 rfl (lv_at hl1819 0 rfl) ?_
          refine lv_bipush (v := 96) hx hb dX10_readText_22 (by decide) ?_
          refine lv_iload_n hx hb dX10_readText_24 rfl (lv_at hl1819 1 rfl) ?_
          refine lv_iadd hx hb dX10_readText_25 ?_
          refine lv_topi (fun x1880 ex1880 => ?_)
          have tx1880 := i_add ex1880 (by omega)
          refine x_V (As := [.int x1880]) (rest := []) C (a_X10_readLine_e l K G H1828 (x1880) (x1821) (x1822) (x1823) (x1824) (x1825) (x1826) (tp) (jb) (cj) bt hTH1828 ga0 (by omega) goq m1842 gaq m1843 gf9 m1844 gf0 m1845 gf1 m1846 gtq m1847 m1836 m1837 m1838 m1839 m1840 m1841 m1848 m1849 g1831 g1832 g1833 g1834 (by and_intros <;> first | assumption | omega) (by and_intros <;> first | assumption | omega) (by and_intros <;> first | assumption | omega) (by and_intros <;> first | assumption | omega) (by and_intros <;> first | assumption | omega) (hcu2) (hy1) f1835) yo_X10_readLine wM_X10_289 ⟨⟨by decide, by decide⟩, by decide, by decide⟩ (x_rv C hTH1828 (ci := 10) rfl ga0 rg_112) rfl hl1819.1 rfl (Nat.le_of_ble_eq_true rfl) dX10_readText_26 hSH1828 (AE_sub (fun _ _ => rfl) (by decide) hSH1828.1) (fun vH1881 H1881 locsH1881 pH1881 zH1881 kH1881 hSH1881 => ?_)
          obtain ⟨x1882, x1883, x1884, x1885, x1886, x1887, x1888, hvH1881, bx1882, ex1883, ex1884, ex1885, ex1886, ex1887, ex1888, hrH1881, m1889, m1890, m1891, m1892, m1893, m1894, g1895, g1896, g1897, g1898, mf1899, m1900, m1901, m1902, m1903, m1904, m1905, m1906, hTH1881⟩ := pH1881
          subst hvH1881
          clear zH1881
          replace m1889 := EQN.mk m1889
          replace m1890 := EQN.mk m1890
          replace m1891 := EQN.mk m1891
          replace m1892 := EQN.mk m1892
          replace m1893 := EQN.mk m1893
          replace m1894 := EQN.mk m1894
          have f1907 : ∀ j : Nat, bt j = (fI H1881 tq j).toInt := fun j => (f1835 j).trans (congrArg Int32.toInt (fI_kept (x_lt hTH1828 kH1881 gtq (by decide))).symm)
          have m1908 := (m1842).trans (MF.r mf1899 (k := 32) (by decide) (by decide)).symm
          have m1909 := (m1843).trans (MF.r mf1899 (k := 33) (by decide) (by decide)).symm
          have m1910 := (m1844).trans (MF.r mf1899 (k := 29) (by decide) (by decide)).symm
          have m1911 := (m1845).trans (MF.r mf1899 (k := 30) (by decide) (by decide)).symm
          have m1912 := (m1846).trans (MF.r mf1899 (k := 31) (by decide) (by decide)).symm
          have m1913 := (m1847).trans (MF.r mf1899 (k := 17) (by decide) (by decide)).symm
          have m1914 := (m1848).trans (MF.i mf1899 (k := 18) (by decide) (by decide)).symm
          have m1915 := (m1849).trans (MF.i mf1899 (k := 34) (by decide) (by decide)).symm
          have mf1916 : MF K s.heap H1881 a0 [19, 20, 21, 22, 35, 36, 38, 39, 40] := MF.trans mf1830 mf1899 (by decide)
          have bx1883 := ty_fi (x := x1883) (k := 19) ex1883 hTH1881 ga0 rg_112 rfl
          have bx1884 := ty_fi (x := x1884) (k := 20) ex1884 hTH1881 ga0 rg_112 rfl
          have bx1885 := ty_fi (x := x1885) (k := 21) ex1885 hTH1881 ga0 rg_112 rfl
          have bx1886 := ty_fi (x := x1886) (k := 22) ex1886 hTH1881 ga0 rg_112 rfl
          have bx1887 := ty_fi (x := x1887) (k := 35) ex1887 hTH1881 ga0 rg_112 rfl
          have bx1888 := ty_fi (x := x1888) (k := 36) ex1888 hTH1881 ga0 rg_112 rfl
          refine W.eq (g2 := F0 m 29 ls1818 [.int x1882]) rfl ?_
          refine lv_iconst (v := (-1)) hx hb dX10_readText_29 (by decide) ?_
          refine lv_icmp_ne (tgt := 35) hx hb dX10_readText_30 (by decide) (fun c1917 => ?_) (fun c1917 => ?_)
          · have k1918 := i_ne c1917
            replace hrH1881 := hrH1881.resolve_left (by omega)
            obtain ⟨rzH1881, ⟨z1H1881, z2H1881, z3H1881, z4H1881⟩, y1H1881, y2H1881, y3H1881⟩ := hrH1881
            clear i3 i4
            obtain ⟨cj1919, ho1921, cu1920⟩ := RC.yes m1905 (by omega)
            refine lv_iload_n hx hb dX10_readText_35 rfl (lv_at hl1819 1 rfl) ?_
            refine lv_iconst (v := 1) hx hb dX10_readText_36 (by decide) ?_
            refine lv_iadd hx hb dX10_readText_37 ?_
            refine lv_topi (fun x1922 ex1922 => ?_)
            have tx1922 := i_add ex1922 (by omega)
            refine lv_istore_n (lv' := [(1, .int x1922), (0, .ref a0)]) hx hb dX10_readText_38 rfl hl1819 (by decide) rfl (fun ls1923 hl1924 => ?_)
            refine lv_goto (tgt := 2) hx hb dX10_readText_39 (by decide) ?_
            have cx_x1880 := i_cl (x := x1880) (by omega)
            have cx_x1820 := i_cl (x := x1820) (by omega)
            have cx_x1825 := i_cl (x := x1825) (by omega)
            have cx_x1922 := i_cl (x := x1922) (by omega)
            have dn : DL (fun k => fI H1881 f9 k) (fun k => fI H1881 f0 k) (fun k => fI H1881 f1 k) (fun k => fI H1881 oq k) (fun k => fI H1881 aq k) (x1820.toNatClampNeg + 1) x1887.toInt := DL.push hDL (l := x1880.toNatClampNeg) (M := x1825.toNatClampNeg) (by omega) (by omega) m1901 m1902 m1903 m1900 (m1904.resolve_left (by omega))
            exact ih2 cj1919 ls1923 H1881 locsH1881 (x1922) (x1883) (x1884) (x1885) (x1886) (x1887) (x1888) (lv_sub hl1924 [1, 0] rfl) hTH1881 hSH1881 ⟨by have := i_rng x1922; omega, by have := i_rng x1922; omega⟩ ⟨by have := i_rng x1883; omega, by have := i_rng x1883; omega⟩ ⟨by have := i_rng x1884; omega, by have := i_rng x1884; omega⟩ ⟨by have := i_rng x1887; omega, by have := i_rng x1887; omega⟩ ⟨by have := i_rng x1888; omega, by have := i_rng x1888; omega⟩ ex1883 ex1884 ex1885 ex1886 ex1887 ex1888 m1889 m1890 m1891 m1892 m1893 m1894 m1914 m1915 mf1916 g1895 g1896 g1897 g1898 f1907 (by omega) (by and_intros <;> first | assumption | omega) (DL.cast dn (by omega) (by omega)) cu1920 (hsp2.trans (tx_go (by omega) k26_ (by omega) ho1921 (by omega)))
          · have k1918 := i_eq c1917
            refine lv_iconst (v := (-1)) hx hb dX10_readText_33 (by decide) ?_
            exact x_iret C hQ dX10_readText_34 hSH1881 (by decide) (by decide) (⟨(-1), x1883, x1884, x1885, x1886, x1887, x1888, rfl, by decide, ex1883, ex1884, ex1885, ex1886, ex1887, ex1888, by omega, m1889, m1890, m1891, m1892, m1893, m1894, g1895, g1896, g1897, g1898, mf1916, Or.inl (by omega), Or.inl ⟨hsp2.trans (tx_no k26_ (Or.inr (RC.no m1905 (by omega)))), by omega⟩, hTH1881⟩)
        · have k1879 := i_eq c1878
          refine lv_aload_n hx hb dX10_readText_15 rfl (lv_at hl1819 0 rfl) ?_
          refine lv_iconst (v := 3) hx hb dX10_readText_16 (by decide) ?_
          refine x_V (As := [.int 3]) (rest := []) C (a_X10_fails l K G H1828 (3) hTH1828 ga0 g1831 g1832 g1833 g1834) yo_X10_fails wM_X10_235 ⟨⟨by decide, by decide⟩, by decide, by decide⟩ (x_rv C hTH1828 (ci := 10) rfl ga0 rg_112) rfl hl1819.1 rfl (Nat.le_of_ble_eq_true rfl) dX10_readText_17 hSH1828 (AE_sub (fun _ _ => rfl) (by decide) hSH1828.1) (fun vH1925 H1925 locsH1925 pH1925 zH1925 kH1925 hSH1925 => ?_)
          obtain ⟨x1926, hvH1925, bx1926, g1927, g1928, g1929, g1930, mf1931, hTH1925⟩ := pH1925
          subst hvH1925
          clear zH1925
          have f1932 : ∀ j : Nat, bt j = (fI H1925 tq j).toInt := fun j => (f1835 j).trans (congrArg Int32.toInt (fI_kept (x_lt hTH1828 kH1925 gtq (by decide))).symm)
          have m1933 := (m1836).trans (MF.i mf1931 (k := 19) (by decide) (by decide)).symm
          have m1934 := (m1837).trans (MF.i mf1931 (k := 20) (by decide) (by decide)).symm
          have m1935 := (m1838).trans (MF.i mf1931 (k := 21) (by decide) (by decide)).symm
          have m1936 := (m1839).trans (MF.i mf1931 (k := 22) (by decide) (by decide)).symm
          have m1937 := (m1840).trans (MF.i mf1931 (k := 35) (by decide) (by decide)).symm
          have m1938 := (m1841).trans (MF.i mf1931 (k := 36) (by decide) (by decide)).symm
          have m1939 := (m1842).trans (MF.r mf1931 (k := 32) (by decide) (by decide)).symm
          have m1940 := (m1843).trans (MF.r mf1931 (k := 33) (by decide) (by decide)).symm
          have m1941 := (m1844).trans (MF.r mf1931 (k := 29) (by decide) (by decide)).symm
          have m1942 := (m1845).trans (MF.r mf1931 (k := 30) (by decide) (by decide)).symm
          have m1943 := (m1846).trans (MF.r mf1931 (k := 31) (by decide) (by decide)).symm
          have m1944 := (m1847).trans (MF.r mf1931 (k := 17) (by decide) (by decide)).symm
          have m1945 := (m1848).trans (MF.i mf1931 (k := 18) (by decide) (by decide)).symm
          have m1946 := (m1849).trans (MF.i mf1931 (k := 34) (by decide) (by decide)).symm
          have mf1947 : MF K s.heap H1925 a0 [19, 20, 21, 22, 35, 36, 38, 39, 40] := MF.trans mf1830 mf1931 (by decide)
          refine W.eq (g2 := F0 m 20 ls1818 [.int x1926]) rfl ?_
          have cn_x1820 := i_cl (x := x1820) (by omega)
          exact x_iret C hQ dX10_readText_20 hSH1925 (by decide) (by decide) (⟨x1926, x1821, x1822, x1823, x1824, x1825, x1826, rfl, by omega, m1933, m1934, m1935, m1936, m1937, m1938, by omega, m1939, m1940, m1941, m1942, m1943, m1944, g1927, g1928, g1929, g1930, mf1947, Or.inl (by omega), Or.inl ⟨hsp2.trans (tx_no k26_ (Or.inl (by omega))), by omega⟩, hTH1925⟩)
  refine lv_iconst (v := 0) hx hb dX10_readText_0 (by decide) ?_
  refine lv_istore_n (lv' := [(1, .int 0), (0, .ref a0)]) hx hb dX10_readText_1 rfl hl (by decide) rfl (fun ls1948 hl1949 => ?_)
  exact J2 ((500 - fr.toInt).toNat + 1) ci ls1948 s.heap [] (0) (sp) (fr) (tk) (vl) (mn) (on) (lv_sub hl1949 [1, 0] rfl) hT hS (by decide) ⟨by have := i_rng sp; omega, by have := i_rng sp; omega⟩ ⟨by have := i_rng fr; omega, by have := i_rng fr; omega⟩ ⟨by have := i_rng mn; omega, by have := i_rng mn; omega⟩ ⟨by have := i_rng on; omega, by have := i_rng on; omega⟩ esp efr etk evl emn eon eoq eaq ef9 ef0 ef1 etq etp ejb mf0 hg_CG hg_TU hg_WD hg_IM f0_bt (by omega) (by and_intros <;> first | assumption | omega) (DL.nil (by rfl)) hy0 rfl
