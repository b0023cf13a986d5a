set_option maxHeartbeats 4000000 in
set_option maxRecDepth 100000 in
theorem a_X10_readSum (l : Launch) (K : KE) (G : Nat → Option Nat) (H : Heap) {a0 : Nat} {oq : Nat} {aq : Nat} (sp : Int32) (fr : Int32) (tk : Int32) (vl : Int32) (mn : Int32) (tp : Int32) (jb : Int32) (hT : TY K G H) (ga0 : G a0 = some 112) (goq : G oq = some 136) (eoq : oq = fR H a0 (K.1.2 10 32)) (gaq : G aq = some 137) (eaq : aq = fR H a0 (K.1.2 10 33)) (esp : sp = fI H a0 (K.1.2 10 19)) (efr : fr = fI H a0 (K.1.2 10 20)) (etk : tk = fI H a0 (K.1.2 10 21)) (evl : vl = fI H a0 (K.1.2 10 22)) (emn : mn = fI H a0 (K.1.2 10 35)) (etp : tp = fI H a0 (K.1.2 10 18)) (ejb : jb = fI H a0 (K.1.2 10 34)) (hg_CG : CG (avw K H a0)) (hg_TU : TU (avw K H a0) (svw K H a0)) (hg_WD : WD (avw K H a0)) (hg_IM : IM (avw K H a0)) (hp0 : (sp.toInt ≤ tp.toInt ∧ fr.toInt ≤ sp.toInt ∧ (tk.toInt = 0 ∨ fr.toInt < sp.toInt) ∧ (tk.toInt ≠ 2 ∨ (0 ≤ vl.toInt ∧ vl.toInt ≤ 23)))) (hp1 : mn.toInt ≤ fr.toInt) : MX l K yX10_readSum cX10_readSum 2 (some .int) 5 107 0 0 [.ref a0] H (AE G [112, 136, 137] H.size) (fun v H1 => ∃ (r : Int32) (t0 : Int32) (t1 : Int32) (t2 : Int32) (t3 : Int32) (t4 : Int32), v = some (.int r) ∧ ((-1) ≤ r.toInt ∧ r.toInt ≤ 0) ∧ t0 = fI H1 a0 (K.1.2 10 19) ∧ t1 = fI H1 a0 (K.1.2 10 20) ∧ t2 = fI H1 a0 (K.1.2 10 21) ∧ t3 = fI H1 a0 (K.1.2 10 22) ∧ t4 = fI H1 a0 (K.1.2 10 35) ∧ (r.toInt = -1 ∨ (r.toInt = 0 ∧ t0.toInt ≤ tp.toInt ∧ t1.toInt ≤ t0.toInt ∧ (t2.toInt = 0 ∨ t1.toInt < t0.toInt) ∧ (t2.toInt ≠ 2 ∨ (0 ≤ t3.toInt ∧ t3.toInt ≤ 23)) ∧ t4.toInt + fr.toInt ≤ mn.toInt + t1.toInt ∧ mn.toInt < t4.toInt ∧ fr.toInt < t1.toInt)) ∧ oq = fR H1 a0 (K.1.2 10 32) ∧ aq = fR H1 a0 (K.1.2 10 33) ∧ (CG (avw K H1 a0)) ∧ (TU (avw K H1 a0) (svw K H1 a0)) ∧ (WD (avw K H1 a0)) ∧ (IM (avw K H1 a0)) ∧ MF K H H1 a0 [19, 20, 21, 22, 35, 39, 40] ∧ (∀ j : Nat, j < 3000 + mn.toNatClampNeg → fI H1 oq j = fI H oq j ∧ fI H1 aq j = fI H aq j) ∧ (r.toInt = -1 ∨ WF (fun k => fI H1 oq k) (fun k => fI H1 aq k) (3000 + mn.toNatClampNeg) (3000 + t4.toNatClampNeg) 0 1) ∧ TY K G H1) := by
  refine MX.of (by decide +kernel) (Nat.le_of_ble_eq_true rfl) ?_
  intro p e s m below meth c ls Q C hH hl hQ
  subst hH
  have C : CX p K s m _ meth c RX10 cX10_readSum 2 (some .int) "readSum" := C
  obtain ⟨hx, hb, hml, hown, hts, hKT, hr, hlocks, hnm⟩ := id C
  have hl : lv_has ls 2 [(0, .ref a0)] := hl
  have hS : va_S (AE G [112, 136, 137] s.heap.size) s.heap s.heap [] := va_S.rf
  have n_m1 : ((-1) : Int32).toInt = -1 := rfl
  have n_0 : (0 : Int32).toInt = 0 := rfl
  have n_2 : (2 : Int32).toInt = 2 := rfl
  have n_3 : (3 : Int32).toInt = 3 := rfl
  have n_43 : (43 : Int32).toInt = 43 := rfl
  have n_45 : (45 : Int32).toInt = 45 := rfl
  have bsp := ty_fi (x := sp) (k := 19) esp hT ga0 rg_112 rfl
  have bfr := ty_fi (x := fr) (k := 20) efr hT ga0 rg_112 rfl
  have btk := ty_fi (x := tk) (k := 21) etk hT ga0 rg_112 rfl
  have bvl := ty_fi (x := vl) (k := 22) evl hT ga0 rg_112 rfl
  have bmn := ty_fi (x := mn) (k := 35) emn hT ga0 rg_112 rfl
  have btp := ty_fi (x := tp) (k := 18) etp hT ga0 rg_112 rfl
  have bjb := ty_fi (x := jb) (k := 34) ejb hT ga0 rg_112 rfl
  have hap : ∀ x y, x < 74 → y < 74 → x ≠ y → K.1.2 10 x ≠ K.1.2 10 y := x_apart hKT hts inX10 tyX10 tyX10_ok nmX10 rfl
  have mf0 : MF K s.heap s.heap a0 [19, 20, 21, 22, 35, 39, 40] := fun _ _ _ => rfl
  have J10 : ∀ (nf : Nat) (ls806 : Array Slot) (H805 : Heap) (locsH805 : List Loc) (x808 : Int32) (x809 : Int32) (x810 : Int32) (x811 : Int32) (x812 : Int32), lv_has ls806 2 [(0, .ref a0)] → TY K G H805 → va_S (AE G [112, 136, 137] s.heap.size) s.heap H805 locsH805 → (0 ≤ x808.toInt ∧ x808.toInt ≤ 500) → (0 ≤ x809.toInt ∧ x809.toInt ≤ 500) → (0 ≤ x812.toInt ∧ x812.toInt ≤ 500) → (x808 = fI H805 a0 (K.1.2 10 19)) → (x809 = fI H805 a0 (K.1.2 10 20)) → (x810 = fI H805 a0 (K.1.2 10 21)) → (x811 = fI H805 a0 (K.1.2 10 22)) → (x812 = fI H805 a0 (K.1.2 10 35)) → (oq = fR H805 a0 (K.1.2 10 32)) → (aq = fR H805 a0 (K.1.2 10 33)) → (tp = fI H805 a0 (K.1.2 10 18)) → (jb = fI H805 a0 (K.1.2 10 34)) → (∀ j : Nat, j < 3000 + mn.toNatClampNeg → fI H805 oq j = fI s.heap oq j ∧ fI H805 aq j = fI s.heap aq j) → (WF (fun k => fI H805 oq k) (fun k => fI H805 aq k) (3000 + mn.toNatClampNeg) (3000 + x812.toNatClampNeg) 0 1) → (MF K s.heap H805 a0 [19, 20, 21, 22, 35, 39, 40]) → (CG (avw K H805 a0)) → (TU (avw K H805 a0) (svw K H805 a0)) → (WD (avw K H805 a0)) → (IM (avw K H805 a0)) → (500 - x809.toInt < (nf : Int)) → ((x808.toInt ≤ tp.toInt ∧ x809.toInt ≤ x808.toInt ∧ (x810.toInt = 0 ∨ x809.toInt < x808.toInt) ∧ (x810.toInt ≠ 2 ∨ (0 ≤ x811.toInt ∧ x811.toInt ≤ 23))) ∧ x812.toInt + fr.toInt ≤ mn.toInt + x809.toInt ∧ mn.toInt < x812.toInt ∧ fr.toInt < x809.toInt) → W p l e ({ frames := 5, cells := 0, slots := 0, locals := 107 } : Room) s m (([.ref a0] : List Value).toArray) below meth c H805 locsH805 0 0 Q (F0 m 10 ls806 []) := by
    intro nf
    induction nf with
    | zero =>
      intro ls806 H805 locsH805 x808 x809 x810 x811 x812 hl807 hTH805 hSH805 bx808 bx809 bx812 ex808 ex809 ex810 ex811 ex812 cy813_0 cy813_1 cy813_2 cy813_3 by813_pf by813_wf mfy813 gy813_CG gy813_TU gy813_WD gy813_IM hm10 iv10
      have rx810 := i_rng x810
      have rx811 := i_rng x811
      exfalso
      omega
    | succ nf ih10 =>
      intro ls806 H805 locsH805 x808 x809 x810 x811 x812 hl807 hTH805 hSH805 bx808 bx809 bx812 ex808 ex809 ex810 ex811 ex812 cy813_0 cy813_1 cy813_2 cy813_3 by813_pf by813_wf mfy813 gy813_CG gy813_TU gy813_WD gy813_IM hm10 iv10
      have rx810 := i_rng x810
      have rx811 := i_rng x811
      have J28 : ∀ (ls815 : Array Slot) (H814 : Heap) (locsH814 : List Loc) (x817 : Int32) (x818 : Int32) (x819 : Int32) (x820 : Int32) (x821 : Int32), lv_has ls815 2 [(0, .ref a0)] → TY K G H814 → va_S (AE G [112, 136, 137] s.heap.size) s.heap H814 locsH814 → (0 ≤ x817.toInt ∧ x817.toInt ≤ 500) → (0 ≤ x818.toInt ∧ x818.toInt ≤ 500) → (0 ≤ x821.toInt ∧ x821.toInt ≤ 500) → (x817 = fI H814 a0 (K.1.2 10 19)) → (x818 = fI H814 a0 (K.1.2 10 20)) → (x819 = fI H814 a0 (K.1.2 10 21)) → (x820 = fI H814 a0 (K.1.2 10 22)) → (x821 = fI H814 a0 (K.1.2 10 35)) → (oq = fR H814 a0 (K.1.2 10 32)) → (aq = fR H814 a0 (K.1.2 10 33)) → (tp = fI H814 a0 (K.1.2 10 18)) → (jb = fI H814 a0 (K.1.2 10 34)) → (∀ j : Nat, j < 3000 + mn.toNatClampNeg → fI H814 oq j = fI s.heap oq j ∧ fI H814 aq j = fI s.heap aq j) → (WF (fun k => fI H814 oq k) (fun k => fI H814 aq k) (3000 + mn.toNatClampNeg) (3000 + x821.toNatClampNeg) 0 1) → (MF K s.heap H814 a0 [19, 20, 21, 22, 35, 39, 40]) → (CG (avw K H814 a0)) → (TU (avw K H814 a0) (svw K H814 a0)) → (WD (avw K H814 a0)) → (IM (avw K H814 a0)) → ((x817.toInt ≤ tp.toInt ∧ x818.toInt ≤ x817.toInt ∧ (x819.toInt = 0 ∨ x818.toInt < x817.toInt) ∧ (x819.toInt ≠ 2 ∨ (0 ≤ x820.toInt ∧ x820.toInt ≤ 23))) ∧ x821.toInt + fr.toInt ≤ mn.toInt + x818.toInt ∧ mn.toInt < x821.toInt ∧ fr.toInt < x818.toInt ∧ x819.toInt = 4 ∧ x818.toInt = x809.toInt) → W p l e ({ frames := 5, cells := 0, slots := 0, locals := 107 } : Room) s m (([.ref a0] : List Value).toArray) below meth c H814 locsH814 0 0 Q (F0 m 28 ls815 []) := by
        intro ls815 H814 locsH814 x817 x818 x819 x820 x821 hl816 hTH814 hSH814 bx817 bx818 bx821 ex817 ex818 ex819 ex820 ex821 cy822_0 cy822_1 cy822_2 cy822_3 by822_pf by822_wf mfy822 gy822_CG gy822_TU gy822_WD gy822_IM iv28
        have J42 : ∀ (ls824 : Array Slot) (H823 : Heap) (locsH823 : List Loc) (x826 : Int32) (x827 : Int32) (x828 : Int32) (x829 : Int32) (x830 : Int32) (x831 : Int32), lv_has ls824 2 [(0, .ref a0)] → TY K G H823 → va_S (AE G [112, 136, 137] s.heap.size) s.heap H823 locsH823 → (2 ≤ x826.toInt ∧ x826.toInt ≤ 3) → (0 ≤ x827.toInt ∧ x827.toInt ≤ 500) → (0 ≤ x828.toInt ∧ x828.toInt ≤ 500) → (0 ≤ x831.toInt ∧ x831.toInt ≤ 500) → (x827 = fI H823 a0 (K.1.2 10 19)) → (x828 = fI H823 a0 (K.1.2 10 20)) → (x829 = fI H823 a0 (K.1.2 10 21)) → (x830 = fI H823 a0 (K.1.2 10 22)) → (x831 = fI H823 a0 (K.1.2 10 35)) → (oq = fR H823 a0 (K.1.2 10 32)) → (aq = fR H823 a0 (K.1.2 10 33)) → (tp = fI H823 a0 (K.1.2 10 18)) → (jb = fI H823 a0 (K.1.2 10 34)) → (∀ j : Nat, j < 3000 + mn.toNatClampNeg → fI H823 oq j = fI s.heap oq j ∧ fI H823 aq j = fI s.heap aq j) → (WF (fun k => fI H823 oq k) (fun k => fI H823 aq k) (3000 + mn.toNatClampNeg) (3000 + x831.toNatClampNeg) 0 1) → (MF K s.heap H823 a0 [19, 20, 21, 22, 35, 39, 40]) → (CG (avw K H823 a0)) → (TU (avw K H823 a0) (svw K H823 a0)) → (WD (avw K H823 a0)) → (IM (avw K H823 a0)) → ((x827.toInt ≤ tp.toInt ∧ x828.toInt ≤ x827.toInt ∧ (x829.toInt = 0 ∨ x828.toInt < x827.toInt) ∧ (x829.toInt ≠ 2 ∨ (0 ≤ x830.toInt ∧ x830.toInt ≤ 23))) ∧ x831.toInt + fr.toInt ≤ mn.toInt + x828.toInt ∧ mn.toInt < x831.toInt ∧ fr.toInt < x828.toInt ∧ x829.toInt = 4 ∧ x828.toInt = x818.toInt) → W p l e ({ frames := 5, cells := 0, slots := 0, locals := 107 } : Room) s m (([.ref a0] : List Value).toArray) below meth c H823 locsH823 0 0 Q (F0 m 42 ls824 [.int x826]) := by
          intro ls824 H823 locsH823 x826 x827 x828 x829 x830 x831 hl825 hTH823 hSH823 bx826 bx827 bx828 bx831 ex827 ex828 ex829 ex830 ex831 cy832_0 cy832_1 cy832_2 cy832_3 by832_pf by832_wf mfy832 gy832_CG gy832_TU gy832_WD gy832_IM iv42
          refine lv_istore_n (lv' := [(1, .int x826), (0, .ref a0)]) hx hb dX10_readSum_42 rfl hl825 (by decide) rfl (fun ls833 hl834 => ?_)
          refine lv_aload_n hx hb dX10_readSum_43 rfl (lv_at hl834 1 rfl) ?_
          obtain ⟨q835, eq835⟩ : ∃ z : Nat, z = fR H823 a0 (K.1.2 10 17) := ⟨_, rfl⟩
          have gq835 := ty_fr (q := q835) (k := 17) (u := 126) eq835 hTH823 ga0 rg_112 rfl
          refine x_V (As := []) (rest := []) C (a_X10_reads l K G H823 (x827) (x828) (x829) (x830) (tp) hTH823 ga0 gq835 eq835 ex827 ex828 ex829 ex830 cy832_2 gy832_CG gy832_TU gy832_WD gy832_IM (by omega)) yo_X10_reads wM_X10_242 ⟨⟨by decide, by decide⟩, by decide, by decide⟩ (x_rv C hTH823 (ci := 10) rfl ga0 rg_112) rfl hl834.1 rfl (Nat.le_of_ble_eq_true rfl) dX10_readSum_44 hSH823 (AE_sub (fun _ _ => rfl) (by decide) hSH823.1) (fun vH836 H836 locsH836 pH836 zH836 kH836 hSH836 => ?_)
          obtain ⟨x837, x838, x839, x840, hvH836, ex837, ex838, ex839, ex840, hrH836, m841, g842, g843, g844, g845, mf846, hTH836⟩ := pH836
          subst hvH836
          have b847 : ∀ j : Nat, j < 3000 + mn.toNatClampNeg → fI H836 oq j = fI s.heap oq j ∧ fI H836 aq j = fI s.heap aq j := fun j hj => ⟨(fI_kept (x_lt hTH823 kH836 goq (by decide))).trans (by832_pf j hj).1, (fI_kept (x_lt hTH823 kH836 gaq (by decide))).trans (by832_pf j hj).2⟩
          have b848 : WF (fun k => fI H836 oq k) (fun k => fI H836 aq k) (3000 + mn.toNatClampNeg) (3000 + x831.toNatClampNeg) 0 1 := WF.congr (fun j => fI_kept (x_lt hTH823 kH836 goq (by decide))) (fun j => fI_kept (x_lt hTH823 kH836 gaq (by decide))) by832_wf
          have m849 := (ex831).trans (MF.i mf846 (k := 35) (by decide) (by decide)).symm
          have m850 := (cy832_0).trans (MF.r mf846 (k := 32) (by decide) (by decide)).symm
          have m851 := (cy832_1).trans (MF.r mf846 (k := 33) (by decide) (by decide)).symm
          have m852 := (cy832_2).trans (MF.i mf846 (k := 18) (by decide) (by decide)).symm
          have m853 := (cy832_3).trans (MF.i mf846 (k := 34) (by decide) (by decide)).symm
          have m854 := (eq835).trans (MF.r mf846 (k := 17) (by decide) (by decide)).symm
          have mf855 : MF K s.heap H836 a0 [19, 20, 21, 22, 35, 39, 40] := MF.trans mfy832 mf846 (by decide)
          have bx837 := ty_fi (x := x837) (k := 19) ex837 hTH836 ga0 rg_112 rfl
          have bx838 := ty_fi (x := x838) (k := 20) ex838 hTH836 ga0 rg_112 rfl
          have bx839 := ty_fi (x := x839) (k := 21) ex839 hTH836 ga0 rg_112 rfl
          have bx840 := ty_fi (x := x840) (k := 22) ex840 hTH836 ga0 rg_112 rfl
          refine W.eq (g2 := F0 m 47 ls833 []) rfl ?_
          refine lv_aload_n hx hb dX10_readSum_47 rfl (lv_at hl834 1 rfl) ?_
          refine x_V (As := []) (rest := []) C (a_X10_readProduct l K G H836 (x837) (x838) (x839) (x840) (x831) (tp) (jb) hTH836 ga0 goq m850 gaq m851 ex837 ex838 ex839 ex840 m849 m852 m853 g842 g843 g844 g845 (by omega) (by omega)) yo_X10_readProduct wM_X10_252 ⟨⟨by decide, by decide⟩, by decide, by decide⟩ (x_rv C hTH836 (ci := 10) rfl ga0 rg_112) rfl hl834.1 rfl (Nat.le_of_ble_eq_true rfl) dX10_readSum_48 hSH836 (AE_sub (fun _ _ => rfl) (by decide) hSH836.1) (fun vH856 H856 locsH856 pH856 zH856 kH856 hSH856 => ?_)
          obtain ⟨x857, x858, x859, x860, x861, x862, hvH856, bx857, ex858, ex859, ex860, ex861, ex862, hrH856, m863, m864, g865, g866, g867, g868, mf869, m870, m871, hTH856⟩ := pH856
          subst hvH856
          have m872 := (m850).trans (MF.r mf869 (k := 32) (by decide) (by decide)).symm
          have m873 := (m851).trans (MF.r mf869 (k := 33) (by decide) (by decide)).symm
          have m874 := (m852).trans (MF.i mf869 (k := 18) (by decide) (by decide)).symm
          have m875 := (m853).trans (MF.i mf869 (k := 34) (by decide) (by decide)).symm
          have m876 := (m841).trans (MF.r mf869 (k := 17) (by decide) (by decide)).symm
          have mf877 : MF K s.heap H856 a0 [19, 20, 21, 22, 35, 39, 40] := MF.trans mf855 mf869 (by decide)
          have bx858 := ty_fi (x := x858) (k := 19) ex858 hTH856 ga0 rg_112 rfl
          have bx859 := ty_fi (x := x859) (k := 20) ex859 hTH856 ga0 rg_112 rfl
          have bx860 := ty_fi (x := x860) (k := 21) ex860 hTH856 ga0 rg_112 rfl
          have bx861 := ty_fi (x := x861) (k := 22) ex861 hTH856 ga0 rg_112 rfl
          have bx862 := ty_fi (x := x862) (k := 35) ex862 hTH856 ga0 rg_112 rfl
          have csm870 := i_cl (x := x831) (by omega)
          have cs_mn := i_cl (x := mn) (by omega)
          have b878 : ∀ j : Nat, j < 3000 + mn.toNatClampNeg → fI H856 oq j = fI s.heap oq j ∧ fI H856 aq j = fI s.heap aq j := fun j hj => ⟨(m870 j (by omega)).1.trans (b847 j hj).1, (m870 j (by omega)).2.trans (b847 j hj).2⟩
          have cs_mn := i_cl (x := mn) (by omega)
          have b879 : WF (fun k => fI H856 oq k) (fun k => fI H856 aq k) (3000 + mn.toNatClampNeg) (3000 + x831.toNatClampNeg) 0 1 := WF.keep b848 (fun j hj => (m870 j (by omega)).1) (fun j hj => (m870 j (by omega)).2)
          refine W.eq (g2 := F0 m 51 ls833 [.int x857]) rfl ?_
          refine lv_iconst (v := (-1)) hx hb dX10_readSum_51 (by decide) ?_
          refine lv_icmp_ne (tgt := 57) hx hb dX10_readSum_52 (by decide) (fun c880 => ?_) (fun c880 => ?_)
          · have k881 := i_ne c880
            have wu0 : WF (fun k => fI H856 oq k) (fun k => fI H856 aq k) (3000 + x831.toNatClampNeg) (3000 + x862.toNatClampNeg) 0 1 := by
              rcases m871 with h | h
              · exfalso; omega
              · exact h
            refine lv_aload_n hx hb dX10_readSum_57 rfl (lv_at hl834 1 rfl) ?_
            refine lv_iload_n hx hb dX10_readSum_58 rfl (lv_at hl834 0 rfl) ?_
            refine lv_iconst (v := 0) hx hb dX10_readSum_59 (by decide) ?_
            refine x_V (As := [.int x826, .int 0]) (rest := []) C (a_X10_emits l K G H856 (x826) (0) (x862) hTH856 ga0 goq m863 gaq m864 ex862 g865 g866 g867 g868 (by omega)) yo_X10_emits wM_X10_238 ⟨⟨by decide, by decide⟩, by decide, by decide⟩ (x_rv C hTH856 (ci := 10) rfl ga0 rg_112) rfl hl834.1 rfl (Nat.le_of_ble_eq_true rfl) dX10_readSum_60 hSH856 (AE_sub (fun _ _ => rfl) (by decide) hSH856.1) (fun vH882 H882 locsH882 pH882 zH882 kH882 hSH882 => ?_)
            obtain ⟨x883, hvH882, ex883, hrH882, m884, m885, g886, g887, g888, g889, mf890, m891, m892, m893, m894, hTH882⟩ := pH882
            subst hvH882
            have m895 := (m863).trans (MF.r mf890 (k := 32) (by decide) (by decide)).symm
            have m896 := (m864).trans (MF.r mf890 (k := 33) (by decide) (by decide)).symm
            have m897 := (m874).trans (MF.i mf890 (k := 18) (by decide) (by decide)).symm
            have m898 := (m875).trans (MF.i mf890 (k := 34) (by decide) (by decide)).symm
            have m899 := (m876).trans (MF.r mf890 (k := 17) (by decide) (by decide)).symm
            have m900 := (ex858).trans (MF.i mf890 (k := 19) (by decide) (by decide)).symm
            have m901 := (ex859).trans (MF.i mf890 (k := 20) (by decide) (by decide)).symm
            have m902 := (ex860).trans (MF.i mf890 (k := 21) (by decide) (by decide)).symm
            have m903 := (ex861).trans (MF.i mf890 (k := 22) (by decide) (by decide)).symm
            have mf904 : MF K s.heap H882 a0 [19, 20, 21, 22, 35, 39, 40] := MF.trans mf877 mf890 (by decide)
            have bx883 := ty_fi (x := x883) (k := 35) ex883 hTH882 ga0 rg_112 rfl
            have cem894 := i_cl (x := x862) (by omega)
            have ce_mn := i_cl (x := mn) (by omega)
            have b905 : ∀ j : Nat, j < 3000 + mn.toNatClampNeg → fI H882 oq j = fI s.heap oq j ∧ fI H882 aq j = fI s.heap aq j := fun j hj => ⟨(m893 j (by omega)).trans (b878 j hj).1, (m894 j (by omega)).trans (b878 j hj).2⟩
            have ce_mn := i_cl (x := mn) (by omega)
            have ce_x831 := i_cl (x := x831) (by omega)
            have b906 : WF (fun k => fI H882 oq k) (fun k => fI H882 aq k) (3000 + mn.toNatClampNeg) (3000 + x831.toNatClampNeg) 0 1 := WF.keep b879 (fun j hj => m893 j (by omega)) (fun j hj => m894 j (by omega))
            have ce_x831 := i_cl (x := x831) (by omega)
            have b907 : WF (fun k => fI H882 oq k) (fun k => fI H882 aq k) (3000 + x831.toNatClampNeg) (3000 + x862.toNatClampNeg) 0 1 := WF.keep wu0 (fun j hj => m893 j (by omega)) (fun j hj => m894 j (by omega))
            refine W.eq (g2 := F0 m 63 ls833 []) rfl ?_
            have ho := congrArg Int32.toInt m891
            have cb_mn := i_cl (x := mn) (by omega)
            have cb_x831 := i_cl (x := x831) (by omega)
            have cb_x862 := i_cl (x := x862) (by omega)
            have wn : WF (fun k => fI H882 oq k) (fun k => fI H882 aq k) (3000 + mn.toNatClampNeg) (3000 + x862.toNatClampNeg + 1) 0 1 := WF.bin b906 b907 (by omega) (by omega) (by show 2 ≤ (fI _ oq _).toInt ∧ (fI _ oq _).toInt ≤ 11 ∧ (fI _ oq _).toInt ≠ 9; omega) (Or.inl (by show (fI _ oq _).toInt ≠ 5; omega))
            refine lv_goto (tgt := 10) hx hb dX10_readSum_63 (by decide) ?_
            have cl_mn := i_cl (x := mn) (by omega)
            have cl_mn := i_cl (x := mn) (by omega)
            have cl_x862 := i_cl (x := x862) (by omega)
            have cl_x883 := i_cl (x := x883) (by omega)
            exact ih10 ls833 H882 locsH882 (x858) (x859) (x860) (x861) (x883) (lv_sub hl834 [1] rfl) hTH882 hSH882 (by have := i_rng x858; omega) (by have := i_rng x859; omega) (by have := i_rng x883; omega) m900 m901 m902 m903 ex883 m884 m885 m897 m898 b905 (WF.cast wn (by omega) (by omega)) mf904 g886 g887 g888 g889 (by omega) (by omega)
          · have k881 := i_eq c880
            refine lv_iconst (v := (-1)) hx hb dX10_readSum_55 (by decide) ?_
            exact x_iret C hQ dX10_readSum_56 hSH856 (by decide) (by decide) (⟨(-1), x858, x859, x860, x861, x862, rfl, by decide, ex858, ex859, ex860, ex861, ex862, by omega, m863, m864, g865, g866, g867, g868, mf877, b878, Or.inl (by omega), hTH856⟩)
        refine lv_aload_n hx hb dX10_readSum_28 rfl (lv_at hl816 0 rfl) ?_
        refine x_gi C hTH814 (ci := 10) (k := 22) rfl inX10 (by decide) wF_X10_205 ga0 rg_112 rfl dX10_readSum_29 (fun x908 ex908 bx908 => ?_)
        have ux908 : x820 = x908 := (ex820).trans ex908.symm
        subst ux908
        refine lv_bipush (v := 43) hx hb dX10_readSum_32 (by decide) ?_
        refine lv_icmp_ne (tgt := 41) hx hb dX10_readSum_34 (by decide) (fun c909 => ?_) (fun c909 => ?_)
        · have k910 := i_ne c909
          refine lv_iconst (v := 3) hx hb dX10_readSum_41 (by decide) ?_
          have cl_mn := i_cl (x := mn) (by omega)
          have cl_mn := i_cl (x := mn) (by omega)
          have cl_x821 := i_cl (x := x821) (by omega)
          exact J42 ls815 H814 locsH814 (3) (x817) (x818) (x819) (x820) (x821) (lv_sub hl816 [0] rfl) hTH814 hSH814 (by decide) (by have := i_rng x817; omega) (by have := i_rng x818; omega) (by have := i_rng x821; omega) ex817 ex818 ex819 ex820 ex821 cy822_0 cy822_1 cy822_2 cy822_3 by822_pf (WF.cast by822_wf (by omega) (by omega)) mfy822 gy822_CG gy822_TU gy822_WD gy822_IM (by omega)
        · have k910 := i_eq c909
          refine lv_iconst (v := 2) hx hb dX10_readSum_37 (by decide) ?_
          refine lv_goto (tgt := 42) hx hb dX10_readSum_38 (by decide) ?_
          have cl_mn := i_cl (x := mn) (by omega)
          have cl_mn := i_cl (x := mn) (by omega)
          have cl_x821 := i_cl (x := x821) (by omega)
          exact J42 ls815 H814 locsH814 (2) (x817) (x818) (x819) (x820) (x821) (lv_sub hl816 [0] rfl) hTH814 hSH814 (by decide) (by have := i_rng x817; omega) (by have := i_rng x818; omega) (by have := i_rng x821; omega) ex817 ex818 ex819 ex820 ex821 cy822_0 cy822_1 cy822_2 cy822_3 by822_pf (WF.cast by822_wf (by omega) (by omega)) mfy822 gy822_CG gy822_TU gy822_WD gy822_IM (by omega)
      refine lv_aload_n hx hb dX10_readSum_10 rfl (lv_at hl807 0 rfl) ?_
      refine lv_bipush (v := 43) hx hb dX10_readSum_11 (by decide) ?_
      refine x_V (As := [.int 43]) (rest := []) C (a_X10_isSign l K G H805 (43) (x810) (x811) hTH805 ga0 ex810 ex811) yo_X10_isSign wM_X10_249 ⟨⟨by decide, by decide⟩, by decide, by decide⟩ (x_rv C hTH805 (ci := 10) rfl ga0 rg_112) rfl hl807.1 rfl (Nat.le_of_ble_eq_true rfl) dX10_readSum_13 hSH805 (AE_sub (fun _ _ => rfl) (by decide) hSH805.1) (fun vH911 H911 locsH911 pH911 zH911 kH911 hSH911 => ?_)
      obtain ⟨x912, hvH911, bx912, hrH911, hTH911⟩ := pH911
      subst hvH911
      have mf913 : MF K s.heap H911 a0 [19, 20, 21, 22, 35, 39, 40] := MF.eff (x_lt hTH805 kH911 ga0 (by decide)) mfy813
      have b914 : ∀ j : Nat, j < 3000 + mn.toNatClampNeg → fI H911 oq j = fI s.heap oq j ∧ fI H911 aq j = fI s.heap aq j := fun j hj => ⟨(fI_kept (x_lt hTH805 kH911 goq (by decide))).trans (by813_pf j hj).1, (fI_kept (x_lt hTH805 kH911 gaq (by decide))).trans (by813_pf j hj).2⟩
      have b915 : WF (fun k => fI H911 oq k) (fun k => fI H911 aq k) (3000 + mn.toNatClampNeg) (3000 + x812.toNatClampNeg) 0 1 := WF.congr (fun j => fI_kept (x_lt hTH805 kH911 goq (by decide))) (fun j => fI_kept (x_lt hTH805 kH911 gaq (by decide))) by813_wf
      have g916 : CG (avw K H911 a0) := CG.congr (fun k hk j => av_eff hTH805 kH911 ga0 (by decide) (CG_eff [] (by decide) k hk)) gy813_CG
      have g917 : TU (avw K H911 a0) (svw K H911 a0) := TU.congr (fun k hk j => av_eff hTH805 kH911 ga0 (by decide) (TU_eff [] (by decide) k hk)) (fun k hk => sv_eff hTH805 kH911 ga0 (by decide)) gy813_TU
      have g918 : WD (avw K H911 a0) := WD.congr (fun k hk j => av_eff hTH805 kH911 ga0 (by decide) (WD_eff [] (by decide) k hk)) gy813_WD
      have g919 : IM (avw K H911 a0) := IM.congr (fun k hk j => av_eff hTH805 kH911 ga0 (by decide) (IM_eff [] (by decide) k hk)) gy813_IM
      have m920 := (ex808).trans (fI_kept (x_lt hTH805 kH911 ga0 (by decide))).symm
      have m921 := (ex809).trans (fI_kept (x_lt hTH805 kH911 ga0 (by decide))).symm
      have m922 := (ex810).trans (fI_kept (x_lt hTH805 kH911 ga0 (by decide))).symm
      have m923 := (ex811).trans (fI_kept (x_lt hTH805 kH911 ga0 (by decide))).symm
      have m924 := (ex812).trans (fI_kept (x_lt hTH805 kH911 ga0 (by decide))).symm
      have m925 := (cy813_0).trans (fR_kept (x_lt hTH805 kH911 ga0 (by decide))).symm
      have m926 := (cy813_1).trans (fR_kept (x_lt hTH805 kH911 ga0 (by decide))).symm
      have m927 := (cy813_2).trans (fI_kept (x_lt hTH805 kH911 ga0 (by decide))).symm
      have m928 := (cy813_3).trans (fI_kept (x_lt hTH805 kH911 ga0 (by decide))).symm
      refine W.eq (g2 := F0 m 16 ls806 [.int x912]) rfl ?_
      refine lv_if_ne (tgt := 28) hx hb dX10_readSum_16 (by decide) (fun c929 => ?_) (fun c929 => ?_)
      · have k930 := i_ne c929
        have cl_mn := i_cl (x := mn) (by omega)
        have cl_mn := i_cl (x := mn) (by omega)
        have cl_x812 := i_cl (x := x812) (by omega)
        exact J28 ls806 H911 locsH911 (x808) (x809) (x810) (x811) (x812) (lv_sub hl807 [0] rfl) hTH911 hSH911 (by have := i_rng x808; omega) (by have := i_rng x809; omega) (by have := i_rng x812; omega) m920 m921 m922 m923 m924 m925 m926 m927 m928 b914 (WF.cast b915 (by omega) (by omega)) mf913 g916 g917 g918 g919 (by omega)
      · have k930 := i_eq c929
        refine lv_aload_n hx hb dX10_readSum_19 rfl (lv_at hl807 0 rfl) ?_
        refine lv_bipush (v := 45) hx hb dX10_readSum_20 (by decide) ?_
        refine x_V (As := [.int 45]) (rest := []) C (a_X10_isSign l K G H911 (45) (x810) (x811) hTH911 ga0 m922 m923) yo_X10_isSign wM_X10_249 ⟨⟨by decide, by decide⟩, by decide, by decide⟩ (x_rv C hTH911 (ci := 10) rfl ga0 rg_112) rfl hl807.1 rfl (Nat.le_of_ble_eq_true rfl) dX10_readSum_22 hSH911 (AE_sub (fun _ _ => rfl) (by decide) hSH911.1) (fun vH931 H931 locsH931 pH931 zH931 kH931 hSH931 => ?_)
        obtain ⟨x932, hvH931, bx932, hrH931, hTH931⟩ := pH931
        subst hvH931
        have mf933 : MF K s.heap H931 a0 [19, 20, 21, 22, 35, 39, 40] := MF.eff (x_lt hTH911 kH931 ga0 (by decide)) mf913
        have b934 : ∀ j : Nat, j < 3000 + mn.toNatClampNeg → fI H931 oq j = fI s.heap oq j ∧ fI H931 aq j = fI s.heap aq j := fun j hj => ⟨(fI_kept (x_lt hTH911 kH931 goq (by decide))).trans (b914 j hj).1, (fI_kept (x_lt hTH911 kH931 gaq (by decide))).trans (b914 j hj).2⟩
        have b935 : WF (fun k => fI H931 oq k) (fun k => fI H931 aq k) (3000 + mn.toNatClampNeg) (3000 + x812.toNatClampNeg) 0 1 := WF.congr (fun j => fI_kept (x_lt hTH911 kH931 goq (by decide))) (fun j => fI_kept (x_lt hTH911 kH931 gaq (by decide))) b915
        have g936 : CG (avw K H931 a0) := CG.congr (fun k hk j => av_eff hTH911 kH931 ga0 (by decide) (CG_eff [] (by decide) k hk)) g916
        have g937 : TU (avw K H931 a0) (svw K H931 a0) := TU.congr (fun k hk j => av_eff hTH911 kH931 ga0 (by decide) (TU_eff [] (by decide) k hk)) (fun k hk => sv_eff hTH911 kH931 ga0 (by decide)) g917
        have g938 : WD (avw K H931 a0) := WD.congr (fun k hk j => av_eff hTH911 kH931 ga0 (by decide) (WD_eff [] (by decide) k hk)) g918
        have g939 : IM (avw K H931 a0) := IM.congr (fun k hk j => av_eff hTH911 kH931 ga0 (by decide) (IM_eff [] (by decide) k hk)) g919
        have m940 := (m920).trans (fI_kept (x_lt hTH911 kH931 ga0 (by decide))).symm
        have m941 := (m921).trans (fI_kept (x_lt hTH911 kH931 ga0 (by decide))).symm
        have m942 := (m922).trans (fI_kept (x_lt hTH911 kH931 ga0 (by decide))).symm
        have m943 := (m923).trans (fI_kept (x_lt hTH911 kH931 ga0 (by decide))).symm
        have m944 := (m924).trans (fI_kept (x_lt hTH911 kH931 ga0 (by decide))).symm
        have m945 := (m925).trans (fR_kept (x_lt hTH911 kH931 ga0 (by decide))).symm
        have m946 := (m926).trans (fR_kept (x_lt hTH911 kH931 ga0 (by decide))).symm
        have m947 := (m927).trans (fI_kept (x_lt hTH911 kH931 ga0 (by decide))).symm
        have m948 := (m928).trans (fI_kept (x_lt hTH911 kH931 ga0 (by decide))).symm
        refine W.eq (g2 := F0 m 25 ls806 [.int x932]) rfl ?_
        refine lv_if_eq (tgt := 66) hx hb dX10_readSum_25 (by decide) (fun c949 => ?_) (fun c949 => ?_)
        · have k950 := i_eq c949
          refine lv_iconst (v := 0) hx hb dX10_readSum_66 (by decide) ?_
          have cr_mn := i_cl (x := mn) (by omega)
          have cr_x812 := i_cl (x := x812) (by omega)
          exact x_iret C hQ dX10_readSum_67 hSH931 (by decide) (by decide) (⟨0, x808, x809, x810, x811, x812, rfl, by decide, m940, m941, m942, m943, m944, by omega, m945, m946, g936, g937, g938, g939, mf933, b934, Or.inr (WF.cast b935 (by omega) (by omega)), hTH931⟩)
        · have k950 := i_ne c949
          have cl_mn := i_cl (x := mn) (by omega)
          have cl_mn := i_cl (x := mn) (by omega)
          have cl_x812 := i_cl (x := x812) (by omega)
          exact J28 ls806 H931 locsH931 (x808) (x809) (x810) (x811) (x812) (lv_sub hl807 [0] rfl) hTH931 hSH931 (by have := i_rng x808; omega) (by have := i_rng x809; omega) (by have := i_rng x812; omega) m940 m941 m942 m943 m944 m945 m946 m947 m948 b934 (WF.cast b935 (by omega) (by omega)) mf933 g936 g937 g938 g939 (by omega)
  have pf00 : ∀ j : Nat, j < 3000 + mn.toNatClampNeg → fI s.heap oq j = fI s.heap oq j ∧ fI s.heap aq j = fI s.heap aq j := fun _ _ => ⟨rfl, rfl⟩
  have hmn := i_cl (x := mn) (by omega)
  refine lv_aload_n hx hb dX10_readSum_0 rfl (lv_at hl 0 rfl) ?_
  refine x_V (As := []) (rest := []) C (a_X10_readProduct l K G s.heap (sp) (fr) (tk) (vl) (mn) (tp) (jb) hT ga0 goq eoq gaq eaq esp efr etk evl emn etp ejb hg_CG hg_TU hg_WD hg_IM (by omega) (by omega)) yo_X10_readProduct wM_X10_252 ⟨⟨by decide, by decide⟩, by decide, by decide⟩ (x_rv C hT (ci := 10) rfl ga0 rg_112) rfl hl.1 rfl (Nat.le_of_ble_eq_true rfl) dX10_readSum_1 hS (AE_sub (fun _ _ => rfl) (by decide) hS.1) (fun vH951 H951 locsH951 pH951 zH951 kH951 hSH951 => ?_)
  obtain ⟨x952, x953, x954, x955, x956, x957, hvH951, bx952, ex953, ex954, ex955, ex956, ex957, hrH951, m958, m959, g960, g961, g962, g963, mf964, m965, m966, hTH951⟩ := pH951
  subst hvH951
  have m967 := (eoq).trans (MF.r mf964 (k := 32) (by decide) (by decide)).symm
  have m968 := (eaq).trans (MF.r mf964 (k := 33) (by decide) (by decide)).symm
  have m969 := (etp).trans (MF.i mf964 (k := 18) (by decide) (by decide)).symm
  have m970 := (ejb).trans (MF.i mf964 (k := 34) (by decide) (by decide)).symm
  have mf971 : MF K s.heap H951 a0 [19, 20, 21, 22, 35, 39, 40] := MF.trans mf0 mf964 (by decide)
  have bx953 := ty_fi (x := x953) (k := 19) ex953 hTH951 ga0 rg_112 rfl
  have bx954 := ty_fi (x := x954) (k := 20) ex954 hTH951 ga0 rg_112 rfl
  have bx955 := ty_fi (x := x955) (k := 21) ex955 hTH951 ga0 rg_112 rfl
  have bx956 := ty_fi (x := x956) (k := 22) ex956 hTH951 ga0 rg_112 rfl
  have bx957 := ty_fi (x := x957) (k := 35) ex957 hTH951 ga0 rg_112 rfl
  have csm965 := i_cl (x := mn) (by omega)
  have b972 : ∀ j : Nat, j < 3000 + mn.toNatClampNeg → fI H951 oq j = fI s.heap oq j ∧ fI H951 aq j = fI s.heap aq j := fun j hj => ⟨(m965 j (by omega)).1.trans (pf00 j hj).1, (m965 j (by omega)).2.trans (pf00 j hj).2⟩
  refine W.eq (g2 := F0 m 4 ls [.int x952]) rfl ?_
  refine lv_iconst (v := (-1)) hx hb dX10_readSum_4 (by decide) ?_
  refine lv_icmp_ne (tgt := 10) hx hb dX10_readSum_5 (by decide) (fun c973 => ?_) (fun c973 => ?_)
  · have k974 := i_ne c973
    have wf0 : WF (fun k => fI H951 oq k) (fun k => fI H951 aq k) (3000 + mn.toNatClampNeg) (3000 + x957.toNatClampNeg) 0 1 := by
      rcases m966 with h | h
      · exfalso; omega
      · exact h
    have cl_mn := i_cl (x := mn) (by omega)
    have cl_mn := i_cl (x := mn) (by omega)
    have cl_x957 := i_cl (x := x957) (by omega)
    exact J10 ((500 - x954.toInt).toNat + 1) ls H951 locsH951 (x953) (x954) (x955) (x956) (x957) (lv_sub hl [0] rfl) hTH951 hSH951 (by have := i_rng x953; omega) (by have := i_rng x954; omega) (by have := i_rng x957; omega) ex953 ex954 ex955 ex956 ex957 m958 m959 m969 m970 b972 (WF.cast wf0 (by omega) (by omega)) mf971 g960 g961 g962 g963 (by omega) (by omega)
  · have k974 := i_eq c973
    refine lv_iconst (v := (-1)) hx hb dX10_readSum_8 (by decide) ?_
    exact x_iret C hQ dX10_readSum_9 hSH951 (by decide) (by decide) (⟨(-1), x953, x954, x955, x956, x957, rfl, by decide, ex953, ex954, ex955, ex956, ex957, by omega, m958, m959, g960, g961, g962, g963, mf971, b972, Or.inl (by omega), hTH951⟩)

set_option maxHeartbeats 4000000 in
set_option maxRecDepth 100000 in
theorem a_X10_readCompared (l : Launch) (K : KE) (G : Nat → Option Nat) (H : Heap) {a0 : Nat} {oq : Nat} {aq : Nat} (sp : Int32) (fr : Int32) (tk : Int32) (vl : Int32) (mn : Int32) (tp : Int32) (jb : Int32) (hT : TY K G H) (ga0 : G a0 = some 112) (goq : G oq = some 136) (eoq : oq = fR H a0 (K.1.2 10 32)) (gaq : G aq = some 137) (eaq : aq = fR H a0 (K.1.2 10 33)) (esp : sp = fI H a0 (K.1.2 10 19)) (efr : fr = fI H a0 (K.1.2 10 20)) (etk : tk = fI H a0 (K.1.2 10 21)) (evl : vl = fI H a0 (K.1.2 10 22)) (emn : mn = fI H a0 (K.1.2 10 35)) (etp : tp = fI H a0 (K.1.2 10 18)) (ejb : jb = fI H a0 (K.1.2 10 34)) (hg_CG : CG (avw K H a0)) (hg_TU : TU (avw K H a0) (svw K H a0)) (hg_WD : WD (avw K H a0)) (hg_IM : IM (avw K H a0)) (hp0 : (sp.toInt ≤ tp.toInt ∧ fr.toInt ≤ sp.toInt ∧ (tk.toInt = 0 ∨ fr.toInt < sp.toInt) ∧ (tk.toInt ≠ 2 ∨ (0 ≤ vl.toInt ∧ vl.toInt ≤ 23)))) (hp1 : mn.toInt ≤ fr.toInt) : MX l K yX10_readCompared cX10_readCompared 2 (some .int) 6 128 0 0 [.ref a0] H (AE G [112, 136, 137] H.size) (fun v H1 => ∃ (r : Int32) (t0 : Int32) (t1 : Int32) (t2 : Int32) (t3 : Int32) (t4 : Int32), v = some (.int r) ∧ ((-1) ≤ r.toInt ∧ r.toInt ≤ 0) ∧ t0 = fI H1 a0 (K.1.2 10 19) ∧ t1 = fI H1 a0 (K.1.2 10 20) ∧ t2 = fI H1 a0 (K.1.2 10 21) ∧ t3 = fI H1 a0 (K.1.2 10 22) ∧ t4 = fI H1 a0 (K.1.2 10 35) ∧ (r.toInt = -1 ∨ (r.toInt = 0 ∧ t0.toInt ≤ tp.toInt ∧ t1.toInt ≤ t0.toInt ∧ (t2.toInt = 0 ∨ t1.toInt < t0.toInt) ∧ (t2.toInt ≠ 2 ∨ (0 ≤ t3.toInt ∧ t3.toInt ≤ 23)) ∧ t4.toInt + fr.toInt ≤ mn.toInt + t1.toInt ∧ mn.toInt < t4.toInt ∧ fr.toInt < t1.toInt)) ∧ oq = fR H1 a0 (K.1.2 10 32) ∧ aq = fR H1 a0 (K.1.2 10 33) ∧ (CG (avw K H1 a0)) ∧ (TU (avw K H1 a0) (svw K H1 a0)) ∧ (WD (avw K H1 a0)) ∧ (IM (avw K H1 a0)) ∧ MF K H H1 a0 [19, 20, 21, 22, 35, 39, 40] ∧ (∀ j : Nat, j < 3000 + mn.toNatClampNeg → fI H1 oq j = fI H oq j ∧ fI H1 aq j = fI H aq j) ∧ (r.toInt = -1 ∨ WF (fun k => fI H1 oq k) (fun k => fI H1 aq k) (3000 + mn.toNatClampNeg) (3000 + t4.toNatClampNeg) 0 1) ∧ TY K G H1) := by
  refine MX.of (by decide +kernel) (Nat.le_of_ble_eq_true rfl) ?_
  intro p e s m below meth c ls Q C hH hl hQ
  subst hH
  have C : CX p K s m _ meth c RX10 cX10_readCompared 2 (some .int) "readCompared" := C
  obtain ⟨hx, hb, hml, hown, hts, hKT, hr, hlocks, hnm⟩ := id C
  have hl : lv_has ls 2 [(0, .ref a0)] := hl
  have hS : va_S (AE G [112, 136, 137] s.heap.size) s.heap s.heap [] := va_S.rf
  have n_m1 : ((-1) : Int32).toInt = -1 := rfl
  have n_0 : (0 : Int32).toInt = 0 := rfl
  have n_1 : (1 : Int32).toInt = 1 := rfl
  have n_6 : (6 : Int32).toInt = 6 := rfl
  have n_7 : (7 : Int32).toInt = 7 := rfl
  have n_8 : (8 : Int32).toInt = 8 := rfl
  have n_60 : (60 : Int32).toInt = 60 := rfl
  have n_61 : (61 : Int32).toInt = 61 := rfl
  have n_62 : (62 : Int32).toInt = 62 := rfl
  have bsp := ty_fi (x := sp) (k := 19) esp hT ga0 rg_112 rfl
  have bfr := ty_fi (x := fr) (k := 20) efr hT ga0 rg_112 rfl
  have btk := ty_fi (x := tk) (k := 21) etk hT ga0 rg_112 rfl
  have bvl := ty_fi (x := vl) (k := 22) evl hT ga0 rg_112 rfl
  have bmn := ty_fi (x := mn) (k := 35) emn hT ga0 rg_112 rfl
  have btp := ty_fi (x := tp) (k := 18) etp hT ga0 rg_112 rfl
  have bjb := ty_fi (x := jb) (k := 34) ejb hT ga0 rg_112 rfl
  have hap : ∀ x y, x < 74 → y < 74 → x ≠ y → K.1.2 10 x ≠ K.1.2 10 y := x_apart hKT hts inX10 tyX10 tyX10_ok nmX10 rfl
  have mf0 : MF K s.heap s.heap a0 [19, 20, 21, 22, 35, 39, 40] := fun _ _ _ => rfl
  have J43 : ∀ (ls1002 : Array Slot) (H1001 : Heap) (locsH1001 : List Loc) (x1004 : Int32) (x1005 : Int32) (x1006 : Int32) (x1007 : Int32) (x1008 : Int32), lv_has ls1002 2 [(0, .ref a0)] → TY K G H1001 → va_S (AE G [112, 136, 137] s.heap.size) s.heap H1001 locsH1001 → (0 ≤ x1004.toInt ∧ x1004.toInt ≤ 500) → (0 ≤ x1005.toInt ∧ x1005.toInt ≤ 500) → (0 ≤ x1008.toInt ∧ x1008.toInt ≤ 500) → (x1004 = fI H1001 a0 (K.1.2 10 19)) → (x1005 = fI H1001 a0 (K.1.2 10 20)) → (x1006 = fI H1001 a0 (K.1.2 10 21)) → (x1007 = fI H1001 a0 (K.1.2 10 22)) → (x1008 = fI H1001 a0 (K.1.2 10 35)) → (oq = fR H1001 a0 (K.1.2 10 32)) → (aq = fR H1001 a0 (K.1.2 10 33)) → (tp = fI H1001 a0 (K.1.2 10 18)) → (jb = fI H1001 a0 (K.1.2 10 34)) → (∀ j : Nat, j < 3000 + mn.toNatClampNeg → fI H1001 oq j = fI s.heap oq j ∧ fI H1001 aq j = fI s.heap aq j) → (WF (fun k => fI H1001 oq k) (fun k => fI H1001 aq k) (3000 + mn.toNatClampNeg) (3000 + x1008.toNatClampNeg) 0 1) → (MF K s.heap H1001 a0 [19, 20, 21, 22, 35, 39, 40]) → (CG (avw K H1001 a0)) → (TU (avw K H1001 a0) (svw K H1001 a0)) → (WD (avw K H1001 a0)) → (IM (avw K H1001 a0)) → ((x1004.toInt ≤ tp.toInt ∧ x1005.toInt ≤ x1004.toInt ∧ (x1006.toInt = 0 ∨ x1005.toInt < x1004.toInt) ∧ (x1006.toInt ≠ 2 ∨ (0 ≤ x1007.toInt ∧ x1007.toInt ≤ 23))) ∧ x1008.toInt + fr.toInt ≤ mn.toInt + x1005.toInt ∧ mn.toInt < x1008.toInt ∧ fr.toInt < x1005.toInt ∧ x1006.toInt = 4) → W p l e ({ frames := 6, cells := 0, slots := 0, locals := 128 } : Room) s m (([.ref a0] : List Value).toArray) below meth c H1001 locsH1001 0 0 Q (F0 m 43 ls1002 []) := by
    intro ls1002 H1001 locsH1001 x1004 x1005 x1006 x1007 x1008 hl1003 hTH1001 hSH1001 bx1004 bx1005 bx1008 ex1004 ex1005 ex1006 ex1007 ex1008 cy1009_0 cy1009_1 cy1009_2 cy1009_3 by1009_pf by1009_wf mfy1009 gy1009_CG gy1009_TU gy1009_WD gy1009_IM iv43
    have J73 : ∀ (ls1011 : Array Slot) (H1010 : Heap) (locsH1010 : List Loc) (x1013 : Int32) (x1014 : Int32) (x1015 : Int32) (x1016 : Int32) (x1017 : Int32) (x1018 : Int32), lv_has ls1011 2 [(0, .ref a0)] → TY K G H1010 → va_S (AE G [112, 136, 137] s.heap.size) s.heap H1010 locsH1010 → (6 ≤ x1013.toInt ∧ x1013.toInt ≤ 8) → (0 ≤ x1014.toInt ∧ x1014.toInt ≤ 500) → (0 ≤ x1015.toInt ∧ x1015.toInt ≤ 500) → (0 ≤ x1018.toInt ∧ x1018.toInt ≤ 500) → (x1014 = fI H1010 a0 (K.1.2 10 19)) → (x1015 = fI H1010 a0 (K.1.2 10 20)) → (x1016 = fI H1010 a0 (K.1.2 10 21)) → (x1017 = fI H1010 a0 (K.1.2 10 22)) → (x1018 = fI H1010 a0 (K.1.2 10 35)) → (oq = fR H1010 a0 (K.1.2 10 32)) → (aq = fR H1010 a0 (K.1.2 10 33)) → (tp = fI H1010 a0 (K.1.2 10 18)) → (jb = fI H1010 a0 (K.1.2 10 34)) → (∀ j : Nat, j < 3000 + mn.toNatClampNeg → fI H1010 oq j = fI s.heap oq j ∧ fI H1010 aq j = fI s.heap aq j) → (WF (fun k => fI H1010 oq k) (fun k => fI H1010 aq k) (3000 + mn.toNatClampNeg) (3000 + x1018.toNatClampNeg) 0 1) → (MF K s.heap H1010 a0 [19, 20, 21, 22, 35, 39, 40]) → (CG (avw K H1010 a0)) → (TU (avw K H1010 a0) (svw K H1010 a0)) → (WD (avw K H1010 a0)) → (IM (avw K H1010 a0)) → ((x1014.toInt ≤ tp.toInt ∧ x1015.toInt ≤ x1014.toInt ∧ (x1016.toInt = 0 ∨ x1015.toInt < x1014.toInt) ∧ (x1016.toInt ≠ 2 ∨ (0 ≤ x1017.toInt ∧ x1017.toInt ≤ 23))) ∧ x1018.toInt + fr.toInt ≤ mn.toInt + x1015.toInt ∧ mn.toInt < x1018.toInt ∧ fr.toInt < x1015.toInt ∧ x1016.toInt = 4) → W p l e ({ frames := 6, cells := 0, slots := 0, locals := 128 } : Room) s m (([.ref a0] : List Value).toArray) below meth c H1010 locsH1010 0 0 Q (F0 m 73 ls1011 [.int x1013]) := by
      intro ls1011 H1010 locsH1010 x1013 x1014 x1015 x1016 x1017 x1018 hl1012 hTH1010 hSH1010 bx1013 bx1014 bx1015 bx1018 ex1014 ex1015 ex1016 ex1017 ex1018 cy1019_0 cy1019_1 cy1019_2 cy1019_3 by1019_pf by1019_wf mfy1019 gy1019_CG gy1019_TU gy1019_WD gy1019_IM iv73
      refine lv_istore_n (lv' := [(1, .int x1013), (0, .ref a0)]) hx hb dX10_readCompared_73 rfl hl1012 (by decide) rfl (fun ls1020 hl1021 => ?_)
      refine lv_aload_n hx hb dX10_readCompared_74 rfl (lv_at hl1021 1 rfl) ?_
      obtain ⟨q1022, eq1022⟩ : ∃ z : Nat, z = fR H1010 a0 (K.1.2 10 17) := ⟨_, rfl⟩
      have gq1022 := ty_fr (q := q1022) (k := 17) (u := 126) eq1022 hTH1010 ga0 rg_112 rfl
      refine x_V (As := []) (rest := []) C (a_X10_reads l K G H1010 (x1014) (x1015) (x1016) (x1017) (tp) hTH1010 ga0 gq1022 eq1022 ex1014 ex1015 ex1016 ex1017 cy1019_2 gy1019_CG gy1019_TU gy1019_WD gy1019_IM (by omega)) yo_X10_reads wM_X10_242 ⟨⟨by decide, by decide⟩, by decide, by decide⟩ (x_rv C hTH1010 (ci := 10) rfl ga0 rg_112) rfl hl1021.1 rfl (Nat.le_of_ble_eq_true rfl) dX10_readCompared_75 hSH1010 (AE_sub (fun _ _ => rfl) (by decide) hSH1010.1) (fun vH1023 H1023 locsH1023 pH1023 zH1023 kH1023 hSH1023 => ?_)
      obtain ⟨x1024, x1025, x1026, x1027, hvH1023, ex1024, ex1025, ex1026, ex1027, hrH1023, m1028, g1029, g1030, g1031, g1032, mf1033, hTH1023⟩ := pH1023
      subst hvH1023
      have b1034 : ∀ j : Nat, j < 3000 + mn.toNatClampNeg → fI H1023 oq j = fI s.heap oq j ∧ fI H1023 aq j = fI s.heap aq j := fun j hj => ⟨(fI_kept (x_lt hTH1010 kH1023 goq (by decide))).trans (by1019_pf j hj).1, (fI_kept (x_lt hTH1010 kH1023 gaq (by decide))).trans (by1019_pf j hj).2⟩
      have b1035 : WF (fun k => fI H1023 oq k) (fun k => fI H1023 aq k) (3000 + mn.toNatClampNeg) (3000 + x1018.toNatClampNeg) 0 1 := WF.congr (fun j => fI_kept (x_lt hTH1010 kH1023 goq (by decide))) (fun j => fI_kept (x_lt hTH1010 kH1023 gaq (by decide))) by1019_wf
      have m1036 := (ex1018).trans (MF.i mf1033 (k := 35) (by decide) (by decide)).symm
      have m1037 := (cy1019_0).trans (MF.r mf1033 (k := 32) (by decide) (by decide)).symm
      have m1038 := (cy1019_1).trans (MF.r mf1033 (k := 33) (by decide) (by decide)).symm
      have m1039 := (cy1019_2).trans (MF.i mf1033 (k := 18) (by decide) (by decide)).symm
      have m1040 := (cy1019_3).trans (MF.i mf1033 (k := 34) (by decide) (by decide)).symm
      have m1041 := (eq1022).trans (MF.r mf1033 (k := 17) (by decide) (by decide)).symm
      have mf1042 : MF K s.heap H1023 a0 [19, 20, 21, 22, 35, 39, 40] := MF.trans mfy1019 mf1033 (by decide)
      have bx1024 := ty_fi (x := x1024) (k := 19) ex1024 hTH1023 ga0 rg_112 rfl
      have bx1025 := ty_fi (x := x1025) (k := 20) ex1025 hTH1023 ga0 rg_112 rfl
      have bx1026 := ty_fi (x := x1026) (k := 21) ex1026 hTH1023 ga0 rg_112 rfl
      have bx1027 := ty_fi (x := x1027) (k := 22) ex1027 hTH1023 ga0 rg_112 rfl
      refine W.eq (g2 := F0 m 78 ls1020 []) rfl ?_
      refine lv_aload_n hx hb dX10_readCompared_78 rfl (lv_at hl1021 1 rfl) ?_
      refine x_V (As := []) (rest := []) C (a_X10_readSum l K G H1023 (x1024) (x1025) (x1026) (x1027) (x1018) (tp) (jb) hTH1023 ga0 goq m1037 gaq m1038 ex1024 ex1025 ex1026 ex1027 m1036 m1039 m1040 g1029 g1030 g1031 g1032 (by omega) (by omega)) yo_X10_readSum wM_X10_255 ⟨⟨by decide, by decide⟩, by decide, by decide⟩ (x_rv C hTH1023 (ci := 10) rfl ga0 rg_112) rfl hl1021.1 rfl (Nat.le_of_ble_eq_true rfl) dX10_readCompared_79 hSH1023 (AE_sub (fun _ _ => rfl) (by decide) hSH1023.1) (fun vH1043 H1043 locsH1043 pH1043 zH1043 kH1043 hSH1043 => ?_)
      obtain ⟨x1044, x1045, x1046, x1047, x1048, x1049, hvH1043, bx1044, ex1045, ex1046, ex1047, ex1048, ex1049, hrH1043, m1050, m1051, g1052, g1053, g1054, g1055, mf1056, m1057, m1058, hTH1043⟩ := pH1043
      subst hvH1043
      have m1059 := (m1037).trans (MF.r mf1056 (k := 32) (by decide) (by decide)).symm
      have m1060 := (m1038).trans (MF.r mf1056 (k := 33) (by decide) (by decide)).symm
      have m1061 := (m1039).trans (MF.i mf1056 (k := 18) (by decide) (by decide)).symm
      have m1062 := (m1040).trans (MF.i mf1056 (k := 34) (by decide) (by decide)).symm
      have m1063 := (m1028).trans (MF.r mf1056 (k := 17) (by decide) (by decide)).symm
      have mf1064 : MF K s.heap H1043 a0 [19, 20, 21, 22, 35, 39, 40] := MF.trans mf1042 mf1056 (by decide)
      have bx1045 := ty_fi (x := x1045) (k := 19) ex1045 hTH1043 ga0 rg_112 rfl
      have bx1046 := ty_fi (x := x1046) (k := 20) ex1046 hTH1043 ga0 rg_112 rfl
      have bx1047 := ty_fi (x := x1047) (k := 21) ex1047 hTH1043 ga0 rg_112 rfl
      have bx1048 := ty_fi (x := x1048) (k := 22) ex1048 hTH1043 ga0 rg_112 rfl
      have bx1049 := ty_fi (x := x1049) (k := 35) ex1049 hTH1043 ga0 rg_112 rfl
      have csm1057 := i_cl (x := x1018) (by omega)
      have cs_mn := i_cl (x := mn) (by omega)
      have b1065 : ∀ j : Nat, j < 3000 + mn.toNatClampNeg → fI H1043 oq j = fI s.heap oq j ∧ fI H1043 aq j = fI s.heap aq j := fun j hj => ⟨(m1057 j (by omega)).1.trans (b1034 j hj).1, (m1057 j (by omega)).2.trans (b1034 j hj).2⟩
      have cs_mn := i_cl (x := mn) (by omega)
      have b1066 : WF (fun k => fI H1043 oq k) (fun k => fI H1043 aq k) (3000 + mn.toNatClampNeg) (3000 + x1018.toNatClampNeg) 0 1 := WF.keep b1035 (fun j hj => (m1057 j (by omega)).1) (fun j hj => (m1057 j (by omega)).2)
      refine W.eq (g2 := F0 m 82 ls1020 [.int x1044]) rfl ?_
      refine lv_iconst (v := (-1)) hx hb dX10_readCompared_82 (by decide) ?_
      refine lv_icmp_ne (tgt := 88) hx hb dX10_readCompared_83 (by decide) (fun c1067 => ?_) (fun c1067 => ?_)
      · have k1068 := i_ne c1067
        have wu0 : WF (fun k => fI H1043 oq k) (fun k => fI H1043 aq k) (3000 + x1018.toNatClampNeg) (3000 + x1049.toNatClampNeg) 0 1 := by
          rcases m1058 with h | h
          · exfalso; omega
          · exact h
        refine lv_aload_n hx hb dX10_readCompared_88 rfl (lv_at hl1021 1 rfl) ?_
        refine lv_iload_n hx hb dX10_readCompared_89 rfl (lv_at hl1021 0 rfl) ?_
        refine lv_iconst (v := 0) hx hb dX10_readCompared_90 (by decide) ?_
        refine x_V (As := [.int x1013, .int 0]) (rest := []) C (a_X10_emits l K G H1043 (x1013) (0) (x1049) hTH1043 ga0 goq m1050 gaq m1051 ex1049 g1052 g1053 g1054 g1055 (by omega)) yo_X10_emits wM_X10_238 ⟨⟨by decide, by decide⟩, by decide, by decide⟩ (x_rv C hTH1043 (ci := 10) rfl ga0 rg_112) rfl hl1021.1 rfl (Nat.le_of_ble_eq_true rfl) dX10_readCompared_91 hSH1043 (AE_sub (fun _ _ => rfl) (by decide) hSH1043.1) (fun vH1069 H1069 locsH1069 pH1069 zH1069 kH1069 hSH1069 => ?_)
        obtain ⟨x1070, hvH1069, ex1070, hrH1069, m1071, m1072, g1073, g1074, g1075, g1076, mf1077, m1078, m1079, m1080, m1081, hTH1069⟩ := pH1069
        subst hvH1069
        have m1082 := (m1050).trans (MF.r mf1077 (k := 32) (by decide) (by decide)).symm
        have m1083 := (m1051).trans (MF.r mf1077 (k := 33) (by decide) (by decide)).symm
        have m1084 := (m1061).trans (MF.i mf1077 (k := 18) (by decide) (by decide)).symm
        have m1085 := (m1062).trans (MF.i mf1077 (k := 34) (by decide) (by decide)).symm
        have m1086 := (m1063).trans (MF.r mf1077 (k := 17) (by decide) (by decide)).symm
        have m1087 := (ex1045).trans (MF.i mf1077 (k := 19) (by decide) (by decide)).symm
        have m1088 := (ex1046).trans (MF.i mf1077 (k := 20) (by decide) (by decide)).symm
        have m1089 := (ex1047).trans (MF.i mf1077 (k := 21) (by decide) (by decide)).symm
        have m1090 := (ex1048).trans (MF.i mf1077 (k := 22) (by decide) (by decide)).symm
        have mf1091 : MF K s.heap H1069 a0 [19, 20, 21, 22, 35, 39, 40] := MF.trans mf1064 mf1077 (by decide)
        have bx1070 := ty_fi (x := x1070) (k := 35) ex1070 hTH1069 ga0 rg_112 rfl
        have cem1081 := i_cl (x := x1049) (by omega)
        have ce_mn := i_cl (x := mn) (by omega)
        have b1092 : ∀ j : Nat, j < 3000 + mn.toNatClampNeg → fI H1069 oq j = fI s.heap oq j ∧ fI H1069 aq j = fI s.heap aq j := fun j hj => ⟨(m1080 j (by omega)).trans (b1065 j hj).1, (m1081 j (by omega)).trans (b1065 j hj).2⟩
        have ce_mn := i_cl (x := mn) (by omega)
        have ce_x1018 := i_cl (x := x1018) (by omega)
        have b1093 : WF (fun k => fI H1069 oq k) (fun k => fI H1069 aq k) (3000 + mn.toNatClampNeg) (3000 + x1018.toNatClampNeg) 0 1 := WF.keep b1066 (fun j hj => m1080 j (by omega)) (fun j hj => m1081 j (by omega))
        have ce_x1018 := i_cl (x := x1018) (by omega)
        have b1094 : WF (fun k => fI H1069 oq k) (fun k => fI H1069 aq k) (3000 + x1018.toNatClampNeg) (3000 + x1049.toNatClampNeg) 0 1 := WF.keep wu0 (fun j hj => m1080 j (by omega)) (fun j hj => m1081 j (by omega))
        refine W.eq (g2 := F0 m 94 ls1020 []) rfl ?_
        have ho := congrArg Int32.toInt m1078
        have cb_mn := i_cl (x := mn) (by omega)
        have cb_x1018 := i_cl (x := x1018) (by omega)
        have cb_x1049 := i_cl (x := x1049) (by omega)
        have wn : WF (fun k => fI H1069 oq k) (fun k => fI H1069 aq k) (3000 + mn.toNatClampNeg) (3000 + x1049.toNatClampNeg + 1) 0 1 := WF.bin b1093 b1094 (by omega) (by omega) (by show 2 ≤ (fI _ oq _).toInt ∧ (fI _ oq _).toInt ≤ 11 ∧ (fI _ oq _).toInt ≠ 9; omega) (Or.inl (by show (fI _ oq _).toInt ≠ 5; omega))
        refine lv_iconst (v := 0) hx hb dX10_readCompared_94 (by decide) ?_
        have cr_mn := i_cl (x := mn) (by omega)
        have cr_x1049 := i_cl (x := x1049) (by omega)
        have cr_x1070 := i_cl (x := x1070) (by omega)
        exact x_iret C hQ dX10_readCompared_95 hSH1069 (by decide) (by decide) (⟨0, x1045, x1046, x1047, x1048, x1070, rfl, by decide, m1087, m1088, m1089, m1090, ex1070, by omega, m1071, m1072, g1073, g1074, g1075, g1076, mf1091, b1092, Or.inr (WF.cast wn (by omega) (by omega)), hTH1069⟩)
      · have k1068 := i_eq c1067
        refine lv_iconst (v := (-1)) hx hb dX10_readCompared_86 (by decide) ?_
        exact x_iret C hQ dX10_readCompared_87 hSH1043 (by decide) (by decide) (⟨(-1), x1045, x1046, x1047, x1048, x1049, rfl, by decide, ex1045, ex1046, ex1047, ex1048, ex1049, by omega, m1050, m1051, g1052, g1053, g1054, g1055, mf1064, b1065, Or.inl (by omega), hTH1043⟩)
    refine lv_aload_n hx hb dX10_readCompared_43 rfl (lv_at hl1003 0 rfl) ?_
    refine x_gi C hTH1001 (ci := 10) (k := 22) rfl inX10 (by decide) wF_X10_205 ga0 rg_112 rfl dX10_readCompared_44 (fun x1095 ex1095 bx1095 => ?_)
    have ux1095 : x1007 = x1095 := (ex1007).trans ex1095.symm
    subst ux1095
    refine lv_bipush (v := 60) hx hb dX10_readCompared_47 (by decide) ?_
    refine lv_icmp_ne (tgt := 57) hx hb dX10_readCompared_49 (by decide) (fun c1096 => ?_) (fun c1096 => ?_)
    · have k1097 := i_ne c1096
      refine lv_aload_n hx hb dX10_readCompared_57 rfl (lv_at hl1003 0 rfl) ?_
      refine x_gi C hTH1001 (ci := 10) (k := 22) rfl inX10 (by decide) wF_X10_205 ga0 rg_112 rfl dX10_readCompared_58 (fun x1098 ex1098 bx1098 => ?_)
      have ux1098 : x1007 = x1098 := (ex1007).trans ex1098.symm
      subst ux1098
      refine lv_bipush (v := 61) hx hb dX10_readCompared_61 (by decide) ?_
      refine lv_icmp_ne (tgt := 71) hx hb dX10_readCompared_63 (by decide) (fun c1099 => ?_) (fun c1099 => ?_)
      · have k1100 := i_ne c1099
        refine lv_bipush (v := 8) hx hb dX10_readCompared_71 (by decide) ?_
        have cl_mn := i_cl (x := mn) (by omega)
        have cl_mn := i_cl (x := mn) (by omega)
        have cl_x1008 := i_cl (x := x1008) (by omega)
        exact J73 ls1002 H1001 locsH1001 (8) (x1004) (x1005) (x1006) (x1007) (x1008) (lv_sub hl1003 [0] rfl) hTH1001 hSH1001 (by decide) (by have := i_rng x1004; omega) (by have := i_rng x1005; omega) (by have := i_rng x1008; omega) ex1004 ex1005 ex1006 ex1007 ex1008 cy1009_0 cy1009_1 cy1009_2 cy1009_3 by1009_pf (WF.cast by1009_wf (by omega) (by omega)) mfy1009 gy1009_CG gy1009_TU gy1009_WD gy1009_IM (by omega)
      · have k1100 := i_eq c1099
        refine lv_bipush (v := 7) hx hb dX10_readCompared_66 (by decide) ?_
        refine lv_goto (tgt := 73) hx hb dX10_readCompared_68 (by decide) ?_
        have cl_mn := i_cl (x := mn) (by omega)
        have cl_mn := i_cl (x := mn) (by omega)
        have cl_x1008 := i_cl (x := x1008) (by omega)
        exact J73 ls1002 H1001 locsH1001 (7) (x1004) (x1005) (x1006) (x1007) (x1008) (lv_sub hl1003 [0] rfl) hTH1001 hSH1001 (by decide) (by have := i_rng x1004; omega) (by have := i_rng x1005; omega) (by have := i_rng x1008; omega) ex1004 ex1005 ex1006 ex1007 ex1008 cy1009_0 cy1009_1 cy1009_2 cy1009_3 by1009_pf (WF.cast by1009_wf (by omega) (by omega)) mfy1009 gy1009_CG gy1009_TU gy1009_WD gy1009_IM (by omega)
    · have k1097 := i_eq c1096
      refine lv_bipush (v := 6) hx hb dX10_readCompared_52 (by decide) ?_
      refine lv_goto (tgt := 73) hx hb dX10_readCompared_54 (by decide) ?_
      have cl_mn := i_cl (x := mn) (by omega)
      have cl_mn := i_cl (x := mn) (by omega)
      have cl_x1008 := i_cl (x := x1008) (by omega)
      exact J73 ls1002 H1001 locsH1001 (6) (x1004) (x1005) (x1006) (x1007) (x1008) (lv_sub hl1003 [0] rfl) hTH1001 hSH1001 (by decide) (by have := i_rng x1004; omega) (by have := i_rng x1005; omega) (by have := i_rng x1008; omega) ex1004 ex1005 ex1006 ex1007 ex1008 cy1009_0 cy1009_1 cy1009_2 cy1009_3 by1009_pf (WF.cast by1009_wf (by omega) (by omega)) mfy1009 gy1009_CG gy1009_TU gy1009_WD gy1009_IM (by omega)
  have pf00 : ∀ j : Nat, j < 3000 + mn.toNatClampNeg → fI s.heap oq j = fI s.heap oq j ∧ fI s.heap aq j = fI s.heap aq j := fun _ _ => ⟨rfl, rfl⟩
  have hmn := i_cl (x := mn) (by omega)
  refine lv_aload_n hx hb dX10_readCompared_0 rfl (lv_at hl 0 rfl) ?_
  refine x_V (As := []) (rest := []) C (a_X10_readSum l K G s.heap (sp) (fr) (tk) (vl) (mn) (tp) (jb) hT ga0 goq eoq gaq eaq esp efr etk evl emn etp ejb hg_CG hg_TU hg_WD hg_IM (by omega) (by omega)) yo_X10_readSum wM_X10_255 ⟨⟨by decide, by decide⟩, by decide, by decide⟩ (x_rv C hT (ci := 10) rfl ga0 rg_112) rfl hl.1 rfl (Nat.le_of_ble_eq_true rfl) dX10_readCompared_1 hS (AE_sub (fun _ _ => rfl) (by decide) hS.1) (fun vH1101 H1101 locsH1101 pH1101 zH1101 kH1101 hSH1101 => ?_)
  obtain ⟨x1102, x1103, x1104, x1105, x1106, x1107, hvH1101, bx1102, ex1103, ex1104, ex1105, ex1106, ex1107, hrH1101, m1108, m1109, g1110, g1111, g1112, g1113, mf1114, m1115, m1116, hTH1101⟩ := pH1101
  subst hvH1101
  have m1117 := (eoq).trans (MF.r mf1114 (k := 32) (by decide) (by decide)).symm
  have m1118 := (eaq).trans (MF.r mf1114 (k := 33) (by decide) (by decide)).symm
  have m1119 := (etp).trans (MF.i mf1114 (k := 18) (by decide) (by decide)).symm
  have m1120 := (ejb).trans (MF.i mf1114 (k := 34) (by decide) (by decide)).symm
  have mf1121 : MF K s.heap H1101 a0 [19, 20, 21, 22, 35, 39, 40] := MF.trans mf0 mf1114 (by decide)
  have bx1103 := ty_fi (x := x1103) (k := 19) ex1103 hTH1101 ga0 rg_112 rfl
  have bx1104 := ty_fi (x := x1104) (k := 20) ex1104 hTH1101 ga0 rg_112 rfl
  have bx1105 := ty_fi (x := x1105) (k := 21) ex1105 hTH1101 ga0 rg_112 rfl
  have bx1106 := ty_fi (x := x1106) (k := 22) ex1106 hTH1101 ga0 rg_112 rfl
  have bx1107 := ty_fi (x := x1107) (k := 35) ex1107 hTH1101 ga0 rg_112 rfl
  have csm1115 := i_cl (x := mn) (by omega)
  have b1122 : ∀ j : Nat, j < 3000 + mn.toNatClampNeg → fI H1101 oq j = fI s.heap oq j ∧ fI H1101 aq j = fI s.heap aq j := fun j hj => ⟨(m1115 j (by omega)).1.trans (pf00 j hj).1, (m1115 j (by omega)).2.trans (pf00 j hj).2⟩
  refine W.eq (g2 := F0 m 4 ls [.int x1102]) rfl ?_
  refine lv_iconst (v := (-1)) hx hb dX10_readCompared_4 (by decide) ?_
  refine lv_icmp_ne (tgt := 10) hx hb dX10_readCompared_5 (by decide) (fun c1123 => ?_) (fun c1123 => ?_)
  · have k1124 := i_ne c1123
    have wf0 : WF (fun k => fI H1101 oq k) (fun k => fI H1101 aq k) (3000 + mn.toNatClampNeg) (3000 + x1107.toNatClampNeg) 0 1 := by
      rcases m1116 with h | h
      · exfalso; omega
      · exact h
    refine lv_aload_n hx hb dX10_readCompared_10 rfl (lv_at hl 0 rfl) ?_
    refine lv_bipush (v := 60) hx hb dX10_readCompared_11 (by decide) ?_
    refine x_V (As := [.int 60]) (rest := []) C (a_X10_isSign l K G H1101 (60) (x1105) (x1106) hTH1101 ga0 ex1105 ex1106) yo_X10_isSign wM_X10_249 ⟨⟨by decide, by decide⟩, by decide, by decide⟩ (x_rv C hTH1101 (ci := 10) rfl ga0 rg_112) rfl hl.1 rfl (Nat.le_of_ble_eq_true rfl) dX10_readCompared_13 hSH1101 (AE_sub (fun _ _ => rfl) (by decide) hSH1101.1) (fun vH1125 H1125 locsH1125 pH1125 zH1125 kH1125 hSH1125 => ?_)
    obtain ⟨x1126, hvH1125, bx1126, hrH1125, hTH1125⟩ := pH1125
    subst hvH1125
    have mf1127 : MF K s.heap H1125 a0 [19, 20, 21, 22, 35, 39, 40] := MF.eff (x_lt hTH1101 kH1125 ga0 (by decide)) mf1121
    have b1128 : ∀ j : Nat, j < 3000 + mn.toNatClampNeg → fI H1125 oq j = fI s.heap oq j ∧ fI H1125 aq j = fI s.heap aq j := fun j hj => ⟨(fI_kept (x_lt hTH1101 kH1125 goq (by decide))).trans (b1122 j hj).1, (fI_kept (x_lt hTH1101 kH1125 gaq (by decide))).trans (b1122 j hj).2⟩
    have b1129 : WF (fun k => fI H1125 oq k) (fun k => fI H1125 aq k) (3000 + mn.toNatClampNeg) (3000 + x1107.toNatClampNeg) 0 1 := WF.congr (fun j => fI_kept (x_lt hTH1101 kH1125 goq (by decide))) (fun j => fI_kept (x_lt hTH1101 kH1125 gaq (by decide))) wf0
    have g1130 : CG (avw K H1125 a0) := CG.congr (fun k hk j => av_eff hTH1101 kH1125 ga0 (by decide) (CG_eff [] (by decide) k hk)) g1110
    have g1131 : TU (avw K H1125 a0) (svw K H1125 a0) := TU.congr (fun k hk j => av_eff hTH1101 kH1125 ga0 (by decide) (TU_eff [] (by decide) k hk)) (fun k hk => sv_eff hTH1101 kH1125 ga0 (by decide)) g1111
    have g1132 : WD (avw K H1125 a0) := WD.congr (fun k hk j => av_eff hTH1101 kH1125 ga0 (by decide) (WD_eff [] (by decide) k hk)) g1112
    have g1133 : IM (avw K H1125 a0) := IM.congr (fun k hk j => av_eff hTH1101 kH1125 ga0 (by decide) (IM_eff [] (by decide) k hk)) g1113
    have m1134 := (m1108).trans (fR_kept (x_lt hTH1101 kH1125 ga0 (by decide))).symm
    have m1135 := (m1109).trans (fR_kept (x_lt hTH1101 kH1125 ga0 (by decide))).symm
    have m1136 := (m1119).trans (fI_kept (x_lt hTH1101 kH1125 ga0 (by decide))).symm
    have m1137 := (m1120).trans (fI_kept (x_lt hTH1101 kH1125 ga0 (by decide))).symm
    have m1138 := (ex1103).trans (fI_kept (x_lt hTH1101 kH1125 ga0 (by decide))).symm
    have m1139 := (ex1104).trans (fI_kept (x_lt hTH1101 kH1125 ga0 (by decide))).symm
    have m1140 := (ex1105).trans (fI_kept (x_lt hTH1101 kH1125 ga0 (by decide))).symm
    have m1141 := (ex1106).trans (fI_kept (x_lt hTH1101 kH1125 ga0 (by decide))).symm
    have m1142 := (ex1107).trans (fI_kept (x_lt hTH1101 kH1125 ga0 (by decide))).symm
    refine W.eq (g2 := F0 m 16 ls [.int x1126]) rfl ?_
    refine lv_if_ne (tgt := 43) hx hb dX10_readCompared_16 (by decide) (fun c1143 => ?_) (fun c1143 => ?_)
    · have k1144 := i_ne c1143
      have cl_mn := i_cl (x := mn) (by omega)
      have cl_mn := i_cl (x := mn) (by omega)
      have cl_x1107 := i_cl (x := x1107) (by omega)
      exact J43 ls H1125 locsH1125 (x1103) (x1104) (x1105) (x1106) (x1107) (lv_sub hl [0] rfl) hTH1125 hSH1125 (by have := i_rng x1103; omega) (by have := i_rng x1104; omega) (by have := i_rng x1107; omega) m1138 m1139 m1140 m1141 m1142 m1134 m1135 m1136 m1137 b1128 (WF.cast b1129 (by omega) (by omega)) mf1127 g1130 g1131 g1132 g1133 (by omega)
    · have k1144 := i_eq c1143
      refine lv_aload_n hx hb dX10_readCompared_19 rfl (lv_at hl 0 rfl) ?_
      refine lv_bipush (v := 61) hx hb dX10_readCompared_20 (by decide) ?_
      refine x_V (As := [.int 61]) (rest := []) C (a_X10_isSign l K G H1125 (61) (x1105) (x1106) hTH1125 ga0 m1140 m1141) yo_X10_isSign wM_X10_249 ⟨⟨by decide, by decide⟩, by decide, by decide⟩ (x_rv C hTH1125 (ci := 10) rfl ga0 rg_112) rfl hl.1 rfl (Nat.le_of_ble_eq_true rfl) dX10_readCompared_22 hSH1125 (AE_sub (fun _ _ => rfl) (by decide) hSH1125.1) (fun vH1145 H1145 locsH1145 pH1145 zH1145 kH1145 hSH1145 => ?_)
      obtain ⟨x1146, hvH1145, bx1146, hrH1145, hTH1145⟩ := pH1145
      subst hvH1145
      have mf1147 : MF K s.heap H1145 a0 [19, 20, 21, 22, 35, 39, 40] := MF.eff (x_lt hTH1125 kH1145 ga0 (by decide)) mf1127
      have b1148 : ∀ j : Nat, j < 3000 + mn.toNatClampNeg → fI H1145 oq j = fI s.heap oq j ∧ fI H1145 aq j = fI s.heap aq j := fun j hj => ⟨(fI_kept (x_lt hTH1125 kH1145 goq (by decide))).trans (b1128 j hj).1, (fI_kept (x_lt hTH1125 kH1145 gaq (by decide))).trans (b1128 j hj).2⟩
      have b1149 : WF (fun k => fI H1145 oq k) (fun k => fI H1145 aq k) (3000 + mn.toNatClampNeg) (3000 + x1107.toNatClampNeg) 0 1 := WF.congr (fun j => fI_kept (x_lt hTH1125 kH1145 goq (by decide))) (fun j => fI_kept (x_lt hTH1125 kH1145 gaq (by decide))) b1129
      have g1150 : CG (avw K H1145 a0) := CG.congr (fun k hk j => av_eff hTH1125 kH1145 ga0 (by decide) (CG_eff [] (by decide) k hk)) g1130
      have g1151 : TU (avw K H1145 a0) (svw K H1145 a0) := TU.congr (fun k hk j => av_eff hTH1125 kH1145 ga0 (by decide) (TU_eff [] (by decide) k hk)) (fun k hk => sv_eff hTH1125 kH1145 ga0 (by decide)) g1131
      have g1152 : WD (avw K H1145 a0) := WD.congr (fun k hk j => av_eff hTH1125 kH1145 ga0 (by decide) (WD_eff [] (by decide) k hk)) g1132
      have g1153 : IM (avw K H1145 a0) := IM.congr (fun k hk j => av_eff hTH1125 kH1145 ga0 (by decide) (IM_eff [] (by decide) k hk)) g1133
      have m1154 := (m1134).trans (fR_kept (x_lt hTH1125 kH1145 ga0 (by decide))).symm
      have m1155 := (m1135).trans (fR_kept (x_lt hTH1125 kH1145 ga0 (by decide))).symm
      have m1156 := (m1136).trans (fI_kept (x_lt hTH1125 kH1145 ga0 (by decide))).symm
      have m1157 := (m1137).trans (fI_kept (x_lt hTH1125 kH1145 ga0 (by decide))).symm
      have m1158 := (m1138).trans (fI_kept (x_lt hTH1125 kH1145 ga0 (by decide))).symm
      have m1159 := (m1139).trans (fI_kept (x_lt hTH1125 kH1145 ga0 (by decide))).symm
      have m1160 := (m1140).trans (fI_kept (x_lt hTH1125 kH1145 ga0 (by decide))).symm
      have m1161 := (m1141).trans (fI_kept (x_lt hTH1125 kH1145 ga0 (by decide))).symm
      have m1162 := (m1142).trans (fI_kept (x_lt hTH1125 kH1145 ga0 (by decide))).symm
      refine W.eq (g2 := F0 m 25 ls [.int x1146]) rfl ?_
      refine lv_if_ne (tgt := 43) hx hb dX10_readCompared_25 (by decide) (fun c1163 => ?_) (fun c1163 => ?_)
      · have k1164 := i_ne c1163
        have cl_mn := i_cl (x := mn) (by omega)
        have cl_mn := i_cl (x := mn) (by omega)
        have cl_x1107 := i_cl (x := x1107) (by omega)
        exact J43 ls H1145 locsH1145 (x1103) (x1104) (x1105) (x1106) (x1107) (lv_sub hl [0] rfl) hTH1145 hSH1145 (by have := i_rng x1103; omega) (by have := i_rng x1104; omega) (by have := i_rng x1107; omega) m1158 m1159 m1160 m1161 m1162 m1154 m1155 m1156 m1157 b1148 (WF.cast b1149 (by omega) (by omega)) mf1147 g1150 g1151 g1152 g1153 (by omega)
      · have k1164 := i_eq c1163
        refine lv_aload_n hx hb dX10_readCompared_28 rfl (lv_at hl 0 rfl) ?_
        refine lv_bipush (v := 62) hx hb dX10_readCompared_29 (by decide) ?_
        refine x_V (As := [.int 62]) (rest := []) C (a_X10_isSign l K G H1145 (62) (x1105) (x1106) hTH1145 ga0 m1160 m1161) yo_X10_isSign wM_X10_249 ⟨⟨by decide, by decide⟩, by decide, by decide⟩ (x_rv C hTH1145 (ci := 10) rfl ga0 rg_112) rfl hl.1 rfl (Nat.le_of_ble_eq_true rfl) dX10_readCompared_31 hSH1145 (AE_sub (fun _ _ => rfl) (by decide) hSH1145.1) (fun vH1165 H1165 locsH1165 pH1165 zH1165 kH1165 hSH1165 => ?_)
        obtain ⟨x1166, hvH1165, bx1166, hrH1165, hTH1165⟩ := pH1165
        subst hvH1165
        have mf1167 : MF K s.heap H1165 a0 [19, 20, 21, 22, 35, 39, 40] := MF.eff (x_lt hTH1145 kH1165 ga0 (by decide)) mf1147
        have b1168 : ∀ j : Nat, j < 3000 + mn.toNatClampNeg → fI H1165 oq j = fI s.heap oq j ∧ fI H1165 aq j = fI s.heap aq j := fun j hj => ⟨(fI_kept (x_lt hTH1145 kH1165 goq (by decide))).trans (b1148 j hj).1, (fI_kept (x_lt hTH1145 kH1165 gaq (by decide))).trans (b1148 j hj).2⟩
        have b1169 : WF (fun k => fI H1165 oq k) (fun k => fI H1165 aq k) (3000 + mn.toNatClampNeg) (3000 + x1107.toNatClampNeg) 0 1 := WF.congr (fun j => fI_kept (x_lt hTH1145 kH1165 goq (by decide))) (fun j => fI_kept (x_lt hTH1145 kH1165 gaq (by decide))) b1149
        have g1170 : CG (avw K H1165 a0) := CG.congr (fun k hk j => av_eff hTH1145 kH1165 ga0 (by decide) (CG_eff [] (by decide) k hk)) g1150
        have g1171 : TU (avw K H1165 a0) (svw K H1165 a0) := TU.congr (fun k hk j => av_eff hTH1145 kH1165 ga0 (by decide) (TU_eff [] (by decide) k hk)) (fun k hk => sv_eff hTH1145 kH1165 ga0 (by decide)) g1151
        have g1172 : WD (avw K H1165 a0) := WD.congr (fun k hk j => av_eff hTH1145 kH1165 ga0 (by decide) (WD_eff [] (by decide) k hk)) g1152
        have g1173 : IM (avw K H1165 a0) := IM.congr (fun k hk j => av_eff hTH1145 kH1165 ga0 (by decide) (IM_eff [] (by decide) k hk)) g1153
        have m1174 := (m1154).trans (fR_kept (x_lt hTH1145 kH1165 ga0 (by decide))).symm
        have m1175 := (m1155).trans (fR_kept (x_lt hTH1145 kH1165 ga0 (by decide))).symm
        have m1176 := (m1156).trans (fI_kept (x_lt hTH1145 kH1165 ga0 (by decide))).symm
        have m1177 := (m1157).trans (fI_kept (x_lt hTH1145 kH1165 ga0 (by decide))).symm
        have m1178 := (m1158).trans (fI_kept (x_lt hTH1145 kH1165 ga0 (by decide))).symm
        have m1179 := (m1159).trans (fI_kept (x_lt hTH1145 kH1165 ga0 (by decide))).symm
        have m1180 := (m1160).trans (fI_kept (x_lt hTH1145 kH1165 ga0 (by decide))).symm
        have m1181 := (m1161).trans (fI_kept (x_lt hTH1145 kH1165 ga0 (by decide))).symm
        have m1182 := (m1162).trans (fI_kept (x_lt hTH1145 kH1165 ga0 (by decide))).symm
        refine W.eq (g2 := F0 m 34 ls [.int x1166]) rfl ?_
        refine lv_if_ne (tgt := 43) hx hb dX10_readCompared_34 (by decide) (fun c1183 => ?_) (fun c1183 => ?_)
        · have k1184 := i_ne c1183
          have cl_mn := i_cl (x := mn) (by omega)
          have cl_mn := i_cl (x := mn) (by omega)
          have cl_x1107 := i_cl (x := x1107) (by omega)
          exact J43 ls H1165 locsH1165 (x1103) (x1104) (x1105) (x1106) (x1107) (lv_sub hl [0] rfl) hTH1165 hSH1165 (by have := i_rng x1103; omega) (by have := i_rng x1104; omega) (by have := i_rng x1107; omega) m1178 m1179 m1180 m1181 m1182 m1174 m1175 m1176 m1177 b1168 (WF.cast b1169 (by omega) (by omega)) mf1167 g1170 g1171 g1172 g1173 (by omega)
        · have k1184 := i_eq c1183
          refine lv_aload_n hx hb dX10_readCompared_37 rfl (lv_at hl 0 rfl) ?_
          refine lv_iconst (v := 1) hx hb dX10_readCompared_38 (by decide) ?_
          refine x_V (As := [.int 1]) (rest := []) C (a_X10_fails l K G H1165 (1) hTH1165 ga0 g1170 g1171 g1172 g1173) yo_X10_fails wM_X10_235 ⟨⟨by decide, by decide⟩, by decide, by decide⟩ (x_rv C hTH1165 (ci := 10) rfl ga0 rg_112) rfl hl.1 rfl (Nat.le_of_ble_eq_true rfl) dX10_readCompared_39 hSH1165 (AE_sub (fun _ _ => rfl) (by decide) hSH1165.1) (fun vH1185 H1185 locsH1185 pH1185 zH1185 kH1185 hSH1185 => ?_)
          obtain ⟨x1186, hvH1185, bx1186, g1187, g1188, g1189, g1190, mf1191, hTH1185⟩ := pH1185
          subst hvH1185
          have b1192 : ∀ j : Nat, j < 3000 + mn.toNatClampNeg → fI H1185 oq j = fI s.heap oq j ∧ fI H1185 aq j = fI s.heap aq j := fun j hj => ⟨(fI_kept (x_lt hTH1165 kH1185 goq (by decide))).trans (b1168 j hj).1, (fI_kept (x_lt hTH1165 kH1185 gaq (by decide))).trans (b1168 j hj).2⟩
          have b1193 : WF (fun k => fI H1185 oq k) (fun k => fI H1185 aq k) (3000 + mn.toNatClampNeg) (3000 + x1107.toNatClampNeg) 0 1 := WF.congr (fun j => fI_kept (x_lt hTH1165 kH1185 goq (by decide))) (fun j => fI_kept (x_lt hTH1165 kH1185 gaq (by decide))) b1169
          have m1194 := (m1174).trans (MF.r mf1191 (k := 32) (by decide) (by decide)).symm
          have m1195 := (m1175).trans (MF.r mf1191 (k := 33) (by decide) (by decide)).symm
          have m1196 := (m1176).trans (MF.i mf1191 (k := 18) (by decide) (by decide)).symm
          have m1197 := (m1177).trans (MF.i mf1191 (k := 34) (by decide) (by decide)).symm
          have m1198 := (m1178).trans (MF.i mf1191 (k := 19) (by decide) (by decide)).symm
          have m1199 := (m1179).trans (MF.i mf1191 (k := 20) (by decide) (by decide)).symm
          have m1200 := (m1180).trans (MF.i mf1191 (k := 21) (by decide) (by decide)).symm
          have m1201 := (m1181).trans (MF.i mf1191 (k := 22) (by decide) (by decide)).symm
          have m1202 := (m1182).trans (MF.i mf1191 (k := 35) (by decide) (by decide)).symm
          have mf1203 : MF K s.heap H1185 a0 [19, 20, 21, 22, 35, 39, 40] := MF.trans mf1167 mf1191 (by decide)
          refine W.eq (g2 := F0 m 42 ls [.int x1186]) rfl ?_
          exact x_iret C hQ dX10_readCompared_42 hSH1185 (by decide) (by decide) (⟨x1186, x1103, x1104, x1105, x1106, x1107, rfl, by omega, m1198, m1199, m1200, m1201, m1202, by omega, m1194, m1195, g1187, g1188, g1189, g1190, mf1203, b1192, Or.inl (by omega), hTH1185⟩)
  · have k1124 := i_eq c1123
    refine lv_iconst (v := (-1)) hx hb dX10_readCompared_8 (by decide) ?_
    exact x_iret C hQ dX10_readCompared_9 hSH1101 (by decide) (by decide) (⟨(-1), x1103, x1104, x1105, x1106, x1107, rfl, by decide, ex1103, ex1104, ex1105, ex1106, ex1107, by omega, m1108, m1109, g1110, g1111, g1112, g1113, mf1121, b1122, Or.inl (by omega), hTH1101⟩)
