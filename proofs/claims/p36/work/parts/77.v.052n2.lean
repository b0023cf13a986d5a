set_option maxHeartbeats 4000000 in
set_option maxRecDepth 100000 in
theorem a_X10_readSum_g (l : Launch) (K : KE) (G : Nat → Option Nat) (H : Heap) {a0 : Nat} {oq : Nat} {aq : Nat} {tq : Nat} (sp : Int32) (fr : Int32) (tk : Int32) (vl : Int32) (mn : Int32) (tp : Int32) (jb : Int32) (ci : Nat) (bt : Nat → Int) (hT : TY K G H) (ga0 : G a0 = some 112) (goq : G oq = some 136) (eoq : @Eq Ad oq (fR H a0 (K.1.2 10 32))) (gaq : G aq = some 137) (eaq : @Eq Ad aq (fR H a0 (K.1.2 10 33))) (gtq : G tq = some 126) (etq : @Eq Ad tq (fR H a0 (K.1.2 10 17))) (esp : sp = fI H a0 (K.1.2 10 19)) (efr : fr = fI H a0 (K.1.2 10 20)) (etk : tk = fI H a0 (K.1.2 10 21)) (evl : vl = fI H a0 (K.1.2 10 22)) (emn : mn = fI H a0 (K.1.2 10 35)) (etp : tp = fI H a0 (K.1.2 10 18)) (ejb : jb = fI H a0 (K.1.2 10 34)) (hg_CG : CG (avw K H a0)) (hg_TU : TU (avw K H a0) (svw K H a0)) (hg_WD : WD (avw K H a0)) (hg_IM : IM (avw K H a0)) (hp0 : (sp.toInt ≤ tp.toInt ∧ fr.toInt ≤ sp.toInt ∧ (tk.toInt = 0 ∨ fr.toInt < sp.toInt) ∧ (tk.toInt ≠ 2 ∨ (0 ≤ vl.toInt ∧ vl.toInt ≤ 23)))) (hp1 : mn.toInt ≤ fr.toInt) (hy0 : CU bt tp.toNatClampNeg ci fr sp tk vl) (hy1 : ∀ j : Nat, j < tp.toNatClampNeg → 0 ≤ bt j) (hv_bt : ∀ j : Nat, bt j = (fI H tq j).toInt) : MX l K yX10_readSum cX10_readSum 2 (some .int) 5 107 0 0 [.ref a0] H (AE G [112, 136, 137] H.size) (fun v H1 => ∃ (r : Int32) (t0 : Int32) (t1 : Int32) (t2 : Int32) (t3 : Int32) (t4 : Int32), v = some (.int r) ∧ ((-1) ≤ r.toInt ∧ r.toInt ≤ 0) ∧ t0 = fI H1 a0 (K.1.2 10 19) ∧ t1 = fI H1 a0 (K.1.2 10 20) ∧ t2 = fI H1 a0 (K.1.2 10 21) ∧ t3 = fI H1 a0 (K.1.2 10 22) ∧ t4 = fI H1 a0 (K.1.2 10 35) ∧ (r.toInt = -1 ∨ (r.toInt = 0 ∧ t0.toInt ≤ tp.toInt ∧ t1.toInt ≤ t0.toInt ∧ (t2.toInt = 0 ∨ t1.toInt < t0.toInt) ∧ (t2.toInt ≠ 2 ∨ (0 ≤ t3.toInt ∧ t3.toInt ≤ 23)) ∧ t4.toInt + fr.toInt ≤ mn.toInt + t1.toInt ∧ mn.toInt < t4.toInt ∧ fr.toInt < t1.toInt)) ∧ @Eq Ad oq (fR H1 a0 (K.1.2 10 32)) ∧ @Eq Ad aq (fR H1 a0 (K.1.2 10 33)) ∧ @Eq Ad tq (fR H1 a0 (K.1.2 10 17)) ∧ (CG (avw K H1 a0)) ∧ (TU (avw K H1 a0) (svw K H1 a0)) ∧ (WD (avw K H1 a0)) ∧ (IM (avw K H1 a0)) ∧ MF K H H1 a0 [19, 20, 21, 22, 35, 39, 40] ∧ (∀ j : Nat, j < 3000 + mn.toNatClampNeg → fI H1 oq j = fI H oq j ∧ fI H1 aq j = fI H aq j) ∧ (r.toInt = -1 ∨ WF (fun k => fI H1 oq k) (fun k => fI H1 aq k) (3000 + mn.toNatClampNeg) (3000 + t4.toNatClampNeg) 0 1) ∧ (RC (lpI (tmI (kK bt tp.toNatClampNeg) (vV bt tp.toNatClampNeg) (1 - jb.toInt) 0) (cPM (kK bt tp.toNatClampNeg)) ci) r bt tp.toNatClampNeg t1 t0 t2 t3) ∧ (r.toInt = -1 ∨ RZ (1 - jb.toInt) (fun k => fI H1 oq k) (fun k => fI H1 aq k) (3000 + mn.toNatClampNeg) (3000 + t4.toNatClampNeg) ([smG (kK bt tp.toNatClampNeg) (vV bt tp.toNatClampNeg) (1 - jb.toInt) ci])) ∧ TY K G H1) := by
  refine MX.of (by decide +kernel) (Nat.le_of_ble_eq_true rfl) ?_
  intro p e s m below meth c ls Q C hH hl hQ
  subst hH
  have C : CX p K s m _ meth c RX10 cX10_readSum 2 (some .int) "readSum" := C
  obtain ⟨hx, hb, hml, hown, hts, hKT, hr, hlocks, hnm⟩ := id C
  have hl : lv_has ls 2 [(0, .ref a0)] := hl
  have hS : va_S (AE G [112, 136, 137] s.heap.size) s.heap s.heap [] := va_S.rf
  have n_m1 : ((-1) : Int32).toInt = -1 := rfl
  have n_0 : (0 : Int32).toInt = 0 := rfl
  have n_2 : (2 : Int32).toInt = 2 := rfl
  have n_3 : (3 : Int32).toInt = 3 := rfl
  have n_43 : (43 : Int32).toInt = 43 := rfl
  have n_45 : (45 : Int32).toInt = 45 := rfl
  have bsp := ty_fi (x := sp) (k := 19) esp hT ga0 rg_112 rfl
  have bfr := ty_fi (x := fr) (k := 20) efr hT ga0 rg_112 rfl
  have btk := ty_fi (x := tk) (k := 21) etk hT ga0 rg_112 rfl
  have bvl := ty_fi (x := vl) (k := 22) evl hT ga0 rg_112 rfl
  have bmn := ty_fi (x := mn) (k := 35) emn hT ga0 rg_112 rfl
  have btp := ty_fi (x := tp) (k := 18) etp hT ga0 rg_112 rfl
  have bjb := ty_fi (x := jb) (k := 34) ejb hT ga0 rg_112 rfl
  have hap : ∀ x y, x < 74 → y < 74 → x ≠ y → K.1.2 10 x ≠ K.1.2 10 y := x_apart hKT hts inX10 tyX10 tyX10_ok nmX10 rfl
  have mf0 : MF K s.heap s.heap a0 [19, 20, 21, 22, 35, 39, 40] := fun _ _ _ => rfl
  have f0_bt := hv_bt
  have J10 : ∀ (nf : Nat) (cj : Nat) (a_ : EF) (ls910 : Array Slot) (H909 : Heap) (locsH909 : List Loc) (x912 : Int32) (x913 : Int32) (x914 : Int32) (x915 : Int32) (x916 : Int32), lv_has ls910 2 [(0, .ref a0)] → TY K G H909 → va_S (AE G [112, 136, 137] s.heap.size) s.heap H909 locsH909 → (0 ≤ x912.toInt ∧ x912.toInt ≤ 500) → (0 ≤ x913.toInt ∧ x913.toInt ≤ 500) → (0 ≤ x916.toInt ∧ x916.toInt ≤ 500) → (x912 = fI H909 a0 (K.1.2 10 19)) → (x913 = fI H909 a0 (K.1.2 10 20)) → (x914 = fI H909 a0 (K.1.2 10 21)) → (x915 = fI H909 a0 (K.1.2 10 22)) → (x916 = fI H909 a0 (K.1.2 10 35)) → (@Eq Ad oq (fR H909 a0 (K.1.2 10 32))) → (@Eq Ad aq (fR H909 a0 (K.1.2 10 33))) → (@Eq Ad tq (fR H909 a0 (K.1.2 10 17))) → (tp = fI H909 a0 (K.1.2 10 18)) → (jb = fI H909 a0 (K.1.2 10 34)) → (∀ j : Nat, j < 3000 + mn.toNatClampNeg → fI H909 oq j = fI s.heap oq j ∧ fI H909 aq j = fI s.heap aq j) → (WF (fun k => fI H909 oq k) (fun k => fI H909 aq k) (3000 + mn.toNatClampNeg) (3000 + x916.toNatClampNeg) 0 1) → (RZ (1 - jb.toInt) (fun k => fI H909 oq k) (fun k => fI H909 aq k) (3000 + mn.toNatClampNeg) (3000 + x916.toNatClampNeg) ([a_])) → (MF K s.heap H909 a0 [19, 20, 21, 22, 35, 39, 40]) → (CG (avw K H909 a0)) → (TU (avw K H909 a0) (svw K H909 a0)) → (WD (avw K H909 a0)) → (IM (avw K H909 a0)) → (∀ j : Nat, bt j = (fI H909 tq j).toInt) → (500 - x913.toInt < (nf : Int)) → ((x912.toInt ≤ tp.toInt ∧ x913.toInt ≤ x912.toInt ∧ (x914.toInt = 0 ∨ x913.toInt < x912.toInt) ∧ (x914.toInt ≠ 2 ∨ (0 ≤ x915.toInt ∧ x915.toInt ≤ 23))) ∧ x916.toInt + fr.toInt ≤ mn.toInt + x913.toInt ∧ mn.toInt < x916.toInt ∧ fr.toInt < x913.toInt) → (CU bt tp.toNatClampNeg cj x913 x912 x914 x915) → (lpI (tmI (kK bt tp.toNatClampNeg) (vV bt tp.toNatClampNeg) (1 - jb.toInt) 0) (cPM (kK bt tp.toNatClampNeg)) ci = (if cPM (kK bt tp.toNatClampNeg) cj = true then lpI (tmI (kK bt tp.toNatClampNeg) (vV bt tp.toNatClampNeg) (1 - jb.toInt) 0) (cPM (kK bt tp.toNatClampNeg)) (cj + 1) else some cj)) → (smG (kK bt tp.toNatClampNeg) (vV bt tp.toNatClampNeg) (1 - jb.toInt) ci = (if cPM (kK bt tp.toNatClampNeg) cj = true then lpG (tmI (kK bt tp.toNatClampNeg) (vV bt tp.toNatClampNeg) (1 - jb.toInt) 0) (cPM (kK bt tp.toNatClampNeg)) (kK bt tp.toNatClampNeg) (tmG (kK bt tp.toNatClampNeg) (vV bt tp.toNatClampNeg) 0 zF) ((kK bt tp.toNatClampNeg) cj) a_ (cj + 1) else a_)) → W p l e ({ frames := 5, cells := 0, slots := 0, locals := 107 } : Room) s m (([.ref a0] : List Value).toArray) below meth c H909 locsH909 0 0 Q (F0 m 10 ls910 []) := by
    intro nf
    induction nf with
    | zero =>
      intro cj a_ ls910 H909 locsH909 x912 x913 x914 x915 x916 hl911 hTH909 hSH909 bx912 bx913 bx916 ex912 ex913 ex914 ex915 ex916 cy917_0 cy917_1 cy917_2 cy917_3 cy917_4 by917_pf by917_wf by917_rs mfy917 gy917_CG gy917_TU gy917_WD gy917_IM fy917_bt hm10 iv10 hcu10 hsp10 hsf10
      have rx914 := i_rng x914
      have rx915 := i_rng x915
      exfalso
      omega
    | succ nf ih10 =>
      intro cj a_ ls910 H909 locsH909 x912 x913 x914 x915 x916 hl911 hTH909 hSH909 bx912 bx913 bx916 ex912 ex913 ex914 ex915 ex916 cy917_0 cy917_1 cy917_2 cy917_3 cy917_4 by917_pf by917_wf by917_rs mfy917 gy917_CG gy917_TU gy917_WD gy917_IM fy917_bt hm10 iv10 hcu10 hsp10 hsf10
      have rx914 := i_rng x914
      have rx915 := i_rng x915
      have cn_x913 := i_cl (x := x913) bx913.1
      have cn_tp := i_cl (x := tp) (by omega)
      have cn_fr := i_cl (x := fr) (by omega)
      have J28 : ∀  (ls919 : Array Slot) (H918 : Heap) (locsH918 : List Loc) (x921 : Int32) (x922 : Int32) (x923 : Int32) (x924 : Int32) (x925 : Int32), lv_has ls919 2 [(0, .ref a0)] → TY K G H918 → va_S (AE G [112, 136, 137] s.heap.size) s.heap H918 locsH918 → (0 ≤ x921.toInt ∧ x921.toInt ≤ 500) → (0 ≤ x922.toInt ∧ x922.toInt ≤ 500) → (0 ≤ x925.toInt ∧ x925.toInt ≤ 500) → (x921 = fI H918 a0 (K.1.2 10 19)) → (x922 = fI H918 a0 (K.1.2 10 20)) → (x923 = fI H918 a0 (K.1.2 10 21)) → (x924 = fI H918 a0 (K.1.2 10 22)) → (x925 = fI H918 a0 (K.1.2 10 35)) → (@Eq Ad oq (fR H918 a0 (K.1.2 10 32))) → (@Eq Ad aq (fR H918 a0 (K.1.2 10 33))) → (@Eq Ad tq (fR H918 a0 (K.1.2 10 17))) → (tp = fI H918 a0 (K.1.2 10 18)) → (jb = fI H918 a0 (K.1.2 10 34)) → (∀ j : Nat, j < 3000 + mn.toNatClampNeg → fI H918 oq j = fI s.heap oq j ∧ fI H918 aq j = fI s.heap aq j) → (WF (fun k => fI H918 oq k) (fun k => fI H918 aq k) (3000 + mn.toNatClampNeg) (3000 + x925.toNatClampNeg) 0 1) → (RZ (1 - jb.toInt) (fun k => fI H918 oq k) (fun k => fI H918 aq k) (3000 + mn.toNatClampNeg) (3000 + x925.toNatClampNeg) ([a_])) → (MF K s.heap H918 a0 [19, 20, 21, 22, 35, 39, 40]) → (CG (avw K H918 a0)) → (TU (avw K H918 a0) (svw K H918 a0)) → (WD (avw K H918 a0)) → (IM (avw K H918 a0)) → (∀ j : Nat, bt j = (fI H918 tq j).toInt) → ((x921.toInt ≤ tp.toInt ∧ x922.toInt ≤ x921.toInt ∧ (x923.toInt = 0 ∨ x922.toInt < x921.toInt) ∧ (x923.toInt ≠ 2 ∨ (0 ≤ x924.toInt ∧ x924.toInt ≤ 23))) ∧ x925.toInt + fr.toInt ≤ mn.toInt + x922.toInt ∧ mn.toInt < x925.toInt ∧ fr.toInt < x922.toInt ∧ x923.toInt = 4 ∧ x922.toInt = x913.toInt) → (CU bt tp.toNatClampNeg cj x922 x921 x923 x924) → (cPM (kK bt tp.toNatClampNeg) cj = true) → W p l e ({ frames := 5, cells := 0, slots := 0, locals := 107 } : Room) s m (([.ref a0] : List Value).toArray) below meth c H918 locsH918 0 0 Q (F0 m 28 ls919 []) := by
        intro  ls919 H918 locsH918 x921 x922 x923 x924 x925 hl920 hTH918 hSH918 bx921 bx922 bx925 ex921 ex922 ex923 ex924 ex925 cy926_0 cy926_1 cy926_2 cy926_3 cy926_4 by926_pf by926_wf by926_rs mfy926 gy926_CG gy926_TU gy926_WD gy926_IM fy926_bt iv28 hcu28 hpm28
        have cn_x922 := i_cl (x := x922) bx922.1
        have J42 : ∀  (ls928 : Array Slot) (H927 : Heap) (locsH927 : List Loc) (x930 : Int32) (x931 : Int32) (x932 : Int32) (x933 : Int32) (x934 : Int32) (x935 : Int32), lv_has ls928 2 [(0, .ref a0)] → TY K G H927 → va_S (AE G [112, 136, 137] s.heap.size) s.heap H927 locsH927 → (2 ≤ x930.toInt ∧ x930.toInt ≤ 3) → (0 ≤ x931.toInt ∧ x931.toInt ≤ 500) → (0 ≤ x932.toInt ∧ x932.toInt ≤ 500) → (0 ≤ x935.toInt ∧ x935.toInt ≤ 500) → (x931 = fI H927 a0 (K.1.2 10 19)) → (x932 = fI H927 a0 (K.1.2 10 20)) → (x933 = fI H927 a0 (K.1.2 10 21)) → (x934 = fI H927 a0 (K.1.2 10 22)) → (x935 = fI H927 a0 (K.1.2 10 35)) → (@Eq Ad oq (fR H927 a0 (K.1.2 10 32))) → (@Eq Ad aq (fR H927 a0 (K.1.2 10 33))) → (@Eq Ad tq (fR H927 a0 (K.1.2 10 17))) → (tp = fI H927 a0 (K.1.2 10 18)) → (jb = fI H927 a0 (K.1.2 10 34)) → (∀ j : Nat, j < 3000 + mn.toNatClampNeg → fI H927 oq j = fI s.heap oq j ∧ fI H927 aq j = fI s.heap aq j) → (WF (fun k => fI H927 oq k) (fun k => fI H927 aq k) (3000 + mn.toNatClampNeg) (3000 + x935.toNatClampNeg) 0 1) → (RZ (1 - jb.toInt) (fun k => fI H927 oq k) (fun k => fI H927 aq k) (3000 + mn.toNatClampNeg) (3000 + x935.toNatClampNeg) ([a_])) → (MF K s.heap H927 a0 [19, 20, 21, 22, 35, 39, 40]) → (CG (avw K H927 a0)) → (TU (avw K H927 a0) (svw K H927 a0)) → (WD (avw K H927 a0)) → (IM (avw K H927 a0)) → (∀ j : Nat, bt j = (fI H927 tq j).toInt) → ((x931.toInt ≤ tp.toInt ∧ x932.toInt ≤ x931.toInt ∧ (x933.toInt = 0 ∨ x932.toInt < x931.toInt) ∧ (x933.toInt ≠ 2 ∨ (0 ≤ x934.toInt ∧ x934.toInt ≤ 23))) ∧ x935.toInt + fr.toInt ≤ mn.toInt + x932.toInt ∧ mn.toInt < x935.toInt ∧ fr.toInt < x932.toInt ∧ x933.toInt = 4 ∧ x932.toInt = x922.toInt) → (CU bt tp.toNatClampNeg cj x932 x931 x933 x934) → (HD ((x930.toInt = 2 ∧ kK bt tp.toNatClampNeg cj = 43) ∨ (x930.toInt = 3 ∧ kK bt tp.toNatClampNeg cj = 45))) → W p l e ({ frames := 5, cells := 0, slots := 0, locals := 107 } : Room) s m (([.ref a0] : List Value).toArray) below meth c H927 locsH927 0 0 Q (F0 m 42 ls928 [.int x930]) := by
          intro  ls928 H927 locsH927 x930 x931 x932 x933 x934 x935 hl929 hTH927 hSH927 bx930 bx931 bx932 bx935 ex931 ex932 ex933 ex934 ex935 cy936_0 cy936_1 cy936_2 cy936_3 cy936_4 by936_pf by936_wf by936_rs mfy936 gy936_CG gy936_TU gy936_WD gy936_IM fy936_bt iv42 hcu42 hwh42
          have cn_x932 := i_cl (x := x932) bx932.1
          refine lv_istore_n (lv' := [(1, .int x930), (0, .ref a0)]) hx hb dX10_readSum_42 rfl hl929 (by decide) rfl (fun ls937 hl938 => ?_)
          refine lv_aload_n hx hb dX10_readSum_43 rfl (lv_at hl938 1 rfl) ?_
          refine x_V (As := []) (rest := []) C (a_X10_reads_e l K G H927 (x931) (x932) (x933) (x934) (tp) bt hTH927 ga0 gtq cy936_2 ex931 ex932 ex933 ex934 cy936_3 gy936_CG gy936_TU gy936_WD gy936_IM (by omega) (hy1) fy936_bt) yo_X10_reads wM_X10_242 ⟨⟨by decide, by decide⟩, by decide, by decide⟩ (x_rv C hTH927 (ci := 10) rfl ga0 rg_112) rfl hl938.1 rfl (Nat.le_of_ble_eq_true rfl) dX10_readSum_44 hSH927 (AE_sub (fun _ _ => rfl) (by decide) hSH927.1) (fun vH939 H939 locsH939 pH939 zH939 kH939 hSH939 => ?_)
          obtain ⟨x940, x941, x942, x943, hvH939, ex940, ex941, ex942, ex943, hrH939, m944, g945, g946, g947, g948, mf949, m950, m951, m952, hTH939⟩ := pH939
          subst hvH939
          have b953 : ∀ j : Nat, j < 3000 + mn.toNatClampNeg → fI H939 oq j = fI s.heap oq j ∧ fI H939 aq j = fI s.heap aq j := fun j hj => ⟨(fI_kept (x_lt hTH927 kH939 goq (by decide))).trans (by936_pf j hj).1, (fI_kept (x_lt hTH927 kH939 gaq (by decide))).trans (by936_pf j hj).2⟩
          have b954 : WF (fun k => fI H939 oq k) (fun k => fI H939 aq k) (3000 + mn.toNatClampNeg) (3000 + x935.toNatClampNeg) 0 1 := WF.congr (fun j => fI_kept (x_lt hTH927 kH939 goq (by decide))) (fun j => fI_kept (x_lt hTH927 kH939 gaq (by decide))) by936_wf
          have b955 : RZ (1 - jb.toInt) (fun k => fI H939 oq k) (fun k => fI H939 aq k) (3000 + mn.toNatClampNeg) (3000 + x935.toNatClampNeg) ([a_]) := RZ.congr (fun j => fI_kept (x_lt hTH927 kH939 goq (by decide))) (fun j => fI_kept (x_lt hTH927 kH939 gaq (by decide))) by936_rs
          have f956 : ∀ j : Nat, bt j = (fI H939 tq j).toInt := fun j => (fy936_bt j).trans (congrArg Int32.toInt (fI_kept (x_lt hTH927 kH939 gtq (by decide))).symm)
          have m957 := (ex935).trans (MF.i mf949 (k := 35) (by decide) (by decide)).symm
          have m958 := (cy936_0).trans (MF.r mf949 (k := 32) (by decide) (by decide)).symm
          have m959 := (cy936_1).trans (MF.r mf949 (k := 33) (by decide) (by decide)).symm
          have m960 := (cy936_2).trans (MF.r mf949 (k := 17) (by decide) (by decide)).symm
          have m961 := (cy936_3).trans (MF.i mf949 (k := 18) (by decide) (by decide)).symm
          have m962 := (cy936_4).trans (MF.i mf949 (k := 34) (by decide) (by decide)).symm
          have mf963 : MF K s.heap H939 a0 [19, 20, 21, 22, 35, 39, 40] := MF.trans mfy936 mf949 (by decide)
          have bx940 := ty_fi (x := x940) (k := 19) ex940 hTH939 ga0 rg_112 rfl
          have bx941 := ty_fi (x := x941) (k := 20) ex941 hTH939 ga0 rg_112 rfl
          have bx942 := ty_fi (x := x942) (k := 21) ex942 hTH939 ga0 rg_112 rfl
          have bx943 := ty_fi (x := x943) (k := 22) ex943 hTH939 ga0 rg_112 rfl
          have cn_x941 := i_cl (x := x941) bx941.1
          have cu964 : CU bt tp.toNatClampNeg (cj + 1) x941 x940 x942 x943 := CU.next hcu42 m950 m951 m952 (by omega)
          refine W.eq (g2 := F0 m 47 ls937 []) rfl ?_
          refine lv_aload_n hx hb dX10_readSum_47 rfl (lv_at hl938 1 rfl) ?_
          refine x_V (As := []) (rest := []) C (a_X10_readProduct_g l K G H939 (x940) (x941) (x942) (x943) (x935) (tp) (jb) ((cj + 1)) bt hTH939 ga0 goq m958 gaq m959 gtq m944 ex940 ex941 ex942 ex943 m957 m961 m962 g945 g946 g947 g948 (by omega) (by omega) (cu964) (hy1) f956) yo_X10_readProduct wM_X10_252 ⟨⟨by decide, by decide⟩, by decide, by decide⟩ (x_rv C hTH939 (ci := 10) rfl ga0 rg_112) rfl hl938.1 rfl (Nat.le_of_ble_eq_true rfl) dX10_readSum_48 hSH939 (AE_sub (fun _ _ => rfl) (by decide) hSH939.1) (fun vH965 H965 locsH965 pH965 zH965 kH965 hSH965 => ?_)
          obtain ⟨x966, x967, x968, x969, x970, x971, hvH965, bx966, ex967, ex968, ex969, ex970, ex971, hrH965, m972, m973, m974, g975, g976, g977, g978, mf979, m980, m981, m982, m983, hTH965⟩ := pH965
          subst hvH965
          have f984 : ∀ j : Nat, bt j = (fI H965 tq j).toInt := fun j => (f956 j).trans (congrArg Int32.toInt (fI_kept (x_lt hTH939 kH965 gtq (by decide))).symm)
          have m985 := (m958).trans (MF.r mf979 (k := 32) (by decide) (by decide)).symm
          have m986 := (m959).trans (MF.r mf979 (k := 33) (by decide) (by decide)).symm
          have m987 := (m944).trans (MF.r mf979 (k := 17) (by decide) (by decide)).symm
          have m988 := (m961).trans (MF.i mf979 (k := 18) (by decide) (by decide)).symm
          have m989 := (m962).trans (MF.i mf979 (k := 34) (by decide) (by decide)).symm
          have mf990 : MF K s.heap H965 a0 [19, 20, 21, 22, 35, 39, 40] := MF.trans mf963 mf979 (by decide)
          have bx967 := ty_fi (x := x967) (k := 19) ex967 hTH965 ga0 rg_112 rfl
          have bx968 := ty_fi (x := x968) (k := 20) ex968 hTH965 ga0 rg_112 rfl
          have bx969 := ty_fi (x := x969) (k := 21) ex969 hTH965 ga0 rg_112 rfl
          have bx970 := ty_fi (x := x970) (k := 22) ex970 hTH965 ga0 rg_112 rfl
          have bx971 := ty_fi (x := x971) (k := 35) ex971 hTH965 ga0 rg_112 rfl
          have csm980 := i_cl (x := x935) (by omega)
          have cs_mn := i_cl (x := mn) (by omega)
          have b991 : ∀ j : Nat, j < 3000 + mn.toNatClampNeg → fI H965 oq j = fI s.heap oq j ∧ fI H965 aq j = fI s.heap aq j := fun j hj => ⟨(m980 j (by omega)).1.trans (b953 j hj).1, (m980 j (by omega)).2.trans (b953 j hj).2⟩
          have cs_mn := i_cl (x := mn) (by omega)
          have b992 : WF (fun k => fI H965 oq k) (fun k => fI H965 aq k) (3000 + mn.toNatClampNeg) (3000 + x935.toNatClampNeg) 0 1 := WF.keep b954 (fun j hj => (m980 j (by omega)).1) (fun j hj => (m980 j (by omega)).2)
          have cs_mn := i_cl (x := mn) (by omega)
          have b993 : RZ (1 - jb.toInt) (fun k => fI H965 oq k) (fun k => fI H965 aq k) (3000 + mn.toNatClampNeg) (3000 + x935.toNatClampNeg) ([a_]) := RZ.keep b955 (fun j hj => (m980 j (by omega)).1) (fun j hj => (m980 j (by omega)).2)
          refine W.eq (g2 := F0 m 51 ls937 [.int x966]) rfl ?_
          refine lv_iconst (v := (-1)) hx hb dX10_readSum_51 (by decide) ?_
          refine lv_icmp_ne (tgt := 57) hx hb dX10_readSum_52 (by decide) (fun c994 => ?_) (fun c994 => ?_)
          · have k995 := i_ne c994
            have wu0 : WF (fun k => fI H965 oq k) (fun k => fI H965 aq k) (3000 + x935.toNatClampNeg) (3000 + x971.toNatClampNeg) 0 1 := by
              rcases m981 with h | h
              · exfalso; omega
              · exact h
            have cq_mn := i_cl (x := mn) (by omega)
            have cq_x935 := i_cl (x := x935) (by omega)
            have cq_x971 := i_cl (x := x971) (by omega)
            have rs996 : RZ (1 - jb.toInt) (fun k => fI H965 oq k) (fun k => fI H965 aq k) (3000 + mn.toNatClampNeg) (3000 + x971.toNatClampNeg) ([((tmG (kK bt tp.toNatClampNeg) (vV bt tp.toNatClampNeg) 0 zF) (cj + 1)), a_]) := RZ.catc b993 (m983.resolve_left (by omega)) (by omega)
            refine lv_aload_n hx hb dX10_readSum_57 rfl (lv_at hl938 1 rfl) ?_
            refine lv_iload_n hx hb dX10_readSum_58 rfl (lv_at hl938 0 rfl) ?_
            refine lv_iconst (v := 0) hx hb dX10_readSum_59 (by decide) ?_
            refine x_V (As := [.int x930, .int 0]) (rest := []) C (a_X10_emits l K G H965 (x930) (0) (x971) hTH965 ga0 goq m972 gaq m973 ex971 g975 g976 g977 g978 (by omega)) yo_X10_emits wM_X10_238 ⟨⟨by decide, by decide⟩, by decide, by decide⟩ (x_rv C hTH965 (ci := 10) rfl ga0 rg_112) rfl hl938.1 rfl (Nat.le_of_ble_eq_true rfl) dX10_readSum_60 hSH965 (AE_sub (fun _ _ => rfl) (by decide) hSH965.1) (fun vH997 H997 locsH997 pH997 zH997 kH997 hSH997 => ?_)
            obtain ⟨x998, hvH997, ex998, hrH997, m999, m1000, g1001, g1002, g1003, g1004, mf1005, m1006, m1007, m1008, m1009, hTH997⟩ := pH997
            subst hvH997
            clear f956 m944 m957 m958 m959 m961 m962
            have f1010 : ∀ j : Nat, bt j = (fI H997 tq j).toInt := fun j => (f984 j).trans (congrArg Int32.toInt (fI_kept (x_lt hTH965 kH997 gtq (by decide))).symm)
            have m1011 := (m972).trans (MF.r mf1005 (k := 32) (by decide) (by decide)).symm
            have m1012 := (m973).trans (MF.r mf1005 (k := 33) (by decide) (by decide)).symm
            have m1013 := (m974).trans (MF.r mf1005 (k := 17) (by decide) (by decide)).symm
            have m1014 := (m988).trans (MF.i mf1005 (k := 18) (by decide) (by decide)).symm
            have m1015 := (m989).trans (MF.i mf1005 (k := 34) (by decide) (by decide)).symm
            have m1016 := (ex967).trans (MF.i mf1005 (k := 19) (by decide) (by decide)).symm
            have m1017 := (ex968).trans (MF.i mf1005 (k := 20) (by decide) (by decide)).symm
            have m1018 := (ex969).trans (MF.i mf1005 (k := 21) (by decide) (by decide)).symm
            have m1019 := (ex970).trans (MF.i mf1005 (k := 22) (by decide) (by decide)).symm
            have mf1020 : MF K s.heap H997 a0 [19, 20, 21, 22, 35, 39, 40] := MF.trans mf990 mf1005 (by decide)
            have bx998 := ty_fi (x := x998) (k := 35) ex998 hTH997 ga0 rg_112 rfl
            have cem1009 := i_cl (x := x971) (by omega)
            have ce_mn := i_cl (x := mn) (by omega)
            have b1021 : ∀ j : Nat, j < 3000 + mn.toNatClampNeg → fI H997 oq j = fI s.heap oq j ∧ fI H997 aq j = fI s.heap aq j := fun j hj => ⟨(m1008 j (by omega)).trans (b991 j hj).1, (m1009 j (by omega)).trans (b991 j hj).2⟩
            have ce_mn := i_cl (x := mn) (by omega)
            have ce_x935 := i_cl (x := x935) (by omega)
            have b1022 : WF (fun k => fI H997 oq k) (fun k => fI H997 aq k) (3000 + mn.toNatClampNeg) (3000 + x935.toNatClampNeg) 0 1 := WF.keep b992 (fun j hj => m1008 j (by omega)) (fun j hj => m1009 j (by omega))
            have ce_mn := i_cl (x := mn) (by omega)
            have ce_tp := i_cl (x := tp) (by omega)
            have b1023 : RZ (1 - jb.toInt) (fun k => fI H997 oq k) (fun k => fI H997 aq k) (3000 + mn.toNatClampNeg) (3000 + x971.toNatClampNeg) ([((tmG (kK bt tp.toNatClampNeg) (vV bt tp.toNatClampNeg) 0 zF) (cj + 1)), a_]) := RZ.keep rs996 (fun j hj => m1008 j (by omega)) (fun j hj => m1009 j (by omega))
            have ce_x935 := i_cl (x := x935) (by omega)
            have b1024 : WF (fun k => fI H997 oq k) (fun k => fI H997 aq k) (3000 + x935.toNatClampNeg) (3000 + x971.toNatClampNeg) 0 1 := WF.keep wu0 (fun j hj => m1008 j (by omega)) (fun j hj => m1009 j (by omega))
            refine W.eq (g2 := F0 m 63 ls937 []) rfl ?_
            have ho := congrArg Int32.toInt m1006
            have cb_mn := i_cl (x := mn) (by omega)
            have cb_x935 := i_cl (x := x935) (by omega)
            have cb_x971 := i_cl (x := x971) (by omega)
            have wn : WF (fun k => fI H997 oq k) (fun k => fI H997 aq k) (3000 + mn.toNatClampNeg) (3000 + x971.toNatClampNeg + 1) 0 1 := WF.bin b1022 b1024 (by omega) (by omega) (by show 2 ≤ (fI _ oq _).toInt ∧ (fI _ oq _).toInt ≤ 11 ∧ (fI _ oq _).toInt ≠ 9; omega) (Or.inl (by show (fI _ oq _).toInt ≠ 5; omega))
            have cq_mn := i_cl (x := mn) (by omega)
            have cq_x971 := i_cl (x := x971) (by omega)
            have rs1025 : RZ (1 - jb.toInt) (fun k => fI H997 oq k) (fun k => fI H997 aq k) (3000 + mn.toNatClampNeg) (3000 + x971.toNatClampNeg + 1) ([cbF (kK bt tp.toNatClampNeg cj) a_ ((tmG (kK bt tp.toNatClampNeg) (vV bt tp.toNatClampNeg) 0 zF) (cj + 1))]) := RZ.binc (s := (kK bt tp.toNatClampNeg cj)) b1023 (by omega) (by show (fI _ oq _).toInt = _; rw [← m1006]; rcases HD.out hwh42 with z | z <;> (rw [z.2]; exact z.1)) (by have hz_ := HD.out hwh42; omega)
            refine lv_goto (tgt := 10) hx hb dX10_readSum_63 (by decide) ?_
            have cl_mn := i_cl (x := mn) (by omega)
            have cl_mn := i_cl (x := mn) (by omega)
            have cl_x971 := i_cl (x := x971) (by omega)
            have cl_x998 := i_cl (x := x998) (by omega)
            have cl_mn := i_cl (x := mn) (by omega)
            have cl_tp := i_cl (x := tp) (by omega)
            have cl_x971 := i_cl (x := x971) (by omega)
            have cl_x998 := i_cl (x := x998) (by omega)
            obtain ⟨cj1026, ho1028, cu1027⟩ := RC.yes m982 (by omega)
            exact ih10 cj1026 (cbF (kK bt tp.toNatClampNeg cj) a_ ((tmG (kK bt tp.toNatClampNeg) (vV bt tp.toNatClampNeg) 0 zF) (cj + 1))) ls937 H997 locsH997 (x967) (x968) (x969) (x970) (x998) (lv_sub hl938 [1] rfl) hTH997 hSH997 bx967 bx968 bx998 m1016 m1017 m1018 m1019 ex998 m999 m1000 m1013 m1014 m1015 b1021 (WF.cast wn (by omega) (by omega)) (RZ.cast rs1025 (by omega) (by omega) rfl) mf1020 g1001 g1002 g1003 g1004 f1010 (by omega) (by omega) cu1027 (hsp10.trans ((if_y hpm28).trans (lp_if tmI_gp ho1028))) (hsf10.trans ((if_pos hpm28).trans (lpG_if tmI_gp ho1028)))
          · have k995 := i_eq c994
            refine lv_iconst (v := (-1)) hx hb dX10_readSum_55 (by decide) ?_
            exact x_iret C hQ dX10_readSum_56 hSH965 (by decide) (by decide) (⟨(-1), x967, x968, x969, x970, x971, rfl, by decide, ex967, ex968, ex969, ex970, ex971, by omega, m972, m973, m974, g975, g976, g977, g978, mf990, b991, Or.inl (by omega), Or.inl ⟨hsp10.trans ((if_y hpm28).trans (lp_none tmI_gp (RC.no m982 (by omega)))), by omega⟩, Or.inl (by omega), hTH965⟩)
        refine lv_aload_n hx hb dX10_readSum_28 rfl (lv_at hl920 0 rfl) ?_
        refine x_gi C hTH918 (ci := 10) (k := 22) rfl inX10 (by decide) wF_X10_205 ga0 rg_112 rfl dX10_readSum_29 (fun x1029 ex1029 bx1029 => ?_)
        have ux1029 : x924 = x1029 := (ex924).trans ex1029.symm
        subst ux1029
        refine lv_bipush (v := 43) hx hb dX10_readSum_32 (by decide) ?_
        refine lv_icmp_ne (tgt := 41) hx hb dX10_readSum_34 (by decide) (fun c1030 => ?_) (fun c1030 => ?_)
        · have k1031 := i_ne c1030
          refine lv_iconst (v := 3) hx hb dX10_readSum_41 (by decide) ?_
          have cl_mn := i_cl (x := mn) (by omega)
          have cl_mn := i_cl (x := mn) (by omega)
          have cl_x925 := i_cl (x := x925) (by omega)
          have cl_mn := i_cl (x := mn) (by omega)
          have cl_x925 := i_cl (x := x925) (by omega)
          have z43 := TV.sg (c := 43) hcu28.2.2.1 (by decide)
          have z45 := TV.sg (c := 45) hcu28.2.2.1 (by decide)
          have zp : kK bt tp.toNatClampNeg cj = 43 ∨ kK bt tp.toNatClampNeg cj = 45 := of_decide_eq_true hpm28
          exact J42  ls919 H918 locsH918 (3) (x921) (x922) (x923) (x924) (x925) (lv_sub hl920 [0] rfl) hTH918 hSH918 (by decide) bx921 bx922 bx925 ex921 ex922 ex923 ex924 ex925 cy926_0 cy926_1 cy926_2 cy926_3 cy926_4 by926_pf (WF.cast by926_wf (by omega) (by omega)) (RZ.cast by926_rs (by omega) (by omega) rfl) mfy926 gy926_CG gy926_TU gy926_WD gy926_IM fy926_bt (by omega) hcu28 (HD.mk (Or.inr ⟨rfl, by omega⟩))
        · have k1031 := i_eq c1030
          refine lv_iconst (v := 2) hx hb dX10_readSum_37 (by decide) ?_
          refine lv_goto (tgt := 42) hx hb dX10_readSum_38 (by decide) ?_
          have cl_mn := i_cl (x := mn) (by omega)
          have cl_mn := i_cl (x := mn) (by omega)
          have cl_x925 := i_cl (x := x925) (by omega)
          have cl_mn := i_cl (x := mn) (by omega)
          have cl_x925 := i_cl (x := x925) (by omega)
          have z43 := TV.sg (c := 43) hcu28.2.2.1 (by decide)
          have z45 := TV.sg (c := 45) hcu28.2.2.1 (by decide)
          have zp : kK bt tp.toNatClampNeg cj = 43 ∨ kK bt tp.toNatClampNeg cj = 45 := of_decide_eq_true hpm28
          exact J42  ls919 H918 locsH918 (2) (x921) (x922) (x923) (x924) (x925) (lv_sub hl920 [0] rfl) hTH918 hSH918 (by decide) bx921 bx922 bx925 ex921 ex922 ex923 ex924 ex925 cy926_0 cy926_1 cy926_2 cy926_3 cy926_4 by926_pf (WF.cast by926_wf (by omega) (by omega)) (RZ.cast by926_rs (by omega) (by omega) rfl) mfy926 gy926_CG gy926_TU gy926_WD gy926_IM fy926_bt (by omega) hcu28 (HD.mk (Or.inl ⟨rfl, by omega⟩))
      refine lv_aload_n hx hb dX10_readSum_10 rfl (lv_at hl911 0 rfl) ?_
      refine lv_bipush (v := 43) hx hb dX10_readSum_11 (by decide) ?_
      refine x_V (As := [.int 43]) (rest := []) C (a_X10_isSign_e l K G H909 (43) (x914) (x915) hTH909 ga0 ex914 ex915) yo_X10_isSign wM_X10_249 ⟨⟨by decide, by decide⟩, by decide, by decide⟩ (x_rv C hTH909 (ci := 10) rfl ga0 rg_112) rfl hl911.1 rfl (Nat.le_of_ble_eq_true rfl) dX10_readSum_13 hSH909 (AE_sub (fun _ _ => rfl) (by decide) hSH909.1) (fun vH1032 H1032 locsH1032 pH1032 zH1032 kH1032 hSH1032 => ?_)
      obtain ⟨x1033, hvH1032, bx1033, hrH1032, hTH1032⟩ := pH1032
      subst hvH1032
      have mf1034 : MF K s.heap H1032 a0 [19, 20, 21, 22, 35, 39, 40] := MF.eff (x_lt hTH909 kH1032 ga0 (by decide)) mfy917
      have b1035 : ∀ j : Nat, j < 3000 + mn.toNatClampNeg → fI H1032 oq j = fI s.heap oq j ∧ fI H1032 aq j = fI s.heap aq j := fun j hj => ⟨(fI_kept (x_lt hTH909 kH1032 goq (by decide))).trans (by917_pf j hj).1, (fI_kept (x_lt hTH909 kH1032 gaq (by decide))).trans (by917_pf j hj).2⟩
      have b1036 : WF (fun k => fI H1032 oq k) (fun k => fI H1032 aq k) (3000 + mn.toNatClampNeg) (3000 + x916.toNatClampNeg) 0 1 := WF.congr (fun j => fI_kept (x_lt hTH909 kH1032 goq (by decide))) (fun j => fI_kept (x_lt hTH909 kH1032 gaq (by decide))) by917_wf
      have b1037 : RZ (1 - jb.toInt) (fun k => fI H1032 oq k) (fun k => fI H1032 aq k) (3000 + mn.toNatClampNeg) (3000 + x916.toNatClampNeg) ([a_]) := RZ.congr (fun j => fI_kept (x_lt hTH909 kH1032 goq (by decide))) (fun j => fI_kept (x_lt hTH909 kH1032 gaq (by decide))) by917_rs
      have g1038 : CG (avw K H1032 a0) := CG.congr (fun k hk j => av_eff hTH909 kH1032 ga0 (by decide) (CG_eff [] (by decide) k hk)) gy917_CG
      have g1039 : TU (avw K H1032 a0) (svw K H1032 a0) := TU.congr (fun k hk j => av_eff hTH909 kH1032 ga0 (by decide) (TU_eff [] (by decide) k hk)) (fun k hk => sv_eff hTH909 kH1032 ga0 (by decide)) gy917_TU
      have g1040 : WD (avw K H1032 a0) := WD.congr (fun k hk j => av_eff hTH909 kH1032 ga0 (by decide) (WD_eff [] (by decide) k hk)) gy917_WD
      have g1041 : IM (avw K H1032 a0) := IM.congr (fun k hk j => av_eff hTH909 kH1032 ga0 (by decide) (IM_eff [] (by decide) k hk)) gy917_IM
      have f1042 : ∀ j : Nat, bt j = (fI H1032 tq j).toInt := fun j => (fy917_bt j).trans (congrArg Int32.toInt (fI_kept (x_lt hTH909 kH1032 gtq (by decide))).symm)
      have m1043 := (ex912).trans (fI_kept (x_lt hTH909 kH1032 ga0 (by decide))).symm
      have m1044 := (ex913).trans (fI_kept (x_lt hTH909 kH1032 ga0 (by decide))).symm
      have m1045 := (ex914).trans (fI_kept (x_lt hTH909 kH1032 ga0 (by decide))).symm
      have m1046 := (ex915).trans (fI_kept (x_lt hTH909 kH1032 ga0 (by decide))).symm
      have m1047 := (ex916).trans (fI_kept (x_lt hTH909 kH1032 ga0 (by decide))).symm
      have m1048 := (cy917_0).trans (fR_kept (x_lt hTH909 kH1032 ga0 (by decide))).symm
      have m1049 := (cy917_1).trans (fR_kept (x_lt hTH909 kH1032 ga0 (by decide))).symm
      have m1050 := (cy917_2).trans (fR_kept (x_lt hTH909 kH1032 ga0 (by decide))).symm
      have m1051 := (cy917_3).trans (fI_kept (x_lt hTH909 kH1032 ga0 (by decide))).symm
      have m1052 := (cy917_4).trans (fI_kept (x_lt hTH909 kH1032 ga0 (by decide))).symm
      refine W.eq (g2 := F0 m 16 ls910 [.int x1033]) rfl ?_
      refine lv_if_ne (tgt := 28) hx hb dX10_readSum_16 (by decide) (fun c1053 => ?_) (fun c1053 => ?_)
      · have k1054 := i_ne c1053
        have cl_mn := i_cl (x := mn) (by omega)
        have cl_mn := i_cl (x := mn) (by omega)
        have cl_x916 := i_cl (x := x916) (by omega)
        have cl_mn := i_cl (x := mn) (by omega)
        have cl_x916 := i_cl (x := x916) (by omega)
        have kc_ : kK bt tp.toNatClampNeg cj = 43 := (TV.sg (c := 43) hcu10.2.2.1 (by decide)).mp ⟨by omega, by omega⟩
        exact J28  ls910 H1032 locsH1032 (x912) (x913) (x914) (x915) (x916) (lv_sub hl911 [0] rfl) hTH1032 hSH1032 bx912 bx913 bx916 m1043 m1044 m1045 m1046 m1047 m1048 m1049 m1050 m1051 m1052 b1035 (WF.cast b1036 (by omega) (by omega)) (RZ.cast b1037 (by omega) (by omega) rfl) mf1034 g1038 g1039 g1040 g1041 f1042 (by omega) hcu10 (show cPM (kK bt tp.toNatClampNeg) cj = true from decide_eq_true (Or.inl kc_))
      · have k1054 := i_eq c1053
        refine lv_aload_n hx hb dX10_readSum_19 rfl (lv_at hl911 0 rfl) ?_
        refine lv_bipush (v := 45) hx hb dX10_readSum_20 (by decide) ?_
        refine x_V (As := [.int 45]) (rest := []) C (a_X10_isSign_e l K G H1032 (45) (x914) (x915) hTH1032 ga0 m1045 m1046) yo_X10_isSign wM_X10_249 ⟨⟨by decide, by decide⟩, by decide, by decide⟩ (x_rv C hTH1032 (ci := 10) rfl ga0 rg_112) rfl hl911.1 rfl (Nat.le_of_ble_eq_true rfl) dX10_readSum_22 hSH1032 (AE_sub (fun _ _ => rfl) (by decide) hSH1032.1) (fun vH1055 H1055 locsH1055 pH1055 zH1055 kH1055 hSH1055 => ?_)
        obtain ⟨x1056, hvH1055, bx1056, hrH1055, hTH1055⟩ := pH1055
        subst hvH1055
        have mf1057 : MF K s.heap H1055 a0 [19, 20, 21, 22, 35, 39, 40] := MF.eff (x_lt hTH1032 kH1055 ga0 (by decide)) mf1034
        have b1058 : ∀ j : Nat, j < 3000 + mn.toNatClampNeg → fI H1055 oq j = fI s.heap oq j ∧ fI H1055 aq j = fI s.heap aq j := fun j hj => ⟨(fI_kept (x_lt hTH1032 kH1055 goq (by decide))).trans (b1035 j hj).1, (fI_kept (x_lt hTH1032 kH1055 gaq (by decide))).trans (b1035 j hj).2⟩
        have b1059 : WF (fun k => fI H1055 oq k) (fun k => fI H1055 aq k) (3000 + mn.toNatClampNeg) (3000 + x916.toNatClampNeg) 0 1 := WF.congr (fun j => fI_kept (x_lt hTH1032 kH1055 goq (by decide))) (fun j => fI_kept (x_lt hTH1032 kH1055 gaq (by decide))) b1036
        have b1060 : RZ (1 - jb.toInt) (fun k => fI H1055 oq k) (fun k => fI H1055 aq k) (3000 + mn.toNatClampNeg) (3000 + x916.toNatClampNeg) ([a_]) := RZ.congr (fun j => fI_kept (x_lt hTH1032 kH1055 goq (by decide))) (fun j => fI_kept (x_lt hTH1032 kH1055 gaq (by decide))) b1037
        have g1061 : CG (avw K H1055 a0) := CG.congr (fun k hk j => av_eff hTH1032 kH1055 ga0 (by decide) (CG_eff [] (by decide) k hk)) g1038
        have g1062 : TU (avw K H1055 a0) (svw K H1055 a0) := TU.congr (fun k hk j => av_eff hTH1032 kH1055 ga0 (by decide) (TU_eff [] (by decide) k hk)) (fun k hk => sv_eff hTH1032 kH1055 ga0 (by decide)) g1039
        have g1063 : WD (avw K H1055 a0) := WD.congr (fun k hk j => av_eff hTH1032 kH1055 ga0 (by decide) (WD_eff [] (by decide) k hk)) g1040
        have g1064 : IM (avw K H1055 a0) := IM.congr (fun k hk j => av_eff hTH1032 kH1055 ga0 (by decide) (IM_eff [] (by decide) k hk)) g1041
        have f1065 : ∀ j : Nat, bt j = (fI H1055 tq j).toInt := fun j => (f1042 j).trans (congrArg Int32.toInt (fI_kept (x_lt hTH1032 kH1055 gtq (by decide))).symm)
        have m1066 := (m1043).trans (fI_kept (x_lt hTH1032 kH1055 ga0 (by decide))).symm
        have m1067 := (m1044).trans (fI_kept (x_lt hTH1032 kH1055 ga0 (by decide))).symm
        have m1068 := (m1045).trans (fI_kept (x_lt hTH1032 kH1055 ga0 (by decide))).symm
        have m1069 := (m1046).trans (fI_kept (x_lt hTH1032 kH1055 ga0 (by decide))).symm
        have m1070 := (m1047).trans (fI_kept (x_lt hTH1032 kH1055 ga0 (by decide))).symm
        have m1071 := (m1048).trans (fR_kept (x_lt hTH1032 kH1055 ga0 (by decide))).symm
        have m1072 := (m1049).trans (fR_kept (x_lt hTH1032 kH1055 ga0 (by decide))).symm
        have m1073 := (m1050).trans (fR_kept (x_lt hTH1032 kH1055 ga0 (by decide))).symm
        have m1074 := (m1051).trans (fI_kept (x_lt hTH1032 kH1055 ga0 (by decide))).symm
        have m1075 := (m1052).trans (fI_kept (x_lt hTH1032 kH1055 ga0 (by decide))).symm
        refine W.eq (g2 := F0 m 25 ls910 [.int x1056]) rfl ?_
        refine lv_if_eq (tgt := 66) hx hb dX10_readSum_25 (by decide) (fun c1076 => ?_) (fun c1076 => ?_)
        · have k1077 := i_eq c1076
          refine lv_iconst (v := 0) hx hb dX10_readSum_66 (by decide) ?_
          have cr_mn := i_cl (x := mn) (by omega)
          have cr_x916 := i_cl (x := x916) (by omega)
          have k43_ : kK bt tp.toNatClampNeg cj ≠ 43 := fun e => by have z_ := (TV.sg (c := 43) hcu10.2.2.1 (by decide)).mpr e; omega
          have k45_ : kK bt tp.toNatClampNeg cj ≠ 45 := fun e => by have z_ := (TV.sg (c := 45) hcu10.2.2.1 (by decide)).mpr e; omega
          have cq_mn := i_cl (x := mn) (by omega)
          have cq_x916 := i_cl (x := x916) (by omega)
          have k43_ : kK bt tp.toNatClampNeg cj ≠ 43 := fun e => by have z_ := (TV.sg (c := 43) hcu10.2.2.1 (by decide)).mpr e; omega
          have k45_ : kK bt tp.toNatClampNeg cj ≠ 45 := fun e => by have z_ := (TV.sg (c := 45) hcu10.2.2.1 (by decide)).mpr e; omega
          exact x_iret C hQ dX10_readSum_67 hSH1055 (by decide) (by decide) (⟨0, x912, x913, x914, x915, x916, rfl, by decide, m1066, m1067, m1068, m1069, m1070, by omega, m1071, m1072, m1073, g1061, g1062, g1063, g1064, mf1057, b1058, Or.inr (WF.cast b1059 (by omega) (by omega)), Or.inr ⟨cj, hsp10.trans (if_n (show cPM (kK bt tp.toNatClampNeg) cj = false from decide_eq_false (fun z => z.elim k43_ k45_))), by omega, hcu10⟩, Or.inr (RZ.cast b1060 (by omega) (by omega) (congrArg (fun z => [z]) (hsf10.trans (if_neg (show ¬ cPM (kK bt tp.toNatClampNeg) cj = true from by rw [show cPM (kK bt tp.toNatClampNeg) cj = false from decide_eq_false (fun z => z.elim k43_ k45_)]; decide))))), hTH1055⟩)
        · have k1077 := i_ne c1076
          have cl_mn := i_cl (x := mn) (by omega)
          have cl_mn := i_cl (x := mn) (by omega)
          have cl_x916 := i_cl (x := x916) (by omega)
          have cl_mn := i_cl (x := mn) (by omega)
          have cl_x916 := i_cl (x := x916) (by omega)
          have kc_ : kK bt tp.toNatClampNeg cj = 45 := (TV.sg (c := 45) hcu10.2.2.1 (by decide)).mp ⟨by omega, by omega⟩
          exact J28  ls910 H1055 locsH1055 (x912) (x913) (x914) (x915) (x916) (lv_sub hl911 [0] rfl) hTH1055 hSH1055 bx912 bx913 bx916 m1066 m1067 m1068 m1069 m1070 m1071 m1072 m1073 m1074 m1075 b1058 (WF.cast b1059 (by omega) (by omega)) (RZ.cast b1060 (by omega) (by omega) rfl) mf1057 g1061 g1062 g1063 g1064 f1065 (by omega) hcu10 (show cPM (kK bt tp.toNatClampNeg) cj = true from decide_eq_true (Or.inr kc_))
  have pf00 : ∀ j : Nat, j < 3000 + mn.toNatClampNeg → fI s.heap oq j = fI s.heap oq j ∧ fI s.heap aq j = fI s.heap aq j := fun _ _ => ⟨rfl, rfl⟩
  have hmn := i_cl (x := mn) (by omega)
  refine lv_aload_n hx hb dX10_readSum_0 rfl (lv_at hl 0 rfl) ?_
  refine x_V (As := []) (rest := []) C (a_X10_readProduct_g l K G s.heap (sp) (fr) (tk) (vl) (mn) (tp) (jb) (ci) bt hT ga0 goq eoq gaq eaq gtq etq esp efr etk evl emn etp ejb hg_CG hg_TU hg_WD hg_IM (by omega) (by omega) (hy0) (hy1) f0_bt) yo_X10_readProduct wM_X10_252 ⟨⟨by decide, by decide⟩, by decide, by decide⟩ (x_rv C hT (ci := 10) rfl ga0 rg_112) rfl hl.1 rfl (Nat.le_of_ble_eq_true rfl) dX10_readSum_1 hS (AE_sub (fun _ _ => rfl) (by decide) hS.1) (fun vH1078 H1078 locsH1078 pH1078 zH1078 kH1078 hSH1078 => ?_)
  obtain ⟨x1079, x1080, x1081, x1082, x1083, x1084, hvH1078, bx1079, ex1080, ex1081, ex1082, ex1083, ex1084, hrH1078, m1085, m1086, m1087, g1088, g1089, g1090, g1091, mf1092, m1093, m1094, m1095, m1096, hTH1078⟩ := pH1078
  subst hvH1078
  have f1097 : ∀ j : Nat, bt j = (fI H1078 tq j).toInt := fun j => (f0_bt j).trans (congrArg Int32.toInt (fI_kept (x_lt hT kH1078 gtq (by decide))).symm)
  have m1098 := (eoq).trans (MF.r mf1092 (k := 32) (by decide) (by decide)).symm
  have m1099 := (eaq).trans (MF.r mf1092 (k := 33) (by decide) (by decide)).symm
  have m1100 := (etq).trans (MF.r mf1092 (k := 17) (by decide) (by decide)).symm
  have m1101 := (etp).trans (MF.i mf1092 (k := 18) (by decide) (by decide)).symm
  have m1102 := (ejb).trans (MF.i mf1092 (k := 34) (by decide) (by decide)).symm
  have mf1103 : MF K s.heap H1078 a0 [19, 20, 21, 22, 35, 39, 40] := MF.trans mf0 mf1092 (by decide)
  have bx1080 := ty_fi (x := x1080) (k := 19) ex1080 hTH1078 ga0 rg_112 rfl
  have bx1081 := ty_fi (x := x1081) (k := 20) ex1081 hTH1078 ga0 rg_112 rfl
  have bx1082 := ty_fi (x := x1082) (k := 21) ex1082 hTH1078 ga0 rg_112 rfl
  have bx1083 := ty_fi (x := x1083) (k := 22) ex1083 hTH1078 ga0 rg_112 rfl
  have bx1084 := ty_fi (x := x1084) (k := 35) ex1084 hTH1078 ga0 rg_112 rfl
  have csm1093 := i_cl (x := mn) (by omega)
  have b1104 : ∀ j : Nat, j < 3000 + mn.toNatClampNeg → fI H1078 oq j = fI s.heap oq j ∧ fI H1078 aq j = fI s.heap aq j := fun j hj => ⟨(m1093 j (by omega)).1.trans (pf00 j hj).1, (m1093 j (by omega)).2.trans (pf00 j hj).2⟩
  refine W.eq (g2 := F0 m 4 ls [.int x1079]) rfl ?_
  refine lv_iconst (v := (-1)) hx hb dX10_readSum_4 (by decide) ?_
  refine lv_icmp_ne (tgt := 10) hx hb dX10_readSum_5 (by decide) (fun c1105 => ?_) (fun c1105 => ?_)
  · have k1106 := i_ne c1105
    have rs1107 : RZ (1 - jb.toInt) (fun k => fI H1078 oq k) (fun k => fI H1078 aq k) (3000 + mn.toNatClampNeg) (3000 + x1084.toNatClampNeg) ([((tmG (kK bt tp.toNatClampNeg) (vV bt tp.toNatClampNeg) 0 zF) ci)]) := m1096.resolve_left (by omega)
    have wf0 : WF (fun k => fI H1078 oq k) (fun k => fI H1078 aq k) (3000 + mn.toNatClampNeg) (3000 + x1084.toNatClampNeg) 0 1 := by
      rcases m1094 with h | h
      · exfalso; omega
      · exact h
    have cl_mn := i_cl (x := mn) (by omega)
    have cl_mn := i_cl (x := mn) (by omega)
    have cl_x1084 := i_cl (x := x1084) (by omega)
    have cl_mn := i_cl (x := mn) (by omega)
    have cl_tp := i_cl (x := tp) (by omega)
    have cl_x1084 := i_cl (x := x1084) (by omega)
    obtain ⟨cj1108, ho1110, cu1109⟩ := RC.yes m1095 (by omega)
    exact J10 ((500 - x1081.toInt).toNat + 1) cj1108 (((tmG (kK bt tp.toNatClampNeg) (vV bt tp.toNatClampNeg) 0 zF) ci)) ls H1078 locsH1078 (x1080) (x1081) (x1082) (x1083) (x1084) (lv_sub hl [0] rfl) hTH1078 hSH1078 bx1080 bx1081 bx1084 ex1080 ex1081 ex1082 ex1083 ex1084 m1085 m1086 m1087 m1101 m1102 b1104 (WF.cast wf0 (by omega) (by omega)) (RZ.cast rs1107 (by omega) (by omega) rfl) mf1103 g1088 g1089 g1090 g1091 f1097 (by omega) (by omega) cu1109 (lp_if tmI_gp ho1110) (lpG_if0 tmI_gp ho1110)
  · have k1106 := i_eq c1105
    refine lv_iconst (v := (-1)) hx hb dX10_readSum_8 (by decide) ?_
    have cn_fr := i_cl (x := fr) (by omega)
    exact x_iret C hQ dX10_readSum_9 hSH1078 (by decide) (by decide) (⟨(-1), x1080, x1081, x1082, x1083, x1084, rfl, by decide, ex1080, ex1081, ex1082, ex1083, ex1084, by omega, m1085, m1086, m1087, g1088, g1089, g1090, g1091, mf1103, b1104, Or.inl (by omega), Or.inl ⟨lp_none tmI_gp (RC.no m1095 (by omega)), by omega⟩, Or.inl (by omega), hTH1078⟩)

set_option maxHeartbeats 4000000 in
set_option maxRecDepth 100000 in
theorem a_X10_readCompared_g (l : Launch) (K : KE) (G : Nat → Option Nat) (H : Heap) {a0 : Nat} {oq : Nat} {aq : Nat} {tq : Nat} (sp : Int32) (fr : Int32) (tk : Int32) (vl : Int32) (mn : Int32) (tp : Int32) (jb : Int32) (ci : Nat) (bt : Nat → Int) (hT : TY K G H) (ga0 : G a0 = some 112) (goq : G oq = some 136) (eoq : @Eq Ad oq (fR H a0 (K.1.2 10 32))) (gaq : G aq = some 137) (eaq : @Eq Ad aq (fR H a0 (K.1.2 10 33))) (gtq : G tq = some 126) (etq : @Eq Ad tq (fR H a0 (K.1.2 10 17))) (esp : sp = fI H a0 (K.1.2 10 19)) (efr : fr = fI H a0 (K.1.2 10 20)) (etk : tk = fI H a0 (K.1.2 10 21)) (evl : vl = fI H a0 (K.1.2 10 22)) (emn : mn = fI H a0 (K.1.2 10 35)) (etp : tp = fI H a0 (K.1.2 10 18)) (ejb : jb = fI H a0 (K.1.2 10 34)) (hg_CG : CG (avw K H a0)) (hg_TU : TU (avw K H a0) (svw K H a0)) (hg_WD : WD (avw K H a0)) (hg_IM : IM (avw K H a0)) (hp0 : (sp.toInt ≤ tp.toInt ∧ fr.toInt ≤ sp.toInt ∧ (tk.toInt = 0 ∨ fr.toInt < sp.toInt) ∧ (tk.toInt ≠ 2 ∨ (0 ≤ vl.toInt ∧ vl.toInt ≤ 23)))) (hp1 : mn.toInt ≤ fr.toInt) (hy0 : CU bt tp.toNatClampNeg ci fr sp tk vl) (hy1 : ∀ j : Nat, j < tp.toNatClampNeg → 0 ≤ bt j) (hv_bt : ∀ j : Nat, bt j = (fI H tq j).toInt) : MX l K yX10_readCompared cX10_readCompared 2 (some .int) 6 128 0 0 [.ref a0] H (AE G [112, 136, 137] H.size) (fun v H1 => ∃ (r : Int32) (t0 : Int32) (t1 : Int32) (t2 : Int32) (t3 : Int32) (t4 : Int32), v = some (.int r) ∧ ((-1) ≤ r.toInt ∧ r.toInt ≤ 0) ∧ t0 = fI H1 a0 (K.1.2 10 19) ∧ t1 = fI H1 a0 (K.1.2 10 20) ∧ t2 = fI H1 a0 (K.1.2 10 21) ∧ t3 = fI H1 a0 (K.1.2 10 22) ∧ t4 = fI H1 a0 (K.1.2 10 35) ∧ (r.toInt = -1 ∨ (r.toInt = 0 ∧ t0.toInt ≤ tp.toInt ∧ t1.toInt ≤ t0.toInt ∧ (t2.toInt = 0 ∨ t1.toInt < t0.toInt) ∧ (t2.toInt ≠ 2 ∨ (0 ≤ t3.toInt ∧ t3.toInt ≤ 23)) ∧ t4.toInt + fr.toInt ≤ mn.toInt + t1.toInt ∧ mn.toInt < t4.toInt ∧ fr.toInt < t1.toInt)) ∧ @Eq Ad oq (fR H1 a0 (K.1.2 10 32)) ∧ @Eq Ad aq (fR H1 a0 (K.1.2 10 33)) ∧ @Eq Ad tq (fR H1 a0 (K.1.2 10 17)) ∧ (CG (avw K H1 a0)) ∧ (TU (avw K H1 a0) (svw K H1 a0)) ∧ (WD (avw K H1 a0)) ∧ (IM (avw K H1 a0)) ∧ MF K H H1 a0 [19, 20, 21, 22, 35, 39, 40] ∧ (∀ j : Nat, j < 3000 + mn.toNatClampNeg → fI H1 oq j = fI H oq j ∧ fI H1 aq j = fI H aq j) ∧ (r.toInt = -1 ∨ WF (fun k => fI H1 oq k) (fun k => fI H1 aq k) (3000 + mn.toNatClampNeg) (3000 + t4.toNatClampNeg) 0 1) ∧ (RC (cpI (kK bt tp.toNatClampNeg) (vV bt tp.toNatClampNeg) (1 - jb.toInt) ci) r bt tp.toNatClampNeg t1 t0 t2 t3) ∧ (r.toInt = -1 ∨ RZ (1 - jb.toInt) (fun k => fI H1 oq k) (fun k => fI H1 aq k) (3000 + mn.toNatClampNeg) (3000 + t4.toNatClampNeg) ([cpF (kK bt tp.toNatClampNeg) (vV bt tp.toNatClampNeg) (1 - jb.toInt) ci])) ∧ TY K G H1) := by
  refine MX.of (by decide +kernel) (Nat.le_of_ble_eq_true rfl) ?_
  intro p e s m below meth c ls Q C hH hl hQ
  subst hH
  have C : CX p K s m _ meth c RX10 cX10_readCompared 2 (some .int) "readCompared" := C
  obtain ⟨hx, hb, hml, hown, hts, hKT, hr, hlocks, hnm⟩ := id C
  have hl : lv_has ls 2 [(0, .ref a0)] := hl
  have hS : va_S (AE G [112, 136, 137] s.heap.size) s.heap s.heap [] := va_S.rf
  have n_m1 : ((-1) : Int32).toInt = -1 := rfl
  have n_0 : (0 : Int32).toInt = 0 := rfl
  have n_1 : (1 : Int32).toInt = 1 := rfl
  have n_6 : (6 : Int32).toInt = 6 := rfl
  have n_7 : (7 : Int32).toInt = 7 := rfl
  have n_8 : (8 : Int32).toInt = 8 := rfl
  have n_60 : (60 : Int32).toInt = 60 := rfl
  have n_61 : (61 : Int32).toInt = 61 := rfl
  have n_62 : (62 : Int32).toInt = 62 := rfl
  have bsp := ty_fi (x := sp) (k := 19) esp hT ga0 rg_112 rfl
  have bfr := ty_fi (x := fr) (k := 20) efr hT ga0 rg_112 rfl
  have btk := ty_fi (x := tk) (k := 21) etk hT ga0 rg_112 rfl
  have bvl := ty_fi (x := vl) (k := 22) evl hT ga0 rg_112 rfl
  have bmn := ty_fi (x := mn) (k := 35) emn hT ga0 rg_112 rfl
  have btp := ty_fi (x := tp) (k := 18) etp hT ga0 rg_112 rfl
  have bjb := ty_fi (x := jb) (k := 34) ejb hT ga0 rg_112 rfl
  have hap : ∀ x y, x < 74 → y < 74 → x ≠ y → K.1.2 10 x ≠ K.1.2 10 y := x_apart hKT hts inX10 tyX10 tyX10_ok nmX10 rfl
  have mf0 : MF K s.heap s.heap a0 [19, 20, 21, 22, 35, 39, 40] := fun _ _ _ => rfl
  have f0_bt := hv_bt
  have J43 : ∀ (cj : Nat) (ls1126 : Array Slot) (H1125 : Heap) (locsH1125 : List Loc) (x1128 : Int32) (x1129 : Int32) (x1130 : Int32) (x1131 : Int32) (x1132 : Int32), lv_has ls1126 2 [(0, .ref a0)] → TY K G H1125 → va_S (AE G [112, 136, 137] s.heap.size) s.heap H1125 locsH1125 → (0 ≤ x1128.toInt ∧ x1128.toInt ≤ 500) → (0 ≤ x1129.toInt ∧ x1129.toInt ≤ 500) → (0 ≤ x1132.toInt ∧ x1132.toInt ≤ 500) → (x1128 = fI H1125 a0 (K.1.2 10 19)) → (x1129 = fI H1125 a0 (K.1.2 10 20)) → (x1130 = fI H1125 a0 (K.1.2 10 21)) → (x1131 = fI H1125 a0 (K.1.2 10 22)) → (x1132 = fI H1125 a0 (K.1.2 10 35)) → (@Eq Ad oq (fR H1125 a0 (K.1.2 10 32))) → (@Eq Ad aq (fR H1125 a0 (K.1.2 10 33))) → (@Eq Ad tq (fR H1125 a0 (K.1.2 10 17))) → (tp = fI H1125 a0 (K.1.2 10 18)) → (jb = fI H1125 a0 (K.1.2 10 34)) → (∀ j : Nat, j < 3000 + mn.toNatClampNeg → fI H1125 oq j = fI s.heap oq j ∧ fI H1125 aq j = fI s.heap aq j) → (WF (fun k => fI H1125 oq k) (fun k => fI H1125 aq k) (3000 + mn.toNatClampNeg) (3000 + x1132.toNatClampNeg) 0 1) → (RZ (1 - jb.toInt) (fun k => fI H1125 oq k) (fun k => fI H1125 aq k) (3000 + mn.toNatClampNeg) (3000 + x1132.toNatClampNeg) ([smG (kK bt tp.toNatClampNeg) (vV bt tp.toNatClampNeg) (1 - jb.toInt) ci])) → (MF K s.heap H1125 a0 [19, 20, 21, 22, 35, 39, 40]) → (CG (avw K H1125 a0)) → (TU (avw K H1125 a0) (svw K H1125 a0)) → (WD (avw K H1125 a0)) → (IM (avw K H1125 a0)) → (∀ j : Nat, bt j = (fI H1125 tq j).toInt) → ((x1128.toInt ≤ tp.toInt ∧ x1129.toInt ≤ x1128.toInt ∧ (x1130.toInt = 0 ∨ x1129.toInt < x1128.toInt) ∧ (x1130.toInt ≠ 2 ∨ (0 ≤ x1131.toInt ∧ x1131.toInt ≤ 23))) ∧ x1132.toInt + fr.toInt ≤ mn.toInt + x1129.toInt ∧ mn.toInt < x1132.toInt ∧ fr.toInt < x1129.toInt ∧ x1130.toInt = 4) → (CU bt tp.toNatClampNeg cj x1129 x1128 x1130 x1131) → (smI (kK bt tp.toNatClampNeg) (vV bt tp.toNatClampNeg) (1 - jb.toInt) ci = some cj) → (HD (kK bt tp.toNatClampNeg cj = 60 ∨ kK bt tp.toNatClampNeg cj = 61 ∨ kK bt tp.toNatClampNeg cj = 62)) → W p l e ({ frames := 6, cells := 0, slots := 0, locals := 128 } : Room) s m (([.ref a0] : List Value).toArray) below meth c H1125 locsH1125 0 0 Q (F0 m 43 ls1126 []) := by
    intro cj ls1126 H1125 locsH1125 x1128 x1129 x1130 x1131 x1132 hl1127 hTH1125 hSH1125 bx1128 bx1129 bx1132 ex1128 ex1129 ex1130 ex1131 ex1132 cy1133_0 cy1133_1 cy1133_2 cy1133_3 cy1133_4 by1133_pf by1133_wf by1133_rs mfy1133 gy1133_CG gy1133_TU gy1133_WD gy1133_IM fy1133_bt iv43 hcu43 hsm43 hkc43
    have cn_x1129 := i_cl (x := x1129) bx1129.1
    have cn_tp := i_cl (x := tp) (by omega)
    have cn_fr := i_cl (x := fr) (by omega)
    have J73 : ∀  (ls1135 : Array Slot) (H1134 : Heap) (locsH1134 : List Loc) (x1137 : Int32) (x1138 : Int32) (x1139 : Int32) (x1140 : Int32) (x1141 : Int32) (x1142 : Int32), lv_has ls1135 2 [(0, .ref a0)] → TY K G H1134 → va_S (AE G [112, 136, 137] s.heap.size) s.heap H1134 locsH1134 → (6 ≤ x1137.toInt ∧ x1137.toInt ≤ 8) → (0 ≤ x1138.toInt ∧ x1138.toInt ≤ 500) → (0 ≤ x1139.toInt ∧ x1139.toInt ≤ 500) → (0 ≤ x1142.toInt ∧ x1142.toInt ≤ 500) → (x1138 = fI H1134 a0 (K.1.2 10 19)) → (x1139 = fI H1134 a0 (K.1.2 10 20)) → (x1140 = fI H1134 a0 (K.1.2 10 21)) → (x1141 = fI H1134 a0 (K.1.2 10 22)) → (x1142 = fI H1134 a0 (K.1.2 10 35)) → (@Eq Ad oq (fR H1134 a0 (K.1.2 10 32))) → (@Eq Ad aq (fR H1134 a0 (K.1.2 10 33))) → (@Eq Ad tq (fR H1134 a0 (K.1.2 10 17))) → (tp = fI H1134 a0 (K.1.2 10 18)) → (jb = fI H1134 a0 (K.1.2 10 34)) → (∀ j : Nat, j < 3000 + mn.toNatClampNeg → fI H1134 oq j = fI s.heap oq j ∧ fI H1134 aq j = fI s.heap aq j) → (WF (fun k => fI H1134 oq k) (fun k => fI H1134 aq k) (3000 + mn.toNatClampNeg) (3000 + x1142.toNatClampNeg) 0 1) → (RZ (1 - jb.toInt) (fun k => fI H1134 oq k) (fun k => fI H1134 aq k) (3000 + mn.toNatClampNeg) (3000 + x1142.toNatClampNeg) ([smG (kK bt tp.toNatClampNeg) (vV bt tp.toNatClampNeg) (1 - jb.toInt) ci])) → (MF K s.heap H1134 a0 [19, 20, 21, 22, 35, 39, 40]) → (CG (avw K H1134 a0)) → (TU (avw K H1134 a0) (svw K H1134 a0)) → (WD (avw K H1134 a0)) → (IM (avw K H1134 a0)) → (∀ j : Nat, bt j = (fI H1134 tq j).toInt) → ((x1138.toInt ≤ tp.toInt ∧ x1139.toInt ≤ x1138.toInt ∧ (x1140.toInt = 0 ∨ x1139.toInt < x1138.toInt) ∧ (x1140.toInt ≠ 2 ∨ (0 ≤ x1141.toInt ∧ x1141.toInt ≤ 23))) ∧ x1142.toInt + fr.toInt ≤ mn.toInt + x1139.toInt ∧ mn.toInt < x1142.toInt ∧ fr.toInt < x1139.toInt ∧ x1140.toInt = 4) → (CU bt tp.toNatClampNeg cj x1139 x1138 x1140 x1141) → (HD ((x1137.toInt = 6 ∧ kK bt tp.toNatClampNeg cj = 60) ∨ (x1137.toInt = 7 ∧ kK bt tp.toNatClampNeg cj = 61) ∨ (x1137.toInt = 8 ∧ kK bt tp.toNatClampNeg cj = 62))) → W p l e ({ frames := 6, cells := 0, slots := 0, locals := 128 } : Room) s m (([.ref a0] : List Value).toArray) below meth c H1134 locsH1134 0 0 Q (F0 m 73 ls1135 [.int x1137]) := by
      intro  ls1135 H1134 locsH1134 x1137 x1138 x1139 x1140 x1141 x1142 hl1136 hTH1134 hSH1134 bx1137 bx1138 bx1139 bx1142 ex1138 ex1139 ex1140 ex1141 ex1142 cy1143_0 cy1143_1 cy1143_2 cy1143_3 cy1143_4 by1143_pf by1143_wf by1143_rs mfy1143 gy1143_CG gy1143_TU gy1143_WD gy1143_IM fy1143_bt iv73 hcu73 hwc73
      have cn_x1139 := i_cl (x := x1139) bx1139.1
      refine lv_istore_n (lv' := [(1, .int x1137), (0, .ref a0)]) hx hb dX10_readCompared_73 rfl hl1136 (by decide) rfl (fun ls1144 hl1145 => ?_)
      refine lv_aload_n hx hb dX10_readCompared_74 rfl (lv_at hl1145 1 rfl) ?_
      refine x_V (As := []) (rest := []) C (a_X10_reads_e l K G H1134 (x1138) (x1139) (x1140) (x1141) (tp) bt hTH1134 ga0 gtq cy1143_2 ex1138 ex1139 ex1140 ex1141 cy1143_3 gy1143_CG gy1143_TU gy1143_WD gy1143_IM (by omega) (hy1) fy1143_bt) yo_X10_reads wM_X10_242 ⟨⟨by decide, by decide⟩, by decide, by decide⟩ (x_rv C hTH1134 (ci := 10) rfl ga0 rg_112) rfl hl1145.1 rfl (Nat.le_of_ble_eq_true rfl) dX10_readCompared_75 hSH1134 (AE_sub (fun _ _ => rfl) (by decide) hSH1134.1) (fun vH1146 H1146 locsH1146 pH1146 zH1146 kH1146 hSH1146 => ?_)
      obtain ⟨x1147, x1148, x1149, x1150, hvH1146, ex1147, ex1148, ex1149, ex1150, hrH1146, m1151, g1152, g1153, g1154, g1155, mf1156, m1157, m1158, m1159, hTH1146⟩ := pH1146
      subst hvH1146
      have b1160 : ∀ j : Nat, j < 3000 + mn.toNatClampNeg → fI H1146 oq j = fI s.heap oq j ∧ fI H1146 aq j = fI s.heap aq j := fun j hj => ⟨(fI_kept (x_lt hTH1134 kH1146 goq (by decide))).trans (by1143_pf j hj).1, (fI_kept (x_lt hTH1134 kH1146 gaq (by decide))).trans (by1143_pf j hj).2⟩
      have b1161 : WF (fun k => fI H1146 oq k) (fun k => fI H1146 aq k) (3000 + mn.toNatClampNeg) (3000 + x1142.toNatClampNeg) 0 1 := WF.congr (fun j => fI_kept (x_lt hTH1134 kH1146 goq (by decide))) (fun j => fI_kept (x_lt hTH1134 kH1146 gaq (by decide))) by1143_wf
      have b1162 : RZ (1 - jb.toInt) (fun k => fI H1146 oq k) (fun k => fI H1146 aq k) (3000 + mn.toNatClampNeg) (3000 + x1142.toNatClampNeg) ([smG (kK bt tp.toNatClampNeg) (vV bt tp.toNatClampNeg) (1 - jb.toInt) ci]) := RZ.congr (fun j => fI_kept (x_lt hTH1134 kH1146 goq (by decide))) (fun j => fI_kept (x_lt hTH1134 kH1146 gaq (by decide))) by1143_rs
      have f1163 : ∀ j : Nat, bt j = (fI H1146 tq j).toInt := fun j => (fy1143_bt j).trans (congrArg Int32.toInt (fI_kept (x_lt hTH1134 kH1146 gtq (by decide))).symm)
      have m1164 := (ex1142).trans (MF.i mf1156 (k := 35) (by decide) (by decide)).symm
      have m1165 := (cy1143_0).trans (MF.r mf1156 (k := 32) (by decide) (by decide)).symm
      have m1166 := (cy1143_1).trans (MF.r mf1156 (k := 33) (by decide) (by decide)).symm
      have m1167 := (cy1143_2).trans (MF.r mf1156 (k := 17) (by decide) (by decide)).symm
      have m1168 := (cy1143_3).trans (MF.i mf1156 (k := 18) (by decide) (by decide)).symm
      have m1169 := (cy1143_4).trans (MF.i mf1156 (k := 34) (by decide) (by decide)).symm
      have mf1170 : MF K s.heap H1146 a0 [19, 20, 21, 22, 35, 39, 40] := MF.trans mfy1143 mf1156 (by decide)
      have bx1147 := ty_fi (x := x1147) (k := 19) ex1147 hTH1146 ga0 rg_112 rfl
      have bx1148 := ty_fi (x := x1148) (k := 20) ex1148 hTH1146 ga0 rg_112 rfl
      have bx1149 := ty_fi (x := x1149) (k := 21) ex1149 hTH1146 ga0 rg_112 rfl
      have bx1150 := ty_fi (x := x1150) (k := 22) ex1150 hTH1146 ga0 rg_112 rfl
      have cn_x1148 := i_cl (x := x1148) bx1148.1
      have cu1171 : CU bt tp.toNatClampNeg (cj + 1) x1148 x1147 x1149 x1150 := CU.next hcu73 m1157 m1158 m1159 (by omega)
      refine W.eq (g2 := F0 m 78 ls1144 []) rfl ?_
      refine lv_aload_n hx hb dX10_readCompared_78 rfl (lv_at hl1145 1 rfl) ?_
      refine x_V (As := []) (rest := []) C (a_X10_readSum_g l K G H1146 (x1147) (x1148) (x1149) (x1150) (x1142) (tp) (jb) ((cj + 1)) bt hTH1146 ga0 goq m1165 gaq m1166 gtq m1151 ex1147 ex1148 ex1149 ex1150 m1164 m1168 m1169 g1152 g1153 g1154 g1155 (by omega) (by omega) (cu1171) (hy1) f1163) yo_X10_readSum wM_X10_255 ⟨⟨by decide, by decide⟩, by decide, by decide⟩ (x_rv C hTH1146 (ci := 10) rfl ga0 rg_112) rfl hl1145.1 rfl (Nat.le_of_ble_eq_true rfl) dX10_readCompared_79 hSH1146 (AE_sub (fun _ _ => rfl) (by decide) hSH1146.1) (fun vH1172 H1172 locsH1172 pH1172 zH1172 kH1172 hSH1172 => ?_)
      obtain ⟨x1173, x1174, x1175, x1176, x1177, x1178, hvH1172, bx1173, ex1174, ex1175, ex1176, ex1177, ex1178, hrH1172, m1179, m1180, m1181, g1182, g1183, g1184, g1185, mf1186, m1187, m1188, m1189, m1190, hTH1172⟩ := pH1172
      subst hvH1172
      have f1191 : ∀ j : Nat, bt j = (fI H1172 tq j).toInt := fun j => (f1163 j).trans (congrArg Int32.toInt (fI_kept (x_lt hTH1146 kH1172 gtq (by decide))).symm)
      have m1192 := (m1165).trans (MF.r mf1186 (k := 32) (by decide) (by decide)).symm
      have m1193 := (m1166).trans (MF.r mf1186 (k := 33) (by decide) (by decide)).symm
      have m1194 := (m1151).trans (MF.r mf1186 (k := 17) (by decide) (by decide)).symm
      have m1195 := (m1168).trans (MF.i mf1186 (k := 18) (by decide) (by decide)).symm
      have m1196 := (m1169).trans (MF.i mf1186 (k := 34) (by decide) (by decide)).symm
      have mf1197 : MF K s.heap H1172 a0 [19, 20, 21, 22, 35, 39, 40] := MF.trans mf1170 mf1186 (by decide)
      have bx1174 := ty_fi (x := x1174) (k := 19) ex1174 hTH1172 ga0 rg_112 rfl
      have bx1175 := ty_fi (x := x1175) (k := 20) ex1175 hTH1172 ga0 rg_112 rfl
      have bx1176 := ty_fi (x := x1176) (k := 21) ex1176 hTH1172 ga0 rg_112 rfl
      have bx1177 := ty_fi (x := x1177) (k := 22) ex1177 hTH1172 ga0 rg_112 rfl
      have bx1178 := ty_fi (x := x1178) (k := 35) ex1178 hTH1172 ga0 rg_112 rfl
      have csm1187 := i_cl (x := x1142) (by omega)
      have cs_mn := i_cl (x := mn) (by omega)
      have b1198 : ∀ j : Nat, j < 3000 + mn.toNatClampNeg → fI H1172 oq j = fI s.heap oq j ∧ fI H1172 aq j = fI s.heap aq j := fun j hj => ⟨(m1187 j (by omega)).1.trans (b1160 j hj).1, (m1187 j (by omega)).2.trans (b1160 j hj).2⟩
      have cs_mn := i_cl (x := mn) (by omega)
      have b1199 : WF (fun k => fI H1172 oq k) (fun k => fI H1172 aq k) (3000 + mn.toNatClampNeg) (3000 + x1142.toNatClampNeg) 0 1 := WF.keep b1161 (fun j hj => (m1187 j (by omega)).1) (fun j hj => (m1187 j (by omega)).2)
      have cs_mn := i_cl (x := mn) (by omega)
      have cs_tp := i_cl (x := tp) (by omega)
      have b1200 : RZ (1 - jb.toInt) (fun k => fI H1172 oq k) (fun k => fI H1172 aq k) (3000 + mn.toNatClampNeg) (3000 + x1142.toNatClampNeg) ([smG (kK bt tp.toNatClampNeg) (vV bt tp.toNatClampNeg) (1 - jb.toInt) ci]) := RZ.keep b1162 (fun j hj => (m1187 j (by omega)).1) (fun j hj => (m1187 j (by omega)).2)
      refine W.eq (g2 := F0 m 82 ls1144 [.int x1173]) rfl ?_
      refine lv_iconst (v := (-1)) hx hb dX10_readCompared_82 (by decide) ?_
      refine lv_icmp_ne (tgt := 88) hx hb dX10_readCompared_83 (by decide) (fun c1201 => ?_) (fun c1201 => ?_)
      · have k1202 := i_ne c1201
        have wu0 : WF (fun k => fI H1172 oq k) (fun k => fI H1172 aq k) (3000 + x1142.toNatClampNeg) (3000 + x1178.toNatClampNeg) 0 1 := by
          rcases m1188 with h | h
          · exfalso; omega
          · exact h
        have cq_mn := i_cl (x := mn) (by omega)
        have cq_x1142 := i_cl (x := x1142) (by omega)
        have cq_x1178 := i_cl (x := x1178) (by omega)
        have rs1203 : RZ (1 - jb.toInt) (fun k => fI H1172 oq k) (fun k => fI H1172 aq k) (3000 + mn.toNatClampNeg) (3000 + x1178.toNatClampNeg) ([(smG (kK bt tp.toNatClampNeg) (vV bt tp.toNatClampNeg) (1 - jb.toInt) (cj + 1)), smG (kK bt tp.toNatClampNeg) (vV bt tp.toNatClampNeg) (1 - jb.toInt) ci]) := RZ.catc b1200 (m1190.resolve_left (by omega)) (by omega)
        refine lv_aload_n hx hb dX10_readCompared_88 rfl (lv_at hl1145 1 rfl) ?_
        refine lv_iload_n hx hb dX10_readCompared_89 rfl (lv_at hl1145 0 rfl) ?_
        refine lv_iconst (v := 0) hx hb dX10_readCompared_90 (by decide) ?_
        refine x_V (As := [.int x1137, .int 0]) (rest := []) C (a_X10_emits l K G H1172 (x1137) (0) (x1178) hTH1172 ga0 goq m1179 gaq m1180 ex1178 g1182 g1183 g1184 g1185 (by omega)) yo_X10_emits wM_X10_238 ⟨⟨by decide, by decide⟩, by decide, by decide⟩ (x_rv C hTH1172 (ci := 10) rfl ga0 rg_112) rfl hl1145.1 rfl (Nat.le_of_ble_eq_true rfl) dX10_readCompared_91 hSH1172 (AE_sub (fun _ _ => rfl) (by decide) hSH1172.1) (fun vH1204 H1204 locsH1204 pH1204 zH1204 kH1204 hSH1204 => ?_)
        obtain ⟨x1205, hvH1204, ex1205, hrH1204, m1206, m1207, g1208, g1209, g1210, g1211, mf1212, m1213, m1214, m1215, m1216, hTH1204⟩ := pH1204
        subst hvH1204
        clear f1163 m1151 m1164 m1165 m1166 m1168 m1169
        have f1217 : ∀ j : Nat, bt j = (fI H1204 tq j).toInt := fun j => (f1191 j).trans (congrArg Int32.toInt (fI_kept (x_lt hTH1172 kH1204 gtq (by decide))).symm)
        have m1218 := (m1179).trans (MF.r mf1212 (k := 32) (by decide) (by decide)).symm
        have m1219 := (m1180).trans (MF.r mf1212 (k := 33) (by decide) (by decide)).symm
        have m1220 := (m1181).trans (MF.r mf1212 (k := 17) (by decide) (by decide)).symm
        have m1221 := (m1195).trans (MF.i mf1212 (k := 18) (by decide) (by decide)).symm
        have m1222 := (m1196).trans (MF.i mf1212 (k := 34) (by decide) (by decide)).symm
        have m1223 := (ex1174).trans (MF.i mf1212 (k := 19) (by decide) (by decide)).symm
        have m1224 := (ex1175).trans (MF.i mf1212 (k := 20) (by decide) (by decide)).symm
        have m1225 := (ex1176).trans (MF.i mf1212 (k := 21) (by decide) (by decide)).symm
        have m1226 := (ex1177).trans (MF.i mf1212 (k := 22) (by decide) (by decide)).symm
        have mf1227 : MF K s.heap H1204 a0 [19, 20, 21, 22, 35, 39, 40] := MF.trans mf1197 mf1212 (by decide)
        have bx1205 := ty_fi (x := x1205) (k := 35) ex1205 hTH1204 ga0 rg_112 rfl
        have cem1216 := i_cl (x := x1178) (by omega)
        have ce_mn := i_cl (x := mn) (by omega)
        have b1228 : ∀ j : Nat, j < 3000 + mn.toNatClampNeg → fI H1204 oq j = fI s.heap oq j ∧ fI H1204 aq j = fI s.heap aq j := fun j hj => ⟨(m1215 j (by omega)).trans (b1198 j hj).1, (m1216 j (by omega)).trans (b1198 j hj).2⟩
        have ce_mn := i_cl (x := mn) (by omega)
        have ce_x1142 := i_cl (x := x1142) (by omega)
        have b1229 : WF (fun k => fI H1204 oq k) (fun k => fI H1204 aq k) (3000 + mn.toNatClampNeg) (3000 + x1142.toNatClampNeg) 0 1 := WF.keep b1199 (fun j hj => m1215 j (by omega)) (fun j hj => m1216 j (by omega))
        have ce_mn := i_cl (x := mn) (by omega)
        have ce_tp := i_cl (x := tp) (by omega)
        have b1230 : RZ (1 - jb.toInt) (fun k => fI H1204 oq k) (fun k => fI H1204 aq k) (3000 + mn.toNatClampNeg) (3000 + x1178.toNatClampNeg) ([(smG (kK bt tp.toNatClampNeg) (vV bt tp.toNatClampNeg) (1 - jb.toInt) (cj + 1)), smG (kK bt tp.toNatClampNeg) (vV bt tp.toNatClampNeg) (1 - jb.toInt) ci]) := RZ.keep rs1203 (fun j hj => m1215 j (by omega)) (fun j hj => m1216 j (by omega))
        have ce_x1142 := i_cl (x := x1142) (by omega)
        have b1231 : WF (fun k => fI H1204 oq k) (fun k => fI H1204 aq k) (3000 + x1142.toNatClampNeg) (3000 + x1178.toNatClampNeg) 0 1 := WF.keep wu0 (fun j hj => m1215 j (by omega)) (fun j hj => m1216 j (by omega))
        refine W.eq (g2 := F0 m 94 ls1144 []) rfl ?_
        have ho := congrArg Int32.toInt m1213
        have cb_mn := i_cl (x := mn) (by omega)
        have cb_x1142 := i_cl (x := x1142) (by omega)
        have cb_x1178 := i_cl (x := x1178) (by omega)
        have wn : WF (fun k => fI H1204 oq k) (fun k => fI H1204 aq k) (3000 + mn.toNatClampNeg) (3000 + x1178.toNatClampNeg + 1) 0 1 := WF.bin b1229 b1231 (by omega) (by omega) (by show 2 ≤ (fI _ oq _).toInt ∧ (fI _ oq _).toInt ≤ 11 ∧ (fI _ oq _).toInt ≠ 9; omega) (Or.inl (by show (fI _ oq _).toInt ≠ 5; omega))
        have cq_mn := i_cl (x := mn) (by omega)
        have cq_x1178 := i_cl (x := x1178) (by omega)
        have rs1232 : RZ (1 - jb.toInt) (fun k => fI H1204 oq k) (fun k => fI H1204 aq k) (3000 + mn.toNatClampNeg) (3000 + x1178.toNatClampNeg + 1) ([cbF (kK bt tp.toNatClampNeg cj) (smG (kK bt tp.toNatClampNeg) (vV bt tp.toNatClampNeg) (1 - jb.toInt) ci) (smG (kK bt tp.toNatClampNeg) (vV bt tp.toNatClampNeg) (1 - jb.toInt) (cj + 1))]) := RZ.binc (s := (kK bt tp.toNatClampNeg cj)) b1230 (by omega) (by show (fI _ oq _).toInt = _; rw [← m1213]; rcases HD.out hwc73 with z | z | z <;> (rw [z.2]; exact z.1)) (by have hz_ := HD.out hwc73; omega)
        refine lv_iconst (v := 0) hx hb dX10_readCompared_94 (by decide) ?_
        have cr_mn := i_cl (x := mn) (by omega)
        have cr_x1178 := i_cl (x := x1178) (by omega)
        have cr_x1205 := i_cl (x := x1205) (by omega)
        obtain ⟨cj1233, ho1235, cu1234⟩ := RC.yes m1189 (by omega)
        have cq_mn := i_cl (x := mn) (by omega)
        have cq_x1178 := i_cl (x := x1178) (by omega)
        have cq_x1205 := i_cl (x := x1205) (by omega)
        exact x_iret C hQ dX10_readCompared_95 hSH1204 (by decide) (by decide) (⟨0, x1174, x1175, x1176, x1177, x1205, rfl, by decide, m1223, m1224, m1225, m1226, ex1205, by omega, m1206, m1207, m1220, g1208, g1209, g1210, g1211, mf1227, b1228, Or.inr (WF.cast wn (by omega) (by omega)), Or.inr ⟨cj1233, (cp_go hsm43 (HD.get hkc43) rfl).trans ho1235, by omega, cu1234⟩, Or.inr (RZ.cast rs1232 (by omega) (by omega) (congrArg (fun z => [z]) (cpF_at hsm43 rfl (HD.out hkc43) rfl))), hTH1204⟩)
      · have k1202 := i_eq c1201
        refine lv_iconst (v := (-1)) hx hb dX10_readCompared_86 (by decide) ?_
        exact x_iret C hQ dX10_readCompared_87 hSH1172 (by decide) (by decide) (⟨(-1), x1174, x1175, x1176, x1177, x1178, rfl, by decide, ex1174, ex1175, ex1176, ex1177, ex1178, by omega, m1179, m1180, m1181, g1182, g1183, g1184, g1185, mf1197, b1198, Or.inl (by omega), Or.inl ⟨(cp_go hsm43 (HD.get hkc43) rfl).trans (RC.no m1189 (by omega)), by omega⟩, Or.inl (by omega), hTH1172⟩)
    refine lv_aload_n hx hb dX10_readCompared_43 rfl (lv_at hl1127 0 rfl) ?_
    refine x_gi C hTH1125 (ci := 10) (k := 22) rfl inX10 (by decide) wF_X10_205 ga0 rg_112 rfl dX10_readCompared_44 (fun x1236 ex1236 bx1236 => ?_)
    have ux1236 : x1131 = x1236 := (ex1131).trans ex1236.symm
    subst ux1236
    refine lv_bipush (v := 60) hx hb dX10_readCompared_47 (by decide) ?_
    refine lv_icmp_ne (tgt := 57) hx hb dX10_readCompared_49 (by decide) (fun c1237 => ?_) (fun c1237 => ?_)
    · have k1238 := i_ne c1237
      refine lv_aload_n hx hb dX10_readCompared_57 rfl (lv_at hl1127 0 rfl) ?_
      refine x_gi C hTH1125 (ci := 10) (k := 22) rfl inX10 (by decide) wF_X10_205 ga0 rg_112 rfl dX10_readCompared_58 (fun x1239 ex1239 bx1239 => ?_)
      have ux1239 : x1131 = x1239 := (ex1131).trans ex1239.symm
      subst ux1239
      refine lv_bipush (v := 61) hx hb dX10_readCompared_61 (by decide) ?_
      refine lv_icmp_ne (tgt := 71) hx hb dX10_readCompared_63 (by decide) (fun c1240 => ?_) (fun c1240 => ?_)
      · have k1241 := i_ne c1240
        refine lv_bipush (v := 8) hx hb dX10_readCompared_71 (by decide) ?_
        have cl_mn := i_cl (x := mn) (by omega)
        have cl_mn := i_cl (x := mn) (by omega)
        have cl_x1132 := i_cl (x := x1132) (by omega)
        have cl_mn := i_cl (x := mn) (by omega)
        have cl_tp := i_cl (x := tp) (by omega)
        have cl_x1132 := i_cl (x := x1132) (by omega)
        have z60 := TV.sg (c := 60) hcu43.2.2.1 (by decide)
        have z61 := TV.sg (c := 61) hcu43.2.2.1 (by decide)
        have z62 := TV.sg (c := 62) hcu43.2.2.1 (by decide)
        have zp := HD.out hkc43
        exact J73  ls1126 H1125 locsH1125 (8) (x1128) (x1129) (x1130) (x1131) (x1132) (lv_sub hl1127 [0] rfl) hTH1125 hSH1125 (by decide) bx1128 bx1129 bx1132 ex1128 ex1129 ex1130 ex1131 ex1132 cy1133_0 cy1133_1 cy1133_2 cy1133_3 cy1133_4 by1133_pf (WF.cast by1133_wf (by omega) (by omega)) (RZ.cast by1133_rs (by omega) (by omega) rfl) mfy1133 gy1133_CG gy1133_TU gy1133_WD gy1133_IM fy1133_bt (by omega) hcu43 (HD.mk (Or.inr (Or.inr ⟨rfl, by omega⟩)))
      · have k1241 := i_eq c1240
        refine lv_bipush (v := 7) hx hb dX10_readCompared_66 (by decide) ?_
        refine lv_goto (tgt := 73) hx hb dX10_readCompared_68 (by decide) ?_
        have cl_mn := i_cl (x := mn) (by omega)
        have cl_mn := i_cl (x := mn) (by omega)
        have cl_x1132 := i_cl (x := x1132) (by omega)
        have cl_mn := i_cl (x := mn) (by omega)
        have cl_tp := i_cl (x := tp) (by omega)
        have cl_x1132 := i_cl (x := x1132) (by omega)
        have z60 := TV.sg (c := 60) hcu43.2.2.1 (by decide)
        have z61 := TV.sg (c := 61) hcu43.2.2.1 (by decide)
        have z62 := TV.sg (c := 62) hcu43.2.2.1 (by decide)
        have zp := HD.out hkc43
        exact J73  ls1126 H1125 locsH1125 (7) (x1128) (x1129) (x1130) (x1131) (x1132) (lv_sub hl1127 [0] rfl) hTH1125 hSH1125 (by decide) bx1128 bx1129 bx1132 ex1128 ex1129 ex1130 ex1131 ex1132 cy1133_0 cy1133_1 cy1133_2 cy1133_3 cy1133_4 by1133_pf (WF.cast by1133_wf (by omega) (by omega)) (RZ.cast by1133_rs (by omega) (by omega) rfl) mfy1133 gy1133_CG gy1133_TU gy1133_WD gy1133_IM fy1133_bt (by omega) hcu43 (HD.mk (Or.inr (Or.inl ⟨rfl, by omega⟩)))
    · have k1238 := i_eq c1237
      refine lv_bipush (v := 6) hx hb dX10_readCompared_52 (by decide) ?_
      refine lv_goto (tgt := 73) hx hb dX10_readCompared_54 (by decide) ?_
      have cl_mn := i_cl (x := mn) (by omega)
      have cl_mn := i_cl (x := mn) (by omega)
      have cl_x1132 := i_cl (x := x1132) (by omega)
      have cl_mn := i_cl (x := mn) (by omega)
      have cl_tp := i_cl (x := tp) (by omega)
      have cl_x1132 := i_cl (x := x1132) (by omega)
      have z60 := TV.sg (c := 60) hcu43.2.2.1 (by decide)
      have z61 := TV.sg (c := 61) hcu43.2.2.1 (by decide)
      have z62 := TV.sg (c := 62) hcu43.2.2.1 (by decide)
      have zp := HD.out hkc43
      exact J73  ls1126 H1125 locsH1125 (6) (x1128) (x1129) (x1130) (x1131) (x1132) (lv_sub hl1127 [0] rfl) hTH1125 hSH1125 (by decide) bx1128 bx1129 bx1132 ex1128 ex1129 ex1130 ex1131 ex1132 cy1133_0 cy1133_1 cy1133_2 cy1133_3 cy1133_4 by1133_pf (WF.cast by1133_wf (by omega) (by omega)) (RZ.cast by1133_rs (by omega) (by omega) rfl) mfy1133 gy1133_CG gy1133_TU gy1133_WD gy1133_IM fy1133_bt (by omega) hcu43 (HD.mk (Or.inl ⟨rfl, by omega⟩))
  have pf00 : ∀ j : Nat, j < 3000 + mn.toNatClampNeg → fI s.heap oq j = fI s.heap oq j ∧ fI s.heap aq j = fI s.heap aq j := fun _ _ => ⟨rfl, rfl⟩
  have hmn := i_cl (x := mn) (by omega)
  refine lv_aload_n hx hb dX10_readCompared_0 rfl (lv_at hl 0 rfl) ?_
  refine x_V (As := []) (rest := []) C (a_X10_readSum_g l K G s.heap (sp) (fr) (tk) (vl) (mn) (tp) (jb) (ci) bt hT ga0 goq eoq gaq eaq gtq etq esp efr etk evl emn etp ejb hg_CG hg_TU hg_WD hg_IM (by omega) (by omega) (hy0) (hy1) f0_bt) yo_X10_readSum wM_X10_255 ⟨⟨by decide, by decide⟩, by decide, by decide⟩ (x_rv C hT (ci := 10) rfl ga0 rg_112) rfl hl.1 rfl (Nat.le_of_ble_eq_true rfl) dX10_readCompared_1 hS (AE_sub (fun _ _ => rfl) (by decide) hS.1) (fun vH1242 H1242 locsH1242 pH1242 zH1242 kH1242 hSH1242 => ?_)
  obtain ⟨x1243, x1244, x1245, x1246, x1247, x1248, hvH1242, bx1243, ex1244, ex1245, ex1246, ex1247, ex1248, hrH1242, m1249, m1250, m1251, g1252, g1253, g1254, g1255, mf1256, m1257, m1258, m1259, m1260, hTH1242⟩ := pH1242
  subst hvH1242
  have f1261 : ∀ j : Nat, bt j = (fI H1242 tq j).toInt := fun j => (f0_bt j).trans (congrArg Int32.toInt (fI_kept (x_lt hT kH1242 gtq (by decide))).symm)
  have m1262 := (eoq).trans (MF.r mf1256 (k := 32) (by decide) (by decide)).symm
  have m1263 := (eaq).trans (MF.r mf1256 (k := 33) (by decide) (by decide)).symm
  have m1264 := (etq).trans (MF.r mf1256 (k := 17) (by decide) (by decide)).symm
  have m1265 := (etp).trans (MF.i mf1256 (k := 18) (by decide) (by decide)).symm
  have m1266 := (ejb).trans (MF.i mf1256 (k := 34) (by decide) (by decide)).symm
  have mf1267 : MF K s.heap H1242 a0 [19, 20, 21, 22, 35, 39, 40] := MF.trans mf0 mf1256 (by decide)
  have bx1244 := ty_fi (x := x1244) (k := 19) ex1244 hTH1242 ga0 rg_112 rfl
  have bx1245 := ty_fi (x := x1245) (k := 20) ex1245 hTH1242 ga0 rg_112 rfl
  have bx1246 := ty_fi (x := x1246) (k := 21) ex1246 hTH1242 ga0 rg_112 rfl
  have bx1247 := ty_fi (x := x1247) (k := 22) ex1247 hTH1242 ga0 rg_112 rfl
  have bx1248 := ty_fi (x := x1248) (k := 35) ex1248 hTH1242 ga0 rg_112 rfl
  have csm1257 := i_cl (x := mn) (by omega)
  have b1268 : ∀ j : Nat, j < 3000 + mn.toNatClampNeg → fI H1242 oq j = fI s.heap oq j ∧ fI H1242 aq j = fI s.heap aq j := fun j hj => ⟨(m1257 j (by omega)).1.trans (pf00 j hj).1, (m1257 j (by omega)).2.trans (pf00 j hj).2⟩
  refine W.eq (g2 := F0 m 4 ls [.int x1243]) rfl ?_
  refine lv_iconst (v := (-1)) hx hb dX10_readCompared_4 (by decide) ?_
  refine lv_icmp_ne (tgt := 10) hx hb dX10_readCompared_5 (by decide) (fun c1269 => ?_) (fun c1269 => ?_)
  · have k1270 := i_ne c1269
    have wf0 : WF (fun k => fI H1242 oq k) (fun k => fI H1242 aq k) (3000 + mn.toNatClampNeg) (3000 + x1248.toNatClampNeg) 0 1 := by
      rcases m1258 with h | h
      · exfalso; omega
      · exact h
    have rs1271 : RZ (1 - jb.toInt) (fun k => fI H1242 oq k) (fun k => fI H1242 aq k) (3000 + mn.toNatClampNeg) (3000 + x1248.toNatClampNeg) ([(smG (kK bt tp.toNatClampNeg) (vV bt tp.toNatClampNeg) (1 - jb.toInt) ci)]) := m1260.resolve_left (by omega)
    refine lv_aload_n hx hb dX10_readCompared_10 rfl (lv_at hl 0 rfl) ?_
    refine lv_bipush (v := 60) hx hb dX10_readCompared_11 (by decide) ?_
    refine x_V (As := [.int 60]) (rest := []) C (a_X10_isSign_e l K G H1242 (60) (x1246) (x1247) hTH1242 ga0 ex1246 ex1247) yo_X10_isSign wM_X10_249 ⟨⟨by decide, by decide⟩, by decide, by decide⟩ (x_rv C hTH1242 (ci := 10) rfl ga0 rg_112) rfl hl.1 rfl (Nat.le_of_ble_eq_true rfl) dX10_readCompared_13 hSH1242 (AE_sub (fun _ _ => rfl) (by decide) hSH1242.1) (fun vH1272 H1272 locsH1272 pH1272 zH1272 kH1272 hSH1272 => ?_)
    obtain ⟨x1273, hvH1272, bx1273, hrH1272, hTH1272⟩ := pH1272
    subst hvH1272
    have mf1274 : MF K s.heap H1272 a0 [19, 20, 21, 22, 35, 39, 40] := MF.eff (x_lt hTH1242 kH1272 ga0 (by decide)) mf1267
    have b1275 : ∀ j : Nat, j < 3000 + mn.toNatClampNeg → fI H1272 oq j = fI s.heap oq j ∧ fI H1272 aq j = fI s.heap aq j := fun j hj => ⟨(fI_kept (x_lt hTH1242 kH1272 goq (by decide))).trans (b1268 j hj).1, (fI_kept (x_lt hTH1242 kH1272 gaq (by decide))).trans (b1268 j hj).2⟩
    have b1276 : WF (fun k => fI H1272 oq k) (fun k => fI H1272 aq k) (3000 + mn.toNatClampNeg) (3000 + x1248.toNatClampNeg) 0 1 := WF.congr (fun j => fI_kept (x_lt hTH1242 kH1272 goq (by decide))) (fun j => fI_kept (x_lt hTH1242 kH1272 gaq (by decide))) wf0
    have b1277 : RZ (1 - jb.toInt) (fun k => fI H1272 oq k) (fun k => fI H1272 aq k) (3000 + mn.toNatClampNeg) (3000 + x1248.toNatClampNeg) ([(smG (kK bt tp.toNatClampNeg) (vV bt tp.toNatClampNeg) (1 - jb.toInt) ci)]) := RZ.congr (fun j => fI_kept (x_lt hTH1242 kH1272 goq (by decide))) (fun j => fI_kept (x_lt hTH1242 kH1272 gaq (by decide))) rs1271
    have g1278 : CG (avw K H1272 a0) := CG.congr (fun k hk j => av_eff hTH1242 kH1272 ga0 (by decide) (CG_eff [] (by decide) k hk)) g1252
    have g1279 : TU (avw K H1272 a0) (svw K H1272 a0) := TU.congr (fun k hk j => av_eff hTH1242 kH1272 ga0 (by decide) (TU_eff [] (by decide) k hk)) (fun k hk => sv_eff hTH1242 kH1272 ga0 (by decide)) g1253
    have g1280 : WD (avw K H1272 a0) := WD.congr (fun k hk j => av_eff hTH1242 kH1272 ga0 (by decide) (WD_eff [] (by decide) k hk)) g1254
    have g1281 : IM (avw K H1272 a0) := IM.congr (fun k hk j => av_eff hTH1242 kH1272 ga0 (by decide) (IM_eff [] (by decide) k hk)) g1255
    have f1282 : ∀ j : Nat, bt j = (fI H1272 tq j).toInt := fun j => (f1261 j).trans (congrArg Int32.toInt (fI_kept (x_lt hTH1242 kH1272 gtq (by decide))).symm)
    have m1283 := (m1249).trans (fR_kept (x_lt hTH1242 kH1272 ga0 (by decide))).symm
    have m1284 := (m1250).trans (fR_kept (x_lt hTH1242 kH1272 ga0 (by decide))).symm
    have m1285 := (m1251).trans (fR_kept (x_lt hTH1242 kH1272 ga0 (by decide))).symm
    have m1286 := (m1265).trans (fI_kept (x_lt hTH1242 kH1272 ga0 (by decide))).symm
    have m1287 := (m1266).trans (fI_kept (x_lt hTH1242 kH1272 ga0 (by decide))).symm
    have m1288 := (ex1244).trans (fI_kept (x_lt hTH1242 kH1272 ga0 (by decide))).symm
    have m1289 := (ex1245).trans (fI_kept (x_lt hTH1242 kH1272 ga0 (by decide))).symm
    have m1290 := (ex1246).trans (fI_kept (x_lt hTH1242 kH1272 ga0 (by decide))).symm
    have m1291 := (ex1247).trans (fI_kept (x_lt hTH1242 kH1272 ga0 (by decide))).symm
    have m1292 := (ex1248).trans (fI_kept (x_lt hTH1242 kH1272 ga0 (by decide))).symm
    refine W.eq (g2 := F0 m 16 ls [.int x1273]) rfl ?_
    refine lv_if_ne (tgt := 43) hx hb dX10_readCompared_16 (by decide) (fun c1293 => ?_) (fun c1293 => ?_)
    · have k1294 := i_ne c1293
      have cl_mn := i_cl (x := mn) (by omega)
      have cl_mn := i_cl (x := mn) (by omega)
      have cl_x1248 := i_cl (x := x1248) (by omega)
      have cl_mn := i_cl (x := mn) (by omega)
      have cl_tp := i_cl (x := tp) (by omega)
      have cl_x1248 := i_cl (x := x1248) (by omega)
      obtain ⟨cj1295, ho1297, cu1296⟩ := RC.yes m1259 (by omega)
      have kc_ : kK bt tp.toNatClampNeg cj1295 = 60 := (TV.sg (c := 60) cu1296.2.2.1 (by decide)).mp ⟨by omega, by omega⟩
      exact J43 cj1295 ls H1272 locsH1272 (x1244) (x1245) (x1246) (x1247) (x1248) (lv_sub hl [0] rfl) hTH1272 hSH1272 bx1244 bx1245 bx1248 m1288 m1289 m1290 m1291 m1292 m1283 m1284 m1285 m1286 m1287 b1275 (WF.cast b1276 (by omega) (by omega)) (RZ.cast b1277 (by omega) (by omega) rfl) mf1274 g1278 g1279 g1280 g1281 f1282 (by omega) cu1296 ho1297 (HD.mk (Or.inl kc_))
    · have k1294 := i_eq c1293
      refine lv_aload_n hx hb dX10_readCompared_19 rfl (lv_at hl 0 rfl) ?_
      refine lv_bipush (v := 61) hx hb dX10_readCompared_20 (by decide) ?_
      refine x_V (As := [.int 61]) (rest := []) C (a_X10_isSign_e l K G H1272 (61) (x1246) (x1247) hTH1272 ga0 m1290 m1291) yo_X10_isSign wM_X10_249 ⟨⟨by decide, by decide⟩, by decide, by decide⟩ (x_rv C hTH1272 (ci := 10) rfl ga0 rg_112) rfl hl.1 rfl (Nat.le_of_ble_eq_true rfl) dX10_readCompared_22 hSH1272 (AE_sub (fun _ _ => rfl) (by decide) hSH1272.1) (fun vH1298 H1298 locsH1298 pH1298 zH1298 kH1298 hSH1298 => ?_)
      obtain ⟨x1299, hvH1298, bx1299, hrH1298, hTH1298⟩ := pH1298
      subst hvH1298
      clear f1261 m1249 m1250 m1251 m1265 m1266
      have mf1300 : MF K s.heap H1298 a0 [19, 20, 21, 22, 35, 39, 40] := MF.eff (x_lt hTH1272 kH1298 ga0 (by decide)) mf1274
      have b1301 : ∀ j : Nat, j < 3000 + mn.toNatClampNeg → fI H1298 oq j = fI s.heap oq j ∧ fI H1298 aq j = fI s.heap aq j := fun j hj => ⟨(fI_kept (x_lt hTH1272 kH1298 goq (by decide))).trans (b1275 j hj).1, (fI_kept (x_lt hTH1272 kH1298 gaq (by decide))).trans (b1275 j hj).2⟩
      have b1302 : WF (fun k => fI H1298 oq k) (fun k => fI H1298 aq k) (3000 + mn.toNatClampNeg) (3000 + x1248.toNatClampNeg) 0 1 := WF.congr (fun j => fI_kept (x_lt hTH1272 kH1298 goq (by decide))) (fun j => fI_kept (x_lt hTH1272 kH1298 gaq (by decide))) b1276
      have b1303 : RZ (1 - jb.toInt) (fun k => fI H1298 oq k) (fun k => fI H1298 aq k) (3000 + mn.toNatClampNeg) (3000 + x1248.toNatClampNeg) ([(smG (kK bt tp.toNatClampNeg) (vV bt tp.toNatClampNeg) (1 - jb.toInt) ci)]) := RZ.congr (fun j => fI_kept (x_lt hTH1272 kH1298 goq (by decide))) (fun j => fI_kept (x_lt hTH1272 kH1298 gaq (by decide))) b1277
      have g1304 : CG (avw K H1298 a0) := CG.congr (fun k hk j => av_eff hTH1272 kH1298 ga0 (by decide) (CG_eff [] (by decide) k hk)) g1278
      have g1305 : TU (avw K H1298 a0) (svw K H1298 a0) := TU.congr (fun k hk j => av_eff hTH1272 kH1298 ga0 (by decide) (TU_eff [] (by decide) k hk)) (fun k hk => sv_eff hTH1272 kH1298 ga0 (by decide)) g1279
      have g1306 : WD (avw K H1298 a0) := WD.congr (fun k hk j => av_eff hTH1272 kH1298 ga0 (by decide) (WD_eff [] (by decide) k hk)) g1280
      have g1307 : IM (avw K H1298 a0) := IM.congr (fun k hk j => av_eff hTH1272 kH1298 ga0 (by decide) (IM_eff [] (by decide) k hk)) g1281
      have f1308 : ∀ j : Nat, bt j = (fI H1298 tq j).toInt := fun j => (f1282 j).trans (congrArg Int32.toInt (fI_kept (x_lt hTH1272 kH1298 gtq (by decide))).symm)
      have m1309 := (m1283).trans (fR_kept (x_lt hTH1272 kH1298 ga0 (by decide))).symm
      have m1310 := (m1284).trans (fR_kept (x_lt hTH1272 kH1298 ga0 (by decide))).symm
      have m1311 := (m1285).trans (fR_kept (x_lt hTH1272 kH1298 ga0 (by decide))).symm
      have m1312 := (m1286).trans (fI_kept (x_lt hTH1272 kH1298 ga0 (by decide))).symm
      have m1313 := (m1287).trans (fI_kept (x_lt hTH1272 kH1298 ga0 (by decide))).symm
      have m1314 := (m1288).trans (fI_kept (x_lt hTH1272 kH1298 ga0 (by decide))).symm
      have m1315 := (m1289).trans (fI_kept (x_lt hTH1272 kH1298 ga0 (by decide))).symm
      have m1316 := (m1290).trans (fI_kept (x_lt hTH1272 kH1298 ga0 (by decide))).symm
      have m1317 := (m1291).trans (fI_kept (x_lt hTH1272 kH1298 ga0 (by decide))).symm
      have m1318 := (m1292).trans (fI_kept (x_lt hTH1272 kH1298 ga0 (by decide))).symm
      refine W.eq (g2 := F0 m 25 ls [.int x1299]) rfl ?_
      refine lv_if_ne (tgt := 43) hx hb dX10_readCompared_25 (by decide) (fun c1319 => ?_) (fun c1319 => ?_)
      · have k1320 := i_ne c1319
        have cl_mn := i_cl (x := mn) (by omega)
        have cl_mn := i_cl (x := mn) (by omega)
        have cl_x1248 := i_cl (x := x1248) (by omega)
        have cl_mn := i_cl (x := mn) (by omega)
        have cl_tp := i_cl (x := tp) (by omega)
        have cl_x1248 := i_cl (x := x1248) (by omega)
        obtain ⟨cj1321, ho1323, cu1322⟩ := RC.yes m1259 (by omega)
        have kc_ : kK bt tp.toNatClampNeg cj1321 = 61 := (TV.sg (c := 61) cu1322.2.2.1 (by decide)).mp ⟨by omega, by omega⟩
        exact J43 cj1321 ls H1298 locsH1298 (x1244) (x1245) (x1246) (x1247) (x1248) (lv_sub hl [0] rfl) hTH1298 hSH1298 bx1244 bx1245 bx1248 m1314 m1315 m1316 m1317 m1318 m1309 m1310 m1311 m1312 m1313 b1301 (WF.cast b1302 (by omega) (by omega)) (RZ.cast b1303 (by omega) (by omega) rfl) mf1300 g1304 g1305 g1306 g1307 f1308 (by omega) cu1322 ho1323 (HD.mk (Or.inr (Or.inl kc_)))
      · have k1320 := i_eq c1319
        refine lv_aload_n hx hb dX10_readCompared_28 rfl (lv_at hl 0 rfl) ?_
        refine lv_bipush (v := 62) hx hb dX10_readCompared_29 (by decide) ?_
        refine x_V (As := [.int 62]) (rest := []) C (a_X10_isSign_e l K G H1298 (62) (x1246) (x1247) hTH1298 ga0 m1316 m1317) yo_X10_isSign wM_X10_249 ⟨⟨by decide, by decide⟩, by decide, by decide⟩ (x_rv C hTH1298 (ci := 10) rfl ga0 rg_112) rfl hl.1 rfl (Nat.le_of_ble_eq_true rfl) dX10_readCompared_31 hSH1298 (AE_sub (fun _ _ => rfl) (by decide) hSH1298.1) (fun vH1324 H1324 locsH1324 pH1324 zH1324 kH1324 hSH1324 => ?_)
        obtain ⟨x1325, hvH1324, bx1325, hrH1324, hTH1324⟩ := pH1324
        subst hvH1324
        clear f1282 m1283 m1284 m1285 m1286 m1287 m1288 m1289 m1290 m1291 m1292
        have mf1326 : MF K s.heap H1324 a0 [19, 20, 21, 22, 35, 39, 40] := MF.eff (x_lt hTH1298 kH1324 ga0 (by decide)) mf1300
        have b1327 : ∀ j : Nat, j < 3000 + mn.toNatClampNeg → fI H1324 oq j = fI s.heap oq j ∧ fI H1324 aq j = fI s.heap aq j := fun j hj => ⟨(fI_kept (x_lt hTH1298 kH1324 goq (by decide))).trans (b1301 j hj).1, (fI_kept (x_lt hTH1298 kH1324 gaq (by decide))).trans (b1301 j hj).2⟩
        have b1328 : WF (fun k => fI H1324 oq k) (fun k => fI H1324 aq k) (3000 + mn.toNatClampNeg) (3000 + x1248.toNatClampNeg) 0 1 := WF.congr (fun j => fI_kept (x_lt hTH1298 kH1324 goq (by decide))) (fun j => fI_kept (x_lt hTH1298 kH1324 gaq (by decide))) b1302
        have b1329 : RZ (1 - jb.toInt) (fun k => fI H1324 oq k) (fun k => fI H1324 aq k) (3000 + mn.toNatClampNeg) (3000 + x1248.toNatClampNeg) ([(smG (kK bt tp.toNatClampNeg) (vV bt tp.toNatClampNeg) (1 - jb.toInt) ci)]) := RZ.congr (fun j => fI_kept (x_lt hTH1298 kH1324 goq (by decide))) (fun j => fI_kept (x_lt hTH1298 kH1324 gaq (by decide))) b1303
        have g1330 : CG (avw K H1324 a0) := CG.congr (fun k hk j => av_eff hTH1298 kH1324 ga0 (by decide) (CG_eff [] (by decide) k hk)) g1304
        have g1331 : TU (avw K H1324 a0) (svw K H1324 a0) := TU.congr (fun k hk j => av_eff hTH1298 kH1324 ga0 (by decide) (TU_eff [] (by decide) k hk)) (fun k hk => sv_eff hTH1298 kH1324 ga0 (by decide)) g1305
        have g1332 : WD (avw K H1324 a0) := WD.congr (fun k hk j => av_eff hTH1298 kH1324 ga0 (by decide) (WD_eff [] (by decide) k hk)) g1306
        have g1333 : IM (avw K H1324 a0) := IM.congr (fun k hk j => av_eff hTH1298 kH1324 ga0 (by decide) (IM_eff [] (by decide) k hk)) g1307
        have f1334 : ∀ j : Nat, bt j = (fI H1324 tq j).toInt := fun j => (f1308 j).trans (congrArg Int32.toInt (fI_kept (x_lt hTH1298 kH1324 gtq (by decide))).symm)
        have m1335 := (m1309).trans (fR_kept (x_lt hTH1298 kH1324 ga0 (by decide))).symm
        have m1336 := (m1310).trans (fR_kept (x_lt hTH1298 kH1324 ga0 (by decide))).symm
        have m1337 := (m1311).trans (fR_kept (x_lt hTH1298 kH1324 ga0 (by decide))).symm
        have m1338 := (m1312).trans (fI_kept (x_lt hTH1298 kH1324 ga0 (by decide))).symm
        have m1339 := (m1313).trans (fI_kept (x_lt hTH1298 kH1324 ga0 (by decide))).symm
        have m1340 := (m1314).trans (fI_kept (x_lt hTH1298 kH1324 ga0 (by decide))).symm
        have m1341 := (m1315).trans (fI_kept (x_lt hTH1298 kH1324 ga0 (by decide))).symm
        have m1342 := (m1316).trans (fI_kept (x_lt hTH1298 kH1324 ga0 (by decide))).symm
        have m1343 := (m1317).trans (fI_kept (x_lt hTH1298 kH1324 ga0 (by decide))).symm
        have m1344 := (m1318).trans (fI_kept (x_lt hTH1298 kH1324 ga0 (by decide))).symm
        refine W.eq (g2 := F0 m 34 ls [.int x1325]) rfl ?_
        refine lv_if_ne (tgt := 43) hx hb dX10_readCompared_34 (by decide) (fun c1345 => ?_) (fun c1345 => ?_)
        · have k1346 := i_ne c1345
          have cl_mn := i_cl (x := mn) (by omega)
          have cl_mn := i_cl (x := mn) (by omega)
          have cl_x1248 := i_cl (x := x1248) (by omega)
          have cl_mn := i_cl (x := mn) (by omega)
          have cl_tp := i_cl (x := tp) (by omega)
          have cl_x1248 := i_cl (x := x1248) (by omega)
          obtain ⟨cj1347, ho1349, cu1348⟩ := RC.yes m1259 (by omega)
          have kc_ : kK bt tp.toNatClampNeg cj1347 = 62 := (TV.sg (c := 62) cu1348.2.2.1 (by decide)).mp ⟨by omega, by omega⟩
          exact J43 cj1347 ls H1324 locsH1324 (x1244) (x1245) (x1246) (x1247) (x1248) (lv_sub hl [0] rfl) hTH1324 hSH1324 bx1244 bx1245 bx1248 m1340 m1341 m1342 m1343 m1344 m1335 m1336 m1337 m1338 m1339 b1327 (WF.cast b1328 (by omega) (by omega)) (RZ.cast b1329 (by omega) (by omega) rfl) mf1326 g1330 g1331 g1332 g1333 f1334 (by omega) cu1348 ho1349 (HD.mk (Or.inr (Or.inr kc_)))
        · have k1346 := i_eq c1345
          refine lv_aload_n hx hb dX10_readCompared_37 rfl (lv_at hl 0 rfl) ?_
          refine lv_iconst (v := 1) hx hb dX10_readCompared_38 (by decide) ?_
          refine x_V (As := [.int 1]) (rest := []) C (a_X10_fails l K G H1324 (1) hTH1324 ga0 g1330 g1331 g1332 g1333) yo_X10_fails wM_X10_235 ⟨⟨by decide, by decide⟩, by decide, by decide⟩ (x_rv C hTH1324 (ci := 10) rfl ga0 rg_112) rfl hl.1 rfl (Nat.le_of_ble_eq_true rfl) dX10_readCompared_39 hSH1324 (AE_sub (fun _ _ => rfl) (by decide) hSH1324.1) (fun vH1350 H1350 locsH1350 pH1350 zH1350 kH1350 hSH1350 => ?_)
          obtain ⟨x1351, hvH1350, bx1351, g1352, g1353, g1354, g1355, mf1356, hTH1350⟩ := pH1350
          subst hvH1350
          clear f1308 m1309 m1310 m1311 m1312 m1313 m1314 m1315 m1316 m1317 m1318
          have b1357 : ∀ j : Nat, j < 3000 + mn.toNatClampNeg → fI H1350 oq j = fI s.heap oq j ∧ fI H1350 aq j = fI s.heap aq j := fun j hj => ⟨(fI_kept (x_lt hTH1324 kH1350 goq (by decide))).trans (b1327 j hj).1, (fI_kept (x_lt hTH1324 kH1350 gaq (by decide))).trans (b1327 j hj).2⟩
          have b1358 : WF (fun k => fI H1350 oq k) (fun k => fI H1350 aq k) (3000 + mn.toNatClampNeg) (3000 + x1248.toNatClampNeg) 0 1 := WF.congr (fun j => fI_kept (x_lt hTH1324 kH1350 goq (by decide))) (fun j => fI_kept (x_lt hTH1324 kH1350 gaq (by decide))) b1328
          have b1359 : RZ (1 - jb.toInt) (fun k => fI H1350 oq k) (fun k => fI H1350 aq k) (3000 + mn.toNatClampNeg) (3000 + x1248.toNatClampNeg) ([(smG (kK bt tp.toNatClampNeg) (vV bt tp.toNatClampNeg) (1 - jb.toInt) ci)]) := RZ.congr (fun j => fI_kept (x_lt hTH1324 kH1350 goq (by decide))) (fun j => fI_kept (x_lt hTH1324 kH1350 gaq (by decide))) b1329
          have f1360 : ∀ j : Nat, bt j = (fI H1350 tq j).toInt := fun j => (f1334 j).trans (congrArg Int32.toInt (fI_kept (x_lt hTH1324 kH1350 gtq (by decide))).symm)
          have m1361 := (m1335).trans (MF.r mf1356 (k := 32) (by decide) (by decide)).symm
          have m1362 := (m1336).trans (MF.r mf1356 (k := 33) (by decide) (by decide)).symm
          have m1363 := (m1337).trans (MF.r mf1356 (k := 17) (by decide) (by decide)).symm
          have m1364 := (m1338).trans (MF.i mf1356 (k := 18) (by decide) (by decide)).symm
          have m1365 := (m1339).trans (MF.i mf1356 (k := 34) (by decide) (by decide)).symm
          have m1366 := (m1340).trans (MF.i mf1356 (k := 19) (by decide) (by decide)).symm
          have m1367 := (m1341).trans (MF.i mf1356 (k := 20) (by decide) (by decide)).symm
          have m1368 := (m1342).trans (MF.i mf1356 (k := 21) (by decide) (by decide)).symm
          have m1369 := (m1343).trans (MF.i mf1356 (k := 22) (by decide) (by decide)).symm
          have m1370 := (m1344).trans (MF.i mf1356 (k := 35) (by decide) (by decide)).symm
          have mf1371 : MF K s.heap H1350 a0 [19, 20, 21, 22, 35, 39, 40] := MF.trans mf1326 mf1356 (by decide)
          refine W.eq (g2 := F0 m 42 ls [.int x1351]) rfl ?_
          have cn_fr := i_cl (x := fr) (by omega)
          obtain ⟨cj1372, ho1374, cu1373⟩ := RC.yes m1259 (by omega)
          have k60_ : kK bt tp.toNatClampNeg cj1372 ≠ 60 := fun e => by have z_ := (TV.sg (c := 60) cu1373.2.2.1 (by decide)).mpr e; omega
          have k61_ : kK bt tp.toNatClampNeg cj1372 ≠ 61 := fun e => by have z_ := (TV.sg (c := 61) cu1373.2.2.1 (by decide)).mpr e; omega
          have k62_ : kK bt tp.toNatClampNeg cj1372 ≠ 62 := fun e => by have z_ := (TV.sg (c := 62) cu1373.2.2.1 (by decide)).mpr e; omega
          exact x_iret C hQ dX10_readCompared_42 hSH1350 (by decide) (by decide) (⟨x1351, x1244, x1245, x1246, x1247, x1248, rfl, by omega, m1366, m1367, m1368, m1369, m1370, by omega, m1361, m1362, m1363, g1352, g1353, g1354, g1355, mf1371, b1357, Or.inl (by omega), Or.inl ⟨cp_no2 ho1374 ⟨k60_, k61_, k62_⟩, by omega⟩, Or.inl (by omega), hTH1350⟩)
  · have k1270 := i_eq c1269
    refine lv_iconst (v := (-1)) hx hb dX10_readCompared_8 (by decide) ?_
    have cn_fr := i_cl (x := fr) (by omega)
    exact x_iret C hQ dX10_readCompared_9 hSH1242 (by decide) (by decide) (⟨(-1), x1244, x1245, x1246, x1247, x1248, rfl, by decide, ex1244, ex1245, ex1246, ex1247, ex1248, by omega, m1249, m1250, m1251, g1252, g1253, g1254, g1255, mf1267, b1268, Or.inl (by omega), Or.inl ⟨cp_no1 (RC.no m1259 (by omega)), by omega⟩, Or.inl (by omega), hTH1242⟩)
