set_option maxHeartbeats 4000000 in
set_option maxRecDepth 100000 in
theorem a_X10_readNumber_g (l : Launch) (K : KE) (G : Nat → Option Nat) (H : Heap) {a0 : Nat} (x1 : Int32) (x2 : Int32) {tq : Nat} (sp : Int32) (fr : Int32) (tk : Int32) (vl : Int32) (tp : Int32) (ci : Nat) (bt : Nat → Int) (hT : TY K G H) (ga0 : G a0 = some 112) (hx1 : 0 ≤ x1.toInt ∧ x1.toInt ≤ 1) (hx2 : 0 ≤ x2.toInt ∧ x2.toInt ≤ 99) (gtq : G tq = some 126) (etq : @Eq Ad tq (fR H a0 (K.1.2 10 17))) (esp : sp = fI H a0 (K.1.2 10 19)) (efr : fr = fI H a0 (K.1.2 10 20)) (etk : tk = fI H a0 (K.1.2 10 21)) (evl : vl = fI H a0 (K.1.2 10 22)) (etp : tp = fI H a0 (K.1.2 10 18)) (hg_CG : CG (avw K H a0)) (hg_TU : TU (avw K H a0) (svw K H a0)) (hg_WD : WD (avw K H a0)) (hg_IM : IM (avw K H a0)) (hp0 : (sp.toInt ≤ tp.toInt ∧ fr.toInt ≤ sp.toInt ∧ (tk.toInt = 0 ∨ fr.toInt < sp.toInt) ∧ (tk.toInt ≠ 2 ∨ (0 ≤ vl.toInt ∧ vl.toInt ≤ 23)))) (hy0 : CU bt tp.toNatClampNeg ci fr sp tk vl) (hy1 : ∀ j : Nat, j < tp.toNatClampNeg → 0 ≤ bt j) (hv_bt : ∀ j : Nat, bt j = (fI H tq j).toInt) : MX l K yX10_readNumber cX10_readNumber 4 (some .int) 3 65 0 0 [.ref a0, .int x1, .int x2] H (AE G [112] H.size) (fun v H1 => ∃ (r : Int32) (t0 : Int32) (t1 : Int32) (t2 : Int32) (t3 : Int32), v = some (.int r) ∧ t0 = fI H1 a0 (K.1.2 10 19) ∧ t1 = fI H1 a0 (K.1.2 10 20) ∧ t2 = fI H1 a0 (K.1.2 10 21) ∧ t3 = fI H1 a0 (K.1.2 10 22) ∧ (r.toInt = -1 ∨ (x1.toInt ≤ r.toInt ∧ r.toInt ≤ x2.toInt ∧ (t0.toInt ≤ tp.toInt ∧ t1.toInt ≤ t0.toInt ∧ (t2.toInt = 0 ∨ t1.toInt < t0.toInt) ∧ (t2.toInt ≠ 2 ∨ (0 ≤ t3.toInt ∧ t3.toInt ≤ 23))) ∧ fr.toInt < t1.toInt)) ∧ @Eq Ad tq (fR H1 a0 (K.1.2 10 17)) ∧ (CG (avw K H1 a0)) ∧ (TU (avw K H1 a0) (svw K H1 a0)) ∧ (WD (avw K H1 a0)) ∧ (IM (avw K H1 a0)) ∧ MF K H H1 a0 [19, 20, 21, 22, 39, 40] ∧ (RC (nmI (kK bt tp.toNatClampNeg) (vV bt tp.toNatClampNeg) x1.toInt x2.toInt ci) r bt tp.toNatClampNeg t1 t0 t2 t3) ∧ (r.toInt = -1 ∨ r.toInt = (vV bt tp.toNatClampNeg) ci) ∧ TY K G H1) := by
  refine MX.of (by decide +kernel) (Nat.le_of_ble_eq_true rfl) ?_
  intro p e s m below meth c ls Q C hH hl hQ
  subst hH
  have C : CX p K s m _ meth c RX10 cX10_readNumber 4 (some .int) "readNumber" := C
  obtain ⟨hx, hb, hml, hown, hts, hKT, hr, hlocks, hnm⟩ := id C
  have hl : lv_has ls 4 [(0, .ref a0), (1, .int x1), (2, .int x2)] := hl
  have hS : va_S (AE G [112] s.heap.size) s.heap s.heap [] := va_S.rf
  have n_0 : (0 : Int32).toInt = 0 := rfl
  have n_1 : (1 : Int32).toInt = 1 := rfl
  have n_2 : (2 : Int32).toInt = 2 := rfl
  have n_3 : (3 : Int32).toInt = 3 := rfl
  have bsp := ty_fi (x := sp) (k := 19) esp hT ga0 rg_112 rfl
  have bfr := ty_fi (x := fr) (k := 20) efr hT ga0 rg_112 rfl
  have btk := ty_fi (x := tk) (k := 21) etk hT ga0 rg_112 rfl
  have bvl := ty_fi (x := vl) (k := 22) evl hT ga0 rg_112 rfl
  have btp := ty_fi (x := tp) (k := 18) etp hT ga0 rg_112 rfl
  have hap : ∀ x y, x < 74 → y < 74 → x ≠ y → K.1.2 10 x ≠ K.1.2 10 y := x_apart hKT hts inX10 tyX10 tyX10_ok nmX10 rfl
  have mf0 : MF K s.heap s.heap a0 [19, 20, 21, 22, 39, 40] := fun _ _ _ => rfl
  have f0_bt := hv_bt
  refine lv_aload_n hx hb dX10_readNumber_0 rfl (lv_at hl 0 rfl) ?_
  refine x_gi C hT (ci := 10) (k := 21) rfl inX10 (by decide) wF_X10_202 ga0 rg_112 rfl dX10_readNumber_1 (fun x345 ex345 bx345 => ?_)
  have ux345 : tk = x345 := (etk).trans ex345.symm
  subst ux345
  refine lv_iconst (v := 3) hx hb dX10_readNumber_4 (by decide) ?_
  refine lv_icmp_eq (tgt := 14) hx hb dX10_readNumber_5 (by decide) (fun c346 => ?_) (fun c346 => ?_)
  · have k347 := i_eq c346
    refine lv_aload_n hx hb dX10_readNumber_14 rfl (lv_at hl 0 rfl) ?_
    refine lv_aload_n hx hb dX10_readNumber_15 rfl (lv_at hl 0 rfl) ?_
    refine x_gi C hT (ci := 10) (k := 22) rfl inX10 (by decide) wF_X10_205 ga0 rg_112 rfl dX10_readNumber_16 (fun x348 ex348 bx348 => ?_)
    have ux348 : vl = x348 := (evl).trans ex348.symm
    subst ux348
    refine lv_iload_n hx hb dX10_readNumber_19 rfl (lv_at hl 1 rfl) ?_
    refine lv_iload_n hx hb dX10_readNumber_20 rfl (lv_at hl 2 rfl) ?_
    refine x_V (As := [.int vl, .int x1, .int x2]) (rest := []) C (c_X10_isIn l K G s.heap (vl) (x1) (x2) hT ga0) yo_X10_isIn wM_X10_177 ⟨⟨by decide, by decide⟩, by decide, by decide⟩ (x_rv C hT (ci := 10) rfl ga0 rg_112) rfl hl.1 rfl (Nat.le_of_ble_eq_true rfl) dX10_readNumber_21 hS (AE_sub (fun _ _ => rfl) (by decide) hS.1) (fun vH349 H349 locsH349 pH349 zH349 kH349 hSH349 => ?_)
    have hqH349 := pH349.1.symm
    subst hqH349
    rcases pH349.2 with ⟨hvH349, hcH349⟩ | ⟨hvH349, hcH349⟩
    · subst hvH349
      refine W.eq (g2 := F0 m 24 ls [.int 1]) rfl ?_
      refine lv_if_ne (tgt := 33) hx hb dX10_readNumber_24 (by decide) (fun c350 => ?_) (fun c350 => ?_)
      · have k351 := i_ne c350
        refine lv_aload_n hx hb dX10_readNumber_33 rfl (lv_at hl 0 rfl) ?_
        refine x_gi C hT (ci := 10) (k := 22) rfl inX10 (by decide) wF_X10_205 ga0 rg_112 rfl dX10_readNumber_34 (fun x352 ex352 bx352 => ?_)
        have ux352 : vl = x352 := (evl).trans ex352.symm
        subst ux352
        refine lv_istore_n (lv' := [(3, .int vl), (0, .ref a0), (1, .int x1), (2, .int x2)]) hx hb dX10_readNumber_37 rfl hl (by decide) rfl (fun ls353 hl354 => ?_)
        refine lv_aload_n hx hb dX10_readNumber_38 rfl (lv_at hl354 1 rfl) ?_
        refine x_V (As := []) (rest := []) C (a_X10_reads_e l K G s.heap (sp) (fr) (tk) (vl) (tp) bt hT ga0 gtq etq esp efr etk evl etp hg_CG hg_TU hg_WD hg_IM (by omega) (hy1) f0_bt) yo_X10_reads wM_X10_242 ⟨⟨by decide, by decide⟩, by decide, by decide⟩ (x_rv C hT (ci := 10) rfl ga0 rg_112) rfl hl354.1 rfl (Nat.le_of_ble_eq_true rfl) dX10_readNumber_39 hSH349 (AE_sub (fun _ _ => rfl) (by decide) hSH349.1) (fun vH355 H355 locsH355 pH355 zH355 kH355 hSH355 => ?_)
        obtain ⟨x356, x357, x358, x359, hvH355, ex356, ex357, ex358, ex359, hrH355, m360, g361, g362, g363, g364, mf365, m366, m367, m368, hTH355⟩ := pH355
        subst hvH355
        have f369 : ∀ j : Nat, bt j = (fI H355 tq j).toInt := fun j => (f0_bt j).trans (congrArg Int32.toInt (fI_kept (x_lt hT kH355 gtq (by decide))).symm)
        have m370 := (etq).trans (MF.r mf365 (k := 17) (by decide) (by decide)).symm
        have m371 := (etp).trans (MF.i mf365 (k := 18) (by decide) (by decide)).symm
        have mf372 : MF K s.heap H355 a0 [19, 20, 21, 22, 39, 40] := MF.trans mf0 mf365 (by decide)
        have bx356 := ty_fi (x := x356) (k := 19) ex356 hTH355 ga0 rg_112 rfl
        have bx357 := ty_fi (x := x357) (k := 20) ex357 hTH355 ga0 rg_112 rfl
        have bx358 := ty_fi (x := x358) (k := 21) ex358 hTH355 ga0 rg_112 rfl
        have bx359 := ty_fi (x := x359) (k := 22) ex359 hTH355 ga0 rg_112 rfl
        have cn_x357 := i_cl (x := x357) bx357.1
        have cn_fr := i_cl (x := fr) (by omega)
        have cu373 : CU bt tp.toNatClampNeg (ci + 1) x357 x356 x358 x359 := CU.next hy0 m366 m367 m368 (by omega)
        refine W.eq (g2 := F0 m 42 ls353 []) rfl ?_
        refine lv_iload_n hx hb dX10_readNumber_42 rfl (lv_at hl354 0 rfl) ?_
        have v2_ := TV.nv hy0.2.2.1 (by omega)
        have n2_ : kK bt tp.toNatClampNeg ci = 24 := (TV.nm hy0.2.2.1).mp (by omega)
        exact x_iret C hQ dX10_readNumber_43 hSH355 (by decide) (by decide) (⟨vl, x356, x357, x358, x359, rfl, ex356, ex357, ex358, ex359, by omega, m360, g361, g362, g363, g364, mf372, Or.inr ⟨ci + 1, nm_y ⟨n2_, by omega, by omega⟩ rfl, by omega, cu373⟩, Or.inr (by omega), hTH355⟩)
      · have k351 := i_eq c350
        exfalso
        omega
    · subst hvH349
      refine W.eq (g2 := F0 m 24 ls [.int 0]) rfl ?_
      refine lv_if_ne (tgt := 33) hx hb dX10_readNumber_24 (by decide) (fun c374 => ?_) (fun c374 => ?_)
      · have k375 := i_ne c374
        exfalso
        omega
      · have k375 := i_eq c374
        refine lv_aload_n hx hb dX10_readNumber_27 rfl (lv_at hl 0 rfl) ?_
        refine lv_iconst (v := 2) hx hb dX10_readNumber_28 (by decide) ?_
        refine x_V (As := [.int 2]) (rest := []) C (a_X10_fails l K G s.heap (2) hT ga0 hg_CG hg_TU hg_WD hg_IM) yo_X10_fails wM_X10_235 ⟨⟨by decide, by decide⟩, by decide, by decide⟩ (x_rv C hT (ci := 10) rfl ga0 rg_112) rfl hl.1 rfl (Nat.le_of_ble_eq_true rfl) dX10_readNumber_29 hSH349 (AE_sub (fun _ _ => rfl) (by decide) hSH349.1) (fun vH376 H376 locsH376 pH376 zH376 kH376 hSH376 => ?_)
        obtain ⟨x377, hvH376, bx377, g378, g379, g380, g381, mf382, hTH376⟩ := pH376
        subst hvH376
        have f383 : ∀ j : Nat, bt j = (fI H376 tq j).toInt := fun j => (f0_bt j).trans (congrArg Int32.toInt (fI_kept (x_lt hT kH376 gtq (by decide))).symm)
        have m384 := (etq).trans (MF.r mf382 (k := 17) (by decide) (by decide)).symm
        have m385 := (esp).trans (MF.i mf382 (k := 19) (by decide) (by decide)).symm
        have m386 := (efr).trans (MF.i mf382 (k := 20) (by decide) (by decide)).symm
        have m387 := (etk).trans (MF.i mf382 (k := 21) (by decide) (by decide)).symm
        have m388 := (evl).trans (MF.i mf382 (k := 22) (by decide) (by decide)).symm
        have m389 := (etp).trans (MF.i mf382 (k := 18) (by decide) (by decide)).symm
        have mf390 : MF K s.heap H376 a0 [19, 20, 21, 22, 39, 40] := MF.trans mf0 mf382 (by decide)
        refine W.eq (g2 := F0 m 32 ls [.int x377]) rfl ?_
        have cn_fr := i_cl (x := fr) (by omega)
        have v2_ := TV.nv hy0.2.2.1 (by omega)
        exact x_iret C hQ dX10_readNumber_32 hSH376 (by decide) (by decide) (⟨x377, sp, fr, tk, vl, rfl, m385, m386, m387, m388, by omega, m384, g378, g379, g380, g381, mf390, Or.inl ⟨nm_n (Or.inr (by omega)), by omega⟩, Or.inl (by omega), hTH376⟩)
  · have k347 := i_ne c346
    refine lv_aload_n hx hb dX10_readNumber_8 rfl (lv_at hl 0 rfl) ?_
    refine lv_iconst (v := 1) hx hb dX10_readNumber_9 (by decide) ?_
    refine x_V (As := [.int 1]) (rest := []) C (a_X10_fails l K G s.heap (1) hT ga0 hg_CG hg_TU hg_WD hg_IM) yo_X10_fails wM_X10_235 ⟨⟨by decide, by decide⟩, by decide, by decide⟩ (x_rv C hT (ci := 10) rfl ga0 rg_112) rfl hl.1 rfl (Nat.le_of_ble_eq_true rfl) dX10_readNumber_10 hS (AE_sub (fun _ _ => rfl) (by decide) hS.1) (fun vH391 H391 locsH391 pH391 zH391 kH391 hSH391 => ?_)
    obtain ⟨x392, hvH391, bx392, g393, g394, g395, g396, mf397, hTH391⟩ := pH391
    subst hvH391
    have f398 : ∀ j : Nat, bt j = (fI H391 tq j).toInt := fun j => (f0_bt j).trans (congrArg Int32.toInt (fI_kept (x_lt hT kH391 gtq (by decide))).symm)
    have m399 := (etq).trans (MF.r mf397 (k := 17) (by decide) (by decide)).symm
    have m400 := (esp).trans (MF.i mf397 (k := 19) (by decide) (by decide)).symm
    have m401 := (efr).trans (MF.i mf397 (k := 20) (by decide) (by decide)).symm
    have m402 := (etk).trans (MF.i mf397 (k := 21) (by decide) (by decide)).symm
    have m403 := (evl).trans (MF.i mf397 (k := 22) (by decide) (by decide)).symm
    have m404 := (etp).trans (MF.i mf397 (k := 18) (by decide) (by decide)).symm
    have mf405 : MF K s.heap H391 a0 [19, 20, 21, 22, 39, 40] := MF.trans mf0 mf397 (by decide)
    refine W.eq (g2 := F0 m 13 ls [.int x392]) rfl ?_
    have cn_fr := i_cl (x := fr) (by omega)
    exact x_iret C hQ dX10_readNumber_13 hSH391 (by decide) (by decide) (⟨x392, sp, fr, tk, vl, rfl, m400, m401, m402, m403, by omega, m399, g393, g394, g395, g396, mf405, Or.inl ⟨nm_n (Or.inl (fun e => by have z_ := (TV.nm hy0.2.2.1).mpr e; omega)), by omega⟩, Or.inl (by omega), hTH391⟩)

set_option maxHeartbeats 4000000 in
set_option maxRecDepth 100000 in
theorem a_X10_readNumbers_g (l : Launch) (K : KE) (G : Nat → Option Nat) (H : Heap) {a0 : Nat} (x1 : Int32) (x2 : Int32) {tq : Nat} {l1 : Nat} {l2 : Nat} {l3 : Nat} (sp : Int32) (fr : Int32) (tk : Int32) (vl : Int32) (tp : Int32) (jb : Int32) (ci : Nat) (bt : Nat → Int) (hT : TY K G H) (ga0 : G a0 = some 112) (hx1 : 96 ≤ x1.toInt ∧ x1.toInt ≤ 111) (gtq : G tq = some 126) (etq : @Eq Ad tq (fR H a0 (K.1.2 10 17))) (gl1 : G l1 = some 130) (el1 : @Eq Ad l1 (fR H a0 (K.1.2 10 26))) (gl2 : G l2 = some 131) (el2 : @Eq Ad l2 (fR H a0 (K.1.2 10 27))) (gl3 : G l3 = some 132) (el3 : @Eq Ad l3 (fR H a0 (K.1.2 10 28))) (esp : sp = fI H a0 (K.1.2 10 19)) (efr : fr = fI H a0 (K.1.2 10 20)) (etk : tk = fI H a0 (K.1.2 10 21)) (evl : vl = fI H a0 (K.1.2 10 22)) (etp : tp = fI H a0 (K.1.2 10 18)) (ejb : jb = fI H a0 (K.1.2 10 34)) (hg_CG : CG (avw K H a0)) (hg_TU : TU (avw K H a0) (svw K H a0)) (hg_WD : WD (avw K H a0)) (hg_IM : IM (avw K H a0)) (hp0 : (sp.toInt ≤ tp.toInt ∧ fr.toInt ≤ sp.toInt ∧ (tk.toInt = 0 ∨ fr.toInt < sp.toInt) ∧ (tk.toInt ≠ 2 ∨ (0 ≤ vl.toInt ∧ vl.toInt ≤ 23)))) (hp1 : (jb.toInt = 0 ∧ 0 ≤ x2.toInt ∧ x2.toInt ≤ 3) ∨ (jb.toInt = 1 ∧ (x2.toInt = 4 ∨ x2.toInt = 5 ∨ x2.toInt = 17))) (hy0 : CU bt tp.toNatClampNeg ci fr sp tk vl) (hy1 : ∀ j : Nat, j < tp.toNatClampNeg → 0 ≤ bt j) (hv_bt : ∀ j : Nat, bt j = (fI H tq j).toInt) : MX l K yX10_readNumbers cX10_readNumbers 3 (some .int) 4 88 0 0 [.ref a0, .int x1, .int x2] H (AE G [112, 130, 131, 132] H.size) (fun v H1 => ∃ (r : Int32) (t0 : Int32) (t1 : Int32) (t2 : Int32) (t3 : Int32), v = some (.int r) ∧ t0 = fI H1 a0 (K.1.2 10 19) ∧ t1 = fI H1 a0 (K.1.2 10 20) ∧ t2 = fI H1 a0 (K.1.2 10 21) ∧ t3 = fI H1 a0 (K.1.2 10 22) ∧ (r.toInt = -1 ∨ ((t0.toInt ≤ tp.toInt ∧ t1.toInt ≤ t0.toInt ∧ (t2.toInt = 0 ∨ t1.toInt < t0.toInt) ∧ (t2.toInt ≠ 2 ∨ (0 ≤ t3.toInt ∧ t3.toInt ≤ 23))) ∧ fr.toInt ≤ t1.toInt)) ∧ @Eq Ad tq (fR H1 a0 (K.1.2 10 17)) ∧ @Eq Ad l1 (fR H1 a0 (K.1.2 10 26)) ∧ @Eq Ad l2 (fR H1 a0 (K.1.2 10 27)) ∧ @Eq Ad l3 (fR H1 a0 (K.1.2 10 28)) ∧ (CG (avw K H1 a0)) ∧ (TU (avw K H1 a0) (svw K H1 a0)) ∧ (WD (avw K H1 a0)) ∧ (IM (avw K H1 a0)) ∧ MF K H H1 a0 [19, 20, 21, 22, 39, 40] ∧ (RC (hnI (kK bt tp.toNatClampNeg) (vV bt tp.toNatClampNeg) (1 - jb.toInt) x2.toInt ci) r bt tp.toNatClampNeg t1 t0 t2 t3) ∧ (r.toInt = -1 ∨ (fI H1 l1 x1.toNatClampNeg).toInt = hn1 (vV bt tp.toNatClampNeg) (1 - jb.toInt) x2.toInt ci) ∧ (r.toInt = -1 ∨ jb.toInt = 0 ∨ x2.toInt ≠ 5 ∨ (fI H1 l2 x1.toNatClampNeg).toInt = (vV bt tp.toNatClampNeg) (ci + 1)) ∧ (r.toInt = -1 ∨ jb.toInt = 0 ∨ (fI H1 l3 x1.toNatClampNeg).toInt = hn3 (vV bt tp.toNatClampNeg) x2.toInt ci) ∧ (∀ j : Nat, j ≠ x1.toNatClampNeg → fI H1 l1 j = fI H l1 j) ∧ (∀ j : Nat, j ≠ x1.toNatClampNeg → fI H1 l2 j = fI H l2 j) ∧ (∀ j : Nat, j ≠ x1.toNatClampNeg → fI H1 l3 j = fI H l3 j) ∧ TY K G H1) := by
  refine MX.of (by decide +kernel) (Nat.le_of_ble_eq_true rfl) ?_
  intro p e s m below meth c ls Q C hH hl hQ
  subst hH
  have C : CX p K s m _ meth c RX10 cX10_readNumbers 3 (some .int) "readNumbers" := C
  obtain ⟨hx, hb, hml, hown, hts, hKT, hr, hlocks, hnm⟩ := id C
  have hl : lv_has ls 3 [(0, .ref a0), (1, .int x1), (2, .int x2)] := hl
  have hS : va_S (AE G [112, 130, 131, 132] s.heap.size) s.heap s.heap [] := va_S.rf
  have n_m1 : ((-1) : Int32).toInt = -1 := rfl
  have n_0 : (0 : Int32).toInt = 0 := rfl
  have n_1 : (1 : Int32).toInt = 1 := rfl
  have n_2 : (2 : Int32).toInt = 2 := rfl
  have n_3 : (3 : Int32).toInt = 3 := rfl
  have n_5 : (5 : Int32).toInt = 5 := rfl
  have n_9 : (9 : Int32).toInt = 9 := rfl
  have n_15 : (15 : Int32).toInt = 15 := rfl
  have n_17 : (17 : Int32).toInt = 17 := rfl
  have n_99 : (99 : Int32).toInt = 99 := rfl
  have bsp := ty_fi (x := sp) (k := 19) esp hT ga0 rg_112 rfl
  have bfr := ty_fi (x := fr) (k := 20) efr hT ga0 rg_112 rfl
  have btk := ty_fi (x := tk) (k := 21) etk hT ga0 rg_112 rfl
  have bvl := ty_fi (x := vl) (k := 22) evl hT ga0 rg_112 rfl
  have btp := ty_fi (x := tp) (k := 18) etp hT ga0 rg_112 rfl
  have bjb := ty_fi (x := jb) (k := 34) ejb hT ga0 rg_112 rfl
  have hap : ∀ x y, x < 74 → y < 74 → x ≠ y → K.1.2 10 x ≠ K.1.2 10 y := x_apart hKT hts inX10 tyX10 tyX10_ok nmX10 rfl
  have mf0 : MF K s.heap s.heap a0 [19, 20, 21, 22, 39, 40] := fun _ _ _ => rfl
  have f0_bt := hv_bt
  have f0_v1 : ∀ j : Nat, j ≠ x1.toNatClampNeg → fI s.heap l1 j = fI s.heap l1 j := fun _ _ => rfl
  have f0_v2 : ∀ j : Nat, j ≠ x1.toNatClampNeg → fI s.heap l2 j = fI s.heap l2 j := fun _ _ => rfl
  have f0_v3 : ∀ j : Nat, j ≠ x1.toNatClampNeg → fI s.heap l3 j = fI s.heap l3 j := fun _ _ => rfl
  refine lv_aload_n hx hb dX10_readNumbers_0 rfl (lv_at hl 0 rfl) ?_
  refine x_gr C hT (ci := 10) (k := 26) rfl inX10 (by decide) wF_X10_65 ga0 rg_112 rfl dX10_readNumbers_1 (fun q1821 eq1821 gq1821 => ?_)
  have uq1821 : l1 = q1821 := (el1).trans eq1821.symm
  subst uq1821
  refine lv_iload_n hx hb dX10_readNumbers_4 rfl (lv_at hl 1 rfl) ?_
  refine lv_iconst (v := 0) hx hb dX10_readNumbers_5 (by decide) ?_
  refine x_iast C hT hS gl1 rg_130 (by omega) (by show _ < ((112 : Nat) : Int); omega) (by decide) (AE_in gl1 (by decide)) dX10_readNumbers_6 (fun H1822 locsH1822 hTH1822 hSH1822 wH1822 => ?_)
  have mf1823 : MF K s.heap H1822 a0 [19, 20, 21, 22, 39, 40] := MF.arr wH1822 (G_ne ga0 gl1 (by decide)) mf0
  have g1824 : CG (avw K H1822 a0) := CG.congr (fun k hk j => av_arr hT ga0 wH1822 gl1 (by decide) (CG_ok 130 (by decide) k hk)) hg_CG
  have g1825 : TU (avw K H1822 a0) (svw K H1822 a0) := TU.congr (fun k hk j => av_arr hT ga0 wH1822 gl1 (by decide) (TU_ok 130 (by decide) k hk)) (fun k hk => sv_arr ga0 wH1822 gl1 (by decide)) hg_TU
  have g1826 : WD (avw K H1822 a0) := WD.congr (fun k hk j => av_arr hT ga0 wH1822 gl1 (by decide) (WD_ok 130 (by decide) k hk)) hg_WD
  have g1827 : IM (avw K H1822 a0) := IM.congr (fun k hk j => av_arr hT ga0 wH1822 gl1 (by decide) (IM_ok 130 (by decide) k hk)) hg_IM
  have f1828 : ∀ j : Nat, bt j = (fI H1822 tq j).toInt := fun j => (f0_bt j).trans (congrArg Int32.toInt (Wr.neI wH1822 (Or.inl (G_ne gtq gl1 (by decide)))).symm)
  have f1829 : ∀ j : Nat, j ≠ x1.toNatClampNeg → fI H1822 l1 j = fI s.heap l1 j := fun j hj => (Wr.neI wH1822 (Or.inr hj)).trans (f0_v1 j hj)
  have f1830 : ∀ j : Nat, j ≠ x1.toNatClampNeg → fI H1822 l2 j = fI s.heap l2 j := fun j hj => (Wr.neI wH1822 (Or.inl (G_ne gl2 gl1 (by decide)))).trans (f0_v2 j hj)
  have f1831 : ∀ j : Nat, j ≠ x1.toNatClampNeg → fI H1822 l3 j = fI s.heap l3 j := fun j hj => (Wr.neI wH1822 (Or.inl (G_ne gl3 gl1 (by decide)))).trans (f0_v3 j hj)
  have m1832 := etq.trans (Wr.neR wH1822 (Or.inl (G_ne ga0 gl1 (by decide)))).symm
  have m1833 := el1.trans (Wr.neR wH1822 (Or.inl (G_ne ga0 gl1 (by decide)))).symm
  have m1834 := el2.trans (Wr.neR wH1822 (Or.inl (G_ne ga0 gl1 (by decide)))).symm
  have m1835 := el3.trans (Wr.neR wH1822 (Or.inl (G_ne ga0 gl1 (by decide)))).symm
  have m1836 := esp.trans (Wr.neI wH1822 (Or.inl (G_ne ga0 gl1 (by decide)))).symm
  have m1837 := efr.trans (Wr.neI wH1822 (Or.inl (G_ne ga0 gl1 (by decide)))).symm
  have m1838 := etk.trans (Wr.neI wH1822 (Or.inl (G_ne ga0 gl1 (by decide)))).symm
  have m1839 := evl.trans (Wr.neI wH1822 (Or.inl (G_ne ga0 gl1 (by decide)))).symm
  have m1840 := etp.trans (Wr.neI wH1822 (Or.inl (G_ne ga0 gl1 (by decide)))).symm
  have m1841 := ejb.trans (Wr.neI wH1822 (Or.inl (G_ne ga0 gl1 (by decide)))).symm
  have m1842 := Wr.I wH1822
  refine lv_aload_n hx hb dX10_readNumbers_7 rfl (lv_at hl 0 rfl) ?_
  refine x_gr C hTH1822 (ci := 10) (k := 27) rfl inX10 (by decide) wF_X10_68 ga0 rg_112 rfl dX10_readNumbers_8 (fun q1843 eq1843 gq1843 => ?_)
  have uq1843 : l2 = q1843 := (m1834).trans eq1843.symm
  subst uq1843
  refine lv_iload_n hx hb dX10_readNumbers_11 rfl (lv_at hl 1 rfl) ?_
  refine lv_iconst (v := 0) hx hb dX10_readNumbers_12 (by decide) ?_
  refine x_iast C hTH1822 hSH1822 gl2 rg_131 (by omega) (by show _ < ((112 : Nat) : Int); omega) (by decide) (AE_in gl2 (by decide)) dX10_readNumbers_13 (fun H1844 locsH1844 hTH1844 hSH1844 wH1844 => ?_)
  have mf1845 : MF K s.heap H1844 a0 [19, 20, 21, 22, 39, 40] := MF.arr wH1844 (G_ne ga0 gl2 (by decide)) mf1823
  have g1846 : CG (avw K H1844 a0) := CG.congr (fun k hk j => av_arr hTH1822 ga0 wH1844 gl2 (by decide) (CG_ok 131 (by decide) k hk)) g1824
  have g1847 : TU (avw K H1844 a0) (svw K H1844 a0) := TU.congr (fun k hk j => av_arr hTH1822 ga0 wH1844 gl2 (by decide) (TU_ok 131 (by decide) k hk)) (fun k hk => sv_arr ga0 wH1844 gl2 (by decide)) g1825
  have g1848 : WD (avw K H1844 a0) := WD.congr (fun k hk j => av_arr hTH1822 ga0 wH1844 gl2 (by decide) (WD_ok 131 (by decide) k hk)) g1826
  have g1849 : IM (avw K H1844 a0) := IM.congr (fun k hk j => av_arr hTH1822 ga0 wH1844 gl2 (by decide) (IM_ok 131 (by decide) k hk)) g1827
  have f1850 : ∀ j : Nat, bt j = (fI H1844 tq j).toInt := fun j => (f1828 j).trans (congrArg Int32.toInt (Wr.neI wH1844 (Or.inl (G_ne gtq gl2 (by decide)))).symm)
  have f1851 : ∀ j : Nat, j ≠ x1.toNatClampNeg → fI H1844 l1 j = fI s.heap l1 j := fun j hj => (Wr.neI wH1844 (Or.inl (G_ne gl1 gl2 (by decide)))).trans (f1829 j hj)
  have f1852 : ∀ j : Nat, j ≠ x1.toNatClampNeg → fI H1844 l2 j = fI s.heap l2 j := fun j hj => (Wr.neI wH1844 (Or.inr hj)).trans (f1830 j hj)
  have f1853 : ∀ j : Nat, j ≠ x1.toNatClampNeg → fI H1844 l3 j = fI s.heap l3 j := fun j hj => (Wr.neI wH1844 (Or.inl (G_ne gl3 gl2 (by decide)))).trans (f1831 j hj)
  have m1854 := m1832.trans (Wr.neR wH1844 (Or.inl (G_ne ga0 gl2 (by decide)))).symm
  have m1855 := m1833.trans (Wr.neR wH1844 (Or.inl (G_ne ga0 gl2 (by decide)))).symm
  have m1856 := m1834.trans (Wr.neR wH1844 (Or.inl (G_ne ga0 gl2 (by decide)))).symm
  have m1857 := m1835.trans (Wr.neR wH1844 (Or.inl (G_ne ga0 gl2 (by decide)))).symm
  have m1858 := m1836.trans (Wr.neI wH1844 (Or.inl (G_ne ga0 gl2 (by decide)))).symm
  have m1859 := m1837.trans (Wr.neI wH1844 (Or.inl (G_ne ga0 gl2 (by decide)))).symm
  have m1860 := m1838.trans (Wr.neI wH1844 (Or.inl (G_ne ga0 gl2 (by decide)))).symm
  have m1861 := m1839.trans (Wr.neI wH1844 (Or.inl (G_ne ga0 gl2 (by decide)))).symm
  have m1862 := m1840.trans (Wr.neI wH1844 (Or.inl (G_ne ga0 gl2 (by decide)))).symm
  have m1863 := m1841.trans (Wr.neI wH1844 (Or.inl (G_ne ga0 gl2 (by decide)))).symm
  have m1864 := (Wr.neI wH1844 (Or.inl (G_ne gl1 gl2 (by decide)))).trans m1842
  have m1865 := Wr.I wH1844
  refine lv_aload_n hx hb dX10_readNumbers_14 rfl (lv_at hl 0 rfl) ?_
  refine x_gr C hTH1844 (ci := 10) (k := 28) rfl inX10 (by decide) wF_X10_71 ga0 rg_112 rfl dX10_readNumbers_15 (fun q1866 eq1866 gq1866 => ?_)
  have uq1866 : l3 = q1866 := (m1857).trans eq1866.symm
  subst uq1866
  refine lv_iload_n hx hb dX10_readNumbers_18 rfl (lv_at hl 1 rfl) ?_
  refine lv_iconst (v := 0) hx hb dX10_readNumbers_19 (by decide) ?_
  refine x_iast C hTH1844 hSH1844 gl3 rg_132 (by omega) (by show _ < ((112 : Nat) : Int); omega) (by decide) (AE_in gl3 (by decide)) dX10_readNumbers_20 (fun H1867 locsH1867 hTH1867 hSH1867 wH1867 => ?_)
  clear f1828 f1829 f1830 f1831 m1832 m1833 m1834 m1835 m1836 m1837 m1838 m1839 m1840 m1841 m1842
  have mf1868 : MF K s.heap H1867 a0 [19, 20, 21, 22, 39, 40] := MF.arr wH1867 (G_ne ga0 gl3 (by decide)) mf1845
  have g1869 : CG (avw K H1867 a0) := CG.congr (fun k hk j => av_arr hTH1844 ga0 wH1867 gl3 (by decide) (CG_ok 132 (by decide) k hk)) g1846
  have g1870 : TU (avw K H1867 a0) (svw K H1867 a0) := TU.congr (fun k hk j => av_arr hTH1844 ga0 wH1867 gl3 (by decide) (TU_ok 132 (by decide) k hk)) (fun k hk => sv_arr ga0 wH1867 gl3 (by decide)) g1847
  have g1871 : WD (avw K H1867 a0) := WD.congr (fun k hk j => av_arr hTH1844 ga0 wH1867 gl3 (by decide) (WD_ok 132 (by decide) k hk)) g1848
  have g1872 : IM (avw K H1867 a0) := IM.congr (fun k hk j => av_arr hTH1844 ga0 wH1867 gl3 (by decide) (IM_ok 132 (by decide) k hk)) g1849
  have f1873 : ∀ j : Nat, bt j = (fI H1867 tq j).toInt := fun j => (f1850 j).trans (congrArg Int32.toInt (Wr.neI wH1867 (Or.inl (G_ne gtq gl3 (by decide)))).symm)
  have f1874 : ∀ j : Nat, j ≠ x1.toNatClampNeg → fI H1867 l1 j = fI s.heap l1 j := fun j hj => (Wr.neI wH1867 (Or.inl (G_ne gl1 gl3 (by decide)))).trans (f1851 j hj)
  have f1875 : ∀ j : Nat, j ≠ x1.toNatClampNeg → fI H1867 l2 j = fI s.heap l2 j := fun j hj => (Wr.neI wH1867 (Or.inl (G_ne gl2 gl3 (by decide)))).trans (f1852 j hj)
  have f1876 : ∀ j : Nat, j ≠ x1.toNatClampNeg → fI H1867 l3 j = fI s.heap l3 j := fun j hj => (Wr.neI wH1867 (Or.inr hj)).trans (f1853 j hj)
  have m1877 := m1854.trans (Wr.neR wH1867 (Or.inl (G_ne ga0 gl3 (by decide)))).symm
  have m1878 := m1855.trans (Wr.neR wH1867 (Or.inl (G_ne ga0 gl3 (by decide)))).symm
  have m1879 := m1856.trans (Wr.neR wH1867 (Or.inl (G_ne ga0 gl3 (by decide)))).symm
  have m1880 := m1857.trans (Wr.neR wH1867 (Or.inl (G_ne ga0 gl3 (by decide)))).symm
  have m1881 := m1858.trans (Wr.neI wH1867 (Or.inl (G_ne ga0 gl3 (by decide)))).symm
  have m1882 := m1859.trans (Wr.neI wH1867 (Or.inl (G_ne ga0 gl3 (by decide)))).symm
  have m1883 := m1860.trans (Wr.neI wH1867 (Or.inl (G_ne ga0 gl3 (by decide)))).symm
  have m1884 := m1861.trans (Wr.neI wH1867 (Or.inl (G_ne ga0 gl3 (by decide)))).symm
  have m1885 := m1862.trans (Wr.neI wH1867 (Or.inl (G_ne ga0 gl3 (by decide)))).symm
  have m1886 := m1863.trans (Wr.neI wH1867 (Or.inl (G_ne ga0 gl3 (by decide)))).symm
  have m1887 := (Wr.neI wH1867 (Or.inl (G_ne gl1 gl3 (by decide)))).trans m1864
  have m1888 := (Wr.neI wH1867 (Or.inl (G_ne gl2 gl3 (by decide)))).trans m1865
  have m1889 := Wr.I wH1867
  refine lv_iload_n hx hb dX10_readNumbers_21 rfl (lv_at hl 2 rfl) ?_
  refine lv_iconst (v := 3) hx hb dX10_readNumbers_22 (by decide) ?_
  refine lv_icmp_ne (tgt := 28) hx hb dX10_readNumbers_23 (by decide) (fun c1890 => ?_) (fun c1890 => ?_)
  · have k1891 := i_ne c1890
    refine lv_aload_n hx hb dX10_readNumbers_28 rfl (lv_at hl 0 rfl) ?_
    refine x_gr C hTH1867 (ci := 10) (k := 26) rfl inX10 (by decide) wF_X10_65 ga0 rg_112 rfl dX10_readNumbers_29 (fun q1892 eq1892 gq1892 => ?_)
    have uq1892 : l1 = q1892 := (m1878).trans eq1892.symm
    subst uq1892
    refine lv_iload_n hx hb dX10_readNumbers_32 rfl (lv_at hl 1 rfl) ?_
    refine lv_aload_n hx hb dX10_readNumbers_33 rfl (lv_at hl 0 rfl) ?_
    refine lv_iconst (v := 0) hx hb dX10_readNumbers_34 (by decide) ?_
    refine lv_aload_n hx hb dX10_readNumbers_35 rfl (lv_at hl 0 rfl) ?_
    refine x_gi C hTH1867 (ci := 10) (k := 34) rfl inX10 (by decide) wF_X10_231 ga0 rg_112 rfl dX10_readNumbers_36 (fun x1893 ex1893 bx1893 => ?_)
    have ux1893 : jb = x1893 := (m1886).trans ex1893.symm
    subst ux1893
    refine lv_if_eq (tgt := 47) hx hb dX10_readNumbers_39 (by decide) (fun c1894 => ?_) (fun c1894 => ?_)
    · have k1895 := i_eq c1894
      refine lv_iconst (v := 2) hx hb dX10_readNumbers_47 (by decide) ?_
      refine x_V (As := [.int 0, .int 2]) (rest := [.int x1, .ref l1]) C (a_X10_readNumber_g l K G H1867 (0) (2) (sp) (fr) (tk) (vl) (tp) (ci) bt hTH1867 ga0 (by decide) (by decide) gtq m1877 m1881 m1882 m1883 m1884 m1885 g1869 g1870 g1871 g1872 (by omega) (hy0) (hy1) f1873) yo_X10_readNumber wM_X10_276 ⟨⟨by decide, by decide⟩, by decide, by decide⟩ (x_rv C hTH1867 (ci := 10) rfl ga0 rg_112) rfl hl.1 rfl (Nat.le_of_ble_eq_true rfl) dX10_readNumbers_48 hSH1867 (AE_sub (fun _ _ => rfl) (by decide) hSH1867.1) (fun vH1896 H1896 locsH1896 pH1896 zH1896 kH1896 hSH1896 => ?_)
      obtain ⟨x1897, x1898, x1899, x1900, x1901, hvH1896, ex1898, ex1899, ex1900, ex1901, hrH1896, m1902, g1903, g1904, g1905, g1906, mf1907, m1908, m1909, hTH1896⟩ := pH1896
      subst hvH1896
      clear f1850 f1851 f1852 f1853 m1854 m1855 m1856 m1857 m1858 m1859 m1860 m1861 m1862 m1863 m1864 m1865
      have f1910 : ∀ j : Nat, bt j = (fI H1896 tq j).toInt := fun j => (f1873 j).trans (congrArg Int32.toInt (fI_kept (x_lt hTH1867 kH1896 gtq (by decide))).symm)
      have f1911 : ∀ j : Nat, j ≠ x1.toNatClampNeg → fI H1896 l1 j = fI s.heap l1 j := fun j hj => (fI_kept (x_lt hTH1867 kH1896 gl1 (by decide))).trans (f1874 j hj)
      have f1912 : ∀ j : Nat, j ≠ x1.toNatClampNeg → fI H1896 l2 j = fI s.heap l2 j := fun j hj => (fI_kept (x_lt hTH1867 kH1896 gl2 (by decide))).trans (f1875 j hj)
      have f1913 : ∀ j : Nat, j ≠ x1.toNatClampNeg → fI H1896 l3 j = fI s.heap l3 j := fun j hj => (fI_kept (x_lt hTH1867 kH1896 gl3 (by decide))).trans (f1876 j hj)
      have m1914 := (fI_kept (x_lt hTH1867 kH1896 gl1 (by decide))).trans m1887
      have m1915 := (fI_kept (x_lt hTH1867 kH1896 gl2 (by decide))).trans m1888
      have m1916 := (fI_kept (x_lt hTH1867 kH1896 gl3 (by decide))).trans m1889
      have m1917 := (m1877).trans (MF.r mf1907 (k := 17) (by decide) (by decide)).symm
      have m1918 := (m1878).trans (MF.r mf1907 (k := 26) (by decide) (by decide)).symm
      have m1919 := (m1879).trans (MF.r mf1907 (k := 27) (by decide) (by decide)).symm
      have m1920 := (m1880).trans (MF.r mf1907 (k := 28) (by decide) (by decide)).symm
      have m1921 := (m1885).trans (MF.i mf1907 (k := 18) (by decide) (by decide)).symm
      have m1922 := (m1886).trans (MF.i mf1907 (k := 34) (by decide) (by decide)).symm
      have mf1923 : MF K s.heap H1896 a0 [19, 20, 21, 22, 39, 40] := MF.trans mf1868 mf1907 (by decide)
      have bx1898 := ty_fi (x := x1898) (k := 19) ex1898 hTH1896 ga0 rg_112 rfl
      have bx1899 := ty_fi (x := x1899) (k := 20) ex1899 hTH1896 ga0 rg_112 rfl
      have bx1900 := ty_fi (x := x1900) (k := 21) ex1900 hTH1896 ga0 rg_112 rfl
      have bx1901 := ty_fi (x := x1901) (k := 22) ex1901 hTH1896 ga0 rg_112 rfl
      refine W.eq (g2 := F0 m 51 ls [.int x1897, .int x1, .ref l1]) rfl ?_
      refine x_iast C hTH1896 hSH1896 gl1 rg_130 (by omega) (by show _ < ((112 : Nat) : Int); omega) (i_rng x1897) (AE_in gl1 (by decide)) dX10_readNumbers_51 (fun H1924 locsH1924 hTH1924 hSH1924 wH1924 => ?_)
      clear f1873 f1874 f1875 f1876 m1877 m1878 m1879 m1880 m1881 m1882 m1883 m1884 m1885 m1886 m1887 m1888 m1889
      have mf1925 : MF K s.heap H1924 a0 [19, 20, 21, 22, 39, 40] := MF.arr wH1924 (G_ne ga0 gl1 (by decide)) mf1923
      have g1926 : CG (avw K H1924 a0) := CG.congr (fun k hk j => av_arr hTH1896 ga0 wH1924 gl1 (by decide) (CG_ok 130 (by decide) k hk)) g1903
      have g1927 : TU (avw K H1924 a0) (svw K H1924 a0) := TU.congr (fun k hk j => av_arr hTH1896 ga0 wH1924 gl1 (by decide) (TU_ok 130 (by decide) k hk)) (fun k hk => sv_arr ga0 wH1924 gl1 (by decide)) g1904
      have g1928 : WD (avw K H1924 a0) := WD.congr (fun k hk j => av_arr hTH1896 ga0 wH1924 gl1 (by decide) (WD_ok 130 (by decide) k hk)) g1905
      have g1929 : IM (avw K H1924 a0) := IM.congr (fun k hk j => av_arr hTH1896 ga0 wH1924 gl1 (by decide) (IM_ok 130 (by decide) k hk)) g1906
      have f1930 : ∀ j : Nat, bt j = (fI H1924 tq j).toInt := fun j => (f1910 j).trans (congrArg Int32.toInt (Wr.neI wH1924 (Or.inl (G_ne gtq gl1 (by decide)))).symm)
      have f1931 : ∀ j : Nat, j ≠ x1.toNatClampNeg → fI H1924 l1 j = fI s.heap l1 j := fun j hj => (Wr.neI wH1924 (Or.inr hj)).trans (f1911 j hj)
      have f1932 : ∀ j : Nat, j ≠ x1.toNatClampNeg → fI H1924 l2 j = fI s.heap l2 j := fun j hj => (Wr.neI wH1924 (Or.inl (G_ne gl2 gl1 (by decide)))).trans (f1912 j hj)
      have f1933 : ∀ j : Nat, j ≠ x1.toNatClampNeg → fI H1924 l3 j = fI s.heap l3 j := fun j hj => (Wr.neI wH1924 (Or.inl (G_ne gl3 gl1 (by decide)))).trans (f1913 j hj)
      have m1935 := (Wr.neI wH1924 (Or.inl (G_ne gl2 gl1 (by decide)))).trans m1915
      have m1936 := (Wr.neI wH1924 (Or.inl (G_ne gl3 gl1 (by decide)))).trans m1916
      have m1937 := m1902.trans (Wr.neR wH1924 (Or.inl (G_ne ga0 gl1 (by decide)))).symm
      have m1938 := m1918.trans (Wr.neR wH1924 (Or.inl (G_ne ga0 gl1 (by decide)))).symm
      have m1939 := m1919.trans (Wr.neR wH1924 (Or.inl (G_ne ga0 gl1 (by decide)))).symm
      have m1940 := m1920.trans (Wr.neR wH1924 (Or.inl (G_ne ga0 gl1 (by decide)))).symm
      have m1941 := m1921.trans (Wr.neI wH1924 (Or.inl (G_ne ga0 gl1 (by decide)))).symm
      have m1942 := m1922.trans (Wr.neI wH1924 (Or.inl (G_ne ga0 gl1 (by decide)))).symm
      have m1943 := ex1898.trans (Wr.neI wH1924 (Or.inl (G_ne ga0 gl1 (by decide)))).symm
      have m1944 := ex1899.trans (Wr.neI wH1924 (Or.inl (G_ne ga0 gl1 (by decide)))).symm
      have m1945 := ex1900.trans (Wr.neI wH1924 (Or.inl (G_ne ga0 gl1 (by decide)))).symm
      have m1946 := ex1901.trans (Wr.neI wH1924 (Or.inl (G_ne ga0 gl1 (by decide)))).symm
      have m1947 := Wr.I wH1924
      have m1947 := m1947.symm
      refine lv_aload_n hx hb dX10_readNumbers_52 rfl (lv_at hl 0 rfl) ?_
      refine x_gr C hTH1924 (ci := 10) (k := 26) rfl inX10 (by decide) wF_X10_65 ga0 rg_112 rfl dX10_readNumbers_53 (fun q1948 eq1948 gq1948 => ?_)
      have uq1948 : l1 = q1948 := (m1938).trans eq1948.symm
      subst uq1948
      refine lv_iload_n hx hb dX10_readNumbers_56 rfl (lv_at hl 1 rfl) ?_
      refine x_ai C hTH1924 gl1 rg_130 ⟨by omega, by show _ < ((112 : Nat) : Int); omega⟩ dX10_readNumbers_57 (fun x1949 ex1949 bx1949 => ?_)
      have ux1949 : x1897 = x1949 := (m1947).trans ex1949.symm
      subst ux1949
      refine lv_iconst (v := (-1)) hx hb dX10_readNumbers_58 (by decide) ?_
      refine lv_icmp_eq (tgt := 69) hx hb dX10_readNumbers_59 (by decide) (fun c1950 => ?_) (fun c1950 => ?_)
      · have k1951 := i_eq c1950
        refine lv_aload_n hx hb dX10_readNumbers_69 rfl (lv_at hl 0 rfl) ?_
        refine x_gr C hTH1924 (ci := 10) (k := 26) rfl inX10 (by decide) wF_X10_65 ga0 rg_112 rfl dX10_readNumbers_70 (fun q1952 eq1952 gq1952 => ?_)
        have uq1952 : l1 = q1952 := (m1938).trans eq1952.symm
        subst uq1952
        refine lv_iload_n hx hb dX10_readNumbers_73 rfl (lv_at hl 1 rfl) ?_
        refine x_ai C hTH1924 gl1 rg_130 ⟨by omega, by show _ < ((112 : Nat) : Int); omega⟩ dX10_readNumbers_74 (fun x1953 ex1953 bx1953 => ?_)
        have ux1953 : x1897 = x1953 := (m1947).trans ex1953.symm
        subst ux1953
        have cn_fr := i_cl (x := fr) (by omega)
        have nz1954 := RC.no m1908 (by omega)
        rw [n_0, n_2] at nz1954
        exact x_iret C hQ dX10_readNumbers_75 hSH1924 (by decide) (by decide) (⟨x1897, x1898, x1899, x1900, x1901, rfl, m1943, m1944, m1945, m1946, by omega, m1937, m1938, m1939, m1940, g1926, g1927, g1928, g1929, mf1925, Or.inl ⟨hn_l (by omega) (by omega) nz1954, by omega⟩, Or.inl (by omega), Or.inl (by omega), Or.inl (by omega), f1931, f1932, f1933, hTH1924⟩)
      · have k1951 := i_ne c1950
        obtain ⟨cj1955, ho1957, cu1956⟩ := RC.yes m1908 (by omega)
        have nz1958 := ho1957
        rw [n_0, n_2] at nz1958
        refine lv_aload_n hx hb dX10_readNumbers_62 rfl (lv_at hl 0 rfl) ?_
        refine x_gi C hTH1924 (ci := 10) (k := 34) rfl inX10 (by decide) wF_X10_231 ga0 rg_112 rfl dX10_readNumbers_63 (fun x1959 ex1959 bx1959 => ?_)
        have ux1959 : jb = x1959 := (m1942).trans ex1959.symm
        subst ux1959
        refine lv_if_ne (tgt := 76) hx hb dX10_readNumbers_66 (by decide) (fun c1960 => ?_) (fun c1960 => ?_)
        · have k1961 := i_ne c1960
          exfalso
          omega
        · have k1961 := i_eq c1960
          refine lv_aload_n hx hb dX10_readNumbers_69 rfl (lv_at hl 0 rfl) ?_
          refine x_gr C hTH1924 (ci := 10) (k := 26) rfl inX10 (by decide) wF_X10_65 ga0 rg_112 rfl dX10_readNumbers_70 (fun q1962 eq1962 gq1962 => ?_)
          have uq1962 : l1 = q1962 := (m1938).trans eq1962.symm
          subst uq1962
          refine lv_iload_n hx hb dX10_readNumbers_73 rfl (lv_at hl 1 rfl) ?_
          refine x_ai C hTH1924 gl1 rg_130 ⟨by omega, by show _ < ((112 : Nat) : Int); omega⟩ dX10_readNumbers_74 (fun x1963 ex1963 bx1963 => ?_)
          have ux1963 : x1897 = x1963 := (m1947).trans ex1963.symm
          subst ux1963
          have cn_fr := i_cl (x := fr) (by omega)
          exact x_iret C hQ dX10_readNumbers_75 hSH1924 (by decide) (by decide) (⟨x1897, x1898, x1899, x1900, x1901, rfl, m1943, m1944, m1945, m1946, by omega, m1937, m1938, m1939, m1940, g1926, g1927, g1928, g1929, mf1925, Or.inr ⟨cj1955, hn_l (by omega) (by omega) nz1958, by omega, cu1956⟩, Or.inr (by rw [← m1947, hn1_n (by omega)]; exact m1909.resolve_left (by omega)), Or.inr (Or.inl (by omega)), Or.inr (Or.inl (by omega)), f1931, f1932, f1933, hTH1924⟩)
    · have k1895 := i_ne c1894
      refine lv_bipush (v := 15) hx hb dX10_readNumbers_42 (by decide) ?_
      refine lv_goto (tgt := 48) hx hb dX10_readNumbers_44 (by decide) ?_
      refine x_V (As := [.int 0, .int 15]) (rest := [.int x1, .ref l1]) C (a_X10_readNumber_g l K G H1867 (0) (15) (sp) (fr) (tk) (vl) (tp) (ci) bt hTH1867 ga0 (by decide) (by decide) gtq m1877 m1881 m1882 m1883 m1884 m1885 g1869 g1870 g1871 g1872 (by omega) (hy0) (hy1) f1873) yo_X10_readNumber wM_X10_276 ⟨⟨by decide, by decide⟩, by decide, by decide⟩ (x_rv C hTH1867 (ci := 10) rfl ga0 rg_112) rfl hl.1 rfl (Nat.le_of_ble_eq_true rfl) dX10_readNumbers_48 hSH1867 (AE_sub (fun _ _ => rfl) (by decide) hSH1867.1) (fun vH1964 H1964 locsH1964 pH1964 zH1964 kH1964 hSH1964 => ?_)
      obtain ⟨x1965, x1966, x1967, x1968, x1969, hvH1964, ex1966, ex1967, ex1968, ex1969, hrH1964, m1970, g1971, g1972, g1973, g1974, mf1975, m1976, m1977, hTH1964⟩ := pH1964
      subst hvH1964
      clear f1850 f1851 f1852 f1853 m1854 m1855 m1856 m1857 m1858 m1859 m1860 m1861 m1862 m1863 m1864 m1865
      have f1978 : ∀ j : Nat, bt j = (fI H1964 tq j).toInt := fun j => (f1873 j).trans (congrArg Int32.toInt (fI_kept (x_lt hTH1867 kH1964 gtq (by decide))).symm)
      have f1979 : ∀ j : Nat, j ≠ x1.toNatClampNeg → fI H1964 l1 j = fI s.heap l1 j := fun j hj => (fI_kept (x_lt hTH1867 kH1964 gl1 (by decide))).trans (f1874 j hj)
      have f1980 : ∀ j : Nat, j ≠ x1.toNatClampNeg → fI H1964 l2 j = fI s.heap l2 j := fun j hj => (fI_kept (x_lt hTH1867 kH1964 gl2 (by decide))).trans (f1875 j hj)
      have f1981 : ∀ j : Nat, j ≠ x1.toNatClampNeg → fI H1964 l3 j = fI s.heap l3 j := fun j hj => (fI_kept (x_lt hTH1867 kH1964 gl3 (by decide))).trans (f1876 j hj)
      have m1982 := (fI_kept (x_lt hTH1867 kH1964 gl1 (by decide))).trans m1887
      have m1983 := (fI_kept (x_lt hTH1867 kH1964 gl2 (by decide))).trans m1888
      have m1984 := (fI_kept (x_lt hTH1867 kH1964 gl3 (by decide))).trans m1889
      have m1985 := (m1877).trans (MF.r mf1975 (k := 17) (by decide) (by decide)).symm
      have m1986 := (m1878).trans (MF.r mf1975 (k := 26) (by decide) (by decide)).symm
      have m1987 := (m1879).trans (MF.r mf1975 (k := 27) (by decide) (by decide)).symm
      have m1988 := (m1880).trans (MF.r mf1975 (k := 28) (by decide) (by decide)).symm
      have m1989 := (m1885).trans (MF.i mf1975 (k := 18) (by decide) (by decide)).symm
      have m1990 := (m1886).trans (MF.i mf1975 (k := 34) (by decide) (by decide)).symm
      have mf1991 : MF K s.heap H1964 a0 [19, 20, 21, 22, 39, 40] := MF.trans mf1868 mf1975 (by decide)
      have bx1966 := ty_fi (x := x1966) (k := 19) ex1966 hTH1964 ga0 rg_112 rfl
      have bx1967 := ty_fi (x := x1967) (k := 20) ex1967 hTH1964 ga0 rg_112 rfl
      have bx1968 := ty_fi (x := x1968) (k := 21) ex1968 hTH1964 ga0 rg_112 rfl
      have bx1969 := ty_fi (x := x1969) (k := 22) ex1969 hTH1964 ga0 rg_112 rfl
      refine W.eq (g2 := F0 m 51 ls [.int x1965, .int x1, .ref l1]) rfl ?_
      refine x_iast C hTH1964 hSH1964 gl1 rg_130 (by omega) (by show _ < ((112 : Nat) : Int); omega) (i_rng x1965) (AE_in gl1 (by decide)) dX10_readNumbers_51 (fun H1992 locsH1992 hTH1992 hSH1992 wH1992 => ?_)
      clear f1873 f1874 f1875 f1876 m1877 m1878 m1879 m1880 m1881 m1882 m1883 m1884 m1885 m1886 m1887 m1888 m1889
      have mf1993 : MF K s.heap H1992 a0 [19, 20, 21, 22, 39, 40] := MF.arr wH1992 (G_ne ga0 gl1 (by decide)) mf1991
      have g1994 : CG (avw K H1992 a0) := CG.congr (fun k hk j => av_arr hTH1964 ga0 wH1992 gl1 (by decide) (CG_ok 130 (by decide) k hk)) g1971
      have g1995 : TU (avw K H1992 a0) (svw K H1992 a0) := TU.congr (fun k hk j => av_arr hTH1964 ga0 wH1992 gl1 (by decide) (TU_ok 130 (by decide) k hk)) (fun k hk => sv_arr ga0 wH1992 gl1 (by decide)) g1972
      have g1996 : WD (avw K H1992 a0) := WD.congr (fun k hk j => av_arr hTH1964 ga0 wH1992 gl1 (by decide) (WD_ok 130 (by decide) k hk)) g1973
      have g1997 : IM (avw K H1992 a0) := IM.congr (fun k hk j => av_arr hTH1964 ga0 wH1992 gl1 (by decide) (IM_ok 130 (by decide) k hk)) g1974
      have f1998 : ∀ j : Nat, bt j = (fI H1992 tq j).toInt := fun j => (f1978 j).trans (congrArg Int32.toInt (Wr.neI wH1992 (Or.inl (G_ne gtq gl1 (by decide)))).symm)
      have f1999 : ∀ j : Nat, j ≠ x1.toNatClampNeg → fI H1992 l1 j = fI s.heap l1 j := fun j hj => (Wr.neI wH1992 (Or.inr hj)).trans (f1979 j hj)
      have f2000 : ∀ j : Nat, j ≠ x1.toNatClampNeg → fI H1992 l2 j = fI s.heap l2 j := fun j hj => (Wr.neI wH1992 (Or.inl (G_ne gl2 gl1 (by decide)))).trans (f1980 j hj)
      have f2001 : ∀ j : Nat, j ≠ x1.toNatClampNeg → fI H1992 l3 j = fI s.heap l3 j := fun j hj => (Wr.neI wH1992 (Or.inl (G_ne gl3 gl1 (by decide)))).trans (f1981 j hj)
      have m2003 := (Wr.neI wH1992 (Or.inl (G_ne gl2 gl1 (by decide)))).trans m1983
      have m2004 := (Wr.neI wH1992 (Or.inl (G_ne gl3 gl1 (by decide)))).trans m1984
      have m2005 := m1970.trans (Wr.neR wH1992 (Or.inl (G_ne ga0 gl1 (by decide)))).symm
      have m2006 := m1986.trans (Wr.neR wH1992 (Or.inl (G_ne ga0 gl1 (by decide)))).symm
      have m2007 := m1987.trans (Wr.neR wH1992 (Or.inl (G_ne ga0 gl1 (by decide)))).symm
      have m2008 := m1988.trans (Wr.neR wH1992 (Or.inl (G_ne ga0 gl1 (by decide)))).symm
      have m2009 := m1989.trans (Wr.neI wH1992 (Or.inl (G_ne ga0 gl1 (by decide)))).symm
      have m2010 := m1990.trans (Wr.neI wH1992 (Or.inl (G_ne ga0 gl1 (by decide)))).symm
      have m2011 := ex1966.trans (Wr.neI wH1992 (Or.inl (G_ne ga0 gl1 (by decide)))).symm
      have m2012 := ex1967.trans (Wr.neI wH1992 (Or.inl (G_ne ga0 gl1 (by decide)))).symm
      have m2013 := ex1968.trans (Wr.neI wH1992 (Or.inl (G_ne ga0 gl1 (by decide)))).symm
      have m2014 := ex1969.trans (Wr.neI wH1992 (Or.inl (G_ne ga0 gl1 (by decide)))).symm
      have m2015 := Wr.I wH1992
      have m2015 := m2015.symm
      refine lv_aload_n hx hb dX10_readNumbers_52 rfl (lv_at hl 0 rfl) ?_
      refine x_gr C hTH1992 (ci := 10) (k := 26) rfl inX10 (by decide) wF_X10_65 ga0 rg_112 rfl dX10_readNumbers_53 (fun q2016 eq2016 gq2016 => ?_)
      have uq2016 : l1 = q2016 := (m2006).trans eq2016.symm
      subst uq2016
      refine lv_iload_n hx hb dX10_readNumbers_56 rfl (lv_at hl 1 rfl) ?_
      refine x_ai C hTH1992 gl1 rg_130 ⟨by omega, by show _ < ((112 : Nat) : Int); omega⟩ dX10_readNumbers_57 (fun x2017 ex2017 bx2017 => ?_)
      have ux2017 : x1965 = x2017 := (m2015).trans ex2017.symm
      subst ux2017
      refine lv_iconst (v := (-1)) hx hb dX10_readNumbers_58 (by decide) ?_
      refine lv_icmp_eq (tgt := 69) hx hb dX10_readNumbers_59 (by decide) (fun c2018 => ?_) (fun c2018 => ?_)
      · have k2019 := i_eq c2018
        refine lv_aload_n hx hb dX10_readNumbers_69 rfl (lv_at hl 0 rfl) ?_
        refine x_gr C hTH1992 (ci := 10) (k := 26) rfl inX10 (by decide) wF_X10_65 ga0 rg_112 rfl dX10_readNumbers_70 (fun q2020 eq2020 gq2020 => ?_)
        have uq2020 : l1 = q2020 := (m2006).trans eq2020.symm
        subst uq2020
        refine lv_iload_n hx hb dX10_readNumbers_73 rfl (lv_at hl 1 rfl) ?_
        refine x_ai C hTH1992 gl1 rg_130 ⟨by omega, by show _ < ((112 : Nat) : Int); omega⟩ dX10_readNumbers_74 (fun x2021 ex2021 bx2021 => ?_)
        have ux2021 : x1965 = x2021 := (m2015).trans ex2021.symm
        subst ux2021
        have cn_fr := i_cl (x := fr) (by omega)
        have nz2022 := RC.no m1976 (by omega)
        rw [n_0, n_15] at nz2022
        exact x_iret C hQ dX10_readNumbers_75 hSH1992 (by decide) (by decide) (⟨x1965, x1966, x1967, x1968, x1969, rfl, m2011, m2012, m2013, m2014, by omega, m2005, m2006, m2007, m2008, g1994, g1995, g1996, g1997, mf1993, Or.inl ⟨hn_j1 (by omega) nz2022, by omega⟩, Or.inl (by omega), Or.inl (by omega), Or.inl (by omega), f1999, f2000, f2001, hTH1992⟩)
      · have k2019 := i_ne c2018
        obtain ⟨cj2023, ho2025, cu2024⟩ := RC.yes m1976 (by omega)
        have nz2026 := ho2025
        rw [n_0, n_15] at nz2026
        refine lv_aload_n hx hb dX10_readNumbers_62 rfl (lv_at hl 0 rfl) ?_
        refine x_gi C hTH1992 (ci := 10) (k := 34) rfl inX10 (by decide) wF_X10_231 ga0 rg_112 rfl dX10_readNumbers_63 (fun x2027 ex2027 bx2027 => ?_)
        have ux2027 : jb = x2027 := (m2010).trans ex2027.symm
        subst ux2027
        refine lv_if_ne (tgt := 76) hx hb dX10_readNumbers_66 (by decide) (fun c2028 => ?_) (fun c2028 => ?_)
        · have k2029 := i_ne c2028
          refine lv_iload_n hx hb dX10_readNumbers_76 rfl (lv_at hl 2 rfl) ?_
          refine lv_iconst (v := 5) hx hb dX10_readNumbers_77 (by decide) ?_
          refine lv_icmp_ne (tgt := 94) hx hb dX10_readNumbers_78 (by decide) (fun c2030 => ?_) (fun c2030 => ?_)
          · have k2031 := i_ne c2030
            refine lv_aload_n hx hb dX10_readNumbers_94 rfl (lv_at hl 0 rfl) ?_
            refine x_gr C hTH1992 (ci := 10) (k := 27) rfl inX10 (by decide) wF_X10_68 ga0 rg_112 rfl dX10_readNumbers_95 (fun q2032 eq2032 gq2032 => ?_)
            have uq2032 : l2 = q2032 := (m2007).trans eq2032.symm
            subst uq2032
            refine lv_iload_n hx hb dX10_readNumbers_98 rfl (lv_at hl 1 rfl) ?_
            refine x_ai C hTH1992 gl2 rg_131 ⟨by omega, by show _ < ((112 : Nat) : Int); omega⟩ dX10_readNumbers_99 (fun x2033 ex2033 bx2033 => ?_)
            have ux2033 : x2033 = 0 := ex2033.trans m2003
            subst ux2033
            refine lv_iconst (v := (-1)) hx hb dX10_readNumbers_100 (by decide) ?_
            refine lv_icmp_ne (tgt := 106) hx hb dX10_readNumbers_101 (by decide) (fun c2034 => ?_) (fun c2034 => ?_)
            · have k2035 := i_ne c2034
              refine lv_aload_n hx hb dX10_readNumbers_106 rfl (lv_at hl 0 rfl) ?_
              refine x_gr C hTH1992 (ci := 10) (k := 28) rfl inX10 (by decide) wF_X10_71 ga0 rg_112 rfl dX10_readNumbers_107 (fun q2036 eq2036 gq2036 => ?_)
              have uq2036 : l3 = q2036 := (m2008).trans eq2036.symm
              subst uq2036
              refine lv_iload_n hx hb dX10_readNumbers_110 rfl (lv_at hl 1 rfl) ?_
              refine lv_iload_n hx hb dX10_readNumbers_111 rfl (lv_at hl 2 rfl) ?_
              refine lv_bipush (v := 17) hx hb dX10_readNumbers_112 (by decide) ?_
              refine lv_icmp_ne (tgt := 127) hx hb dX10_readNumbers_114 (by decide) (fun c2037 => ?_) (fun c2037 => ?_)
              · have k2038 := i_ne c2037
                refine lv_aload_n hx hb dX10_readNumbers_127 rfl (lv_at hl 0 rfl) ?_
                refine lv_iconst (v := 1) hx hb dX10_readNumbers_128 (by decide) ?_
                refine lv_bipush (v := 9) hx hb dX10_readNumbers_129 (by decide) ?_
                refine x_V (As := [.int 1, .int 9]) (rest := [.int x1, .ref l3]) C (a_X10_readNumber_g l K G H1992 (1) (9) (x1966) (x1967) (x1968) (x1969) (tp) (cj2023) bt hTH1992 ga0 (by decide) (by decide) gtq m2005 m2011 m2012 m2013 m2014 m2009 g1994 g1995 g1996 g1997 (by omega) (cu2024) (hy1) f1998) yo_X10_readNumber wM_X10_276 ⟨⟨by decide, by decide⟩, by decide, by decide⟩ (x_rv C hTH1992 (ci := 10) rfl ga0 rg_112) rfl hl.1 rfl (Nat.le_of_ble_eq_true rfl) dX10_readNumbers_131 hSH1992 (AE_sub (fun _ _ => rfl) (by decide) hSH1992.1) (fun vH2039 H2039 locsH2039 pH2039 zH2039 kH2039 hSH2039 => ?_)
                obtain ⟨x2040, x2041, x2042, x2043, x2044, hvH2039, ex2041, ex2042, ex2043, ex2044, hrH2039, m2045, g2046, g2047, g2048, g2049, mf2050, m2051, m2052, hTH2039⟩ := pH2039
                subst hvH2039
                clear f1978 f1979 f1980 f1981 m1970 m1982 m1983 m1984 m1986 m1987 m1988 m1989 m1990
                have f2053 : ∀ j : Nat, bt j = (fI H2039 tq j).toInt := fun j => (f1998 j).trans (congrArg Int32.toInt (fI_kept (x_lt hTH1992 kH2039 gtq (by decide))).symm)
                have f2054 : ∀ j : Nat, j ≠ x1.toNatClampNeg → fI H2039 l1 j = fI s.heap l1 j := fun j hj => (fI_kept (x_lt hTH1992 kH2039 gl1 (by decide))).trans (f1999 j hj)
                have f2055 : ∀ j : Nat, j ≠ x1.toNatClampNeg → fI H2039 l2 j = fI s.heap l2 j := fun j hj => (fI_kept (x_lt hTH1992 kH2039 gl2 (by decide))).trans (f2000 j hj)
                have f2056 : ∀ j : Nat, j ≠ x1.toNatClampNeg → fI H2039 l3 j = fI s.heap l3 j := fun j hj => (fI_kept (x_lt hTH1992 kH2039 gl3 (by decide))).trans (f2001 j hj)
                have m2057 := (fI_kept (x_lt hTH1992 kH2039 gl2 (by decide))).trans m2003
                have m2058 := (fI_kept (x_lt hTH1992 kH2039 gl3 (by decide))).trans m2004
                have m2059 := (m2015).trans (fI_kept (x_lt hTH1992 kH2039 gl1 (by decide))).symm
                have m2060 := (m2005).trans (MF.r mf2050 (k := 17) (by decide) (by decide)).symm
                have m2061 := (m2006).trans (MF.r mf2050 (k := 26) (by decide) (by decide)).symm
                have m2062 := (m2007).trans (MF.r mf2050 (k := 27) (by decide) (by decide)).symm
                have m2063 := (m2008).trans (MF.r mf2050 (k := 28) (by decide) (by decide)).symm
                have m2064 := (m2009).trans (MF.i mf2050 (k := 18) (by decide) (by decide)).symm
                have m2065 := (m2010).trans (MF.i mf2050 (k := 34) (by decide) (by decide)).symm
                have mf2066 : MF K s.heap H2039 a0 [19, 20, 21, 22, 39, 40] := MF.trans mf1993 mf2050 (by decide)
                have bx2041 := ty_fi (x := x2041) (k := 19) ex2041 hTH2039 ga0 rg_112 rfl
                have bx2042 := ty_fi (x := x2042) (k := 20) ex2042 hTH2039 ga0 rg_112 rfl
                have bx2043 := ty_fi (x := x2043) (k := 21) ex2043 hTH2039 ga0 rg_112 rfl
                have bx2044 := ty_fi (x := x2044) (k := 22) ex2044 hTH2039 ga0 rg_112 rfl
                refine W.eq (g2 := F0 m 134 ls [.int x2040, .int x1, .ref l3]) rfl ?_
                refine x_iast C hTH2039 hSH2039 gl3 rg_132 (by omega) (by show _ < ((112 : Nat) : Int); omega) (i_rng x2040) (AE_in gl3 (by decide)) dX10_readNumbers_134 (fun H2067 locsH2067 hTH2067 hSH2067 wH2067 => ?_)
                clear f1998 f1999 f2000 f2001 m2003 m2004 m2005 m2006 m2007 m2008 m2009 m2010 m2011 m2012 m2013 m2014 m2015
                have mf2068 : MF K s.heap H2067 a0 [19, 20, 21, 22, 39, 40] := MF.arr wH2067 (G_ne ga0 gl3 (by decide)) mf2066
                have g2069 : CG (avw K H2067 a0) := CG.congr (fun k hk j => av_arr hTH2039 ga0 wH2067 gl3 (by decide) (CG_ok 132 (by decide) k hk)) g2046
                have g2070 : TU (avw K H2067 a0) (svw K H2067 a0) := TU.congr (fun k hk j => av_arr hTH2039 ga0 wH2067 gl3 (by decide) (TU_ok 132 (by decide) k hk)) (fun k hk => sv_arr ga0 wH2067 gl3 (by decide)) g2047
                have g2071 : WD (avw K H2067 a0) := WD.congr (fun k hk j => av_arr hTH2039 ga0 wH2067 gl3 (by decide) (WD_ok 132 (by decide) k hk)) g2048
                have g2072 : IM (avw K H2067 a0) := IM.congr (fun k hk j => av_arr hTH2039 ga0 wH2067 gl3 (by decide) (IM_ok 132 (by decide) k hk)) g2049
                have f2073 : ∀ j : Nat, bt j = (fI H2067 tq j).toInt := fun j => (f2053 j).trans (congrArg Int32.toInt (Wr.neI wH2067 (Or.inl (G_ne gtq gl3 (by decide)))).symm)
                have f2074 : ∀ j : Nat, j ≠ x1.toNatClampNeg → fI H2067 l1 j = fI s.heap l1 j := fun j hj => (Wr.neI wH2067 (Or.inl (G_ne gl1 gl3 (by decide)))).trans (f2054 j hj)
                have f2075 : ∀ j : Nat, j ≠ x1.toNatClampNeg → fI H2067 l2 j = fI s.heap l2 j := fun j hj => (Wr.neI wH2067 (Or.inl (G_ne gl2 gl3 (by decide)))).trans (f2055 j hj)
                have f2076 : ∀ j : Nat, j ≠ x1.toNatClampNeg → fI H2067 l3 j = fI s.heap l3 j := fun j hj => (Wr.neI wH2067 (Or.inr hj)).trans (f2056 j hj)
                have m2077 := (Wr.neI wH2067 (Or.inl (G_ne gl2 gl3 (by decide)))).trans m2057
                have m2079 := m2059.trans (Wr.neI wH2067 (Or.inl (G_ne gl1 gl3 (by decide)))).symm
                have m2080 := m2045.trans (Wr.neR wH2067 (Or.inl (G_ne ga0 gl3 (by decide)))).symm
                have m2081 := m2061.trans (Wr.neR wH2067 (Or.inl (G_ne ga0 gl3 (by decide)))).symm
                have m2082 := m2062.trans (Wr.neR wH2067 (Or.inl (G_ne ga0 gl3 (by decide)))).symm
                have m2083 := m2063.trans (Wr.neR wH2067 (Or.inl (G_ne ga0 gl3 (by decide)))).symm
                have m2084 := m2064.trans (Wr.neI wH2067 (Or.inl (G_ne ga0 gl3 (by decide)))).symm
                have m2085 := m2065.trans (Wr.neI wH2067 (Or.inl (G_ne ga0 gl3 (by decide)))).symm
                have m2086 := ex2041.trans (Wr.neI wH2067 (Or.inl (G_ne ga0 gl3 (by decide)))).symm
                have m2087 := ex2042.trans (Wr.neI wH2067 (Or.inl (G_ne ga0 gl3 (by decide)))).symm
                have m2088 := ex2043.trans (Wr.neI wH2067 (Or.inl (G_ne ga0 gl3 (by decide)))).symm
                have m2089 := ex2044.trans (Wr.neI wH2067 (Or.inl (G_ne ga0 gl3 (by decide)))).symm
                have m2090 := Wr.I wH2067
                have m2090 := m2090.symm
                refine lv_aload_n hx hb dX10_readNumbers_135 rfl (lv_at hl 0 rfl) ?_
                refine x_gr C hTH2067 (ci := 10) (k := 28) rfl inX10 (by decide) wF_X10_71 ga0 rg_112 rfl dX10_readNumbers_136 (fun q2091 eq2091 gq2091 => ?_)
                have uq2091 : l3 = q2091 := (m2083).trans eq2091.symm
                subst uq2091
                refine lv_iload_n hx hb dX10_readNumbers_139 rfl (lv_at hl 1 rfl) ?_
                refine x_ai C hTH2067 gl3 rg_132 ⟨by omega, by show _ < ((112 : Nat) : Int); omega⟩ dX10_readNumbers_140 (fun x2092 ex2092 bx2092 => ?_)
                have ux2092 : x2040 = x2092 := (m2090).trans ex2092.symm
                subst ux2092
                have cn_fr := i_cl (x := fr) (by omega)
                have nx1_ := nm_nx nz2026
                exact x_iret C hQ dX10_readNumbers_141 hSH2067 (by decide) (by decide) (⟨x2040, x2041, x2042, x2043, x2044, rfl, m2086, m2087, m2088, m2089, by omega, m2080, m2081, m2082, m2083, g2069, g2070, g2071, g2072, mf2068, (by rcases Int.lt_or_le x2040.toInt 0 with hneg | hpos; exact Or.inl ⟨(hn_j4 (by omega) nz2026 (Or.inr ⟨by omega, rfl⟩) (by omega) (by omega)).trans (by have z := RC.no m2051 (by omega); rw [n_1, n_9] at z; exact z), by omega⟩; obtain ⟨j9, o9, c9⟩ := RC.yes m2051 (by omega); rw [n_1, n_9] at o9; exact Or.inr ⟨j9, (hn_j4 (by omega) nz2026 (Or.inr ⟨by omega, rfl⟩) (by omega) (by omega)).trans o9, by omega, c9⟩), Or.inr (by rw [← m2079, hn1_n (by omega)]; exact m1977.resolve_left (by omega)), Or.inr (Or.inr (Or.inl (by omega))), (by rcases m2052 with hq | hq; exact Or.inl (by omega); exact Or.inr (Or.inr (by rw [← m2090, hn3_n (by omega) (show cj2023 = ci + 1 by omega)]; exact hq))), f2074, f2075, f2076, hTH2067⟩)
              · have k2038 := i_eq c2037
                refine lv_aload_n hx hb dX10_readNumbers_117 rfl (lv_at hl 0 rfl) ?_
                refine lv_iconst (v := 0) hx hb dX10_readNumbers_118 (by decide) ?_
                refine lv_bipush (v := 99) hx hb dX10_readNumbers_119 (by decide) ?_
                refine x_V (As := [.int 0, .int 99]) (rest := [.int x1, .ref l3]) C (a_X10_readNumber_g l K G H1992 (0) (99) (x1966) (x1967) (x1968) (x1969) (tp) (cj2023) bt hTH1992 ga0 (by decide) (by decide) gtq m2005 m2011 m2012 m2013 m2014 m2009 g1994 g1995 g1996 g1997 (by omega) (cu2024) (hy1) f1998) yo_X10_readNumber wM_X10_276 ⟨⟨by decide, by decide⟩, by decide, by decide⟩ (x_rv C hTH1992 (ci := 10) rfl ga0 rg_112) rfl hl.1 rfl (Nat.le_of_ble_eq_true rfl) dX10_readNumbers_121 hSH1992 (AE_sub (fun _ _ => rfl) (by decide) hSH1992.1) (fun vH2093 H2093 locsH2093 pH2093 zH2093 kH2093 hSH2093 => ?_)
                obtain ⟨x2094, x2095, x2096, x2097, x2098, hvH2093, ex2095, ex2096, ex2097, ex2098, hrH2093, m2099, g2100, g2101, g2102, g2103, mf2104, m2105, m2106, hTH2093⟩ := pH2093
                subst hvH2093
                clear f1978 f1979 f1980 f1981 m1970 m1982 m1983 m1984 m1986 m1987 m1988 m1989 m1990
                have f2107 : ∀ j : Nat, bt j = (fI H2093 tq j).toInt := fun j => (f1998 j).trans (congrArg Int32.toInt (fI_kept (x_lt hTH1992 kH2093 gtq (by decide))).symm)
                have f2108 : ∀ j : Nat, j ≠ x1.toNatClampNeg → fI H2093 l1 j = fI s.heap l1 j := fun j hj => (fI_kept (x_lt hTH1992 kH2093 gl1 (by decide))).trans (f1999 j hj)
                have f2109 : ∀ j : Nat, j ≠ x1.toNatClampNeg → fI H2093 l2 j = fI s.heap l2 j := fun j hj => (fI_kept (x_lt hTH1992 kH2093 gl2 (by decide))).trans (f2000 j hj)
                have f2110 : ∀ j : Nat, j ≠ x1.toNatClampNeg → fI H2093 l3 j = fI s.heap l3 j := fun j hj => (fI_kept (x_lt hTH1992 kH2093 gl3 (by decide))).trans (f2001 j hj)
                have m2111 := (fI_kept (x_lt hTH1992 kH2093 gl2 (by decide))).trans m2003
                have m2112 := (fI_kept (x_lt hTH1992 kH2093 gl3 (by decide))).trans m2004
                have m2113 := (m2015).trans (fI_kept (x_lt hTH1992 kH2093 gl1 (by decide))).symm
                have m2114 := (m2005).trans (MF.r mf2104 (k := 17) (by decide) (by decide)).symm
                have m2115 := (m2006).trans (MF.r mf2104 (k := 26) (by decide) (by decide)).symm
                have m2116 := (m2007).trans (MF.r mf2104 (k := 27) (by decide) (by decide)).symm
                have m2117 := (m2008).trans (MF.r mf2104 (k := 28) (by decide) (by decide)).symm
                have m2118 := (m2009).trans (MF.i mf2104 (k := 18) (by decide) (by decide)).symm
                have m2119 := (m2010).trans (MF.i mf2104 (k := 34) (by decide) (by decide)).symm
                have mf2120 : MF K s.heap H2093 a0 [19, 20, 21, 22, 39, 40] := MF.trans mf1993 mf2104 (by decide)
                have bx2095 := ty_fi (x := x2095) (k := 19) ex2095 hTH2093 ga0 rg_112 rfl
                have bx2096 := ty_fi (x := x2096) (k := 20) ex2096 hTH2093 ga0 rg_112 rfl
                have bx2097 := ty_fi (x := x2097) (k := 21) ex2097 hTH2093 ga0 rg_112 rfl
                have bx2098 := ty_fi (x := x2098) (k := 22) ex2098 hTH2093 ga0 rg_112 rfl
                refine W.eq (g2 := F0 m 124 ls [.int x2094, .int x1, .ref l3]) rfl ?_
                refine lv_goto (tgt := 134) hx hb dX10_readNumbers_124 (by decide) ?_
                refine x_iast C hTH2093 hSH2093 gl3 rg_132 (by omega) (by show _ < ((112 : Nat) : Int); omega) (i_rng x2094) (AE_in gl3 (by decide)) dX10_readNumbers_134 (fun H2121 locsH2121 hTH2121 hSH2121 wH2121 => ?_)
                clear f1998 f1999 f2000 f2001 m2003 m2004 m2005 m2006 m2007 m2008 m2009 m2010 m2011 m2012 m2013 m2014 m2015
                have mf2122 : MF K s.heap H2121 a0 [19, 20, 21, 22, 39, 40] := MF.arr wH2121 (G_ne ga0 gl3 (by decide)) mf2120
                have g2123 : CG (avw K H2121 a0) := CG.congr (fun k hk j => av_arr hTH2093 ga0 wH2121 gl3 (by decide) (CG_ok 132 (by decide) k hk)) g2100
                have g2124 : TU (avw K H2121 a0) (svw K H2121 a0) := TU.congr (fun k hk j => av_arr hTH2093 ga0 wH2121 gl3 (by decide) (TU_ok 132 (by decide) k hk)) (fun k hk => sv_arr ga0 wH2121 gl3 (by decide)) g2101
                have g2125 : WD (avw K H2121 a0) := WD.congr (fun k hk j => av_arr hTH2093 ga0 wH2121 gl3 (by decide) (WD_ok 132 (by decide) k hk)) g2102
                have g2126 : IM (avw K H2121 a0) := IM.congr (fun k hk j => av_arr hTH2093 ga0 wH2121 gl3 (by decide) (IM_ok 132 (by decide) k hk)) g2103
                have f2127 : ∀ j : Nat, bt j = (fI H2121 tq j).toInt := fun j => (f2107 j).trans (congrArg Int32.toInt (Wr.neI wH2121 (Or.inl (G_ne gtq gl3 (by decide)))).symm)
                have f2128 : ∀ j : Nat, j ≠ x1.toNatClampNeg → fI H2121 l1 j = fI s.heap l1 j := fun j hj => (Wr.neI wH2121 (Or.inl (G_ne gl1 gl3 (by decide)))).trans (f2108 j hj)
                have f2129 : ∀ j : Nat, j ≠ x1.toNatClampNeg → fI H2121 l2 j = fI s.heap l2 j := fun j hj => (Wr.neI wH2121 (Or.inl (G_ne gl2 gl3 (by decide)))).trans (f2109 j hj)
                have f2130 : ∀ j : Nat, j ≠ x1.toNatClampNeg → fI H2121 l3 j = fI s.heap l3 j := fun j hj => (Wr.neI wH2121 (Or.inr hj)).trans (f2110 j hj)
                have m2131 := (Wr.neI wH2121 (Or.inl (G_ne gl2 gl3 (by decide)))).trans m2111
                have m2133 := m2113.trans (Wr.neI wH2121 (Or.inl (G_ne gl1 gl3 (by decide)))).symm
                have m2134 := m2099.trans (Wr.neR wH2121 (Or.inl (G_ne ga0 gl3 (by decide)))).symm
                have m2135 := m2115.trans (Wr.neR wH2121 (Or.inl (G_ne ga0 gl3 (by decide)))).symm
                have m2136 := m2116.trans (Wr.neR wH2121 (Or.inl (G_ne ga0 gl3 (by decide)))).symm
                have m2137 := m2117.trans (Wr.neR wH2121 (Or.inl (G_ne ga0 gl3 (by decide)))).symm
                have m2138 := m2118.trans (Wr.neI wH2121 (Or.inl (G_ne ga0 gl3 (by decide)))).symm
                have m2139 := m2119.trans (Wr.neI wH2121 (Or.inl (G_ne ga0 gl3 (by decide)))).symm
                have m2140 := ex2095.trans (Wr.neI wH2121 (Or.inl (G_ne ga0 gl3 (by decide)))).symm
                have m2141 := ex2096.trans (Wr.neI wH2121 (Or.inl (G_ne ga0 gl3 (by decide)))).symm
                have m2142 := ex2097.trans (Wr.neI wH2121 (Or.inl (G_ne ga0 gl3 (by decide)))).symm
                have m2143 := ex2098.trans (Wr.neI wH2121 (Or.inl (G_ne ga0 gl3 (by decide)))).symm
                have m2144 := Wr.I wH2121
                have m2144 := m2144.symm
                refine lv_aload_n hx hb dX10_readNumbers_135 rfl (lv_at hl 0 rfl) ?_
                refine x_gr C hTH2121 (ci := 10) (k := 28) rfl inX10 (by decide) wF_X10_71 ga0 rg_112 rfl dX10_readNumbers_136 (fun q2145 eq2145 gq2145 => ?_)
                have uq2145 : l3 = q2145 := (m2137).trans eq2145.symm
                subst uq2145
                refine lv_iload_n hx hb dX10_readNumbers_139 rfl (lv_at hl 1 rfl) ?_
                refine x_ai C hTH2121 gl3 rg_132 ⟨by omega, by show _ < ((112 : Nat) : Int); omega⟩ dX10_readNumbers_140 (fun x2146 ex2146 bx2146 => ?_)
                have ux2146 : x2094 = x2146 := (m2144).trans ex2146.symm
                subst ux2146
                have cn_fr := i_cl (x := fr) (by omega)
                have nx1_ := nm_nx nz2026
                exact x_iret C hQ dX10_readNumbers_141 hSH2121 (by decide) (by decide) (⟨x2094, x2095, x2096, x2097, x2098, rfl, m2140, m2141, m2142, m2143, by omega, m2134, m2135, m2136, m2137, g2123, g2124, g2125, g2126, mf2122, (by rcases Int.lt_or_le x2094.toInt 0 with hneg | hpos; exact Or.inl ⟨(hn_j3 (by omega) nz2026 (Or.inr ⟨by omega, rfl⟩) (by omega)).trans (by have z := RC.no m2105 (by omega); rw [n_0, n_99] at z; exact z), by omega⟩; obtain ⟨j9, o9, c9⟩ := RC.yes m2105 (by omega); rw [n_0, n_99] at o9; exact Or.inr ⟨j9, (hn_j3 (by omega) nz2026 (Or.inr ⟨by omega, rfl⟩) (by omega)).trans o9, by omega, c9⟩), Or.inr (by rw [← m2133, hn1_n (by omega)]; exact m1977.resolve_left (by omega)), Or.inr (Or.inr (Or.inl (by omega))), (by rcases m2106 with hq | hq; exact Or.inl (by omega); exact Or.inr (Or.inr (by rw [← m2144, hn3_n (by omega) (show cj2023 = ci + 1 by omega)]; exact hq))), f2128, f2129, f2130, hTH2121⟩)
            · have k2035 := i_eq c2034
              exfalso
              omega
          · have k2031 := i_eq c2030
            refine lv_aload_n hx hb dX10_readNumbers_81 rfl (lv_at hl 0 rfl) ?_
            refine x_gr C hTH1992 (ci := 10) (k := 27) rfl inX10 (by decide) wF_X10_68 ga0 rg_112 rfl dX10_readNumbers_82 (fun q2147 eq2147 gq2147 => ?_)
            have uq2147 : l2 = q2147 := (m2007).trans eq2147.symm
            subst uq2147
            refine lv_iload_n hx hb dX10_readNumbers_85 rfl (lv_at hl 1 rfl) ?_
            refine lv_aload_n hx hb dX10_readNumbers_86 rfl (lv_at hl 0 rfl) ?_
            refine lv_iconst (v := 0) hx hb dX10_readNumbers_87 (by decide) ?_
            refine lv_bipush (v := 15) hx hb dX10_readNumbers_88 (by decide) ?_
            refine x_V (As := [.int 0, .int 15]) (rest := [.int x1, .ref l2]) C (a_X10_readNumber_g l K G H1992 (0) (15) (x1966) (x1967) (x1968) (x1969) (tp) (cj2023) bt hTH1992 ga0 (by decide) (by decide) gtq m2005 m2011 m2012 m2013 m2014 m2009 g1994 g1995 g1996 g1997 (by omega) (cu2024) (hy1) f1998) yo_X10_readNumber wM_X10_276 ⟨⟨by decide, by decide⟩, by decide, by decide⟩ (x_rv C hTH1992 (ci := 10) rfl ga0 rg_112) rfl hl.1 rfl (Nat.le_of_ble_eq_true rfl) dX10_readNumbers_90 hSH1992 (AE_sub (fun _ _ => rfl) (by decide) hSH1992.1) (fun vH2148 H2148 locsH2148 pH2148 zH2148 kH2148 hSH2148 => ?_)
            obtain ⟨x2149, x2150, x2151, x2152, x2153, hvH2148, ex2150, ex2151, ex2152, ex2153, hrH2148, m2154, g2155, g2156, g2157, g2158, mf2159, m2160, m2161, hTH2148⟩ := pH2148
            subst hvH2148
            clear f1978 f1979 f1980 f1981 m1970 m1982 m1983 m1984 m1986 m1987 m1988 m1989 m1990
            have f2162 : ∀ j : Nat, bt j = (fI H2148 tq j).toInt := fun j => (f1998 j).trans (congrArg Int32.toInt (fI_kept (x_lt hTH1992 kH2148 gtq (by decide))).symm)
            have f2163 : ∀ j : Nat, j ≠ x1.toNatClampNeg → fI H2148 l1 j = fI s.heap l1 j := fun j hj => (fI_kept (x_lt hTH1992 kH2148 gl1 (by decide))).trans (f1999 j hj)
            have f2164 : ∀ j : Nat, j ≠ x1.toNatClampNeg → fI H2148 l2 j = fI s.heap l2 j := fun j hj => (fI_kept (x_lt hTH1992 kH2148 gl2 (by decide))).trans (f2000 j hj)
            have f2165 : ∀ j : Nat, j ≠ x1.toNatClampNeg → fI H2148 l3 j = fI s.heap l3 j := fun j hj => (fI_kept (x_lt hTH1992 kH2148 gl3 (by decide))).trans (f2001 j hj)
            have m2166 := (fI_kept (x_lt hTH1992 kH2148 gl2 (by decide))).trans m2003
            have m2167 := (fI_kept (x_lt hTH1992 kH2148 gl3 (by decide))).trans m2004
            have m2168 := (m2015).trans (fI_kept (x_lt hTH1992 kH2148 gl1 (by decide))).symm
            have m2169 := (m2005).trans (MF.r mf2159 (k := 17) (by decide) (by decide)).symm
            have m2170 := (m2006).trans (MF.r mf2159 (k := 26) (by decide) (by decide)).symm
            have m2171 := (m2007).trans (MF.r mf2159 (k := 27) (by decide) (by decide)).symm
            have m2172 := (m2008).trans (MF.r mf2159 (k := 28) (by decide) (by decide)).symm
            have m2173 := (m2009).trans (MF.i mf2159 (k := 18) (by decide) (by decide)).symm
            have m2174 := (m2010).trans (MF.i mf2159 (k := 34) (by decide) (by decide)).symm
            have mf2175 : MF K s.heap H2148 a0 [19, 20, 21, 22, 39, 40] := MF.trans mf1993 mf2159 (by decide)
            have bx2150 := ty_fi (x := x2150) (k := 19) ex2150 hTH2148 ga0 rg_112 rfl
            have bx2151 := ty_fi (x := x2151) (k := 20) ex2151 hTH2148 ga0 rg_112 rfl
            have bx2152 := ty_fi (x := x2152) (k := 21) ex2152 hTH2148 ga0 rg_112 rfl
            have bx2153 := ty_fi (x := x2153) (k := 22) ex2153 hTH2148 ga0 rg_112 rfl
            refine W.eq (g2 := F0 m 93 ls [.int x2149, .int x1, .ref l2]) rfl ?_
            refine x_iast C hTH2148 hSH2148 gl2 rg_131 (by omega) (by show _ < ((112 : Nat) : Int); omega) ⟨by have := i_rng x2149; omega, by have := i_rng x2149; omega⟩ (AE_in gl2 (by decide)) dX10_readNumbers_93 (fun H2176 locsH2176 hTH2176 hSH2176 wH2176 => ?_)
            clear f1998 f1999 f2000 f2001 m2003 m2004 m2005 m2006 m2007 m2008 m2009 m2010 m2011 m2012 m2013 m2014 m2015
            have mf2177 : MF K s.heap H2176 a0 [19, 20, 21, 22, 39, 40] := MF.arr wH2176 (G_ne ga0 gl2 (by decide)) mf2175
            have g2178 : CG (avw K H2176 a0) := CG.congr (fun k hk j => av_arr hTH2148 ga0 wH2176 gl2 (by decide) (CG_ok 131 (by decide) k hk)) g2155
            have g2179 : TU (avw K H2176 a0) (svw K H2176 a0) := TU.congr (fun k hk j => av_arr hTH2148 ga0 wH2176 gl2 (by decide) (TU_ok 131 (by decide) k hk)) (fun k hk => sv_arr ga0 wH2176 gl2 (by decide)) g2156
            have g2180 : WD (avw K H2176 a0) := WD.congr (fun k hk j => av_arr hTH2148 ga0 wH2176 gl2 (by decide) (WD_ok 131 (by decide) k hk)) g2157
            have g2181 : IM (avw K H2176 a0) := IM.congr (fun k hk j => av_arr hTH2148 ga0 wH2176 gl2 (by decide) (IM_ok 131 (by decide) k hk)) g2158
            have f2182 : ∀ j : Nat, bt j = (fI H2176 tq j).toInt := fun j => (f2162 j).trans (congrArg Int32.toInt (Wr.neI wH2176 (Or.inl (G_ne gtq gl2 (by decide)))).symm)
            have f2183 : ∀ j : Nat, j ≠ x1.toNatClampNeg → fI H2176 l1 j = fI s.heap l1 j := fun j hj => (Wr.neI wH2176 (Or.inl (G_ne gl1 gl2 (by decide)))).trans (f2163 j hj)
            have f2184 : ∀ j : Nat, j ≠ x1.toNatClampNeg → fI H2176 l2 j = fI s.heap l2 j := fun j hj => (Wr.neI wH2176 (Or.inr hj)).trans (f2164 j hj)
            have f2185 : ∀ j : Nat, j ≠ x1.toNatClampNeg → fI H2176 l3 j = fI s.heap l3 j := fun j hj => (Wr.neI wH2176 (Or.inl (G_ne gl3 gl2 (by decide)))).trans (f2165 j hj)
            have m2187 := (Wr.neI wH2176 (Or.inl (G_ne gl3 gl2 (by decide)))).trans m2167
            have m2188 := m2168.trans (Wr.neI wH2176 (Or.inl (G_ne gl1 gl2 (by decide)))).symm
            have m2189 := m2154.trans (Wr.neR wH2176 (Or.inl (G_ne ga0 gl2 (by decide)))).symm
            have m2190 := m2170.trans (Wr.neR wH2176 (Or.inl (G_ne ga0 gl2 (by decide)))).symm
            have m2191 := m2171.trans (Wr.neR wH2176 (Or.inl (G_ne ga0 gl2 (by decide)))).symm
            have m2192 := m2172.trans (Wr.neR wH2176 (Or.inl (G_ne ga0 gl2 (by decide)))).symm
            have m2193 := m2173.trans (Wr.neI wH2176 (Or.inl (G_ne ga0 gl2 (by decide)))).symm
            have m2194 := m2174.trans (Wr.neI wH2176 (Or.inl (G_ne ga0 gl2 (by decide)))).symm
            have m2195 := ex2150.trans (Wr.neI wH2176 (Or.inl (G_ne ga0 gl2 (by decide)))).symm
            have m2196 := ex2151.trans (Wr.neI wH2176 (Or.inl (G_ne ga0 gl2 (by decide)))).symm
            have m2197 := ex2152.trans (Wr.neI wH2176 (Or.inl (G_ne ga0 gl2 (by decide)))).symm
            have m2198 := ex2153.trans (Wr.neI wH2176 (Or.inl (G_ne ga0 gl2 (by decide)))).symm
            have m2199 := Wr.I wH2176
            have m2199 := m2199.symm
            refine lv_aload_n hx hb dX10_readNumbers_94 rfl (lv_at hl 0 rfl) ?_
            refine x_gr C hTH2176 (ci := 10) (k := 27) rfl inX10 (by decide) wF_X10_68 ga0 rg_112 rfl dX10_readNumbers_95 (fun q2200 eq2200 gq2200 => ?_)
            have uq2200 : l2 = q2200 := (m2191).trans eq2200.symm
            subst uq2200
            refine lv_iload_n hx hb dX10_readNumbers_98 rfl (lv_at hl 1 rfl) ?_
            refine x_ai C hTH2176 gl2 rg_131 ⟨by omega, by show _ < ((112 : Nat) : Int); omega⟩ dX10_readNumbers_99 (fun x2201 ex2201 bx2201 => ?_)
            have ux2201 : x2149 = x2201 := (m2199).trans ex2201.symm
            subst ux2201
            refine lv_iconst (v := (-1)) hx hb dX10_readNumbers_100 (by decide) ?_
            refine lv_icmp_ne (tgt := 106) hx hb dX10_readNumbers_101 (by decide) (fun c2202 => ?_) (fun c2202 => ?_)
            · have k2203 := i_ne c2202
              obtain ⟨cj2204, ho2206, cu2205⟩ := RC.yes m2160 (by omega)
              have nz2207 := ho2206
              rw [n_0, n_15] at nz2207
              refine lv_aload_n hx hb dX10_readNumbers_106 rfl (lv_at hl 0 rfl) ?_
              refine x_gr C hTH2176 (ci := 10) (k := 28) rfl inX10 (by decide) wF_X10_71 ga0 rg_112 rfl dX10_readNumbers_107 (fun q2208 eq2208 gq2208 => ?_)
              have uq2208 : l3 = q2208 := (m2192).trans eq2208.symm
              subst uq2208
              refine lv_iload_n hx hb dX10_readNumbers_110 rfl (lv_at hl 1 rfl) ?_
              refine lv_iload_n hx hb dX10_readNumbers_111 rfl (lv_at hl 2 rfl) ?_
              refine lv_bipush (v := 17) hx hb dX10_readNumbers_112 (by decide) ?_
              refine lv_icmp_ne (tgt := 127) hx hb dX10_readNumbers_114 (by decide) (fun c2209 => ?_) (fun c2209 => ?_)
              · have k2210 := i_ne c2209
                refine lv_aload_n hx hb dX10_readNumbers_127 rfl (lv_at hl 0 rfl) ?_
                refine lv_iconst (v := 1) hx hb dX10_readNumbers_128 (by decide) ?_
                refine lv_bipush (v := 9) hx hb dX10_readNumbers_129 (by decide) ?_
                refine x_V (As := [.int 1, .int 9]) (rest := [.int x1, .ref l3]) C (a_X10_readNumber_g l K G H2176 (1) (9) (x2150) (x2151) (x2152) (x2153) (tp) (cj2204) bt hTH2176 ga0 (by decide) (by decide) gtq m2189 m2195 m2196 m2197 m2198 m2193 g2178 g2179 g2180 g2181 (by omega) (cu2205) (hy1) f2182) yo_X10_readNumber wM_X10_276 ⟨⟨by decide, by decide⟩, by decide, by decide⟩ (x_rv C hTH2176 (ci := 10) rfl ga0 rg_112) rfl hl.1 rfl (Nat.le_of_ble_eq_true rfl) dX10_readNumbers_131 hSH2176 (AE_sub (fun _ _ => rfl) (by decide) hSH2176.1) (fun vH2211 H2211 locsH2211 pH2211 zH2211 kH2211 hSH2211 => ?_)
                obtain ⟨x2212, x2213, x2214, x2215, x2216, hvH2211, ex2213, ex2214, ex2215, ex2216, hrH2211, m2217, g2218, g2219, g2220, g2221, mf2222, m2223, m2224, hTH2211⟩ := pH2211
                subst hvH2211
                clear f2162 f2163 f2164 f2165 m2154 m2166 m2167 m2168 m2170 m2171 m2172 m2173 m2174
                have f2225 : ∀ j : Nat, bt j = (fI H2211 tq j).toInt := fun j => (f2182 j).trans (congrArg Int32.toInt (fI_kept (x_lt hTH2176 kH2211 gtq (by decide))).symm)
                have f2226 : ∀ j : Nat, j ≠ x1.toNatClampNeg → fI H2211 l1 j = fI s.heap l1 j := fun j hj => (fI_kept (x_lt hTH2176 kH2211 gl1 (by decide))).trans (f2183 j hj)
                have f2227 : ∀ j : Nat, j ≠ x1.toNatClampNeg → fI H2211 l2 j = fI s.heap l2 j := fun j hj => (fI_kept (x_lt hTH2176 kH2211 gl2 (by decide))).trans (f2184 j hj)
                have f2228 : ∀ j : Nat, j ≠ x1.toNatClampNeg → fI H2211 l3 j = fI s.heap l3 j := fun j hj => (fI_kept (x_lt hTH2176 kH2211 gl3 (by decide))).trans (f2185 j hj)
                have m2229 := (fI_kept (x_lt hTH2176 kH2211 gl3 (by decide))).trans m2187
                have m2230 := (m2188).trans (fI_kept (x_lt hTH2176 kH2211 gl1 (by decide))).symm
                have m2231 := (m2199).trans (fI_kept (x_lt hTH2176 kH2211 gl2 (by decide))).symm
                have m2232 := (m2189).trans (MF.r mf2222 (k := 17) (by decide) (by decide)).symm
                have m2233 := (m2190).trans (MF.r mf2222 (k := 26) (by decide) (by decide)).symm
                have m2234 := (m2191).trans (MF.r mf2222 (k := 27) (by decide) (by decide)).symm
                have m2235 := (m2192).trans (MF.r mf2222 (k := 28) (by decide) (by decide)).symm
                have m2236 := (m2193).trans (MF.i mf2222 (k := 18) (by decide) (by decide)).symm
                have m2237 := (m2194).trans (MF.i mf2222 (k := 34) (by decide) (by decide)).symm
                have mf2238 : MF K s.heap H2211 a0 [19, 20, 21, 22, 39, 40] := MF.trans mf2177 mf2222 (by decide)
                have bx2213 := ty_fi (x := x2213) (k := 19) ex2213 hTH2211 ga0 rg_112 rfl
                have bx2214 := ty_fi (x := x2214) (k := 20) ex2214 hTH2211 ga0 rg_112 rfl
                have bx2215 := ty_fi (x := x2215) (k := 21) ex2215 hTH2211 ga0 rg_112 rfl
                have bx2216 := ty_fi (x := x2216) (k := 22) ex2216 hTH2211 ga0 rg_112 rfl
                refine W.eq (g2 := F0 m 134 ls [.int x2212, .int x1, .ref l3]) rfl ?_
                refine x_iast C hTH2211 hSH2211 gl3 rg_132 (by omega) (by show _ < ((112 : Nat) : Int); omega) (i_rng x2212) (AE_in gl3 (by decide)) dX10_readNumbers_134 (fun H2239 locsH2239 hTH2239 hSH2239 wH2239 => ?_)
                clear f2182 f2183 f2184 f2185 m2187 m2188 m2189 m2190 m2191 m2192 m2193 m2194 m2195 m2196 m2197 m2198 m2199
                have mf2240 : MF K s.heap H2239 a0 [19, 20, 21, 22, 39, 40] := MF.arr wH2239 (G_ne ga0 gl3 (by decide)) mf2238
                have g2241 : CG (avw K H2239 a0) := CG.congr (fun k hk j => av_arr hTH2211 ga0 wH2239 gl3 (by decide) (CG_ok 132 (by decide) k hk)) g2218
                have g2242 : TU (avw K H2239 a0) (svw K H2239 a0) := TU.congr (fun k hk j => av_arr hTH2211 ga0 wH2239 gl3 (by decide) (TU_ok 132 (by decide) k hk)) (fun k hk => sv_arr ga0 wH2239 gl3 (by decide)) g2219
                have g2243 : WD (avw K H2239 a0) := WD.congr (fun k hk j => av_arr hTH2211 ga0 wH2239 gl3 (by decide) (WD_ok 132 (by decide) k hk)) g2220
                have g2244 : IM (avw K H2239 a0) := IM.congr (fun k hk j => av_arr hTH2211 ga0 wH2239 gl3 (by decide) (IM_ok 132 (by decide) k hk)) g2221
                have f2245 : ∀ j : Nat, bt j = (fI H2239 tq j).toInt := fun j => (f2225 j).trans (congrArg Int32.toInt (Wr.neI wH2239 (Or.inl (G_ne gtq gl3 (by decide)))).symm)
                have f2246 : ∀ j : Nat, j ≠ x1.toNatClampNeg → fI H2239 l1 j = fI s.heap l1 j := fun j hj => (Wr.neI wH2239 (Or.inl (G_ne gl1 gl3 (by decide)))).trans (f2226 j hj)
                have f2247 : ∀ j : Nat, j ≠ x1.toNatClampNeg → fI H2239 l2 j = fI s.heap l2 j := fun j hj => (Wr.neI wH2239 (Or.inl (G_ne gl2 gl3 (by decide)))).trans (f2227 j hj)
                have f2248 : ∀ j : Nat, j ≠ x1.toNatClampNeg → fI H2239 l3 j = fI s.heap l3 j := fun j hj => (Wr.neI wH2239 (Or.inr hj)).trans (f2228 j hj)
                have m2250 := m2230.trans (Wr.neI wH2239 (Or.inl (G_ne gl1 gl3 (by decide)))).symm
                have m2251 := m2231.trans (Wr.neI wH2239 (Or.inl (G_ne gl2 gl3 (by decide)))).symm
                have m2252 := m2217.trans (Wr.neR wH2239 (Or.inl (G_ne ga0 gl3 (by decide)))).symm
                have m2253 := m2233.trans (Wr.neR wH2239 (Or.inl (G_ne ga0 gl3 (by decide)))).symm
                have m2254 := m2234.trans (Wr.neR wH2239 (Or.inl (G_ne ga0 gl3 (by decide)))).symm
                have m2255 := m2235.trans (Wr.neR wH2239 (Or.inl (G_ne ga0 gl3 (by decide)))).symm
                have m2256 := m2236.trans (Wr.neI wH2239 (Or.inl (G_ne ga0 gl3 (by decide)))).symm
                have m2257 := m2237.trans (Wr.neI wH2239 (Or.inl (G_ne ga0 gl3 (by decide)))).symm
                have m2258 := ex2213.trans (Wr.neI wH2239 (Or.inl (G_ne ga0 gl3 (by decide)))).symm
                have m2259 := ex2214.trans (Wr.neI wH2239 (Or.inl (G_ne ga0 gl3 (by decide)))).symm
                have m2260 := ex2215.trans (Wr.neI wH2239 (Or.inl (G_ne ga0 gl3 (by decide)))).symm
                have m2261 := ex2216.trans (Wr.neI wH2239 (Or.inl (G_ne ga0 gl3 (by decide)))).symm
                have m2262 := Wr.I wH2239
                have m2262 := m2262.symm
                refine lv_aload_n hx hb dX10_readNumbers_135 rfl (lv_at hl 0 rfl) ?_
                refine x_gr C hTH2239 (ci := 10) (k := 28) rfl inX10 (by decide) wF_X10_71 ga0 rg_112 rfl dX10_readNumbers_136 (fun q2263 eq2263 gq2263 => ?_)
                have uq2263 : l3 = q2263 := (m2255).trans eq2263.symm
                subst uq2263
                refine lv_iload_n hx hb dX10_readNumbers_139 rfl (lv_at hl 1 rfl) ?_
                refine x_ai C hTH2239 gl3 rg_132 ⟨by omega, by show _ < ((112 : Nat) : Int); omega⟩ dX10_readNumbers_140 (fun x2264 ex2264 bx2264 => ?_)
                have ux2264 : x2212 = x2264 := (m2262).trans ex2264.symm
                subst ux2264
                have cn_fr := i_cl (x := fr) (by omega)
                have nx1_ := nm_nx nz2026
                have nx2_ := nm_nx nz2207
                exact x_iret C hQ dX10_readNumbers_141 hSH2239 (by decide) (by decide) (⟨x2212, x2213, x2214, x2215, x2216, rfl, m2258, m2259, m2260, m2261, by omega, m2252, m2253, m2254, m2255, g2241, g2242, g2243, g2244, mf2240, (by rcases Int.lt_or_le x2212.toInt 0 with hneg | hpos; exact Or.inl ⟨(hn_j4 (by omega) nz2026 (Or.inl ⟨by omega, nz2207⟩) (by omega) (by omega)).trans (by have z := RC.no m2223 (by omega); rw [n_1, n_9] at z; exact z), by omega⟩; obtain ⟨j9, o9, c9⟩ := RC.yes m2223 (by omega); rw [n_1, n_9] at o9; exact Or.inr ⟨j9, (hn_j4 (by omega) nz2026 (Or.inl ⟨by omega, nz2207⟩) (by omega) (by omega)).trans o9, by omega, c9⟩), Or.inr (by rw [← m2250, hn1_n (by omega)]; exact m1977.resolve_left (by omega)), Or.inr (Or.inr (Or.inr (by rw [← m2251, ← nm_nx nz2026]; exact m2161.resolve_left (by omega)))), (by rcases m2224 with hq | hq; exact Or.inl (by omega); exact Or.inr (Or.inr (by rw [← m2262, hn3_5 (by omega) (show cj2204 = ci + 2 by omega)]; exact hq))), f2246, f2247, f2248, hTH2239⟩)
              · have k2210 := i_eq c2209
                exfalso
                omega
            · have k2203 := i_eq c2202
              refine lv_iconst (v := (-1)) hx hb dX10_readNumbers_104 (by decide) ?_
              have cn_fr := i_cl (x := fr) (by omega)
              have nz2265 := RC.no m2160 (by omega)
              rw [n_0, n_15] at nz2265
              exact x_iret C hQ dX10_readNumbers_105 hSH2176 (by decide) (by decide) (⟨(-1), x2150, x2151, x2152, x2153, rfl, m2195, m2196, m2197, m2198, by omega, m2189, m2190, m2191, m2192, g2178, g2179, g2180, g2181, mf2177, Or.inl ⟨hn_j2 (by omega) nz2026 (by omega) nz2265, by omega⟩, Or.inl (by omega), Or.inl (by omega), Or.inl (by omega), f2183, f2184, f2185, hTH2176⟩)
        · have k2029 := i_eq c2028
          exfalso
          omega
  · have k1891 := i_eq c1890
    refine lv_iconst (v := 0) hx hb dX10_readNumbers_26 (by decide) ?_
    have cn_fr := i_cl (x := fr) (by omega)
    exact x_iret C hQ dX10_readNumbers_27 hSH1867 (by decide) (by decide) (⟨0, sp, fr, tk, vl, rfl, m1881, m1882, m1883, m1884, by omega, m1877, m1878, m1879, m1880, g1869, g1870, g1871, g1872, mf1868, Or.inr ⟨ci, hn_l3 (by omega) (by omega), by omega, hy0⟩, Or.inr (by rw [m1887, hn1_3 ⟨by omega, by omega⟩]; exact n_0), Or.inr (Or.inl (by omega)), Or.inr (Or.inl (by omega)), f1874, f1875, f1876, hTH1867⟩)
