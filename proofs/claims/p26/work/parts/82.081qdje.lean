set_option maxHeartbeats 4000000 in
set_option maxRecDepth 100000 in
theorem a_X10_of_v (l : Launch) (K : KE) (G : Nat → Option Nat) (H : Heap) {a0 : Nat} (x1 : Int32) (x2 : Int32) (x3 : Int32) {slq : Nat} {kq : Nat} {gnq : Nat} {hvq : Nat} {wxq : Nat} (bs : Int32) (sz : Int32) (hT : TY K G H) (ga0 : G a0 = some 112) (hx1 : 0 ≤ x1.toInt ∧ x1.toInt ≤ 9) (gslq : G slq = some 113) (eslq : slq = fR H a0 (K.1.2 10 4)) (gkq : G kq = some 114) (ekq : kq = fR H a0 (K.1.2 10 5)) (ggnq : G gnq = some 115) (egnq : gnq = fR H a0 (K.1.2 10 6)) (ghvq : G hvq = some 116) (ehvq : hvq = fR H a0 (K.1.2 10 7)) (gwxq : G wxq = some 117) (ewxq : wxq = fR H a0 (K.1.2 10 8)) (ebs : bs = fI H a0 (K.1.2 10 1)) (esz : sz = fI H slq (x1 : Int32).toNatClampNeg) (hg_CG : CG (avw K H a0)) (hg_TU : TU (avw K H a0) (svw K H a0)) (hg_WD : WD (avw K H a0)) (hg_IM : IM (avw K H a0)) (hp0 : x1.toInt < bs.toInt) : MX l K yX10_of cX10_of 5 (some .int) 2 43 0 0 [.ref a0, .int x1, .int x2, .int x3] H (AE G [112] H.size) (fun v H1 => ∃ (r : Int32), v = some (.int r) ∧ slq = fR H1 a0 (K.1.2 10 4) ∧ kq = fR H1 a0 (K.1.2 10 5) ∧ gnq = fR H1 a0 (K.1.2 10 6) ∧ hvq = fR H1 a0 (K.1.2 10 7) ∧ wxq = fR H1 a0 (K.1.2 10 8) ∧ (CG (avw K H1 a0)) ∧ (TU (avw K H1 a0) (svw K H1 a0)) ∧ (WD (avw K H1 a0)) ∧ (IM (avw K H1 a0)) ∧ MF K H H1 a0 [0] ∧ (r.toInt = ofV (vwR K H a0 x1.toNatClampNeg) x2.toInt x3.toInt) ∧ TY K G H1) := by
  refine MX.of (by decide +kernel) (Nat.le_of_ble_eq_true rfl) ?_
  intro p e s m below meth c ls Q C hH hl hQ
  subst hH
  have C : CX p K s m _ meth c RX10 cX10_of 5 (some .int) "of" := C
  obtain ⟨hx, hb, hml, hown, hts, hKT, hr, hlocks, hnm⟩ := id C
  have hl : lv_has ls 5 [(0, .ref a0), (1, .int x1), (2, .int x2), (3, .int x3)] := hl
  have hS : va_S (AE G [112] s.heap.size) s.heap s.heap [] := va_S.rf
  have n_m1 : ((-1) : Int32).toInt = -1 := rfl
  have n_0 : (0 : Int32).toInt = 0 := rfl
  have n_1 : (1 : Int32).toInt = 1 := rfl
  have n_2 : (2 : Int32).toInt = 2 := rfl
  have n_3 : (3 : Int32).toInt = 3 := rfl
  have n_16 : (16 : Int32).toInt = 16 := rfl
  have bbs := ty_fi (x := bs) (k := 1) ebs hT ga0 rg_112 rfl
  have bsz := ty_ai (x := sz) esz hT gslq rg_113 (by omega)
  have hap : ∀ x y, x < 74 → y < 74 → x ≠ y → K.1.2 10 x ≠ K.1.2 10 y := x_apart hKT hts inX10 tyX10 tyX10_ok nmX10 rfl
  have mf0 : MF K s.heap s.heap a0 [0] := fun _ _ _ => rfl
  have vr_0 : vwR K s.heap a0 x1.toNatClampNeg = vwR K s.heap a0 x1.toNatClampNeg := rfl
  have vo_0 : ∀ b2 : Nat, b2 ≠ x1.toNatClampNeg → EqV (vwR K s.heap a0 b2) (vwR K s.heap a0 b2) := fun _ _ => EqV.rf
  have v00 : vwR K s.heap a0 x1.toNatClampNeg 0 0 = sz.toInt := by rw [vwR_f (by decide)]; show (fI s.heap (fR s.heap a0 (K.1.2 10 4)) x1.toNatClampNeg).toInt = _; rw [← eslq, ← esz]
  refine lv_aload_n hx hb dX10_of_0 rfl (lv_at hl 0 rfl) ?_
  refine lv_iconst (v := 0) hx hb dX10_of_1 (by decide) ?_
  refine x_put C hT hS (ci := 10) (k := 0) (v := .int 0) (ty0 := tyX10) rfl inX10 tyX10_ok nmX10 (by decide) rfl wF_X10_167 ga0 rg_112 rfl rfl (okI (by have := i_rng (0 : Int32); omega) (by have := i_rng (0 : Int32); omega)) rfl rfl (AE_in ga0 (by decide)) dX10_of_2 (fun H305 locsH305 hTH305 hSH305 wH305 => ?_)
  have mf306 : MF K s.heap H305 a0 [0] := MF.fld hap wH305 (by decide) (by decide) mf0
  have g307 : CG (avw K H305 a0) := CG.congr (fun k hk j => av_fld hT ga0 hap wH305 (by decide) (CG_ok 112 (by decide) k hk) (CG_ne 0 (by decide) k hk)) hg_CG
  have g308 : TU (avw K H305 a0) (svw K H305 a0) := TU.congr (fun k hk j => av_fld hT ga0 hap wH305 (by decide) (TU_ok 112 (by decide) k hk) (TU_ne 0 (by decide) k hk)) (fun k hk => sv_fld hap wH305 (by decide) (TU_slt k hk) (TU_sne 0 (by decide) k hk)) hg_TU
  have g309 : WD (avw K H305 a0) := WD.congr (fun k hk j => av_fld hT ga0 hap wH305 (by decide) (WD_ok 112 (by decide) k hk) (WD_ne 0 (by decide) k hk)) hg_WD
  have g310 : IM (avw K H305 a0) := IM.congr (fun k hk j => av_fld hT ga0 hap wH305 (by decide) (IM_ok 112 (by decide) k hk) (IM_ne 0 (by decide) k hk)) hg_IM
  have m311 := eslq.trans (Wr.neR wH305 (Or.inr (x_apart hKT hts inX10 tyX10 tyX10_ok nmX10 rfl 4 0 (by decide) (by decide) (by decide)))).symm
  have m312 := ekq.trans (Wr.neR wH305 (Or.inr (x_apart hKT hts inX10 tyX10 tyX10_ok nmX10 rfl 5 0 (by decide) (by decide) (by decide)))).symm
  have m313 := egnq.trans (Wr.neR wH305 (Or.inr (x_apart hKT hts inX10 tyX10 tyX10_ok nmX10 rfl 6 0 (by decide) (by decide) (by decide)))).symm
  have m314 := ehvq.trans (Wr.neR wH305 (Or.inr (x_apart hKT hts inX10 tyX10 tyX10_ok nmX10 rfl 7 0 (by decide) (by decide) (by decide)))).symm
  have m315 := ewxq.trans (Wr.neR wH305 (Or.inr (x_apart hKT hts inX10 tyX10 tyX10_ok nmX10 rfl 8 0 (by decide) (by decide) (by decide)))).symm
  have m316 := ebs.trans (Wr.neI wH305 (Or.inr (x_apart hKT hts inX10 tyX10 tyX10_ok nmX10 rfl 1 0 (by decide) (by decide) (by decide)))).symm
  have m317 := esz.trans (Wr.neI wH305 (Or.inl (G_ne gslq ga0 (by decide)))).symm
  have m318 := Wr.I wH305
  have vr319 : vwR K H305 a0 x1.toNatClampNeg = (vwR K s.heap a0 x1.toNatClampNeg) := (vr_told hap hT ga0 wH305).trans vr_0
  have vo320 : ∀ b2 : Nat, b2 ≠ x1.toNatClampNeg → EqV (vwR K H305 a0 b2) (vwR K s.heap a0 b2) := fun b2 hb => by rw [vr_told hap hT ga0 wH305]; exact vo_0 b2 hb
  refine lv_aload_n hx hb dX10_of_5 rfl (lv_at hl 0 rfl) ?_
  refine lv_iload_n hx hb dX10_of_6 rfl (lv_at hl 1 rfl) ?_
  refine lv_iload_n hx hb dX10_of_7 rfl (lv_at hl 2 rfl) ?_
  refine x_V (As := [.int x1, .int x2]) (rest := []) C (a_X10_isSlice_v l K G H305 (x1) (x2) (bs) (sz) hTH305 ga0 (by omega) gslq m311 m316 m317 (by omega)) yo_X10_isSlice wM_X10_181 ⟨⟨by decide, by decide⟩, by decide, by decide⟩ (x_rv C hTH305 (ci := 10) rfl ga0 rg_112) rfl hl.1 rfl (Nat.le_of_ble_eq_true rfl) dX10_of_8 hSH305 (AE_sub (fun _ _ => rfl) (by decide) hSH305.1) (fun vH321 H321 locsH321 pH321 zH321 kH321 hSH321 => ?_)
  obtain ⟨x322, hvH321, bx322, hrH321, hTH321⟩ := pH321
  subst hvH321
  have mf323 : MF K s.heap H321 a0 [0] := MF.eff (x_lt hTH305 kH321 ga0 (by decide)) mf306
  have g324 : CG (avw K H321 a0) := CG.congr (fun k hk j => av_eff hTH305 kH321 ga0 (by decide) (CG_eff [] (by decide) k hk)) g307
  have g325 : TU (avw K H321 a0) (svw K H321 a0) := TU.congr (fun k hk j => av_eff hTH305 kH321 ga0 (by decide) (TU_eff [] (by decide) k hk)) (fun k hk => sv_eff hTH305 kH321 ga0 (by decide)) g308
  have g326 : WD (avw K H321 a0) := WD.congr (fun k hk j => av_eff hTH305 kH321 ga0 (by decide) (WD_eff [] (by decide) k hk)) g309
  have g327 : IM (avw K H321 a0) := IM.congr (fun k hk j => av_eff hTH305 kH321 ga0 (by decide) (IM_eff [] (by decide) k hk)) g310
  have m328 := (m311).trans (fR_kept (x_lt hTH305 kH321 ga0 (by decide))).symm
  have m329 := (m312).trans (fR_kept (x_lt hTH305 kH321 ga0 (by decide))).symm
  have m330 := (m313).trans (fR_kept (x_lt hTH305 kH321 ga0 (by decide))).symm
  have m331 := (m314).trans (fR_kept (x_lt hTH305 kH321 ga0 (by decide))).symm
  have m332 := (m315).trans (fR_kept (x_lt hTH305 kH321 ga0 (by decide))).symm
  have m333 := (m316).trans (fI_kept (x_lt hTH305 kH321 ga0 (by decide))).symm
  have m334 := (m317).trans (fI_kept (x_lt hTH305 kH321 gslq (by decide))).symm
  have m335 := (fI_kept (x_lt hTH305 kH321 ga0 (by decide))).trans m318
  have vr336 : vwR K H321 a0 x1.toNatClampNeg = (vwR K s.heap a0 x1.toNatClampNeg) := (vr_frr hTH305 ga0 (fun q t hq h1 h2 => x_lt hTH305 kH321 hq (by first | omega | (intro z; simp only [List.mem_cons, List.not_mem_nil, or_false] at z <;> omega)))).trans vr319
  have vo337 : ∀ b2 : Nat, b2 ≠ x1.toNatClampNeg → EqV (vwR K H321 a0 b2) (vwR K s.heap a0 b2) := fun b2 hb => by rw [vr_frr hTH305 ga0 (fun q t hq h1 h2 => x_lt hTH305 kH321 hq (by first | omega | (intro z; simp only [List.mem_cons, List.not_mem_nil, or_false] at z <;> omega)))]; exact vo320 b2 hb
  refine W.eq (g2 := F0 m 11 ls [.int x322]) rfl ?_
  refine lv_if_ne (tgt := 16) hx hb dX10_of_11 (by decide) (fun c338 => ?_) (fun c338 => ?_)
  · have k339 := i_ne c338
    refine lv_bipush (v := 16) hx hb dX10_of_16 (by decide) ?_
    refine lv_iload_n hx hb dX10_of_18 rfl (lv_at hl 1 rfl) ?_
    refine lv_imul hx hb dX10_of_19 ?_
    refine lv_topi (fun x340 ex340 => ?_)
    have tx340 := i_mul ex340 (by rw [n_16]; omega)
    rw [n_16] at tx340
    refine lv_iload_n hx hb dX10_of_20 rfl (lv_at hl 2 rfl) ?_
    refine lv_iadd hx hb dX10_of_21 ?_
    refine lv_topi (fun x341 ex341 => ?_)
    have tx341 := i_add ex341 (by omega)
    refine lv_istore (lv' := [(4, .int x341), (0, .ref a0), (1, .int x1), (2, .int x2), (3, .int x3)]) hx hb dX10_of_22 hl (by decide) rfl (fun ls342 hl343 => ?_)
    refine lv_iload_n hx hb dX10_of_24 rfl (lv_at hl343 4 rfl) ?_
    refine lv_if_ne (tgt := 38) hx hb dX10_of_25 (by decide) (fun c344 => ?_) (fun c344 => ?_)
    · have k345 := i_ne c344
      refine lv_iload_n hx hb dX10_of_38 rfl (lv_at hl343 4 rfl) ?_
      refine lv_iconst (v := 1) hx hb dX10_of_39 (by decide) ?_
      refine lv_icmp_ne (tgt := 53) hx hb dX10_of_40 (by decide) (fun c346 => ?_) (fun c346 => ?_)
      · have k347 := i_ne c346
        refine lv_iload_n hx hb dX10_of_53 rfl (lv_at hl343 4 rfl) ?_
        refine lv_iconst (v := 2) hx hb dX10_of_54 (by decide) ?_
        refine lv_icmp_ne (tgt := 68) hx hb dX10_of_55 (by decide) (fun c348 => ?_) (fun c348 => ?_)
        · have k349 := i_ne c348
          refine lv_iload_n hx hb dX10_of_68 rfl (lv_at hl343 4 rfl) ?_
          refine lv_iconst (v := 3) hx hb dX10_of_69 (by decide) ?_
          refine lv_icmp_ne (tgt := 83) hx hb dX10_of_70 (by decide) (fun c350 => ?_) (fun c350 => ?_)
          · have k351 := i_ne c350
            refine lv_iconst (v := (-1)) hx hb dX10_of_83 (by decide) ?_
            exact x_iret C hQ dX10_of_84 hSH321 (by decide) (by decide) (⟨(-1), rfl, m328, m329, m330, m331, m332, g324, g325, g326, g327, mf323, (ofV_no (by rw [v00]; omega) n_m1), hTH321⟩)
          · have k351 := i_eq c350
            refine lv_aload_n hx hb dX10_of_73 rfl (lv_at hl343 1 rfl) ?_
            refine x_gr C hTH321 (ci := 10) (k := 8) rfl inX10 (by decide) wF_X10_26 ga0 rg_112 rfl dX10_of_74 (fun q352 eq352 gq352 => ?_)
            have uq352 : wxq = q352 := (m332).trans eq352.symm
            subst uq352
            refine lv_iload hx hb dX10_of_77 (lv_at hl343 0 rfl) ?_
            refine x_ai C hTH321 gwxq rg_117 ⟨by omega, by show _ < ((160 : Nat) : Int); omega⟩ dX10_of_79 (fun x353 ex353 bx353 => ?_)
            refine lv_goto (tgt := 84) hx hb dX10_of_80 (by decide) ?_
            have cn_x1 := i_cl (x := x1) (by omega)
            have cn_x2 := i_cl (x := x2) (by omega)
            have cn_x341 := i_cl (x := x341) (by omega)
            exact x_iret C hQ dX10_of_84 hSH321 (by decide) (by decide) (⟨x353, rfl, m328, m329, m330, m331, m332, g324, g325, g326, g327, mf323, (ofV_at (k := 3) (by rw [v00]; omega) (by omega) (by decide) (by show _ = vwR K s.heap a0 x1.toNatClampNeg 4 x2.toNatClampNeg; rw [← vr336, vwR_a (k := 4) (by decide)]; show _ = (fI H321 (fR H321 a0 (K.1.2 10 8)) (16 * x1.toNatClampNeg + x2.toNatClampNeg)).toInt; rw [← m332, show 16 * x1.toNatClampNeg + x2.toNatClampNeg = x341.toNatClampNeg by omega]; exact congrArg Int32.toInt ex353)), hTH321⟩)
        · have k349 := i_eq c348
          refine lv_aload_n hx hb dX10_of_58 rfl (lv_at hl343 1 rfl) ?_
          refine x_gr C hTH321 (ci := 10) (k := 7) rfl inX10 (by decide) wF_X10_23 ga0 rg_112 rfl dX10_of_59 (fun q354 eq354 gq354 => ?_)
          have uq354 : hvq = q354 := (m331).trans eq354.symm
          subst uq354
          refine lv_iload hx hb dX10_of_62 (lv_at hl343 0 rfl) ?_
          refine x_ai C hTH321 ghvq rg_116 ⟨by omega, by show _ < ((160 : Nat) : Int); omega⟩ dX10_of_64 (fun x355 ex355 bx355 => ?_)
          refine lv_goto (tgt := 84) hx hb dX10_of_65 (by decide) ?_
          have cn_x1 := i_cl (x := x1) (by omega)
          have cn_x2 := i_cl (x := x2) (by omega)
          have cn_x341 := i_cl (x := x341) (by omega)
          exact x_iret C hQ dX10_of_84 hSH321 (by decide) (by decide) (⟨x355, rfl, m328, m329, m330, m331, m332, g324, g325, g326, g327, mf323, (ofV_at (k := 2) (by rw [v00]; omega) (by omega) (by decide) (by show _ = vwR K s.heap a0 x1.toNatClampNeg 3 x2.toNatClampNeg; rw [← vr336, vwR_a (k := 3) (by decide)]; show _ = (fI H321 (fR H321 a0 (K.1.2 10 7)) (16 * x1.toNatClampNeg + x2.toNatClampNeg)).toInt; rw [← m331, show 16 * x1.toNatClampNeg + x2.toNatClampNeg = x341.toNatClampNeg by omega]; exact congrArg Int32.toInt ex355)), hTH321⟩)
      · have k347 := i_eq c346
        refine lv_aload_n hx hb dX10_of_43 rfl (lv_at hl343 1 rfl) ?_
        refine x_gr C hTH321 (ci := 10) (k := 6) rfl inX10 (by decide) wF_X10_20 ga0 rg_112 rfl dX10_of_44 (fun q356 eq356 gq356 => ?_)
        have uq356 : gnq = q356 := (m330).trans eq356.symm
        subst uq356
        refine lv_iload hx hb dX10_of_47 (lv_at hl343 0 rfl) ?_
        refine x_ai C hTH321 ggnq rg_115 ⟨by omega, by show _ < ((160 : Nat) : Int); omega⟩ dX10_of_49 (fun x357 ex357 bx357 => ?_)
        refine lv_goto (tgt := 84) hx hb dX10_of_50 (by decide) ?_
        have cn_x1 := i_cl (x := x1) (by omega)
        have cn_x2 := i_cl (x := x2) (by omega)
        have cn_x341 := i_cl (x := x341) (by omega)
        exact x_iret C hQ dX10_of_84 hSH321 (by decide) (by decide) (⟨x357, rfl, m328, m329, m330, m331, m332, g324, g325, g326, g327, mf323, (ofV_at (k := 1) (by rw [v00]; omega) (by omega) (by decide) (by show _ = vwR K s.heap a0 x1.toNatClampNeg 2 x2.toNatClampNeg; rw [← vr336, vwR_a (k := 2) (by decide)]; show _ = (fI H321 (fR H321 a0 (K.1.2 10 6)) (16 * x1.toNatClampNeg + x2.toNatClampNeg)).toInt; rw [← m330, show 16 * x1.toNatClampNeg + x2.toNatClampNeg = x341.toNatClampNeg by omega]; exact congrArg Int32.toInt ex357)), hTH321⟩)
    · have k345 := i_eq c344
      refine lv_aload_n hx hb dX10_of_28 rfl (lv_at hl343 1 rfl) ?_
      refine x_gr C hTH321 (ci := 10) (k := 5) rfl inX10 (by decide) wF_X10_17 ga0 rg_112 rfl dX10_of_29 (fun q358 eq358 gq358 => ?_)
      have uq358 : kq = q358 := (m329).trans eq358.symm
      subst uq358
      refine lv_iload hx hb dX10_of_32 (lv_at hl343 0 rfl) ?_
      refine x_ai C hTH321 gkq rg_114 ⟨by omega, by show _ < ((160 : Nat) : Int); omega⟩ dX10_of_34 (fun x359 ex359 bx359 => ?_)
      refine lv_goto (tgt := 84) hx hb dX10_of_35 (by decide) ?_
      have cn_x1 := i_cl (x := x1) (by omega)
      have cn_x2 := i_cl (x := x2) (by omega)
      have cn_x341 := i_cl (x := x341) (by omega)
      exact x_iret C hQ dX10_of_84 hSH321 (by decide) (by decide) (⟨x359, rfl, m328, m329, m330, m331, m332, g324, g325, g326, g327, mf323, (ofV_at (k := 0) (by rw [v00]; omega) (by omega) (by decide) (by show _ = vwR K s.heap a0 x1.toNatClampNeg 1 x2.toNatClampNeg; rw [← vr336, vwR_a (k := 1) (by decide)]; show _ = (fI H321 (fR H321 a0 (K.1.2 10 5)) (16 * x1.toNatClampNeg + x2.toNatClampNeg)).toInt; rw [← m329, show 16 * x1.toNatClampNeg + x2.toNatClampNeg = x341.toNatClampNeg by omega]; exact congrArg Int32.toInt ex359)), hTH321⟩)
  · have k339 := i_eq c338
    refine lv_iconst (v := (-1)) hx hb dX10_of_14 (by decide) ?_
    exact x_iret C hQ dX10_of_15 hSH321 (by decide) (by decide) (⟨(-1), rfl, m328, m329, m330, m331, m332, g324, g325, g326, g327, mf323, (ofV_no (by rw [v00]; omega) n_m1), hTH321⟩)

set_option maxHeartbeats 4000000 in
set_option maxRecDepth 100000 in
theorem a_X10_pass_v (l : Launch) (K : KE) (G : Nat → Option Nat) (H : Heap) {a0 : Nat} (x1 : Int32) (x2 : Int32) (x3 : Int32) {psq : Nat} {paq : Nat} {pdq : Nat} (bs : Int32) (ps : Int32) (hT : TY K G H) (ga0 : G a0 = some 112) (hx1 : 0 ≤ x1.toInt ∧ x1.toInt ≤ 9) (gpsq : G psq = some 119) (epsq : psq = fR H a0 (K.1.2 10 10)) (gpaq : G paq = some 120) (epaq : paq = fR H a0 (K.1.2 10 11)) (gpdq : G pdq = some 121) (epdq : pdq = fR H a0 (K.1.2 10 12)) (ebs : bs = fI H a0 (K.1.2 10 1)) (eps : ps = fI H psq (x1 : Int32).toNatClampNeg) (hg_CG : CG (avw K H a0)) (hg_TU : TU (avw K H a0) (svw K H a0)) (hg_WD : WD (avw K H a0)) (hg_IM : IM (avw K H a0)) (hp0 : x1.toInt < bs.toInt) : MX l K yX10_pass cX10_pass 4 (some .int) 1 23 0 0 [.ref a0, .int x1, .int x2, .int x3] H (AE G [112] H.size) (fun v H1 => ∃ (r : Int32), v = some (.int r) ∧ psq = fR H1 a0 (K.1.2 10 10) ∧ paq = fR H1 a0 (K.1.2 10 11) ∧ pdq = fR H1 a0 (K.1.2 10 12) ∧ (CG (avw K H1 a0)) ∧ (TU (avw K H1 a0) (svw K H1 a0)) ∧ (WD (avw K H1 a0)) ∧ (IM (avw K H1 a0)) ∧ MF K H H1 a0 [0] ∧ (r.toInt = pqV (vwR K H a0 x1.toNatClampNeg) x2.toInt x3.toInt) ∧ TY K G H1) := by
  refine MX.of (by decide +kernel) (Nat.le_of_ble_eq_true rfl) ?_
  intro p e s m below meth c ls Q C hH hl hQ
  subst hH
  have C : CX p K s m _ meth c RX10 cX10_pass 4 (some .int) "pass" := C
  obtain ⟨hx, hb, hml, hown, hts, hKT, hr, hlocks, hnm⟩ := id C
  have hl : lv_has ls 4 [(0, .ref a0), (1, .int x1), (2, .int x2), (3, .int x3)] := hl
  have hS : va_S (AE G [112] s.heap.size) s.heap s.heap [] := va_S.rf
  have n_m1 : ((-1) : Int32).toInt = -1 := rfl
  have n_0 : (0 : Int32).toInt = 0 := rfl
  have n_1 : (1 : Int32).toInt = 1 := rfl
  have n_200 : (200 : Int32).toInt = 200 := rfl
  have bbs := ty_fi (x := bs) (k := 1) ebs hT ga0 rg_112 rfl
  have bps := ty_ai (x := ps) eps hT gpsq rg_119 (by omega)
  have hap : ∀ x y, x < 74 → y < 74 → x ≠ y → K.1.2 10 x ≠ K.1.2 10 y := x_apart hKT hts inX10 tyX10 tyX10_ok nmX10 rfl
  have mf0 : MF K s.heap s.heap a0 [0] := fun _ _ _ => rfl
  have vr_0 : vwR K s.heap a0 x1.toNatClampNeg = vwR K s.heap a0 x1.toNatClampNeg := rfl
  have vo_0 : ∀ b2 : Nat, b2 ≠ x1.toNatClampNeg → EqV (vwR K s.heap a0 b2) (vwR K s.heap a0 b2) := fun _ _ => EqV.rf
  have v80 : vwR K s.heap a0 x1.toNatClampNeg 8 0 = ps.toInt := by rw [vwR_f (by decide)]; show (fI s.heap (fR s.heap a0 (K.1.2 10 10)) x1.toNatClampNeg).toInt = _; rw [← epsq, ← eps]
  refine lv_aload_n hx hb dX10_pass_0 rfl (lv_at hl 0 rfl) ?_
  refine lv_iconst (v := 0) hx hb dX10_pass_1 (by decide) ?_
  refine x_put C hT hS (ci := 10) (k := 0) (v := .int 0) (ty0 := tyX10) rfl inX10 tyX10_ok nmX10 (by decide) rfl wF_X10_167 ga0 rg_112 rfl rfl (okI (by have := i_rng (0 : Int32); omega) (by have := i_rng (0 : Int32); omega)) rfl rfl (AE_in ga0 (by decide)) dX10_pass_2 (fun H333 locsH333 hTH333 hSH333 wH333 => ?_)
  have mf334 : MF K s.heap H333 a0 [0] := MF.fld hap wH333 (by decide) (by decide) mf0
  have g335 : CG (avw K H333 a0) := CG.congr (fun k hk j => av_fld hT ga0 hap wH333 (by decide) (CG_ok 112 (by decide) k hk) (CG_ne 0 (by decide) k hk)) hg_CG
  have g336 : TU (avw K H333 a0) (svw K H333 a0) := TU.congr (fun k hk j => av_fld hT ga0 hap wH333 (by decide) (TU_ok 112 (by decide) k hk) (TU_ne 0 (by decide) k hk)) (fun k hk => sv_fld hap wH333 (by decide) (TU_slt k hk) (TU_sne 0 (by decide) k hk)) hg_TU
  have g337 : WD (avw K H333 a0) := WD.congr (fun k hk j => av_fld hT ga0 hap wH333 (by decide) (WD_ok 112 (by decide) k hk) (WD_ne 0 (by decide) k hk)) hg_WD
  have g338 : IM (avw K H333 a0) := IM.congr (fun k hk j => av_fld hT ga0 hap wH333 (by decide) (IM_ok 112 (by decide) k hk) (IM_ne 0 (by decide) k hk)) hg_IM
  have m339 := epsq.trans (Wr.neR wH333 (Or.inr (x_apart hKT hts inX10 tyX10 tyX10_ok nmX10 rfl 10 0 (by decide) (by decide) (by decide)))).symm
  have m340 := epaq.trans (Wr.neR wH333 (Or.inr (x_apart hKT hts inX10 tyX10 tyX10_ok nmX10 rfl 11 0 (by decide) (by decide) (by decide)))).symm
  have m341 := epdq.trans (Wr.neR wH333 (Or.inr (x_apart hKT hts inX10 tyX10 tyX10_ok nmX10 rfl 12 0 (by decide) (by decide) (by decide)))).symm
  have m342 := ebs.trans (Wr.neI wH333 (Or.inr (x_apart hKT hts inX10 tyX10 tyX10_ok nmX10 rfl 1 0 (by decide) (by decide) (by decide)))).symm
  have m343 := eps.trans (Wr.neI wH333 (Or.inl (G_ne gpsq ga0 (by decide)))).symm
  have m344 := Wr.I wH333
  have vr345 : vwR K H333 a0 x1.toNatClampNeg = (vwR K s.heap a0 x1.toNatClampNeg) := (vr_told hap hT ga0 wH333).trans vr_0
  have vo346 : ∀ b2 : Nat, b2 ≠ x1.toNatClampNeg → EqV (vwR K H333 a0 b2) (vwR K s.heap a0 b2) := fun b2 hb => by rw [vr_told hap hT ga0 wH333]; exact vo_0 b2 hb
  refine lv_aload_n hx hb dX10_pass_5 rfl (lv_at hl 0 rfl) ?_
  refine lv_iload_n hx hb dX10_pass_6 rfl (lv_at hl 1 rfl) ?_
  refine x_V (As := [.int x1]) (rest := []) C (a_X10_isBar_r l K G H333 (x1) (bs) hTH333 ga0 m342) yo_X10_isBar wM_X10_173 ⟨⟨by decide, by decide⟩, by decide, by decide⟩ (x_rv C hTH333 (ci := 10) rfl ga0 rg_112) rfl hl.1 rfl (Nat.le_of_ble_eq_true rfl) dX10_pass_7 hSH333 (AE_sub (fun _ _ => rfl) (by decide) hSH333.1) (fun vH347 H347 locsH347 pH347 zH347 kH347 hSH347 => ?_)
  obtain ⟨x348, hvH347, bx348, hrH347, hTH347⟩ := pH347
  subst hvH347
  have mf349 : MF K s.heap H347 a0 [0] := MF.eff (x_lt hTH333 kH347 ga0 (by decide)) mf334
  have g350 : CG (avw K H347 a0) := CG.congr (fun k hk j => av_eff hTH333 kH347 ga0 (by decide) (CG_eff [] (by decide) k hk)) g335
  have g351 : TU (avw K H347 a0) (svw K H347 a0) := TU.congr (fun k hk j => av_eff hTH333 kH347 ga0 (by decide) (TU_eff [] (by decide) k hk)) (fun k hk => sv_eff hTH333 kH347 ga0 (by decide)) g336
  have g352 : WD (avw K H347 a0) := WD.congr (fun k hk j => av_eff hTH333 kH347 ga0 (by decide) (WD_eff [] (by decide) k hk)) g337
  have g353 : IM (avw K H347 a0) := IM.congr (fun k hk j => av_eff hTH333 kH347 ga0 (by decide) (IM_eff [] (by decide) k hk)) g338
  have m354 := (m339).trans (fR_kept (x_lt hTH333 kH347 ga0 (by decide))).symm
  have m355 := (m340).trans (fR_kept (x_lt hTH333 kH347 ga0 (by decide))).symm
  have m356 := (m341).trans (fR_kept (x_lt hTH333 kH347 ga0 (by decide))).symm
  have m357 := (m342).trans (fI_kept (x_lt hTH333 kH347 ga0 (by decide))).symm
  have m358 := (m343).trans (fI_kept (x_lt hTH333 kH347 gpsq (by decide))).symm
  have m359 := (fI_kept (x_lt hTH333 kH347 ga0 (by decide))).trans m344
  have vr360 : vwR K H347 a0 x1.toNatClampNeg = (vwR K s.heap a0 x1.toNatClampNeg) := (vr_frr hTH333 ga0 (fun q t hq h1 h2 => x_lt hTH333 kH347 hq (by first | omega | (intro z; simp only [List.mem_cons, List.not_mem_nil, or_false] at z <;> omega)))).trans vr345
  have vo361 : ∀ b2 : Nat, b2 ≠ x1.toNatClampNeg → EqV (vwR K H347 a0 b2) (vwR K s.heap a0 b2) := fun b2 hb => by rw [vr_frr hTH333 ga0 (fun q t hq h1 h2 => x_lt hTH333 kH347 hq (by first | omega | (intro z; simp only [List.mem_cons, List.not_mem_nil, or_false] at z <;> omega)))]; exact vo346 b2 hb
  refine W.eq (g2 := F0 m 10 ls [.int x348]) rfl ?_
  refine lv_if_eq (tgt := 28) hx hb dX10_pass_10 (by decide) (fun c362 => ?_) (fun c362 => ?_)
  · have k363 := i_eq c362
    refine lv_iconst (v := (-1)) hx hb dX10_pass_28 (by decide) ?_
    exact x_iret C hQ dX10_pass_29 hSH347 (by decide) (by decide) (⟨(-1), rfl, m354, m355, m356, g350, g351, g352, g353, mf349, (pqV_no (by rw [v80]; omega) n_m1), hTH347⟩)
  · have k363 := i_ne c362
    refine lv_aload_n hx hb dX10_pass_13 rfl (lv_at hl 0 rfl) ?_
    refine lv_iload_n hx hb dX10_pass_14 rfl (lv_at hl 2 rfl) ?_
    refine lv_iconst (v := 1) hx hb dX10_pass_15 (by decide) ?_
    refine lv_aload_n hx hb dX10_pass_16 rfl (lv_at hl 0 rfl) ?_
    refine x_gr C hTH347 (ci := 10) (k := 10) rfl inX10 (by decide) wF_X10_32 ga0 rg_112 rfl dX10_pass_17 (fun q364 eq364 gq364 => ?_)
    have uq364 : psq = q364 := (m354).trans eq364.symm
    subst uq364
    refine lv_iload_n hx hb dX10_pass_20 rfl (lv_at hl 1 rfl) ?_
    refine x_ai C hTH347 gpsq rg_119 ⟨by omega, by show _ < ((10 : Nat) : Int); omega⟩ dX10_pass_21 (fun x365 ex365 bx365 => ?_)
    have ux365 : ps = x365 := (m358).trans ex365.symm
    subst ux365
    refine x_V (As := [.int x2, .int 1, .int ps]) (rest := []) C (a_X10_isIn_v l K G H347 (x2) (1) (ps) hTH347 ga0) yo_X10_isIn wM_X10_177 ⟨⟨by decide, by decide⟩, by decide, by decide⟩ (x_rv C hTH347 (ci := 10) rfl ga0 rg_112) rfl hl.1 rfl (Nat.le_of_ble_eq_true rfl) dX10_pass_22 hSH347 (AE_sub (fun _ _ => rfl) (by decide) hSH347.1) (fun vH366 H366 locsH366 pH366 zH366 kH366 hSH366 => ?_)
    obtain ⟨x367, hvH366, bx367, hrH366, hTH366⟩ := pH366
    subst hvH366
    have mf368 : MF K s.heap H366 a0 [0] := MF.eff (x_lt hTH347 kH366 ga0 (by decide)) mf349
    have g369 : CG (avw K H366 a0) := CG.congr (fun k hk j => av_eff hTH347 kH366 ga0 (by decide) (CG_eff [] (by decide) k hk)) g350
    have g370 : TU (avw K H366 a0) (svw K H366 a0) := TU.congr (fun k hk j => av_eff hTH347 kH366 ga0 (by decide) (TU_eff [] (by decide) k hk)) (fun k hk => sv_eff hTH347 kH366 ga0 (by decide)) g351
    have g371 : WD (avw K H366 a0) := WD.congr (fun k hk j => av_eff hTH347 kH366 ga0 (by decide) (WD_eff [] (by decide) k hk)) g352
    have g372 : IM (avw K H366 a0) := IM.congr (fun k hk j => av_eff hTH347 kH366 ga0 (by decide) (IM_eff [] (by decide) k hk)) g353
    have m373 := (m354).trans (fR_kept (x_lt hTH347 kH366 ga0 (by decide))).symm
    have m374 := (m355).trans (fR_kept (x_lt hTH347 kH366 ga0 (by decide))).symm
    have m375 := (m356).trans (fR_kept (x_lt hTH347 kH366 ga0 (by decide))).symm
    have m376 := (m357).trans (fI_kept (x_lt hTH347 kH366 ga0 (by decide))).symm
    have m377 := (m358).trans (fI_kept (x_lt hTH347 kH366 gpsq (by decide))).symm
    have m378 := (fI_kept (x_lt hTH347 kH366 ga0 (by decide))).trans m359
    have vr379 : vwR K H366 a0 x1.toNatClampNeg = (vwR K s.heap a0 x1.toNatClampNeg) := (vr_frr hTH347 ga0 (fun q t hq h1 h2 => x_lt hTH347 kH366 hq (by first | omega | (intro z; simp only [List.mem_cons, List.not_mem_nil, or_false] at z <;> omega)))).trans vr360
    have vo380 : ∀ b2 : Nat, b2 ≠ x1.toNatClampNeg → EqV (vwR K H366 a0 b2) (vwR K s.heap a0 b2) := fun b2 hb => by rw [vr_frr hTH347 ga0 (fun q t hq h1 h2 => x_lt hTH347 kH366 hq (by first | omega | (intro z; simp only [List.mem_cons, List.not_mem_nil, or_false] at z <;> omega)))]; exact vo361 b2 hb
    refine W.eq (g2 := F0 m 25 ls [.int x367]) rfl ?_
    refine lv_if_ne (tgt := 30) hx hb dX10_pass_25 (by decide) (fun c381 => ?_) (fun c381 => ?_)
    · have k382 := i_ne c381
      refine lv_iload_n hx hb dX10_pass_30 rfl (lv_at hl 3 rfl) ?_
      refine lv_if_ne (tgt := 51) hx hb dX10_pass_31 (by decide) (fun c383 => ?_) (fun c383 => ?_)
      · have k384 := i_ne c383
        refine lv_iload_n hx hb dX10_pass_51 rfl (lv_at hl 3 rfl) ?_
        refine lv_iconst (v := 1) hx hb dX10_pass_52 (by decide) ?_
        refine lv_icmp_ne (tgt := 73) hx hb dX10_pass_53 (by decide) (fun c385 => ?_) (fun c385 => ?_)
        · have k386 := i_ne c385
          refine lv_iconst (v := (-1)) hx hb dX10_pass_73 (by decide) ?_
          exact x_iret C hQ dX10_pass_74 hSH366 (by decide) (by decide) (⟨(-1), rfl, m373, m374, m375, g369, g370, g371, g372, mf368, (pqV_no (by rw [v80]; omega) n_m1), hTH366⟩)
        · have k386 := i_eq c385
          refine lv_aload_n hx hb dX10_pass_56 rfl (lv_at hl 0 rfl) ?_
          refine x_gr C hTH366 (ci := 10) (k := 12) rfl inX10 (by decide) wF_X10_38 ga0 rg_112 rfl dX10_pass_57 (fun q387 eq387 gq387 => ?_)
          have uq387 : pdq = q387 := (m375).trans eq387.symm
          subst uq387
          refine lv_sipush (v := 200) hx hb dX10_pass_60 (by decide) ?_
          refine lv_iload_n hx hb dX10_pass_63 rfl (lv_at hl 1 rfl) ?_
          refine lv_imul hx hb dX10_pass_64 ?_
          refine lv_topi (fun x388 ex388 => ?_)
          have tx388 := i_mul ex388 (by rw [n_200]; omega)
          rw [n_200] at tx388
          refine lv_iload_n hx hb dX10_pass_65 rfl (lv_at hl 2 rfl) ?_
          refine lv_iadd hx hb dX10_pass_66 ?_
          refine lv_topi (fun x389 ex389 => ?_)
          refine lv_iconst (v := 1) hx hb dX10_pass_67 (by decide) ?_
          refine lv_isub hx hb dX10_pass_68 ?_
          refine lv_topi (fun x390 ex390 => ?_)
          refine x_ai C hTH366 gpdq rg_121 ⟨by omega, by show _ < ((2000 : Nat) : Int); omega⟩ dX10_pass_69 (fun x391 ex391 bx391 => ?_)
          refine lv_goto (tgt := 74) hx hb dX10_pass_70 (by decide) ?_
          have cn_x1 := i_cl (x := x1) (by omega)
          have cn_x390 := i_cl (x := x390) (by omega)
          exact x_iret C hQ dX10_pass_74 hSH366 (by decide) (by decide) (⟨x391, rfl, m373, m374, m375, g369, g370, g371, g372, mf368, (pqV_at (k := 1) (j := (x2.toInt - 1).toNat) (by rw [v80]; omega) (by omega) (by decide) rfl (by show _ = vwR K s.heap a0 x1.toNatClampNeg 7 (x2.toInt - 1).toNat; rw [← vr379, vwR_a (k := 7) (by decide)]; show _ = (fI H366 (fR H366 a0 (K.1.2 10 12)) (200 * x1.toNatClampNeg + (x2.toInt - 1).toNat)).toInt; rw [← m375, show 200 * x1.toNatClampNeg + (x2.toInt - 1).toNat = x390.toNatClampNeg by omega]; exact congrArg Int32.toInt ex391)), hTH366⟩)
      · have k384 := i_eq c383
        refine lv_aload_n hx hb dX10_pass_34 rfl (lv_at hl 0 rfl) ?_
        refine x_gr C hTH366 (ci := 10) (k := 11) rfl inX10 (by decide) wF_X10_35 ga0 rg_112 rfl dX10_pass_35 (fun q392 eq392 gq392 => ?_)
        have uq392 : paq = q392 := (m374).trans eq392.symm
        subst uq392
        refine lv_sipush (v := 200) hx hb dX10_pass_38 (by decide) ?_
        refine lv_iload_n hx hb dX10_pass_41 rfl (lv_at hl 1 rfl) ?_
        refine lv_imul hx hb dX10_pass_42 ?_
        refine lv_topi (fun x393 ex393 => ?_)
        have tx393 := i_mul ex393 (by rw [n_200]; omega)
        rw [n_200] at tx393
        refine lv_iload_n hx hb dX10_pass_43 rfl (lv_at hl 2 rfl) ?_
        refine lv_iadd hx hb dX10_pass_44 ?_
        refine lv_topi (fun x394 ex394 => ?_)
        refine lv_iconst (v := 1) hx hb dX10_pass_45 (by decide) ?_
        refine lv_isub hx hb dX10_pass_46 ?_
        refine lv_topi (fun x395 ex395 => ?_)
        refine x_ai C hTH366 gpaq rg_120 ⟨by omega, by show _ < ((2000 : Nat) : Int); omega⟩ dX10_pass_47 (fun x396 ex396 bx396 => ?_)
        refine lv_goto (tgt := 74) hx hb dX10_pass_48 (by decide) ?_
        have cn_x1 := i_cl (x := x1) (by omega)
        have cn_x395 := i_cl (x := x395) (by omega)
        exact x_iret C hQ dX10_pass_74 hSH366 (by decide) (by decide) (⟨x396, rfl, m373, m374, m375, g369, g370, g371, g372, mf368, (pqV_at (k := 0) (j := (x2.toInt - 1).toNat) (by rw [v80]; omega) (by omega) (by decide) rfl (by show _ = vwR K s.heap a0 x1.toNatClampNeg 6 (x2.toInt - 1).toNat; rw [← vr379, vwR_a (k := 6) (by decide)]; show _ = (fI H366 (fR H366 a0 (K.1.2 10 11)) (200 * x1.toNatClampNeg + (x2.toInt - 1).toNat)).toInt; rw [← m374, show 200 * x1.toNatClampNeg + (x2.toInt - 1).toNat = x395.toNatClampNeg by omega]; exact congrArg Int32.toInt ex396)), hTH366⟩)
    · have k382 := i_eq c381
      refine lv_iconst (v := (-1)) hx hb dX10_pass_28 (by decide) ?_
      exact x_iret C hQ dX10_pass_29 hSH366 (by decide) (by decide) (⟨(-1), rfl, m373, m374, m375, g369, g370, g371, g372, mf368, (pqV_no (by rw [v80]; omega) n_m1), hTH366⟩)

set_option maxHeartbeats 4000000 in
set_option maxRecDepth 100000 in
theorem a_X10_tone_v (l : Launch) (K : KE) (G : Nat → Option Nat) (H : Heap) {a0 : Nat} (x1 : Int32) (x2 : Int32) (bs : Int32) (fo : Int32) (fsE : Nat → EF) (fwE : Nat → EF) (hT : TY K G H) (ga0 : G a0 = some 112) (hx1 : 0 ≤ x1.toInt ∧ x1.toInt ≤ 9) (ebs : bs = fI H a0 (K.1.2 10 1)) (efo : fo = fI H a0 (K.1.2 10 2)) (hg_CG : CG (avw K H a0)) (hg_TU : TU (avw K H a0) (svw K H a0)) (hg_WD : WD (avw K H a0)) (hg_IM : IM (avw K H a0)) (hp0 : x1.toInt < bs.toInt) (hy0 : TXR K H a0 fo.toNatClampNeg 1 fsE fwE) : MX l K yX10_tone cX10_tone 3 (some .int) 6 145 0 0 [.ref a0, .int x1, .int x2] H (AE G [112, 140, 139] H.size) (fun v H1 => ∃ (r : Int32), v = some (.int r) ∧ fo = fI H1 a0 (K.1.2 10 2) ∧ (CG (avw K H1 a0)) ∧ (TU (avw K H1 a0) (svw K H1 a0)) ∧ (WD (avw K H1 a0)) ∧ (IM (avw K H1 a0)) ∧ MF K H H1 a0 [0] ∧ (r.toInt = tqV (toV (tlR K H a0 fo.toNatClampNeg fsE fwE) (vwR K H a0 x1.toNatClampNeg)) x2.toInt) ∧ TY K G H1) := by
  refine MX.of (by decide +kernel) (Nat.le_of_ble_eq_true rfl) ?_
  intro p e s m below meth c ls Q C hH hl hQ
  subst hH
  have C : CX p K s m _ meth c RX10 cX10_tone 3 (some .int) "tone" := C
  obtain ⟨hx, hb, hml, hown, hts, hKT, hr, hlocks, hnm⟩ := id C
  have hl : lv_has ls 3 [(0, .ref a0), (1, .int x1), (2, .int x2)] := hl
  have hS : va_S (AE G [112, 140, 139] s.heap.size) s.heap s.heap [] := va_S.rf
  have n_m1 : ((-1) : Int32).toInt = -1 := rfl
  have n_0 : (0 : Int32).toInt = 0 := rfl
  have n_1 : (1 : Int32).toInt = 1 := rfl
  have n_2 : (2 : Int32).toInt = 2 := rfl
  have bbs := ty_fi (x := bs) (k := 1) ebs hT ga0 rg_112 rfl
  have bfo := ty_fi (x := fo) (k := 2) efo hT ga0 rg_112 rfl
  have hap : ∀ x y, x < 74 → y < 74 → x ≠ y → K.1.2 10 x ≠ K.1.2 10 y := x_apart hKT hts inX10 tyX10 tyX10_ok nmX10 rfl
  have mf0 : MF K s.heap s.heap a0 [0] := fun _ _ _ => rfl
  have vr_0 : vwR K s.heap a0 x1.toNatClampNeg = vwR K s.heap a0 x1.toNatClampNeg := rfl
  have vo_0 : ∀ b2 : Nat, b2 ≠ x1.toNatClampNeg → EqV (vwR K s.heap a0 b2) (vwR K s.heap a0 b2) := fun _ _ => EqV.rf
  have f0_tf : TXG K a0 G s.heap s.heap := TXG.rf
  refine lv_aload_n hx hb dX10_tone_0 rfl (lv_at hl 0 rfl) ?_
  refine lv_iconst (v := 0) hx hb dX10_tone_1 (by decide) ?_
  refine x_put C hT hS (ci := 10) (k := 0) (v := .int 0) (ty0 := tyX10) rfl inX10 tyX10_ok nmX10 (by decide) rfl wF_X10_167 ga0 rg_112 rfl rfl (okI (by have := i_rng (0 : Int32); omega) (by have := i_rng (0 : Int32); omega)) rfl rfl (AE_in ga0 (by decide)) dX10_tone_2 (fun H261 locsH261 hTH261 hSH261 wH261 => ?_)
  have mf262 : MF K s.heap H261 a0 [0] := MF.fld hap wH261 (by decide) (by decide) mf0
  have g263 : CG (avw K H261 a0) := CG.congr (fun k hk j => av_fld hT ga0 hap wH261 (by decide) (CG_ok 112 (by decide) k hk) (CG_ne 0 (by decide) k hk)) hg_CG
  have g264 : TU (avw K H261 a0) (svw K H261 a0) := TU.congr (fun k hk j => av_fld hT ga0 hap wH261 (by decide) (TU_ok 112 (by decide) k hk) (TU_ne 0 (by decide) k hk)) (fun k hk => sv_fld hap wH261 (by decide) (TU_slt k hk) (TU_sne 0 (by decide) k hk)) hg_TU
  have g265 : WD (avw K H261 a0) := WD.congr (fun k hk j => av_fld hT ga0 hap wH261 (by decide) (WD_ok 112 (by decide) k hk) (WD_ne 0 (by decide) k hk)) hg_WD
  have g266 : IM (avw K H261 a0) := IM.congr (fun k hk j => av_fld hT ga0 hap wH261 (by decide) (IM_ok 112 (by decide) k hk) (IM_ne 0 (by decide) k hk)) hg_IM
  have f267 : TXG K a0 G H261 s.heap := ⟨fun k h0 h1 => (Wr.neR wH261 (Or.inr (hap k 0 h1 (by decide) (by omega)))).trans (f0_tf.1 k h0 h1), fun q t hq h1 => (wH261.off (G_ne hq ga0 (by first | omega | (intro z; simp only [List.mem_cons, List.not_mem_nil, or_false] at z <;> omega)))).trans (f0_tf.2 q t hq h1)⟩
  have m268 := ebs.trans (Wr.neI wH261 (Or.inr (x_apart hKT hts inX10 tyX10 tyX10_ok nmX10 rfl 1 0 (by decide) (by decide) (by decide)))).symm
  have m269 := efo.trans (Wr.neI wH261 (Or.inr (x_apart hKT hts inX10 tyX10 tyX10_ok nmX10 rfl 2 0 (by decide) (by decide) (by decide)))).symm
  have m270 := Wr.I wH261
  have vr271 : vwR K H261 a0 x1.toNatClampNeg = (vwR K s.heap a0 x1.toNatClampNeg) := (vr_told hap hT ga0 wH261).trans vr_0
  have vo272 : ∀ b2 : Nat, b2 ≠ x1.toNatClampNeg → EqV (vwR K H261 a0 b2) (vwR K s.heap a0 b2) := fun b2 hb => by rw [vr_told hap hT ga0 wH261]; exact vo_0 b2 hb
  refine lv_aload_n hx hb dX10_tone_5 rfl (lv_at hl 0 rfl) ?_
  refine lv_iload_n hx hb dX10_tone_6 rfl (lv_at hl 1 rfl) ?_
  refine x_V (As := [.int x1]) (rest := []) C (a_X10_isBar_r l K G H261 (x1) (bs) hTH261 ga0 m268) yo_X10_isBar wM_X10_173 ⟨⟨by decide, by decide⟩, by decide, by decide⟩ (x_rv C hTH261 (ci := 10) rfl ga0 rg_112) rfl hl.1 rfl (Nat.le_of_ble_eq_true rfl) dX10_tone_7 hSH261 (AE_sub (fun _ _ => rfl) (by decide) hSH261.1) (fun vH273 H273 locsH273 pH273 zH273 kH273 hSH273 => ?_)
  obtain ⟨x274, hvH273, bx274, hrH273, hTH273⟩ := pH273
  subst hvH273
  have mf275 : MF K s.heap H273 a0 [0] := MF.eff (x_lt hTH261 kH273 ga0 (by decide)) mf262
  have g276 : CG (avw K H273 a0) := CG.congr (fun k hk j => av_eff hTH261 kH273 ga0 (by decide) (CG_eff [] (by decide) k hk)) g263
  have g277 : TU (avw K H273 a0) (svw K H273 a0) := TU.congr (fun k hk j => av_eff hTH261 kH273 ga0 (by decide) (TU_eff [] (by decide) k hk)) (fun k hk => sv_eff hTH261 kH273 ga0 (by decide)) g264
  have g278 : WD (avw K H273 a0) := WD.congr (fun k hk j => av_eff hTH261 kH273 ga0 (by decide) (WD_eff [] (by decide) k hk)) g265
  have g279 : IM (avw K H273 a0) := IM.congr (fun k hk j => av_eff hTH261 kH273 ga0 (by decide) (IM_eff [] (by decide) k hk)) g266
  have f280 : TXG K a0 G H273 s.heap := ⟨fun k h0 h1 => (fR_kept (x_lt hTH261 kH273 ga0 (by decide))).trans (f267.1 k h0 h1), fun q t hq h1 => (x_lt hTH261 kH273 hq (by first | omega | (intro z; simp only [List.mem_cons, List.not_mem_nil, or_false] at z <;> omega))).trans (f267.2 q t hq h1)⟩
  have m281 := (m268).trans (fI_kept (x_lt hTH261 kH273 ga0 (by decide))).symm
  have m282 := (m269).trans (fI_kept (x_lt hTH261 kH273 ga0 (by decide))).symm
  have m283 := (fI_kept (x_lt hTH261 kH273 ga0 (by decide))).trans m270
  have vr284 : vwR K H273 a0 x1.toNatClampNeg = (vwR K s.heap a0 x1.toNatClampNeg) := (vr_frr hTH261 ga0 (fun q t hq h1 h2 => x_lt hTH261 kH273 hq (by first | omega | (intro z; simp only [List.mem_cons, List.not_mem_nil, or_false] at z <;> omega)))).trans vr271
  have vo285 : ∀ b2 : Nat, b2 ≠ x1.toNatClampNeg → EqV (vwR K H273 a0 b2) (vwR K s.heap a0 b2) := fun b2 hb => by rw [vr_frr hTH261 ga0 (fun q t hq h1 h2 => x_lt hTH261 kH273 hq (by first | omega | (intro z; simp only [List.mem_cons, List.not_mem_nil, or_false] at z <;> omega)))]; exact vo272 b2 hb
  refine W.eq (g2 := F0 m 10 ls [.int x274]) rfl ?_
  refine lv_if_eq (tgt := 30) hx hb dX10_tone_10 (by decide) (fun c286 => ?_) (fun c286 => ?_)
  · have k287 := i_eq c286
    refine lv_iconst (v := (-1)) hx hb dX10_tone_30 (by decide) ?_
    exact x_iret C hQ dX10_tone_31 hSH273 (by decide) (by decide) (⟨(-1), rfl, m282, g276, g277, g278, g279, mf275, (tqV_no (by omega) n_m1), hTH273⟩)
  · have k287 := i_ne c286
    refine lv_aload_n hx hb dX10_tone_13 rfl (lv_at hl 0 rfl) ?_
    refine lv_iload_n hx hb dX10_tone_14 rfl (lv_at hl 2 rfl) ?_
    refine x_V (As := [.int x2]) (rest := []) C (c_X10_isTone l K G H273 (x2) hTH273 ga0) yo_X10_isTone wM_X10_331 ⟨⟨by decide, by decide⟩, by decide, by decide⟩ (x_rv C hTH273 (ci := 10) rfl ga0 rg_112) rfl hl.1 rfl (Nat.le_of_ble_eq_true rfl) dX10_tone_15 hSH273 (AE_sub (fun _ _ => rfl) (by decide) hSH273.1) (fun vH288 H288 locsH288 pH288 zH288 kH288 hSH288 => ?_)
    have hqH288 := pH288.1.symm
    subst hqH288
    rcases pH288.2 with ⟨hvH288, hcH288⟩ | ⟨hvH288, hcH288⟩
    · subst hvH288
      refine W.eq (g2 := F0 m 18 ls [.int 1]) rfl ?_
      refine lv_if_eq (tgt := 30) hx hb dX10_tone_18 (by decide) (fun c289 => ?_) (fun c289 => ?_)
      · have k290 := i_eq c289
        exfalso
        omega
      · have k290 := i_ne c289
        refine lv_aload_n hx hb dX10_tone_21 rfl (lv_at hl 0 rfl) ?_
        refine lv_iload_n hx hb dX10_tone_22 rfl (lv_at hl 1 rfl) ?_
        refine lv_iload_n hx hb dX10_tone_23 rfl (lv_at hl 2 rfl) ?_
        refine x_V (As := [.int x1, .int x2]) (rest := []) C (a_X10_toneNow_v l K G H273 (x1) (x2) (fo) (fsE) (fwE) hTH273 ga0 (by omega) (by omega) m282 g276 ((TXR.frr hT ga0 f280 hy0))) yo_X10_toneNow wM_X10_335 ⟨⟨by decide, by decide⟩, by decide, by decide⟩ (x_rv C hTH273 (ci := 10) rfl ga0 rg_112) rfl hl.1 rfl (Nat.le_of_ble_eq_true rfl) dX10_tone_24 hSH288 (AE_sub (fun _ _ => rfl) (by decide) hSH288.1) (fun vH291 H291 locsH291 pH291 zH291 kH291 hSH291 => ?_)
        obtain ⟨x292, hvH291, bx292, m293, hTH291⟩ := pH291
        subst hvH291
        have mf294 : MF K s.heap H291 a0 [0] := MF.eff (x_lt hTH273 kH291 ga0 (by decide)) mf275
        have g295 : CG (avw K H291 a0) := CG.congr (fun k hk j => av_eff hTH273 kH291 ga0 (by decide) (CG_eff [140, 139] (by decide) k hk)) g276
        have g296 : TU (avw K H291 a0) (svw K H291 a0) := TU.congr (fun k hk j => av_eff hTH273 kH291 ga0 (by decide) (TU_eff [140, 139] (by decide) k hk)) (fun k hk => sv_eff hTH273 kH291 ga0 (by decide)) g277
        have g297 : WD (avw K H291 a0) := WD.congr (fun k hk j => av_eff hTH273 kH291 ga0 (by decide) (WD_eff [140, 139] (by decide) k hk)) g278
        have g298 : IM (avw K H291 a0) := IM.congr (fun k hk j => av_eff hTH273 kH291 ga0 (by decide) (IM_eff [140, 139] (by decide) k hk)) g279
        have f299 : TXG K a0 G H291 s.heap := ⟨fun k h0 h1 => (fR_kept (x_lt hTH273 kH291 ga0 (by decide))).trans (f280.1 k h0 h1), fun q t hq h1 => (x_lt hTH273 kH291 hq (by first | omega | (intro z; simp only [List.mem_cons, List.not_mem_nil, or_false] at z <;> omega))).trans (f280.2 q t hq h1)⟩
        have m300 := (m281).trans (fI_kept (x_lt hTH273 kH291 ga0 (by decide))).symm
        have m301 := (m282).trans (fI_kept (x_lt hTH273 kH291 ga0 (by decide))).symm
        have m302 := (fI_kept (x_lt hTH273 kH291 ga0 (by decide))).trans m283
        have tq303 : x292.toInt = toV (tlR K s.heap a0 fo.toNatClampNeg fsE fwE) (vwR K s.heap a0 x1.toNatClampNeg) x2.toInt := by rw [← tlR_frr hT ga0 f280, ← vr284, toV_tnR]; exact m293
        refine W.eq (g2 := F0 m 27 ls [.int x292]) rfl ?_
        refine lv_goto (tgt := 31) hx hb dX10_tone_27 (by decide) ?_
        exact x_iret C hQ dX10_tone_31 hSH291 (by decide) (by decide) (⟨x292, rfl, m301, g295, g296, g297, g298, mf294, (tqV_at (by omega) tq303), hTH291⟩)
    · subst hvH288
      refine W.eq (g2 := F0 m 18 ls [.int 0]) rfl ?_
      refine lv_if_eq (tgt := 30) hx hb dX10_tone_18 (by decide) (fun c304 => ?_) (fun c304 => ?_)
      · have k305 := i_eq c304
        refine lv_iconst (v := (-1)) hx hb dX10_tone_30 (by decide) ?_
        exact x_iret C hQ dX10_tone_31 hSH288 (by decide) (by decide) (⟨(-1), rfl, m282, g276, g277, g278, g279, mf275, (tqV_no (by omega) n_m1), hTH273⟩)
      · have k305 := i_ne c304
        exfalso
        omega

set_option maxHeartbeats 4000000 in
set_option maxRecDepth 100000 in
theorem a_X10_of_n (l : Launch) (K : KE) (G : Nat → Option Nat) (H : Heap) {a0 : Nat} (x1 : Int32) (x2 : Int32) (x3 : Int32) (bs : Int32) (hT : TY K G H) (ga0 : G a0 = some 112) (ebs : bs = fI H a0 (K.1.2 10 1)) (hg_CG : CG (avw K H a0)) (hg_TU : TU (avw K H a0) (svw K H a0)) (hg_WD : WD (avw K H a0)) (hg_IM : IM (avw K H a0)) (hp0 : x1.toInt < 0 ∨ bs.toInt ≤ x1.toInt) : MX l K yX10_of cX10_of 5 (some .int) 2 43 0 0 [.ref a0, .int x1, .int x2, .int x3] H (AE G [112] H.size) (fun v H1 => ∃ (r : Int32), v = some (.int r) ∧ ((-1) ≤ r.toInt ∧ r.toInt ≤ (-1)) ∧ bs = fI H1 a0 (K.1.2 10 1) ∧ (CG (avw K H1 a0)) ∧ (TU (avw K H1 a0) (svw K H1 a0)) ∧ (WD (avw K H1 a0)) ∧ (IM (avw K H1 a0)) ∧ MF K H H1 a0 [0] ∧ TY K G H1) := by
  refine MX.of (by decide +kernel) (Nat.le_of_ble_eq_true rfl) ?_
  intro p e s m below meth c ls Q C hH hl hQ
  subst hH
  have C : CX p K s m _ meth c RX10 cX10_of 5 (some .int) "of" := C
  obtain ⟨hx, hb, hml, hown, hts, hKT, hr, hlocks, hnm⟩ := id C
  have hl : lv_has ls 5 [(0, .ref a0), (1, .int x1), (2, .int x2), (3, .int x3)] := hl
  have hS : va_S (AE G [112] s.heap.size) s.heap s.heap [] := va_S.rf
  have n_m1 : ((-1) : Int32).toInt = -1 := rfl
  have n_0 : (0 : Int32).toInt = 0 := rfl
  have bbs := ty_fi (x := bs) (k := 1) ebs hT ga0 rg_112 rfl
  have hap : ∀ x y, x < 74 → y < 74 → x ≠ y → K.1.2 10 x ≠ K.1.2 10 y := x_apart hKT hts inX10 tyX10 tyX10_ok nmX10 rfl
  have mf0 : MF K s.heap s.heap a0 [0] := fun _ _ _ => rfl
  refine lv_aload_n hx hb dX10_of_0 rfl (lv_at hl 0 rfl) ?_
  refine lv_iconst (v := 0) hx hb dX10_of_1 (by decide) ?_
  refine x_put C hT hS (ci := 10) (k := 0) (v := .int 0) (ty0 := tyX10) rfl inX10 tyX10_ok nmX10 (by decide) rfl wF_X10_167 ga0 rg_112 rfl rfl (okI (by have := i_rng (0 : Int32); omega) (by have := i_rng (0 : Int32); omega)) rfl rfl (AE_in ga0 (by decide)) dX10_of_2 (fun H177 locsH177 hTH177 hSH177 wH177 => ?_)
  have mf178 : MF K s.heap H177 a0 [0] := MF.fld hap wH177 (by decide) (by decide) mf0
  have g179 : CG (avw K H177 a0) := CG.congr (fun k hk j => av_fld hT ga0 hap wH177 (by decide) (CG_ok 112 (by decide) k hk) (CG_ne 0 (by decide) k hk)) hg_CG
  have g180 : TU (avw K H177 a0) (svw K H177 a0) := TU.congr (fun k hk j => av_fld hT ga0 hap wH177 (by decide) (TU_ok 112 (by decide) k hk) (TU_ne 0 (by decide) k hk)) (fun k hk => sv_fld hap wH177 (by decide) (TU_slt k hk) (TU_sne 0 (by decide) k hk)) hg_TU
  have g181 : WD (avw K H177 a0) := WD.congr (fun k hk j => av_fld hT ga0 hap wH177 (by decide) (WD_ok 112 (by decide) k hk) (WD_ne 0 (by decide) k hk)) hg_WD
  have g182 : IM (avw K H177 a0) := IM.congr (fun k hk j => av_fld hT ga0 hap wH177 (by decide) (IM_ok 112 (by decide) k hk) (IM_ne 0 (by decide) k hk)) hg_IM
  have m183 := ebs.trans (Wr.neI wH177 (Or.inr (x_apart hKT hts inX10 tyX10 tyX10_ok nmX10 rfl 1 0 (by decide) (by decide) (by decide)))).symm
  have m184 := Wr.I wH177
  refine lv_aload_n hx hb dX10_of_5 rfl (lv_at hl 0 rfl) ?_
  refine lv_iload_n hx hb dX10_of_6 rfl (lv_at hl 1 rfl) ?_
  refine lv_iload_n hx hb dX10_of_7 rfl (lv_at hl 2 rfl) ?_
  refine x_V (As := [.int x1, .int x2]) (rest := []) C (a_X10_isSlice_n l K G H177 (x1) (x2) (bs) hTH177 ga0 m183 (by omega)) yo_X10_isSlice wM_X10_181 ⟨⟨by decide, by decide⟩, by decide, by decide⟩ (x_rv C hTH177 (ci := 10) rfl ga0 rg_112) rfl hl.1 rfl (Nat.le_of_ble_eq_true rfl) dX10_of_8 hSH177 (AE_sub (fun _ _ => rfl) (by decide) hSH177.1) (fun vH185 H185 locsH185 pH185 zH185 kH185 hSH185 => ?_)
  obtain ⟨x186, hvH185, bx186, hTH185⟩ := pH185
  subst hvH185
  have mf187 : MF K s.heap H185 a0 [0] := MF.eff (x_lt hTH177 kH185 ga0 (by decide)) mf178
  have g188 : CG (avw K H185 a0) := CG.congr (fun k hk j => av_eff hTH177 kH185 ga0 (by decide) (CG_eff [] (by decide) k hk)) g179
  have g189 : TU (avw K H185 a0) (svw K H185 a0) := TU.congr (fun k hk j => av_eff hTH177 kH185 ga0 (by decide) (TU_eff [] (by decide) k hk)) (fun k hk => sv_eff hTH177 kH185 ga0 (by decide)) g180
  have g190 : WD (avw K H185 a0) := WD.congr (fun k hk j => av_eff hTH177 kH185 ga0 (by decide) (WD_eff [] (by decide) k hk)) g181
  have g191 : IM (avw K H185 a0) := IM.congr (fun k hk j => av_eff hTH177 kH185 ga0 (by decide) (IM_eff [] (by decide) k hk)) g182
  have m192 := (m183).trans (fI_kept (x_lt hTH177 kH185 ga0 (by decide))).symm
  have m193 := (fI_kept (x_lt hTH177 kH185 ga0 (by decide))).trans m184
  refine W.eq (g2 := F0 m 11 ls [.int x186]) rfl ?_
  refine lv_if_ne (tgt := 16) hx hb dX10_of_11 (by decide) (fun c194 => ?_) (fun c194 => ?_)
  · have k195 := i_ne c194
    exfalso
    omega
  · have k195 := i_eq c194
    refine lv_iconst (v := (-1)) hx hb dX10_of_14 (by decide) ?_
    exact x_iret C hQ dX10_of_15 hSH185 (by decide) (by decide) (⟨(-1), rfl, by decide, m192, g188, g189, g190, g191, mf187, hTH185⟩)

set_option maxHeartbeats 4000000 in
set_option maxRecDepth 100000 in
theorem a_X10_pass_n (l : Launch) (K : KE) (G : Nat → Option Nat) (H : Heap) {a0 : Nat} (x1 : Int32) (x2 : Int32) (x3 : Int32) (bs : Int32) (hT : TY K G H) (ga0 : G a0 = some 112) (ebs : bs = fI H a0 (K.1.2 10 1)) (hg_CG : CG (avw K H a0)) (hg_TU : TU (avw K H a0) (svw K H a0)) (hg_WD : WD (avw K H a0)) (hg_IM : IM (avw K H a0)) (hp0 : x1.toInt < 0 ∨ bs.toInt ≤ x1.toInt) : MX l K yX10_pass cX10_pass 4 (some .int) 1 21 0 0 [.ref a0, .int x1, .int x2, .int x3] H (AE G [112] H.size) (fun v H1 => ∃ (r : Int32), v = some (.int r) ∧ ((-1) ≤ r.toInt ∧ r.toInt ≤ (-1)) ∧ bs = fI H1 a0 (K.1.2 10 1) ∧ (CG (avw K H1 a0)) ∧ (TU (avw K H1 a0) (svw K H1 a0)) ∧ (WD (avw K H1 a0)) ∧ (IM (avw K H1 a0)) ∧ MF K H H1 a0 [0] ∧ TY K G H1) := by
  refine MX.of (by decide +kernel) (Nat.le_of_ble_eq_true rfl) ?_
  intro p e s m below meth c ls Q C hH hl hQ
  subst hH
  have C : CX p K s m _ meth c RX10 cX10_pass 4 (some .int) "pass" := C
  obtain ⟨hx, hb, hml, hown, hts, hKT, hr, hlocks, hnm⟩ := id C
  have hl : lv_has ls 4 [(0, .ref a0), (1, .int x1), (2, .int x2), (3, .int x3)] := hl
  have hS : va_S (AE G [112] s.heap.size) s.heap s.heap [] := va_S.rf
  have n_m1 : ((-1) : Int32).toInt = -1 := rfl
  have n_0 : (0 : Int32).toInt = 0 := rfl
  have bbs := ty_fi (x := bs) (k := 1) ebs hT ga0 rg_112 rfl
  have hap : ∀ x y, x < 74 → y < 74 → x ≠ y → K.1.2 10 x ≠ K.1.2 10 y := x_apart hKT hts inX10 tyX10 tyX10_ok nmX10 rfl
  have mf0 : MF K s.heap s.heap a0 [0] := fun _ _ _ => rfl
  refine lv_aload_n hx hb dX10_pass_0 rfl (lv_at hl 0 rfl) ?_
  refine lv_iconst (v := 0) hx hb dX10_pass_1 (by decide) ?_
  refine x_put C hT hS (ci := 10) (k := 0) (v := .int 0) (ty0 := tyX10) rfl inX10 tyX10_ok nmX10 (by decide) rfl wF_X10_167 ga0 rg_112 rfl rfl (okI (by have := i_rng (0 : Int32); omega) (by have := i_rng (0 : Int32); omega)) rfl rfl (AE_in ga0 (by decide)) dX10_pass_2 (fun H177 locsH177 hTH177 hSH177 wH177 => ?_)
  have mf178 : MF K s.heap H177 a0 [0] := MF.fld hap wH177 (by decide) (by decide) mf0
  have g179 : CG (avw K H177 a0) := CG.congr (fun k hk j => av_fld hT ga0 hap wH177 (by decide) (CG_ok 112 (by decide) k hk) (CG_ne 0 (by decide) k hk)) hg_CG
  have g180 : TU (avw K H177 a0) (svw K H177 a0) := TU.congr (fun k hk j => av_fld hT ga0 hap wH177 (by decide) (TU_ok 112 (by decide) k hk) (TU_ne 0 (by decide) k hk)) (fun k hk => sv_fld hap wH177 (by decide) (TU_slt k hk) (TU_sne 0 (by decide) k hk)) hg_TU
  have g181 : WD (avw K H177 a0) := WD.congr (fun k hk j => av_fld hT ga0 hap wH177 (by decide) (WD_ok 112 (by decide) k hk) (WD_ne 0 (by decide) k hk)) hg_WD
  have g182 : IM (avw K H177 a0) := IM.congr (fun k hk j => av_fld hT ga0 hap wH177 (by decide) (IM_ok 112 (by decide) k hk) (IM_ne 0 (by decide) k hk)) hg_IM
  have m183 := ebs.trans (Wr.neI wH177 (Or.inr (x_apart hKT hts inX10 tyX10 tyX10_ok nmX10 rfl 1 0 (by decide) (by decide) (by decide)))).symm
  have m184 := Wr.I wH177
  refine lv_aload_n hx hb dX10_pass_5 rfl (lv_at hl 0 rfl) ?_
  refine lv_iload_n hx hb dX10_pass_6 rfl (lv_at hl 1 rfl) ?_
  refine x_V (As := [.int x1]) (rest := []) C (a_X10_isBar_n l K G H177 (x1) (bs) hTH177 ga0 m183 (by omega)) yo_X10_isBar wM_X10_173 ⟨⟨by decide, by decide⟩, by decide, by decide⟩ (x_rv C hTH177 (ci := 10) rfl ga0 rg_112) rfl hl.1 rfl (Nat.le_of_ble_eq_true rfl) dX10_pass_7 hSH177 (AE_sub (fun _ _ => rfl) (by decide) hSH177.1) (fun vH185 H185 locsH185 pH185 zH185 kH185 hSH185 => ?_)
  obtain ⟨x186, hvH185, bx186, hTH185⟩ := pH185
  subst hvH185
  have mf187 : MF K s.heap H185 a0 [0] := MF.eff (x_lt hTH177 kH185 ga0 (by decide)) mf178
  have g188 : CG (avw K H185 a0) := CG.congr (fun k hk j => av_eff hTH177 kH185 ga0 (by decide) (CG_eff [] (by decide) k hk)) g179
  have g189 : TU (avw K H185 a0) (svw K H185 a0) := TU.congr (fun k hk j => av_eff hTH177 kH185 ga0 (by decide) (TU_eff [] (by decide) k hk)) (fun k hk => sv_eff hTH177 kH185 ga0 (by decide)) g180
  have g190 : WD (avw K H185 a0) := WD.congr (fun k hk j => av_eff hTH177 kH185 ga0 (by decide) (WD_eff [] (by decide) k hk)) g181
  have g191 : IM (avw K H185 a0) := IM.congr (fun k hk j => av_eff hTH177 kH185 ga0 (by decide) (IM_eff [] (by decide) k hk)) g182
  have m192 := (m183).trans (fI_kept (x_lt hTH177 kH185 ga0 (by decide))).symm
  have m193 := (fI_kept (x_lt hTH177 kH185 ga0 (by decide))).trans m184
  refine W.eq (g2 := F0 m 10 ls [.int x186]) rfl ?_
  refine lv_if_eq (tgt := 28) hx hb dX10_pass_10 (by decide) (fun c194 => ?_) (fun c194 => ?_)
  · have k195 := i_eq c194
    refine lv_iconst (v := (-1)) hx hb dX10_pass_28 (by decide) ?_
    exact x_iret C hQ dX10_pass_29 hSH185 (by decide) (by decide) (⟨(-1), rfl, by decide, m192, g188, g189, g190, g191, mf187, hTH185⟩)
  · have k195 := i_ne c194
    exfalso
    omega

set_option maxHeartbeats 4000000 in
set_option maxRecDepth 100000 in
theorem a_X10_tone_n (l : Launch) (K : KE) (G : Nat → Option Nat) (H : Heap) {a0 : Nat} (x1 : Int32) (x2 : Int32) (bs : Int32) (hT : TY K G H) (ga0 : G a0 = some 112) (ebs : bs = fI H a0 (K.1.2 10 1)) (hg_CG : CG (avw K H a0)) (hg_TU : TU (avw K H a0) (svw K H a0)) (hg_WD : WD (avw K H a0)) (hg_IM : IM (avw K H a0)) (hp0 : x1.toInt < 0 ∨ bs.toInt ≤ x1.toInt) : MX l K yX10_tone cX10_tone 3 (some .int) 1 21 0 0 [.ref a0, .int x1, .int x2] H (AE G [112] H.size) (fun v H1 => ∃ (r : Int32), v = some (.int r) ∧ ((-1) ≤ r.toInt ∧ r.toInt ≤ (-1)) ∧ bs = fI H1 a0 (K.1.2 10 1) ∧ (CG (avw K H1 a0)) ∧ (TU (avw K H1 a0) (svw K H1 a0)) ∧ (WD (avw K H1 a0)) ∧ (IM (avw K H1 a0)) ∧ MF K H H1 a0 [0] ∧ TY K G H1) := by
  refine MX.of (by decide +kernel) (Nat.le_of_ble_eq_true rfl) ?_
  intro p e s m below meth c ls Q C hH hl hQ
  subst hH
  have C : CX p K s m _ meth c RX10 cX10_tone 3 (some .int) "tone" := C
  obtain ⟨hx, hb, hml, hown, hts, hKT, hr, hlocks, hnm⟩ := id C
  have hl : lv_has ls 3 [(0, .ref a0), (1, .int x1), (2, .int x2)] := hl
  have hS : va_S (AE G [112] s.heap.size) s.heap s.heap [] := va_S.rf
  have n_m1 : ((-1) : Int32).toInt = -1 := rfl
  have n_0 : (0 : Int32).toInt = 0 := rfl
  have bbs := ty_fi (x := bs) (k := 1) ebs hT ga0 rg_112 rfl
  have hap : ∀ x y, x < 74 → y < 74 → x ≠ y → K.1.2 10 x ≠ K.1.2 10 y := x_apart hKT hts inX10 tyX10 tyX10_ok nmX10 rfl
  have mf0 : MF K s.heap s.heap a0 [0] := fun _ _ _ => rfl
  refine lv_aload_n hx hb dX10_tone_0 rfl (lv_at hl 0 rfl) ?_
  refine lv_iconst (v := 0) hx hb dX10_tone_1 (by decide) ?_
  refine x_put C hT hS (ci := 10) (k := 0) (v := .int 0) (ty0 := tyX10) rfl inX10 tyX10_ok nmX10 (by decide) rfl wF_X10_167 ga0 rg_112 rfl rfl (okI (by have := i_rng (0 : Int32); omega) (by have := i_rng (0 : Int32); omega)) rfl rfl (AE_in ga0 (by decide)) dX10_tone_2 (fun H177 locsH177 hTH177 hSH177 wH177 => ?_)
  have mf178 : MF K s.heap H177 a0 [0] := MF.fld hap wH177 (by decide) (by decide) mf0
  have g179 : CG (avw K H177 a0) := CG.congr (fun k hk j => av_fld hT ga0 hap wH177 (by decide) (CG_ok 112 (by decide) k hk) (CG_ne 0 (by decide) k hk)) hg_CG
  have g180 : TU (avw K H177 a0) (svw K H177 a0) := TU.congr (fun k hk j => av_fld hT ga0 hap wH177 (by decide) (TU_ok 112 (by decide) k hk) (TU_ne 0 (by decide) k hk)) (fun k hk => sv_fld hap wH177 (by decide) (TU_slt k hk) (TU_sne 0 (by decide) k hk)) hg_TU
  have g181 : WD (avw K H177 a0) := WD.congr (fun k hk j => av_fld hT ga0 hap wH177 (by decide) (WD_ok 112 (by decide) k hk) (WD_ne 0 (by decide) k hk)) hg_WD
  have g182 : IM (avw K H177 a0) := IM.congr (fun k hk j => av_fld hT ga0 hap wH177 (by decide) (IM_ok 112 (by decide) k hk) (IM_ne 0 (by decide) k hk)) hg_IM
  have m183 := ebs.trans (Wr.neI wH177 (Or.inr (x_apart hKT hts inX10 tyX10 tyX10_ok nmX10 rfl 1 0 (by decide) (by decide) (by decide)))).symm
  have m184 := Wr.I wH177
  refine lv_aload_n hx hb dX10_tone_5 rfl (lv_at hl 0 rfl) ?_
  refine lv_iload_n hx hb dX10_tone_6 rfl (lv_at hl 1 rfl) ?_
  refine x_V (As := [.int x1]) (rest := []) C (a_X10_isBar_n l K G H177 (x1) (bs) hTH177 ga0 m183 (by omega)) yo_X10_isBar wM_X10_173 ⟨⟨by decide, by decide⟩, by decide, by decide⟩ (x_rv C hTH177 (ci := 10) rfl ga0 rg_112) rfl hl.1 rfl (Nat.le_of_ble_eq_true rfl) dX10_tone_7 hSH177 (AE_sub (fun _ _ => rfl) (by decide) hSH177.1) (fun vH185 H185 locsH185 pH185 zH185 kH185 hSH185 => ?_)
  obtain ⟨x186, hvH185, bx186, hTH185⟩ := pH185
  subst hvH185
  have mf187 : MF K s.heap H185 a0 [0] := MF.eff (x_lt hTH177 kH185 ga0 (by decide)) mf178
  have g188 : CG (avw K H185 a0) := CG.congr (fun k hk j => av_eff hTH177 kH185 ga0 (by decide) (CG_eff [] (by decide) k hk)) g179
  have g189 : TU (avw K H185 a0) (svw K H185 a0) := TU.congr (fun k hk j => av_eff hTH177 kH185 ga0 (by decide) (TU_eff [] (by decide) k hk)) (fun k hk => sv_eff hTH177 kH185 ga0 (by decide)) g180
  have g190 : WD (avw K H185 a0) := WD.congr (fun k hk j => av_eff hTH177 kH185 ga0 (by decide) (WD_eff [] (by decide) k hk)) g181
  have g191 : IM (avw K H185 a0) := IM.congr (fun k hk j => av_eff hTH177 kH185 ga0 (by decide) (IM_eff [] (by decide) k hk)) g182
  have m192 := (m183).trans (fI_kept (x_lt hTH177 kH185 ga0 (by decide))).symm
  have m193 := (fI_kept (x_lt hTH177 kH185 ga0 (by decide))).trans m184
  refine W.eq (g2 := F0 m 10 ls [.int x186]) rfl ?_
  refine lv_if_eq (tgt := 30) hx hb dX10_tone_10 (by decide) (fun c194 => ?_) (fun c194 => ?_)
  · have k195 := i_eq c194
    refine lv_iconst (v := (-1)) hx hb dX10_tone_30 (by decide) ?_
    exact x_iret C hQ dX10_tone_31 hSH185 (by decide) (by decide) (⟨(-1), rfl, by decide, m192, g188, g189, g190, g191, mf187, hTH185⟩)
  · have k195 := i_ne c194
    exfalso
    omega
