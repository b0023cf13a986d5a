set_option maxHeartbeats 4000000 in
set_option maxRecDepth 100000 in
theorem a_X10_isSlice_b (l : Launch) (K : KE) (G : Nat → Option Nat) (H : Heap) {a0 : Nat} (x1 : Int32) (x2 : Int32) {aq : Nat} (bs : Int32) (z : Int32) (hT : TY K G H) (ga0 : G a0 = some 112) (gaq : G aq = some 113) (eaq : aq = fR H a0 (K.1.2 10 4)) (ebs : bs = fI H a0 (K.1.2 10 1)) (ez : z = fI H aq (x1 : Int32).toNatClampNeg) : MX l K yX10_isSlice cX10_isSlice 3 (some .boolean) 1 21 0 0 [.ref a0, .int x1, .int x2] H (AE G [] H.size) (fun v H1 => ∃ (r : Int32), v = some (.int r) ∧ (0 ≤ r.toInt ∧ r.toInt ≤ 1) ∧ ((r.toInt = 1 ∧ 0 ≤ x1.toInt ∧ x1.toInt < bs.toInt ∧ 0 ≤ x2.toInt ∧ x2.toInt < z.toInt ∧ x2.toInt ≤ 15) ∨ (r.toInt = 0 ∧ (x1.toInt < 0 ∨ bs.toInt ≤ x1.toInt ∨ x2.toInt < 0 ∨ z.toInt ≤ x2.toInt))) ∧ TY K G H1) := by
  refine MX.of (by decide +kernel) (Nat.le_of_ble_eq_true rfl) ?_
  intro p e s m below meth c ls Q C hH hl hQ
  subst hH
  have C : CX p K s m _ meth c RX10 cX10_isSlice 3 (some .boolean) "isSlice" := C
  obtain ⟨hx, hb, hml, hown, hts, hKT, hr, hlocks, hnm⟩ := id C
  have hl : lv_has ls 3 [(0, .ref a0), (1, .int x1), (2, .int x2)] := hl
  have hS : va_S (AE G [] s.heap.size) s.heap s.heap [] := va_S.rf
  have n_0 : (0 : Int32).toInt = 0 := rfl
  have n_1 : (1 : Int32).toInt = 1 := rfl
  have bbs := ty_fi (x := bs) (k := 1) ebs hT ga0 rg_112 rfl
  have hap : ∀ x y, x < 74 → y < 74 → x ≠ y → K.1.2 10 x ≠ K.1.2 10 y := x_apart hKT hts inX10 tyX10 tyX10_ok nmX10 rfl
  refine lv_aload_n hx hb dX10_isSlice_0 rfl (lv_at hl 0 rfl) ?_
  refine lv_iload_n hx hb dX10_isSlice_1 rfl (lv_at hl 1 rfl) ?_
  refine x_V (As := [.int x1]) (rest := []) C (a_X10_isBar_r l K G s.heap (x1) (bs) hT ga0 ebs) yo_X10_isBar wM_X10_173 ⟨⟨by decide, by decide⟩, by decide, by decide⟩ (x_rv C hT (ci := 10) rfl ga0 rg_112) rfl hl.1 rfl (Nat.le_of_ble_eq_true rfl) dX10_isSlice_2 hS (AE_sub (fun _ _ => rfl) (by decide) hS.1) (fun vH153 H153 locsH153 pH153 zH153 kH153 hSH153 => ?_)
  obtain ⟨x154, hvH153, bx154, hrH153, hTH153⟩ := pH153
  subst hvH153
  have m155 := (eaq).trans (fR_kept (x_lt hT kH153 ga0 (by decide))).symm
  have m156 := (ebs).trans (fI_kept (x_lt hT kH153 ga0 (by decide))).symm
  have m157 := (ez).trans (fI_kept (x_lt hT kH153 gaq (by decide))).symm
  refine W.eq (g2 := F0 m 5 ls [.int x154]) rfl ?_
  refine lv_if_eq (tgt := 26) hx hb dX10_isSlice_5 (by decide) (fun c158 => ?_) (fun c158 => ?_)
  · have k159 := i_eq c158
    refine lv_iconst (v := 0) hx hb dX10_isSlice_26 (by decide) ?_
    exact x_zret C hQ (Or.inl rfl) dX10_isSlice_27 hSH153 (by decide) (by decide) (⟨0, rfl, by decide, by omega, hTH153⟩)
  · have k159 := i_ne c158
    refine lv_iload_n hx hb dX10_isSlice_8 rfl (lv_at hl 2 rfl) ?_
    refine lv_if_lt (tgt := 26) hx hb dX10_isSlice_9 (by decide) (fun c160 => ?_) (fun c160 => ?_)
    · have k161 := i_lt c160
      refine lv_iconst (v := 0) hx hb dX10_isSlice_26 (by decide) ?_
      exact x_zret C hQ (Or.inl rfl) dX10_isSlice_27 hSH153 (by decide) (by decide) (⟨0, rfl, by decide, by omega, hTH153⟩)
    · have k161 := i_nlt c160
      refine lv_iload_n hx hb dX10_isSlice_12 rfl (lv_at hl 2 rfl) ?_
      refine lv_aload_n hx hb dX10_isSlice_13 rfl (lv_at hl 0 rfl) ?_
      refine x_gr C hTH153 (ci := 10) (k := 4) rfl inX10 (by decide) wF_X10_13 ga0 rg_112 rfl dX10_isSlice_14 (fun q162 eq162 gq162 => ?_)
      have uq162 : aq = q162 := (m155).trans eq162.symm
      subst uq162
      refine lv_iload_n hx hb dX10_isSlice_17 rfl (lv_at hl 1 rfl) ?_
      refine x_ai C hTH153 gaq rg_113 ⟨by omega, by show _ < ((10 : Nat) : Int); omega⟩ dX10_isSlice_18 (fun x163 ex163 bx163 => ?_)
      have ux163 : z = x163 := (m157).trans ex163.symm
      subst ux163
      refine lv_icmp_ge (tgt := 26) hx hb dX10_isSlice_19 (by decide) (fun c164 => ?_) (fun c164 => ?_)
      · have k165 := i_le c164
        refine lv_iconst (v := 0) hx hb dX10_isSlice_26 (by decide) ?_
        exact x_zret C hQ (Or.inl rfl) dX10_isSlice_27 hSH153 (by decide) (by decide) (⟨0, rfl, by decide, by omega, hTH153⟩)
      · have k165 := i_nle c164
        refine lv_iconst (v := 1) hx hb dX10_isSlice_22 (by decide) ?_
        refine lv_goto (tgt := 27) hx hb dX10_isSlice_23 (by decide) ?_
        exact x_zret C hQ (Or.inr rfl) dX10_isSlice_27 hSH153 (by decide) (by decide) (⟨1, rfl, by decide, by omega, hTH153⟩)

set_option maxHeartbeats 4000000 in
set_option maxRecDepth 100000 in
theorem a_X10_wax_b (l : Launch) (K : KE) (G : Nat → Option Nat) (H : Heap) {a0 : Nat} (x1 : Int32) (x2 : Int32) (x3 : Int32) {aq : Nat} (bs : Int32) (z : Int32) (hT : TY K G H) (ga0 : G a0 = some 112) (gaq : G aq = some 113) (eaq : aq = fR H a0 (K.1.2 10 4)) (ebs : bs = fI H a0 (K.1.2 10 1)) (ez : z = fI H aq (x1 : Int32).toNatClampNeg) (hg_CG : CG (avw K H a0)) (hg_TU : TU (avw K H a0) (svw K H a0)) (hg_WD : WD (avw K H a0)) (hg_IM : IM (avw K H a0)) : MX l K yX10_wax cX10_wax 4 (some .boolean) 2 43 0 0 [.ref a0, .int x1, .int x2, .int x3] H (AE G [112, 117] H.size) (fun v H1 => ∃ (r : Int32), v = some (.int r) ∧ (0 ≤ r.toInt ∧ r.toInt ≤ 1) ∧ ((0 ≤ x1.toInt ∧ x1.toInt < bs.toInt ∧ 0 ≤ x2.toInt ∧ x2.toInt < z.toInt ∧ 0 ≤ x3.toInt ∧ x3.toInt ≤ 99 ∧ r.toInt = 1) ∨ ((x1.toInt < 0 ∨ bs.toInt ≤ x1.toInt ∨ x2.toInt < 0 ∨ z.toInt ≤ x2.toInt ∨ x3.toInt < 0 ∨ 99 < x3.toInt) ∧ r.toInt = 0)) ∧ aq = fR H1 a0 (K.1.2 10 4) ∧ (CG (avw K H1 a0)) ∧ (TU (avw K H1 a0) (svw K H1 a0)) ∧ (WD (avw K H1 a0)) ∧ (IM (avw K H1 a0)) ∧ MF K H H1 a0 [0] ∧ TY K G H1) := by
  refine MX.of (by decide +kernel) (Nat.le_of_ble_eq_true rfl) ?_
  intro p e s m below meth c ls Q C hH hl hQ
  subst hH
  have C : CX p K s m _ meth c RX10 cX10_wax 4 (some .boolean) "wax" := C
  obtain ⟨hx, hb, hml, hown, hts, hKT, hr, hlocks, hnm⟩ := id C
  have hl : lv_has ls 4 [(0, .ref a0), (1, .int x1), (2, .int x2), (3, .int x3)] := hl
  have hS : va_S (AE G [112, 117] s.heap.size) s.heap s.heap [] := va_S.rf
  have n_0 : (0 : Int32).toInt = 0 := rfl
  have n_1 : (1 : Int32).toInt = 1 := rfl
  have n_16 : (16 : Int32).toInt = 16 := rfl
  have n_99 : (99 : Int32).toInt = 99 := rfl
  have bbs := ty_fi (x := bs) (k := 1) ebs hT ga0 rg_112 rfl
  have hap : ∀ x y, x < 74 → y < 74 → x ≠ y → K.1.2 10 x ≠ K.1.2 10 y := x_apart hKT hts inX10 tyX10 tyX10_ok nmX10 rfl
  have mf0 : MF K s.heap s.heap a0 [0] := fun _ _ _ => rfl
  refine lv_aload_n hx hb dX10_wax_0 rfl (lv_at hl 0 rfl) ?_
  refine lv_iconst (v := 0) hx hb dX10_wax_1 (by decide) ?_
  refine x_put C hT hS (ci := 10) (k := 0) (v := .int 0) (ty0 := tyX10) rfl inX10 tyX10_ok nmX10 (by decide) rfl wF_X10_167 ga0 rg_112 rfl rfl (okI (by have := i_rng (0 : Int32); omega) (by have := i_rng (0 : Int32); omega)) rfl rfl (AE_in ga0 (by decide)) dX10_wax_2 (fun H273 locsH273 hTH273 hSH273 wH273 => ?_)
  have mf274 : MF K s.heap H273 a0 [0] := MF.fld hap wH273 (by decide) (by decide) mf0
  have g275 : CG (avw K H273 a0) := CG.congr (fun k hk j => av_fld hT ga0 hap wH273 (by decide) (CG_ok 112 (by decide) k hk) (CG_ne 0 (by decide) k hk)) hg_CG
  have g276 : TU (avw K H273 a0) (svw K H273 a0) := TU.congr (fun k hk j => av_fld hT ga0 hap wH273 (by decide) (TU_ok 112 (by decide) k hk) (TU_ne 0 (by decide) k hk)) (fun k hk => sv_fld hap wH273 (by decide) (TU_slt k hk) (TU_sne 0 (by decide) k hk)) hg_TU
  have g277 : WD (avw K H273 a0) := WD.congr (fun k hk j => av_fld hT ga0 hap wH273 (by decide) (WD_ok 112 (by decide) k hk) (WD_ne 0 (by decide) k hk)) hg_WD
  have g278 : IM (avw K H273 a0) := IM.congr (fun k hk j => av_fld hT ga0 hap wH273 (by decide) (IM_ok 112 (by decide) k hk) (IM_ne 0 (by decide) k hk)) hg_IM
  have m279 := eaq.trans (Wr.neR wH273 (Or.inr (x_apart hKT hts inX10 tyX10 tyX10_ok nmX10 rfl 4 0 (by decide) (by decide) (by decide)))).symm
  have m280 := ebs.trans (Wr.neI wH273 (Or.inr (x_apart hKT hts inX10 tyX10 tyX10_ok nmX10 rfl 1 0 (by decide) (by decide) (by decide)))).symm
  have m281 := ez.trans (Wr.neI wH273 (Or.inl (G_ne gaq ga0 (by decide)))).symm
  have m282 := Wr.I wH273
  refine lv_aload_n hx hb dX10_wax_5 rfl (lv_at hl 0 rfl) ?_
  refine lv_iload_n hx hb dX10_wax_6 rfl (lv_at hl 1 rfl) ?_
  refine lv_iload_n hx hb dX10_wax_7 rfl (lv_at hl 2 rfl) ?_
  refine x_V (As := [.int x1, .int x2]) (rest := []) C (a_X10_isSlice_b l K G H273 (x1) (x2) (bs) (z) hTH273 ga0 gaq m279 m280 m281) yo_X10_isSlice wM_X10_181 ⟨⟨by decide, by decide⟩, by decide, by decide⟩ (x_rv C hTH273 (ci := 10) rfl ga0 rg_112) rfl hl.1 rfl (Nat.le_of_ble_eq_true rfl) dX10_wax_8 hSH273 (AE_sub (fun _ _ => rfl) (by decide) hSH273.1) (fun vH283 H283 locsH283 pH283 zH283 kH283 hSH283 => ?_)
  obtain ⟨x284, hvH283, bx284, hrH283, hTH283⟩ := pH283
  subst hvH283
  have mf285 : MF K s.heap H283 a0 [0] := MF.eff (x_lt hTH273 kH283 ga0 (by decide)) mf274
  have g286 : CG (avw K H283 a0) := CG.congr (fun k hk j => av_eff hTH273 kH283 ga0 (by decide) (CG_eff [] (by decide) k hk)) g275
  have g287 : TU (avw K H283 a0) (svw K H283 a0) := TU.congr (fun k hk j => av_eff hTH273 kH283 ga0 (by decide) (TU_eff [] (by decide) k hk)) (fun k hk => sv_eff hTH273 kH283 ga0 (by decide)) g276
  have g288 : WD (avw K H283 a0) := WD.congr (fun k hk j => av_eff hTH273 kH283 ga0 (by decide) (WD_eff [] (by decide) k hk)) g277
  have g289 : IM (avw K H283 a0) := IM.congr (fun k hk j => av_eff hTH273 kH283 ga0 (by decide) (IM_eff [] (by decide) k hk)) g278
  have m290 := (m279).trans (fR_kept (x_lt hTH273 kH283 ga0 (by decide))).symm
  have m291 := (m280).trans (fI_kept (x_lt hTH273 kH283 ga0 (by decide))).symm
  have m292 := (m281).trans (fI_kept (x_lt hTH273 kH283 gaq (by decide))).symm
  have m293 := (fI_kept (x_lt hTH273 kH283 ga0 (by decide))).trans m282
  refine W.eq (g2 := F0 m 11 ls [.int x284]) rfl ?_
  refine lv_if_eq (tgt := 25) hx hb dX10_wax_11 (by decide) (fun c294 => ?_) (fun c294 => ?_)
  · have k295 := i_eq c294
    refine lv_iconst (v := 0) hx hb dX10_wax_25 (by decide) ?_
    exact x_zret C hQ (Or.inl rfl) dX10_wax_26 hSH283 (by decide) (by decide) (⟨0, rfl, by decide, by omega, m290, g286, g287, g288, g289, mf285, hTH283⟩)
  · have k295 := i_ne c294
    refine lv_aload_n hx hb dX10_wax_14 rfl (lv_at hl 0 rfl) ?_
    refine lv_iload_n hx hb dX10_wax_15 rfl (lv_at hl 3 rfl) ?_
    refine lv_iconst (v := 0) hx hb dX10_wax_16 (by decide) ?_
    refine lv_bipush (v := 99) hx hb dX10_wax_17 (by decide) ?_
    refine x_V (As := [.int x3, .int 0, .int 99]) (rest := []) C (c_X10_isIn l K G H283 (x3) (0) (99) hTH283 ga0) yo_X10_isIn wM_X10_177 ⟨⟨by decide, by decide⟩, by decide, by decide⟩ (x_rv C hTH283 (ci := 10) rfl ga0 rg_112) rfl hl.1 rfl (Nat.le_of_ble_eq_true rfl) dX10_wax_19 hSH283 (AE_sub (fun _ _ => rfl) (by decide) hSH283.1) (fun vH296 H296 locsH296 pH296 zH296 kH296 hSH296 => ?_)
    have hqH296 := pH296.1.symm
    subst hqH296
    rcases pH296.2 with ⟨hvH296, hcH296⟩ | ⟨hvH296, hcH296⟩
    · subst hvH296
      refine W.eq (g2 := F0 m 22 ls [.int 1]) rfl ?_
      refine lv_if_ne (tgt := 27) hx hb dX10_wax_22 (by decide) (fun c297 => ?_) (fun c297 => ?_)
      · have k298 := i_ne c297
        refine lv_aload_n hx hb dX10_wax_27 rfl (lv_at hl 0 rfl) ?_
        refine x_gr C hTH283 (ci := 10) (k := 8) rfl inX10 (by decide) wF_X10_26 ga0 rg_112 rfl dX10_wax_28 (fun q299 eq299 gq299 => ?_)
        refine lv_bipush (v := 16) hx hb dX10_wax_31 (by decide) ?_
        refine lv_iload_n hx hb dX10_wax_33 rfl (lv_at hl 1 rfl) ?_
        refine lv_imul hx hb dX10_wax_34 ?_
        refine lv_topi (fun x300 ex300 => ?_)
        have tx300 := i_mul ex300 (by rw [n_16]; omega)
        rw [n_16] at tx300
        refine lv_iload_n hx hb dX10_wax_35 rfl (lv_at hl 2 rfl) ?_
        refine lv_iadd hx hb dX10_wax_36 ?_
        refine lv_topi (fun x301 ex301 => ?_)
        have tx301 := i_add ex301 (by omega)
        refine lv_iload_n hx hb dX10_wax_37 rfl (lv_at hl 3 rfl) ?_
        refine x_iast C hTH283 hSH296 gq299 rg_117 (by omega) (by show _ < ((160 : Nat) : Int); omega) ⟨by have := i_rng x3; omega, by have := i_rng x3; omega⟩ (AE_in gq299 (by decide)) dX10_wax_38 (fun H302 locsH302 hTH302 hSH302 wH302 => ?_)
        have mf303 : MF K s.heap H302 a0 [0] := MF.arr wH302 (G_ne ga0 gq299 (by decide)) mf285
        have g304 : CG (avw K H302 a0) := CG.congr (fun k hk j => av_arr hTH283 ga0 wH302 gq299 (by decide) (CG_ok 117 (by decide) k hk)) g286
        have g305 : TU (avw K H302 a0) (svw K H302 a0) := TU.congr (fun k hk j => av_arr hTH283 ga0 wH302 gq299 (by decide) (TU_ok 117 (by decide) k hk)) (fun k hk => sv_arr ga0 wH302 gq299 (by decide)) g287
        have g306 : WD (avw K H302 a0) := WD.congr (fun k hk j => av_arr hTH283 ga0 wH302 gq299 (by decide) (WD_ok 117 (by decide) k hk)) g288
        have g307 : IM (avw K H302 a0) := IM.congr (fun k hk j => av_arr hTH283 ga0 wH302 gq299 (by decide) (IM_ok 117 (by decide) k hk)) g289
        have m308 := m290.trans (Wr.neR wH302 (Or.inl (G_ne ga0 gq299 (by decide)))).symm
        have m309 := m291.trans (Wr.neI wH302 (Or.inl (G_ne ga0 gq299 (by decide)))).symm
        have m310 := m292.trans (Wr.neI wH302 (Or.inl (G_ne gaq gq299 (by decide)))).symm
        have m311 := (Wr.neI wH302 (Or.inl (G_ne ga0 gq299 (by decide)))).trans m293
        have m312 := eq299.trans (Wr.neR wH302 (Or.inl (G_ne ga0 gq299 (by decide)))).symm
        have m313 := Wr.I wH302
        have m313 := m313.symm
        refine lv_iconst (v := 1) hx hb dX10_wax_39 (by decide) ?_
        exact x_zret C hQ (Or.inr rfl) dX10_wax_40 hSH302 (by decide) (by decide) (⟨1, rfl, by decide, by omega, m308, g304, g305, g306, g307, mf303, hTH302⟩)
      · have k298 := i_eq c297
        exfalso
        omega
    · subst hvH296
      refine W.eq (g2 := F0 m 22 ls [.int 0]) rfl ?_
      refine lv_if_ne (tgt := 27) hx hb dX10_wax_22 (by decide) (fun c314 => ?_) (fun c314 => ?_)
      · have k315 := i_ne c314
        exfalso
        omega
      · have k315 := i_eq c314
        refine lv_iconst (v := 0) hx hb dX10_wax_25 (by decide) ?_
        exact x_zret C hQ (Or.inl rfl) dX10_wax_26 hSH296 (by decide) (by decide) (⟨0, rfl, by decide, by omega, m290, g286, g287, g288, g289, mf285, hTH283⟩)

set_option maxHeartbeats 4000000 in
set_option maxRecDepth 100000 in
theorem a_X10_holes_b (l : Launch) (K : KE) (G : Nat → Option Nat) (H : Heap) {a0 : Nat} (x1 : Int32) (x2 : Int32) (x3 : Int32) {aq : Nat} (bs : Int32) (z : Int32) (hT : TY K G H) (ga0 : G a0 = some 112) (gaq : G aq = some 113) (eaq : aq = fR H a0 (K.1.2 10 4)) (ebs : bs = fI H a0 (K.1.2 10 1)) (ez : z = fI H aq (x1 : Int32).toNatClampNeg) (hg_CG : CG (avw K H a0)) (hg_TU : TU (avw K H a0) (svw K H a0)) (hg_WD : WD (avw K H a0)) (hg_IM : IM (avw K H a0)) : MX l K yX10_holes cX10_holes 4 (some .boolean) 2 43 0 0 [.ref a0, .int x1, .int x2, .int x3] H (AE G [112, 123, 124] H.size) (fun v H1 => ∃ (r : Int32), v = some (.int r) ∧ (0 ≤ r.toInt ∧ r.toInt ≤ 1) ∧ ((0 ≤ x1.toInt ∧ x1.toInt < bs.toInt ∧ 0 ≤ x2.toInt ∧ x2.toInt < x3.toInt ∧ x3.toInt < z.toInt ∧ r.toInt = 1) ∨ ((x1.toInt < 0 ∨ bs.toInt ≤ x1.toInt ∨ x2.toInt < 0 ∨ x3.toInt ≤ x2.toInt ∨ z.toInt ≤ x3.toInt) ∧ r.toInt = 0)) ∧ aq = fR H1 a0 (K.1.2 10 4) ∧ (CG (avw K H1 a0)) ∧ (TU (avw K H1 a0) (svw K H1 a0)) ∧ (WD (avw K H1 a0)) ∧ (IM (avw K H1 a0)) ∧ MF K H H1 a0 [0] ∧ TY K G H1) := by
  refine MX.of (by decide +kernel) (Nat.le_of_ble_eq_true rfl) ?_
  intro p e s m below meth c ls Q C hH hl hQ
  subst hH
  have C : CX p K s m _ meth c RX10 cX10_holes 4 (some .boolean) "holes" := C
  obtain ⟨hx, hb, hml, hown, hts, hKT, hr, hlocks, hnm⟩ := id C
  have hl : lv_has ls 4 [(0, .ref a0), (1, .int x1), (2, .int x2), (3, .int x3)] := hl
  have hS : va_S (AE G [112, 123, 124] s.heap.size) s.heap s.heap [] := va_S.rf
  have n_0 : (0 : Int32).toInt = 0 := rfl
  have n_1 : (1 : Int32).toInt = 1 := rfl
  have bbs := ty_fi (x := bs) (k := 1) ebs hT ga0 rg_112 rfl
  have hap : ∀ x y, x < 74 → y < 74 → x ≠ y → K.1.2 10 x ≠ K.1.2 10 y := x_apart hKT hts inX10 tyX10 tyX10_ok nmX10 rfl
  have mf0 : MF K s.heap s.heap a0 [0] := fun _ _ _ => rfl
  refine lv_aload_n hx hb dX10_holes_0 rfl (lv_at hl 0 rfl) ?_
  refine lv_iconst (v := 0) hx hb dX10_holes_1 (by decide) ?_
  refine x_put C hT hS (ci := 10) (k := 0) (v := .int 0) (ty0 := tyX10) rfl inX10 tyX10_ok nmX10 (by decide) rfl wF_X10_167 ga0 rg_112 rfl rfl (okI (by have := i_rng (0 : Int32); omega) (by have := i_rng (0 : Int32); omega)) rfl rfl (AE_in ga0 (by decide)) dX10_holes_2 (fun H365 locsH365 hTH365 hSH365 wH365 => ?_)
  have mf366 : MF K s.heap H365 a0 [0] := MF.fld hap wH365 (by decide) (by decide) mf0
  have g367 : CG (avw K H365 a0) := CG.congr (fun k hk j => av_fld hT ga0 hap wH365 (by decide) (CG_ok 112 (by decide) k hk) (CG_ne 0 (by decide) k hk)) hg_CG
  have g368 : TU (avw K H365 a0) (svw K H365 a0) := TU.congr (fun k hk j => av_fld hT ga0 hap wH365 (by decide) (TU_ok 112 (by decide) k hk) (TU_ne 0 (by decide) k hk)) (fun k hk => sv_fld hap wH365 (by decide) (TU_slt k hk) (TU_sne 0 (by decide) k hk)) hg_TU
  have g369 : WD (avw K H365 a0) := WD.congr (fun k hk j => av_fld hT ga0 hap wH365 (by decide) (WD_ok 112 (by decide) k hk) (WD_ne 0 (by decide) k hk)) hg_WD
  have g370 : IM (avw K H365 a0) := IM.congr (fun k hk j => av_fld hT ga0 hap wH365 (by decide) (IM_ok 112 (by decide) k hk) (IM_ne 0 (by decide) k hk)) hg_IM
  have m371 := eaq.trans (Wr.neR wH365 (Or.inr (x_apart hKT hts inX10 tyX10 tyX10_ok nmX10 rfl 4 0 (by decide) (by decide) (by decide)))).symm
  have m372 := ebs.trans (Wr.neI wH365 (Or.inr (x_apart hKT hts inX10 tyX10 tyX10_ok nmX10 rfl 1 0 (by decide) (by decide) (by decide)))).symm
  have m373 := ez.trans (Wr.neI wH365 (Or.inl (G_ne gaq ga0 (by decide)))).symm
  have m374 := Wr.I wH365
  refine lv_aload_n hx hb dX10_holes_5 rfl (lv_at hl 0 rfl) ?_
  refine lv_iload_n hx hb dX10_holes_6 rfl (lv_at hl 1 rfl) ?_
  refine lv_iload_n hx hb dX10_holes_7 rfl (lv_at hl 2 rfl) ?_
  refine x_V (As := [.int x1, .int x2]) (rest := []) C (a_X10_isSlice_b l K G H365 (x1) (x2) (bs) (z) hTH365 ga0 gaq m371 m372 m373) yo_X10_isSlice wM_X10_181 ⟨⟨by decide, by decide⟩, by decide, by decide⟩ (x_rv C hTH365 (ci := 10) rfl ga0 rg_112) rfl hl.1 rfl (Nat.le_of_ble_eq_true rfl) dX10_holes_8 hSH365 (AE_sub (fun _ _ => rfl) (by decide) hSH365.1) (fun vH375 H375 locsH375 pH375 zH375 kH375 hSH375 => ?_)
  obtain ⟨x376, hvH375, bx376, hrH375, hTH375⟩ := pH375
  subst hvH375
  have mf377 : MF K s.heap H375 a0 [0] := MF.eff (x_lt hTH365 kH375 ga0 (by decide)) mf366
  have g378 : CG (avw K H375 a0) := CG.congr (fun k hk j => av_eff hTH365 kH375 ga0 (by decide) (CG_eff [] (by decide) k hk)) g367
  have g379 : TU (avw K H375 a0) (svw K H375 a0) := TU.congr (fun k hk j => av_eff hTH365 kH375 ga0 (by decide) (TU_eff [] (by decide) k hk)) (fun k hk => sv_eff hTH365 kH375 ga0 (by decide)) g368
  have g380 : WD (avw K H375 a0) := WD.congr (fun k hk j => av_eff hTH365 kH375 ga0 (by decide) (WD_eff [] (by decide) k hk)) g369
  have g381 : IM (avw K H375 a0) := IM.congr (fun k hk j => av_eff hTH365 kH375 ga0 (by decide) (IM_eff [] (by decide) k hk)) g370
  have m382 := (m371).trans (fR_kept (x_lt hTH365 kH375 ga0 (by decide))).symm
  have m383 := (m372).trans (fI_kept (x_lt hTH365 kH375 ga0 (by decide))).symm
  have m384 := (m373).trans (fI_kept (x_lt hTH365 kH375 gaq (by decide))).symm
  have m385 := (fI_kept (x_lt hTH365 kH375 ga0 (by decide))).trans m374
  refine W.eq (g2 := F0 m 11 ls [.int x376]) rfl ?_
  refine lv_if_eq (tgt := 28) hx hb dX10_holes_11 (by decide) (fun c386 => ?_) (fun c386 => ?_)
  · have k387 := i_eq c386
    refine lv_iconst (v := 0) hx hb dX10_holes_28 (by decide) ?_
    exact x_zret C hQ (Or.inl rfl) dX10_holes_29 hSH375 (by decide) (by decide) (⟨0, rfl, by decide, by omega, m382, g378, g379, g380, g381, mf377, hTH375⟩)
  · have k387 := i_ne c386
    refine lv_aload_n hx hb dX10_holes_14 rfl (lv_at hl 0 rfl) ?_
    refine lv_iload_n hx hb dX10_holes_15 rfl (lv_at hl 1 rfl) ?_
    refine lv_iload_n hx hb dX10_holes_16 rfl (lv_at hl 3 rfl) ?_
    refine x_V (As := [.int x1, .int x3]) (rest := []) C (a_X10_isSlice_b l K G H375 (x1) (x3) (bs) (z) hTH375 ga0 gaq m382 m383 m384) yo_X10_isSlice wM_X10_181 ⟨⟨by decide, by decide⟩, by decide, by decide⟩ (x_rv C hTH375 (ci := 10) rfl ga0 rg_112) rfl hl.1 rfl (Nat.le_of_ble_eq_true rfl) dX10_holes_17 hSH375 (AE_sub (fun _ _ => rfl) (by decide) hSH375.1) (fun vH388 H388 locsH388 pH388 zH388 kH388 hSH388 => ?_)
    obtain ⟨x389, hvH388, bx389, hrH388, hTH388⟩ := pH388
    subst hvH388
    have mf390 : MF K s.heap H388 a0 [0] := MF.eff (x_lt hTH375 kH388 ga0 (by decide)) mf377
    have g391 : CG (avw K H388 a0) := CG.congr (fun k hk j => av_eff hTH375 kH388 ga0 (by decide) (CG_eff [] (by decide) k hk)) g378
    have g392 : TU (avw K H388 a0) (svw K H388 a0) := TU.congr (fun k hk j => av_eff hTH375 kH388 ga0 (by decide) (TU_eff [] (by decide) k hk)) (fun k hk => sv_eff hTH375 kH388 ga0 (by decide)) g379
    have g393 : WD (avw K H388 a0) := WD.congr (fun k hk j => av_eff hTH375 kH388 ga0 (by decide) (WD_eff [] (by decide) k hk)) g380
    have g394 : IM (avw K H388 a0) := IM.congr (fun k hk j => av_eff hTH375 kH388 ga0 (by decide) (IM_eff [] (by decide) k hk)) g381
    have m395 := (m382).trans (fR_kept (x_lt hTH375 kH388 ga0 (by decide))).symm
    have m396 := (m383).trans (fI_kept (x_lt hTH375 kH388 ga0 (by decide))).symm
    have m397 := (m384).trans (fI_kept (x_lt hTH375 kH388 gaq (by decide))).symm
    have m398 := (fI_kept (x_lt hTH375 kH388 ga0 (by decide))).trans m385
    refine W.eq (g2 := F0 m 20 ls [.int x389]) rfl ?_
    refine lv_if_eq (tgt := 28) hx hb dX10_holes_20 (by decide) (fun c399 => ?_) (fun c399 => ?_)
    · have k400 := i_eq c399
      refine lv_iconst (v := 0) hx hb dX10_holes_28 (by decide) ?_
      exact x_zret C hQ (Or.inl rfl) dX10_holes_29 hSH388 (by decide) (by decide) (⟨0, rfl, by decide, by omega, m395, g391, g392, g393, g394, mf390, hTH388⟩)
    · have k400 := i_ne c399
      refine lv_iload_n hx hb dX10_holes_23 rfl (lv_at hl 2 rfl) ?_
      refine lv_iload_n hx hb dX10_holes_24 rfl (lv_at hl 3 rfl) ?_
      refine lv_icmp_lt (tgt := 30) hx hb dX10_holes_25 (by decide) (fun c401 => ?_) (fun c401 => ?_)
      · have k402 := i_lt c401
        refine lv_aload_n hx hb dX10_holes_30 rfl (lv_at hl 0 rfl) ?_
        refine x_gr C hTH388 (ci := 10) (k := 14) rfl inX10 (by decide) wF_X10_44 ga0 rg_112 rfl dX10_holes_31 (fun q403 eq403 gq403 => ?_)
        refine lv_iload_n hx hb dX10_holes_34 rfl (lv_at hl 1 rfl) ?_
        refine lv_iload_n hx hb dX10_holes_35 rfl (lv_at hl 2 rfl) ?_
        refine x_iast C hTH388 hSH388 gq403 rg_123 (by omega) (by show _ < ((10 : Nat) : Int); omega) ⟨by have := i_rng x2; omega, by have := i_rng x2; omega⟩ (AE_in gq403 (by decide)) dX10_holes_36 (fun H404 locsH404 hTH404 hSH404 wH404 => ?_)
        have mf405 : MF K s.heap H404 a0 [0] := MF.arr wH404 (G_ne ga0 gq403 (by decide)) mf390
        have g406 : CG (avw K H404 a0) := CG.congr (fun k hk j => av_arr hTH388 ga0 wH404 gq403 (by decide) (CG_ok 123 (by decide) k hk)) g391
        have g407 : TU (avw K H404 a0) (svw K H404 a0) := TU.congr (fun k hk j => av_arr hTH388 ga0 wH404 gq403 (by decide) (TU_ok 123 (by decide) k hk)) (fun k hk => sv_arr ga0 wH404 gq403 (by decide)) g392
        have g408 : WD (avw K H404 a0) := WD.congr (fun k hk j => av_arr hTH388 ga0 wH404 gq403 (by decide) (WD_ok 123 (by decide) k hk)) g393
        have g409 : IM (avw K H404 a0) := IM.congr (fun k hk j => av_arr hTH388 ga0 wH404 gq403 (by decide) (IM_ok 123 (by decide) k hk)) g394
        have m410 := m395.trans (Wr.neR wH404 (Or.inl (G_ne ga0 gq403 (by decide)))).symm
        have m411 := m396.trans (Wr.neI wH404 (Or.inl (G_ne ga0 gq403 (by decide)))).symm
        have m412 := m397.trans (Wr.neI wH404 (Or.inl (G_ne gaq gq403 (by decide)))).symm
        have m413 := (Wr.neI wH404 (Or.inl (G_ne ga0 gq403 (by decide)))).trans m398
        have m414 := eq403.trans (Wr.neR wH404 (Or.inl (G_ne ga0 gq403 (by decide)))).symm
        have m415 := Wr.I wH404
        have m415 := m415.symm
        refine lv_aload_n hx hb dX10_holes_37 rfl (lv_at hl 0 rfl) ?_
        refine x_gr C hTH404 (ci := 10) (k := 15) rfl inX10 (by decide) wF_X10_47 ga0 rg_112 rfl dX10_holes_38 (fun q416 eq416 gq416 => ?_)
        refine lv_iload_n hx hb dX10_holes_41 rfl (lv_at hl 1 rfl) ?_
        refine lv_iload_n hx hb dX10_holes_42 rfl (lv_at hl 3 rfl) ?_
        refine x_iast C hTH404 hSH404 gq416 rg_124 (by omega) (by show _ < ((10 : Nat) : Int); omega) ⟨by have := i_rng x3; omega, by have := i_rng x3; omega⟩ (AE_in gq416 (by decide)) dX10_holes_43 (fun H417 locsH417 hTH417 hSH417 wH417 => ?_)
        have mf418 : MF K s.heap H417 a0 [0] := MF.arr wH417 (G_ne ga0 gq416 (by decide)) mf405
        have g419 : CG (avw K H417 a0) := CG.congr (fun k hk j => av_arr hTH404 ga0 wH417 gq416 (by decide) (CG_ok 124 (by decide) k hk)) g406
        have g420 : TU (avw K H417 a0) (svw K H417 a0) := TU.congr (fun k hk j => av_arr hTH404 ga0 wH417 gq416 (by decide) (TU_ok 124 (by decide) k hk)) (fun k hk => sv_arr ga0 wH417 gq416 (by decide)) g407
        have g421 : WD (avw K H417 a0) := WD.congr (fun k hk j => av_arr hTH404 ga0 wH417 gq416 (by decide) (WD_ok 124 (by decide) k hk)) g408
        have g422 : IM (avw K H417 a0) := IM.congr (fun k hk j => av_arr hTH404 ga0 wH417 gq416 (by decide) (IM_ok 124 (by decide) k hk)) g409
        have m423 := m410.trans (Wr.neR wH417 (Or.inl (G_ne ga0 gq416 (by decide)))).symm
        have m424 := m411.trans (Wr.neI wH417 (Or.inl (G_ne ga0 gq416 (by decide)))).symm
        have m425 := m412.trans (Wr.neI wH417 (Or.inl (G_ne gaq gq416 (by decide)))).symm
        have m426 := (Wr.neI wH417 (Or.inl (G_ne ga0 gq416 (by decide)))).trans m413
        have m427 := m414.trans (Wr.neR wH417 (Or.inl (G_ne ga0 gq416 (by decide)))).symm
        have m428 := m415.trans (Wr.neI wH417 (Or.inl (G_ne gq403 gq416 (by decide)))).symm
        have m429 := eq416.trans (Wr.neR wH417 (Or.inl (G_ne ga0 gq416 (by decide)))).symm
        have m430 := Wr.I wH417
        have m430 := m430.symm
        refine lv_iconst (v := 1) hx hb dX10_holes_44 (by decide) ?_
        exact x_zret C hQ (Or.inr rfl) dX10_holes_45 hSH417 (by decide) (by decide) (⟨1, rfl, by decide, by omega, m423, g419, g420, g421, g422, mf418, hTH417⟩)
      · have k402 := i_nlt c401
        refine lv_iconst (v := 0) hx hb dX10_holes_28 (by decide) ?_
        exact x_zret C hQ (Or.inl rfl) dX10_holes_29 hSH388 (by decide) (by decide) (⟨0, rfl, by decide, by omega, m395, g391, g392, g393, g394, mf390, hTH388⟩)

set_option maxHeartbeats 4000000 in
set_option maxRecDepth 100000 in
theorem a_X10_bar_b (l : Launch) (K : KE) (G : Nat → Option Nat) (H : Heap) {a0 : Nat} (x1 : Int32) {slq : Nat} {tbq : Nat} (bs : Int32) (zb : Int32) (hT : TY K G H) (ga0 : G a0 = some 112) (gslq : G slq = some 113) (eslq : slq = fR H a0 (K.1.2 10 4)) (gtbq : G tbq = some 125) (etbq : tbq = fR H a0 (K.1.2 10 16)) (ebs : bs = fI H a0 (K.1.2 10 1)) (ezb : zb = fI H slq (bs : Int32).toNatClampNeg) (hg_CG : CG (avw K H a0)) (hg_TU : TU (avw K H a0) (svw K H a0)) (hg_WD : WD (avw K H a0)) (hg_IM : IM (avw K H a0)) : MX l K yX10_bar cX10_bar 3 (some .int) 1 23 0 0 [.ref a0, .int x1] H (AE G [112, 113, 114, 115, 116, 117, 125] H.size) (fun v H1 => ∃ (r : Int32) (t0 : Int32) (t1 : Int32), v = some (.int r) ∧ t0 = fI H1 a0 (K.1.2 10 1) ∧ t1 = fI H1 slq (bs : Int32).toNatClampNeg ∧ (((3 ≤ x1.toInt ∧ x1.toInt ≤ 16 ∧ bs.toInt ≤ 9 ∧ r.toInt = bs.toInt ∧ t0.toInt = bs.toInt + 1) ∨ ((x1.toInt < 3 ∨ 16 < x1.toInt ∨ 9 < bs.toInt) ∧ r.toInt = -1 ∧ t0.toInt = bs.toInt)) ∧ (3 ≤ x1.toInt ∧ x1.toInt ≤ 16 ∧ bs.toInt ≤ 9 → t1.toInt = x1.toInt)) ∧ slq = fR H1 a0 (K.1.2 10 4) ∧ tbq = fR H1 a0 (K.1.2 10 16) ∧ (CG (avw K H1 a0)) ∧ (TU (avw K H1 a0) (svw K H1 a0)) ∧ (WD (avw K H1 a0)) ∧ (IM (avw K H1 a0)) ∧ MF K H H1 a0 [0, 1] ∧ (∀ j : Nat, j ≠ bs.toNatClampNeg → fI H1 slq j = fI H slq j) ∧ TY K G H1) := by
  refine MX.of (by decide +kernel) (Nat.le_of_ble_eq_true rfl) ?_
  intro p e s m below meth c ls Q C hH hl hQ
  subst hH
  have C : CX p K s m _ meth c RX10 cX10_bar 3 (some .int) "bar" := C
  obtain ⟨hx, hb, hml, hown, hts, hKT, hr, hlocks, hnm⟩ := id C
  have hl : lv_has ls 3 [(0, .ref a0), (1, .int x1)] := hl
  have hS : va_S (AE G [112, 113, 114, 115, 116, 117, 125] s.heap.size) s.heap s.heap [] := va_S.rf
  have n_m1 : ((-1) : Int32).toInt = -1 := rfl
  have n_0 : (0 : Int32).toInt = 0 := rfl
  have n_1 : (1 : Int32).toInt = 1 := rfl
  have n_2 : (2 : Int32).toInt = 2 := rfl
  have n_3 : (3 : Int32).toInt = 3 := rfl
  have n_5 : (5 : Int32).toInt = 5 := rfl
  have n_10 : (10 : Int32).toInt = 10 := rfl
  have n_16 : (16 : Int32).toInt = 16 := rfl
  have n_20 : (20 : Int32).toInt = 20 := rfl
  have n_500 : (500 : Int32).toInt = 500 := rfl
  have bbs := ty_fi (x := bs) (k := 1) ebs hT ga0 rg_112 rfl
  have hap : ∀ x y, x < 74 → y < 74 → x ≠ y → K.1.2 10 x ≠ K.1.2 10 y := x_apart hKT hts inX10 tyX10 tyX10_ok nmX10 rfl
  have mf0 : MF K s.heap s.heap a0 [0, 1] := fun _ _ _ => rfl
  have f0_so : ∀ j : Nat, j ≠ bs.toNatClampNeg → fI s.heap slq j = fI s.heap slq j := fun _ _ => rfl
  have J45 : ∀ (nf : Nat) (ls1203 : Array Slot) (H1202 : Heap) (locsH1202 : List Loc) (x1205 : Int32) (x1206 : Int32) (x1207 : Int32), lv_has ls1203 3 [(0, .ref a0), (2, .int x1205)] → TY K G H1202 → va_S (AE G [112, 113, 114, 115, 116, 117, 125] s.heap.size) s.heap H1202 locsH1202 → (0 ≤ x1205.toInt ∧ x1205.toInt ≤ 160) → (0 ≤ x1206.toInt ∧ x1206.toInt ≤ 9) → (3 ≤ x1207.toInt ∧ x1207.toInt ≤ 16) → (x1206 = fI H1202 a0 (K.1.2 10 1)) → (x1207 = fI H1202 slq (bs : Int32).toNatClampNeg) → (slq = fR H1202 a0 (K.1.2 10 4)) → (tbq = fR H1202 a0 (K.1.2 10 16)) → (AB H1202 slq (bs.toNatClampNeg + 1) (1) (16)) → (MF K s.heap H1202 a0 [0, 1]) → (CG (avw K H1202 a0)) → (TU (avw K H1202 a0) (svw K H1202 a0)) → (WD (avw K H1202 a0)) → (IM (avw K H1202 a0)) → (∀ j : Nat, j ≠ bs.toNatClampNeg → fI H1202 slq j = fI s.heap slq j) → (160 - x1205.toInt < (nf : Int)) → (16 * bs.toInt ≤ x1205.toInt ∧ 3 ≤ x1.toInt ∧ x1.toInt ≤ 16 ∧ x1206.toInt = bs.toInt ∧ bs.toInt ≤ 9 ∧ x1207.toInt = x1.toInt) → W p l e ({ frames := 1, cells := 0, slots := 0, locals := 23 } : Room) s m (([.ref a0, .int x1] : List Value).toArray) below meth c H1202 locsH1202 0 0 Q (F0 m 45 ls1203 []) := by
    intro nf
    induction nf with
    | zero =>
      intro ls1203 H1202 locsH1202 x1205 x1206 x1207 hl1204 hTH1202 hSH1202 bx1205 bx1206 bx1207 ex1206 ex1207 cy1208_0 cy1208_1 by1208_sl mfy1208 gy1208_CG gy1208_TU gy1208_WD gy1208_IM fy1208_so hm45 iv45
      exfalso
      omega
    | succ nf ih45 =>
      intro ls1203 H1202 locsH1202 x1205 x1206 x1207 hl1204 hTH1202 hSH1202 bx1205 bx1206 bx1207 ex1206 ex1207 cy1208_0 cy1208_1 by1208_sl mfy1208 gy1208_CG gy1208_TU gy1208_WD gy1208_IM fy1208_so hm45 iv45
      refine lv_iload_n hx hb dX10_bar_45 rfl (lv_at hl1204 1 rfl) ?_
      refine lv_bipush (v := 16) hx hb dX10_bar_46 (by decide) ?_
      refine lv_aload_n hx hb dX10_bar_48 rfl (lv_at hl1204 0 rfl) ?_
      refine x_gi C hTH1202 (ci := 10) (k := 1) rfl inX10 (by decide) wF_X10_170 ga0 rg_112 rfl dX10_bar_49 (fun x1209 ex1209 bx1209 => ?_)
      have ux1209 : x1206 = x1209 := (ex1206).trans ex1209.symm
      subst ux1209
      refine lv_imul hx hb dX10_bar_52 ?_
      refine lv_topi (fun x1210 ex1210 => ?_)
      have tx1210 := i_mul ex1210 (by rw [n_16]; omega)
      rw [n_16] at tx1210
      refine lv_bipush (v := 16) hx hb dX10_bar_53 (by decide) ?_
      refine lv_iadd hx hb dX10_bar_55 ?_
      refine lv_topi (fun x1211 ex1211 => ?_)
      have tx1211 := i_add ex1211 (by omega)
      refine lv_icmp_ge (tgt := 94) hx hb dX10_bar_56 (by decide) (fun c1212 => ?_) (fun c1212 => ?_)
      · have k1213 := i_le c1212
        have cbtb := i_cl (x := x1206) (by omega)
        have atb : AB H1202 tbq (2 * x1206.toNatClampNeg) 1 9999 := TU.abT gy1208_TU cy1208_1 ex1206 (by omega) (fun j hj => (by obtain ⟨c, -, -, -, -, -, -, h⟩ := hTH1202.aint gtbq rg_125 (j := j) (by omega); exact h))
        refine lv_aload_n hx hb dX10_bar_94 rfl (lv_at hl1204 0 rfl) ?_
        refine x_gr C hTH1202 (ci := 10) (k := 16) rfl inX10 (by decide) wF_X10_50 ga0 rg_112 rfl dX10_bar_95 (fun q1214 eq1214 gq1214 => ?_)
        have uq1214 : tbq = q1214 := (cy1208_1).trans eq1214.symm
        subst uq1214
        refine lv_iconst (v := 2) hx hb dX10_bar_98 (by decide) ?_
        refine lv_aload_n hx hb dX10_bar_99 rfl (lv_at hl1204 0 rfl) ?_
        refine x_gi C hTH1202 (ci := 10) (k := 1) rfl inX10 (by decide) wF_X10_170 ga0 rg_112 rfl dX10_bar_100 (fun x1215 ex1215 bx1215 => ?_)
        have ux1215 : x1206 = x1215 := (ex1206).trans ex1215.symm
        subst ux1215
        refine lv_imul hx hb dX10_bar_103 ?_
        refine lv_topi (fun x1216 ex1216 => ?_)
        have tx1216 := i_mul ex1216 (by rw [n_2]; omega)
        rw [n_2] at tx1216
        refine lv_sipush (v := 500) hx hb dX10_bar_104 (by decide) ?_
        refine x_iast C hTH1202 hSH1202 gtbq rg_125 (by omega) (by show _ < ((20 : Nat) : Int); omega) (by decide) (AE_in gtbq (by decide)) dX10_bar_107 (fun H1217 locsH1217 hTH1217 hSH1217 wH1217 => ?_)
        have mf1218 : MF K s.heap H1217 a0 [0, 1] := MF.arr wH1217 (G_ne ga0 gtbq (by decide)) mfy1208
        have g1219 : CG (avw K H1217 a0) := CG.congr (fun k hk j => av_arr hTH1202 ga0 wH1217 gtbq (by decide) (CG_ok 125 (by decide) k hk)) gy1208_CG
        have g1220 : TU (avw K H1217 a0) (svw K H1217 a0) := TU.putT hTH1202 ga0 wH1217 gtbq cy1208_1 (by omega) gy1208_TU
        have g1221 : WD (avw K H1217 a0) := WD.congr (fun k hk j => av_arr hTH1202 ga0 wH1217 gtbq (by decide) (WD_ok 125 (by decide) k hk)) gy1208_WD
        have g1222 : IM (avw K H1217 a0) := IM.congr (fun k hk j => av_arr hTH1202 ga0 wH1217 gtbq (by decide) (IM_ok 125 (by decide) k hk)) gy1208_IM
        have b1223 : AB H1217 slq (bs.toNatClampNeg + 1) (1) (16) := AB.kept (fun j => Wr.neI wH1217 (Or.inl (G_ne gslq gtbq (by decide)))) by1208_sl
        have cjH1217 := i_cl (x := x1216) (by omega)
        have b1224 : AB H1217 tbq (2 * x1206.toNatClampNeg + 1) (1) (9999) := (AB.ext wH1217 (by omega) atb (by omega) rfl)
        have f1225 : ∀ j : Nat, j ≠ bs.toNatClampNeg → fI H1217 slq j = fI s.heap slq j := fun j hj => (Wr.neI wH1217 (Or.inl (G_ne gslq gtbq (by decide)))).trans (fy1208_so j hj)
        have m1226 := ex1206.trans (Wr.neI wH1217 (Or.inl (G_ne ga0 gtbq (by decide)))).symm
        have m1227 := ex1207.trans (Wr.neI wH1217 (Or.inl (G_ne gslq gtbq (by decide)))).symm
        have m1228 := cy1208_0.trans (Wr.neR wH1217 (Or.inl (G_ne ga0 gtbq (by decide)))).symm
        have m1229 := cy1208_1.trans (Wr.neR wH1217 (Or.inl (G_ne ga0 gtbq (by decide)))).symm
        have m1230 := Wr.I wH1217
        refine lv_aload_n hx hb dX10_bar_108 rfl (lv_at hl1204 0 rfl) ?_
        refine x_gr C hTH1217 (ci := 10) (k := 16) rfl inX10 (by decide) wF_X10_50 ga0 rg_112 rfl dX10_bar_109 (fun q1231 eq1231 gq1231 => ?_)
        have uq1231 : tbq = q1231 := (m1229).trans eq1231.symm
        subst uq1231
        refine lv_iconst (v := 2) hx hb dX10_bar_112 (by decide) ?_
        refine lv_aload_n hx hb dX10_bar_113 rfl (lv_at hl1204 0 rfl) ?_
        refine x_gi C hTH1217 (ci := 10) (k := 1) rfl inX10 (by decide) wF_X10_170 ga0 rg_112 rfl dX10_bar_114 (fun x1232 ex1232 bx1232 => ?_)
        have ux1232 : x1206 = x1232 := (m1226).trans ex1232.symm
        subst ux1232
        refine lv_imul hx hb dX10_bar_117 ?_
        refine lv_topi (fun x1233 ex1233 => ?_)
        have tx1233 := i_mul ex1233 (by rw [n_2]; omega)
        rw [n_2] at tx1233
        refine lv_iconst (v := 1) hx hb dX10_bar_118 (by decide) ?_
        refine lv_iadd hx hb dX10_bar_119 ?_
        refine lv_topi (fun x1234 ex1234 => ?_)
        have tx1234 := i_add ex1234 (by omega)
        refine lv_sipush (v := 500) hx hb dX10_bar_120 (by decide) ?_
        refine x_iast C hTH1217 hSH1217 gtbq rg_125 (by omega) (by show _ < ((20 : Nat) : Int); omega) (by decide) (AE_in gtbq (by decide)) dX10_bar_123 (fun H1235 locsH1235 hTH1235 hSH1235 wH1235 => ?_)
        have mf1236 : MF K s.heap H1235 a0 [0, 1] := MF.arr wH1235 (G_ne ga0 gtbq (by decide)) mf1218
        have g1237 : CG (avw K H1235 a0) := CG.congr (fun k hk j => av_arr hTH1217 ga0 wH1235 gtbq (by decide) (CG_ok 125 (by decide) k hk)) g1219
        have g1238 : TU (avw K H1235 a0) (svw K H1235 a0) := TU.putT hTH1217 ga0 wH1235 gtbq m1229 (by omega) g1220
        have g1239 : WD (avw K H1235 a0) := WD.congr (fun k hk j => av_arr hTH1217 ga0 wH1235 gtbq (by decide) (WD_ok 125 (by decide) k hk)) g1221
        have g1240 : IM (avw K H1235 a0) := IM.congr (fun k hk j => av_arr hTH1217 ga0 wH1235 gtbq (by decide) (IM_ok 125 (by decide) k hk)) g1222
        have b1241 : AB H1235 slq (bs.toNatClampNeg + 1) (1) (16) := AB.kept (fun j => Wr.neI wH1235 (Or.inl (G_ne gslq gtbq (by decide)))) b1223
        have cjH1235 := i_cl (x := x1234) (by omega)
        have b1242 : AB H1235 tbq (2 * x1206.toNatClampNeg + 1 + 1) (1) (9999) := (AB.ext wH1235 (by omega) b1224 (by omega) rfl)
        have f1243 : ∀ j : Nat, j ≠ bs.toNatClampNeg → fI H1235 slq j = fI s.heap slq j := fun j hj => (Wr.neI wH1235 (Or.inl (G_ne gslq gtbq (by decide)))).trans (f1225 j hj)
        have m1244 := m1226.trans (Wr.neI wH1235 (Or.inl (G_ne ga0 gtbq (by decide)))).symm
        have m1245 := m1227.trans (Wr.neI wH1235 (Or.inl (G_ne gslq gtbq (by decide)))).symm
        have m1246 := m1228.trans (Wr.neR wH1235 (Or.inl (G_ne ga0 gtbq (by decide)))).symm
        have m1247 := m1229.trans (Wr.neR wH1235 (Or.inl (G_ne ga0 gtbq (by decide)))).symm
        have m1249 := Wr.I wH1235
        refine lv_aload_n hx hb dX10_bar_124 rfl (lv_at hl1204 0 rfl) ?_
        refine lv_aload_n hx hb dX10_bar_125 rfl (lv_at hl1204 0 rfl) ?_
        refine x_gi C hTH1235 (ci := 10) (k := 1) rfl inX10 (by decide) wF_X10_170 ga0 rg_112 rfl dX10_bar_126 (fun x1250 ex1250 bx1250 => ?_)
        have ux1250 : x1206 = x1250 := (m1244).trans ex1250.symm
        subst ux1250
        refine lv_iconst (v := 1) hx hb dX10_bar_129 (by decide) ?_
        refine lv_iadd hx hb dX10_bar_130 ?_
        refine lv_topi (fun x1251 ex1251 => ?_)
        have tx1251 := i_add ex1251 (by omega)
        refine x_put C hTH1235 hSH1235 (ci := 10) (k := 1) (v := .int x1251) (ty0 := tyX10) rfl inX10 tyX10_ok nmX10 (by decide) rfl wF_X10_170 ga0 rg_112 rfl rfl (okI (by have := i_rng x1251; omega) (by have := i_rng x1251; omega)) rfl rfl (AE_in ga0 (by decide)) dX10_bar_131 (fun H1252 locsH1252 hTH1252 hSH1252 wH1252 => ?_)
        have mf1253 : MF K s.heap H1252 a0 [0, 1] := MF.fld hap wH1252 (by decide) (by decide) mf1236
        have g1254 : CG (avw K H1252 a0) := CG.congr (fun k hk j => av_fld hTH1235 ga0 hap wH1252 (by decide) (CG_ok 112 (by decide) k hk) (CG_ne 1 (by decide) k hk)) g1237
        have clt_bs := i_cl (x := bs) (by omega)
        have clt_x1206 := i_cl (x := x1206) (by omega)
        have g1255 : TU (avw K H1252 a0) (svw K H1252 a0) := TU.grow hTH1235 ga0 hap wH1252 m1247 m1246 b1242 b1241 (by omega) (by omega)
        have g1256 : WD (avw K H1252 a0) := WD.congr (fun k hk j => av_fld hTH1235 ga0 hap wH1252 (by decide) (WD_ok 112 (by decide) k hk) (WD_ne 1 (by decide) k hk)) g1239
        have g1257 : IM (avw K H1252 a0) := IM.congr (fun k hk j => av_fld hTH1235 ga0 hap wH1252 (by decide) (IM_ok 112 (by decide) k hk) (IM_ne 1 (by decide) k hk)) g1240
        have b1258 : AB H1252 slq (bs.toNatClampNeg + 1) (1) (16) := AB.kept (fun j => Wr.neI wH1252 (Or.inl (G_ne gslq ga0 (by decide)))) b1241
        have b1259 : AB H1252 tbq (2 * x1206.toNatClampNeg + 1 + 1) (1) (9999) := AB.kept (fun j => Wr.neI wH1252 (Or.inl (G_ne gtbq ga0 (by decide)))) b1242
        have f1260 : ∀ j : Nat, j ≠ bs.toNatClampNeg → fI H1252 slq j = fI s.heap slq j := fun j hj => (Wr.neI wH1252 (Or.inl (G_ne gslq ga0 (by decide)))).trans (f1243 j hj)
        have m1262 := m1245.trans (Wr.neI wH1252 (Or.inl (G_ne gslq ga0 (by decide)))).symm
        have m1263 := m1246.trans (Wr.neR wH1252 (Or.inr (x_apart hKT hts inX10 tyX10 tyX10_ok nmX10 rfl 4 1 (by decide) (by decide) (by decide)))).symm
        have m1264 := m1247.trans (Wr.neR wH1252 (Or.inr (x_apart hKT hts inX10 tyX10 tyX10_ok nmX10 rfl 16 1 (by decide) (by decide) (by decide)))).symm
        have m1265 := (Wr.neI wH1252 (Or.inl (G_ne gtbq ga0 (by decide)))).trans m1249
        have m1266 := Wr.I wH1252
        have m1266 := m1266.symm
        refine lv_aload_n hx hb dX10_bar_134 rfl (lv_at hl1204 0 rfl) ?_
        refine x_gi C hTH1252 (ci := 10) (k := 1) rfl inX10 (by decide) wF_X10_170 ga0 rg_112 rfl dX10_bar_135 (fun x1267 ex1267 bx1267 => ?_)
        have ux1267 : x1251 = x1267 := (m1266).trans ex1267.symm
        subst ux1267
        refine lv_iconst (v := 1) hx hb dX10_bar_138 (by decide) ?_
        refine lv_isub hx hb dX10_bar_139 ?_
        refine lv_topi (fun x1268 ex1268 => ?_)
        have tx1268 := i_sub ex1268 (by omega)
        exact x_iret C hQ dX10_bar_140 hSH1252 (by decide) (by decide) (⟨x1268, x1251, x1207, rfl, m1266, m1262, by omega, m1263, m1264, g1254, g1255, g1256, g1257, mf1253, f1260, hTH1252⟩)
      · have k1213 := i_nle c1212
        refine lv_aload_n hx hb dX10_bar_59 rfl (lv_at hl1204 0 rfl) ?_
        refine x_gr C hTH1202 (ci := 10) (k := 5) rfl inX10 (by decide) wF_X10_17 ga0 rg_112 rfl dX10_bar_60 (fun q1269 eq1269 gq1269 => ?_)
        refine lv_iload_n hx hb dX10_bar_63 rfl (lv_at hl1204 1 rfl) ?_
        refine lv_bipush (v := 20) hx hb dX10_bar_64 (by decide) ?_
        refine x_iast C hTH1202 hSH1202 gq1269 rg_114 (by omega) (by show _ < ((160 : Nat) : Int); omega) (by decide) (AE_in gq1269 (by decide)) dX10_bar_66 (fun H1270 locsH1270 hTH1270 hSH1270 wH1270 => ?_)
        have mf1271 : MF K s.heap H1270 a0 [0, 1] := MF.arr wH1270 (G_ne ga0 gq1269 (by decide)) mfy1208
        have g1272 : CG (avw K H1270 a0) := CG.congr (fun k hk j => av_arr hTH1202 ga0 wH1270 gq1269 (by decide) (CG_ok 114 (by decide) k hk)) gy1208_CG
        have g1273 : TU (avw K H1270 a0) (svw K H1270 a0) := TU.congr (fun k hk j => av_arr hTH1202 ga0 wH1270 gq1269 (by decide) (TU_ok 114 (by decide) k hk)) (fun k hk => sv_arr ga0 wH1270 gq1269 (by decide)) gy1208_TU
        have g1274 : WD (avw K H1270 a0) := WD.congr (fun k hk j => av_arr hTH1202 ga0 wH1270 gq1269 (by decide) (WD_ok 114 (by decide) k hk)) gy1208_WD
        have g1275 : IM (avw K H1270 a0) := IM.congr (fun k hk j => av_arr hTH1202 ga0 wH1270 gq1269 (by decide) (IM_ok 114 (by decide) k hk)) gy1208_IM
        have b1276 : AB H1270 slq (bs.toNatClampNeg + 1) (1) (16) := AB.kept (fun j => Wr.neI wH1270 (Or.inl (G_ne gslq gq1269 (by decide)))) by1208_sl
        have f1277 : ∀ j : Nat, j ≠ bs.toNatClampNeg → fI H1270 slq j = fI s.heap slq j := fun j hj => (Wr.neI wH1270 (Or.inl (G_ne gslq gq1269 (by decide)))).trans (fy1208_so j hj)
        have m1278 := ex1206.trans (Wr.neI wH1270 (Or.inl (G_ne ga0 gq1269 (by decide)))).symm
        have m1279 := ex1207.trans (Wr.neI wH1270 (Or.inl (G_ne gslq gq1269 (by decide)))).symm
        have m1280 := cy1208_0.trans (Wr.neR wH1270 (Or.inl (G_ne ga0 gq1269 (by decide)))).symm
        have m1281 := cy1208_1.trans (Wr.neR wH1270 (Or.inl (G_ne ga0 gq1269 (by decide)))).symm
        have m1282 := eq1269.trans (Wr.neR wH1270 (Or.inl (G_ne ga0 gq1269 (by decide)))).symm
        have m1283 := Wr.I wH1270
        refine lv_aload_n hx hb dX10_bar_67 rfl (lv_at hl1204 0 rfl) ?_
        refine x_gr C hTH1270 (ci := 10) (k := 6) rfl inX10 (by decide) wF_X10_20 ga0 rg_112 rfl dX10_bar_68 (fun q1284 eq1284 gq1284 => ?_)
        refine lv_iload_n hx hb dX10_bar_71 rfl (lv_at hl1204 1 rfl) ?_
        refine lv_iconst (v := 5) hx hb dX10_bar_72 (by decide) ?_
        refine x_iast C hTH1270 hSH1270 gq1284 rg_115 (by omega) (by show _ < ((160 : Nat) : Int); omega) (by decide) (AE_in gq1284 (by decide)) dX10_bar_73 (fun H1285 locsH1285 hTH1285 hSH1285 wH1285 => ?_)
        have mf1286 : MF K s.heap H1285 a0 [0, 1] := MF.arr wH1285 (G_ne ga0 gq1284 (by decide)) mf1271
        have g1287 : CG (avw K H1285 a0) := CG.congr (fun k hk j => av_arr hTH1270 ga0 wH1285 gq1284 (by decide) (CG_ok 115 (by decide) k hk)) g1272
        have g1288 : TU (avw K H1285 a0) (svw K H1285 a0) := TU.congr (fun k hk j => av_arr hTH1270 ga0 wH1285 gq1284 (by decide) (TU_ok 115 (by decide) k hk)) (fun k hk => sv_arr ga0 wH1285 gq1284 (by decide)) g1273
        have g1289 : WD (avw K H1285 a0) := WD.congr (fun k hk j => av_arr hTH1270 ga0 wH1285 gq1284 (by decide) (WD_ok 115 (by decide) k hk)) g1274
        have g1290 : IM (avw K H1285 a0) := IM.congr (fun k hk j => av_arr hTH1270 ga0 wH1285 gq1284 (by decide) (IM_ok 115 (by decide) k hk)) g1275
        have b1291 : AB H1285 slq (bs.toNatClampNeg + 1) (1) (16) := AB.kept (fun j => Wr.neI wH1285 (Or.inl (G_ne gslq gq1284 (by decide)))) b1276
        have f1292 : ∀ j : Nat, j ≠ bs.toNatClampNeg → fI H1285 slq j = fI s.heap slq j := fun j hj => (Wr.neI wH1285 (Or.inl (G_ne gslq gq1284 (by decide)))).trans (f1277 j hj)
        have m1293 := m1278.trans (Wr.neI wH1285 (Or.inl (G_ne ga0 gq1284 (by decide)))).symm
        have m1294 := m1279.trans (Wr.neI wH1285 (Or.inl (G_ne gslq gq1284 (by decide)))).symm
        have m1295 := m1280.trans (Wr.neR wH1285 (Or.inl (G_ne ga0 gq1284 (by decide)))).symm
        have m1296 := m1281.trans (Wr.neR wH1285 (Or.inl (G_ne ga0 gq1284 (by decide)))).symm
        have m1297 := m1282.trans (Wr.neR wH1285 (Or.inl (G_ne ga0 gq1284 (by decide)))).symm
        have m1298 := (Wr.neI wH1285 (Or.inl (G_ne gq1269 gq1284 (by decide)))).trans m1283
        have m1299 := eq1284.trans (Wr.neR wH1285 (Or.inl (G_ne ga0 gq1284 (by decide)))).symm
        have m1300 := Wr.I wH1285
        refine lv_aload_n hx hb dX10_bar_74 rfl (lv_at hl1204 0 rfl) ?_
        refine x_gr C hTH1285 (ci := 10) (k := 7) rfl inX10 (by decide) wF_X10_23 ga0 rg_112 rfl dX10_bar_75 (fun q1301 eq1301 gq1301 => ?_)
        refine lv_iload_n hx hb dX10_bar_78 rfl (lv_at hl1204 1 rfl) ?_
        refine lv_iconst (v := 5) hx hb dX10_bar_79 (by decide) ?_
        refine x_iast C hTH1285 hSH1285 gq1301 rg_116 (by omega) (by show _ < ((160 : Nat) : Int); omega) (by decide) (AE_in gq1301 (by decide)) dX10_bar_80 (fun H1302 locsH1302 hTH1302 hSH1302 wH1302 => ?_)
        have mf1303 : MF K s.heap H1302 a0 [0, 1] := MF.arr wH1302 (G_ne ga0 gq1301 (by decide)) mf1286
        have g1304 : CG (avw K H1302 a0) := CG.congr (fun k hk j => av_arr hTH1285 ga0 wH1302 gq1301 (by decide) (CG_ok 116 (by decide) k hk)) g1287
        have g1305 : TU (avw K H1302 a0) (svw K H1302 a0) := TU.congr (fun k hk j => av_arr hTH1285 ga0 wH1302 gq1301 (by decide) (TU_ok 116 (by decide) k hk)) (fun k hk => sv_arr ga0 wH1302 gq1301 (by decide)) g1288
        have g1306 : WD (avw K H1302 a0) := WD.congr (fun k hk j => av_arr hTH1285 ga0 wH1302 gq1301 (by decide) (WD_ok 116 (by decide) k hk)) g1289
        have g1307 : IM (avw K H1302 a0) := IM.congr (fun k hk j => av_arr hTH1285 ga0 wH1302 gq1301 (by decide) (IM_ok 116 (by decide) k hk)) g1290
        have b1308 : AB H1302 slq (bs.toNatClampNeg + 1) (1) (16) := AB.kept (fun j => Wr.neI wH1302 (Or.inl (G_ne gslq gq1301 (by decide)))) b1291
        have f1309 : ∀ j : Nat, j ≠ bs.toNatClampNeg → fI H1302 slq j = fI s.heap slq j := fun j hj => (Wr.neI wH1302 (Or.inl (G_ne gslq gq1301 (by decide)))).trans (f1292 j hj)
        have m1310 := m1293.trans (Wr.neI wH1302 (Or.inl (G_ne ga0 gq1301 (by decide)))).symm
        have m1311 := m1294.trans (Wr.neI wH1302 (Or.inl (G_ne gslq gq1301 (by decide)))).symm
        have m1312 := m1295.trans (Wr.neR wH1302 (Or.inl (G_ne ga0 gq1301 (by decide)))).symm
        have m1313 := m1296.trans (Wr.neR wH1302 (Or.inl (G_ne ga0 gq1301 (by decide)))).symm
        have m1314 := m1297.trans (Wr.neR wH1302 (Or.inl (G_ne ga0 gq1301 (by decide)))).symm
        have m1315 := (Wr.neI wH1302 (Or.inl (G_ne gq1269 gq1301 (by decide)))).trans m1298
        have m1316 := m1299.trans (Wr.neR wH1302 (Or.inl (G_ne ga0 gq1301 (by decide)))).symm
        have m1317 := (Wr.neI wH1302 (Or.inl (G_ne gq1284 gq1301 (by decide)))).trans m1300
        have m1318 := eq1301.trans (Wr.neR wH1302 (Or.inl (G_ne ga0 gq1301 (by decide)))).symm
        have m1319 := Wr.I wH1302
        refine lv_aload_n hx hb dX10_bar_81 rfl (lv_at hl1204 0 rfl) ?_
        refine x_gr C hTH1302 (ci := 10) (k := 8) rfl inX10 (by decide) wF_X10_26 ga0 rg_112 rfl dX10_bar_82 (fun q1320 eq1320 gq1320 => ?_)
        refine lv_iload_n hx hb dX10_bar_85 rfl (lv_at hl1204 1 rfl) ?_
        refine lv_iconst (v := 0) hx hb dX10_bar_86 (by decide) ?_
        refine x_iast C hTH1302 hSH1302 gq1320 rg_117 (by omega) (by show _ < ((160 : Nat) : Int); omega) (by decide) (AE_in gq1320 (by decide)) dX10_bar_87 (fun H1321 locsH1321 hTH1321 hSH1321 wH1321 => ?_)
        have mf1322 : MF K s.heap H1321 a0 [0, 1] := MF.arr wH1321 (G_ne ga0 gq1320 (by decide)) mf1303
        have g1323 : CG (avw K H1321 a0) := CG.congr (fun k hk j => av_arr hTH1302 ga0 wH1321 gq1320 (by decide) (CG_ok 117 (by decide) k hk)) g1304
        have g1324 : TU (avw K H1321 a0) (svw K H1321 a0) := TU.congr (fun k hk j => av_arr hTH1302 ga0 wH1321 gq1320 (by decide) (TU_ok 117 (by decide) k hk)) (fun k hk => sv_arr ga0 wH1321 gq1320 (by decide)) g1305
        have g1325 : WD (avw K H1321 a0) := WD.congr (fun k hk j => av_arr hTH1302 ga0 wH1321 gq1320 (by decide) (WD_ok 117 (by decide) k hk)) g1306
        have g1326 : IM (avw K H1321 a0) := IM.congr (fun k hk j => av_arr hTH1302 ga0 wH1321 gq1320 (by decide) (IM_ok 117 (by decide) k hk)) g1307
        have b1327 : AB H1321 slq (bs.toNatClampNeg + 1) (1) (16) := AB.kept (fun j => Wr.neI wH1321 (Or.inl (G_ne gslq gq1320 (by decide)))) b1308
        have f1328 : ∀ j : Nat, j ≠ bs.toNatClampNeg → fI H1321 slq j = fI s.heap slq j := fun j hj => (Wr.neI wH1321 (Or.inl (G_ne gslq gq1320 (by decide)))).trans (f1309 j hj)
        have m1329 := m1310.trans (Wr.neI wH1321 (Or.inl (G_ne ga0 gq1320 (by decide)))).symm
        have m1330 := m1311.trans (Wr.neI wH1321 (Or.inl (G_ne gslq gq1320 (by decide)))).symm
        have m1331 := m1312.trans (Wr.neR wH1321 (Or.inl (G_ne ga0 gq1320 (by decide)))).symm
        have m1332 := m1313.trans (Wr.neR wH1321 (Or.inl (G_ne ga0 gq1320 (by decide)))).symm
        have m1333 := m1314.trans (Wr.neR wH1321 (Or.inl (G_ne ga0 gq1320 (by decide)))).symm
        have m1334 := (Wr.neI wH1321 (Or.inl (G_ne gq1269 gq1320 (by decide)))).trans m1315
        have m1335 := m1316.trans (Wr.neR wH1321 (Or.inl (G_ne ga0 gq1320 (by decide)))).symm
        have m1336 := (Wr.neI wH1321 (Or.inl (G_ne gq1284 gq1320 (by decide)))).trans m1317
        have m1337 := m1318.trans (Wr.neR wH1321 (Or.inl (G_ne ga0 gq1320 (by decide)))).symm
        have m1338 := (Wr.neI wH1321 (Or.inl (G_ne gq1301 gq1320 (by decide)))).trans m1319
        have m1339 := eq1320.trans (Wr.neR wH1321 (Or.inl (G_ne ga0 gq1320 (by decide)))).symm
        have m1340 := Wr.I wH1321
        obtain ⟨x1341, ex1341⟩ : ∃ y : Int32, y = x1205 + 1 := ⟨_, rfl⟩
        have tx1341 := i_add ex1341 (by omega)
        refine lv_iinc (v := x1341) (lv' := [(2, .int x1341), (0, .ref a0)]) hx hb dX10_bar_88 hl1204 (k := 1) rfl (by rw [ex1341]; rfl) (by decide) rfl (fun ls1342 hl1343 => ?_)
        refine lv_goto (tgt := 45) hx hb dX10_bar_91 (by decide) ?_
        have cl_bs := i_cl (x := bs) (by omega)
        exact ih45 ls1342 H1321 locsH1321 (x1341) (x1206) (x1207) (lv_sub hl1343 [1, 0] rfl) hTH1321 hSH1321 (by have := i_rng x1341; omega) (by have := i_rng x1206; omega) (by have := i_rng x1207; omega) m1329 m1330 m1331 m1332 (AB.weak b1327 (by omega) (by omega) (by omega)) mf1322 g1323 g1324 g1325 g1326 f1328 (by omega) (by omega)
  refine lv_aload_n hx hb dX10_bar_0 rfl (lv_at hl 0 rfl) ?_
  refine lv_iconst (v := 0) hx hb dX10_bar_1 (by decide) ?_
  refine x_put C hT hS (ci := 10) (k := 0) (v := .int 0) (ty0 := tyX10) rfl inX10 tyX10_ok nmX10 (by decide) rfl wF_X10_167 ga0 rg_112 rfl rfl (okI (by have := i_rng (0 : Int32); omega) (by have := i_rng (0 : Int32); omega)) rfl rfl (AE_in ga0 (by decide)) dX10_bar_2 (fun H1344 locsH1344 hTH1344 hSH1344 wH1344 => ?_)
  have mf1345 : MF K s.heap H1344 a0 [0, 1] := MF.fld hap wH1344 (by decide) (by decide) mf0
  have g1346 : CG (avw K H1344 a0) := CG.congr (fun k hk j => av_fld hT ga0 hap wH1344 (by decide) (CG_ok 112 (by decide) k hk) (CG_ne 0 (by decide) k hk)) hg_CG
  have g1347 : TU (avw K H1344 a0) (svw K H1344 a0) := TU.congr (fun k hk j => av_fld hT ga0 hap wH1344 (by decide) (TU_ok 112 (by decide) k hk) (TU_ne 0 (by decide) k hk)) (fun k hk => sv_fld hap wH1344 (by decide) (TU_slt k hk) (TU_sne 0 (by decide) k hk)) hg_TU
  have g1348 : WD (avw K H1344 a0) := WD.congr (fun k hk j => av_fld hT ga0 hap wH1344 (by decide) (WD_ok 112 (by decide) k hk) (WD_ne 0 (by decide) k hk)) hg_WD
  have g1349 : IM (avw K H1344 a0) := IM.congr (fun k hk j => av_fld hT ga0 hap wH1344 (by decide) (IM_ok 112 (by decide) k hk) (IM_ne 0 (by decide) k hk)) hg_IM
  have f1350 : ∀ j : Nat, j ≠ bs.toNatClampNeg → fI H1344 slq j = fI s.heap slq j := fun j hj => (Wr.neI wH1344 (Or.inl (G_ne gslq ga0 (by decide)))).trans (f0_so j hj)
  have m1351 := eslq.trans (Wr.neR wH1344 (Or.inr (x_apart hKT hts inX10 tyX10 tyX10_ok nmX10 rfl 4 0 (by decide) (by decide) (by decide)))).symm
  have m1352 := etbq.trans (Wr.neR wH1344 (Or.inr (x_apart hKT hts inX10 tyX10 tyX10_ok nmX10 rfl 16 0 (by decide) (by decide) (by decide)))).symm
  have m1353 := ebs.trans (Wr.neI wH1344 (Or.inr (x_apart hKT hts inX10 tyX10 tyX10_ok nmX10 rfl 1 0 (by decide) (by decide) (by decide)))).symm
  have m1354 := ezb.trans (Wr.neI wH1344 (Or.inl (G_ne gslq ga0 (by decide)))).symm
  have m1355 := Wr.I wH1344
  refine lv_aload_n hx hb dX10_bar_5 rfl (lv_at hl 0 rfl) ?_
  refine lv_iload_n hx hb dX10_bar_6 rfl (lv_at hl 1 rfl) ?_
  refine lv_iconst (v := 3) hx hb dX10_bar_7 (by decide) ?_
  refine lv_bipush (v := 16) hx hb dX10_bar_8 (by decide) ?_
  refine x_V (As := [.int x1, .int 3, .int 16]) (rest := []) C (c_X10_isIn l K G H1344 (x1) (3) (16) hTH1344 ga0) yo_X10_isIn wM_X10_177 ⟨⟨by decide, by decide⟩, by decide, by decide⟩ (x_rv C hTH1344 (ci := 10) rfl ga0 rg_112) rfl hl.1 rfl (Nat.le_of_ble_eq_true rfl) dX10_bar_10 hSH1344 (AE_sub (fun _ _ => rfl) (by decide) hSH1344.1) (fun vH1356 H1356 locsH1356 pH1356 zH1356 kH1356 hSH1356 => ?_)
  have hqH1356 := pH1356.1.symm
  subst hqH1356
  rcases pH1356.2 with ⟨hvH1356, hcH1356⟩ | ⟨hvH1356, hcH1356⟩
  · subst hvH1356
    refine W.eq (g2 := F0 m 13 ls [.int 1]) rfl ?_
    refine lv_if_eq (tgt := 25) hx hb dX10_bar_13 (by decide) (fun c1357 => ?_) (fun c1357 => ?_)
    · have k1358 := i_eq c1357
      exfalso
      omega
    · have k1358 := i_ne c1357
      refine lv_aload_n hx hb dX10_bar_16 rfl (lv_at hl 0 rfl) ?_
      refine x_gi C hTH1344 (ci := 10) (k := 1) rfl inX10 (by decide) wF_X10_170 ga0 rg_112 rfl dX10_bar_17 (fun x1359 ex1359 bx1359 => ?_)
      have ux1359 : bs = x1359 := (m1353).trans ex1359.symm
      subst ux1359
      refine lv_bipush (v := 10) hx hb dX10_bar_20 (by decide) ?_
      refine lv_icmp_ne (tgt := 27) hx hb dX10_bar_22 (by decide) (fun c1360 => ?_) (fun c1360 => ?_)
      · have k1361 := i_ne c1360
        have cbsl := i_cl (x := bs) (by omega)
        have asl : AB H1344 slq (bs.toNatClampNeg) 1 16 := TU.abS g1347 m1351 m1353 (by omega) (fun j hj => (by obtain ⟨c, -, -, -, -, -, -, h⟩ := hTH1344.aint gslq rg_113 (j := j) (by omega); exact h))
        refine lv_aload_n hx hb dX10_bar_27 rfl (lv_at hl 0 rfl) ?_
        refine x_gr C hTH1344 (ci := 10) (k := 4) rfl inX10 (by decide) wF_X10_13 ga0 rg_112 rfl dX10_bar_28 (fun q1362 eq1362 gq1362 => ?_)
        have uq1362 : slq = q1362 := (m1351).trans eq1362.symm
        subst uq1362
        refine lv_aload_n hx hb dX10_bar_31 rfl (lv_at hl 0 rfl) ?_
        refine x_gi C hTH1344 (ci := 10) (k := 1) rfl inX10 (by decide) wF_X10_170 ga0 rg_112 rfl dX10_bar_32 (fun x1363 ex1363 bx1363 => ?_)
        have ux1363 : bs = x1363 := (m1353).trans ex1363.symm
        subst ux1363
        refine lv_iload_n hx hb dX10_bar_35 rfl (lv_at hl 1 rfl) ?_
        refine x_iast C hTH1344 hSH1356 gslq rg_113 (by omega) (by show _ < ((10 : Nat) : Int); omega) ⟨by have := i_rng x1; omega, by have := i_rng x1; omega⟩ (AE_in gslq (by decide)) dX10_bar_36 (fun H1364 locsH1364 hTH1364 hSH1364 wH1364 => ?_)
        have mf1365 : MF K s.heap H1364 a0 [0, 1] := MF.arr wH1364 (G_ne ga0 gslq (by decide)) mf1345
        have g1366 : CG (avw K H1364 a0) := CG.congr (fun k hk j => av_arr hTH1344 ga0 wH1364 gslq (by decide) (CG_ok 113 (by decide) k hk)) g1346
        have g1367 : TU (avw K H1364 a0) (svw K H1364 a0) := TU.putS hTH1344 ga0 wH1364 gslq m1351 (by omega) g1347
        have g1368 : WD (avw K H1364 a0) := WD.congr (fun k hk j => av_arr hTH1344 ga0 wH1364 gslq (by decide) (WD_ok 113 (by decide) k hk)) g1348
        have g1369 : IM (avw K H1364 a0) := IM.congr (fun k hk j => av_arr hTH1344 ga0 wH1364 gslq (by decide) (IM_ok 113 (by decide) k hk)) g1349
        have cjH1364 := i_cl (x := bs) (by omega)
        have b1370 : AB H1364 slq (bs.toNatClampNeg + 1) (1) (16) := (AB.ext wH1364 (by omega) asl (by omega) rfl)
        have f1371 : ∀ j : Nat, j ≠ bs.toNatClampNeg → fI H1364 slq j = fI s.heap slq j := fun j hj => (Wr.neI wH1364 (Or.inr hj)).trans (f1350 j hj)
        have m1372 := m1351.trans (Wr.neR wH1364 (Or.inl (G_ne ga0 gslq (by decide)))).symm
        have m1373 := m1352.trans (Wr.neR wH1364 (Or.inl (G_ne ga0 gslq (by decide)))).symm
        have m1374 := m1353.trans (Wr.neI wH1364 (Or.inl (G_ne ga0 gslq (by decide)))).symm
        have m1376 := (Wr.neI wH1364 (Or.inl (G_ne ga0 gslq (by decide)))).trans m1355
        have m1377 := Wr.I wH1364
        have m1377 := m1377.symm
        refine lv_bipush (v := 16) hx hb dX10_bar_37 (by decide) ?_
        refine lv_aload_n hx hb dX10_bar_39 rfl (lv_at hl 0 rfl) ?_
        refine x_gi C hTH1364 (ci := 10) (k := 1) rfl inX10 (by decide) wF_X10_170 ga0 rg_112 rfl dX10_bar_40 (fun x1378 ex1378 bx1378 => ?_)
        have ux1378 : bs = x1378 := (m1374).trans ex1378.symm
        subst ux1378
        refine lv_imul hx hb dX10_bar_43 ?_
        refine lv_topi (fun x1379 ex1379 => ?_)
        have tx1379 := i_mul ex1379 (by rw [n_16]; omega)
        rw [n_16] at tx1379
        refine lv_istore_n (lv' := [(2, .int x1379), (0, .ref a0), (1, .int x1)]) hx hb dX10_bar_44 rfl hl (by decide) rfl (fun ls1380 hl1381 => ?_)
        have cl_bs := i_cl (x := bs) (by omega)
        exact J45 ((160 - x1379.toInt).toNat + 1) ls1380 H1364 locsH1364 (x1379) (bs) (x1) (lv_sub hl1381 [1, 0] rfl) hTH1364 hSH1364 (by have := i_rng x1379; omega) (by have := i_rng bs; omega) (by have := i_rng x1; omega) m1374 m1377 m1372 m1373 (AB.weak b1370 (by omega) (by omega) (by omega)) mf1365 g1366 g1367 g1368 g1369 f1371 (by omega) (by omega)
      · have k1361 := i_eq c1360
        refine lv_iconst (v := (-1)) hx hb dX10_bar_25 (by decide) ?_
        exact x_iret C hQ dX10_bar_26 hSH1356 (by decide) (by decide) (⟨(-1), bs, zb, rfl, m1353, m1354, by omega, m1351, m1352, g1346, g1347, g1348, g1349, mf1345, f1350, hTH1344⟩)
  · subst hvH1356
    refine W.eq (g2 := F0 m 13 ls [.int 0]) rfl ?_
    refine lv_if_eq (tgt := 25) hx hb dX10_bar_13 (by decide) (fun c1382 => ?_) (fun c1382 => ?_)
    · have k1383 := i_eq c1382
      refine lv_iconst (v := (-1)) hx hb dX10_bar_25 (by decide) ?_
      exact x_iret C hQ dX10_bar_26 hSH1356 (by decide) (by decide) (⟨(-1), bs, zb, rfl, m1353, m1354, by omega, m1351, m1352, g1346, g1347, g1348, g1349, mf1345, f1350, hTH1344⟩)
    · have k1383 := i_ne c1382
      exfalso
      omega
