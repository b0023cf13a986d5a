set_option maxHeartbeats 4000000 in
set_option maxRecDepth 100000 in
theorem a_X10_isBar_r (l : Launch) (K : KE) (G : Nat → Option Nat) (H : Heap) {a0 : Nat} (x1 : Int32) (bs : Int32) (hT : TY K G H) (ga0 : G a0 = some 112) (ebs : bs = fI H a0 (K.1.2 10 1)) : MX l K yX10_isBar cX10_isBar 2 (some .boolean) 0 0 0 0 [.ref a0, .int x1] H (AE G [] H.size) (fun v H1 => ∃ (r : Int32), v = some (.int r) ∧ (0 ≤ r.toInt ∧ r.toInt ≤ 1) ∧ ((r.toInt = 1 ∧ 0 ≤ x1.toInt ∧ x1.toInt < bs.toInt) ∨ (r.toInt = 0 ∧ (x1.toInt < 0 ∨ bs.toInt ≤ x1.toInt))) ∧ TY K G H1) := by
  refine MX.of (by decide +kernel) (Nat.le_of_ble_eq_true rfl) ?_
  intro p e s m below meth c ls Q C hH hl hQ
  subst hH
  have C : CX p K s m _ meth c RX10 cX10_isBar 2 (some .boolean) "isBar" := C
  obtain ⟨hx, hb, hml, hown, hts, hKT, hr, hlocks, hnm⟩ := id C
  have hl : lv_has ls 2 [(0, .ref a0), (1, .int x1)] := hl
  have hS : va_S (AE G [] s.heap.size) s.heap s.heap [] := va_S.rf
  have n_0 : (0 : Int32).toInt = 0 := rfl
  have n_1 : (1 : Int32).toInt = 1 := rfl
  have bbs := ty_fi (x := bs) (k := 1) ebs hT ga0 rg_112 rfl
  have hap : ∀ x y, x < 74 → y < 74 → x ≠ y → K.1.2 10 x ≠ K.1.2 10 y := x_apart hKT hts inX10 tyX10 tyX10_ok nmX10 rfl
  refine lv_iload_n hx hb dX10_isBar_0 rfl (lv_at hl 1 rfl) ?_
  refine lv_if_lt (tgt := 16) hx hb dX10_isBar_1 (by decide) (fun c121 => ?_) (fun c121 => ?_)
  · have k122 := i_lt c121
    refine lv_iconst (v := 0) hx hb dX10_isBar_16 (by decide) ?_
    exact x_zret C hQ (Or.inl rfl) dX10_isBar_17 hS (by decide) (by decide) (⟨0, rfl, by decide, by omega, hT⟩)
  · have k122 := i_nlt c121
    refine lv_iload_n hx hb dX10_isBar_4 rfl (lv_at hl 1 rfl) ?_
    refine lv_aload_n hx hb dX10_isBar_5 rfl (lv_at hl 0 rfl) ?_
    refine x_gi C hT (ci := 10) (k := 1) rfl inX10 (by decide) wF_X10_170 ga0 rg_112 rfl dX10_isBar_6 (fun x123 ex123 bx123 => ?_)
    have ux123 : bs = x123 := (ebs).trans ex123.symm
    subst ux123
    refine lv_icmp_ge (tgt := 16) hx hb dX10_isBar_9 (by decide) (fun c124 => ?_) (fun c124 => ?_)
    · have k125 := i_le c124
      refine lv_iconst (v := 0) hx hb dX10_isBar_16 (by decide) ?_
      exact x_zret C hQ (Or.inl rfl) dX10_isBar_17 hS (by decide) (by decide) (⟨0, rfl, by decide, by omega, hT⟩)
    · have k125 := i_nle c124
      refine lv_iconst (v := 1) hx hb dX10_isBar_12 (by decide) ?_
      refine lv_goto (tgt := 17) hx hb dX10_isBar_13 (by decide) ?_
      exact x_zret C hQ (Or.inr rfl) dX10_isBar_17 hS (by decide) (by decide) (⟨1, rfl, by decide, by omega, hT⟩)

set_option maxHeartbeats 4000000 in
set_option maxRecDepth 100000 in
theorem a_X10_tube_r (l : Launch) (K : KE) (G : Nat → Option Nat) (H : Heap) {a0 : Nat} (x1 : Int32) (x2 : Int32) (x3 : Int32) (bs : Int32) (hT : TY K G H) (ga0 : G a0 = some 112) (ebs : bs = fI H a0 (K.1.2 10 1)) (hg_CG : CG (avw K H a0)) (hg_TU : TU (avw K H a0) (svw K H a0)) (hg_WD : WD (avw K H a0)) (hg_IM : IM (avw K H a0)) : MX l K yX10_tube cX10_tube 4 (some .boolean) 1 23 0 0 [.ref a0, .int x1, .int x2, .int x3] H (AE G [112, 125] H.size) (fun v H1 => ∃ (r : Int32), v = some (.int r) ∧ (0 ≤ r.toInt ∧ r.toInt ≤ 1) ∧ ((0 ≤ x1.toInt ∧ x1.toInt < bs.toInt ∧ 0 ≤ x2.toInt ∧ x2.toInt ≤ 1 ∧ 1 ≤ x3.toInt ∧ x3.toInt ≤ 9999 ∧ r.toInt = 1) ∨ ((x1.toInt < 0 ∨ bs.toInt ≤ x1.toInt ∨ x2.toInt < 0 ∨ 1 < x2.toInt ∨ x3.toInt < 1 ∨ 9999 < x3.toInt) ∧ r.toInt = 0)) ∧ (CG (avw K H1 a0)) ∧ (TU (avw K H1 a0) (svw K H1 a0)) ∧ (WD (avw K H1 a0)) ∧ (IM (avw K H1 a0)) ∧ MF K H H1 a0 [0] ∧ TY K G H1) := by
  refine MX.of (by decide +kernel) (Nat.le_of_ble_eq_true rfl) ?_
  intro p e s m below meth c ls Q C hH hl hQ
  subst hH
  have C : CX p K s m _ meth c RX10 cX10_tube 4 (some .boolean) "tube" := C
  obtain ⟨hx, hb, hml, hown, hts, hKT, hr, hlocks, hnm⟩ := id C
  have hl : lv_has ls 4 [(0, .ref a0), (1, .int x1), (2, .int x2), (3, .int x3)] := hl
  have hS : va_S (AE G [112, 125] s.heap.size) s.heap s.heap [] := va_S.rf
  have n_0 : (0 : Int32).toInt = 0 := rfl
  have n_1 : (1 : Int32).toInt = 1 := rfl
  have n_2 : (2 : Int32).toInt = 2 := rfl
  have n_9999 : (9999 : Int32).toInt = 9999 := rfl
  have bbs := ty_fi (x := bs) (k := 1) ebs hT ga0 rg_112 rfl
  have hap : ∀ x y, x < 74 → y < 74 → x ≠ y → K.1.2 10 x ≠ K.1.2 10 y := x_apart hKT hts inX10 tyX10 tyX10_ok nmX10 rfl
  have mf0 : MF K s.heap s.heap a0 [0] := fun _ _ _ => rfl
  refine lv_aload_n hx hb dX10_tube_0 rfl (lv_at hl 0 rfl) ?_
  refine lv_iconst (v := 0) hx hb dX10_tube_1 (by decide) ?_
  refine x_put C hT hS (ci := 10) (k := 0) (v := .int 0) (ty0 := tyX10) rfl inX10 tyX10_ok nmX10 (by decide) rfl wF_X10_167 ga0 rg_112 rfl rfl (okI (by have := i_rng (0 : Int32); omega) (by have := i_rng (0 : Int32); omega)) rfl rfl (AE_in ga0 (by decide)) dX10_tube_2 (fun H269 locsH269 hTH269 hSH269 wH269 => ?_)
  have mf270 : MF K s.heap H269 a0 [0] := MF.fld hap wH269 (by decide) (by decide) mf0
  have g271 : CG (avw K H269 a0) := CG.congr (fun k hk j => av_fld hT ga0 hap wH269 (by decide) (CG_ok 112 (by decide) k hk) (CG_ne 0 (by decide) k hk)) hg_CG
  have g272 : TU (avw K H269 a0) (svw K H269 a0) := TU.congr (fun k hk j => av_fld hT ga0 hap wH269 (by decide) (TU_ok 112 (by decide) k hk) (TU_ne 0 (by decide) k hk)) (fun k hk => sv_fld hap wH269 (by decide) (TU_slt k hk) (TU_sne 0 (by decide) k hk)) hg_TU
  have g273 : WD (avw K H269 a0) := WD.congr (fun k hk j => av_fld hT ga0 hap wH269 (by decide) (WD_ok 112 (by decide) k hk) (WD_ne 0 (by decide) k hk)) hg_WD
  have g274 : IM (avw K H269 a0) := IM.congr (fun k hk j => av_fld hT ga0 hap wH269 (by decide) (IM_ok 112 (by decide) k hk) (IM_ne 0 (by decide) k hk)) hg_IM
  have m275 := ebs.trans (Wr.neI wH269 (Or.inr (x_apart hKT hts inX10 tyX10 tyX10_ok nmX10 rfl 1 0 (by decide) (by decide) (by decide)))).symm
  have m276 := Wr.I wH269
  refine lv_aload_n hx hb dX10_tube_5 rfl (lv_at hl 0 rfl) ?_
  refine lv_iload_n hx hb dX10_tube_6 rfl (lv_at hl 1 rfl) ?_
  refine x_V (As := [.int x1]) (rest := []) C (a_X10_isBar_r l K G H269 (x1) (bs) hTH269 ga0 m275) yo_X10_isBar wM_X10_173 ⟨⟨by decide, by decide⟩, by decide, by decide⟩ (x_rv C hTH269 (ci := 10) rfl ga0 rg_112) rfl hl.1 rfl (Nat.le_of_ble_eq_true rfl) dX10_tube_7 hSH269 (AE_sub (fun _ _ => rfl) (by decide) hSH269.1) (fun vH277 H277 locsH277 pH277 zH277 kH277 hSH277 => ?_)
  obtain ⟨x278, hvH277, bx278, hrH277, hTH277⟩ := pH277
  subst hvH277
  have mf279 : MF K s.heap H277 a0 [0] := MF.eff (x_lt hTH269 kH277 ga0 (by decide)) mf270
  have g280 : CG (avw K H277 a0) := CG.congr (fun k hk j => av_eff hTH269 kH277 ga0 (by decide) (CG_eff [] (by decide) k hk)) g271
  have g281 : TU (avw K H277 a0) (svw K H277 a0) := TU.congr (fun k hk j => av_eff hTH269 kH277 ga0 (by decide) (TU_eff [] (by decide) k hk)) (fun k hk => sv_eff hTH269 kH277 ga0 (by decide)) g272
  have g282 : WD (avw K H277 a0) := WD.congr (fun k hk j => av_eff hTH269 kH277 ga0 (by decide) (WD_eff [] (by decide) k hk)) g273
  have g283 : IM (avw K H277 a0) := IM.congr (fun k hk j => av_eff hTH269 kH277 ga0 (by decide) (IM_eff [] (by decide) k hk)) g274
  have m284 := (m275).trans (fI_kept (x_lt hTH269 kH277 ga0 (by decide))).symm
  have m285 := (fI_kept (x_lt hTH269 kH277 ga0 (by decide))).trans m276
  refine W.eq (g2 := F0 m 10 ls [.int x278]) rfl ?_
  refine lv_if_eq (tgt := 35) hx hb dX10_tube_10 (by decide) (fun c286 => ?_) (fun c286 => ?_)
  · have k287 := i_eq c286
    refine lv_iconst (v := 0) hx hb dX10_tube_35 (by decide) ?_
    exact x_zret C hQ (Or.inl rfl) dX10_tube_36 hSH277 (by decide) (by decide) (⟨0, rfl, by decide, by omega, g280, g281, g282, g283, mf279, hTH277⟩)
  · have k287 := i_ne c286
    refine lv_aload_n hx hb dX10_tube_13 rfl (lv_at hl 0 rfl) ?_
    refine lv_iload_n hx hb dX10_tube_14 rfl (lv_at hl 2 rfl) ?_
    refine lv_iconst (v := 0) hx hb dX10_tube_15 (by decide) ?_
    refine lv_iconst (v := 1) hx hb dX10_tube_16 (by decide) ?_
    refine x_V (As := [.int x2, .int 0, .int 1]) (rest := []) C (c_X10_isIn l K G H277 (x2) (0) (1) hTH277 ga0) yo_X10_isIn wM_X10_177 ⟨⟨by decide, by decide⟩, by decide, by decide⟩ (x_rv C hTH277 (ci := 10) rfl ga0 rg_112) rfl hl.1 rfl (Nat.le_of_ble_eq_true rfl) dX10_tube_17 hSH277 (AE_sub (fun _ _ => rfl) (by decide) hSH277.1) (fun vH288 H288 locsH288 pH288 zH288 kH288 hSH288 => ?_)
    have hqH288 := pH288.1.symm
    subst hqH288
    rcases pH288.2 with ⟨hvH288, hcH288⟩ | ⟨hvH288, hcH288⟩
    · subst hvH288
      refine W.eq (g2 := F0 m 20 ls [.int 1]) rfl ?_
      refine lv_if_eq (tgt := 35) hx hb dX10_tube_20 (by decide) (fun c289 => ?_) (fun c289 => ?_)
      · have k290 := i_eq c289
        exfalso
        omega
      · have k290 := i_ne c289
        refine lv_aload_n hx hb dX10_tube_23 rfl (lv_at hl 0 rfl) ?_
        refine lv_iload_n hx hb dX10_tube_24 rfl (lv_at hl 3 rfl) ?_
        refine lv_iconst (v := 1) hx hb dX10_tube_25 (by decide) ?_
        refine lv_sipush (v := 9999) hx hb dX10_tube_26 (by decide) ?_
        refine x_V (As := [.int x3, .int 1, .int 9999]) (rest := []) C (c_X10_isIn l K G H277 (x3) (1) (9999) hTH277 ga0) yo_X10_isIn wM_X10_177 ⟨⟨by decide, by decide⟩, by decide, by decide⟩ (x_rv C hTH277 (ci := 10) rfl ga0 rg_112) rfl hl.1 rfl (Nat.le_of_ble_eq_true rfl) dX10_tube_29 hSH288 (AE_sub (fun _ _ => rfl) (by decide) hSH288.1) (fun vH291 H291 locsH291 pH291 zH291 kH291 hSH291 => ?_)
        have hqH291 := pH291.1.symm
        subst hqH291
        rcases pH291.2 with ⟨hvH291, hcH291⟩ | ⟨hvH291, hcH291⟩
        · subst hvH291
          refine W.eq (g2 := F0 m 32 ls [.int 1]) rfl ?_
          refine lv_if_ne (tgt := 37) hx hb dX10_tube_32 (by decide) (fun c292 => ?_) (fun c292 => ?_)
          · have k293 := i_ne c292
            refine lv_aload_n hx hb dX10_tube_37 rfl (lv_at hl 0 rfl) ?_
            refine x_gr C hTH277 (ci := 10) (k := 16) rfl inX10 (by decide) wF_X10_50 ga0 rg_112 rfl dX10_tube_38 (fun q294 eq294 gq294 => ?_)
            refine lv_iconst (v := 2) hx hb dX10_tube_41 (by decide) ?_
            refine lv_iload_n hx hb dX10_tube_42 rfl (lv_at hl 1 rfl) ?_
            refine lv_imul hx hb dX10_tube_43 ?_
            refine lv_topi (fun x295 ex295 => ?_)
            have tx295 := i_mul ex295 (by rw [n_2]; omega)
            rw [n_2] at tx295
            refine lv_iload_n hx hb dX10_tube_44 rfl (lv_at hl 2 rfl) ?_
            refine lv_iadd hx hb dX10_tube_45 ?_
            refine lv_topi (fun x296 ex296 => ?_)
            have tx296 := i_add ex296 (by omega)
            refine lv_iload_n hx hb dX10_tube_46 rfl (lv_at hl 3 rfl) ?_
            refine x_iast C hTH277 hSH291 gq294 rg_125 (by omega) (by show _ < ((20 : Nat) : Int); omega) ⟨by have := i_rng x3; omega, by have := i_rng x3; omega⟩ (AE_in gq294 (by decide)) dX10_tube_47 (fun H297 locsH297 hTH297 hSH297 wH297 => ?_)
            have mf298 : MF K s.heap H297 a0 [0] := MF.arr wH297 (G_ne ga0 gq294 (by decide)) mf279
            have g299 : CG (avw K H297 a0) := CG.congr (fun k hk j => av_arr hTH277 ga0 wH297 gq294 (by decide) (CG_ok 125 (by decide) k hk)) g280
            have g300 : TU (avw K H297 a0) (svw K H297 a0) := TU.putT hTH277 ga0 wH297 gq294 eq294 (by omega) g281
            have g301 : WD (avw K H297 a0) := WD.congr (fun k hk j => av_arr hTH277 ga0 wH297 gq294 (by decide) (WD_ok 125 (by decide) k hk)) g282
            have g302 : IM (avw K H297 a0) := IM.congr (fun k hk j => av_arr hTH277 ga0 wH297 gq294 (by decide) (IM_ok 125 (by decide) k hk)) g283
            have m303 := m284.trans (Wr.neI wH297 (Or.inl (G_ne ga0 gq294 (by decide)))).symm
            have m304 := (Wr.neI wH297 (Or.inl (G_ne ga0 gq294 (by decide)))).trans m285
            have m305 := eq294.trans (Wr.neR wH297 (Or.inl (G_ne ga0 gq294 (by decide)))).symm
            have m306 := Wr.I wH297
            have m306 := m306.symm
            refine lv_iconst (v := 1) hx hb dX10_tube_48 (by decide) ?_
            exact x_zret C hQ (Or.inr rfl) dX10_tube_49 hSH297 (by decide) (by decide) (⟨1, rfl, by decide, by omega, g299, g300, g301, g302, mf298, hTH297⟩)
          · have k293 := i_eq c292
            exfalso
            omega
        · subst hvH291
          refine W.eq (g2 := F0 m 32 ls [.int 0]) rfl ?_
          refine lv_if_ne (tgt := 37) hx hb dX10_tube_32 (by decide) (fun c307 => ?_) (fun c307 => ?_)
          · have k308 := i_ne c307
            exfalso
            omega
          · have k308 := i_eq c307
            refine lv_iconst (v := 0) hx hb dX10_tube_35 (by decide) ?_
            exact x_zret C hQ (Or.inl rfl) dX10_tube_36 hSH291 (by decide) (by decide) (⟨0, rfl, by decide, by omega, g280, g281, g282, g283, mf279, hTH277⟩)
    · subst hvH288
      refine W.eq (g2 := F0 m 20 ls [.int 0]) rfl ?_
      refine lv_if_eq (tgt := 35) hx hb dX10_tube_20 (by decide) (fun c309 => ?_) (fun c309 => ?_)
      · have k310 := i_eq c309
        refine lv_iconst (v := 0) hx hb dX10_tube_35 (by decide) ?_
        exact x_zret C hQ (Or.inl rfl) dX10_tube_36 hSH288 (by decide) (by decide) (⟨0, rfl, by decide, by omega, g280, g281, g282, g283, mf279, hTH277⟩)
      · have k310 := i_ne c309
        exfalso
        omega

set_option maxHeartbeats 4000000 in
set_option maxRecDepth 100000 in
theorem a_X9_barAt_r (l : Launch) (K : KE) (G : Nat → Option Nat) (H : Heap) {a0 wq : Nat} (x1 : Int32) (s1 : Int32) (s4 : Int32) (s5 : Int32) (s10 : Int32) (s13 : Int32) (s16 : Int32) (hT : TY K G H) (ga0 : G a0 = some 68) (gwq : G wq = some 0) (ewq : wq = fR H a0 (K.1.2 9 0)) (es1 : s1 = fI H wq (K.1.2 8 1)) (es4 : s4 = fI H wq (K.1.2 8 4)) (es5 : s5 = fI H wq (K.1.2 8 5)) (es10 : s10 = fI H wq (K.1.2 8 10)) (es13 : s13 = fI H wq (K.1.2 8 13)) (es16 : s16 = fI H wq (K.1.2 8 16)) : MX l K yX9_barAt cX9_barAt 2 (some (.object "RingBars$Bar")) 1 22 0 0 [.ref a0, .int x1] H (AE G [] H.size) (fun v H1 => TY K G H1 ∧ ((v = some .null ∧ (x1.toInt < 0 ∨ s1.toInt ≤ x1.toInt)) ∨ ∃ q : Nat, v = some (.ref q) ∧ G q = some 1 ∧ 0 ≤ x1.toInt ∧ x1.toInt < s1.toInt)) := by
  refine MX.of (by decide +kernel) (Nat.le_of_ble_eq_true rfl) ?_
  intro p e s m below meth c ls Q C hH hl hQ
  subst hH
  have C : CX p K s m _ meth c RX9 cX9_barAt 2 (some (.object "RingBars$Bar")) "barAt" := C
  obtain ⟨hx, hb, hml, hown, hts, hKT, hr, hlocks, hnm⟩ := id C
  have hl : lv_has ls 2 [(0, .ref a0), (1, .int x1)] := hl
  have hS : va_S (AE G [] s.heap.size) s.heap s.heap [] := va_S.rf
  have n_0 : (0 : Int32).toInt = 0 := rfl
  have n_1 : (1 : Int32).toInt = 1 := rfl
  have bs1 := ty_fi (x := s1) (k := 1) es1 hT gwq rg_0 rfl
  refine lv_iload_n hx hb dX9_barAt_0 rfl (lv_at hl 1 rfl) ?_
  refine lv_iconst (v := 0) hx hb dX9_barAt_1 (by decide) ?_
  refine lv_aload_n hx hb dX9_barAt_2 rfl (lv_at hl 0 rfl) ?_
  refine x_gr C hT (ci := 9) (k := 0) rfl inX9 (by decide) wF_X9_12 ga0 rg_68 rfl dX9_barAt_3 (fun q101 eq101 gq101 => ?_)
  have uq101 : wq = q101 := (ewq).trans eq101.symm
  subst uq101
  refine x_gi C hT (ci := 8) (k := 1) rfl inX8 (by decide) wF_X9_64 gwq rg_0 rfl dX9_barAt_6 (fun x102 ex102 bx102 => ?_)
  have ux102 : s1 = x102 := (es1).trans ex102.symm
  subst ux102
  refine lv_iconst (v := 1) hx hb dX9_barAt_9 (by decide) ?_
  refine lv_isub hx hb dX9_barAt_10 ?_
  refine lv_topi (fun x103 ex103 => ?_)
  have tx103 := i_sub ex103 (by omega)
  refine x_S (As := [.int x1, .int 0, .int x103]) (rest := []) C (c_X9_within l K G s.heap (x1) (0) (x103) hT) yo_X9_within wM_X9_89 ⟨⟨by decide, by decide⟩, by decide, by decide⟩ rfl hl.1 rfl (Nat.le_of_ble_eq_true rfl) dX9_barAt_11 hS (AE_sub (fun _ _ => rfl) (by decide) hS.1) (fun vH104 H104 locsH104 pH104 zH104 kH104 hSH104 => ?_)
  have hqH104 := pH104.1.symm
  subst hqH104
  rcases pH104.2 with ⟨hvH104, hcH104⟩ | ⟨hvH104, hcH104⟩
  · subst hvH104
    refine W.eq (g2 := F0 m 14 ls [.int 1]) rfl ?_
    refine lv_if_eq (tgt := 29) hx hb dX9_barAt_14 (by decide) (fun c105 => ?_) (fun c105 => ?_)
    · have k106 := i_eq c105
      exfalso
      omega
    · have k106 := i_ne c105
      refine lv_aload_n hx hb dX9_barAt_17 rfl (lv_at hl 0 rfl) ?_
      refine x_gr C hT (ci := 9) (k := 0) rfl inX9 (by decide) wF_X9_12 ga0 rg_68 rfl dX9_barAt_18 (fun q107 eq107 gq107 => ?_)
      have uq107 : wq = q107 := (ewq).trans eq107.symm
      subst uq107
      refine x_gr C hT (ci := 8) (k := 0) rfl inX8 (by decide) wF_X9_68 gwq rg_0 rfl dX9_barAt_21 (fun q108 eq108 gq108 => ?_)
      refine lv_iload_n hx hb dX9_barAt_24 rfl (lv_at hl 1 rfl) ?_
      refine x_ar C hT rfl rfl gq108 rg_25 ⟨by omega, by show _ < ((10 : Nat) : Int); omega⟩ dX9_barAt_25 (fun q109 eq109 gq109 => ?_)
      refine lv_goto (tgt := 30) hx hb dX9_barAt_26 (by decide) ?_
      exact x_aret C hQ (Or.inr ⟨_, rfl⟩) dX9_barAt_30 hSH104 (by decide) (by decide) (⟨hT, Or.inr ⟨q109, rfl, gq109, by omega, by omega⟩⟩)
  · subst hvH104
    refine W.eq (g2 := F0 m 14 ls [.int 0]) rfl ?_
    refine lv_if_eq (tgt := 29) hx hb dX9_barAt_14 (by decide) (fun c110 => ?_) (fun c110 => ?_)
    · have k111 := i_eq c110
      refine lv_null hx hb dX9_barAt_29 ?_
      exact x_aret C hQ (Or.inl rfl) dX9_barAt_30 hSH104 (by decide) (by decide) (⟨hT, Or.inl ⟨rfl, by omega⟩⟩)
    · have k111 := i_ne c110
      exfalso
      omega

set_option maxHeartbeats 4000000 in
set_option maxRecDepth 100000 in
theorem a_X9_tube_r (l : Launch) (K : KE) (G : Nat → Option Nat) (H : Heap) {a0 : Nat} (x1 : Int32) (x2 : Int32) (x3 : Int32) {wq : Nat} (s1 : Int32) (s4 : Int32) (s5 : Int32) (s10 : Int32) (s13 : Int32) (s16 : Int32) (hT : TY K G H) (ga0 : G a0 = some 68) (gwq : G wq = some 0) (ewq : wq = fR H a0 (K.1.2 9 0)) (es1 : s1 = fI H wq (K.1.2 8 1)) (es4 : s4 = fI H wq (K.1.2 8 4)) (es5 : s5 = fI H wq (K.1.2 8 5)) (es10 : s10 = fI H wq (K.1.2 8 10)) (es13 : s13 = fI H wq (K.1.2 8 13)) (es16 : s16 = fI H wq (K.1.2 8 16)) : MX l K yX9_tube cX9_tube 5 (some .boolean) 2 43 0 0 [.ref a0, .int x1, .int x2, .int x3] H (AE G [15] H.size) (fun v H1 => ∃ (r : Int32), v = some (.int r) ∧ (0 ≤ r.toInt ∧ r.toInt ≤ 1) ∧ ((0 ≤ x1.toInt ∧ x1.toInt < s1.toInt ∧ 0 ≤ x2.toInt ∧ x2.toInt ≤ 1 ∧ 1 ≤ x3.toInt ∧ x3.toInt ≤ 9999 ∧ r.toInt = 1) ∨ ((x1.toInt < 0 ∨ s1.toInt ≤ x1.toInt ∨ x2.toInt < 0 ∨ 1 < x2.toInt ∨ x3.toInt < 1 ∨ 9999 < x3.toInt) ∧ r.toInt = 0)) ∧ TY K G H1) := by
  refine MX.of (by decide +kernel) (Nat.le_of_ble_eq_true rfl) ?_
  intro p e s m below meth c ls Q C hH hl hQ
  subst hH
  have C : CX p K s m _ meth c RX9 cX9_tube 5 (some .boolean) "tube" := C
  obtain ⟨hx, hb, hml, hown, hts, hKT, hr, hlocks, hnm⟩ := id C
  have hl : lv_has ls 5 [(0, .ref a0), (1, .int x1), (2, .int x2), (3, .int x3)] := hl
  have hS : va_S (AE G [15] s.heap.size) s.heap s.heap [] := va_S.rf
  have n_0 : (0 : Int32).toInt = 0 := rfl
  have n_1 : (1 : Int32).toInt = 1 := rfl
  have n_9999 : (9999 : Int32).toInt = 9999 := rfl
  have bs1 := ty_fi (x := s1) (k := 1) es1 hT gwq rg_0 rfl
  have bs4 := ty_fi (x := s4) (k := 4) es4 hT gwq rg_0 rfl
  have bs5 := ty_fi (x := s5) (k := 5) es5 hT gwq rg_0 rfl
  have bs10 := ty_fi (x := s10) (k := 10) es10 hT gwq rg_0 rfl
  have bs13 := ty_fi (x := s13) (k := 13) es13 hT gwq rg_0 rfl
  have bs16 := ty_fi (x := s16) (k := 16) es16 hT gwq rg_0 rfl
  refine lv_aload_n hx hb dX9_tube_0 rfl (lv_at hl 0 rfl) ?_
  refine lv_iload_n hx hb dX9_tube_1 rfl (lv_at hl 1 rfl) ?_
  refine x_V (As := [.int x1]) (rest := []) C (a_X9_barAt_r l K G s.heap (x1) (s1) (s4) (s5) (s10) (s13) (s16) hT ga0 gwq ewq es1 es4 es5 es10 es13 es16) yo_X9_barAt wM_X9_78 ⟨⟨by decide, by decide⟩, by decide, by decide⟩ (x_rv C hT (ci := 9) rfl ga0 rg_68) rfl hl.1 rfl (Nat.le_of_ble_eq_true rfl) dX9_tube_2 hS (AE_sub (fun _ _ => rfl) (by decide) hS.1) (fun vH237 H237 locsH237 pH237 zH237 kH237 hSH237 => ?_)
  have hTH237 := pH237.1
  have m238 := (ewq).trans (fR_kept (x_lt hT kH237 ga0 (by decide))).symm
  have m239 := (es1).trans (fI_kept (x_lt hT kH237 gwq (by decide))).symm
  have m240 := (es4).trans (fI_kept (x_lt hT kH237 gwq (by decide))).symm
  have m241 := (es5).trans (fI_kept (x_lt hT kH237 gwq (by decide))).symm
  have m242 := (es10).trans (fI_kept (x_lt hT kH237 gwq (by decide))).symm
  have m243 := (es13).trans (fI_kept (x_lt hT kH237 gwq (by decide))).symm
  have m244 := (es16).trans (fI_kept (x_lt hT kH237 gwq (by decide))).symm
  rcases pH237.2 with ⟨hvH237, hcH237⟩ | ⟨q245, hvH237, gq245, hcH237, hdH237⟩
  · skip
    subst hvH237
    refine W.eq (g2 := F0 m 5 ls [.null]) rfl ?_
    refine lv_astoreN (lv' := [(4, .null), (0, .ref a0), (1, .int x1), (2, .int x2), (3, .int x3)]) hx hb dX9_tube_5 hl (by decide) rfl (fun ls246 hl247 => ?_)
    refine lv_aloadN hx hb dX9_tube_7 (lv_at hl247 0 rfl) ?_
    refine lv_ifnullN (tgt := 32) hx hb dX9_tube_9 (by decide) ?_
    refine lv_iconst (v := 0) hx hb dX9_tube_32 (by decide) ?_
    exact x_zret C hQ (Or.inl rfl) dX9_tube_33 hSH237 (by decide) (by decide) (⟨0, rfl, by decide, by omega, hTH237⟩)
  · skip
    subst hvH237
    refine W.eq (g2 := F0 m 5 ls [.ref q245]) rfl ?_
    refine lv_astore (lv' := [(4, .ref q245), (0, .ref a0), (1, .int x1), (2, .int x2), (3, .int x3)]) hx hb dX9_tube_5 hl (by decide) rfl (fun ls248 hl249 => ?_)
    refine lv_aload hx hb dX9_tube_7 (lv_at hl249 0 rfl) ?_
    refine lv_ifnull hx hb dX9_tube_9 ?_
    refine lv_iload_n hx hb dX9_tube_12 rfl (lv_at hl249 3 rfl) ?_
    refine lv_iconst (v := 0) hx hb dX9_tube_13 (by decide) ?_
    refine lv_iconst (v := 1) hx hb dX9_tube_14 (by decide) ?_
    refine x_S (As := [.int x2, .int 0, .int 1]) (rest := []) C (c_X9_within l K G H237 (x2) (0) (1) hTH237) yo_X9_within wM_X9_89 ⟨⟨by decide, by decide⟩, by decide, by decide⟩ rfl hl249.1 rfl (Nat.le_of_ble_eq_true rfl) dX9_tube_15 hSH237 (AE_sub (fun _ _ => rfl) (by decide) hSH237.1) (fun vH250 H250 locsH250 pH250 zH250 kH250 hSH250 => ?_)
    have hqH250 := pH250.1.symm
    subst hqH250
    rcases pH250.2 with ⟨hvH250, hcH250⟩ | ⟨hvH250, hcH250⟩
    · subst hvH250
      refine W.eq (g2 := F0 m 18 ls248 [.int 1]) rfl ?_
      refine lv_if_eq (tgt := 32) hx hb dX9_tube_18 (by decide) (fun c251 => ?_) (fun c251 => ?_)
      · have k252 := i_eq c251
        exfalso
        omega
      · have k252 := i_ne c251
        refine lv_iload_n hx hb dX9_tube_21 rfl (lv_at hl249 4 rfl) ?_
        refine lv_iconst (v := 1) hx hb dX9_tube_22 (by decide) ?_
        refine lv_sipush (v := 9999) hx hb dX9_tube_23 (by decide) ?_
        refine x_S (As := [.int x3, .int 1, .int 9999]) (rest := []) C (c_X9_within l K G H237 (x3) (1) (9999) hTH237) yo_X9_within wM_X9_89 ⟨⟨by decide, by decide⟩, by decide, by decide⟩ rfl hl249.1 rfl (Nat.le_of_ble_eq_true rfl) dX9_tube_26 hSH250 (AE_sub (fun _ _ => rfl) (by decide) hSH250.1) (fun vH253 H253 locsH253 pH253 zH253 kH253 hSH253 => ?_)
        have hqH253 := pH253.1.symm
        subst hqH253
        rcases pH253.2 with ⟨hvH253, hcH253⟩ | ⟨hvH253, hcH253⟩
        · subst hvH253
          refine W.eq (g2 := F0 m 29 ls248 [.int 1]) rfl ?_
          refine lv_if_ne (tgt := 34) hx hb dX9_tube_29 (by decide) (fun c254 => ?_) (fun c254 => ?_)
          · have k255 := i_ne c254
            refine lv_aload hx hb dX9_tube_34 (lv_at hl249 0 rfl) ?_
            refine x_gr C hTH237 (ci := 0) (k := 17) rfl inX0 (by decide) wF_X9_272 gq245 rg_1 rfl dX9_tube_36 (fun q256 eq256 gq256 => ?_)
            refine lv_iload_n hx hb dX9_tube_39 rfl (lv_at hl249 3 rfl) ?_
            refine lv_iload_n hx hb dX9_tube_40 rfl (lv_at hl249 4 rfl) ?_
            refine x_iast C hTH237 hSH253 gq256 rg_15 (by omega) (by show _ < ((2 : Nat) : Int); omega) ⟨by have := i_rng x3; omega, by have := i_rng x3; omega⟩ (AE_in gq256 (by decide)) dX9_tube_41 (fun H257 locsH257 hTH257 hSH257 wH257 => ?_)
            have m258 := m238.trans (Wr.neR wH257 (Or.inl (G_ne ga0 gq256 (by decide)))).symm
            have m259 := m239.trans (Wr.neI wH257 (Or.inl (G_ne gwq gq256 (by decide)))).symm
            have m260 := m240.trans (Wr.neI wH257 (Or.inl (G_ne gwq gq256 (by decide)))).symm
            have m261 := m241.trans (Wr.neI wH257 (Or.inl (G_ne gwq gq256 (by decide)))).symm
            have m262 := m242.trans (Wr.neI wH257 (Or.inl (G_ne gwq gq256 (by decide)))).symm
            have m263 := m243.trans (Wr.neI wH257 (Or.inl (G_ne gwq gq256 (by decide)))).symm
            have m264 := m244.trans (Wr.neI wH257 (Or.inl (G_ne gwq gq256 (by decide)))).symm
            have m265 := eq256.trans (Wr.neR wH257 (Or.inl (G_ne gq245 gq256 (by decide)))).symm
            have m266 := Wr.I wH257
            have m266 := m266.symm
            refine lv_iconst (v := 1) hx hb dX9_tube_42 (by decide) ?_
            exact x_zret C hQ (Or.inr rfl) dX9_tube_43 hSH257 (by decide) (by decide) (⟨1, rfl, by decide, by omega, hTH257⟩)
          · have k255 := i_eq c254
            exfalso
            omega
        · subst hvH253
          refine W.eq (g2 := F0 m 29 ls248 [.int 0]) rfl ?_
          refine lv_if_ne (tgt := 34) hx hb dX9_tube_29 (by decide) (fun c267 => ?_) (fun c267 => ?_)
          · have k268 := i_ne c267
            exfalso
            omega
          · have k268 := i_eq c267
            refine lv_iconst (v := 0) hx hb dX9_tube_32 (by decide) ?_
            exact x_zret C hQ (Or.inl rfl) dX9_tube_33 hSH253 (by decide) (by decide) (⟨0, rfl, by decide, by omega, hTH237⟩)
    · subst hvH250
      refine W.eq (g2 := F0 m 18 ls248 [.int 0]) rfl ?_
      refine lv_if_eq (tgt := 32) hx hb dX9_tube_18 (by decide) (fun c269 => ?_) (fun c269 => ?_)
      · have k270 := i_eq c269
        refine lv_iconst (v := 0) hx hb dX9_tube_32 (by decide) ?_
        exact x_zret C hQ (Or.inl rfl) dX9_tube_33 hSH250 (by decide) (by decide) (⟨0, rfl, by decide, by omega, hTH237⟩)
      · have k270 := i_ne c269
        exfalso
        omega
