set_option maxHeartbeats 4000000 in
set_option maxRecDepth 100000 in
theorem a_X10_set_e (l : Launch) (K : KE) (G : Nat → Option Nat) (H : Heap) {a0 : Nat} (x1 : Int32) (x2 : Int32) {bq : Nat} {nq : Nat} {lq : Nat} {kq : Nat} (bc : Int32) (nc : Int32) (nl : Nat → Int) (bl : Nat → Int) (br : Nat → Int) (hT : TY K G H) (ga0 : G a0 = some 112) (gbq : G bq = some 161) (ebq : bq = fR H a0 (K.1.2 10 69)) (gnq : G nq = some 157) (enq : nq = fR H a0 (K.1.2 10 64)) (glq : G lq = some 158) (elq : lq = fR H a0 (K.1.2 10 66)) (gkq : G kq = some 159) (ekq : kq = fR H a0 (K.1.2 10 67)) (ebc : bc = fI H a0 (K.1.2 10 65)) (enc : nc = fI H a0 (K.1.2 10 62)) (hg_CG : CG (avw K H a0)) (hg_TU : TU (avw K H a0) (svw K H a0)) (hg_WD : WD (avw K H a0)) (hg_IM : IM (avw K H a0)) (hy0 : ∀ j : Nat, j < nc.toNatClampNeg → 0 ≤ nl j ∧ nl j ≤ 99) (hy1 : ∀ j : Nat, j < bc.toNatClampNeg → 0 ≤ bl j ∧ bl j ≤ 99) (hy2 : ∀ j : Nat, j < bc.toNatClampNeg → 0 ≤ br j ∧ br j ≤ 99) (hv_nl : ∀ j : Nat, nl j = (fI H nq j).toInt) (hv_bl : ∀ j : Nat, bl j = (fI H lq j).toInt) (hv_br : ∀ j : Nat, br j = (fI H kq j).toInt) : MX l K yX10_set cX10_set 4 (some .int) 3 70 0 0 [.ref a0, .int x1, .int x2] H (AE G [112, 160, 161] H.size) (fun v H1 => ∃ (r : Int32), v = some (.int r) ∧ bq = fR H1 a0 (K.1.2 10 69) ∧ nq = fR H1 a0 (K.1.2 10 64) ∧ lq = fR H1 a0 (K.1.2 10 66) ∧ kq = fR H1 a0 (K.1.2 10 67) ∧ (CG (avw K H1 a0)) ∧ (TU (avw K H1 a0) (svw K H1 a0)) ∧ (WD (avw K H1 a0)) ∧ (IM (avw K H1 a0)) ∧ MF K H H1 a0 [0] ∧ (seA nl bl br bc.toNatClampNeg nc.toNatClampNeg x1.toInt x2.toInt r.toInt) ∧ TY K G H1) := by
  refine MX.of (by decide +kernel) (Nat.le_of_ble_eq_true rfl) ?_
  intro p e s m below meth c ls Q C hH hl hQ
  subst hH
  have C : CX p K s m _ meth c RX10 cX10_set 4 (some .int) "set" := C
  obtain ⟨hx, hb, hml, hown, hts, hKT, hr, hlocks, hnm⟩ := id C
  have hl : lv_has ls 4 [(0, .ref a0), (1, .int x1), (2, .int x2)] := hl
  have hS : va_S (AE G [112, 160, 161] s.heap.size) s.heap s.heap [] := va_S.rf
  have n_m1 : ((-1) : Int32).toInt = -1 := rfl
  have n_0 : (0 : Int32).toInt = 0 := rfl
  have n_1 : (1 : Int32).toInt = 1 := rfl
  have n_99 : (99 : Int32).toInt = 99 := rfl
  have bbc := ty_fi (x := bc) (k := 65) ebc hT ga0 rg_112 rfl
  have bnc := ty_fi (x := nc) (k := 62) enc hT ga0 rg_112 rfl
  have hap : ∀ x y, x < 74 → y < 74 → x ≠ y → K.1.2 10 x ≠ K.1.2 10 y := x_apart hKT hts inX10 tyX10 tyX10_ok nmX10 rfl
  have mf0 : MF K s.heap s.heap a0 [0] := fun _ _ _ => rfl
  have f0_nl := hv_nl
  have f0_bl := hv_bl
  have f0_br := hv_br
  refine lv_aload_n hx hb dX10_set_0 rfl (lv_at hl 0 rfl) ?_
  refine lv_iconst (v := 0) hx hb dX10_set_1 (by decide) ?_
  refine x_put C hT hS (ci := 10) (k := 0) (v := .int 0) (ty0 := tyX10) rfl inX10 tyX10_ok nmX10 (by decide) rfl wF_X10_167 ga0 rg_112 rfl rfl (okI (by have := i_rng (0 : Int32); omega) (by have := i_rng (0 : Int32); omega)) rfl rfl (AE_in ga0 (by decide)) dX10_set_2 (fun H325 locsH325 hTH325 hSH325 wH325 => ?_)
  have mf326 : MF K s.heap H325 a0 [0] := MF.fld hap wH325 (by decide) (by decide) mf0
  have g327 : CG (avw K H325 a0) := CG.congr (fun k hk j => av_fld hT ga0 hap wH325 (by decide) (CG_ok 112 (by decide) k hk) (CG_ne 0 (by decide) k hk)) hg_CG
  have g328 : TU (avw K H325 a0) (svw K H325 a0) := TU.congr (fun k hk j => av_fld hT ga0 hap wH325 (by decide) (TU_ok 112 (by decide) k hk) (TU_ne 0 (by decide) k hk)) (fun k hk => sv_fld hap wH325 (by decide) (TU_slt k hk) (TU_sne 0 (by decide) k hk)) hg_TU
  have g329 : WD (avw K H325 a0) := WD.congr (fun k hk j => av_fld hT ga0 hap wH325 (by decide) (WD_ok 112 (by decide) k hk) (WD_ne 0 (by decide) k hk)) hg_WD
  have g330 : IM (avw K H325 a0) := IM.congr (fun k hk j => av_fld hT ga0 hap wH325 (by decide) (IM_ok 112 (by decide) k hk) (IM_ne 0 (by decide) k hk)) hg_IM
  have f331 : ∀ j : Nat, nl j = (fI H325 nq j).toInt := fun j => (f0_nl j).trans (congrArg Int32.toInt (Wr.neI wH325 (Or.inl (G_ne gnq ga0 (by decide)))).symm)
  have f332 : ∀ j : Nat, bl j = (fI H325 lq j).toInt := fun j => (f0_bl j).trans (congrArg Int32.toInt (Wr.neI wH325 (Or.inl (G_ne glq ga0 (by decide)))).symm)
  have f333 : ∀ j : Nat, br j = (fI H325 kq j).toInt := fun j => (f0_br j).trans (congrArg Int32.toInt (Wr.neI wH325 (Or.inl (G_ne gkq ga0 (by decide)))).symm)
  have m334 := ebq.trans (Wr.neR wH325 (Or.inr (x_apart hKT hts inX10 tyX10 tyX10_ok nmX10 rfl 69 0 (by decide) (by decide) (by decide)))).symm
  have m335 := enq.trans (Wr.neR wH325 (Or.inr (x_apart hKT hts inX10 tyX10 tyX10_ok nmX10 rfl 64 0 (by decide) (by decide) (by decide)))).symm
  have m336 := elq.trans (Wr.neR wH325 (Or.inr (x_apart hKT hts inX10 tyX10 tyX10_ok nmX10 rfl 66 0 (by decide) (by decide) (by decide)))).symm
  have m337 := ekq.trans (Wr.neR wH325 (Or.inr (x_apart hKT hts inX10 tyX10 tyX10_ok nmX10 rfl 67 0 (by decide) (by decide) (by decide)))).symm
  have m338 := ebc.trans (Wr.neI wH325 (Or.inr (x_apart hKT hts inX10 tyX10 tyX10_ok nmX10 rfl 65 0 (by decide) (by decide) (by decide)))).symm
  have m339 := enc.trans (Wr.neI wH325 (Or.inr (x_apart hKT hts inX10 tyX10 tyX10_ok nmX10 rfl 62 0 (by decide) (by decide) (by decide)))).symm
  have m340 := Wr.I wH325
  refine lv_aload_n hx hb dX10_set_5 rfl (lv_at hl 0 rfl) ?_
  refine lv_iload_n hx hb dX10_set_6 rfl (lv_at hl 1 rfl) ?_
  refine lv_iconst (v := 0) hx hb dX10_set_7 (by decide) ?_
  refine lv_bipush (v := 99) hx hb dX10_set_8 (by decide) ?_
  refine x_V (As := [.int x1, .int 0, .int 99]) (rest := []) C (c_X10_isIn l K G H325 (x1) (0) (99) hTH325 ga0) yo_X10_isIn wM_X10_177 ⟨⟨by decide, by decide⟩, by decide, by decide⟩ (x_rv C hTH325 (ci := 10) rfl ga0 rg_112) rfl hl.1 rfl (Nat.le_of_ble_eq_true rfl) dX10_set_10 hSH325 (AE_sub (fun _ _ => rfl) (by decide) hSH325.1) (fun vH341 H341 locsH341 pH341 zH341 kH341 hSH341 => ?_)
  have hqH341 := pH341.1.symm
  subst hqH341
  rcases pH341.2 with ⟨hvH341, hcH341⟩ | ⟨hvH341, hcH341⟩
  · subst hvH341
    refine W.eq (g2 := F0 m 13 ls [.int 1]) rfl ?_
    refine lv_if_eq (tgt := 29) hx hb dX10_set_13 (by decide) (fun c342 => ?_) (fun c342 => ?_)
    · have k343 := i_eq c342
      exfalso
      omega
    · have k343 := i_ne c342
      refine lv_aload_n hx hb dX10_set_16 rfl (lv_at hl 0 rfl) ?_
      refine lv_iload_n hx hb dX10_set_17 rfl (lv_at hl 2 rfl) ?_
      refine lv_iconst (v := 0) hx hb dX10_set_18 (by decide) ?_
      refine lv_aload_n hx hb dX10_set_19 rfl (lv_at hl 0 rfl) ?_
      refine x_gi C hTH325 (ci := 10) (k := 62) rfl inX10 (by decide) wF_X10_455 ga0 rg_112 rfl dX10_set_20 (fun x344 ex344 bx344 => ?_)
      have ux344 : nc = x344 := (m339).trans ex344.symm
      subst ux344
      refine x_V (As := [.int x2, .int 0, .int nc]) (rest := []) C (c_X10_isIn l K G H325 (x2) (0) (nc) hTH325 ga0) yo_X10_isIn wM_X10_177 ⟨⟨by decide, by decide⟩, by decide, by decide⟩ (x_rv C hTH325 (ci := 10) rfl ga0 rg_112) rfl hl.1 rfl (Nat.le_of_ble_eq_true rfl) dX10_set_23 hSH341 (AE_sub (fun _ _ => rfl) (by decide) hSH341.1) (fun vH345 H345 locsH345 pH345 zH345 kH345 hSH345 => ?_)
      have hqH345 := pH345.1.symm
      subst hqH345
      rcases pH345.2 with ⟨hvH345, hcH345⟩ | ⟨hvH345, hcH345⟩
      · subst hvH345
        refine W.eq (g2 := F0 m 26 ls [.int 1]) rfl ?_
        refine lv_if_ne (tgt := 31) hx hb dX10_set_26 (by decide) (fun c346 => ?_) (fun c346 => ?_)
        · have k347 := i_ne c346
          refine lv_aload_n hx hb dX10_set_31 rfl (lv_at hl 0 rfl) ?_
          refine lv_iload_n hx hb dX10_set_32 rfl (lv_at hl 1 rfl) ?_
          obtain ⟨q348, eq348⟩ : ∃ z : Nat, z = fR H325 a0 (K.1.2 10 68) := ⟨_, rfl⟩
          have gq348 := ty_fr (q := q348) (k := 68) (u := 160) eq348 hTH325 ga0 rg_112 rfl
          refine x_V (As := [.int x1]) (rest := []) C (a_X10_leastWaste_e l K G H325 (x1) (bc) (nc) nl bl br hTH325 ga0 (by omega) gq348 eq348 gbq m334 gnq m335 glq m336 gkq m337 m338 m339 (hy0) (hy1) (hy2) f331 f332 f333) yo_X10_leastWaste wM_X10_464 ⟨⟨by decide, by decide⟩, by decide, by decide⟩ (x_rv C hTH325 (ci := 10) rfl ga0 rg_112) rfl hl.1 rfl (Nat.le_of_ble_eq_true rfl) dX10_set_33 hSH345 (AE_sub (fun _ _ => rfl) (by decide) hSH345.1) (fun vH349 H349 locsH349 pH349 zH349 kH349 hSH349 => ?_)
          obtain ⟨x350, hvH349, m351, hTH349⟩ := pH349
          subst hvH349
          have mf352 : MF K s.heap H349 a0 [0] := MF.eff (x_lt hTH325 kH349 ga0 (by decide)) mf326
          have g353 : CG (avw K H349 a0) := CG.congr (fun k hk j => av_eff hTH325 kH349 ga0 (by decide) (CG_eff [160, 161] (by decide) k hk)) g327
          have g354 : TU (avw K H349 a0) (svw K H349 a0) := TU.congr (fun k hk j => av_eff hTH325 kH349 ga0 (by decide) (TU_eff [160, 161] (by decide) k hk)) (fun k hk => sv_eff hTH325 kH349 ga0 (by decide)) g328
          have g355 : WD (avw K H349 a0) := WD.congr (fun k hk j => av_eff hTH325 kH349 ga0 (by decide) (WD_eff [160, 161] (by decide) k hk)) g329
          have g356 : IM (avw K H349 a0) := IM.congr (fun k hk j => av_eff hTH325 kH349 ga0 (by decide) (IM_eff [160, 161] (by decide) k hk)) g330
          have f357 : ∀ j : Nat, nl j = (fI H349 nq j).toInt := fun j => (f331 j).trans (congrArg Int32.toInt (fI_kept (x_lt hTH325 kH349 gnq (by decide))).symm)
          have f358 : ∀ j : Nat, bl j = (fI H349 lq j).toInt := fun j => (f332 j).trans (congrArg Int32.toInt (fI_kept (x_lt hTH325 kH349 glq (by decide))).symm)
          have f359 : ∀ j : Nat, br j = (fI H349 kq j).toInt := fun j => (f333 j).trans (congrArg Int32.toInt (fI_kept (x_lt hTH325 kH349 gkq (by decide))).symm)
          have m360 := (m334).trans (fR_kept (x_lt hTH325 kH349 ga0 (by decide))).symm
          have m361 := (m335).trans (fR_kept (x_lt hTH325 kH349 ga0 (by decide))).symm
          have m362 := (m336).trans (fR_kept (x_lt hTH325 kH349 ga0 (by decide))).symm
          have m363 := (m337).trans (fR_kept (x_lt hTH325 kH349 ga0 (by decide))).symm
          have m364 := (m338).trans (fI_kept (x_lt hTH325 kH349 ga0 (by decide))).symm
          have m365 := (m339).trans (fI_kept (x_lt hTH325 kH349 ga0 (by decide))).symm
          have m366 := (fI_kept (x_lt hTH325 kH349 ga0 (by decide))).trans m340
          have m367 := (eq348).trans (fR_kept (x_lt hTH325 kH349 ga0 (by decide))).symm
          refine W.eq (g2 := F0 m 36 ls [.int x350]) rfl ?_
          refine lv_istore_n (lv' := [(3, .int x350), (0, .ref a0), (1, .int x1), (2, .int x2)]) hx hb dX10_set_36 rfl hl (by decide) rfl (fun ls368 hl369 => ?_)
          refine lv_iload_n hx hb dX10_set_37 rfl (lv_at hl369 3 rfl) ?_
          refine lv_if_eq (tgt := 46) hx hb dX10_set_38 (by decide) (fun c370 => ?_) (fun c370 => ?_)
          · have k371 := i_eq c370
            refine lv_iload_n hx hb dX10_set_46 rfl (lv_at hl369 0 rfl) ?_
            refine lv_goto (tgt := 58) hx hb dX10_set_47 (by decide) ?_
            have cn_nc := i_cl (x := nc) (by omega)
            exact x_iret C hQ dX10_set_58 hSH349 (by decide) (by decide) (⟨x350, rfl, m360, m361, m362, m363, g353, g354, g355, g356, mf352, Or.inl ⟨by omega, sa_0 (HD.get m351) (by omega)⟩, hTH349⟩)
          · have k371 := i_ne c370
            refine lv_iload_n hx hb dX10_set_41 rfl (lv_at hl369 0 rfl) ?_
            refine lv_iconst (v := (-1)) hx hb dX10_set_42 (by decide) ?_
            refine lv_icmp_ne (tgt := 50) hx hb dX10_set_43 (by decide) (fun c372 => ?_) (fun c372 => ?_)
            · have k373 := i_ne c372
              refine lv_aload_n hx hb dX10_set_50 rfl (lv_at hl369 1 rfl) ?_
              refine x_gr C hTH349 (ci := 10) (k := 69) rfl inX10 (by decide) wF_X10_161 ga0 rg_112 rfl dX10_set_51 (fun q374 eq374 gq374 => ?_)
              have uq374 : bq = q374 := (m360).trans eq374.symm
              subst uq374
              refine lv_iload_n hx hb dX10_set_54 rfl (lv_at hl369 3 rfl) ?_
              refine lv_iconst (v := 1) hx hb dX10_set_55 (by decide) ?_
              refine lv_isub hx hb dX10_set_56 ?_
              refine lv_topi (fun x375 ex375 => ?_)
              have tx375 := i_sub ex375 (by omega)
              refine x_ai C hTH349 gbq rg_161 ⟨by omega, by show _ < ((8 : Nat) : Int); omega⟩ dX10_set_57 (fun x376 ex376 bx376 => ?_)
              have cn_nc := i_cl (x := nc) (by omega)
              have cn_x375 := i_cl (x := x375) (by omega)
              exact x_iret C hQ dX10_set_58 hSH349 (by decide) (by decide) (⟨x376, rfl, m360, m361, m362, m363, g353, g354, g355, g356, mf352, Or.inl ⟨by omega, sa_at (HD.get m351) (by omega) (by omega) (j := x375.toNatClampNeg) (by omega) (show (fI _ bq _).toInt = _ by rw [← ex376]) (by omega)⟩, hTH349⟩)
            · have k373 := i_eq c372
              refine lv_iload_n hx hb dX10_set_46 rfl (lv_at hl369 0 rfl) ?_
              refine lv_goto (tgt := 58) hx hb dX10_set_47 (by decide) ?_
              have cn_nc := i_cl (x := nc) (by omega)
              exact x_iret C hQ dX10_set_58 hSH349 (by decide) (by decide) (⟨x350, rfl, m360, m361, m362, m363, g353, g354, g355, g356, mf352, Or.inl ⟨by omega, sa_0 (HD.get m351) (by omega)⟩, hTH349⟩)
        · have k347 := i_eq c346
          exfalso
          omega
      · subst hvH345
        refine W.eq (g2 := F0 m 26 ls [.int 0]) rfl ?_
        refine lv_if_ne (tgt := 31) hx hb dX10_set_26 (by decide) (fun c377 => ?_) (fun c377 => ?_)
        · have k378 := i_ne c377
          exfalso
          omega
        · have k378 := i_eq c377
          refine lv_iconst (v := (-1)) hx hb dX10_set_29 (by decide) ?_
          have cn_nc := i_cl (x := nc) (by omega)
          exact x_iret C hQ dX10_set_30 hSH345 (by decide) (by decide) (⟨(-1), rfl, m334, m335, m336, m337, g327, g328, g329, g330, mf326, Or.inr ⟨by omega, by omega⟩, hTH325⟩)
  · subst hvH341
    refine W.eq (g2 := F0 m 13 ls [.int 0]) rfl ?_
    refine lv_if_eq (tgt := 29) hx hb dX10_set_13 (by decide) (fun c379 => ?_) (fun c379 => ?_)
    · have k380 := i_eq c379
      refine lv_iconst (v := (-1)) hx hb dX10_set_29 (by decide) ?_
      have cn_nc := i_cl (x := nc) (by omega)
      exact x_iret C hQ dX10_set_30 hSH341 (by decide) (by decide) (⟨(-1), rfl, m334, m335, m336, m337, g327, g328, g329, g330, mf326, Or.inr ⟨by omega, by omega⟩, hTH325⟩)
    · have k380 := i_ne c379
      exfalso
      omega
