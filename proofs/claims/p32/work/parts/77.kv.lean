set_option maxHeartbeats 4000000 in
set_option maxRecDepth 100000 in
theorem a_X10_feed_t (l : Launch) (K : KE) (G : Nat → Option Nat) (H : Heap) {a0 : Nat} (x1 : Int32) (x2 : Int32) (x3 : Int32) (x4 : Int32) (x5 : Int32) (tp : Int32) (hT : TY K G H) (ga0 : G a0 = some 112) (etp : tp = fI H a0 (K.1.2 10 18)) (hg_CG : CG (avw K H a0)) (hg_TU : TU (avw K H a0) (svw K H a0)) (hg_WD : WD (avw K H a0)) (hg_IM : IM (avw K H a0)) : MX l K yX10_feed cX10_feed 6 (some .int) 1 22 0 0 [.ref a0, .int x1, .int x2, .int x3, .int x4, .int x5] H (AE G [112, 126] H.size) (fun v H1 => ∃ (r : Int32) (t0 : Int32), v = some (.int r) ∧ t0 = fI H1 a0 (K.1.2 10 18) ∧ ((tp.toInt ≤ 480 ∧ r.toInt = tp.toInt + 20 ∧ t0.toInt = tp.toInt + 20) ∨ (480 < tp.toInt ∧ r.toInt = -1 ∧ t0.toInt = tp.toInt)) ∧ (CG (avw K H1 a0)) ∧ (TU (avw K H1 a0) (svw K H1 a0)) ∧ (WD (avw K H1 a0)) ∧ (IM (avw K H1 a0)) ∧ MF K H H1 a0 [0, 18] ∧ TY K G H1) := by
  refine MX.of (by decide +kernel) (Nat.le_of_ble_eq_true rfl) ?_
  intro p e s m below meth c ls Q C hH hl hQ
  subst hH
  have C : CX p K s m _ meth c RX10 cX10_feed 6 (some .int) "feed" := C
  obtain ⟨hx, hb, hml, hown, hts, hKT, hr, hlocks, hnm⟩ := id C
  have hl : lv_has ls 6 [(0, .ref a0), (1, .int x1), (2, .int x2), (3, .int x3), (4, .int x4), (5, .int x5)] := hl
  have hS : va_S (AE G [112, 126] s.heap.size) s.heap s.heap [] := va_S.rf
  have n_m1 : ((-1) : Int32).toInt = -1 := rfl
  have n_0 : (0 : Int32).toInt = 0 := rfl
  have n_480 : (480 : Int32).toInt = 480 := rfl
  have btp := ty_fi (x := tp) (k := 18) etp hT ga0 rg_112 rfl
  have hap : ∀ x y, x < 74 → y < 74 → x ≠ y → K.1.2 10 x ≠ K.1.2 10 y := x_apart hKT hts inX10 tyX10 tyX10_ok nmX10 rfl
  have mf0 : MF K s.heap s.heap a0 [0, 18] := fun _ _ _ => rfl
  refine lv_aload_n hx hb dX10_feed_0 rfl (lv_at hl 0 rfl) ?_
  refine lv_iconst (v := 0) hx hb dX10_feed_1 (by decide) ?_
  refine x_put C hT hS (ci := 10) (k := 0) (v := .int 0) (ty0 := tyX10) rfl inX10 tyX10_ok nmX10 (by decide) rfl wF_X10_167 ga0 rg_112 rfl rfl (okI (by have := i_rng (0 : Int32); omega) (by have := i_rng (0 : Int32); omega)) rfl rfl (AE_in ga0 (by decide)) dX10_feed_2 (fun H329 locsH329 hTH329 hSH329 wH329 => ?_)
  have mf330 : MF K s.heap H329 a0 [0, 18] := MF.fld hap wH329 (by decide) (by decide) mf0
  have g331 : CG (avw K H329 a0) := CG.congr (fun k hk j => av_fld hT ga0 hap wH329 (by decide) (CG_ok 112 (by decide) k hk) (CG_ne 0 (by decide) k hk)) hg_CG
  have g332 : TU (avw K H329 a0) (svw K H329 a0) := TU.congr (fun k hk j => av_fld hT ga0 hap wH329 (by decide) (TU_ok 112 (by decide) k hk) (TU_ne 0 (by decide) k hk)) (fun k hk => sv_fld hap wH329 (by decide) (TU_slt k hk) (TU_sne 0 (by decide) k hk)) hg_TU
  have g333 : WD (avw K H329 a0) := WD.congr (fun k hk j => av_fld hT ga0 hap wH329 (by decide) (WD_ok 112 (by decide) k hk) (WD_ne 0 (by decide) k hk)) hg_WD
  have g334 : IM (avw K H329 a0) := IM.congr (fun k hk j => av_fld hT ga0 hap wH329 (by decide) (IM_ok 112 (by decide) k hk) (IM_ne 0 (by decide) k hk)) hg_IM
  have m335 := etp.trans (Wr.neI wH329 (Or.inr (x_apart hKT hts inX10 tyX10 tyX10_ok nmX10 rfl 18 0 (by decide) (by decide) (by decide)))).symm
  have m336 := Wr.I wH329
  refine lv_aload_n hx hb dX10_feed_5 rfl (lv_at hl 0 rfl) ?_
  refine x_gi C hTH329 (ci := 10) (k := 18) rfl inX10 (by decide) wF_X10_185 ga0 rg_112 rfl dX10_feed_6 (fun x337 ex337 bx337 => ?_)
  have ux337 : tp = x337 := (m335).trans ex337.symm
  subst ux337
  refine lv_sipush (v := 480) hx hb dX10_feed_9 (by decide) ?_
  refine lv_icmp_le (tgt := 17) hx hb dX10_feed_12 (by decide) (fun c338 => ?_) (fun c338 => ?_)
  · have k339 := i_le c338
    refine lv_aload_n hx hb dX10_feed_17 rfl (lv_at hl 0 rfl) ?_
    refine lv_iload_n hx hb dX10_feed_18 rfl (lv_at hl 1 rfl) ?_
    refine x_V (As := [.int x1]) (rest := []) C (a_X10_puts l K G H329 (x1) (tp) hTH329 ga0 m335 g331 g332 g333 g334 (by omega)) yo_X10_puts wM_X10_188 ⟨⟨by decide, by decide⟩, by decide, by decide⟩ (x_rv C hTH329 (ci := 10) rfl ga0 rg_112) rfl hl.1 rfl (Nat.le_of_ble_eq_true rfl) dX10_feed_19 hSH329 (AE_sub (fun _ _ => rfl) (by decide) hSH329.1) (fun vH340 H340 locsH340 pH340 zH340 kH340 hSH340 => ?_)
    obtain ⟨x341, hvH340, ex341, hrH340, g342, g343, g344, g345, mf346, hTH340⟩ := pH340
    subst hvH340
    have m347 := (MF.i mf346 (k := 0) (by decide) (by decide)).trans m336
    have mf348 : MF K s.heap H340 a0 [0, 18] := MF.trans mf330 mf346 (by decide)
    have bx341 := ty_fi (x := x341) (k := 18) ex341 hTH340 ga0 rg_112 rfl
    refine W.eq (g2 := F0 m 22 ls []) rfl ?_
    refine lv_aload_n hx hb dX10_feed_22 rfl (lv_at hl 0 rfl) ?_
    refine lv_iload_n hx hb dX10_feed_23 rfl (lv_at hl 2 rfl) ?_
    refine x_V (As := [.int x2]) (rest := []) C (a_X10_puts l K G H340 (x2) (x341) hTH340 ga0 ex341 g342 g343 g344 g345 (by omega)) yo_X10_puts wM_X10_188 ⟨⟨by decide, by decide⟩, by decide, by decide⟩ (x_rv C hTH340 (ci := 10) rfl ga0 rg_112) rfl hl.1 rfl (Nat.le_of_ble_eq_true rfl) dX10_feed_24 hSH340 (AE_sub (fun _ _ => rfl) (by decide) hSH340.1) (fun vH349 H349 locsH349 pH349 zH349 kH349 hSH349 => ?_)
    obtain ⟨x350, hvH349, ex350, hrH349, g351, g352, g353, g354, mf355, hTH349⟩ := pH349
    subst hvH349
    have m356 := (MF.i mf355 (k := 0) (by decide) (by decide)).trans m347
    have mf357 : MF K s.heap H349 a0 [0, 18] := MF.trans mf348 mf355 (by decide)
    have bx350 := ty_fi (x := x350) (k := 18) ex350 hTH349 ga0 rg_112 rfl
    refine W.eq (g2 := F0 m 27 ls []) rfl ?_
    refine lv_aload_n hx hb dX10_feed_27 rfl (lv_at hl 0 rfl) ?_
    refine lv_iload_n hx hb dX10_feed_28 rfl (lv_at hl 3 rfl) ?_
    refine x_V (As := [.int x3]) (rest := []) C (a_X10_puts l K G H349 (x3) (x350) hTH349 ga0 ex350 g351 g352 g353 g354 (by omega)) yo_X10_puts wM_X10_188 ⟨⟨by decide, by decide⟩, by decide, by decide⟩ (x_rv C hTH349 (ci := 10) rfl ga0 rg_112) rfl hl.1 rfl (Nat.le_of_ble_eq_true rfl) dX10_feed_29 hSH349 (AE_sub (fun _ _ => rfl) (by decide) hSH349.1) (fun vH358 H358 locsH358 pH358 zH358 kH358 hSH358 => ?_)
    obtain ⟨x359, hvH358, ex359, hrH358, g360, g361, g362, g363, mf364, hTH358⟩ := pH358
    subst hvH358
    have m365 := (MF.i mf364 (k := 0) (by decide) (by decide)).trans m356
    have mf366 : MF K s.heap H358 a0 [0, 18] := MF.trans mf357 mf364 (by decide)
    have bx359 := ty_fi (x := x359) (k := 18) ex359 hTH358 ga0 rg_112 rfl
    refine W.eq (g2 := F0 m 32 ls []) rfl ?_
    refine lv_aload_n hx hb dX10_feed_32 rfl (lv_at hl 0 rfl) ?_
    refine lv_iload hx hb dX10_feed_33 (lv_at hl 4 rfl) ?_
    refine x_V (As := [.int x4]) (rest := []) C (a_X10_puts l K G H358 (x4) (x359) hTH358 ga0 ex359 g360 g361 g362 g363 (by omega)) yo_X10_puts wM_X10_188 ⟨⟨by decide, by decide⟩, by decide, by decide⟩ (x_rv C hTH358 (ci := 10) rfl ga0 rg_112) rfl hl.1 rfl (Nat.le_of_ble_eq_true rfl) dX10_feed_35 hSH358 (AE_sub (fun _ _ => rfl) (by decide) hSH358.1) (fun vH367 H367 locsH367 pH367 zH367 kH367 hSH367 => ?_)
    obtain ⟨x368, hvH367, ex368, hrH367, g369, g370, g371, g372, mf373, hTH367⟩ := pH367
    subst hvH367
    have m374 := (MF.i mf373 (k := 0) (by decide) (by decide)).trans m365
    have mf375 : MF K s.heap H367 a0 [0, 18] := MF.trans mf366 mf373 (by decide)
    have bx368 := ty_fi (x := x368) (k := 18) ex368 hTH367 ga0 rg_112 rfl
    refine W.eq (g2 := F0 m 38 ls []) rfl ?_
    refine lv_aload_n hx hb dX10_feed_38 rfl (lv_at hl 0 rfl) ?_
    refine lv_iload hx hb dX10_feed_39 (lv_at hl 5 rfl) ?_
    refine x_V (As := [.int x5]) (rest := []) C (a_X10_puts l K G H367 (x5) (x368) hTH367 ga0 ex368 g369 g370 g371 g372 (by omega)) yo_X10_puts wM_X10_188 ⟨⟨by decide, by decide⟩, by decide, by decide⟩ (x_rv C hTH367 (ci := 10) rfl ga0 rg_112) rfl hl.1 rfl (Nat.le_of_ble_eq_true rfl) dX10_feed_41 hSH367 (AE_sub (fun _ _ => rfl) (by decide) hSH367.1) (fun vH376 H376 locsH376 pH376 zH376 kH376 hSH376 => ?_)
    obtain ⟨x377, hvH376, ex377, hrH376, g378, g379, g380, g381, mf382, hTH376⟩ := pH376
    subst hvH376
    have m383 := (MF.i mf382 (k := 0) (by decide) (by decide)).trans m374
    have mf384 : MF K s.heap H376 a0 [0, 18] := MF.trans mf375 mf382 (by decide)
    have bx377 := ty_fi (x := x377) (k := 18) ex377 hTH376 ga0 rg_112 rfl
    refine W.eq (g2 := F0 m 44 ls []) rfl ?_
    refine lv_aload_n hx hb dX10_feed_44 rfl (lv_at hl 0 rfl) ?_
    refine x_gi C hTH376 (ci := 10) (k := 18) rfl inX10 (by decide) wF_X10_185 ga0 rg_112 rfl dX10_feed_45 (fun x385 ex385 bx385 => ?_)
    have ux385 : x377 = x385 := (ex377).trans ex385.symm
    subst ux385
    exact x_iret C hQ dX10_feed_48 hSH376 (by decide) (by decide) (⟨x377, x377, rfl, ex377, by omega, g378, g379, g380, g381, mf384, hTH376⟩)
  · have k339 := i_nle c338
    refine lv_iconst (v := (-1)) hx hb dX10_feed_15 (by decide) ?_
    exact x_iret C hQ dX10_feed_16 hSH329 (by decide) (by decide) (⟨(-1), tp, rfl, m335, by omega, g331, g332, g333, g334, mf330, hTH329⟩)

set_option maxHeartbeats 4000000 in
set_option maxRecDepth 100000 in
theorem a_X10_end_t (l : Launch) (K : KE) (G : Nat → Option Nat) (H : Heap) {a0 : Nat} (x1 : Int32) (tp : Int32) (hT : TY K G H) (ga0 : G a0 = some 112) (etp : tp = fI H a0 (K.1.2 10 18)) (hg_CG : CG (avw K H a0)) (hg_TU : TU (avw K H a0) (svw K H a0)) (hg_WD : WD (avw K H a0)) (hg_IM : IM (avw K H a0)) : MX l K yX10_end cX10_end 2 (some .boolean) 1 23 0 0 [.ref a0, .int x1] H (AE G [112] H.size) (fun v H1 => ∃ (r : Int32) (t0 : Int32), v = some (.int r) ∧ (0 ≤ r.toInt ∧ r.toInt ≤ 1) ∧ t0 = fI H1 a0 (K.1.2 10 18) ∧ ((0 ≤ x1.toInt ∧ x1.toInt ≤ tp.toInt ∧ r.toInt = 1 ∧ t0.toInt = x1.toInt) ∨ ((x1.toInt < 0 ∨ tp.toInt < x1.toInt) ∧ r.toInt = 0 ∧ t0.toInt = tp.toInt)) ∧ (CG (avw K H1 a0)) ∧ (TU (avw K H1 a0) (svw K H1 a0)) ∧ (WD (avw K H1 a0)) ∧ (IM (avw K H1 a0)) ∧ MF K H H1 a0 [0, 18] ∧ TY K G H1) := by
  refine MX.of (by decide +kernel) (Nat.le_of_ble_eq_true rfl) ?_
  intro p e s m below meth c ls Q C hH hl hQ
  subst hH
  have C : CX p K s m _ meth c RX10 cX10_end 2 (some .boolean) "end" := C
  obtain ⟨hx, hb, hml, hown, hts, hKT, hr, hlocks, hnm⟩ := id C
  have hl : lv_has ls 2 [(0, .ref a0), (1, .int x1)] := hl
  have hS : va_S (AE G [112] s.heap.size) s.heap s.heap [] := va_S.rf
  have n_0 : (0 : Int32).toInt = 0 := rfl
  have n_1 : (1 : Int32).toInt = 1 := rfl
  have btp := ty_fi (x := tp) (k := 18) etp hT ga0 rg_112 rfl
  have hap : ∀ x y, x < 74 → y < 74 → x ≠ y → K.1.2 10 x ≠ K.1.2 10 y := x_apart hKT hts inX10 tyX10 tyX10_ok nmX10 rfl
  have mf0 : MF K s.heap s.heap a0 [0, 18] := fun _ _ _ => rfl
  refine lv_aload_n hx hb dX10_end_0 rfl (lv_at hl 0 rfl) ?_
  refine lv_iconst (v := 0) hx hb dX10_end_1 (by decide) ?_
  refine x_put C hT hS (ci := 10) (k := 0) (v := .int 0) (ty0 := tyX10) rfl inX10 tyX10_ok nmX10 (by decide) rfl wF_X10_167 ga0 rg_112 rfl rfl (okI (by have := i_rng (0 : Int32); omega) (by have := i_rng (0 : Int32); omega)) rfl rfl (AE_in ga0 (by decide)) dX10_end_2 (fun H193 locsH193 hTH193 hSH193 wH193 => ?_)
  have mf194 : MF K s.heap H193 a0 [0, 18] := MF.fld hap wH193 (by decide) (by decide) mf0
  have g195 : CG (avw K H193 a0) := CG.congr (fun k hk j => av_fld hT ga0 hap wH193 (by decide) (CG_ok 112 (by decide) k hk) (CG_ne 0 (by decide) k hk)) hg_CG
  have g196 : TU (avw K H193 a0) (svw K H193 a0) := TU.congr (fun k hk j => av_fld hT ga0 hap wH193 (by decide) (TU_ok 112 (by decide) k hk) (TU_ne 0 (by decide) k hk)) (fun k hk => sv_fld hap wH193 (by decide) (TU_slt k hk) (TU_sne 0 (by decide) k hk)) hg_TU
  have g197 : WD (avw K H193 a0) := WD.congr (fun k hk j => av_fld hT ga0 hap wH193 (by decide) (WD_ok 112 (by decide) k hk) (WD_ne 0 (by decide) k hk)) hg_WD
  have g198 : IM (avw K H193 a0) := IM.congr (fun k hk j => av_fld hT ga0 hap wH193 (by decide) (IM_ok 112 (by decide) k hk) (IM_ne 0 (by decide) k hk)) hg_IM
  have m199 := etp.trans (Wr.neI wH193 (Or.inr (x_apart hKT hts inX10 tyX10 tyX10_ok nmX10 rfl 18 0 (by decide) (by decide) (by decide)))).symm
  have m200 := Wr.I wH193
  refine lv_aload_n hx hb dX10_end_5 rfl (lv_at hl 0 rfl) ?_
  refine lv_iload_n hx hb dX10_end_6 rfl (lv_at hl 1 rfl) ?_
  refine lv_iconst (v := 0) hx hb dX10_end_7 (by decide) ?_
  refine lv_aload_n hx hb dX10_end_8 rfl (lv_at hl 0 rfl) ?_
  refine x_gi C hTH193 (ci := 10) (k := 18) rfl inX10 (by decide) wF_X10_185 ga0 rg_112 rfl dX10_end_9 (fun x201 ex201 bx201 => ?_)
  have ux201 : tp = x201 := (m199).trans ex201.symm
  subst ux201
  refine x_V (As := [.int x1, .int 0, .int tp]) (rest := []) C (c_X10_isIn l K G H193 (x1) (0) (tp) hTH193 ga0) yo_X10_isIn wM_X10_177 ⟨⟨by decide, by decide⟩, by decide, by decide⟩ (x_rv C hTH193 (ci := 10) rfl ga0 rg_112) rfl hl.1 rfl (Nat.le_of_ble_eq_true rfl) dX10_end_12 hSH193 (AE_sub (fun _ _ => rfl) (by decide) hSH193.1) (fun vH202 H202 locsH202 pH202 zH202 kH202 hSH202 => ?_)
  have hqH202 := pH202.1.symm
  subst hqH202
  rcases pH202.2 with ⟨hvH202, hcH202⟩ | ⟨hvH202, hcH202⟩
  · subst hvH202
    refine W.eq (g2 := F0 m 15 ls [.int 1]) rfl ?_
    refine lv_if_ne (tgt := 20) hx hb dX10_end_15 (by decide) (fun c203 => ?_) (fun c203 => ?_)
    · have k204 := i_ne c203
      refine lv_aload_n hx hb dX10_end_20 rfl (lv_at hl 0 rfl) ?_
      refine lv_iload_n hx hb dX10_end_21 rfl (lv_at hl 1 rfl) ?_
      refine x_put C hTH193 hSH202 (ci := 10) (k := 18) (v := .int x1) (ty0 := tyX10) rfl inX10 tyX10_ok nmX10 (by decide) rfl wF_X10_185 ga0 rg_112 rfl rfl (okI (by have := i_rng x1; omega) (by have := i_rng x1; omega)) rfl rfl (AE_in ga0 (by decide)) dX10_end_22 (fun H205 locsH205 hTH205 hSH205 wH205 => ?_)
      have mf206 : MF K s.heap H205 a0 [0, 18] := MF.fld hap wH205 (by decide) (by decide) mf194
      have g207 : CG (avw K H205 a0) := CG.congr (fun k hk j => av_fld hTH193 ga0 hap wH205 (by decide) (CG_ok 112 (by decide) k hk) (CG_ne 18 (by decide) k hk)) g195
      have g208 : TU (avw K H205 a0) (svw K H205 a0) := TU.congr (fun k hk j => av_fld hTH193 ga0 hap wH205 (by decide) (TU_ok 112 (by decide) k hk) (TU_ne 18 (by decide) k hk)) (fun k hk => sv_fld hap wH205 (by decide) (TU_slt k hk) (TU_sne 18 (by decide) k hk)) g196
      have g209 : WD (avw K H205 a0) := WD.congr (fun k hk j => av_fld hTH193 ga0 hap wH205 (by decide) (WD_ok 112 (by decide) k hk) (WD_ne 18 (by decide) k hk)) g197
      have g210 : IM (avw K H205 a0) := IM.congr (fun k hk j => av_fld hTH193 ga0 hap wH205 (by decide) (IM_ok 112 (by decide) k hk) (IM_ne 18 (by decide) k hk)) g198
      have m212 := (Wr.neI wH205 (Or.inr (x_apart hKT hts inX10 tyX10 tyX10_ok nmX10 rfl 0 18 (by decide) (by decide) (by decide)))).trans m200
      have m213 := Wr.I wH205
      have m213 := m213.symm
      refine lv_iconst (v := 1) hx hb dX10_end_25 (by decide) ?_
      exact x_zret C hQ (Or.inr rfl) dX10_end_26 hSH205 (by decide) (by decide) (⟨1, x1, rfl, by decide, m213, by omega, g207, g208, g209, g210, mf206, hTH205⟩)
    · have k204 := i_eq c203
      exfalso
      omega
  · subst hvH202
    refine W.eq (g2 := F0 m 15 ls [.int 0]) rfl ?_
    refine lv_if_ne (tgt := 20) hx hb dX10_end_15 (by decide) (fun c214 => ?_) (fun c214 => ?_)
    · have k215 := i_ne c214
      exfalso
      omega
    · have k215 := i_eq c214
      refine lv_iconst (v := 0) hx hb dX10_end_18 (by decide) ?_
      exact x_zret C hQ (Or.inl rfl) dX10_end_19 hSH202 (by decide) (by decide) (⟨0, tp, rfl, by decide, m199, by omega, g195, g196, g197, g198, mf194, hTH193⟩)
