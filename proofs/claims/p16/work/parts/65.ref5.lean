theorem TU.putT {K : KE} {G : Nat → Option Nat} {H H1 : Heap} {b q i : Nat} {x : Int32} (hT : TY K G H) (gb : G b = some 112) (w : Wr H H1 q i (.int x)) (gq : G q = some 125) (eq : q = fR H b (K.1.2 10 16)) (hx : 1 ≤ x.toInt) (h : TU (avw K H b) (svw K H b)) : TU (avw K H1 b) (svw K H1 b) := by
  refine ⟨fun j hj => ?_, fun j hj => ?_⟩
  · rw [sv_arr gb w gq (by decide)] at hj
    show 1 ≤ (fI H1 (fR H1 b (K.1.2 10 16)) j).toInt
    rw [Wr.neR w (Or.inl (G_ne gb gq (by decide))), ← eq]
    by_cases e : j = i
    · rw [e, Wr.I w]; exact hx
    · rw [Wr.neI w (Or.inr e), eq]; exact h.1 j hj
  · rw [sv_arr gb w gq (by decide)] at hj
    rw [av_arr (k := 4) hT gb w gq (by decide) (by decide)]
    exact h.2 j hj
theorem TU.putS {K : KE} {G : Nat → Option Nat} {H H1 : Heap} {b q i : Nat} {x : Int32} (hT : TY K G H) (gb : G b = some 112) (w : Wr H H1 q i (.int x)) (gq : G q = some 113) (eq : q = fR H b (K.1.2 10 4)) (hx : 1 ≤ x.toInt) (h : TU (avw K H b) (svw K H b)) : TU (avw K H1 b) (svw K H1 b) := by
  refine ⟨fun j hj => ?_, fun j hj => ?_⟩
  · rw [sv_arr gb w gq (by decide)] at hj
    rw [av_arr (k := 16) hT gb w gq (by decide) (by decide)]
    exact h.1 j hj
  · rw [sv_arr gb w gq (by decide)] at hj
    show 1 ≤ (fI H1 (fR H1 b (K.1.2 10 4)) j).toInt
    rw [Wr.neR w (Or.inl (G_ne gb gq (by decide))), ← eq]
    by_cases e : j = i
    · rw [e, Wr.I w]; exact hx
    · rw [Wr.neI w (Or.inr e), eq]; exact h.2 j hj
theorem TU.abS {K : KE} {H : Heap} {b q n : Nat} {x : Int32} {hi : Int} (h : TU (avw K H b) (svw K H b)) (eq : q = fR H b (K.1.2 10 4)) (ex : x = fI H b (K.1.2 10 1)) (hn : (n : Int) ≤ x.toInt) (hh : ∀ j : Nat, j < n → (fI H q j).toInt ≤ hi) : AB H q n 1 hi := fun j hj => ⟨by subst eq; exact h.2 j (by show (j : Int) < (fI H b (K.1.2 10 1)).toInt; rw [← ex]; omega), hh j hj⟩
theorem TU.abT {K : KE} {H : Heap} {b q n : Nat} {x : Int32} {hi : Int} (h : TU (avw K H b) (svw K H b)) (eq : q = fR H b (K.1.2 10 16)) (ex : x = fI H b (K.1.2 10 1)) (hn : (n : Int) ≤ 2 * x.toInt) (hh : ∀ j : Nat, j < n → (fI H q j).toInt ≤ hi) : AB H q n 1 hi := fun j hj => ⟨by subst eq; exact h.1 j (by show (j : Int) < 2 * (fI H b (K.1.2 10 1)).toInt; rw [← ex]; omega), hh j hj⟩
theorem TU.grow {K : KE} {G : Nat → Option Nat} {H H1 : Heap} {b q q4 n n4 : Nat} {x : Int32} {hi hi4 : Int} (hT : TY K G H) (gb : G b = some 112) (hap : ∀ x y, x < 74 → y < 74 → x ≠ y → K.1.2 10 x ≠ K.1.2 10 y) (w : Wr H H1 b (K.1.2 10 1) (.int x)) (eq : q = fR H b (K.1.2 10 16)) (eq4 : q4 = fR H b (K.1.2 10 4)) (h : AB H q n 1 hi) (h4 : AB H q4 n4 1 hi4) (hn : 2 * x.toInt ≤ (n : Int)) (hn4 : x.toInt ≤ (n4 : Int)) : TU (avw K H1 b) (svw K H1 b) := by
  have es : (svw K H1 b 1).toInt = x.toInt := by show (fI H1 b (K.1.2 10 1)).toInt = _; rw [Wr.I w]
  refine ⟨fun j hj => ?_, fun j hj => ?_⟩
  · rw [es] at hj
    rw [av_fld (k := 16) hT gb hap w (by decide) (by decide) (by decide)]
    show 1 ≤ (fI H (fR H b (K.1.2 10 16)) j).toInt
    rw [← eq]
    exact (h j (by omega)).1
  · rw [es] at hj
    rw [av_fld (k := 4) hT gb hap w (by decide) (by decide) (by decide)]
    show 1 ≤ (fI H (fR H b (K.1.2 10 4)) j).toInt
    rw [← eq4]
    exact (h4 j (by omega)).1
set_option maxHeartbeats 4000000 in
set_option maxRecDepth 100000 in
theorem a_X10_slice (l : Launch) (K : KE) (G : Nat → Option Nat) (H : Heap) {a0 : Nat} (x1 : Int32) (x2 : Int32) (x3 : Int32) (x4 : Int32) (x5 : Int32) (hT : TY K G H) (ga0 : G a0 = some 112) (hg_CG : CG (avw K H a0)) (hg_TU : TU (avw K H a0) (svw K H a0)) (hg_WD : WD (avw K H a0)) (hg_IM : IM (avw K H a0)) : MX l K yX10_slice cX10_slice 6 (some .boolean) 2 43 0 0 [.ref a0, .int x1, .int x2, .int x3, .int x4, .int x5] H (AE G [112, 114, 115, 116] H.size) (fun v H1 => ∃ (r : Int32), v = some (.int r) ∧ (0 ≤ r.toInt ∧ r.toInt ≤ 1) ∧ (CG (avw K H1 a0)) ∧ (TU (avw K H1 a0) (svw K H1 a0)) ∧ (WD (avw K H1 a0)) ∧ (IM (avw K H1 a0)) ∧ TY K G H1) := by
  refine MX.of (by decide +kernel) (Nat.le_of_ble_eq_true rfl) ?_
  intro p e s m below meth c ls Q C hH hl hQ
  subst hH
  have C : CX p K s m _ meth c RX10 cX10_slice 6 (some .boolean) "slice" := C
  obtain ⟨hx, hb, hml, hown, hts, hKT, hr, hlocks, hnm⟩ := id C
  have hl : lv_has ls 6 [(0, .ref a0), (1, .int x1), (2, .int x2), (3, .int x3), (4, .int x4), (5, .int x5)] := hl
  have hS : va_S (AE G [112, 114, 115, 116] s.heap.size) s.heap s.heap [] := va_S.rf
  have n_0 : (0 : Int32).toInt = 0 := rfl
  have n_1 : (1 : Int32).toInt = 1 := rfl
  have n_9 : (9 : Int32).toInt = 9 := rfl
  have n_16 : (16 : Int32).toInt = 16 := rfl
  have n_99 : (99 : Int32).toInt = 99 := rfl
  have hap : ∀ x y, x < 74 → y < 74 → x ≠ y → K.1.2 10 x ≠ K.1.2 10 y := x_apart hKT hts inX10 tyX10 tyX10_ok nmX10 rfl
  have J58 : ∀ (ls438 : Array Slot) (H437 : Heap) (locsH437 : List Loc) , lv_has ls438 6 [] → TY K G H437 → va_S (AE G [112, 114, 115, 116] s.heap.size) s.heap H437 locsH437 → (CG (avw K H437 a0)) → (TU (avw K H437 a0) (svw K H437 a0)) → (WD (avw K H437 a0)) → (IM (avw K H437 a0)) → W p l e ({ frames := 2, cells := 0, slots := 0, locals := 43 } : Room) s m (([.ref a0, .int x1, .int x2, .int x3, .int x4, .int x5] : List Value).toArray) below meth c H437 locsH437 0 0 Q (F0 m 58 ls438 []) := by
    intro ls438 H437 locsH437  hl439 hTH437 hSH437 gy440_CG gy440_TU gy440_WD gy440_IM
    refine lv_iconst (v := 0) hx hb dX10_slice_58 (by decide) ?_
    exact x_zret C hQ (Or.inl rfl) dX10_slice_59 hSH437 (by decide) (by decide) (⟨0, rfl, by decide, gy440_CG, gy440_TU, gy440_WD, gy440_IM, hTH437⟩)
  refine lv_aload_n hx hb dX10_slice_0 rfl (lv_at hl 0 rfl) ?_
  refine lv_iconst (v := 0) hx hb dX10_slice_1 (by decide) ?_
  refine x_put C hT hS (ci := 10) (k := 0) (v := .int 0) (ty0 := tyX10) rfl inX10 tyX10_ok nmX10 (by decide) rfl wF_X10_167 ga0 rg_112 rfl rfl (okI (by have := i_rng (0 : Int32); omega) (by have := i_rng (0 : Int32); omega)) rfl rfl (AE_in ga0 (by decide)) dX10_slice_2 (fun H441 locsH441 hTH441 hSH441 wH441 => ?_)
  have g442 : CG (avw K H441 a0) := CG.congr (fun k hk j => av_fld hT ga0 hap wH441 (by decide) (CG_ok 112 (by decide) k hk) (CG_ne 0 (by decide) k hk)) hg_CG
  have g443 : TU (avw K H441 a0) (svw K H441 a0) := TU.congr (fun k hk j => av_fld hT ga0 hap wH441 (by decide) (TU_ok 112 (by decide) k hk) (TU_ne 0 (by decide) k hk)) (fun k hk => sv_fld hap wH441 (by decide) (TU_slt k hk) (TU_sne 0 (by decide) k hk)) hg_TU
  have g444 : WD (avw K H441 a0) := WD.congr (fun k hk j => av_fld hT ga0 hap wH441 (by decide) (WD_ok 112 (by decide) k hk) (WD_ne 0 (by decide) k hk)) hg_WD
  have g445 : IM (avw K H441 a0) := IM.congr (fun k hk j => av_fld hT ga0 hap wH441 (by decide) (IM_ok 112 (by decide) k hk) (IM_ne 0 (by decide) k hk)) hg_IM
  have m446 := Wr.I wH441
  refine lv_aload_n hx hb dX10_slice_5 rfl (lv_at hl 0 rfl) ?_
  refine lv_iload_n hx hb dX10_slice_6 rfl (lv_at hl 1 rfl) ?_
  refine lv_iload_n hx hb dX10_slice_7 rfl (lv_at hl 2 rfl) ?_
  obtain ⟨x447, ex447⟩ : ∃ z : Int32, z = fI H441 a0 (K.1.2 10 1) := ⟨_, rfl⟩
  have bx447 := ty_fi (x := x447) (k := 1) ex447 hTH441 ga0 rg_112 rfl
  refine x_V (As := [.int x1, .int x2]) (rest := []) C (a_X10_isSlice l K G H441 (x1) (x2) (x447) hTH441 ga0 ex447) yo_X10_isSlice wM_X10_181 ⟨⟨by decide, by decide⟩, by decide, by decide⟩ (x_rv C hTH441 (ci := 10) rfl ga0 rg_112) rfl hl.1 rfl (Nat.le_of_ble_eq_true rfl) dX10_slice_8 hSH441 (AE_sub (fun _ _ => rfl) (by decide) hSH441.1) (fun vH448 H448 locsH448 pH448 zH448 kH448 hSH448 => ?_)
  obtain ⟨x449, hvH448, bx449, hrH448, hTH448⟩ := pH448
  subst hvH448
  have g450 : CG (avw K H448 a0) := CG.congr (fun k hk j => av_eff hTH441 kH448 ga0 (by decide) (CG_eff [] (by decide) k hk)) g442
  have g451 : TU (avw K H448 a0) (svw K H448 a0) := TU.congr (fun k hk j => av_eff hTH441 kH448 ga0 (by decide) (TU_eff [] (by decide) k hk)) (fun k hk => sv_eff hTH441 kH448 ga0 (by decide)) g443
  have g452 : WD (avw K H448 a0) := WD.congr (fun k hk j => av_eff hTH441 kH448 ga0 (by decide) (WD_eff [] (by decide) k hk)) g444
  have g453 : IM (avw K H448 a0) := IM.congr (fun k hk j => av_eff hTH441 kH448 ga0 (by decide) (IM_eff [] (by decide) k hk)) g445
  have m454 := (fI_kept (x_lt hTH441 kH448 ga0 (by decide))).trans m446
  have m455 := (ex447).trans (fI_kept (x_lt hTH441 kH448 ga0 (by decide))).symm
  refine W.eq (g2 := F0 m 11 ls [.int x449]) rfl ?_
  refine lv_if_eq (tgt := 58) hx hb dX10_slice_11 (by decide) (fun c456 => ?_) (fun c456 => ?_)
  · have k457 := i_eq c456
    exact J58 ls H448 locsH448 (lv_sub hl [] rfl) hTH448 hSH448 g450 g451 g452 g453
  · have k457 := i_ne c456
    refine lv_aload_n hx hb dX10_slice_14 rfl (lv_at hl 0 rfl) ?_
    refine x_gr C hTH448 (ci := 10) (k := 10) rfl inX10 (by decide) wF_X10_32 ga0 rg_112 rfl dX10_slice_15 (fun q458 eq458 gq458 => ?_)
    refine lv_iload_n hx hb dX10_slice_18 rfl (lv_at hl 1 rfl) ?_
    refine x_ai C hTH448 gq458 rg_119 ⟨by omega, by show _ < ((10 : Nat) : Int); omega⟩ dX10_slice_19 (fun x459 ex459 bx459 => ?_)
    refine lv_if_gt (tgt := 58) hx hb dX10_slice_20 (by decide) (fun c460 => ?_) (fun c460 => ?_)
    · have k461 := i_lt c460
      exact J58 ls H448 locsH448 (lv_sub hl [] rfl) hTH448 hSH448 g450 g451 g452 g453
    · have k461 := i_nlt c460
      refine lv_aload_n hx hb dX10_slice_23 rfl (lv_at hl 0 rfl) ?_
      refine lv_iload_n hx hb dX10_slice_24 rfl (lv_at hl 3 rfl) ?_
      refine lv_iconst (v := 1) hx hb dX10_slice_25 (by decide) ?_
      refine lv_bipush (v := 99) hx hb dX10_slice_26 (by decide) ?_
      refine x_V (As := [.int x3, .int 1, .int 99]) (rest := []) C (c_X10_isIn l K G H448 (x3) (1) (99) hTH448 ga0) yo_X10_isIn wM_X10_177 ⟨⟨by decide, by decide⟩, by decide, by decide⟩ (x_rv C hTH448 (ci := 10) rfl ga0 rg_112) rfl hl.1 rfl (Nat.le_of_ble_eq_true rfl) dX10_slice_28 hSH448 (AE_sub (fun _ _ => rfl) (by decide) hSH448.1) (fun vH462 H462 locsH462 pH462 zH462 kH462 hSH462 => ?_)
      have hqH462 := pH462.1.symm
      subst hqH462
      rcases pH462.2 with ⟨hvH462, hcH462⟩ | ⟨hvH462, hcH462⟩
      · subst hvH462
        refine W.eq (g2 := F0 m 31 ls [.int 1]) rfl ?_
        refine lv_if_eq (tgt := 58) hx hb dX10_slice_31 (by decide) (fun c463 => ?_) (fun c463 => ?_)
        · have k464 := i_eq c463
          exfalso
          omega
        · have k464 := i_ne c463
          refine lv_aload_n hx hb dX10_slice_34 rfl (lv_at hl 0 rfl) ?_
          refine lv_iload hx hb dX10_slice_35 (lv_at hl 4 rfl) ?_
          refine lv_iconst (v := 1) hx hb dX10_slice_37 (by decide) ?_
          refine lv_bipush (v := 9) hx hb dX10_slice_38 (by decide) ?_
          refine x_V (As := [.int x4, .int 1, .int 9]) (rest := []) C (c_X10_isIn l K G H448 (x4) (1) (9) hTH448 ga0) yo_X10_isIn wM_X10_177 ⟨⟨by decide, by decide⟩, by decide, by decide⟩ (x_rv C hTH448 (ci := 10) rfl ga0 rg_112) rfl hl.1 rfl (Nat.le_of_ble_eq_true rfl) dX10_slice_40 hSH462 (AE_sub (fun _ _ => rfl) (by decide) hSH462.1) (fun vH465 H465 locsH465 pH465 zH465 kH465 hSH465 => ?_)
          have hqH465 := pH465.1.symm
          subst hqH465
          rcases pH465.2 with ⟨hvH465, hcH465⟩ | ⟨hvH465, hcH465⟩
          · subst hvH465
            refine W.eq (g2 := F0 m 43 ls [.int 1]) rfl ?_
            refine lv_if_eq (tgt := 58) hx hb dX10_slice_43 (by decide) (fun c466 => ?_) (fun c466 => ?_)
            · have k467 := i_eq c466
              exfalso
              omega
            · have k467 := i_ne c466
              refine lv_aload_n hx hb dX10_slice_46 rfl (lv_at hl 0 rfl) ?_
              refine lv_iload hx hb dX10_slice_47 (lv_at hl 5 rfl) ?_
              refine lv_iconst (v := 1) hx hb dX10_slice_49 (by decide) ?_
              refine lv_bipush (v := 9) hx hb dX10_slice_50 (by decide) ?_
              refine x_V (As := [.int x5, .int 1, .int 9]) (rest := []) C (c_X10_isIn l K G H448 (x5) (1) (9) hTH448 ga0) yo_X10_isIn wM_X10_177 ⟨⟨by decide, by decide⟩, by decide, by decide⟩ (x_rv C hTH448 (ci := 10) rfl ga0 rg_112) rfl hl.1 rfl (Nat.le_of_ble_eq_true rfl) dX10_slice_52 hSH465 (AE_sub (fun _ _ => rfl) (by decide) hSH465.1) (fun vH468 H468 locsH468 pH468 zH468 kH468 hSH468 => ?_)
              have hqH468 := pH468.1.symm
              subst hqH468
              rcases pH468.2 with ⟨hvH468, hcH468⟩ | ⟨hvH468, hcH468⟩
              · subst hvH468
                refine W.eq (g2 := F0 m 55 ls [.int 1]) rfl ?_
                refine lv_if_ne (tgt := 60) hx hb dX10_slice_55 (by decide) (fun c469 => ?_) (fun c469 => ?_)
                · have k470 := i_ne c469
                  refine lv_aload_n hx hb dX10_slice_60 rfl (lv_at hl 0 rfl) ?_
                  refine x_gr C hTH448 (ci := 10) (k := 5) rfl inX10 (by decide) wF_X10_17 ga0 rg_112 rfl dX10_slice_61 (fun q471 eq471 gq471 => ?_)
                  refine lv_bipush (v := 16) hx hb dX10_slice_64 (by decide) ?_
                  refine lv_iload_n hx hb dX10_slice_66 rfl (lv_at hl 1 rfl) ?_
                  refine lv_imul hx hb dX10_slice_67 ?_
                  refine lv_topi (fun x472 ex472 => ?_)
                  have tx472 := i_mul ex472 (by rw [n_16]; omega)
                  rw [n_16] at tx472
                  refine lv_iload_n hx hb dX10_slice_68 rfl (lv_at hl 2 rfl) ?_
                  refine lv_iadd hx hb dX10_slice_69 ?_
                  refine lv_topi (fun x473 ex473 => ?_)
                  have tx473 := i_add ex473 (by omega)
                  refine lv_iload_n hx hb dX10_slice_70 rfl (lv_at hl 3 rfl) ?_
                  refine x_iast C hTH448 hSH468 gq471 rg_114 (by omega) (by show _ < ((160 : Nat) : Int); omega) ⟨by have := i_rng x3; omega, by have := i_rng x3; omega⟩ (AE_in gq471 (by decide)) dX10_slice_71 (fun H474 locsH474 hTH474 hSH474 wH474 => ?_)
                  have g475 : CG (avw K H474 a0) := CG.congr (fun k hk j => av_arr hTH448 ga0 wH474 gq471 (by decide) (CG_ok 114 (by decide) k hk)) g450
                  have g476 : TU (avw K H474 a0) (svw K H474 a0) := TU.congr (fun k hk j => av_arr hTH448 ga0 wH474 gq471 (by decide) (TU_ok 114 (by decide) k hk)) (fun k hk => sv_arr ga0 wH474 gq471 (by decide)) g451
                  have g477 : WD (avw K H474 a0) := WD.congr (fun k hk j => av_arr hTH448 ga0 wH474 gq471 (by decide) (WD_ok 114 (by decide) k hk)) g452
                  have g478 : IM (avw K H474 a0) := IM.congr (fun k hk j => av_arr hTH448 ga0 wH474 gq471 (by decide) (IM_ok 114 (by decide) k hk)) g453
                  have m479 := (Wr.neI wH474 (Or.inl (G_ne ga0 gq471 (by decide)))).trans m454
                  have m480 := m455.trans (Wr.neI wH474 (Or.inl (G_ne ga0 gq471 (by decide)))).symm
                  have m481 := eq458.trans (Wr.neR wH474 (Or.inl (G_ne ga0 gq471 (by decide)))).symm
                  have m482 := ex459.trans (Wr.neI wH474 (Or.inl (G_ne gq458 gq471 (by decide)))).symm
                  have m483 := eq471.trans (Wr.neR wH474 (Or.inl (G_ne ga0 gq471 (by decide)))).symm
                  have m484 := Wr.I wH474
                  have m484 := m484.symm
                  refine lv_aload_n hx hb dX10_slice_72 rfl (lv_at hl 0 rfl) ?_
                  refine x_gr C hTH474 (ci := 10) (k := 6) rfl inX10 (by decide) wF_X10_20 ga0 rg_112 rfl dX10_slice_73 (fun q485 eq485 gq485 => ?_)
                  refine lv_bipush (v := 16) hx hb dX10_slice_76 (by decide) ?_
                  refine lv_iload_n hx hb dX10_slice_78 rfl (lv_at hl 1 rfl) ?_
                  refine lv_imul hx hb dX10_slice_79 ?_
                  refine lv_topi (fun x486 ex486 => ?_)
                  have tx486 := i_mul ex486 (by rw [n_16]; omega)
                  rw [n_16] at tx486
                  refine lv_iload_n hx hb dX10_slice_80 rfl (lv_at hl 2 rfl) ?_
                  refine lv_iadd hx hb dX10_slice_81 ?_
                  refine lv_topi (fun x487 ex487 => ?_)
                  have tx487 := i_add ex487 (by omega)
                  refine lv_iload hx hb dX10_slice_82 (lv_at hl 4 rfl) ?_
                  refine x_iast C hTH474 hSH474 gq485 rg_115 (by omega) (by show _ < ((160 : Nat) : Int); omega) ⟨by have := i_rng x4; omega, by have := i_rng x4; omega⟩ (AE_in gq485 (by decide)) dX10_slice_84 (fun H488 locsH488 hTH488 hSH488 wH488 => ?_)
                  have g489 : CG (avw K H488 a0) := CG.congr (fun k hk j => av_arr hTH474 ga0 wH488 gq485 (by decide) (CG_ok 115 (by decide) k hk)) g475
                  have g490 : TU (avw K H488 a0) (svw K H488 a0) := TU.congr (fun k hk j => av_arr hTH474 ga0 wH488 gq485 (by decide) (TU_ok 115 (by decide) k hk)) (fun k hk => sv_arr ga0 wH488 gq485 (by decide)) g476
                  have g491 : WD (avw K H488 a0) := WD.congr (fun k hk j => av_arr hTH474 ga0 wH488 gq485 (by decide) (WD_ok 115 (by decide) k hk)) g477
                  have g492 : IM (avw K H488 a0) := IM.congr (fun k hk j => av_arr hTH474 ga0 wH488 gq485 (by decide) (IM_ok 115 (by decide) k hk)) g478
                  have m493 := (Wr.neI wH488 (Or.inl (G_ne ga0 gq485 (by decide)))).trans m479
                  have m494 := m480.trans (Wr.neI wH488 (Or.inl (G_ne ga0 gq485 (by decide)))).symm
                  have m495 := m481.trans (Wr.neR wH488 (Or.inl (G_ne ga0 gq485 (by decide)))).symm
                  have m496 := m482.trans (Wr.neI wH488 (Or.inl (G_ne gq458 gq485 (by decide)))).symm
                  have m497 := m483.trans (Wr.neR wH488 (Or.inl (G_ne ga0 gq485 (by decide)))).symm
                  have m498 := m484.trans (Wr.neI wH488 (Or.inl (G_ne gq471 gq485 (by decide)))).symm
                  have m499 := eq485.trans (Wr.neR wH488 (Or.inl (G_ne ga0 gq485 (by decide)))).symm
                  have m500 := Wr.I wH488
                  have m500 := m500.symm
                  refine lv_aload_n hx hb dX10_slice_85 rfl (lv_at hl 0 rfl) ?_
                  refine x_gr C hTH488 (ci := 10) (k := 7) rfl inX10 (by decide) wF_X10_23 ga0 rg_112 rfl dX10_slice_86 (fun q501 eq501 gq501 => ?_)
                  refine lv_bipush (v := 16) hx hb dX10_slice_89 (by decide) ?_
                  refine lv_iload_n hx hb dX10_slice_91 rfl (lv_at hl 1 rfl) ?_
                  refine lv_imul hx hb dX10_slice_92 ?_
                  refine lv_topi (fun x502 ex502 => ?_)
                  have tx502 := i_mul ex502 (by rw [n_16]; omega)
                  rw [n_16] at tx502
                  refine lv_iload_n hx hb dX10_slice_93 rfl (lv_at hl 2 rfl) ?_
                  refine lv_iadd hx hb dX10_slice_94 ?_
                  refine lv_topi (fun x503 ex503 => ?_)
                  have tx503 := i_add ex503 (by omega)
                  refine lv_iload hx hb dX10_slice_95 (lv_at hl 5 rfl) ?_
                  refine x_iast C hTH488 hSH488 gq501 rg_116 (by omega) (by show _ < ((160 : Nat) : Int); omega) ⟨by have := i_rng x5; omega, by have := i_rng x5; omega⟩ (AE_in gq501 (by decide)) dX10_slice_97 (fun H504 locsH504 hTH504 hSH504 wH504 => ?_)
                  have g505 : CG (avw K H504 a0) := CG.congr (fun k hk j => av_arr hTH488 ga0 wH504 gq501 (by decide) (CG_ok 116 (by decide) k hk)) g489
                  have g506 : TU (avw K H504 a0) (svw K H504 a0) := TU.congr (fun k hk j => av_arr hTH488 ga0 wH504 gq501 (by decide) (TU_ok 116 (by decide) k hk)) (fun k hk => sv_arr ga0 wH504 gq501 (by decide)) g490
                  have g507 : WD (avw K H504 a0) := WD.congr (fun k hk j => av_arr hTH488 ga0 wH504 gq501 (by decide) (WD_ok 116 (by decide) k hk)) g491
                  have g508 : IM (avw K H504 a0) := IM.congr (fun k hk j => av_arr hTH488 ga0 wH504 gq501 (by decide) (IM_ok 116 (by decide) k hk)) g492
                  have m509 := (Wr.neI wH504 (Or.inl (G_ne ga0 gq501 (by decide)))).trans m493
                  have m510 := m494.trans (Wr.neI wH504 (Or.inl (G_ne ga0 gq501 (by decide)))).symm
                  have m511 := m495.trans (Wr.neR wH504 (Or.inl (G_ne ga0 gq501 (by decide)))).symm
                  have m512 := m496.trans (Wr.neI wH504 (Or.inl (G_ne gq458 gq501 (by decide)))).symm
                  have m513 := m497.trans (Wr.neR wH504 (Or.inl (G_ne ga0 gq501 (by decide)))).symm
                  have m514 := m498.trans (Wr.neI wH504 (Or.inl (G_ne gq471 gq501 (by decide)))).symm
                  have m515 := m499.trans (Wr.neR wH504 (Or.inl (G_ne ga0 gq501 (by decide)))).symm
                  have m516 := m500.trans (Wr.neI wH504 (Or.inl (G_ne gq485 gq501 (by decide)))).symm
                  have m517 := eq501.trans (Wr.neR wH504 (Or.inl (G_ne ga0 gq501 (by decide)))).symm
                  have m518 := Wr.I wH504
                  have m518 := m518.symm
                  refine lv_iconst (v := 1) hx hb dX10_slice_98 (by decide) ?_
                  exact x_zret C hQ (Or.inr rfl) dX10_slice_99 hSH504 (by decide) (by decide) (⟨1, rfl, by decide, g505, g506, g507, g508, hTH504⟩)
                · have k470 := i_eq c469
                  exfalso
                  omega
              · subst hvH468
                refine W.eq (g2 := F0 m 55 ls [.int 0]) rfl ?_
                refine lv_if_ne (tgt := 60) hx hb dX10_slice_55 (by decide) (fun c519 => ?_) (fun c519 => ?_)
                · have k520 := i_ne c519
                  exfalso
                  omega
                · have k520 := i_eq c519
                  exact J58 ls H448 locsH468 (lv_sub hl [] rfl) hTH448 hSH468 g450 g451 g452 g453
          · subst hvH465
            refine W.eq (g2 := F0 m 43 ls [.int 0]) rfl ?_
            refine lv_if_eq (tgt := 58) hx hb dX10_slice_43 (by decide) (fun c521 => ?_) (fun c521 => ?_)
            · have k522 := i_eq c521
              exact J58 ls H448 locsH465 (lv_sub hl [] rfl) hTH448 hSH465 g450 g451 g452 g453
            · have k522 := i_ne c521
              exfalso
              omega
      · subst hvH462
        refine W.eq (g2 := F0 m 31 ls [.int 0]) rfl ?_
        refine lv_if_eq (tgt := 58) hx hb dX10_slice_31 (by decide) (fun c523 => ?_) (fun c523 => ?_)
        · have k524 := i_eq c523
          exact J58 ls H448 locsH462 (lv_sub hl [] rfl) hTH448 hSH462 g450 g451 g452 g453
        · have k524 := i_ne c523
          exfalso
          omega

set_option maxHeartbeats 4000000 in
set_option maxRecDepth 100000 in
theorem a_X10_wax (l : Launch) (K : KE) (G : Nat → Option Nat) (H : Heap) {a0 : Nat} (x1 : Int32) (x2 : Int32) (x3 : Int32) (hT : TY K G H) (ga0 : G a0 = some 112) (hg_CG : CG (avw K H a0)) (hg_TU : TU (avw K H a0) (svw K H a0)) (hg_WD : WD (avw K H a0)) (hg_IM : IM (avw K H a0)) : MX l K yX10_wax cX10_wax 4 (some .boolean) 2 43 0 0 [.ref a0, .int x1, .int x2, .int x3] H (AE G [112, 117] H.size) (fun v H1 => ∃ (r : Int32), v = some (.int r) ∧ (0 ≤ r.toInt ∧ r.toInt ≤ 1) ∧ (CG (avw K H1 a0)) ∧ (TU (avw K H1 a0) (svw K H1 a0)) ∧ (WD (avw K H1 a0)) ∧ (IM (avw K H1 a0)) ∧ TY K G H1) := by
  refine MX.of (by decide +kernel) (Nat.le_of_ble_eq_true rfl) ?_
  intro p e s m below meth c ls Q C hH hl hQ
  subst hH
  have C : CX p K s m _ meth c RX10 cX10_wax 4 (some .boolean) "wax" := C
  obtain ⟨hx, hb, hml, hown, hts, hKT, hr, hlocks, hnm⟩ := id C
  have hl : lv_has ls 4 [(0, .ref a0), (1, .int x1), (2, .int x2), (3, .int x3)] := hl
  have hS : va_S (AE G [112, 117] s.heap.size) s.heap s.heap [] := va_S.rf
  have n_0 : (0 : Int32).toInt = 0 := rfl
  have n_1 : (1 : Int32).toInt = 1 := rfl
  have n_16 : (16 : Int32).toInt = 16 := rfl
  have n_99 : (99 : Int32).toInt = 99 := rfl
  have hap : ∀ x y, x < 74 → y < 74 → x ≠ y → K.1.2 10 x ≠ K.1.2 10 y := x_apart hKT hts inX10 tyX10 tyX10_ok nmX10 rfl
  have J25 : ∀ (ls238 : Array Slot) (H237 : Heap) (locsH237 : List Loc) , lv_has ls238 4 [] → TY K G H237 → va_S (AE G [112, 117] s.heap.size) s.heap H237 locsH237 → (CG (avw K H237 a0)) → (TU (avw K H237 a0) (svw K H237 a0)) → (WD (avw K H237 a0)) → (IM (avw K H237 a0)) → W p l e ({ frames := 2, cells := 0, slots := 0, locals := 43 } : Room) s m (([.ref a0, .int x1, .int x2, .int x3] : List Value).toArray) below meth c H237 locsH237 0 0 Q (F0 m 25 ls238 []) := by
    intro ls238 H237 locsH237  hl239 hTH237 hSH237 gy240_CG gy240_TU gy240_WD gy240_IM
    refine lv_iconst (v := 0) hx hb dX10_wax_25 (by decide) ?_
    exact x_zret C hQ (Or.inl rfl) dX10_wax_26 hSH237 (by decide) (by decide) (⟨0, rfl, by decide, gy240_CG, gy240_TU, gy240_WD, gy240_IM, hTH237⟩)
  refine lv_aload_n hx hb dX10_wax_0 rfl (lv_at hl 0 rfl) ?_
  refine lv_iconst (v := 0) hx hb dX10_wax_1 (by decide) ?_
  refine x_put C hT hS (ci := 10) (k := 0) (v := .int 0) (ty0 := tyX10) rfl inX10 tyX10_ok nmX10 (by decide) rfl wF_X10_167 ga0 rg_112 rfl rfl (okI (by have := i_rng (0 : Int32); omega) (by have := i_rng (0 : Int32); omega)) rfl rfl (AE_in ga0 (by decide)) dX10_wax_2 (fun H241 locsH241 hTH241 hSH241 wH241 => ?_)
  have g242 : CG (avw K H241 a0) := CG.congr (fun k hk j => av_fld hT ga0 hap wH241 (by decide) (CG_ok 112 (by decide) k hk) (CG_ne 0 (by decide) k hk)) hg_CG
  have g243 : TU (avw K H241 a0) (svw K H241 a0) := TU.congr (fun k hk j => av_fld hT ga0 hap wH241 (by decide) (TU_ok 112 (by decide) k hk) (TU_ne 0 (by decide) k hk)) (fun k hk => sv_fld hap wH241 (by decide) (TU_slt k hk) (TU_sne 0 (by decide) k hk)) hg_TU
  have g244 : WD (avw K H241 a0) := WD.congr (fun k hk j => av_fld hT ga0 hap wH241 (by decide) (WD_ok 112 (by decide) k hk) (WD_ne 0 (by decide) k hk)) hg_WD
  have g245 : IM (avw K H241 a0) := IM.congr (fun k hk j => av_fld hT ga0 hap wH241 (by decide) (IM_ok 112 (by decide) k hk) (IM_ne 0 (by decide) k hk)) hg_IM
  have m246 := Wr.I wH241
  refine lv_aload_n hx hb dX10_wax_5 rfl (lv_at hl 0 rfl) ?_
  refine lv_iload_n hx hb dX10_wax_6 rfl (lv_at hl 1 rfl) ?_
  refine lv_iload_n hx hb dX10_wax_7 rfl (lv_at hl 2 rfl) ?_
  obtain ⟨x247, ex247⟩ : ∃ z : Int32, z = fI H241 a0 (K.1.2 10 1) := ⟨_, rfl⟩
  have bx247 := ty_fi (x := x247) (k := 1) ex247 hTH241 ga0 rg_112 rfl
  refine x_V (As := [.int x1, .int x2]) (rest := []) C (a_X10_isSlice l K G H241 (x1) (x2) (x247) hTH241 ga0 ex247) yo_X10_isSlice wM_X10_181 ⟨⟨by decide, by decide⟩, by decide, by decide⟩ (x_rv C hTH241 (ci := 10) rfl ga0 rg_112) rfl hl.1 rfl (Nat.le_of_ble_eq_true rfl) dX10_wax_8 hSH241 (AE_sub (fun _ _ => rfl) (by decide) hSH241.1) (fun vH248 H248 locsH248 pH248 zH248 kH248 hSH248 => ?_)
  obtain ⟨x249, hvH248, bx249, hrH248, hTH248⟩ := pH248
  subst hvH248
  have g250 : CG (avw K H248 a0) := CG.congr (fun k hk j => av_eff hTH241 kH248 ga0 (by decide) (CG_eff [] (by decide) k hk)) g242
  have g251 : TU (avw K H248 a0) (svw K H248 a0) := TU.congr (fun k hk j => av_eff hTH241 kH248 ga0 (by decide) (TU_eff [] (by decide) k hk)) (fun k hk => sv_eff hTH241 kH248 ga0 (by decide)) g243
  have g252 : WD (avw K H248 a0) := WD.congr (fun k hk j => av_eff hTH241 kH248 ga0 (by decide) (WD_eff [] (by decide) k hk)) g244
  have g253 : IM (avw K H248 a0) := IM.congr (fun k hk j => av_eff hTH241 kH248 ga0 (by decide) (IM_eff [] (by decide) k hk)) g245
  have m254 := (fI_kept (x_lt hTH241 kH248 ga0 (by decide))).trans m246
  have m255 := (ex247).trans (fI_kept (x_lt hTH241 kH248 ga0 (by decide))).symm
  refine W.eq (g2 := F0 m 11 ls [.int x249]) rfl ?_
  refine lv_if_eq (tgt := 25) hx hb dX10_wax_11 (by decide) (fun c256 => ?_) (fun c256 => ?_)
  · have k257 := i_eq c256
    exact J25 ls H248 locsH248 (lv_sub hl [] rfl) hTH248 hSH248 g250 g251 g252 g253
  · have k257 := i_ne c256
    refine lv_aload_n hx hb dX10_wax_14 rfl (lv_at hl 0 rfl) ?_
    refine lv_iload_n hx hb dX10_wax_15 rfl (lv_at hl 3 rfl) ?_
    refine lv_iconst (v := 0) hx hb dX10_wax_16 (by decide) ?_
    refine lv_bipush (v := 99) hx hb dX10_wax_17 (by decide) ?_
    refine x_V (As := [.int x3, .int 0, .int 99]) (rest := []) C (c_X10_isIn l K G H248 (x3) (0) (99) hTH248 ga0) yo_X10_isIn wM_X10_177 ⟨⟨by decide, by decide⟩, by decide, by decide⟩ (x_rv C hTH248 (ci := 10) rfl ga0 rg_112) rfl hl.1 rfl (Nat.le_of_ble_eq_true rfl) dX10_wax_19 hSH248 (AE_sub (fun _ _ => rfl) (by decide) hSH248.1) (fun vH258 H258 locsH258 pH258 zH258 kH258 hSH258 => ?_)
    have hqH258 := pH258.1.symm
    subst hqH258
    rcases pH258.2 with ⟨hvH258, hcH258⟩ | ⟨hvH258, hcH258⟩
    · subst hvH258
      refine W.eq (g2 := F0 m 22 ls [.int 1]) rfl ?_
      refine lv_if_ne (tgt := 27) hx hb dX10_wax_22 (by decide) (fun c259 => ?_) (fun c259 => ?_)
      · have k260 := i_ne c259
        refine lv_aload_n hx hb dX10_wax_27 rfl (lv_at hl 0 rfl) ?_
        refine x_gr C hTH248 (ci := 10) (k := 8) rfl inX10 (by decide) wF_X10_26 ga0 rg_112 rfl dX10_wax_28 (fun q261 eq261 gq261 => ?_)
        refine lv_bipush (v := 16) hx hb dX10_wax_31 (by decide) ?_
        refine lv_iload_n hx hb dX10_wax_33 rfl (lv_at hl 1 rfl) ?_
        refine lv_imul hx hb dX10_wax_34 ?_
        refine lv_topi (fun x262 ex262 => ?_)
        have tx262 := i_mul ex262 (by rw [n_16]; omega)
        rw [n_16] at tx262
        refine lv_iload_n hx hb dX10_wax_35 rfl (lv_at hl 2 rfl) ?_
        refine lv_iadd hx hb dX10_wax_36 ?_
        refine lv_topi (fun x263 ex263 => ?_)
        have tx263 := i_add ex263 (by omega)
        refine lv_iload_n hx hb dX10_wax_37 rfl (lv_at hl 3 rfl) ?_
        refine x_iast C hTH248 hSH258 gq261 rg_117 (by omega) (by show _ < ((160 : Nat) : Int); omega) ⟨by have := i_rng x3; omega, by have := i_rng x3; omega⟩ (AE_in gq261 (by decide)) dX10_wax_38 (fun H264 locsH264 hTH264 hSH264 wH264 => ?_)
        have g265 : CG (avw K H264 a0) := CG.congr (fun k hk j => av_arr hTH248 ga0 wH264 gq261 (by decide) (CG_ok 117 (by decide) k hk)) g250
        have g266 : TU (avw K H264 a0) (svw K H264 a0) := TU.congr (fun k hk j => av_arr hTH248 ga0 wH264 gq261 (by decide) (TU_ok 117 (by decide) k hk)) (fun k hk => sv_arr ga0 wH264 gq261 (by decide)) g251
        have g267 : WD (avw K H264 a0) := WD.congr (fun k hk j => av_arr hTH248 ga0 wH264 gq261 (by decide) (WD_ok 117 (by decide) k hk)) g252
        have g268 : IM (avw K H264 a0) := IM.congr (fun k hk j => av_arr hTH248 ga0 wH264 gq261 (by decide) (IM_ok 117 (by decide) k hk)) g253
        have m269 := (Wr.neI wH264 (Or.inl (G_ne ga0 gq261 (by decide)))).trans m254
        have m270 := m255.trans (Wr.neI wH264 (Or.inl (G_ne ga0 gq261 (by decide)))).symm
        have m271 := eq261.trans (Wr.neR wH264 (Or.inl (G_ne ga0 gq261 (by decide)))).symm
        have m272 := Wr.I wH264
        have m272 := m272.symm
        refine lv_iconst (v := 1) hx hb dX10_wax_39 (by decide) ?_
        exact x_zret C hQ (Or.inr rfl) dX10_wax_40 hSH264 (by decide) (by decide) (⟨1, rfl, by decide, g265, g266, g267, g268, hTH264⟩)
      · have k260 := i_eq c259
        exfalso
        omega
    · subst hvH258
      refine W.eq (g2 := F0 m 22 ls [.int 0]) rfl ?_
      refine lv_if_ne (tgt := 27) hx hb dX10_wax_22 (by decide) (fun c273 => ?_) (fun c273 => ?_)
      · have k274 := i_ne c273
        exfalso
        omega
      · have k274 := i_eq c273
        exact J25 ls H248 locsH258 (lv_sub hl [] rfl) hTH248 hSH258 g250 g251 g252 g253

set_option maxHeartbeats 4000000 in
set_option maxRecDepth 100000 in
theorem a_X10_of (l : Launch) (K : KE) (G : Nat → Option Nat) (H : Heap) {a0 : Nat} (x1 : Int32) (x2 : Int32) (x3 : Int32) (hT : TY K G H) (ga0 : G a0 = some 112) (hg_CG : CG (avw K H a0)) (hg_TU : TU (avw K H a0) (svw K H a0)) (hg_WD : WD (avw K H a0)) (hg_IM : IM (avw K H a0)) : MX l K yX10_of cX10_of 5 (some .int) 2 43 0 0 [.ref a0, .int x1, .int x2, .int x3] H (AE G [112] H.size) (fun v H1 => ∃ (r : Int32), v = some (.int r) ∧ (CG (avw K H1 a0)) ∧ (TU (avw K H1 a0) (svw K H1 a0)) ∧ (WD (avw K H1 a0)) ∧ (IM (avw K H1 a0)) ∧ TY K G H1) := by
  refine MX.of (by decide +kernel) (Nat.le_of_ble_eq_true rfl) ?_
  intro p e s m below meth c ls Q C hH hl hQ
  subst hH
  have C : CX p K s m _ meth c RX10 cX10_of 5 (some .int) "of" := C
  obtain ⟨hx, hb, hml, hown, hts, hKT, hr, hlocks, hnm⟩ := id C
  have hl : lv_has ls 5 [(0, .ref a0), (1, .int x1), (2, .int x2), (3, .int x3)] := hl
  have hS : va_S (AE G [112] s.heap.size) s.heap s.heap [] := va_S.rf
  have n_m1 : ((-1) : Int32).toInt = -1 := rfl
  have n_0 : (0 : Int32).toInt = 0 := rfl
  have n_1 : (1 : Int32).toInt = 1 := rfl
  have n_2 : (2 : Int32).toInt = 2 := rfl
  have n_3 : (3 : Int32).toInt = 3 := rfl
  have n_16 : (16 : Int32).toInt = 16 := rfl
  have hap : ∀ x y, x < 74 → y < 74 → x ≠ y → K.1.2 10 x ≠ K.1.2 10 y := x_apart hKT hts inX10 tyX10 tyX10_ok nmX10 rfl
  have J84 : ∀ (ls255 : Array Slot) (H254 : Heap) (locsH254 : List Loc) (x257 : Int32), lv_has ls255 5 [] → TY K G H254 → va_S (AE G [112] s.heap.size) s.heap H254 locsH254 → (CG (avw K H254 a0)) → (TU (avw K H254 a0) (svw K H254 a0)) → (WD (avw K H254 a0)) → (IM (avw K H254 a0)) → W p l e ({ frames := 2, cells := 0, slots := 0, locals := 43 } : Room) s m (([.ref a0, .int x1, .int x2, .int x3] : List Value).toArray) below meth c H254 locsH254 0 0 Q (F0 m 84 ls255 [.int x257]) := by
    intro ls255 H254 locsH254 x257 hl256 hTH254 hSH254 gy258_CG gy258_TU gy258_WD gy258_IM
    exact x_iret C hQ dX10_of_84 hSH254 (by decide) (by decide) (⟨x257, rfl, gy258_CG, gy258_TU, gy258_WD, gy258_IM, hTH254⟩)
  refine lv_aload_n hx hb dX10_of_0 rfl (lv_at hl 0 rfl) ?_
  refine lv_iconst (v := 0) hx hb dX10_of_1 (by decide) ?_
  refine x_put C hT hS (ci := 10) (k := 0) (v := .int 0) (ty0 := tyX10) rfl inX10 tyX10_ok nmX10 (by decide) rfl wF_X10_167 ga0 rg_112 rfl rfl (okI (by have := i_rng (0 : Int32); omega) (by have := i_rng (0 : Int32); omega)) rfl rfl (AE_in ga0 (by decide)) dX10_of_2 (fun H259 locsH259 hTH259 hSH259 wH259 => ?_)
  have g260 : CG (avw K H259 a0) := CG.congr (fun k hk j => av_fld hT ga0 hap wH259 (by decide) (CG_ok 112 (by decide) k hk) (CG_ne 0 (by decide) k hk)) hg_CG
  have g261 : TU (avw K H259 a0) (svw K H259 a0) := TU.congr (fun k hk j => av_fld hT ga0 hap wH259 (by decide) (TU_ok 112 (by decide) k hk) (TU_ne 0 (by decide) k hk)) (fun k hk => sv_fld hap wH259 (by decide) (TU_slt k hk) (TU_sne 0 (by decide) k hk)) hg_TU
  have g262 : WD (avw K H259 a0) := WD.congr (fun k hk j => av_fld hT ga0 hap wH259 (by decide) (WD_ok 112 (by decide) k hk) (WD_ne 0 (by decide) k hk)) hg_WD
  have g263 : IM (avw K H259 a0) := IM.congr (fun k hk j => av_fld hT ga0 hap wH259 (by decide) (IM_ok 112 (by decide) k hk) (IM_ne 0 (by decide) k hk)) hg_IM
  have m264 := Wr.I wH259
  refine lv_aload_n hx hb dX10_of_5 rfl (lv_at hl 0 rfl) ?_
  refine lv_iload_n hx hb dX10_of_6 rfl (lv_at hl 1 rfl) ?_
  refine lv_iload_n hx hb dX10_of_7 rfl (lv_at hl 2 rfl) ?_
  obtain ⟨x265, ex265⟩ : ∃ z : Int32, z = fI H259 a0 (K.1.2 10 1) := ⟨_, rfl⟩
  have bx265 := ty_fi (x := x265) (k := 1) ex265 hTH259 ga0 rg_112 rfl
  refine x_V (As := [.int x1, .int x2]) (rest := []) C (a_X10_isSlice l K G H259 (x1) (x2) (x265) hTH259 ga0 ex265) yo_X10_isSlice wM_X10_181 ⟨⟨by decide, by decide⟩, by decide, by decide⟩ (x_rv C hTH259 (ci := 10) rfl ga0 rg_112) rfl hl.1 rfl (Nat.le_of_ble_eq_true rfl) dX10_of_8 hSH259 (AE_sub (fun _ _ => rfl) (by decide) hSH259.1) (fun vH266 H266 locsH266 pH266 zH266 kH266 hSH266 => ?_)
  obtain ⟨x267, hvH266, bx267, hrH266, hTH266⟩ := pH266
  subst hvH266
  have g268 : CG (avw K H266 a0) := CG.congr (fun k hk j => av_eff hTH259 kH266 ga0 (by decide) (CG_eff [] (by decide) k hk)) g260
  have g269 : TU (avw K H266 a0) (svw K H266 a0) := TU.congr (fun k hk j => av_eff hTH259 kH266 ga0 (by decide) (TU_eff [] (by decide) k hk)) (fun k hk => sv_eff hTH259 kH266 ga0 (by decide)) g261
  have g270 : WD (avw K H266 a0) := WD.congr (fun k hk j => av_eff hTH259 kH266 ga0 (by decide) (WD_eff [] (by decide) k hk)) g262
  have g271 : IM (avw K H266 a0) := IM.congr (fun k hk j => av_eff hTH259 kH266 ga0 (by decide) (IM_eff [] (by decide) k hk)) g263
  have m272 := (fI_kept (x_lt hTH259 kH266 ga0 (by decide))).trans m264
  have m273 := (ex265).trans (fI_kept (x_lt hTH259 kH266 ga0 (by decide))).symm
  refine W.eq (g2 := F0 m 11 ls [.int x267]) rfl ?_
  refine lv_if_ne (tgt := 16) hx hb dX10_of_11 (by decide) (fun c274 => ?_) (fun c274 => ?_)
  · have k275 := i_ne c274
    refine lv_bipush (v := 16) hx hb dX10_of_16 (by decide) ?_
    refine lv_iload_n hx hb dX10_of_18 rfl (lv_at hl 1 rfl) ?_
    refine lv_imul hx hb dX10_of_19 ?_
    refine lv_topi (fun x276 ex276 => ?_)
    have tx276 := i_mul ex276 (by rw [n_16]; omega)
    rw [n_16] at tx276
    refine lv_iload_n hx hb dX10_of_20 rfl (lv_at hl 2 rfl) ?_
    refine lv_iadd hx hb dX10_of_21 ?_
    refine lv_topi (fun x277 ex277 => ?_)
    have tx277 := i_add ex277 (by omega)
    refine lv_istore (lv' := [(4, .int x277), (0, .ref a0), (1, .int x1), (2, .int x2), (3, .int x3)]) hx hb dX10_of_22 hl (by decide) rfl (fun ls278 hl279 => ?_)
    refine lv_iload_n hx hb dX10_of_24 rfl (lv_at hl279 4 rfl) ?_
    refine lv_if_ne (tgt := 38) hx hb dX10_of_25 (by decide) (fun c280 => ?_) (fun c280 => ?_)
    · have k281 := i_ne c280
      refine lv_iload_n hx hb dX10_of_38 rfl (lv_at hl279 4 rfl) ?_
      refine lv_iconst (v := 1) hx hb dX10_of_39 (by decide) ?_
      refine lv_icmp_ne (tgt := 53) hx hb dX10_of_40 (by decide) (fun c282 => ?_) (fun c282 => ?_)
      · have k283 := i_ne c282
        refine lv_iload_n hx hb dX10_of_53 rfl (lv_at hl279 4 rfl) ?_
        refine lv_iconst (v := 2) hx hb dX10_of_54 (by decide) ?_
        refine lv_icmp_ne (tgt := 68) hx hb dX10_of_55 (by decide) (fun c284 => ?_) (fun c284 => ?_)
        · have k285 := i_ne c284
          refine lv_iload_n hx hb dX10_of_68 rfl (lv_at hl279 4 rfl) ?_
          refine lv_iconst (v := 3) hx hb dX10_of_69 (by decide) ?_
          refine lv_icmp_ne (tgt := 83) hx hb dX10_of_70 (by decide) (fun c286 => ?_) (fun c286 => ?_)
          · have k287 := i_ne c286
            refine lv_iconst (v := (-1)) hx hb dX10_of_83 (by decide) ?_
            exact J84 ls278 H266 locsH266 ((-1)) (lv_sub hl279 [] rfl) hTH266 hSH266 g268 g269 g270 g271
          · have k287 := i_eq c286
            refine lv_aload_n hx hb dX10_of_73 rfl (lv_at hl279 1 rfl) ?_
            refine x_gr C hTH266 (ci := 10) (k := 8) rfl inX10 (by decide) wF_X10_26 ga0 rg_112 rfl dX10_of_74 (fun q288 eq288 gq288 => ?_)
            refine lv_iload hx hb dX10_of_77 (lv_at hl279 0 rfl) ?_
            refine x_ai C hTH266 gq288 rg_117 ⟨by omega, by show _ < ((160 : Nat) : Int); omega⟩ dX10_of_79 (fun x289 ex289 bx289 => ?_)
            refine lv_goto (tgt := 84) hx hb dX10_of_80 (by decide) ?_
            exact J84 ls278 H266 locsH266 (x289) (lv_sub hl279 [] rfl) hTH266 hSH266 g268 g269 g270 g271
        · have k285 := i_eq c284
          refine lv_aload_n hx hb dX10_of_58 rfl (lv_at hl279 1 rfl) ?_
          refine x_gr C hTH266 (ci := 10) (k := 7) rfl inX10 (by decide) wF_X10_23 ga0 rg_112 rfl dX10_of_59 (fun q290 eq290 gq290 => ?_)
          refine lv_iload hx hb dX10_of_62 (lv_at hl279 0 rfl) ?_
          refine x_ai C hTH266 gq290 rg_116 ⟨by omega, by show _ < ((160 : Nat) : Int); omega⟩ dX10_of_64 (fun x291 ex291 bx291 => ?_)
          refine lv_goto (tgt := 84) hx hb dX10_of_65 (by decide) ?_
          exact J84 ls278 H266 locsH266 (x291) (lv_sub hl279 [] rfl) hTH266 hSH266 g268 g269 g270 g271
      · have k283 := i_eq c282
        refine lv_aload_n hx hb dX10_of_43 rfl (lv_at hl279 1 rfl) ?_
        refine x_gr C hTH266 (ci := 10) (k := 6) rfl inX10 (by decide) wF_X10_20 ga0 rg_112 rfl dX10_of_44 (fun q292 eq292 gq292 => ?_)
        refine lv_iload hx hb dX10_of_47 (lv_at hl279 0 rfl) ?_
        refine x_ai C hTH266 gq292 rg_115 ⟨by omega, by show _ < ((160 : Nat) : Int); omega⟩ dX10_of_49 (fun x293 ex293 bx293 => ?_)
        refine lv_goto (tgt := 84) hx hb dX10_of_50 (by decide) ?_
        exact J84 ls278 H266 locsH266 (x293) (lv_sub hl279 [] rfl) hTH266 hSH266 g268 g269 g270 g271
    · have k281 := i_eq c280
      refine lv_aload_n hx hb dX10_of_28 rfl (lv_at hl279 1 rfl) ?_
      refine x_gr C hTH266 (ci := 10) (k := 5) rfl inX10 (by decide) wF_X10_17 ga0 rg_112 rfl dX10_of_29 (fun q294 eq294 gq294 => ?_)
      refine lv_iload hx hb dX10_of_32 (lv_at hl279 0 rfl) ?_
      refine x_ai C hTH266 gq294 rg_114 ⟨by omega, by show _ < ((160 : Nat) : Int); omega⟩ dX10_of_34 (fun x295 ex295 bx295 => ?_)
      refine lv_goto (tgt := 84) hx hb dX10_of_35 (by decide) ?_
      exact J84 ls278 H266 locsH266 (x295) (lv_sub hl279 [] rfl) hTH266 hSH266 g268 g269 g270 g271
  · have k275 := i_eq c274
    refine lv_iconst (v := (-1)) hx hb dX10_of_14 (by decide) ?_
    exact x_iret C hQ dX10_of_15 hSH266 (by decide) (by decide) (⟨(-1), rfl, g268, g269, g270, g271, hTH266⟩)

set_option maxHeartbeats 4000000 in
set_option maxRecDepth 100000 in
theorem a_X10_puts (l : Launch) (K : KE) (G : Nat → Option Nat) (H : Heap) {a0 : Nat} (x1 : Int32) (tp : Int32) (hT : TY K G H) (ga0 : G a0 = some 112) (etp : tp = fI H a0 (K.1.2 10 18)) (hg_CG : CG (avw K H a0)) (hg_TU : TU (avw K H a0) (svw K H a0)) (hg_WD : WD (avw K H a0)) (hg_IM : IM (avw K H a0)) (hp0 : tp.toInt ≤ 496) : MX l K yX10_puts cX10_puts 3 none 0 0 0 0 [.ref a0, .int x1] H (AE G [112, 126] H.size) (fun v H1 => ∃ (t0 : Int32), v = none ∧ t0 = fI H1 a0 (K.1.2 10 18) ∧ (t0.toInt = tp.toInt + 4) ∧ (CG (avw K H1 a0)) ∧ (TU (avw K H1 a0) (svw K H1 a0)) ∧ (WD (avw K H1 a0)) ∧ (IM (avw K H1 a0)) ∧ TY K G H1) := by
  refine MX.of (by decide +kernel) (Nat.le_of_ble_eq_true rfl) ?_
  intro p e s m below meth c ls Q C hH hl hQ
  subst hH
  have C : CX p K s m _ meth c RX10 cX10_puts 3 none "puts" := C
  obtain ⟨hx, hb, hml, hown, hts, hKT, hr, hlocks, hnm⟩ := id C
  have hl : lv_has ls 3 [(0, .ref a0), (1, .int x1)] := hl
  have hS : va_S (AE G [112, 126] s.heap.size) s.heap s.heap [] := va_S.rf
  have n_m8 : ((-8) : Int32).toInt = -8 := rfl
  have n_0 : (0 : Int32).toInt = 0 := rfl
  have n_1 : (1 : Int32).toInt = 1 := rfl
  have n_24 : (24 : Int32).toInt = 24 := rfl
  have n_255 : (255 : Int32).toInt = 255 := rfl
  have btp := ty_fi (x := tp) (k := 18) etp hT ga0 rg_112 rfl
  have hap : ∀ x y, x < 74 → y < 74 → x ≠ y → K.1.2 10 x ≠ K.1.2 10 y := x_apart hKT hts inX10 tyX10 tyX10_ok nmX10 rfl
  have J3 : ∀ (nf : Nat) (ls354 : Array Slot) (H353 : Heap) (locsH353 : List Loc) (x356 : Int32) (x357 : Int32), lv_has ls354 3 [(0, .ref a0), (1, .int x1), (2, .int x356)] → TY K G H353 → va_S (AE G [112, 126] s.heap.size) s.heap H353 locsH353 → ((-8) ≤ x356.toInt ∧ x356.toInt ≤ 24) → (0 ≤ x357.toInt ∧ x357.toInt ≤ 500) → (x357 = fI H353 a0 (K.1.2 10 18)) → (CG (avw K H353 a0)) → (TU (avw K H353 a0) (svw K H353 a0)) → (WD (avw K H353 a0)) → (IM (avw K H353 a0)) → (x356.toInt - (-8) < (nf : Int)) → (8 * (x357.toInt - tp.toInt) = 24 + 8 - 8 - x356.toInt) → W p l e ({ frames := 0, cells := 0, slots := 0, locals := 0 } : Room) s m (([.ref a0, .int x1] : List Value).toArray) below meth c H353 locsH353 0 0 Q (F0 m 3 ls354 []) := by
    intro nf
    induction nf with
    | zero =>
      intro ls354 H353 locsH353 x356 x357 hl355 hTH353 hSH353 bx356 bx357 ex357 gy358_CG gy358_TU gy358_WD gy358_IM hm3 iv3
      exfalso
      omega
    | succ nf ih3 =>
      intro ls354 H353 locsH353 x356 x357 hl355 hTH353 hSH353 bx356 bx357 ex357 gy358_CG gy358_TU gy358_WD gy358_IM hm3 iv3
      refine lv_iload_n hx hb dX10_puts_3 rfl (lv_at hl355 2 rfl) ?_
      refine lv_if_lt (tgt := 39) hx hb dX10_puts_4 (by decide) (fun c359 => ?_) (fun c359 => ?_)
      · have k360 := i_lt c359
        exact x_vret C hQ dX10_puts_39 hSH353 (by decide) (by decide) (⟨x357, rfl, ex357, by omega, gy358_CG, gy358_TU, gy358_WD, gy358_IM, hTH353⟩)
      · have k360 := i_nlt c359
        refine lv_aload_n hx hb dX10_puts_7 rfl (lv_at hl355 0 rfl) ?_
        refine x_gr C hTH353 (ci := 10) (k := 17) rfl inX10 (by decide) wF_X10_53 ga0 rg_112 rfl dX10_puts_8 (fun q361 eq361 gq361 => ?_)
        refine lv_aload_n hx hb dX10_puts_11 rfl (lv_at hl355 0 rfl) ?_
        refine x_gi C hTH353 (ci := 10) (k := 18) rfl inX10 (by decide) wF_X10_185 ga0 rg_112 rfl dX10_puts_12 (fun x362 ex362 bx362 => ?_)
        have ux362 : x357 = x362 := (ex357).trans ex362.symm
        subst ux362
        refine lv_iload_n hx hb dX10_puts_15 rfl (lv_at hl355 1 rfl) ?_
        refine lv_iload_n hx hb dX10_puts_16 rfl (lv_at hl355 2 rfl) ?_
        refine lv_ishr hx hb dX10_puts_17 ?_
        refine lv_topi (fun x363 ex363 => ?_)
        refine lv_sipush (v := 255) hx hb dX10_puts_18 (by decide) ?_
        refine lv_iand hx hb dX10_puts_21 ?_
        refine lv_topi (fun x364 ex364 => ?_)
        have tx364 := i_and255 ex364
        refine x_iast C hTH353 hSH353 gq361 rg_126 (by omega) (by show _ < ((500 : Nat) : Int); omega) ⟨by have := i_rng x364; omega, by have := i_rng x364; omega⟩ (AE_in gq361 (by decide)) dX10_puts_22 (fun H365 locsH365 hTH365 hSH365 wH365 => ?_)
        have g366 : CG (avw K H365 a0) := CG.congr (fun k hk j => av_arr hTH353 ga0 wH365 gq361 (by decide) (CG_ok 126 (by decide) k hk)) gy358_CG
        have g367 : TU (avw K H365 a0) (svw K H365 a0) := TU.congr (fun k hk j => av_arr hTH353 ga0 wH365 gq361 (by decide) (TU_ok 126 (by decide) k hk)) (fun k hk => sv_arr ga0 wH365 gq361 (by decide)) gy358_TU
        have g368 : WD (avw K H365 a0) := WD.congr (fun k hk j => av_arr hTH353 ga0 wH365 gq361 (by decide) (WD_ok 126 (by decide) k hk)) gy358_WD
        have g369 : IM (avw K H365 a0) := IM.congr (fun k hk j => av_arr hTH353 ga0 wH365 gq361 (by decide) (IM_ok 126 (by decide) k hk)) gy358_IM
        have m370 := ex357.trans (Wr.neI wH365 (Or.inl (G_ne ga0 gq361 (by decide)))).symm
        have m371 := eq361.trans (Wr.neR wH365 (Or.inl (G_ne ga0 gq361 (by decide)))).symm
        have m372 := Wr.I wH365
        have m372 := m372.symm
        refine lv_aload_n hx hb dX10_puts_23 rfl (lv_at hl355 0 rfl) ?_
        refine lv_aload_n hx hb dX10_puts_24 rfl (lv_at hl355 0 rfl) ?_
        refine x_gi C hTH365 (ci := 10) (k := 18) rfl inX10 (by decide) wF_X10_185 ga0 rg_112 rfl dX10_puts_25 (fun x373 ex373 bx373 => ?_)
        have ux373 : x357 = x373 := (m370).trans ex373.symm
        subst ux373
        refine lv_iconst (v := 1) hx hb dX10_puts_28 (by decide) ?_
        refine lv_iadd hx hb dX10_puts_29 ?_
        refine lv_topi (fun x374 ex374 => ?_)
        have tx374 := i_add ex374 (by omega)
        have fz376 : 0 ≤ x374.toInt ∧ x374.toInt ≤ 500 := by have := i_rng x374; omega
        refine x_put C hTH365 hSH365 (ci := 10) (k := 18) (v := .int x374) (ty0 := tyX10) rfl inX10 tyX10_ok nmX10 (by decide) rfl wF_X10_185 ga0 rg_112 rfl rfl (okI (by have := i_rng x374; omega) (by have := i_rng x374; omega)) rfl rfl (AE_in ga0 (by decide)) dX10_puts_30 (fun H375 locsH375 hTH375 hSH375 wH375 => ?_)
        have g377 : CG (avw K H375 a0) := CG.congr (fun k hk j => av_fld hTH365 ga0 hap wH375 (by decide) (CG_ok 112 (by decide) k hk) (CG_ne 18 (by decide) k hk)) g366
        have g378 : TU (avw K H375 a0) (svw K H375 a0) := TU.congr (fun k hk j => av_fld hTH365 ga0 hap wH375 (by decide) (TU_ok 112 (by decide) k hk) (TU_ne 18 (by decide) k hk)) (fun k hk => sv_fld hap wH375 (by decide) (TU_slt k hk) (TU_sne 18 (by decide) k hk)) g367
        have g379 : WD (avw K H375 a0) := WD.congr (fun k hk j => av_fld hTH365 ga0 hap wH375 (by decide) (WD_ok 112 (by decide) k hk) (WD_ne 18 (by decide) k hk)) g368
        have g380 : IM (avw K H375 a0) := IM.congr (fun k hk j => av_fld hTH365 ga0 hap wH375 (by decide) (IM_ok 112 (by decide) k hk) (IM_ne 18 (by decide) k hk)) g369
        have m382 := m371.trans (Wr.neR wH375 (Or.inr (x_apart hKT hts inX10 tyX10 tyX10_ok nmX10 rfl 17 18 (by decide) (by decide) (by decide)))).symm
        have m383 := m372.trans (Wr.neI wH375 (Or.inl (G_ne gq361 ga0 (by decide)))).symm
        have m384 := Wr.I wH375
        have m384 := m384.symm
        obtain ⟨x385, ex385⟩ : ∃ y : Int32, y = x356 + (-8) := ⟨_, rfl⟩
        have tx385 := i_add ex385 (by omega)
        refine lv_iinc (v := x385) (lv' := [(2, .int x385), (0, .ref a0), (1, .int x1)]) hx hb dX10_puts_33 hl355 (k := 2) rfl (by rw [ex385]; rfl) (by decide) rfl (fun ls386 hl387 => ?_)
        refine lv_goto (tgt := 3) hx hb dX10_puts_36 (by decide) ?_
        exact ih3 ls386 H375 locsH375 (x385) (x374) (lv_sub hl387 [1, 2, 0] rfl) hTH375 hSH375 (by have := i_rng x385; omega) (by have := i_rng x374; omega) m384 g377 g378 g379 g380 (by omega) (by omega)
  refine lv_bipush (v := 24) hx hb dX10_puts_0 (by decide) ?_
  refine lv_istore_n (lv' := [(2, .int 24), (0, .ref a0), (1, .int x1)]) hx hb dX10_puts_2 rfl hl (by decide) rfl (fun ls388 hl389 => ?_)
  exact J3 (((24 : Int32).toInt - (-8)).toNat + 1) ls388 s.heap [] (24) (tp) (lv_sub hl389 [1, 2, 0] rfl) hT hS (by decide) (by have := i_rng tp; omega) etp hg_CG hg_TU hg_WD hg_IM (by omega) (by omega)

set_option maxHeartbeats 4000000 in
set_option maxRecDepth 100000 in
theorem a_X10_feed (l : Launch) (K : KE) (G : Nat → Option Nat) (H : Heap) {a0 : Nat} (x1 : Int32) (x2 : Int32) (x3 : Int32) (x4 : Int32) (x5 : Int32) (hT : TY K G H) (ga0 : G a0 = some 112) (hg_CG : CG (avw K H a0)) (hg_TU : TU (avw K H a0) (svw K H a0)) (hg_WD : WD (avw K H a0)) (hg_IM : IM (avw K H a0)) : MX l K yX10_feed cX10_feed 6 (some .int) 1 22 0 0 [.ref a0, .int x1, .int x2, .int x3, .int x4, .int x5] H (AE G [112, 126] H.size) (fun v H1 => ∃ (r : Int32), v = some (.int r) ∧ (CG (avw K H1 a0)) ∧ (TU (avw K H1 a0) (svw K H1 a0)) ∧ (WD (avw K H1 a0)) ∧ (IM (avw K H1 a0)) ∧ TY K G H1) := by
  refine MX.of (by decide +kernel) (Nat.le_of_ble_eq_true rfl) ?_
  intro p e s m below meth c ls Q C hH hl hQ
  subst hH
  have C : CX p K s m _ meth c RX10 cX10_feed 6 (some .int) "feed" := C
  obtain ⟨hx, hb, hml, hown, hts, hKT, hr, hlocks, hnm⟩ := id C
  have hl : lv_has ls 6 [(0, .ref a0), (1, .int x1), (2, .int x2), (3, .int x3), (4, .int x4), (5, .int x5)] := hl
  have hS : va_S (AE G [112, 126] s.heap.size) s.heap s.heap [] := va_S.rf
  have n_m1 : ((-1) : Int32).toInt = -1 := rfl
  have n_0 : (0 : Int32).toInt = 0 := rfl
  have n_480 : (480 : Int32).toInt = 480 := rfl
  have hap : ∀ x y, x < 74 → y < 74 → x ≠ y → K.1.2 10 x ≠ K.1.2 10 y := x_apart hKT hts inX10 tyX10 tyX10_ok nmX10 rfl
  refine lv_aload_n hx hb dX10_feed_0 rfl (lv_at hl 0 rfl) ?_
  refine lv_iconst (v := 0) hx hb dX10_feed_1 (by decide) ?_
  refine x_put C hT hS (ci := 10) (k := 0) (v := .int 0) (ty0 := tyX10) rfl inX10 tyX10_ok nmX10 (by decide) rfl wF_X10_167 ga0 rg_112 rfl rfl (okI (by have := i_rng (0 : Int32); omega) (by have := i_rng (0 : Int32); omega)) rfl rfl (AE_in ga0 (by decide)) dX10_feed_2 (fun H261 locsH261 hTH261 hSH261 wH261 => ?_)
  have g262 : CG (avw K H261 a0) := CG.congr (fun k hk j => av_fld hT ga0 hap wH261 (by decide) (CG_ok 112 (by decide) k hk) (CG_ne 0 (by decide) k hk)) hg_CG
  have g263 : TU (avw K H261 a0) (svw K H261 a0) := TU.congr (fun k hk j => av_fld hT ga0 hap wH261 (by decide) (TU_ok 112 (by decide) k hk) (TU_ne 0 (by decide) k hk)) (fun k hk => sv_fld hap wH261 (by decide) (TU_slt k hk) (TU_sne 0 (by decide) k hk)) hg_TU
  have g264 : WD (avw K H261 a0) := WD.congr (fun k hk j => av_fld hT ga0 hap wH261 (by decide) (WD_ok 112 (by decide) k hk) (WD_ne 0 (by decide) k hk)) hg_WD
  have g265 : IM (avw K H261 a0) := IM.congr (fun k hk j => av_fld hT ga0 hap wH261 (by decide) (IM_ok 112 (by decide) k hk) (IM_ne 0 (by decide) k hk)) hg_IM
  have m266 := Wr.I wH261
  refine lv_aload_n hx hb dX10_feed_5 rfl (lv_at hl 0 rfl) ?_
  refine x_gi C hTH261 (ci := 10) (k := 18) rfl inX10 (by decide) wF_X10_185 ga0 rg_112 rfl dX10_feed_6 (fun x267 ex267 bx267 => ?_)
  refine lv_sipush (v := 480) hx hb dX10_feed_9 (by decide) ?_
  refine lv_icmp_le (tgt := 17) hx hb dX10_feed_12 (by decide) (fun c268 => ?_) (fun c268 => ?_)
  · have k269 := i_le c268
    refine lv_aload_n hx hb dX10_feed_17 rfl (lv_at hl 0 rfl) ?_
    refine lv_iload_n hx hb dX10_feed_18 rfl (lv_at hl 1 rfl) ?_
    refine x_V (As := [.int x1]) (rest := []) C (a_X10_puts l K G H261 (x1) (x267) hTH261 ga0 ex267 g262 g263 g264 g265 (by omega)) yo_X10_puts wM_X10_188 ⟨⟨by decide, by decide⟩, by decide, by decide⟩ (x_rv C hTH261 (ci := 10) rfl ga0 rg_112) rfl hl.1 rfl (Nat.le_of_ble_eq_true rfl) dX10_feed_19 hSH261 (AE_sub (fun _ _ => rfl) (by decide) hSH261.1) (fun vH270 H270 locsH270 pH270 zH270 kH270 hSH270 => ?_)
    obtain ⟨x271, hvH270, ex271, hrH270, g272, g273, g274, g275, hTH270⟩ := pH270
    subst hvH270
    have bx271 := ty_fi (x := x271) (k := 18) ex271 hTH270 ga0 rg_112 rfl
    refine W.eq (g2 := F0 m 22 ls []) rfl ?_
    refine lv_aload_n hx hb dX10_feed_22 rfl (lv_at hl 0 rfl) ?_
    refine lv_iload_n hx hb dX10_feed_23 rfl (lv_at hl 2 rfl) ?_
    refine x_V (As := [.int x2]) (rest := []) C (a_X10_puts l K G H270 (x2) (x271) hTH270 ga0 ex271 g272 g273 g274 g275 (by omega)) yo_X10_puts wM_X10_188 ⟨⟨by decide, by decide⟩, by decide, by decide⟩ (x_rv C hTH270 (ci := 10) rfl ga0 rg_112) rfl hl.1 rfl (Nat.le_of_ble_eq_true rfl) dX10_feed_24 hSH270 (AE_sub (fun _ _ => rfl) (by decide) hSH270.1) (fun vH276 H276 locsH276 pH276 zH276 kH276 hSH276 => ?_)
    obtain ⟨x277, hvH276, ex277, hrH276, g278, g279, g280, g281, hTH276⟩ := pH276
    subst hvH276
    have bx277 := ty_fi (x := x277) (k := 18) ex277 hTH276 ga0 rg_112 rfl
    refine W.eq (g2 := F0 m 27 ls []) rfl ?_
    refine lv_aload_n hx hb dX10_feed_27 rfl (lv_at hl 0 rfl) ?_
    refine lv_iload_n hx hb dX10_feed_28 rfl (lv_at hl 3 rfl) ?_
    refine x_V (As := [.int x3]) (rest := []) C (a_X10_puts l K G H276 (x3) (x277) hTH276 ga0 ex277 g278 g279 g280 g281 (by omega)) yo_X10_puts wM_X10_188 ⟨⟨by decide, by decide⟩, by decide, by decide⟩ (x_rv C hTH276 (ci := 10) rfl ga0 rg_112) rfl hl.1 rfl (Nat.le_of_ble_eq_true rfl) dX10_feed_29 hSH276 (AE_sub (fun _ _ => rfl) (by decide) hSH276.1) (fun vH282 H282 locsH282 pH282 zH282 kH282 hSH282 => ?_)
    obtain ⟨x283, hvH282, ex283, hrH282, g284, g285, g286, g287, hTH282⟩ := pH282
    subst hvH282
    have bx283 := ty_fi (x := x283) (k := 18) ex283 hTH282 ga0 rg_112 rfl
    refine W.eq (g2 := F0 m 32 ls []) rfl ?_
    refine lv_aload_n hx hb dX10_feed_32 rfl (lv_at hl 0 rfl) ?_
    refine lv_iload hx hb dX10_feed_33 (lv_at hl 4 rfl) ?_
    refine x_V (As := [.int x4]) (rest := []) C (a_X10_puts l K G H282 (x4) (x283) hTH282 ga0 ex283 g284 g285 g286 g287 (by omega)) yo_X10_puts wM_X10_188 ⟨⟨by decide, by decide⟩, by decide, by decide⟩ (x_rv C hTH282 (ci := 10) rfl ga0 rg_112) rfl hl.1 rfl (Nat.le_of_ble_eq_true rfl) dX10_feed_35 hSH282 (AE_sub (fun _ _ => rfl) (by decide) hSH282.1) (fun vH288 H288 locsH288 pH288 zH288 kH288 hSH288 => ?_)
    obtain ⟨x289, hvH288, ex289, hrH288, g290, g291, g292, g293, hTH288⟩ := pH288
    subst hvH288
    have bx289 := ty_fi (x := x289) (k := 18) ex289 hTH288 ga0 rg_112 rfl
    refine W.eq (g2 := F0 m 38 ls []) rfl ?_
    refine lv_aload_n hx hb dX10_feed_38 rfl (lv_at hl 0 rfl) ?_
    refine lv_iload hx hb dX10_feed_39 (lv_at hl 5 rfl) ?_
    refine x_V (As := [.int x5]) (rest := []) C (a_X10_puts l K G H288 (x5) (x289) hTH288 ga0 ex289 g290 g291 g292 g293 (by omega)) yo_X10_puts wM_X10_188 ⟨⟨by decide, by decide⟩, by decide, by decide⟩ (x_rv C hTH288 (ci := 10) rfl ga0 rg_112) rfl hl.1 rfl (Nat.le_of_ble_eq_true rfl) dX10_feed_41 hSH288 (AE_sub (fun _ _ => rfl) (by decide) hSH288.1) (fun vH294 H294 locsH294 pH294 zH294 kH294 hSH294 => ?_)
    obtain ⟨x295, hvH294, ex295, hrH294, g296, g297, g298, g299, hTH294⟩ := pH294
    subst hvH294
    have bx295 := ty_fi (x := x295) (k := 18) ex295 hTH294 ga0 rg_112 rfl
    refine W.eq (g2 := F0 m 44 ls []) rfl ?_
    refine lv_aload_n hx hb dX10_feed_44 rfl (lv_at hl 0 rfl) ?_
    refine x_gi C hTH294 (ci := 10) (k := 18) rfl inX10 (by decide) wF_X10_185 ga0 rg_112 rfl dX10_feed_45 (fun x300 ex300 bx300 => ?_)
    have ux300 : x295 = x300 := (ex295).trans ex300.symm
    subst ux300
    exact x_iret C hQ dX10_feed_48 hSH294 (by decide) (by decide) (⟨x295, rfl, g296, g297, g298, g299, hTH294⟩)
  · have k269 := i_nle c268
    refine lv_iconst (v := (-1)) hx hb dX10_feed_15 (by decide) ?_
    exact x_iret C hQ dX10_feed_16 hSH261 (by decide) (by decide) (⟨(-1), rfl, g262, g263, g264, g265, hTH261⟩)

set_option maxHeartbeats 4000000 in
set_option maxRecDepth 100000 in
theorem a_X10_end (l : Launch) (K : KE) (G : Nat → Option Nat) (H : Heap) {a0 : Nat} (x1 : Int32) (hT : TY K G H) (ga0 : G a0 = some 112) (hg_CG : CG (avw K H a0)) (hg_TU : TU (avw K H a0) (svw K H a0)) (hg_WD : WD (avw K H a0)) (hg_IM : IM (avw K H a0)) : MX l K yX10_end cX10_end 2 (some .boolean) 1 23 0 0 [.ref a0, .int x1] H (AE G [112] H.size) (fun v H1 => ∃ (r : Int32), v = some (.int r) ∧ (0 ≤ r.toInt ∧ r.toInt ≤ 1) ∧ (CG (avw K H1 a0)) ∧ (TU (avw K H1 a0) (svw K H1 a0)) ∧ (WD (avw K H1 a0)) ∧ (IM (avw K H1 a0)) ∧ TY K G H1) := by
  refine MX.of (by decide +kernel) (Nat.le_of_ble_eq_true rfl) ?_
  intro p e s m below meth c ls Q C hH hl hQ
  subst hH
  have C : CX p K s m _ meth c RX10 cX10_end 2 (some .boolean) "end" := C
  obtain ⟨hx, hb, hml, hown, hts, hKT, hr, hlocks, hnm⟩ := id C
  have hl : lv_has ls 2 [(0, .ref a0), (1, .int x1)] := hl
  have hS : va_S (AE G [112] s.heap.size) s.heap s.heap [] := va_S.rf
  have n_0 : (0 : Int32).toInt = 0 := rfl
  have n_1 : (1 : Int32).toInt = 1 := rfl
  have hap : ∀ x y, x < 74 → y < 74 → x ≠ y → K.1.2 10 x ≠ K.1.2 10 y := x_apart hKT hts inX10 tyX10 tyX10_ok nmX10 rfl
  refine lv_aload_n hx hb dX10_end_0 rfl (lv_at hl 0 rfl) ?_
  refine lv_iconst (v := 0) hx hb dX10_end_1 (by decide) ?_
  refine x_put C hT hS (ci := 10) (k := 0) (v := .int 0) (ty0 := tyX10) rfl inX10 tyX10_ok nmX10 (by decide) rfl wF_X10_167 ga0 rg_112 rfl rfl (okI (by have := i_rng (0 : Int32); omega) (by have := i_rng (0 : Int32); omega)) rfl rfl (AE_in ga0 (by decide)) dX10_end_2 (fun H181 locsH181 hTH181 hSH181 wH181 => ?_)
  have g182 : CG (avw K H181 a0) := CG.congr (fun k hk j => av_fld hT ga0 hap wH181 (by decide) (CG_ok 112 (by decide) k hk) (CG_ne 0 (by decide) k hk)) hg_CG
  have g183 : TU (avw K H181 a0) (svw K H181 a0) := TU.congr (fun k hk j => av_fld hT ga0 hap wH181 (by decide) (TU_ok 112 (by decide) k hk) (TU_ne 0 (by decide) k hk)) (fun k hk => sv_fld hap wH181 (by decide) (TU_slt k hk) (TU_sne 0 (by decide) k hk)) hg_TU
  have g184 : WD (avw K H181 a0) := WD.congr (fun k hk j => av_fld hT ga0 hap wH181 (by decide) (WD_ok 112 (by decide) k hk) (WD_ne 0 (by decide) k hk)) hg_WD
  have g185 : IM (avw K H181 a0) := IM.congr (fun k hk j => av_fld hT ga0 hap wH181 (by decide) (IM_ok 112 (by decide) k hk) (IM_ne 0 (by decide) k hk)) hg_IM
  have m186 := Wr.I wH181
  refine lv_aload_n hx hb dX10_end_5 rfl (lv_at hl 0 rfl) ?_
  refine lv_iload_n hx hb dX10_end_6 rfl (lv_at hl 1 rfl) ?_
  refine lv_iconst (v := 0) hx hb dX10_end_7 (by decide) ?_
  refine lv_aload_n hx hb dX10_end_8 rfl (lv_at hl 0 rfl) ?_
  refine x_gi C hTH181 (ci := 10) (k := 18) rfl inX10 (by decide) wF_X10_185 ga0 rg_112 rfl dX10_end_9 (fun x187 ex187 bx187 => ?_)
  refine x_V (As := [.int x1, .int 0, .int x187]) (rest := []) C (c_X10_isIn l K G H181 (x1) (0) (x187) hTH181 ga0) yo_X10_isIn wM_X10_177 ⟨⟨by decide, by decide⟩, by decide, by decide⟩ (x_rv C hTH181 (ci := 10) rfl ga0 rg_112) rfl hl.1 rfl (Nat.le_of_ble_eq_true rfl) dX10_end_12 hSH181 (AE_sub (fun _ _ => rfl) (by decide) hSH181.1) (fun vH188 H188 locsH188 pH188 zH188 kH188 hSH188 => ?_)
  have hqH188 := pH188.1.symm
  subst hqH188
  rcases pH188.2 with ⟨hvH188, hcH188⟩ | ⟨hvH188, hcH188⟩
  · subst hvH188
    refine W.eq (g2 := F0 m 15 ls [.int 1]) rfl ?_
    refine lv_if_ne (tgt := 20) hx hb dX10_end_15 (by decide) (fun c189 => ?_) (fun c189 => ?_)
    · have k190 := i_ne c189
      refine lv_aload_n hx hb dX10_end_20 rfl (lv_at hl 0 rfl) ?_
      refine lv_iload_n hx hb dX10_end_21 rfl (lv_at hl 1 rfl) ?_
      refine x_put C hTH181 hSH188 (ci := 10) (k := 18) (v := .int x1) (ty0 := tyX10) rfl inX10 tyX10_ok nmX10 (by decide) rfl wF_X10_185 ga0 rg_112 rfl rfl (okI (by have := i_rng x1; omega) (by have := i_rng x1; omega)) rfl rfl (AE_in ga0 (by decide)) dX10_end_22 (fun H191 locsH191 hTH191 hSH191 wH191 => ?_)
      have g192 : CG (avw K H191 a0) := CG.congr (fun k hk j => av_fld hTH181 ga0 hap wH191 (by decide) (CG_ok 112 (by decide) k hk) (CG_ne 18 (by decide) k hk)) g182
      have g193 : TU (avw K H191 a0) (svw K H191 a0) := TU.congr (fun k hk j => av_fld hTH181 ga0 hap wH191 (by decide) (TU_ok 112 (by decide) k hk) (TU_ne 18 (by decide) k hk)) (fun k hk => sv_fld hap wH191 (by decide) (TU_slt k hk) (TU_sne 18 (by decide) k hk)) g183
      have g194 : WD (avw K H191 a0) := WD.congr (fun k hk j => av_fld hTH181 ga0 hap wH191 (by decide) (WD_ok 112 (by decide) k hk) (WD_ne 18 (by decide) k hk)) g184
      have g195 : IM (avw K H191 a0) := IM.congr (fun k hk j => av_fld hTH181 ga0 hap wH191 (by decide) (IM_ok 112 (by decide) k hk) (IM_ne 18 (by decide) k hk)) g185
      have m196 := (Wr.neI wH191 (Or.inr (x_apart hKT hts inX10 tyX10 tyX10_ok nmX10 rfl 0 18 (by decide) (by decide) (by decide)))).trans m186
      have m198 := Wr.I wH191
      have m198 := m198.symm
      refine lv_iconst (v := 1) hx hb dX10_end_25 (by decide) ?_
      exact x_zret C hQ (Or.inr rfl) dX10_end_26 hSH191 (by decide) (by decide) (⟨1, rfl, by decide, g192, g193, g194, g195, hTH191⟩)
    · have k190 := i_eq c189
      exfalso
      omega
  · subst hvH188
    refine W.eq (g2 := F0 m 15 ls [.int 0]) rfl ?_
    refine lv_if_ne (tgt := 20) hx hb dX10_end_15 (by decide) (fun c199 => ?_) (fun c199 => ?_)
    · have k200 := i_ne c199
      exfalso
      omega
    · have k200 := i_eq c199
      refine lv_iconst (v := 0) hx hb dX10_end_18 (by decide) ?_
      exact x_zret C hQ (Or.inl rfl) dX10_end_19 hSH188 (by decide) (by decide) (⟨0, rfl, by decide, g182, g183, g184, g185, hTH181⟩)

set_option maxHeartbeats 4000000 in
set_option maxRecDepth 100000 in
theorem a_X10_fault (l : Launch) (K : KE) (G : Nat → Option Nat) (H : Heap) {a0 : Nat} (x1 : Int32) (hT : TY K G H) (ga0 : G a0 = some 112) (hg_CG : CG (avw K H a0)) (hg_TU : TU (avw K H a0) (svw K H a0)) (hg_WD : WD (avw K H a0)) (hg_IM : IM (avw K H a0)) : MX l K yX10_fault cX10_fault 2 (some .int) 0 0 0 0 [.ref a0, .int x1] H (AE G [112] H.size) (fun v H1 => ∃ (r : Int32), v = some (.int r) ∧ (CG (avw K H1 a0)) ∧ (TU (avw K H1 a0) (svw K H1 a0)) ∧ (WD (avw K H1 a0)) ∧ (IM (avw K H1 a0)) ∧ TY K G H1) := by
  refine MX.of (by decide +kernel) (Nat.le_of_ble_eq_true rfl) ?_
  intro p e s m below meth c ls Q C hH hl hQ
  subst hH
  have C : CX p K s m _ meth c RX10 cX10_fault 2 (some .int) "fault" := C
  obtain ⟨hx, hb, hml, hown, hts, hKT, hr, hlocks, hnm⟩ := id C
  have hl : lv_has ls 2 [(0, .ref a0), (1, .int x1)] := hl
  have hS : va_S (AE G [112] s.heap.size) s.heap s.heap [] := va_S.rf
  have n_m1 : ((-1) : Int32).toInt = -1 := rfl
  have n_0 : (0 : Int32).toInt = 0 := rfl
  have n_1 : (1 : Int32).toInt = 1 := rfl
  have hap : ∀ x y, x < 74 → y < 74 → x ≠ y → K.1.2 10 x ≠ K.1.2 10 y := x_apart hKT hts inX10 tyX10 tyX10_ok nmX10 rfl
  have J29 : ∀ (ls155 : Array Slot) (H154 : Heap) (locsH154 : List Loc) (x157 : Int32), lv_has ls155 2 [] → TY K G H154 → va_S (AE G [112] s.heap.size) s.heap H154 locsH154 → (CG (avw K H154 a0)) → (TU (avw K H154 a0) (svw K H154 a0)) → (WD (avw K H154 a0)) → (IM (avw K H154 a0)) → W p l e ({ frames := 0, cells := 0, slots := 0, locals := 0 } : Room) s m (([.ref a0, .int x1] : List Value).toArray) below meth c H154 locsH154 0 0 Q (F0 m 29 ls155 [.int x157]) := by
    intro ls155 H154 locsH154 x157 hl156 hTH154 hSH154 gy158_CG gy158_TU gy158_WD gy158_IM
    exact x_iret C hQ dX10_fault_29 hSH154 (by decide) (by decide) (⟨x157, rfl, gy158_CG, gy158_TU, gy158_WD, gy158_IM, hTH154⟩)
  refine lv_aload_n hx hb dX10_fault_0 rfl (lv_at hl 0 rfl) ?_
  refine lv_iconst (v := 0) hx hb dX10_fault_1 (by decide) ?_
  refine x_put C hT hS (ci := 10) (k := 0) (v := .int 0) (ty0 := tyX10) rfl inX10 tyX10_ok nmX10 (by decide) rfl wF_X10_167 ga0 rg_112 rfl rfl (okI (by have := i_rng (0 : Int32); omega) (by have := i_rng (0 : Int32); omega)) rfl rfl (AE_in ga0 (by decide)) dX10_fault_2 (fun H159 locsH159 hTH159 hSH159 wH159 => ?_)
  have g160 : CG (avw K H159 a0) := CG.congr (fun k hk j => av_fld hT ga0 hap wH159 (by decide) (CG_ok 112 (by decide) k hk) (CG_ne 0 (by decide) k hk)) hg_CG
  have g161 : TU (avw K H159 a0) (svw K H159 a0) := TU.congr (fun k hk j => av_fld hT ga0 hap wH159 (by decide) (TU_ok 112 (by decide) k hk) (TU_ne 0 (by decide) k hk)) (fun k hk => sv_fld hap wH159 (by decide) (TU_slt k hk) (TU_sne 0 (by decide) k hk)) hg_TU
  have g162 : WD (avw K H159 a0) := WD.congr (fun k hk j => av_fld hT ga0 hap wH159 (by decide) (WD_ok 112 (by decide) k hk) (WD_ne 0 (by decide) k hk)) hg_WD
  have g163 : IM (avw K H159 a0) := IM.congr (fun k hk j => av_fld hT ga0 hap wH159 (by decide) (IM_ok 112 (by decide) k hk) (IM_ne 0 (by decide) k hk)) hg_IM
  have m164 := Wr.I wH159
  refine lv_iload_n hx hb dX10_fault_5 rfl (lv_at hl 1 rfl) ?_
  refine lv_if_ne (tgt := 16) hx hb dX10_fault_6 (by decide) (fun c165 => ?_) (fun c165 => ?_)
  · have k166 := i_ne c165
    refine lv_iload_n hx hb dX10_fault_16 rfl (lv_at hl 1 rfl) ?_
    refine lv_iconst (v := 1) hx hb dX10_fault_17 (by decide) ?_
    refine lv_icmp_ne (tgt := 28) hx hb dX10_fault_18 (by decide) (fun c167 => ?_) (fun c167 => ?_)
    · have k168 := i_ne c167
      refine lv_iconst (v := (-1)) hx hb dX10_fault_28 (by decide) ?_
      exact J29 ls H159 locsH159 ((-1)) (lv_sub hl [] rfl) hTH159 hSH159 g160 g161 g162 g163
    · have k168 := i_eq c167
      refine lv_aload_n hx hb dX10_fault_21 rfl (lv_at hl 0 rfl) ?_
      refine x_gi C hTH159 (ci := 10) (k := 42) rfl inX10 (by decide) wF_X10_92 ga0 rg_112 rfl dX10_fault_22 (fun x169 ex169 bx169 => ?_)
      refine lv_goto (tgt := 29) hx hb dX10_fault_25 (by decide) ?_
      exact J29 ls H159 locsH159 (x169) (lv_sub hl [] rfl) hTH159 hSH159 g160 g161 g162 g163
  · have k166 := i_eq c165
    refine lv_aload_n hx hb dX10_fault_9 rfl (lv_at hl 0 rfl) ?_
    refine x_gi C hTH159 (ci := 10) (k := 41) rfl inX10 (by decide) wF_X10_292 ga0 rg_112 rfl dX10_fault_10 (fun x170 ex170 bx170 => ?_)
    refine lv_goto (tgt := 29) hx hb dX10_fault_13 (by decide) ?_
    exact J29 ls H159 locsH159 (x170) (lv_sub hl [] rfl) hTH159 hSH159 g160 g161 g162 g163

set_option maxHeartbeats 4000000 in
set_option maxRecDepth 100000 in
theorem a_X10_force (l : Launch) (K : KE) (G : Nat → Option Nat) (H : Heap) {a0 : Nat} (x1 : Int32) (hT : TY K G H) (ga0 : G a0 = some 112) (hg_CG : CG (avw K H a0)) (hg_TU : TU (avw K H a0) (svw K H a0)) (hg_WD : WD (avw K H a0)) (hg_IM : IM (avw K H a0)) : MX l K yX10_force cX10_force 3 (some .int) 1 21 0 0 [.ref a0, .int x1] H (AE G [112] H.size) (fun v H1 => ∃ (r : Int32), v = some (.int r) ∧ (CG (avw K H1 a0)) ∧ (TU (avw K H1 a0) (svw K H1 a0)) ∧ (WD (avw K H1 a0)) ∧ (IM (avw K H1 a0)) ∧ TY K G H1) := by
  refine MX.of (by decide +kernel) (Nat.le_of_ble_eq_true rfl) ?_
  intro p e s m below meth c ls Q C hH hl hQ
  subst hH
  have C : CX p K s m _ meth c RX10 cX10_force 3 (some .int) "force" := C
  obtain ⟨hx, hb, hml, hown, hts, hKT, hr, hlocks, hnm⟩ := id C
  have hl : lv_has ls 3 [(0, .ref a0), (1, .int x1)] := hl
  have hS : va_S (AE G [112] s.heap.size) s.heap s.heap [] := va_S.rf
  have n_m1 : ((-1) : Int32).toInt = -1 := rfl
  have n_0 : (0 : Int32).toInt = 0 := rfl
  have n_1 : (1 : Int32).toInt = 1 := rfl
  have hap : ∀ x y, x < 74 → y < 74 → x ≠ y → K.1.2 10 x ≠ K.1.2 10 y := x_apart hKT hts inX10 tyX10 tyX10_ok nmX10 rfl
  refine lv_aload_n hx hb dX10_force_0 rfl (lv_at hl 0 rfl) ?_
  refine lv_iconst (v := 0) hx hb dX10_force_1 (by decide) ?_
  refine x_put C hT hS (ci := 10) (k := 0) (v := .int 0) (ty0 := tyX10) rfl inX10 tyX10_ok nmX10 (by decide) rfl wF_X10_167 ga0 rg_112 rfl rfl (okI (by have := i_rng (0 : Int32); omega) (by have := i_rng (0 : Int32); omega)) rfl rfl (AE_in ga0 (by decide)) dX10_force_2 (fun H189 locsH189 hTH189 hSH189 wH189 => ?_)
  have g190 : CG (avw K H189 a0) := CG.congr (fun k hk j => av_fld hT ga0 hap wH189 (by decide) (CG_ok 112 (by decide) k hk) (CG_ne 0 (by decide) k hk)) hg_CG
  have g191 : TU (avw K H189 a0) (svw K H189 a0) := TU.congr (fun k hk j => av_fld hT ga0 hap wH189 (by decide) (TU_ok 112 (by decide) k hk) (TU_ne 0 (by decide) k hk)) (fun k hk => sv_fld hap wH189 (by decide) (TU_slt k hk) (TU_sne 0 (by decide) k hk)) hg_TU
  have g192 : WD (avw K H189 a0) := WD.congr (fun k hk j => av_fld hT ga0 hap wH189 (by decide) (WD_ok 112 (by decide) k hk) (WD_ne 0 (by decide) k hk)) hg_WD
  have g193 : IM (avw K H189 a0) := IM.congr (fun k hk j => av_fld hT ga0 hap wH189 (by decide) (IM_ok 112 (by decide) k hk) (IM_ne 0 (by decide) k hk)) hg_IM
  have m194 := Wr.I wH189
  refine lv_aload_n hx hb dX10_force_5 rfl (lv_at hl 0 rfl) ?_
  refine lv_iload_n hx hb dX10_force_6 rfl (lv_at hl 1 rfl) ?_
  refine x_V (As := [.int x1]) (rest := []) C (c_X10_isLaw l K G H189 (x1) hTH189 ga0) yo_X10_isLaw wM_X10_328 ⟨⟨by decide, by decide⟩, by decide, by decide⟩ (x_rv C hTH189 (ci := 10) rfl ga0 rg_112) rfl hl.1 rfl (Nat.le_of_ble_eq_true rfl) dX10_force_7 hSH189 (AE_sub (fun _ _ => rfl) (by decide) hSH189.1) (fun vH195 H195 locsH195 pH195 zH195 kH195 hSH195 => ?_)
  have hqH195 := pH195.1.symm
  subst hqH195
  rcases pH195.2 with ⟨hvH195, hcH195⟩ | ⟨hvH195, hcH195⟩
  · subst hvH195
    refine W.eq (g2 := F0 m 10 ls [.int 1]) rfl ?_
    refine lv_if_ne (tgt := 15) hx hb dX10_force_10 (by decide) (fun c196 => ?_) (fun c196 => ?_)
    · have k197 := i_ne c196
      refine lv_aload_n hx hb dX10_force_15 rfl (lv_at hl 0 rfl) ?_
      refine x_gi C hTH189 (ci := 10) (k := 2) rfl inX10 (by decide) wF_X10_322 ga0 rg_112 rfl dX10_force_16 (fun x198 ex198 bx198 => ?_)
      refine lv_istore_n (lv' := [(2, .int x198), (0, .ref a0), (1, .int x1)]) hx hb dX10_force_19 rfl hl (by decide) rfl (fun ls199 hl200 => ?_)
      refine lv_aload_n hx hb dX10_force_20 rfl (lv_at hl200 1 rfl) ?_
      refine lv_iload_n hx hb dX10_force_21 rfl (lv_at hl200 2 rfl) ?_
      refine x_put C hTH189 hSH195 (ci := 10) (k := 2) (v := .int x1) (ty0 := tyX10) rfl inX10 tyX10_ok nmX10 (by decide) rfl wF_X10_322 ga0 rg_112 rfl rfl (okI (by have := i_rng x1; omega) (by have := i_rng x1; omega)) rfl rfl (AE_in ga0 (by decide)) dX10_force_22 (fun H201 locsH201 hTH201 hSH201 wH201 => ?_)
      have g202 : CG (avw K H201 a0) := CG.congr (fun k hk j => av_fld hTH189 ga0 hap wH201 (by decide) (CG_ok 112 (by decide) k hk) (CG_ne 2 (by decide) k hk)) g190
      have g203 : TU (avw K H201 a0) (svw K H201 a0) := TU.congr (fun k hk j => av_fld hTH189 ga0 hap wH201 (by decide) (TU_ok 112 (by decide) k hk) (TU_ne 2 (by decide) k hk)) (fun k hk => sv_fld hap wH201 (by decide) (TU_slt k hk) (TU_sne 2 (by decide) k hk)) g191
      have g204 : WD (avw K H201 a0) := WD.congr (fun k hk j => av_fld hTH189 ga0 hap wH201 (by decide) (WD_ok 112 (by decide) k hk) (WD_ne 2 (by decide) k hk)) g192
      have g205 : IM (avw K H201 a0) := IM.congr (fun k hk j => av_fld hTH189 ga0 hap wH201 (by decide) (IM_ok 112 (by decide) k hk) (IM_ne 2 (by decide) k hk)) g193
      have m206 := (Wr.neI wH201 (Or.inr (x_apart hKT hts inX10 tyX10 tyX10_ok nmX10 rfl 0 2 (by decide) (by decide) (by decide)))).trans m194
      have m208 := Wr.I wH201
      have m208 := m208.symm
      refine lv_iload_n hx hb dX10_force_25 rfl (lv_at hl200 0 rfl) ?_
      exact x_iret C hQ dX10_force_26 hSH201 (by decide) (by decide) (⟨x198, rfl, g202, g203, g204, g205, hTH201⟩)
    · have k197 := i_eq c196
      exfalso
      omega
  · subst hvH195
    refine W.eq (g2 := F0 m 10 ls [.int 0]) rfl ?_
    refine lv_if_ne (tgt := 15) hx hb dX10_force_10 (by decide) (fun c209 => ?_) (fun c209 => ?_)
    · have k210 := i_ne c209
      exfalso
      omega
    · have k210 := i_eq c209
      refine lv_iconst (v := (-1)) hx hb dX10_force_13 (by decide) ?_
      exact x_iret C hQ dX10_force_14 hSH195 (by decide) (by decide) (⟨(-1), rfl, g190, g191, g192, g193, hTH189⟩)

set_option maxHeartbeats 4000000 in
set_option maxRecDepth 100000 in
theorem a_X10_tells (l : Launch) (K : KE) (G : Nat → Option Nat) (H : Heap) {a0 : Nat} (x1 : Int32) (x2 : Int32) (x3 : Int32) (x4 : Int32) (x5 : Int32) (hT : TY K G H) (ga0 : G a0 = some 112) (hg_CG : CG (avw K H a0)) (hg_TU : TU (avw K H a0) (svw K H a0)) (hg_WD : WD (avw K H a0)) (hg_IM : IM (avw K H a0)) : MX l K yX10_tells cX10_tells 6 (some .int) 4 97 0 0 [.ref a0, .int x1, .int x2, .int x3, .int x4, .int x5] H (AE G [112, 140, 139] H.size) (fun v H1 => ∃ (r : Int32), v = some (.int r) ∧ (CG (avw K H1 a0)) ∧ (TU (avw K H1 a0) (svw K H1 a0)) ∧ (WD (avw K H1 a0)) ∧ (IM (avw K H1 a0)) ∧ TY K G H1) := by
  refine MX.of (by decide +kernel) (Nat.le_of_ble_eq_true rfl) ?_
  intro p e s m below meth c ls Q C hH hl hQ
  subst hH
  have C : CX p K s m _ meth c RX10 cX10_tells 6 (some .int) "tells" := C
  obtain ⟨hx, hb, hml, hown, hts, hKT, hr, hlocks, hnm⟩ := id C
  have hl : lv_has ls 6 [(0, .ref a0), (1, .int x1), (2, .int x2), (3, .int x3), (4, .int x4), (5, .int x5)] := hl
  have hS : va_S (AE G [112, 140, 139] s.heap.size) s.heap s.heap [] := va_S.rf
  have n_m100000 : ((-100000) : Int32).toInt = -100000 := rfl
  have n_0 : (0 : Int32).toInt = 0 := rfl
  have n_1 : (1 : Int32).toInt = 1 := rfl
  have n_2 : (2 : Int32).toInt = 2 := rfl
  have hap : ∀ x y, x < 74 → y < 74 → x ≠ y → K.1.2 10 x ≠ K.1.2 10 y := x_apart hKT hts inX10 tyX10 tyX10_ok nmX10 rfl
  have J42 : ∀ (ls306 : Array Slot) (H305 : Heap) (locsH305 : List Loc) , lv_has ls306 6 [] → TY K G H305 → va_S (AE G [112, 140, 139] s.heap.size) s.heap H305 locsH305 → (CG (avw K H305 a0)) → (TU (avw K H305 a0) (svw K H305 a0)) → (WD (avw K H305 a0)) → (IM (avw K H305 a0)) → W p l e ({ frames := 4, cells := 0, slots := 0, locals := 97 } : Room) s m (([.ref a0, .int x1, .int x2, .int x3, .int x4, .int x5] : List Value).toArray) below meth c H305 locsH305 0 0 Q (F0 m 42 ls306 []) := by
    intro ls306 H305 locsH305  hl307 hTH305 hSH305 gy308_CG gy308_TU gy308_WD gy308_IM
    refine lv_ldcw (v := (-100000)) hx hb hown (hts _ wK_X10_334) dX10_tells_42 ?_
    exact x_iret C hQ dX10_tells_45 hSH305 (by decide) (by decide) (⟨(-100000), rfl, gy308_CG, gy308_TU, gy308_WD, gy308_IM, hTH305⟩)
  refine lv_aload_n hx hb dX10_tells_0 rfl (lv_at hl 0 rfl) ?_
  refine lv_iconst (v := 0) hx hb dX10_tells_1 (by decide) ?_
  refine x_put C hT hS (ci := 10) (k := 0) (v := .int 0) (ty0 := tyX10) rfl inX10 tyX10_ok nmX10 (by decide) rfl wF_X10_167 ga0 rg_112 rfl rfl (okI (by have := i_rng (0 : Int32); omega) (by have := i_rng (0 : Int32); omega)) rfl rfl (AE_in ga0 (by decide)) dX10_tells_2 (fun H309 locsH309 hTH309 hSH309 wH309 => ?_)
  have g310 : CG (avw K H309 a0) := CG.congr (fun k hk j => av_fld hT ga0 hap wH309 (by decide) (CG_ok 112 (by decide) k hk) (CG_ne 0 (by decide) k hk)) hg_CG
  have g311 : TU (avw K H309 a0) (svw K H309 a0) := TU.congr (fun k hk j => av_fld hT ga0 hap wH309 (by decide) (TU_ok 112 (by decide) k hk) (TU_ne 0 (by decide) k hk)) (fun k hk => sv_fld hap wH309 (by decide) (TU_slt k hk) (TU_sne 0 (by decide) k hk)) hg_TU
  have g312 : WD (avw K H309 a0) := WD.congr (fun k hk j => av_fld hT ga0 hap wH309 (by decide) (WD_ok 112 (by decide) k hk) (WD_ne 0 (by decide) k hk)) hg_WD
  have g313 : IM (avw K H309 a0) := IM.congr (fun k hk j => av_fld hT ga0 hap wH309 (by decide) (IM_ok 112 (by decide) k hk) (IM_ne 0 (by decide) k hk)) hg_IM
  have m314 := Wr.I wH309
  refine lv_aload_n hx hb dX10_tells_5 rfl (lv_at hl 0 rfl) ?_
  refine lv_iload_n hx hb dX10_tells_6 rfl (lv_at hl 1 rfl) ?_
  refine x_V (As := [.int x1]) (rest := []) C (c_X10_isLaw l K G H309 (x1) hTH309 ga0) yo_X10_isLaw wM_X10_328 ⟨⟨by decide, by decide⟩, by decide, by decide⟩ (x_rv C hTH309 (ci := 10) rfl ga0 rg_112) rfl hl.1 rfl (Nat.le_of_ble_eq_true rfl) dX10_tells_7 hSH309 (AE_sub (fun _ _ => rfl) (by decide) hSH309.1) (fun vH315 H315 locsH315 pH315 zH315 kH315 hSH315 => ?_)
  have hqH315 := pH315.1.symm
  subst hqH315
  rcases pH315.2 with ⟨hvH315, hcH315⟩ | ⟨hvH315, hcH315⟩
  · subst hvH315
    refine W.eq (g2 := F0 m 10 ls [.int 1]) rfl ?_
    refine lv_if_eq (tgt := 42) hx hb dX10_tells_10 (by decide) (fun c316 => ?_) (fun c316 => ?_)
    · have k317 := i_eq c316
      exfalso
      omega
    · have k317 := i_ne c316
      refine lv_aload_n hx hb dX10_tells_13 rfl (lv_at hl 0 rfl) ?_
      refine lv_iload_n hx hb dX10_tells_14 rfl (lv_at hl 2 rfl) ?_
      refine lv_iconst (v := 0) hx hb dX10_tells_15 (by decide) ?_
      refine lv_iconst (v := 2) hx hb dX10_tells_16 (by decide) ?_
      refine x_V (As := [.int x2, .int 0, .int 2]) (rest := []) C (c_X10_isIn l K G H309 (x2) (0) (2) hTH309 ga0) yo_X10_isIn wM_X10_177 ⟨⟨by decide, by decide⟩, by decide, by decide⟩ (x_rv C hTH309 (ci := 10) rfl ga0 rg_112) rfl hl.1 rfl (Nat.le_of_ble_eq_true rfl) dX10_tells_17 hSH315 (AE_sub (fun _ _ => rfl) (by decide) hSH315.1) (fun vH318 H318 locsH318 pH318 zH318 kH318 hSH318 => ?_)
      have hqH318 := pH318.1.symm
      subst hqH318
      rcases pH318.2 with ⟨hvH318, hcH318⟩ | ⟨hvH318, hcH318⟩
      · subst hvH318
        refine W.eq (g2 := F0 m 20 ls [.int 1]) rfl ?_
        refine lv_if_eq (tgt := 42) hx hb dX10_tells_20 (by decide) (fun c319 => ?_) (fun c319 => ?_)
        · have k320 := i_eq c319
          exfalso
          omega
        · have k320 := i_ne c319
          refine lv_aload_n hx hb dX10_tells_23 rfl (lv_at hl 0 rfl) ?_
          refine lv_iload_n hx hb dX10_tells_24 rfl (lv_at hl 3 rfl) ?_
          refine x_V (As := [.int x3]) (rest := []) C (c_X10_isTone l K G H309 (x3) hTH309 ga0) yo_X10_isTone wM_X10_331 ⟨⟨by decide, by decide⟩, by decide, by decide⟩ (x_rv C hTH309 (ci := 10) rfl ga0 rg_112) rfl hl.1 rfl (Nat.le_of_ble_eq_true rfl) dX10_tells_25 hSH318 (AE_sub (fun _ _ => rfl) (by decide) hSH318.1) (fun vH321 H321 locsH321 pH321 zH321 kH321 hSH321 => ?_)
          have hqH321 := pH321.1.symm
          subst hqH321
          rcases pH321.2 with ⟨hvH321, hcH321⟩ | ⟨hvH321, hcH321⟩
          · subst hvH321
            refine W.eq (g2 := F0 m 28 ls [.int 1]) rfl ?_
            refine lv_if_eq (tgt := 42) hx hb dX10_tells_28 (by decide) (fun c322 => ?_) (fun c322 => ?_)
            · have k323 := i_eq c322
              exfalso
              omega
            · have k323 := i_ne c322
              refine lv_aload_n hx hb dX10_tells_31 rfl (lv_at hl 0 rfl) ?_
              refine lv_iload hx hb dX10_tells_32 (lv_at hl 4 rfl) ?_
              refine lv_iload hx hb dX10_tells_34 (lv_at hl 5 rfl) ?_
              obtain ⟨x324, ex324⟩ : ∃ z : Int32, z = fI H309 a0 (K.1.2 10 1) := ⟨_, rfl⟩
              have bx324 := ty_fi (x := x324) (k := 1) ex324 hTH309 ga0 rg_112 rfl
              refine x_V (As := [.int x4, .int x5]) (rest := []) C (a_X10_isSlice l K G H309 (x4) (x5) (x324) hTH309 ga0 ex324) yo_X10_isSlice wM_X10_181 ⟨⟨by decide, by decide⟩, by decide, by decide⟩ (x_rv C hTH309 (ci := 10) rfl ga0 rg_112) rfl hl.1 rfl (Nat.le_of_ble_eq_true rfl) dX10_tells_36 hSH321 (AE_sub (fun _ _ => rfl) (by decide) hSH321.1) (fun vH325 H325 locsH325 pH325 zH325 kH325 hSH325 => ?_)
              obtain ⟨x326, hvH325, bx326, hrH325, hTH325⟩ := pH325
              subst hvH325
              have g327 : CG (avw K H325 a0) := CG.congr (fun k hk j => av_eff hTH309 kH325 ga0 (by decide) (CG_eff [] (by decide) k hk)) g310
              have g328 : TU (avw K H325 a0) (svw K H325 a0) := TU.congr (fun k hk j => av_eff hTH309 kH325 ga0 (by decide) (TU_eff [] (by decide) k hk)) (fun k hk => sv_eff hTH309 kH325 ga0 (by decide)) g311
              have g329 : WD (avw K H325 a0) := WD.congr (fun k hk j => av_eff hTH309 kH325 ga0 (by decide) (WD_eff [] (by decide) k hk)) g312
              have g330 : IM (avw K H325 a0) := IM.congr (fun k hk j => av_eff hTH309 kH325 ga0 (by decide) (IM_eff [] (by decide) k hk)) g313
              have m331 := (fI_kept (x_lt hTH309 kH325 ga0 (by decide))).trans m314
              have m332 := (ex324).trans (fI_kept (x_lt hTH309 kH325 ga0 (by decide))).symm
              refine W.eq (g2 := F0 m 39 ls [.int x326]) rfl ?_
              refine lv_if_ne (tgt := 46) hx hb dX10_tells_39 (by decide) (fun c333 => ?_) (fun c333 => ?_)
              · have k334 := i_ne c333
                refine lv_aload_n hx hb dX10_tells_46 rfl (lv_at hl 0 rfl) ?_
                refine lv_iload hx hb dX10_tells_47 (lv_at hl 4 rfl) ?_
                refine lv_iload hx hb dX10_tells_49 (lv_at hl 5 rfl) ?_
                refine x_V (As := [.int x4, .int x5]) (rest := []) C (a_X10_asksSlice l K G H325 (x4) (x5) hTH325 ga0 (by omega) (by omega)) yo_X10_asksSlice wM_X10_316 ⟨⟨by decide, by decide⟩, by decide, by decide⟩ (x_rv C hTH325 (ci := 10) rfl ga0 rg_112) rfl hl.1 rfl (Nat.le_of_ble_eq_true rfl) dX10_tells_51 hSH325 (AE_sub (fun _ _ => rfl) (by decide) hSH325.1) (fun vH335 H335 locsH335 pH335 zH335 kH335 hSH335 => ?_)
                obtain ⟨hvH335, hTH335⟩ := pH335
                subst hvH335
                have g336 : CG (avw K H335 a0) := CG.congr (fun k hk j => av_eff hTH325 kH335 ga0 (by decide) (CG_eff [139] (by decide) k hk)) g327
                have g337 : TU (avw K H335 a0) (svw K H335 a0) := TU.congr (fun k hk j => av_eff hTH325 kH335 ga0 (by decide) (TU_eff [139] (by decide) k hk)) (fun k hk => sv_eff hTH325 kH335 ga0 (by decide)) g328
                have g338 : WD (avw K H335 a0) := WD.congr (fun k hk j => av_eff hTH325 kH335 ga0 (by decide) (WD_eff [139] (by decide) k hk)) g329
                have g339 : IM (avw K H335 a0) := IM.congr (fun k hk j => av_eff hTH325 kH335 ga0 (by decide) (IM_eff [139] (by decide) k hk)) g330
                have m340 := (fI_kept (x_lt hTH325 kH335 ga0 (by decide))).trans m331
                have m341 := (m332).trans (fI_kept (x_lt hTH325 kH335 ga0 (by decide))).symm
                refine W.eq (g2 := F0 m 54 ls []) rfl ?_
                refine lv_aload_n hx hb dX10_tells_54 rfl (lv_at hl 0 rfl) ?_
                refine lv_iload_n hx hb dX10_tells_55 rfl (lv_at hl 1 rfl) ?_
                refine lv_iload_n hx hb dX10_tells_56 rfl (lv_at hl 2 rfl) ?_
                refine lv_iload_n hx hb dX10_tells_57 rfl (lv_at hl 3 rfl) ?_
                obtain ⟨q342, eq342⟩ : ∃ z : Nat, z = fR H335 a0 (K.1.2 10 24) := ⟨_, rfl⟩
                have gq342 := ty_fr (q := q342) (k := 24) (u := 128) eq342 hTH335 ga0 rg_112 rfl
                obtain ⟨x343, ex343⟩ : ∃ z : Int32, z = fI H335 q342 (x1 : Int32).toNatClampNeg := ⟨_, rfl⟩
                have bx343 := ty_ai (x := x343) ex343 hTH335 gq342 rg_128 (by omega)
                refine x_V (As := [.int x1, .int x2, .int x3]) (rest := []) C (a_X10_tellsBy l K G H335 (x1) (x2) (x3) (x343) hTH335 ga0 (by omega) gq342 eq342 ex343 g336) yo_X10_tellsBy wM_X10_319 ⟨⟨by decide, by decide⟩, by decide, by decide⟩ (x_rv C hTH335 (ci := 10) rfl ga0 rg_112) rfl hl.1 rfl (Nat.le_of_ble_eq_true rfl) dX10_tells_58 hSH335 (AE_sub (fun _ _ => rfl) (by decide) hSH335.1) (fun vH344 H344 locsH344 pH344 zH344 kH344 hSH344 => ?_)
                obtain ⟨x345, hvH344, hTH344⟩ := pH344
                subst hvH344
                have g346 : CG (avw K H344 a0) := CG.congr (fun k hk j => av_eff hTH335 kH344 ga0 (by decide) (CG_eff [140] (by decide) k hk)) g336
                have g347 : TU (avw K H344 a0) (svw K H344 a0) := TU.congr (fun k hk j => av_eff hTH335 kH344 ga0 (by decide) (TU_eff [140] (by decide) k hk)) (fun k hk => sv_eff hTH335 kH344 ga0 (by decide)) g337
                have g348 : WD (avw K H344 a0) := WD.congr (fun k hk j => av_eff hTH335 kH344 ga0 (by decide) (WD_eff [140] (by decide) k hk)) g338
                have g349 : IM (avw K H344 a0) := IM.congr (fun k hk j => av_eff hTH335 kH344 ga0 (by decide) (IM_eff [140] (by decide) k hk)) g339
                have m350 := (fI_kept (x_lt hTH335 kH344 ga0 (by decide))).trans m340
                have m351 := (m341).trans (fI_kept (x_lt hTH335 kH344 ga0 (by decide))).symm
                have m352 := (eq342).trans (fR_kept (x_lt hTH335 kH344 ga0 (by decide))).symm
                have m353 := (ex343).trans (fI_kept (x_lt hTH335 kH344 gq342 (by decide))).symm
                refine W.eq (g2 := F0 m 61 ls [.int x345]) rfl ?_
                exact x_iret C hQ dX10_tells_61 hSH344 (by decide) (by decide) (⟨x345, rfl, g346, g347, g348, g349, hTH344⟩)
              · have k334 := i_eq c333
                exact J42 ls H325 locsH325 (lv_sub hl [] rfl) hTH325 hSH325 g327 g328 g329 g330
          · subst hvH321
            refine W.eq (g2 := F0 m 28 ls [.int 0]) rfl ?_
            refine lv_if_eq (tgt := 42) hx hb dX10_tells_28 (by decide) (fun c354 => ?_) (fun c354 => ?_)
            · have k355 := i_eq c354
              exact J42 ls H309 locsH321 (lv_sub hl [] rfl) hTH309 hSH321 g310 g311 g312 g313
            · have k355 := i_ne c354
              exfalso
              omega
      · subst hvH318
        refine W.eq (g2 := F0 m 20 ls [.int 0]) rfl ?_
        refine lv_if_eq (tgt := 42) hx hb dX10_tells_20 (by decide) (fun c356 => ?_) (fun c356 => ?_)
        · have k357 := i_eq c356
          exact J42 ls H309 locsH318 (lv_sub hl [] rfl) hTH309 hSH318 g310 g311 g312 g313
        · have k357 := i_ne c356
          exfalso
          omega
  · subst hvH315
    refine W.eq (g2 := F0 m 10 ls [.int 0]) rfl ?_
    refine lv_if_eq (tgt := 42) hx hb dX10_tells_10 (by decide) (fun c358 => ?_) (fun c358 => ?_)
    · have k359 := i_eq c358
      exact J42 ls H309 locsH315 (lv_sub hl [] rfl) hTH309 hSH315 g310 g311 g312 g313
    · have k359 := i_ne c358
      exfalso
      omega

set_option maxHeartbeats 4000000 in
set_option maxRecDepth 100000 in
theorem a_X10_tone (l : Launch) (K : KE) (G : Nat → Option Nat) (H : Heap) {a0 : Nat} (x1 : Int32) (x2 : Int32) (hT : TY K G H) (ga0 : G a0 = some 112) (hg_CG : CG (avw K H a0)) (hg_TU : TU (avw K H a0) (svw K H a0)) (hg_WD : WD (avw K H a0)) (hg_IM : IM (avw K H a0)) : MX l K yX10_tone cX10_tone 3 (some .int) 6 145 0 0 [.ref a0, .int x1, .int x2] H (AE G [112, 140, 139] H.size) (fun v H1 => ∃ (r : Int32), v = some (.int r) ∧ (CG (avw K H1 a0)) ∧ (TU (avw K H1 a0) (svw K H1 a0)) ∧ (WD (avw K H1 a0)) ∧ (IM (avw K H1 a0)) ∧ TY K G H1) := by
  refine MX.of (by decide +kernel) (Nat.le_of_ble_eq_true rfl) ?_
  intro p e s m below meth c ls Q C hH hl hQ
  subst hH
  have C : CX p K s m _ meth c RX10 cX10_tone 3 (some .int) "tone" := C
  obtain ⟨hx, hb, hml, hown, hts, hKT, hr, hlocks, hnm⟩ := id C
  have hl : lv_has ls 3 [(0, .ref a0), (1, .int x1), (2, .int x2)] := hl
  have hS : va_S (AE G [112, 140, 139] s.heap.size) s.heap s.heap [] := va_S.rf
  have n_m1 : ((-1) : Int32).toInt = -1 := rfl
  have n_0 : (0 : Int32).toInt = 0 := rfl
  have n_1 : (1 : Int32).toInt = 1 := rfl
  have hap : ∀ x y, x < 74 → y < 74 → x ≠ y → K.1.2 10 x ≠ K.1.2 10 y := x_apart hKT hts inX10 tyX10 tyX10_ok nmX10 rfl
  have J31 : ∀ (ls226 : Array Slot) (H225 : Heap) (locsH225 : List Loc) (x228 : Int32), lv_has ls226 3 [] → TY K G H225 → va_S (AE G [112, 140, 139] s.heap.size) s.heap H225 locsH225 → (CG (avw K H225 a0)) → (TU (avw K H225 a0) (svw K H225 a0)) → (WD (avw K H225 a0)) → (IM (avw K H225 a0)) → W p l e ({ frames := 6, cells := 0, slots := 0, locals := 145 } : Room) s m (([.ref a0, .int x1, .int x2] : List Value).toArray) below meth c H225 locsH225 0 0 Q (F0 m 31 ls226 [.int x228]) := by
    intro ls226 H225 locsH225 x228 hl227 hTH225 hSH225 gy229_CG gy229_TU gy229_WD gy229_IM
    exact x_iret C hQ dX10_tone_31 hSH225 (by decide) (by decide) (⟨x228, rfl, gy229_CG, gy229_TU, gy229_WD, gy229_IM, hTH225⟩)
  have J30 : ∀ (ls231 : Array Slot) (H230 : Heap) (locsH230 : List Loc) , lv_has ls231 3 [] → TY K G H230 → va_S (AE G [112, 140, 139] s.heap.size) s.heap H230 locsH230 → (CG (avw K H230 a0)) → (TU (avw K H230 a0) (svw K H230 a0)) → (WD (avw K H230 a0)) → (IM (avw K H230 a0)) → W p l e ({ frames := 6, cells := 0, slots := 0, locals := 145 } : Room) s m (([.ref a0, .int x1, .int x2] : List Value).toArray) below meth c H230 locsH230 0 0 Q (F0 m 30 ls231 []) := by
    intro ls231 H230 locsH230  hl232 hTH230 hSH230 gy233_CG gy233_TU gy233_WD gy233_IM
    refine lv_iconst (v := (-1)) hx hb dX10_tone_30 (by decide) ?_
    exact J31 ls231 H230 locsH230 ((-1)) (lv_sub hl232 [] rfl) hTH230 hSH230 gy233_CG gy233_TU gy233_WD gy233_IM
  refine lv_aload_n hx hb dX10_tone_0 rfl (lv_at hl 0 rfl) ?_
  refine lv_iconst (v := 0) hx hb dX10_tone_1 (by decide) ?_
  refine x_put C hT hS (ci := 10) (k := 0) (v := .int 0) (ty0 := tyX10) rfl inX10 tyX10_ok nmX10 (by decide) rfl wF_X10_167 ga0 rg_112 rfl rfl (okI (by have := i_rng (0 : Int32); omega) (by have := i_rng (0 : Int32); omega)) rfl rfl (AE_in ga0 (by decide)) dX10_tone_2 (fun H234 locsH234 hTH234 hSH234 wH234 => ?_)
  have g235 : CG (avw K H234 a0) := CG.congr (fun k hk j => av_fld hT ga0 hap wH234 (by decide) (CG_ok 112 (by decide) k hk) (CG_ne 0 (by decide) k hk)) hg_CG
  have g236 : TU (avw K H234 a0) (svw K H234 a0) := TU.congr (fun k hk j => av_fld hT ga0 hap wH234 (by decide) (TU_ok 112 (by decide) k hk) (TU_ne 0 (by decide) k hk)) (fun k hk => sv_fld hap wH234 (by decide) (TU_slt k hk) (TU_sne 0 (by decide) k hk)) hg_TU
  have g237 : WD (avw K H234 a0) := WD.congr (fun k hk j => av_fld hT ga0 hap wH234 (by decide) (WD_ok 112 (by decide) k hk) (WD_ne 0 (by decide) k hk)) hg_WD
  have g238 : IM (avw K H234 a0) := IM.congr (fun k hk j => av_fld hT ga0 hap wH234 (by decide) (IM_ok 112 (by decide) k hk) (IM_ne 0 (by decide) k hk)) hg_IM
  have m239 := Wr.I wH234
  refine lv_aload_n hx hb dX10_tone_5 rfl (lv_at hl 0 rfl) ?_
  refine lv_iload_n hx hb dX10_tone_6 rfl (lv_at hl 1 rfl) ?_
  obtain ⟨x240, ex240⟩ : ∃ z : Int32, z = fI H234 a0 (K.1.2 10 1) := ⟨_, rfl⟩
  have bx240 := ty_fi (x := x240) (k := 1) ex240 hTH234 ga0 rg_112 rfl
  refine x_V (As := [.int x1]) (rest := []) C (a_X10_isBar l K G H234 (x1) (x240) hTH234 ga0 ex240) yo_X10_isBar wM_X10_173 ⟨⟨by decide, by decide⟩, by decide, by decide⟩ (x_rv C hTH234 (ci := 10) rfl ga0 rg_112) rfl hl.1 rfl (Nat.le_of_ble_eq_true rfl) dX10_tone_7 hSH234 (AE_sub (fun _ _ => rfl) (by decide) hSH234.1) (fun vH241 H241 locsH241 pH241 zH241 kH241 hSH241 => ?_)
  obtain ⟨x242, hvH241, bx242, hrH241, hTH241⟩ := pH241
  subst hvH241
  have g243 : CG (avw K H241 a0) := CG.congr (fun k hk j => av_eff hTH234 kH241 ga0 (by decide) (CG_eff [] (by decide) k hk)) g235
  have g244 : TU (avw K H241 a0) (svw K H241 a0) := TU.congr (fun k hk j => av_eff hTH234 kH241 ga0 (by decide) (TU_eff [] (by decide) k hk)) (fun k hk => sv_eff hTH234 kH241 ga0 (by decide)) g236
  have g245 : WD (avw K H241 a0) := WD.congr (fun k hk j => av_eff hTH234 kH241 ga0 (by decide) (WD_eff [] (by decide) k hk)) g237
  have g246 : IM (avw K H241 a0) := IM.congr (fun k hk j => av_eff hTH234 kH241 ga0 (by decide) (IM_eff [] (by decide) k hk)) g238
  have m247 := (fI_kept (x_lt hTH234 kH241 ga0 (by decide))).trans m239
  have m248 := (ex240).trans (fI_kept (x_lt hTH234 kH241 ga0 (by decide))).symm
  refine W.eq (g2 := F0 m 10 ls [.int x242]) rfl ?_
  refine lv_if_eq (tgt := 30) hx hb dX10_tone_10 (by decide) (fun c249 => ?_) (fun c249 => ?_)
  · have k250 := i_eq c249
    exact J30 ls H241 locsH241 (lv_sub hl [] rfl) hTH241 hSH241 g243 g244 g245 g246
  · have k250 := i_ne c249
    refine lv_aload_n hx hb dX10_tone_13 rfl (lv_at hl 0 rfl) ?_
    refine lv_iload_n hx hb dX10_tone_14 rfl (lv_at hl 2 rfl) ?_
    refine x_V (As := [.int x2]) (rest := []) C (c_X10_isTone l K G H241 (x2) hTH241 ga0) yo_X10_isTone wM_X10_331 ⟨⟨by decide, by decide⟩, by decide, by decide⟩ (x_rv C hTH241 (ci := 10) rfl ga0 rg_112) rfl hl.1 rfl (Nat.le_of_ble_eq_true rfl) dX10_tone_15 hSH241 (AE_sub (fun _ _ => rfl) (by decide) hSH241.1) (fun vH251 H251 locsH251 pH251 zH251 kH251 hSH251 => ?_)
    have hqH251 := pH251.1.symm
    subst hqH251
    rcases pH251.2 with ⟨hvH251, hcH251⟩ | ⟨hvH251, hcH251⟩
    · subst hvH251
      refine W.eq (g2 := F0 m 18 ls [.int 1]) rfl ?_
      refine lv_if_eq (tgt := 30) hx hb dX10_tone_18 (by decide) (fun c252 => ?_) (fun c252 => ?_)
      · have k253 := i_eq c252
        exfalso
        omega
      · have k253 := i_ne c252
        refine lv_aload_n hx hb dX10_tone_21 rfl (lv_at hl 0 rfl) ?_
        refine lv_iload_n hx hb dX10_tone_22 rfl (lv_at hl 1 rfl) ?_
        refine lv_iload_n hx hb dX10_tone_23 rfl (lv_at hl 2 rfl) ?_
        refine x_V (As := [.int x1, .int x2]) (rest := []) C (a_X10_toneNow l K G H241 (x1) (x2) hTH241 ga0 (by omega) g243) yo_X10_toneNow wM_X10_335 ⟨⟨by decide, by decide⟩, by decide, by decide⟩ (x_rv C hTH241 (ci := 10) rfl ga0 rg_112) rfl hl.1 rfl (Nat.le_of_ble_eq_true rfl) dX10_tone_24 hSH251 (AE_sub (fun _ _ => rfl) (by decide) hSH251.1) (fun vH254 H254 locsH254 pH254 zH254 kH254 hSH254 => ?_)
        obtain ⟨x255, hvH254, hTH254⟩ := pH254
        subst hvH254
        have g256 : CG (avw K H254 a0) := CG.congr (fun k hk j => av_eff hTH241 kH254 ga0 (by decide) (CG_eff [140, 139] (by decide) k hk)) g243
        have g257 : TU (avw K H254 a0) (svw K H254 a0) := TU.congr (fun k hk j => av_eff hTH241 kH254 ga0 (by decide) (TU_eff [140, 139] (by decide) k hk)) (fun k hk => sv_eff hTH241 kH254 ga0 (by decide)) g244
        have g258 : WD (avw K H254 a0) := WD.congr (fun k hk j => av_eff hTH241 kH254 ga0 (by decide) (WD_eff [140, 139] (by decide) k hk)) g245
        have g259 : IM (avw K H254 a0) := IM.congr (fun k hk j => av_eff hTH241 kH254 ga0 (by decide) (IM_eff [140, 139] (by decide) k hk)) g246
        have m260 := (fI_kept (x_lt hTH241 kH254 ga0 (by decide))).trans m247
        have m261 := (m248).trans (fI_kept (x_lt hTH241 kH254 ga0 (by decide))).symm
        refine W.eq (g2 := F0 m 27 ls [.int x255]) rfl ?_
        refine lv_goto (tgt := 31) hx hb dX10_tone_27 (by decide) ?_
        exact J31 ls H254 locsH254 (x255) (lv_sub hl [] rfl) hTH254 hSH254 g256 g257 g258 g259
    · subst hvH251
      refine W.eq (g2 := F0 m 18 ls [.int 0]) rfl ?_
      refine lv_if_eq (tgt := 30) hx hb dX10_tone_18 (by decide) (fun c262 => ?_) (fun c262 => ?_)
      · have k263 := i_eq c262
        exact J30 ls H241 locsH251 (lv_sub hl [] rfl) hTH241 hSH251 g243 g244 g245 g246
      · have k263 := i_ne c262
        exfalso
        omega

set_option maxHeartbeats 4000000 in
set_option maxRecDepth 100000 in
theorem a_X10_shave (l : Launch) (K : KE) (G : Nat → Option Nat) (H : Heap) {a0 : Nat} (x1 : Int32) (x2 : Int32) (x3 : Int32) (hT : TY K G H) (ga0 : G a0 = some 112) (hg_CG : CG (avw K H a0)) (hg_TU : TU (avw K H a0) (svw K H a0)) (hg_WD : WD (avw K H a0)) (hg_IM : IM (avw K H a0)) : MX l K yX10_shave cX10_shave 4 (some .int) 8 190 0 0 [.ref a0, .int x1, .int x2, .int x3] H (AE G [112, 114, 120, 121, 119, 122, 140, 139] H.size) (fun v H1 => ∃ (r : Int32), v = some (.int r) ∧ (CG (avw K H1 a0)) ∧ (TU (avw K H1 a0) (svw K H1 a0)) ∧ (WD (avw K H1 a0)) ∧ (IM (avw K H1 a0)) ∧ TY K G H1) := by
  refine MX.of (by decide +kernel) (Nat.le_of_ble_eq_true rfl) ?_
  intro p e s m below meth c ls Q C hH hl hQ
  subst hH
  have C : CX p K s m _ meth c RX10 cX10_shave 4 (some .int) "shave" := C
  obtain ⟨hx, hb, hml, hown, hts, hKT, hr, hlocks, hnm⟩ := id C
  have hl : lv_has ls 4 [(0, .ref a0), (1, .int x1), (2, .int x2), (3, .int x3)] := hl
  have hS : va_S (AE G [112, 114, 120, 121, 119, 122, 140, 139] s.heap.size) s.heap s.heap [] := va_S.rf
  have n_m1 : ((-1) : Int32).toInt = -1 := rfl
  have n_0 : (0 : Int32).toInt = 0 := rfl
  have n_1 : (1 : Int32).toInt = 1 := rfl
  have n_9 : (9 : Int32).toInt = 9 := rfl
  have hap : ∀ x y, x < 74 → y < 74 → x ≠ y → K.1.2 10 x ≠ K.1.2 10 y := x_apart hKT hts inX10 tyX10 tyX10_ok nmX10 rfl
  have J26 : ∀ (ls246 : Array Slot) (H245 : Heap) (locsH245 : List Loc) , lv_has ls246 4 [] → TY K G H245 → va_S (AE G [112, 114, 120, 121, 119, 122, 140, 139] s.heap.size) s.heap H245 locsH245 → (CG (avw K H245 a0)) → (TU (avw K H245 a0) (svw K H245 a0)) → (WD (avw K H245 a0)) → (IM (avw K H245 a0)) → W p l e ({ frames := 8, cells := 0, slots := 0, locals := 190 } : Room) s m (([.ref a0, .int x1, .int x2, .int x3] : List Value).toArray) below meth c H245 locsH245 0 0 Q (F0 m 26 ls246 []) := by
    intro ls246 H245 locsH245  hl247 hTH245 hSH245 gy248_CG gy248_TU gy248_WD gy248_IM
    refine lv_iconst (v := (-1)) hx hb dX10_shave_26 (by decide) ?_
    exact x_iret C hQ dX10_shave_27 hSH245 (by decide) (by decide) (⟨(-1), rfl, gy248_CG, gy248_TU, gy248_WD, gy248_IM, hTH245⟩)
  refine lv_aload_n hx hb dX10_shave_0 rfl (lv_at hl 0 rfl) ?_
  refine lv_iconst (v := 0) hx hb dX10_shave_1 (by decide) ?_
  refine x_put C hT hS (ci := 10) (k := 0) (v := .int 0) (ty0 := tyX10) rfl inX10 tyX10_ok nmX10 (by decide) rfl wF_X10_167 ga0 rg_112 rfl rfl (okI (by have := i_rng (0 : Int32); omega) (by have := i_rng (0 : Int32); omega)) rfl rfl (AE_in ga0 (by decide)) dX10_shave_2 (fun H249 locsH249 hTH249 hSH249 wH249 => ?_)
  have g250 : CG (avw K H249 a0) := CG.congr (fun k hk j => av_fld hT ga0 hap wH249 (by decide) (CG_ok 112 (by decide) k hk) (CG_ne 0 (by decide) k hk)) hg_CG
  have g251 : TU (avw K H249 a0) (svw K H249 a0) := TU.congr (fun k hk j => av_fld hT ga0 hap wH249 (by decide) (TU_ok 112 (by decide) k hk) (TU_ne 0 (by decide) k hk)) (fun k hk => sv_fld hap wH249 (by decide) (TU_slt k hk) (TU_sne 0 (by decide) k hk)) hg_TU
  have g252 : WD (avw K H249 a0) := WD.congr (fun k hk j => av_fld hT ga0 hap wH249 (by decide) (WD_ok 112 (by decide) k hk) (WD_ne 0 (by decide) k hk)) hg_WD
  have g253 : IM (avw K H249 a0) := IM.congr (fun k hk j => av_fld hT ga0 hap wH249 (by decide) (IM_ok 112 (by decide) k hk) (IM_ne 0 (by decide) k hk)) hg_IM
  have m254 := Wr.I wH249
  refine lv_aload_n hx hb dX10_shave_5 rfl (lv_at hl 0 rfl) ?_
  refine lv_iload_n hx hb dX10_shave_6 rfl (lv_at hl 3 rfl) ?_
  refine lv_iconst (v := 1) hx hb dX10_shave_7 (by decide) ?_
  refine lv_bipush (v := 9) hx hb dX10_shave_8 (by decide) ?_
  refine x_V (As := [.int x3, .int 1, .int 9]) (rest := []) C (c_X10_isIn l K G H249 (x3) (1) (9) hTH249 ga0) yo_X10_isIn wM_X10_177 ⟨⟨by decide, by decide⟩, by decide, by decide⟩ (x_rv C hTH249 (ci := 10) rfl ga0 rg_112) rfl hl.1 rfl (Nat.le_of_ble_eq_true rfl) dX10_shave_10 hSH249 (AE_sub (fun _ _ => rfl) (by decide) hSH249.1) (fun vH255 H255 locsH255 pH255 zH255 kH255 hSH255 => ?_)
  have hqH255 := pH255.1.symm
  subst hqH255
  rcases pH255.2 with ⟨hvH255, hcH255⟩ | ⟨hvH255, hcH255⟩
  · subst hvH255
    refine W.eq (g2 := F0 m 13 ls [.int 1]) rfl ?_
    refine lv_if_eq (tgt := 26) hx hb dX10_shave_13 (by decide) (fun c256 => ?_) (fun c256 => ?_)
    · have k257 := i_eq c256
      exfalso
      omega
    · have k257 := i_ne c256
      refine lv_aload_n hx hb dX10_shave_16 rfl (lv_at hl 0 rfl) ?_
      refine lv_iload_n hx hb dX10_shave_17 rfl (lv_at hl 1 rfl) ?_
      refine lv_iload_n hx hb dX10_shave_18 rfl (lv_at hl 2 rfl) ?_
      refine lv_iload_n hx hb dX10_shave_19 rfl (lv_at hl 3 rfl) ?_
      obtain ⟨x258, ex258⟩ : ∃ z : Int32, z = fI H249 a0 (K.1.2 10 1) := ⟨_, rfl⟩
      have bx258 := ty_fi (x := x258) (k := 1) ex258 hTH249 ga0 rg_112 rfl
      refine x_V (As := [.int x1, .int x2, .int x3]) (rest := []) C (a_X10_canPass l K G H249 (x1) (x2) (x3) (x258) hTH249 ga0 ex258) yo_X10_canPass wM_X10_341 ⟨⟨by decide, by decide⟩, by decide, by decide⟩ (x_rv C hTH249 (ci := 10) rfl ga0 rg_112) rfl hl.1 rfl (Nat.le_of_ble_eq_true rfl) dX10_shave_20 hSH255 (AE_sub (fun _ _ => rfl) (by decide) hSH255.1) (fun vH259 H259 locsH259 pH259 zH259 kH259 hSH259 => ?_)
      obtain ⟨x260, hvH259, bx260, hrH259, m261, hTH259⟩ := pH259
      subst hvH259
      have g262 : CG (avw K H259 a0) := CG.congr (fun k hk j => av_eff hTH249 kH259 ga0 (by decide) (CG_eff [] (by decide) k hk)) g250
      have g263 : TU (avw K H259 a0) (svw K H259 a0) := TU.congr (fun k hk j => av_eff hTH249 kH259 ga0 (by decide) (TU_eff [] (by decide) k hk)) (fun k hk => sv_eff hTH249 kH259 ga0 (by decide)) g251
      have g264 : WD (avw K H259 a0) := WD.congr (fun k hk j => av_eff hTH249 kH259 ga0 (by decide) (WD_eff [] (by decide) k hk)) g252
      have g265 : IM (avw K H259 a0) := IM.congr (fun k hk j => av_eff hTH249 kH259 ga0 (by decide) (IM_eff [] (by decide) k hk)) g253
      have m266 := (fI_kept (x_lt hTH249 kH259 ga0 (by decide))).trans m254
      have m267 := (ex258).trans (fI_kept (x_lt hTH249 kH259 ga0 (by decide))).symm
      obtain ⟨q268, eq268⟩ : ∃ z : Nat, z = fR H259 a0 (K.1.2 10 10) := ⟨_, rfl⟩
      have gq268 := ty_fr (q := q268) (k := 10) (u := 119) eq268 hTH259 ga0 rg_112 rfl
      obtain ⟨x269, ex269⟩ : ∃ z : Int32, z = fI H259 q268 (x1 : Int32).toNatClampNeg := ⟨_, rfl⟩
      rw [← eq268, ← ex269] at m261
      refine W.eq (g2 := F0 m 23 ls [.int x260]) rfl ?_
      refine lv_if_ne (tgt := 28) hx hb dX10_shave_23 (by decide) (fun c270 => ?_) (fun c270 => ?_)
      · have k271 := i_ne c270
        refine lv_aload_n hx hb dX10_shave_28 rfl (lv_at hl 0 rfl) ?_
        refine lv_iload_n hx hb dX10_shave_29 rfl (lv_at hl 1 rfl) ?_
        refine lv_iload_n hx hb dX10_shave_30 rfl (lv_at hl 2 rfl) ?_
        refine lv_iload_n hx hb dX10_shave_31 rfl (lv_at hl 3 rfl) ?_
        refine x_V (As := [.int x1, .int x2, .int x3]) (rest := []) C (a_X10_takesOff l K G H259 (x1) (x2) (x3) (x269) hTH259 ga0 (by omega) (by omega) gq268 eq268 ex269 g262 (by omega)) yo_X10_takesOff wM_X10_344 ⟨⟨by decide, by decide⟩, by decide, by decide⟩ (x_rv C hTH259 (ci := 10) rfl ga0 rg_112) rfl hl.1 rfl (Nat.le_of_ble_eq_true rfl) dX10_shave_32 hSH259 (AE_sub (fun _ _ => rfl) (by decide) hSH259.1) (fun vH272 H272 locsH272 pH272 zH272 kH272 hSH272 => ?_)
        obtain ⟨x273, hvH272, ex273, hTH272⟩ := pH272
        subst hvH272
        have g274 : CG (avw K H272 a0) := CG.congr (fun k hk j => av_eff hTH259 kH272 ga0 (by decide) (CG_eff [114, 120, 121, 119, 122, 140, 139] (by decide) k hk)) g262
        have g275 : TU (avw K H272 a0) (svw K H272 a0) := TU.congr (fun k hk j => av_eff hTH259 kH272 ga0 (by decide) (TU_eff [114, 120, 121, 119, 122, 140, 139] (by decide) k hk)) (fun k hk => sv_eff hTH259 kH272 ga0 (by decide)) g263
        have g276 : WD (avw K H272 a0) := WD.congr (fun k hk j => av_eff hTH259 kH272 ga0 (by decide) (WD_eff [114, 120, 121, 119, 122, 140, 139] (by decide) k hk)) g264
        have g277 : IM (avw K H272 a0) := IM.congr (fun k hk j => av_eff hTH259 kH272 ga0 (by decide) (IM_eff [114, 120, 121, 119, 122, 140, 139] (by decide) k hk)) g265
        have m278 := (fI_kept (x_lt hTH259 kH272 ga0 (by decide))).trans m266
        have m279 := (m267).trans (fI_kept (x_lt hTH259 kH272 ga0 (by decide))).symm
        have m280 := (eq268).trans (fR_kept (x_lt hTH259 kH272 ga0 (by decide))).symm
        have bx273 := ty_ai (x := x273) ex273 hTH272 gq268 rg_119 (by omega)
        refine W.eq (g2 := F0 m 35 ls []) rfl ?_
        refine lv_aload_n hx hb dX10_shave_35 rfl (lv_at hl 0 rfl) ?_
        refine x_gr C hTH272 (ci := 10) (k := 10) rfl inX10 (by decide) wF_X10_32 ga0 rg_112 rfl dX10_shave_36 (fun q281 eq281 gq281 => ?_)
        have uq281 : q268 = q281 := (m280).trans eq281.symm
        subst uq281
        refine lv_iload_n hx hb dX10_shave_39 rfl (lv_at hl 1 rfl) ?_
        refine x_ai C hTH272 gq268 rg_119 ⟨by omega, by show _ < ((10 : Nat) : Int); omega⟩ dX10_shave_40 (fun x282 ex282 bx282 => ?_)
        have ux282 : x273 = x282 := (ex273).trans ex282.symm
        subst ux282
        exact x_iret C hQ dX10_shave_41 hSH272 (by decide) (by decide) (⟨x273, rfl, g274, g275, g276, g277, hTH272⟩)
      · have k271 := i_eq c270
        exact J26 ls H259 locsH259 (lv_sub hl [] rfl) hTH259 hSH259 g262 g263 g264 g265
  · subst hvH255
    refine W.eq (g2 := F0 m 13 ls [.int 0]) rfl ?_
    refine lv_if_eq (tgt := 26) hx hb dX10_shave_13 (by decide) (fun c283 => ?_) (fun c283 => ?_)
    · have k284 := i_eq c283
      exact J26 ls H249 locsH255 (lv_sub hl [] rfl) hTH249 hSH255 g250 g251 g252 g253
    · have k284 := i_ne c283
      exfalso
      omega

set_option maxHeartbeats 4000000 in
set_option maxRecDepth 100000 in
theorem a_X10_pass (l : Launch) (K : KE) (G : Nat → Option Nat) (H : Heap) {a0 : Nat} (x1 : Int32) (x2 : Int32) (x3 : Int32) (hT : TY K G H) (ga0 : G a0 = some 112) (hg_CG : CG (avw K H a0)) (hg_TU : TU (avw K H a0) (svw K H a0)) (hg_WD : WD (avw K H a0)) (hg_IM : IM (avw K H a0)) : MX l K yX10_pass cX10_pass 4 (some .int) 1 23 0 0 [.ref a0, .int x1, .int x2, .int x3] H (AE G [112] H.size) (fun v H1 => ∃ (r : Int32), v = some (.int r) ∧ (CG (avw K H1 a0)) ∧ (TU (avw K H1 a0) (svw K H1 a0)) ∧ (WD (avw K H1 a0)) ∧ (IM (avw K H1 a0)) ∧ TY K G H1) := by
  refine MX.of (by decide +kernel) (Nat.le_of_ble_eq_true rfl) ?_
  intro p e s m below meth c ls Q C hH hl hQ
  subst hH
  have C : CX p K s m _ meth c RX10 cX10_pass 4 (some .int) "pass" := C
  obtain ⟨hx, hb, hml, hown, hts, hKT, hr, hlocks, hnm⟩ := id C
  have hl : lv_has ls 4 [(0, .ref a0), (1, .int x1), (2, .int x2), (3, .int x3)] := hl
  have hS : va_S (AE G [112] s.heap.size) s.heap s.heap [] := va_S.rf
  have n_m1 : ((-1) : Int32).toInt = -1 := rfl
  have n_0 : (0 : Int32).toInt = 0 := rfl
  have n_1 : (1 : Int32).toInt = 1 := rfl
  have n_200 : (200 : Int32).toInt = 200 := rfl
  have hap : ∀ x y, x < 74 → y < 74 → x ≠ y → K.1.2 10 x ≠ K.1.2 10 y := x_apart hKT hts inX10 tyX10 tyX10_ok nmX10 rfl
  have J28 : ∀ (ls259 : Array Slot) (H258 : Heap) (locsH258 : List Loc) , lv_has ls259 4 [] → TY K G H258 → va_S (AE G [112] s.heap.size) s.heap H258 locsH258 → (CG (avw K H258 a0)) → (TU (avw K H258 a0) (svw K H258 a0)) → (WD (avw K H258 a0)) → (IM (avw K H258 a0)) → W p l e ({ frames := 1, cells := 0, slots := 0, locals := 23 } : Room) s m (([.ref a0, .int x1, .int x2, .int x3] : List Value).toArray) below meth c H258 locsH258 0 0 Q (F0 m 28 ls259 []) := by
    intro ls259 H258 locsH258  hl260 hTH258 hSH258 gy261_CG gy261_TU gy261_WD gy261_IM
    refine lv_iconst (v := (-1)) hx hb dX10_pass_28 (by decide) ?_
    exact x_iret C hQ dX10_pass_29 hSH258 (by decide) (by decide) (⟨(-1), rfl, gy261_CG, gy261_TU, gy261_WD, gy261_IM, hTH258⟩)
  have J74 : ∀ (ls263 : Array Slot) (H262 : Heap) (locsH262 : List Loc) (x265 : Int32), lv_has ls263 4 [] → TY K G H262 → va_S (AE G [112] s.heap.size) s.heap H262 locsH262 → (CG (avw K H262 a0)) → (TU (avw K H262 a0) (svw K H262 a0)) → (WD (avw K H262 a0)) → (IM (avw K H262 a0)) → W p l e ({ frames := 1, cells := 0, slots := 0, locals := 23 } : Room) s m (([.ref a0, .int x1, .int x2, .int x3] : List Value).toArray) below meth c H262 locsH262 0 0 Q (F0 m 74 ls263 [.int x265]) := by
    intro ls263 H262 locsH262 x265 hl264 hTH262 hSH262 gy266_CG gy266_TU gy266_WD gy266_IM
    exact x_iret C hQ dX10_pass_74 hSH262 (by decide) (by decide) (⟨x265, rfl, gy266_CG, gy266_TU, gy266_WD, gy266_IM, hTH262⟩)
  refine lv_aload_n hx hb dX10_pass_0 rfl (lv_at hl 0 rfl) ?_
  refine lv_iconst (v := 0) hx hb dX10_pass_1 (by decide) ?_
  refine x_put C hT hS (ci := 10) (k := 0) (v := .int 0) (ty0 := tyX10) rfl inX10 tyX10_ok nmX10 (by decide) rfl wF_X10_167 ga0 rg_112 rfl rfl (okI (by have := i_rng (0 : Int32); omega) (by have := i_rng (0 : Int32); omega)) rfl rfl (AE_in ga0 (by decide)) dX10_pass_2 (fun H267 locsH267 hTH267 hSH267 wH267 => ?_)
  have g268 : CG (avw K H267 a0) := CG.congr (fun k hk j => av_fld hT ga0 hap wH267 (by decide) (CG_ok 112 (by decide) k hk) (CG_ne 0 (by decide) k hk)) hg_CG
  have g269 : TU (avw K H267 a0) (svw K H267 a0) := TU.congr (fun k hk j => av_fld hT ga0 hap wH267 (by decide) (TU_ok 112 (by decide) k hk) (TU_ne 0 (by decide) k hk)) (fun k hk => sv_fld hap wH267 (by decide) (TU_slt k hk) (TU_sne 0 (by decide) k hk)) hg_TU
  have g270 : WD (avw K H267 a0) := WD.congr (fun k hk j => av_fld hT ga0 hap wH267 (by decide) (WD_ok 112 (by decide) k hk) (WD_ne 0 (by decide) k hk)) hg_WD
  have g271 : IM (avw K H267 a0) := IM.congr (fun k hk j => av_fld hT ga0 hap wH267 (by decide) (IM_ok 112 (by decide) k hk) (IM_ne 0 (by decide) k hk)) hg_IM
  have m272 := Wr.I wH267
  refine lv_aload_n hx hb dX10_pass_5 rfl (lv_at hl 0 rfl) ?_
  refine lv_iload_n hx hb dX10_pass_6 rfl (lv_at hl 1 rfl) ?_
  obtain ⟨x273, ex273⟩ : ∃ z : Int32, z = fI H267 a0 (K.1.2 10 1) := ⟨_, rfl⟩
  have bx273 := ty_fi (x := x273) (k := 1) ex273 hTH267 ga0 rg_112 rfl
  refine x_V (As := [.int x1]) (rest := []) C (a_X10_isBar l K G H267 (x1) (x273) hTH267 ga0 ex273) yo_X10_isBar wM_X10_173 ⟨⟨by decide, by decide⟩, by decide, by decide⟩ (x_rv C hTH267 (ci := 10) rfl ga0 rg_112) rfl hl.1 rfl (Nat.le_of_ble_eq_true rfl) dX10_pass_7 hSH267 (AE_sub (fun _ _ => rfl) (by decide) hSH267.1) (fun vH274 H274 locsH274 pH274 zH274 kH274 hSH274 => ?_)
  obtain ⟨x275, hvH274, bx275, hrH274, hTH274⟩ := pH274
  subst hvH274
  have g276 : CG (avw K H274 a0) := CG.congr (fun k hk j => av_eff hTH267 kH274 ga0 (by decide) (CG_eff [] (by decide) k hk)) g268
  have g277 : TU (avw K H274 a0) (svw K H274 a0) := TU.congr (fun k hk j => av_eff hTH267 kH274 ga0 (by decide) (TU_eff [] (by decide) k hk)) (fun k hk => sv_eff hTH267 kH274 ga0 (by decide)) g269
  have g278 : WD (avw K H274 a0) := WD.congr (fun k hk j => av_eff hTH267 kH274 ga0 (by decide) (WD_eff [] (by decide) k hk)) g270
  have g279 : IM (avw K H274 a0) := IM.congr (fun k hk j => av_eff hTH267 kH274 ga0 (by decide) (IM_eff [] (by decide) k hk)) g271
  have m280 := (fI_kept (x_lt hTH267 kH274 ga0 (by decide))).trans m272
  have m281 := (ex273).trans (fI_kept (x_lt hTH267 kH274 ga0 (by decide))).symm
  refine W.eq (g2 := F0 m 10 ls [.int x275]) rfl ?_
  refine lv_if_eq (tgt := 28) hx hb dX10_pass_10 (by decide) (fun c282 => ?_) (fun c282 => ?_)
  · have k283 := i_eq c282
    exact J28 ls H274 locsH274 (lv_sub hl [] rfl) hTH274 hSH274 g276 g277 g278 g279
  · have k283 := i_ne c282
    refine lv_aload_n hx hb dX10_pass_13 rfl (lv_at hl 0 rfl) ?_
    refine lv_iload_n hx hb dX10_pass_14 rfl (lv_at hl 2 rfl) ?_
    refine lv_iconst (v := 1) hx hb dX10_pass_15 (by decide) ?_
    refine lv_aload_n hx hb dX10_pass_16 rfl (lv_at hl 0 rfl) ?_
    refine x_gr C hTH274 (ci := 10) (k := 10) rfl inX10 (by decide) wF_X10_32 ga0 rg_112 rfl dX10_pass_17 (fun q284 eq284 gq284 => ?_)
    refine lv_iload_n hx hb dX10_pass_20 rfl (lv_at hl 1 rfl) ?_
    refine x_ai C hTH274 gq284 rg_119 ⟨by omega, by show _ < ((10 : Nat) : Int); omega⟩ dX10_pass_21 (fun x285 ex285 bx285 => ?_)
    refine x_V (As := [.int x2, .int 1, .int x285]) (rest := []) C (c_X10_isIn l K G H274 (x2) (1) (x285) hTH274 ga0) yo_X10_isIn wM_X10_177 ⟨⟨by decide, by decide⟩, by decide, by decide⟩ (x_rv C hTH274 (ci := 10) rfl ga0 rg_112) rfl hl.1 rfl (Nat.le_of_ble_eq_true rfl) dX10_pass_22 hSH274 (AE_sub (fun _ _ => rfl) (by decide) hSH274.1) (fun vH286 H286 locsH286 pH286 zH286 kH286 hSH286 => ?_)
    have hqH286 := pH286.1.symm
    subst hqH286
    rcases pH286.2 with ⟨hvH286, hcH286⟩ | ⟨hvH286, hcH286⟩
    · subst hvH286
      refine W.eq (g2 := F0 m 25 ls [.int 1]) rfl ?_
      refine lv_if_ne (tgt := 30) hx hb dX10_pass_25 (by decide) (fun c287 => ?_) (fun c287 => ?_)
      · have k288 := i_ne c287
        refine lv_iload_n hx hb dX10_pass_30 rfl (lv_at hl 3 rfl) ?_
        refine lv_if_ne (tgt := 51) hx hb dX10_pass_31 (by decide) (fun c289 => ?_) (fun c289 => ?_)
        · have k290 := i_ne c289
          refine lv_iload_n hx hb dX10_pass_51 rfl (lv_at hl 3 rfl) ?_
          refine lv_iconst (v := 1) hx hb dX10_pass_52 (by decide) ?_
          refine lv_icmp_ne (tgt := 73) hx hb dX10_pass_53 (by decide) (fun c291 => ?_) (fun c291 => ?_)
          · have k292 := i_ne c291
            refine lv_iconst (v := (-1)) hx hb dX10_pass_73 (by decide) ?_
            exact J74 ls H274 locsH286 ((-1)) (lv_sub hl [] rfl) hTH274 hSH286 g276 g277 g278 g279
          · have k292 := i_eq c291
            refine lv_aload_n hx hb dX10_pass_56 rfl (lv_at hl 0 rfl) ?_
            refine x_gr C hTH274 (ci := 10) (k := 12) rfl inX10 (by decide) wF_X10_38 ga0 rg_112 rfl dX10_pass_57 (fun q293 eq293 gq293 => ?_)
            refine lv_sipush (v := 200) hx hb dX10_pass_60 (by decide) ?_
            refine lv_iload_n hx hb dX10_pass_63 rfl (lv_at hl 1 rfl) ?_
            refine lv_imul hx hb dX10_pass_64 ?_
            refine lv_topi (fun x294 ex294 => ?_)
            have tx294 := i_mul ex294 (by rw [n_200]; omega)
            rw [n_200] at tx294
            refine lv_iload_n hx hb dX10_pass_65 rfl (lv_at hl 2 rfl) ?_
            refine lv_iadd hx hb dX10_pass_66 ?_
            refine lv_topi (fun x295 ex295 => ?_)
            have tx295 := i_add ex295 (by omega)
            refine lv_iconst (v := 1) hx hb dX10_pass_67 (by decide) ?_
            refine lv_isub hx hb dX10_pass_68 ?_
            refine lv_topi (fun x296 ex296 => ?_)
            have tx296 := i_sub ex296 (by omega)
            refine x_ai C hTH274 gq293 rg_121 ⟨by omega, by show _ < ((2000 : Nat) : Int); omega⟩ dX10_pass_69 (fun x297 ex297 bx297 => ?_)
            refine lv_goto (tgt := 74) hx hb dX10_pass_70 (by decide) ?_
            exact J74 ls H274 locsH286 (x297) (lv_sub hl [] rfl) hTH274 hSH286 g276 g277 g278 g279
        · have k290 := i_eq c289
          refine lv_aload_n hx hb dX10_pass_34 rfl (lv_at hl 0 rfl) ?_
          refine x_gr C hTH274 (ci := 10) (k := 11) rfl inX10 (by decide) wF_X10_35 ga0 rg_112 rfl dX10_pass_35 (fun q298 eq298 gq298 => ?_)
          refine lv_sipush (v := 200) hx hb dX10_pass_38 (by decide) ?_
          refine lv_iload_n hx hb dX10_pass_41 rfl (lv_at hl 1 rfl) ?_
          refine lv_imul hx hb dX10_pass_42 ?_
          refine lv_topi (fun x299 ex299 => ?_)
          have tx299 := i_mul ex299 (by rw [n_200]; omega)
          rw [n_200] at tx299
          refine lv_iload_n hx hb dX10_pass_43 rfl (lv_at hl 2 rfl) ?_
          refine lv_iadd hx hb dX10_pass_44 ?_
          refine lv_topi (fun x300 ex300 => ?_)
          have tx300 := i_add ex300 (by omega)
          refine lv_iconst (v := 1) hx hb dX10_pass_45 (by decide) ?_
          refine lv_isub hx hb dX10_pass_46 ?_
          refine lv_topi (fun x301 ex301 => ?_)
          have tx301 := i_sub ex301 (by omega)
          refine x_ai C hTH274 gq298 rg_120 ⟨by omega, by show _ < ((2000 : Nat) : Int); omega⟩ dX10_pass_47 (fun x302 ex302 bx302 => ?_)
          refine lv_goto (tgt := 74) hx hb dX10_pass_48 (by decide) ?_
          exact J74 ls H274 locsH286 (x302) (lv_sub hl [] rfl) hTH274 hSH286 g276 g277 g278 g279
      · have k288 := i_eq c287
        exfalso
        omega
    · subst hvH286
      refine W.eq (g2 := F0 m 25 ls [.int 0]) rfl ?_
      refine lv_if_ne (tgt := 30) hx hb dX10_pass_25 (by decide) (fun c303 => ?_) (fun c303 => ?_)
      · have k304 := i_ne c303
        exfalso
        omega
      · have k304 := i_eq c303
        exact J28 ls H274 locsH286 (lv_sub hl [] rfl) hTH274 hSH286 g276 g277 g278 g279

set_option maxHeartbeats 4000000 in
set_option maxRecDepth 100000 in
theorem a_X10_goal (l : Launch) (K : KE) (G : Nat → Option Nat) (H : Heap) {a0 : Nat} (x1 : Int32) (x2 : Int32) (x3 : Int32) (hT : TY K G H) (ga0 : G a0 = some 112) (hg_CG : CG (avw K H a0)) (hg_TU : TU (avw K H a0) (svw K H a0)) (hg_WD : WD (avw K H a0)) (hg_IM : IM (avw K H a0)) : MX l K yX10_goal cX10_goal 4 (some .boolean) 2 44 0 0 [.ref a0, .int x1, .int x2, .int x3] H (AE G [112, 118] H.size) (fun v H1 => ∃ (r : Int32), v = some (.int r) ∧ (0 ≤ r.toInt ∧ r.toInt ≤ 1) ∧ (CG (avw K H1 a0)) ∧ (TU (avw K H1 a0) (svw K H1 a0)) ∧ (WD (avw K H1 a0)) ∧ (IM (avw K H1 a0)) ∧ TY K G H1) := by
  refine MX.of (by decide +kernel) (Nat.le_of_ble_eq_true rfl) ?_
  intro p e s m below meth c ls Q C hH hl hQ
  subst hH
  have C : CX p K s m _ meth c RX10 cX10_goal 4 (some .boolean) "goal" := C
  obtain ⟨hx, hb, hml, hown, hts, hKT, hr, hlocks, hnm⟩ := id C
  have hl : lv_has ls 4 [(0, .ref a0), (1, .int x1), (2, .int x2), (3, .int x3)] := hl
  have hS : va_S (AE G [112, 118] s.heap.size) s.heap s.heap [] := va_S.rf
  have n_0 : (0 : Int32).toInt = 0 := rfl
  have n_1 : (1 : Int32).toInt = 1 := rfl
  have n_3 : (3 : Int32).toInt = 3 := rfl
  have n_999999 : (999999 : Int32).toInt = 999999 := rfl
  have hap : ∀ x y, x < 74 → y < 74 → x ≠ y → K.1.2 10 x ≠ K.1.2 10 y := x_apart hKT hts inX10 tyX10 tyX10_ok nmX10 rfl
  have J33 : ∀ (ls258 : Array Slot) (H257 : Heap) (locsH257 : List Loc) , lv_has ls258 4 [] → TY K G H257 → va_S (AE G [112, 118] s.heap.size) s.heap H257 locsH257 → (CG (avw K H257 a0)) → (TU (avw K H257 a0) (svw K H257 a0)) → (WD (avw K H257 a0)) → (IM (avw K H257 a0)) → W p l e ({ frames := 2, cells := 0, slots := 0, locals := 44 } : Room) s m (([.ref a0, .int x1, .int x2, .int x3] : List Value).toArray) below meth c H257 locsH257 0 0 Q (F0 m 33 ls258 []) := by
    intro ls258 H257 locsH257  hl259 hTH257 hSH257 gy260_CG gy260_TU gy260_WD gy260_IM
    refine lv_iconst (v := 0) hx hb dX10_goal_33 (by decide) ?_
    exact x_zret C hQ (Or.inl rfl) dX10_goal_34 hSH257 (by decide) (by decide) (⟨0, rfl, by decide, gy260_CG, gy260_TU, gy260_WD, gy260_IM, hTH257⟩)
  refine lv_aload_n hx hb dX10_goal_0 rfl (lv_at hl 0 rfl) ?_
  refine lv_iconst (v := 0) hx hb dX10_goal_1 (by decide) ?_
  refine x_put C hT hS (ci := 10) (k := 0) (v := .int 0) (ty0 := tyX10) rfl inX10 tyX10_ok nmX10 (by decide) rfl wF_X10_167 ga0 rg_112 rfl rfl (okI (by have := i_rng (0 : Int32); omega) (by have := i_rng (0 : Int32); omega)) rfl rfl (AE_in ga0 (by decide)) dX10_goal_2 (fun H261 locsH261 hTH261 hSH261 wH261 => ?_)
  have g262 : CG (avw K H261 a0) := CG.congr (fun k hk j => av_fld hT ga0 hap wH261 (by decide) (CG_ok 112 (by decide) k hk) (CG_ne 0 (by decide) k hk)) hg_CG
  have g263 : TU (avw K H261 a0) (svw K H261 a0) := TU.congr (fun k hk j => av_fld hT ga0 hap wH261 (by decide) (TU_ok 112 (by decide) k hk) (TU_ne 0 (by decide) k hk)) (fun k hk => sv_fld hap wH261 (by decide) (TU_slt k hk) (TU_sne 0 (by decide) k hk)) hg_TU
  have g264 : WD (avw K H261 a0) := WD.congr (fun k hk j => av_fld hT ga0 hap wH261 (by decide) (WD_ok 112 (by decide) k hk) (WD_ne 0 (by decide) k hk)) hg_WD
  have g265 : IM (avw K H261 a0) := IM.congr (fun k hk j => av_fld hT ga0 hap wH261 (by decide) (IM_ok 112 (by decide) k hk) (IM_ne 0 (by decide) k hk)) hg_IM
  have m266 := Wr.I wH261
  refine lv_aload_n hx hb dX10_goal_5 rfl (lv_at hl 0 rfl) ?_
  refine lv_iload_n hx hb dX10_goal_6 rfl (lv_at hl 1 rfl) ?_
  obtain ⟨x267, ex267⟩ : ∃ z : Int32, z = fI H261 a0 (K.1.2 10 1) := ⟨_, rfl⟩
  have bx267 := ty_fi (x := x267) (k := 1) ex267 hTH261 ga0 rg_112 rfl
  refine x_V (As := [.int x1]) (rest := []) C (a_X10_isBar l K G H261 (x1) (x267) hTH261 ga0 ex267) yo_X10_isBar wM_X10_173 ⟨⟨by decide, by decide⟩, by decide, by decide⟩ (x_rv C hTH261 (ci := 10) rfl ga0 rg_112) rfl hl.1 rfl (Nat.le_of_ble_eq_true rfl) dX10_goal_7 hSH261 (AE_sub (fun _ _ => rfl) (by decide) hSH261.1) (fun vH268 H268 locsH268 pH268 zH268 kH268 hSH268 => ?_)
  obtain ⟨x269, hvH268, bx269, hrH268, hTH268⟩ := pH268
  subst hvH268
  have g270 : CG (avw K H268 a0) := CG.congr (fun k hk j => av_eff hTH261 kH268 ga0 (by decide) (CG_eff [] (by decide) k hk)) g262
  have g271 : TU (avw K H268 a0) (svw K H268 a0) := TU.congr (fun k hk j => av_eff hTH261 kH268 ga0 (by decide) (TU_eff [] (by decide) k hk)) (fun k hk => sv_eff hTH261 kH268 ga0 (by decide)) g263
  have g272 : WD (avw K H268 a0) := WD.congr (fun k hk j => av_eff hTH261 kH268 ga0 (by decide) (WD_eff [] (by decide) k hk)) g264
  have g273 : IM (avw K H268 a0) := IM.congr (fun k hk j => av_eff hTH261 kH268 ga0 (by decide) (IM_eff [] (by decide) k hk)) g265
  have m274 := (fI_kept (x_lt hTH261 kH268 ga0 (by decide))).trans m266
  have m275 := (ex267).trans (fI_kept (x_lt hTH261 kH268 ga0 (by decide))).symm
  refine W.eq (g2 := F0 m 10 ls [.int x269]) rfl ?_
  refine lv_if_eq (tgt := 33) hx hb dX10_goal_10 (by decide) (fun c276 => ?_) (fun c276 => ?_)
  · have k277 := i_eq c276
    exact J33 ls H268 locsH268 (lv_sub hl [] rfl) hTH268 hSH268 g270 g271 g272 g273
  · have k277 := i_ne c276
    refine lv_aload_n hx hb dX10_goal_13 rfl (lv_at hl 0 rfl) ?_
    refine lv_iload_n hx hb dX10_goal_14 rfl (lv_at hl 2 rfl) ?_
    refine x_V (As := [.int x2]) (rest := []) C (c_X10_isTone l K G H268 (x2) hTH268 ga0) yo_X10_isTone wM_X10_331 ⟨⟨by decide, by decide⟩, by decide, by decide⟩ (x_rv C hTH268 (ci := 10) rfl ga0 rg_112) rfl hl.1 rfl (Nat.le_of_ble_eq_true rfl) dX10_goal_15 hSH268 (AE_sub (fun _ _ => rfl) (by decide) hSH268.1) (fun vH278 H278 locsH278 pH278 zH278 kH278 hSH278 => ?_)
    have hqH278 := pH278.1.symm
    subst hqH278
    rcases pH278.2 with ⟨hvH278, hcH278⟩ | ⟨hvH278, hcH278⟩
    · subst hvH278
      refine W.eq (g2 := F0 m 18 ls [.int 1]) rfl ?_
      refine lv_if_eq (tgt := 33) hx hb dX10_goal_18 (by decide) (fun c279 => ?_) (fun c279 => ?_)
      · have k280 := i_eq c279
        exfalso
        omega
      · have k280 := i_ne c279
        refine lv_aload_n hx hb dX10_goal_21 rfl (lv_at hl 0 rfl) ?_
        refine lv_iload_n hx hb dX10_goal_22 rfl (lv_at hl 3 rfl) ?_
        refine lv_iconst (v := 0) hx hb dX10_goal_23 (by decide) ?_
        refine lv_ldcw (v := 999999) hx hb hown (hts _ wK_X10_348) dX10_goal_24 ?_
        refine x_V (As := [.int x3, .int 0, .int 999999]) (rest := []) C (c_X10_isIn l K G H268 (x3) (0) (999999) hTH268 ga0) yo_X10_isIn wM_X10_177 ⟨⟨by decide, by decide⟩, by decide, by decide⟩ (x_rv C hTH268 (ci := 10) rfl ga0 rg_112) rfl hl.1 rfl (Nat.le_of_ble_eq_true rfl) dX10_goal_27 hSH278 (AE_sub (fun _ _ => rfl) (by decide) hSH278.1) (fun vH281 H281 locsH281 pH281 zH281 kH281 hSH281 => ?_)
        have hqH281 := pH281.1.symm
        subst hqH281
        rcases pH281.2 with ⟨hvH281, hcH281⟩ | ⟨hvH281, hcH281⟩
        · subst hvH281
          refine W.eq (g2 := F0 m 30 ls [.int 1]) rfl ?_
          refine lv_if_ne (tgt := 35) hx hb dX10_goal_30 (by decide) (fun c282 => ?_) (fun c282 => ?_)
          · have k283 := i_ne c282
            refine lv_aload_n hx hb dX10_goal_35 rfl (lv_at hl 0 rfl) ?_
            refine x_gr C hTH268 (ci := 10) (k := 9) rfl inX10 (by decide) wF_X10_29 ga0 rg_112 rfl dX10_goal_36 (fun q284 eq284 gq284 => ?_)
            refine lv_iconst (v := 3) hx hb dX10_goal_39 (by decide) ?_
            refine lv_iload_n hx hb dX10_goal_40 rfl (lv_at hl 1 rfl) ?_
            refine lv_imul hx hb dX10_goal_41 ?_
            refine lv_topi (fun x285 ex285 => ?_)
            have tx285 := i_mul ex285 (by rw [n_3]; omega)
            rw [n_3] at tx285
            refine lv_iload_n hx hb dX10_goal_42 rfl (lv_at hl 2 rfl) ?_
            refine lv_iadd hx hb dX10_goal_43 ?_
            refine lv_topi (fun x286 ex286 => ?_)
            have tx286 := i_add ex286 (by omega)
            refine lv_iload_n hx hb dX10_goal_44 rfl (lv_at hl 3 rfl) ?_
            refine x_iast C hTH268 hSH281 gq284 rg_118 (by omega) (by show _ < ((30 : Nat) : Int); omega) ⟨by have := i_rng x3; omega, by have := i_rng x3; omega⟩ (AE_in gq284 (by decide)) dX10_goal_45 (fun H287 locsH287 hTH287 hSH287 wH287 => ?_)
            have g288 : CG (avw K H287 a0) := CG.congr (fun k hk j => av_arr hTH268 ga0 wH287 gq284 (by decide) (CG_ok 118 (by decide) k hk)) g270
            have g289 : TU (avw K H287 a0) (svw K H287 a0) := TU.congr (fun k hk j => av_arr hTH268 ga0 wH287 gq284 (by decide) (TU_ok 118 (by decide) k hk)) (fun k hk => sv_arr ga0 wH287 gq284 (by decide)) g271
            have g290 : WD (avw K H287 a0) := WD.congr (fun k hk j => av_arr hTH268 ga0 wH287 gq284 (by decide) (WD_ok 118 (by decide) k hk)) g272
            have g291 : IM (avw K H287 a0) := IM.congr (fun k hk j => av_arr hTH268 ga0 wH287 gq284 (by decide) (IM_ok 118 (by decide) k hk)) g273
            have m292 := (Wr.neI wH287 (Or.inl (G_ne ga0 gq284 (by decide)))).trans m274
            have m293 := m275.trans (Wr.neI wH287 (Or.inl (G_ne ga0 gq284 (by decide)))).symm
            have m294 := eq284.trans (Wr.neR wH287 (Or.inl (G_ne ga0 gq284 (by decide)))).symm
            have m295 := Wr.I wH287
            have m295 := m295.symm
            refine lv_iconst (v := 1) hx hb dX10_goal_46 (by decide) ?_
            exact x_zret C hQ (Or.inr rfl) dX10_goal_47 hSH287 (by decide) (by decide) (⟨1, rfl, by decide, g288, g289, g290, g291, hTH287⟩)
          · have k283 := i_eq c282
            exfalso
            omega
        · subst hvH281
          refine W.eq (g2 := F0 m 30 ls [.int 0]) rfl ?_
          refine lv_if_ne (tgt := 35) hx hb dX10_goal_30 (by decide) (fun c296 => ?_) (fun c296 => ?_)
          · have k297 := i_ne c296
            exfalso
            omega
          · have k297 := i_eq c296
            exact J33 ls H268 locsH281 (lv_sub hl [] rfl) hTH268 hSH281 g270 g271 g272 g273
    · subst hvH278
      refine W.eq (g2 := F0 m 18 ls [.int 0]) rfl ?_
      refine lv_if_eq (tgt := 33) hx hb dX10_goal_18 (by decide) (fun c298 => ?_) (fun c298 => ?_)
      · have k299 := i_eq c298
        exact J33 ls H268 locsH278 (lv_sub hl [] rfl) hTH268 hSH278 g270 g271 g272 g273
      · have k299 := i_ne c298
        exfalso
        omega

set_option maxHeartbeats 4000000 in
set_option maxRecDepth 100000 in
theorem a_X10_slack (l : Launch) (K : KE) (G : Nat → Option Nat) (H : Heap) {a0 : Nat} (x1 : Int32) (hT : TY K G H) (ga0 : G a0 = some 112) (hg_CG : CG (avw K H a0)) (hg_TU : TU (avw K H a0) (svw K H a0)) (hg_WD : WD (avw K H a0)) (hg_IM : IM (avw K H a0)) : MX l K yX10_slack cX10_slack 2 (some .boolean) 1 23 0 0 [.ref a0, .int x1] H (AE G [112] H.size) (fun v H1 => ∃ (r : Int32), v = some (.int r) ∧ (0 ≤ r.toInt ∧ r.toInt ≤ 1) ∧ (CG (avw K H1 a0)) ∧ (TU (avw K H1 a0) (svw K H1 a0)) ∧ (WD (avw K H1 a0)) ∧ (IM (avw K H1 a0)) ∧ TY K G H1) := by
  refine MX.of (by decide +kernel) (Nat.le_of_ble_eq_true rfl) ?_
  intro p e s m below meth c ls Q C hH hl hQ
  subst hH
  have C : CX p K s m _ meth c RX10 cX10_slack 2 (some .boolean) "slack" := C
  obtain ⟨hx, hb, hml, hown, hts, hKT, hr, hlocks, hnm⟩ := id C
  have hl : lv_has ls 2 [(0, .ref a0), (1, .int x1)] := hl
  have hS : va_S (AE G [112] s.heap.size) s.heap s.heap [] := va_S.rf
  have n_0 : (0 : Int32).toInt = 0 := rfl
  have n_1 : (1 : Int32).toInt = 1 := rfl
  have n_9999 : (9999 : Int32).toInt = 9999 := rfl
  have hap : ∀ x y, x < 74 → y < 74 → x ≠ y → K.1.2 10 x ≠ K.1.2 10 y := x_apart hKT hts inX10 tyX10 tyX10_ok nmX10 rfl
  refine lv_aload_n hx hb dX10_slack_0 rfl (lv_at hl 0 rfl) ?_
  refine lv_iconst (v := 0) hx hb dX10_slack_1 (by decide) ?_
  refine x_put C hT hS (ci := 10) (k := 0) (v := .int 0) (ty0 := tyX10) rfl inX10 tyX10_ok nmX10 (by decide) rfl wF_X10_167 ga0 rg_112 rfl rfl (okI (by have := i_rng (0 : Int32); omega) (by have := i_rng (0 : Int32); omega)) rfl rfl (AE_in ga0 (by decide)) dX10_slack_2 (fun H173 locsH173 hTH173 hSH173 wH173 => ?_)
  have g174 : CG (avw K H173 a0) := CG.congr (fun k hk j => av_fld hT ga0 hap wH173 (by decide) (CG_ok 112 (by decide) k hk) (CG_ne 0 (by decide) k hk)) hg_CG
  have g175 : TU (avw K H173 a0) (svw K H173 a0) := TU.congr (fun k hk j => av_fld hT ga0 hap wH173 (by decide) (TU_ok 112 (by decide) k hk) (TU_ne 0 (by decide) k hk)) (fun k hk => sv_fld hap wH173 (by decide) (TU_slt k hk) (TU_sne 0 (by decide) k hk)) hg_TU
  have g176 : WD (avw K H173 a0) := WD.congr (fun k hk j => av_fld hT ga0 hap wH173 (by decide) (WD_ok 112 (by decide) k hk) (WD_ne 0 (by decide) k hk)) hg_WD
  have g177 : IM (avw K H173 a0) := IM.congr (fun k hk j => av_fld hT ga0 hap wH173 (by decide) (IM_ok 112 (by decide) k hk) (IM_ne 0 (by decide) k hk)) hg_IM
  have m178 := Wr.I wH173
  refine lv_aload_n hx hb dX10_slack_5 rfl (lv_at hl 0 rfl) ?_
  refine lv_iload_n hx hb dX10_slack_6 rfl (lv_at hl 1 rfl) ?_
  refine lv_iconst (v := 0) hx hb dX10_slack_7 (by decide) ?_
  refine lv_sipush (v := 9999) hx hb dX10_slack_8 (by decide) ?_
  refine x_V (As := [.int x1, .int 0, .int 9999]) (rest := []) C (c_X10_isIn l K G H173 (x1) (0) (9999) hTH173 ga0) yo_X10_isIn wM_X10_177 ⟨⟨by decide, by decide⟩, by decide, by decide⟩ (x_rv C hTH173 (ci := 10) rfl ga0 rg_112) rfl hl.1 rfl (Nat.le_of_ble_eq_true rfl) dX10_slack_11 hSH173 (AE_sub (fun _ _ => rfl) (by decide) hSH173.1) (fun vH179 H179 locsH179 pH179 zH179 kH179 hSH179 => ?_)
  have hqH179 := pH179.1.symm
  subst hqH179
  rcases pH179.2 with ⟨hvH179, hcH179⟩ | ⟨hvH179, hcH179⟩
  · subst hvH179
    refine W.eq (g2 := F0 m 14 ls [.int 1]) rfl ?_
    refine lv_if_ne (tgt := 19) hx hb dX10_slack_14 (by decide) (fun c180 => ?_) (fun c180 => ?_)
    · have k181 := i_ne c180
      refine lv_aload_n hx hb dX10_slack_19 rfl (lv_at hl 0 rfl) ?_
      refine lv_iload_n hx hb dX10_slack_20 rfl (lv_at hl 1 rfl) ?_
      refine x_put C hTH173 hSH179 (ci := 10) (k := 3) (v := .int x1) (ty0 := tyX10) rfl inX10 tyX10_ok nmX10 (by decide) rfl wF_X10_7 ga0 rg_112 rfl rfl (okI (by have := i_rng x1; omega) (by have := i_rng x1; omega)) rfl rfl (AE_in ga0 (by decide)) dX10_slack_21 (fun H182 locsH182 hTH182 hSH182 wH182 => ?_)
      have g183 : CG (avw K H182 a0) := CG.congr (fun k hk j => av_fld hTH173 ga0 hap wH182 (by decide) (CG_ok 112 (by decide) k hk) (CG_ne 3 (by decide) k hk)) g174
      have g184 : TU (avw K H182 a0) (svw K H182 a0) := TU.congr (fun k hk j => av_fld hTH173 ga0 hap wH182 (by decide) (TU_ok 112 (by decide) k hk) (TU_ne 3 (by decide) k hk)) (fun k hk => sv_fld hap wH182 (by decide) (TU_slt k hk) (TU_sne 3 (by decide) k hk)) g175
      have g185 : WD (avw K H182 a0) := WD.congr (fun k hk j => av_fld hTH173 ga0 hap wH182 (by decide) (WD_ok 112 (by decide) k hk) (WD_ne 3 (by decide) k hk)) g176
      have g186 : IM (avw K H182 a0) := IM.congr (fun k hk j => av_fld hTH173 ga0 hap wH182 (by decide) (IM_ok 112 (by decide) k hk) (IM_ne 3 (by decide) k hk)) g177
      have m187 := (Wr.neI wH182 (Or.inr (x_apart hKT hts inX10 tyX10 tyX10_ok nmX10 rfl 0 3 (by decide) (by decide) (by decide)))).trans m178
      have m188 := Wr.I wH182
      have m188 := m188.symm
      refine lv_iconst (v := 1) hx hb dX10_slack_24 (by decide) ?_
      exact x_zret C hQ (Or.inr rfl) dX10_slack_25 hSH182 (by decide) (by decide) (⟨1, rfl, by decide, g183, g184, g185, g186, hTH182⟩)
    · have k181 := i_eq c180
      exfalso
      omega
  · subst hvH179
    refine W.eq (g2 := F0 m 14 ls [.int 0]) rfl ?_
    refine lv_if_ne (tgt := 19) hx hb dX10_slack_14 (by decide) (fun c189 => ?_) (fun c189 => ?_)
    · have k190 := i_ne c189
      exfalso
      omega
    · have k190 := i_eq c189
      refine lv_iconst (v := 0) hx hb dX10_slack_17 (by decide) ?_
      exact x_zret C hQ (Or.inl rfl) dX10_slack_18 hSH179 (by decide) (by decide) (⟨0, rfl, by decide, g174, g175, g176, g177, hTH173⟩)

set_option maxHeartbeats 4000000 in
set_option maxRecDepth 100000 in
theorem a_X10_takes (l : Launch) (K : KE) (G : Nat → Option Nat) (H : Heap) {a0 : Nat} (x1 : Int32) (x2 : Int32) (x3 : Int32) (hT : TY K G H) (ga0 : G a0 = some 112) (hg_CG : CG (avw K H a0)) (hg_TU : TU (avw K H a0) (svw K H a0)) (hg_WD : WD (avw K H a0)) (hg_IM : IM (avw K H a0)) : MX l K yX10_takes cX10_takes 6 (some .int) 6 145 0 0 [.ref a0, .int x1, .int x2, .int x3] H (AE G [112, 114, 140, 139] H.size) (fun v H1 => ∃ (r : Int32), v = some (.int r) ∧ (CG (avw K H1 a0)) ∧ (TU (avw K H1 a0) (svw K H1 a0)) ∧ (WD (avw K H1 a0)) ∧ (IM (avw K H1 a0)) ∧ TY K G H1) := by
  refine MX.of (by decide +kernel) (Nat.le_of_ble_eq_true rfl) ?_
  intro p e s m below meth c ls Q C hH hl hQ
  subst hH
  have C : CX p K s m _ meth c RX10 cX10_takes 6 (some .int) "takes" := C
  obtain ⟨hx, hb, hml, hown, hts, hKT, hr, hlocks, hnm⟩ := id C
  have hl : lv_has ls 6 [(0, .ref a0), (1, .int x1), (2, .int x2), (3, .int x3)] := hl
  have hS : va_S (AE G [112, 114, 140, 139] s.heap.size) s.heap s.heap [] := va_S.rf
  have n_m10000000 : ((-10000000) : Int32).toInt = -10000000 := rfl
  have n_0 : (0 : Int32).toInt = 0 := rfl
  have n_1 : (1 : Int32).toInt = 1 := rfl
  have n_16 : (16 : Int32).toInt = 16 := rfl
  have hap : ∀ x y, x < 74 → y < 74 → x ≠ y → K.1.2 10 x ≠ K.1.2 10 y := x_apart hKT hts inX10 tyX10 tyX10_ok nmX10 rfl
  have J37 : ∀ (ls466 : Array Slot) (H465 : Heap) (locsH465 : List Loc) , lv_has ls466 6 [] → TY K G H465 → va_S (AE G [112, 114, 140, 139] s.heap.size) s.heap H465 locsH465 → (CG (avw K H465 a0)) → (TU (avw K H465 a0) (svw K H465 a0)) → (WD (avw K H465 a0)) → (IM (avw K H465 a0)) → W p l e ({ frames := 6, cells := 0, slots := 0, locals := 145 } : Room) s m (([.ref a0, .int x1, .int x2, .int x3] : List Value).toArray) below meth c H465 locsH465 0 0 Q (F0 m 37 ls466 []) := by
    intro ls466 H465 locsH465  hl467 hTH465 hSH465 gy468_CG gy468_TU gy468_WD gy468_IM
    refine lv_ldcw (v := (-10000000)) hx hb hown (hts _ wK_X10_349) dX10_takes_37 ?_
    exact x_iret C hQ dX10_takes_40 hSH465 (by decide) (by decide) (⟨(-10000000), rfl, gy468_CG, gy468_TU, gy468_WD, gy468_IM, hTH465⟩)
  refine lv_aload_n hx hb dX10_takes_0 rfl (lv_at hl 0 rfl) ?_
  refine lv_iconst (v := 0) hx hb dX10_takes_1 (by decide) ?_
  refine x_put C hT hS (ci := 10) (k := 0) (v := .int 0) (ty0 := tyX10) rfl inX10 tyX10_ok nmX10 (by decide) rfl wF_X10_167 ga0 rg_112 rfl rfl (okI (by have := i_rng (0 : Int32); omega) (by have := i_rng (0 : Int32); omega)) rfl rfl (AE_in ga0 (by decide)) dX10_takes_2 (fun H469 locsH469 hTH469 hSH469 wH469 => ?_)
  have g470 : CG (avw K H469 a0) := CG.congr (fun k hk j => av_fld hT ga0 hap wH469 (by decide) (CG_ok 112 (by decide) k hk) (CG_ne 0 (by decide) k hk)) hg_CG
  have g471 : TU (avw K H469 a0) (svw K H469 a0) := TU.congr (fun k hk j => av_fld hT ga0 hap wH469 (by decide) (TU_ok 112 (by decide) k hk) (TU_ne 0 (by decide) k hk)) (fun k hk => sv_fld hap wH469 (by decide) (TU_slt k hk) (TU_sne 0 (by decide) k hk)) hg_TU
  have g472 : WD (avw K H469 a0) := WD.congr (fun k hk j => av_fld hT ga0 hap wH469 (by decide) (WD_ok 112 (by decide) k hk) (WD_ne 0 (by decide) k hk)) hg_WD
  have g473 : IM (avw K H469 a0) := IM.congr (fun k hk j => av_fld hT ga0 hap wH469 (by decide) (IM_ok 112 (by decide) k hk) (IM_ne 0 (by decide) k hk)) hg_IM
  have m474 := Wr.I wH469
  refine lv_aload_n hx hb dX10_takes_5 rfl (lv_at hl 0 rfl) ?_
  refine lv_iload_n hx hb dX10_takes_6 rfl (lv_at hl 1 rfl) ?_
  refine lv_iload_n hx hb dX10_takes_7 rfl (lv_at hl 2 rfl) ?_
  obtain ⟨x475, ex475⟩ : ∃ z : Int32, z = fI H469 a0 (K.1.2 10 1) := ⟨_, rfl⟩
  have bx475 := ty_fi (x := x475) (k := 1) ex475 hTH469 ga0 rg_112 rfl
  refine x_V (As := [.int x1, .int x2]) (rest := []) C (a_X10_isSlice l K G H469 (x1) (x2) (x475) hTH469 ga0 ex475) yo_X10_isSlice wM_X10_181 ⟨⟨by decide, by decide⟩, by decide, by decide⟩ (x_rv C hTH469 (ci := 10) rfl ga0 rg_112) rfl hl.1 rfl (Nat.le_of_ble_eq_true rfl) dX10_takes_8 hSH469 (AE_sub (fun _ _ => rfl) (by decide) hSH469.1) (fun vH476 H476 locsH476 pH476 zH476 kH476 hSH476 => ?_)
  obtain ⟨x477, hvH476, bx477, hrH476, hTH476⟩ := pH476
  subst hvH476
  have g478 : CG (avw K H476 a0) := CG.congr (fun k hk j => av_eff hTH469 kH476 ga0 (by decide) (CG_eff [] (by decide) k hk)) g470
  have g479 : TU (avw K H476 a0) (svw K H476 a0) := TU.congr (fun k hk j => av_eff hTH469 kH476 ga0 (by decide) (TU_eff [] (by decide) k hk)) (fun k hk => sv_eff hTH469 kH476 ga0 (by decide)) g471
  have g480 : WD (avw K H476 a0) := WD.congr (fun k hk j => av_eff hTH469 kH476 ga0 (by decide) (WD_eff [] (by decide) k hk)) g472
  have g481 : IM (avw K H476 a0) := IM.congr (fun k hk j => av_eff hTH469 kH476 ga0 (by decide) (IM_eff [] (by decide) k hk)) g473
  have m482 := (fI_kept (x_lt hTH469 kH476 ga0 (by decide))).trans m474
  have m483 := (ex475).trans (fI_kept (x_lt hTH469 kH476 ga0 (by decide))).symm
  refine W.eq (g2 := F0 m 11 ls [.int x477]) rfl ?_
  refine lv_if_eq (tgt := 37) hx hb dX10_takes_11 (by decide) (fun c484 => ?_) (fun c484 => ?_)
  · have k485 := i_eq c484
    exact J37 ls H476 locsH476 (lv_sub hl [] rfl) hTH476 hSH476 g478 g479 g480 g481
  · have k485 := i_ne c484
    refine lv_aload_n hx hb dX10_takes_14 rfl (lv_at hl 0 rfl) ?_
    refine lv_iload_n hx hb dX10_takes_15 rfl (lv_at hl 3 rfl) ?_
    refine x_V (As := [.int x3]) (rest := []) C (c_X10_isTone l K G H476 (x3) hTH476 ga0) yo_X10_isTone wM_X10_331 ⟨⟨by decide, by decide⟩, by decide, by decide⟩ (x_rv C hTH476 (ci := 10) rfl ga0 rg_112) rfl hl.1 rfl (Nat.le_of_ble_eq_true rfl) dX10_takes_16 hSH476 (AE_sub (fun _ _ => rfl) (by decide) hSH476.1) (fun vH486 H486 locsH486 pH486 zH486 kH486 hSH486 => ?_)
    have hqH486 := pH486.1.symm
    subst hqH486
    rcases pH486.2 with ⟨hvH486, hcH486⟩ | ⟨hvH486, hcH486⟩
    · subst hvH486
      refine W.eq (g2 := F0 m 19 ls [.int 1]) rfl ?_
      refine lv_if_eq (tgt := 37) hx hb dX10_takes_19 (by decide) (fun c487 => ?_) (fun c487 => ?_)
      · have k488 := i_eq c487
        exfalso
        omega
      · have k488 := i_ne c487
        refine lv_aload_n hx hb dX10_takes_22 rfl (lv_at hl 0 rfl) ?_
        refine x_gr C hTH476 (ci := 10) (k := 5) rfl inX10 (by decide) wF_X10_17 ga0 rg_112 rfl dX10_takes_23 (fun q489 eq489 gq489 => ?_)
        refine lv_bipush (v := 16) hx hb dX10_takes_26 (by decide) ?_
        refine lv_iload_n hx hb dX10_takes_28 rfl (lv_at hl 1 rfl) ?_
        refine lv_imul hx hb dX10_takes_29 ?_
        refine lv_topi (fun x490 ex490 => ?_)
        have tx490 := i_mul ex490 (by rw [n_16]; omega)
        rw [n_16] at tx490
        refine lv_iload_n hx hb dX10_takes_30 rfl (lv_at hl 2 rfl) ?_
        refine lv_iadd hx hb dX10_takes_31 ?_
        refine lv_topi (fun x491 ex491 => ?_)
        have tx491 := i_add ex491 (by omega)
        refine x_ai C hTH476 gq489 rg_114 ⟨by omega, by show _ < ((160 : Nat) : Int); omega⟩ dX10_takes_32 (fun x492 ex492 bx492 => ?_)
        refine lv_iconst (v := 1) hx hb dX10_takes_33 (by decide) ?_
        refine lv_icmp_ne (tgt := 41) hx hb dX10_takes_34 (by decide) (fun c493 => ?_) (fun c493 => ?_)
        · have k494 := i_ne c493
          refine lv_aload_n hx hb dX10_takes_41 rfl (lv_at hl 0 rfl) ?_
          refine lv_iload_n hx hb dX10_takes_42 rfl (lv_at hl 1 rfl) ?_
          refine lv_iload_n hx hb dX10_takes_43 rfl (lv_at hl 3 rfl) ?_
          refine x_V (As := [.int x1, .int x3]) (rest := []) C (a_X10_toneNow l K G H476 (x1) (x3) hTH476 ga0 (by omega) g478) yo_X10_toneNow wM_X10_335 ⟨⟨by decide, by decide⟩, by decide, by decide⟩ (x_rv C hTH476 (ci := 10) rfl ga0 rg_112) rfl hl.1 rfl (Nat.le_of_ble_eq_true rfl) dX10_takes_44 hSH486 (AE_sub (fun _ _ => rfl) (by decide) hSH486.1) (fun vH495 H495 locsH495 pH495 zH495 kH495 hSH495 => ?_)
          obtain ⟨x496, hvH495, hTH495⟩ := pH495
          subst hvH495
          have g497 : CG (avw K H495 a0) := CG.congr (fun k hk j => av_eff hTH476 kH495 ga0 (by decide) (CG_eff [140, 139] (by decide) k hk)) g478
          have g498 : TU (avw K H495 a0) (svw K H495 a0) := TU.congr (fun k hk j => av_eff hTH476 kH495 ga0 (by decide) (TU_eff [140, 139] (by decide) k hk)) (fun k hk => sv_eff hTH476 kH495 ga0 (by decide)) g479
          have g499 : WD (avw K H495 a0) := WD.congr (fun k hk j => av_eff hTH476 kH495 ga0 (by decide) (WD_eff [140, 139] (by decide) k hk)) g480
          have g500 : IM (avw K H495 a0) := IM.congr (fun k hk j => av_eff hTH476 kH495 ga0 (by decide) (IM_eff [140, 139] (by decide) k hk)) g481
          have m501 := (fI_kept (x_lt hTH476 kH495 ga0 (by decide))).trans m482
          have m502 := (m483).trans (fI_kept (x_lt hTH476 kH495 ga0 (by decide))).symm
          have m503 := (eq489).trans (fR_kept (x_lt hTH476 kH495 ga0 (by decide))).symm
          have m504 := (ex492).trans (fI_kept (x_lt hTH476 kH495 gq489 (by decide))).symm
          refine W.eq (g2 := F0 m 47 ls [.int x496]) rfl ?_
          refine lv_istore (lv' := [(4, .int x496), (0, .ref a0), (1, .int x1), (2, .int x2), (3, .int x3)]) hx hb dX10_takes_47 hl (by decide) rfl (fun ls505 hl506 => ?_)
          refine lv_aload_n hx hb dX10_takes_49 rfl (lv_at hl506 1 rfl) ?_
          refine x_gr C hTH495 (ci := 10) (k := 5) rfl inX10 (by decide) wF_X10_17 ga0 rg_112 rfl dX10_takes_50 (fun q507 eq507 gq507 => ?_)
          have uq507 : q489 = q507 := (m503).trans eq507.symm
          subst uq507
          refine lv_bipush (v := 16) hx hb dX10_takes_53 (by decide) ?_
          refine lv_iload_n hx hb dX10_takes_55 rfl (lv_at hl506 2 rfl) ?_
          refine lv_imul hx hb dX10_takes_56 ?_
          refine lv_topi (fun x508 ex508 => ?_)
          have tx508 := i_mul ex508 (by rw [n_16]; omega)
          rw [n_16] at tx508
          refine lv_iload_n hx hb dX10_takes_57 rfl (lv_at hl506 3 rfl) ?_
          refine lv_iadd hx hb dX10_takes_58 ?_
          refine lv_topi (fun x509 ex509 => ?_)
          have tx509 := i_add ex509 (by omega)
          refine lv_aload_n hx hb dX10_takes_59 rfl (lv_at hl506 1 rfl) ?_
          refine x_gr C hTH495 (ci := 10) (k := 5) rfl inX10 (by decide) wF_X10_17 ga0 rg_112 rfl dX10_takes_60 (fun q510 eq510 gq510 => ?_)
          have uq510 : q489 = q510 := (m503).trans eq510.symm
          subst uq510
          refine lv_bipush (v := 16) hx hb dX10_takes_63 (by decide) ?_
          refine lv_iload_n hx hb dX10_takes_65 rfl (lv_at hl506 2 rfl) ?_
          refine lv_imul hx hb dX10_takes_66 ?_
          refine lv_topi (fun x511 ex511 => ?_)
          have tx511 := i_mul ex511 (by rw [n_16]; omega)
          rw [n_16] at tx511
          refine lv_iload_n hx hb dX10_takes_67 rfl (lv_at hl506 3 rfl) ?_
          refine lv_iadd hx hb dX10_takes_68 ?_
          refine lv_topi (fun x512 ex512 => ?_)
          have tx512 := i_add ex512 (by omega)
          refine x_ai C hTH495 gq489 rg_114 ⟨by omega, by show _ < ((160 : Nat) : Int); omega⟩ dX10_takes_69 (fun x513 ex513 bx513 => ?_)
          refine lv_iconst (v := 1) hx hb dX10_takes_70 (by decide) ?_
          refine lv_isub hx hb dX10_takes_71 ?_
          refine lv_topi (fun x514 ex514 => ?_)
          refine x_iast C hTH495 hSH495 gq489 rg_114 (by omega) (by show _ < ((160 : Nat) : Int); omega) ⟨by have := i_rng x514; omega, by have := i_rng x514; omega⟩ (AE_in gq489 (by decide)) dX10_takes_72 (fun H515 locsH515 hTH515 hSH515 wH515 => ?_)
          have g516 : CG (avw K H515 a0) := CG.congr (fun k hk j => av_arr hTH495 ga0 wH515 gq489 (by decide) (CG_ok 114 (by decide) k hk)) g497
          have g517 : TU (avw K H515 a0) (svw K H515 a0) := TU.congr (fun k hk j => av_arr hTH495 ga0 wH515 gq489 (by decide) (TU_ok 114 (by decide) k hk)) (fun k hk => sv_arr ga0 wH515 gq489 (by decide)) g498
          have g518 : WD (avw K H515 a0) := WD.congr (fun k hk j => av_arr hTH495 ga0 wH515 gq489 (by decide) (WD_ok 114 (by decide) k hk)) g499
          have g519 : IM (avw K H515 a0) := IM.congr (fun k hk j => av_arr hTH495 ga0 wH515 gq489 (by decide) (IM_ok 114 (by decide) k hk)) g500
          have m520 := (Wr.neI wH515 (Or.inl (G_ne ga0 gq489 (by decide)))).trans m501
          have m521 := m502.trans (Wr.neI wH515 (Or.inl (G_ne ga0 gq489 (by decide)))).symm
          have m522 := m503.trans (Wr.neR wH515 (Or.inl (G_ne ga0 gq489 (by decide)))).symm
          have m525 := Wr.I wH515
          have m525 := m525.symm
          refine lv_aload_n hx hb dX10_takes_73 rfl (lv_at hl506 1 rfl) ?_
          refine lv_iload_n hx hb dX10_takes_74 rfl (lv_at hl506 2 rfl) ?_
          refine lv_iload_n hx hb dX10_takes_75 rfl (lv_at hl506 4 rfl) ?_
          refine x_V (As := [.int x1, .int x3]) (rest := []) C (a_X10_toneNow l K G H515 (x1) (x3) hTH515 ga0 (by omega) g516) yo_X10_toneNow wM_X10_335 ⟨⟨by decide, by decide⟩, by decide, by decide⟩ (x_rv C hTH515 (ci := 10) rfl ga0 rg_112) rfl hl506.1 rfl (Nat.le_of_ble_eq_true rfl) dX10_takes_76 hSH515 (AE_sub (fun _ _ => rfl) (by decide) hSH515.1) (fun vH526 H526 locsH526 pH526 zH526 kH526 hSH526 => ?_)
          obtain ⟨x527, hvH526, hTH526⟩ := pH526
          subst hvH526
          have g528 : CG (avw K H526 a0) := CG.congr (fun k hk j => av_eff hTH515 kH526 ga0 (by decide) (CG_eff [140, 139] (by decide) k hk)) g516
          have g529 : TU (avw K H526 a0) (svw K H526 a0) := TU.congr (fun k hk j => av_eff hTH515 kH526 ga0 (by decide) (TU_eff [140, 139] (by decide) k hk)) (fun k hk => sv_eff hTH515 kH526 ga0 (by decide)) g517
          have g530 : WD (avw K H526 a0) := WD.congr (fun k hk j => av_eff hTH515 kH526 ga0 (by decide) (WD_eff [140, 139] (by decide) k hk)) g518
          have g531 : IM (avw K H526 a0) := IM.congr (fun k hk j => av_eff hTH515 kH526 ga0 (by decide) (IM_eff [140, 139] (by decide) k hk)) g519
          have m532 := (fI_kept (x_lt hTH515 kH526 ga0 (by decide))).trans m520
          have m533 := (m521).trans (fI_kept (x_lt hTH515 kH526 ga0 (by decide))).symm
          have m534 := (m522).trans (fR_kept (x_lt hTH515 kH526 ga0 (by decide))).symm
          have m535 := (m525).trans (fI_kept (x_lt hTH515 kH526 gq489 (by decide))).symm
          refine W.eq (g2 := F0 m 79 ls505 [.int x527]) rfl ?_
          refine lv_istore (lv' := [(5, .int x527), (4, .int x496), (0, .ref a0), (1, .int x1), (2, .int x2), (3, .int x3)]) hx hb dX10_takes_79 hl506 (by decide) rfl (fun ls536 hl537 => ?_)
          refine lv_aload_n hx hb dX10_takes_81 rfl (lv_at hl537 2 rfl) ?_
          refine x_gr C hTH526 (ci := 10) (k := 5) rfl inX10 (by decide) wF_X10_17 ga0 rg_112 rfl dX10_takes_82 (fun q538 eq538 gq538 => ?_)
          have uq538 : q489 = q538 := (m534).trans eq538.symm
          subst uq538
          refine lv_bipush (v := 16) hx hb dX10_takes_85 (by decide) ?_
          refine lv_iload_n hx hb dX10_takes_87 rfl (lv_at hl537 3 rfl) ?_
          refine lv_imul hx hb dX10_takes_88 ?_
          refine lv_topi (fun x539 ex539 => ?_)
          have tx539 := i_mul ex539 (by rw [n_16]; omega)
          rw [n_16] at tx539
          refine lv_iload_n hx hb dX10_takes_89 rfl (lv_at hl537 4 rfl) ?_
          refine lv_iadd hx hb dX10_takes_90 ?_
          refine lv_topi (fun x540 ex540 => ?_)
          have tx540 := i_add ex540 (by omega)
          refine lv_aload_n hx hb dX10_takes_91 rfl (lv_at hl537 2 rfl) ?_
          refine x_gr C hTH526 (ci := 10) (k := 5) rfl inX10 (by decide) wF_X10_17 ga0 rg_112 rfl dX10_takes_92 (fun q541 eq541 gq541 => ?_)
          have uq541 : q489 = q541 := (m534).trans eq541.symm
          subst uq541
          refine lv_bipush (v := 16) hx hb dX10_takes_95 (by decide) ?_
          refine lv_iload_n hx hb dX10_takes_97 rfl (lv_at hl537 3 rfl) ?_
          refine lv_imul hx hb dX10_takes_98 ?_
          refine lv_topi (fun x542 ex542 => ?_)
          have tx542 := i_mul ex542 (by rw [n_16]; omega)
          rw [n_16] at tx542
          refine lv_iload_n hx hb dX10_takes_99 rfl (lv_at hl537 4 rfl) ?_
          refine lv_iadd hx hb dX10_takes_100 ?_
          refine lv_topi (fun x543 ex543 => ?_)
          have tx543 := i_add ex543 (by omega)
          refine x_ai C hTH526 gq489 rg_114 ⟨by omega, by show _ < ((160 : Nat) : Int); omega⟩ dX10_takes_101 (fun x544 ex544 bx544 => ?_)
          refine lv_iconst (v := 1) hx hb dX10_takes_102 (by decide) ?_
          refine lv_iadd hx hb dX10_takes_103 ?_
          refine lv_topi (fun x545 ex545 => ?_)
          refine x_iast C hTH526 hSH526 gq489 rg_114 (by omega) (by show _ < ((160 : Nat) : Int); omega) ⟨by have := i_rng x545; omega, by have := i_rng x545; omega⟩ (AE_in gq489 (by decide)) dX10_takes_104 (fun H546 locsH546 hTH546 hSH546 wH546 => ?_)
          have g547 : CG (avw K H546 a0) := CG.congr (fun k hk j => av_arr hTH526 ga0 wH546 gq489 (by decide) (CG_ok 114 (by decide) k hk)) g528
          have g548 : TU (avw K H546 a0) (svw K H546 a0) := TU.congr (fun k hk j => av_arr hTH526 ga0 wH546 gq489 (by decide) (TU_ok 114 (by decide) k hk)) (fun k hk => sv_arr ga0 wH546 gq489 (by decide)) g529
          have g549 : WD (avw K H546 a0) := WD.congr (fun k hk j => av_arr hTH526 ga0 wH546 gq489 (by decide) (WD_ok 114 (by decide) k hk)) g530
          have g550 : IM (avw K H546 a0) := IM.congr (fun k hk j => av_arr hTH526 ga0 wH546 gq489 (by decide) (IM_ok 114 (by decide) k hk)) g531
          have m551 := (Wr.neI wH546 (Or.inl (G_ne ga0 gq489 (by decide)))).trans m532
          have m552 := m533.trans (Wr.neI wH546 (Or.inl (G_ne ga0 gq489 (by decide)))).symm
          have m553 := m534.trans (Wr.neR wH546 (Or.inl (G_ne ga0 gq489 (by decide)))).symm
          have m556 := Wr.I wH546
          have m556 := m556.symm
          refine lv_iload hx hb dX10_takes_105 (lv_at hl537 1 rfl) ?_
          refine lv_iload hx hb dX10_takes_107 (lv_at hl537 0 rfl) ?_
          refine lv_isub hx hb dX10_takes_109 ?_
          refine lv_topi (fun x557 ex557 => ?_)
          exact x_iret C hQ dX10_takes_110 hSH546 (by decide) (by decide) (⟨x557, rfl, g547, g548, g549, g550, hTH546⟩)
        · have k494 := i_eq c493
          exact J37 ls H476 locsH486 (lv_sub hl [] rfl) hTH476 hSH486 g478 g479 g480 g481
    · subst hvH486
      refine W.eq (g2 := F0 m 19 ls [.int 0]) rfl ?_
      refine lv_if_eq (tgt := 37) hx hb dX10_takes_19 (by decide) (fun c558 => ?_) (fun c558 => ?_)
      · have k559 := i_eq c558
        exact J37 ls H476 locsH486 (lv_sub hl [] rfl) hTH476 hSH486 g478 g479 g480 g481
      · have k559 := i_ne c558
        exfalso
        omega

set_option maxHeartbeats 4000000 in
set_option maxRecDepth 100000 in
theorem a_X10_job (l : Launch) (K : KE) (G : Nat → Option Nat) (H : Heap) {a0 : Nat} (x1 : Int32) (x2 : Int32) (hT : TY K G H) (ga0 : G a0 = some 112) (hg_CG : CG (avw K H a0)) (hg_TU : TU (avw K H a0) (svw K H a0)) (hg_WD : WD (avw K H a0)) (hg_IM : IM (avw K H a0)) : MX l K yX10_job cX10_job 6 (some .int) 9 216 0 0 [.ref a0, .int x1, .int x2] H (AE G [112, 114, 120, 121, 119, 122, 140, 139, 117] H.size) (fun v H1 => ∃ (r : Int32), v = some (.int r) ∧ (CG (avw K H1 a0)) ∧ (TU (avw K H1 a0) (svw K H1 a0)) ∧ (WD (avw K H1 a0)) ∧ (IM (avw K H1 a0)) ∧ TY K G H1) := by
  refine MX.of (by decide +kernel) (Nat.le_of_ble_eq_true rfl) ?_
  intro p e s m below meth c ls Q C hH hl hQ
  subst hH
  have C : CX p K s m _ meth c RX10 cX10_job 6 (some .int) "job" := C
  obtain ⟨hx, hb, hml, hown, hts, hKT, hr, hlocks, hnm⟩ := id C
  have hl : lv_has ls 6 [(0, .ref a0), (1, .int x1), (2, .int x2)] := hl
  have hS : va_S (AE G [112, 114, 120, 121, 119, 122, 140, 139, 117] s.heap.size) s.heap s.heap [] := va_S.rf
  have n_m1 : ((-1) : Int32).toInt = -1 := rfl
  have n_0 : (0 : Int32).toInt = 0 := rfl
  have n_1 : (1 : Int32).toInt = 1 := rfl
  have n_2 : (2 : Int32).toInt = 2 := rfl
  have n_3 : (3 : Int32).toInt = 3 := rfl
  have n_16 : (16 : Int32).toInt = 16 := rfl
  have hap : ∀ x y, x < 74 → y < 74 → x ≠ y → K.1.2 10 x ≠ K.1.2 10 y := x_apart hKT hts inX10 tyX10 tyX10_ok nmX10 rfl
  have J23 : ∀ (ls560 : Array Slot) (H559 : Heap) (locsH559 : List Loc) , lv_has ls560 6 [] → TY K G H559 → va_S (AE G [112, 114, 120, 121, 119, 122, 140, 139, 117] s.heap.size) s.heap H559 locsH559 → (CG (avw K H559 a0)) → (TU (avw K H559 a0) (svw K H559 a0)) → (WD (avw K H559 a0)) → (IM (avw K H559 a0)) → W p l e ({ frames := 9, cells := 0, slots := 0, locals := 216 } : Room) s m (([.ref a0, .int x1, .int x2] : List Value).toArray) below meth c H559 locsH559 0 0 Q (F0 m 23 ls560 []) := by
    intro ls560 H559 locsH559  hl561 hTH559 hSH559 gy562_CG gy562_TU gy562_WD gy562_IM
    refine lv_iconst (v := (-1)) hx hb dX10_job_23 (by decide) ?_
    exact x_iret C hQ dX10_job_24 hSH559 (by decide) (by decide) (⟨(-1), rfl, gy562_CG, gy562_TU, gy562_WD, gy562_IM, hTH559⟩)
  have J43 : ∀ (nf : Nat) (ls564 : Array Slot) (H563 : Heap) (locsH563 : List Loc) (x567 : Int32) (x568 : Int32) (x569 : Int32), lv_has ls564 6 [(0, .ref a0), (2, .int x2), (3, .int x567), (4, .int x568), (5, .int x569)] → TY K G H563 → va_S (AE G [112, 114, 120, 121, 119, 122, 140, 139, 117] s.heap.size) s.heap H563 locsH563 → (0 ≤ x2.toInt ∧ x2.toInt ≤ 9) → (2 ≤ x567.toInt ∧ x567.toInt ≤ 5) → (0 ≤ x568.toInt ∧ x568.toInt ≤ 200) → (32 ≤ x569.toInt ∧ x569.toInt ≤ 96) → (CG (avw K H563 a0)) → (TU (avw K H563 a0) (svw K H563 a0)) → (WD (avw K H563 a0)) → (IM (avw K H563 a0)) → (96 - x569.toInt < (nf : Int)) → (16 * x567.toInt ≤ x569.toInt) → W p l e ({ frames := 9, cells := 0, slots := 0, locals := 216 } : Room) s m (([.ref a0, .int x1, .int x2] : List Value).toArray) below meth c H563 locsH563 0 0 Q (F0 m 43 ls564 []) := by
    intro nf
    induction nf with
    | zero =>
      intro ls564 H563 locsH563 x567 x568 x569 hl565 hTH563 hSH563 b566 bx567 bx568 bx569 gy570_CG gy570_TU gy570_WD gy570_IM hm43 iv43
      exfalso
      omega
    | succ nf ih43 =>
      intro ls564 H563 locsH563 x567 x568 x569 hl565 hTH563 hSH563 b566 bx567 bx568 bx569 gy570_CG gy570_TU gy570_WD gy570_IM hm43 iv43
      have J81 : ∀ (ls572 : Array Slot) (H571 : Heap) (locsH571 : List Loc) , lv_has ls572 6 [(0, .ref a0), (2, .int x2), (3, .int x567), (4, .int x568), (5, .int x569)] → TY K G H571 → va_S (AE G [112, 114, 120, 121, 119, 122, 140, 139, 117] s.heap.size) s.heap H571 locsH571 → (32 ≤ x569.toInt ∧ x569.toInt ≤ 95) → (CG (avw K H571 a0)) → (TU (avw K H571 a0) (svw K H571 a0)) → (WD (avw K H571 a0)) → (IM (avw K H571 a0)) → (16 * x567.toInt ≤ x569.toInt) → W p l e ({ frames := 9, cells := 0, slots := 0, locals := 216 } : Room) s m (([.ref a0, .int x1, .int x2] : List Value).toArray) below meth c H571 locsH571 0 0 Q (F0 m 81 ls572 []) := by
        intro ls572 H571 locsH571  hl573 hTH571 hSH571 b574 gy575_CG gy575_TU gy575_WD gy575_IM iv81
        obtain ⟨x576, ex576⟩ : ∃ y : Int32, y = x569 + 1 := ⟨_, rfl⟩
        have tx576 := i_add ex576 (by omega)
        refine lv_iinc (v := x576) (lv' := [(5, .int x576), (0, .ref a0), (2, .int x2), (3, .int x567), (4, .int x568)]) hx hb dX10_job_81 hl573 (k := 4) rfl (by rw [ex576]; rfl) (by decide) rfl (fun ls577 hl578 => ?_)
        refine lv_goto (tgt := 43) hx hb dX10_job_84 (by decide) ?_
        exact ih43 ls577 H571 locsH571 (x567) (x568) (x576) (lv_sub hl578 [1, 2, 3, 4, 0] rfl) hTH571 hSH571 (by have := i_rng x2; omega) (by have := i_rng x567; omega) (by have := i_rng x568; omega) (by have := i_rng x576; omega) gy575_CG gy575_TU gy575_WD gy575_IM (by omega) (by omega)
      refine lv_iload hx hb dX10_job_43 (lv_at hl565 4 rfl) ?_
      refine lv_bipush (v := 16) hx hb dX10_job_45 (by decide) ?_
      refine lv_iload_n hx hb dX10_job_47 rfl (lv_at hl565 2 rfl) ?_
      refine lv_imul hx hb dX10_job_48 ?_
      refine lv_topi (fun x579 ex579 => ?_)
      have tx579 := i_mul ex579 (by rw [n_16]; omega)
      rw [n_16] at tx579
      refine lv_aload_n hx hb dX10_job_49 rfl (lv_at hl565 0 rfl) ?_
      refine x_gr C hTH563 (ci := 10) (k := 24) rfl inX10 (by decide) wF_X10_59 ga0 rg_112 rfl dX10_job_50 (fun q580 eq580 gq580 => ?_)
      refine lv_iload_n hx hb dX10_job_53 rfl (lv_at hl565 2 rfl) ?_
      refine x_ai C hTH563 gq580 rg_128 ⟨by omega, by show _ < ((7 : Nat) : Int); omega⟩ dX10_job_54 (fun x581 ex581 bx581 => ?_)
      refine lv_iadd hx hb dX10_job_55 ?_
      refine lv_topi (fun x582 ex582 => ?_)
      have tx582 := i_add ex582 (by omega)
      refine lv_icmp_ge (tgt := 87) hx hb dX10_job_56 (by decide) (fun c583 => ?_) (fun c583 => ?_)
      · have k584 := i_le c583
        refine lv_aload_n hx hb dX10_job_87 rfl (lv_at hl565 0 rfl) ?_
        refine x_gr C hTH563 (ci := 10) (k := 10) rfl inX10 (by decide) wF_X10_32 ga0 rg_112 rfl dX10_job_88 (fun q585 eq585 gq585 => ?_)
        refine lv_iload_n hx hb dX10_job_91 rfl (lv_at hl565 1 rfl) ?_
        refine x_ai C hTH563 gq585 rg_119 ⟨by omega, by show _ < ((10 : Nat) : Int); omega⟩ dX10_job_92 (fun x586 ex586 bx586 => ?_)
        refine lv_iload hx hb dX10_job_93 (lv_at hl565 3 rfl) ?_
        refine lv_isub hx hb dX10_job_95 ?_
        refine lv_topi (fun x587 ex587 => ?_)
        have tx587 := i_sub ex587 (by omega)
        exact x_iret C hQ dX10_job_96 hSH563 (by decide) (by decide) (⟨x587, rfl, gy570_CG, gy570_TU, gy570_WD, gy570_IM, hTH563⟩)
      · have k584 := i_nle c583
        refine lv_aload_n hx hb dX10_job_59 rfl (lv_at hl565 0 rfl) ?_
        refine lv_iload_n hx hb dX10_job_60 rfl (lv_at hl565 1 rfl) ?_
        refine x_V (As := [.int x2]) (rest := []) C (a_X10_asksJob l K G H563 (x2) hTH563 ga0 (by omega) gy570_CG) yo_X10_asksJob wM_X10_350 ⟨⟨by decide, by decide⟩, by decide, by decide⟩ (x_rv C hTH563 (ci := 10) rfl ga0 rg_112) rfl hl565.1 rfl (Nat.le_of_ble_eq_true rfl) dX10_job_61 hSH563 (AE_sub (fun _ _ => rfl) (by decide) hSH563.1) (fun vH588 H588 locsH588 pH588 zH588 kH588 hSH588 => ?_)
        obtain ⟨hvH588, hTH588⟩ := pH588
        subst hvH588
        have g589 : CG (avw K H588 a0) := CG.congr (fun k hk j => av_eff hTH563 kH588 ga0 (by decide) (CG_eff [140, 139] (by decide) k hk)) gy570_CG
        have g590 : TU (avw K H588 a0) (svw K H588 a0) := TU.congr (fun k hk j => av_eff hTH563 kH588 ga0 (by decide) (TU_eff [140, 139] (by decide) k hk)) (fun k hk => sv_eff hTH563 kH588 ga0 (by decide)) gy570_TU
        have g591 : WD (avw K H588 a0) := WD.congr (fun k hk j => av_eff hTH563 kH588 ga0 (by decide) (WD_eff [140, 139] (by decide) k hk)) gy570_WD
        have g592 : IM (avw K H588 a0) := IM.congr (fun k hk j => av_eff hTH563 kH588 ga0 (by decide) (IM_eff [140, 139] (by decide) k hk)) gy570_IM
        have m593 := (eq580).trans (fR_kept (x_lt hTH563 kH588 ga0 (by decide))).symm
        have m594 := (ex581).trans (fI_kept (x_lt hTH563 kH588 gq580 (by decide))).symm
        refine W.eq (g2 := F0 m 64 ls564 []) rfl ?_
        refine lv_aload_n hx hb dX10_job_64 rfl (lv_at hl565 0 rfl) ?_
        refine lv_iload_n hx hb dX10_job_65 rfl (lv_at hl565 2 rfl) ?_
        refine lv_iload hx hb dX10_job_66 (lv_at hl565 4 rfl) ?_
        refine x_V (As := [.int x567, .int x569]) (rest := []) C (a_X10_isSo l K G H588 (x567) (x569) (x581) hTH588 ga0 (by omega) (by omega) gq580 m593 m594 g589 (by omega)) yo_X10_isSo wM_X10_305 ⟨⟨by decide, by decide⟩, by decide, by decide⟩ (x_rv C hTH588 (ci := 10) rfl ga0 rg_112) rfl hl565.1 rfl (Nat.le_of_ble_eq_true rfl) dX10_job_68 hSH588 (AE_sub (fun _ _ => rfl) (by decide) hSH588.1) (fun vH595 H595 locsH595 pH595 zH595 kH595 hSH595 => ?_)
        obtain ⟨x596, hvH595, bx596, hTH595⟩ := pH595
        subst hvH595
        have g597 : CG (avw K H595 a0) := CG.congr (fun k hk j => av_eff hTH588 kH595 ga0 (by decide) (CG_eff [140] (by decide) k hk)) g589
        have g598 : TU (avw K H595 a0) (svw K H595 a0) := TU.congr (fun k hk j => av_eff hTH588 kH595 ga0 (by decide) (TU_eff [140] (by decide) k hk)) (fun k hk => sv_eff hTH588 kH595 ga0 (by decide)) g590
        have g599 : WD (avw K H595 a0) := WD.congr (fun k hk j => av_eff hTH588 kH595 ga0 (by decide) (WD_eff [140] (by decide) k hk)) g591
        have g600 : IM (avw K H595 a0) := IM.congr (fun k hk j => av_eff hTH588 kH595 ga0 (by decide) (IM_eff [140] (by decide) k hk)) g592
        have m601 := (m593).trans (fR_kept (x_lt hTH588 kH595 ga0 (by decide))).symm
        have m602 := (m594).trans (fI_kept (x_lt hTH588 kH595 gq580 (by decide))).symm
        refine W.eq (g2 := F0 m 71 ls564 [.int x596]) rfl ?_
        refine lv_if_eq (tgt := 81) hx hb dX10_job_71 (by decide) (fun c603 => ?_) (fun c603 => ?_)
        · have k604 := i_eq c603
          exact J81 ls564 H595 locsH595 (lv_sub hl565 [0, 1, 2, 3, 4] rfl) hTH595 hSH595 (by have := i_rng x569; omega) g597 g598 g599 g600 (by omega)
        · have k604 := i_ne c603
          refine lv_aload_n hx hb dX10_job_74 rfl (lv_at hl565 0 rfl) ?_
          refine lv_iload_n hx hb dX10_job_75 rfl (lv_at hl565 1 rfl) ?_
          refine lv_iload hx hb dX10_job_76 (lv_at hl565 4 rfl) ?_
          refine x_V (As := [.int x2, .int x569]) (rest := []) C (a_X10_doesLine l K G H595 (x2) (x569) hTH595 ga0 (by omega) (by omega) g597) yo_X10_doesLine wM_X10_353 ⟨⟨by decide, by decide⟩, by decide, by decide⟩ (x_rv C hTH595 (ci := 10) rfl ga0 rg_112) rfl hl565.1 rfl (Nat.le_of_ble_eq_true rfl) dX10_job_78 hSH595 (AE_sub (fun _ _ => rfl) (by decide) hSH595.1) (fun vH605 H605 locsH605 pH605 zH605 kH605 hSH605 => ?_)
          obtain ⟨hvH605, hTH605⟩ := pH605
          subst hvH605
          have g606 : CG (avw K H605 a0) := CG.congr (fun k hk j => av_eff hTH595 kH605 ga0 (by decide) (CG_eff [114, 120, 121, 119, 122, 140, 139, 117] (by decide) k hk)) g597
          have g607 : TU (avw K H605 a0) (svw K H605 a0) := TU.congr (fun k hk j => av_eff hTH595 kH605 ga0 (by decide) (TU_eff [114, 120, 121, 119, 122, 140, 139, 117] (by decide) k hk)) (fun k hk => sv_eff hTH595 kH605 ga0 (by decide)) g598
          have g608 : WD (avw K H605 a0) := WD.congr (fun k hk j => av_eff hTH595 kH605 ga0 (by decide) (WD_eff [114, 120, 121, 119, 122, 140, 139, 117] (by decide) k hk)) g599
          have g609 : IM (avw K H605 a0) := IM.congr (fun k hk j => av_eff hTH595 kH605 ga0 (by decide) (IM_eff [114, 120, 121, 119, 122, 140, 139, 117] (by decide) k hk)) g600
          have m610 := (m601).trans (fR_kept (x_lt hTH595 kH605 ga0 (by decide))).symm
          have m611 := (m602).trans (fI_kept (x_lt hTH595 kH605 gq580 (by decide))).symm
          refine W.eq (g2 := F0 m 81 ls564 []) rfl ?_
          exact J81 ls564 H605 locsH605 (lv_sub hl565 [0, 1, 2, 3, 4] rfl) hTH605 hSH605 (by have := i_rng x569; omega) g606 g607 g608 g609 (by omega)
  refine lv_aload_n hx hb dX10_job_0 rfl (lv_at hl 0 rfl) ?_
  refine lv_iconst (v := 0) hx hb dX10_job_1 (by decide) ?_
  refine x_put C hT hS (ci := 10) (k := 0) (v := .int 0) (ty0 := tyX10) rfl inX10 tyX10_ok nmX10 (by decide) rfl wF_X10_167 ga0 rg_112 rfl rfl (okI (by have := i_rng (0 : Int32); omega) (by have := i_rng (0 : Int32); omega)) rfl rfl (AE_in ga0 (by decide)) dX10_job_2 (fun H612 locsH612 hTH612 hSH612 wH612 => ?_)
  have g613 : CG (avw K H612 a0) := CG.congr (fun k hk j => av_fld hT ga0 hap wH612 (by decide) (CG_ok 112 (by decide) k hk) (CG_ne 0 (by decide) k hk)) hg_CG
  have g614 : TU (avw K H612 a0) (svw K H612 a0) := TU.congr (fun k hk j => av_fld hT ga0 hap wH612 (by decide) (TU_ok 112 (by decide) k hk) (TU_ne 0 (by decide) k hk)) (fun k hk => sv_fld hap wH612 (by decide) (TU_slt k hk) (TU_sne 0 (by decide) k hk)) hg_TU
  have g615 : WD (avw K H612 a0) := WD.congr (fun k hk j => av_fld hT ga0 hap wH612 (by decide) (WD_ok 112 (by decide) k hk) (WD_ne 0 (by decide) k hk)) hg_WD
  have g616 : IM (avw K H612 a0) := IM.congr (fun k hk j => av_fld hT ga0 hap wH612 (by decide) (IM_ok 112 (by decide) k hk) (IM_ne 0 (by decide) k hk)) hg_IM
  have m617 := Wr.I wH612
  refine lv_aload_n hx hb dX10_job_5 rfl (lv_at hl 0 rfl) ?_
  refine lv_iload_n hx hb dX10_job_6 rfl (lv_at hl 1 rfl) ?_
  refine lv_iconst (v := 0) hx hb dX10_job_7 (by decide) ?_
  refine lv_iconst (v := 3) hx hb dX10_job_8 (by decide) ?_
  refine x_V (As := [.int x1, .int 0, .int 3]) (rest := []) C (c_X10_isIn l K G H612 (x1) (0) (3) hTH612 ga0) yo_X10_isIn wM_X10_177 ⟨⟨by decide, by decide⟩, by decide, by decide⟩ (x_rv C hTH612 (ci := 10) rfl ga0 rg_112) rfl hl.1 rfl (Nat.le_of_ble_eq_true rfl) dX10_job_9 hSH612 (AE_sub (fun _ _ => rfl) (by decide) hSH612.1) (fun vH618 H618 locsH618 pH618 zH618 kH618 hSH618 => ?_)
  have hqH618 := pH618.1.symm
  subst hqH618
  rcases pH618.2 with ⟨hvH618, hcH618⟩ | ⟨hvH618, hcH618⟩
  · subst hvH618
    refine W.eq (g2 := F0 m 12 ls [.int 1]) rfl ?_
    refine lv_if_eq (tgt := 23) hx hb dX10_job_12 (by decide) (fun c619 => ?_) (fun c619 => ?_)
    · have k620 := i_eq c619
      exfalso
      omega
    · have k620 := i_ne c619
      refine lv_aload_n hx hb dX10_job_15 rfl (lv_at hl 0 rfl) ?_
      refine lv_iload_n hx hb dX10_job_16 rfl (lv_at hl 2 rfl) ?_
      obtain ⟨x621, ex621⟩ : ∃ z : Int32, z = fI H612 a0 (K.1.2 10 1) := ⟨_, rfl⟩
      have bx621 := ty_fi (x := x621) (k := 1) ex621 hTH612 ga0 rg_112 rfl
      refine x_V (As := [.int x2]) (rest := []) C (a_X10_isBar l K G H612 (x2) (x621) hTH612 ga0 ex621) yo_X10_isBar wM_X10_173 ⟨⟨by decide, by decide⟩, by decide, by decide⟩ (x_rv C hTH612 (ci := 10) rfl ga0 rg_112) rfl hl.1 rfl (Nat.le_of_ble_eq_true rfl) dX10_job_17 hSH618 (AE_sub (fun _ _ => rfl) (by decide) hSH618.1) (fun vH622 H622 locsH622 pH622 zH622 kH622 hSH622 => ?_)
      obtain ⟨x623, hvH622, bx623, hrH622, hTH622⟩ := pH622
      subst hvH622
      have g624 : CG (avw K H622 a0) := CG.congr (fun k hk j => av_eff hTH612 kH622 ga0 (by decide) (CG_eff [] (by decide) k hk)) g613
      have g625 : TU (avw K H622 a0) (svw K H622 a0) := TU.congr (fun k hk j => av_eff hTH612 kH622 ga0 (by decide) (TU_eff [] (by decide) k hk)) (fun k hk => sv_eff hTH612 kH622 ga0 (by decide)) g614
      have g626 : WD (avw K H622 a0) := WD.congr (fun k hk j => av_eff hTH612 kH622 ga0 (by decide) (WD_eff [] (by decide) k hk)) g615
      have g627 : IM (avw K H622 a0) := IM.congr (fun k hk j => av_eff hTH612 kH622 ga0 (by decide) (IM_eff [] (by decide) k hk)) g616
      have m628 := (fI_kept (x_lt hTH612 kH622 ga0 (by decide))).trans m617
      have m629 := (ex621).trans (fI_kept (x_lt hTH612 kH622 ga0 (by decide))).symm
      refine W.eq (g2 := F0 m 20 ls [.int x623]) rfl ?_
      refine lv_if_ne (tgt := 25) hx hb dX10_job_20 (by decide) (fun c630 => ?_) (fun c630 => ?_)
      · have k631 := i_ne c630
        refine lv_iconst (v := 2) hx hb dX10_job_25 (by decide) ?_
        refine lv_iload_n hx hb dX10_job_26 rfl (lv_at hl 1 rfl) ?_
        refine lv_iadd hx hb dX10_job_27 ?_
        refine lv_topi (fun x632 ex632 => ?_)
        have tx632 := i_add ex632 (by omega)
        refine lv_istore_n (lv' := [(3, .int x632), (0, .ref a0), (1, .int x1), (2, .int x2)]) hx hb dX10_job_28 rfl hl (by decide) rfl (fun ls633 hl634 => ?_)
        refine lv_aload_n hx hb dX10_job_29 rfl (lv_at hl634 1 rfl) ?_
        refine x_gr C hTH622 (ci := 10) (k := 10) rfl inX10 (by decide) wF_X10_32 ga0 rg_112 rfl dX10_job_30 (fun q635 eq635 gq635 => ?_)
        refine lv_iload_n hx hb dX10_job_33 rfl (lv_at hl634 3 rfl) ?_
        refine x_ai C hTH622 gq635 rg_119 ⟨by omega, by show _ < ((10 : Nat) : Int); omega⟩ dX10_job_34 (fun x636 ex636 bx636 => ?_)
        refine lv_istore (lv' := [(4, .int x636), (3, .int x632), (0, .ref a0), (1, .int x1), (2, .int x2)]) hx hb dX10_job_35 hl634 (by decide) rfl (fun ls637 hl638 => ?_)
        refine lv_bipush (v := 16) hx hb dX10_job_37 (by decide) ?_
        refine lv_iload_n hx hb dX10_job_39 rfl (lv_at hl638 1 rfl) ?_
        refine lv_imul hx hb dX10_job_40 ?_
        refine lv_topi (fun x639 ex639 => ?_)
        have tx639 := i_mul ex639 (by rw [n_16]; omega)
        rw [n_16] at tx639
        refine lv_istore (lv' := [(5, .int x639), (4, .int x636), (3, .int x632), (0, .ref a0), (1, .int x1), (2, .int x2)]) hx hb dX10_job_41 hl638 (by decide) rfl (fun ls640 hl641 => ?_)
        exact J43 ((96 - x639.toInt).toNat + 1) ls640 H622 locsH622 (x632) (x636) (x639) (lv_sub hl641 [3, 5, 2, 1, 0] rfl) hTH622 hSH622 (by have := i_rng x2; omega) (by have := i_rng x632; omega) (by have := i_rng x636; omega) (by have := i_rng x639; omega) g624 g625 g626 g627 (by omega) (by omega)
      · have k631 := i_eq c630
        exact J23 ls H622 locsH622 (lv_sub hl [] rfl) hTH622 hSH622 g624 g625 g626 g627
  · subst hvH618
    refine W.eq (g2 := F0 m 12 ls [.int 0]) rfl ?_
    refine lv_if_eq (tgt := 23) hx hb dX10_job_12 (by decide) (fun c642 => ?_) (fun c642 => ?_)
    · have k643 := i_eq c642
      exact J23 ls H612 locsH618 (lv_sub hl [] rfl) hTH612 hSH618 g613 g614 g615 g616
    · have k643 := i_ne c642
      exfalso
      omega

set_option maxHeartbeats 4000000 in
set_option maxRecDepth 100000 in
theorem a_X10_tube (l : Launch) (K : KE) (G : Nat → Option Nat) (H : Heap) {a0 : Nat} (x1 : Int32) (x2 : Int32) (x3 : Int32) (hT : TY K G H) (ga0 : G a0 = some 112) (hg_CG : CG (avw K H a0)) (hg_TU : TU (avw K H a0) (svw K H a0)) (hg_WD : WD (avw K H a0)) (hg_IM : IM (avw K H a0)) : MX l K yX10_tube cX10_tube 4 (some .boolean) 1 23 0 0 [.ref a0, .int x1, .int x2, .int x3] H (AE G [112, 125] H.size) (fun v H1 => ∃ (r : Int32), v = some (.int r) ∧ (0 ≤ r.toInt ∧ r.toInt ≤ 1) ∧ (CG (avw K H1 a0)) ∧ (TU (avw K H1 a0) (svw K H1 a0)) ∧ (WD (avw K H1 a0)) ∧ (IM (avw K H1 a0)) ∧ TY K G H1) := by
  refine MX.of (by decide +kernel) (Nat.le_of_ble_eq_true rfl) ?_
  intro p e s m below meth c ls Q C hH hl hQ
  subst hH
  have C : CX p K s m _ meth c RX10 cX10_tube 4 (some .boolean) "tube" := C
  obtain ⟨hx, hb, hml, hown, hts, hKT, hr, hlocks, hnm⟩ := id C
  have hl : lv_has ls 4 [(0, .ref a0), (1, .int x1), (2, .int x2), (3, .int x3)] := hl
  have hS : va_S (AE G [112, 125] s.heap.size) s.heap s.heap [] := va_S.rf
  have n_0 : (0 : Int32).toInt = 0 := rfl
  have n_1 : (1 : Int32).toInt = 1 := rfl
  have n_2 : (2 : Int32).toInt = 2 := rfl
  have n_9999 : (9999 : Int32).toInt = 9999 := rfl
  have hap : ∀ x y, x < 74 → y < 74 → x ≠ y → K.1.2 10 x ≠ K.1.2 10 y := x_apart hKT hts inX10 tyX10 tyX10_ok nmX10 rfl
  have J35 : ∀ (ls258 : Array Slot) (H257 : Heap) (locsH257 : List Loc) , lv_has ls258 4 [] → TY K G H257 → va_S (AE G [112, 125] s.heap.size) s.heap H257 locsH257 → (CG (avw K H257 a0)) → (TU (avw K H257 a0) (svw K H257 a0)) → (WD (avw K H257 a0)) → (IM (avw K H257 a0)) → W p l e ({ frames := 1, cells := 0, slots := 0, locals := 23 } : Room) s m (([.ref a0, .int x1, .int x2, .int x3] : List Value).toArray) below meth c H257 locsH257 0 0 Q (F0 m 35 ls258 []) := by
    intro ls258 H257 locsH257  hl259 hTH257 hSH257 gy260_CG gy260_TU gy260_WD gy260_IM
    refine lv_iconst (v := 0) hx hb dX10_tube_35 (by decide) ?_
    exact x_zret C hQ (Or.inl rfl) dX10_tube_36 hSH257 (by decide) (by decide) (⟨0, rfl, by decide, gy260_CG, gy260_TU, gy260_WD, gy260_IM, hTH257⟩)
  refine lv_aload_n hx hb dX10_tube_0 rfl (lv_at hl 0 rfl) ?_
  refine lv_iconst (v := 0) hx hb dX10_tube_1 (by decide) ?_
  refine x_put C hT hS (ci := 10) (k := 0) (v := .int 0) (ty0 := tyX10) rfl inX10 tyX10_ok nmX10 (by decide) rfl wF_X10_167 ga0 rg_112 rfl rfl (okI (by have := i_rng (0 : Int32); omega) (by have := i_rng (0 : Int32); omega)) rfl rfl (AE_in ga0 (by decide)) dX10_tube_2 (fun H261 locsH261 hTH261 hSH261 wH261 => ?_)
  have g262 : CG (avw K H261 a0) := CG.congr (fun k hk j => av_fld hT ga0 hap wH261 (by decide) (CG_ok 112 (by decide) k hk) (CG_ne 0 (by decide) k hk)) hg_CG
  have g263 : TU (avw K H261 a0) (svw K H261 a0) := TU.congr (fun k hk j => av_fld hT ga0 hap wH261 (by decide) (TU_ok 112 (by decide) k hk) (TU_ne 0 (by decide) k hk)) (fun k hk => sv_fld hap wH261 (by decide) (TU_slt k hk) (TU_sne 0 (by decide) k hk)) hg_TU
  have g264 : WD (avw K H261 a0) := WD.congr (fun k hk j => av_fld hT ga0 hap wH261 (by decide) (WD_ok 112 (by decide) k hk) (WD_ne 0 (by decide) k hk)) hg_WD
  have g265 : IM (avw K H261 a0) := IM.congr (fun k hk j => av_fld hT ga0 hap wH261 (by decide) (IM_ok 112 (by decide) k hk) (IM_ne 0 (by decide) k hk)) hg_IM
  have m266 := Wr.I wH261
  refine lv_aload_n hx hb dX10_tube_5 rfl (lv_at hl 0 rfl) ?_
  refine lv_iload_n hx hb dX10_tube_6 rfl (lv_at hl 1 rfl) ?_
  obtain ⟨x267, ex267⟩ : ∃ z : Int32, z = fI H261 a0 (K.1.2 10 1) := ⟨_, rfl⟩
  have bx267 := ty_fi (x := x267) (k := 1) ex267 hTH261 ga0 rg_112 rfl
  refine x_V (As := [.int x1]) (rest := []) C (a_X10_isBar l K G H261 (x1) (x267) hTH261 ga0 ex267) yo_X10_isBar wM_X10_173 ⟨⟨by decide, by decide⟩, by decide, by decide⟩ (x_rv C hTH261 (ci := 10) rfl ga0 rg_112) rfl hl.1 rfl (Nat.le_of_ble_eq_true rfl) dX10_tube_7 hSH261 (AE_sub (fun _ _ => rfl) (by decide) hSH261.1) (fun vH268 H268 locsH268 pH268 zH268 kH268 hSH268 => ?_)
  obtain ⟨x269, hvH268, bx269, hrH268, hTH268⟩ := pH268
  subst hvH268
  have g270 : CG (avw K H268 a0) := CG.congr (fun k hk j => av_eff hTH261 kH268 ga0 (by decide) (CG_eff [] (by decide) k hk)) g262
  have g271 : TU (avw K H268 a0) (svw K H268 a0) := TU.congr (fun k hk j => av_eff hTH261 kH268 ga0 (by decide) (TU_eff [] (by decide) k hk)) (fun k hk => sv_eff hTH261 kH268 ga0 (by decide)) g263
  have g272 : WD (avw K H268 a0) := WD.congr (fun k hk j => av_eff hTH261 kH268 ga0 (by decide) (WD_eff [] (by decide) k hk)) g264
  have g273 : IM (avw K H268 a0) := IM.congr (fun k hk j => av_eff hTH261 kH268 ga0 (by decide) (IM_eff [] (by decide) k hk)) g265
  have m274 := (fI_kept (x_lt hTH261 kH268 ga0 (by decide))).trans m266
  have m275 := (ex267).trans (fI_kept (x_lt hTH261 kH268 ga0 (by decide))).symm
  refine W.eq (g2 := F0 m 10 ls [.int x269]) rfl ?_
  refine lv_if_eq (tgt := 35) hx hb dX10_tube_10 (by decide) (fun c276 => ?_) (fun c276 => ?_)
  · have k277 := i_eq c276
    exact J35 ls H268 locsH268 (lv_sub hl [] rfl) hTH268 hSH268 g270 g271 g272 g273
  · have k277 := i_ne c276
    refine lv_aload_n hx hb dX10_tube_13 rfl (lv_at hl 0 rfl) ?_
    refine lv_iload_n hx hb dX10_tube_14 rfl (lv_at hl 2 rfl) ?_
    refine lv_iconst (v := 0) hx hb dX10_tube_15 (by decide) ?_
    refine lv_iconst (v := 1) hx hb dX10_tube_16 (by decide) ?_
    refine x_V (As := [.int x2, .int 0, .int 1]) (rest := []) C (c_X10_isIn l K G H268 (x2) (0) (1) hTH268 ga0) yo_X10_isIn wM_X10_177 ⟨⟨by decide, by decide⟩, by decide, by decide⟩ (x_rv C hTH268 (ci := 10) rfl ga0 rg_112) rfl hl.1 rfl (Nat.le_of_ble_eq_true rfl) dX10_tube_17 hSH268 (AE_sub (fun _ _ => rfl) (by decide) hSH268.1) (fun vH278 H278 locsH278 pH278 zH278 kH278 hSH278 => ?_)
    have hqH278 := pH278.1.symm
    subst hqH278
    rcases pH278.2 with ⟨hvH278, hcH278⟩ | ⟨hvH278, hcH278⟩
    · subst hvH278
      refine W.eq (g2 := F0 m 20 ls [.int 1]) rfl ?_
      refine lv_if_eq (tgt := 35) hx hb dX10_tube_20 (by decide) (fun c279 => ?_) (fun c279 => ?_)
      · have k280 := i_eq c279
        exfalso
        omega
      · have k280 := i_ne c279
        refine lv_aload_n hx hb dX10_tube_23 rfl (lv_at hl 0 rfl) ?_
        refine lv_iload_n hx hb dX10_tube_24 rfl (lv_at hl 3 rfl) ?_
        refine lv_iconst (v := 1) hx hb dX10_tube_25 (by decide) ?_
        refine lv_sipush (v := 9999) hx hb dX10_tube_26 (by decide) ?_
        refine x_V (As := [.int x3, .int 1, .int 9999]) (rest := []) C (c_X10_isIn l K G H268 (x3) (1) (9999) hTH268 ga0) yo_X10_isIn wM_X10_177 ⟨⟨by decide, by decide⟩, by decide, by decide⟩ (x_rv C hTH268 (ci := 10) rfl ga0 rg_112) rfl hl.1 rfl (Nat.le_of_ble_eq_true rfl) dX10_tube_29 hSH278 (AE_sub (fun _ _ => rfl) (by decide) hSH278.1) (fun vH281 H281 locsH281 pH281 zH281 kH281 hSH281 => ?_)
        have hqH281 := pH281.1.symm
        subst hqH281
        rcases pH281.2 with ⟨hvH281, hcH281⟩ | ⟨hvH281, hcH281⟩
        · subst hvH281
          refine W.eq (g2 := F0 m 32 ls [.int 1]) rfl ?_
          refine lv_if_ne (tgt := 37) hx hb dX10_tube_32 (by decide) (fun c282 => ?_) (fun c282 => ?_)
          · have k283 := i_ne c282
            refine lv_aload_n hx hb dX10_tube_37 rfl (lv_at hl 0 rfl) ?_
            refine x_gr C hTH268 (ci := 10) (k := 16) rfl inX10 (by decide) wF_X10_50 ga0 rg_112 rfl dX10_tube_38 (fun q284 eq284 gq284 => ?_)
            refine lv_iconst (v := 2) hx hb dX10_tube_41 (by decide) ?_
            refine lv_iload_n hx hb dX10_tube_42 rfl (lv_at hl 1 rfl) ?_
            refine lv_imul hx hb dX10_tube_43 ?_
            refine lv_topi (fun x285 ex285 => ?_)
            have tx285 := i_mul ex285 (by rw [n_2]; omega)
            rw [n_2] at tx285
            refine lv_iload_n hx hb dX10_tube_44 rfl (lv_at hl 2 rfl) ?_
            refine lv_iadd hx hb dX10_tube_45 ?_
            refine lv_topi (fun x286 ex286 => ?_)
            have tx286 := i_add ex286 (by omega)
            refine lv_iload_n hx hb dX10_tube_46 rfl (lv_at hl 3 rfl) ?_
            refine x_iast C hTH268 hSH281 gq284 rg_125 (by omega) (by show _ < ((20 : Nat) : Int); omega) ⟨by have := i_rng x3; omega, by have := i_rng x3; omega⟩ (AE_in gq284 (by decide)) dX10_tube_47 (fun H287 locsH287 hTH287 hSH287 wH287 => ?_)
            have g288 : CG (avw K H287 a0) := CG.congr (fun k hk j => av_arr hTH268 ga0 wH287 gq284 (by decide) (CG_ok 125 (by decide) k hk)) g270
            have g289 : TU (avw K H287 a0) (svw K H287 a0) := TU.putT hTH268 ga0 wH287 gq284 eq284 (by omega) g271
            have g290 : WD (avw K H287 a0) := WD.congr (fun k hk j => av_arr hTH268 ga0 wH287 gq284 (by decide) (WD_ok 125 (by decide) k hk)) g272
            have g291 : IM (avw K H287 a0) := IM.congr (fun k hk j => av_arr hTH268 ga0 wH287 gq284 (by decide) (IM_ok 125 (by decide) k hk)) g273
            have m292 := (Wr.neI wH287 (Or.inl (G_ne ga0 gq284 (by decide)))).trans m274
            have m293 := m275.trans (Wr.neI wH287 (Or.inl (G_ne ga0 gq284 (by decide)))).symm
            have m294 := eq284.trans (Wr.neR wH287 (Or.inl (G_ne ga0 gq284 (by decide)))).symm
            have m295 := Wr.I wH287
            have m295 := m295.symm
            refine lv_iconst (v := 1) hx hb dX10_tube_48 (by decide) ?_
            exact x_zret C hQ (Or.inr rfl) dX10_tube_49 hSH287 (by decide) (by decide) (⟨1, rfl, by decide, g288, g289, g290, g291, hTH287⟩)
          · have k283 := i_eq c282
            exfalso
            omega
        · subst hvH281
          refine W.eq (g2 := F0 m 32 ls [.int 0]) rfl ?_
          refine lv_if_ne (tgt := 37) hx hb dX10_tube_32 (by decide) (fun c296 => ?_) (fun c296 => ?_)
          · have k297 := i_ne c296
            exfalso
            omega
          · have k297 := i_eq c296
            exact J35 ls H268 locsH281 (lv_sub hl [] rfl) hTH268 hSH281 g270 g271 g272 g273
    · subst hvH278
      refine W.eq (g2 := F0 m 20 ls [.int 0]) rfl ?_
      refine lv_if_eq (tgt := 35) hx hb dX10_tube_20 (by decide) (fun c298 => ?_) (fun c298 => ?_)
      · have k299 := i_eq c298
        exact J35 ls H268 locsH278 (lv_sub hl [] rfl) hTH268 hSH278 g270 g271 g272 g273
      · have k299 := i_ne c298
        exfalso
        omega

set_option maxHeartbeats 4000000 in
set_option maxRecDepth 100000 in
theorem a_X10_fewest (l : Launch) (K : KE) (G : Nat → Option Nat) (H : Heap) {a0 : Nat} (x1 : Int32) (x2 : Int32) (hT : TY K G H) (ga0 : G a0 = some 112) (hg_CG : CG (avw K H a0)) (hg_TU : TU (avw K H a0) (svw K H a0)) (hg_WD : WD (avw K H a0)) (hg_IM : IM (avw K H a0)) : MX l K yX10_fewest cX10_fewest 4 (some .int) 6 145 0 0 [.ref a0, .int x1, .int x2] H (AE G [112, 114, 143, 144, 145, 141, 140, 139] H.size) (fun v H1 => ∃ (r : Int32), v = some (.int r) ∧ (CG (avw K H1 a0)) ∧ (TU (avw K H1 a0) (svw K H1 a0)) ∧ (WD (avw K H1 a0)) ∧ (IM (avw K H1 a0)) ∧ TY K G H1) := by
  refine MX.of (by decide +kernel) (Nat.le_of_ble_eq_true rfl) ?_
  intro p e s m below meth c ls Q C hH hl hQ
  subst hH
  have C : CX p K s m _ meth c RX10 cX10_fewest 4 (some .int) "fewest" := C
  obtain ⟨hx, hb, hml, hown, hts, hKT, hr, hlocks, hnm⟩ := id C
  have hl : lv_has ls 4 [(0, .ref a0), (1, .int x1), (2, .int x2)] := hl
  have hS : va_S (AE G [112, 114, 143, 144, 145, 141, 140, 139] s.heap.size) s.heap s.heap [] := va_S.rf
  have n_m1 : ((-1) : Int32).toInt = -1 := rfl
  have n_0 : (0 : Int32).toInt = 0 := rfl
  have n_1 : (1 : Int32).toInt = 1 := rfl
  have n_5 : (5 : Int32).toInt = 5 := rfl
  have n_8 : (8 : Int32).toInt = 8 := rfl
  have hap : ∀ x y, x < 74 → y < 74 → x ≠ y → K.1.2 10 x ≠ K.1.2 10 y := x_apart hKT hts inX10 tyX10 tyX10_ok nmX10 rfl
  have J34 : ∀ (ls307 : Array Slot) (H306 : Heap) (locsH306 : List Loc) , lv_has ls307 4 [] → TY K G H306 → va_S (AE G [112, 114, 143, 144, 145, 141, 140, 139] s.heap.size) s.heap H306 locsH306 → (CG (avw K H306 a0)) → (TU (avw K H306 a0) (svw K H306 a0)) → (WD (avw K H306 a0)) → (IM (avw K H306 a0)) → W p l e ({ frames := 6, cells := 0, slots := 0, locals := 145 } : Room) s m (([.ref a0, .int x1, .int x2] : List Value).toArray) below meth c H306 locsH306 0 0 Q (F0 m 34 ls307 []) := by
    intro ls307 H306 locsH306  hl308 hTH306 hSH306 gy309_CG gy309_TU gy309_WD gy309_IM
    refine lv_iconst (v := (-1)) hx hb dX10_fewest_34 (by decide) ?_
    exact x_iret C hQ dX10_fewest_35 hSH306 (by decide) (by decide) (⟨(-1), rfl, gy309_CG, gy309_TU, gy309_WD, gy309_IM, hTH306⟩)
  have J51 : ∀ (ls311 : Array Slot) (H310 : Heap) (locsH310 : List Loc) (x313 : Int32), lv_has ls311 4 [(3, .int x313)] → TY K G H310 → va_S (AE G [112, 114, 143, 144, 145, 141, 140, 139] s.heap.size) s.heap H310 locsH310 → ((-1) ≤ x313.toInt ∧ x313.toInt ≤ 5) → (CG (avw K H310 a0)) → (TU (avw K H310 a0) (svw K H310 a0)) → (WD (avw K H310 a0)) → (IM (avw K H310 a0)) → W p l e ({ frames := 6, cells := 0, slots := 0, locals := 145 } : Room) s m (([.ref a0, .int x1, .int x2] : List Value).toArray) below meth c H310 locsH310 0 0 Q (F0 m 51 ls311 []) := by
    intro ls311 H310 locsH310 x313 hl312 hTH310 hSH310 bx313 gy314_CG gy314_TU gy314_WD gy314_IM
    refine lv_iload_n hx hb dX10_fewest_51 rfl (lv_at hl312 0 rfl) ?_
    exact x_iret C hQ dX10_fewest_52 hSH310 (by decide) (by decide) (⟨x313, rfl, gy314_CG, gy314_TU, gy314_WD, gy314_IM, hTH310⟩)
  have J70 : ∀ (ls316 : Array Slot) (H315 : Heap) (locsH315 : List Loc) (x318 : Int32), lv_has ls316 4 [] → TY K G H315 → va_S (AE G [112, 114, 143, 144, 145, 141, 140, 139] s.heap.size) s.heap H315 locsH315 → ((-1) ≤ x318.toInt ∧ x318.toInt ≤ 7) → (CG (avw K H315 a0)) → (TU (avw K H315 a0) (svw K H315 a0)) → (WD (avw K H315 a0)) → (IM (avw K H315 a0)) → W p l e ({ frames := 6, cells := 0, slots := 0, locals := 145 } : Room) s m (([.ref a0, .int x1, .int x2] : List Value).toArray) below meth c H315 locsH315 0 0 Q (F0 m 70 ls316 [.int x318]) := by
    intro ls316 H315 locsH315 x318 hl317 hTH315 hSH315 bx318 gy319_CG gy319_TU gy319_WD gy319_IM
    exact x_iret C hQ dX10_fewest_70 hSH315 (by decide) (by decide) (⟨x318, rfl, gy319_CG, gy319_TU, gy319_WD, gy319_IM, hTH315⟩)
  refine lv_aload_n hx hb dX10_fewest_0 rfl (lv_at hl 0 rfl) ?_
  refine lv_iconst (v := 0) hx hb dX10_fewest_1 (by decide) ?_
  refine x_put C hT hS (ci := 10) (k := 0) (v := .int 0) (ty0 := tyX10) rfl inX10 tyX10_ok nmX10 (by decide) rfl wF_X10_167 ga0 rg_112 rfl rfl (okI (by have := i_rng (0 : Int32); omega) (by have := i_rng (0 : Int32); omega)) rfl rfl (AE_in ga0 (by decide)) dX10_fewest_2 (fun H320 locsH320 hTH320 hSH320 wH320 => ?_)
  have g321 : CG (avw K H320 a0) := CG.congr (fun k hk j => av_fld hT ga0 hap wH320 (by decide) (CG_ok 112 (by decide) k hk) (CG_ne 0 (by decide) k hk)) hg_CG
  have g322 : TU (avw K H320 a0) (svw K H320 a0) := TU.congr (fun k hk j => av_fld hT ga0 hap wH320 (by decide) (TU_ok 112 (by decide) k hk) (TU_ne 0 (by decide) k hk)) (fun k hk => sv_fld hap wH320 (by decide) (TU_slt k hk) (TU_sne 0 (by decide) k hk)) hg_TU
  have g323 : WD (avw K H320 a0) := WD.congr (fun k hk j => av_fld hT ga0 hap wH320 (by decide) (WD_ok 112 (by decide) k hk) (WD_ne 0 (by decide) k hk)) hg_WD
  have g324 : IM (avw K H320 a0) := IM.congr (fun k hk j => av_fld hT ga0 hap wH320 (by decide) (IM_ok 112 (by decide) k hk) (IM_ne 0 (by decide) k hk)) hg_IM
  have m325 := Wr.I wH320
  refine lv_aload_n hx hb dX10_fewest_5 rfl (lv_at hl 0 rfl) ?_
  refine lv_iload_n hx hb dX10_fewest_6 rfl (lv_at hl 1 rfl) ?_
  obtain ⟨x326, ex326⟩ : ∃ z : Int32, z = fI H320 a0 (K.1.2 10 1) := ⟨_, rfl⟩
  have bx326 := ty_fi (x := x326) (k := 1) ex326 hTH320 ga0 rg_112 rfl
  refine x_V (As := [.int x1]) (rest := []) C (a_X10_isBar l K G H320 (x1) (x326) hTH320 ga0 ex326) yo_X10_isBar wM_X10_173 ⟨⟨by decide, by decide⟩, by decide, by decide⟩ (x_rv C hTH320 (ci := 10) rfl ga0 rg_112) rfl hl.1 rfl (Nat.le_of_ble_eq_true rfl) dX10_fewest_7 hSH320 (AE_sub (fun _ _ => rfl) (by decide) hSH320.1) (fun vH327 H327 locsH327 pH327 zH327 kH327 hSH327 => ?_)
  obtain ⟨x328, hvH327, bx328, hrH327, hTH327⟩ := pH327
  subst hvH327
  have g329 : CG (avw K H327 a0) := CG.congr (fun k hk j => av_eff hTH320 kH327 ga0 (by decide) (CG_eff [] (by decide) k hk)) g321
  have g330 : TU (avw K H327 a0) (svw K H327 a0) := TU.congr (fun k hk j => av_eff hTH320 kH327 ga0 (by decide) (TU_eff [] (by decide) k hk)) (fun k hk => sv_eff hTH320 kH327 ga0 (by decide)) g322
  have g331 : WD (avw K H327 a0) := WD.congr (fun k hk j => av_eff hTH320 kH327 ga0 (by decide) (WD_eff [] (by decide) k hk)) g323
  have g332 : IM (avw K H327 a0) := IM.congr (fun k hk j => av_eff hTH320 kH327 ga0 (by decide) (IM_eff [] (by decide) k hk)) g324
  have m333 := (fI_kept (x_lt hTH320 kH327 ga0 (by decide))).trans m325
  have m334 := (ex326).trans (fI_kept (x_lt hTH320 kH327 ga0 (by decide))).symm
  refine W.eq (g2 := F0 m 10 ls [.int x328]) rfl ?_
  refine lv_if_eq (tgt := 34) hx hb dX10_fewest_10 (by decide) (fun c335 => ?_) (fun c335 => ?_)
  · have k336 := i_eq c335
    exact J34 ls H327 locsH327 (lv_sub hl [] rfl) hTH327 hSH327 g329 g330 g331 g332
  · have k336 := i_ne c335
    refine lv_aload_n hx hb dX10_fewest_13 rfl (lv_at hl 0 rfl) ?_
    refine x_gr C hTH327 (ci := 10) (k := 4) rfl inX10 (by decide) wF_X10_13 ga0 rg_112 rfl dX10_fewest_14 (fun q337 eq337 gq337 => ?_)
    refine lv_iload_n hx hb dX10_fewest_17 rfl (lv_at hl 1 rfl) ?_
    refine x_ai C hTH327 gq337 rg_113 ⟨by omega, by show _ < ((10 : Nat) : Int); omega⟩ dX10_fewest_18 (fun x338 ex338 bx338 => ?_)
    have ux338 := sl_at g330 eq337 m334 ex338 (by omega)
    refine lv_bipush (v := 8) hx hb dX10_fewest_19 (by decide) ?_
    refine lv_icmp_gt (tgt := 34) hx hb dX10_fewest_21 (by decide) (fun c339 => ?_) (fun c339 => ?_)
    · have k340 := i_lt c339
      exact J34 ls H327 locsH327 (lv_sub hl [] rfl) hTH327 hSH327 g329 g330 g331 g332
    · have k340 := i_nlt c339
      refine lv_aload_n hx hb dX10_fewest_24 rfl (lv_at hl 0 rfl) ?_
      refine lv_iload_n hx hb dX10_fewest_25 rfl (lv_at hl 2 rfl) ?_
      refine lv_iconst (v := 0) hx hb dX10_fewest_26 (by decide) ?_
      refine lv_iconst (v := 5) hx hb dX10_fewest_27 (by decide) ?_
      refine x_V (As := [.int x2, .int 0, .int 5]) (rest := []) C (c_X10_isIn l K G H327 (x2) (0) (5) hTH327 ga0) yo_X10_isIn wM_X10_177 ⟨⟨by decide, by decide⟩, by decide, by decide⟩ (x_rv C hTH327 (ci := 10) rfl ga0 rg_112) rfl hl.1 rfl (Nat.le_of_ble_eq_true rfl) dX10_fewest_28 hSH327 (AE_sub (fun _ _ => rfl) (by decide) hSH327.1) (fun vH341 H341 locsH341 pH341 zH341 kH341 hSH341 => ?_)
      have hqH341 := pH341.1.symm
      subst hqH341
      rcases pH341.2 with ⟨hvH341, hcH341⟩ | ⟨hvH341, hcH341⟩
      · subst hvH341
        refine W.eq (g2 := F0 m 31 ls [.int 1]) rfl ?_
        refine lv_if_ne (tgt := 36) hx hb dX10_fewest_31 (by decide) (fun c342 => ?_) (fun c342 => ?_)
        · have k343 := i_ne c342
          refine lv_aload_n hx hb dX10_fewest_36 rfl (lv_at hl 0 rfl) ?_
          refine lv_iload_n hx hb dX10_fewest_37 rfl (lv_at hl 1 rfl) ?_
          obtain ⟨q344, eq344⟩ : ∃ z : Nat, z = fR H327 a0 (K.1.2 10 45) := ⟨_, rfl⟩
          have gq344 := ty_fr (q := q344) (k := 45) (u := 141) eq344 hTH327 ga0 rg_112 rfl
          refine x_V (As := [.int x1]) (rest := []) C (a_X10_findsFewest l K G H327 (x1) (x338) hTH327 ga0 (by omega) gq337 eq337 gq344 eq344 ex338 g329 (by omega) (by omega)) yo_X10_findsFewest wM_X10_371 ⟨⟨by decide, by decide⟩, by decide, by decide⟩ (x_rv C hTH327 (ci := 10) rfl ga0 rg_112) rfl hl.1 rfl (Nat.le_of_ble_eq_true rfl) dX10_fewest_38 hSH341 (AE_sub (fun _ _ => rfl) (by decide) hSH341.1) (fun vH345 H345 locsH345 pH345 zH345 kH345 hSH345 => ?_)
          obtain ⟨x346, hvH345, bx346, hTH345⟩ := pH345
          subst hvH345
          have g347 : CG (avw K H345 a0) := CG.congr (fun k hk j => av_eff hTH327 kH345 ga0 (by decide) (CG_eff [114, 143, 144, 145, 141, 140, 139] (by decide) k hk)) g329
          have g348 : TU (avw K H345 a0) (svw K H345 a0) := TU.congr (fun k hk j => av_eff hTH327 kH345 ga0 (by decide) (TU_eff [114, 143, 144, 145, 141, 140, 139] (by decide) k hk)) (fun k hk => sv_eff hTH327 kH345 ga0 (by decide)) g330
          have g349 : WD (avw K H345 a0) := WD.congr (fun k hk j => av_eff hTH327 kH345 ga0 (by decide) (WD_eff [114, 143, 144, 145, 141, 140, 139] (by decide) k hk)) g331
          have g350 : IM (avw K H345 a0) := IM.congr (fun k hk j => av_eff hTH327 kH345 ga0 (by decide) (IM_eff [114, 143, 144, 145, 141, 140, 139] (by decide) k hk)) g332
          have m351 := (fI_kept (x_lt hTH327 kH345 ga0 (by decide))).trans m333
          have m352 := (m334).trans (fI_kept (x_lt hTH327 kH345 ga0 (by decide))).symm
          have m353 := (eq337).trans (fR_kept (x_lt hTH327 kH345 ga0 (by decide))).symm
          have m354 := (ex338).trans (fI_kept (x_lt hTH327 kH345 gq337 (by decide))).symm
          have m355 := (eq344).trans (fR_kept (x_lt hTH327 kH345 ga0 (by decide))).symm
          refine W.eq (g2 := F0 m 41 ls [.int x346]) rfl ?_
          refine lv_istore_n (lv' := [(3, .int x346), (0, .ref a0), (1, .int x1), (2, .int x2)]) hx hb dX10_fewest_41 rfl hl (by decide) rfl (fun ls356 hl357 => ?_)
          refine lv_iload_n hx hb dX10_fewest_42 rfl (lv_at hl357 3 rfl) ?_
          refine lv_if_eq (tgt := 51) hx hb dX10_fewest_43 (by decide) (fun c358 => ?_) (fun c358 => ?_)
          · have k359 := i_eq c358
            exact J51 ls356 H345 locsH345 (x346) (lv_sub hl357 [0] rfl) hTH345 hSH345 (by have := i_rng x346; omega) g347 g348 g349 g350
          · have k359 := i_ne c358
            refine lv_iload_n hx hb dX10_fewest_46 rfl (lv_at hl357 0 rfl) ?_
            refine lv_iconst (v := (-1)) hx hb dX10_fewest_47 (by decide) ?_
            refine lv_icmp_ne (tgt := 53) hx hb dX10_fewest_48 (by decide) (fun c360 => ?_) (fun c360 => ?_)
            · have k361 := i_ne c360
              refine lv_iload_n hx hb dX10_fewest_53 rfl (lv_at hl357 3 rfl) ?_
              refine lv_iload_n hx hb dX10_fewest_54 rfl (lv_at hl357 0 rfl) ?_
              refine lv_icmp_gt (tgt := 69) hx hb dX10_fewest_55 (by decide) (fun c362 => ?_) (fun c362 => ?_)
              · have k363 := i_lt c362
                refine lv_iconst (v := (-1)) hx hb dX10_fewest_69 (by decide) ?_
                exact J70 ls356 H345 locsH345 ((-1)) (lv_sub hl357 [] rfl) hTH345 hSH345 (by decide) g347 g348 g349 g350
              · have k363 := i_nlt c362
                refine lv_aload_n hx hb dX10_fewest_58 rfl (lv_at hl357 1 rfl) ?_
                refine x_gr C hTH345 (ci := 10) (k := 45) rfl inX10 (by decide) wF_X10_101 ga0 rg_112 rfl dX10_fewest_59 (fun q364 eq364 gq364 => ?_)
                have uq364 : q344 = q364 := (m355).trans eq364.symm
                subst uq364
                refine lv_iload_n hx hb dX10_fewest_62 rfl (lv_at hl357 3 rfl) ?_
                refine lv_iconst (v := 1) hx hb dX10_fewest_63 (by decide) ?_
                refine lv_isub hx hb dX10_fewest_64 ?_
                refine lv_topi (fun x365 ex365 => ?_)
                have tx365 := i_sub ex365 (by omega)
                refine x_ai C hTH345 gq344 rg_141 ⟨by omega, by show _ < ((5 : Nat) : Int); omega⟩ dX10_fewest_65 (fun x366 ex366 bx366 => ?_)
                refine lv_goto (tgt := 70) hx hb dX10_fewest_66 (by decide) ?_
                exact J70 ls356 H345 locsH345 (x366) (lv_sub hl357 [] rfl) hTH345 hSH345 (by have := i_rng x366; omega) g347 g348 g349 g350
            · have k361 := i_eq c360
              exact J51 ls356 H345 locsH345 (x346) (lv_sub hl357 [0] rfl) hTH345 hSH345 (by have := i_rng x346; omega) g347 g348 g349 g350
        · have k343 := i_eq c342
          exfalso
          omega
      · subst hvH341
        refine W.eq (g2 := F0 m 31 ls [.int 0]) rfl ?_
        refine lv_if_ne (tgt := 36) hx hb dX10_fewest_31 (by decide) (fun c367 => ?_) (fun c367 => ?_)
        · have k368 := i_ne c367
          exfalso
          omega
        · have k368 := i_eq c367
          exact J34 ls H327 locsH341 (lv_sub hl [] rfl) hTH327 hSH341 g329 g330 g331 g332

set_option maxHeartbeats 4000000 in
set_option maxRecDepth 100000 in
theorem a_X10_tap (l : Launch) (K : KE) (G : Nat → Option Nat) (H : Heap) {a0 : Nat} (x1 : Int32) (x2 : Int32) (x3 : Int32) {tpq : Nat} (hT : TY K G H) (ga0 : G a0 = some 112) (gtpq : G tpq = some 146) (etpq : tpq = fR H a0 (K.1.2 10 50)) (hg_CG : CG (avw K H a0)) (hg_TU : TU (avw K H a0) (svw K H a0)) (hg_WD : WD (avw K H a0)) (hg_IM : IM (avw K H a0)) : MX l K yX10_tap cX10_tap 6 (some .int) 2 44 0 0 [.ref a0, .int x1, .int x2, .int x3] H (AE G [112, 147, 148, 149, 150, 146] H.size) (fun v H1 => ∃ (r : Int32), v = some (.int r) ∧ tpq = fR H1 a0 (K.1.2 10 50) ∧ (CG (avw K H1 a0)) ∧ (TU (avw K H1 a0) (svw K H1 a0)) ∧ (WD (avw K H1 a0)) ∧ (IM (avw K H1 a0)) ∧ TY K G H1) := by
  refine MX.of (by decide +kernel) (Nat.le_of_ble_eq_true rfl) ?_
  intro p e s m below meth c ls Q C hH hl hQ
  subst hH
  have C : CX p K s m _ meth c RX10 cX10_tap 6 (some .int) "tap" := C
  obtain ⟨hx, hb, hml, hown, hts, hKT, hr, hlocks, hnm⟩ := id C
  have hl : lv_has ls 6 [(0, .ref a0), (1, .int x1), (2, .int x2), (3, .int x3)] := hl
  have hS : va_S (AE G [112, 147, 148, 149, 150, 146] s.heap.size) s.heap s.heap [] := va_S.rf
  have n_m1 : ((-1) : Int32).toInt = -1 := rfl
  have n_0 : (0 : Int32).toInt = 0 := rfl
  have n_1 : (1 : Int32).toInt = 1 := rfl
  have n_12 : (12 : Int32).toInt = 12 := rfl
  have n_16 : (16 : Int32).toInt = 16 := rfl
  have n_9999999 : (9999999 : Int32).toInt = 9999999 := rfl
  have hap : ∀ x y, x < 74 → y < 74 → x ≠ y → K.1.2 10 x ≠ K.1.2 10 y := x_apart hKT hts inX10 tyX10 tyX10_ok nmX10 rfl
  have f0_tps : ∀ j : Nat, fI s.heap tpq j = fI s.heap tpq j := fun _ => rfl
  have J44 : ∀ (ls1241 : Array Slot) (H1240 : Heap) (locsH1240 : List Loc) , lv_has ls1241 6 [] → TY K G H1240 → va_S (AE G [112, 147, 148, 149, 150, 146] s.heap.size) s.heap H1240 locsH1240 → (tpq = fR H1240 a0 (K.1.2 10 50)) → (CG (avw K H1240 a0)) → (TU (avw K H1240 a0) (svw K H1240 a0)) → (WD (avw K H1240 a0)) → (IM (avw K H1240 a0)) → (∀ j : Nat, fI H1240 tpq j = fI s.heap tpq j) → W p l e ({ frames := 2, cells := 0, slots := 0, locals := 44 } : Room) s m (([.ref a0, .int x1, .int x2, .int x3] : List Value).toArray) below meth c H1240 locsH1240 0 0 Q (F0 m 44 ls1241 []) := by
    intro ls1241 H1240 locsH1240  hl1242 hTH1240 hSH1240 cy1243_0 gy1243_CG gy1243_TU gy1243_WD gy1243_IM fy1243_tps
    refine lv_iconst (v := (-1)) hx hb dX10_tap_44 (by decide) ?_
    exact x_iret C hQ dX10_tap_45 hSH1240 (by decide) (by decide) (⟨(-1), rfl, cy1243_0, gy1243_CG, gy1243_TU, gy1243_WD, gy1243_IM, hTH1240⟩)
  have J78 : ∀ (nf : Nat) (ls1245 : Array Slot) (H1244 : Heap) (locsH1244 : List Loc) (x1248 : Int32) (x1249 : Int32), lv_has ls1245 6 [(0, .ref a0), (1, .int x1), (4, .int x1248), (5, .int x1249)] → TY K G H1244 → va_S (AE G [112, 147, 148, 149, 150, 146] s.heap.size) s.heap H1244 locsH1244 → (0 ≤ x1.toInt ∧ x1.toInt ≤ 9) → (0 ≤ x1248.toInt ∧ x1248.toInt ≤ 119) → (0 ≤ x1249.toInt ∧ x1249.toInt ≤ 16) → (tpq = fR H1244 a0 (K.1.2 10 50)) → (CG (avw K H1244 a0)) → (TU (avw K H1244 a0) (svw K H1244 a0)) → (WD (avw K H1244 a0)) → (IM (avw K H1244 a0)) → (∀ j : Nat, fI H1244 tpq j = fI s.heap tpq j) → (16 - x1249.toInt < (nf : Int)) → ((fI s.heap tpq x1.toNatClampNeg).toInt ≤ 11) → W p l e ({ frames := 2, cells := 0, slots := 0, locals := 44 } : Room) s m (([.ref a0, .int x1, .int x2, .int x3] : List Value).toArray) below meth c H1244 locsH1244 0 0 Q (F0 m 78 ls1245 []) := by
    intro nf
    induction nf with
    | zero =>
      intro ls1245 H1244 locsH1244 x1248 x1249 hl1246 hTH1244 hSH1244 b1247 bx1248 bx1249 cy1250_0 gy1250_CG gy1250_TU gy1250_WD gy1250_IM fy1250_tps hm78 iv78
      exfalso
      omega
    | succ nf ih78 =>
      intro ls1245 H1244 locsH1244 x1248 x1249 hl1246 hTH1244 hSH1244 b1247 bx1248 bx1249 cy1250_0 gy1250_CG gy1250_TU gy1250_WD gy1250_IM fy1250_tps hm78 iv78
      refine lv_iload hx hb dX10_tap_78 (lv_at hl1246 3 rfl) ?_
      refine lv_bipush (v := 16) hx hb dX10_tap_80 (by decide) ?_
      refine lv_icmp_ge (tgt := 141) hx hb dX10_tap_82 (by decide) (fun c1251 => ?_) (fun c1251 => ?_)
      · have k1252 := i_le c1251
        refine lv_aload_n hx hb dX10_tap_141 rfl (lv_at hl1246 0 rfl) ?_
        refine x_gr C hTH1244 (ci := 10) (k := 50) rfl inX10 (by decide) wF_X10_116 ga0 rg_112 rfl dX10_tap_142 (fun q1253 eq1253 gq1253 => ?_)
        have uq1253 : tpq = q1253 := (cy1250_0).trans eq1253.symm
        subst uq1253
        refine lv_iload_n hx hb dX10_tap_145 rfl (lv_at hl1246 1 rfl) ?_
        refine lv_aload_n hx hb dX10_tap_146 rfl (lv_at hl1246 0 rfl) ?_
        refine x_gr C hTH1244 (ci := 10) (k := 50) rfl inX10 (by decide) wF_X10_116 ga0 rg_112 rfl dX10_tap_147 (fun q1254 eq1254 gq1254 => ?_)
        have uq1254 : tpq = q1254 := (cy1250_0).trans eq1254.symm
        subst uq1254
        refine lv_iload_n hx hb dX10_tap_150 rfl (lv_at hl1246 1 rfl) ?_
        refine x_ai C hTH1244 gtpq rg_146 ⟨by omega, by show _ < ((10 : Nat) : Int); omega⟩ dX10_tap_151 (fun x1255 ex1255 bx1255 => ?_)
        have q0x1255 := congrArg Int32.toInt (ex1255.trans (fy1250_tps _))
        refine lv_iconst (v := 1) hx hb dX10_tap_152 (by decide) ?_
        refine lv_iadd hx hb dX10_tap_153 ?_
        refine lv_topi (fun x1256 ex1256 => ?_)
        have tx1256 := i_add ex1256 (by omega)
        refine x_iast C hTH1244 hSH1244 gtpq rg_146 (by omega) (by show _ < ((10 : Nat) : Int); omega) ⟨by have := i_rng x1256; omega, by have := i_rng x1256; omega⟩ (AE_in gtpq (by decide)) dX10_tap_154 (fun H1257 locsH1257 hTH1257 hSH1257 wH1257 => ?_)
        have g1258 : CG (avw K H1257 a0) := CG.congr (fun k hk j => av_arr hTH1244 ga0 wH1257 gtpq (by decide) (CG_ok 146 (by decide) k hk)) gy1250_CG
        have g1259 : TU (avw K H1257 a0) (svw K H1257 a0) := TU.congr (fun k hk j => av_arr hTH1244 ga0 wH1257 gtpq (by decide) (TU_ok 146 (by decide) k hk)) (fun k hk => sv_arr ga0 wH1257 gtpq (by decide)) gy1250_TU
        have g1260 : WD (avw K H1257 a0) := WD.congr (fun k hk j => av_arr hTH1244 ga0 wH1257 gtpq (by decide) (WD_ok 146 (by decide) k hk)) gy1250_WD
        have g1261 : IM (avw K H1257 a0) := IM.congr (fun k hk j => av_arr hTH1244 ga0 wH1257 gtpq (by decide) (IM_ok 146 (by decide) k hk)) gy1250_IM
        have m1262 := cy1250_0.trans (Wr.neR wH1257 (Or.inl (G_ne ga0 gtpq (by decide)))).symm
        have m1264 := Wr.I wH1257
        have m1264 := m1264.symm
        refine lv_aload_n hx hb dX10_tap_155 rfl (lv_at hl1246 0 rfl) ?_
        refine x_gr C hTH1257 (ci := 10) (k := 50) rfl inX10 (by decide) wF_X10_116 ga0 rg_112 rfl dX10_tap_156 (fun q1265 eq1265 gq1265 => ?_)
        have uq1265 : tpq = q1265 := (m1262).trans eq1265.symm
        subst uq1265
        refine lv_iload_n hx hb dX10_tap_159 rfl (lv_at hl1246 1 rfl) ?_
        refine x_ai C hTH1257 gtpq rg_146 ⟨by omega, by show _ < ((10 : Nat) : Int); omega⟩ dX10_tap_160 (fun x1266 ex1266 bx1266 => ?_)
        have ux1266 : x1256 = x1266 := (m1264).trans ex1266.symm
        subst ux1266
        exact x_iret C hQ dX10_tap_161 hSH1257 (by decide) (by decide) (⟨x1256, rfl, m1262, g1258, g1259, g1260, g1261, hTH1257⟩)
      · have k1252 := i_nle c1251
        refine lv_aload_n hx hb dX10_tap_85 rfl (lv_at hl1246 0 rfl) ?_
        refine x_gr C hTH1244 (ci := 10) (k := 53) rfl inX10 (by decide) wF_X10_125 ga0 rg_112 rfl dX10_tap_86 (fun q1267 eq1267 gq1267 => ?_)
        refine lv_bipush (v := 16) hx hb dX10_tap_89 (by decide) ?_
        refine lv_iload hx hb dX10_tap_91 (lv_at hl1246 2 rfl) ?_
        refine lv_imul hx hb dX10_tap_93 ?_
        refine lv_topi (fun x1268 ex1268 => ?_)
        have tx1268 := i_mul ex1268 (by rw [n_16]; omega)
        rw [n_16] at tx1268
        refine lv_iload hx hb dX10_tap_94 (lv_at hl1246 3 rfl) ?_
        refine lv_iadd hx hb dX10_tap_96 ?_
        refine lv_topi (fun x1269 ex1269 => ?_)
        have tx1269 := i_add ex1269 (by omega)
        refine lv_aload_n hx hb dX10_tap_97 rfl (lv_at hl1246 0 rfl) ?_
        refine x_gr C hTH1244 (ci := 10) (k := 5) rfl inX10 (by decide) wF_X10_17 ga0 rg_112 rfl dX10_tap_98 (fun q1270 eq1270 gq1270 => ?_)
        refine lv_bipush (v := 16) hx hb dX10_tap_101 (by decide) ?_
        refine lv_iload_n hx hb dX10_tap_103 rfl (lv_at hl1246 1 rfl) ?_
        refine lv_imul hx hb dX10_tap_104 ?_
        refine lv_topi (fun x1271 ex1271 => ?_)
        have tx1271 := i_mul ex1271 (by rw [n_16]; omega)
        rw [n_16] at tx1271
        refine lv_iload hx hb dX10_tap_105 (lv_at hl1246 3 rfl) ?_
        refine lv_iadd hx hb dX10_tap_107 ?_
        refine lv_topi (fun x1272 ex1272 => ?_)
        have tx1272 := i_add ex1272 (by omega)
        refine x_ai C hTH1244 gq1270 rg_114 ⟨by omega, by show _ < ((160 : Nat) : Int); omega⟩ dX10_tap_108 (fun x1273 ex1273 bx1273 => ?_)
        refine x_iast C hTH1244 hSH1244 gq1267 rg_149 (by omega) (by show _ < ((1920 : Nat) : Int); omega) ⟨by have := i_rng x1273; omega, by have := i_rng x1273; omega⟩ (AE_in gq1267 (by decide)) dX10_tap_109 (fun H1274 locsH1274 hTH1274 hSH1274 wH1274 => ?_)
        have g1275 : CG (avw K H1274 a0) := CG.congr (fun k hk j => av_arr hTH1244 ga0 wH1274 gq1267 (by decide) (CG_ok 149 (by decide) k hk)) gy1250_CG
        have g1276 : TU (avw K H1274 a0) (svw K H1274 a0) := TU.congr (fun k hk j => av_arr hTH1244 ga0 wH1274 gq1267 (by decide) (TU_ok 149 (by decide) k hk)) (fun k hk => sv_arr ga0 wH1274 gq1267 (by decide)) gy1250_TU
        have g1277 : WD (avw K H1274 a0) := WD.congr (fun k hk j => av_arr hTH1244 ga0 wH1274 gq1267 (by decide) (WD_ok 149 (by decide) k hk)) gy1250_WD
        have g1278 : IM (avw K H1274 a0) := IM.congr (fun k hk j => av_arr hTH1244 ga0 wH1274 gq1267 (by decide) (IM_ok 149 (by decide) k hk)) gy1250_IM
        have f1279 : ∀ j : Nat, fI H1274 tpq j = fI s.heap tpq j := fun j => (Wr.neI wH1274 (Or.inl (G_ne gtpq gq1267 (by decide)))).trans (fy1250_tps j)
        have m1280 := cy1250_0.trans (Wr.neR wH1274 (Or.inl (G_ne ga0 gq1267 (by decide)))).symm
        have m1281 := eq1267.trans (Wr.neR wH1274 (Or.inl (G_ne ga0 gq1267 (by decide)))).symm
        have m1282 := eq1270.trans (Wr.neR wH1274 (Or.inl (G_ne ga0 gq1267 (by decide)))).symm
        have m1283 := ex1273.trans (Wr.neI wH1274 (Or.inl (G_ne gq1270 gq1267 (by decide)))).symm
        have m1284 := Wr.I wH1274
        have m1284 := m1284.symm
        refine lv_aload_n hx hb dX10_tap_110 rfl (lv_at hl1246 0 rfl) ?_
        refine x_gr C hTH1274 (ci := 10) (k := 54) rfl inX10 (by decide) wF_X10_128 ga0 rg_112 rfl dX10_tap_111 (fun q1285 eq1285 gq1285 => ?_)
        refine lv_bipush (v := 16) hx hb dX10_tap_114 (by decide) ?_
        refine lv_iload hx hb dX10_tap_116 (lv_at hl1246 2 rfl) ?_
        refine lv_imul hx hb dX10_tap_118 ?_
        refine lv_topi (fun x1286 ex1286 => ?_)
        have tx1286 := i_mul ex1286 (by rw [n_16]; omega)
        rw [n_16] at tx1286
        refine lv_iload hx hb dX10_tap_119 (lv_at hl1246 3 rfl) ?_
        refine lv_iadd hx hb dX10_tap_121 ?_
        refine lv_topi (fun x1287 ex1287 => ?_)
        have tx1287 := i_add ex1287 (by omega)
        refine lv_aload_n hx hb dX10_tap_122 rfl (lv_at hl1246 0 rfl) ?_
        refine x_gr C hTH1274 (ci := 10) (k := 8) rfl inX10 (by decide) wF_X10_26 ga0 rg_112 rfl dX10_tap_123 (fun q1288 eq1288 gq1288 => ?_)
        refine lv_bipush (v := 16) hx hb dX10_tap_126 (by decide) ?_
        refine lv_iload_n hx hb dX10_tap_128 rfl (lv_at hl1246 1 rfl) ?_
        refine lv_imul hx hb dX10_tap_129 ?_
        refine lv_topi (fun x1289 ex1289 => ?_)
        have tx1289 := i_mul ex1289 (by rw [n_16]; omega)
        rw [n_16] at tx1289
        refine lv_iload hx hb dX10_tap_130 (lv_at hl1246 3 rfl) ?_
        refine lv_iadd hx hb dX10_tap_132 ?_
        refine lv_topi (fun x1290 ex1290 => ?_)
        have tx1290 := i_add ex1290 (by omega)
        refine x_ai C hTH1274 gq1288 rg_117 ⟨by omega, by show _ < ((160 : Nat) : Int); omega⟩ dX10_tap_133 (fun x1291 ex1291 bx1291 => ?_)
        refine x_iast C hTH1274 hSH1274 gq1285 rg_150 (by omega) (by show _ < ((1920 : Nat) : Int); omega) ⟨by have := i_rng x1291; omega, by have := i_rng x1291; omega⟩ (AE_in gq1285 (by decide)) dX10_tap_134 (fun H1292 locsH1292 hTH1292 hSH1292 wH1292 => ?_)
        have g1293 : CG (avw K H1292 a0) := CG.congr (fun k hk j => av_arr hTH1274 ga0 wH1292 gq1285 (by decide) (CG_ok 150 (by decide) k hk)) g1275
        have g1294 : TU (avw K H1292 a0) (svw K H1292 a0) := TU.congr (fun k hk j => av_arr hTH1274 ga0 wH1292 gq1285 (by decide) (TU_ok 150 (by decide) k hk)) (fun k hk => sv_arr ga0 wH1292 gq1285 (by decide)) g1276
        have g1295 : WD (avw K H1292 a0) := WD.congr (fun k hk j => av_arr hTH1274 ga0 wH1292 gq1285 (by decide) (WD_ok 150 (by decide) k hk)) g1277
        have g1296 : IM (avw K H1292 a0) := IM.congr (fun k hk j => av_arr hTH1274 ga0 wH1292 gq1285 (by decide) (IM_ok 150 (by decide) k hk)) g1278
        have f1297 : ∀ j : Nat, fI H1292 tpq j = fI s.heap tpq j := fun j => (Wr.neI wH1292 (Or.inl (G_ne gtpq gq1285 (by decide)))).trans (f1279 j)
        have m1298 := m1280.trans (Wr.neR wH1292 (Or.inl (G_ne ga0 gq1285 (by decide)))).symm
        have m1299 := m1281.trans (Wr.neR wH1292 (Or.inl (G_ne ga0 gq1285 (by decide)))).symm
        have m1300 := m1282.trans (Wr.neR wH1292 (Or.inl (G_ne ga0 gq1285 (by decide)))).symm
        have m1301 := m1283.trans (Wr.neI wH1292 (Or.inl (G_ne gq1270 gq1285 (by decide)))).symm
        have m1302 := m1284.trans (Wr.neI wH1292 (Or.inl (G_ne gq1267 gq1285 (by decide)))).symm
        have m1303 := eq1285.trans (Wr.neR wH1292 (Or.inl (G_ne ga0 gq1285 (by decide)))).symm
        have m1304 := eq1288.trans (Wr.neR wH1292 (Or.inl (G_ne ga0 gq1285 (by decide)))).symm
        have m1305 := ex1291.trans (Wr.neI wH1292 (Or.inl (G_ne gq1288 gq1285 (by decide)))).symm
        have m1306 := Wr.I wH1292
        have m1306 := m1306.symm
        obtain ⟨x1307, ex1307⟩ : ∃ y : Int32, y = x1249 + 1 := ⟨_, rfl⟩
        have tx1307 := i_add ex1307 (by omega)
        refine lv_iinc (v := x1307) (lv' := [(5, .int x1307), (0, .ref a0), (1, .int x1), (4, .int x1248)]) hx hb dX10_tap_135 hl1246 (k := 3) rfl (by rw [ex1307]; rfl) (by decide) rfl (fun ls1308 hl1309 => ?_)
        refine lv_goto (tgt := 78) hx hb dX10_tap_138 (by decide) ?_
        exact ih78 ls1308 H1292 locsH1292 (x1248) (x1307) (lv_sub hl1309 [1, 2, 3, 0] rfl) hTH1292 hSH1292 (by have := i_rng x1; omega) (by have := i_rng x1248; omega) (by have := i_rng x1307; omega) m1298 g1293 g1294 g1295 g1296 f1297 (by omega) (by omega)
  refine lv_aload_n hx hb dX10_tap_0 rfl (lv_at hl 0 rfl) ?_
  refine lv_iconst (v := 0) hx hb dX10_tap_1 (by decide) ?_
  refine x_put C hT hS (ci := 10) (k := 0) (v := .int 0) (ty0 := tyX10) rfl inX10 tyX10_ok nmX10 (by decide) rfl wF_X10_167 ga0 rg_112 rfl rfl (okI (by have := i_rng (0 : Int32); omega) (by have := i_rng (0 : Int32); omega)) rfl rfl (AE_in ga0 (by decide)) dX10_tap_2 (fun H1310 locsH1310 hTH1310 hSH1310 wH1310 => ?_)
  have g1311 : CG (avw K H1310 a0) := CG.congr (fun k hk j => av_fld hT ga0 hap wH1310 (by decide) (CG_ok 112 (by decide) k hk) (CG_ne 0 (by decide) k hk)) hg_CG
  have g1312 : TU (avw K H1310 a0) (svw K H1310 a0) := TU.congr (fun k hk j => av_fld hT ga0 hap wH1310 (by decide) (TU_ok 112 (by decide) k hk) (TU_ne 0 (by decide) k hk)) (fun k hk => sv_fld hap wH1310 (by decide) (TU_slt k hk) (TU_sne 0 (by decide) k hk)) hg_TU
  have g1313 : WD (avw K H1310 a0) := WD.congr (fun k hk j => av_fld hT ga0 hap wH1310 (by decide) (WD_ok 112 (by decide) k hk) (WD_ne 0 (by decide) k hk)) hg_WD
  have g1314 : IM (avw K H1310 a0) := IM.congr (fun k hk j => av_fld hT ga0 hap wH1310 (by decide) (IM_ok 112 (by decide) k hk) (IM_ne 0 (by decide) k hk)) hg_IM
  have f1315 : ∀ j : Nat, fI H1310 tpq j = fI s.heap tpq j := fun j => (Wr.neI wH1310 (Or.inl (G_ne gtpq ga0 (by decide)))).trans (f0_tps j)
  have m1316 := etpq.trans (Wr.neR wH1310 (Or.inr (x_apart hKT hts inX10 tyX10 tyX10_ok nmX10 rfl 50 0 (by decide) (by decide) (by decide)))).symm
  have m1317 := Wr.I wH1310
  refine lv_aload_n hx hb dX10_tap_5 rfl (lv_at hl 0 rfl) ?_
  refine lv_iload_n hx hb dX10_tap_6 rfl (lv_at hl 1 rfl) ?_
  obtain ⟨x1318, ex1318⟩ : ∃ z : Int32, z = fI H1310 a0 (K.1.2 10 1) := ⟨_, rfl⟩
  have bx1318 := ty_fi (x := x1318) (k := 1) ex1318 hTH1310 ga0 rg_112 rfl
  refine x_V (As := [.int x1]) (rest := []) C (a_X10_isBar l K G H1310 (x1) (x1318) hTH1310 ga0 ex1318) yo_X10_isBar wM_X10_173 ⟨⟨by decide, by decide⟩, by decide, by decide⟩ (x_rv C hTH1310 (ci := 10) rfl ga0 rg_112) rfl hl.1 rfl (Nat.le_of_ble_eq_true rfl) dX10_tap_7 hSH1310 (AE_sub (fun _ _ => rfl) (by decide) hSH1310.1) (fun vH1319 H1319 locsH1319 pH1319 zH1319 kH1319 hSH1319 => ?_)
  obtain ⟨x1320, hvH1319, bx1320, hrH1319, hTH1319⟩ := pH1319
  subst hvH1319
  have g1321 : CG (avw K H1319 a0) := CG.congr (fun k hk j => av_eff hTH1310 kH1319 ga0 (by decide) (CG_eff [] (by decide) k hk)) g1311
  have g1322 : TU (avw K H1319 a0) (svw K H1319 a0) := TU.congr (fun k hk j => av_eff hTH1310 kH1319 ga0 (by decide) (TU_eff [] (by decide) k hk)) (fun k hk => sv_eff hTH1310 kH1319 ga0 (by decide)) g1312
  have g1323 : WD (avw K H1319 a0) := WD.congr (fun k hk j => av_eff hTH1310 kH1319 ga0 (by decide) (WD_eff [] (by decide) k hk)) g1313
  have g1324 : IM (avw K H1319 a0) := IM.congr (fun k hk j => av_eff hTH1310 kH1319 ga0 (by decide) (IM_eff [] (by decide) k hk)) g1314
  have f1325 : ∀ j : Nat, fI H1319 tpq j = fI s.heap tpq j := fun j => (fI_kept (x_lt hTH1310 kH1319 gtpq (by decide))).trans (f1315 j)
  have m1326 := (m1316).trans (fR_kept (x_lt hTH1310 kH1319 ga0 (by decide))).symm
  have m1327 := (fI_kept (x_lt hTH1310 kH1319 ga0 (by decide))).trans m1317
  have m1328 := (ex1318).trans (fI_kept (x_lt hTH1310 kH1319 ga0 (by decide))).symm
  refine W.eq (g2 := F0 m 10 ls [.int x1320]) rfl ?_
  refine lv_if_eq (tgt := 44) hx hb dX10_tap_10 (by decide) (fun c1329 => ?_) (fun c1329 => ?_)
  · have k1330 := i_eq c1329
    exact J44 ls H1319 locsH1319 (lv_sub hl [] rfl) hTH1319 hSH1319 m1326 g1321 g1322 g1323 g1324 f1325
  · have k1330 := i_ne c1329
    refine lv_aload_n hx hb dX10_tap_13 rfl (lv_at hl 0 rfl) ?_
    refine lv_iload_n hx hb dX10_tap_14 rfl (lv_at hl 2 rfl) ?_
    refine x_V (As := [.int x2]) (rest := []) C (c_X10_isTone l K G H1319 (x2) hTH1319 ga0) yo_X10_isTone wM_X10_331 ⟨⟨by decide, by decide⟩, by decide, by decide⟩ (x_rv C hTH1319 (ci := 10) rfl ga0 rg_112) rfl hl.1 rfl (Nat.le_of_ble_eq_true rfl) dX10_tap_15 hSH1319 (AE_sub (fun _ _ => rfl) (by decide) hSH1319.1) (fun vH1331 H1331 locsH1331 pH1331 zH1331 kH1331 hSH1331 => ?_)
    have hqH1331 := pH1331.1.symm
    subst hqH1331
    rcases pH1331.2 with ⟨hvH1331, hcH1331⟩ | ⟨hvH1331, hcH1331⟩
    · subst hvH1331
      refine W.eq (g2 := F0 m 18 ls [.int 1]) rfl ?_
      refine lv_if_eq (tgt := 44) hx hb dX10_tap_18 (by decide) (fun c1332 => ?_) (fun c1332 => ?_)
      · have k1333 := i_eq c1332
        exfalso
        omega
      · have k1333 := i_ne c1332
        refine lv_aload_n hx hb dX10_tap_21 rfl (lv_at hl 0 rfl) ?_
        refine lv_iload_n hx hb dX10_tap_22 rfl (lv_at hl 3 rfl) ?_
        refine lv_iconst (v := 0) hx hb dX10_tap_23 (by decide) ?_
        refine lv_ldcw (v := 9999999) hx hb hown (hts _ wK_X10_374) dX10_tap_24 ?_
        refine x_V (As := [.int x3, .int 0, .int 9999999]) (rest := []) C (c_X10_isIn l K G H1319 (x3) (0) (9999999) hTH1319 ga0) yo_X10_isIn wM_X10_177 ⟨⟨by decide, by decide⟩, by decide, by decide⟩ (x_rv C hTH1319 (ci := 10) rfl ga0 rg_112) rfl hl.1 rfl (Nat.le_of_ble_eq_true rfl) dX10_tap_27 hSH1331 (AE_sub (fun _ _ => rfl) (by decide) hSH1331.1) (fun vH1334 H1334 locsH1334 pH1334 zH1334 kH1334 hSH1334 => ?_)
        have hqH1334 := pH1334.1.symm
        subst hqH1334
        rcases pH1334.2 with ⟨hvH1334, hcH1334⟩ | ⟨hvH1334, hcH1334⟩
        · subst hvH1334
          refine W.eq (g2 := F0 m 30 ls [.int 1]) rfl ?_
          refine lv_if_eq (tgt := 44) hx hb dX10_tap_30 (by decide) (fun c1335 => ?_) (fun c1335 => ?_)
          · have k1336 := i_eq c1335
            exfalso
            omega
          · have k1336 := i_ne c1335
            refine lv_aload_n hx hb dX10_tap_33 rfl (lv_at hl 0 rfl) ?_
            refine x_gr C hTH1319 (ci := 10) (k := 50) rfl inX10 (by decide) wF_X10_116 ga0 rg_112 rfl dX10_tap_34 (fun q1337 eq1337 gq1337 => ?_)
            have uq1337 : tpq = q1337 := (m1326).trans eq1337.symm
            subst uq1337
            refine lv_iload_n hx hb dX10_tap_37 rfl (lv_at hl 1 rfl) ?_
            refine x_ai C hTH1319 gtpq rg_146 ⟨by omega, by show _ < ((10 : Nat) : Int); omega⟩ dX10_tap_38 (fun x1338 ex1338 bx1338 => ?_)
            have q0x1338 := congrArg Int32.toInt (ex1338.trans (f1325 _))
            refine lv_bipush (v := 12) hx hb dX10_tap_39 (by decide) ?_
            refine lv_icmp_ne (tgt := 46) hx hb dX10_tap_41 (by decide) (fun c1339 => ?_) (fun c1339 => ?_)
            · have k1340 := i_ne c1339
              refine lv_bipush (v := 12) hx hb dX10_tap_46 (by decide) ?_
              refine lv_iload_n hx hb dX10_tap_48 rfl (lv_at hl 1 rfl) ?_
              refine lv_imul hx hb dX10_tap_49 ?_
              refine lv_topi (fun x1341 ex1341 => ?_)
              have tx1341 := i_mul ex1341 (by rw [n_12]; omega)
              rw [n_12] at tx1341
              refine lv_aload_n hx hb dX10_tap_50 rfl (lv_at hl 0 rfl) ?_
              refine x_gr C hTH1319 (ci := 10) (k := 50) rfl inX10 (by decide) wF_X10_116 ga0 rg_112 rfl dX10_tap_51 (fun q1342 eq1342 gq1342 => ?_)
              have uq1342 : tpq = q1342 := (m1326).trans eq1342.symm
              subst uq1342
              refine lv_iload_n hx hb dX10_tap_54 rfl (lv_at hl 1 rfl) ?_
              refine x_ai C hTH1319 gtpq rg_146 ⟨by omega, by show _ < ((10 : Nat) : Int); omega⟩ dX10_tap_55 (fun x1343 ex1343 bx1343 => ?_)
              have ux1343 : x1338 = x1343 := (ex1338).trans ex1343.symm
              subst ux1343
              refine lv_iadd hx hb dX10_tap_56 ?_
              refine lv_topi (fun x1344 ex1344 => ?_)
              have tx1344 := i_add ex1344 (by omega)
              refine lv_istore (lv' := [(4, .int x1344), (0, .ref a0), (1, .int x1), (2, .int x2), (3, .int x3)]) hx hb dX10_tap_57 hl (by decide) rfl (fun ls1345 hl1346 => ?_)
              refine lv_aload_n hx hb dX10_tap_59 rfl (lv_at hl1346 1 rfl) ?_
              refine x_gr C hTH1319 (ci := 10) (k := 51) rfl inX10 (by decide) wF_X10_119 ga0 rg_112 rfl dX10_tap_60 (fun q1347 eq1347 gq1347 => ?_)
              refine lv_iload hx hb dX10_tap_63 (lv_at hl1346 0 rfl) ?_
              refine lv_iload_n hx hb dX10_tap_65 rfl (lv_at hl1346 3 rfl) ?_
              refine x_iast C hTH1319 hSH1334 gq1347 rg_147 (by omega) (by show _ < ((120 : Nat) : Int); omega) ⟨by have := i_rng x2; omega, by have := i_rng x2; omega⟩ (AE_in gq1347 (by decide)) dX10_tap_66 (fun H1348 locsH1348 hTH1348 hSH1348 wH1348 => ?_)
              have g1349 : CG (avw K H1348 a0) := CG.congr (fun k hk j => av_arr hTH1319 ga0 wH1348 gq1347 (by decide) (CG_ok 147 (by decide) k hk)) g1321
              have g1350 : TU (avw K H1348 a0) (svw K H1348 a0) := TU.congr (fun k hk j => av_arr hTH1319 ga0 wH1348 gq1347 (by decide) (TU_ok 147 (by decide) k hk)) (fun k hk => sv_arr ga0 wH1348 gq1347 (by decide)) g1322
              have g1351 : WD (avw K H1348 a0) := WD.congr (fun k hk j => av_arr hTH1319 ga0 wH1348 gq1347 (by decide) (WD_ok 147 (by decide) k hk)) g1323
              have g1352 : IM (avw K H1348 a0) := IM.congr (fun k hk j => av_arr hTH1319 ga0 wH1348 gq1347 (by decide) (IM_ok 147 (by decide) k hk)) g1324
              have f1353 : ∀ j : Nat, fI H1348 tpq j = fI s.heap tpq j := fun j => (Wr.neI wH1348 (Or.inl (G_ne gtpq gq1347 (by decide)))).trans (f1325 j)
              have m1354 := m1326.trans (Wr.neR wH1348 (Or.inl (G_ne ga0 gq1347 (by decide)))).symm
              have m1355 := (Wr.neI wH1348 (Or.inl (G_ne ga0 gq1347 (by decide)))).trans m1327
              have m1356 := m1328.trans (Wr.neI wH1348 (Or.inl (G_ne ga0 gq1347 (by decide)))).symm
              have m1357 := ex1338.trans (Wr.neI wH1348 (Or.inl (G_ne gtpq gq1347 (by decide)))).symm
              have m1358 := eq1347.trans (Wr.neR wH1348 (Or.inl (G_ne ga0 gq1347 (by decide)))).symm
              have m1359 := Wr.I wH1348
              have m1359 := m1359.symm
              refine lv_aload_n hx hb dX10_tap_67 rfl (lv_at hl1346 1 rfl) ?_
              refine x_gr C hTH1348 (ci := 10) (k := 52) rfl inX10 (by decide) wF_X10_122 ga0 rg_112 rfl dX10_tap_68 (fun q1360 eq1360 gq1360 => ?_)
              refine lv_iload hx hb dX10_tap_71 (lv_at hl1346 0 rfl) ?_
              refine lv_iload_n hx hb dX10_tap_73 rfl (lv_at hl1346 4 rfl) ?_
              refine x_iast C hTH1348 hSH1348 gq1360 rg_148 (by omega) (by show _ < ((120 : Nat) : Int); omega) ⟨by have := i_rng x3; omega, by have := i_rng x3; omega⟩ (AE_in gq1360 (by decide)) dX10_tap_74 (fun H1361 locsH1361 hTH1361 hSH1361 wH1361 => ?_)
              have g1362 : CG (avw K H1361 a0) := CG.congr (fun k hk j => av_arr hTH1348 ga0 wH1361 gq1360 (by decide) (CG_ok 148 (by decide) k hk)) g1349
              have g1363 : TU (avw K H1361 a0) (svw K H1361 a0) := TU.congr (fun k hk j => av_arr hTH1348 ga0 wH1361 gq1360 (by decide) (TU_ok 148 (by decide) k hk)) (fun k hk => sv_arr ga0 wH1361 gq1360 (by decide)) g1350
              have g1364 : WD (avw K H1361 a0) := WD.congr (fun k hk j => av_arr hTH1348 ga0 wH1361 gq1360 (by decide) (WD_ok 148 (by decide) k hk)) g1351
              have g1365 : IM (avw K H1361 a0) := IM.congr (fun k hk j => av_arr hTH1348 ga0 wH1361 gq1360 (by decide) (IM_ok 148 (by decide) k hk)) g1352
              have f1366 : ∀ j : Nat, fI H1361 tpq j = fI s.heap tpq j := fun j => (Wr.neI wH1361 (Or.inl (G_ne gtpq gq1360 (by decide)))).trans (f1353 j)
              have m1367 := m1354.trans (Wr.neR wH1361 (Or.inl (G_ne ga0 gq1360 (by decide)))).symm
              have m1368 := (Wr.neI wH1361 (Or.inl (G_ne ga0 gq1360 (by decide)))).trans m1355
              have m1369 := m1356.trans (Wr.neI wH1361 (Or.inl (G_ne ga0 gq1360 (by decide)))).symm
              have m1370 := m1357.trans (Wr.neI wH1361 (Or.inl (G_ne gtpq gq1360 (by decide)))).symm
              have m1371 := m1358.trans (Wr.neR wH1361 (Or.inl (G_ne ga0 gq1360 (by decide)))).symm
              have m1372 := m1359.trans (Wr.neI wH1361 (Or.inl (G_ne gq1347 gq1360 (by decide)))).symm
              have m1373 := eq1360.trans (Wr.neR wH1361 (Or.inl (G_ne ga0 gq1360 (by decide)))).symm
              have m1374 := Wr.I wH1361
              have m1374 := m1374.symm
              refine lv_iconst (v := 0) hx hb dX10_tap_75 (by decide) ?_
              refine lv_istore (lv' := [(5, .int 0), (4, .int x1344), (0, .ref a0), (1, .int x1), (2, .int x2), (3, .int x3)]) hx hb dX10_tap_76 hl1346 (by decide) rfl (fun ls1375 hl1376 => ?_)
              exact J78 ((16 - (0 : Int32).toInt).toNat + 1) ls1375 H1361 locsH1361 (x1344) (0) (lv_sub hl1376 [2, 3, 1, 0] rfl) hTH1361 hSH1361 (by have := i_rng x1; omega) (by have := i_rng x1344; omega) (by decide) m1367 g1362 g1363 g1364 g1365 f1366 (by omega) (by omega)
            · have k1340 := i_eq c1339
              exact J44 ls H1319 locsH1334 (lv_sub hl [] rfl) hTH1319 hSH1334 m1326 g1321 g1322 g1323 g1324 f1325
        · subst hvH1334
          refine W.eq (g2 := F0 m 30 ls [.int 0]) rfl ?_
          refine lv_if_eq (tgt := 44) hx hb dX10_tap_30 (by decide) (fun c1377 => ?_) (fun c1377 => ?_)
          · have k1378 := i_eq c1377
            exact J44 ls H1319 locsH1334 (lv_sub hl [] rfl) hTH1319 hSH1334 m1326 g1321 g1322 g1323 g1324 f1325
          · have k1378 := i_ne c1377
            exfalso
            omega
    · subst hvH1331
      refine W.eq (g2 := F0 m 18 ls [.int 0]) rfl ?_
      refine lv_if_eq (tgt := 44) hx hb dX10_tap_18 (by decide) (fun c1379 => ?_) (fun c1379 => ?_)
      · have k1380 := i_eq c1379
        exact J44 ls H1319 locsH1331 (lv_sub hl [] rfl) hTH1319 hSH1331 m1326 g1321 g1322 g1323 g1324 f1325
      · have k1380 := i_ne c1379
        exfalso
        omega

set_option maxHeartbeats 4000000 in
set_option maxRecDepth 100000 in
theorem a_X10_fits (l : Launch) (K : KE) (G : Nat → Option Nat) (H : Heap) {a0 : Nat} (x1 : Int32) (x2 : Int32) (x3 : Int32) (x4 : Int32) {slq : Nat} (hT : TY K G H) (ga0 : G a0 = some 112) (gslq : G slq = some 113) (eslq : slq = fR H a0 (K.1.2 10 4)) (hg_CG : CG (avw K H a0)) (hg_TU : TU (avw K H a0) (svw K H a0)) (hg_WD : WD (avw K H a0)) (hg_IM : IM (avw K H a0)) : MX l K yX10_fits cX10_fits 5 (some .int) 8 197 0 0 [.ref a0, .int x1, .int x2, .int x3, .int x4] H (AE G [112, 151, 141, 115, 152, 114, 153, 140, 139] H.size) (fun v H1 => ∃ (r : Int32), v = some (.int r) ∧ slq = fR H1 a0 (K.1.2 10 4) ∧ (CG (avw K H1 a0)) ∧ (TU (avw K H1 a0) (svw K H1 a0)) ∧ (WD (avw K H1 a0)) ∧ (IM (avw K H1 a0)) ∧ TY K G H1) := by
  refine MX.of (by decide +kernel) (Nat.le_of_ble_eq_true rfl) ?_
  intro p e s m below meth c ls Q C hH hl hQ
  subst hH
  have C : CX p K s m _ meth c RX10 cX10_fits 5 (some .int) "fits" := C
  obtain ⟨hx, hb, hml, hown, hts, hKT, hr, hlocks, hnm⟩ := id C
  have hl : lv_has ls 5 [(0, .ref a0), (1, .int x1), (2, .int x2), (3, .int x3), (4, .int x4)] := hl
  have hS : va_S (AE G [112, 151, 141, 115, 152, 114, 153, 140, 139] s.heap.size) s.heap s.heap [] := va_S.rf
  have n_m1 : ((-1) : Int32).toInt = -1 := rfl
  have n_0 : (0 : Int32).toInt = 0 := rfl
  have n_1 : (1 : Int32).toInt = 1 := rfl
  have n_4 : (4 : Int32).toInt = 4 := rfl
  have n_5 : (5 : Int32).toInt = 5 := rfl
  have n_9 : (9 : Int32).toInt = 9 := rfl
  have n_10 : (10 : Int32).toInt = 10 := rfl
  have n_99999 : (99999 : Int32).toInt = 99999 := rfl
  have hap : ∀ x y, x < 74 → y < 74 → x ≠ y → K.1.2 10 x ≠ K.1.2 10 y := x_apart hKT hts inX10 tyX10 tyX10_ok nmX10 rfl
  have f0_sls : ∀ j : Nat, fI s.heap slq j = fI s.heap slq j := fun _ => rfl
  have J76 : ∀ (ls503 : Array Slot) (H502 : Heap) (locsH502 : List Loc) , lv_has ls503 5 [] → TY K G H502 → va_S (AE G [112, 151, 141, 115, 152, 114, 153, 140, 139] s.heap.size) s.heap H502 locsH502 → (slq = fR H502 a0 (K.1.2 10 4)) → (CG (avw K H502 a0)) → (TU (avw K H502 a0) (svw K H502 a0)) → (WD (avw K H502 a0)) → (IM (avw K H502 a0)) → (∀ j : Nat, fI H502 slq j = fI s.heap slq j) → W p l e ({ frames := 8, cells := 0, slots := 0, locals := 197 } : Room) s m (([.ref a0, .int x1, .int x2, .int x3, .int x4] : List Value).toArray) below meth c H502 locsH502 0 0 Q (F0 m 76 ls503 []) := by
    intro ls503 H502 locsH502  hl504 hTH502 hSH502 cy505_0 gy505_CG gy505_TU gy505_WD gy505_IM fy505_sls
    refine lv_iconst (v := (-1)) hx hb dX10_fits_76 (by decide) ?_
    exact x_iret C hQ dX10_fits_77 hSH502 (by decide) (by decide) (⟨(-1), rfl, cy505_0, gy505_CG, gy505_TU, gy505_WD, gy505_IM, hTH502⟩)
  have J78 : ∀ (ls507 : Array Slot) (H506 : Heap) (locsH506 : List Loc) , lv_has ls507 5 [(0, .ref a0), (1, .int x1), (2, .int x2), (3, .int x3), (4, .int x4)] → TY K G H506 → va_S (AE G [112, 151, 141, 115, 152, 114, 153, 140, 139] s.heap.size) s.heap H506 locsH506 → (0 ≤ x1.toInt ∧ x1.toInt ≤ 9) → (1 ≤ x2.toInt ∧ x2.toInt ≤ 4) → (0 ≤ x3.toInt ∧ x3.toInt ≤ 99999) → (0 ≤ x4.toInt ∧ x4.toInt ≤ 14) → (slq = fR H506 a0 (K.1.2 10 4)) → (CG (avw K H506 a0)) → (TU (avw K H506 a0) (svw K H506 a0)) → (WD (avw K H506 a0)) → (IM (avw K H506 a0)) → (∀ j : Nat, fI H506 slq j = fI s.heap slq j) → ((1 ≤ (fI s.heap slq x1.toNatClampNeg).toInt ∧ (fI s.heap slq x1.toNatClampNeg).toInt ≤ 5 ∧ (x4.toInt = 0 ∨ x4.toInt = 1 ∨ (10 ≤ x4.toInt ∧ x4.toInt ≤ 9 + (fI s.heap slq x1.toNatClampNeg).toInt)))) → W p l e ({ frames := 8, cells := 0, slots := 0, locals := 197 } : Room) s m (([.ref a0, .int x1, .int x2, .int x3, .int x4] : List Value).toArray) below meth c H506 locsH506 0 0 Q (F0 m 78 ls507 []) := by
    intro ls507 H506 locsH506  hl508 hTH506 hSH506 b509 b510 b511 b512 cy513_0 gy513_CG gy513_TU gy513_WD gy513_IM fy513_sls iv78
    have J118 : ∀ (ls515 : Array Slot) (H514 : Heap) (locsH514 : List Loc) (x517 : Int32), lv_has ls515 5 [] → TY K G H514 → va_S (AE G [112, 151, 141, 115, 152, 114, 153, 140, 139] s.heap.size) s.heap H514 locsH514 → (slq = fR H514 a0 (K.1.2 10 4)) → (CG (avw K H514 a0)) → (TU (avw K H514 a0) (svw K H514 a0)) → (WD (avw K H514 a0)) → (IM (avw K H514 a0)) → (∀ j : Nat, fI H514 slq j = fI s.heap slq j) → W p l e ({ frames := 8, cells := 0, slots := 0, locals := 197 } : Room) s m (([.ref a0, .int x1, .int x2, .int x3, .int x4] : List Value).toArray) below meth c H514 locsH514 0 0 Q (F0 m 118 ls515 [.int x517]) := by
      intro ls515 H514 locsH514 x517 hl516 hTH514 hSH514 cy518_0 gy518_CG gy518_TU gy518_WD gy518_IM fy518_sls
      exact x_iret C hQ dX10_fits_118 hSH514 (by decide) (by decide) (⟨x517, rfl, cy518_0, gy518_CG, gy518_TU, gy518_WD, gy518_IM, hTH514⟩)
    refine lv_aload_n hx hb dX10_fits_78 rfl (lv_at hl508 0 rfl) ?_
    refine lv_iload_n hx hb dX10_fits_79 rfl (lv_at hl508 1 rfl) ?_
    refine lv_iload_n hx hb dX10_fits_80 rfl (lv_at hl508 2 rfl) ?_
    refine lv_iload_n hx hb dX10_fits_81 rfl (lv_at hl508 3 rfl) ?_
    obtain ⟨q519, eq519⟩ : ∃ z : Nat, z = fR H506 a0 (K.1.2 10 45) := ⟨_, rfl⟩
    have gq519 := ty_fr (q := q519) (k := 45) (u := 141) eq519 hTH506 ga0 rg_112 rfl
    obtain ⟨x520, ex520⟩ : ∃ z : Int32, z = fI H506 a0 (K.1.2 10 56) := ⟨_, rfl⟩
    have bx520 := ty_fi (x := x520) (k := 56) ex520 hTH506 ga0 rg_112 rfl
    obtain ⟨x521, ex521⟩ : ∃ z : Int32, z = fI H506 slq (x1 : Int32).toNatClampNeg := ⟨_, rfl⟩
    have bx521 := ty_ai (x := x521) ex521 hTH506 gslq rg_113 (by omega)
    have q0x521 := congrArg Int32.toInt (ex521.trans (fy513_sls _))
    refine x_V (As := [.int x1, .int x2, .int x3]) (rest := []) C (a_X10_findsFits l K G H506 (x1) (x2) (x3) (x520) (x521) hTH506 ga0 (by omega) (by omega) gslq cy513_0 gq519 eq519 ex520 ex521 gy513_CG gy513_TU gy513_WD gy513_IM (by omega) (by omega)) yo_X10_findsFits wM_X10_387 ⟨⟨by decide, by decide⟩, by decide, by decide⟩ (x_rv C hTH506 (ci := 10) rfl ga0 rg_112) rfl hl508.1 rfl (Nat.le_of_ble_eq_true rfl) dX10_fits_82 hSH506 (AE_sub (fun _ _ => rfl) (by decide) hSH506.1) (fun vH522 H522 locsH522 pH522 zH522 kH522 hSH522 => ?_)
    obtain ⟨x523, hvH522, ex523, m524, m525, g526, g527, g528, g529, hTH522⟩ := pH522
    subst hvH522
    have f530 : ∀ j : Nat, fI H522 slq j = fI s.heap slq j := fun j => (fI_kept (x_lt hTH506 kH522 gslq (by decide))).trans (fy513_sls j)
    have m531 := (ex521).trans (fI_kept (x_lt hTH506 kH522 gslq (by decide))).symm
    have bx523 := ty_fi (x := x523) (k := 56) ex523 hTH522 ga0 rg_112 rfl
    refine W.eq (g2 := F0 m 85 ls507 []) rfl ?_
    refine lv_iload hx hb dX10_fits_85 (lv_at hl508 4 rfl) ?_
    refine lv_if_ne (tgt := 95) hx hb dX10_fits_87 (by decide) (fun c532 => ?_) (fun c532 => ?_)
    · have k533 := i_ne c532
      refine lv_iload hx hb dX10_fits_95 (lv_at hl508 4 rfl) ?_
      refine lv_iconst (v := 1) hx hb dX10_fits_97 (by decide) ?_
      refine lv_icmp_ne (tgt := 109) hx hb dX10_fits_98 (by decide) (fun c534 => ?_) (fun c534 => ?_)
      · have k535 := i_ne c534
        refine lv_aload_n hx hb dX10_fits_109 rfl (lv_at hl508 0 rfl) ?_
        refine lv_iload hx hb dX10_fits_110 (lv_at hl508 4 rfl) ?_
        refine lv_bipush (v := 10) hx hb dX10_fits_112 (by decide) ?_
        refine lv_isub hx hb dX10_fits_114 ?_
        refine lv_topi (fun x536 ex536 => ?_)
        have tx536 := i_sub ex536 (by omega)
        refine x_V (As := [.int x536]) (rest := []) C (a_X10_sureOf l K G H522 (x536) hTH522 ga0 (by omega)) yo_X10_sureOf wM_X10_393 ⟨⟨by decide, by decide⟩, by decide, by decide⟩ (x_rv C hTH522 (ci := 10) rfl ga0 rg_112) rfl hl508.1 rfl (Nat.le_of_ble_eq_true rfl) dX10_fits_115 hSH522 (AE_sub (fun _ _ => rfl) (by decide) hSH522.1) (fun vH537 H537 locsH537 pH537 zH537 kH537 hSH537 => ?_)
        obtain ⟨x538, hvH537, hTH537⟩ := pH537
        subst hvH537
        have g539 : CG (avw K H537 a0) := CG.congr (fun k hk j => av_eff hTH522 kH537 ga0 (by decide) (CG_eff [] (by decide) k hk)) g526
        have g540 : TU (avw K H537 a0) (svw K H537 a0) := TU.congr (fun k hk j => av_eff hTH522 kH537 ga0 (by decide) (TU_eff [] (by decide) k hk)) (fun k hk => sv_eff hTH522 kH537 ga0 (by decide)) g527
        have g541 : WD (avw K H537 a0) := WD.congr (fun k hk j => av_eff hTH522 kH537 ga0 (by decide) (WD_eff [] (by decide) k hk)) g528
        have g542 : IM (avw K H537 a0) := IM.congr (fun k hk j => av_eff hTH522 kH537 ga0 (by decide) (IM_eff [] (by decide) k hk)) g529
        have f543 : ∀ j : Nat, fI H537 slq j = fI s.heap slq j := fun j => (fI_kept (x_lt hTH522 kH537 gslq (by decide))).trans (f530 j)
        have m544 := (m531).trans (fI_kept (x_lt hTH522 kH537 gslq (by decide))).symm
        have m545 := (m524).trans (fR_kept (x_lt hTH522 kH537 ga0 (by decide))).symm
        have m546 := (m525).trans (fR_kept (x_lt hTH522 kH537 ga0 (by decide))).symm
        have m547 := (ex523).trans (fI_kept (x_lt hTH522 kH537 ga0 (by decide))).symm
        refine W.eq (g2 := F0 m 118 ls507 [.int x538]) rfl ?_
        exact J118 ls507 H537 locsH537 (x538) (lv_sub hl508 [] rfl) hTH537 hSH537 m545 g539 g540 g541 g542 f543
      · have k535 := i_eq c534
        refine lv_aload_n hx hb dX10_fits_101 rfl (lv_at hl508 0 rfl) ?_
        refine lv_iload_n hx hb dX10_fits_102 rfl (lv_at hl508 1 rfl) ?_
        refine x_V (As := [.int x1]) (rest := []) C (a_X10_nextPass l K G H522 (x1) (x521) hTH522 ga0 (by omega) gslq m524 m531 g526 (by omega)) yo_X10_nextPass wM_X10_390 ⟨⟨by decide, by decide⟩, by decide, by decide⟩ (x_rv C hTH522 (ci := 10) rfl ga0 rg_112) rfl hl508.1 rfl (Nat.le_of_ble_eq_true rfl) dX10_fits_103 hSH522 (AE_sub (fun _ _ => rfl) (by decide) hSH522.1) (fun vH548 H548 locsH548 pH548 zH548 kH548 hSH548 => ?_)
        obtain ⟨x549, hvH548, hTH548⟩ := pH548
        subst hvH548
        have g550 : CG (avw K H548 a0) := CG.congr (fun k hk j => av_eff hTH522 kH548 ga0 (by decide) (CG_eff [114, 115, 153, 140, 139] (by decide) k hk)) g526
        have g551 : TU (avw K H548 a0) (svw K H548 a0) := TU.congr (fun k hk j => av_eff hTH522 kH548 ga0 (by decide) (TU_eff [114, 115, 153, 140, 139] (by decide) k hk)) (fun k hk => sv_eff hTH522 kH548 ga0 (by decide)) g527
        have g552 : WD (avw K H548 a0) := WD.congr (fun k hk j => av_eff hTH522 kH548 ga0 (by decide) (WD_eff [114, 115, 153, 140, 139] (by decide) k hk)) g528
        have g553 : IM (avw K H548 a0) := IM.congr (fun k hk j => av_eff hTH522 kH548 ga0 (by decide) (IM_eff [114, 115, 153, 140, 139] (by decide) k hk)) g529
        have f554 : ∀ j : Nat, fI H548 slq j = fI s.heap slq j := fun j => (fI_kept (x_lt hTH522 kH548 gslq (by decide))).trans (f530 j)
        have m555 := (m531).trans (fI_kept (x_lt hTH522 kH548 gslq (by decide))).symm
        have m556 := (m524).trans (fR_kept (x_lt hTH522 kH548 ga0 (by decide))).symm
        have m557 := (m525).trans (fR_kept (x_lt hTH522 kH548 ga0 (by decide))).symm
        have m558 := (ex523).trans (fI_kept (x_lt hTH522 kH548 ga0 (by decide))).symm
        refine W.eq (g2 := F0 m 106 ls507 [.int x549]) rfl ?_
        refine lv_goto (tgt := 118) hx hb dX10_fits_106 (by decide) ?_
        exact J118 ls507 H548 locsH548 (x549) (lv_sub hl508 [] rfl) hTH548 hSH548 m556 g550 g551 g552 g553 f554
    · have k533 := i_eq c532
      refine lv_aload_n hx hb dX10_fits_90 rfl (lv_at hl508 0 rfl) ?_
      refine x_gi C hTH522 (ci := 10) (k := 56) rfl inX10 (by decide) wF_X10_378 ga0 rg_112 rfl dX10_fits_91 (fun x559 ex559 bx559 => ?_)
      have ux559 : x523 = x559 := (ex523).trans ex559.symm
      subst ux559
      exact x_iret C hQ dX10_fits_94 hSH522 (by decide) (by decide) (⟨x523, rfl, m524, g526, g527, g528, g529, hTH522⟩)
  refine lv_aload_n hx hb dX10_fits_0 rfl (lv_at hl 0 rfl) ?_
  refine lv_iconst (v := 0) hx hb dX10_fits_1 (by decide) ?_
  refine x_put C hT hS (ci := 10) (k := 0) (v := .int 0) (ty0 := tyX10) rfl inX10 tyX10_ok nmX10 (by decide) rfl wF_X10_167 ga0 rg_112 rfl rfl (okI (by have := i_rng (0 : Int32); omega) (by have := i_rng (0 : Int32); omega)) rfl rfl (AE_in ga0 (by decide)) dX10_fits_2 (fun H560 locsH560 hTH560 hSH560 wH560 => ?_)
  have g561 : CG (avw K H560 a0) := CG.congr (fun k hk j => av_fld hT ga0 hap wH560 (by decide) (CG_ok 112 (by decide) k hk) (CG_ne 0 (by decide) k hk)) hg_CG
  have g562 : TU (avw K H560 a0) (svw K H560 a0) := TU.congr (fun k hk j => av_fld hT ga0 hap wH560 (by decide) (TU_ok 112 (by decide) k hk) (TU_ne 0 (by decide) k hk)) (fun k hk => sv_fld hap wH560 (by decide) (TU_slt k hk) (TU_sne 0 (by decide) k hk)) hg_TU
  have g563 : WD (avw K H560 a0) := WD.congr (fun k hk j => av_fld hT ga0 hap wH560 (by decide) (WD_ok 112 (by decide) k hk) (WD_ne 0 (by decide) k hk)) hg_WD
  have g564 : IM (avw K H560 a0) := IM.congr (fun k hk j => av_fld hT ga0 hap wH560 (by decide) (IM_ok 112 (by decide) k hk) (IM_ne 0 (by decide) k hk)) hg_IM
  have f565 : ∀ j : Nat, fI H560 slq j = fI s.heap slq j := fun j => (Wr.neI wH560 (Or.inl (G_ne gslq ga0 (by decide)))).trans (f0_sls j)
  have m566 := eslq.trans (Wr.neR wH560 (Or.inr (x_apart hKT hts inX10 tyX10 tyX10_ok nmX10 rfl 4 0 (by decide) (by decide) (by decide)))).symm
  have m567 := Wr.I wH560
  refine lv_aload_n hx hb dX10_fits_5 rfl (lv_at hl 0 rfl) ?_
  refine lv_iload_n hx hb dX10_fits_6 rfl (lv_at hl 1 rfl) ?_
  obtain ⟨x568, ex568⟩ : ∃ z : Int32, z = fI H560 a0 (K.1.2 10 1) := ⟨_, rfl⟩
  have bx568 := ty_fi (x := x568) (k := 1) ex568 hTH560 ga0 rg_112 rfl
  refine x_V (As := [.int x1]) (rest := []) C (a_X10_isBar l K G H560 (x1) (x568) hTH560 ga0 ex568) yo_X10_isBar wM_X10_173 ⟨⟨by decide, by decide⟩, by decide, by decide⟩ (x_rv C hTH560 (ci := 10) rfl ga0 rg_112) rfl hl.1 rfl (Nat.le_of_ble_eq_true rfl) dX10_fits_7 hSH560 (AE_sub (fun _ _ => rfl) (by decide) hSH560.1) (fun vH569 H569 locsH569 pH569 zH569 kH569 hSH569 => ?_)
  obtain ⟨x570, hvH569, bx570, hrH569, hTH569⟩ := pH569
  subst hvH569
  have g571 : CG (avw K H569 a0) := CG.congr (fun k hk j => av_eff hTH560 kH569 ga0 (by decide) (CG_eff [] (by decide) k hk)) g561
  have g572 : TU (avw K H569 a0) (svw K H569 a0) := TU.congr (fun k hk j => av_eff hTH560 kH569 ga0 (by decide) (TU_eff [] (by decide) k hk)) (fun k hk => sv_eff hTH560 kH569 ga0 (by decide)) g562
  have g573 : WD (avw K H569 a0) := WD.congr (fun k hk j => av_eff hTH560 kH569 ga0 (by decide) (WD_eff [] (by decide) k hk)) g563
  have g574 : IM (avw K H569 a0) := IM.congr (fun k hk j => av_eff hTH560 kH569 ga0 (by decide) (IM_eff [] (by decide) k hk)) g564
  have f575 : ∀ j : Nat, fI H569 slq j = fI s.heap slq j := fun j => (fI_kept (x_lt hTH560 kH569 gslq (by decide))).trans (f565 j)
  have m576 := (m566).trans (fR_kept (x_lt hTH560 kH569 ga0 (by decide))).symm
  have m577 := (fI_kept (x_lt hTH560 kH569 ga0 (by decide))).trans m567
  have m578 := (ex568).trans (fI_kept (x_lt hTH560 kH569 ga0 (by decide))).symm
  refine W.eq (g2 := F0 m 10 ls [.int x570]) rfl ?_
  refine lv_if_eq (tgt := 76) hx hb dX10_fits_10 (by decide) (fun c579 => ?_) (fun c579 => ?_)
  · have k580 := i_eq c579
    exact J76 ls H569 locsH569 (lv_sub hl [] rfl) hTH569 hSH569 m576 g571 g572 g573 g574 f575
  · have k580 := i_ne c579
    refine lv_aload_n hx hb dX10_fits_13 rfl (lv_at hl 0 rfl) ?_
    refine x_gr C hTH569 (ci := 10) (k := 4) rfl inX10 (by decide) wF_X10_13 ga0 rg_112 rfl dX10_fits_14 (fun q581 eq581 gq581 => ?_)
    have uq581 : slq = q581 := (m576).trans eq581.symm
    subst uq581
    refine lv_iload_n hx hb dX10_fits_17 rfl (lv_at hl 1 rfl) ?_
    refine x_ai C hTH569 gslq rg_113 ⟨by omega, by show _ < ((10 : Nat) : Int); omega⟩ dX10_fits_18 (fun x582 ex582 bx582 => ?_)
    have q0x582 := congrArg Int32.toInt (ex582.trans (f575 _))
    have ux582 := sl_at g572 m576 m578 ex582 (by omega)
    refine lv_iconst (v := 5) hx hb dX10_fits_19 (by decide) ?_
    refine lv_icmp_gt (tgt := 76) hx hb dX10_fits_20 (by decide) (fun c583 => ?_) (fun c583 => ?_)
    · have k584 := i_lt c583
      exact J76 ls H569 locsH569 (lv_sub hl [] rfl) hTH569 hSH569 m576 g571 g572 g573 g574 f575
    · have k584 := i_nlt c583
      refine lv_aload_n hx hb dX10_fits_23 rfl (lv_at hl 0 rfl) ?_
      refine lv_iload_n hx hb dX10_fits_24 rfl (lv_at hl 2 rfl) ?_
      refine lv_iconst (v := 1) hx hb dX10_fits_25 (by decide) ?_
      refine lv_iconst (v := 4) hx hb dX10_fits_26 (by decide) ?_
      refine x_V (As := [.int x2, .int 1, .int 4]) (rest := []) C (c_X10_isIn l K G H569 (x2) (1) (4) hTH569 ga0) yo_X10_isIn wM_X10_177 ⟨⟨by decide, by decide⟩, by decide, by decide⟩ (x_rv C hTH569 (ci := 10) rfl ga0 rg_112) rfl hl.1 rfl (Nat.le_of_ble_eq_true rfl) dX10_fits_27 hSH569 (AE_sub (fun _ _ => rfl) (by decide) hSH569.1) (fun vH585 H585 locsH585 pH585 zH585 kH585 hSH585 => ?_)
      have hqH585 := pH585.1.symm
      subst hqH585
      rcases pH585.2 with ⟨hvH585, hcH585⟩ | ⟨hvH585, hcH585⟩
      · subst hvH585
        refine W.eq (g2 := F0 m 30 ls [.int 1]) rfl ?_
        refine lv_if_eq (tgt := 76) hx hb dX10_fits_30 (by decide) (fun c586 => ?_) (fun c586 => ?_)
        · have k587 := i_eq c586
          exfalso
          omega
        · have k587 := i_ne c586
          refine lv_aload_n hx hb dX10_fits_33 rfl (lv_at hl 0 rfl) ?_
          refine lv_iload_n hx hb dX10_fits_34 rfl (lv_at hl 3 rfl) ?_
          refine lv_iconst (v := 0) hx hb dX10_fits_35 (by decide) ?_
          refine lv_ldcw (v := 99999) hx hb hown (hts _ wK_X10_308) dX10_fits_36 ?_
          refine x_V (As := [.int x3, .int 0, .int 99999]) (rest := []) C (c_X10_isIn l K G H569 (x3) (0) (99999) hTH569 ga0) yo_X10_isIn wM_X10_177 ⟨⟨by decide, by decide⟩, by decide, by decide⟩ (x_rv C hTH569 (ci := 10) rfl ga0 rg_112) rfl hl.1 rfl (Nat.le_of_ble_eq_true rfl) dX10_fits_39 hSH585 (AE_sub (fun _ _ => rfl) (by decide) hSH585.1) (fun vH588 H588 locsH588 pH588 zH588 kH588 hSH588 => ?_)
          have hqH588 := pH588.1.symm
          subst hqH588
          rcases pH588.2 with ⟨hvH588, hcH588⟩ | ⟨hvH588, hcH588⟩
          · subst hvH588
            refine W.eq (g2 := F0 m 42 ls [.int 1]) rfl ?_
            refine lv_if_eq (tgt := 76) hx hb dX10_fits_42 (by decide) (fun c589 => ?_) (fun c589 => ?_)
            · have k590 := i_eq c589
              exfalso
              omega
            · have k590 := i_ne c589
              refine lv_aload_n hx hb dX10_fits_45 rfl (lv_at hl 0 rfl) ?_
              refine lv_iload hx hb dX10_fits_46 (lv_at hl 4 rfl) ?_
              refine lv_iconst (v := 0) hx hb dX10_fits_48 (by decide) ?_
              refine lv_iconst (v := 1) hx hb dX10_fits_49 (by decide) ?_
              refine x_V (As := [.int x4, .int 0, .int 1]) (rest := []) C (c_X10_isIn l K G H569 (x4) (0) (1) hTH569 ga0) yo_X10_isIn wM_X10_177 ⟨⟨by decide, by decide⟩, by decide, by decide⟩ (x_rv C hTH569 (ci := 10) rfl ga0 rg_112) rfl hl.1 rfl (Nat.le_of_ble_eq_true rfl) dX10_fits_50 hSH588 (AE_sub (fun _ _ => rfl) (by decide) hSH588.1) (fun vH591 H591 locsH591 pH591 zH591 kH591 hSH591 => ?_)
              have hqH591 := pH591.1.symm
              subst hqH591
              rcases pH591.2 with ⟨hvH591, hcH591⟩ | ⟨hvH591, hcH591⟩
              · subst hvH591
                refine W.eq (g2 := F0 m 53 ls [.int 1]) rfl ?_
                refine lv_if_ne (tgt := 78) hx hb dX10_fits_53 (by decide) (fun c592 => ?_) (fun c592 => ?_)
                · have k593 := i_ne c592
                  exact J78 ls H569 locsH591 (lv_sub hl [0, 1, 2, 3, 4] rfl) hTH569 hSH591 (by have := i_rng x1; omega) (by have := i_rng x2; omega) (by have := i_rng x3; omega) (by have := i_rng x4; omega) m576 g571 g572 g573 g574 f575 (by omega)
                · have k593 := i_eq c592
                  exfalso
                  omega
              · subst hvH591
                refine W.eq (g2 := F0 m 53 ls [.int 0]) rfl ?_
                refine lv_if_ne (tgt := 78) hx hb dX10_fits_53 (by decide) (fun c594 => ?_) (fun c594 => ?_)
                · have k595 := i_ne c594
                  exfalso
                  omega
                · have k595 := i_eq c594
                  refine lv_aload_n hx hb dX10_fits_56 rfl (lv_at hl 0 rfl) ?_
                  refine lv_iload hx hb dX10_fits_57 (lv_at hl 4 rfl) ?_
                  refine lv_bipush (v := 10) hx hb dX10_fits_59 (by decide) ?_
                  refine lv_bipush (v := 9) hx hb dX10_fits_61 (by decide) ?_
                  refine lv_aload_n hx hb dX10_fits_63 rfl (lv_at hl 0 rfl) ?_
                  refine x_gr C hTH569 (ci := 10) (k := 4) rfl inX10 (by decide) wF_X10_13 ga0 rg_112 rfl dX10_fits_64 (fun q596 eq596 gq596 => ?_)
                  have uq596 : slq = q596 := (m576).trans eq596.symm
                  subst uq596
                  refine lv_iload_n hx hb dX10_fits_67 rfl (lv_at hl 1 rfl) ?_
                  refine x_ai C hTH569 gslq rg_113 ⟨by omega, by show _ < ((10 : Nat) : Int); omega⟩ dX10_fits_68 (fun x597 ex597 bx597 => ?_)
                  have ux597 : x582 = x597 := (ex582).trans ex597.symm
                  subst ux597
                  refine lv_iadd hx hb dX10_fits_69 ?_
                  refine lv_topi (fun x598 ex598 => ?_)
                  have tx598 := i_add ex598 (by omega)
                  refine x_V (As := [.int x4, .int 10, .int x598]) (rest := []) C (c_X10_isIn l K G H569 (x4) (10) (x598) hTH569 ga0) yo_X10_isIn wM_X10_177 ⟨⟨by decide, by decide⟩, by decide, by decide⟩ (x_rv C hTH569 (ci := 10) rfl ga0 rg_112) rfl hl.1 rfl (Nat.le_of_ble_eq_true rfl) dX10_fits_70 hSH591 (AE_sub (fun _ _ => rfl) (by decide) hSH591.1) (fun vH599 H599 locsH599 pH599 zH599 kH599 hSH599 => ?_)
                  have hqH599 := pH599.1.symm
                  subst hqH599
                  rcases pH599.2 with ⟨hvH599, hcH599⟩ | ⟨hvH599, hcH599⟩
                  · subst hvH599
                    refine W.eq (g2 := F0 m 73 ls [.int 1]) rfl ?_
                    refine lv_if_ne (tgt := 78) hx hb dX10_fits_73 (by decide) (fun c600 => ?_) (fun c600 => ?_)
                    · have k601 := i_ne c600
                      exact J78 ls H569 locsH599 (lv_sub hl [0, 1, 2, 3, 4] rfl) hTH569 hSH599 (by have := i_rng x1; omega) (by have := i_rng x2; omega) (by have := i_rng x3; omega) (by have := i_rng x4; omega) m576 g571 g572 g573 g574 f575 (by omega)
                    · have k601 := i_eq c600
                      exfalso
                      omega
                  · subst hvH599
                    refine W.eq (g2 := F0 m 73 ls [.int 0]) rfl ?_
                    refine lv_if_ne (tgt := 78) hx hb dX10_fits_73 (by decide) (fun c602 => ?_) (fun c602 => ?_)
                    · have k603 := i_ne c602
                      exfalso
                      omega
                    · have k603 := i_eq c602
                      exact J76 ls H569 locsH599 (lv_sub hl [] rfl) hTH569 hSH599 m576 g571 g572 g573 g574 f575
          · subst hvH588
            refine W.eq (g2 := F0 m 42 ls [.int 0]) rfl ?_
            refine lv_if_eq (tgt := 76) hx hb dX10_fits_42 (by decide) (fun c604 => ?_) (fun c604 => ?_)
            · have k605 := i_eq c604
              exact J76 ls H569 locsH588 (lv_sub hl [] rfl) hTH569 hSH588 m576 g571 g572 g573 g574 f575
            · have k605 := i_ne c604
              exfalso
              omega
      · subst hvH585
        refine W.eq (g2 := F0 m 30 ls [.int 0]) rfl ?_
        refine lv_if_eq (tgt := 76) hx hb dX10_fits_30 (by decide) (fun c606 => ?_) (fun c606 => ?_)
        · have k607 := i_eq c606
          exact J76 ls H569 locsH585 (lv_sub hl [] rfl) hTH569 hSH585 m576 g571 g572 g573 g574 f575
        · have k607 := i_ne c606
          exfalso
          omega

set_option maxHeartbeats 4000000 in
set_option maxRecDepth 100000 in
theorem a_X10_off (l : Launch) (K : KE) (G : Nat → Option Nat) (H : Heap) {a0 : Nat} (x1 : Int32) (hT : TY K G H) (ga0 : G a0 = some 112) (hg_CG : CG (avw K H a0)) (hg_TU : TU (avw K H a0) (svw K H a0)) (hg_WD : WD (avw K H a0)) (hg_IM : IM (avw K H a0)) : MX l K yX10_off cX10_off 2 (some .int) 6 148 0 0 [.ref a0, .int x1] H (AE G [112, 140, 139] H.size) (fun v H1 => ∃ (r : Int32), v = some (.int r) ∧ (CG (avw K H1 a0)) ∧ (TU (avw K H1 a0) (svw K H1 a0)) ∧ (WD (avw K H1 a0)) ∧ (IM (avw K H1 a0)) ∧ TY K G H1) := by
  refine MX.of (by decide +kernel) (Nat.le_of_ble_eq_true rfl) ?_
  intro p e s m below meth c ls Q C hH hl hQ
  subst hH
  have C : CX p K s m _ meth c RX10 cX10_off 2 (some .int) "off" := C
  obtain ⟨hx, hb, hml, hown, hts, hKT, hr, hlocks, hnm⟩ := id C
  have hl : lv_has ls 2 [(0, .ref a0), (1, .int x1)] := hl
  have hS : va_S (AE G [112, 140, 139] s.heap.size) s.heap s.heap [] := va_S.rf
  have n_m1 : ((-1) : Int32).toInt = -1 := rfl
  have n_0 : (0 : Int32).toInt = 0 := rfl
  have n_1 : (1 : Int32).toInt = 1 := rfl
  have hap : ∀ x y, x < 74 → y < 74 → x ≠ y → K.1.2 10 x ≠ K.1.2 10 y := x_apart hKT hts inX10 tyX10 tyX10_ok nmX10 rfl
  have J46 : ∀ (ls255 : Array Slot) (H254 : Heap) (locsH254 : List Loc) (x257 : Int32), lv_has ls255 2 [] → TY K G H254 → va_S (AE G [112, 140, 139] s.heap.size) s.heap H254 locsH254 → (CG (avw K H254 a0)) → (TU (avw K H254 a0) (svw K H254 a0)) → (WD (avw K H254 a0)) → (IM (avw K H254 a0)) → W p l e ({ frames := 6, cells := 0, slots := 0, locals := 148 } : Room) s m (([.ref a0, .int x1] : List Value).toArray) below meth c H254 locsH254 0 0 Q (F0 m 46 ls255 [.int x257]) := by
    intro ls255 H254 locsH254 x257 hl256 hTH254 hSH254 gy258_CG gy258_TU gy258_WD gy258_IM
    exact x_iret C hQ dX10_off_46 hSH254 (by decide) (by decide) (⟨x257, rfl, gy258_CG, gy258_TU, gy258_WD, gy258_IM, hTH254⟩)
  have J28 : ∀ (ls260 : Array Slot) (H259 : Heap) (locsH259 : List Loc) (x262 : Int32), lv_has ls260 2 [] → TY K G H259 → va_S (AE G [112, 140, 139] s.heap.size) s.heap H259 locsH259 → (0 ≤ x262.toInt ∧ x262.toInt ≤ 1) → (CG (avw K H259 a0)) → (TU (avw K H259 a0) (svw K H259 a0)) → (WD (avw K H259 a0)) → (IM (avw K H259 a0)) → W p l e ({ frames := 6, cells := 0, slots := 0, locals := 148 } : Room) s m (([.ref a0, .int x1] : List Value).toArray) below meth c H259 locsH259 0 0 Q (F0 m 28 ls260 [.int x262]) := by
    intro ls260 H259 locsH259 x262 hl261 hTH259 hSH259 bx262 gy263_CG gy263_TU gy263_WD gy263_IM
    exact x_iret C hQ dX10_off_28 hSH259 (by decide) (by decide) (⟨x262, rfl, gy263_CG, gy263_TU, gy263_WD, gy263_IM, hTH259⟩)
  refine lv_aload_n hx hb dX10_off_0 rfl (lv_at hl 0 rfl) ?_
  refine lv_iconst (v := 0) hx hb dX10_off_1 (by decide) ?_
  refine x_put C hT hS (ci := 10) (k := 0) (v := .int 0) (ty0 := tyX10) rfl inX10 tyX10_ok nmX10 (by decide) rfl wF_X10_167 ga0 rg_112 rfl rfl (okI (by have := i_rng (0 : Int32); omega) (by have := i_rng (0 : Int32); omega)) rfl rfl (AE_in ga0 (by decide)) dX10_off_2 (fun H264 locsH264 hTH264 hSH264 wH264 => ?_)
  have g265 : CG (avw K H264 a0) := CG.congr (fun k hk j => av_fld hT ga0 hap wH264 (by decide) (CG_ok 112 (by decide) k hk) (CG_ne 0 (by decide) k hk)) hg_CG
  have g266 : TU (avw K H264 a0) (svw K H264 a0) := TU.congr (fun k hk j => av_fld hT ga0 hap wH264 (by decide) (TU_ok 112 (by decide) k hk) (TU_ne 0 (by decide) k hk)) (fun k hk => sv_fld hap wH264 (by decide) (TU_slt k hk) (TU_sne 0 (by decide) k hk)) hg_TU
  have g267 : WD (avw K H264 a0) := WD.congr (fun k hk j => av_fld hT ga0 hap wH264 (by decide) (WD_ok 112 (by decide) k hk) (WD_ne 0 (by decide) k hk)) hg_WD
  have g268 : IM (avw K H264 a0) := IM.congr (fun k hk j => av_fld hT ga0 hap wH264 (by decide) (IM_ok 112 (by decide) k hk) (IM_ne 0 (by decide) k hk)) hg_IM
  have m269 := Wr.I wH264
  refine lv_iload_n hx hb dX10_off_5 rfl (lv_at hl 1 rfl) ?_
  refine lv_iconst (v := (-1)) hx hb dX10_off_6 (by decide) ?_
  refine lv_icmp_ne (tgt := 29) hx hb dX10_off_7 (by decide) (fun c270 => ?_) (fun c270 => ?_)
  · have k271 := i_ne c270
    refine lv_aload_n hx hb dX10_off_29 rfl (lv_at hl 0 rfl) ?_
    refine lv_iload_n hx hb dX10_off_30 rfl (lv_at hl 1 rfl) ?_
    refine x_V (As := [.int x1]) (rest := []) C (c_X10_isLaw l K G H264 (x1) hTH264 ga0) yo_X10_isLaw wM_X10_328 ⟨⟨by decide, by decide⟩, by decide, by decide⟩ (x_rv C hTH264 (ci := 10) rfl ga0 rg_112) rfl hl.1 rfl (Nat.le_of_ble_eq_true rfl) dX10_off_31 hSH264 (AE_sub (fun _ _ => rfl) (by decide) hSH264.1) (fun vH272 H272 locsH272 pH272 zH272 kH272 hSH272 => ?_)
    have hqH272 := pH272.1.symm
    subst hqH272
    rcases pH272.2 with ⟨hvH272, hcH272⟩ | ⟨hvH272, hcH272⟩
    · subst hvH272
      refine W.eq (g2 := F0 m 34 ls [.int 1]) rfl ?_
      refine lv_if_eq (tgt := 45) hx hb dX10_off_34 (by decide) (fun c273 => ?_) (fun c273 => ?_)
      · have k274 := i_eq c273
        exfalso
        omega
      · have k274 := i_ne c273
        refine lv_aload_n hx hb dX10_off_37 rfl (lv_at hl 0 rfl) ?_
        refine lv_iload_n hx hb dX10_off_38 rfl (lv_at hl 1 rfl) ?_
        refine x_V (As := [.int x1]) (rest := []) C (a_X10_offOf l K G H264 (x1) hTH264 ga0 (by omega) g265) yo_X10_offOf wM_X10_399 ⟨⟨by decide, by decide⟩, by decide, by decide⟩ (x_rv C hTH264 (ci := 10) rfl ga0 rg_112) rfl hl.1 rfl (Nat.le_of_ble_eq_true rfl) dX10_off_39 hSH272 (AE_sub (fun _ _ => rfl) (by decide) hSH272.1) (fun vH275 H275 locsH275 pH275 zH275 kH275 hSH275 => ?_)
        obtain ⟨x276, hvH275, hTH275⟩ := pH275
        subst hvH275
        have g277 : CG (avw K H275 a0) := CG.congr (fun k hk j => av_eff hTH264 kH275 ga0 (by decide) (CG_eff [140, 139] (by decide) k hk)) g265
        have g278 : TU (avw K H275 a0) (svw K H275 a0) := TU.congr (fun k hk j => av_eff hTH264 kH275 ga0 (by decide) (TU_eff [140, 139] (by decide) k hk)) (fun k hk => sv_eff hTH264 kH275 ga0 (by decide)) g266
        have g279 : WD (avw K H275 a0) := WD.congr (fun k hk j => av_eff hTH264 kH275 ga0 (by decide) (WD_eff [140, 139] (by decide) k hk)) g267
        have g280 : IM (avw K H275 a0) := IM.congr (fun k hk j => av_eff hTH264 kH275 ga0 (by decide) (IM_eff [140, 139] (by decide) k hk)) g268
        have m281 := (fI_kept (x_lt hTH264 kH275 ga0 (by decide))).trans m269
        refine W.eq (g2 := F0 m 42 ls [.int x276]) rfl ?_
        refine lv_goto (tgt := 46) hx hb dX10_off_42 (by decide) ?_
        exact J46 ls H275 locsH275 (x276) (lv_sub hl [] rfl) hTH275 hSH275 g277 g278 g279 g280
    · subst hvH272
      refine W.eq (g2 := F0 m 34 ls [.int 0]) rfl ?_
      refine lv_if_eq (tgt := 45) hx hb dX10_off_34 (by decide) (fun c282 => ?_) (fun c282 => ?_)
      · have k283 := i_eq c282
        refine lv_iconst (v := (-1)) hx hb dX10_off_45 (by decide) ?_
        exact J46 ls H264 locsH272 ((-1)) (lv_sub hl [] rfl) hTH264 hSH272 g265 g266 g267 g268
      · have k283 := i_ne c282
        exfalso
        omega
  · have k271 := i_eq c270
    refine lv_aload_n hx hb dX10_off_10 rfl (lv_at hl 0 rfl) ?_
    refine lv_iconst (v := 1) hx hb dX10_off_11 (by decide) ?_
    refine x_V (As := [.int 1]) (rest := []) C (a_X10_offOf l K G H264 (1) hTH264 ga0 (by decide) g265) yo_X10_offOf wM_X10_399 ⟨⟨by decide, by decide⟩, by decide, by decide⟩ (x_rv C hTH264 (ci := 10) rfl ga0 rg_112) rfl hl.1 rfl (Nat.le_of_ble_eq_true rfl) dX10_off_12 hSH264 (AE_sub (fun _ _ => rfl) (by decide) hSH264.1) (fun vH284 H284 locsH284 pH284 zH284 kH284 hSH284 => ?_)
    obtain ⟨x285, hvH284, hTH284⟩ := pH284
    subst hvH284
    have g286 : CG (avw K H284 a0) := CG.congr (fun k hk j => av_eff hTH264 kH284 ga0 (by decide) (CG_eff [140, 139] (by decide) k hk)) g265
    have g287 : TU (avw K H284 a0) (svw K H284 a0) := TU.congr (fun k hk j => av_eff hTH264 kH284 ga0 (by decide) (TU_eff [140, 139] (by decide) k hk)) (fun k hk => sv_eff hTH264 kH284 ga0 (by decide)) g266
    have g288 : WD (avw K H284 a0) := WD.congr (fun k hk j => av_eff hTH264 kH284 ga0 (by decide) (WD_eff [140, 139] (by decide) k hk)) g267
    have g289 : IM (avw K H284 a0) := IM.congr (fun k hk j => av_eff hTH264 kH284 ga0 (by decide) (IM_eff [140, 139] (by decide) k hk)) g268
    have m290 := (fI_kept (x_lt hTH264 kH284 ga0 (by decide))).trans m269
    refine W.eq (g2 := F0 m 15 ls [.int x285]) rfl ?_
    refine lv_aload_n hx hb dX10_off_15 rfl (lv_at hl 0 rfl) ?_
    refine lv_iconst (v := 0) hx hb dX10_off_16 (by decide) ?_
    refine x_V (As := [.int 0]) (rest := [.int x285]) C (a_X10_offOf l K G H284 (0) hTH284 ga0 (by decide) g286) yo_X10_offOf wM_X10_399 ⟨⟨by decide, by decide⟩, by decide, by decide⟩ (x_rv C hTH284 (ci := 10) rfl ga0 rg_112) rfl hl.1 rfl (Nat.le_of_ble_eq_true rfl) dX10_off_17 hSH284 (AE_sub (fun _ _ => rfl) (by decide) hSH284.1) (fun vH291 H291 locsH291 pH291 zH291 kH291 hSH291 => ?_)
    obtain ⟨x292, hvH291, hTH291⟩ := pH291
    subst hvH291
    have g293 : CG (avw K H291 a0) := CG.congr (fun k hk j => av_eff hTH284 kH291 ga0 (by decide) (CG_eff [140, 139] (by decide) k hk)) g286
    have g294 : TU (avw K H291 a0) (svw K H291 a0) := TU.congr (fun k hk j => av_eff hTH284 kH291 ga0 (by decide) (TU_eff [140, 139] (by decide) k hk)) (fun k hk => sv_eff hTH284 kH291 ga0 (by decide)) g287
    have g295 : WD (avw K H291 a0) := WD.congr (fun k hk j => av_eff hTH284 kH291 ga0 (by decide) (WD_eff [140, 139] (by decide) k hk)) g288
    have g296 : IM (avw K H291 a0) := IM.congr (fun k hk j => av_eff hTH284 kH291 ga0 (by decide) (IM_eff [140, 139] (by decide) k hk)) g289
    have m297 := (fI_kept (x_lt hTH284 kH291 ga0 (by decide))).trans m290
    refine W.eq (g2 := F0 m 20 ls [.int x292, .int x285]) rfl ?_
    refine lv_icmp_ge (tgt := 27) hx hb dX10_off_20 (by decide) (fun c298 => ?_) (fun c298 => ?_)
    · have k299 := i_le c298
      refine lv_iconst (v := 0) hx hb dX10_off_27 (by decide) ?_
      exact J28 ls H291 locsH291 (0) (lv_sub hl [] rfl) hTH291 hSH291 (by decide) g293 g294 g295 g296
    · have k299 := i_nle c298
      refine lv_iconst (v := 1) hx hb dX10_off_23 (by decide) ?_
      refine lv_goto (tgt := 28) hx hb dX10_off_24 (by decide) ?_
      exact J28 ls H291 locsH291 (1) (lv_sub hl [] rfl) hTH291 hSH291 (by decide) g293 g294 g295 g296

set_option maxHeartbeats 4000000 in
set_option maxRecDepth 100000 in
theorem a_X10_still (l : Launch) (K : KE) (G : Nat → Option Nat) (H : Heap) {a0 : Nat} (x1 : Int32) (x2 : Int32) (x3 : Int32) (hT : TY K G H) (ga0 : G a0 = some 112) (hg_CG : CG (avw K H a0)) (hg_TU : TU (avw K H a0) (svw K H a0)) (hg_WD : WD (avw K H a0)) (hg_IM : IM (avw K H a0)) : MX l K yX10_still cX10_still 4 (some .int) 7 168 0 0 [.ref a0, .int x1, .int x2, .int x3] H (AE G [112, 140, 139] H.size) (fun v H1 => ∃ (r : Int32), v = some (.int r) ∧ (CG (avw K H1 a0)) ∧ (TU (avw K H1 a0) (svw K H1 a0)) ∧ (WD (avw K H1 a0)) ∧ (IM (avw K H1 a0)) ∧ TY K G H1) := by
  refine MX.of (by decide +kernel) (Nat.le_of_ble_eq_true rfl) ?_
  intro p e s m below meth c ls Q C hH hl hQ
  subst hH
  have C : CX p K s m _ meth c RX10 cX10_still 4 (some .int) "still" := C
  obtain ⟨hx, hb, hml, hown, hts, hKT, hr, hlocks, hnm⟩ := id C
  have hl : lv_has ls 4 [(0, .ref a0), (1, .int x1), (2, .int x2), (3, .int x3)] := hl
  have hS : va_S (AE G [112, 140, 139] s.heap.size) s.heap s.heap [] := va_S.rf
  have n_m1 : ((-1) : Int32).toInt = -1 := rfl
  have n_0 : (0 : Int32).toInt = 0 := rfl
  have n_1 : (1 : Int32).toInt = 1 := rfl
  have hap : ∀ x y, x < 74 → y < 74 → x ≠ y → K.1.2 10 x ≠ K.1.2 10 y := x_apart hKT hts inX10 tyX10 tyX10_ok nmX10 rfl
  have J25 : ∀ (ls279 : Array Slot) (H278 : Heap) (locsH278 : List Loc) , lv_has ls279 4 [] → TY K G H278 → va_S (AE G [112, 140, 139] s.heap.size) s.heap H278 locsH278 → (CG (avw K H278 a0)) → (TU (avw K H278 a0) (svw K H278 a0)) → (WD (avw K H278 a0)) → (IM (avw K H278 a0)) → W p l e ({ frames := 7, cells := 0, slots := 0, locals := 168 } : Room) s m (([.ref a0, .int x1, .int x2, .int x3] : List Value).toArray) below meth c H278 locsH278 0 0 Q (F0 m 25 ls279 []) := by
    intro ls279 H278 locsH278  hl280 hTH278 hSH278 gy281_CG gy281_TU gy281_WD gy281_IM
    refine lv_iconst (v := (-1)) hx hb dX10_still_25 (by decide) ?_
    exact x_iret C hQ dX10_still_26 hSH278 (by decide) (by decide) (⟨(-1), rfl, gy281_CG, gy281_TU, gy281_WD, gy281_IM, hTH278⟩)
  have J49 : ∀ (ls283 : Array Slot) (H282 : Heap) (locsH282 : List Loc) (x285 : Int32), lv_has ls283 4 [] → TY K G H282 → va_S (AE G [112, 140, 139] s.heap.size) s.heap H282 locsH282 → (CG (avw K H282 a0)) → (TU (avw K H282 a0) (svw K H282 a0)) → (WD (avw K H282 a0)) → (IM (avw K H282 a0)) → W p l e ({ frames := 7, cells := 0, slots := 0, locals := 168 } : Room) s m (([.ref a0, .int x1, .int x2, .int x3] : List Value).toArray) below meth c H282 locsH282 0 0 Q (F0 m 49 ls283 [.int x285]) := by
    intro ls283 H282 locsH282 x285 hl284 hTH282 hSH282 gy286_CG gy286_TU gy286_WD gy286_IM
    exact x_iret C hQ dX10_still_49 hSH282 (by decide) (by decide) (⟨x285, rfl, gy286_CG, gy286_TU, gy286_WD, gy286_IM, hTH282⟩)
  refine lv_aload_n hx hb dX10_still_0 rfl (lv_at hl 0 rfl) ?_
  refine lv_iconst (v := 0) hx hb dX10_still_1 (by decide) ?_
  refine x_put C hT hS (ci := 10) (k := 0) (v := .int 0) (ty0 := tyX10) rfl inX10 tyX10_ok nmX10 (by decide) rfl wF_X10_167 ga0 rg_112 rfl rfl (okI (by have := i_rng (0 : Int32); omega) (by have := i_rng (0 : Int32); omega)) rfl rfl (AE_in ga0 (by decide)) dX10_still_2 (fun H287 locsH287 hTH287 hSH287 wH287 => ?_)
  have g288 : CG (avw K H287 a0) := CG.congr (fun k hk j => av_fld hT ga0 hap wH287 (by decide) (CG_ok 112 (by decide) k hk) (CG_ne 0 (by decide) k hk)) hg_CG
  have g289 : TU (avw K H287 a0) (svw K H287 a0) := TU.congr (fun k hk j => av_fld hT ga0 hap wH287 (by decide) (TU_ok 112 (by decide) k hk) (TU_ne 0 (by decide) k hk)) (fun k hk => sv_fld hap wH287 (by decide) (TU_slt k hk) (TU_sne 0 (by decide) k hk)) hg_TU
  have g290 : WD (avw K H287 a0) := WD.congr (fun k hk j => av_fld hT ga0 hap wH287 (by decide) (WD_ok 112 (by decide) k hk) (WD_ne 0 (by decide) k hk)) hg_WD
  have g291 : IM (avw K H287 a0) := IM.congr (fun k hk j => av_fld hT ga0 hap wH287 (by decide) (IM_ok 112 (by decide) k hk) (IM_ne 0 (by decide) k hk)) hg_IM
  have m292 := Wr.I wH287
  refine lv_aload_n hx hb dX10_still_5 rfl (lv_at hl 0 rfl) ?_
  refine lv_iload_n hx hb dX10_still_6 rfl (lv_at hl 1 rfl) ?_
  obtain ⟨x293, ex293⟩ : ∃ z : Int32, z = fI H287 a0 (K.1.2 10 1) := ⟨_, rfl⟩
  have bx293 := ty_fi (x := x293) (k := 1) ex293 hTH287 ga0 rg_112 rfl
  refine x_V (As := [.int x1]) (rest := []) C (a_X10_isBar l K G H287 (x1) (x293) hTH287 ga0 ex293) yo_X10_isBar wM_X10_173 ⟨⟨by decide, by decide⟩, by decide, by decide⟩ (x_rv C hTH287 (ci := 10) rfl ga0 rg_112) rfl hl.1 rfl (Nat.le_of_ble_eq_true rfl) dX10_still_7 hSH287 (AE_sub (fun _ _ => rfl) (by decide) hSH287.1) (fun vH294 H294 locsH294 pH294 zH294 kH294 hSH294 => ?_)
  obtain ⟨x295, hvH294, bx295, hrH294, hTH294⟩ := pH294
  subst hvH294
  have g296 : CG (avw K H294 a0) := CG.congr (fun k hk j => av_eff hTH287 kH294 ga0 (by decide) (CG_eff [] (by decide) k hk)) g288
  have g297 : TU (avw K H294 a0) (svw K H294 a0) := TU.congr (fun k hk j => av_eff hTH287 kH294 ga0 (by decide) (TU_eff [] (by decide) k hk)) (fun k hk => sv_eff hTH287 kH294 ga0 (by decide)) g289
  have g298 : WD (avw K H294 a0) := WD.congr (fun k hk j => av_eff hTH287 kH294 ga0 (by decide) (WD_eff [] (by decide) k hk)) g290
  have g299 : IM (avw K H294 a0) := IM.congr (fun k hk j => av_eff hTH287 kH294 ga0 (by decide) (IM_eff [] (by decide) k hk)) g291
  have m300 := (fI_kept (x_lt hTH287 kH294 ga0 (by decide))).trans m292
  have m301 := (ex293).trans (fI_kept (x_lt hTH287 kH294 ga0 (by decide))).symm
  refine W.eq (g2 := F0 m 10 ls [.int x295]) rfl ?_
  refine lv_if_eq (tgt := 25) hx hb dX10_still_10 (by decide) (fun c302 => ?_) (fun c302 => ?_)
  · have k303 := i_eq c302
    exact J25 ls H294 locsH294 (lv_sub hl [] rfl) hTH294 hSH294 g296 g297 g298 g299
  · have k303 := i_ne c302
    refine lv_aload_n hx hb dX10_still_13 rfl (lv_at hl 0 rfl) ?_
    refine lv_iload_n hx hb dX10_still_14 rfl (lv_at hl 2 rfl) ?_
    refine x_V (As := [.int x2]) (rest := []) C (c_X10_isTone l K G H294 (x2) hTH294 ga0) yo_X10_isTone wM_X10_331 ⟨⟨by decide, by decide⟩, by decide, by decide⟩ (x_rv C hTH294 (ci := 10) rfl ga0 rg_112) rfl hl.1 rfl (Nat.le_of_ble_eq_true rfl) dX10_still_15 hSH294 (AE_sub (fun _ _ => rfl) (by decide) hSH294.1) (fun vH304 H304 locsH304 pH304 zH304 kH304 hSH304 => ?_)
    have hqH304 := pH304.1.symm
    subst hqH304
    rcases pH304.2 with ⟨hvH304, hcH304⟩ | ⟨hvH304, hcH304⟩
    · subst hvH304
      refine W.eq (g2 := F0 m 18 ls [.int 1]) rfl ?_
      refine lv_if_eq (tgt := 25) hx hb dX10_still_18 (by decide) (fun c305 => ?_) (fun c305 => ?_)
      · have k306 := i_eq c305
        exfalso
        omega
      · have k306 := i_ne c305
        refine lv_iload_n hx hb dX10_still_21 rfl (lv_at hl 3 rfl) ?_
        refine lv_if_ge (tgt := 27) hx hb dX10_still_22 (by decide) (fun c307 => ?_) (fun c307 => ?_)
        · have k308 := i_le c307
          refine lv_iload_n hx hb dX10_still_27 rfl (lv_at hl 3 rfl) ?_
          refine lv_if_ne (tgt := 40) hx hb dX10_still_28 (by decide) (fun c309 => ?_) (fun c309 => ?_)
          · have k310 := i_ne c309
            refine lv_aload_n hx hb dX10_still_40 rfl (lv_at hl 0 rfl) ?_
            refine lv_iload_n hx hb dX10_still_41 rfl (lv_at hl 1 rfl) ?_
            refine lv_iload_n hx hb dX10_still_42 rfl (lv_at hl 2 rfl) ?_
            refine lv_iload_n hx hb dX10_still_43 rfl (lv_at hl 3 rfl) ?_
            refine lv_iconst (v := 1) hx hb dX10_still_44 (by decide) ?_
            refine lv_isub hx hb dX10_still_45 ?_
            refine lv_topi (fun x311 ex311 => ?_)
            have tx311 := i_sub ex311 (by have := i_rng x3; omega)
            refine x_V (As := [.int x1, .int x2, .int x311]) (rest := []) C (a_X10_stillAt l K G H294 (x1) (x2) (x311) hTH294 ga0 (by omega) g296) yo_X10_stillAt wM_X10_411 ⟨⟨by decide, by decide⟩, by decide, by decide⟩ (x_rv C hTH294 (ci := 10) rfl ga0 rg_112) rfl hl.1 rfl (Nat.le_of_ble_eq_true rfl) dX10_still_46 hSH304 (AE_sub (fun _ _ => rfl) (by decide) hSH304.1) (fun vH312 H312 locsH312 pH312 zH312 kH312 hSH312 => ?_)
            obtain ⟨x313, hvH312, bx313, hTH312⟩ := pH312
            subst hvH312
            have g314 : CG (avw K H312 a0) := CG.congr (fun k hk j => av_eff hTH294 kH312 ga0 (by decide) (CG_eff [140, 139] (by decide) k hk)) g296
            have g315 : TU (avw K H312 a0) (svw K H312 a0) := TU.congr (fun k hk j => av_eff hTH294 kH312 ga0 (by decide) (TU_eff [140, 139] (by decide) k hk)) (fun k hk => sv_eff hTH294 kH312 ga0 (by decide)) g297
            have g316 : WD (avw K H312 a0) := WD.congr (fun k hk j => av_eff hTH294 kH312 ga0 (by decide) (WD_eff [140, 139] (by decide) k hk)) g298
            have g317 : IM (avw K H312 a0) := IM.congr (fun k hk j => av_eff hTH294 kH312 ga0 (by decide) (IM_eff [140, 139] (by decide) k hk)) g299
            have m318 := (fI_kept (x_lt hTH294 kH312 ga0 (by decide))).trans m300
            have m319 := (m301).trans (fI_kept (x_lt hTH294 kH312 ga0 (by decide))).symm
            refine W.eq (g2 := F0 m 49 ls [.int x313]) rfl ?_
            exact J49 ls H312 locsH312 (x313) (lv_sub hl [] rfl) hTH312 hSH312 g314 g315 g316 g317
          · have k310 := i_eq c309
            refine lv_aload_n hx hb dX10_still_31 rfl (lv_at hl 0 rfl) ?_
            refine lv_iload_n hx hb dX10_still_32 rfl (lv_at hl 1 rfl) ?_
            refine lv_iload_n hx hb dX10_still_33 rfl (lv_at hl 2 rfl) ?_
            refine x_V (As := [.int x1, .int x2]) (rest := []) C (a_X10_stills l K G H294 (x1) (x2) hTH294 ga0 (by omega) g296) yo_X10_stills wM_X10_408 ⟨⟨by decide, by decide⟩, by decide, by decide⟩ (x_rv C hTH294 (ci := 10) rfl ga0 rg_112) rfl hl.1 rfl (Nat.le_of_ble_eq_true rfl) dX10_still_34 hSH304 (AE_sub (fun _ _ => rfl) (by decide) hSH304.1) (fun vH320 H320 locsH320 pH320 zH320 kH320 hSH320 => ?_)
            obtain ⟨x321, hvH320, hTH320⟩ := pH320
            subst hvH320
            have g322 : CG (avw K H320 a0) := CG.congr (fun k hk j => av_eff hTH294 kH320 ga0 (by decide) (CG_eff [140, 139] (by decide) k hk)) g296
            have g323 : TU (avw K H320 a0) (svw K H320 a0) := TU.congr (fun k hk j => av_eff hTH294 kH320 ga0 (by decide) (TU_eff [140, 139] (by decide) k hk)) (fun k hk => sv_eff hTH294 kH320 ga0 (by decide)) g297
            have g324 : WD (avw K H320 a0) := WD.congr (fun k hk j => av_eff hTH294 kH320 ga0 (by decide) (WD_eff [140, 139] (by decide) k hk)) g298
            have g325 : IM (avw K H320 a0) := IM.congr (fun k hk j => av_eff hTH294 kH320 ga0 (by decide) (IM_eff [140, 139] (by decide) k hk)) g299
            have m326 := (fI_kept (x_lt hTH294 kH320 ga0 (by decide))).trans m300
            have m327 := (m301).trans (fI_kept (x_lt hTH294 kH320 ga0 (by decide))).symm
            refine W.eq (g2 := F0 m 37 ls [.int x321]) rfl ?_
            refine lv_goto (tgt := 49) hx hb dX10_still_37 (by decide) ?_
            exact J49 ls H320 locsH320 (x321) (lv_sub hl [] rfl) hTH320 hSH320 g322 g323 g324 g325
        · have k308 := i_nle c307
          exact J25 ls H294 locsH304 (lv_sub hl [] rfl) hTH294 hSH304 g296 g297 g298 g299
    · subst hvH304
      refine W.eq (g2 := F0 m 18 ls [.int 0]) rfl ?_
      refine lv_if_eq (tgt := 25) hx hb dX10_still_18 (by decide) (fun c328 => ?_) (fun c328 => ?_)
      · have k329 := i_eq c328
        exact J25 ls H294 locsH304 (lv_sub hl [] rfl) hTH294 hSH304 g296 g297 g298 g299
      · have k329 := i_ne c328
        exfalso
        omega

set_option maxHeartbeats 4000000 in
set_option maxRecDepth 100000 in
theorem a_X10_holes (l : Launch) (K : KE) (G : Nat → Option Nat) (H : Heap) {a0 : Nat} (x1 : Int32) (x2 : Int32) (x3 : Int32) (hT : TY K G H) (ga0 : G a0 = some 112) (hg_CG : CG (avw K H a0)) (hg_TU : TU (avw K H a0) (svw K H a0)) (hg_WD : WD (avw K H a0)) (hg_IM : IM (avw K H a0)) : MX l K yX10_holes cX10_holes 4 (some .boolean) 2 43 0 0 [.ref a0, .int x1, .int x2, .int x3] H (AE G [112, 123, 124] H.size) (fun v H1 => ∃ (r : Int32), v = some (.int r) ∧ (0 ≤ r.toInt ∧ r.toInt ≤ 1) ∧ (CG (avw K H1 a0)) ∧ (TU (avw K H1 a0) (svw K H1 a0)) ∧ (WD (avw K H1 a0)) ∧ (IM (avw K H1 a0)) ∧ TY K G H1) := by
  refine MX.of (by decide +kernel) (Nat.le_of_ble_eq_true rfl) ?_
  intro p e s m below meth c ls Q C hH hl hQ
  subst hH
  have C : CX p K s m _ meth c RX10 cX10_holes 4 (some .boolean) "holes" := C
  obtain ⟨hx, hb, hml, hown, hts, hKT, hr, hlocks, hnm⟩ := id C
  have hl : lv_has ls 4 [(0, .ref a0), (1, .int x1), (2, .int x2), (3, .int x3)] := hl
  have hS : va_S (AE G [112, 123, 124] s.heap.size) s.heap s.heap [] := va_S.rf
  have n_0 : (0 : Int32).toInt = 0 := rfl
  have n_1 : (1 : Int32).toInt = 1 := rfl
  have hap : ∀ x y, x < 74 → y < 74 → x ≠ y → K.1.2 10 x ≠ K.1.2 10 y := x_apart hKT hts inX10 tyX10 tyX10_ok nmX10 rfl
  have J28 : ∀ (ls306 : Array Slot) (H305 : Heap) (locsH305 : List Loc) , lv_has ls306 4 [] → TY K G H305 → va_S (AE G [112, 123, 124] s.heap.size) s.heap H305 locsH305 → (CG (avw K H305 a0)) → (TU (avw K H305 a0) (svw K H305 a0)) → (WD (avw K H305 a0)) → (IM (avw K H305 a0)) → W p l e ({ frames := 2, cells := 0, slots := 0, locals := 43 } : Room) s m (([.ref a0, .int x1, .int x2, .int x3] : List Value).toArray) below meth c H305 locsH305 0 0 Q (F0 m 28 ls306 []) := by
    intro ls306 H305 locsH305  hl307 hTH305 hSH305 gy308_CG gy308_TU gy308_WD gy308_IM
    refine lv_iconst (v := 0) hx hb dX10_holes_28 (by decide) ?_
    exact x_zret C hQ (Or.inl rfl) dX10_holes_29 hSH305 (by decide) (by decide) (⟨0, rfl, by decide, gy308_CG, gy308_TU, gy308_WD, gy308_IM, hTH305⟩)
  refine lv_aload_n hx hb dX10_holes_0 rfl (lv_at hl 0 rfl) ?_
  refine lv_iconst (v := 0) hx hb dX10_holes_1 (by decide) ?_
  refine x_put C hT hS (ci := 10) (k := 0) (v := .int 0) (ty0 := tyX10) rfl inX10 tyX10_ok nmX10 (by decide) rfl wF_X10_167 ga0 rg_112 rfl rfl (okI (by have := i_rng (0 : Int32); omega) (by have := i_rng (0 : Int32); omega)) rfl rfl (AE_in ga0 (by decide)) dX10_holes_2 (fun H309 locsH309 hTH309 hSH309 wH309 => ?_)
  have g310 : CG (avw K H309 a0) := CG.congr (fun k hk j => av_fld hT ga0 hap wH309 (by decide) (CG_ok 112 (by decide) k hk) (CG_ne 0 (by decide) k hk)) hg_CG
  have g311 : TU (avw K H309 a0) (svw K H309 a0) := TU.congr (fun k hk j => av_fld hT ga0 hap wH309 (by decide) (TU_ok 112 (by decide) k hk) (TU_ne 0 (by decide) k hk)) (fun k hk => sv_fld hap wH309 (by decide) (TU_slt k hk) (TU_sne 0 (by decide) k hk)) hg_TU
  have g312 : WD (avw K H309 a0) := WD.congr (fun k hk j => av_fld hT ga0 hap wH309 (by decide) (WD_ok 112 (by decide) k hk) (WD_ne 0 (by decide) k hk)) hg_WD
  have g313 : IM (avw K H309 a0) := IM.congr (fun k hk j => av_fld hT ga0 hap wH309 (by decide) (IM_ok 112 (by decide) k hk) (IM_ne 0 (by decide) k hk)) hg_IM
  have m314 := Wr.I wH309
  refine lv_aload_n hx hb dX10_holes_5 rfl (lv_at hl 0 rfl) ?_
  refine lv_iload_n hx hb dX10_holes_6 rfl (lv_at hl 1 rfl) ?_
  refine lv_iload_n hx hb dX10_holes_7 rfl (lv_at hl 2 rfl) ?_
  obtain ⟨x315, ex315⟩ : ∃ z : Int32, z = fI H309 a0 (K.1.2 10 1) := ⟨_, rfl⟩
  have bx315 := ty_fi (x := x315) (k := 1) ex315 hTH309 ga0 rg_112 rfl
  refine x_V (As := [.int x1, .int x2]) (rest := []) C (a_X10_isSlice l K G H309 (x1) (x2) (x315) hTH309 ga0 ex315) yo_X10_isSlice wM_X10_181 ⟨⟨by decide, by decide⟩, by decide, by decide⟩ (x_rv C hTH309 (ci := 10) rfl ga0 rg_112) rfl hl.1 rfl (Nat.le_of_ble_eq_true rfl) dX10_holes_8 hSH309 (AE_sub (fun _ _ => rfl) (by decide) hSH309.1) (fun vH316 H316 locsH316 pH316 zH316 kH316 hSH316 => ?_)
  obtain ⟨x317, hvH316, bx317, hrH316, hTH316⟩ := pH316
  subst hvH316
  have g318 : CG (avw K H316 a0) := CG.congr (fun k hk j => av_eff hTH309 kH316 ga0 (by decide) (CG_eff [] (by decide) k hk)) g310
  have g319 : TU (avw K H316 a0) (svw K H316 a0) := TU.congr (fun k hk j => av_eff hTH309 kH316 ga0 (by decide) (TU_eff [] (by decide) k hk)) (fun k hk => sv_eff hTH309 kH316 ga0 (by decide)) g311
  have g320 : WD (avw K H316 a0) := WD.congr (fun k hk j => av_eff hTH309 kH316 ga0 (by decide) (WD_eff [] (by decide) k hk)) g312
  have g321 : IM (avw K H316 a0) := IM.congr (fun k hk j => av_eff hTH309 kH316 ga0 (by decide) (IM_eff [] (by decide) k hk)) g313
  have m322 := (fI_kept (x_lt hTH309 kH316 ga0 (by decide))).trans m314
  have m323 := (ex315).trans (fI_kept (x_lt hTH309 kH316 ga0 (by decide))).symm
  refine W.eq (g2 := F0 m 11 ls [.int x317]) rfl ?_
  refine lv_if_eq (tgt := 28) hx hb dX10_holes_11 (by decide) (fun c324 => ?_) (fun c324 => ?_)
  · have k325 := i_eq c324
    exact J28 ls H316 locsH316 (lv_sub hl [] rfl) hTH316 hSH316 g318 g319 g320 g321
  · have k325 := i_ne c324
    refine lv_aload_n hx hb dX10_holes_14 rfl (lv_at hl 0 rfl) ?_
    refine lv_iload_n hx hb dX10_holes_15 rfl (lv_at hl 1 rfl) ?_
    refine lv_iload_n hx hb dX10_holes_16 rfl (lv_at hl 3 rfl) ?_
    refine x_V (As := [.int x1, .int x3]) (rest := []) C (a_X10_isSlice l K G H316 (x1) (x3) (x315) hTH316 ga0 m323) yo_X10_isSlice wM_X10_181 ⟨⟨by decide, by decide⟩, by decide, by decide⟩ (x_rv C hTH316 (ci := 10) rfl ga0 rg_112) rfl hl.1 rfl (Nat.le_of_ble_eq_true rfl) dX10_holes_17 hSH316 (AE_sub (fun _ _ => rfl) (by decide) hSH316.1) (fun vH326 H326 locsH326 pH326 zH326 kH326 hSH326 => ?_)
    obtain ⟨x327, hvH326, bx327, hrH326, hTH326⟩ := pH326
    subst hvH326
    have g328 : CG (avw K H326 a0) := CG.congr (fun k hk j => av_eff hTH316 kH326 ga0 (by decide) (CG_eff [] (by decide) k hk)) g318
    have g329 : TU (avw K H326 a0) (svw K H326 a0) := TU.congr (fun k hk j => av_eff hTH316 kH326 ga0 (by decide) (TU_eff [] (by decide) k hk)) (fun k hk => sv_eff hTH316 kH326 ga0 (by decide)) g319
    have g330 : WD (avw K H326 a0) := WD.congr (fun k hk j => av_eff hTH316 kH326 ga0 (by decide) (WD_eff [] (by decide) k hk)) g320
    have g331 : IM (avw K H326 a0) := IM.congr (fun k hk j => av_eff hTH316 kH326 ga0 (by decide) (IM_eff [] (by decide) k hk)) g321
    have m332 := (fI_kept (x_lt hTH316 kH326 ga0 (by decide))).trans m322
    have m333 := (m323).trans (fI_kept (x_lt hTH316 kH326 ga0 (by decide))).symm
    refine W.eq (g2 := F0 m 20 ls [.int x327]) rfl ?_
    refine lv_if_eq (tgt := 28) hx hb dX10_holes_20 (by decide) (fun c334 => ?_) (fun c334 => ?_)
    · have k335 := i_eq c334
      exact J28 ls H326 locsH326 (lv_sub hl [] rfl) hTH326 hSH326 g328 g329 g330 g331
    · have k335 := i_ne c334
      refine lv_iload_n hx hb dX10_holes_23 rfl (lv_at hl 2 rfl) ?_
      refine lv_iload_n hx hb dX10_holes_24 rfl (lv_at hl 3 rfl) ?_
      refine lv_icmp_lt (tgt := 30) hx hb dX10_holes_25 (by decide) (fun c336 => ?_) (fun c336 => ?_)
      · have k337 := i_lt c336
        refine lv_aload_n hx hb dX10_holes_30 rfl (lv_at hl 0 rfl) ?_
        refine x_gr C hTH326 (ci := 10) (k := 14) rfl inX10 (by decide) wF_X10_44 ga0 rg_112 rfl dX10_holes_31 (fun q338 eq338 gq338 => ?_)
        refine lv_iload_n hx hb dX10_holes_34 rfl (lv_at hl 1 rfl) ?_
        refine lv_iload_n hx hb dX10_holes_35 rfl (lv_at hl 2 rfl) ?_
        refine x_iast C hTH326 hSH326 gq338 rg_123 (by omega) (by show _ < ((10 : Nat) : Int); omega) ⟨by have := i_rng x2; omega, by have := i_rng x2; omega⟩ (AE_in gq338 (by decide)) dX10_holes_36 (fun H339 locsH339 hTH339 hSH339 wH339 => ?_)
        have g340 : CG (avw K H339 a0) := CG.congr (fun k hk j => av_arr hTH326 ga0 wH339 gq338 (by decide) (CG_ok 123 (by decide) k hk)) g328
        have g341 : TU (avw K H339 a0) (svw K H339 a0) := TU.congr (fun k hk j => av_arr hTH326 ga0 wH339 gq338 (by decide) (TU_ok 123 (by decide) k hk)) (fun k hk => sv_arr ga0 wH339 gq338 (by decide)) g329
        have g342 : WD (avw K H339 a0) := WD.congr (fun k hk j => av_arr hTH326 ga0 wH339 gq338 (by decide) (WD_ok 123 (by decide) k hk)) g330
        have g343 : IM (avw K H339 a0) := IM.congr (fun k hk j => av_arr hTH326 ga0 wH339 gq338 (by decide) (IM_ok 123 (by decide) k hk)) g331
        have m344 := (Wr.neI wH339 (Or.inl (G_ne ga0 gq338 (by decide)))).trans m332
        have m345 := m333.trans (Wr.neI wH339 (Or.inl (G_ne ga0 gq338 (by decide)))).symm
        have m346 := eq338.trans (Wr.neR wH339 (Or.inl (G_ne ga0 gq338 (by decide)))).symm
        have m347 := Wr.I wH339
        have m347 := m347.symm
        refine lv_aload_n hx hb dX10_holes_37 rfl (lv_at hl 0 rfl) ?_
        refine x_gr C hTH339 (ci := 10) (k := 15) rfl inX10 (by decide) wF_X10_47 ga0 rg_112 rfl dX10_holes_38 (fun q348 eq348 gq348 => ?_)
        refine lv_iload_n hx hb dX10_holes_41 rfl (lv_at hl 1 rfl) ?_
        refine lv_iload_n hx hb dX10_holes_42 rfl (lv_at hl 3 rfl) ?_
        refine x_iast C hTH339 hSH339 gq348 rg_124 (by omega) (by show _ < ((10 : Nat) : Int); omega) ⟨by have := i_rng x3; omega, by have := i_rng x3; omega⟩ (AE_in gq348 (by decide)) dX10_holes_43 (fun H349 locsH349 hTH349 hSH349 wH349 => ?_)
        have g350 : CG (avw K H349 a0) := CG.congr (fun k hk j => av_arr hTH339 ga0 wH349 gq348 (by decide) (CG_ok 124 (by decide) k hk)) g340
        have g351 : TU (avw K H349 a0) (svw K H349 a0) := TU.congr (fun k hk j => av_arr hTH339 ga0 wH349 gq348 (by decide) (TU_ok 124 (by decide) k hk)) (fun k hk => sv_arr ga0 wH349 gq348 (by decide)) g341
        have g352 : WD (avw K H349 a0) := WD.congr (fun k hk j => av_arr hTH339 ga0 wH349 gq348 (by decide) (WD_ok 124 (by decide) k hk)) g342
        have g353 : IM (avw K H349 a0) := IM.congr (fun k hk j => av_arr hTH339 ga0 wH349 gq348 (by decide) (IM_ok 124 (by decide) k hk)) g343
        have m354 := (Wr.neI wH349 (Or.inl (G_ne ga0 gq348 (by decide)))).trans m344
        have m355 := m345.trans (Wr.neI wH349 (Or.inl (G_ne ga0 gq348 (by decide)))).symm
        have m356 := m346.trans (Wr.neR wH349 (Or.inl (G_ne ga0 gq348 (by decide)))).symm
        have m357 := m347.trans (Wr.neI wH349 (Or.inl (G_ne gq338 gq348 (by decide)))).symm
        have m358 := eq348.trans (Wr.neR wH349 (Or.inl (G_ne ga0 gq348 (by decide)))).symm
        have m359 := Wr.I wH349
        have m359 := m359.symm
        refine lv_iconst (v := 1) hx hb dX10_holes_44 (by decide) ?_
        exact x_zret C hQ (Or.inr rfl) dX10_holes_45 hSH349 (by decide) (by decide) (⟨1, rfl, by decide, g350, g351, g352, g353, hTH349⟩)
      · have k337 := i_nlt c336
        exact J28 ls H326 locsH326 (lv_sub hl [] rfl) hTH326 hSH326 g328 g329 g330 g331

set_option maxHeartbeats 4000000 in
set_option maxRecDepth 100000 in
theorem a_X10_state (l : Launch) (K : KE) (G : Nat → Option Nat) (H : Heap) {a0 : Nat} (x1 : Int32) (x2 : Int32) (hT : TY K G H) (ga0 : G a0 = some 112) (hg_CG : CG (avw K H a0)) (hg_TU : TU (avw K H a0) (svw K H a0)) (hg_WD : WD (avw K H a0)) (hg_IM : IM (avw K H a0)) : MX l K yX10_state cX10_state 3 (some .int) 8 190 0 0 [.ref a0, .int x1, .int x2] H (AE G [112, 140, 139] H.size) (fun v H1 => ∃ (r : Int32), v = some (.int r) ∧ (CG (avw K H1 a0)) ∧ (TU (avw K H1 a0) (svw K H1 a0)) ∧ (WD (avw K H1 a0)) ∧ (IM (avw K H1 a0)) ∧ TY K G H1) := by
  refine MX.of (by decide +kernel) (Nat.le_of_ble_eq_true rfl) ?_
  intro p e s m below meth c ls Q C hH hl hQ
  subst hH
  have C : CX p K s m _ meth c RX10 cX10_state 3 (some .int) "state" := C
  obtain ⟨hx, hb, hml, hown, hts, hKT, hr, hlocks, hnm⟩ := id C
  have hl : lv_has ls 3 [(0, .ref a0), (1, .int x1), (2, .int x2)] := hl
  have hS : va_S (AE G [112, 140, 139] s.heap.size) s.heap s.heap [] := va_S.rf
  have n_m2 : ((-2) : Int32).toInt = -2 := rfl
  have n_0 : (0 : Int32).toInt = 0 := rfl
  have n_1 : (1 : Int32).toInt = 1 := rfl
  have n_2 : (2 : Int32).toInt = 2 := rfl
  have n_3 : (3 : Int32).toInt = 3 := rfl
  have n_4 : (4 : Int32).toInt = 4 := rfl
  have n_5 : (5 : Int32).toInt = 5 := rfl
  have n_7 : (7 : Int32).toInt = 7 := rfl
  have n_8 : (8 : Int32).toInt = 8 := rfl
  have n_9 : (9 : Int32).toInt = 9 := rfl
  have hap : ∀ x y, x < 74 → y < 74 → x ≠ y → K.1.2 10 x ≠ K.1.2 10 y := x_apart hKT hts inX10 tyX10 tyX10_ok nmX10 rfl
  have J144 : ∀ (ls425 : Array Slot) (H424 : Heap) (locsH424 : List Loc) (x427 : Int32), lv_has ls425 3 [] → TY K G H424 → va_S (AE G [112, 140, 139] s.heap.size) s.heap H424 locsH424 → (CG (avw K H424 a0)) → (TU (avw K H424 a0) (svw K H424 a0)) → (WD (avw K H424 a0)) → (IM (avw K H424 a0)) → W p l e ({ frames := 8, cells := 0, slots := 0, locals := 190 } : Room) s m (([.ref a0, .int x1, .int x2] : List Value).toArray) below meth c H424 locsH424 0 0 Q (F0 m 144 ls425 [.int x427]) := by
    intro ls425 H424 locsH424 x427 hl426 hTH424 hSH424 gy428_CG gy428_TU gy428_WD gy428_IM
    exact x_iret C hQ dX10_state_144 hSH424 (by decide) (by decide) (⟨x427, rfl, gy428_CG, gy428_TU, gy428_WD, gy428_IM, hTH424⟩)
  have J76 : ∀ (ls430 : Array Slot) (H429 : Heap) (locsH429 : List Loc) (x432 : Int32), lv_has ls430 3 [] → TY K G H429 → va_S (AE G [112, 140, 139] s.heap.size) s.heap H429 locsH429 → (0 ≤ x432.toInt ∧ x432.toInt ≤ 1) → (CG (avw K H429 a0)) → (TU (avw K H429 a0) (svw K H429 a0)) → (WD (avw K H429 a0)) → (IM (avw K H429 a0)) → W p l e ({ frames := 8, cells := 0, slots := 0, locals := 190 } : Room) s m (([.ref a0, .int x1, .int x2] : List Value).toArray) below meth c H429 locsH429 0 0 Q (F0 m 76 ls430 [.int x432]) := by
    intro ls430 H429 locsH429 x432 hl431 hTH429 hSH429 bx432 gy433_CG gy433_TU gy433_WD gy433_IM
    exact x_iret C hQ dX10_state_76 hSH429 (by decide) (by decide) (⟨x432, rfl, gy433_CG, gy433_TU, gy433_WD, gy433_IM, hTH429⟩)
  have J57 : ∀ (ls435 : Array Slot) (H434 : Heap) (locsH434 : List Loc) (x437 : Int32), lv_has ls435 3 [] → TY K G H434 → va_S (AE G [112, 140, 139] s.heap.size) s.heap H434 locsH434 → (0 ≤ x437.toInt ∧ x437.toInt ≤ 1) → (CG (avw K H434 a0)) → (TU (avw K H434 a0) (svw K H434 a0)) → (WD (avw K H434 a0)) → (IM (avw K H434 a0)) → W p l e ({ frames := 8, cells := 0, slots := 0, locals := 190 } : Room) s m (([.ref a0, .int x1, .int x2] : List Value).toArray) below meth c H434 locsH434 0 0 Q (F0 m 57 ls435 [.int x437]) := by
    intro ls435 H434 locsH434 x437 hl436 hTH434 hSH434 bx437 gy438_CG gy438_TU gy438_WD gy438_IM
    exact x_iret C hQ dX10_state_57 hSH434 (by decide) (by decide) (⟨x437, rfl, gy438_CG, gy438_TU, gy438_WD, gy438_IM, hTH434⟩)
  refine lv_aload_n hx hb dX10_state_0 rfl (lv_at hl 0 rfl) ?_
  refine lv_iconst (v := 0) hx hb dX10_state_1 (by decide) ?_
  refine x_put C hT hS (ci := 10) (k := 0) (v := .int 0) (ty0 := tyX10) rfl inX10 tyX10_ok nmX10 (by decide) rfl wF_X10_167 ga0 rg_112 rfl rfl (okI (by have := i_rng (0 : Int32); omega) (by have := i_rng (0 : Int32); omega)) rfl rfl (AE_in ga0 (by decide)) dX10_state_2 (fun H439 locsH439 hTH439 hSH439 wH439 => ?_)
  have g440 : CG (avw K H439 a0) := CG.congr (fun k hk j => av_fld hT ga0 hap wH439 (by decide) (CG_ok 112 (by decide) k hk) (CG_ne 0 (by decide) k hk)) hg_CG
  have g441 : TU (avw K H439 a0) (svw K H439 a0) := TU.congr (fun k hk j => av_fld hT ga0 hap wH439 (by decide) (TU_ok 112 (by decide) k hk) (TU_ne 0 (by decide) k hk)) (fun k hk => sv_fld hap wH439 (by decide) (TU_slt k hk) (TU_sne 0 (by decide) k hk)) hg_TU
  have g442 : WD (avw K H439 a0) := WD.congr (fun k hk j => av_fld hT ga0 hap wH439 (by decide) (WD_ok 112 (by decide) k hk) (WD_ne 0 (by decide) k hk)) hg_WD
  have g443 : IM (avw K H439 a0) := IM.congr (fun k hk j => av_fld hT ga0 hap wH439 (by decide) (IM_ok 112 (by decide) k hk) (IM_ne 0 (by decide) k hk)) hg_IM
  have m444 := Wr.I wH439
  refine lv_aload_n hx hb dX10_state_5 rfl (lv_at hl 0 rfl) ?_
  refine lv_iload_n hx hb dX10_state_6 rfl (lv_at hl 1 rfl) ?_
  obtain ⟨x445, ex445⟩ : ∃ z : Int32, z = fI H439 a0 (K.1.2 10 1) := ⟨_, rfl⟩
  have bx445 := ty_fi (x := x445) (k := 1) ex445 hTH439 ga0 rg_112 rfl
  refine x_V (As := [.int x1]) (rest := []) C (a_X10_isBar l K G H439 (x1) (x445) hTH439 ga0 ex445) yo_X10_isBar wM_X10_173 ⟨⟨by decide, by decide⟩, by decide, by decide⟩ (x_rv C hTH439 (ci := 10) rfl ga0 rg_112) rfl hl.1 rfl (Nat.le_of_ble_eq_true rfl) dX10_state_7 hSH439 (AE_sub (fun _ _ => rfl) (by decide) hSH439.1) (fun vH446 H446 locsH446 pH446 zH446 kH446 hSH446 => ?_)
  obtain ⟨x447, hvH446, bx447, hrH446, hTH446⟩ := pH446
  subst hvH446
  have g448 : CG (avw K H446 a0) := CG.congr (fun k hk j => av_eff hTH439 kH446 ga0 (by decide) (CG_eff [] (by decide) k hk)) g440
  have g449 : TU (avw K H446 a0) (svw K H446 a0) := TU.congr (fun k hk j => av_eff hTH439 kH446 ga0 (by decide) (TU_eff [] (by decide) k hk)) (fun k hk => sv_eff hTH439 kH446 ga0 (by decide)) g441
  have g450 : WD (avw K H446 a0) := WD.congr (fun k hk j => av_eff hTH439 kH446 ga0 (by decide) (WD_eff [] (by decide) k hk)) g442
  have g451 : IM (avw K H446 a0) := IM.congr (fun k hk j => av_eff hTH439 kH446 ga0 (by decide) (IM_eff [] (by decide) k hk)) g443
  have m452 := (fI_kept (x_lt hTH439 kH446 ga0 (by decide))).trans m444
  have m453 := (ex445).trans (fI_kept (x_lt hTH439 kH446 ga0 (by decide))).symm
  refine W.eq (g2 := F0 m 10 ls [.int x447]) rfl ?_
  refine lv_if_ne (tgt := 16) hx hb dX10_state_10 (by decide) (fun c454 => ?_) (fun c454 => ?_)
  · have k455 := i_ne c454
    refine lv_iload_n hx hb dX10_state_16 rfl (lv_at hl 2 rfl) ?_
    refine lv_if_ne (tgt := 27) hx hb dX10_state_17 (by decide) (fun c456 => ?_) (fun c456 => ?_)
    · have k457 := i_ne c456
      refine lv_iload_n hx hb dX10_state_27 rfl (lv_at hl 2 rfl) ?_
      refine lv_iconst (v := 1) hx hb dX10_state_28 (by decide) ?_
      refine lv_icmp_ne (tgt := 39) hx hb dX10_state_29 (by decide) (fun c458 => ?_) (fun c458 => ?_)
      · have k459 := i_ne c458
        refine lv_iload_n hx hb dX10_state_39 rfl (lv_at hl 2 rfl) ?_
        refine lv_iconst (v := 2) hx hb dX10_state_40 (by decide) ?_
        refine lv_icmp_ne (tgt := 58) hx hb dX10_state_41 (by decide) (fun c460 => ?_) (fun c460 => ?_)
        · have k461 := i_ne c460
          refine lv_iload_n hx hb dX10_state_58 rfl (lv_at hl 2 rfl) ?_
          refine lv_iconst (v := 3) hx hb dX10_state_59 (by decide) ?_
          refine lv_icmp_ne (tgt := 77) hx hb dX10_state_60 (by decide) (fun c462 => ?_) (fun c462 => ?_)
          · have k463 := i_ne c462
            refine lv_iload_n hx hb dX10_state_77 rfl (lv_at hl 2 rfl) ?_
            refine lv_iconst (v := 4) hx hb dX10_state_78 (by decide) ?_
            refine lv_icmp_ne (tgt := 89) hx hb dX10_state_79 (by decide) (fun c464 => ?_) (fun c464 => ?_)
            · have k465 := i_ne c464
              refine lv_aload_n hx hb dX10_state_89 rfl (lv_at hl 0 rfl) ?_
              refine lv_iload_n hx hb dX10_state_90 rfl (lv_at hl 2 rfl) ?_
              refine lv_iconst (v := 5) hx hb dX10_state_91 (by decide) ?_
              refine lv_bipush (v := 7) hx hb dX10_state_92 (by decide) ?_
              refine x_V (As := [.int x2, .int 5, .int 7]) (rest := []) C (c_X10_isIn l K G H446 (x2) (5) (7) hTH446 ga0) yo_X10_isIn wM_X10_177 ⟨⟨by decide, by decide⟩, by decide, by decide⟩ (x_rv C hTH446 (ci := 10) rfl ga0 rg_112) rfl hl.1 rfl (Nat.le_of_ble_eq_true rfl) dX10_state_94 hSH446 (AE_sub (fun _ _ => rfl) (by decide) hSH446.1) (fun vH466 H466 locsH466 pH466 zH466 kH466 hSH466 => ?_)
              have hqH466 := pH466.1.symm
              subst hqH466
              rcases pH466.2 with ⟨hvH466, hcH466⟩ | ⟨hvH466, hcH466⟩
              · subst hvH466
                refine W.eq (g2 := F0 m 97 ls [.int 1]) rfl ?_
                refine lv_if_eq (tgt := 113) hx hb dX10_state_97 (by decide) (fun c467 => ?_) (fun c467 => ?_)
                · have k468 := i_eq c467
                  exfalso
                  omega
                · have k468 := i_ne c467
                  refine lv_aload_n hx hb dX10_state_100 rfl (lv_at hl 0 rfl) ?_
                  refine x_gr C hTH446 (ci := 10) (k := 9) rfl inX10 (by decide) wF_X10_29 ga0 rg_112 rfl dX10_state_101 (fun q469 eq469 gq469 => ?_)
                  refine lv_iconst (v := 3) hx hb dX10_state_104 (by decide) ?_
                  refine lv_iload_n hx hb dX10_state_105 rfl (lv_at hl 1 rfl) ?_
                  refine lv_imul hx hb dX10_state_106 ?_
                  refine lv_topi (fun x470 ex470 => ?_)
                  have tx470 := i_mul ex470 (by rw [n_3]; omega)
                  rw [n_3] at tx470
                  refine lv_iload_n hx hb dX10_state_107 rfl (lv_at hl 2 rfl) ?_
                  refine lv_iadd hx hb dX10_state_108 ?_
                  refine lv_topi (fun x471 ex471 => ?_)
                  have tx471 := i_add ex471 (by omega)
                  refine lv_iconst (v := 5) hx hb dX10_state_109 (by decide) ?_
                  refine lv_isub hx hb dX10_state_110 ?_
                  refine lv_topi (fun x472 ex472 => ?_)
                  have tx472 := i_sub ex472 (by omega)
                  refine x_ai C hTH446 gq469 rg_118 ⟨by omega, by show _ < ((30 : Nat) : Int); omega⟩ dX10_state_111 (fun x473 ex473 bx473 => ?_)
                  exact x_iret C hQ dX10_state_112 hSH466 (by decide) (by decide) (⟨x473, rfl, g448, g449, g450, g451, hTH446⟩)
              · subst hvH466
                refine W.eq (g2 := F0 m 97 ls [.int 0]) rfl ?_
                refine lv_if_eq (tgt := 113) hx hb dX10_state_97 (by decide) (fun c474 => ?_) (fun c474 => ?_)
                · have k475 := i_eq c474
                  refine lv_iload_n hx hb dX10_state_113 rfl (lv_at hl 2 rfl) ?_
                  refine lv_bipush (v := 8) hx hb dX10_state_114 (by decide) ?_
                  refine lv_icmp_ne (tgt := 128) hx hb dX10_state_116 (by decide) (fun c476 => ?_) (fun c476 => ?_)
                  · have k477 := i_ne c476
                    refine lv_iload_n hx hb dX10_state_128 rfl (lv_at hl 2 rfl) ?_
                    refine lv_bipush (v := 9) hx hb dX10_state_129 (by decide) ?_
                    refine lv_icmp_ne (tgt := 142) hx hb dX10_state_131 (by decide) (fun c478 => ?_) (fun c478 => ?_)
                    · have k479 := i_ne c478
                      refine lv_bipush (v := (-2)) hx hb dX10_state_142 (by decide) ?_
                      exact J144 ls H446 locsH466 ((-2)) (lv_sub hl [] rfl) hTH446 hSH466 g448 g449 g450 g451
                    · have k479 := i_eq c478
                      refine lv_aload_n hx hb dX10_state_134 rfl (lv_at hl 0 rfl) ?_
                      refine lv_iload_n hx hb dX10_state_135 rfl (lv_at hl 1 rfl) ?_
                      refine x_V (As := [.int x1]) (rest := []) C (a_X10_amiss l K G H446 (x1) hTH446 ga0 (by omega) g448) yo_X10_amiss wM_X10_417 ⟨⟨by decide, by decide⟩, by decide, by decide⟩ (x_rv C hTH446 (ci := 10) rfl ga0 rg_112) rfl hl.1 rfl (Nat.le_of_ble_eq_true rfl) dX10_state_136 hSH466 (AE_sub (fun _ _ => rfl) (by decide) hSH466.1) (fun vH480 H480 locsH480 pH480 zH480 kH480 hSH480 => ?_)
                      obtain ⟨x481, hvH480, hTH480⟩ := pH480
                      subst hvH480
                      have g482 : CG (avw K H480 a0) := CG.congr (fun k hk j => av_eff hTH446 kH480 ga0 (by decide) (CG_eff [140, 139] (by decide) k hk)) g448
                      have g483 : TU (avw K H480 a0) (svw K H480 a0) := TU.congr (fun k hk j => av_eff hTH446 kH480 ga0 (by decide) (TU_eff [140, 139] (by decide) k hk)) (fun k hk => sv_eff hTH446 kH480 ga0 (by decide)) g449
                      have g484 : WD (avw K H480 a0) := WD.congr (fun k hk j => av_eff hTH446 kH480 ga0 (by decide) (WD_eff [140, 139] (by decide) k hk)) g450
                      have g485 : IM (avw K H480 a0) := IM.congr (fun k hk j => av_eff hTH446 kH480 ga0 (by decide) (IM_eff [140, 139] (by decide) k hk)) g451
                      have m486 := (fI_kept (x_lt hTH446 kH480 ga0 (by decide))).trans m452
                      have m487 := (m453).trans (fI_kept (x_lt hTH446 kH480 ga0 (by decide))).symm
                      refine W.eq (g2 := F0 m 139 ls [.int x481]) rfl ?_
                      refine lv_goto (tgt := 144) hx hb dX10_state_139 (by decide) ?_
                      exact J144 ls H480 locsH480 (x481) (lv_sub hl [] rfl) hTH480 hSH480 g482 g483 g484 g485
                  · have k477 := i_eq c476
                    refine lv_aload_n hx hb dX10_state_119 rfl (lv_at hl 0 rfl) ?_
                    refine x_gr C hTH446 (ci := 10) (k := 50) rfl inX10 (by decide) wF_X10_116 ga0 rg_112 rfl dX10_state_120 (fun q488 eq488 gq488 => ?_)
                    refine lv_iload_n hx hb dX10_state_123 rfl (lv_at hl 1 rfl) ?_
                    refine x_ai C hTH446 gq488 rg_146 ⟨by omega, by show _ < ((10 : Nat) : Int); omega⟩ dX10_state_124 (fun x489 ex489 bx489 => ?_)
                    refine lv_goto (tgt := 144) hx hb dX10_state_125 (by decide) ?_
                    exact J144 ls H446 locsH466 (x489) (lv_sub hl [] rfl) hTH446 hSH466 g448 g449 g450 g451
                · have k475 := i_ne c474
                  exfalso
                  omega
            · have k465 := i_eq c464
              refine lv_aload_n hx hb dX10_state_82 rfl (lv_at hl 0 rfl) ?_
              refine x_gr C hTH446 (ci := 10) (k := 13) rfl inX10 (by decide) wF_X10_41 ga0 rg_112 rfl dX10_state_83 (fun q490 eq490 gq490 => ?_)
              refine lv_iload_n hx hb dX10_state_86 rfl (lv_at hl 1 rfl) ?_
              refine x_ai C hTH446 gq490 rg_122 ⟨by omega, by show _ < ((10 : Nat) : Int); omega⟩ dX10_state_87 (fun x491 ex491 bx491 => ?_)
              exact x_iret C hQ dX10_state_88 hSH446 (by decide) (by decide) (⟨x491, rfl, g448, g449, g450, g451, hTH446⟩)
          · have k463 := i_eq c462
            refine lv_aload_n hx hb dX10_state_63 rfl (lv_at hl 0 rfl) ?_
            refine lv_iload_n hx hb dX10_state_64 rfl (lv_at hl 1 rfl) ?_
            refine x_V (As := [.int x1]) (rest := []) C (a_X10_isTrue l K G H446 (x1) hTH446 ga0 (by omega) g448) yo_X10_isTrue wM_X10_414 ⟨⟨by decide, by decide⟩, by decide, by decide⟩ (x_rv C hTH446 (ci := 10) rfl ga0 rg_112) rfl hl.1 rfl (Nat.le_of_ble_eq_true rfl) dX10_state_65 hSH446 (AE_sub (fun _ _ => rfl) (by decide) hSH446.1) (fun vH492 H492 locsH492 pH492 zH492 kH492 hSH492 => ?_)
            obtain ⟨x493, hvH492, bx493, hTH492⟩ := pH492
            subst hvH492
            have g494 : CG (avw K H492 a0) := CG.congr (fun k hk j => av_eff hTH446 kH492 ga0 (by decide) (CG_eff [140, 139] (by decide) k hk)) g448
            have g495 : TU (avw K H492 a0) (svw K H492 a0) := TU.congr (fun k hk j => av_eff hTH446 kH492 ga0 (by decide) (TU_eff [140, 139] (by decide) k hk)) (fun k hk => sv_eff hTH446 kH492 ga0 (by decide)) g449
            have g496 : WD (avw K H492 a0) := WD.congr (fun k hk j => av_eff hTH446 kH492 ga0 (by decide) (WD_eff [140, 139] (by decide) k hk)) g450
            have g497 : IM (avw K H492 a0) := IM.congr (fun k hk j => av_eff hTH446 kH492 ga0 (by decide) (IM_eff [140, 139] (by decide) k hk)) g451
            have m498 := (fI_kept (x_lt hTH446 kH492 ga0 (by decide))).trans m452
            have m499 := (m453).trans (fI_kept (x_lt hTH446 kH492 ga0 (by decide))).symm
            refine W.eq (g2 := F0 m 68 ls [.int x493]) rfl ?_
            refine lv_if_eq (tgt := 75) hx hb dX10_state_68 (by decide) (fun c500 => ?_) (fun c500 => ?_)
            · have k501 := i_eq c500
              refine lv_iconst (v := 0) hx hb dX10_state_75 (by decide) ?_
              exact J76 ls H492 locsH492 (0) (lv_sub hl [] rfl) hTH492 hSH492 (by decide) g494 g495 g496 g497
            · have k501 := i_ne c500
              refine lv_iconst (v := 1) hx hb dX10_state_71 (by decide) ?_
              refine lv_goto (tgt := 76) hx hb dX10_state_72 (by decide) ?_
              exact J76 ls H492 locsH492 (1) (lv_sub hl [] rfl) hTH492 hSH492 (by decide) g494 g495 g496 g497
        · have k461 := i_eq c460
          refine lv_aload_n hx hb dX10_state_44 rfl (lv_at hl 0 rfl) ?_
          refine lv_iload_n hx hb dX10_state_45 rfl (lv_at hl 1 rfl) ?_
          refine x_V (As := [.int x1]) (rest := []) C (a_X10_isLost l K G H446 (x1) hTH446 ga0 (by omega) g448) yo_X10_isLost wM_X10_338 ⟨⟨by decide, by decide⟩, by decide, by decide⟩ (x_rv C hTH446 (ci := 10) rfl ga0 rg_112) rfl hl.1 rfl (Nat.le_of_ble_eq_true rfl) dX10_state_46 hSH446 (AE_sub (fun _ _ => rfl) (by decide) hSH446.1) (fun vH502 H502 locsH502 pH502 zH502 kH502 hSH502 => ?_)
          obtain ⟨x503, hvH502, bx503, hTH502⟩ := pH502
          subst hvH502
          have g504 : CG (avw K H502 a0) := CG.congr (fun k hk j => av_eff hTH446 kH502 ga0 (by decide) (CG_eff [140, 139] (by decide) k hk)) g448
          have g505 : TU (avw K H502 a0) (svw K H502 a0) := TU.congr (fun k hk j => av_eff hTH446 kH502 ga0 (by decide) (TU_eff [140, 139] (by decide) k hk)) (fun k hk => sv_eff hTH446 kH502 ga0 (by decide)) g449
          have g506 : WD (avw K H502 a0) := WD.congr (fun k hk j => av_eff hTH446 kH502 ga0 (by decide) (WD_eff [140, 139] (by decide) k hk)) g450
          have g507 : IM (avw K H502 a0) := IM.congr (fun k hk j => av_eff hTH446 kH502 ga0 (by decide) (IM_eff [140, 139] (by decide) k hk)) g451
          have m508 := (fI_kept (x_lt hTH446 kH502 ga0 (by decide))).trans m452
          have m509 := (m453).trans (fI_kept (x_lt hTH446 kH502 ga0 (by decide))).symm
          refine W.eq (g2 := F0 m 49 ls [.int x503]) rfl ?_
          refine lv_if_eq (tgt := 56) hx hb dX10_state_49 (by decide) (fun c510 => ?_) (fun c510 => ?_)
          · have k511 := i_eq c510
            refine lv_iconst (v := 0) hx hb dX10_state_56 (by decide) ?_
            exact J57 ls H502 locsH502 (0) (lv_sub hl [] rfl) hTH502 hSH502 (by decide) g504 g505 g506 g507
          · have k511 := i_ne c510
            refine lv_iconst (v := 1) hx hb dX10_state_52 (by decide) ?_
            refine lv_goto (tgt := 57) hx hb dX10_state_53 (by decide) ?_
            exact J57 ls H502 locsH502 (1) (lv_sub hl [] rfl) hTH502 hSH502 (by decide) g504 g505 g506 g507
      · have k459 := i_eq c458
        refine lv_aload_n hx hb dX10_state_32 rfl (lv_at hl 0 rfl) ?_
        refine x_gr C hTH446 (ci := 10) (k := 10) rfl inX10 (by decide) wF_X10_32 ga0 rg_112 rfl dX10_state_33 (fun q512 eq512 gq512 => ?_)
        refine lv_iload_n hx hb dX10_state_36 rfl (lv_at hl 1 rfl) ?_
        refine x_ai C hTH446 gq512 rg_119 ⟨by omega, by show _ < ((10 : Nat) : Int); omega⟩ dX10_state_37 (fun x513 ex513 bx513 => ?_)
        exact x_iret C hQ dX10_state_38 hSH446 (by decide) (by decide) (⟨x513, rfl, g448, g449, g450, g451, hTH446⟩)
    · have k457 := i_eq c456
      refine lv_aload_n hx hb dX10_state_20 rfl (lv_at hl 0 rfl) ?_
      refine x_gr C hTH446 (ci := 10) (k := 4) rfl inX10 (by decide) wF_X10_13 ga0 rg_112 rfl dX10_state_21 (fun q514 eq514 gq514 => ?_)
      refine lv_iload_n hx hb dX10_state_24 rfl (lv_at hl 1 rfl) ?_
      refine x_ai C hTH446 gq514 rg_113 ⟨by omega, by show _ < ((10 : Nat) : Int); omega⟩ dX10_state_25 (fun x515 ex515 bx515 => ?_)
      exact x_iret C hQ dX10_state_26 hSH446 (by decide) (by decide) (⟨x515, rfl, g448, g449, g450, g451, hTH446⟩)
  · have k455 := i_eq c454
    refine lv_bipush (v := (-2)) hx hb dX10_state_13 (by decide) ?_
    exact x_iret C hQ dX10_state_15 hSH446 (by decide) (by decide) (⟨(-2), rfl, g448, g449, g450, g451, hTH446⟩)

set_option maxHeartbeats 4000000 in
set_option maxRecDepth 100000 in
theorem a_X10_in (l : Launch) (K : KE) (G : Nat → Option Nat) (H : Heap) {a0 : Nat} (x1 : Int32) (x2 : Int32) (x3 : Int32) (x4 : Int32) (bs : Int32) (hT : TY K G H) (ga0 : G a0 = some 112) (ebs : bs = fI H a0 (K.1.2 10 1)) (hg_CG : CG (avw K H a0)) (hg_TU : TU (avw K H a0) (svw K H a0)) (hg_WD : WD (avw K H a0)) (hg_IM : IM (avw K H a0)) : MX l K yX10_in cX10_in 8 (some .int) 8 196 0 0 [.ref a0, .int x1, .int x2, .int x3, .int x4] H (AE G [112, 140, 139] H.size) (fun v H1 => ∃ (r : Int32), v = some (.int r) ∧ (CG (avw K H1 a0)) ∧ (TU (avw K H1 a0) (svw K H1 a0)) ∧ (WD (avw K H1 a0)) ∧ (IM (avw K H1 a0)) ∧ TY K G H1) := by
  refine MX.of (by decide +kernel) (Nat.le_of_ble_eq_true rfl) ?_
  intro p e s m below meth c ls Q C hH hl hQ
  subst hH
  have C : CX p K s m _ meth c RX10 cX10_in 8 (some .int) "in" := C
  obtain ⟨hx, hb, hml, hown, hts, hKT, hr, hlocks, hnm⟩ := id C
  have hl : lv_has ls 8 [(0, .ref a0), (1, .int x1), (2, .int x2), (3, .int x3), (4, .int x4)] := hl
  have hS : va_S (AE G [112, 140, 139] s.heap.size) s.heap s.heap [] := va_S.rf
  have n_m1 : ((-1) : Int32).toInt = -1 := rfl
  have n_0 : (0 : Int32).toInt = 0 := rfl
  have n_1 : (1 : Int32).toInt = 1 := rfl
  have n_2 : (2 : Int32).toInt = 2 := rfl
  have n_3 : (3 : Int32).toInt = 3 := rfl
  have n_9999 : (9999 : Int32).toInt = 9999 := rfl
  have bbs := ty_fi (x := bs) (k := 1) ebs hT ga0 rg_112 rfl
  have hap : ∀ x y, x < 74 → y < 74 → x ≠ y → K.1.2 10 x ≠ K.1.2 10 y := x_apart hKT hts inX10 tyX10 tyX10_ok nmX10 rfl
  have J40 : ∀ (ls1748 : Array Slot) (H1747 : Heap) (locsH1747 : List Loc) , lv_has ls1748 8 [] → TY K G H1747 → va_S (AE G [112, 140, 139] s.heap.size) s.heap H1747 locsH1747 → (bs = fI H1747 a0 (K.1.2 10 1)) → (CG (avw K H1747 a0)) → (TU (avw K H1747 a0) (svw K H1747 a0)) → (WD (avw K H1747 a0)) → (IM (avw K H1747 a0)) → W p l e ({ frames := 8, cells := 0, slots := 0, locals := 196 } : Room) s m (([.ref a0, .int x1, .int x2, .int x3, .int x4] : List Value).toArray) below meth c H1747 locsH1747 0 0 Q (F0 m 40 ls1748 []) := by
    intro ls1748 H1747 locsH1747  hl1749 hTH1747 hSH1747 cy1750_0 gy1750_CG gy1750_TU gy1750_WD gy1750_IM
    refine lv_iconst (v := (-1)) hx hb dX10_in_40 (by decide) ?_
    exact x_iret C hQ dX10_in_41 hSH1747 (by decide) (by decide) (⟨(-1), rfl, gy1750_CG, gy1750_TU, gy1750_WD, gy1750_IM, hTH1747⟩)
  have J54 : ∀ (ls1752 : Array Slot) (H1751 : Heap) (locsH1751 : List Loc) , lv_has ls1752 8 [(0, .ref a0), (1, .int x1), (2, .int x2), (3, .int x3), (4, .int x4)] → TY K G H1751 → va_S (AE G [112, 140, 139] s.heap.size) s.heap H1751 locsH1751 → (0 ≤ x1.toInt ∧ x1.toInt ≤ 9) → ((-20) ≤ x2.toInt ∧ x2.toInt ≤ 50) → (0 ≤ x3.toInt ∧ x3.toInt ≤ 99) → (1 ≤ x4.toInt ∧ x4.toInt ≤ 2) → (bs = fI H1751 a0 (K.1.2 10 1)) → (CG (avw K H1751 a0)) → (TU (avw K H1751 a0) (svw K H1751 a0)) → (WD (avw K H1751 a0)) → (IM (avw K H1751 a0)) → (x1.toInt < bs.toInt) → W p l e ({ frames := 8, cells := 0, slots := 0, locals := 196 } : Room) s m (([.ref a0, .int x1, .int x2, .int x3, .int x4] : List Value).toArray) below meth c H1751 locsH1751 0 0 Q (F0 m 54 ls1752 []) := by
    intro ls1752 H1751 locsH1751  hl1753 hTH1751 hSH1751 b1754 b1755 b1756 b1757 cy1758_0 gy1758_CG gy1758_TU gy1758_WD gy1758_IM iv54
    refine lv_aload_n hx hb dX10_in_54 rfl (lv_at hl1753 0 rfl) ?_
    refine lv_iload_n hx hb dX10_in_55 rfl (lv_at hl1753 1 rfl) ?_
    refine lv_iload_n hx hb dX10_in_56 rfl (lv_at hl1753 2 rfl) ?_
    refine lv_iload_n hx hb dX10_in_57 rfl (lv_at hl1753 3 rfl) ?_
    refine lv_iload hx hb dX10_in_58 (lv_at hl1753 4 rfl) ?_
    refine lv_iconst (v := 1) hx hb dX10_in_60 (by decide) ?_
    refine lv_isub hx hb dX10_in_61 ?_
    refine lv_topi (fun x1759 ex1759 => ?_)
    have tx1759 := i_sub ex1759 (by omega)
    refine x_V (As := [.int x1, .int x2, .int x3, .int x1759]) (rest := []) C (a_X10_beatOf l K G H1751 (x1) (x2) (x3) (x1759) (bs) hTH1751 ga0 (by omega) (by omega) cy1758_0 gy1758_CG gy1758_TU (by omega)) yo_X10_beatOf wM_X10_434 ⟨⟨by decide, by decide⟩, by decide, by decide⟩ (x_rv C hTH1751 (ci := 10) rfl ga0 rg_112) rfl hl1753.1 rfl (Nat.le_of_ble_eq_true rfl) dX10_in_62 hSH1751 (AE_sub (fun _ _ => rfl) (by decide) hSH1751.1) (fun vH1760 H1760 locsH1760 pH1760 zH1760 kH1760 hSH1760 => ?_)
    obtain ⟨x1761, hvH1760, hTH1760⟩ := pH1760
    subst hvH1760
    have g1762 : CG (avw K H1760 a0) := CG.congr (fun k hk j => av_eff hTH1751 kH1760 ga0 (by decide) (CG_eff [140, 139] (by decide) k hk)) gy1758_CG
    have g1763 : TU (avw K H1760 a0) (svw K H1760 a0) := TU.congr (fun k hk j => av_eff hTH1751 kH1760 ga0 (by decide) (TU_eff [140, 139] (by decide) k hk)) (fun k hk => sv_eff hTH1751 kH1760 ga0 (by decide)) gy1758_TU
    have g1764 : WD (avw K H1760 a0) := WD.congr (fun k hk j => av_eff hTH1751 kH1760 ga0 (by decide) (WD_eff [140, 139] (by decide) k hk)) gy1758_WD
    have g1765 : IM (avw K H1760 a0) := IM.congr (fun k hk j => av_eff hTH1751 kH1760 ga0 (by decide) (IM_eff [140, 139] (by decide) k hk)) gy1758_IM
    have m1766 := (cy1758_0).trans (fI_kept (x_lt hTH1751 kH1760 ga0 (by decide))).symm
    refine W.eq (g2 := F0 m 65 ls1752 [.int x1761]) rfl ?_
    exact x_iret C hQ dX10_in_65 hSH1760 (by decide) (by decide) (⟨x1761, rfl, g1762, g1763, g1764, g1765, hTH1760⟩)
  have J89 : ∀ (nf : Nat) (ls1768 : Array Slot) (H1767 : Heap) (locsH1767 : List Loc) (x1771 : Int32) (x1772 : Int32) (x1773 : Int32), lv_has ls1768 8 [(0, .ref a0), (2, .int x2), (5, .int x1771), (6, .int x1772), (7, .int x1773)] → TY K G H1767 → va_S (AE G [112, 140, 139] s.heap.size) s.heap H1767 locsH1767 → ((-20) ≤ x2.toInt ∧ x2.toInt ≤ 50) → (1 ≤ x1772.toInt ∧ x1772.toInt ≤ 9999) → (2 ≤ x1773.toInt ∧ x1773.toInt ≤ 10000) → (bs = fI H1767 a0 (K.1.2 10 1)) → (CG (avw K H1767 a0)) → (TU (avw K H1767 a0) (svw K H1767 a0)) → (WD (avw K H1767 a0)) → (IM (avw K H1767 a0)) → (10000 - x1773.toInt < (nf : Int)) → W p l e ({ frames := 8, cells := 0, slots := 0, locals := 196 } : Room) s m (([.ref a0, .int x1, .int x2, .int x3, .int x4] : List Value).toArray) below meth c H1767 locsH1767 0 0 Q (F0 m 89 ls1768 []) := by
    intro nf
    induction nf with
    | zero =>
      intro ls1768 H1767 locsH1767 x1771 x1772 x1773 hl1769 hTH1767 hSH1767 b1770 bx1772 bx1773 cy1774_0 gy1774_CG gy1774_TU gy1774_WD gy1774_IM hm89
      have rx1771 := i_rng x1771
      exfalso
      omega
    | succ nf ih89 =>
      intro ls1768 H1767 locsH1767 x1771 x1772 x1773 hl1769 hTH1767 hSH1767 b1770 bx1772 bx1773 cy1774_0 gy1774_CG gy1774_TU gy1774_WD gy1774_IM hm89
      have rx1771 := i_rng x1771
      have J132 : ∀ (ls1776 : Array Slot) (H1775 : Heap) (locsH1775 : List Loc) (x1778 : Int32), lv_has ls1776 8 [(0, .ref a0), (2, .int x2), (5, .int x1771), (6, .int x1778), (7, .int x1773)] → TY K G H1775 → va_S (AE G [112, 140, 139] s.heap.size) s.heap H1775 locsH1775 → (1 ≤ x1778.toInt ∧ x1778.toInt ≤ 9999) → (2 ≤ x1773.toInt ∧ x1773.toInt ≤ 9999) → (bs = fI H1775 a0 (K.1.2 10 1)) → (CG (avw K H1775 a0)) → (TU (avw K H1775 a0) (svw K H1775 a0)) → (WD (avw K H1775 a0)) → (IM (avw K H1775 a0)) → W p l e ({ frames := 8, cells := 0, slots := 0, locals := 196 } : Room) s m (([.ref a0, .int x1, .int x2, .int x3, .int x4] : List Value).toArray) below meth c H1775 locsH1775 0 0 Q (F0 m 132 ls1776 []) := by
        intro ls1776 H1775 locsH1775 x1778 hl1777 hTH1775 hSH1775 bx1778 b1779 cy1780_0 gy1780_CG gy1780_TU gy1780_WD gy1780_IM
        obtain ⟨x1781, ex1781⟩ : ∃ y : Int32, y = x1773 + 1 := ⟨_, rfl⟩
        have tx1781 := i_add ex1781 (by omega)
        refine lv_iinc (v := x1781) (lv' := [(7, .int x1781), (0, .ref a0), (2, .int x2), (5, .int x1771), (6, .int x1778)]) hx hb dX10_in_132 hl1777 (k := 4) rfl (by rw [ex1781]; rfl) (by decide) rfl (fun ls1782 hl1783 => ?_)
        refine lv_goto (tgt := 89) hx hb dX10_in_135 (by decide) ?_
        exact ih89 ls1782 H1775 locsH1775 (x1771) (x1778) (x1781) (lv_sub hl1783 [1, 2, 3, 4, 0] rfl) hTH1775 hSH1775 (by have := i_rng x2; omega) (by have := i_rng x1778; omega) (by have := i_rng x1781; omega) cy1780_0 gy1780_CG gy1780_TU gy1780_WD gy1780_IM (by omega)
      refine lv_iload hx hb dX10_in_89 (lv_at hl1769 4 rfl) ?_
      refine lv_sipush (v := 9999) hx hb dX10_in_91 (by decide) ?_
      refine lv_icmp_gt (tgt := 138) hx hb dX10_in_94 (by decide) (fun c1784 => ?_) (fun c1784 => ?_)
      · have k1785 := i_lt c1784
        refine lv_iload hx hb dX10_in_138 (lv_at hl1769 3 rfl) ?_
        exact x_iret C hQ dX10_in_140 hSH1767 (by decide) (by decide) (⟨x1772, rfl, gy1774_CG, gy1774_TU, gy1774_WD, gy1774_IM, hTH1767⟩)
      · have k1785 := i_nlt c1784
        refine lv_aload_n hx hb dX10_in_97 rfl (lv_at hl1769 0 rfl) ?_
        refine lv_aload_n hx hb dX10_in_98 rfl (lv_at hl1769 0 rfl) ?_
        refine lv_iload hx hb dX10_in_99 (lv_at hl1769 4 rfl) ?_
        refine lv_iload_n hx hb dX10_in_101 rfl (lv_at hl1769 1 rfl) ?_
        refine x_V (As := [.int x1773, .int x2]) (rest := [.ref a0]) C (a_X10_sounds l K G H1767 (x1773) (x2) hTH1767 ga0 (by omega)) yo_X10_sounds wM_X10_422 ⟨⟨by decide, by decide⟩, by decide, by decide⟩ (x_rv C hTH1767 (ci := 10) rfl ga0 rg_112) rfl hl1769.1 rfl (Nat.le_of_ble_eq_true rfl) dX10_in_102 hSH1767 (AE_sub (fun _ _ => rfl) (by decide) hSH1767.1) (fun vH1786 H1786 locsH1786 pH1786 zH1786 kH1786 hSH1786 => ?_)
        obtain ⟨x1787, hvH1786, hTH1786⟩ := pH1786
        subst hvH1786
        have g1788 : CG (avw K H1786 a0) := CG.congr (fun k hk j => av_eff hTH1767 kH1786 ga0 (by decide) (CG_eff [] (by decide) k hk)) gy1774_CG
        have g1789 : TU (avw K H1786 a0) (svw K H1786 a0) := TU.congr (fun k hk j => av_eff hTH1767 kH1786 ga0 (by decide) (TU_eff [] (by decide) k hk)) (fun k hk => sv_eff hTH1767 kH1786 ga0 (by decide)) gy1774_TU
        have g1790 : WD (avw K H1786 a0) := WD.congr (fun k hk j => av_eff hTH1767 kH1786 ga0 (by decide) (WD_eff [] (by decide) k hk)) gy1774_WD
        have g1791 : IM (avw K H1786 a0) := IM.congr (fun k hk j => av_eff hTH1767 kH1786 ga0 (by decide) (IM_eff [] (by decide) k hk)) gy1774_IM
        have m1792 := (cy1774_0).trans (fI_kept (x_lt hTH1767 kH1786 ga0 (by decide))).symm
        refine W.eq (g2 := F0 m 105 ls1768 [.int x1787, .ref a0]) rfl ?_
        refine lv_iload hx hb dX10_in_105 (lv_at hl1769 2 rfl) ?_
        refine lv_isub hx hb dX10_in_107 ?_
        refine lv_topi (fun x1793 ex1793 => ?_)
        refine x_V (As := [.int x1793]) (rest := []) C (a_X10_size l K G H1786 (x1793) hTH1786 ga0) yo_X10_size wM_X10_309 ⟨⟨by decide, by decide⟩, by decide, by decide⟩ (x_rv C hTH1786 (ci := 10) rfl ga0 rg_112) rfl hl1769.1 rfl (Nat.le_of_ble_eq_true rfl) dX10_in_108 hSH1786 (AE_sub (fun _ _ => rfl) (by decide) hSH1786.1) (fun vH1794 H1794 locsH1794 pH1794 zH1794 kH1794 hSH1794 => ?_)
        obtain ⟨x1795, hvH1794, hTH1794⟩ := pH1794
        subst hvH1794
        have g1796 : CG (avw K H1794 a0) := CG.congr (fun k hk j => av_eff hTH1786 kH1794 ga0 (by decide) (CG_eff [] (by decide) k hk)) g1788
        have g1797 : TU (avw K H1794 a0) (svw K H1794 a0) := TU.congr (fun k hk j => av_eff hTH1786 kH1794 ga0 (by decide) (TU_eff [] (by decide) k hk)) (fun k hk => sv_eff hTH1786 kH1794 ga0 (by decide)) g1789
        have g1798 : WD (avw K H1794 a0) := WD.congr (fun k hk j => av_eff hTH1786 kH1794 ga0 (by decide) (WD_eff [] (by decide) k hk)) g1790
        have g1799 : IM (avw K H1794 a0) := IM.congr (fun k hk j => av_eff hTH1786 kH1794 ga0 (by decide) (IM_eff [] (by decide) k hk)) g1791
        have m1800 := (m1792).trans (fI_kept (x_lt hTH1786 kH1794 ga0 (by decide))).symm
        refine W.eq (g2 := F0 m 111 ls1768 [.int x1795]) rfl ?_
        refine lv_aload_n hx hb dX10_in_111 rfl (lv_at hl1769 0 rfl) ?_
        refine lv_aload_n hx hb dX10_in_112 rfl (lv_at hl1769 0 rfl) ?_
        refine lv_iload hx hb dX10_in_113 (lv_at hl1769 3 rfl) ?_
        refine lv_iload_n hx hb dX10_in_115 rfl (lv_at hl1769 1 rfl) ?_
        refine x_V (As := [.int x1772, .int x2]) (rest := [.ref a0, .int x1795]) C (a_X10_sounds l K G H1794 (x1772) (x2) hTH1794 ga0 (by omega)) yo_X10_sounds wM_X10_422 ⟨⟨by decide, by decide⟩, by decide, by decide⟩ (x_rv C hTH1794 (ci := 10) rfl ga0 rg_112) rfl hl1769.1 rfl (Nat.le_of_ble_eq_true rfl) dX10_in_116 hSH1794 (AE_sub (fun _ _ => rfl) (by decide) hSH1794.1) (fun vH1801 H1801 locsH1801 pH1801 zH1801 kH1801 hSH1801 => ?_)
        obtain ⟨x1802, hvH1801, hTH1801⟩ := pH1801
        subst hvH1801
        have g1803 : CG (avw K H1801 a0) := CG.congr (fun k hk j => av_eff hTH1794 kH1801 ga0 (by decide) (CG_eff [] (by decide) k hk)) g1796
        have g1804 : TU (avw K H1801 a0) (svw K H1801 a0) := TU.congr (fun k hk j => av_eff hTH1794 kH1801 ga0 (by decide) (TU_eff [] (by decide) k hk)) (fun k hk => sv_eff hTH1794 kH1801 ga0 (by decide)) g1797
        have g1805 : WD (avw K H1801 a0) := WD.congr (fun k hk j => av_eff hTH1794 kH1801 ga0 (by decide) (WD_eff [] (by decide) k hk)) g1798
        have g1806 : IM (avw K H1801 a0) := IM.congr (fun k hk j => av_eff hTH1794 kH1801 ga0 (by decide) (IM_eff [] (by decide) k hk)) g1799
        have m1807 := (m1800).trans (fI_kept (x_lt hTH1794 kH1801 ga0 (by decide))).symm
        refine W.eq (g2 := F0 m 119 ls1768 [.int x1802, .ref a0, .int x1795]) rfl ?_
        refine lv_iload hx hb dX10_in_119 (lv_at hl1769 2 rfl) ?_
        refine lv_isub hx hb dX10_in_121 ?_
        refine lv_topi (fun x1808 ex1808 => ?_)
        refine x_V (As := [.int x1808]) (rest := [.int x1795]) C (a_X10_size l K G H1801 (x1808) hTH1801 ga0) yo_X10_size wM_X10_309 ⟨⟨by decide, by decide⟩, by decide, by decide⟩ (x_rv C hTH1801 (ci := 10) rfl ga0 rg_112) rfl hl1769.1 rfl (Nat.le_of_ble_eq_true rfl) dX10_in_122 hSH1801 (AE_sub (fun _ _ => rfl) (by decide) hSH1801.1) (fun vH1809 H1809 locsH1809 pH1809 zH1809 kH1809 hSH1809 => ?_)
        obtain ⟨x1810, hvH1809, hTH1809⟩ := pH1809
        subst hvH1809
        have g1811 : CG (avw K H1809 a0) := CG.congr (fun k hk j => av_eff hTH1801 kH1809 ga0 (by decide) (CG_eff [] (by decide) k hk)) g1803
        have g1812 : TU (avw K H1809 a0) (svw K H1809 a0) := TU.congr (fun k hk j => av_eff hTH1801 kH1809 ga0 (by decide) (TU_eff [] (by decide) k hk)) (fun k hk => sv_eff hTH1801 kH1809 ga0 (by decide)) g1804
        have g1813 : WD (avw K H1809 a0) := WD.congr (fun k hk j => av_eff hTH1801 kH1809 ga0 (by decide) (WD_eff [] (by decide) k hk)) g1805
        have g1814 : IM (avw K H1809 a0) := IM.congr (fun k hk j => av_eff hTH1801 kH1809 ga0 (by decide) (IM_eff [] (by decide) k hk)) g1806
        have m1815 := (m1807).trans (fI_kept (x_lt hTH1801 kH1809 ga0 (by decide))).symm
        refine W.eq (g2 := F0 m 125 ls1768 [.int x1810, .int x1795]) rfl ?_
        refine lv_icmp_ge (tgt := 132) hx hb dX10_in_125 (by decide) (fun c1816 => ?_) (fun c1816 => ?_)
        · have k1817 := i_le c1816
          exact J132 ls1768 H1809 locsH1809 (x1772) (lv_sub hl1769 [0, 1, 2, 3, 4] rfl) hTH1809 hSH1809 (by have := i_rng x1772; omega) (by have := i_rng x1773; omega) m1815 g1811 g1812 g1813 g1814
        · have k1817 := i_nle c1816
          refine lv_iload hx hb dX10_in_128 (lv_at hl1769 4 rfl) ?_
          refine lv_istore (lv' := [(6, .int x1773), (0, .ref a0), (2, .int x2), (5, .int x1771), (7, .int x1773)]) hx hb dX10_in_130 hl1769 (by decide) rfl (fun ls1818 hl1819 => ?_)
          exact J132 ls1818 H1809 locsH1809 (x1773) (lv_sub hl1819 [1, 2, 3, 0, 4] rfl) hTH1809 hSH1809 (by have := i_rng x1773; omega) (by have := i_rng x1773; omega) m1815 g1811 g1812 g1813 g1814
  refine lv_aload_n hx hb dX10_in_0 rfl (lv_at hl 0 rfl) ?_
  refine lv_iconst (v := 0) hx hb dX10_in_1 (by decide) ?_
  refine x_put C hT hS (ci := 10) (k := 0) (v := .int 0) (ty0 := tyX10) rfl inX10 tyX10_ok nmX10 (by decide) rfl wF_X10_167 ga0 rg_112 rfl rfl (okI (by have := i_rng (0 : Int32); omega) (by have := i_rng (0 : Int32); omega)) rfl rfl (AE_in ga0 (by decide)) dX10_in_2 (fun H1820 locsH1820 hTH1820 hSH1820 wH1820 => ?_)
  have g1821 : CG (avw K H1820 a0) := CG.congr (fun k hk j => av_fld hT ga0 hap wH1820 (by decide) (CG_ok 112 (by decide) k hk) (CG_ne 0 (by decide) k hk)) hg_CG
  have g1822 : TU (avw K H1820 a0) (svw K H1820 a0) := TU.congr (fun k hk j => av_fld hT ga0 hap wH1820 (by decide) (TU_ok 112 (by decide) k hk) (TU_ne 0 (by decide) k hk)) (fun k hk => sv_fld hap wH1820 (by decide) (TU_slt k hk) (TU_sne 0 (by decide) k hk)) hg_TU
  have g1823 : WD (avw K H1820 a0) := WD.congr (fun k hk j => av_fld hT ga0 hap wH1820 (by decide) (WD_ok 112 (by decide) k hk) (WD_ne 0 (by decide) k hk)) hg_WD
  have g1824 : IM (avw K H1820 a0) := IM.congr (fun k hk j => av_fld hT ga0 hap wH1820 (by decide) (IM_ok 112 (by decide) k hk) (IM_ne 0 (by decide) k hk)) hg_IM
  have m1825 := ebs.trans (Wr.neI wH1820 (Or.inr (x_apart hKT hts inX10 tyX10 tyX10_ok nmX10 rfl 1 0 (by decide) (by decide) (by decide)))).symm
  have m1826 := Wr.I wH1820
  refine lv_aload_n hx hb dX10_in_5 rfl (lv_at hl 0 rfl) ?_
  refine lv_iload_n hx hb dX10_in_6 rfl (lv_at hl 1 rfl) ?_
  refine x_V (As := [.int x1]) (rest := []) C (a_X10_isBar l K G H1820 (x1) (bs) hTH1820 ga0 m1825) yo_X10_isBar wM_X10_173 ⟨⟨by decide, by decide⟩, by decide, by decide⟩ (x_rv C hTH1820 (ci := 10) rfl ga0 rg_112) rfl hl.1 rfl (Nat.le_of_ble_eq_true rfl) dX10_in_7 hSH1820 (AE_sub (fun _ _ => rfl) (by decide) hSH1820.1) (fun vH1827 H1827 locsH1827 pH1827 zH1827 kH1827 hSH1827 => ?_)
  obtain ⟨x1828, hvH1827, bx1828, hrH1827, hTH1827⟩ := pH1827
  subst hvH1827
  have g1829 : CG (avw K H1827 a0) := CG.congr (fun k hk j => av_eff hTH1820 kH1827 ga0 (by decide) (CG_eff [] (by decide) k hk)) g1821
  have g1830 : TU (avw K H1827 a0) (svw K H1827 a0) := TU.congr (fun k hk j => av_eff hTH1820 kH1827 ga0 (by decide) (TU_eff [] (by decide) k hk)) (fun k hk => sv_eff hTH1820 kH1827 ga0 (by decide)) g1822
  have g1831 : WD (avw K H1827 a0) := WD.congr (fun k hk j => av_eff hTH1820 kH1827 ga0 (by decide) (WD_eff [] (by decide) k hk)) g1823
  have g1832 : IM (avw K H1827 a0) := IM.congr (fun k hk j => av_eff hTH1820 kH1827 ga0 (by decide) (IM_eff [] (by decide) k hk)) g1824
  have m1833 := (m1825).trans (fI_kept (x_lt hTH1820 kH1827 ga0 (by decide))).symm
  have m1834 := (fI_kept (x_lt hTH1820 kH1827 ga0 (by decide))).trans m1826
  refine W.eq (g2 := F0 m 10 ls [.int x1828]) rfl ?_
  refine lv_if_eq (tgt := 40) hx hb dX10_in_10 (by decide) (fun c1835 => ?_) (fun c1835 => ?_)
  · have k1836 := i_eq c1835
    exact J40 ls H1827 locsH1827 (lv_sub hl [] rfl) hTH1827 hSH1827 m1833 g1829 g1830 g1831 g1832
  · have k1836 := i_ne c1835
    refine lv_aload_n hx hb dX10_in_13 rfl (lv_at hl 0 rfl) ?_
    refine lv_iload_n hx hb dX10_in_14 rfl (lv_at hl 2 rfl) ?_
    refine x_V (As := [.int x2]) (rest := []) C (c_X10_isHeat l K G H1827 (x2) hTH1827 ga0) yo_X10_isHeat wM_X10_428 ⟨⟨by decide, by decide⟩, by decide, by decide⟩ (x_rv C hTH1827 (ci := 10) rfl ga0 rg_112) rfl hl.1 rfl (Nat.le_of_ble_eq_true rfl) dX10_in_15 hSH1827 (AE_sub (fun _ _ => rfl) (by decide) hSH1827.1) (fun vH1837 H1837 locsH1837 pH1837 zH1837 kH1837 hSH1837 => ?_)
    have hqH1837 := pH1837.1.symm
    subst hqH1837
    rcases pH1837.2 with ⟨hvH1837, hcH1837⟩ | ⟨hvH1837, hcH1837⟩
    · subst hvH1837
      refine W.eq (g2 := F0 m 18 ls [.int 1]) rfl ?_
      refine lv_if_eq (tgt := 40) hx hb dX10_in_18 (by decide) (fun c1838 => ?_) (fun c1838 => ?_)
      · have k1839 := i_eq c1838
        exfalso
        omega
      · have k1839 := i_ne c1838
        refine lv_aload_n hx hb dX10_in_21 rfl (lv_at hl 0 rfl) ?_
        refine lv_iload_n hx hb dX10_in_22 rfl (lv_at hl 3 rfl) ?_
        refine x_V (As := [.int x3]) (rest := []) C (c_X10_isWet l K G H1827 (x3) hTH1827 ga0) yo_X10_isWet wM_X10_431 ⟨⟨by decide, by decide⟩, by decide, by decide⟩ (x_rv C hTH1827 (ci := 10) rfl ga0 rg_112) rfl hl.1 rfl (Nat.le_of_ble_eq_true rfl) dX10_in_23 hSH1837 (AE_sub (fun _ _ => rfl) (by decide) hSH1837.1) (fun vH1840 H1840 locsH1840 pH1840 zH1840 kH1840 hSH1840 => ?_)
        have hqH1840 := pH1840.1.symm
        subst hqH1840
        rcases pH1840.2 with ⟨hvH1840, hcH1840⟩ | ⟨hvH1840, hcH1840⟩
        · subst hvH1840
          refine W.eq (g2 := F0 m 26 ls [.int 1]) rfl ?_
          refine lv_if_eq (tgt := 40) hx hb dX10_in_26 (by decide) (fun c1841 => ?_) (fun c1841 => ?_)
          · have k1842 := i_eq c1841
            exfalso
            omega
          · have k1842 := i_ne c1841
            refine lv_aload_n hx hb dX10_in_29 rfl (lv_at hl 0 rfl) ?_
            refine lv_iload hx hb dX10_in_30 (lv_at hl 4 rfl) ?_
            refine lv_iconst (v := 0) hx hb dX10_in_32 (by decide) ?_
            refine lv_iconst (v := 3) hx hb dX10_in_33 (by decide) ?_
            refine x_V (As := [.int x4, .int 0, .int 3]) (rest := []) C (c_X10_isIn l K G H1827 (x4) (0) (3) hTH1827 ga0) yo_X10_isIn wM_X10_177 ⟨⟨by decide, by decide⟩, by decide, by decide⟩ (x_rv C hTH1827 (ci := 10) rfl ga0 rg_112) rfl hl.1 rfl (Nat.le_of_ble_eq_true rfl) dX10_in_34 hSH1840 (AE_sub (fun _ _ => rfl) (by decide) hSH1840.1) (fun vH1843 H1843 locsH1843 pH1843 zH1843 kH1843 hSH1843 => ?_)
            have hqH1843 := pH1843.1.symm
            subst hqH1843
            rcases pH1843.2 with ⟨hvH1843, hcH1843⟩ | ⟨hvH1843, hcH1843⟩
            · subst hvH1843
              refine W.eq (g2 := F0 m 37 ls [.int 1]) rfl ?_
              refine lv_if_ne (tgt := 42) hx hb dX10_in_37 (by decide) (fun c1844 => ?_) (fun c1844 => ?_)
              · have k1845 := i_ne c1844
                refine lv_iload hx hb dX10_in_42 (lv_at hl 4 rfl) ?_
                refine lv_iconst (v := 1) hx hb dX10_in_44 (by decide) ?_
                refine lv_icmp_eq (tgt := 54) hx hb dX10_in_45 (by decide) (fun c1846 => ?_) (fun c1846 => ?_)
                · have k1847 := i_eq c1846
                  exact J54 ls H1827 locsH1843 (lv_sub hl [0, 1, 2, 3, 4] rfl) hTH1827 hSH1843 (by have := i_rng x1; omega) (by have := i_rng x2; omega) (by have := i_rng x3; omega) (by have := i_rng x4; omega) m1833 g1829 g1830 g1831 g1832 (by omega)
                · have k1847 := i_ne c1846
                  refine lv_iload hx hb dX10_in_48 (lv_at hl 4 rfl) ?_
                  refine lv_iconst (v := 2) hx hb dX10_in_50 (by decide) ?_
                  refine lv_icmp_ne (tgt := 66) hx hb dX10_in_51 (by decide) (fun c1848 => ?_) (fun c1848 => ?_)
                  · have k1849 := i_ne c1848
                    refine lv_aload_n hx hb dX10_in_66 rfl (lv_at hl 0 rfl) ?_
                    refine lv_iload_n hx hb dX10_in_67 rfl (lv_at hl 1 rfl) ?_
                    refine lv_iload_n hx hb dX10_in_68 rfl (lv_at hl 2 rfl) ?_
                    refine lv_iload_n hx hb dX10_in_69 rfl (lv_at hl 3 rfl) ?_
                    refine x_V (As := [.int x1, .int x2, .int x3]) (rest := []) C (a_X10_drifted l K G H1827 (x1) (x2) (x3) hTH1827 ga0 (by omega) g1829) yo_X10_drifted wM_X10_425 ⟨⟨by decide, by decide⟩, by decide, by decide⟩ (x_rv C hTH1827 (ci := 10) rfl ga0 rg_112) rfl hl.1 rfl (Nat.le_of_ble_eq_true rfl) dX10_in_70 hSH1843 (AE_sub (fun _ _ => rfl) (by decide) hSH1843.1) (fun vH1850 H1850 locsH1850 pH1850 zH1850 kH1850 hSH1850 => ?_)
                    obtain ⟨x1851, hvH1850, hTH1850⟩ := pH1850
                    subst hvH1850
                    have g1852 : CG (avw K H1850 a0) := CG.congr (fun k hk j => av_eff hTH1827 kH1850 ga0 (by decide) (CG_eff [140, 139] (by decide) k hk)) g1829
                    have g1853 : TU (avw K H1850 a0) (svw K H1850 a0) := TU.congr (fun k hk j => av_eff hTH1827 kH1850 ga0 (by decide) (TU_eff [140, 139] (by decide) k hk)) (fun k hk => sv_eff hTH1827 kH1850 ga0 (by decide)) g1830
                    have g1854 : WD (avw K H1850 a0) := WD.congr (fun k hk j => av_eff hTH1827 kH1850 ga0 (by decide) (WD_eff [140, 139] (by decide) k hk)) g1831
                    have g1855 : IM (avw K H1850 a0) := IM.congr (fun k hk j => av_eff hTH1827 kH1850 ga0 (by decide) (IM_eff [140, 139] (by decide) k hk)) g1832
                    have m1856 := (m1833).trans (fI_kept (x_lt hTH1827 kH1850 ga0 (by decide))).symm
                    have m1857 := (fI_kept (x_lt hTH1827 kH1850 ga0 (by decide))).trans m1834
                    refine W.eq (g2 := F0 m 73 ls [.int x1851]) rfl ?_
                    refine lv_istore (lv' := [(5, .int x1851), (0, .ref a0), (1, .int x1), (2, .int x2), (3, .int x3), (4, .int x4)]) hx hb dX10_in_73 hl (by decide) rfl (fun ls1858 hl1859 => ?_)
                    refine lv_iload hx hb dX10_in_75 (lv_at hl1859 5 rfl) ?_
                    refine lv_if_ne (tgt := 83) hx hb dX10_in_77 (by decide) (fun c1860 => ?_) (fun c1860 => ?_)
                    · have k1861 := i_ne c1860
                      refine lv_iconst (v := 1) hx hb dX10_in_83 (by decide) ?_
                      refine lv_istore (lv' := [(6, .int 1), (5, .int x1851), (0, .ref a0), (1, .int x1), (2, .int x2), (3, .int x3), (4, .int x4)]) hx hb dX10_in_84 hl1859 (by decide) rfl (fun ls1862 hl1863 => ?_)
                      refine lv_iconst (v := 2) hx hb dX10_in_86 (by decide) ?_
                      refine lv_istore (lv' := [(7, .int 2), (6, .int 1), (5, .int x1851), (0, .ref a0), (1, .int x1), (2, .int x2), (3, .int x3), (4, .int x4)]) hx hb dX10_in_87 hl1863 (by decide) rfl (fun ls1864 hl1865 => ?_)
                      exact J89 ((10000 - (2 : Int32).toInt).toNat + 1) ls1864 H1850 locsH1850 (x1851) (1) (2) (lv_sub hl1865 [3, 5, 2, 1, 0] rfl) hTH1850 hSH1850 (by have := i_rng x2; omega) (by decide) (by decide) m1856 g1852 g1853 g1854 g1855 (by omega)
                    · have k1861 := i_eq c1860
                      refine lv_iload hx hb dX10_in_80 (lv_at hl1859 0 rfl) ?_
                      exact x_iret C hQ dX10_in_82 hSH1850 (by decide) (by decide) (⟨x1851, rfl, g1852, g1853, g1854, g1855, hTH1850⟩)
                  · have k1849 := i_eq c1848
                    exact J54 ls H1827 locsH1843 (lv_sub hl [0, 1, 2, 3, 4] rfl) hTH1827 hSH1843 (by have := i_rng x1; omega) (by have := i_rng x2; omega) (by have := i_rng x3; omega) (by have := i_rng x4; omega) m1833 g1829 g1830 g1831 g1832 (by omega)
              · have k1845 := i_eq c1844
                exfalso
                omega
            · subst hvH1843
              refine W.eq (g2 := F0 m 37 ls [.int 0]) rfl ?_
              refine lv_if_ne (tgt := 42) hx hb dX10_in_37 (by decide) (fun c1866 => ?_) (fun c1866 => ?_)
              · have k1867 := i_ne c1866
                exfalso
                omega
              · have k1867 := i_eq c1866
                exact J40 ls H1827 locsH1843 (lv_sub hl [] rfl) hTH1827 hSH1843 m1833 g1829 g1830 g1831 g1832
        · subst hvH1840
          refine W.eq (g2 := F0 m 26 ls [.int 0]) rfl ?_
          refine lv_if_eq (tgt := 40) hx hb dX10_in_26 (by decide) (fun c1868 => ?_) (fun c1868 => ?_)
          · have k1869 := i_eq c1868
            exact J40 ls H1827 locsH1840 (lv_sub hl [] rfl) hTH1827 hSH1840 m1833 g1829 g1830 g1831 g1832
          · have k1869 := i_ne c1868
            exfalso
            omega
    · subst hvH1837
      refine W.eq (g2 := F0 m 18 ls [.int 0]) rfl ?_
      refine lv_if_eq (tgt := 40) hx hb dX10_in_18 (by decide) (fun c1870 => ?_) (fun c1870 => ?_)
      · have k1871 := i_eq c1870
        exact J40 ls H1827 locsH1837 (lv_sub hl [] rfl) hTH1827 hSH1837 m1833 g1829 g1830 g1831 g1832
      · have k1871 := i_ne c1870
        exfalso
        omega

set_option maxHeartbeats 4000000 in
set_option maxRecDepth 100000 in
theorem a_X10_night (l : Launch) (K : KE) (G : Nat → Option Nat) (H : Heap) {a0 : Nat} (x1 : Int32) (x2 : Int32) (hT : TY K G H) (ga0 : G a0 = some 112) (hg_CG : CG (avw K H a0)) (hg_TU : TU (avw K H a0) (svw K H a0)) (hg_WD : WD (avw K H a0)) (hg_IM : IM (avw K H a0)) : MX l K yX10_night cX10_night 3 (some .int) 2 44 0 0 [.ref a0, .int x1, .int x2] H (AE G [112, 154, 155] H.size) (fun v H1 => ∃ (r : Int32), v = some (.int r) ∧ (CG (avw K H1 a0)) ∧ (TU (avw K H1 a0) (svw K H1 a0)) ∧ (WD (avw K H1 a0)) ∧ (IM (avw K H1 a0)) ∧ TY K G H1) := by
  refine MX.of (by decide +kernel) (Nat.le_of_ble_eq_true rfl) ?_
  intro p e s m below meth c ls Q C hH hl hQ
  subst hH
  have C : CX p K s m _ meth c RX10 cX10_night 3 (some .int) "night" := C
  obtain ⟨hx, hb, hml, hown, hts, hKT, hr, hlocks, hnm⟩ := id C
  have hl : lv_has ls 3 [(0, .ref a0), (1, .int x1), (2, .int x2)] := hl
  have hS : va_S (AE G [112, 154, 155] s.heap.size) s.heap s.heap [] := va_S.rf
  have n_m1 : ((-1) : Int32).toInt = -1 := rfl
  have n_0 : (0 : Int32).toInt = 0 := rfl
  have n_1 : (1 : Int32).toInt = 1 := rfl
  have n_20 : (20 : Int32).toInt = 20 := rfl
  have hap : ∀ x y, x < 74 → y < 74 → x ≠ y → K.1.2 10 x ≠ K.1.2 10 y := x_apart hKT hts inX10 tyX10 tyX10_ok nmX10 rfl
  have J30 : ∀ (ls338 : Array Slot) (H337 : Heap) (locsH337 : List Loc) , lv_has ls338 3 [] → TY K G H337 → va_S (AE G [112, 154, 155] s.heap.size) s.heap H337 locsH337 → (CG (avw K H337 a0)) → (TU (avw K H337 a0) (svw K H337 a0)) → (WD (avw K H337 a0)) → (IM (avw K H337 a0)) → W p l e ({ frames := 2, cells := 0, slots := 0, locals := 44 } : Room) s m (([.ref a0, .int x1, .int x2] : List Value).toArray) below meth c H337 locsH337 0 0 Q (F0 m 30 ls338 []) := by
    intro ls338 H337 locsH337  hl339 hTH337 hSH337 gy340_CG gy340_TU gy340_WD gy340_IM
    refine lv_iconst (v := (-1)) hx hb dX10_night_30 (by decide) ?_
    exact x_iret C hQ dX10_night_31 hSH337 (by decide) (by decide) (⟨(-1), rfl, gy340_CG, gy340_TU, gy340_WD, gy340_IM, hTH337⟩)
  refine lv_aload_n hx hb dX10_night_0 rfl (lv_at hl 0 rfl) ?_
  refine lv_iconst (v := 0) hx hb dX10_night_1 (by decide) ?_
  refine x_put C hT hS (ci := 10) (k := 0) (v := .int 0) (ty0 := tyX10) rfl inX10 tyX10_ok nmX10 (by decide) rfl wF_X10_167 ga0 rg_112 rfl rfl (okI (by have := i_rng (0 : Int32); omega) (by have := i_rng (0 : Int32); omega)) rfl rfl (AE_in ga0 (by decide)) dX10_night_2 (fun H341 locsH341 hTH341 hSH341 wH341 => ?_)
  have g342 : CG (avw K H341 a0) := CG.congr (fun k hk j => av_fld hT ga0 hap wH341 (by decide) (CG_ok 112 (by decide) k hk) (CG_ne 0 (by decide) k hk)) hg_CG
  have g343 : TU (avw K H341 a0) (svw K H341 a0) := TU.congr (fun k hk j => av_fld hT ga0 hap wH341 (by decide) (TU_ok 112 (by decide) k hk) (TU_ne 0 (by decide) k hk)) (fun k hk => sv_fld hap wH341 (by decide) (TU_slt k hk) (TU_sne 0 (by decide) k hk)) hg_TU
  have g344 : WD (avw K H341 a0) := WD.congr (fun k hk j => av_fld hT ga0 hap wH341 (by decide) (WD_ok 112 (by decide) k hk) (WD_ne 0 (by decide) k hk)) hg_WD
  have g345 : IM (avw K H341 a0) := IM.congr (fun k hk j => av_fld hT ga0 hap wH341 (by decide) (IM_ok 112 (by decide) k hk) (IM_ne 0 (by decide) k hk)) hg_IM
  have m346 := Wr.I wH341
  refine lv_aload_n hx hb dX10_night_5 rfl (lv_at hl 0 rfl) ?_
  refine lv_iload_n hx hb dX10_night_6 rfl (lv_at hl 1 rfl) ?_
  refine x_V (As := [.int x1]) (rest := []) C (c_X10_isHeat l K G H341 (x1) hTH341 ga0) yo_X10_isHeat wM_X10_428 ⟨⟨by decide, by decide⟩, by decide, by decide⟩ (x_rv C hTH341 (ci := 10) rfl ga0 rg_112) rfl hl.1 rfl (Nat.le_of_ble_eq_true rfl) dX10_night_7 hSH341 (AE_sub (fun _ _ => rfl) (by decide) hSH341.1) (fun vH347 H347 locsH347 pH347 zH347 kH347 hSH347 => ?_)
  have hqH347 := pH347.1.symm
  subst hqH347
  rcases pH347.2 with ⟨hvH347, hcH347⟩ | ⟨hvH347, hcH347⟩
  · subst hvH347
    refine W.eq (g2 := F0 m 10 ls [.int 1]) rfl ?_
    refine lv_if_eq (tgt := 30) hx hb dX10_night_10 (by decide) (fun c348 => ?_) (fun c348 => ?_)
    · have k349 := i_eq c348
      exfalso
      omega
    · have k349 := i_ne c348
      refine lv_aload_n hx hb dX10_night_13 rfl (lv_at hl 0 rfl) ?_
      refine lv_iload_n hx hb dX10_night_14 rfl (lv_at hl 2 rfl) ?_
      refine x_V (As := [.int x2]) (rest := []) C (c_X10_isWet l K G H341 (x2) hTH341 ga0) yo_X10_isWet wM_X10_431 ⟨⟨by decide, by decide⟩, by decide, by decide⟩ (x_rv C hTH341 (ci := 10) rfl ga0 rg_112) rfl hl.1 rfl (Nat.le_of_ble_eq_true rfl) dX10_night_15 hSH347 (AE_sub (fun _ _ => rfl) (by decide) hSH347.1) (fun vH350 H350 locsH350 pH350 zH350 kH350 hSH350 => ?_)
      have hqH350 := pH350.1.symm
      subst hqH350
      rcases pH350.2 with ⟨hvH350, hcH350⟩ | ⟨hvH350, hcH350⟩
      · subst hvH350
        refine W.eq (g2 := F0 m 18 ls [.int 1]) rfl ?_
        refine lv_if_eq (tgt := 30) hx hb dX10_night_18 (by decide) (fun c351 => ?_) (fun c351 => ?_)
        · have k352 := i_eq c351
          exfalso
          omega
        · have k352 := i_ne c351
          refine lv_aload_n hx hb dX10_night_21 rfl (lv_at hl 0 rfl) ?_
          refine x_gi C hTH341 (ci := 10) (k := 59) rfl inX10 (by decide) wF_X10_438 ga0 rg_112 rfl dX10_night_22 (fun x353 ex353 bx353 => ?_)
          refine lv_bipush (v := 20) hx hb dX10_night_25 (by decide) ?_
          refine lv_icmp_ne (tgt := 32) hx hb dX10_night_27 (by decide) (fun c354 => ?_) (fun c354 => ?_)
          · have k355 := i_ne c354
            refine lv_aload_n hx hb dX10_night_32 rfl (lv_at hl 0 rfl) ?_
            refine x_gr C hTH341 (ci := 10) (k := 60) rfl inX10 (by decide) wF_X10_140 ga0 rg_112 rfl dX10_night_33 (fun q356 eq356 gq356 => ?_)
            refine lv_aload_n hx hb dX10_night_36 rfl (lv_at hl 0 rfl) ?_
            refine x_gi C hTH341 (ci := 10) (k := 59) rfl inX10 (by decide) wF_X10_438 ga0 rg_112 rfl dX10_night_37 (fun x357 ex357 bx357 => ?_)
            have ux357 : x353 = x357 := (ex353).trans ex357.symm
            subst ux357
            refine lv_iload_n hx hb dX10_night_40 rfl (lv_at hl 1 rfl) ?_
            refine x_iast C hTH341 hSH350 gq356 rg_154 (by omega) (by show _ < ((20 : Nat) : Int); omega) ⟨by have := i_rng x1; omega, by have := i_rng x1; omega⟩ (AE_in gq356 (by decide)) dX10_night_41 (fun H358 locsH358 hTH358 hSH358 wH358 => ?_)
            have g359 : CG (avw K H358 a0) := CG.congr (fun k hk j => av_arr hTH341 ga0 wH358 gq356 (by decide) (CG_ok 154 (by decide) k hk)) g342
            have g360 : TU (avw K H358 a0) (svw K H358 a0) := TU.congr (fun k hk j => av_arr hTH341 ga0 wH358 gq356 (by decide) (TU_ok 154 (by decide) k hk)) (fun k hk => sv_arr ga0 wH358 gq356 (by decide)) g343
            have g361 : WD (avw K H358 a0) := WD.congr (fun k hk j => av_arr hTH341 ga0 wH358 gq356 (by decide) (WD_ok 154 (by decide) k hk)) g344
            have g362 : IM (avw K H358 a0) := IM.congr (fun k hk j => av_arr hTH341 ga0 wH358 gq356 (by decide) (IM_ok 154 (by decide) k hk)) g345
            have m363 := (Wr.neI wH358 (Or.inl (G_ne ga0 gq356 (by decide)))).trans m346
            have m364 := ex353.trans (Wr.neI wH358 (Or.inl (G_ne ga0 gq356 (by decide)))).symm
            have m365 := eq356.trans (Wr.neR wH358 (Or.inl (G_ne ga0 gq356 (by decide)))).symm
            have m366 := Wr.I wH358
            have m366 := m366.symm
            refine lv_aload_n hx hb dX10_night_42 rfl (lv_at hl 0 rfl) ?_
            refine x_gr C hTH358 (ci := 10) (k := 61) rfl inX10 (by decide) wF_X10_143 ga0 rg_112 rfl dX10_night_43 (fun q367 eq367 gq367 => ?_)
            refine lv_aload_n hx hb dX10_night_46 rfl (lv_at hl 0 rfl) ?_
            refine x_gi C hTH358 (ci := 10) (k := 59) rfl inX10 (by decide) wF_X10_438 ga0 rg_112 rfl dX10_night_47 (fun x368 ex368 bx368 => ?_)
            have ux368 : x353 = x368 := (m364).trans ex368.symm
            subst ux368
            refine lv_iload_n hx hb dX10_night_50 rfl (lv_at hl 2 rfl) ?_
            refine x_iast C hTH358 hSH358 gq367 rg_155 (by omega) (by show _ < ((20 : Nat) : Int); omega) ⟨by have := i_rng x2; omega, by have := i_rng x2; omega⟩ (AE_in gq367 (by decide)) dX10_night_51 (fun H369 locsH369 hTH369 hSH369 wH369 => ?_)
            have g370 : CG (avw K H369 a0) := CG.congr (fun k hk j => av_arr hTH358 ga0 wH369 gq367 (by decide) (CG_ok 155 (by decide) k hk)) g359
            have g371 : TU (avw K H369 a0) (svw K H369 a0) := TU.congr (fun k hk j => av_arr hTH358 ga0 wH369 gq367 (by decide) (TU_ok 155 (by decide) k hk)) (fun k hk => sv_arr ga0 wH369 gq367 (by decide)) g360
            have g372 : WD (avw K H369 a0) := WD.congr (fun k hk j => av_arr hTH358 ga0 wH369 gq367 (by decide) (WD_ok 155 (by decide) k hk)) g361
            have g373 : IM (avw K H369 a0) := IM.congr (fun k hk j => av_arr hTH358 ga0 wH369 gq367 (by decide) (IM_ok 155 (by decide) k hk)) g362
            have m374 := (Wr.neI wH369 (Or.inl (G_ne ga0 gq367 (by decide)))).trans m363
            have m375 := m364.trans (Wr.neI wH369 (Or.inl (G_ne ga0 gq367 (by decide)))).symm
            have m376 := m365.trans (Wr.neR wH369 (Or.inl (G_ne ga0 gq367 (by decide)))).symm
            have m377 := m366.trans (Wr.neI wH369 (Or.inl (G_ne gq356 gq367 (by decide)))).symm
            have m378 := eq367.trans (Wr.neR wH369 (Or.inl (G_ne ga0 gq367 (by decide)))).symm
            have m379 := Wr.I wH369
            have m379 := m379.symm
            refine lv_aload_n hx hb dX10_night_52 rfl (lv_at hl 0 rfl) ?_
            refine lv_aload_n hx hb dX10_night_53 rfl (lv_at hl 0 rfl) ?_
            refine x_gi C hTH369 (ci := 10) (k := 59) rfl inX10 (by decide) wF_X10_438 ga0 rg_112 rfl dX10_night_54 (fun x380 ex380 bx380 => ?_)
            have ux380 : x353 = x380 := (m375).trans ex380.symm
            subst ux380
            refine lv_iconst (v := 1) hx hb dX10_night_57 (by decide) ?_
            refine lv_iadd hx hb dX10_night_58 ?_
            refine lv_topi (fun x381 ex381 => ?_)
            have tx381 := i_add ex381 (by omega)
            refine x_put C hTH369 hSH369 (ci := 10) (k := 59) (v := .int x381) (ty0 := tyX10) rfl inX10 tyX10_ok nmX10 (by decide) rfl wF_X10_438 ga0 rg_112 rfl rfl (okI (by have := i_rng x381; omega) (by have := i_rng x381; omega)) rfl rfl (AE_in ga0 (by decide)) dX10_night_59 (fun H382 locsH382 hTH382 hSH382 wH382 => ?_)
            have g383 : CG (avw K H382 a0) := CG.congr (fun k hk j => av_fld hTH369 ga0 hap wH382 (by decide) (CG_ok 112 (by decide) k hk) (CG_ne 59 (by decide) k hk)) g370
            have g384 : TU (avw K H382 a0) (svw K H382 a0) := TU.congr (fun k hk j => av_fld hTH369 ga0 hap wH382 (by decide) (TU_ok 112 (by decide) k hk) (TU_ne 59 (by decide) k hk)) (fun k hk => sv_fld hap wH382 (by decide) (TU_slt k hk) (TU_sne 59 (by decide) k hk)) g371
            have g385 : WD (avw K H382 a0) := WD.congr (fun k hk j => av_fld hTH369 ga0 hap wH382 (by decide) (WD_ok 112 (by decide) k hk) (WD_ne 59 (by decide) k hk)) g372
            have g386 : IM (avw K H382 a0) := IM.congr (fun k hk j => av_fld hTH369 ga0 hap wH382 (by decide) (IM_ok 112 (by decide) k hk) (IM_ne 59 (by decide) k hk)) g373
            have m387 := (Wr.neI wH382 (Or.inr (x_apart hKT hts inX10 tyX10 tyX10_ok nmX10 rfl 0 59 (by decide) (by decide) (by decide)))).trans m374
            have m389 := m376.trans (Wr.neR wH382 (Or.inr (x_apart hKT hts inX10 tyX10 tyX10_ok nmX10 rfl 60 59 (by decide) (by decide) (by decide)))).symm
            have m390 := m377.trans (Wr.neI wH382 (Or.inl (G_ne gq356 ga0 (by decide)))).symm
            have m391 := m378.trans (Wr.neR wH382 (Or.inr (x_apart hKT hts inX10 tyX10 tyX10_ok nmX10 rfl 61 59 (by decide) (by decide) (by decide)))).symm
            have m392 := m379.trans (Wr.neI wH382 (Or.inl (G_ne gq367 ga0 (by decide)))).symm
            have m393 := Wr.I wH382
            have m393 := m393.symm
            refine lv_aload_n hx hb dX10_night_62 rfl (lv_at hl 0 rfl) ?_
            refine x_gi C hTH382 (ci := 10) (k := 59) rfl inX10 (by decide) wF_X10_438 ga0 rg_112 rfl dX10_night_63 (fun x394 ex394 bx394 => ?_)
            have ux394 : x381 = x394 := (m393).trans ex394.symm
            subst ux394
            refine lv_iconst (v := 1) hx hb dX10_night_66 (by decide) ?_
            refine lv_isub hx hb dX10_night_67 ?_
            refine lv_topi (fun x395 ex395 => ?_)
            have tx395 := i_sub ex395 (by omega)
            exact x_iret C hQ dX10_night_68 hSH382 (by decide) (by decide) (⟨x395, rfl, g383, g384, g385, g386, hTH382⟩)
          · have k355 := i_eq c354
            exact J30 ls H341 locsH350 (lv_sub hl [] rfl) hTH341 hSH350 g342 g343 g344 g345
      · subst hvH350
        refine W.eq (g2 := F0 m 18 ls [.int 0]) rfl ?_
        refine lv_if_eq (tgt := 30) hx hb dX10_night_18 (by decide) (fun c396 => ?_) (fun c396 => ?_)
        · have k397 := i_eq c396
          exact J30 ls H341 locsH350 (lv_sub hl [] rfl) hTH341 hSH350 g342 g343 g344 g345
        · have k397 := i_ne c396
          exfalso
          omega
  · subst hvH347
    refine W.eq (g2 := F0 m 10 ls [.int 0]) rfl ?_
    refine lv_if_eq (tgt := 30) hx hb dX10_night_10 (by decide) (fun c398 => ?_) (fun c398 => ?_)
    · have k399 := i_eq c398
      exact J30 ls H341 locsH347 (lv_sub hl [] rfl) hTH341 hSH347 g342 g343 g344 g345
    · have k399 := i_ne c398
      exfalso
      omega

set_option maxHeartbeats 4000000 in
set_option maxRecDepth 100000 in
theorem a_X10_nights (l : Launch) (K : KE) (G : Nat → Option Nat) (H : Heap) {a0 : Nat} (x1 : Int32) (x2 : Int32) (hT : TY K G H) (ga0 : G a0 = some 112) (hg_CG : CG (avw K H a0)) (hg_TU : TU (avw K H a0) (svw K H a0)) (hg_WD : WD (avw K H a0)) (hg_IM : IM (avw K H a0)) : MX l K yX10_nights cX10_nights 5 (some .int) 11 266 0 0 [.ref a0, .int x1, .int x2] H (AE G [112, 140, 139] H.size) (fun v H1 => ∃ (r : Int32), v = some (.int r) ∧ (CG (avw K H1 a0)) ∧ (TU (avw K H1 a0) (svw K H1 a0)) ∧ (WD (avw K H1 a0)) ∧ (IM (avw K H1 a0)) ∧ TY K G H1) := by
  refine MX.of (by decide +kernel) (Nat.le_of_ble_eq_true rfl) ?_
  intro p e s m below meth c ls Q C hH hl hQ
  subst hH
  have C : CX p K s m _ meth c RX10 cX10_nights 5 (some .int) "nights" := C
  obtain ⟨hx, hb, hml, hown, hts, hKT, hr, hlocks, hnm⟩ := id C
  have hl : lv_has ls 5 [(0, .ref a0), (1, .int x1), (2, .int x2)] := hl
  have hS : va_S (AE G [112, 140, 139] s.heap.size) s.heap s.heap [] := va_S.rf
  have n_m2 : ((-2) : Int32).toInt = -2 := rfl
  have n_m1 : ((-1) : Int32).toInt = -1 := rfl
  have n_0 : (0 : Int32).toInt = 0 := rfl
  have n_1 : (1 : Int32).toInt = 1 := rfl
  have n_2 : (2 : Int32).toInt = 2 := rfl
  have n_3 : (3 : Int32).toInt = 3 := rfl
  have hap : ∀ x y, x < 74 → y < 74 → x ≠ y → K.1.2 10 x ≠ K.1.2 10 y := x_apart hKT hts inX10 tyX10 tyX10_ok nmX10 rfl
  have J68 : ∀ (ls643 : Array Slot) (H642 : Heap) (locsH642 : List Loc) , lv_has ls643 5 [(0, .ref a0), (1, .int x1), (2, .int x2)] → TY K G H642 → va_S (AE G [112, 140, 139] s.heap.size) s.heap H642 locsH642 → (0 ≤ x1.toInt ∧ x1.toInt ≤ 19) → (0 ≤ x2.toInt ∧ x2.toInt ≤ 1) → (CG (avw K H642 a0)) → (TU (avw K H642 a0) (svw K H642 a0)) → (WD (avw K H642 a0)) → (IM (avw K H642 a0)) → W p l e ({ frames := 11, cells := 0, slots := 0, locals := 266 } : Room) s m (([.ref a0, .int x1, .int x2] : List Value).toArray) below meth c H642 locsH642 0 0 Q (F0 m 68 ls643 []) := by
    intro ls643 H642 locsH642  hl644 hTH642 hSH642 b645 b646 gy647_CG gy647_TU gy647_WD gy647_IM
    refine lv_aload_n hx hb dX10_nights_68 rfl (lv_at hl644 0 rfl) ?_
    refine lv_iload_n hx hb dX10_nights_69 rfl (lv_at hl644 1 rfl) ?_
    refine lv_iload_n hx hb dX10_nights_70 rfl (lv_at hl644 2 rfl) ?_
    obtain ⟨x648, ex648⟩ : ∃ z : Int32, z = fI H642 a0 (K.1.2 10 1) := ⟨_, rfl⟩
    have bx648 := ty_fi (x := x648) (k := 1) ex648 hTH642 ga0 rg_112 rfl
    refine x_V (As := [.int x1, .int x2]) (rest := []) C (a_X10_worstOf l K G H642 (x1) (x2) (x648) hTH642 ga0 (by omega) (by omega) ex648 gy647_CG gy647_TU) yo_X10_worstOf wM_X10_441 ⟨⟨by decide, by decide⟩, by decide, by decide⟩ (x_rv C hTH642 (ci := 10) rfl ga0 rg_112) rfl hl644.1 rfl (Nat.le_of_ble_eq_true rfl) dX10_nights_71 hSH642 (AE_sub (fun _ _ => rfl) (by decide) hSH642.1) (fun vH649 H649 locsH649 pH649 zH649 kH649 hSH649 => ?_)
    obtain ⟨x650, hvH649, bx650, hrH649, hTH649⟩ := pH649
    subst hvH649
    have g651 : CG (avw K H649 a0) := CG.congr (fun k hk j => av_eff hTH642 kH649 ga0 (by decide) (CG_eff [140, 139] (by decide) k hk)) gy647_CG
    have g652 : TU (avw K H649 a0) (svw K H649 a0) := TU.congr (fun k hk j => av_eff hTH642 kH649 ga0 (by decide) (TU_eff [140, 139] (by decide) k hk)) (fun k hk => sv_eff hTH642 kH649 ga0 (by decide)) gy647_TU
    have g653 : WD (avw K H649 a0) := WD.congr (fun k hk j => av_eff hTH642 kH649 ga0 (by decide) (WD_eff [140, 139] (by decide) k hk)) gy647_WD
    have g654 : IM (avw K H649 a0) := IM.congr (fun k hk j => av_eff hTH642 kH649 ga0 (by decide) (IM_eff [140, 139] (by decide) k hk)) gy647_IM
    have m655 := (ex648).trans (fI_kept (x_lt hTH642 kH649 ga0 (by decide))).symm
    refine W.eq (g2 := F0 m 74 ls643 [.int x650]) rfl ?_
    exact x_iret C hQ dX10_nights_74 hSH649 (by decide) (by decide) (⟨x650, rfl, g651, g652, g653, g654, hTH649⟩)
  have J103 : ∀ (ls657 : Array Slot) (H656 : Heap) (locsH656 : List Loc) (x659 : Int32), lv_has ls657 5 [] → TY K G H656 → va_S (AE G [112, 140, 139] s.heap.size) s.heap H656 locsH656 → (CG (avw K H656 a0)) → (TU (avw K H656 a0) (svw K H656 a0)) → (WD (avw K H656 a0)) → (IM (avw K H656 a0)) → W p l e ({ frames := 11, cells := 0, slots := 0, locals := 266 } : Room) s m (([.ref a0, .int x1, .int x2] : List Value).toArray) below meth c H656 locsH656 0 0 Q (F0 m 103 ls657 [.int x659]) := by
    intro ls657 H656 locsH656 x659 hl658 hTH656 hSH656 gy660_CG gy660_TU gy660_WD gy660_IM
    exact x_iret C hQ dX10_nights_103 hSH656 (by decide) (by decide) (⟨x659, rfl, gy660_CG, gy660_TU, gy660_WD, gy660_IM, hTH656⟩)
  have J15 : ∀ (nf : Nat) (ls662 : Array Slot) (H661 : Heap) (locsH661 : List Loc) (x664 : Int32) (x665 : Int32), lv_has ls662 5 [(0, .ref a0), (3, .int x664), (4, .int x665)] → TY K G H661 → va_S (AE G [112, 140, 139] s.heap.size) s.heap H661 locsH661 → (0 ≤ x665.toInt ∧ x665.toInt ≤ 20) → (CG (avw K H661 a0)) → (TU (avw K H661 a0) (svw K H661 a0)) → (WD (avw K H661 a0)) → (IM (avw K H661 a0)) → (20 - x665.toInt < (nf : Int)) → W p l e ({ frames := 11, cells := 0, slots := 0, locals := 266 } : Room) s m (([.ref a0, .int x1, .int x2] : List Value).toArray) below meth c H661 locsH661 0 0 Q (F0 m 15 ls662 []) := by
    intro nf
    induction nf with
    | zero =>
      intro ls662 H661 locsH661 x664 x665 hl663 hTH661 hSH661 bx665 gy666_CG gy666_TU gy666_WD gy666_IM hm15
      have rx664 := i_rng x664
      exfalso
      omega
    | succ nf ih15 =>
      intro ls662 H661 locsH661 x664 x665 hl663 hTH661 hSH661 bx665 gy666_CG gy666_TU gy666_WD gy666_IM hm15
      have rx664 := i_rng x664
      refine lv_iload hx hb dX10_nights_15 (lv_at hl663 2 rfl) ?_
      refine lv_aload_n hx hb dX10_nights_17 rfl (lv_at hl663 0 rfl) ?_
      refine x_gi C hTH661 (ci := 10) (k := 59) rfl inX10 (by decide) wF_X10_438 ga0 rg_112 rfl dX10_nights_18 (fun x667 ex667 bx667 => ?_)
      refine lv_icmp_ge (tgt := 39) hx hb dX10_nights_21 (by decide) (fun c668 => ?_) (fun c668 => ?_)
      · have k669 := i_le c668
        refine lv_iload_n hx hb dX10_nights_39 rfl (lv_at hl663 1 rfl) ?_
        exact x_iret C hQ dX10_nights_40 hSH661 (by decide) (by decide) (⟨x664, rfl, gy666_CG, gy666_TU, gy666_WD, gy666_IM, hTH661⟩)
      · have k669 := i_nle c668
        refine lv_iload_n hx hb dX10_nights_24 rfl (lv_at hl663 1 rfl) ?_
        refine lv_aload_n hx hb dX10_nights_25 rfl (lv_at hl663 0 rfl) ?_
        refine lv_iload hx hb dX10_nights_26 (lv_at hl663 2 rfl) ?_
        refine x_V (As := [.int x665]) (rest := [.int x664]) C (a_X10_suits l K G H661 (x665) hTH661 ga0 (by omega) gy666_CG gy666_TU) yo_X10_suits wM_X10_449 ⟨⟨by decide, by decide⟩, by decide, by decide⟩ (x_rv C hTH661 (ci := 10) rfl ga0 rg_112) rfl hl663.1 rfl (Nat.le_of_ble_eq_true rfl) dX10_nights_28 hSH661 (AE_sub (fun _ _ => rfl) (by decide) hSH661.1) (fun vH670 H670 locsH670 pH670 zH670 kH670 hSH670 => ?_)
        obtain ⟨x671, hvH670, hTH670⟩ := pH670
        subst hvH670
        have g672 : CG (avw K H670 a0) := CG.congr (fun k hk j => av_eff hTH661 kH670 ga0 (by decide) (CG_eff [140, 139] (by decide) k hk)) gy666_CG
        have g673 : TU (avw K H670 a0) (svw K H670 a0) := TU.congr (fun k hk j => av_eff hTH661 kH670 ga0 (by decide) (TU_eff [140, 139] (by decide) k hk)) (fun k hk => sv_eff hTH661 kH670 ga0 (by decide)) gy666_TU
        have g674 : WD (avw K H670 a0) := WD.congr (fun k hk j => av_eff hTH661 kH670 ga0 (by decide) (WD_eff [140, 139] (by decide) k hk)) gy666_WD
        have g675 : IM (avw K H670 a0) := IM.congr (fun k hk j => av_eff hTH661 kH670 ga0 (by decide) (IM_eff [140, 139] (by decide) k hk)) gy666_IM
        have m676 := (ex667).trans (fI_kept (x_lt hTH661 kH670 ga0 (by decide))).symm
        refine W.eq (g2 := F0 m 31 ls662 [.int x671, .int x664]) rfl ?_
        refine lv_iadd hx hb dX10_nights_31 ?_
        refine lv_topi (fun x677 ex677 => ?_)
        refine lv_istore_n (lv' := [(3, .int x677), (0, .ref a0), (4, .int x665)]) hx hb dX10_nights_32 rfl hl663 (by decide) rfl (fun ls678 hl679 => ?_)
        obtain ⟨x680, ex680⟩ : ∃ y : Int32, y = x665 + 1 := ⟨_, rfl⟩
        have tx680 := i_add ex680 (by omega)
        refine lv_iinc (v := x680) (lv' := [(4, .int x680), (3, .int x677), (0, .ref a0)]) hx hb dX10_nights_33 hl679 (k := 2) rfl (by rw [ex680]; rfl) (by decide) rfl (fun ls681 hl682 => ?_)
        refine lv_goto (tgt := 15) hx hb dX10_nights_36 (by decide) ?_
        exact ih15 ls681 H670 locsH670 (x677) (x680) (lv_sub hl682 [2, 1, 0] rfl) hTH670 hSH670 (by have := i_rng x680; omega) g672 g673 g674 g675 (by omega)
  refine lv_aload_n hx hb dX10_nights_0 rfl (lv_at hl 0 rfl) ?_
  refine lv_iconst (v := 0) hx hb dX10_nights_1 (by decide) ?_
  refine x_put C hT hS (ci := 10) (k := 0) (v := .int 0) (ty0 := tyX10) rfl inX10 tyX10_ok nmX10 (by decide) rfl wF_X10_167 ga0 rg_112 rfl rfl (okI (by have := i_rng (0 : Int32); omega) (by have := i_rng (0 : Int32); omega)) rfl rfl (AE_in ga0 (by decide)) dX10_nights_2 (fun H683 locsH683 hTH683 hSH683 wH683 => ?_)
  have g684 : CG (avw K H683 a0) := CG.congr (fun k hk j => av_fld hT ga0 hap wH683 (by decide) (CG_ok 112 (by decide) k hk) (CG_ne 0 (by decide) k hk)) hg_CG
  have g685 : TU (avw K H683 a0) (svw K H683 a0) := TU.congr (fun k hk j => av_fld hT ga0 hap wH683 (by decide) (TU_ok 112 (by decide) k hk) (TU_ne 0 (by decide) k hk)) (fun k hk => sv_fld hap wH683 (by decide) (TU_slt k hk) (TU_sne 0 (by decide) k hk)) hg_TU
  have g686 : WD (avw K H683 a0) := WD.congr (fun k hk j => av_fld hT ga0 hap wH683 (by decide) (WD_ok 112 (by decide) k hk) (WD_ne 0 (by decide) k hk)) hg_WD
  have g687 : IM (avw K H683 a0) := IM.congr (fun k hk j => av_fld hT ga0 hap wH683 (by decide) (IM_ok 112 (by decide) k hk) (IM_ne 0 (by decide) k hk)) hg_IM
  have m688 := Wr.I wH683
  refine lv_iload_n hx hb dX10_nights_5 rfl (lv_at hl 1 rfl) ?_
  refine lv_iconst (v := (-1)) hx hb dX10_nights_6 (by decide) ?_
  refine lv_icmp_ne (tgt := 41) hx hb dX10_nights_7 (by decide) (fun c689 => ?_) (fun c689 => ?_)
  · have k690 := i_ne c689
    refine lv_aload_n hx hb dX10_nights_41 rfl (lv_at hl 0 rfl) ?_
    refine lv_iload_n hx hb dX10_nights_42 rfl (lv_at hl 1 rfl) ?_
    refine lv_iconst (v := 0) hx hb dX10_nights_43 (by decide) ?_
    refine lv_aload_n hx hb dX10_nights_44 rfl (lv_at hl 0 rfl) ?_
    refine x_gi C hTH683 (ci := 10) (k := 59) rfl inX10 (by decide) wF_X10_438 ga0 rg_112 rfl dX10_nights_45 (fun x691 ex691 bx691 => ?_)
    refine lv_iconst (v := 1) hx hb dX10_nights_48 (by decide) ?_
    refine lv_isub hx hb dX10_nights_49 ?_
    refine lv_topi (fun x692 ex692 => ?_)
    have tx692 := i_sub ex692 (by omega)
    refine x_V (As := [.int x1, .int 0, .int x692]) (rest := []) C (c_X10_isIn l K G H683 (x1) (0) (x692) hTH683 ga0) yo_X10_isIn wM_X10_177 ⟨⟨by decide, by decide⟩, by decide, by decide⟩ (x_rv C hTH683 (ci := 10) rfl ga0 rg_112) rfl hl.1 rfl (Nat.le_of_ble_eq_true rfl) dX10_nights_50 hSH683 (AE_sub (fun _ _ => rfl) (by decide) hSH683.1) (fun vH693 H693 locsH693 pH693 zH693 kH693 hSH693 => ?_)
    have hqH693 := pH693.1.symm
    subst hqH693
    rcases pH693.2 with ⟨hvH693, hcH693⟩ | ⟨hvH693, hcH693⟩
    · subst hvH693
      refine W.eq (g2 := F0 m 53 ls [.int 1]) rfl ?_
      refine lv_if_ne (tgt := 59) hx hb dX10_nights_53 (by decide) (fun c694 => ?_) (fun c694 => ?_)
      · have k695 := i_ne c694
        refine lv_iload_n hx hb dX10_nights_59 rfl (lv_at hl 2 rfl) ?_
        refine lv_if_eq (tgt := 68) hx hb dX10_nights_60 (by decide) (fun c696 => ?_) (fun c696 => ?_)
        · have k697 := i_eq c696
          exact J68 ls H683 locsH693 (lv_sub hl [0, 1, 2] rfl) hTH683 hSH693 (by have := i_rng x1; omega) (by have := i_rng x2; omega) g684 g685 g686 g687
        · have k697 := i_ne c696
          refine lv_iload_n hx hb dX10_nights_63 rfl (lv_at hl 2 rfl) ?_
          refine lv_iconst (v := 1) hx hb dX10_nights_64 (by decide) ?_
          refine lv_icmp_ne (tgt := 75) hx hb dX10_nights_65 (by decide) (fun c698 => ?_) (fun c698 => ?_)
          · have k699 := i_ne c698
            refine lv_iload_n hx hb dX10_nights_75 rfl (lv_at hl 2 rfl) ?_
            refine lv_iconst (v := 2) hx hb dX10_nights_76 (by decide) ?_
            refine lv_icmp_ne (tgt := 88) hx hb dX10_nights_77 (by decide) (fun c700 => ?_) (fun c700 => ?_)
            · have k701 := i_ne c700
              refine lv_iload_n hx hb dX10_nights_88 rfl (lv_at hl 2 rfl) ?_
              refine lv_iconst (v := 3) hx hb dX10_nights_89 (by decide) ?_
              refine lv_icmp_ne (tgt := 101) hx hb dX10_nights_90 (by decide) (fun c702 => ?_) (fun c702 => ?_)
              · have k703 := i_ne c702
                refine lv_bipush (v := (-2)) hx hb dX10_nights_101 (by decide) ?_
                exact J103 ls H683 locsH693 ((-2)) (lv_sub hl [] rfl) hTH683 hSH693 g684 g685 g686 g687
              · have k703 := i_eq c702
                refine lv_aload_n hx hb dX10_nights_93 rfl (lv_at hl 0 rfl) ?_
                refine lv_iload_n hx hb dX10_nights_94 rfl (lv_at hl 1 rfl) ?_
                refine x_V (As := [.int x1]) (rest := []) C (a_X10_together l K G H683 (x1) hTH683 ga0 (by omega) g684) yo_X10_together wM_X10_452 ⟨⟨by decide, by decide⟩, by decide, by decide⟩ (x_rv C hTH683 (ci := 10) rfl ga0 rg_112) rfl hl.1 rfl (Nat.le_of_ble_eq_true rfl) dX10_nights_95 hSH693 (AE_sub (fun _ _ => rfl) (by decide) hSH693.1) (fun vH704 H704 locsH704 pH704 zH704 kH704 hSH704 => ?_)
                obtain ⟨x705, hvH704, hTH704⟩ := pH704
                subst hvH704
                have g706 : CG (avw K H704 a0) := CG.congr (fun k hk j => av_eff hTH683 kH704 ga0 (by decide) (CG_eff [140, 139] (by decide) k hk)) g684
                have g707 : TU (avw K H704 a0) (svw K H704 a0) := TU.congr (fun k hk j => av_eff hTH683 kH704 ga0 (by decide) (TU_eff [140, 139] (by decide) k hk)) (fun k hk => sv_eff hTH683 kH704 ga0 (by decide)) g685
                have g708 : WD (avw K H704 a0) := WD.congr (fun k hk j => av_eff hTH683 kH704 ga0 (by decide) (WD_eff [140, 139] (by decide) k hk)) g686
                have g709 : IM (avw K H704 a0) := IM.congr (fun k hk j => av_eff hTH683 kH704 ga0 (by decide) (IM_eff [140, 139] (by decide) k hk)) g687
                have m710 := (fI_kept (x_lt hTH683 kH704 ga0 (by decide))).trans m688
                have m711 := (ex691).trans (fI_kept (x_lt hTH683 kH704 ga0 (by decide))).symm
                refine W.eq (g2 := F0 m 98 ls [.int x705]) rfl ?_
                refine lv_goto (tgt := 103) hx hb dX10_nights_98 (by decide) ?_
                exact J103 ls H704 locsH704 (x705) (lv_sub hl [] rfl) hTH704 hSH704 g706 g707 g708 g709
            · have k701 := i_eq c700
              refine lv_aload_n hx hb dX10_nights_80 rfl (lv_at hl 0 rfl) ?_
              refine lv_iload_n hx hb dX10_nights_81 rfl (lv_at hl 1 rfl) ?_
              refine x_V (As := [.int x1]) (rest := []) C (a_X10_suits l K G H683 (x1) hTH683 ga0 (by omega) g684 g685) yo_X10_suits wM_X10_449 ⟨⟨by decide, by decide⟩, by decide, by decide⟩ (x_rv C hTH683 (ci := 10) rfl ga0 rg_112) rfl hl.1 rfl (Nat.le_of_ble_eq_true rfl) dX10_nights_82 hSH693 (AE_sub (fun _ _ => rfl) (by decide) hSH693.1) (fun vH712 H712 locsH712 pH712 zH712 kH712 hSH712 => ?_)
              obtain ⟨x713, hvH712, hTH712⟩ := pH712
              subst hvH712
              have g714 : CG (avw K H712 a0) := CG.congr (fun k hk j => av_eff hTH683 kH712 ga0 (by decide) (CG_eff [140, 139] (by decide) k hk)) g684
              have g715 : TU (avw K H712 a0) (svw K H712 a0) := TU.congr (fun k hk j => av_eff hTH683 kH712 ga0 (by decide) (TU_eff [140, 139] (by decide) k hk)) (fun k hk => sv_eff hTH683 kH712 ga0 (by decide)) g685
              have g716 : WD (avw K H712 a0) := WD.congr (fun k hk j => av_eff hTH683 kH712 ga0 (by decide) (WD_eff [140, 139] (by decide) k hk)) g686
              have g717 : IM (avw K H712 a0) := IM.congr (fun k hk j => av_eff hTH683 kH712 ga0 (by decide) (IM_eff [140, 139] (by decide) k hk)) g687
              have m718 := (fI_kept (x_lt hTH683 kH712 ga0 (by decide))).trans m688
              have m719 := (ex691).trans (fI_kept (x_lt hTH683 kH712 ga0 (by decide))).symm
              refine W.eq (g2 := F0 m 85 ls [.int x713]) rfl ?_
              refine lv_goto (tgt := 103) hx hb dX10_nights_85 (by decide) ?_
              exact J103 ls H712 locsH712 (x713) (lv_sub hl [] rfl) hTH712 hSH712 g714 g715 g716 g717
          · have k699 := i_eq c698
            exact J68 ls H683 locsH693 (lv_sub hl [0, 1, 2] rfl) hTH683 hSH693 (by have := i_rng x1; omega) (by have := i_rng x2; omega) g684 g685 g686 g687
      · have k695 := i_eq c694
        exfalso
        omega
    · subst hvH693
      refine W.eq (g2 := F0 m 53 ls [.int 0]) rfl ?_
      refine lv_if_ne (tgt := 59) hx hb dX10_nights_53 (by decide) (fun c720 => ?_) (fun c720 => ?_)
      · have k721 := i_ne c720
        exfalso
        omega
      · have k721 := i_eq c720
        refine lv_bipush (v := (-2)) hx hb dX10_nights_56 (by decide) ?_
        exact x_iret C hQ dX10_nights_58 hSH693 (by decide) (by decide) (⟨(-2), rfl, g684, g685, g686, g687, hTH683⟩)
  · have k690 := i_eq c689
    refine lv_iconst (v := 0) hx hb dX10_nights_10 (by decide) ?_
    refine lv_istore_n (lv' := [(3, .int 0), (0, .ref a0), (1, .int x1), (2, .int x2)]) hx hb dX10_nights_11 rfl hl (by decide) rfl (fun ls722 hl723 => ?_)
    refine lv_iconst (v := 0) hx hb dX10_nights_12 (by decide) ?_
    refine lv_istore (lv' := [(4, .int 0), (3, .int 0), (0, .ref a0), (1, .int x1), (2, .int x2)]) hx hb dX10_nights_13 hl723 (by decide) rfl (fun ls724 hl725 => ?_)
    exact J15 ((20 - (0 : Int32).toInt).toNat + 1) ls724 H683 locsH683 (0) (0) (lv_sub hl725 [2, 1, 0] rfl) hTH683 hSH683 (by decide) g684 g685 g686 g687 (by omega)

set_option maxHeartbeats 4000000 in
set_option maxRecDepth 100000 in
theorem a_X10_note (l : Launch) (K : KE) (G : Nat → Option Nat) (H : Heap) {a0 : Nat} (x1 : Int32) (x2 : Int32) (hT : TY K G H) (ga0 : G a0 = some 112) (hg_CG : CG (avw K H a0)) (hg_TU : TU (avw K H a0) (svw K H a0)) (hg_WD : WD (avw K H a0)) (hg_IM : IM (avw K H a0)) : MX l K yX10_note cX10_note 3 (some .int) 1 23 0 0 [.ref a0, .int x1, .int x2] H (AE G [112, 156, 157] H.size) (fun v H1 => ∃ (r : Int32), v = some (.int r) ∧ (CG (avw K H1 a0)) ∧ (TU (avw K H1 a0) (svw K H1 a0)) ∧ (WD (avw K H1 a0)) ∧ (IM (avw K H1 a0)) ∧ TY K G H1) := by
  refine MX.of (by decide +kernel) (Nat.le_of_ble_eq_true rfl) ?_
  intro p e s m below meth c ls Q C hH hl hQ
  subst hH
  have C : CX p K s m _ meth c RX10 cX10_note 3 (some .int) "note" := C
  obtain ⟨hx, hb, hml, hown, hts, hKT, hr, hlocks, hnm⟩ := id C
  have hl : lv_has ls 3 [(0, .ref a0), (1, .int x1), (2, .int x2)] := hl
  have hS : va_S (AE G [112, 156, 157] s.heap.size) s.heap s.heap [] := va_S.rf
  have n_m1 : ((-1) : Int32).toInt = -1 := rfl
  have n_0 : (0 : Int32).toInt = 0 := rfl
  have n_1 : (1 : Int32).toInt = 1 := rfl
  have n_8 : (8 : Int32).toInt = 8 := rfl
  have n_99 : (99 : Int32).toInt = 99 := rfl
  have n_999999 : (999999 : Int32).toInt = 999999 := rfl
  have hap : ∀ x y, x < 74 → y < 74 → x ≠ y → K.1.2 10 x ≠ K.1.2 10 y := x_apart hKT hts inX10 tyX10 tyX10_ok nmX10 rfl
  have J37 : ∀ (ls338 : Array Slot) (H337 : Heap) (locsH337 : List Loc) , lv_has ls338 3 [] → TY K G H337 → va_S (AE G [112, 156, 157] s.heap.size) s.heap H337 locsH337 → (CG (avw K H337 a0)) → (TU (avw K H337 a0) (svw K H337 a0)) → (WD (avw K H337 a0)) → (IM (avw K H337 a0)) → W p l e ({ frames := 1, cells := 0, slots := 0, locals := 23 } : Room) s m (([.ref a0, .int x1, .int x2] : List Value).toArray) below meth c H337 locsH337 0 0 Q (F0 m 37 ls338 []) := by
    intro ls338 H337 locsH337  hl339 hTH337 hSH337 gy340_CG gy340_TU gy340_WD gy340_IM
    refine lv_iconst (v := (-1)) hx hb dX10_note_37 (by decide) ?_
    exact x_iret C hQ dX10_note_38 hSH337 (by decide) (by decide) (⟨(-1), rfl, gy340_CG, gy340_TU, gy340_WD, gy340_IM, hTH337⟩)
  refine lv_aload_n hx hb dX10_note_0 rfl (lv_at hl 0 rfl) ?_
  refine lv_iconst (v := 0) hx hb dX10_note_1 (by decide) ?_
  refine x_put C hT hS (ci := 10) (k := 0) (v := .int 0) (ty0 := tyX10) rfl inX10 tyX10_ok nmX10 (by decide) rfl wF_X10_167 ga0 rg_112 rfl rfl (okI (by have := i_rng (0 : Int32); omega) (by have := i_rng (0 : Int32); omega)) rfl rfl (AE_in ga0 (by decide)) dX10_note_2 (fun H341 locsH341 hTH341 hSH341 wH341 => ?_)
  have g342 : CG (avw K H341 a0) := CG.congr (fun k hk j => av_fld hT ga0 hap wH341 (by decide) (CG_ok 112 (by decide) k hk) (CG_ne 0 (by decide) k hk)) hg_CG
  have g343 : TU (avw K H341 a0) (svw K H341 a0) := TU.congr (fun k hk j => av_fld hT ga0 hap wH341 (by decide) (TU_ok 112 (by decide) k hk) (TU_ne 0 (by decide) k hk)) (fun k hk => sv_fld hap wH341 (by decide) (TU_slt k hk) (TU_sne 0 (by decide) k hk)) hg_TU
  have g344 : WD (avw K H341 a0) := WD.congr (fun k hk j => av_fld hT ga0 hap wH341 (by decide) (WD_ok 112 (by decide) k hk) (WD_ne 0 (by decide) k hk)) hg_WD
  have g345 : IM (avw K H341 a0) := IM.congr (fun k hk j => av_fld hT ga0 hap wH341 (by decide) (IM_ok 112 (by decide) k hk) (IM_ne 0 (by decide) k hk)) hg_IM
  have m346 := Wr.I wH341
  refine lv_aload_n hx hb dX10_note_5 rfl (lv_at hl 0 rfl) ?_
  refine lv_iload_n hx hb dX10_note_6 rfl (lv_at hl 1 rfl) ?_
  refine lv_iconst (v := 1) hx hb dX10_note_7 (by decide) ?_
  refine lv_ldcw (v := 999999) hx hb hown (hts _ wK_X10_348) dX10_note_8 ?_
  refine x_V (As := [.int x1, .int 1, .int 999999]) (rest := []) C (c_X10_isIn l K G H341 (x1) (1) (999999) hTH341 ga0) yo_X10_isIn wM_X10_177 ⟨⟨by decide, by decide⟩, by decide, by decide⟩ (x_rv C hTH341 (ci := 10) rfl ga0 rg_112) rfl hl.1 rfl (Nat.le_of_ble_eq_true rfl) dX10_note_11 hSH341 (AE_sub (fun _ _ => rfl) (by decide) hSH341.1) (fun vH347 H347 locsH347 pH347 zH347 kH347 hSH347 => ?_)
  have hqH347 := pH347.1.symm
  subst hqH347
  rcases pH347.2 with ⟨hvH347, hcH347⟩ | ⟨hvH347, hcH347⟩
  · subst hvH347
    refine W.eq (g2 := F0 m 14 ls [.int 1]) rfl ?_
    refine lv_if_eq (tgt := 37) hx hb dX10_note_14 (by decide) (fun c348 => ?_) (fun c348 => ?_)
    · have k349 := i_eq c348
      exfalso
      omega
    · have k349 := i_ne c348
      refine lv_aload_n hx hb dX10_note_17 rfl (lv_at hl 0 rfl) ?_
      refine lv_iload_n hx hb dX10_note_18 rfl (lv_at hl 2 rfl) ?_
      refine lv_iconst (v := 1) hx hb dX10_note_19 (by decide) ?_
      refine lv_bipush (v := 99) hx hb dX10_note_20 (by decide) ?_
      refine x_V (As := [.int x2, .int 1, .int 99]) (rest := []) C (c_X10_isIn l K G H341 (x2) (1) (99) hTH341 ga0) yo_X10_isIn wM_X10_177 ⟨⟨by decide, by decide⟩, by decide, by decide⟩ (x_rv C hTH341 (ci := 10) rfl ga0 rg_112) rfl hl.1 rfl (Nat.le_of_ble_eq_true rfl) dX10_note_22 hSH347 (AE_sub (fun _ _ => rfl) (by decide) hSH347.1) (fun vH350 H350 locsH350 pH350 zH350 kH350 hSH350 => ?_)
      have hqH350 := pH350.1.symm
      subst hqH350
      rcases pH350.2 with ⟨hvH350, hcH350⟩ | ⟨hvH350, hcH350⟩
      · subst hvH350
        refine W.eq (g2 := F0 m 25 ls [.int 1]) rfl ?_
        refine lv_if_eq (tgt := 37) hx hb dX10_note_25 (by decide) (fun c351 => ?_) (fun c351 => ?_)
        · have k352 := i_eq c351
          exfalso
          omega
        · have k352 := i_ne c351
          refine lv_aload_n hx hb dX10_note_28 rfl (lv_at hl 0 rfl) ?_
          refine x_gi C hTH341 (ci := 10) (k := 62) rfl inX10 (by decide) wF_X10_455 ga0 rg_112 rfl dX10_note_29 (fun x353 ex353 bx353 => ?_)
          refine lv_bipush (v := 8) hx hb dX10_note_32 (by decide) ?_
          refine lv_icmp_ne (tgt := 39) hx hb dX10_note_34 (by decide) (fun c354 => ?_) (fun c354 => ?_)
          · have k355 := i_ne c354
            refine lv_aload_n hx hb dX10_note_39 rfl (lv_at hl 0 rfl) ?_
            refine x_gr C hTH341 (ci := 10) (k := 63) rfl inX10 (by decide) wF_X10_146 ga0 rg_112 rfl dX10_note_40 (fun q356 eq356 gq356 => ?_)
            refine lv_aload_n hx hb dX10_note_43 rfl (lv_at hl 0 rfl) ?_
            refine x_gi C hTH341 (ci := 10) (k := 62) rfl inX10 (by decide) wF_X10_455 ga0 rg_112 rfl dX10_note_44 (fun x357 ex357 bx357 => ?_)
            have ux357 : x353 = x357 := (ex353).trans ex357.symm
            subst ux357
            refine lv_iload_n hx hb dX10_note_47 rfl (lv_at hl 1 rfl) ?_
            refine x_iast C hTH341 hSH350 gq356 rg_156 (by omega) (by show _ < ((8 : Nat) : Int); omega) ⟨by have := i_rng x1; omega, by have := i_rng x1; omega⟩ (AE_in gq356 (by decide)) dX10_note_48 (fun H358 locsH358 hTH358 hSH358 wH358 => ?_)
            have g359 : CG (avw K H358 a0) := CG.congr (fun k hk j => av_arr hTH341 ga0 wH358 gq356 (by decide) (CG_ok 156 (by decide) k hk)) g342
            have g360 : TU (avw K H358 a0) (svw K H358 a0) := TU.congr (fun k hk j => av_arr hTH341 ga0 wH358 gq356 (by decide) (TU_ok 156 (by decide) k hk)) (fun k hk => sv_arr ga0 wH358 gq356 (by decide)) g343
            have g361 : WD (avw K H358 a0) := WD.congr (fun k hk j => av_arr hTH341 ga0 wH358 gq356 (by decide) (WD_ok 156 (by decide) k hk)) g344
            have g362 : IM (avw K H358 a0) := IM.congr (fun k hk j => av_arr hTH341 ga0 wH358 gq356 (by decide) (IM_ok 156 (by decide) k hk)) g345
            have m363 := (Wr.neI wH358 (Or.inl (G_ne ga0 gq356 (by decide)))).trans m346
            have m364 := ex353.trans (Wr.neI wH358 (Or.inl (G_ne ga0 gq356 (by decide)))).symm
            have m365 := eq356.trans (Wr.neR wH358 (Or.inl (G_ne ga0 gq356 (by decide)))).symm
            have m366 := Wr.I wH358
            have m366 := m366.symm
            refine lv_aload_n hx hb dX10_note_49 rfl (lv_at hl 0 rfl) ?_
            refine x_gr C hTH358 (ci := 10) (k := 64) rfl inX10 (by decide) wF_X10_149 ga0 rg_112 rfl dX10_note_50 (fun q367 eq367 gq367 => ?_)
            refine lv_aload_n hx hb dX10_note_53 rfl (lv_at hl 0 rfl) ?_
            refine x_gi C hTH358 (ci := 10) (k := 62) rfl inX10 (by decide) wF_X10_455 ga0 rg_112 rfl dX10_note_54 (fun x368 ex368 bx368 => ?_)
            have ux368 : x353 = x368 := (m364).trans ex368.symm
            subst ux368
            refine lv_iload_n hx hb dX10_note_57 rfl (lv_at hl 2 rfl) ?_
            refine x_iast C hTH358 hSH358 gq367 rg_157 (by omega) (by show _ < ((8 : Nat) : Int); omega) ⟨by have := i_rng x2; omega, by have := i_rng x2; omega⟩ (AE_in gq367 (by decide)) dX10_note_58 (fun H369 locsH369 hTH369 hSH369 wH369 => ?_)
            have g370 : CG (avw K H369 a0) := CG.congr (fun k hk j => av_arr hTH358 ga0 wH369 gq367 (by decide) (CG_ok 157 (by decide) k hk)) g359
            have g371 : TU (avw K H369 a0) (svw K H369 a0) := TU.congr (fun k hk j => av_arr hTH358 ga0 wH369 gq367 (by decide) (TU_ok 157 (by decide) k hk)) (fun k hk => sv_arr ga0 wH369 gq367 (by decide)) g360
            have g372 : WD (avw K H369 a0) := WD.congr (fun k hk j => av_arr hTH358 ga0 wH369 gq367 (by decide) (WD_ok 157 (by decide) k hk)) g361
            have g373 : IM (avw K H369 a0) := IM.congr (fun k hk j => av_arr hTH358 ga0 wH369 gq367 (by decide) (IM_ok 157 (by decide) k hk)) g362
            have m374 := (Wr.neI wH369 (Or.inl (G_ne ga0 gq367 (by decide)))).trans m363
            have m375 := m364.trans (Wr.neI wH369 (Or.inl (G_ne ga0 gq367 (by decide)))).symm
            have m376 := m365.trans (Wr.neR wH369 (Or.inl (G_ne ga0 gq367 (by decide)))).symm
            have m377 := m366.trans (Wr.neI wH369 (Or.inl (G_ne gq356 gq367 (by decide)))).symm
            have m378 := eq367.trans (Wr.neR wH369 (Or.inl (G_ne ga0 gq367 (by decide)))).symm
            have m379 := Wr.I wH369
            have m379 := m379.symm
            refine lv_aload_n hx hb dX10_note_59 rfl (lv_at hl 0 rfl) ?_
            refine lv_aload_n hx hb dX10_note_60 rfl (lv_at hl 0 rfl) ?_
            refine x_gi C hTH369 (ci := 10) (k := 62) rfl inX10 (by decide) wF_X10_455 ga0 rg_112 rfl dX10_note_61 (fun x380 ex380 bx380 => ?_)
            have ux380 : x353 = x380 := (m375).trans ex380.symm
            subst ux380
            refine lv_iconst (v := 1) hx hb dX10_note_64 (by decide) ?_
            refine lv_iadd hx hb dX10_note_65 ?_
            refine lv_topi (fun x381 ex381 => ?_)
            have tx381 := i_add ex381 (by omega)
            refine x_put C hTH369 hSH369 (ci := 10) (k := 62) (v := .int x381) (ty0 := tyX10) rfl inX10 tyX10_ok nmX10 (by decide) rfl wF_X10_455 ga0 rg_112 rfl rfl (okI (by have := i_rng x381; omega) (by have := i_rng x381; omega)) rfl rfl (AE_in ga0 (by decide)) dX10_note_66 (fun H382 locsH382 hTH382 hSH382 wH382 => ?_)
            have g383 : CG (avw K H382 a0) := CG.congr (fun k hk j => av_fld hTH369 ga0 hap wH382 (by decide) (CG_ok 112 (by decide) k hk) (CG_ne 62 (by decide) k hk)) g370
            have g384 : TU (avw K H382 a0) (svw K H382 a0) := TU.congr (fun k hk j => av_fld hTH369 ga0 hap wH382 (by decide) (TU_ok 112 (by decide) k hk) (TU_ne 62 (by decide) k hk)) (fun k hk => sv_fld hap wH382 (by decide) (TU_slt k hk) (TU_sne 62 (by decide) k hk)) g371
            have g385 : WD (avw K H382 a0) := WD.congr (fun k hk j => av_fld hTH369 ga0 hap wH382 (by decide) (WD_ok 112 (by decide) k hk) (WD_ne 62 (by decide) k hk)) g372
            have g386 : IM (avw K H382 a0) := IM.congr (fun k hk j => av_fld hTH369 ga0 hap wH382 (by decide) (IM_ok 112 (by decide) k hk) (IM_ne 62 (by decide) k hk)) g373
            have m387 := (Wr.neI wH382 (Or.inr (x_apart hKT hts inX10 tyX10 tyX10_ok nmX10 rfl 0 62 (by decide) (by decide) (by decide)))).trans m374
            have m389 := m376.trans (Wr.neR wH382 (Or.inr (x_apart hKT hts inX10 tyX10 tyX10_ok nmX10 rfl 63 62 (by decide) (by decide) (by decide)))).symm
            have m390 := m377.trans (Wr.neI wH382 (Or.inl (G_ne gq356 ga0 (by decide)))).symm
            have m391 := m378.trans (Wr.neR wH382 (Or.inr (x_apart hKT hts inX10 tyX10 tyX10_ok nmX10 rfl 64 62 (by decide) (by decide) (by decide)))).symm
            have m392 := m379.trans (Wr.neI wH382 (Or.inl (G_ne gq367 ga0 (by decide)))).symm
            have m393 := Wr.I wH382
            have m393 := m393.symm
            refine lv_aload_n hx hb dX10_note_69 rfl (lv_at hl 0 rfl) ?_
            refine x_gi C hTH382 (ci := 10) (k := 62) rfl inX10 (by decide) wF_X10_455 ga0 rg_112 rfl dX10_note_70 (fun x394 ex394 bx394 => ?_)
            have ux394 : x381 = x394 := (m393).trans ex394.symm
            subst ux394
            refine lv_iconst (v := 1) hx hb dX10_note_73 (by decide) ?_
            refine lv_isub hx hb dX10_note_74 ?_
            refine lv_topi (fun x395 ex395 => ?_)
            have tx395 := i_sub ex395 (by omega)
            exact x_iret C hQ dX10_note_75 hSH382 (by decide) (by decide) (⟨x395, rfl, g383, g384, g385, g386, hTH382⟩)
          · have k355 := i_eq c354
            exact J37 ls H341 locsH350 (lv_sub hl [] rfl) hTH341 hSH350 g342 g343 g344 g345
      · subst hvH350
        refine W.eq (g2 := F0 m 25 ls [.int 0]) rfl ?_
        refine lv_if_eq (tgt := 37) hx hb dX10_note_25 (by decide) (fun c396 => ?_) (fun c396 => ?_)
        · have k397 := i_eq c396
          exact J37 ls H341 locsH350 (lv_sub hl [] rfl) hTH341 hSH350 g342 g343 g344 g345
        · have k397 := i_ne c396
          exfalso
          omega
  · subst hvH347
    refine W.eq (g2 := F0 m 14 ls [.int 0]) rfl ?_
    refine lv_if_eq (tgt := 37) hx hb dX10_note_14 (by decide) (fun c398 => ?_) (fun c398 => ?_)
    · have k399 := i_eq c398
      exact J37 ls H341 locsH347 (lv_sub hl [] rfl) hTH341 hSH347 g342 g343 g344 g345
    · have k399 := i_ne c398
      exfalso
      omega

set_option maxHeartbeats 4000000 in
set_option maxRecDepth 100000 in
theorem a_X10_blank (l : Launch) (K : KE) (G : Nat → Option Nat) (H : Heap) {a0 : Nat} (x1 : Int32) (x2 : Int32) (hT : TY K G H) (ga0 : G a0 = some 112) (hg_CG : CG (avw K H a0)) (hg_TU : TU (avw K H a0) (svw K H a0)) (hg_WD : WD (avw K H a0)) (hg_IM : IM (avw K H a0)) : MX l K yX10_blank cX10_blank 3 (some .int) 1 23 0 0 [.ref a0, .int x1, .int x2] H (AE G [112, 158, 159] H.size) (fun v H1 => ∃ (r : Int32), v = some (.int r) ∧ (CG (avw K H1 a0)) ∧ (TU (avw K H1 a0) (svw K H1 a0)) ∧ (WD (avw K H1 a0)) ∧ (IM (avw K H1 a0)) ∧ TY K G H1) := by
  refine MX.of (by decide +kernel) (Nat.le_of_ble_eq_true rfl) ?_
  intro p e s m below meth c ls Q C hH hl hQ
  subst hH
  have C : CX p K s m _ meth c RX10 cX10_blank 3 (some .int) "blank" := C
  obtain ⟨hx, hb, hml, hown, hts, hKT, hr, hlocks, hnm⟩ := id C
  have hl : lv_has ls 3 [(0, .ref a0), (1, .int x1), (2, .int x2)] := hl
  have hS : va_S (AE G [112, 158, 159] s.heap.size) s.heap s.heap [] := va_S.rf
  have n_m1 : ((-1) : Int32).toInt = -1 := rfl
  have n_0 : (0 : Int32).toInt = 0 := rfl
  have n_1 : (1 : Int32).toInt = 1 := rfl
  have n_8 : (8 : Int32).toInt = 8 := rfl
  have n_99 : (99 : Int32).toInt = 99 := rfl
  have hap : ∀ x y, x < 74 → y < 74 → x ≠ y → K.1.2 10 x ≠ K.1.2 10 y := x_apart hKT hts inX10 tyX10 tyX10_ok nmX10 rfl
  have J36 : ∀ (ls338 : Array Slot) (H337 : Heap) (locsH337 : List Loc) , lv_has ls338 3 [] → TY K G H337 → va_S (AE G [112, 158, 159] s.heap.size) s.heap H337 locsH337 → (CG (avw K H337 a0)) → (TU (avw K H337 a0) (svw K H337 a0)) → (WD (avw K H337 a0)) → (IM (avw K H337 a0)) → W p l e ({ frames := 1, cells := 0, slots := 0, locals := 23 } : Room) s m (([.ref a0, .int x1, .int x2] : List Value).toArray) below meth c H337 locsH337 0 0 Q (F0 m 36 ls338 []) := by
    intro ls338 H337 locsH337  hl339 hTH337 hSH337 gy340_CG gy340_TU gy340_WD gy340_IM
    refine lv_iconst (v := (-1)) hx hb dX10_blank_36 (by decide) ?_
    exact x_iret C hQ dX10_blank_37 hSH337 (by decide) (by decide) (⟨(-1), rfl, gy340_CG, gy340_TU, gy340_WD, gy340_IM, hTH337⟩)
  refine lv_aload_n hx hb dX10_blank_0 rfl (lv_at hl 0 rfl) ?_
  refine lv_iconst (v := 0) hx hb dX10_blank_1 (by decide) ?_
  refine x_put C hT hS (ci := 10) (k := 0) (v := .int 0) (ty0 := tyX10) rfl inX10 tyX10_ok nmX10 (by decide) rfl wF_X10_167 ga0 rg_112 rfl rfl (okI (by have := i_rng (0 : Int32); omega) (by have := i_rng (0 : Int32); omega)) rfl rfl (AE_in ga0 (by decide)) dX10_blank_2 (fun H341 locsH341 hTH341 hSH341 wH341 => ?_)
  have g342 : CG (avw K H341 a0) := CG.congr (fun k hk j => av_fld hT ga0 hap wH341 (by decide) (CG_ok 112 (by decide) k hk) (CG_ne 0 (by decide) k hk)) hg_CG
  have g343 : TU (avw K H341 a0) (svw K H341 a0) := TU.congr (fun k hk j => av_fld hT ga0 hap wH341 (by decide) (TU_ok 112 (by decide) k hk) (TU_ne 0 (by decide) k hk)) (fun k hk => sv_fld hap wH341 (by decide) (TU_slt k hk) (TU_sne 0 (by decide) k hk)) hg_TU
  have g344 : WD (avw K H341 a0) := WD.congr (fun k hk j => av_fld hT ga0 hap wH341 (by decide) (WD_ok 112 (by decide) k hk) (WD_ne 0 (by decide) k hk)) hg_WD
  have g345 : IM (avw K H341 a0) := IM.congr (fun k hk j => av_fld hT ga0 hap wH341 (by decide) (IM_ok 112 (by decide) k hk) (IM_ne 0 (by decide) k hk)) hg_IM
  have m346 := Wr.I wH341
  refine lv_aload_n hx hb dX10_blank_5 rfl (lv_at hl 0 rfl) ?_
  refine lv_iload_n hx hb dX10_blank_6 rfl (lv_at hl 1 rfl) ?_
  refine lv_iconst (v := 1) hx hb dX10_blank_7 (by decide) ?_
  refine lv_bipush (v := 99) hx hb dX10_blank_8 (by decide) ?_
  refine x_V (As := [.int x1, .int 1, .int 99]) (rest := []) C (c_X10_isIn l K G H341 (x1) (1) (99) hTH341 ga0) yo_X10_isIn wM_X10_177 ⟨⟨by decide, by decide⟩, by decide, by decide⟩ (x_rv C hTH341 (ci := 10) rfl ga0 rg_112) rfl hl.1 rfl (Nat.le_of_ble_eq_true rfl) dX10_blank_10 hSH341 (AE_sub (fun _ _ => rfl) (by decide) hSH341.1) (fun vH347 H347 locsH347 pH347 zH347 kH347 hSH347 => ?_)
  have hqH347 := pH347.1.symm
  subst hqH347
  rcases pH347.2 with ⟨hvH347, hcH347⟩ | ⟨hvH347, hcH347⟩
  · subst hvH347
    refine W.eq (g2 := F0 m 13 ls [.int 1]) rfl ?_
    refine lv_if_eq (tgt := 36) hx hb dX10_blank_13 (by decide) (fun c348 => ?_) (fun c348 => ?_)
    · have k349 := i_eq c348
      exfalso
      omega
    · have k349 := i_ne c348
      refine lv_aload_n hx hb dX10_blank_16 rfl (lv_at hl 0 rfl) ?_
      refine lv_iload_n hx hb dX10_blank_17 rfl (lv_at hl 2 rfl) ?_
      refine lv_iconst (v := 0) hx hb dX10_blank_18 (by decide) ?_
      refine lv_bipush (v := 99) hx hb dX10_blank_19 (by decide) ?_
      refine x_V (As := [.int x2, .int 0, .int 99]) (rest := []) C (c_X10_isIn l K G H341 (x2) (0) (99) hTH341 ga0) yo_X10_isIn wM_X10_177 ⟨⟨by decide, by decide⟩, by decide, by decide⟩ (x_rv C hTH341 (ci := 10) rfl ga0 rg_112) rfl hl.1 rfl (Nat.le_of_ble_eq_true rfl) dX10_blank_21 hSH347 (AE_sub (fun _ _ => rfl) (by decide) hSH347.1) (fun vH350 H350 locsH350 pH350 zH350 kH350 hSH350 => ?_)
      have hqH350 := pH350.1.symm
      subst hqH350
      rcases pH350.2 with ⟨hvH350, hcH350⟩ | ⟨hvH350, hcH350⟩
      · subst hvH350
        refine W.eq (g2 := F0 m 24 ls [.int 1]) rfl ?_
        refine lv_if_eq (tgt := 36) hx hb dX10_blank_24 (by decide) (fun c351 => ?_) (fun c351 => ?_)
        · have k352 := i_eq c351
          exfalso
          omega
        · have k352 := i_ne c351
          refine lv_aload_n hx hb dX10_blank_27 rfl (lv_at hl 0 rfl) ?_
          refine x_gi C hTH341 (ci := 10) (k := 65) rfl inX10 (by decide) wF_X10_458 ga0 rg_112 rfl dX10_blank_28 (fun x353 ex353 bx353 => ?_)
          refine lv_bipush (v := 8) hx hb dX10_blank_31 (by decide) ?_
          refine lv_icmp_ne (tgt := 38) hx hb dX10_blank_33 (by decide) (fun c354 => ?_) (fun c354 => ?_)
          · have k355 := i_ne c354
            refine lv_aload_n hx hb dX10_blank_38 rfl (lv_at hl 0 rfl) ?_
            refine x_gr C hTH341 (ci := 10) (k := 66) rfl inX10 (by decide) wF_X10_152 ga0 rg_112 rfl dX10_blank_39 (fun q356 eq356 gq356 => ?_)
            refine lv_aload_n hx hb dX10_blank_42 rfl (lv_at hl 0 rfl) ?_
            refine x_gi C hTH341 (ci := 10) (k := 65) rfl inX10 (by decide) wF_X10_458 ga0 rg_112 rfl dX10_blank_43 (fun x357 ex357 bx357 => ?_)
            have ux357 : x353 = x357 := (ex353).trans ex357.symm
            subst ux357
            refine lv_iload_n hx hb dX10_blank_46 rfl (lv_at hl 1 rfl) ?_
            refine x_iast C hTH341 hSH350 gq356 rg_158 (by omega) (by show _ < ((8 : Nat) : Int); omega) ⟨by have := i_rng x1; omega, by have := i_rng x1; omega⟩ (AE_in gq356 (by decide)) dX10_blank_47 (fun H358 locsH358 hTH358 hSH358 wH358 => ?_)
            have g359 : CG (avw K H358 a0) := CG.congr (fun k hk j => av_arr hTH341 ga0 wH358 gq356 (by decide) (CG_ok 158 (by decide) k hk)) g342
            have g360 : TU (avw K H358 a0) (svw K H358 a0) := TU.congr (fun k hk j => av_arr hTH341 ga0 wH358 gq356 (by decide) (TU_ok 158 (by decide) k hk)) (fun k hk => sv_arr ga0 wH358 gq356 (by decide)) g343
            have g361 : WD (avw K H358 a0) := WD.congr (fun k hk j => av_arr hTH341 ga0 wH358 gq356 (by decide) (WD_ok 158 (by decide) k hk)) g344
            have g362 : IM (avw K H358 a0) := IM.congr (fun k hk j => av_arr hTH341 ga0 wH358 gq356 (by decide) (IM_ok 158 (by decide) k hk)) g345
            have m363 := (Wr.neI wH358 (Or.inl (G_ne ga0 gq356 (by decide)))).trans m346
            have m364 := ex353.trans (Wr.neI wH358 (Or.inl (G_ne ga0 gq356 (by decide)))).symm
            have m365 := eq356.trans (Wr.neR wH358 (Or.inl (G_ne ga0 gq356 (by decide)))).symm
            have m366 := Wr.I wH358
            have m366 := m366.symm
            refine lv_aload_n hx hb dX10_blank_48 rfl (lv_at hl 0 rfl) ?_
            refine x_gr C hTH358 (ci := 10) (k := 67) rfl inX10 (by decide) wF_X10_155 ga0 rg_112 rfl dX10_blank_49 (fun q367 eq367 gq367 => ?_)
            refine lv_aload_n hx hb dX10_blank_52 rfl (lv_at hl 0 rfl) ?_
            refine x_gi C hTH358 (ci := 10) (k := 65) rfl inX10 (by decide) wF_X10_458 ga0 rg_112 rfl dX10_blank_53 (fun x368 ex368 bx368 => ?_)
            have ux368 : x353 = x368 := (m364).trans ex368.symm
            subst ux368
            refine lv_iload_n hx hb dX10_blank_56 rfl (lv_at hl 2 rfl) ?_
            refine x_iast C hTH358 hSH358 gq367 rg_159 (by omega) (by show _ < ((8 : Nat) : Int); omega) ⟨by have := i_rng x2; omega, by have := i_rng x2; omega⟩ (AE_in gq367 (by decide)) dX10_blank_57 (fun H369 locsH369 hTH369 hSH369 wH369 => ?_)
            have g370 : CG (avw K H369 a0) := CG.congr (fun k hk j => av_arr hTH358 ga0 wH369 gq367 (by decide) (CG_ok 159 (by decide) k hk)) g359
            have g371 : TU (avw K H369 a0) (svw K H369 a0) := TU.congr (fun k hk j => av_arr hTH358 ga0 wH369 gq367 (by decide) (TU_ok 159 (by decide) k hk)) (fun k hk => sv_arr ga0 wH369 gq367 (by decide)) g360
            have g372 : WD (avw K H369 a0) := WD.congr (fun k hk j => av_arr hTH358 ga0 wH369 gq367 (by decide) (WD_ok 159 (by decide) k hk)) g361
            have g373 : IM (avw K H369 a0) := IM.congr (fun k hk j => av_arr hTH358 ga0 wH369 gq367 (by decide) (IM_ok 159 (by decide) k hk)) g362
            have m374 := (Wr.neI wH369 (Or.inl (G_ne ga0 gq367 (by decide)))).trans m363
            have m375 := m364.trans (Wr.neI wH369 (Or.inl (G_ne ga0 gq367 (by decide)))).symm
            have m376 := m365.trans (Wr.neR wH369 (Or.inl (G_ne ga0 gq367 (by decide)))).symm
            have m377 := m366.trans (Wr.neI wH369 (Or.inl (G_ne gq356 gq367 (by decide)))).symm
            have m378 := eq367.trans (Wr.neR wH369 (Or.inl (G_ne ga0 gq367 (by decide)))).symm
            have m379 := Wr.I wH369
            have m379 := m379.symm
            refine lv_aload_n hx hb dX10_blank_58 rfl (lv_at hl 0 rfl) ?_
            refine lv_aload_n hx hb dX10_blank_59 rfl (lv_at hl 0 rfl) ?_
            refine x_gi C hTH369 (ci := 10) (k := 65) rfl inX10 (by decide) wF_X10_458 ga0 rg_112 rfl dX10_blank_60 (fun x380 ex380 bx380 => ?_)
            have ux380 : x353 = x380 := (m375).trans ex380.symm
            subst ux380
            refine lv_iconst (v := 1) hx hb dX10_blank_63 (by decide) ?_
            refine lv_iadd hx hb dX10_blank_64 ?_
            refine lv_topi (fun x381 ex381 => ?_)
            have tx381 := i_add ex381 (by omega)
            refine x_put C hTH369 hSH369 (ci := 10) (k := 65) (v := .int x381) (ty0 := tyX10) rfl inX10 tyX10_ok nmX10 (by decide) rfl wF_X10_458 ga0 rg_112 rfl rfl (okI (by have := i_rng x381; omega) (by have := i_rng x381; omega)) rfl rfl (AE_in ga0 (by decide)) dX10_blank_65 (fun H382 locsH382 hTH382 hSH382 wH382 => ?_)
            have g383 : CG (avw K H382 a0) := CG.congr (fun k hk j => av_fld hTH369 ga0 hap wH382 (by decide) (CG_ok 112 (by decide) k hk) (CG_ne 65 (by decide) k hk)) g370
            have g384 : TU (avw K H382 a0) (svw K H382 a0) := TU.congr (fun k hk j => av_fld hTH369 ga0 hap wH382 (by decide) (TU_ok 112 (by decide) k hk) (TU_ne 65 (by decide) k hk)) (fun k hk => sv_fld hap wH382 (by decide) (TU_slt k hk) (TU_sne 65 (by decide) k hk)) g371
            have g385 : WD (avw K H382 a0) := WD.congr (fun k hk j => av_fld hTH369 ga0 hap wH382 (by decide) (WD_ok 112 (by decide) k hk) (WD_ne 65 (by decide) k hk)) g372
            have g386 : IM (avw K H382 a0) := IM.congr (fun k hk j => av_fld hTH369 ga0 hap wH382 (by decide) (IM_ok 112 (by decide) k hk) (IM_ne 65 (by decide) k hk)) g373
            have m387 := (Wr.neI wH382 (Or.inr (x_apart hKT hts inX10 tyX10 tyX10_ok nmX10 rfl 0 65 (by decide) (by decide) (by decide)))).trans m374
            have m389 := m376.trans (Wr.neR wH382 (Or.inr (x_apart hKT hts inX10 tyX10 tyX10_ok nmX10 rfl 66 65 (by decide) (by decide) (by decide)))).symm
            have m390 := m377.trans (Wr.neI wH382 (Or.inl (G_ne gq356 ga0 (by decide)))).symm
            have m391 := m378.trans (Wr.neR wH382 (Or.inr (x_apart hKT hts inX10 tyX10 tyX10_ok nmX10 rfl 67 65 (by decide) (by decide) (by decide)))).symm
            have m392 := m379.trans (Wr.neI wH382 (Or.inl (G_ne gq367 ga0 (by decide)))).symm
            have m393 := Wr.I wH382
            have m393 := m393.symm
            refine lv_aload_n hx hb dX10_blank_68 rfl (lv_at hl 0 rfl) ?_
            refine x_gi C hTH382 (ci := 10) (k := 65) rfl inX10 (by decide) wF_X10_458 ga0 rg_112 rfl dX10_blank_69 (fun x394 ex394 bx394 => ?_)
            have ux394 : x381 = x394 := (m393).trans ex394.symm
            subst ux394
            refine lv_iconst (v := 1) hx hb dX10_blank_72 (by decide) ?_
            refine lv_isub hx hb dX10_blank_73 ?_
            refine lv_topi (fun x395 ex395 => ?_)
            have tx395 := i_sub ex395 (by omega)
            exact x_iret C hQ dX10_blank_74 hSH382 (by decide) (by decide) (⟨x395, rfl, g383, g384, g385, g386, hTH382⟩)
          · have k355 := i_eq c354
            exact J36 ls H341 locsH350 (lv_sub hl [] rfl) hTH341 hSH350 g342 g343 g344 g345
      · subst hvH350
        refine W.eq (g2 := F0 m 24 ls [.int 0]) rfl ?_
        refine lv_if_eq (tgt := 36) hx hb dX10_blank_24 (by decide) (fun c396 => ?_) (fun c396 => ?_)
        · have k397 := i_eq c396
          exact J36 ls H341 locsH350 (lv_sub hl [] rfl) hTH341 hSH350 g342 g343 g344 g345
        · have k397 := i_ne c396
          exfalso
          omega
  · subst hvH347
    refine W.eq (g2 := F0 m 13 ls [.int 0]) rfl ?_
    refine lv_if_eq (tgt := 36) hx hb dX10_blank_13 (by decide) (fun c398 => ?_) (fun c398 => ?_)
    · have k399 := i_eq c398
      exact J36 ls H341 locsH347 (lv_sub hl [] rfl) hTH341 hSH347 g342 g343 g344 g345
    · have k399 := i_ne c398
      exfalso
      omega

set_option maxHeartbeats 4000000 in
set_option maxRecDepth 100000 in
theorem a_X10_set (l : Launch) (K : KE) (G : Nat → Option Nat) (H : Heap) {a0 : Nat} (x1 : Int32) (x2 : Int32) (hT : TY K G H) (ga0 : G a0 = some 112) (hg_CG : CG (avw K H a0)) (hg_TU : TU (avw K H a0) (svw K H a0)) (hg_WD : WD (avw K H a0)) (hg_IM : IM (avw K H a0)) : MX l K yX10_set cX10_set 4 (some .int) 3 70 0 0 [.ref a0, .int x1, .int x2] H (AE G [112, 160, 161] H.size) (fun v H1 => ∃ (r : Int32), v = some (.int r) ∧ (CG (avw K H1 a0)) ∧ (TU (avw K H1 a0) (svw K H1 a0)) ∧ (WD (avw K H1 a0)) ∧ (IM (avw K H1 a0)) ∧ TY K G H1) := by
  refine MX.of (by decide +kernel) (Nat.le_of_ble_eq_true rfl) ?_
  intro p e s m below meth c ls Q C hH hl hQ
  subst hH
  have C : CX p K s m _ meth c RX10 cX10_set 4 (some .int) "set" := C
  obtain ⟨hx, hb, hml, hown, hts, hKT, hr, hlocks, hnm⟩ := id C
  have hl : lv_has ls 4 [(0, .ref a0), (1, .int x1), (2, .int x2)] := hl
  have hS : va_S (AE G [112, 160, 161] s.heap.size) s.heap s.heap [] := va_S.rf
  have n_m1 : ((-1) : Int32).toInt = -1 := rfl
  have n_0 : (0 : Int32).toInt = 0 := rfl
  have n_1 : (1 : Int32).toInt = 1 := rfl
  have n_99 : (99 : Int32).toInt = 99 := rfl
  have hap : ∀ x y, x < 74 → y < 74 → x ≠ y → K.1.2 10 x ≠ K.1.2 10 y := x_apart hKT hts inX10 tyX10 tyX10_ok nmX10 rfl
  have J29 : ∀ (ls262 : Array Slot) (H261 : Heap) (locsH261 : List Loc) , lv_has ls262 4 [] → TY K G H261 → va_S (AE G [112, 160, 161] s.heap.size) s.heap H261 locsH261 → (CG (avw K H261 a0)) → (TU (avw K H261 a0) (svw K H261 a0)) → (WD (avw K H261 a0)) → (IM (avw K H261 a0)) → W p l e ({ frames := 3, cells := 0, slots := 0, locals := 70 } : Room) s m (([.ref a0, .int x1, .int x2] : List Value).toArray) below meth c H261 locsH261 0 0 Q (F0 m 29 ls262 []) := by
    intro ls262 H261 locsH261  hl263 hTH261 hSH261 gy264_CG gy264_TU gy264_WD gy264_IM
    refine lv_iconst (v := (-1)) hx hb dX10_set_29 (by decide) ?_
    exact x_iret C hQ dX10_set_30 hSH261 (by decide) (by decide) (⟨(-1), rfl, gy264_CG, gy264_TU, gy264_WD, gy264_IM, hTH261⟩)
  have J58 : ∀ (ls266 : Array Slot) (H265 : Heap) (locsH265 : List Loc) (x268 : Int32), lv_has ls266 4 [] → TY K G H265 → va_S (AE G [112, 160, 161] s.heap.size) s.heap H265 locsH265 → (CG (avw K H265 a0)) → (TU (avw K H265 a0) (svw K H265 a0)) → (WD (avw K H265 a0)) → (IM (avw K H265 a0)) → W p l e ({ frames := 3, cells := 0, slots := 0, locals := 70 } : Room) s m (([.ref a0, .int x1, .int x2] : List Value).toArray) below meth c H265 locsH265 0 0 Q (F0 m 58 ls266 [.int x268]) := by
    intro ls266 H265 locsH265 x268 hl267 hTH265 hSH265 gy269_CG gy269_TU gy269_WD gy269_IM
    exact x_iret C hQ dX10_set_58 hSH265 (by decide) (by decide) (⟨x268, rfl, gy269_CG, gy269_TU, gy269_WD, gy269_IM, hTH265⟩)
  have J46 : ∀ (ls271 : Array Slot) (H270 : Heap) (locsH270 : List Loc) (x273 : Int32), lv_has ls271 4 [(3, .int x273)] → TY K G H270 → va_S (AE G [112, 160, 161] s.heap.size) s.heap H270 locsH270 → (CG (avw K H270 a0)) → (TU (avw K H270 a0) (svw K H270 a0)) → (WD (avw K H270 a0)) → (IM (avw K H270 a0)) → W p l e ({ frames := 3, cells := 0, slots := 0, locals := 70 } : Room) s m (([.ref a0, .int x1, .int x2] : List Value).toArray) below meth c H270 locsH270 0 0 Q (F0 m 46 ls271 []) := by
    intro ls271 H270 locsH270 x273 hl272 hTH270 hSH270 gy274_CG gy274_TU gy274_WD gy274_IM
    refine lv_iload_n hx hb dX10_set_46 rfl (lv_at hl272 0 rfl) ?_
    refine lv_goto (tgt := 58) hx hb dX10_set_47 (by decide) ?_
    exact J58 ls271 H270 locsH270 (x273) (lv_sub hl272 [] rfl) hTH270 hSH270 gy274_CG gy274_TU gy274_WD gy274_IM
  refine lv_aload_n hx hb dX10_set_0 rfl (lv_at hl 0 rfl) ?_
  refine lv_iconst (v := 0) hx hb dX10_set_1 (by decide) ?_
  refine x_put C hT hS (ci := 10) (k := 0) (v := .int 0) (ty0 := tyX10) rfl inX10 tyX10_ok nmX10 (by decide) rfl wF_X10_167 ga0 rg_112 rfl rfl (okI (by have := i_rng (0 : Int32); omega) (by have := i_rng (0 : Int32); omega)) rfl rfl (AE_in ga0 (by decide)) dX10_set_2 (fun H275 locsH275 hTH275 hSH275 wH275 => ?_)
  have g276 : CG (avw K H275 a0) := CG.congr (fun k hk j => av_fld hT ga0 hap wH275 (by decide) (CG_ok 112 (by decide) k hk) (CG_ne 0 (by decide) k hk)) hg_CG
  have g277 : TU (avw K H275 a0) (svw K H275 a0) := TU.congr (fun k hk j => av_fld hT ga0 hap wH275 (by decide) (TU_ok 112 (by decide) k hk) (TU_ne 0 (by decide) k hk)) (fun k hk => sv_fld hap wH275 (by decide) (TU_slt k hk) (TU_sne 0 (by decide) k hk)) hg_TU
  have g278 : WD (avw K H275 a0) := WD.congr (fun k hk j => av_fld hT ga0 hap wH275 (by decide) (WD_ok 112 (by decide) k hk) (WD_ne 0 (by decide) k hk)) hg_WD
  have g279 : IM (avw K H275 a0) := IM.congr (fun k hk j => av_fld hT ga0 hap wH275 (by decide) (IM_ok 112 (by decide) k hk) (IM_ne 0 (by decide) k hk)) hg_IM
  have m280 := Wr.I wH275
  refine lv_aload_n hx hb dX10_set_5 rfl (lv_at hl 0 rfl) ?_
  refine lv_iload_n hx hb dX10_set_6 rfl (lv_at hl 1 rfl) ?_
  refine lv_iconst (v := 0) hx hb dX10_set_7 (by decide) ?_
  refine lv_bipush (v := 99) hx hb dX10_set_8 (by decide) ?_
  refine x_V (As := [.int x1, .int 0, .int 99]) (rest := []) C (c_X10_isIn l K G H275 (x1) (0) (99) hTH275 ga0) yo_X10_isIn wM_X10_177 ⟨⟨by decide, by decide⟩, by decide, by decide⟩ (x_rv C hTH275 (ci := 10) rfl ga0 rg_112) rfl hl.1 rfl (Nat.le_of_ble_eq_true rfl) dX10_set_10 hSH275 (AE_sub (fun _ _ => rfl) (by decide) hSH275.1) (fun vH281 H281 locsH281 pH281 zH281 kH281 hSH281 => ?_)
  have hqH281 := pH281.1.symm
  subst hqH281
  rcases pH281.2 with ⟨hvH281, hcH281⟩ | ⟨hvH281, hcH281⟩
  · subst hvH281
    refine W.eq (g2 := F0 m 13 ls [.int 1]) rfl ?_
    refine lv_if_eq (tgt := 29) hx hb dX10_set_13 (by decide) (fun c282 => ?_) (fun c282 => ?_)
    · have k283 := i_eq c282
      exfalso
      omega
    · have k283 := i_ne c282
      refine lv_aload_n hx hb dX10_set_16 rfl (lv_at hl 0 rfl) ?_
      refine lv_iload_n hx hb dX10_set_17 rfl (lv_at hl 2 rfl) ?_
      refine lv_iconst (v := 0) hx hb dX10_set_18 (by decide) ?_
      refine lv_aload_n hx hb dX10_set_19 rfl (lv_at hl 0 rfl) ?_
      refine x_gi C hTH275 (ci := 10) (k := 62) rfl inX10 (by decide) wF_X10_455 ga0 rg_112 rfl dX10_set_20 (fun x284 ex284 bx284 => ?_)
      refine x_V (As := [.int x2, .int 0, .int x284]) (rest := []) C (c_X10_isIn l K G H275 (x2) (0) (x284) hTH275 ga0) yo_X10_isIn wM_X10_177 ⟨⟨by decide, by decide⟩, by decide, by decide⟩ (x_rv C hTH275 (ci := 10) rfl ga0 rg_112) rfl hl.1 rfl (Nat.le_of_ble_eq_true rfl) dX10_set_23 hSH281 (AE_sub (fun _ _ => rfl) (by decide) hSH281.1) (fun vH285 H285 locsH285 pH285 zH285 kH285 hSH285 => ?_)
      have hqH285 := pH285.1.symm
      subst hqH285
      rcases pH285.2 with ⟨hvH285, hcH285⟩ | ⟨hvH285, hcH285⟩
      · subst hvH285
        refine W.eq (g2 := F0 m 26 ls [.int 1]) rfl ?_
        refine lv_if_ne (tgt := 31) hx hb dX10_set_26 (by decide) (fun c286 => ?_) (fun c286 => ?_)
        · have k287 := i_ne c286
          refine lv_aload_n hx hb dX10_set_31 rfl (lv_at hl 0 rfl) ?_
          refine lv_iload_n hx hb dX10_set_32 rfl (lv_at hl 1 rfl) ?_
          obtain ⟨q288, eq288⟩ : ∃ z : Nat, z = fR H275 a0 (K.1.2 10 68) := ⟨_, rfl⟩
          have gq288 := ty_fr (q := q288) (k := 68) (u := 160) eq288 hTH275 ga0 rg_112 rfl
          obtain ⟨x289, ex289⟩ : ∃ z : Int32, z = fI H275 a0 (K.1.2 10 65) := ⟨_, rfl⟩
          have bx289 := ty_fi (x := x289) (k := 65) ex289 hTH275 ga0 rg_112 rfl
          refine x_V (As := [.int x1]) (rest := []) C (a_X10_leastWaste l K G H275 (x1) (x289) (x284) hTH275 ga0 gq288 eq288 ex289 ex284) yo_X10_leastWaste wM_X10_464 ⟨⟨by decide, by decide⟩, by decide, by decide⟩ (x_rv C hTH275 (ci := 10) rfl ga0 rg_112) rfl hl.1 rfl (Nat.le_of_ble_eq_true rfl) dX10_set_33 hSH285 (AE_sub (fun _ _ => rfl) (by decide) hSH285.1) (fun vH290 H290 locsH290 pH290 zH290 kH290 hSH290 => ?_)
          obtain ⟨x291, hvH290, hTH290⟩ := pH290
          subst hvH290
          have g292 : CG (avw K H290 a0) := CG.congr (fun k hk j => av_eff hTH275 kH290 ga0 (by decide) (CG_eff [160, 161] (by decide) k hk)) g276
          have g293 : TU (avw K H290 a0) (svw K H290 a0) := TU.congr (fun k hk j => av_eff hTH275 kH290 ga0 (by decide) (TU_eff [160, 161] (by decide) k hk)) (fun k hk => sv_eff hTH275 kH290 ga0 (by decide)) g277
          have g294 : WD (avw K H290 a0) := WD.congr (fun k hk j => av_eff hTH275 kH290 ga0 (by decide) (WD_eff [160, 161] (by decide) k hk)) g278
          have g295 : IM (avw K H290 a0) := IM.congr (fun k hk j => av_eff hTH275 kH290 ga0 (by decide) (IM_eff [160, 161] (by decide) k hk)) g279
          have m296 := (fI_kept (x_lt hTH275 kH290 ga0 (by decide))).trans m280
          have m297 := (ex284).trans (fI_kept (x_lt hTH275 kH290 ga0 (by decide))).symm
          have m298 := (eq288).trans (fR_kept (x_lt hTH275 kH290 ga0 (by decide))).symm
          have m299 := (ex289).trans (fI_kept (x_lt hTH275 kH290 ga0 (by decide))).symm
          refine W.eq (g2 := F0 m 36 ls [.int x291]) rfl ?_
          refine lv_istore_n (lv' := [(3, .int x291), (0, .ref a0), (1, .int x1), (2, .int x2)]) hx hb dX10_set_36 rfl hl (by decide) rfl (fun ls300 hl301 => ?_)
          refine lv_iload_n hx hb dX10_set_37 rfl (lv_at hl301 3 rfl) ?_
          refine lv_if_eq (tgt := 46) hx hb dX10_set_38 (by decide) (fun c302 => ?_) (fun c302 => ?_)
          · have k303 := i_eq c302
            exact J46 ls300 H290 locsH290 (x291) (lv_sub hl301 [0] rfl) hTH290 hSH290 g292 g293 g294 g295
          · have k303 := i_ne c302
            refine lv_iload_n hx hb dX10_set_41 rfl (lv_at hl301 0 rfl) ?_
            refine lv_iconst (v := (-1)) hx hb dX10_set_42 (by decide) ?_
            refine lv_icmp_ne (tgt := 50) hx hb dX10_set_43 (by decide) (fun c304 => ?_) (fun c304 => ?_)
            · have k305 := i_ne c304
              refine lv_aload_n hx hb dX10_set_50 rfl (lv_at hl301 1 rfl) ?_
              refine x_gr C hTH290 (ci := 10) (k := 69) rfl inX10 (by decide) wF_X10_161 ga0 rg_112 rfl dX10_set_51 (fun q306 eq306 gq306 => ?_)
              refine lv_iload_n hx hb dX10_set_54 rfl (lv_at hl301 3 rfl) ?_
              refine lv_iconst (v := 1) hx hb dX10_set_55 (by decide) ?_
              refine lv_isub hx hb dX10_set_56 ?_
              refine lv_topi (fun x307 ex307 => ?_)
              have tx307 := i_sub ex307 (by omega)
              refine x_ai C hTH290 gq306 rg_161 ⟨by omega, by show _ < ((8 : Nat) : Int); omega⟩ dX10_set_57 (fun x308 ex308 bx308 => ?_)
              exact J58 ls300 H290 locsH290 (x308) (lv_sub hl301 [] rfl) hTH290 hSH290 g292 g293 g294 g295
            · have k305 := i_eq c304
              exact J46 ls300 H290 locsH290 (x291) (lv_sub hl301 [0] rfl) hTH290 hSH290 g292 g293 g294 g295
        · have k287 := i_eq c286
          exfalso
          omega
      · subst hvH285
        refine W.eq (g2 := F0 m 26 ls [.int 0]) rfl ?_
        refine lv_if_ne (tgt := 31) hx hb dX10_set_26 (by decide) (fun c309 => ?_) (fun c309 => ?_)
        · have k310 := i_ne c309
          exfalso
          omega
        · have k310 := i_eq c309
          exact J29 ls H275 locsH285 (lv_sub hl [] rfl) hTH275 hSH285 g276 g277 g278 g279
  · subst hvH281
    refine W.eq (g2 := F0 m 13 ls [.int 0]) rfl ?_
    refine lv_if_eq (tgt := 29) hx hb dX10_set_13 (by decide) (fun c311 => ?_) (fun c311 => ?_)
    · have k312 := i_eq c311
      exact J29 ls H275 locsH281 (lv_sub hl [] rfl) hTH275 hSH281 g276 g277 g278 g279
    · have k312 := i_ne c311
      exfalso
      omega

set_option maxHeartbeats 4000000 in
set_option maxRecDepth 100000 in
theorem a_X10_down (l : Launch) (K : KE) (G : Nat → Option Nat) (H : Heap) {a0 : Nat} (x1 : Int32) (hT : TY K G H) (ga0 : G a0 = some 112) (hg_CG : CG (avw K H a0)) (hg_TU : TU (avw K H a0) (svw K H a0)) (hg_WD : WD (avw K H a0)) (hg_IM : IM (avw K H a0)) : MX l K yX10_down cX10_down 5 (some .int) 6 145 0 0 [.ref a0, .int x1] H (AE G [112, 140, 139] H.size) (fun v H1 => ∃ (r : Int32), v = some (.int r) ∧ (CG (avw K H1 a0)) ∧ (TU (avw K H1 a0) (svw K H1 a0)) ∧ (WD (avw K H1 a0)) ∧ (IM (avw K H1 a0)) ∧ TY K G H1) := by
  refine MX.of (by decide +kernel) (Nat.le_of_ble_eq_true rfl) ?_
  intro p e s m below meth c ls Q C hH hl hQ
  subst hH
  have C : CX p K s m _ meth c RX10 cX10_down 5 (some .int) "down" := C
  obtain ⟨hx, hb, hml, hown, hts, hKT, hr, hlocks, hnm⟩ := id C
  have hl : lv_has ls 5 [(0, .ref a0), (1, .int x1)] := hl
  have hS : va_S (AE G [112, 140, 139] s.heap.size) s.heap s.heap [] := va_S.rf
  have n_m1 : ((-1) : Int32).toInt = -1 := rfl
  have n_0 : (0 : Int32).toInt = 0 := rfl
  have n_1 : (1 : Int32).toInt = 1 := rfl
  have hap : ∀ x y, x < 74 → y < 74 → x ≠ y → K.1.2 10 x ≠ K.1.2 10 y := x_apart hKT hts inX10 tyX10 tyX10_ok nmX10 rfl
  have J27 : ∀ (nf : Nat) (ls540 : Array Slot) (H539 : Heap) (locsH539 : List Loc) (x542 : Int32) (x543 : Int32) (x544 : Int32), lv_has ls540 5 [(0, .ref a0), (2, .int x542), (3, .int x543), (4, .int x544)] → TY K G H539 → va_S (AE G [112, 140, 139] s.heap.size) s.heap H539 locsH539 → ((-1) ≤ x543.toInt ∧ x543.toInt ≤ 7) → (0 ≤ x544.toInt ∧ x544.toInt ≤ 8) → (CG (avw K H539 a0)) → (TU (avw K H539 a0) (svw K H539 a0)) → (WD (avw K H539 a0)) → (IM (avw K H539 a0)) → (8 - x544.toInt < (nf : Int)) → W p l e ({ frames := 6, cells := 0, slots := 0, locals := 145 } : Room) s m (([.ref a0, .int x1] : List Value).toArray) below meth c H539 locsH539 0 0 Q (F0 m 27 ls540 []) := by
    intro nf
    induction nf with
    | zero =>
      intro ls540 H539 locsH539 x542 x543 x544 hl541 hTH539 hSH539 bx543 bx544 gy545_CG gy545_TU gy545_WD gy545_IM hm27
      have rx542 := i_rng x542
      exfalso
      omega
    | succ nf ih27 =>
      intro ls540 H539 locsH539 x542 x543 x544 hl541 hTH539 hSH539 bx543 bx544 gy545_CG gy545_TU gy545_WD gy545_IM hm27
      have rx542 := i_rng x542
      have J76 : ∀ (ls547 : Array Slot) (H546 : Heap) (locsH546 : List Loc) (x549 : Int32), lv_has ls547 5 [(0, .ref a0), (2, .int x542), (3, .int x549), (4, .int x544)] → TY K G H546 → va_S (AE G [112, 140, 139] s.heap.size) s.heap H546 locsH546 → ((-1) ≤ x549.toInt ∧ x549.toInt ≤ 7) → (0 ≤ x544.toInt ∧ x544.toInt ≤ 7) → (CG (avw K H546 a0)) → (TU (avw K H546 a0) (svw K H546 a0)) → (WD (avw K H546 a0)) → (IM (avw K H546 a0)) → W p l e ({ frames := 6, cells := 0, slots := 0, locals := 145 } : Room) s m (([.ref a0, .int x1] : List Value).toArray) below meth c H546 locsH546 0 0 Q (F0 m 76 ls547 []) := by
        intro ls547 H546 locsH546 x549 hl548 hTH546 hSH546 bx549 b550 gy551_CG gy551_TU gy551_WD gy551_IM
        obtain ⟨x552, ex552⟩ : ∃ y : Int32, y = x544 + 1 := ⟨_, rfl⟩
        have tx552 := i_add ex552 (by omega)
        refine lv_iinc (v := x552) (lv' := [(4, .int x552), (0, .ref a0), (2, .int x542), (3, .int x549)]) hx hb dX10_down_76 hl548 (k := 3) rfl (by rw [ex552]; rfl) (by decide) rfl (fun ls553 hl554 => ?_)
        refine lv_goto (tgt := 27) hx hb dX10_down_79 (by decide) ?_
        exact ih27 ls553 H546 locsH546 (x542) (x549) (x552) (lv_sub hl554 [1, 2, 3, 0] rfl) hTH546 hSH546 (by have := i_rng x549; omega) (by have := i_rng x552; omega) gy551_CG gy551_TU gy551_WD gy551_IM (by omega)
      have J73 : ∀ (ls556 : Array Slot) (H555 : Heap) (locsH555 : List Loc) , lv_has ls556 5 [(0, .ref a0), (2, .int x542), (4, .int x544)] → TY K G H555 → va_S (AE G [112, 140, 139] s.heap.size) s.heap H555 locsH555 → (0 ≤ x544.toInt ∧ x544.toInt ≤ 7) → (CG (avw K H555 a0)) → (TU (avw K H555 a0) (svw K H555 a0)) → (WD (avw K H555 a0)) → (IM (avw K H555 a0)) → W p l e ({ frames := 6, cells := 0, slots := 0, locals := 145 } : Room) s m (([.ref a0, .int x1] : List Value).toArray) below meth c H555 locsH555 0 0 Q (F0 m 73 ls556 []) := by
        intro ls556 H555 locsH555  hl557 hTH555 hSH555 b558 gy559_CG gy559_TU gy559_WD gy559_IM
        refine lv_iload hx hb dX10_down_73 (lv_at hl557 2 rfl) ?_
        refine lv_istore_n (lv' := [(3, .int x544), (0, .ref a0), (2, .int x542), (4, .int x544)]) hx hb dX10_down_75 rfl hl557 (by decide) rfl (fun ls560 hl561 => ?_)
        exact J76 ls560 H555 locsH555 (x544) (lv_sub hl561 [1, 2, 0, 3] rfl) hTH555 hSH555 (by have := i_rng x544; omega) (by have := i_rng x544; omega) gy559_CG gy559_TU gy559_WD gy559_IM
      refine lv_iload hx hb dX10_down_27 (lv_at hl541 3 rfl) ?_
      refine lv_aload_n hx hb dX10_down_29 rfl (lv_at hl541 0 rfl) ?_
      refine x_gi C hTH539 (ci := 10) (k := 62) rfl inX10 (by decide) wF_X10_455 ga0 rg_112 rfl dX10_down_30 (fun x562 ex562 bx562 => ?_)
      refine lv_icmp_ge (tgt := 82) hx hb dX10_down_33 (by decide) (fun c563 => ?_) (fun c563 => ?_)
      · have k564 := i_le c563
        refine lv_iload_n hx hb dX10_down_82 rfl (lv_at hl541 2 rfl) ?_
        exact x_iret C hQ dX10_down_83 hSH539 (by decide) (by decide) (⟨x543, rfl, gy545_CG, gy545_TU, gy545_WD, gy545_IM, hTH539⟩)
      · have k564 := i_nle c563
        refine lv_aload_n hx hb dX10_down_36 rfl (lv_at hl541 0 rfl) ?_
        refine x_gr C hTH539 (ci := 10) (k := 63) rfl inX10 (by decide) wF_X10_146 ga0 rg_112 rfl dX10_down_37 (fun q565 eq565 gq565 => ?_)
        refine lv_iload hx hb dX10_down_40 (lv_at hl541 3 rfl) ?_
        refine x_ai C hTH539 gq565 rg_156 ⟨by omega, by show _ < ((8 : Nat) : Int); omega⟩ dX10_down_42 (fun x566 ex566 bx566 => ?_)
        refine lv_iload_n hx hb dX10_down_43 rfl (lv_at hl541 1 rfl) ?_
        refine lv_aload_n hx hb dX10_down_44 rfl (lv_at hl541 0 rfl) ?_
        refine x_gi C hTH539 (ci := 10) (k := 3) rfl inX10 (by decide) wF_X10_7 ga0 rg_112 rfl dX10_down_45 (fun x567 ex567 bx567 => ?_)
        refine lv_iadd hx hb dX10_down_48 ?_
        refine lv_topi (fun x568 ex568 => ?_)
        refine lv_icmp_gt (tgt := 76) hx hb dX10_down_49 (by decide) (fun c569 => ?_) (fun c569 => ?_)
        · have k570 := i_lt c569
          exact J76 ls540 H539 locsH539 (x543) (lv_sub hl541 [0, 1, 2, 3] rfl) hTH539 hSH539 (by have := i_rng x543; omega) (by have := i_rng x544; omega) gy545_CG gy545_TU gy545_WD gy545_IM
        · have k570 := i_nlt c569
          refine lv_iload_n hx hb dX10_down_52 rfl (lv_at hl541 2 rfl) ?_
          refine lv_iconst (v := (-1)) hx hb dX10_down_53 (by decide) ?_
          refine lv_icmp_eq (tgt := 73) hx hb dX10_down_54 (by decide) (fun c571 => ?_) (fun c571 => ?_)
          · have k572 := i_eq c571
            exact J73 ls540 H539 locsH539 (lv_sub hl541 [0, 1, 3] rfl) hTH539 hSH539 (by have := i_rng x544; omega) gy545_CG gy545_TU gy545_WD gy545_IM
          · have k572 := i_ne c571
            refine lv_aload_n hx hb dX10_down_57 rfl (lv_at hl541 0 rfl) ?_
            refine x_gr C hTH539 (ci := 10) (k := 63) rfl inX10 (by decide) wF_X10_146 ga0 rg_112 rfl dX10_down_58 (fun q573 eq573 gq573 => ?_)
            have uq573 : q565 = q573 := (eq565).trans eq573.symm
            subst uq573
            refine lv_iload hx hb dX10_down_61 (lv_at hl541 3 rfl) ?_
            refine x_ai C hTH539 gq565 rg_156 ⟨by omega, by show _ < ((8 : Nat) : Int); omega⟩ dX10_down_63 (fun x574 ex574 bx574 => ?_)
            have ux574 : x566 = x574 := (ex566).trans ex574.symm
            subst ux574
            refine lv_aload_n hx hb dX10_down_64 rfl (lv_at hl541 0 rfl) ?_
            refine x_gr C hTH539 (ci := 10) (k := 63) rfl inX10 (by decide) wF_X10_146 ga0 rg_112 rfl dX10_down_65 (fun q575 eq575 gq575 => ?_)
            have uq575 : q565 = q575 := (eq565).trans eq575.symm
            subst uq575
            refine lv_iload_n hx hb dX10_down_68 rfl (lv_at hl541 2 rfl) ?_
            refine x_ai C hTH539 gq565 rg_156 ⟨by omega, by show _ < ((8 : Nat) : Int); omega⟩ dX10_down_69 (fun x576 ex576 bx576 => ?_)
            refine lv_icmp_le (tgt := 76) hx hb dX10_down_70 (by decide) (fun c577 => ?_) (fun c577 => ?_)
            · have k578 := i_le c577
              exact J76 ls540 H539 locsH539 (x543) (lv_sub hl541 [0, 1, 2, 3] rfl) hTH539 hSH539 (by have := i_rng x543; omega) (by have := i_rng x544; omega) gy545_CG gy545_TU gy545_WD gy545_IM
            · have k578 := i_nle c577
              exact J73 ls540 H539 locsH539 (lv_sub hl541 [0, 1, 3] rfl) hTH539 hSH539 (by have := i_rng x544; omega) gy545_CG gy545_TU gy545_WD gy545_IM
  refine lv_aload_n hx hb dX10_down_0 rfl (lv_at hl 0 rfl) ?_
  refine lv_iconst (v := 0) hx hb dX10_down_1 (by decide) ?_
  refine x_put C hT hS (ci := 10) (k := 0) (v := .int 0) (ty0 := tyX10) rfl inX10 tyX10_ok nmX10 (by decide) rfl wF_X10_167 ga0 rg_112 rfl rfl (okI (by have := i_rng (0 : Int32); omega) (by have := i_rng (0 : Int32); omega)) rfl rfl (AE_in ga0 (by decide)) dX10_down_2 (fun H579 locsH579 hTH579 hSH579 wH579 => ?_)
  have g580 : CG (avw K H579 a0) := CG.congr (fun k hk j => av_fld hT ga0 hap wH579 (by decide) (CG_ok 112 (by decide) k hk) (CG_ne 0 (by decide) k hk)) hg_CG
  have g581 : TU (avw K H579 a0) (svw K H579 a0) := TU.congr (fun k hk j => av_fld hT ga0 hap wH579 (by decide) (TU_ok 112 (by decide) k hk) (TU_ne 0 (by decide) k hk)) (fun k hk => sv_fld hap wH579 (by decide) (TU_slt k hk) (TU_sne 0 (by decide) k hk)) hg_TU
  have g582 : WD (avw K H579 a0) := WD.congr (fun k hk j => av_fld hT ga0 hap wH579 (by decide) (WD_ok 112 (by decide) k hk) (WD_ne 0 (by decide) k hk)) hg_WD
  have g583 : IM (avw K H579 a0) := IM.congr (fun k hk j => av_fld hT ga0 hap wH579 (by decide) (IM_ok 112 (by decide) k hk) (IM_ne 0 (by decide) k hk)) hg_IM
  have m584 := Wr.I wH579
  refine lv_aload_n hx hb dX10_down_5 rfl (lv_at hl 0 rfl) ?_
  refine lv_iload_n hx hb dX10_down_6 rfl (lv_at hl 1 rfl) ?_
  obtain ⟨x585, ex585⟩ : ∃ z : Int32, z = fI H579 a0 (K.1.2 10 1) := ⟨_, rfl⟩
  have bx585 := ty_fi (x := x585) (k := 1) ex585 hTH579 ga0 rg_112 rfl
  refine x_V (As := [.int x1]) (rest := []) C (a_X10_isBar l K G H579 (x1) (x585) hTH579 ga0 ex585) yo_X10_isBar wM_X10_173 ⟨⟨by decide, by decide⟩, by decide, by decide⟩ (x_rv C hTH579 (ci := 10) rfl ga0 rg_112) rfl hl.1 rfl (Nat.le_of_ble_eq_true rfl) dX10_down_7 hSH579 (AE_sub (fun _ _ => rfl) (by decide) hSH579.1) (fun vH586 H586 locsH586 pH586 zH586 kH586 hSH586 => ?_)
  obtain ⟨x587, hvH586, bx587, hrH586, hTH586⟩ := pH586
  subst hvH586
  have g588 : CG (avw K H586 a0) := CG.congr (fun k hk j => av_eff hTH579 kH586 ga0 (by decide) (CG_eff [] (by decide) k hk)) g580
  have g589 : TU (avw K H586 a0) (svw K H586 a0) := TU.congr (fun k hk j => av_eff hTH579 kH586 ga0 (by decide) (TU_eff [] (by decide) k hk)) (fun k hk => sv_eff hTH579 kH586 ga0 (by decide)) g581
  have g590 : WD (avw K H586 a0) := WD.congr (fun k hk j => av_eff hTH579 kH586 ga0 (by decide) (WD_eff [] (by decide) k hk)) g582
  have g591 : IM (avw K H586 a0) := IM.congr (fun k hk j => av_eff hTH579 kH586 ga0 (by decide) (IM_eff [] (by decide) k hk)) g583
  have m592 := (fI_kept (x_lt hTH579 kH586 ga0 (by decide))).trans m584
  have m593 := (ex585).trans (fI_kept (x_lt hTH579 kH586 ga0 (by decide))).symm
  refine W.eq (g2 := F0 m 10 ls [.int x587]) rfl ?_
  refine lv_if_ne (tgt := 15) hx hb dX10_down_10 (by decide) (fun c594 => ?_) (fun c594 => ?_)
  · have k595 := i_ne c594
    refine lv_aload_n hx hb dX10_down_15 rfl (lv_at hl 0 rfl) ?_
    refine lv_iload_n hx hb dX10_down_16 rfl (lv_at hl 1 rfl) ?_
    refine lv_iconst (v := 0) hx hb dX10_down_17 (by decide) ?_
    refine x_V (As := [.int x1, .int 0]) (rest := []) C (a_X10_toneNow l K G H586 (x1) (0) hTH586 ga0 (by omega) g588) yo_X10_toneNow wM_X10_335 ⟨⟨by decide, by decide⟩, by decide, by decide⟩ (x_rv C hTH586 (ci := 10) rfl ga0 rg_112) rfl hl.1 rfl (Nat.le_of_ble_eq_true rfl) dX10_down_18 hSH586 (AE_sub (fun _ _ => rfl) (by decide) hSH586.1) (fun vH596 H596 locsH596 pH596 zH596 kH596 hSH596 => ?_)
    obtain ⟨x597, hvH596, hTH596⟩ := pH596
    subst hvH596
    have g598 : CG (avw K H596 a0) := CG.congr (fun k hk j => av_eff hTH586 kH596 ga0 (by decide) (CG_eff [140, 139] (by decide) k hk)) g588
    have g599 : TU (avw K H596 a0) (svw K H596 a0) := TU.congr (fun k hk j => av_eff hTH586 kH596 ga0 (by decide) (TU_eff [140, 139] (by decide) k hk)) (fun k hk => sv_eff hTH586 kH596 ga0 (by decide)) g589
    have g600 : WD (avw K H596 a0) := WD.congr (fun k hk j => av_eff hTH586 kH596 ga0 (by decide) (WD_eff [140, 139] (by decide) k hk)) g590
    have g601 : IM (avw K H596 a0) := IM.congr (fun k hk j => av_eff hTH586 kH596 ga0 (by decide) (IM_eff [140, 139] (by decide) k hk)) g591
    have m602 := (fI_kept (x_lt hTH586 kH596 ga0 (by decide))).trans m592
    have m603 := (m593).trans (fI_kept (x_lt hTH586 kH596 ga0 (by decide))).symm
    refine W.eq (g2 := F0 m 21 ls [.int x597]) rfl ?_
    refine lv_istore_n (lv' := [(2, .int x597), (0, .ref a0), (1, .int x1)]) hx hb dX10_down_21 rfl hl (by decide) rfl (fun ls604 hl605 => ?_)
    refine lv_iconst (v := (-1)) hx hb dX10_down_22 (by decide) ?_
    refine lv_istore_n (lv' := [(3, .int (-1)), (2, .int x597), (0, .ref a0), (1, .int x1)]) hx hb dX10_down_23 rfl hl605 (by decide) rfl (fun ls606 hl607 => ?_)
    refine lv_iconst (v := 0) hx hb dX10_down_24 (by decide) ?_
    refine lv_istore (lv' := [(4, .int 0), (3, .int (-1)), (2, .int x597), (0, .ref a0), (1, .int x1)]) hx hb dX10_down_25 hl607 (by decide) rfl (fun ls608 hl609 => ?_)
    exact J27 ((8 - (0 : Int32).toInt).toNat + 1) ls608 H596 locsH596 (x597) ((-1)) (0) (lv_sub hl609 [3, 2, 1, 0] rfl) hTH596 hSH596 (by decide) (by decide) g598 g599 g600 g601 (by omega)
  · have k595 := i_eq c594
    refine lv_iconst (v := (-1)) hx hb dX10_down_13 (by decide) ?_
    exact x_iret C hQ dX10_down_14 hSH586 (by decide) (by decide) (⟨(-1), rfl, g588, g589, g590, g591, hTH586⟩)

set_option maxHeartbeats 4000000 in
set_option maxRecDepth 100000 in
theorem a_X10_enough (l : Launch) (K : KE) (G : Nat → Option Nat) (H : Heap) {a0 : Nat} (x1 : Int32) (x2 : Int32) (x3 : Int32) (hT : TY K G H) (ga0 : G a0 = some 112) (hg_CG : CG (avw K H a0)) (hg_TU : TU (avw K H a0) (svw K H a0)) (hg_WD : WD (avw K H a0)) (hg_IM : IM (avw K H a0)) : MX l K yX10_enough cX10_enough 7 (some .int) 6 145 0 0 [.ref a0, .int x1, .int x2, .int x3] H (AE G [112, 117, 140, 139] H.size) (fun v H1 => ∃ (r : Int32), v = some (.int r) ∧ (CG (avw K H1 a0)) ∧ (TU (avw K H1 a0) (svw K H1 a0)) ∧ (WD (avw K H1 a0)) ∧ (IM (avw K H1 a0)) ∧ TY K G H1) := by
  refine MX.of (by decide +kernel) (Nat.le_of_ble_eq_true rfl) ?_
  intro p e s m below meth c ls Q C hH hl hQ
  subst hH
  have C : CX p K s m _ meth c RX10 cX10_enough 7 (some .int) "enough" := C
  obtain ⟨hx, hb, hml, hown, hts, hKT, hr, hlocks, hnm⟩ := id C
  have hl : lv_has ls 7 [(0, .ref a0), (1, .int x1), (2, .int x2), (3, .int x3)] := hl
  have hS : va_S (AE G [112, 117, 140, 139] s.heap.size) s.heap s.heap [] := va_S.rf
  have n_m1 : ((-1) : Int32).toInt = -1 := rfl
  have n_0 : (0 : Int32).toInt = 0 := rfl
  have n_1 : (1 : Int32).toInt = 1 := rfl
  have n_3 : (3 : Int32).toInt = 3 := rfl
  have n_16 : (16 : Int32).toInt = 16 := rfl
  have n_99 : (99 : Int32).toInt = 99 := rfl
  have hap : ∀ x y, x < 74 → y < 74 → x ≠ y → K.1.2 10 x ≠ K.1.2 10 y := x_apart hKT hts inX10 tyX10 tyX10_ok nmX10 rfl
  have J35 : ∀ (ls519 : Array Slot) (H518 : Heap) (locsH518 : List Loc) , lv_has ls519 7 [] → TY K G H518 → va_S (AE G [112, 117, 140, 139] s.heap.size) s.heap H518 locsH518 → (CG (avw K H518 a0)) → (TU (avw K H518 a0) (svw K H518 a0)) → (WD (avw K H518 a0)) → (IM (avw K H518 a0)) → W p l e ({ frames := 6, cells := 0, slots := 0, locals := 145 } : Room) s m (([.ref a0, .int x1, .int x2, .int x3] : List Value).toArray) below meth c H518 locsH518 0 0 Q (F0 m 35 ls519 []) := by
    intro ls519 H518 locsH518  hl520 hTH518 hSH518 gy521_CG gy521_TU gy521_WD gy521_IM
    refine lv_iconst (v := (-1)) hx hb dX10_enough_35 (by decide) ?_
    exact x_iret C hQ dX10_enough_36 hSH518 (by decide) (by decide) (⟨(-1), rfl, gy521_CG, gy521_TU, gy521_WD, gy521_IM, hTH518⟩)
  have J57 : ∀ (nf : Nat) (ls523 : Array Slot) (H522 : Heap) (locsH522 : List Loc) (x528 : Int32) (x529 : Int32) (x530 : Int32), lv_has ls523 7 [(0, .ref a0), (1, .int x1), (2, .int x2), (3, .int x3), (4, .int x528), (5, .int x529), (6, .int x530)] → TY K G H522 → va_S (AE G [112, 117, 140, 139] s.heap.size) s.heap H522 locsH522 → (0 ≤ x1.toInt ∧ x1.toInt ≤ 9) → (0 ≤ x2.toInt ∧ x2.toInt ≤ 15) → (0 ≤ x3.toInt ∧ x3.toInt ≤ 2) → ((-2147483648) ≤ x530.toInt ∧ x530.toInt ≤ 99) → (CG (avw K H522 a0)) → (TU (avw K H522 a0) (svw K H522 a0)) → (WD (avw K H522 a0)) → (IM (avw K H522 a0)) → (2147483647 - x529.toInt < (nf : Int)) → W p l e ({ frames := 6, cells := 0, slots := 0, locals := 145 } : Room) s m (([.ref a0, .int x1, .int x2, .int x3] : List Value).toArray) below meth c H522 locsH522 0 0 Q (F0 m 57 ls523 []) := by
    intro nf
    induction nf with
    | zero =>
      intro ls523 H522 locsH522 x528 x529 x530 hl524 hTH522 hSH522 b525 b526 b527 bx530 gy531_CG gy531_TU gy531_WD gy531_IM hm57
      have rx528 := i_rng x528
      have rx529 := i_rng x529
      exfalso
      omega
    | succ nf ih57 =>
      intro ls523 H522 locsH522 x528 x529 x530 hl524 hTH522 hSH522 b525 b526 b527 bx530 gy531_CG gy531_TU gy531_WD gy531_IM hm57
      have rx528 := i_rng x528
      have rx529 := i_rng x529
      have J120 : ∀ (ls533 : Array Slot) (H532 : Heap) (locsH532 : List Loc) , lv_has ls533 7 [(0, .ref a0), (1, .int x1), (2, .int x2), (4, .int x528), (6, .int x530)] → TY K G H532 → va_S (AE G [112, 117, 140, 139] s.heap.size) s.heap H532 locsH532 → (CG (avw K H532 a0)) → (TU (avw K H532 a0) (svw K H532 a0)) → (WD (avw K H532 a0)) → (IM (avw K H532 a0)) → W p l e ({ frames := 6, cells := 0, slots := 0, locals := 145 } : Room) s m (([.ref a0, .int x1, .int x2, .int x3] : List Value).toArray) below meth c H532 locsH532 0 0 Q (F0 m 120 ls533 []) := by
        intro ls533 H532 locsH532  hl534 hTH532 hSH532 gy535_CG gy535_TU gy535_WD gy535_IM
        refine lv_aload_n hx hb dX10_enough_120 rfl (lv_at hl534 0 rfl) ?_
        refine x_gr C hTH532 (ci := 10) (k := 8) rfl inX10 (by decide) wF_X10_26 ga0 rg_112 rfl dX10_enough_121 (fun q536 eq536 gq536 => ?_)
        refine lv_bipush (v := 16) hx hb dX10_enough_124 (by decide) ?_
        refine lv_iload_n hx hb dX10_enough_126 rfl (lv_at hl534 1 rfl) ?_
        refine lv_imul hx hb dX10_enough_127 ?_
        refine lv_topi (fun x537 ex537 => ?_)
        have tx537 := i_mul ex537 (by rw [n_16]; omega)
        rw [n_16] at tx537
        refine lv_iload_n hx hb dX10_enough_128 rfl (lv_at hl534 2 rfl) ?_
        refine lv_iadd hx hb dX10_enough_129 ?_
        refine lv_topi (fun x538 ex538 => ?_)
        have tx538 := i_add ex538 (by omega)
        refine lv_iload hx hb dX10_enough_130 (lv_at hl534 3 rfl) ?_
        refine x_iast C hTH532 hSH532 gq536 rg_117 (by omega) (by show _ < ((160 : Nat) : Int); omega) ⟨by have := i_rng x528; omega, by have := i_rng x528; omega⟩ (AE_in gq536 (by decide)) dX10_enough_132 (fun H539 locsH539 hTH539 hSH539 wH539 => ?_)
        have g540 : CG (avw K H539 a0) := CG.congr (fun k hk j => av_arr hTH532 ga0 wH539 gq536 (by decide) (CG_ok 117 (by decide) k hk)) gy535_CG
        have g541 : TU (avw K H539 a0) (svw K H539 a0) := TU.congr (fun k hk j => av_arr hTH532 ga0 wH539 gq536 (by decide) (TU_ok 117 (by decide) k hk)) (fun k hk => sv_arr ga0 wH539 gq536 (by decide)) gy535_TU
        have g542 : WD (avw K H539 a0) := WD.congr (fun k hk j => av_arr hTH532 ga0 wH539 gq536 (by decide) (WD_ok 117 (by decide) k hk)) gy535_WD
        have g543 : IM (avw K H539 a0) := IM.congr (fun k hk j => av_arr hTH532 ga0 wH539 gq536 (by decide) (IM_ok 117 (by decide) k hk)) gy535_IM
        have m544 := eq536.trans (Wr.neR wH539 (Or.inl (G_ne ga0 gq536 (by decide)))).symm
        have m545 := Wr.I wH539
        have m545 := m545.symm
        refine lv_iload hx hb dX10_enough_133 (lv_at hl534 4 rfl) ?_
        exact x_iret C hQ dX10_enough_135 hSH539 (by decide) (by decide) (⟨x530, rfl, g540, g541, g542, g543, hTH539⟩)
      have J111 : ∀ (ls547 : Array Slot) (H546 : Heap) (locsH546 : List Loc) (x550 : Int32), lv_has ls547 7 [(0, .ref a0), (1, .int x1), (2, .int x2), (3, .int x3), (4, .int x528), (5, .int x529), (6, .int x550)] → TY K G H546 → va_S (AE G [112, 117, 140, 139] s.heap.size) s.heap H546 locsH546 → ((-2147483648) ≤ x529.toInt ∧ x529.toInt ≤ 99) → ((-2147483648) ≤ x550.toInt ∧ x550.toInt ≤ 99) → (CG (avw K H546 a0)) → (TU (avw K H546 a0) (svw K H546 a0)) → (WD (avw K H546 a0)) → (IM (avw K H546 a0)) → W p l e ({ frames := 6, cells := 0, slots := 0, locals := 145 } : Room) s m (([.ref a0, .int x1, .int x2, .int x3] : List Value).toArray) below meth c H546 locsH546 0 0 Q (F0 m 111 ls547 []) := by
        intro ls547 H546 locsH546 x550 hl548 hTH546 hSH546 b549 bx550 gy551_CG gy551_TU gy551_WD gy551_IM
        refine lv_iload hx hb dX10_enough_111 (lv_at hl548 5 rfl) ?_
        refine lv_iconst (v := 1) hx hb dX10_enough_113 (by decide) ?_
        refine lv_iadd hx hb dX10_enough_114 ?_
        refine lv_topi (fun x552 ex552 => ?_)
        have tx552 := i_add ex552 (by have := i_rng x529; omega)
        refine lv_istore (lv' := [(5, .int x552), (0, .ref a0), (1, .int x1), (2, .int x2), (3, .int x3), (4, .int x528), (6, .int x550)]) hx hb dX10_enough_115 hl548 (by decide) rfl (fun ls553 hl554 => ?_)
        refine lv_goto (tgt := 57) hx hb dX10_enough_117 (by decide) ?_
        exact ih57 ls553 H546 locsH546 (x528) (x552) (x550) (lv_sub hl554 [1, 2, 3, 4, 5, 0, 6] rfl) hTH546 hSH546 (by have := i_rng x1; omega) (by have := i_rng x2; omega) (by have := i_rng x3; omega) (by have := i_rng x550; omega) gy551_CG gy551_TU gy551_WD gy551_IM (by omega)
      refine lv_iload hx hb dX10_enough_57 (lv_at hl524 5 rfl) ?_
      refine lv_bipush (v := 99) hx hb dX10_enough_59 (by decide) ?_
      refine lv_icmp_gt (tgt := 120) hx hb dX10_enough_61 (by decide) (fun c555 => ?_) (fun c555 => ?_)
      · have k556 := i_lt c555
        exact J120 ls523 H522 locsH522 (lv_sub hl524 [0, 1, 2, 4, 6] rfl) hTH522 hSH522 gy531_CG gy531_TU gy531_WD gy531_IM
      · have k556 := i_nlt c555
        refine lv_iload hx hb dX10_enough_64 (lv_at hl524 6 rfl) ?_
        refine lv_iconst (v := (-1)) hx hb dX10_enough_66 (by decide) ?_
        refine lv_icmp_ne (tgt := 120) hx hb dX10_enough_67 (by decide) (fun c557 => ?_) (fun c557 => ?_)
        · have k558 := i_ne c557
          exact J120 ls523 H522 locsH522 (lv_sub hl524 [0, 1, 2, 4, 6] rfl) hTH522 hSH522 gy531_CG gy531_TU gy531_WD gy531_IM
        · have k558 := i_eq c557
          refine lv_aload_n hx hb dX10_enough_70 rfl (lv_at hl524 0 rfl) ?_
          refine x_gr C hTH522 (ci := 10) (k := 8) rfl inX10 (by decide) wF_X10_26 ga0 rg_112 rfl dX10_enough_71 (fun q559 eq559 gq559 => ?_)
          refine lv_bipush (v := 16) hx hb dX10_enough_74 (by decide) ?_
          refine lv_iload_n hx hb dX10_enough_76 rfl (lv_at hl524 1 rfl) ?_
          refine lv_imul hx hb dX10_enough_77 ?_
          refine lv_topi (fun x560 ex560 => ?_)
          have tx560 := i_mul ex560 (by rw [n_16]; omega)
          rw [n_16] at tx560
          refine lv_iload_n hx hb dX10_enough_78 rfl (lv_at hl524 2 rfl) ?_
          refine lv_iadd hx hb dX10_enough_79 ?_
          refine lv_topi (fun x561 ex561 => ?_)
          have tx561 := i_add ex561 (by omega)
          refine lv_iload hx hb dX10_enough_80 (lv_at hl524 5 rfl) ?_
          refine x_iast C hTH522 hSH522 gq559 rg_117 (by omega) (by show _ < ((160 : Nat) : Int); omega) ⟨by have := i_rng x529; omega, by have := i_rng x529; omega⟩ (AE_in gq559 (by decide)) dX10_enough_82 (fun H562 locsH562 hTH562 hSH562 wH562 => ?_)
          have g563 : CG (avw K H562 a0) := CG.congr (fun k hk j => av_arr hTH522 ga0 wH562 gq559 (by decide) (CG_ok 117 (by decide) k hk)) gy531_CG
          have g564 : TU (avw K H562 a0) (svw K H562 a0) := TU.congr (fun k hk j => av_arr hTH522 ga0 wH562 gq559 (by decide) (TU_ok 117 (by decide) k hk)) (fun k hk => sv_arr ga0 wH562 gq559 (by decide)) gy531_TU
          have g565 : WD (avw K H562 a0) := WD.congr (fun k hk j => av_arr hTH522 ga0 wH562 gq559 (by decide) (WD_ok 117 (by decide) k hk)) gy531_WD
          have g566 : IM (avw K H562 a0) := IM.congr (fun k hk j => av_arr hTH522 ga0 wH562 gq559 (by decide) (IM_ok 117 (by decide) k hk)) gy531_IM
          have m567 := eq559.trans (Wr.neR wH562 (Or.inl (G_ne ga0 gq559 (by decide)))).symm
          have m568 := Wr.I wH562
          have m568 := m568.symm
          refine lv_aload_n hx hb dX10_enough_83 rfl (lv_at hl524 0 rfl) ?_
          refine lv_iload_n hx hb dX10_enough_84 rfl (lv_at hl524 1 rfl) ?_
          refine lv_iload_n hx hb dX10_enough_85 rfl (lv_at hl524 3 rfl) ?_
          refine x_V (As := [.int x1, .int x3]) (rest := []) C (a_X10_toneNow l K G H562 (x1) (x3) hTH562 ga0 (by omega) g563) yo_X10_toneNow wM_X10_335 ⟨⟨by decide, by decide⟩, by decide, by decide⟩ (x_rv C hTH562 (ci := 10) rfl ga0 rg_112) rfl hl524.1 rfl (Nat.le_of_ble_eq_true rfl) dX10_enough_86 hSH562 (AE_sub (fun _ _ => rfl) (by decide) hSH562.1) (fun vH569 H569 locsH569 pH569 zH569 kH569 hSH569 => ?_)
          obtain ⟨x570, hvH569, hTH569⟩ := pH569
          subst hvH569
          have g571 : CG (avw K H569 a0) := CG.congr (fun k hk j => av_eff hTH562 kH569 ga0 (by decide) (CG_eff [140, 139] (by decide) k hk)) g563
          have g572 : TU (avw K H569 a0) (svw K H569 a0) := TU.congr (fun k hk j => av_eff hTH562 kH569 ga0 (by decide) (TU_eff [140, 139] (by decide) k hk)) (fun k hk => sv_eff hTH562 kH569 ga0 (by decide)) g564
          have g573 : WD (avw K H569 a0) := WD.congr (fun k hk j => av_eff hTH562 kH569 ga0 (by decide) (WD_eff [140, 139] (by decide) k hk)) g565
          have g574 : IM (avw K H569 a0) := IM.congr (fun k hk j => av_eff hTH562 kH569 ga0 (by decide) (IM_eff [140, 139] (by decide) k hk)) g566
          have m575 := (m567).trans (fR_kept (x_lt hTH562 kH569 ga0 (by decide))).symm
          have m576 := (m568).trans (fI_kept (x_lt hTH562 kH569 gq559 (by decide))).symm
          refine W.eq (g2 := F0 m 89 ls523 [.int x570]) rfl ?_
          refine lv_aload_n hx hb dX10_enough_89 rfl (lv_at hl524 0 rfl) ?_
          refine x_gr C hTH569 (ci := 10) (k := 9) rfl inX10 (by decide) wF_X10_29 ga0 rg_112 rfl dX10_enough_90 (fun q577 eq577 gq577 => ?_)
          refine lv_iconst (v := 3) hx hb dX10_enough_93 (by decide) ?_
          refine lv_iload_n hx hb dX10_enough_94 rfl (lv_at hl524 1 rfl) ?_
          refine lv_imul hx hb dX10_enough_95 ?_
          refine lv_topi (fun x578 ex578 => ?_)
          have tx578 := i_mul ex578 (by rw [n_3]; omega)
          rw [n_3] at tx578
          refine lv_iload_n hx hb dX10_enough_96 rfl (lv_at hl524 3 rfl) ?_
          refine lv_iadd hx hb dX10_enough_97 ?_
          refine lv_topi (fun x579 ex579 => ?_)
          have tx579 := i_add ex579 (by omega)
          refine x_ai C hTH569 gq577 rg_118 ⟨by omega, by show _ < ((30 : Nat) : Int); omega⟩ dX10_enough_98 (fun x580 ex580 bx580 => ?_)
          refine lv_aload_n hx hb dX10_enough_99 rfl (lv_at hl524 0 rfl) ?_
          refine x_gi C hTH569 (ci := 10) (k := 3) rfl inX10 (by decide) wF_X10_7 ga0 rg_112 rfl dX10_enough_100 (fun x581 ex581 bx581 => ?_)
          refine lv_iadd hx hb dX10_enough_103 ?_
          refine lv_topi (fun x582 ex582 => ?_)
          refine lv_icmp_gt (tgt := 111) hx hb dX10_enough_104 (by decide) (fun c583 => ?_) (fun c583 => ?_)
          · have k584 := i_lt c583
            exact J111 ls523 H569 locsH569 (x530) (lv_sub hl524 [0, 1, 2, 3, 4, 5, 6] rfl) hTH569 hSH569 (by have := i_rng x529; omega) (by have := i_rng x530; omega) g571 g572 g573 g574
          · have k584 := i_nlt c583
            refine lv_iload hx hb dX10_enough_107 (lv_at hl524 5 rfl) ?_
            refine lv_istore (lv' := [(6, .int x529), (0, .ref a0), (1, .int x1), (2, .int x2), (3, .int x3), (4, .int x528), (5, .int x529)]) hx hb dX10_enough_109 hl524 (by decide) rfl (fun ls585 hl586 => ?_)
            exact J111 ls585 H569 locsH569 (x529) (lv_sub hl586 [1, 2, 3, 4, 5, 6, 0] rfl) hTH569 hSH569 (by have := i_rng x529; omega) (by have := i_rng x529; omega) g571 g572 g573 g574
  refine lv_aload_n hx hb dX10_enough_0 rfl (lv_at hl 0 rfl) ?_
  refine lv_iconst (v := 0) hx hb dX10_enough_1 (by decide) ?_
  refine x_put C hT hS (ci := 10) (k := 0) (v := .int 0) (ty0 := tyX10) rfl inX10 tyX10_ok nmX10 (by decide) rfl wF_X10_167 ga0 rg_112 rfl rfl (okI (by have := i_rng (0 : Int32); omega) (by have := i_rng (0 : Int32); omega)) rfl rfl (AE_in ga0 (by decide)) dX10_enough_2 (fun H587 locsH587 hTH587 hSH587 wH587 => ?_)
  have g588 : CG (avw K H587 a0) := CG.congr (fun k hk j => av_fld hT ga0 hap wH587 (by decide) (CG_ok 112 (by decide) k hk) (CG_ne 0 (by decide) k hk)) hg_CG
  have g589 : TU (avw K H587 a0) (svw K H587 a0) := TU.congr (fun k hk j => av_fld hT ga0 hap wH587 (by decide) (TU_ok 112 (by decide) k hk) (TU_ne 0 (by decide) k hk)) (fun k hk => sv_fld hap wH587 (by decide) (TU_slt k hk) (TU_sne 0 (by decide) k hk)) hg_TU
  have g590 : WD (avw K H587 a0) := WD.congr (fun k hk j => av_fld hT ga0 hap wH587 (by decide) (WD_ok 112 (by decide) k hk) (WD_ne 0 (by decide) k hk)) hg_WD
  have g591 : IM (avw K H587 a0) := IM.congr (fun k hk j => av_fld hT ga0 hap wH587 (by decide) (IM_ok 112 (by decide) k hk) (IM_ne 0 (by decide) k hk)) hg_IM
  have m592 := Wr.I wH587
  refine lv_aload_n hx hb dX10_enough_5 rfl (lv_at hl 0 rfl) ?_
  refine lv_iload_n hx hb dX10_enough_6 rfl (lv_at hl 1 rfl) ?_
  refine lv_iload_n hx hb dX10_enough_7 rfl (lv_at hl 2 rfl) ?_
  obtain ⟨x593, ex593⟩ : ∃ z : Int32, z = fI H587 a0 (K.1.2 10 1) := ⟨_, rfl⟩
  have bx593 := ty_fi (x := x593) (k := 1) ex593 hTH587 ga0 rg_112 rfl
  refine x_V (As := [.int x1, .int x2]) (rest := []) C (a_X10_isSlice l K G H587 (x1) (x2) (x593) hTH587 ga0 ex593) yo_X10_isSlice wM_X10_181 ⟨⟨by decide, by decide⟩, by decide, by decide⟩ (x_rv C hTH587 (ci := 10) rfl ga0 rg_112) rfl hl.1 rfl (Nat.le_of_ble_eq_true rfl) dX10_enough_8 hSH587 (AE_sub (fun _ _ => rfl) (by decide) hSH587.1) (fun vH594 H594 locsH594 pH594 zH594 kH594 hSH594 => ?_)
  obtain ⟨x595, hvH594, bx595, hrH594, hTH594⟩ := pH594
  subst hvH594
  have g596 : CG (avw K H594 a0) := CG.congr (fun k hk j => av_eff hTH587 kH594 ga0 (by decide) (CG_eff [] (by decide) k hk)) g588
  have g597 : TU (avw K H594 a0) (svw K H594 a0) := TU.congr (fun k hk j => av_eff hTH587 kH594 ga0 (by decide) (TU_eff [] (by decide) k hk)) (fun k hk => sv_eff hTH587 kH594 ga0 (by decide)) g589
  have g598 : WD (avw K H594 a0) := WD.congr (fun k hk j => av_eff hTH587 kH594 ga0 (by decide) (WD_eff [] (by decide) k hk)) g590
  have g599 : IM (avw K H594 a0) := IM.congr (fun k hk j => av_eff hTH587 kH594 ga0 (by decide) (IM_eff [] (by decide) k hk)) g591
  have m600 := (fI_kept (x_lt hTH587 kH594 ga0 (by decide))).trans m592
  have m601 := (ex593).trans (fI_kept (x_lt hTH587 kH594 ga0 (by decide))).symm
  refine W.eq (g2 := F0 m 11 ls [.int x595]) rfl ?_
  refine lv_if_eq (tgt := 35) hx hb dX10_enough_11 (by decide) (fun c602 => ?_) (fun c602 => ?_)
  · have k603 := i_eq c602
    exact J35 ls H594 locsH594 (lv_sub hl [] rfl) hTH594 hSH594 g596 g597 g598 g599
  · have k603 := i_ne c602
    refine lv_aload_n hx hb dX10_enough_14 rfl (lv_at hl 0 rfl) ?_
    refine lv_iload_n hx hb dX10_enough_15 rfl (lv_at hl 3 rfl) ?_
    refine x_V (As := [.int x3]) (rest := []) C (c_X10_isTone l K G H594 (x3) hTH594 ga0) yo_X10_isTone wM_X10_331 ⟨⟨by decide, by decide⟩, by decide, by decide⟩ (x_rv C hTH594 (ci := 10) rfl ga0 rg_112) rfl hl.1 rfl (Nat.le_of_ble_eq_true rfl) dX10_enough_16 hSH594 (AE_sub (fun _ _ => rfl) (by decide) hSH594.1) (fun vH604 H604 locsH604 pH604 zH604 kH604 hSH604 => ?_)
    have hqH604 := pH604.1.symm
    subst hqH604
    rcases pH604.2 with ⟨hvH604, hcH604⟩ | ⟨hvH604, hcH604⟩
    · subst hvH604
      refine W.eq (g2 := F0 m 19 ls [.int 1]) rfl ?_
      refine lv_if_eq (tgt := 35) hx hb dX10_enough_19 (by decide) (fun c605 => ?_) (fun c605 => ?_)
      · have k606 := i_eq c605
        exfalso
        omega
      · have k606 := i_ne c605
        refine lv_aload_n hx hb dX10_enough_22 rfl (lv_at hl 0 rfl) ?_
        refine x_gr C hTH594 (ci := 10) (k := 9) rfl inX10 (by decide) wF_X10_29 ga0 rg_112 rfl dX10_enough_23 (fun q607 eq607 gq607 => ?_)
        refine lv_iconst (v := 3) hx hb dX10_enough_26 (by decide) ?_
        refine lv_iload_n hx hb dX10_enough_27 rfl (lv_at hl 1 rfl) ?_
        refine lv_imul hx hb dX10_enough_28 ?_
        refine lv_topi (fun x608 ex608 => ?_)
        have tx608 := i_mul ex608 (by rw [n_3]; omega)
        rw [n_3] at tx608
        refine lv_iload_n hx hb dX10_enough_29 rfl (lv_at hl 3 rfl) ?_
        refine lv_iadd hx hb dX10_enough_30 ?_
        refine lv_topi (fun x609 ex609 => ?_)
        have tx609 := i_add ex609 (by omega)
        refine x_ai C hTH594 gq607 rg_118 ⟨by omega, by show _ < ((30 : Nat) : Int); omega⟩ dX10_enough_31 (fun x610 ex610 bx610 => ?_)
        refine lv_if_ne (tgt := 37) hx hb dX10_enough_32 (by decide) (fun c611 => ?_) (fun c611 => ?_)
        · have k612 := i_ne c611
          refine lv_aload_n hx hb dX10_enough_37 rfl (lv_at hl 0 rfl) ?_
          refine x_gr C hTH594 (ci := 10) (k := 8) rfl inX10 (by decide) wF_X10_26 ga0 rg_112 rfl dX10_enough_38 (fun q613 eq613 gq613 => ?_)
          refine lv_bipush (v := 16) hx hb dX10_enough_41 (by decide) ?_
          refine lv_iload_n hx hb dX10_enough_43 rfl (lv_at hl 1 rfl) ?_
          refine lv_imul hx hb dX10_enough_44 ?_
          refine lv_topi (fun x614 ex614 => ?_)
          have tx614 := i_mul ex614 (by rw [n_16]; omega)
          rw [n_16] at tx614
          refine lv_iload_n hx hb dX10_enough_45 rfl (lv_at hl 2 rfl) ?_
          refine lv_iadd hx hb dX10_enough_46 ?_
          refine lv_topi (fun x615 ex615 => ?_)
          have tx615 := i_add ex615 (by omega)
          refine x_ai C hTH594 gq613 rg_117 ⟨by omega, by show _ < ((160 : Nat) : Int); omega⟩ dX10_enough_47 (fun x616 ex616 bx616 => ?_)
          refine lv_istore (lv' := [(4, .int x616), (0, .ref a0), (1, .int x1), (2, .int x2), (3, .int x3)]) hx hb dX10_enough_48 hl (by decide) rfl (fun ls617 hl618 => ?_)
          refine lv_iload hx hb dX10_enough_50 (lv_at hl618 0 rfl) ?_
          refine lv_istore (lv' := [(5, .int x616), (4, .int x616), (0, .ref a0), (1, .int x1), (2, .int x2), (3, .int x3)]) hx hb dX10_enough_52 hl618 (by decide) rfl (fun ls619 hl620 => ?_)
          refine lv_iconst (v := (-1)) hx hb dX10_enough_54 (by decide) ?_
          refine lv_istore (lv' := [(6, .int (-1)), (5, .int x616), (4, .int x616), (0, .ref a0), (1, .int x1), (2, .int x2), (3, .int x3)]) hx hb dX10_enough_55 hl620 (by decide) rfl (fun ls621 hl622 => ?_)
          exact J57 ((2147483647 - x616.toInt).toNat + 1) ls621 H594 locsH604 (x616) (x616) ((-1)) (lv_sub hl622 [3, 4, 5, 6, 2, 1, 0] rfl) hTH594 hSH604 (by have := i_rng x1; omega) (by have := i_rng x2; omega) (by have := i_rng x3; omega) (by decide) g596 g597 g598 g599 (by omega)
        · have k612 := i_eq c611
          exact J35 ls H594 locsH604 (lv_sub hl [] rfl) hTH594 hSH604 g596 g597 g598 g599
    · subst hvH604
      refine W.eq (g2 := F0 m 19 ls [.int 0]) rfl ?_
      refine lv_if_eq (tgt := 35) hx hb dX10_enough_19 (by decide) (fun c623 => ?_) (fun c623 => ?_)
      · have k624 := i_eq c623
        exact J35 ls H594 locsH604 (lv_sub hl [] rfl) hTH594 hSH604 g596 g597 g598 g599
      · have k624 := i_ne c623
        exfalso
        omega

set_option maxHeartbeats 4000000 in
set_option maxRecDepth 100000 in
theorem a_X10_look (l : Launch) (K : KE) (G : Nat → Option Nat) (H : Heap) {a0 : Nat} (x1 : Int32) (hT : TY K G H) (ga0 : G a0 = some 112) (hg_CG : CG (avw K H a0)) (hg_TU : TU (avw K H a0) (svw K H a0)) (hg_WD : WD (avw K H a0)) (hg_IM : IM (avw K H a0)) : MX l K yX10_look cX10_look 2 (some .int) 8 190 0 0 [.ref a0, .int x1] H (AE G [112, 140, 139] H.size) (fun v H1 => ∃ (r : Int32), v = some (.int r) ∧ (CG (avw K H1 a0)) ∧ (TU (avw K H1 a0) (svw K H1 a0)) ∧ (WD (avw K H1 a0)) ∧ (IM (avw K H1 a0)) ∧ TY K G H1) := by
  refine MX.of (by decide +kernel) (Nat.le_of_ble_eq_true rfl) ?_
  intro p e s m below meth c ls Q C hH hl hQ
  subst hH
  have C : CX p K s m _ meth c RX10 cX10_look 2 (some .int) "look" := C
  obtain ⟨hx, hb, hml, hown, hts, hKT, hr, hlocks, hnm⟩ := id C
  have hl : lv_has ls 2 [(0, .ref a0), (1, .int x1)] := hl
  have hS : va_S (AE G [112, 140, 139] s.heap.size) s.heap s.heap [] := va_S.rf
  have n_m1 : ((-1) : Int32).toInt = -1 := rfl
  have n_0 : (0 : Int32).toInt = 0 := rfl
  have n_1 : (1 : Int32).toInt = 1 := rfl
  have n_2 : (2 : Int32).toInt = 2 := rfl
  have n_3 : (3 : Int32).toInt = 3 := rfl
  have n_4 : (4 : Int32).toInt = 4 := rfl
  have n_5 : (5 : Int32).toInt = 5 := rfl
  have n_6 : (6 : Int32).toInt = 6 := rfl
  have n_7 : (7 : Int32).toInt = 7 := rfl
  have hap : ∀ x y, x < 74 → y < 74 → x ≠ y → K.1.2 10 x ≠ K.1.2 10 y := x_apart hKT hts inX10 tyX10 tyX10_ok nmX10 rfl
  have J95 : ∀ (ls264 : Array Slot) (H263 : Heap) (locsH263 : List Loc) (x266 : Int32), lv_has ls264 2 [] → TY K G H263 → va_S (AE G [112, 140, 139] s.heap.size) s.heap H263 locsH263 → (CG (avw K H263 a0)) → (TU (avw K H263 a0) (svw K H263 a0)) → (WD (avw K H263 a0)) → (IM (avw K H263 a0)) → W p l e ({ frames := 8, cells := 0, slots := 0, locals := 190 } : Room) s m (([.ref a0, .int x1] : List Value).toArray) below meth c H263 locsH263 0 0 Q (F0 m 95 ls264 [.int x266]) := by
    intro ls264 H263 locsH263 x266 hl265 hTH263 hSH263 gy267_CG gy267_TU gy267_WD gy267_IM
    exact x_iret C hQ dX10_look_95 hSH263 (by decide) (by decide) (⟨x266, rfl, gy267_CG, gy267_TU, gy267_WD, gy267_IM, hTH263⟩)
  have J76 : ∀ (ls269 : Array Slot) (H268 : Heap) (locsH268 : List Loc) , lv_has ls269 2 [(0, .ref a0), (1, .int x1)] → TY K G H268 → va_S (AE G [112, 140, 139] s.heap.size) s.heap H268 locsH268 → (6 ≤ x1.toInt ∧ x1.toInt ≤ 7) → (CG (avw K H268 a0)) → (TU (avw K H268 a0) (svw K H268 a0)) → (WD (avw K H268 a0)) → (IM (avw K H268 a0)) → W p l e ({ frames := 8, cells := 0, slots := 0, locals := 190 } : Room) s m (([.ref a0, .int x1] : List Value).toArray) below meth c H268 locsH268 0 0 Q (F0 m 76 ls269 []) := by
    intro ls269 H268 locsH268  hl270 hTH268 hSH268 b271 gy272_CG gy272_TU gy272_WD gy272_IM
    have J88 : ∀ (ls274 : Array Slot) (H273 : Heap) (locsH273 : List Loc) (x276 : Int32), lv_has ls274 2 [] → TY K G H273 → va_S (AE G [112, 140, 139] s.heap.size) s.heap H273 locsH273 → (0 ≤ x276.toInt ∧ x276.toInt ≤ 1) → (CG (avw K H273 a0)) → (TU (avw K H273 a0) (svw K H273 a0)) → (WD (avw K H273 a0)) → (IM (avw K H273 a0)) → W p l e ({ frames := 8, cells := 0, slots := 0, locals := 190 } : Room) s m (([.ref a0, .int x1] : List Value).toArray) below meth c H273 locsH273 0 0 Q (F0 m 88 ls274 [.int x276, .ref a0]) := by
      intro ls274 H273 locsH273 x276 hl275 hTH273 hSH273 bx276 gy277_CG gy277_TU gy277_WD gy277_IM
      refine x_V (As := [.int x276]) (rest := []) C (a_X10_barsThat l K G H273 (x276) hTH273 ga0 (by omega) gy277_CG) yo_X10_barsThat wM_X10_488 ⟨⟨by decide, by decide⟩, by decide, by decide⟩ (x_rv C hTH273 (ci := 10) rfl ga0 rg_112) rfl hl275.1 rfl (Nat.le_of_ble_eq_true rfl) dX10_look_88 hSH273 (AE_sub (fun _ _ => rfl) (by decide) hSH273.1) (fun vH278 H278 locsH278 pH278 zH278 kH278 hSH278 => ?_)
      obtain ⟨x279, hvH278, hTH278⟩ := pH278
      subst hvH278
      have g280 : CG (avw K H278 a0) := CG.congr (fun k hk j => av_eff hTH273 kH278 ga0 (by decide) (CG_eff [140, 139] (by decide) k hk)) gy277_CG
      have g281 : TU (avw K H278 a0) (svw K H278 a0) := TU.congr (fun k hk j => av_eff hTH273 kH278 ga0 (by decide) (TU_eff [140, 139] (by decide) k hk)) (fun k hk => sv_eff hTH273 kH278 ga0 (by decide)) gy277_TU
      have g282 : WD (avw K H278 a0) := WD.congr (fun k hk j => av_eff hTH273 kH278 ga0 (by decide) (WD_eff [140, 139] (by decide) k hk)) gy277_WD
      have g283 : IM (avw K H278 a0) := IM.congr (fun k hk j => av_eff hTH273 kH278 ga0 (by decide) (IM_eff [140, 139] (by decide) k hk)) gy277_IM
      refine W.eq (g2 := F0 m 91 ls274 [.int x279]) rfl ?_
      refine lv_goto (tgt := 95) hx hb dX10_look_91 (by decide) ?_
      exact J95 ls274 H278 locsH278 (x279) (lv_sub hl275 [] rfl) hTH278 hSH278 g280 g281 g282 g283
    refine lv_aload_n hx hb dX10_look_76 rfl (lv_at hl270 0 rfl) ?_
    refine lv_iload_n hx hb dX10_look_77 rfl (lv_at hl270 1 rfl) ?_
    refine lv_bipush (v := 6) hx hb dX10_look_78 (by decide) ?_
    refine lv_icmp_ne (tgt := 87) hx hb dX10_look_80 (by decide) (fun c284 => ?_) (fun c284 => ?_)
    · have k285 := i_ne c284
      refine lv_iconst (v := 0) hx hb dX10_look_87 (by decide) ?_
      exact J88 ls269 H268 locsH268 (0) (lv_sub hl270 [] rfl) hTH268 hSH268 (by decide) gy272_CG gy272_TU gy272_WD gy272_IM
    · have k285 := i_eq c284
      refine lv_iconst (v := 1) hx hb dX10_look_83 (by decide) ?_
      refine lv_goto (tgt := 88) hx hb dX10_look_84 (by decide) ?_
      exact J88 ls269 H268 locsH268 (1) (lv_sub hl270 [] rfl) hTH268 hSH268 (by decide) gy272_CG gy272_TU gy272_WD gy272_IM
  refine lv_aload_n hx hb dX10_look_0 rfl (lv_at hl 0 rfl) ?_
  refine lv_iconst (v := 0) hx hb dX10_look_1 (by decide) ?_
  refine x_put C hT hS (ci := 10) (k := 0) (v := .int 0) (ty0 := tyX10) rfl inX10 tyX10_ok nmX10 (by decide) rfl wF_X10_167 ga0 rg_112 rfl rfl (okI (by have := i_rng (0 : Int32); omega) (by have := i_rng (0 : Int32); omega)) rfl rfl (AE_in ga0 (by decide)) dX10_look_2 (fun H286 locsH286 hTH286 hSH286 wH286 => ?_)
  have g287 : CG (avw K H286 a0) := CG.congr (fun k hk j => av_fld hT ga0 hap wH286 (by decide) (CG_ok 112 (by decide) k hk) (CG_ne 0 (by decide) k hk)) hg_CG
  have g288 : TU (avw K H286 a0) (svw K H286 a0) := TU.congr (fun k hk j => av_fld hT ga0 hap wH286 (by decide) (TU_ok 112 (by decide) k hk) (TU_ne 0 (by decide) k hk)) (fun k hk => sv_fld hap wH286 (by decide) (TU_slt k hk) (TU_sne 0 (by decide) k hk)) hg_TU
  have g289 : WD (avw K H286 a0) := WD.congr (fun k hk j => av_fld hT ga0 hap wH286 (by decide) (WD_ok 112 (by decide) k hk) (WD_ne 0 (by decide) k hk)) hg_WD
  have g290 : IM (avw K H286 a0) := IM.congr (fun k hk j => av_fld hT ga0 hap wH286 (by decide) (IM_ok 112 (by decide) k hk) (IM_ne 0 (by decide) k hk)) hg_IM
  have m291 := Wr.I wH286
  refine lv_iload_n hx hb dX10_look_5 rfl (lv_at hl 1 rfl) ?_
  refine lv_if_ne (tgt := 14) hx hb dX10_look_6 (by decide) (fun c292 => ?_) (fun c292 => ?_)
  · have k293 := i_ne c292
    refine lv_iload_n hx hb dX10_look_14 rfl (lv_at hl 1 rfl) ?_
    refine lv_iconst (v := 1) hx hb dX10_look_15 (by decide) ?_
    refine lv_icmp_ne (tgt := 24) hx hb dX10_look_16 (by decide) (fun c294 => ?_) (fun c294 => ?_)
    · have k295 := i_ne c294
      refine lv_iload_n hx hb dX10_look_24 rfl (lv_at hl 1 rfl) ?_
      refine lv_iconst (v := 2) hx hb dX10_look_25 (by decide) ?_
      refine lv_icmp_ne (tgt := 34) hx hb dX10_look_26 (by decide) (fun c296 => ?_) (fun c296 => ?_)
      · have k297 := i_ne c296
        refine lv_iload_n hx hb dX10_look_34 rfl (lv_at hl 1 rfl) ?_
        refine lv_iconst (v := 3) hx hb dX10_look_35 (by decide) ?_
        refine lv_icmp_ne (tgt := 44) hx hb dX10_look_36 (by decide) (fun c298 => ?_) (fun c298 => ?_)
        · have k299 := i_ne c298
          refine lv_iload_n hx hb dX10_look_44 rfl (lv_at hl 1 rfl) ?_
          refine lv_iconst (v := 4) hx hb dX10_look_45 (by decide) ?_
          refine lv_icmp_ne (tgt := 54) hx hb dX10_look_46 (by decide) (fun c300 => ?_) (fun c300 => ?_)
          · have k301 := i_ne c300
            refine lv_iload_n hx hb dX10_look_54 rfl (lv_at hl 1 rfl) ?_
            refine lv_iconst (v := 5) hx hb dX10_look_55 (by decide) ?_
            refine lv_icmp_ne (tgt := 64) hx hb dX10_look_56 (by decide) (fun c302 => ?_) (fun c302 => ?_)
            · have k303 := i_ne c302
              refine lv_iload_n hx hb dX10_look_64 rfl (lv_at hl 1 rfl) ?_
              refine lv_bipush (v := 6) hx hb dX10_look_65 (by decide) ?_
              refine lv_icmp_eq (tgt := 76) hx hb dX10_look_67 (by decide) (fun c304 => ?_) (fun c304 => ?_)
              · have k305 := i_eq c304
                exact J76 ls H286 locsH286 (lv_sub hl [0, 1] rfl) hTH286 hSH286 (by have := i_rng x1; omega) g287 g288 g289 g290
              · have k305 := i_ne c304
                refine lv_iload_n hx hb dX10_look_70 rfl (lv_at hl 1 rfl) ?_
                refine lv_bipush (v := 7) hx hb dX10_look_71 (by decide) ?_
                refine lv_icmp_ne (tgt := 94) hx hb dX10_look_73 (by decide) (fun c306 => ?_) (fun c306 => ?_)
                · have k307 := i_ne c306
                  refine lv_iconst (v := (-1)) hx hb dX10_look_94 (by decide) ?_
                  exact J95 ls H286 locsH286 ((-1)) (lv_sub hl [] rfl) hTH286 hSH286 g287 g288 g289 g290
                · have k307 := i_eq c306
                  exact J76 ls H286 locsH286 (lv_sub hl [0, 1] rfl) hTH286 hSH286 (by have := i_rng x1; omega) g287 g288 g289 g290
            · have k303 := i_eq c302
              refine lv_aload_n hx hb dX10_look_59 rfl (lv_at hl 0 rfl) ?_
              refine x_gi C hTH286 (ci := 10) (k := 2) rfl inX10 (by decide) wF_X10_322 ga0 rg_112 rfl dX10_look_60 (fun x308 ex308 bx308 => ?_)
              exact x_iret C hQ dX10_look_63 hSH286 (by decide) (by decide) (⟨x308, rfl, g287, g288, g289, g290, hTH286⟩)
          · have k301 := i_eq c300
            refine lv_aload_n hx hb dX10_look_49 rfl (lv_at hl 0 rfl) ?_
            refine x_gi C hTH286 (ci := 10) (k := 3) rfl inX10 (by decide) wF_X10_7 ga0 rg_112 rfl dX10_look_50 (fun x309 ex309 bx309 => ?_)
            exact x_iret C hQ dX10_look_53 hSH286 (by decide) (by decide) (⟨x309, rfl, g287, g288, g289, g290, hTH286⟩)
        · have k299 := i_eq c298
          refine lv_aload_n hx hb dX10_look_39 rfl (lv_at hl 0 rfl) ?_
          refine x_gi C hTH286 (ci := 10) (k := 65) rfl inX10 (by decide) wF_X10_458 ga0 rg_112 rfl dX10_look_40 (fun x310 ex310 bx310 => ?_)
          exact x_iret C hQ dX10_look_43 hSH286 (by decide) (by decide) (⟨x310, rfl, g287, g288, g289, g290, hTH286⟩)
      · have k297 := i_eq c296
        refine lv_aload_n hx hb dX10_look_29 rfl (lv_at hl 0 rfl) ?_
        refine x_gi C hTH286 (ci := 10) (k := 62) rfl inX10 (by decide) wF_X10_455 ga0 rg_112 rfl dX10_look_30 (fun x311 ex311 bx311 => ?_)
        exact x_iret C hQ dX10_look_33 hSH286 (by decide) (by decide) (⟨x311, rfl, g287, g288, g289, g290, hTH286⟩)
    · have k295 := i_eq c294
      refine lv_aload_n hx hb dX10_look_19 rfl (lv_at hl 0 rfl) ?_
      refine x_gi C hTH286 (ci := 10) (k := 59) rfl inX10 (by decide) wF_X10_438 ga0 rg_112 rfl dX10_look_20 (fun x312 ex312 bx312 => ?_)
      exact x_iret C hQ dX10_look_23 hSH286 (by decide) (by decide) (⟨x312, rfl, g287, g288, g289, g290, hTH286⟩)
  · have k293 := i_eq c292
    refine lv_aload_n hx hb dX10_look_9 rfl (lv_at hl 0 rfl) ?_
    refine x_gi C hTH286 (ci := 10) (k := 1) rfl inX10 (by decide) wF_X10_170 ga0 rg_112 rfl dX10_look_10 (fun x313 ex313 bx313 => ?_)
    exact x_iret C hQ dX10_look_13 hSH286 (by decide) (by decide) (⟨x313, rfl, g287, g288, g289, g290, hTH286⟩)

set_option maxHeartbeats 4000000 in
set_option maxRecDepth 100000 in
theorem a_X10_bar (l : Launch) (K : KE) (G : Nat → Option Nat) (H : Heap) {a0 : Nat} (x1 : Int32) {slq : Nat} {tbq : Nat} (bs : Int32) (hT : TY K G H) (ga0 : G a0 = some 112) (gslq : G slq = some 113) (eslq : slq = fR H a0 (K.1.2 10 4)) (gtbq : G tbq = some 125) (etbq : tbq = fR H a0 (K.1.2 10 16)) (ebs : bs = fI H a0 (K.1.2 10 1)) (hg_CG : CG (avw K H a0)) (hg_TU : TU (avw K H a0) (svw K H a0)) (hg_WD : WD (avw K H a0)) (hg_IM : IM (avw K H a0)) : MX l K yX10_bar cX10_bar 3 (some .int) 1 23 0 0 [.ref a0, .int x1] H (AE G [112, 113, 114, 115, 116, 117, 125] H.size) (fun v H1 => ∃ (r : Int32) (t0 : Int32), v = some (.int r) ∧ t0 = fI H1 a0 (K.1.2 10 1) ∧ slq = fR H1 a0 (K.1.2 10 4) ∧ tbq = fR H1 a0 (K.1.2 10 16) ∧ (CG (avw K H1 a0)) ∧ (TU (avw K H1 a0) (svw K H1 a0)) ∧ (WD (avw K H1 a0)) ∧ (IM (avw K H1 a0)) ∧ TY K G H1) := by
  refine MX.of (by decide +kernel) (Nat.le_of_ble_eq_true rfl) ?_
  intro p e s m below meth c ls Q C hH hl hQ
  subst hH
  have C : CX p K s m _ meth c RX10 cX10_bar 3 (some .int) "bar" := C
  obtain ⟨hx, hb, hml, hown, hts, hKT, hr, hlocks, hnm⟩ := id C
  have hl : lv_has ls 3 [(0, .ref a0), (1, .int x1)] := hl
  have hS : va_S (AE G [112, 113, 114, 115, 116, 117, 125] s.heap.size) s.heap s.heap [] := va_S.rf
  have n_m1 : ((-1) : Int32).toInt = -1 := rfl
  have n_0 : (0 : Int32).toInt = 0 := rfl
  have n_1 : (1 : Int32).toInt = 1 := rfl
  have n_2 : (2 : Int32).toInt = 2 := rfl
  have n_3 : (3 : Int32).toInt = 3 := rfl
  have n_5 : (5 : Int32).toInt = 5 := rfl
  have n_10 : (10 : Int32).toInt = 10 := rfl
  have n_16 : (16 : Int32).toInt = 16 := rfl
  have n_20 : (20 : Int32).toInt = 20 := rfl
  have n_500 : (500 : Int32).toInt = 500 := rfl
  have bbs := ty_fi (x := bs) (k := 1) ebs hT ga0 rg_112 rfl
  have hap : ∀ x y, x < 74 → y < 74 → x ≠ y → K.1.2 10 x ≠ K.1.2 10 y := x_apart hKT hts inX10 tyX10 tyX10_ok nmX10 rfl
  have J25 : ∀ (ls1030 : Array Slot) (H1029 : Heap) (locsH1029 : List Loc) (x1032 : Int32), lv_has ls1030 3 [] → TY K G H1029 → va_S (AE G [112, 113, 114, 115, 116, 117, 125] s.heap.size) s.heap H1029 locsH1029 → (0 ≤ x1032.toInt ∧ x1032.toInt ≤ 10) → (x1032 = fI H1029 a0 (K.1.2 10 1)) → (slq = fR H1029 a0 (K.1.2 10 4)) → (tbq = fR H1029 a0 (K.1.2 10 16)) → (CG (avw K H1029 a0)) → (TU (avw K H1029 a0) (svw K H1029 a0)) → (WD (avw K H1029 a0)) → (IM (avw K H1029 a0)) → (True) → W p l e ({ frames := 1, cells := 0, slots := 0, locals := 23 } : Room) s m (([.ref a0, .int x1] : List Value).toArray) below meth c H1029 locsH1029 0 0 Q (F0 m 25 ls1030 []) := by
    intro ls1030 H1029 locsH1029 x1032 hl1031 hTH1029 hSH1029 bx1032 ex1032 cy1033_0 cy1033_1 gy1033_CG gy1033_TU gy1033_WD gy1033_IM iv25
    refine lv_iconst (v := (-1)) hx hb dX10_bar_25 (by decide) ?_
    exact x_iret C hQ dX10_bar_26 hSH1029 (by decide) (by decide) (⟨(-1), x1032, rfl, ex1032, cy1033_0, cy1033_1, gy1033_CG, gy1033_TU, gy1033_WD, gy1033_IM, hTH1029⟩)
  have J45 : ∀ (nf : Nat) (ls1035 : Array Slot) (H1034 : Heap) (locsH1034 : List Loc) (x1037 : Int32) (x1038 : Int32), lv_has ls1035 3 [(0, .ref a0), (2, .int x1037)] → TY K G H1034 → va_S (AE G [112, 113, 114, 115, 116, 117, 125] s.heap.size) s.heap H1034 locsH1034 → (0 ≤ x1037.toInt ∧ x1037.toInt ≤ 160) → (0 ≤ x1038.toInt ∧ x1038.toInt ≤ 9) → (x1038 = fI H1034 a0 (K.1.2 10 1)) → (slq = fR H1034 a0 (K.1.2 10 4)) → (tbq = fR H1034 a0 (K.1.2 10 16)) → (AB H1034 slq (bs.toNatClampNeg + 1) (1) (16)) → (CG (avw K H1034 a0)) → (TU (avw K H1034 a0) (svw K H1034 a0)) → (WD (avw K H1034 a0)) → (IM (avw K H1034 a0)) → (160 - x1037.toInt < (nf : Int)) → (16 * bs.toInt ≤ x1037.toInt ∧ x1038.toInt = bs.toInt ∧ bs.toInt ≤ 9) → W p l e ({ frames := 1, cells := 0, slots := 0, locals := 23 } : Room) s m (([.ref a0, .int x1] : List Value).toArray) below meth c H1034 locsH1034 0 0 Q (F0 m 45 ls1035 []) := by
    intro nf
    induction nf with
    | zero =>
      intro ls1035 H1034 locsH1034 x1037 x1038 hl1036 hTH1034 hSH1034 bx1037 bx1038 ex1038 cy1039_0 cy1039_1 by1039_sl gy1039_CG gy1039_TU gy1039_WD gy1039_IM hm45 iv45
      exfalso
      omega
    | succ nf ih45 =>
      intro ls1035 H1034 locsH1034 x1037 x1038 hl1036 hTH1034 hSH1034 bx1037 bx1038 ex1038 cy1039_0 cy1039_1 by1039_sl gy1039_CG gy1039_TU gy1039_WD gy1039_IM hm45 iv45
      refine lv_iload_n hx hb dX10_bar_45 rfl (lv_at hl1036 1 rfl) ?_
      refine lv_bipush (v := 16) hx hb dX10_bar_46 (by decide) ?_
      refine lv_aload_n hx hb dX10_bar_48 rfl (lv_at hl1036 0 rfl) ?_
      refine x_gi C hTH1034 (ci := 10) (k := 1) rfl inX10 (by decide) wF_X10_170 ga0 rg_112 rfl dX10_bar_49 (fun x1040 ex1040 bx1040 => ?_)
      have ux1040 : x1038 = x1040 := (ex1038).trans ex1040.symm
      subst ux1040
      refine lv_imul hx hb dX10_bar_52 ?_
      refine lv_topi (fun x1041 ex1041 => ?_)
      have tx1041 := i_mul ex1041 (by rw [n_16]; omega)
      rw [n_16] at tx1041
      refine lv_bipush (v := 16) hx hb dX10_bar_53 (by decide) ?_
      refine lv_iadd hx hb dX10_bar_55 ?_
      refine lv_topi (fun x1042 ex1042 => ?_)
      have tx1042 := i_add ex1042 (by omega)
      refine lv_icmp_ge (tgt := 94) hx hb dX10_bar_56 (by decide) (fun c1043 => ?_) (fun c1043 => ?_)
      · have k1044 := i_le c1043
        have cbtb := i_cl (x := x1038) (by omega)
        have atb : AB H1034 tbq (2 * x1038.toNatClampNeg) 1 9999 := TU.abT gy1039_TU cy1039_1 ex1038 (by omega) (fun j hj => (by obtain ⟨c, -, -, -, -, -, -, h⟩ := hTH1034.aint gtbq rg_125 (j := j) (by omega); exact h))
        refine lv_aload_n hx hb dX10_bar_94 rfl (lv_at hl1036 0 rfl) ?_
        refine x_gr C hTH1034 (ci := 10) (k := 16) rfl inX10 (by decide) wF_X10_50 ga0 rg_112 rfl dX10_bar_95 (fun q1045 eq1045 gq1045 => ?_)
        have uq1045 : tbq = q1045 := (cy1039_1).trans eq1045.symm
        subst uq1045
        refine lv_iconst (v := 2) hx hb dX10_bar_98 (by decide) ?_
        refine lv_aload_n hx hb dX10_bar_99 rfl (lv_at hl1036 0 rfl) ?_
        refine x_gi C hTH1034 (ci := 10) (k := 1) rfl inX10 (by decide) wF_X10_170 ga0 rg_112 rfl dX10_bar_100 (fun x1046 ex1046 bx1046 => ?_)
        have ux1046 : x1038 = x1046 := (ex1038).trans ex1046.symm
        subst ux1046
        refine lv_imul hx hb dX10_bar_103 ?_
        refine lv_topi (fun x1047 ex1047 => ?_)
        have tx1047 := i_mul ex1047 (by rw [n_2]; omega)
        rw [n_2] at tx1047
        refine lv_sipush (v := 500) hx hb dX10_bar_104 (by decide) ?_
        refine x_iast C hTH1034 hSH1034 gtbq rg_125 (by omega) (by show _ < ((20 : Nat) : Int); omega) (by decide) (AE_in gtbq (by decide)) dX10_bar_107 (fun H1048 locsH1048 hTH1048 hSH1048 wH1048 => ?_)
        have g1049 : CG (avw K H1048 a0) := CG.congr (fun k hk j => av_arr hTH1034 ga0 wH1048 gtbq (by decide) (CG_ok 125 (by decide) k hk)) gy1039_CG
        have g1050 : TU (avw K H1048 a0) (svw K H1048 a0) := TU.putT hTH1034 ga0 wH1048 gtbq cy1039_1 (by omega) gy1039_TU
        have g1051 : WD (avw K H1048 a0) := WD.congr (fun k hk j => av_arr hTH1034 ga0 wH1048 gtbq (by decide) (WD_ok 125 (by decide) k hk)) gy1039_WD
        have g1052 : IM (avw K H1048 a0) := IM.congr (fun k hk j => av_arr hTH1034 ga0 wH1048 gtbq (by decide) (IM_ok 125 (by decide) k hk)) gy1039_IM
        have b1053 : AB H1048 slq (bs.toNatClampNeg + 1) (1) (16) := AB.kept (fun j => Wr.neI wH1048 (Or.inl (G_ne gslq gtbq (by decide)))) by1039_sl
        have cjH1048 := i_cl (x := x1047) (by omega)
        have b1054 : AB H1048 tbq (2 * x1038.toNatClampNeg + 1) (1) (9999) := (AB.ext wH1048 (by omega) atb (by omega) rfl)
        have m1055 := ex1038.trans (Wr.neI wH1048 (Or.inl (G_ne ga0 gtbq (by decide)))).symm
        have m1056 := cy1039_0.trans (Wr.neR wH1048 (Or.inl (G_ne ga0 gtbq (by decide)))).symm
        have m1057 := cy1039_1.trans (Wr.neR wH1048 (Or.inl (G_ne ga0 gtbq (by decide)))).symm
        have m1058 := Wr.I wH1048
        refine lv_aload_n hx hb dX10_bar_108 rfl (lv_at hl1036 0 rfl) ?_
        refine x_gr C hTH1048 (ci := 10) (k := 16) rfl inX10 (by decide) wF_X10_50 ga0 rg_112 rfl dX10_bar_109 (fun q1059 eq1059 gq1059 => ?_)
        have uq1059 : tbq = q1059 := (m1057).trans eq1059.symm
        subst uq1059
        refine lv_iconst (v := 2) hx hb dX10_bar_112 (by decide) ?_
        refine lv_aload_n hx hb dX10_bar_113 rfl (lv_at hl1036 0 rfl) ?_
        refine x_gi C hTH1048 (ci := 10) (k := 1) rfl inX10 (by decide) wF_X10_170 ga0 rg_112 rfl dX10_bar_114 (fun x1060 ex1060 bx1060 => ?_)
        have ux1060 : x1038 = x1060 := (m1055).trans ex1060.symm
        subst ux1060
        refine lv_imul hx hb dX10_bar_117 ?_
        refine lv_topi (fun x1061 ex1061 => ?_)
        have tx1061 := i_mul ex1061 (by rw [n_2]; omega)
        rw [n_2] at tx1061
        refine lv_iconst (v := 1) hx hb dX10_bar_118 (by decide) ?_
        refine lv_iadd hx hb dX10_bar_119 ?_
        refine lv_topi (fun x1062 ex1062 => ?_)
        have tx1062 := i_add ex1062 (by omega)
        refine lv_sipush (v := 500) hx hb dX10_bar_120 (by decide) ?_
        refine x_iast C hTH1048 hSH1048 gtbq rg_125 (by omega) (by show _ < ((20 : Nat) : Int); omega) (by decide) (AE_in gtbq (by decide)) dX10_bar_123 (fun H1063 locsH1063 hTH1063 hSH1063 wH1063 => ?_)
        have g1064 : CG (avw K H1063 a0) := CG.congr (fun k hk j => av_arr hTH1048 ga0 wH1063 gtbq (by decide) (CG_ok 125 (by decide) k hk)) g1049
        have g1065 : TU (avw K H1063 a0) (svw K H1063 a0) := TU.putT hTH1048 ga0 wH1063 gtbq m1057 (by omega) g1050
        have g1066 : WD (avw K H1063 a0) := WD.congr (fun k hk j => av_arr hTH1048 ga0 wH1063 gtbq (by decide) (WD_ok 125 (by decide) k hk)) g1051
        have g1067 : IM (avw K H1063 a0) := IM.congr (fun k hk j => av_arr hTH1048 ga0 wH1063 gtbq (by decide) (IM_ok 125 (by decide) k hk)) g1052
        have b1068 : AB H1063 slq (bs.toNatClampNeg + 1) (1) (16) := AB.kept (fun j => Wr.neI wH1063 (Or.inl (G_ne gslq gtbq (by decide)))) b1053
        have cjH1063 := i_cl (x := x1062) (by omega)
        have b1069 : AB H1063 tbq (2 * x1038.toNatClampNeg + 1 + 1) (1) (9999) := (AB.ext wH1063 (by omega) b1054 (by omega) rfl)
        have m1070 := m1055.trans (Wr.neI wH1063 (Or.inl (G_ne ga0 gtbq (by decide)))).symm
        have m1071 := m1056.trans (Wr.neR wH1063 (Or.inl (G_ne ga0 gtbq (by decide)))).symm
        have m1072 := m1057.trans (Wr.neR wH1063 (Or.inl (G_ne ga0 gtbq (by decide)))).symm
        have m1074 := Wr.I wH1063
        refine lv_aload_n hx hb dX10_bar_124 rfl (lv_at hl1036 0 rfl) ?_
        refine lv_aload_n hx hb dX10_bar_125 rfl (lv_at hl1036 0 rfl) ?_
        refine x_gi C hTH1063 (ci := 10) (k := 1) rfl inX10 (by decide) wF_X10_170 ga0 rg_112 rfl dX10_bar_126 (fun x1075 ex1075 bx1075 => ?_)
        have ux1075 : x1038 = x1075 := (m1070).trans ex1075.symm
        subst ux1075
        refine lv_iconst (v := 1) hx hb dX10_bar_129 (by decide) ?_
        refine lv_iadd hx hb dX10_bar_130 ?_
        refine lv_topi (fun x1076 ex1076 => ?_)
        have tx1076 := i_add ex1076 (by omega)
        refine x_put C hTH1063 hSH1063 (ci := 10) (k := 1) (v := .int x1076) (ty0 := tyX10) rfl inX10 tyX10_ok nmX10 (by decide) rfl wF_X10_170 ga0 rg_112 rfl rfl (okI (by have := i_rng x1076; omega) (by have := i_rng x1076; omega)) rfl rfl (AE_in ga0 (by decide)) dX10_bar_131 (fun H1077 locsH1077 hTH1077 hSH1077 wH1077 => ?_)
        have g1078 : CG (avw K H1077 a0) := CG.congr (fun k hk j => av_fld hTH1063 ga0 hap wH1077 (by decide) (CG_ok 112 (by decide) k hk) (CG_ne 1 (by decide) k hk)) g1064
        have clt_bs := i_cl (x := bs) (by omega)
        have clt_x1038 := i_cl (x := x1038) (by omega)
        have g1079 : TU (avw K H1077 a0) (svw K H1077 a0) := TU.grow hTH1063 ga0 hap wH1077 m1072 m1071 b1069 b1068 (by omega) (by omega)
        have g1080 : WD (avw K H1077 a0) := WD.congr (fun k hk j => av_fld hTH1063 ga0 hap wH1077 (by decide) (WD_ok 112 (by decide) k hk) (WD_ne 1 (by decide) k hk)) g1066
        have g1081 : IM (avw K H1077 a0) := IM.congr (fun k hk j => av_fld hTH1063 ga0 hap wH1077 (by decide) (IM_ok 112 (by decide) k hk) (IM_ne 1 (by decide) k hk)) g1067
        have b1082 : AB H1077 slq (bs.toNatClampNeg + 1) (1) (16) := AB.kept (fun j => Wr.neI wH1077 (Or.inl (G_ne gslq ga0 (by decide)))) b1068
        have b1083 : AB H1077 tbq (2 * x1038.toNatClampNeg + 1 + 1) (1) (9999) := AB.kept (fun j => Wr.neI wH1077 (Or.inl (G_ne gtbq ga0 (by decide)))) b1069
        have m1085 := m1071.trans (Wr.neR wH1077 (Or.inr (x_apart hKT hts inX10 tyX10 tyX10_ok nmX10 rfl 4 1 (by decide) (by decide) (by decide)))).symm
        have m1086 := m1072.trans (Wr.neR wH1077 (Or.inr (x_apart hKT hts inX10 tyX10 tyX10_ok nmX10 rfl 16 1 (by decide) (by decide) (by decide)))).symm
        have m1087 := (Wr.neI wH1077 (Or.inl (G_ne gtbq ga0 (by decide)))).trans m1074
        have m1088 := Wr.I wH1077
        have m1088 := m1088.symm
        refine lv_aload_n hx hb dX10_bar_134 rfl (lv_at hl1036 0 rfl) ?_
        refine x_gi C hTH1077 (ci := 10) (k := 1) rfl inX10 (by decide) wF_X10_170 ga0 rg_112 rfl dX10_bar_135 (fun x1089 ex1089 bx1089 => ?_)
        have ux1089 : x1076 = x1089 := (m1088).trans ex1089.symm
        subst ux1089
        refine lv_iconst (v := 1) hx hb dX10_bar_138 (by decide) ?_
        refine lv_isub hx hb dX10_bar_139 ?_
        refine lv_topi (fun x1090 ex1090 => ?_)
        have tx1090 := i_sub ex1090 (by omega)
        exact x_iret C hQ dX10_bar_140 hSH1077 (by decide) (by decide) (⟨x1090, x1076, rfl, m1088, m1085, m1086, g1078, g1079, g1080, g1081, hTH1077⟩)
      · have k1044 := i_nle c1043
        refine lv_aload_n hx hb dX10_bar_59 rfl (lv_at hl1036 0 rfl) ?_
        refine x_gr C hTH1034 (ci := 10) (k := 5) rfl inX10 (by decide) wF_X10_17 ga0 rg_112 rfl dX10_bar_60 (fun q1091 eq1091 gq1091 => ?_)
        refine lv_iload_n hx hb dX10_bar_63 rfl (lv_at hl1036 1 rfl) ?_
        refine lv_bipush (v := 20) hx hb dX10_bar_64 (by decide) ?_
        refine x_iast C hTH1034 hSH1034 gq1091 rg_114 (by omega) (by show _ < ((160 : Nat) : Int); omega) (by decide) (AE_in gq1091 (by decide)) dX10_bar_66 (fun H1092 locsH1092 hTH1092 hSH1092 wH1092 => ?_)
        have g1093 : CG (avw K H1092 a0) := CG.congr (fun k hk j => av_arr hTH1034 ga0 wH1092 gq1091 (by decide) (CG_ok 114 (by decide) k hk)) gy1039_CG
        have g1094 : TU (avw K H1092 a0) (svw K H1092 a0) := TU.congr (fun k hk j => av_arr hTH1034 ga0 wH1092 gq1091 (by decide) (TU_ok 114 (by decide) k hk)) (fun k hk => sv_arr ga0 wH1092 gq1091 (by decide)) gy1039_TU
        have g1095 : WD (avw K H1092 a0) := WD.congr (fun k hk j => av_arr hTH1034 ga0 wH1092 gq1091 (by decide) (WD_ok 114 (by decide) k hk)) gy1039_WD
        have g1096 : IM (avw K H1092 a0) := IM.congr (fun k hk j => av_arr hTH1034 ga0 wH1092 gq1091 (by decide) (IM_ok 114 (by decide) k hk)) gy1039_IM
        have b1097 : AB H1092 slq (bs.toNatClampNeg + 1) (1) (16) := AB.kept (fun j => Wr.neI wH1092 (Or.inl (G_ne gslq gq1091 (by decide)))) by1039_sl
        have m1098 := ex1038.trans (Wr.neI wH1092 (Or.inl (G_ne ga0 gq1091 (by decide)))).symm
        have m1099 := cy1039_0.trans (Wr.neR wH1092 (Or.inl (G_ne ga0 gq1091 (by decide)))).symm
        have m1100 := cy1039_1.trans (Wr.neR wH1092 (Or.inl (G_ne ga0 gq1091 (by decide)))).symm
        have m1101 := eq1091.trans (Wr.neR wH1092 (Or.inl (G_ne ga0 gq1091 (by decide)))).symm
        have m1102 := Wr.I wH1092
        refine lv_aload_n hx hb dX10_bar_67 rfl (lv_at hl1036 0 rfl) ?_
        refine x_gr C hTH1092 (ci := 10) (k := 6) rfl inX10 (by decide) wF_X10_20 ga0 rg_112 rfl dX10_bar_68 (fun q1103 eq1103 gq1103 => ?_)
        refine lv_iload_n hx hb dX10_bar_71 rfl (lv_at hl1036 1 rfl) ?_
        refine lv_iconst (v := 5) hx hb dX10_bar_72 (by decide) ?_
        refine x_iast C hTH1092 hSH1092 gq1103 rg_115 (by omega) (by show _ < ((160 : Nat) : Int); omega) (by decide) (AE_in gq1103 (by decide)) dX10_bar_73 (fun H1104 locsH1104 hTH1104 hSH1104 wH1104 => ?_)
        have g1105 : CG (avw K H1104 a0) := CG.congr (fun k hk j => av_arr hTH1092 ga0 wH1104 gq1103 (by decide) (CG_ok 115 (by decide) k hk)) g1093
        have g1106 : TU (avw K H1104 a0) (svw K H1104 a0) := TU.congr (fun k hk j => av_arr hTH1092 ga0 wH1104 gq1103 (by decide) (TU_ok 115 (by decide) k hk)) (fun k hk => sv_arr ga0 wH1104 gq1103 (by decide)) g1094
        have g1107 : WD (avw K H1104 a0) := WD.congr (fun k hk j => av_arr hTH1092 ga0 wH1104 gq1103 (by decide) (WD_ok 115 (by decide) k hk)) g1095
        have g1108 : IM (avw K H1104 a0) := IM.congr (fun k hk j => av_arr hTH1092 ga0 wH1104 gq1103 (by decide) (IM_ok 115 (by decide) k hk)) g1096
        have b1109 : AB H1104 slq (bs.toNatClampNeg + 1) (1) (16) := AB.kept (fun j => Wr.neI wH1104 (Or.inl (G_ne gslq gq1103 (by decide)))) b1097
        have m1110 := m1098.trans (Wr.neI wH1104 (Or.inl (G_ne ga0 gq1103 (by decide)))).symm
        have m1111 := m1099.trans (Wr.neR wH1104 (Or.inl (G_ne ga0 gq1103 (by decide)))).symm
        have m1112 := m1100.trans (Wr.neR wH1104 (Or.inl (G_ne ga0 gq1103 (by decide)))).symm
        have m1113 := m1101.trans (Wr.neR wH1104 (Or.inl (G_ne ga0 gq1103 (by decide)))).symm
        have m1114 := (Wr.neI wH1104 (Or.inl (G_ne gq1091 gq1103 (by decide)))).trans m1102
        have m1115 := eq1103.trans (Wr.neR wH1104 (Or.inl (G_ne ga0 gq1103 (by decide)))).symm
        have m1116 := Wr.I wH1104
        refine lv_aload_n hx hb dX10_bar_74 rfl (lv_at hl1036 0 rfl) ?_
        refine x_gr C hTH1104 (ci := 10) (k := 7) rfl inX10 (by decide) wF_X10_23 ga0 rg_112 rfl dX10_bar_75 (fun q1117 eq1117 gq1117 => ?_)
        refine lv_iload_n hx hb dX10_bar_78 rfl (lv_at hl1036 1 rfl) ?_
        refine lv_iconst (v := 5) hx hb dX10_bar_79 (by decide) ?_
        refine x_iast C hTH1104 hSH1104 gq1117 rg_116 (by omega) (by show _ < ((160 : Nat) : Int); omega) (by decide) (AE_in gq1117 (by decide)) dX10_bar_80 (fun H1118 locsH1118 hTH1118 hSH1118 wH1118 => ?_)
        have g1119 : CG (avw K H1118 a0) := CG.congr (fun k hk j => av_arr hTH1104 ga0 wH1118 gq1117 (by decide) (CG_ok 116 (by decide) k hk)) g1105
        have g1120 : TU (avw K H1118 a0) (svw K H1118 a0) := TU.congr (fun k hk j => av_arr hTH1104 ga0 wH1118 gq1117 (by decide) (TU_ok 116 (by decide) k hk)) (fun k hk => sv_arr ga0 wH1118 gq1117 (by decide)) g1106
        have g1121 : WD (avw K H1118 a0) := WD.congr (fun k hk j => av_arr hTH1104 ga0 wH1118 gq1117 (by decide) (WD_ok 116 (by decide) k hk)) g1107
        have g1122 : IM (avw K H1118 a0) := IM.congr (fun k hk j => av_arr hTH1104 ga0 wH1118 gq1117 (by decide) (IM_ok 116 (by decide) k hk)) g1108
        have b1123 : AB H1118 slq (bs.toNatClampNeg + 1) (1) (16) := AB.kept (fun j => Wr.neI wH1118 (Or.inl (G_ne gslq gq1117 (by decide)))) b1109
        have m1124 := m1110.trans (Wr.neI wH1118 (Or.inl (G_ne ga0 gq1117 (by decide)))).symm
        have m1125 := m1111.trans (Wr.neR wH1118 (Or.inl (G_ne ga0 gq1117 (by decide)))).symm
        have m1126 := m1112.trans (Wr.neR wH1118 (Or.inl (G_ne ga0 gq1117 (by decide)))).symm
        have m1127 := m1113.trans (Wr.neR wH1118 (Or.inl (G_ne ga0 gq1117 (by decide)))).symm
        have m1128 := (Wr.neI wH1118 (Or.inl (G_ne gq1091 gq1117 (by decide)))).trans m1114
        have m1129 := m1115.trans (Wr.neR wH1118 (Or.inl (G_ne ga0 gq1117 (by decide)))).symm
        have m1130 := (Wr.neI wH1118 (Or.inl (G_ne gq1103 gq1117 (by decide)))).trans m1116
        have m1131 := eq1117.trans (Wr.neR wH1118 (Or.inl (G_ne ga0 gq1117 (by decide)))).symm
        have m1132 := Wr.I wH1118
        refine lv_aload_n hx hb dX10_bar_81 rfl (lv_at hl1036 0 rfl) ?_
        refine x_gr C hTH1118 (ci := 10) (k := 8) rfl inX10 (by decide) wF_X10_26 ga0 rg_112 rfl dX10_bar_82 (fun q1133 eq1133 gq1133 => ?_)
        refine lv_iload_n hx hb dX10_bar_85 rfl (lv_at hl1036 1 rfl) ?_
        refine lv_iconst (v := 0) hx hb dX10_bar_86 (by decide) ?_
        refine x_iast C hTH1118 hSH1118 gq1133 rg_117 (by omega) (by show _ < ((160 : Nat) : Int); omega) (by decide) (AE_in gq1133 (by decide)) dX10_bar_87 (fun H1134 locsH1134 hTH1134 hSH1134 wH1134 => ?_)
        have g1135 : CG (avw K H1134 a0) := CG.congr (fun k hk j => av_arr hTH1118 ga0 wH1134 gq1133 (by decide) (CG_ok 117 (by decide) k hk)) g1119
        have g1136 : TU (avw K H1134 a0) (svw K H1134 a0) := TU.congr (fun k hk j => av_arr hTH1118 ga0 wH1134 gq1133 (by decide) (TU_ok 117 (by decide) k hk)) (fun k hk => sv_arr ga0 wH1134 gq1133 (by decide)) g1120
        have g1137 : WD (avw K H1134 a0) := WD.congr (fun k hk j => av_arr hTH1118 ga0 wH1134 gq1133 (by decide) (WD_ok 117 (by decide) k hk)) g1121
        have g1138 : IM (avw K H1134 a0) := IM.congr (fun k hk j => av_arr hTH1118 ga0 wH1134 gq1133 (by decide) (IM_ok 117 (by decide) k hk)) g1122
        have b1139 : AB H1134 slq (bs.toNatClampNeg + 1) (1) (16) := AB.kept (fun j => Wr.neI wH1134 (Or.inl (G_ne gslq gq1133 (by decide)))) b1123
        have m1140 := m1124.trans (Wr.neI wH1134 (Or.inl (G_ne ga0 gq1133 (by decide)))).symm
        have m1141 := m1125.trans (Wr.neR wH1134 (Or.inl (G_ne ga0 gq1133 (by decide)))).symm
        have m1142 := m1126.trans (Wr.neR wH1134 (Or.inl (G_ne ga0 gq1133 (by decide)))).symm
        have m1143 := m1127.trans (Wr.neR wH1134 (Or.inl (G_ne ga0 gq1133 (by decide)))).symm
        have m1144 := (Wr.neI wH1134 (Or.inl (G_ne gq1091 gq1133 (by decide)))).trans m1128
        have m1145 := m1129.trans (Wr.neR wH1134 (Or.inl (G_ne ga0 gq1133 (by decide)))).symm
        have m1146 := (Wr.neI wH1134 (Or.inl (G_ne gq1103 gq1133 (by decide)))).trans m1130
        have m1147 := m1131.trans (Wr.neR wH1134 (Or.inl (G_ne ga0 gq1133 (by decide)))).symm
        have m1148 := (Wr.neI wH1134 (Or.inl (G_ne gq1117 gq1133 (by decide)))).trans m1132
        have m1149 := eq1133.trans (Wr.neR wH1134 (Or.inl (G_ne ga0 gq1133 (by decide)))).symm
        have m1150 := Wr.I wH1134
        obtain ⟨x1151, ex1151⟩ : ∃ y : Int32, y = x1037 + 1 := ⟨_, rfl⟩
        have tx1151 := i_add ex1151 (by omega)
        refine lv_iinc (v := x1151) (lv' := [(2, .int x1151), (0, .ref a0)]) hx hb dX10_bar_88 hl1036 (k := 1) rfl (by rw [ex1151]; rfl) (by decide) rfl (fun ls1152 hl1153 => ?_)
        refine lv_goto (tgt := 45) hx hb dX10_bar_91 (by decide) ?_
        have cl_bs := i_cl (x := bs) (by omega)
        exact ih45 ls1152 H1134 locsH1134 (x1151) (x1038) (lv_sub hl1153 [1, 0] rfl) hTH1134 hSH1134 (by have := i_rng x1151; omega) (by have := i_rng x1038; omega) m1140 m1141 m1142 (AB.weak b1139 (by omega) (by omega) (by omega)) g1135 g1136 g1137 g1138 (by omega) (by omega)
  refine lv_aload_n hx hb dX10_bar_0 rfl (lv_at hl 0 rfl) ?_
  refine lv_iconst (v := 0) hx hb dX10_bar_1 (by decide) ?_
  refine x_put C hT hS (ci := 10) (k := 0) (v := .int 0) (ty0 := tyX10) rfl inX10 tyX10_ok nmX10 (by decide) rfl wF_X10_167 ga0 rg_112 rfl rfl (okI (by have := i_rng (0 : Int32); omega) (by have := i_rng (0 : Int32); omega)) rfl rfl (AE_in ga0 (by decide)) dX10_bar_2 (fun H1154 locsH1154 hTH1154 hSH1154 wH1154 => ?_)
  have g1155 : CG (avw K H1154 a0) := CG.congr (fun k hk j => av_fld hT ga0 hap wH1154 (by decide) (CG_ok 112 (by decide) k hk) (CG_ne 0 (by decide) k hk)) hg_CG
  have g1156 : TU (avw K H1154 a0) (svw K H1154 a0) := TU.congr (fun k hk j => av_fld hT ga0 hap wH1154 (by decide) (TU_ok 112 (by decide) k hk) (TU_ne 0 (by decide) k hk)) (fun k hk => sv_fld hap wH1154 (by decide) (TU_slt k hk) (TU_sne 0 (by decide) k hk)) hg_TU
  have g1157 : WD (avw K H1154 a0) := WD.congr (fun k hk j => av_fld hT ga0 hap wH1154 (by decide) (WD_ok 112 (by decide) k hk) (WD_ne 0 (by decide) k hk)) hg_WD
  have g1158 : IM (avw K H1154 a0) := IM.congr (fun k hk j => av_fld hT ga0 hap wH1154 (by decide) (IM_ok 112 (by decide) k hk) (IM_ne 0 (by decide) k hk)) hg_IM
  have m1159 := eslq.trans (Wr.neR wH1154 (Or.inr (x_apart hKT hts inX10 tyX10 tyX10_ok nmX10 rfl 4 0 (by decide) (by decide) (by decide)))).symm
  have m1160 := etbq.trans (Wr.neR wH1154 (Or.inr (x_apart hKT hts inX10 tyX10 tyX10_ok nmX10 rfl 16 0 (by decide) (by decide) (by decide)))).symm
  have m1161 := ebs.trans (Wr.neI wH1154 (Or.inr (x_apart hKT hts inX10 tyX10 tyX10_ok nmX10 rfl 1 0 (by decide) (by decide) (by decide)))).symm
  have m1162 := Wr.I wH1154
  refine lv_aload_n hx hb dX10_bar_5 rfl (lv_at hl 0 rfl) ?_
  refine lv_iload_n hx hb dX10_bar_6 rfl (lv_at hl 1 rfl) ?_
  refine lv_iconst (v := 3) hx hb dX10_bar_7 (by decide) ?_
  refine lv_bipush (v := 16) hx hb dX10_bar_8 (by decide) ?_
  refine x_V (As := [.int x1, .int 3, .int 16]) (rest := []) C (c_X10_isIn l K G H1154 (x1) (3) (16) hTH1154 ga0) yo_X10_isIn wM_X10_177 ⟨⟨by decide, by decide⟩, by decide, by decide⟩ (x_rv C hTH1154 (ci := 10) rfl ga0 rg_112) rfl hl.1 rfl (Nat.le_of_ble_eq_true rfl) dX10_bar_10 hSH1154 (AE_sub (fun _ _ => rfl) (by decide) hSH1154.1) (fun vH1163 H1163 locsH1163 pH1163 zH1163 kH1163 hSH1163 => ?_)
  have hqH1163 := pH1163.1.symm
  subst hqH1163
  rcases pH1163.2 with ⟨hvH1163, hcH1163⟩ | ⟨hvH1163, hcH1163⟩
  · subst hvH1163
    refine W.eq (g2 := F0 m 13 ls [.int 1]) rfl ?_
    refine lv_if_eq (tgt := 25) hx hb dX10_bar_13 (by decide) (fun c1164 => ?_) (fun c1164 => ?_)
    · have k1165 := i_eq c1164
      exfalso
      omega
    · have k1165 := i_ne c1164
      refine lv_aload_n hx hb dX10_bar_16 rfl (lv_at hl 0 rfl) ?_
      refine x_gi C hTH1154 (ci := 10) (k := 1) rfl inX10 (by decide) wF_X10_170 ga0 rg_112 rfl dX10_bar_17 (fun x1166 ex1166 bx1166 => ?_)
      have ux1166 : bs = x1166 := (m1161).trans ex1166.symm
      subst ux1166
      refine lv_bipush (v := 10) hx hb dX10_bar_20 (by decide) ?_
      refine lv_icmp_ne (tgt := 27) hx hb dX10_bar_22 (by decide) (fun c1167 => ?_) (fun c1167 => ?_)
      · have k1168 := i_ne c1167
        have cbsl := i_cl (x := bs) (by omega)
        have asl : AB H1154 slq (bs.toNatClampNeg) 1 16 := TU.abS g1156 m1159 m1161 (by omega) (fun j hj => (by obtain ⟨c, -, -, -, -, -, -, h⟩ := hTH1154.aint gslq rg_113 (j := j) (by omega); exact h))
        refine lv_aload_n hx hb dX10_bar_27 rfl (lv_at hl 0 rfl) ?_
        refine x_gr C hTH1154 (ci := 10) (k := 4) rfl inX10 (by decide) wF_X10_13 ga0 rg_112 rfl dX10_bar_28 (fun q1169 eq1169 gq1169 => ?_)
        have uq1169 : slq = q1169 := (m1159).trans eq1169.symm
        subst uq1169
        refine lv_aload_n hx hb dX10_bar_31 rfl (lv_at hl 0 rfl) ?_
        refine x_gi C hTH1154 (ci := 10) (k := 1) rfl inX10 (by decide) wF_X10_170 ga0 rg_112 rfl dX10_bar_32 (fun x1170 ex1170 bx1170 => ?_)
        have ux1170 : bs = x1170 := (m1161).trans ex1170.symm
        subst ux1170
        refine lv_iload_n hx hb dX10_bar_35 rfl (lv_at hl 1 rfl) ?_
        refine x_iast C hTH1154 hSH1163 gslq rg_113 (by omega) (by show _ < ((10 : Nat) : Int); omega) ⟨by have := i_rng x1; omega, by have := i_rng x1; omega⟩ (AE_in gslq (by decide)) dX10_bar_36 (fun H1171 locsH1171 hTH1171 hSH1171 wH1171 => ?_)
        have g1172 : CG (avw K H1171 a0) := CG.congr (fun k hk j => av_arr hTH1154 ga0 wH1171 gslq (by decide) (CG_ok 113 (by decide) k hk)) g1155
        have g1173 : TU (avw K H1171 a0) (svw K H1171 a0) := TU.putS hTH1154 ga0 wH1171 gslq m1159 (by omega) g1156
        have g1174 : WD (avw K H1171 a0) := WD.congr (fun k hk j => av_arr hTH1154 ga0 wH1171 gslq (by decide) (WD_ok 113 (by decide) k hk)) g1157
        have g1175 : IM (avw K H1171 a0) := IM.congr (fun k hk j => av_arr hTH1154 ga0 wH1171 gslq (by decide) (IM_ok 113 (by decide) k hk)) g1158
        have cjH1171 := i_cl (x := bs) (by omega)
        have b1176 : AB H1171 slq (bs.toNatClampNeg + 1) (1) (16) := (AB.ext wH1171 (by omega) asl (by omega) rfl)
        have m1177 := m1159.trans (Wr.neR wH1171 (Or.inl (G_ne ga0 gslq (by decide)))).symm
        have m1178 := m1160.trans (Wr.neR wH1171 (Or.inl (G_ne ga0 gslq (by decide)))).symm
        have m1179 := m1161.trans (Wr.neI wH1171 (Or.inl (G_ne ga0 gslq (by decide)))).symm
        have m1180 := (Wr.neI wH1171 (Or.inl (G_ne ga0 gslq (by decide)))).trans m1162
        have m1181 := Wr.I wH1171
        have m1181 := m1181.symm
        refine lv_bipush (v := 16) hx hb dX10_bar_37 (by decide) ?_
        refine lv_aload_n hx hb dX10_bar_39 rfl (lv_at hl 0 rfl) ?_
        refine x_gi C hTH1171 (ci := 10) (k := 1) rfl inX10 (by decide) wF_X10_170 ga0 rg_112 rfl dX10_bar_40 (fun x1182 ex1182 bx1182 => ?_)
        have ux1182 : bs = x1182 := (m1179).trans ex1182.symm
        subst ux1182
        refine lv_imul hx hb dX10_bar_43 ?_
        refine lv_topi (fun x1183 ex1183 => ?_)
        have tx1183 := i_mul ex1183 (by rw [n_16]; omega)
        rw [n_16] at tx1183
        refine lv_istore_n (lv' := [(2, .int x1183), (0, .ref a0), (1, .int x1)]) hx hb dX10_bar_44 rfl hl (by decide) rfl (fun ls1184 hl1185 => ?_)
        have cl_bs := i_cl (x := bs) (by omega)
        exact J45 ((160 - x1183.toInt).toNat + 1) ls1184 H1171 locsH1171 (x1183) (bs) (lv_sub hl1185 [1, 0] rfl) hTH1171 hSH1171 (by have := i_rng x1183; omega) (by have := i_rng bs; omega) m1179 m1177 m1178 (AB.weak b1176 (by omega) (by omega) (by omega)) g1172 g1173 g1174 g1175 (by omega) (by omega)
      · have k1168 := i_eq c1167
        exact J25 ls H1154 locsH1163 (bs) (lv_sub hl [] rfl) hTH1154 hSH1163 (by have := i_rng bs; omega) m1161 m1159 m1160 g1155 g1156 g1157 g1158 trivial
  · subst hvH1163
    refine W.eq (g2 := F0 m 13 ls [.int 0]) rfl ?_
    refine lv_if_eq (tgt := 25) hx hb dX10_bar_13 (by decide) (fun c1186 => ?_) (fun c1186 => ?_)
    · have k1187 := i_eq c1186
      exact J25 ls H1154 locsH1163 (bs) (lv_sub hl [] rfl) hTH1154 hSH1163 (by have := i_rng bs; omega) m1161 m1159 m1160 g1155 g1156 g1157 g1158 trivial
    · have k1187 := i_ne c1186
      exfalso
      omega
