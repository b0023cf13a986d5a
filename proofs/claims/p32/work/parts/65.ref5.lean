theorem TU.putT {K : KE} {G : Nat → Option Nat} {H H1 : Heap} {b q i : Nat} {x : Int32} (hT : TY K G H) (gb : G b = some 112) (w : Wr H H1 q i (.int x)) (gq : G q = some 125) (eq : q = fR H b (K.1.2 10 16)) (hx : 1 ≤ x.toInt) (h : TU (avw K H b) (svw K H b)) : TU (avw K H1 b) (svw K H1 b) := by
  refine ⟨fun j hj => ?_, fun j hj => ?_⟩
  · rw [sv_arr gb w gq (by decide)] at hj
    show 1 ≤ (fI H1 (fR H1 b (K.1.2 10 16)) j).toInt
    rw [Wr.neR w (Or.inl (G_ne gb gq (by decide))), ← eq]
    by_cases e : j = i
    · rw [e, Wr.I w]; exact hx
    · rw [Wr.neI w (Or.inr e), eq]; exact h.1 j hj
  · rw [sv_arr gb w gq (by decide)] at hj
    rw [av_arr (k := 4) hT gb w gq (by decide) (by decide)]
    exact h.2 j hj
theorem TU.putS {K : KE} {G : Nat → Option Nat} {H H1 : Heap} {b q i : Nat} {x : Int32} (hT : TY K G H) (gb : G b = some 112) (w : Wr H H1 q i (.int x)) (gq : G q = some 113) (eq : q = fR H b (K.1.2 10 4)) (hx : 1 ≤ x.toInt) (h : TU (avw K H b) (svw K H b)) : TU (avw K H1 b) (svw K H1 b) := by
  refine ⟨fun j hj => ?_, fun j hj => ?_⟩
  · rw [sv_arr gb w gq (by decide)] at hj
    rw [av_arr (k := 16) hT gb w gq (by decide) (by decide)]
    exact h.1 j hj
  · rw [sv_arr gb w gq (by decide)] at hj
    show 1 ≤ (fI H1 (fR H1 b (K.1.2 10 4)) j).toInt
    rw [Wr.neR w (Or.inl (G_ne gb gq (by decide))), ← eq]
    by_cases e : j = i
    · rw [e, Wr.I w]; exact hx
    · rw [Wr.neI w (Or.inr e), eq]; exact h.2 j hj
theorem TU.abS {K : KE} {H : Heap} {b q n : Nat} {x : Int32} {hi : Int} (h : TU (avw K H b) (svw K H b)) (eq : q = fR H b (K.1.2 10 4)) (ex : x = fI H b (K.1.2 10 1)) (hn : (n : Int) ≤ x.toInt) (hh : ∀ j : Nat, j < n → (fI H q j).toInt ≤ hi) : AB H q n 1 hi := fun j hj => ⟨by subst eq; exact h.2 j (by show (j : Int) < (fI H b (K.1.2 10 1)).toInt; rw [← ex]; omega), hh j hj⟩
theorem TU.abT {K : KE} {H : Heap} {b q n : Nat} {x : Int32} {hi : Int} (h : TU (avw K H b) (svw K H b)) (eq : q = fR H b (K.1.2 10 16)) (ex : x = fI H b (K.1.2 10 1)) (hn : (n : Int) ≤ 2 * x.toInt) (hh : ∀ j : Nat, j < n → (fI H q j).toInt ≤ hi) : AB H q n 1 hi := fun j hj => ⟨by subst eq; exact h.1 j (by show (j : Int) < 2 * (fI H b (K.1.2 10 1)).toInt; rw [← ex]; omega), hh j hj⟩
theorem TU.grow {K : KE} {G : Nat → Option Nat} {H H1 : Heap} {b q q4 n n4 : Nat} {x : Int32} {hi hi4 : Int} (hT : TY K G H) (gb : G b = some 112) (hap : ∀ x y, x < 74 → y < 74 → x ≠ y → K.1.2 10 x ≠ K.1.2 10 y) (w : Wr H H1 b (K.1.2 10 1) (.int x)) (eq : q = fR H b (K.1.2 10 16)) (eq4 : q4 = fR H b (K.1.2 10 4)) (h : AB H q n 1 hi) (h4 : AB H q4 n4 1 hi4) (hn : 2 * x.toInt ≤ (n : Int)) (hn4 : x.toInt ≤ (n4 : Int)) : TU (avw K H1 b) (svw K H1 b) := by
  have es : (svw K H1 b 1).toInt = x.toInt := by show (fI H1 b (K.1.2 10 1)).toInt = _; rw [Wr.I w]
  refine ⟨fun j hj => ?_, fun j hj => ?_⟩
  · rw [es] at hj
    rw [av_fld (k := 16) hT gb hap w (by decide) (by decide) (by decide)]
    show 1 ≤ (fI H (fR H b (K.1.2 10 16)) j).toInt
    rw [← eq]
    exact (h j (by omega)).1
  · rw [es] at hj
    rw [av_fld (k := 4) hT gb hap w (by decide) (by decide) (by decide)]
    show 1 ≤ (fI H (fR H b (K.1.2 10 4)) j).toInt
    rw [← eq4]
    exact (h4 j (by omega)).1
set_option maxHeartbeats 4000000 in
set_option maxRecDepth 100000 in
theorem a_X10_slice (l : Launch) (K : KE) (G : Nat → Option Nat) (H : Heap) {a0 : Nat} (x1 : Int32) (x2 : Int32) (x3 : Int32) (x4 : Int32) (x5 : Int32) (hT : TY K G H) (ga0 : G a0 = some 112) (hg_CG : CG (avw K H a0)) (hg_TU : TU (avw K H a0) (svw K H a0)) (hg_WD : WD (avw K H a0)) (hg_IM : IM (avw K H a0)) : MX l K yX10_slice cX10_slice 6 (some .boolean) 2 43 0 0 [.ref a0, .int x1, .int x2, .int x3, .int x4, .int x5] H (AE G [112, 114, 115, 116] H.size) (fun v H1 => ∃ (r : Int32), v = some (.int r) ∧ (0 ≤ r.toInt ∧ r.toInt ≤ 1) ∧ (CG (avw K H1 a0)) ∧ (TU (avw K H1 a0) (svw K H1 a0)) ∧ (WD (avw K H1 a0)) ∧ (IM (avw K H1 a0)) ∧ MF K H H1 a0 [0] ∧ TY K G H1) := by
  refine MX.of (by decide +kernel) (Nat.le_of_ble_eq_true rfl) ?_
  intro p e s m below meth c ls Q C hH hl hQ
  subst hH
  have C : CX p K s m _ meth c RX10 cX10_slice 6 (some .boolean) "slice" := C
  obtain ⟨hx, hb, hml, hown, hts, hKT, hr, hlocks, hnm⟩ := id C
  have hl : lv_has ls 6 [(0, .ref a0), (1, .int x1), (2, .int x2), (3, .int x3), (4, .int x4), (5, .int x5)] := hl
  have hS : va_S (AE G [112, 114, 115, 116] s.heap.size) s.heap s.heap [] := va_S.rf
  have n_0 : (0 : Int32).toInt = 0 := rfl
  have n_1 : (1 : Int32).toInt = 1 := rfl
  have n_9 : (9 : Int32).toInt = 9 := rfl
  have n_16 : (16 : Int32).toInt = 16 := rfl
  have n_99 : (99 : Int32).toInt = 99 := rfl
  have hap : ∀ x y, x < 74 → y < 74 → x ≠ y → K.1.2 10 x ≠ K.1.2 10 y := x_apart hKT hts inX10 tyX10 tyX10_ok nmX10 rfl
  have mf0 : MF K s.heap s.heap a0 [0] := fun _ _ _ => rfl
  have J58 : ∀ (ls458 : Array Slot) (H457 : Heap) (locsH457 : List Loc) , lv_has ls458 6 [] → TY K G H457 → va_S (AE G [112, 114, 115, 116] s.heap.size) s.heap H457 locsH457 → (MF K s.heap H457 a0 [0]) → (CG (avw K H457 a0)) → (TU (avw K H457 a0) (svw K H457 a0)) → (WD (avw K H457 a0)) → (IM (avw K H457 a0)) → W p l e ({ frames := 2, cells := 0, slots := 0, locals := 43 } : Room) s m (([.ref a0, .int x1, .int x2, .int x3, .int x4, .int x5] : List Value).toArray) below meth c H457 locsH457 0 0 Q (F0 m 58 ls458 []) := by
    intro ls458 H457 locsH457  hl459 hTH457 hSH457 mfy460 gy460_CG gy460_TU gy460_WD gy460_IM
    refine lv_iconst (v := 0) hx hb dX10_slice_58 (by decide) ?_
    exact x_zret C hQ (Or.inl rfl) dX10_slice_59 hSH457 (by decide) (by decide) (⟨0, rfl, by decide, gy460_CG, gy460_TU, gy460_WD, gy460_IM, mfy460, hTH457⟩)
  refine lv_aload_n hx hb dX10_slice_0 rfl (lv_at hl 0 rfl) ?_
  refine lv_iconst (v := 0) hx hb dX10_slice_1 (by decide) ?_
  refine x_put C hT hS (ci := 10) (k := 0) (v := .int 0) (ty0 := tyX10) rfl inX10 tyX10_ok nmX10 (by decide) rfl wF_X10_167 ga0 rg_112 rfl rfl (okI (by have := i_rng (0 : Int32); omega) (by have := i_rng (0 : Int32); omega)) rfl rfl (AE_in ga0 (by decide)) dX10_slice_2 (fun H461 locsH461 hTH461 hSH461 wH461 => ?_)
  have mf462 : MF K s.heap H461 a0 [0] := MF.fld hap wH461 (by decide) (by decide) mf0
  have g463 : CG (avw K H461 a0) := CG.congr (fun k hk j => av_fld hT ga0 hap wH461 (by decide) (CG_ok 112 (by decide) k hk) (CG_ne 0 (by decide) k hk)) hg_CG
  have g464 : TU (avw K H461 a0) (svw K H461 a0) := TU.congr (fun k hk j => av_fld hT ga0 hap wH461 (by decide) (TU_ok 112 (by decide) k hk) (TU_ne 0 (by decide) k hk)) (fun k hk => sv_fld hap wH461 (by decide) (TU_slt k hk) (TU_sne 0 (by decide) k hk)) hg_TU
  have g465 : WD (avw K H461 a0) := WD.congr (fun k hk j => av_fld hT ga0 hap wH461 (by decide) (WD_ok 112 (by decide) k hk) (WD_ne 0 (by decide) k hk)) hg_WD
  have g466 : IM (avw K H461 a0) := IM.congr (fun k hk j => av_fld hT ga0 hap wH461 (by decide) (IM_ok 112 (by decide) k hk) (IM_ne 0 (by decide) k hk)) hg_IM
  have m467 := Wr.I wH461
  refine lv_aload_n hx hb dX10_slice_5 rfl (lv_at hl 0 rfl) ?_
  refine lv_iload_n hx hb dX10_slice_6 rfl (lv_at hl 1 rfl) ?_
  refine lv_iload_n hx hb dX10_slice_7 rfl (lv_at hl 2 rfl) ?_
  obtain ⟨x468, ex468⟩ : ∃ z : Int32, z = fI H461 a0 (K.1.2 10 1) := ⟨_, rfl⟩
  have bx468 := ty_fi (x := x468) (k := 1) ex468 hTH461 ga0 rg_112 rfl
  refine x_V (As := [.int x1, .int x2]) (rest := []) C (a_X10_isSlice l K G H461 (x1) (x2) (x468) hTH461 ga0 ex468) yo_X10_isSlice wM_X10_181 ⟨⟨by decide, by decide⟩, by decide, by decide⟩ (x_rv C hTH461 (ci := 10) rfl ga0 rg_112) rfl hl.1 rfl (Nat.le_of_ble_eq_true rfl) dX10_slice_8 hSH461 (AE_sub (fun _ _ => rfl) (by decide) hSH461.1) (fun vH469 H469 locsH469 pH469 zH469 kH469 hSH469 => ?_)
  obtain ⟨x470, hvH469, bx470, hrH469, hTH469⟩ := pH469
  subst hvH469
  have mf471 : MF K s.heap H469 a0 [0] := MF.eff (x_lt hTH461 kH469 ga0 (by decide)) mf462
  have g472 : CG (avw K H469 a0) := CG.congr (fun k hk j => av_eff hTH461 kH469 ga0 (by decide) (CG_eff [] (by decide) k hk)) g463
  have g473 : TU (avw K H469 a0) (svw K H469 a0) := TU.congr (fun k hk j => av_eff hTH461 kH469 ga0 (by decide) (TU_eff [] (by decide) k hk)) (fun k hk => sv_eff hTH461 kH469 ga0 (by decide)) g464
  have g474 : WD (avw K H469 a0) := WD.congr (fun k hk j => av_eff hTH461 kH469 ga0 (by decide) (WD_eff [] (by decide) k hk)) g465
  have g475 : IM (avw K H469 a0) := IM.congr (fun k hk j => av_eff hTH461 kH469 ga0 (by decide) (IM_eff [] (by decide) k hk)) g466
  have m476 := (fI_kept (x_lt hTH461 kH469 ga0 (by decide))).trans m467
  have m477 := (ex468).trans (fI_kept (x_lt hTH461 kH469 ga0 (by decide))).symm
  refine W.eq (g2 := F0 m 11 ls [.int x470]) rfl ?_
  refine lv_if_eq (tgt := 58) hx hb dX10_slice_11 (by decide) (fun c478 => ?_) (fun c478 => ?_)
  · have k479 := i_eq c478
    exact J58 ls H469 locsH469 (lv_sub hl [] rfl) hTH469 hSH469 mf471 g472 g473 g474 g475
  · have k479 := i_ne c478
    refine lv_aload_n hx hb dX10_slice_14 rfl (lv_at hl 0 rfl) ?_
    refine x_gr C hTH469 (ci := 10) (k := 10) rfl inX10 (by decide) wF_X10_32 ga0 rg_112 rfl dX10_slice_15 (fun q480 eq480 gq480 => ?_)
    refine lv_iload_n hx hb dX10_slice_18 rfl (lv_at hl 1 rfl) ?_
    refine x_ai C hTH469 gq480 rg_119 ⟨by omega, by show _ < ((10 : Nat) : Int); omega⟩ dX10_slice_19 (fun x481 ex481 bx481 => ?_)
    refine lv_if_gt (tgt := 58) hx hb dX10_slice_20 (by decide) (fun c482 => ?_) (fun c482 => ?_)
    · have k483 := i_lt c482
      exact J58 ls H469 locsH469 (lv_sub hl [] rfl) hTH469 hSH469 mf471 g472 g473 g474 g475
    · have k483 := i_nlt c482
      refine lv_aload_n hx hb dX10_slice_23 rfl (lv_at hl 0 rfl) ?_
      refine lv_iload_n hx hb dX10_slice_24 rfl (lv_at hl 3 rfl) ?_
      refine lv_iconst (v := 1) hx hb dX10_slice_25 (by decide) ?_
      refine lv_bipush (v := 99) hx hb dX10_slice_26 (by decide) ?_
      refine x_V (As := [.int x3, .int 1, .int 99]) (rest := []) C (c_X10_isIn l K G H469 (x3) (1) (99) hTH469 ga0) yo_X10_isIn wM_X10_177 ⟨⟨by decide, by decide⟩, by decide, by decide⟩ (x_rv C hTH469 (ci := 10) rfl ga0 rg_112) rfl hl.1 rfl (Nat.le_of_ble_eq_true rfl) dX10_slice_28 hSH469 (AE_sub (fun _ _ => rfl) (by decide) hSH469.1) (fun vH484 H484 locsH484 pH484 zH484 kH484 hSH484 => ?_)
      have hqH484 := pH484.1.symm
      subst hqH484
      rcases pH484.2 with ⟨hvH484, hcH484⟩ | ⟨hvH484, hcH484⟩
      · subst hvH484
        refine W.eq (g2 := F0 m 31 ls [.int 1]) rfl ?_
        refine lv_if_eq (tgt := 58) hx hb dX10_slice_31 (by decide) (fun c485 => ?_) (fun c485 => ?_)
        · have k486 := i_eq c485
          exfalso
          omega
        · have k486 := i_ne c485
          refine lv_aload_n hx hb dX10_slice_34 rfl (lv_at hl 0 rfl) ?_
          refine lv_iload hx hb dX10_slice_35 (lv_at hl 4 rfl) ?_
          refine lv_iconst (v := 1) hx hb dX10_slice_37 (by decide) ?_
          refine lv_bipush (v := 9) hx hb dX10_slice_38 (by decide) ?_
          refine x_V (As := [.int x4, .int 1, .int 9]) (rest := []) C (c_X10_isIn l K G H469 (x4) (1) (9) hTH469 ga0) yo_X10_isIn wM_X10_177 ⟨⟨by decide, by decide⟩, by decide, by decide⟩ (x_rv C hTH469 (ci := 10) rfl ga0 rg_112) rfl hl.1 rfl (Nat.le_of_ble_eq_true rfl) dX10_slice_40 hSH484 (AE_sub (fun _ _ => rfl) (by decide) hSH484.1) (fun vH487 H487 locsH487 pH487 zH487 kH487 hSH487 => ?_)
          have hqH487 := pH487.1.symm
          subst hqH487
          rcases pH487.2 with ⟨hvH487, hcH487⟩ | ⟨hvH487, hcH487⟩
          · subst hvH487
            refine W.eq (g2 := F0 m 43 ls [.int 1]) rfl ?_
            refine lv_if_eq (tgt := 58) hx hb dX10_slice_43 (by decide) (fun c488 => ?_) (fun c488 => ?_)
            · have k489 := i_eq c488
              exfalso
              omega
            · have k489 := i_ne c488
              refine lv_aload_n hx hb dX10_slice_46 rfl (lv_at hl 0 rfl) ?_
              refine lv_iload hx hb dX10_slice_47 (lv_at hl 5 rfl) ?_
              refine lv_iconst (v := 1) hx hb dX10_slice_49 (by decide) ?_
              refine lv_bipush (v := 9) hx hb dX10_slice_50 (by decide) ?_
              refine x_V (As := [.int x5, .int 1, .int 9]) (rest := []) C (c_X10_isIn l K G H469 (x5) (1) (9) hTH469 ga0) yo_X10_isIn wM_X10_177 ⟨⟨by decide, by decide⟩, by decide, by decide⟩ (x_rv C hTH469 (ci := 10) rfl ga0 rg_112) rfl hl.1 rfl (Nat.le_of_ble_eq_true rfl) dX10_slice_52 hSH487 (AE_sub (fun _ _ => rfl) (by decide) hSH487.1) (fun vH490 H490 locsH490 pH490 zH490 kH490 hSH490 => ?_)
              have hqH490 := pH490.1.symm
              subst hqH490
              rcases pH490.2 with ⟨hvH490, hcH490⟩ | ⟨hvH490, hcH490⟩
              · subst hvH490
                refine W.eq (g2 := F0 m 55 ls [.int 1]) rfl ?_
                refine lv_if_ne (tgt := 60) hx hb dX10_slice_55 (by decide) (fun c491 => ?_) (fun c491 => ?_)
                · have k492 := i_ne c491
                  refine lv_aload_n hx hb dX10_slice_60 rfl (lv_at hl 0 rfl) ?_
                  refine x_gr C hTH469 (ci := 10) (k := 5) rfl inX10 (by decide) wF_X10_17 ga0 rg_112 rfl dX10_slice_61 (fun q493 eq493 gq493 => ?_)
                  refine lv_bipush (v := 16) hx hb dX10_slice_64 (by decide) ?_
                  refine lv_iload_n hx hb dX10_slice_66 rfl (lv_at hl 1 rfl) ?_
                  refine lv_imul hx hb dX10_slice_67 ?_
                  refine lv_topi (fun x494 ex494 => ?_)
                  have tx494 := i_mul ex494 (by rw [n_16]; omega)
                  rw [n_16] at tx494
                  refine lv_iload_n hx hb dX10_slice_68 rfl (lv_at hl 2 rfl) ?_
                  refine lv_iadd hx hb dX10_slice_69 ?_
                  refine lv_topi (fun x495 ex495 => ?_)
                  have tx495 := i_add ex495 (by omega)
                  refine lv_iload_n hx hb dX10_slice_70 rfl (lv_at hl 3 rfl) ?_
                  refine x_iast C hTH469 hSH490 gq493 rg_114 (by omega) (by show _ < ((160 : Nat) : Int); omega) ⟨by have := i_rng x3; omega, by have := i_rng x3; omega⟩ (AE_in gq493 (by decide)) dX10_slice_71 (fun H496 locsH496 hTH496 hSH496 wH496 => ?_)
                  have mf497 : MF K s.heap H496 a0 [0] := MF.arr wH496 (G_ne ga0 gq493 (by decide)) mf471
                  have g498 : CG (avw K H496 a0) := CG.congr (fun k hk j => av_arr hTH469 ga0 wH496 gq493 (by decide) (CG_ok 114 (by decide) k hk)) g472
                  have g499 : TU (avw K H496 a0) (svw K H496 a0) := TU.congr (fun k hk j => av_arr hTH469 ga0 wH496 gq493 (by decide) (TU_ok 114 (by decide) k hk)) (fun k hk => sv_arr ga0 wH496 gq493 (by decide)) g473
                  have g500 : WD (avw K H496 a0) := WD.congr (fun k hk j => av_arr hTH469 ga0 wH496 gq493 (by decide) (WD_ok 114 (by decide) k hk)) g474
                  have g501 : IM (avw K H496 a0) := IM.congr (fun k hk j => av_arr hTH469 ga0 wH496 gq493 (by decide) (IM_ok 114 (by decide) k hk)) g475
                  have m502 := (Wr.neI wH496 (Or.inl (G_ne ga0 gq493 (by decide)))).trans m476
                  have m503 := m477.trans (Wr.neI wH496 (Or.inl (G_ne ga0 gq493 (by decide)))).symm
                  have m504 := eq480.trans (Wr.neR wH496 (Or.inl (G_ne ga0 gq493 (by decide)))).symm
                  have m505 := ex481.trans (Wr.neI wH496 (Or.inl (G_ne gq480 gq493 (by decide)))).symm
                  have m506 := eq493.trans (Wr.neR wH496 (Or.inl (G_ne ga0 gq493 (by decide)))).symm
                  have m507 := Wr.I wH496
                  have m507 := m507.symm
                  refine lv_aload_n hx hb dX10_slice_72 rfl (lv_at hl 0 rfl) ?_
                  refine x_gr C hTH496 (ci := 10) (k := 6) rfl inX10 (by decide) wF_X10_20 ga0 rg_112 rfl dX10_slice_73 (fun q508 eq508 gq508 => ?_)
                  refine lv_bipush (v := 16) hx hb dX10_slice_76 (by decide) ?_
                  refine lv_iload_n hx hb dX10_slice_78 rfl (lv_at hl 1 rfl) ?_
                  refine lv_imul hx hb dX10_slice_79 ?_
                  refine lv_topi (fun x509 ex509 => ?_)
                  have tx509 := i_mul ex509 (by rw [n_16]; omega)
                  rw [n_16] at tx509
                  refine lv_iload_n hx hb dX10_slice_80 rfl (lv_at hl 2 rfl) ?_
                  refine lv_iadd hx hb dX10_slice_81 ?_
                  refine lv_topi (fun x510 ex510 => ?_)
                  have tx510 := i_add ex510 (by omega)
                  refine lv_iload hx hb dX10_slice_82 (lv_at hl 4 rfl) ?_
                  refine x_iast C hTH496 hSH496 gq508 rg_115 (by omega) (by show _ < ((160 : Nat) : Int); omega) ⟨by have := i_rng x4; omega, by have := i_rng x4; omega⟩ (AE_in gq508 (by decide)) dX10_slice_84 (fun H511 locsH511 hTH511 hSH511 wH511 => ?_)
                  have mf512 : MF K s.heap H511 a0 [0] := MF.arr wH511 (G_ne ga0 gq508 (by decide)) mf497
                  have g513 : CG (avw K H511 a0) := CG.congr (fun k hk j => av_arr hTH496 ga0 wH511 gq508 (by decide) (CG_ok 115 (by decide) k hk)) g498
                  have g514 : TU (avw K H511 a0) (svw K H511 a0) := TU.congr (fun k hk j => av_arr hTH496 ga0 wH511 gq508 (by decide) (TU_ok 115 (by decide) k hk)) (fun k hk => sv_arr ga0 wH511 gq508 (by decide)) g499
                  have g515 : WD (avw K H511 a0) := WD.congr (fun k hk j => av_arr hTH496 ga0 wH511 gq508 (by decide) (WD_ok 115 (by decide) k hk)) g500
                  have g516 : IM (avw K H511 a0) := IM.congr (fun k hk j => av_arr hTH496 ga0 wH511 gq508 (by decide) (IM_ok 115 (by decide) k hk)) g501
                  have m517 := (Wr.neI wH511 (Or.inl (G_ne ga0 gq508 (by decide)))).trans m502
                  have m518 := m503.trans (Wr.neI wH511 (Or.inl (G_ne ga0 gq508 (by decide)))).symm
                  have m519 := m504.trans (Wr.neR wH511 (Or.inl (G_ne ga0 gq508 (by decide)))).symm
                  have m520 := m505.trans (Wr.neI wH511 (Or.inl (G_ne gq480 gq508 (by decide)))).symm
                  have m521 := m506.trans (Wr.neR wH511 (Or.inl (G_ne ga0 gq508 (by decide)))).symm
                  have m522 := m507.trans (Wr.neI wH511 (Or.inl (G_ne gq493 gq508 (by decide)))).symm
                  have m523 := eq508.trans (Wr.neR wH511 (Or.inl (G_ne ga0 gq508 (by decide)))).symm
                  have m524 := Wr.I wH511
                  have m524 := m524.symm
                  refine lv_aload_n hx hb dX10_slice_85 rfl (lv_at hl 0 rfl) ?_
                  refine x_gr C hTH511 (ci := 10) (k := 7) rfl inX10 (by decide) wF_X10_23 ga0 rg_112 rfl dX10_slice_86 (fun q525 eq525 gq525 => ?_)
                  refine lv_bipush (v := 16) hx hb dX10_slice_89 (by decide) ?_
                  refine lv_iload_n hx hb dX10_slice_91 rfl (lv_at hl 1 rfl) ?_
                  refine lv_imul hx hb dX10_slice_92 ?_
                  refine lv_topi (fun x526 ex526 => ?_)
                  have tx526 := i_mul ex526 (by rw [n_16]; omega)
                  rw [n_16] at tx526
                  refine lv_iload_n hx hb dX10_slice_93 rfl (lv_at hl 2 rfl) ?_
                  refine lv_iadd hx hb dX10_slice_94 ?_
                  refine lv_topi (fun x527 ex527 => ?_)
                  have tx527 := i_add ex527 (by omega)
                  refine lv_iload hx hb dX10_slice_95 (lv_at hl 5 rfl) ?_
                  refine x_iast C hTH511 hSH511 gq525 rg_116 (by omega) (by show _ < ((160 : Nat) : Int); omega) ⟨by have := i_rng x5; omega, by have := i_rng x5; omega⟩ (AE_in gq525 (by decide)) dX10_slice_97 (fun H528 locsH528 hTH528 hSH528 wH528 => ?_)
                  have mf529 : MF K s.heap H528 a0 [0] := MF.arr wH528 (G_ne ga0 gq525 (by decide)) mf512
                  have g530 : CG (avw K H528 a0) := CG.congr (fun k hk j => av_arr hTH511 ga0 wH528 gq525 (by decide) (CG_ok 116 (by decide) k hk)) g513
                  have g531 : TU (avw K H528 a0) (svw K H528 a0) := TU.congr (fun k hk j => av_arr hTH511 ga0 wH528 gq525 (by decide) (TU_ok 116 (by decide) k hk)) (fun k hk => sv_arr ga0 wH528 gq525 (by decide)) g514
                  have g532 : WD (avw K H528 a0) := WD.congr (fun k hk j => av_arr hTH511 ga0 wH528 gq525 (by decide) (WD_ok 116 (by decide) k hk)) g515
                  have g533 : IM (avw K H528 a0) := IM.congr (fun k hk j => av_arr hTH511 ga0 wH528 gq525 (by decide) (IM_ok 116 (by decide) k hk)) g516
                  have m534 := (Wr.neI wH528 (Or.inl (G_ne ga0 gq525 (by decide)))).trans m517
                  have m535 := m518.trans (Wr.neI wH528 (Or.inl (G_ne ga0 gq525 (by decide)))).symm
                  have m536 := m519.trans (Wr.neR wH528 (Or.inl (G_ne ga0 gq525 (by decide)))).symm
                  have m537 := m520.trans (Wr.neI wH528 (Or.inl (G_ne gq480 gq525 (by decide)))).symm
                  have m538 := m521.trans (Wr.neR wH528 (Or.inl (G_ne ga0 gq525 (by decide)))).symm
                  have m539 := m522.trans (Wr.neI wH528 (Or.inl (G_ne gq493 gq525 (by decide)))).symm
                  have m540 := m523.trans (Wr.neR wH528 (Or.inl (G_ne ga0 gq525 (by decide)))).symm
                  have m541 := m524.trans (Wr.neI wH528 (Or.inl (G_ne gq508 gq525 (by decide)))).symm
                  have m542 := eq525.trans (Wr.neR wH528 (Or.inl (G_ne ga0 gq525 (by decide)))).symm
                  have m543 := Wr.I wH528
                  have m543 := m543.symm
                  refine lv_iconst (v := 1) hx hb dX10_slice_98 (by decide) ?_
                  exact x_zret C hQ (Or.inr rfl) dX10_slice_99 hSH528 (by decide) (by decide) (⟨1, rfl, by decide, g530, g531, g532, g533, mf529, hTH528⟩)
                · have k492 := i_eq c491
                  exfalso
                  omega
              · subst hvH490
                refine W.eq (g2 := F0 m 55 ls [.int 0]) rfl ?_
                refine lv_if_ne (tgt := 60) hx hb dX10_slice_55 (by decide) (fun c544 => ?_) (fun c544 => ?_)
                · have k545 := i_ne c544
                  exfalso
                  omega
                · have k545 := i_eq c544
                  exact J58 ls H469 locsH490 (lv_sub hl [] rfl) hTH469 hSH490 mf471 g472 g473 g474 g475
          · subst hvH487
            refine W.eq (g2 := F0 m 43 ls [.int 0]) rfl ?_
            refine lv_if_eq (tgt := 58) hx hb dX10_slice_43 (by decide) (fun c546 => ?_) (fun c546 => ?_)
            · have k547 := i_eq c546
              exact J58 ls H469 locsH487 (lv_sub hl [] rfl) hTH469 hSH487 mf471 g472 g473 g474 g475
            · have k547 := i_ne c546
              exfalso
              omega
      · subst hvH484
        refine W.eq (g2 := F0 m 31 ls [.int 0]) rfl ?_
        refine lv_if_eq (tgt := 58) hx hb dX10_slice_31 (by decide) (fun c548 => ?_) (fun c548 => ?_)
        · have k549 := i_eq c548
          exact J58 ls H469 locsH484 (lv_sub hl [] rfl) hTH469 hSH484 mf471 g472 g473 g474 g475
        · have k549 := i_ne c548
          exfalso
          omega

set_option maxHeartbeats 4000000 in
set_option maxRecDepth 100000 in
theorem a_X10_wax (l : Launch) (K : KE) (G : Nat → Option Nat) (H : Heap) {a0 : Nat} (x1 : Int32) (x2 : Int32) (x3 : Int32) (hT : TY K G H) (ga0 : G a0 = some 112) (hg_CG : CG (avw K H a0)) (hg_TU : TU (avw K H a0) (svw K H a0)) (hg_WD : WD (avw K H a0)) (hg_IM : IM (avw K H a0)) : MX l K yX10_wax cX10_wax 4 (some .boolean) 2 43 0 0 [.ref a0, .int x1, .int x2, .int x3] H (AE G [112, 117] H.size) (fun v H1 => ∃ (r : Int32), v = some (.int r) ∧ (0 ≤ r.toInt ∧ r.toInt ≤ 1) ∧ (CG (avw K H1 a0)) ∧ (TU (avw K H1 a0) (svw K H1 a0)) ∧ (WD (avw K H1 a0)) ∧ (IM (avw K H1 a0)) ∧ MF K H H1 a0 [0] ∧ TY K G H1) := by
  refine MX.of (by decide +kernel) (Nat.le_of_ble_eq_true rfl) ?_
  intro p e s m below meth c ls Q C hH hl hQ
  subst hH
  have C : CX p K s m _ meth c RX10 cX10_wax 4 (some .boolean) "wax" := C
  obtain ⟨hx, hb, hml, hown, hts, hKT, hr, hlocks, hnm⟩ := id C
  have hl : lv_has ls 4 [(0, .ref a0), (1, .int x1), (2, .int x2), (3, .int x3)] := hl
  have hS : va_S (AE G [112, 117] s.heap.size) s.heap s.heap [] := va_S.rf
  have n_0 : (0 : Int32).toInt = 0 := rfl
  have n_1 : (1 : Int32).toInt = 1 := rfl
  have n_16 : (16 : Int32).toInt = 16 := rfl
  have n_99 : (99 : Int32).toInt = 99 := rfl
  have hap : ∀ x y, x < 74 → y < 74 → x ≠ y → K.1.2 10 x ≠ K.1.2 10 y := x_apart hKT hts inX10 tyX10 tyX10_ok nmX10 rfl
  have mf0 : MF K s.heap s.heap a0 [0] := fun _ _ _ => rfl
  have J25 : ∀ (ls250 : Array Slot) (H249 : Heap) (locsH249 : List Loc) , lv_has ls250 4 [] → TY K G H249 → va_S (AE G [112, 117] s.heap.size) s.heap H249 locsH249 → (MF K s.heap H249 a0 [0]) → (CG (avw K H249 a0)) → (TU (avw K H249 a0) (svw K H249 a0)) → (WD (avw K H249 a0)) → (IM (avw K H249 a0)) → W p l e ({ frames := 2, cells := 0, slots := 0, locals := 43 } : Room) s m (([.ref a0, .int x1, .int x2, .int x3] : List Value).toArray) below meth c H249 locsH249 0 0 Q (F0 m 25 ls250 []) := by
    intro ls250 H249 locsH249  hl251 hTH249 hSH249 mfy252 gy252_CG gy252_TU gy252_WD gy252_IM
    refine lv_iconst (v := 0) hx hb dX10_wax_25 (by decide) ?_
    exact x_zret C hQ (Or.inl rfl) dX10_wax_26 hSH249 (by decide) (by decide) (⟨0, rfl, by decide, gy252_CG, gy252_TU, gy252_WD, gy252_IM, mfy252, hTH249⟩)
  refine lv_aload_n hx hb dX10_wax_0 rfl (lv_at hl 0 rfl) ?_
  refine lv_iconst (v := 0) hx hb dX10_wax_1 (by decide) ?_
  refine x_put C hT hS (ci := 10) (k := 0) (v := .int 0) (ty0 := tyX10) rfl inX10 tyX10_ok nmX10 (by decide) rfl wF_X10_167 ga0 rg_112 rfl rfl (okI (by have := i_rng (0 : Int32); omega) (by have := i_rng (0 : Int32); omega)) rfl rfl (AE_in ga0 (by decide)) dX10_wax_2 (fun H253 locsH253 hTH253 hSH253 wH253 => ?_)
  have mf254 : MF K s.heap H253 a0 [0] := MF.fld hap wH253 (by decide) (by decide) mf0
  have g255 : CG (avw K H253 a0) := CG.congr (fun k hk j => av_fld hT ga0 hap wH253 (by decide) (CG_ok 112 (by decide) k hk) (CG_ne 0 (by decide) k hk)) hg_CG
  have g256 : TU (avw K H253 a0) (svw K H253 a0) := TU.congr (fun k hk j => av_fld hT ga0 hap wH253 (by decide) (TU_ok 112 (by decide) k hk) (TU_ne 0 (by decide) k hk)) (fun k hk => sv_fld hap wH253 (by decide) (TU_slt k hk) (TU_sne 0 (by decide) k hk)) hg_TU
  have g257 : WD (avw K H253 a0) := WD.congr (fun k hk j => av_fld hT ga0 hap wH253 (by decide) (WD_ok 112 (by decide) k hk) (WD_ne 0 (by decide) k hk)) hg_WD
  have g258 : IM (avw K H253 a0) := IM.congr (fun k hk j => av_fld hT ga0 hap wH253 (by decide) (IM_ok 112 (by decide) k hk) (IM_ne 0 (by decide) k hk)) hg_IM
  have m259 := Wr.I wH253
  refine lv_aload_n hx hb dX10_wax_5 rfl (lv_at hl 0 rfl) ?_
  refine lv_iload_n hx hb dX10_wax_6 rfl (lv_at hl 1 rfl) ?_
  refine lv_iload_n hx hb dX10_wax_7 rfl (lv_at hl 2 rfl) ?_
  obtain ⟨x260, ex260⟩ : ∃ z : Int32, z = fI H253 a0 (K.1.2 10 1) := ⟨_, rfl⟩
  have bx260 := ty_fi (x := x260) (k := 1) ex260 hTH253 ga0 rg_112 rfl
  refine x_V (As := [.int x1, .int x2]) (rest := []) C (a_X10_isSlice l K G H253 (x1) (x2) (x260) hTH253 ga0 ex260) yo_X10_isSlice wM_X10_181 ⟨⟨by decide, by decide⟩, by decide, by decide⟩ (x_rv C hTH253 (ci := 10) rfl ga0 rg_112) rfl hl.1 rfl (Nat.le_of_ble_eq_true rfl) dX10_wax_8 hSH253 (AE_sub (fun _ _ => rfl) (by decide) hSH253.1) (fun vH261 H261 locsH261 pH261 zH261 kH261 hSH261 => ?_)
  obtain ⟨x262, hvH261, bx262, hrH261, hTH261⟩ := pH261
  subst hvH261
  have mf263 : MF K s.heap H261 a0 [0] := MF.eff (x_lt hTH253 kH261 ga0 (by decide)) mf254
  have g264 : CG (avw K H261 a0) := CG.congr (fun k hk j => av_eff hTH253 kH261 ga0 (by decide) (CG_eff [] (by decide) k hk)) g255
  have g265 : TU (avw K H261 a0) (svw K H261 a0) := TU.congr (fun k hk j => av_eff hTH253 kH261 ga0 (by decide) (TU_eff [] (by decide) k hk)) (fun k hk => sv_eff hTH253 kH261 ga0 (by decide)) g256
  have g266 : WD (avw K H261 a0) := WD.congr (fun k hk j => av_eff hTH253 kH261 ga0 (by decide) (WD_eff [] (by decide) k hk)) g257
  have g267 : IM (avw K H261 a0) := IM.congr (fun k hk j => av_eff hTH253 kH261 ga0 (by decide) (IM_eff [] (by decide) k hk)) g258
  have m268 := (fI_kept (x_lt hTH253 kH261 ga0 (by decide))).trans m259
  have m269 := (ex260).trans (fI_kept (x_lt hTH253 kH261 ga0 (by decide))).symm
  refine W.eq (g2 := F0 m 11 ls [.int x262]) rfl ?_
  refine lv_if_eq (tgt := 25) hx hb dX10_wax_11 (by decide) (fun c270 => ?_) (fun c270 => ?_)
  · have k271 := i_eq c270
    exact J25 ls H261 locsH261 (lv_sub hl [] rfl) hTH261 hSH261 mf263 g264 g265 g266 g267
  · have k271 := i_ne c270
    refine lv_aload_n hx hb dX10_wax_14 rfl (lv_at hl 0 rfl) ?_
    refine lv_iload_n hx hb dX10_wax_15 rfl (lv_at hl 3 rfl) ?_
    refine lv_iconst (v := 0) hx hb dX10_wax_16 (by decide) ?_
    refine lv_bipush (v := 99) hx hb dX10_wax_17 (by decide) ?_
    refine x_V (As := [.int x3, .int 0, .int 99]) (rest := []) C (c_X10_isIn l K G H261 (x3) (0) (99) hTH261 ga0) yo_X10_isIn wM_X10_177 ⟨⟨by decide, by decide⟩, by decide, by decide⟩ (x_rv C hTH261 (ci := 10) rfl ga0 rg_112) rfl hl.1 rfl (Nat.le_of_ble_eq_true rfl) dX10_wax_19 hSH261 (AE_sub (fun _ _ => rfl) (by decide) hSH261.1) (fun vH272 H272 locsH272 pH272 zH272 kH272 hSH272 => ?_)
    have hqH272 := pH272.1.symm
    subst hqH272
    rcases pH272.2 with ⟨hvH272, hcH272⟩ | ⟨hvH272, hcH272⟩
    · subst hvH272
      refine W.eq (g2 := F0 m 22 ls [.int 1]) rfl ?_
      refine lv_if_ne (tgt := 27) hx hb dX10_wax_22 (by decide) (fun c273 => ?_) (fun c273 => ?_)
      · have k274 := i_ne c273
        refine lv_aload_n hx hb dX10_wax_27 rfl (lv_at hl 0 rfl) ?_
        refine x_gr C hTH261 (ci := 10) (k := 8) rfl inX10 (by decide) wF_X10_26 ga0 rg_112 rfl dX10_wax_28 (fun q275 eq275 gq275 => ?_)
        refine lv_bipush (v := 16) hx hb dX10_wax_31 (by decide) ?_
        refine lv_iload_n hx hb dX10_wax_33 rfl (lv_at hl 1 rfl) ?_
        refine lv_imul hx hb dX10_wax_34 ?_
        refine lv_topi (fun x276 ex276 => ?_)
        have tx276 := i_mul ex276 (by rw [n_16]; omega)
        rw [n_16] at tx276
        refine lv_iload_n hx hb dX10_wax_35 rfl (lv_at hl 2 rfl) ?_
        refine lv_iadd hx hb dX10_wax_36 ?_
        refine lv_topi (fun x277 ex277 => ?_)
        have tx277 := i_add ex277 (by omega)
        refine lv_iload_n hx hb dX10_wax_37 rfl (lv_at hl 3 rfl) ?_
        refine x_iast C hTH261 hSH272 gq275 rg_117 (by omega) (by show _ < ((160 : Nat) : Int); omega) ⟨by have := i_rng x3; omega, by have := i_rng x3; omega⟩ (AE_in gq275 (by decide)) dX10_wax_38 (fun H278 locsH278 hTH278 hSH278 wH278 => ?_)
        have mf279 : MF K s.heap H278 a0 [0] := MF.arr wH278 (G_ne ga0 gq275 (by decide)) mf263
        have g280 : CG (avw K H278 a0) := CG.congr (fun k hk j => av_arr hTH261 ga0 wH278 gq275 (by decide) (CG_ok 117 (by decide) k hk)) g264
        have g281 : TU (avw K H278 a0) (svw K H278 a0) := TU.congr (fun k hk j => av_arr hTH261 ga0 wH278 gq275 (by decide) (TU_ok 117 (by decide) k hk)) (fun k hk => sv_arr ga0 wH278 gq275 (by decide)) g265
        have g282 : WD (avw K H278 a0) := WD.congr (fun k hk j => av_arr hTH261 ga0 wH278 gq275 (by decide) (WD_ok 117 (by decide) k hk)) g266
        have g283 : IM (avw K H278 a0) := IM.congr (fun k hk j => av_arr hTH261 ga0 wH278 gq275 (by decide) (IM_ok 117 (by decide) k hk)) g267
        have m284 := (Wr.neI wH278 (Or.inl (G_ne ga0 gq275 (by decide)))).trans m268
        have m285 := m269.trans (Wr.neI wH278 (Or.inl (G_ne ga0 gq275 (by decide)))).symm
        have m286 := eq275.trans (Wr.neR wH278 (Or.inl (G_ne ga0 gq275 (by decide)))).symm
        have m287 := Wr.I wH278
        have m287 := m287.symm
        refine lv_iconst (v := 1) hx hb dX10_wax_39 (by decide) ?_
        exact x_zret C hQ (Or.inr rfl) dX10_wax_40 hSH278 (by decide) (by decide) (⟨1, rfl, by decide, g280, g281, g282, g283, mf279, hTH278⟩)
      · have k274 := i_eq c273
        exfalso
        omega
    · subst hvH272
      refine W.eq (g2 := F0 m 22 ls [.int 0]) rfl ?_
      refine lv_if_ne (tgt := 27) hx hb dX10_wax_22 (by decide) (fun c288 => ?_) (fun c288 => ?_)
      · have k289 := i_ne c288
        exfalso
        omega
      · have k289 := i_eq c288
        exact J25 ls H261 locsH272 (lv_sub hl [] rfl) hTH261 hSH272 mf263 g264 g265 g266 g267

set_option maxHeartbeats 4000000 in
set_option maxRecDepth 100000 in
theorem a_X10_of (l : Launch) (K : KE) (G : Nat → Option Nat) (H : Heap) {a0 : Nat} (x1 : Int32) (x2 : Int32) (x3 : Int32) (hT : TY K G H) (ga0 : G a0 = some 112) (hg_CG : CG (avw K H a0)) (hg_TU : TU (avw K H a0) (svw K H a0)) (hg_WD : WD (avw K H a0)) (hg_IM : IM (avw K H a0)) : MX l K yX10_of cX10_of 5 (some .int) 2 43 0 0 [.ref a0, .int x1, .int x2, .int x3] H (AE G [112] H.size) (fun v H1 => ∃ (r : Int32), v = some (.int r) ∧ (CG (avw K H1 a0)) ∧ (TU (avw K H1 a0) (svw K H1 a0)) ∧ (WD (avw K H1 a0)) ∧ (IM (avw K H1 a0)) ∧ MF K H H1 a0 [0] ∧ TY K G H1) := by
  refine MX.of (by decide +kernel) (Nat.le_of_ble_eq_true rfl) ?_
  intro p e s m below meth c ls Q C hH hl hQ
  subst hH
  have C : CX p K s m _ meth c RX10 cX10_of 5 (some .int) "of" := C
  obtain ⟨hx, hb, hml, hown, hts, hKT, hr, hlocks, hnm⟩ := id C
  have hl : lv_has ls 5 [(0, .ref a0), (1, .int x1), (2, .int x2), (3, .int x3)] := hl
  have hS : va_S (AE G [112] s.heap.size) s.heap s.heap [] := va_S.rf
  have n_m1 : ((-1) : Int32).toInt = -1 := rfl
  have n_0 : (0 : Int32).toInt = 0 := rfl
  have n_1 : (1 : Int32).toInt = 1 := rfl
  have n_2 : (2 : Int32).toInt = 2 := rfl
  have n_3 : (3 : Int32).toInt = 3 := rfl
  have n_16 : (16 : Int32).toInt = 16 := rfl
  have hap : ∀ x y, x < 74 → y < 74 → x ≠ y → K.1.2 10 x ≠ K.1.2 10 y := x_apart hKT hts inX10 tyX10 tyX10_ok nmX10 rfl
  have mf0 : MF K s.heap s.heap a0 [0] := fun _ _ _ => rfl
  have J84 : ∀ (ls263 : Array Slot) (H262 : Heap) (locsH262 : List Loc) (x265 : Int32), lv_has ls263 5 [] → TY K G H262 → va_S (AE G [112] s.heap.size) s.heap H262 locsH262 → (MF K s.heap H262 a0 [0]) → (CG (avw K H262 a0)) → (TU (avw K H262 a0) (svw K H262 a0)) → (WD (avw K H262 a0)) → (IM (avw K H262 a0)) → W p l e ({ frames := 2, cells := 0, slots := 0, locals := 43 } : Room) s m (([.ref a0, .int x1, .int x2, .int x3] : List Value).toArray) below meth c H262 locsH262 0 0 Q (F0 m 84 ls263 [.int x265]) := by
    intro ls263 H262 locsH262 x265 hl264 hTH262 hSH262 mfy266 gy266_CG gy266_TU gy266_WD gy266_IM
    exact x_iret C hQ dX10_of_84 hSH262 (by decide) (by decide) (⟨x265, rfl, gy266_CG, gy266_TU, gy266_WD, gy266_IM, mfy266, hTH262⟩)
  refine lv_aload_n hx hb dX10_of_0 rfl (lv_at hl 0 rfl) ?_
  refine lv_iconst (v := 0) hx hb dX10_of_1 (by decide) ?_
  refine x_put C hT hS (ci := 10) (k := 0) (v := .int 0) (ty0 := tyX10) rfl inX10 tyX10_ok nmX10 (by decide) rfl wF_X10_167 ga0 rg_112 rfl rfl (okI (by have := i_rng (0 : Int32); omega) (by have := i_rng (0 : Int32); omega)) rfl rfl (AE_in ga0 (by decide)) dX10_of_2 (fun H267 locsH267 hTH267 hSH267 wH267 => ?_)
  have mf268 : MF K s.heap H267 a0 [0] := MF.fld hap wH267 (by decide) (by decide) mf0
  have g269 : CG (avw K H267 a0) := CG.congr (fun k hk j => av_fld hT ga0 hap wH267 (by decide) (CG_ok 112 (by decide) k hk) (CG_ne 0 (by decide) k hk)) hg_CG
  have g270 : TU (avw K H267 a0) (svw K H267 a0) := TU.congr (fun k hk j => av_fld hT ga0 hap wH267 (by decide) (TU_ok 112 (by decide) k hk) (TU_ne 0 (by decide) k hk)) (fun k hk => sv_fld hap wH267 (by decide) (TU_slt k hk) (TU_sne 0 (by decide) k hk)) hg_TU
  have g271 : WD (avw K H267 a0) := WD.congr (fun k hk j => av_fld hT ga0 hap wH267 (by decide) (WD_ok 112 (by decide) k hk) (WD_ne 0 (by decide) k hk)) hg_WD
  have g272 : IM (avw K H267 a0) := IM.congr (fun k hk j => av_fld hT ga0 hap wH267 (by decide) (IM_ok 112 (by decide) k hk) (IM_ne 0 (by decide) k hk)) hg_IM
  have m273 := Wr.I wH267
  refine lv_aload_n hx hb dX10_of_5 rfl (lv_at hl 0 rfl) ?_
  refine lv_iload_n hx hb dX10_of_6 rfl (lv_at hl 1 rfl) ?_
  refine lv_iload_n hx hb dX10_of_7 rfl (lv_at hl 2 rfl) ?_
  obtain ⟨x274, ex274⟩ : ∃ z : Int32, z = fI H267 a0 (K.1.2 10 1) := ⟨_, rfl⟩
  have bx274 := ty_fi (x := x274) (k := 1) ex274 hTH267 ga0 rg_112 rfl
  refine x_V (As := [.int x1, .int x2]) (rest := []) C (a_X10_isSlice l K G H267 (x1) (x2) (x274) hTH267 ga0 ex274) yo_X10_isSlice wM_X10_181 ⟨⟨by decide, by decide⟩, by decide, by decide⟩ (x_rv C hTH267 (ci := 10) rfl ga0 rg_112) rfl hl.1 rfl (Nat.le_of_ble_eq_true rfl) dX10_of_8 hSH267 (AE_sub (fun _ _ => rfl) (by decide) hSH267.1) (fun vH275 H275 locsH275 pH275 zH275 kH275 hSH275 => ?_)
  obtain ⟨x276, hvH275, bx276, hrH275, hTH275⟩ := pH275
  subst hvH275
  have mf277 : MF K s.heap H275 a0 [0] := MF.eff (x_lt hTH267 kH275 ga0 (by decide)) mf268
  have g278 : CG (avw K H275 a0) := CG.congr (fun k hk j => av_eff hTH267 kH275 ga0 (by decide) (CG_eff [] (by decide) k hk)) g269
  have g279 : TU (avw K H275 a0) (svw K H275 a0) := TU.congr (fun k hk j => av_eff hTH267 kH275 ga0 (by decide) (TU_eff [] (by decide) k hk)) (fun k hk => sv_eff hTH267 kH275 ga0 (by decide)) g270
  have g280 : WD (avw K H275 a0) := WD.congr (fun k hk j => av_eff hTH267 kH275 ga0 (by decide) (WD_eff [] (by decide) k hk)) g271
  have g281 : IM (avw K H275 a0) := IM.congr (fun k hk j => av_eff hTH267 kH275 ga0 (by decide) (IM_eff [] (by decide) k hk)) g272
  have m282 := (fI_kept (x_lt hTH267 kH275 ga0 (by decide))).trans m273
  have m283 := (ex274).trans (fI_kept (x_lt hTH267 kH275 ga0 (by decide))).symm
  refine W.eq (g2 := F0 m 11 ls [.int x276]) rfl ?_
  refine lv_if_ne (tgt := 16) hx hb dX10_of_11 (by decide) (fun c284 => ?_) (fun c284 => ?_)
  · have k285 := i_ne c284
    refine lv_bipush (v := 16) hx hb dX10_of_16 (by decide) ?_
    refine lv_iload_n hx hb dX10_of_18 rfl (lv_at hl 1 rfl) ?_
    refine lv_imul hx hb dX10_of_19 ?_
    refine lv_topi (fun x286 ex286 => ?_)
    have tx286 := i_mul ex286 (by rw [n_16]; omega)
    rw [n_16] at tx286
    refine lv_iload_n hx hb dX10_of_20 rfl (lv_at hl 2 rfl) ?_
    refine lv_iadd hx hb dX10_of_21 ?_
    refine lv_topi (fun x287 ex287 => ?_)
    have tx287 := i_add ex287 (by omega)
    refine lv_istore (lv' := [(4, .int x287), (0, .ref a0), (1, .int x1), (2, .int x2), (3, .int x3)]) hx hb dX10_of_22 hl (by decide) rfl (fun ls288 hl289 => ?_)
    refine lv_iload_n hx hb dX10_of_24 rfl (lv_at hl289 4 rfl) ?_
    refine lv_if_ne (tgt := 38) hx hb dX10_of_25 (by decide) (fun c290 => ?_) (fun c290 => ?_)
    · have k291 := i_ne c290
      refine lv_iload_n hx hb dX10_of_38 rfl (lv_at hl289 4 rfl) ?_
      refine lv_iconst (v := 1) hx hb dX10_of_39 (by decide) ?_
      refine lv_icmp_ne (tgt := 53) hx hb dX10_of_40 (by decide) (fun c292 => ?_) (fun c292 => ?_)
      · have k293 := i_ne c292
        refine lv_iload_n hx hb dX10_of_53 rfl (lv_at hl289 4 rfl) ?_
        refine lv_iconst (v := 2) hx hb dX10_of_54 (by decide) ?_
        refine lv_icmp_ne (tgt := 68) hx hb dX10_of_55 (by decide) (fun c294 => ?_) (fun c294 => ?_)
        · have k295 := i_ne c294
          refine lv_iload_n hx hb dX10_of_68 rfl (lv_at hl289 4 rfl) ?_
          refine lv_iconst (v := 3) hx hb dX10_of_69 (by decide) ?_
          refine lv_icmp_ne (tgt := 83) hx hb dX10_of_70 (by decide) (fun c296 => ?_) (fun c296 => ?_)
          · have k297 := i_ne c296
            refine lv_iconst (v := (-1)) hx hb dX10_of_83 (by decide) ?_
            exact J84 ls288 H275 locsH275 ((-1)) (lv_sub hl289 [] rfl) hTH275 hSH275 mf277 g278 g279 g280 g281
          · have k297 := i_eq c296
            refine lv_aload_n hx hb dX10_of_73 rfl (lv_at hl289 1 rfl) ?_
            refine x_gr C hTH275 (ci := 10) (k := 8) rfl inX10 (by decide) wF_X10_26 ga0 rg_112 rfl dX10_of_74 (fun q298 eq298 gq298 => ?_)
            refine lv_iload hx hb dX10_of_77 (lv_at hl289 0 rfl) ?_
            refine x_ai C hTH275 gq298 rg_117 ⟨by omega, by show _ < ((160 : Nat) : Int); omega⟩ dX10_of_79 (fun x299 ex299 bx299 => ?_)
            refine lv_goto (tgt := 84) hx hb dX10_of_80 (by decide) ?_
            exact J84 ls288 H275 locsH275 (x299) (lv_sub hl289 [] rfl) hTH275 hSH275 mf277 g278 g279 g280 g281
        · have k295 := i_eq c294
          refine lv_aload_n hx hb dX10_of_58 rfl (lv_at hl289 1 rfl) ?_
          refine x_gr C hTH275 (ci := 10) (k := 7) rfl inX10 (by decide) wF_X10_23 ga0 rg_112 rfl dX10_of_59 (fun q300 eq300 gq300 => ?_)
          refine lv_iload hx hb dX10_of_62 (lv_at hl289 0 rfl) ?_
          refine x_ai C hTH275 gq300 rg_116 ⟨by omega, by show _ < ((160 : Nat) : Int); omega⟩ dX10_of_64 (fun x301 ex301 bx301 => ?_)
          refine lv_goto (tgt := 84) hx hb dX10_of_65 (by decide) ?_
          exact J84 ls288 H275 locsH275 (x301) (lv_sub hl289 [] rfl) hTH275 hSH275 mf277 g278 g279 g280 g281
      · have k293 := i_eq c292
        refine lv_aload_n hx hb dX10_of_43 rfl (lv_at hl289 1 rfl) ?_
        refine x_gr C hTH275 (ci := 10) (k := 6) rfl inX10 (by decide) wF_X10_20 ga0 rg_112 rfl dX10_of_44 (fun q302 eq302 gq302 => ?_)
        refine lv_iload hx hb dX10_of_47 (lv_at hl289 0 rfl) ?_
        refine x_ai C hTH275 gq302 rg_115 ⟨by omega, by show _ < ((160 : Nat) : Int); omega⟩ dX10_of_49 (fun x303 ex303 bx303 => ?_)
        refine lv_goto (tgt := 84) hx hb dX10_of_50 (by decide) ?_
        exact J84 ls288 H275 locsH275 (x303) (lv_sub hl289 [] rfl) hTH275 hSH275 mf277 g278 g279 g280 g281
    · have k291 := i_eq c290
      refine lv_aload_n hx hb dX10_of_28 rfl (lv_at hl289 1 rfl) ?_
      refine x_gr C hTH275 (ci := 10) (k := 5) rfl inX10 (by decide) wF_X10_17 ga0 rg_112 rfl dX10_of_29 (fun q304 eq304 gq304 => ?_)
      refine lv_iload hx hb dX10_of_32 (lv_at hl289 0 rfl) ?_
      refine x_ai C hTH275 gq304 rg_114 ⟨by omega, by show _ < ((160 : Nat) : Int); omega⟩ dX10_of_34 (fun x305 ex305 bx305 => ?_)
      refine lv_goto (tgt := 84) hx hb dX10_of_35 (by decide) ?_
      exact J84 ls288 H275 locsH275 (x305) (lv_sub hl289 [] rfl) hTH275 hSH275 mf277 g278 g279 g280 g281
  · have k285 := i_eq c284
    refine lv_iconst (v := (-1)) hx hb dX10_of_14 (by decide) ?_
    exact x_iret C hQ dX10_of_15 hSH275 (by decide) (by decide) (⟨(-1), rfl, g278, g279, g280, g281, mf277, hTH275⟩)

set_option maxHeartbeats 4000000 in
set_option maxRecDepth 100000 in
theorem a_X10_puts (l : Launch) (K : KE) (G : Nat → Option Nat) (H : Heap) {a0 : Nat} (x1 : Int32) (tp : Int32) (hT : TY K G H) (ga0 : G a0 = some 112) (etp : tp = fI H a0 (K.1.2 10 18)) (hg_CG : CG (avw K H a0)) (hg_TU : TU (avw K H a0) (svw K H a0)) (hg_WD : WD (avw K H a0)) (hg_IM : IM (avw K H a0)) (hp0 : tp.toInt ≤ 496) : MX l K yX10_puts cX10_puts 3 none 0 0 0 0 [.ref a0, .int x1] H (AE G [112, 126] H.size) (fun v H1 => ∃ (t0 : Int32), v = none ∧ t0 = fI H1 a0 (K.1.2 10 18) ∧ (t0.toInt = tp.toInt + 4) ∧ (CG (avw K H1 a0)) ∧ (TU (avw K H1 a0) (svw K H1 a0)) ∧ (WD (avw K H1 a0)) ∧ (IM (avw K H1 a0)) ∧ MF K H H1 a0 [18] ∧ TY K G H1) := by
  refine MX.of (by decide +kernel) (Nat.le_of_ble_eq_true rfl) ?_
  intro p e s m below meth c ls Q C hH hl hQ
  subst hH
  have C : CX p K s m _ meth c RX10 cX10_puts 3 none "puts" := C
  obtain ⟨hx, hb, hml, hown, hts, hKT, hr, hlocks, hnm⟩ := id C
  have hl : lv_has ls 3 [(0, .ref a0), (1, .int x1)] := hl
  have hS : va_S (AE G [112, 126] s.heap.size) s.heap s.heap [] := va_S.rf
  have n_m8 : ((-8) : Int32).toInt = -8 := rfl
  have n_0 : (0 : Int32).toInt = 0 := rfl
  have n_1 : (1 : Int32).toInt = 1 := rfl
  have n_24 : (24 : Int32).toInt = 24 := rfl
  have n_255 : (255 : Int32).toInt = 255 := rfl
  have btp := ty_fi (x := tp) (k := 18) etp hT ga0 rg_112 rfl
  have hap : ∀ x y, x < 74 → y < 74 → x ≠ y → K.1.2 10 x ≠ K.1.2 10 y := x_apart hKT hts inX10 tyX10 tyX10_ok nmX10 rfl
  have mf0 : MF K s.heap s.heap a0 [18] := fun _ _ _ => rfl
  have J3 : ∀ (nf : Nat) (ls370 : Array Slot) (H369 : Heap) (locsH369 : List Loc) (x372 : Int32) (x373 : Int32), lv_has ls370 3 [(0, .ref a0), (1, .int x1), (2, .int x372)] → TY K G H369 → va_S (AE G [112, 126] s.heap.size) s.heap H369 locsH369 → ((-8) ≤ x372.toInt ∧ x372.toInt ≤ 24) → (0 ≤ x373.toInt ∧ x373.toInt ≤ 500) → (x373 = fI H369 a0 (K.1.2 10 18)) → (MF K s.heap H369 a0 [18]) → (CG (avw K H369 a0)) → (TU (avw K H369 a0) (svw K H369 a0)) → (WD (avw K H369 a0)) → (IM (avw K H369 a0)) → (x372.toInt - (-8) < (nf : Int)) → (8 * (x373.toInt - tp.toInt) = 24 + 8 - 8 - x372.toInt) → W p l e ({ frames := 0, cells := 0, slots := 0, locals := 0 } : Room) s m (([.ref a0, .int x1] : List Value).toArray) below meth c H369 locsH369 0 0 Q (F0 m 3 ls370 []) := by
    intro nf
    induction nf with
    | zero =>
      intro ls370 H369 locsH369 x372 x373 hl371 hTH369 hSH369 bx372 bx373 ex373 mfy374 gy374_CG gy374_TU gy374_WD gy374_IM hm3 iv3
      exfalso
      omega
    | succ nf ih3 =>
      intro ls370 H369 locsH369 x372 x373 hl371 hTH369 hSH369 bx372 bx373 ex373 mfy374 gy374_CG gy374_TU gy374_WD gy374_IM hm3 iv3
      refine lv_iload_n hx hb dX10_puts_3 rfl (lv_at hl371 2 rfl) ?_
      refine lv_if_lt (tgt := 39) hx hb dX10_puts_4 (by decide) (fun c375 => ?_) (fun c375 => ?_)
      · have k376 := i_lt c375
        exact x_vret C hQ dX10_puts_39 hSH369 (by decide) (by decide) (⟨x373, rfl, ex373, by omega, gy374_CG, gy374_TU, gy374_WD, gy374_IM, mfy374, hTH369⟩)
      · have k376 := i_nlt c375
        refine lv_aload_n hx hb dX10_puts_7 rfl (lv_at hl371 0 rfl) ?_
        refine x_gr C hTH369 (ci := 10) (k := 17) rfl inX10 (by decide) wF_X10_53 ga0 rg_112 rfl dX10_puts_8 (fun q377 eq377 gq377 => ?_)
        refine lv_aload_n hx hb dX10_puts_11 rfl (lv_at hl371 0 rfl) ?_
        refine x_gi C hTH369 (ci := 10) (k := 18) rfl inX10 (by decide) wF_X10_185 ga0 rg_112 rfl dX10_puts_12 (fun x378 ex378 bx378 => ?_)
        have ux378 : x373 = x378 := (ex373).trans ex378.symm
        subst ux378
        refine lv_iload_n hx hb dX10_puts_15 rfl (lv_at hl371 1 rfl) ?_
        refine lv_iload_n hx hb dX10_puts_16 rfl (lv_at hl371 2 rfl) ?_
        refine lv_ishr hx hb dX10_puts_17 ?_
        refine lv_topi (fun x379 ex379 => ?_)
        refine lv_sipush (v := 255) hx hb dX10_puts_18 (by decide) ?_
        refine lv_iand hx hb dX10_puts_21 ?_
        refine lv_topi (fun x380 ex380 => ?_)
        have tx380 := i_and255 ex380
        refine x_iast C hTH369 hSH369 gq377 rg_126 (by omega) (by show _ < ((500 : Nat) : Int); omega) ⟨by have := i_rng x380; omega, by have := i_rng x380; omega⟩ (AE_in gq377 (by decide)) dX10_puts_22 (fun H381 locsH381 hTH381 hSH381 wH381 => ?_)
        have mf382 : MF K s.heap H381 a0 [18] := MF.arr wH381 (G_ne ga0 gq377 (by decide)) mfy374
        have g383 : CG (avw K H381 a0) := CG.congr (fun k hk j => av_arr hTH369 ga0 wH381 gq377 (by decide) (CG_ok 126 (by decide) k hk)) gy374_CG
        have g384 : TU (avw K H381 a0) (svw K H381 a0) := TU.congr (fun k hk j => av_arr hTH369 ga0 wH381 gq377 (by decide) (TU_ok 126 (by decide) k hk)) (fun k hk => sv_arr ga0 wH381 gq377 (by decide)) gy374_TU
        have g385 : WD (avw K H381 a0) := WD.congr (fun k hk j => av_arr hTH369 ga0 wH381 gq377 (by decide) (WD_ok 126 (by decide) k hk)) gy374_WD
        have g386 : IM (avw K H381 a0) := IM.congr (fun k hk j => av_arr hTH369 ga0 wH381 gq377 (by decide) (IM_ok 126 (by decide) k hk)) gy374_IM
        have m387 := ex373.trans (Wr.neI wH381 (Or.inl (G_ne ga0 gq377 (by decide)))).symm
        have m388 := eq377.trans (Wr.neR wH381 (Or.inl (G_ne ga0 gq377 (by decide)))).symm
        have m389 := Wr.I wH381
        have m389 := m389.symm
        refine lv_aload_n hx hb dX10_puts_23 rfl (lv_at hl371 0 rfl) ?_
        refine lv_aload_n hx hb dX10_puts_24 rfl (lv_at hl371 0 rfl) ?_
        refine x_gi C hTH381 (ci := 10) (k := 18) rfl inX10 (by decide) wF_X10_185 ga0 rg_112 rfl dX10_puts_25 (fun x390 ex390 bx390 => ?_)
        have ux390 : x373 = x390 := (m387).trans ex390.symm
        subst ux390
        refine lv_iconst (v := 1) hx hb dX10_puts_28 (by decide) ?_
        refine lv_iadd hx hb dX10_puts_29 ?_
        refine lv_topi (fun x391 ex391 => ?_)
        have tx391 := i_add ex391 (by omega)
        have fz393 : 0 ≤ x391.toInt ∧ x391.toInt ≤ 500 := by have := i_rng x391; omega
        refine x_put C hTH381 hSH381 (ci := 10) (k := 18) (v := .int x391) (ty0 := tyX10) rfl inX10 tyX10_ok nmX10 (by decide) rfl wF_X10_185 ga0 rg_112 rfl rfl (okI (by have := i_rng x391; omega) (by have := i_rng x391; omega)) rfl rfl (AE_in ga0 (by decide)) dX10_puts_30 (fun H392 locsH392 hTH392 hSH392 wH392 => ?_)
        have mf394 : MF K s.heap H392 a0 [18] := MF.fld hap wH392 (by decide) (by decide) mf382
        have g395 : CG (avw K H392 a0) := CG.congr (fun k hk j => av_fld hTH381 ga0 hap wH392 (by decide) (CG_ok 112 (by decide) k hk) (CG_ne 18 (by decide) k hk)) g383
        have g396 : TU (avw K H392 a0) (svw K H392 a0) := TU.congr (fun k hk j => av_fld hTH381 ga0 hap wH392 (by decide) (TU_ok 112 (by decide) k hk) (TU_ne 18 (by decide) k hk)) (fun k hk => sv_fld hap wH392 (by decide) (TU_slt k hk) (TU_sne 18 (by decide) k hk)) g384
        have g397 : WD (avw K H392 a0) := WD.congr (fun k hk j => av_fld hTH381 ga0 hap wH392 (by decide) (WD_ok 112 (by decide) k hk) (WD_ne 18 (by decide) k hk)) g385
        have g398 : IM (avw K H392 a0) := IM.congr (fun k hk j => av_fld hTH381 ga0 hap wH392 (by decide) (IM_ok 112 (by decide) k hk) (IM_ne 18 (by decide) k hk)) g386
        have m400 := m388.trans (Wr.neR wH392 (Or.inr (x_apart hKT hts inX10 tyX10 tyX10_ok nmX10 rfl 17 18 (by decide) (by decide) (by decide)))).symm
        have m401 := m389.trans (Wr.neI wH392 (Or.inl (G_ne gq377 ga0 (by decide)))).symm
        have m402 := Wr.I wH392
        have m402 := m402.symm
        obtain ⟨x403, ex403⟩ : ∃ y : Int32, y = x372 + (-8) := ⟨_, rfl⟩
        have tx403 := i_add ex403 (by omega)
        refine lv_iinc (v := x403) (lv' := [(2, .int x403), (0, .ref a0), (1, .int x1)]) hx hb dX10_puts_33 hl371 (k := 2) rfl (by rw [ex403]; rfl) (by decide) rfl (fun ls404 hl405 => ?_)
        refine lv_goto (tgt := 3) hx hb dX10_puts_36 (by decide) ?_
        exact ih3 ls404 H392 locsH392 (x403) (x391) (lv_sub hl405 [1, 2, 0] rfl) hTH392 hSH392 (by have := i_rng x403; omega) (by have := i_rng x391; omega) m402 mf394 g395 g396 g397 g398 (by omega) (by omega)
  refine lv_bipush (v := 24) hx hb dX10_puts_0 (by decide) ?_
  refine lv_istore_n (lv' := [(2, .int 24), (0, .ref a0), (1, .int x1)]) hx hb dX10_puts_2 rfl hl (by decide) rfl (fun ls406 hl407 => ?_)
  exact J3 (((24 : Int32).toInt - (-8)).toNat + 1) ls406 s.heap [] (24) (tp) (lv_sub hl407 [1, 2, 0] rfl) hT hS (by decide) (by have := i_rng tp; omega) etp mf0 hg_CG hg_TU hg_WD hg_IM (by omega) (by omega)

set_option maxHeartbeats 4000000 in
set_option maxRecDepth 100000 in
theorem a_X10_fault (l : Launch) (K : KE) (G : Nat → Option Nat) (H : Heap) {a0 : Nat} (x1 : Int32) (hT : TY K G H) (ga0 : G a0 = some 112) (hg_CG : CG (avw K H a0)) (hg_TU : TU (avw K H a0) (svw K H a0)) (hg_WD : WD (avw K H a0)) (hg_IM : IM (avw K H a0)) : MX l K yX10_fault cX10_fault 2 (some .int) 0 0 0 0 [.ref a0, .int x1] H (AE G [112] H.size) (fun v H1 => ∃ (r : Int32), v = some (.int r) ∧ (CG (avw K H1 a0)) ∧ (TU (avw K H1 a0) (svw K H1 a0)) ∧ (WD (avw K H1 a0)) ∧ (IM (avw K H1 a0)) ∧ MF K H H1 a0 [0] ∧ TY K G H1) := by
  refine MX.of (by decide +kernel) (Nat.le_of_ble_eq_true rfl) ?_
  intro p e s m below meth c ls Q C hH hl hQ
  subst hH
  have C : CX p K s m _ meth c RX10 cX10_fault 2 (some .int) "fault" := C
  obtain ⟨hx, hb, hml, hown, hts, hKT, hr, hlocks, hnm⟩ := id C
  have hl : lv_has ls 2 [(0, .ref a0), (1, .int x1)] := hl
  have hS : va_S (AE G [112] s.heap.size) s.heap s.heap [] := va_S.rf
  have n_m1 : ((-1) : Int32).toInt = -1 := rfl
  have n_0 : (0 : Int32).toInt = 0 := rfl
  have n_1 : (1 : Int32).toInt = 1 := rfl
  have hap : ∀ x y, x < 74 → y < 74 → x ≠ y → K.1.2 10 x ≠ K.1.2 10 y := x_apart hKT hts inX10 tyX10 tyX10_ok nmX10 rfl
  have mf0 : MF K s.heap s.heap a0 [0] := fun _ _ _ => rfl
  have J29 : ∀ (ls159 : Array Slot) (H158 : Heap) (locsH158 : List Loc) (x161 : Int32), lv_has ls159 2 [] → TY K G H158 → va_S (AE G [112] s.heap.size) s.heap H158 locsH158 → (MF K s.heap H158 a0 [0]) → (CG (avw K H158 a0)) → (TU (avw K H158 a0) (svw K H158 a0)) → (WD (avw K H158 a0)) → (IM (avw K H158 a0)) → W p l e ({ frames := 0, cells := 0, slots := 0, locals := 0 } : Room) s m (([.ref a0, .int x1] : List Value).toArray) below meth c H158 locsH158 0 0 Q (F0 m 29 ls159 [.int x161]) := by
    intro ls159 H158 locsH158 x161 hl160 hTH158 hSH158 mfy162 gy162_CG gy162_TU gy162_WD gy162_IM
    exact x_iret C hQ dX10_fault_29 hSH158 (by decide) (by decide) (⟨x161, rfl, gy162_CG, gy162_TU, gy162_WD, gy162_IM, mfy162, hTH158⟩)
  refine lv_aload_n hx hb dX10_fault_0 rfl (lv_at hl 0 rfl) ?_
  refine lv_iconst (v := 0) hx hb dX10_fault_1 (by decide) ?_
  refine x_put C hT hS (ci := 10) (k := 0) (v := .int 0) (ty0 := tyX10) rfl inX10 tyX10_ok nmX10 (by decide) rfl wF_X10_167 ga0 rg_112 rfl rfl (okI (by have := i_rng (0 : Int32); omega) (by have := i_rng (0 : Int32); omega)) rfl rfl (AE_in ga0 (by decide)) dX10_fault_2 (fun H163 locsH163 hTH163 hSH163 wH163 => ?_)
  have mf164 : MF K s.heap H163 a0 [0] := MF.fld hap wH163 (by decide) (by decide) mf0
  have g165 : CG (avw K H163 a0) := CG.congr (fun k hk j => av_fld hT ga0 hap wH163 (by decide) (CG_ok 112 (by decide) k hk) (CG_ne 0 (by decide) k hk)) hg_CG
  have g166 : TU (avw K H163 a0) (svw K H163 a0) := TU.congr (fun k hk j => av_fld hT ga0 hap wH163 (by decide) (TU_ok 112 (by decide) k hk) (TU_ne 0 (by decide) k hk)) (fun k hk => sv_fld hap wH163 (by decide) (TU_slt k hk) (TU_sne 0 (by decide) k hk)) hg_TU
  have g167 : WD (avw K H163 a0) := WD.congr (fun k hk j => av_fld hT ga0 hap wH163 (by decide) (WD_ok 112 (by decide) k hk) (WD_ne 0 (by decide) k hk)) hg_WD
  have g168 : IM (avw K H163 a0) := IM.congr (fun k hk j => av_fld hT ga0 hap wH163 (by decide) (IM_ok 112 (by decide) k hk) (IM_ne 0 (by decide) k hk)) hg_IM
  have m169 := Wr.I wH163
  refine lv_iload_n hx hb dX10_fault_5 rfl (lv_at hl 1 rfl) ?_
  refine lv_if_ne (tgt := 16) hx hb dX10_fault_6 (by decide) (fun c170 => ?_) (fun c170 => ?_)
  · have k171 := i_ne c170
    refine lv_iload_n hx hb dX10_fault_16 rfl (lv_at hl 1 rfl) ?_
    refine lv_iconst (v := 1) hx hb dX10_fault_17 (by decide) ?_
    refine lv_icmp_ne (tgt := 28) hx hb dX10_fault_18 (by decide) (fun c172 => ?_) (fun c172 => ?_)
    · have k173 := i_ne c172
      refine lv_iconst (v := (-1)) hx hb dX10_fault_28 (by decide) ?_
      exact J29 ls H163 locsH163 ((-1)) (lv_sub hl [] rfl) hTH163 hSH163 mf164 g165 g166 g167 g168
    · have k173 := i_eq c172
      refine lv_aload_n hx hb dX10_fault_21 rfl (lv_at hl 0 rfl) ?_
      refine x_gi C hTH163 (ci := 10) (k := 42) rfl inX10 (by decide) wF_X10_92 ga0 rg_112 rfl dX10_fault_22 (fun x174 ex174 bx174 => ?_)
      refine lv_goto (tgt := 29) hx hb dX10_fault_25 (by decide) ?_
      exact J29 ls H163 locsH163 (x174) (lv_sub hl [] rfl) hTH163 hSH163 mf164 g165 g166 g167 g168
  · have k171 := i_eq c170
    refine lv_aload_n hx hb dX10_fault_9 rfl (lv_at hl 0 rfl) ?_
    refine x_gi C hTH163 (ci := 10) (k := 41) rfl inX10 (by decide) wF_X10_292 ga0 rg_112 rfl dX10_fault_10 (fun x175 ex175 bx175 => ?_)
    refine lv_goto (tgt := 29) hx hb dX10_fault_13 (by decide) ?_
    exact J29 ls H163 locsH163 (x175) (lv_sub hl [] rfl) hTH163 hSH163 mf164 g165 g166 g167 g168

set_option maxHeartbeats 4000000 in
set_option maxRecDepth 100000 in
theorem a_X10_tells (l : Launch) (K : KE) (G : Nat → Option Nat) (H : Heap) {a0 : Nat} (x1 : Int32) (x2 : Int32) (x3 : Int32) (x4 : Int32) (x5 : Int32) (hT : TY K G H) (ga0 : G a0 = some 112) (hg_CG : CG (avw K H a0)) (hg_TU : TU (avw K H a0) (svw K H a0)) (hg_WD : WD (avw K H a0)) (hg_IM : IM (avw K H a0)) : MX l K yX10_tells cX10_tells 6 (some .int) 4 97 0 0 [.ref a0, .int x1, .int x2, .int x3, .int x4, .int x5] H (AE G [112, 140, 139] H.size) (fun v H1 => ∃ (r : Int32), v = some (.int r) ∧ (CG (avw K H1 a0)) ∧ (TU (avw K H1 a0) (svw K H1 a0)) ∧ (WD (avw K H1 a0)) ∧ (IM (avw K H1 a0)) ∧ MF K H H1 a0 [0] ∧ TY K G H1) := by
  refine MX.of (by decide +kernel) (Nat.le_of_ble_eq_true rfl) ?_
  intro p e s m below meth c ls Q C hH hl hQ
  subst hH
  have C : CX p K s m _ meth c RX10 cX10_tells 6 (some .int) "tells" := C
  obtain ⟨hx, hb, hml, hown, hts, hKT, hr, hlocks, hnm⟩ := id C
  have hl : lv_has ls 6 [(0, .ref a0), (1, .int x1), (2, .int x2), (3, .int x3), (4, .int x4), (5, .int x5)] := hl
  have hS : va_S (AE G [112, 140, 139] s.heap.size) s.heap s.heap [] := va_S.rf
  have n_m100000 : ((-100000) : Int32).toInt = -100000 := rfl
  have n_0 : (0 : Int32).toInt = 0 := rfl
  have n_1 : (1 : Int32).toInt = 1 := rfl
  have n_2 : (2 : Int32).toInt = 2 := rfl
  have hap : ∀ x y, x < 74 → y < 74 → x ≠ y → K.1.2 10 x ≠ K.1.2 10 y := x_apart hKT hts inX10 tyX10 tyX10_ok nmX10 rfl
  have mf0 : MF K s.heap s.heap a0 [0] := fun _ _ _ => rfl
  have J42 : ∀ (ls322 : Array Slot) (H321 : Heap) (locsH321 : List Loc) , lv_has ls322 6 [] → TY K G H321 → va_S (AE G [112, 140, 139] s.heap.size) s.heap H321 locsH321 → (MF K s.heap H321 a0 [0]) → (CG (avw K H321 a0)) → (TU (avw K H321 a0) (svw K H321 a0)) → (WD (avw K H321 a0)) → (IM (avw K H321 a0)) → W p l e ({ frames := 4, cells := 0, slots := 0, locals := 97 } : Room) s m (([.ref a0, .int x1, .int x2, .int x3, .int x4, .int x5] : List Value).toArray) below meth c H321 locsH321 0 0 Q (F0 m 42 ls322 []) := by
    intro ls322 H321 locsH321  hl323 hTH321 hSH321 mfy324 gy324_CG gy324_TU gy324_WD gy324_IM
    refine lv_ldcw (v := (-100000)) hx hb hown (hts _ wK_X10_334) dX10_tells_42 ?_
    exact x_iret C hQ dX10_tells_45 hSH321 (by decide) (by decide) (⟨(-100000), rfl, gy324_CG, gy324_TU, gy324_WD, gy324_IM, mfy324, hTH321⟩)
  refine lv_aload_n hx hb dX10_tells_0 rfl (lv_at hl 0 rfl) ?_
  refine lv_iconst (v := 0) hx hb dX10_tells_1 (by decide) ?_
  refine x_put C hT hS (ci := 10) (k := 0) (v := .int 0) (ty0 := tyX10) rfl inX10 tyX10_ok nmX10 (by decide) rfl wF_X10_167 ga0 rg_112 rfl rfl (okI (by have := i_rng (0 : Int32); omega) (by have := i_rng (0 : Int32); omega)) rfl rfl (AE_in ga0 (by decide)) dX10_tells_2 (fun H325 locsH325 hTH325 hSH325 wH325 => ?_)
  have mf326 : MF K s.heap H325 a0 [0] := MF.fld hap wH325 (by decide) (by decide) mf0
  have g327 : CG (avw K H325 a0) := CG.congr (fun k hk j => av_fld hT ga0 hap wH325 (by decide) (CG_ok 112 (by decide) k hk) (CG_ne 0 (by decide) k hk)) hg_CG
  have g328 : TU (avw K H325 a0) (svw K H325 a0) := TU.congr (fun k hk j => av_fld hT ga0 hap wH325 (by decide) (TU_ok 112 (by decide) k hk) (TU_ne 0 (by decide) k hk)) (fun k hk => sv_fld hap wH325 (by decide) (TU_slt k hk) (TU_sne 0 (by decide) k hk)) hg_TU
  have g329 : WD (avw K H325 a0) := WD.congr (fun k hk j => av_fld hT ga0 hap wH325 (by decide) (WD_ok 112 (by decide) k hk) (WD_ne 0 (by decide) k hk)) hg_WD
  have g330 : IM (avw K H325 a0) := IM.congr (fun k hk j => av_fld hT ga0 hap wH325 (by decide) (IM_ok 112 (by decide) k hk) (IM_ne 0 (by decide) k hk)) hg_IM
  have m331 := Wr.I wH325
  refine lv_aload_n hx hb dX10_tells_5 rfl (lv_at hl 0 rfl) ?_
  refine lv_iload_n hx hb dX10_tells_6 rfl (lv_at hl 1 rfl) ?_
  refine x_V (As := [.int x1]) (rest := []) C (c_X10_isLaw l K G H325 (x1) hTH325 ga0) yo_X10_isLaw wM_X10_328 ⟨⟨by decide, by decide⟩, by decide, by decide⟩ (x_rv C hTH325 (ci := 10) rfl ga0 rg_112) rfl hl.1 rfl (Nat.le_of_ble_eq_true rfl) dX10_tells_7 hSH325 (AE_sub (fun _ _ => rfl) (by decide) hSH325.1) (fun vH332 H332 locsH332 pH332 zH332 kH332 hSH332 => ?_)
  have hqH332 := pH332.1.symm
  subst hqH332
  rcases pH332.2 with ⟨hvH332, hcH332⟩ | ⟨hvH332, hcH332⟩
  · subst hvH332
    refine W.eq (g2 := F0 m 10 ls [.int 1]) rfl ?_
    refine lv_if_eq (tgt := 42) hx hb dX10_tells_10 (by decide) (fun c333 => ?_) (fun c333 => ?_)
    · have k334 := i_eq c333
      exfalso
      omega
    · have k334 := i_ne c333
      refine lv_aload_n hx hb dX10_tells_13 rfl (lv_at hl 0 rfl) ?_
      refine lv_iload_n hx hb dX10_tells_14 rfl (lv_at hl 2 rfl) ?_
      refine lv_iconst (v := 0) hx hb dX10_tells_15 (by decide) ?_
      refine lv_iconst (v := 2) hx hb dX10_tells_16 (by decide) ?_
      refine x_V (As := [.int x2, .int 0, .int 2]) (rest := []) C (c_X10_isIn l K G H325 (x2) (0) (2) hTH325 ga0) yo_X10_isIn wM_X10_177 ⟨⟨by decide, by decide⟩, by decide, by decide⟩ (x_rv C hTH325 (ci := 10) rfl ga0 rg_112) rfl hl.1 rfl (Nat.le_of_ble_eq_true rfl) dX10_tells_17 hSH332 (AE_sub (fun _ _ => rfl) (by decide) hSH332.1) (fun vH335 H335 locsH335 pH335 zH335 kH335 hSH335 => ?_)
      have hqH335 := pH335.1.symm
      subst hqH335
      rcases pH335.2 with ⟨hvH335, hcH335⟩ | ⟨hvH335, hcH335⟩
      · subst hvH335
        refine W.eq (g2 := F0 m 20 ls [.int 1]) rfl ?_
        refine lv_if_eq (tgt := 42) hx hb dX10_tells_20 (by decide) (fun c336 => ?_) (fun c336 => ?_)
        · have k337 := i_eq c336
          exfalso
          omega
        · have k337 := i_ne c336
          refine lv_aload_n hx hb dX10_tells_23 rfl (lv_at hl 0 rfl) ?_
          refine lv_iload_n hx hb dX10_tells_24 rfl (lv_at hl 3 rfl) ?_
          refine x_V (As := [.int x3]) (rest := []) C (c_X10_isTone l K G H325 (x3) hTH325 ga0) yo_X10_isTone wM_X10_331 ⟨⟨by decide, by decide⟩, by decide, by decide⟩ (x_rv C hTH325 (ci := 10) rfl ga0 rg_112) rfl hl.1 rfl (Nat.le_of_ble_eq_true rfl) dX10_tells_25 hSH335 (AE_sub (fun _ _ => rfl) (by decide) hSH335.1) (fun vH338 H338 locsH338 pH338 zH338 kH338 hSH338 => ?_)
          have hqH338 := pH338.1.symm
          subst hqH338
          rcases pH338.2 with ⟨hvH338, hcH338⟩ | ⟨hvH338, hcH338⟩
          · subst hvH338
            refine W.eq (g2 := F0 m 28 ls [.int 1]) rfl ?_
            refine lv_if_eq (tgt := 42) hx hb dX10_tells_28 (by decide) (fun c339 => ?_) (fun c339 => ?_)
            · have k340 := i_eq c339
              exfalso
              omega
            · have k340 := i_ne c339
              refine lv_aload_n hx hb dX10_tells_31 rfl (lv_at hl 0 rfl) ?_
              refine lv_iload hx hb dX10_tells_32 (lv_at hl 4 rfl) ?_
              refine lv_iload hx hb dX10_tells_34 (lv_at hl 5 rfl) ?_
              obtain ⟨x341, ex341⟩ : ∃ z : Int32, z = fI H325 a0 (K.1.2 10 1) := ⟨_, rfl⟩
              have bx341 := ty_fi (x := x341) (k := 1) ex341 hTH325 ga0 rg_112 rfl
              refine x_V (As := [.int x4, .int x5]) (rest := []) C (a_X10_isSlice l K G H325 (x4) (x5) (x341) hTH325 ga0 ex341) yo_X10_isSlice wM_X10_181 ⟨⟨by decide, by decide⟩, by decide, by decide⟩ (x_rv C hTH325 (ci := 10) rfl ga0 rg_112) rfl hl.1 rfl (Nat.le_of_ble_eq_true rfl) dX10_tells_36 hSH338 (AE_sub (fun _ _ => rfl) (by decide) hSH338.1) (fun vH342 H342 locsH342 pH342 zH342 kH342 hSH342 => ?_)
              obtain ⟨x343, hvH342, bx343, hrH342, hTH342⟩ := pH342
              subst hvH342
              have mf344 : MF K s.heap H342 a0 [0] := MF.eff (x_lt hTH325 kH342 ga0 (by decide)) mf326
              have g345 : CG (avw K H342 a0) := CG.congr (fun k hk j => av_eff hTH325 kH342 ga0 (by decide) (CG_eff [] (by decide) k hk)) g327
              have g346 : TU (avw K H342 a0) (svw K H342 a0) := TU.congr (fun k hk j => av_eff hTH325 kH342 ga0 (by decide) (TU_eff [] (by decide) k hk)) (fun k hk => sv_eff hTH325 kH342 ga0 (by decide)) g328
              have g347 : WD (avw K H342 a0) := WD.congr (fun k hk j => av_eff hTH325 kH342 ga0 (by decide) (WD_eff [] (by decide) k hk)) g329
              have g348 : IM (avw K H342 a0) := IM.congr (fun k hk j => av_eff hTH325 kH342 ga0 (by decide) (IM_eff [] (by decide) k hk)) g330
              have m349 := (fI_kept (x_lt hTH325 kH342 ga0 (by decide))).trans m331
              have m350 := (ex341).trans (fI_kept (x_lt hTH325 kH342 ga0 (by decide))).symm
              refine W.eq (g2 := F0 m 39 ls [.int x343]) rfl ?_
              refine lv_if_ne (tgt := 46) hx hb dX10_tells_39 (by decide) (fun c351 => ?_) (fun c351 => ?_)
              · have k352 := i_ne c351
                refine lv_aload_n hx hb dX10_tells_46 rfl (lv_at hl 0 rfl) ?_
                refine lv_iload hx hb dX10_tells_47 (lv_at hl 4 rfl) ?_
                refine lv_iload hx hb dX10_tells_49 (lv_at hl 5 rfl) ?_
                refine x_V (As := [.int x4, .int x5]) (rest := []) C (a_X10_asksSlice l K G H342 (x4) (x5) hTH342 ga0 (by omega) (by omega)) yo_X10_asksSlice wM_X10_316 ⟨⟨by decide, by decide⟩, by decide, by decide⟩ (x_rv C hTH342 (ci := 10) rfl ga0 rg_112) rfl hl.1 rfl (Nat.le_of_ble_eq_true rfl) dX10_tells_51 hSH342 (AE_sub (fun _ _ => rfl) (by decide) hSH342.1) (fun vH353 H353 locsH353 pH353 zH353 kH353 hSH353 => ?_)
                obtain ⟨hvH353, hTH353⟩ := pH353
                subst hvH353
                have mf354 : MF K s.heap H353 a0 [0] := MF.eff (x_lt hTH342 kH353 ga0 (by decide)) mf344
                have g355 : CG (avw K H353 a0) := CG.congr (fun k hk j => av_eff hTH342 kH353 ga0 (by decide) (CG_eff [139] (by decide) k hk)) g345
                have g356 : TU (avw K H353 a0) (svw K H353 a0) := TU.congr (fun k hk j => av_eff hTH342 kH353 ga0 (by decide) (TU_eff [139] (by decide) k hk)) (fun k hk => sv_eff hTH342 kH353 ga0 (by decide)) g346
                have g357 : WD (avw K H353 a0) := WD.congr (fun k hk j => av_eff hTH342 kH353 ga0 (by decide) (WD_eff [139] (by decide) k hk)) g347
                have g358 : IM (avw K H353 a0) := IM.congr (fun k hk j => av_eff hTH342 kH353 ga0 (by decide) (IM_eff [139] (by decide) k hk)) g348
                have m359 := (fI_kept (x_lt hTH342 kH353 ga0 (by decide))).trans m349
                have m360 := (m350).trans (fI_kept (x_lt hTH342 kH353 ga0 (by decide))).symm
                refine W.eq (g2 := F0 m 54 ls []) rfl ?_
                refine lv_aload_n hx hb dX10_tells_54 rfl (lv_at hl 0 rfl) ?_
                refine lv_iload_n hx hb dX10_tells_55 rfl (lv_at hl 1 rfl) ?_
                refine lv_iload_n hx hb dX10_tells_56 rfl (lv_at hl 2 rfl) ?_
                refine lv_iload_n hx hb dX10_tells_57 rfl (lv_at hl 3 rfl) ?_
                obtain ⟨q361, eq361⟩ : ∃ z : Nat, z = fR H353 a0 (K.1.2 10 24) := ⟨_, rfl⟩
                have gq361 := ty_fr (q := q361) (k := 24) (u := 128) eq361 hTH353 ga0 rg_112 rfl
                obtain ⟨x362, ex362⟩ : ∃ z : Int32, z = fI H353 q361 (x1 : Int32).toNatClampNeg := ⟨_, rfl⟩
                have bx362 := ty_ai (x := x362) ex362 hTH353 gq361 rg_128 (by omega)
                refine x_V (As := [.int x1, .int x2, .int x3]) (rest := []) C (a_X10_tellsBy l K G H353 (x1) (x2) (x3) (x362) hTH353 ga0 (by omega) gq361 eq361 ex362 g355) yo_X10_tellsBy wM_X10_319 ⟨⟨by decide, by decide⟩, by decide, by decide⟩ (x_rv C hTH353 (ci := 10) rfl ga0 rg_112) rfl hl.1 rfl (Nat.le_of_ble_eq_true rfl) dX10_tells_58 hSH353 (AE_sub (fun _ _ => rfl) (by decide) hSH353.1) (fun vH363 H363 locsH363 pH363 zH363 kH363 hSH363 => ?_)
                obtain ⟨x364, hvH363, hTH363⟩ := pH363
                subst hvH363
                have mf365 : MF K s.heap H363 a0 [0] := MF.eff (x_lt hTH353 kH363 ga0 (by decide)) mf354
                have g366 : CG (avw K H363 a0) := CG.congr (fun k hk j => av_eff hTH353 kH363 ga0 (by decide) (CG_eff [140] (by decide) k hk)) g355
                have g367 : TU (avw K H363 a0) (svw K H363 a0) := TU.congr (fun k hk j => av_eff hTH353 kH363 ga0 (by decide) (TU_eff [140] (by decide) k hk)) (fun k hk => sv_eff hTH353 kH363 ga0 (by decide)) g356
                have g368 : WD (avw K H363 a0) := WD.congr (fun k hk j => av_eff hTH353 kH363 ga0 (by decide) (WD_eff [140] (by decide) k hk)) g357
                have g369 : IM (avw K H363 a0) := IM.congr (fun k hk j => av_eff hTH353 kH363 ga0 (by decide) (IM_eff [140] (by decide) k hk)) g358
                have m370 := (fI_kept (x_lt hTH353 kH363 ga0 (by decide))).trans m359
                have m371 := (m360).trans (fI_kept (x_lt hTH353 kH363 ga0 (by decide))).symm
                have m372 := (eq361).trans (fR_kept (x_lt hTH353 kH363 ga0 (by decide))).symm
                have m373 := (ex362).trans (fI_kept (x_lt hTH353 kH363 gq361 (by decide))).symm
                refine W.eq (g2 := F0 m 61 ls [.int x364]) rfl ?_
                exact x_iret C hQ dX10_tells_61 hSH363 (by decide) (by decide) (⟨x364, rfl, g366, g367, g368, g369, mf365, hTH363⟩)
              · have k352 := i_eq c351
                exact J42 ls H342 locsH342 (lv_sub hl [] rfl) hTH342 hSH342 mf344 g345 g346 g347 g348
          · subst hvH338
            refine W.eq (g2 := F0 m 28 ls [.int 0]) rfl ?_
            refine lv_if_eq (tgt := 42) hx hb dX10_tells_28 (by decide) (fun c374 => ?_) (fun c374 => ?_)
            · have k375 := i_eq c374
              exact J42 ls H325 locsH338 (lv_sub hl [] rfl) hTH325 hSH338 mf326 g327 g328 g329 g330
            · have k375 := i_ne c374
              exfalso
              omega
      · subst hvH335
        refine W.eq (g2 := F0 m 20 ls [.int 0]) rfl ?_
        refine lv_if_eq (tgt := 42) hx hb dX10_tells_20 (by decide) (fun c376 => ?_) (fun c376 => ?_)
        · have k377 := i_eq c376
          exact J42 ls H325 locsH335 (lv_sub hl [] rfl) hTH325 hSH335 mf326 g327 g328 g329 g330
        · have k377 := i_ne c376
          exfalso
          omega
  · subst hvH332
    refine W.eq (g2 := F0 m 10 ls [.int 0]) rfl ?_
    refine lv_if_eq (tgt := 42) hx hb dX10_tells_10 (by decide) (fun c378 => ?_) (fun c378 => ?_)
    · have k379 := i_eq c378
      exact J42 ls H325 locsH332 (lv_sub hl [] rfl) hTH325 hSH332 mf326 g327 g328 g329 g330
    · have k379 := i_ne c378
      exfalso
      omega

set_option maxHeartbeats 4000000 in
set_option maxRecDepth 100000 in
theorem a_X10_tone (l : Launch) (K : KE) (G : Nat → Option Nat) (H : Heap) {a0 : Nat} (x1 : Int32) (x2 : Int32) (hT : TY K G H) (ga0 : G a0 = some 112) (hg_CG : CG (avw K H a0)) (hg_TU : TU (avw K H a0) (svw K H a0)) (hg_WD : WD (avw K H a0)) (hg_IM : IM (avw K H a0)) : MX l K yX10_tone cX10_tone 3 (some .int) 6 145 0 0 [.ref a0, .int x1, .int x2] H (AE G [112, 140, 139] H.size) (fun v H1 => ∃ (r : Int32), v = some (.int r) ∧ (CG (avw K H1 a0)) ∧ (TU (avw K H1 a0) (svw K H1 a0)) ∧ (WD (avw K H1 a0)) ∧ (IM (avw K H1 a0)) ∧ MF K H H1 a0 [0] ∧ TY K G H1) := by
  refine MX.of (by decide +kernel) (Nat.le_of_ble_eq_true rfl) ?_
  intro p e s m below meth c ls Q C hH hl hQ
  subst hH
  have C : CX p K s m _ meth c RX10 cX10_tone 3 (some .int) "tone" := C
  obtain ⟨hx, hb, hml, hown, hts, hKT, hr, hlocks, hnm⟩ := id C
  have hl : lv_has ls 3 [(0, .ref a0), (1, .int x1), (2, .int x2)] := hl
  have hS : va_S (AE G [112, 140, 139] s.heap.size) s.heap s.heap [] := va_S.rf
  have n_m1 : ((-1) : Int32).toInt = -1 := rfl
  have n_0 : (0 : Int32).toInt = 0 := rfl
  have n_1 : (1 : Int32).toInt = 1 := rfl
  have hap : ∀ x y, x < 74 → y < 74 → x ≠ y → K.1.2 10 x ≠ K.1.2 10 y := x_apart hKT hts inX10 tyX10 tyX10_ok nmX10 rfl
  have mf0 : MF K s.heap s.heap a0 [0] := fun _ _ _ => rfl
  have J31 : ∀ (ls238 : Array Slot) (H237 : Heap) (locsH237 : List Loc) (x240 : Int32), lv_has ls238 3 [] → TY K G H237 → va_S (AE G [112, 140, 139] s.heap.size) s.heap H237 locsH237 → (MF K s.heap H237 a0 [0]) → (CG (avw K H237 a0)) → (TU (avw K H237 a0) (svw K H237 a0)) → (WD (avw K H237 a0)) → (IM (avw K H237 a0)) → W p l e ({ frames := 6, cells := 0, slots := 0, locals := 145 } : Room) s m (([.ref a0, .int x1, .int x2] : List Value).toArray) below meth c H237 locsH237 0 0 Q (F0 m 31 ls238 [.int x240]) := by
    intro ls238 H237 locsH237 x240 hl239 hTH237 hSH237 mfy241 gy241_CG gy241_TU gy241_WD gy241_IM
    exact x_iret C hQ dX10_tone_31 hSH237 (by decide) (by decide) (⟨x240, rfl, gy241_CG, gy241_TU, gy241_WD, gy241_IM, mfy241, hTH237⟩)
  have J30 : ∀ (ls243 : Array Slot) (H242 : Heap) (locsH242 : List Loc) , lv_has ls243 3 [] → TY K G H242 → va_S (AE G [112, 140, 139] s.heap.size) s.heap H242 locsH242 → (MF K s.heap H242 a0 [0]) → (CG (avw K H242 a0)) → (TU (avw K H242 a0) (svw K H242 a0)) → (WD (avw K H242 a0)) → (IM (avw K H242 a0)) → W p l e ({ frames := 6, cells := 0, slots := 0, locals := 145 } : Room) s m (([.ref a0, .int x1, .int x2] : List Value).toArray) below meth c H242 locsH242 0 0 Q (F0 m 30 ls243 []) := by
    intro ls243 H242 locsH242  hl244 hTH242 hSH242 mfy245 gy245_CG gy245_TU gy245_WD gy245_IM
    refine lv_iconst (v := (-1)) hx hb dX10_tone_30 (by decide) ?_
    exact J31 ls243 H242 locsH242 ((-1)) (lv_sub hl244 [] rfl) hTH242 hSH242 mfy245 gy245_CG gy245_TU gy245_WD gy245_IM
  refine lv_aload_n hx hb dX10_tone_0 rfl (lv_at hl 0 rfl) ?_
  refine lv_iconst (v := 0) hx hb dX10_tone_1 (by decide) ?_
  refine x_put C hT hS (ci := 10) (k := 0) (v := .int 0) (ty0 := tyX10) rfl inX10 tyX10_ok nmX10 (by decide) rfl wF_X10_167 ga0 rg_112 rfl rfl (okI (by have := i_rng (0 : Int32); omega) (by have := i_rng (0 : Int32); omega)) rfl rfl (AE_in ga0 (by decide)) dX10_tone_2 (fun H246 locsH246 hTH246 hSH246 wH246 => ?_)
  have mf247 : MF K s.heap H246 a0 [0] := MF.fld hap wH246 (by decide) (by decide) mf0
  have g248 : CG (avw K H246 a0) := CG.congr (fun k hk j => av_fld hT ga0 hap wH246 (by decide) (CG_ok 112 (by decide) k hk) (CG_ne 0 (by decide) k hk)) hg_CG
  have g249 : TU (avw K H246 a0) (svw K H246 a0) := TU.congr (fun k hk j => av_fld hT ga0 hap wH246 (by decide) (TU_ok 112 (by decide) k hk) (TU_ne 0 (by decide) k hk)) (fun k hk => sv_fld hap wH246 (by decide) (TU_slt k hk) (TU_sne 0 (by decide) k hk)) hg_TU
  have g250 : WD (avw K H246 a0) := WD.congr (fun k hk j => av_fld hT ga0 hap wH246 (by decide) (WD_ok 112 (by decide) k hk) (WD_ne 0 (by decide) k hk)) hg_WD
  have g251 : IM (avw K H246 a0) := IM.congr (fun k hk j => av_fld hT ga0 hap wH246 (by decide) (IM_ok 112 (by decide) k hk) (IM_ne 0 (by decide) k hk)) hg_IM
  have m252 := Wr.I wH246
  refine lv_aload_n hx hb dX10_tone_5 rfl (lv_at hl 0 rfl) ?_
  refine lv_iload_n hx hb dX10_tone_6 rfl (lv_at hl 1 rfl) ?_
  obtain ⟨x253, ex253⟩ : ∃ z : Int32, z = fI H246 a0 (K.1.2 10 1) := ⟨_, rfl⟩
  have bx253 := ty_fi (x := x253) (k := 1) ex253 hTH246 ga0 rg_112 rfl
  refine x_V (As := [.int x1]) (rest := []) C (a_X10_isBar l K G H246 (x1) (x253) hTH246 ga0 ex253) yo_X10_isBar wM_X10_173 ⟨⟨by decide, by decide⟩, by decide, by decide⟩ (x_rv C hTH246 (ci := 10) rfl ga0 rg_112) rfl hl.1 rfl (Nat.le_of_ble_eq_true rfl) dX10_tone_7 hSH246 (AE_sub (fun _ _ => rfl) (by decide) hSH246.1) (fun vH254 H254 locsH254 pH254 zH254 kH254 hSH254 => ?_)
  obtain ⟨x255, hvH254, bx255, hrH254, hTH254⟩ := pH254
  subst hvH254
  have mf256 : MF K s.heap H254 a0 [0] := MF.eff (x_lt hTH246 kH254 ga0 (by decide)) mf247
  have g257 : CG (avw K H254 a0) := CG.congr (fun k hk j => av_eff hTH246 kH254 ga0 (by decide) (CG_eff [] (by decide) k hk)) g248
  have g258 : TU (avw K H254 a0) (svw K H254 a0) := TU.congr (fun k hk j => av_eff hTH246 kH254 ga0 (by decide) (TU_eff [] (by decide) k hk)) (fun k hk => sv_eff hTH246 kH254 ga0 (by decide)) g249
  have g259 : WD (avw K H254 a0) := WD.congr (fun k hk j => av_eff hTH246 kH254 ga0 (by decide) (WD_eff [] (by decide) k hk)) g250
  have g260 : IM (avw K H254 a0) := IM.congr (fun k hk j => av_eff hTH246 kH254 ga0 (by decide) (IM_eff [] (by decide) k hk)) g251
  have m261 := (fI_kept (x_lt hTH246 kH254 ga0 (by decide))).trans m252
  have m262 := (ex253).trans (fI_kept (x_lt hTH246 kH254 ga0 (by decide))).symm
  refine W.eq (g2 := F0 m 10 ls [.int x255]) rfl ?_
  refine lv_if_eq (tgt := 30) hx hb dX10_tone_10 (by decide) (fun c263 => ?_) (fun c263 => ?_)
  · have k264 := i_eq c263
    exact J30 ls H254 locsH254 (lv_sub hl [] rfl) hTH254 hSH254 mf256 g257 g258 g259 g260
  · have k264 := i_ne c263
    refine lv_aload_n hx hb dX10_tone_13 rfl (lv_at hl 0 rfl) ?_
    refine lv_iload_n hx hb dX10_tone_14 rfl (lv_at hl 2 rfl) ?_
    refine x_V (As := [.int x2]) (rest := []) C (c_X10_isTone l K G H254 (x2) hTH254 ga0) yo_X10_isTone wM_X10_331 ⟨⟨by decide, by decide⟩, by decide, by decide⟩ (x_rv C hTH254 (ci := 10) rfl ga0 rg_112) rfl hl.1 rfl (Nat.le_of_ble_eq_true rfl) dX10_tone_15 hSH254 (AE_sub (fun _ _ => rfl) (by decide) hSH254.1) (fun vH265 H265 locsH265 pH265 zH265 kH265 hSH265 => ?_)
    have hqH265 := pH265.1.symm
    subst hqH265
    rcases pH265.2 with ⟨hvH265, hcH265⟩ | ⟨hvH265, hcH265⟩
    · subst hvH265
      refine W.eq (g2 := F0 m 18 ls [.int 1]) rfl ?_
      refine lv_if_eq (tgt := 30) hx hb dX10_tone_18 (by decide) (fun c266 => ?_) (fun c266 => ?_)
      · have k267 := i_eq c266
        exfalso
        omega
      · have k267 := i_ne c266
        refine lv_aload_n hx hb dX10_tone_21 rfl (lv_at hl 0 rfl) ?_
        refine lv_iload_n hx hb dX10_tone_22 rfl (lv_at hl 1 rfl) ?_
        refine lv_iload_n hx hb dX10_tone_23 rfl (lv_at hl 2 rfl) ?_
        refine x_V (As := [.int x1, .int x2]) (rest := []) C (a_X10_toneNow l K G H254 (x1) (x2) hTH254 ga0 (by omega) g257) yo_X10_toneNow wM_X10_335 ⟨⟨by decide, by decide⟩, by decide, by decide⟩ (x_rv C hTH254 (ci := 10) rfl ga0 rg_112) rfl hl.1 rfl (Nat.le_of_ble_eq_true rfl) dX10_tone_24 hSH265 (AE_sub (fun _ _ => rfl) (by decide) hSH265.1) (fun vH268 H268 locsH268 pH268 zH268 kH268 hSH268 => ?_)
        obtain ⟨x269, hvH268, hTH268⟩ := pH268
        subst hvH268
        have mf270 : MF K s.heap H268 a0 [0] := MF.eff (x_lt hTH254 kH268 ga0 (by decide)) mf256
        have g271 : CG (avw K H268 a0) := CG.congr (fun k hk j => av_eff hTH254 kH268 ga0 (by decide) (CG_eff [140, 139] (by decide) k hk)) g257
        have g272 : TU (avw K H268 a0) (svw K H268 a0) := TU.congr (fun k hk j => av_eff hTH254 kH268 ga0 (by decide) (TU_eff [140, 139] (by decide) k hk)) (fun k hk => sv_eff hTH254 kH268 ga0 (by decide)) g258
        have g273 : WD (avw K H268 a0) := WD.congr (fun k hk j => av_eff hTH254 kH268 ga0 (by decide) (WD_eff [140, 139] (by decide) k hk)) g259
        have g274 : IM (avw K H268 a0) := IM.congr (fun k hk j => av_eff hTH254 kH268 ga0 (by decide) (IM_eff [140, 139] (by decide) k hk)) g260
        have m275 := (fI_kept (x_lt hTH254 kH268 ga0 (by decide))).trans m261
        have m276 := (m262).trans (fI_kept (x_lt hTH254 kH268 ga0 (by decide))).symm
        refine W.eq (g2 := F0 m 27 ls [.int x269]) rfl ?_
        refine lv_goto (tgt := 31) hx hb dX10_tone_27 (by decide) ?_
        exact J31 ls H268 locsH268 (x269) (lv_sub hl [] rfl) hTH268 hSH268 mf270 g271 g272 g273 g274
    · subst hvH265
      refine W.eq (g2 := F0 m 18 ls [.int 0]) rfl ?_
      refine lv_if_eq (tgt := 30) hx hb dX10_tone_18 (by decide) (fun c277 => ?_) (fun c277 => ?_)
      · have k278 := i_eq c277
        exact J30 ls H254 locsH265 (lv_sub hl [] rfl) hTH254 hSH265 mf256 g257 g258 g259 g260
      · have k278 := i_ne c277
        exfalso
        omega

set_option maxHeartbeats 4000000 in
set_option maxRecDepth 100000 in
theorem a_X10_shave (l : Launch) (K : KE) (G : Nat → Option Nat) (H : Heap) {a0 : Nat} (x1 : Int32) (x2 : Int32) (x3 : Int32) (hT : TY K G H) (ga0 : G a0 = some 112) (hg_CG : CG (avw K H a0)) (hg_TU : TU (avw K H a0) (svw K H a0)) (hg_WD : WD (avw K H a0)) (hg_IM : IM (avw K H a0)) : MX l K yX10_shave cX10_shave 4 (some .int) 8 190 0 0 [.ref a0, .int x1, .int x2, .int x3] H (AE G [112, 114, 120, 121, 119, 122, 140, 139] H.size) (fun v H1 => ∃ (r : Int32), v = some (.int r) ∧ (CG (avw K H1 a0)) ∧ (TU (avw K H1 a0) (svw K H1 a0)) ∧ (WD (avw K H1 a0)) ∧ (IM (avw K H1 a0)) ∧ MF K H H1 a0 [0] ∧ TY K G H1) := by
  refine MX.of (by decide +kernel) (Nat.le_of_ble_eq_true rfl) ?_
  intro p e s m below meth c ls Q C hH hl hQ
  subst hH
  have C : CX p K s m _ meth c RX10 cX10_shave 4 (some .int) "shave" := C
  obtain ⟨hx, hb, hml, hown, hts, hKT, hr, hlocks, hnm⟩ := id C
  have hl : lv_has ls 4 [(0, .ref a0), (1, .int x1), (2, .int x2), (3, .int x3)] := hl
  have hS : va_S (AE G [112, 114, 120, 121, 119, 122, 140, 139] s.heap.size) s.heap s.heap [] := va_S.rf
  have n_m1 : ((-1) : Int32).toInt = -1 := rfl
  have n_0 : (0 : Int32).toInt = 0 := rfl
  have n_1 : (1 : Int32).toInt = 1 := rfl
  have n_9 : (9 : Int32).toInt = 9 := rfl
  have hap : ∀ x y, x < 74 → y < 74 → x ≠ y → K.1.2 10 x ≠ K.1.2 10 y := x_apart hKT hts inX10 tyX10 tyX10_ok nmX10 rfl
  have mf0 : MF K s.heap s.heap a0 [0] := fun _ _ _ => rfl
  have J26 : ∀ (ls258 : Array Slot) (H257 : Heap) (locsH257 : List Loc) , lv_has ls258 4 [] → TY K G H257 → va_S (AE G [112, 114, 120, 121, 119, 122, 140, 139] s.heap.size) s.heap H257 locsH257 → (MF K s.heap H257 a0 [0]) → (CG (avw K H257 a0)) → (TU (avw K H257 a0) (svw K H257 a0)) → (WD (avw K H257 a0)) → (IM (avw K H257 a0)) → W p l e ({ frames := 8, cells := 0, slots := 0, locals := 190 } : Room) s m (([.ref a0, .int x1, .int x2, .int x3] : List Value).toArray) below meth c H257 locsH257 0 0 Q (F0 m 26 ls258 []) := by
    intro ls258 H257 locsH257  hl259 hTH257 hSH257 mfy260 gy260_CG gy260_TU gy260_WD gy260_IM
    refine lv_iconst (v := (-1)) hx hb dX10_shave_26 (by decide) ?_
    exact x_iret C hQ dX10_shave_27 hSH257 (by decide) (by decide) (⟨(-1), rfl, gy260_CG, gy260_TU, gy260_WD, gy260_IM, mfy260, hTH257⟩)
  refine lv_aload_n hx hb dX10_shave_0 rfl (lv_at hl 0 rfl) ?_
  refine lv_iconst (v := 0) hx hb dX10_shave_1 (by decide) ?_
  refine x_put C hT hS (ci := 10) (k := 0) (v := .int 0) (ty0 := tyX10) rfl inX10 tyX10_ok nmX10 (by decide) rfl wF_X10_167 ga0 rg_112 rfl rfl (okI (by have := i_rng (0 : Int32); omega) (by have := i_rng (0 : Int32); omega)) rfl rfl (AE_in ga0 (by decide)) dX10_shave_2 (fun H261 locsH261 hTH261 hSH261 wH261 => ?_)
  have mf262 : MF K s.heap H261 a0 [0] := MF.fld hap wH261 (by decide) (by decide) mf0
  have g263 : CG (avw K H261 a0) := CG.congr (fun k hk j => av_fld hT ga0 hap wH261 (by decide) (CG_ok 112 (by decide) k hk) (CG_ne 0 (by decide) k hk)) hg_CG
  have g264 : TU (avw K H261 a0) (svw K H261 a0) := TU.congr (fun k hk j => av_fld hT ga0 hap wH261 (by decide) (TU_ok 112 (by decide) k hk) (TU_ne 0 (by decide) k hk)) (fun k hk => sv_fld hap wH261 (by decide) (TU_slt k hk) (TU_sne 0 (by decide) k hk)) hg_TU
  have g265 : WD (avw K H261 a0) := WD.congr (fun k hk j => av_fld hT ga0 hap wH261 (by decide) (WD_ok 112 (by decide) k hk) (WD_ne 0 (by decide) k hk)) hg_WD
  have g266 : IM (avw K H261 a0) := IM.congr (fun k hk j => av_fld hT ga0 hap wH261 (by decide) (IM_ok 112 (by decide) k hk) (IM_ne 0 (by decide) k hk)) hg_IM
  have m267 := Wr.I wH261
  refine lv_aload_n hx hb dX10_shave_5 rfl (lv_at hl 0 rfl) ?_
  refine lv_iload_n hx hb dX10_shave_6 rfl (lv_at hl 3 rfl) ?_
  refine lv_iconst (v := 1) hx hb dX10_shave_7 (by decide) ?_
  refine lv_bipush (v := 9) hx hb dX10_shave_8 (by decide) ?_
  refine x_V (As := [.int x3, .int 1, .int 9]) (rest := []) C (c_X10_isIn l K G H261 (x3) (1) (9) hTH261 ga0) yo_X10_isIn wM_X10_177 ⟨⟨by decide, by decide⟩, by decide, by decide⟩ (x_rv C hTH261 (ci := 10) rfl ga0 rg_112) rfl hl.1 rfl (Nat.le_of_ble_eq_true rfl) dX10_shave_10 hSH261 (AE_sub (fun _ _ => rfl) (by decide) hSH261.1) (fun vH268 H268 locsH268 pH268 zH268 kH268 hSH268 => ?_)
  have hqH268 := pH268.1.symm
  subst hqH268
  rcases pH268.2 with ⟨hvH268, hcH268⟩ | ⟨hvH268, hcH268⟩
  · subst hvH268
    refine W.eq (g2 := F0 m 13 ls [.int 1]) rfl ?_
    refine lv_if_eq (tgt := 26) hx hb dX10_shave_13 (by decide) (fun c269 => ?_) (fun c269 => ?_)
    · have k270 := i_eq c269
      exfalso
      omega
    · have k270 := i_ne c269
      refine lv_aload_n hx hb dX10_shave_16 rfl (lv_at hl 0 rfl) ?_
      refine lv_iload_n hx hb dX10_shave_17 rfl (lv_at hl 1 rfl) ?_
      refine lv_iload_n hx hb dX10_shave_18 rfl (lv_at hl 2 rfl) ?_
      refine lv_iload_n hx hb dX10_shave_19 rfl (lv_at hl 3 rfl) ?_
      obtain ⟨x271, ex271⟩ : ∃ z : Int32, z = fI H261 a0 (K.1.2 10 1) := ⟨_, rfl⟩
      have bx271 := ty_fi (x := x271) (k := 1) ex271 hTH261 ga0 rg_112 rfl
      refine x_V (As := [.int x1, .int x2, .int x3]) (rest := []) C (a_X10_canPass l K G H261 (x1) (x2) (x3) (x271) hTH261 ga0 ex271) yo_X10_canPass wM_X10_341 ⟨⟨by decide, by decide⟩, by decide, by decide⟩ (x_rv C hTH261 (ci := 10) rfl ga0 rg_112) rfl hl.1 rfl (Nat.le_of_ble_eq_true rfl) dX10_shave_20 hSH268 (AE_sub (fun _ _ => rfl) (by decide) hSH268.1) (fun vH272 H272 locsH272 pH272 zH272 kH272 hSH272 => ?_)
      obtain ⟨x273, hvH272, bx273, hrH272, m274, hTH272⟩ := pH272
      subst hvH272
      have mf275 : MF K s.heap H272 a0 [0] := MF.eff (x_lt hTH261 kH272 ga0 (by decide)) mf262
      have g276 : CG (avw K H272 a0) := CG.congr (fun k hk j => av_eff hTH261 kH272 ga0 (by decide) (CG_eff [] (by decide) k hk)) g263
      have g277 : TU (avw K H272 a0) (svw K H272 a0) := TU.congr (fun k hk j => av_eff hTH261 kH272 ga0 (by decide) (TU_eff [] (by decide) k hk)) (fun k hk => sv_eff hTH261 kH272 ga0 (by decide)) g264
      have g278 : WD (avw K H272 a0) := WD.congr (fun k hk j => av_eff hTH261 kH272 ga0 (by decide) (WD_eff [] (by decide) k hk)) g265
      have g279 : IM (avw K H272 a0) := IM.congr (fun k hk j => av_eff hTH261 kH272 ga0 (by decide) (IM_eff [] (by decide) k hk)) g266
      have m280 := (fI_kept (x_lt hTH261 kH272 ga0 (by decide))).trans m267
      have m281 := (ex271).trans (fI_kept (x_lt hTH261 kH272 ga0 (by decide))).symm
      obtain ⟨q282, eq282⟩ : ∃ z : Nat, z = fR H272 a0 (K.1.2 10 10) := ⟨_, rfl⟩
      have gq282 := ty_fr (q := q282) (k := 10) (u := 119) eq282 hTH272 ga0 rg_112 rfl
      obtain ⟨x283, ex283⟩ : ∃ z : Int32, z = fI H272 q282 (x1 : Int32).toNatClampNeg := ⟨_, rfl⟩
      rw [← eq282, ← ex283] at m274
      refine W.eq (g2 := F0 m 23 ls [.int x273]) rfl ?_
      refine lv_if_ne (tgt := 28) hx hb dX10_shave_23 (by decide) (fun c284 => ?_) (fun c284 => ?_)
      · have k285 := i_ne c284
        refine lv_aload_n hx hb dX10_shave_28 rfl (lv_at hl 0 rfl) ?_
        refine lv_iload_n hx hb dX10_shave_29 rfl (lv_at hl 1 rfl) ?_
        refine lv_iload_n hx hb dX10_shave_30 rfl (lv_at hl 2 rfl) ?_
        refine lv_iload_n hx hb dX10_shave_31 rfl (lv_at hl 3 rfl) ?_
        refine x_V (As := [.int x1, .int x2, .int x3]) (rest := []) C (a_X10_takesOff l K G H272 (x1) (x2) (x3) (x283) hTH272 ga0 (by omega) (by omega) gq282 eq282 ex283 g276 (by omega)) yo_X10_takesOff wM_X10_344 ⟨⟨by decide, by decide⟩, by decide, by decide⟩ (x_rv C hTH272 (ci := 10) rfl ga0 rg_112) rfl hl.1 rfl (Nat.le_of_ble_eq_true rfl) dX10_shave_32 hSH272 (AE_sub (fun _ _ => rfl) (by decide) hSH272.1) (fun vH286 H286 locsH286 pH286 zH286 kH286 hSH286 => ?_)
        obtain ⟨x287, hvH286, ex287, hTH286⟩ := pH286
        subst hvH286
        have mf288 : MF K s.heap H286 a0 [0] := MF.eff (x_lt hTH272 kH286 ga0 (by decide)) mf275
        have g289 : CG (avw K H286 a0) := CG.congr (fun k hk j => av_eff hTH272 kH286 ga0 (by decide) (CG_eff [114, 120, 121, 119, 122, 140, 139] (by decide) k hk)) g276
        have g290 : TU (avw K H286 a0) (svw K H286 a0) := TU.congr (fun k hk j => av_eff hTH272 kH286 ga0 (by decide) (TU_eff [114, 120, 121, 119, 122, 140, 139] (by decide) k hk)) (fun k hk => sv_eff hTH272 kH286 ga0 (by decide)) g277
        have g291 : WD (avw K H286 a0) := WD.congr (fun k hk j => av_eff hTH272 kH286 ga0 (by decide) (WD_eff [114, 120, 121, 119, 122, 140, 139] (by decide) k hk)) g278
        have g292 : IM (avw K H286 a0) := IM.congr (fun k hk j => av_eff hTH272 kH286 ga0 (by decide) (IM_eff [114, 120, 121, 119, 122, 140, 139] (by decide) k hk)) g279
        have m293 := (fI_kept (x_lt hTH272 kH286 ga0 (by decide))).trans m280
        have m294 := (m281).trans (fI_kept (x_lt hTH272 kH286 ga0 (by decide))).symm
        have m295 := (eq282).trans (fR_kept (x_lt hTH272 kH286 ga0 (by decide))).symm
        have bx287 := ty_ai (x := x287) ex287 hTH286 gq282 rg_119 (by omega)
        refine W.eq (g2 := F0 m 35 ls []) rfl ?_
        refine lv_aload_n hx hb dX10_shave_35 rfl (lv_at hl 0 rfl) ?_
        refine x_gr C hTH286 (ci := 10) (k := 10) rfl inX10 (by decide) wF_X10_32 ga0 rg_112 rfl dX10_shave_36 (fun q296 eq296 gq296 => ?_)
        have uq296 : q282 = q296 := (m295).trans eq296.symm
        subst uq296
        refine lv_iload_n hx hb dX10_shave_39 rfl (lv_at hl 1 rfl) ?_
        refine x_ai C hTH286 gq282 rg_119 ⟨by omega, by show _ < ((10 : Nat) : Int); omega⟩ dX10_shave_40 (fun x297 ex297 bx297 => ?_)
        have ux297 : x287 = x297 := (ex287).trans ex297.symm
        subst ux297
        exact x_iret C hQ dX10_shave_41 hSH286 (by decide) (by decide) (⟨x287, rfl, g289, g290, g291, g292, mf288, hTH286⟩)
      · have k285 := i_eq c284
        exact J26 ls H272 locsH272 (lv_sub hl [] rfl) hTH272 hSH272 mf275 g276 g277 g278 g279
  · subst hvH268
    refine W.eq (g2 := F0 m 13 ls [.int 0]) rfl ?_
    refine lv_if_eq (tgt := 26) hx hb dX10_shave_13 (by decide) (fun c298 => ?_) (fun c298 => ?_)
    · have k299 := i_eq c298
      exact J26 ls H261 locsH268 (lv_sub hl [] rfl) hTH261 hSH268 mf262 g263 g264 g265 g266
    · have k299 := i_ne c298
      exfalso
      omega

set_option maxHeartbeats 4000000 in
set_option maxRecDepth 100000 in
theorem a_X10_pass (l : Launch) (K : KE) (G : Nat → Option Nat) (H : Heap) {a0 : Nat} (x1 : Int32) (x2 : Int32) (x3 : Int32) (hT : TY K G H) (ga0 : G a0 = some 112) (hg_CG : CG (avw K H a0)) (hg_TU : TU (avw K H a0) (svw K H a0)) (hg_WD : WD (avw K H a0)) (hg_IM : IM (avw K H a0)) : MX l K yX10_pass cX10_pass 4 (some .int) 1 23 0 0 [.ref a0, .int x1, .int x2, .int x3] H (AE G [112] H.size) (fun v H1 => ∃ (r : Int32), v = some (.int r) ∧ (CG (avw K H1 a0)) ∧ (TU (avw K H1 a0) (svw K H1 a0)) ∧ (WD (avw K H1 a0)) ∧ (IM (avw K H1 a0)) ∧ MF K H H1 a0 [0] ∧ TY K G H1) := by
  refine MX.of (by decide +kernel) (Nat.le_of_ble_eq_true rfl) ?_
  intro p e s m below meth c ls Q C hH hl hQ
  subst hH
  have C : CX p K s m _ meth c RX10 cX10_pass 4 (some .int) "pass" := C
  obtain ⟨hx, hb, hml, hown, hts, hKT, hr, hlocks, hnm⟩ := id C
  have hl : lv_has ls 4 [(0, .ref a0), (1, .int x1), (2, .int x2), (3, .int x3)] := hl
  have hS : va_S (AE G [112] s.heap.size) s.heap s.heap [] := va_S.rf
  have n_m1 : ((-1) : Int32).toInt = -1 := rfl
  have n_0 : (0 : Int32).toInt = 0 := rfl
  have n_1 : (1 : Int32).toInt = 1 := rfl
  have n_200 : (200 : Int32).toInt = 200 := rfl
  have hap : ∀ x y, x < 74 → y < 74 → x ≠ y → K.1.2 10 x ≠ K.1.2 10 y := x_apart hKT hts inX10 tyX10 tyX10_ok nmX10 rfl
  have mf0 : MF K s.heap s.heap a0 [0] := fun _ _ _ => rfl
  have J28 : ∀ (ls267 : Array Slot) (H266 : Heap) (locsH266 : List Loc) , lv_has ls267 4 [] → TY K G H266 → va_S (AE G [112] s.heap.size) s.heap H266 locsH266 → (MF K s.heap H266 a0 [0]) → (CG (avw K H266 a0)) → (TU (avw K H266 a0) (svw K H266 a0)) → (WD (avw K H266 a0)) → (IM (avw K H266 a0)) → W p l e ({ frames := 1, cells := 0, slots := 0, locals := 23 } : Room) s m (([.ref a0, .int x1, .int x2, .int x3] : List Value).toArray) below meth c H266 locsH266 0 0 Q (F0 m 28 ls267 []) := by
    intro ls267 H266 locsH266  hl268 hTH266 hSH266 mfy269 gy269_CG gy269_TU gy269_WD gy269_IM
    refine lv_iconst (v := (-1)) hx hb dX10_pass_28 (by decide) ?_
    exact x_iret C hQ dX10_pass_29 hSH266 (by decide) (by decide) (⟨(-1), rfl, gy269_CG, gy269_TU, gy269_WD, gy269_IM, mfy269, hTH266⟩)
  have J74 : ∀ (ls271 : Array Slot) (H270 : Heap) (locsH270 : List Loc) (x273 : Int32), lv_has ls271 4 [] → TY K G H270 → va_S (AE G [112] s.heap.size) s.heap H270 locsH270 → (MF K s.heap H270 a0 [0]) → (CG (avw K H270 a0)) → (TU (avw K H270 a0) (svw K H270 a0)) → (WD (avw K H270 a0)) → (IM (avw K H270 a0)) → W p l e ({ frames := 1, cells := 0, slots := 0, locals := 23 } : Room) s m (([.ref a0, .int x1, .int x2, .int x3] : List Value).toArray) below meth c H270 locsH270 0 0 Q (F0 m 74 ls271 [.int x273]) := by
    intro ls271 H270 locsH270 x273 hl272 hTH270 hSH270 mfy274 gy274_CG gy274_TU gy274_WD gy274_IM
    exact x_iret C hQ dX10_pass_74 hSH270 (by decide) (by decide) (⟨x273, rfl, gy274_CG, gy274_TU, gy274_WD, gy274_IM, mfy274, hTH270⟩)
  refine lv_aload_n hx hb dX10_pass_0 rfl (lv_at hl 0 rfl) ?_
  refine lv_iconst (v := 0) hx hb dX10_pass_1 (by decide) ?_
  refine x_put C hT hS (ci := 10) (k := 0) (v := .int 0) (ty0 := tyX10) rfl inX10 tyX10_ok nmX10 (by decide) rfl wF_X10_167 ga0 rg_112 rfl rfl (okI (by have := i_rng (0 : Int32); omega) (by have := i_rng (0 : Int32); omega)) rfl rfl (AE_in ga0 (by decide)) dX10_pass_2 (fun H275 locsH275 hTH275 hSH275 wH275 => ?_)
  have mf276 : MF K s.heap H275 a0 [0] := MF.fld hap wH275 (by decide) (by decide) mf0
  have g277 : CG (avw K H275 a0) := CG.congr (fun k hk j => av_fld hT ga0 hap wH275 (by decide) (CG_ok 112 (by decide) k hk) (CG_ne 0 (by decide) k hk)) hg_CG
  have g278 : TU (avw K H275 a0) (svw K H275 a0) := TU.congr (fun k hk j => av_fld hT ga0 hap wH275 (by decide) (TU_ok 112 (by decide) k hk) (TU_ne 0 (by decide) k hk)) (fun k hk => sv_fld hap wH275 (by decide) (TU_slt k hk) (TU_sne 0 (by decide) k hk)) hg_TU
  have g279 : WD (avw K H275 a0) := WD.congr (fun k hk j => av_fld hT ga0 hap wH275 (by decide) (WD_ok 112 (by decide) k hk) (WD_ne 0 (by decide) k hk)) hg_WD
  have g280 : IM (avw K H275 a0) := IM.congr (fun k hk j => av_fld hT ga0 hap wH275 (by decide) (IM_ok 112 (by decide) k hk) (IM_ne 0 (by decide) k hk)) hg_IM
  have m281 := Wr.I wH275
  refine lv_aload_n hx hb dX10_pass_5 rfl (lv_at hl 0 rfl) ?_
  refine lv_iload_n hx hb dX10_pass_6 rfl (lv_at hl 1 rfl) ?_
  obtain ⟨x282, ex282⟩ : ∃ z : Int32, z = fI H275 a0 (K.1.2 10 1) := ⟨_, rfl⟩
  have bx282 := ty_fi (x := x282) (k := 1) ex282 hTH275 ga0 rg_112 rfl
  refine x_V (As := [.int x1]) (rest := []) C (a_X10_isBar l K G H275 (x1) (x282) hTH275 ga0 ex282) yo_X10_isBar wM_X10_173 ⟨⟨by decide, by decide⟩, by decide, by decide⟩ (x_rv C hTH275 (ci := 10) rfl ga0 rg_112) rfl hl.1 rfl (Nat.le_of_ble_eq_true rfl) dX10_pass_7 hSH275 (AE_sub (fun _ _ => rfl) (by decide) hSH275.1) (fun vH283 H283 locsH283 pH283 zH283 kH283 hSH283 => ?_)
  obtain ⟨x284, hvH283, bx284, hrH283, hTH283⟩ := pH283
  subst hvH283
  have mf285 : MF K s.heap H283 a0 [0] := MF.eff (x_lt hTH275 kH283 ga0 (by decide)) mf276
  have g286 : CG (avw K H283 a0) := CG.congr (fun k hk j => av_eff hTH275 kH283 ga0 (by decide) (CG_eff [] (by decide) k hk)) g277
  have g287 : TU (avw K H283 a0) (svw K H283 a0) := TU.congr (fun k hk j => av_eff hTH275 kH283 ga0 (by decide) (TU_eff [] (by decide) k hk)) (fun k hk => sv_eff hTH275 kH283 ga0 (by decide)) g278
  have g288 : WD (avw K H283 a0) := WD.congr (fun k hk j => av_eff hTH275 kH283 ga0 (by decide) (WD_eff [] (by decide) k hk)) g279
  have g289 : IM (avw K H283 a0) := IM.congr (fun k hk j => av_eff hTH275 kH283 ga0 (by decide) (IM_eff [] (by decide) k hk)) g280
  have m290 := (fI_kept (x_lt hTH275 kH283 ga0 (by decide))).trans m281
  have m291 := (ex282).trans (fI_kept (x_lt hTH275 kH283 ga0 (by decide))).symm
  refine W.eq (g2 := F0 m 10 ls [.int x284]) rfl ?_
  refine lv_if_eq (tgt := 28) hx hb dX10_pass_10 (by decide) (fun c292 => ?_) (fun c292 => ?_)
  · have k293 := i_eq c292
    exact J28 ls H283 locsH283 (lv_sub hl [] rfl) hTH283 hSH283 mf285 g286 g287 g288 g289
  · have k293 := i_ne c292
    refine lv_aload_n hx hb dX10_pass_13 rfl (lv_at hl 0 rfl) ?_
    refine lv_iload_n hx hb dX10_pass_14 rfl (lv_at hl 2 rfl) ?_
    refine lv_iconst (v := 1) hx hb dX10_pass_15 (by decide) ?_
    refine lv_aload_n hx hb dX10_pass_16 rfl (lv_at hl 0 rfl) ?_
    refine x_gr C hTH283 (ci := 10) (k := 10) rfl inX10 (by decide) wF_X10_32 ga0 rg_112 rfl dX10_pass_17 (fun q294 eq294 gq294 => ?_)
    refine lv_iload_n hx hb dX10_pass_20 rfl (lv_at hl 1 rfl) ?_
    refine x_ai C hTH283 gq294 rg_119 ⟨by omega, by show _ < ((10 : Nat) : Int); omega⟩ dX10_pass_21 (fun x295 ex295 bx295 => ?_)
    refine x_V (As := [.int x2, .int 1, .int x295]) (rest := []) C (c_X10_isIn l K G H283 (x2) (1) (x295) hTH283 ga0) yo_X10_isIn wM_X10_177 ⟨⟨by decide, by decide⟩, by decide, by decide⟩ (x_rv C hTH283 (ci := 10) rfl ga0 rg_112) rfl hl.1 rfl (Nat.le_of_ble_eq_true rfl) dX10_pass_22 hSH283 (AE_sub (fun _ _ => rfl) (by decide) hSH283.1) (fun vH296 H296 locsH296 pH296 zH296 kH296 hSH296 => ?_)
    have hqH296 := pH296.1.symm
    subst hqH296
    rcases pH296.2 with ⟨hvH296, hcH296⟩ | ⟨hvH296, hcH296⟩
    · subst hvH296
      refine W.eq (g2 := F0 m 25 ls [.int 1]) rfl ?_
      refine lv_if_ne (tgt := 30) hx hb dX10_pass_25 (by decide) (fun c297 => ?_) (fun c297 => ?_)
      · have k298 := i_ne c297
        refine lv_iload_n hx hb dX10_pass_30 rfl (lv_at hl 3 rfl) ?_
        refine lv_if_ne (tgt := 51) hx hb dX10_pass_31 (by decide) (fun c299 => ?_) (fun c299 => ?_)
        · have k300 := i_ne c299
          refine lv_iload_n hx hb dX10_pass_51 rfl (lv_at hl 3 rfl) ?_
          refine lv_iconst (v := 1) hx hb dX10_pass_52 (by decide) ?_
          refine lv_icmp_ne (tgt := 73) hx hb dX10_pass_53 (by decide) (fun c301 => ?_) (fun c301 => ?_)
          · have k302 := i_ne c301
            refine lv_iconst (v := (-1)) hx hb dX10_pass_73 (by decide) ?_
            exact J74 ls H283 locsH296 ((-1)) (lv_sub hl [] rfl) hTH283 hSH296 mf285 g286 g287 g288 g289
          · have k302 := i_eq c301
            refine lv_aload_n hx hb dX10_pass_56 rfl (lv_at hl 0 rfl) ?_
            refine x_gr C hTH283 (ci := 10) (k := 12) rfl inX10 (by decide) wF_X10_38 ga0 rg_112 rfl dX10_pass_57 (fun q303 eq303 gq303 => ?_)
            refine lv_sipush (v := 200) hx hb dX10_pass_60 (by decide) ?_
            refine lv_iload_n hx hb dX10_pass_63 rfl (lv_at hl 1 rfl) ?_
            refine lv_imul hx hb dX10_pass_64 ?_
            refine lv_topi (fun x304 ex304 => ?_)
            have tx304 := i_mul ex304 (by rw [n_200]; omega)
            rw [n_200] at tx304
            refine lv_iload_n hx hb dX10_pass_65 rfl (lv_at hl 2 rfl) ?_
            refine lv_iadd hx hb dX10_pass_66 ?_
            refine lv_topi (fun x305 ex305 => ?_)
            have tx305 := i_add ex305 (by omega)
            refine lv_iconst (v := 1) hx hb dX10_pass_67 (by decide) ?_
            refine lv_isub hx hb dX10_pass_68 ?_
            refine lv_topi (fun x306 ex306 => ?_)
            have tx306 := i_sub ex306 (by omega)
            refine x_ai C hTH283 gq303 rg_121 ⟨by omega, by show _ < ((2000 : Nat) : Int); omega⟩ dX10_pass_69 (fun x307 ex307 bx307 => ?_)
            refine lv_goto (tgt := 74) hx hb dX10_pass_70 (by decide) ?_
            exact J74 ls H283 locsH296 (x307) (lv_sub hl [] rfl) hTH283 hSH296 mf285 g286 g287 g288 g289
        · have k300 := i_eq c299
          refine lv_aload_n hx hb dX10_pass_34 rfl (lv_at hl 0 rfl) ?_
          refine x_gr C hTH283 (ci := 10) (k := 11) rfl inX10 (by decide) wF_X10_35 ga0 rg_112 rfl dX10_pass_35 (fun q308 eq308 gq308 => ?_)
          refine lv_sipush (v := 200) hx hb dX10_pass_38 (by decide) ?_
          refine lv_iload_n hx hb dX10_pass_41 rfl (lv_at hl 1 rfl) ?_
          refine lv_imul hx hb dX10_pass_42 ?_
          refine lv_topi (fun x309 ex309 => ?_)
          have tx309 := i_mul ex309 (by rw [n_200]; omega)
          rw [n_200] at tx309
          refine lv_iload_n hx hb dX10_pass_43 rfl (lv_at hl 2 rfl) ?_
          refine lv_iadd hx hb dX10_pass_44 ?_
          refine lv_topi (fun x310 ex310 => ?_)
          have tx310 := i_add ex310 (by omega)
          refine lv_iconst (v := 1) hx hb dX10_pass_45 (by decide) ?_
          refine lv_isub hx hb dX10_pass_46 ?_
          refine lv_topi (fun x311 ex311 => ?_)
          have tx311 := i_sub ex311 (by omega)
          refine x_ai C hTH283 gq308 rg_120 ⟨by omega, by show _ < ((2000 : Nat) : Int); omega⟩ dX10_pass_47 (fun x312 ex312 bx312 => ?_)
          refine lv_goto (tgt := 74) hx hb dX10_pass_48 (by decide) ?_
          exact J74 ls H283 locsH296 (x312) (lv_sub hl [] rfl) hTH283 hSH296 mf285 g286 g287 g288 g289
      · have k298 := i_eq c297
        exfalso
        omega
    · subst hvH296
      refine W.eq (g2 := F0 m 25 ls [.int 0]) rfl ?_
      refine lv_if_ne (tgt := 30) hx hb dX10_pass_25 (by decide) (fun c313 => ?_) (fun c313 => ?_)
      · have k314 := i_ne c313
        exfalso
        omega
      · have k314 := i_eq c313
        exact J28 ls H283 locsH296 (lv_sub hl [] rfl) hTH283 hSH296 mf285 g286 g287 g288 g289

set_option maxHeartbeats 4000000 in
set_option maxRecDepth 100000 in
theorem a_X10_takes (l : Launch) (K : KE) (G : Nat → Option Nat) (H : Heap) {a0 : Nat} (x1 : Int32) (x2 : Int32) (x3 : Int32) (hT : TY K G H) (ga0 : G a0 = some 112) (hg_CG : CG (avw K H a0)) (hg_TU : TU (avw K H a0) (svw K H a0)) (hg_WD : WD (avw K H a0)) (hg_IM : IM (avw K H a0)) : MX l K yX10_takes cX10_takes 6 (some .int) 6 145 0 0 [.ref a0, .int x1, .int x2, .int x3] H (AE G [112, 114, 140, 139] H.size) (fun v H1 => ∃ (r : Int32), v = some (.int r) ∧ (CG (avw K H1 a0)) ∧ (TU (avw K H1 a0) (svw K H1 a0)) ∧ (WD (avw K H1 a0)) ∧ (IM (avw K H1 a0)) ∧ MF K H H1 a0 [0] ∧ TY K G H1) := by
  refine MX.of (by decide +kernel) (Nat.le_of_ble_eq_true rfl) ?_
  intro p e s m below meth c ls Q C hH hl hQ
  subst hH
  have C : CX p K s m _ meth c RX10 cX10_takes 6 (some .int) "takes" := C
  obtain ⟨hx, hb, hml, hown, hts, hKT, hr, hlocks, hnm⟩ := id C
  have hl : lv_has ls 6 [(0, .ref a0), (1, .int x1), (2, .int x2), (3, .int x3)] := hl
  have hS : va_S (AE G [112, 114, 140, 139] s.heap.size) s.heap s.heap [] := va_S.rf
  have n_m10000000 : ((-10000000) : Int32).toInt = -10000000 := rfl
  have n_0 : (0 : Int32).toInt = 0 := rfl
  have n_1 : (1 : Int32).toInt = 1 := rfl
  have n_16 : (16 : Int32).toInt = 16 := rfl
  have hap : ∀ x y, x < 74 → y < 74 → x ≠ y → K.1.2 10 x ≠ K.1.2 10 y := x_apart hKT hts inX10 tyX10 tyX10_ok nmX10 rfl
  have mf0 : MF K s.heap s.heap a0 [0] := fun _ _ _ => rfl
  have J37 : ∀ (ls490 : Array Slot) (H489 : Heap) (locsH489 : List Loc) , lv_has ls490 6 [] → TY K G H489 → va_S (AE G [112, 114, 140, 139] s.heap.size) s.heap H489 locsH489 → (MF K s.heap H489 a0 [0]) → (CG (avw K H489 a0)) → (TU (avw K H489 a0) (svw K H489 a0)) → (WD (avw K H489 a0)) → (IM (avw K H489 a0)) → W p l e ({ frames := 6, cells := 0, slots := 0, locals := 145 } : Room) s m (([.ref a0, .int x1, .int x2, .int x3] : List Value).toArray) below meth c H489 locsH489 0 0 Q (F0 m 37 ls490 []) := by
    intro ls490 H489 locsH489  hl491 hTH489 hSH489 mfy492 gy492_CG gy492_TU gy492_WD gy492_IM
    refine lv_ldcw (v := (-10000000)) hx hb hown (hts _ wK_X10_349) dX10_takes_37 ?_
    exact x_iret C hQ dX10_takes_40 hSH489 (by decide) (by decide) (⟨(-10000000), rfl, gy492_CG, gy492_TU, gy492_WD, gy492_IM, mfy492, hTH489⟩)
  refine lv_aload_n hx hb dX10_takes_0 rfl (lv_at hl 0 rfl) ?_
  refine lv_iconst (v := 0) hx hb dX10_takes_1 (by decide) ?_
  refine x_put C hT hS (ci := 10) (k := 0) (v := .int 0) (ty0 := tyX10) rfl inX10 tyX10_ok nmX10 (by decide) rfl wF_X10_167 ga0 rg_112 rfl rfl (okI (by have := i_rng (0 : Int32); omega) (by have := i_rng (0 : Int32); omega)) rfl rfl (AE_in ga0 (by decide)) dX10_takes_2 (fun H493 locsH493 hTH493 hSH493 wH493 => ?_)
  have mf494 : MF K s.heap H493 a0 [0] := MF.fld hap wH493 (by decide) (by decide) mf0
  have g495 : CG (avw K H493 a0) := CG.congr (fun k hk j => av_fld hT ga0 hap wH493 (by decide) (CG_ok 112 (by decide) k hk) (CG_ne 0 (by decide) k hk)) hg_CG
  have g496 : TU (avw K H493 a0) (svw K H493 a0) := TU.congr (fun k hk j => av_fld hT ga0 hap wH493 (by decide) (TU_ok 112 (by decide) k hk) (TU_ne 0 (by decide) k hk)) (fun k hk => sv_fld hap wH493 (by decide) (TU_slt k hk) (TU_sne 0 (by decide) k hk)) hg_TU
  have g497 : WD (avw K H493 a0) := WD.congr (fun k hk j => av_fld hT ga0 hap wH493 (by decide) (WD_ok 112 (by decide) k hk) (WD_ne 0 (by decide) k hk)) hg_WD
  have g498 : IM (avw K H493 a0) := IM.congr (fun k hk j => av_fld hT ga0 hap wH493 (by decide) (IM_ok 112 (by decide) k hk) (IM_ne 0 (by decide) k hk)) hg_IM
  have m499 := Wr.I wH493
  refine lv_aload_n hx hb dX10_takes_5 rfl (lv_at hl 0 rfl) ?_
  refine lv_iload_n hx hb dX10_takes_6 rfl (lv_at hl 1 rfl) ?_
  refine lv_iload_n hx hb dX10_takes_7 rfl (lv_at hl 2 rfl) ?_
  obtain ⟨x500, ex500⟩ : ∃ z : Int32, z = fI H493 a0 (K.1.2 10 1) := ⟨_, rfl⟩
  have bx500 := ty_fi (x := x500) (k := 1) ex500 hTH493 ga0 rg_112 rfl
  refine x_V (As := [.int x1, .int x2]) (rest := []) C (a_X10_isSlice l K G H493 (x1) (x2) (x500) hTH493 ga0 ex500) yo_X10_isSlice wM_X10_181 ⟨⟨by decide, by decide⟩, by decide, by decide⟩ (x_rv C hTH493 (ci := 10) rfl ga0 rg_112) rfl hl.1 rfl (Nat.le_of_ble_eq_true rfl) dX10_takes_8 hSH493 (AE_sub (fun _ _ => rfl) (by decide) hSH493.1) (fun vH501 H501 locsH501 pH501 zH501 kH501 hSH501 => ?_)
  obtain ⟨x502, hvH501, bx502, hrH501, hTH501⟩ := pH501
  subst hvH501
  have mf503 : MF K s.heap H501 a0 [0] := MF.eff (x_lt hTH493 kH501 ga0 (by decide)) mf494
  have g504 : CG (avw K H501 a0) := CG.congr (fun k hk j => av_eff hTH493 kH501 ga0 (by decide) (CG_eff [] (by decide) k hk)) g495
  have g505 : TU (avw K H501 a0) (svw K H501 a0) := TU.congr (fun k hk j => av_eff hTH493 kH501 ga0 (by decide) (TU_eff [] (by decide) k hk)) (fun k hk => sv_eff hTH493 kH501 ga0 (by decide)) g496
  have g506 : WD (avw K H501 a0) := WD.congr (fun k hk j => av_eff hTH493 kH501 ga0 (by decide) (WD_eff [] (by decide) k hk)) g497
  have g507 : IM (avw K H501 a0) := IM.congr (fun k hk j => av_eff hTH493 kH501 ga0 (by decide) (IM_eff [] (by decide) k hk)) g498
  have m508 := (fI_kept (x_lt hTH493 kH501 ga0 (by decide))).trans m499
  have m509 := (ex500).trans (fI_kept (x_lt hTH493 kH501 ga0 (by decide))).symm
  refine W.eq (g2 := F0 m 11 ls [.int x502]) rfl ?_
  refine lv_if_eq (tgt := 37) hx hb dX10_takes_11 (by decide) (fun c510 => ?_) (fun c510 => ?_)
  · have k511 := i_eq c510
    exact J37 ls H501 locsH501 (lv_sub hl [] rfl) hTH501 hSH501 mf503 g504 g505 g506 g507
  · have k511 := i_ne c510
    refine lv_aload_n hx hb dX10_takes_14 rfl (lv_at hl 0 rfl) ?_
    refine lv_iload_n hx hb dX10_takes_15 rfl (lv_at hl 3 rfl) ?_
    refine x_V (As := [.int x3]) (rest := []) C (c_X10_isTone l K G H501 (x3) hTH501 ga0) yo_X10_isTone wM_X10_331 ⟨⟨by decide, by decide⟩, by decide, by decide⟩ (x_rv C hTH501 (ci := 10) rfl ga0 rg_112) rfl hl.1 rfl (Nat.le_of_ble_eq_true rfl) dX10_takes_16 hSH501 (AE_sub (fun _ _ => rfl) (by decide) hSH501.1) (fun vH512 H512 locsH512 pH512 zH512 kH512 hSH512 => ?_)
    have hqH512 := pH512.1.symm
    subst hqH512
    rcases pH512.2 with ⟨hvH512, hcH512⟩ | ⟨hvH512, hcH512⟩
    · subst hvH512
      refine W.eq (g2 := F0 m 19 ls [.int 1]) rfl ?_
      refine lv_if_eq (tgt := 37) hx hb dX10_takes_19 (by decide) (fun c513 => ?_) (fun c513 => ?_)
      · have k514 := i_eq c513
        exfalso
        omega
      · have k514 := i_ne c513
        refine lv_aload_n hx hb dX10_takes_22 rfl (lv_at hl 0 rfl) ?_
        refine x_gr C hTH501 (ci := 10) (k := 5) rfl inX10 (by decide) wF_X10_17 ga0 rg_112 rfl dX10_takes_23 (fun q515 eq515 gq515 => ?_)
        refine lv_bipush (v := 16) hx hb dX10_takes_26 (by decide) ?_
        refine lv_iload_n hx hb dX10_takes_28 rfl (lv_at hl 1 rfl) ?_
        refine lv_imul hx hb dX10_takes_29 ?_
        refine lv_topi (fun x516 ex516 => ?_)
        have tx516 := i_mul ex516 (by rw [n_16]; omega)
        rw [n_16] at tx516
        refine lv_iload_n hx hb dX10_takes_30 rfl (lv_at hl 2 rfl) ?_
        refine lv_iadd hx hb dX10_takes_31 ?_
        refine lv_topi (fun x517 ex517 => ?_)
        have tx517 := i_add ex517 (by omega)
        refine x_ai C hTH501 gq515 rg_114 ⟨by omega, by show _ < ((160 : Nat) : Int); omega⟩ dX10_takes_32 (fun x518 ex518 bx518 => ?_)
        refine lv_iconst (v := 1) hx hb dX10_takes_33 (by decide) ?_
        refine lv_icmp_ne (tgt := 41) hx hb dX10_takes_34 (by decide) (fun c519 => ?_) (fun c519 => ?_)
        · have k520 := i_ne c519
          refine lv_aload_n hx hb dX10_takes_41 rfl (lv_at hl 0 rfl) ?_
          refine lv_iload_n hx hb dX10_takes_42 rfl (lv_at hl 1 rfl) ?_
          refine lv_iload_n hx hb dX10_takes_43 rfl (lv_at hl 3 rfl) ?_
          refine x_V (As := [.int x1, .int x3]) (rest := []) C (a_X10_toneNow l K G H501 (x1) (x3) hTH501 ga0 (by omega) g504) yo_X10_toneNow wM_X10_335 ⟨⟨by decide, by decide⟩, by decide, by decide⟩ (x_rv C hTH501 (ci := 10) rfl ga0 rg_112) rfl hl.1 rfl (Nat.le_of_ble_eq_true rfl) dX10_takes_44 hSH512 (AE_sub (fun _ _ => rfl) (by decide) hSH512.1) (fun vH521 H521 locsH521 pH521 zH521 kH521 hSH521 => ?_)
          obtain ⟨x522, hvH521, hTH521⟩ := pH521
          subst hvH521
          have mf523 : MF K s.heap H521 a0 [0] := MF.eff (x_lt hTH501 kH521 ga0 (by decide)) mf503
          have g524 : CG (avw K H521 a0) := CG.congr (fun k hk j => av_eff hTH501 kH521 ga0 (by decide) (CG_eff [140, 139] (by decide) k hk)) g504
          have g525 : TU (avw K H521 a0) (svw K H521 a0) := TU.congr (fun k hk j => av_eff hTH501 kH521 ga0 (by decide) (TU_eff [140, 139] (by decide) k hk)) (fun k hk => sv_eff hTH501 kH521 ga0 (by decide)) g505
          have g526 : WD (avw K H521 a0) := WD.congr (fun k hk j => av_eff hTH501 kH521 ga0 (by decide) (WD_eff [140, 139] (by decide) k hk)) g506
          have g527 : IM (avw K H521 a0) := IM.congr (fun k hk j => av_eff hTH501 kH521 ga0 (by decide) (IM_eff [140, 139] (by decide) k hk)) g507
          have m528 := (fI_kept (x_lt hTH501 kH521 ga0 (by decide))).trans m508
          have m529 := (m509).trans (fI_kept (x_lt hTH501 kH521 ga0 (by decide))).symm
          have m530 := (eq515).trans (fR_kept (x_lt hTH501 kH521 ga0 (by decide))).symm
          have m531 := (ex518).trans (fI_kept (x_lt hTH501 kH521 gq515 (by decide))).symm
          refine W.eq (g2 := F0 m 47 ls [.int x522]) rfl ?_
          refine lv_istore (lv' := [(4, .int x522), (0, .ref a0), (1, .int x1), (2, .int x2), (3, .int x3)]) hx hb dX10_takes_47 hl (by decide) rfl (fun ls532 hl533 => ?_)
          refine lv_aload_n hx hb dX10_takes_49 rfl (lv_at hl533 1 rfl) ?_
          refine x_gr C hTH521 (ci := 10) (k := 5) rfl inX10 (by decide) wF_X10_17 ga0 rg_112 rfl dX10_takes_50 (fun q534 eq534 gq534 => ?_)
          have uq534 : q515 = q534 := (m530).trans eq534.symm
          subst uq534
          refine lv_bipush (v := 16) hx hb dX10_takes_53 (by decide) ?_
          refine lv_iload_n hx hb dX10_takes_55 rfl (lv_at hl533 2 rfl) ?_
          refine lv_imul hx hb dX10_takes_56 ?_
          refine lv_topi (fun x535 ex535 => ?_)
          have tx535 := i_mul ex535 (by rw [n_16]; omega)
          rw [n_16] at tx535
          refine lv_iload_n hx hb dX10_takes_57 rfl (lv_at hl533 3 rfl) ?_
          refine lv_iadd hx hb dX10_takes_58 ?_
          refine lv_topi (fun x536 ex536 => ?_)
          have tx536 := i_add ex536 (by omega)
          refine lv_aload_n hx hb dX10_takes_59 rfl (lv_at hl533 1 rfl) ?_
          refine x_gr C hTH521 (ci := 10) (k := 5) rfl inX10 (by decide) wF_X10_17 ga0 rg_112 rfl dX10_takes_60 (fun q537 eq537 gq537 => ?_)
          have uq537 : q515 = q537 := (m530).trans eq537.symm
          subst uq537
          refine lv_bipush (v := 16) hx hb dX10_takes_63 (by decide) ?_
          refine lv_iload_n hx hb dX10_takes_65 rfl (lv_at hl533 2 rfl) ?_
          refine lv_imul hx hb dX10_takes_66 ?_
          refine lv_topi (fun x538 ex538 => ?_)
          have tx538 := i_mul ex538 (by rw [n_16]; omega)
          rw [n_16] at tx538
          refine lv_iload_n hx hb dX10_takes_67 rfl (lv_at hl533 3 rfl) ?_
          refine lv_iadd hx hb dX10_takes_68 ?_
          refine lv_topi (fun x539 ex539 => ?_)
          have tx539 := i_add ex539 (by omega)
          refine x_ai C hTH521 gq515 rg_114 ⟨by omega, by show _ < ((160 : Nat) : Int); omega⟩ dX10_takes_69 (fun x540 ex540 bx540 => ?_)
          refine lv_iconst (v := 1) hx hb dX10_takes_70 (by decide) ?_
          refine lv_isub hx hb dX10_takes_71 ?_
          refine lv_topi (fun x541 ex541 => ?_)
          refine x_iast C hTH521 hSH521 gq515 rg_114 (by omega) (by show _ < ((160 : Nat) : Int); omega) ⟨by have := i_rng x541; omega, by have := i_rng x541; omega⟩ (AE_in gq515 (by decide)) dX10_takes_72 (fun H542 locsH542 hTH542 hSH542 wH542 => ?_)
          have mf543 : MF K s.heap H542 a0 [0] := MF.arr wH542 (G_ne ga0 gq515 (by decide)) mf523
          have g544 : CG (avw K H542 a0) := CG.congr (fun k hk j => av_arr hTH521 ga0 wH542 gq515 (by decide) (CG_ok 114 (by decide) k hk)) g524
          have g545 : TU (avw K H542 a0) (svw K H542 a0) := TU.congr (fun k hk j => av_arr hTH521 ga0 wH542 gq515 (by decide) (TU_ok 114 (by decide) k hk)) (fun k hk => sv_arr ga0 wH542 gq515 (by decide)) g525
          have g546 : WD (avw K H542 a0) := WD.congr (fun k hk j => av_arr hTH521 ga0 wH542 gq515 (by decide) (WD_ok 114 (by decide) k hk)) g526
          have g547 : IM (avw K H542 a0) := IM.congr (fun k hk j => av_arr hTH521 ga0 wH542 gq515 (by decide) (IM_ok 114 (by decide) k hk)) g527
          have m548 := (Wr.neI wH542 (Or.inl (G_ne ga0 gq515 (by decide)))).trans m528
          have m549 := m529.trans (Wr.neI wH542 (Or.inl (G_ne ga0 gq515 (by decide)))).symm
          have m550 := m530.trans (Wr.neR wH542 (Or.inl (G_ne ga0 gq515 (by decide)))).symm
          have m553 := Wr.I wH542
          have m553 := m553.symm
          refine lv_aload_n hx hb dX10_takes_73 rfl (lv_at hl533 1 rfl) ?_
          refine lv_iload_n hx hb dX10_takes_74 rfl (lv_at hl533 2 rfl) ?_
          refine lv_iload_n hx hb dX10_takes_75 rfl (lv_at hl533 4 rfl) ?_
          refine x_V (As := [.int x1, .int x3]) (rest := []) C (a_X10_toneNow l K G H542 (x1) (x3) hTH542 ga0 (by omega) g544) yo_X10_toneNow wM_X10_335 ⟨⟨by decide, by decide⟩, by decide, by decide⟩ (x_rv C hTH542 (ci := 10) rfl ga0 rg_112) rfl hl533.1 rfl (Nat.le_of_ble_eq_true rfl) dX10_takes_76 hSH542 (AE_sub (fun _ _ => rfl) (by decide) hSH542.1) (fun vH554 H554 locsH554 pH554 zH554 kH554 hSH554 => ?_)
          obtain ⟨x555, hvH554, hTH554⟩ := pH554
          subst hvH554
          have mf556 : MF K s.heap H554 a0 [0] := MF.eff (x_lt hTH542 kH554 ga0 (by decide)) mf543
          have g557 : CG (avw K H554 a0) := CG.congr (fun k hk j => av_eff hTH542 kH554 ga0 (by decide) (CG_eff [140, 139] (by decide) k hk)) g544
          have g558 : TU (avw K H554 a0) (svw K H554 a0) := TU.congr (fun k hk j => av_eff hTH542 kH554 ga0 (by decide) (TU_eff [140, 139] (by decide) k hk)) (fun k hk => sv_eff hTH542 kH554 ga0 (by decide)) g545
          have g559 : WD (avw K H554 a0) := WD.congr (fun k hk j => av_eff hTH542 kH554 ga0 (by decide) (WD_eff [140, 139] (by decide) k hk)) g546
          have g560 : IM (avw K H554 a0) := IM.congr (fun k hk j => av_eff hTH542 kH554 ga0 (by decide) (IM_eff [140, 139] (by decide) k hk)) g547
          have m561 := (fI_kept (x_lt hTH542 kH554 ga0 (by decide))).trans m548
          have m562 := (m549).trans (fI_kept (x_lt hTH542 kH554 ga0 (by decide))).symm
          have m563 := (m550).trans (fR_kept (x_lt hTH542 kH554 ga0 (by decide))).symm
          have m564 := (m553).trans (fI_kept (x_lt hTH542 kH554 gq515 (by decide))).symm
          refine W.eq (g2 := F0 m 79 ls532 [.int x555]) rfl ?_
          refine lv_istore (lv' := [(5, .int x555), (4, .int x522), (0, .ref a0), (1, .int x1), (2, .int x2), (3, .int x3)]) hx hb dX10_takes_79 hl533 (by decide) rfl (fun ls565 hl566 => ?_)
          refine lv_aload_n hx hb dX10_takes_81 rfl (lv_at hl566 2 rfl) ?_
          refine x_gr C hTH554 (ci := 10) (k := 5) rfl inX10 (by decide) wF_X10_17 ga0 rg_112 rfl dX10_takes_82 (fun q567 eq567 gq567 => ?_)
          have uq567 : q515 = q567 := (m563).trans eq567.symm
          subst uq567
          refine lv_bipush (v := 16) hx hb dX10_takes_85 (by decide) ?_
          refine lv_iload_n hx hb dX10_takes_87 rfl (lv_at hl566 3 rfl) ?_
          refine lv_imul hx hb dX10_takes_88 ?_
          refine lv_topi (fun x568 ex568 => ?_)
          have tx568 := i_mul ex568 (by rw [n_16]; omega)
          rw [n_16] at tx568
          refine lv_iload_n hx hb dX10_takes_89 rfl (lv_at hl566 4 rfl) ?_
          refine lv_iadd hx hb dX10_takes_90 ?_
          refine lv_topi (fun x569 ex569 => ?_)
          have tx569 := i_add ex569 (by omega)
          refine lv_aload_n hx hb dX10_takes_91 rfl (lv_at hl566 2 rfl) ?_
          refine x_gr C hTH554 (ci := 10) (k := 5) rfl inX10 (by decide) wF_X10_17 ga0 rg_112 rfl dX10_takes_92 (fun q570 eq570 gq570 => ?_)
          have uq570 : q515 = q570 := (m563).trans eq570.symm
          subst uq570
          refine lv_bipush (v := 16) hx hb dX10_takes_95 (by decide) ?_
          refine lv_iload_n hx hb dX10_takes_97 rfl (lv_at hl566 3 rfl) ?_
          refine lv_imul hx hb dX10_takes_98 ?_
          refine lv_topi (fun x571 ex571 => ?_)
          have tx571 := i_mul ex571 (by rw [n_16]; omega)
          rw [n_16] at tx571
          refine lv_iload_n hx hb dX10_takes_99 rfl (lv_at hl566 4 rfl) ?_
          refine lv_iadd hx hb dX10_takes_100 ?_
          refine lv_topi (fun x572 ex572 => ?_)
          have tx572 := i_add ex572 (by omega)
          refine x_ai C hTH554 gq515 rg_114 ⟨by omega, by show _ < ((160 : Nat) : Int); omega⟩ dX10_takes_101 (fun x573 ex573 bx573 => ?_)
          refine lv_iconst (v := 1) hx hb dX10_takes_102 (by decide) ?_
          refine lv_iadd hx hb dX10_takes_103 ?_
          refine lv_topi (fun x574 ex574 => ?_)
          refine x_iast C hTH554 hSH554 gq515 rg_114 (by omega) (by show _ < ((160 : Nat) : Int); omega) ⟨by have := i_rng x574; omega, by have := i_rng x574; omega⟩ (AE_in gq515 (by decide)) dX10_takes_104 (fun H575 locsH575 hTH575 hSH575 wH575 => ?_)
          have mf576 : MF K s.heap H575 a0 [0] := MF.arr wH575 (G_ne ga0 gq515 (by decide)) mf556
          have g577 : CG (avw K H575 a0) := CG.congr (fun k hk j => av_arr hTH554 ga0 wH575 gq515 (by decide) (CG_ok 114 (by decide) k hk)) g557
          have g578 : TU (avw K H575 a0) (svw K H575 a0) := TU.congr (fun k hk j => av_arr hTH554 ga0 wH575 gq515 (by decide) (TU_ok 114 (by decide) k hk)) (fun k hk => sv_arr ga0 wH575 gq515 (by decide)) g558
          have g579 : WD (avw K H575 a0) := WD.congr (fun k hk j => av_arr hTH554 ga0 wH575 gq515 (by decide) (WD_ok 114 (by decide) k hk)) g559
          have g580 : IM (avw K H575 a0) := IM.congr (fun k hk j => av_arr hTH554 ga0 wH575 gq515 (by decide) (IM_ok 114 (by decide) k hk)) g560
          have m581 := (Wr.neI wH575 (Or.inl (G_ne ga0 gq515 (by decide)))).trans m561
          have m582 := m562.trans (Wr.neI wH575 (Or.inl (G_ne ga0 gq515 (by decide)))).symm
          have m583 := m563.trans (Wr.neR wH575 (Or.inl (G_ne ga0 gq515 (by decide)))).symm
          have m586 := Wr.I wH575
          have m586 := m586.symm
          refine lv_iload hx hb dX10_takes_105 (lv_at hl566 1 rfl) ?_
          refine lv_iload hx hb dX10_takes_107 (lv_at hl566 0 rfl) ?_
          refine lv_isub hx hb dX10_takes_109 ?_
          refine lv_topi (fun x587 ex587 => ?_)
          exact x_iret C hQ dX10_takes_110 hSH575 (by decide) (by decide) (⟨x587, rfl, g577, g578, g579, g580, mf576, hTH575⟩)
        · have k520 := i_eq c519
          exact J37 ls H501 locsH512 (lv_sub hl [] rfl) hTH501 hSH512 mf503 g504 g505 g506 g507
    · subst hvH512
      refine W.eq (g2 := F0 m 19 ls [.int 0]) rfl ?_
      refine lv_if_eq (tgt := 37) hx hb dX10_takes_19 (by decide) (fun c588 => ?_) (fun c588 => ?_)
      · have k589 := i_eq c588
        exact J37 ls H501 locsH512 (lv_sub hl [] rfl) hTH501 hSH512 mf503 g504 g505 g506 g507
      · have k589 := i_ne c588
        exfalso
        omega

set_option maxHeartbeats 4000000 in
set_option maxRecDepth 100000 in
theorem a_X10_job (l : Launch) (K : KE) (G : Nat → Option Nat) (H : Heap) {a0 : Nat} (x1 : Int32) (x2 : Int32) (hT : TY K G H) (ga0 : G a0 = some 112) (hg_CG : CG (avw K H a0)) (hg_TU : TU (avw K H a0) (svw K H a0)) (hg_WD : WD (avw K H a0)) (hg_IM : IM (avw K H a0)) : MX l K yX10_job cX10_job 6 (some .int) 9 216 0 0 [.ref a0, .int x1, .int x2] H (AE G [112, 114, 120, 121, 119, 122, 140, 139, 117] H.size) (fun v H1 => ∃ (r : Int32), v = some (.int r) ∧ (CG (avw K H1 a0)) ∧ (TU (avw K H1 a0) (svw K H1 a0)) ∧ (WD (avw K H1 a0)) ∧ (IM (avw K H1 a0)) ∧ MF K H H1 a0 [0] ∧ TY K G H1) := by
  refine MX.of (by decide +kernel) (Nat.le_of_ble_eq_true rfl) ?_
  intro p e s m below meth c ls Q C hH hl hQ
  subst hH
  have C : CX p K s m _ meth c RX10 cX10_job 6 (some .int) "job" := C
  obtain ⟨hx, hb, hml, hown, hts, hKT, hr, hlocks, hnm⟩ := id C
  have hl : lv_has ls 6 [(0, .ref a0), (1, .int x1), (2, .int x2)] := hl
  have hS : va_S (AE G [112, 114, 120, 121, 119, 122, 140, 139, 117] s.heap.size) s.heap s.heap [] := va_S.rf
  have n_m1 : ((-1) : Int32).toInt = -1 := rfl
  have n_0 : (0 : Int32).toInt = 0 := rfl
  have n_1 : (1 : Int32).toInt = 1 := rfl
  have n_2 : (2 : Int32).toInt = 2 := rfl
  have n_3 : (3 : Int32).toInt = 3 := rfl
  have n_16 : (16 : Int32).toInt = 16 := rfl
  have hap : ∀ x y, x < 74 → y < 74 → x ≠ y → K.1.2 10 x ≠ K.1.2 10 y := x_apart hKT hts inX10 tyX10 tyX10_ok nmX10 rfl
  have mf0 : MF K s.heap s.heap a0 [0] := fun _ _ _ => rfl
  have J23 : ∀ (ls592 : Array Slot) (H591 : Heap) (locsH591 : List Loc) , lv_has ls592 6 [] → TY K G H591 → va_S (AE G [112, 114, 120, 121, 119, 122, 140, 139, 117] s.heap.size) s.heap H591 locsH591 → (MF K s.heap H591 a0 [0]) → (CG (avw K H591 a0)) → (TU (avw K H591 a0) (svw K H591 a0)) → (WD (avw K H591 a0)) → (IM (avw K H591 a0)) → W p l e ({ frames := 9, cells := 0, slots := 0, locals := 216 } : Room) s m (([.ref a0, .int x1, .int x2] : List Value).toArray) below meth c H591 locsH591 0 0 Q (F0 m 23 ls592 []) := by
    intro ls592 H591 locsH591  hl593 hTH591 hSH591 mfy594 gy594_CG gy594_TU gy594_WD gy594_IM
    refine lv_iconst (v := (-1)) hx hb dX10_job_23 (by decide) ?_
    exact x_iret C hQ dX10_job_24 hSH591 (by decide) (by decide) (⟨(-1), rfl, gy594_CG, gy594_TU, gy594_WD, gy594_IM, mfy594, hTH591⟩)
  have J43 : ∀ (nf : Nat) (ls596 : Array Slot) (H595 : Heap) (locsH595 : List Loc) (x599 : Int32) (x600 : Int32) (x601 : Int32), lv_has ls596 6 [(0, .ref a0), (2, .int x2), (3, .int x599), (4, .int x600), (5, .int x601)] → TY K G H595 → va_S (AE G [112, 114, 120, 121, 119, 122, 140, 139, 117] s.heap.size) s.heap H595 locsH595 → (0 ≤ x2.toInt ∧ x2.toInt ≤ 9) → (2 ≤ x599.toInt ∧ x599.toInt ≤ 5) → (0 ≤ x600.toInt ∧ x600.toInt ≤ 200) → (32 ≤ x601.toInt ∧ x601.toInt ≤ 96) → (MF K s.heap H595 a0 [0]) → (CG (avw K H595 a0)) → (TU (avw K H595 a0) (svw K H595 a0)) → (WD (avw K H595 a0)) → (IM (avw K H595 a0)) → (96 - x601.toInt < (nf : Int)) → (16 * x599.toInt ≤ x601.toInt) → W p l e ({ frames := 9, cells := 0, slots := 0, locals := 216 } : Room) s m (([.ref a0, .int x1, .int x2] : List Value).toArray) below meth c H595 locsH595 0 0 Q (F0 m 43 ls596 []) := by
    intro nf
    induction nf with
    | zero =>
      intro ls596 H595 locsH595 x599 x600 x601 hl597 hTH595 hSH595 b598 bx599 bx600 bx601 mfy602 gy602_CG gy602_TU gy602_WD gy602_IM hm43 iv43
      exfalso
      omega
    | succ nf ih43 =>
      intro ls596 H595 locsH595 x599 x600 x601 hl597 hTH595 hSH595 b598 bx599 bx600 bx601 mfy602 gy602_CG gy602_TU gy602_WD gy602_IM hm43 iv43
      have J81 : ∀ (ls604 : Array Slot) (H603 : Heap) (locsH603 : List Loc) , lv_has ls604 6 [(0, .ref a0), (2, .int x2), (3, .int x599), (4, .int x600), (5, .int x601)] → TY K G H603 → va_S (AE G [112, 114, 120, 121, 119, 122, 140, 139, 117] s.heap.size) s.heap H603 locsH603 → (32 ≤ x601.toInt ∧ x601.toInt ≤ 95) → (MF K s.heap H603 a0 [0]) → (CG (avw K H603 a0)) → (TU (avw K H603 a0) (svw K H603 a0)) → (WD (avw K H603 a0)) → (IM (avw K H603 a0)) → (16 * x599.toInt ≤ x601.toInt) → W p l e ({ frames := 9, cells := 0, slots := 0, locals := 216 } : Room) s m (([.ref a0, .int x1, .int x2] : List Value).toArray) below meth c H603 locsH603 0 0 Q (F0 m 81 ls604 []) := by
        intro ls604 H603 locsH603  hl605 hTH603 hSH603 b606 mfy607 gy607_CG gy607_TU gy607_WD gy607_IM iv81
        obtain ⟨x608, ex608⟩ : ∃ y : Int32, y = x601 + 1 := ⟨_, rfl⟩
        have tx608 := i_add ex608 (by omega)
        refine lv_iinc (v := x608) (lv' := [(5, .int x608), (0, .ref a0), (2, .int x2), (3, .int x599), (4, .int x600)]) hx hb dX10_job_81 hl605 (k := 4) rfl (by rw [ex608]; rfl) (by decide) rfl (fun ls609 hl610 => ?_)
        refine lv_goto (tgt := 43) hx hb dX10_job_84 (by decide) ?_
        exact ih43 ls609 H603 locsH603 (x599) (x600) (x608) (lv_sub hl610 [1, 2, 3, 4, 0] rfl) hTH603 hSH603 (by have := i_rng x2; omega) (by have := i_rng x599; omega) (by have := i_rng x600; omega) (by have := i_rng x608; omega) mfy607 gy607_CG gy607_TU gy607_WD gy607_IM (by omega) (by omega)
      refine lv_iload hx hb dX10_job_43 (lv_at hl597 4 rfl) ?_
      refine lv_bipush (v := 16) hx hb dX10_job_45 (by decide) ?_
      refine lv_iload_n hx hb dX10_job_47 rfl (lv_at hl597 2 rfl) ?_
      refine lv_imul hx hb dX10_job_48 ?_
      refine lv_topi (fun x611 ex611 => ?_)
      have tx611 := i_mul ex611 (by rw [n_16]; omega)
      rw [n_16] at tx611
      refine lv_aload_n hx hb dX10_job_49 rfl (lv_at hl597 0 rfl) ?_
      refine x_gr C hTH595 (ci := 10) (k := 24) rfl inX10 (by decide) wF_X10_59 ga0 rg_112 rfl dX10_job_50 (fun q612 eq612 gq612 => ?_)
      refine lv_iload_n hx hb dX10_job_53 rfl (lv_at hl597 2 rfl) ?_
      refine x_ai C hTH595 gq612 rg_128 ⟨by omega, by show _ < ((7 : Nat) : Int); omega⟩ dX10_job_54 (fun x613 ex613 bx613 => ?_)
      refine lv_iadd hx hb dX10_job_55 ?_
      refine lv_topi (fun x614 ex614 => ?_)
      have tx614 := i_add ex614 (by omega)
      refine lv_icmp_ge (tgt := 87) hx hb dX10_job_56 (by decide) (fun c615 => ?_) (fun c615 => ?_)
      · have k616 := i_le c615
        refine lv_aload_n hx hb dX10_job_87 rfl (lv_at hl597 0 rfl) ?_
        refine x_gr C hTH595 (ci := 10) (k := 10) rfl inX10 (by decide) wF_X10_32 ga0 rg_112 rfl dX10_job_88 (fun q617 eq617 gq617 => ?_)
        refine lv_iload_n hx hb dX10_job_91 rfl (lv_at hl597 1 rfl) ?_
        refine x_ai C hTH595 gq617 rg_119 ⟨by omega, by show _ < ((10 : Nat) : Int); omega⟩ dX10_job_92 (fun x618 ex618 bx618 => ?_)
        refine lv_iload hx hb dX10_job_93 (lv_at hl597 3 rfl) ?_
        refine lv_isub hx hb dX10_job_95 ?_
        refine lv_topi (fun x619 ex619 => ?_)
        have tx619 := i_sub ex619 (by omega)
        exact x_iret C hQ dX10_job_96 hSH595 (by decide) (by decide) (⟨x619, rfl, gy602_CG, gy602_TU, gy602_WD, gy602_IM, mfy602, hTH595⟩)
      · have k616 := i_nle c615
        refine lv_aload_n hx hb dX10_job_59 rfl (lv_at hl597 0 rfl) ?_
        refine lv_iload_n hx hb dX10_job_60 rfl (lv_at hl597 1 rfl) ?_
        refine x_V (As := [.int x2]) (rest := []) C (a_X10_asksJob l K G H595 (x2) hTH595 ga0 (by omega) gy602_CG) yo_X10_asksJob wM_X10_350 ⟨⟨by decide, by decide⟩, by decide, by decide⟩ (x_rv C hTH595 (ci := 10) rfl ga0 rg_112) rfl hl597.1 rfl (Nat.le_of_ble_eq_true rfl) dX10_job_61 hSH595 (AE_sub (fun _ _ => rfl) (by decide) hSH595.1) (fun vH620 H620 locsH620 pH620 zH620 kH620 hSH620 => ?_)
        obtain ⟨hvH620, hTH620⟩ := pH620
        subst hvH620
        have mf621 : MF K s.heap H620 a0 [0] := MF.eff (x_lt hTH595 kH620 ga0 (by decide)) mfy602
        have g622 : CG (avw K H620 a0) := CG.congr (fun k hk j => av_eff hTH595 kH620 ga0 (by decide) (CG_eff [140, 139] (by decide) k hk)) gy602_CG
        have g623 : TU (avw K H620 a0) (svw K H620 a0) := TU.congr (fun k hk j => av_eff hTH595 kH620 ga0 (by decide) (TU_eff [140, 139] (by decide) k hk)) (fun k hk => sv_eff hTH595 kH620 ga0 (by decide)) gy602_TU
        have g624 : WD (avw K H620 a0) := WD.congr (fun k hk j => av_eff hTH595 kH620 ga0 (by decide) (WD_eff [140, 139] (by decide) k hk)) gy602_WD
        have g625 : IM (avw K H620 a0) := IM.congr (fun k hk j => av_eff hTH595 kH620 ga0 (by decide) (IM_eff [140, 139] (by decide) k hk)) gy602_IM
        have m626 := (eq612).trans (fR_kept (x_lt hTH595 kH620 ga0 (by decide))).symm
        have m627 := (ex613).trans (fI_kept (x_lt hTH595 kH620 gq612 (by decide))).symm
        refine W.eq (g2 := F0 m 64 ls596 []) rfl ?_
        refine lv_aload_n hx hb dX10_job_64 rfl (lv_at hl597 0 rfl) ?_
        refine lv_iload_n hx hb dX10_job_65 rfl (lv_at hl597 2 rfl) ?_
        refine lv_iload hx hb dX10_job_66 (lv_at hl597 4 rfl) ?_
        refine x_V (As := [.int x599, .int x601]) (rest := []) C (a_X10_isSo l K G H620 (x599) (x601) (x613) hTH620 ga0 (by omega) (by omega) gq612 m626 m627 g622 (by omega)) yo_X10_isSo wM_X10_305 ⟨⟨by decide, by decide⟩, by decide, by decide⟩ (x_rv C hTH620 (ci := 10) rfl ga0 rg_112) rfl hl597.1 rfl (Nat.le_of_ble_eq_true rfl) dX10_job_68 hSH620 (AE_sub (fun _ _ => rfl) (by decide) hSH620.1) (fun vH628 H628 locsH628 pH628 zH628 kH628 hSH628 => ?_)
        obtain ⟨x629, hvH628, bx629, hTH628⟩ := pH628
        subst hvH628
        have mf630 : MF K s.heap H628 a0 [0] := MF.eff (x_lt hTH620 kH628 ga0 (by decide)) mf621
        have g631 : CG (avw K H628 a0) := CG.congr (fun k hk j => av_eff hTH620 kH628 ga0 (by decide) (CG_eff [140] (by decide) k hk)) g622
        have g632 : TU (avw K H628 a0) (svw K H628 a0) := TU.congr (fun k hk j => av_eff hTH620 kH628 ga0 (by decide) (TU_eff [140] (by decide) k hk)) (fun k hk => sv_eff hTH620 kH628 ga0 (by decide)) g623
        have g633 : WD (avw K H628 a0) := WD.congr (fun k hk j => av_eff hTH620 kH628 ga0 (by decide) (WD_eff [140] (by decide) k hk)) g624
        have g634 : IM (avw K H628 a0) := IM.congr (fun k hk j => av_eff hTH620 kH628 ga0 (by decide) (IM_eff [140] (by decide) k hk)) g625
        have m635 := (m626).trans (fR_kept (x_lt hTH620 kH628 ga0 (by decide))).symm
        have m636 := (m627).trans (fI_kept (x_lt hTH620 kH628 gq612 (by decide))).symm
        refine W.eq (g2 := F0 m 71 ls596 [.int x629]) rfl ?_
        refine lv_if_eq (tgt := 81) hx hb dX10_job_71 (by decide) (fun c637 => ?_) (fun c637 => ?_)
        · have k638 := i_eq c637
          exact J81 ls596 H628 locsH628 (lv_sub hl597 [0, 1, 2, 3, 4] rfl) hTH628 hSH628 (by have := i_rng x601; omega) mf630 g631 g632 g633 g634 (by omega)
        · have k638 := i_ne c637
          refine lv_aload_n hx hb dX10_job_74 rfl (lv_at hl597 0 rfl) ?_
          refine lv_iload_n hx hb dX10_job_75 rfl (lv_at hl597 1 rfl) ?_
          refine lv_iload hx hb dX10_job_76 (lv_at hl597 4 rfl) ?_
          refine x_V (As := [.int x2, .int x601]) (rest := []) C (a_X10_doesLine l K G H628 (x2) (x601) hTH628 ga0 (by omega) (by omega) g631) yo_X10_doesLine wM_X10_353 ⟨⟨by decide, by decide⟩, by decide, by decide⟩ (x_rv C hTH628 (ci := 10) rfl ga0 rg_112) rfl hl597.1 rfl (Nat.le_of_ble_eq_true rfl) dX10_job_78 hSH628 (AE_sub (fun _ _ => rfl) (by decide) hSH628.1) (fun vH639 H639 locsH639 pH639 zH639 kH639 hSH639 => ?_)
          obtain ⟨hvH639, hTH639⟩ := pH639
          subst hvH639
          have mf640 : MF K s.heap H639 a0 [0] := MF.eff (x_lt hTH628 kH639 ga0 (by decide)) mf630
          have g641 : CG (avw K H639 a0) := CG.congr (fun k hk j => av_eff hTH628 kH639 ga0 (by decide) (CG_eff [114, 120, 121, 119, 122, 140, 139, 117] (by decide) k hk)) g631
          have g642 : TU (avw K H639 a0) (svw K H639 a0) := TU.congr (fun k hk j => av_eff hTH628 kH639 ga0 (by decide) (TU_eff [114, 120, 121, 119, 122, 140, 139, 117] (by decide) k hk)) (fun k hk => sv_eff hTH628 kH639 ga0 (by decide)) g632
          have g643 : WD (avw K H639 a0) := WD.congr (fun k hk j => av_eff hTH628 kH639 ga0 (by decide) (WD_eff [114, 120, 121, 119, 122, 140, 139, 117] (by decide) k hk)) g633
          have g644 : IM (avw K H639 a0) := IM.congr (fun k hk j => av_eff hTH628 kH639 ga0 (by decide) (IM_eff [114, 120, 121, 119, 122, 140, 139, 117] (by decide) k hk)) g634
          have m645 := (m635).trans (fR_kept (x_lt hTH628 kH639 ga0 (by decide))).symm
          have m646 := (m636).trans (fI_kept (x_lt hTH628 kH639 gq612 (by decide))).symm
          refine W.eq (g2 := F0 m 81 ls596 []) rfl ?_
          exact J81 ls596 H639 locsH639 (lv_sub hl597 [0, 1, 2, 3, 4] rfl) hTH639 hSH639 (by have := i_rng x601; omega) mf640 g641 g642 g643 g644 (by omega)
  refine lv_aload_n hx hb dX10_job_0 rfl (lv_at hl 0 rfl) ?_
  refine lv_iconst (v := 0) hx hb dX10_job_1 (by decide) ?_
  refine x_put C hT hS (ci := 10) (k := 0) (v := .int 0) (ty0 := tyX10) rfl inX10 tyX10_ok nmX10 (by decide) rfl wF_X10_167 ga0 rg_112 rfl rfl (okI (by have := i_rng (0 : Int32); omega) (by have := i_rng (0 : Int32); omega)) rfl rfl (AE_in ga0 (by decide)) dX10_job_2 (fun H647 locsH647 hTH647 hSH647 wH647 => ?_)
  have mf648 : MF K s.heap H647 a0 [0] := MF.fld hap wH647 (by decide) (by decide) mf0
  have g649 : CG (avw K H647 a0) := CG.congr (fun k hk j => av_fld hT ga0 hap wH647 (by decide) (CG_ok 112 (by decide) k hk) (CG_ne 0 (by decide) k hk)) hg_CG
  have g650 : TU (avw K H647 a0) (svw K H647 a0) := TU.congr (fun k hk j => av_fld hT ga0 hap wH647 (by decide) (TU_ok 112 (by decide) k hk) (TU_ne 0 (by decide) k hk)) (fun k hk => sv_fld hap wH647 (by decide) (TU_slt k hk) (TU_sne 0 (by decide) k hk)) hg_TU
  have g651 : WD (avw K H647 a0) := WD.congr (fun k hk j => av_fld hT ga0 hap wH647 (by decide) (WD_ok 112 (by decide) k hk) (WD_ne 0 (by decide) k hk)) hg_WD
  have g652 : IM (avw K H647 a0) := IM.congr (fun k hk j => av_fld hT ga0 hap wH647 (by decide) (IM_ok 112 (by decide) k hk) (IM_ne 0 (by decide) k hk)) hg_IM
  have m653 := Wr.I wH647
  refine lv_aload_n hx hb dX10_job_5 rfl (lv_at hl 0 rfl) ?_
  refine lv_iload_n hx hb dX10_job_6 rfl (lv_at hl 1 rfl) ?_
  refine lv_iconst (v := 0) hx hb dX10_job_7 (by decide) ?_
  refine lv_iconst (v := 3) hx hb dX10_job_8 (by decide) ?_
  refine x_V (As := [.int x1, .int 0, .int 3]) (rest := []) C (c_X10_isIn l K G H647 (x1) (0) (3) hTH647 ga0) yo_X10_isIn wM_X10_177 ⟨⟨by decide, by decide⟩, by decide, by decide⟩ (x_rv C hTH647 (ci := 10) rfl ga0 rg_112) rfl hl.1 rfl (Nat.le_of_ble_eq_true rfl) dX10_job_9 hSH647 (AE_sub (fun _ _ => rfl) (by decide) hSH647.1) (fun vH654 H654 locsH654 pH654 zH654 kH654 hSH654 => ?_)
  have hqH654 := pH654.1.symm
  subst hqH654
  rcases pH654.2 with ⟨hvH654, hcH654⟩ | ⟨hvH654, hcH654⟩
  · subst hvH654
    refine W.eq (g2 := F0 m 12 ls [.int 1]) rfl ?_
    refine lv_if_eq (tgt := 23) hx hb dX10_job_12 (by decide) (fun c655 => ?_) (fun c655 => ?_)
    · have k656 := i_eq c655
      exfalso
      omega
    · have k656 := i_ne c655
      refine lv_aload_n hx hb dX10_job_15 rfl (lv_at hl 0 rfl) ?_
      refine lv_iload_n hx hb dX10_job_16 rfl (lv_at hl 2 rfl) ?_
      obtain ⟨x657, ex657⟩ : ∃ z : Int32, z = fI H647 a0 (K.1.2 10 1) := ⟨_, rfl⟩
      have bx657 := ty_fi (x := x657) (k := 1) ex657 hTH647 ga0 rg_112 rfl
      refine x_V (As := [.int x2]) (rest := []) C (a_X10_isBar l K G H647 (x2) (x657) hTH647 ga0 ex657) yo_X10_isBar wM_X10_173 ⟨⟨by decide, by decide⟩, by decide, by decide⟩ (x_rv C hTH647 (ci := 10) rfl ga0 rg_112) rfl hl.1 rfl (Nat.le_of_ble_eq_true rfl) dX10_job_17 hSH654 (AE_sub (fun _ _ => rfl) (by decide) hSH654.1) (fun vH658 H658 locsH658 pH658 zH658 kH658 hSH658 => ?_)
      obtain ⟨x659, hvH658, bx659, hrH658, hTH658⟩ := pH658
      subst hvH658
      have mf660 : MF K s.heap H658 a0 [0] := MF.eff (x_lt hTH647 kH658 ga0 (by decide)) mf648
      have g661 : CG (avw K H658 a0) := CG.congr (fun k hk j => av_eff hTH647 kH658 ga0 (by decide) (CG_eff [] (by decide) k hk)) g649
      have g662 : TU (avw K H658 a0) (svw K H658 a0) := TU.congr (fun k hk j => av_eff hTH647 kH658 ga0 (by decide) (TU_eff [] (by decide) k hk)) (fun k hk => sv_eff hTH647 kH658 ga0 (by decide)) g650
      have g663 : WD (avw K H658 a0) := WD.congr (fun k hk j => av_eff hTH647 kH658 ga0 (by decide) (WD_eff [] (by decide) k hk)) g651
      have g664 : IM (avw K H658 a0) := IM.congr (fun k hk j => av_eff hTH647 kH658 ga0 (by decide) (IM_eff [] (by decide) k hk)) g652
      have m665 := (fI_kept (x_lt hTH647 kH658 ga0 (by decide))).trans m653
      have m666 := (ex657).trans (fI_kept (x_lt hTH647 kH658 ga0 (by decide))).symm
      refine W.eq (g2 := F0 m 20 ls [.int x659]) rfl ?_
      refine lv_if_ne (tgt := 25) hx hb dX10_job_20 (by decide) (fun c667 => ?_) (fun c667 => ?_)
      · have k668 := i_ne c667
        refine lv_iconst (v := 2) hx hb dX10_job_25 (by decide) ?_
        refine lv_iload_n hx hb dX10_job_26 rfl (lv_at hl 1 rfl) ?_
        refine lv_iadd hx hb dX10_job_27 ?_
        refine lv_topi (fun x669 ex669 => ?_)
        have tx669 := i_add ex669 (by omega)
        refine lv_istore_n (lv' := [(3, .int x669), (0, .ref a0), (1, .int x1), (2, .int x2)]) hx hb dX10_job_28 rfl hl (by decide) rfl (fun ls670 hl671 => ?_)
        refine lv_aload_n hx hb dX10_job_29 rfl (lv_at hl671 1 rfl) ?_
        refine x_gr C hTH658 (ci := 10) (k := 10) rfl inX10 (by decide) wF_X10_32 ga0 rg_112 rfl dX10_job_30 (fun q672 eq672 gq672 => ?_)
        refine lv_iload_n hx hb dX10_job_33 rfl (lv_at hl671 3 rfl) ?_
        refine x_ai C hTH658 gq672 rg_119 ⟨by omega, by show _ < ((10 : Nat) : Int); omega⟩ dX10_job_34 (fun x673 ex673 bx673 => ?_)
        refine lv_istore (lv' := [(4, .int x673), (3, .int x669), (0, .ref a0), (1, .int x1), (2, .int x2)]) hx hb dX10_job_35 hl671 (by decide) rfl (fun ls674 hl675 => ?_)
        refine lv_bipush (v := 16) hx hb dX10_job_37 (by decide) ?_
        refine lv_iload_n hx hb dX10_job_39 rfl (lv_at hl675 1 rfl) ?_
        refine lv_imul hx hb dX10_job_40 ?_
        refine lv_topi (fun x676 ex676 => ?_)
        have tx676 := i_mul ex676 (by rw [n_16]; omega)
        rw [n_16] at tx676
        refine lv_istore (lv' := [(5, .int x676), (4, .int x673), (3, .int x669), (0, .ref a0), (1, .int x1), (2, .int x2)]) hx hb dX10_job_41 hl675 (by decide) rfl (fun ls677 hl678 => ?_)
        exact J43 ((96 - x676.toInt).toNat + 1) ls677 H658 locsH658 (x669) (x673) (x676) (lv_sub hl678 [3, 5, 2, 1, 0] rfl) hTH658 hSH658 (by have := i_rng x2; omega) (by have := i_rng x669; omega) (by have := i_rng x673; omega) (by have := i_rng x676; omega) mf660 g661 g662 g663 g664 (by omega) (by omega)
      · have k668 := i_eq c667
        exact J23 ls H658 locsH658 (lv_sub hl [] rfl) hTH658 hSH658 mf660 g661 g662 g663 g664
  · subst hvH654
    refine W.eq (g2 := F0 m 12 ls [.int 0]) rfl ?_
    refine lv_if_eq (tgt := 23) hx hb dX10_job_12 (by decide) (fun c679 => ?_) (fun c679 => ?_)
    · have k680 := i_eq c679
      exact J23 ls H647 locsH654 (lv_sub hl [] rfl) hTH647 hSH654 mf648 g649 g650 g651 g652
    · have k680 := i_ne c679
      exfalso
      omega

set_option maxHeartbeats 4000000 in
set_option maxRecDepth 100000 in
theorem a_X10_fewest (l : Launch) (K : KE) (G : Nat → Option Nat) (H : Heap) {a0 : Nat} (x1 : Int32) (x2 : Int32) (hT : TY K G H) (ga0 : G a0 = some 112) (hg_CG : CG (avw K H a0)) (hg_TU : TU (avw K H a0) (svw K H a0)) (hg_WD : WD (avw K H a0)) (hg_IM : IM (avw K H a0)) : MX l K yX10_fewest cX10_fewest 4 (some .int) 6 145 0 0 [.ref a0, .int x1, .int x2] H (AE G [112, 114, 143, 144, 145, 141, 140, 139] H.size) (fun v H1 => ∃ (r : Int32), v = some (.int r) ∧ (CG (avw K H1 a0)) ∧ (TU (avw K H1 a0) (svw K H1 a0)) ∧ (WD (avw K H1 a0)) ∧ (IM (avw K H1 a0)) ∧ MF K H H1 a0 [0] ∧ TY K G H1) := by
  refine MX.of (by decide +kernel) (Nat.le_of_ble_eq_true rfl) ?_
  intro p e s m below meth c ls Q C hH hl hQ
  subst hH
  have C : CX p K s m _ meth c RX10 cX10_fewest 4 (some .int) "fewest" := C
  obtain ⟨hx, hb, hml, hown, hts, hKT, hr, hlocks, hnm⟩ := id C
  have hl : lv_has ls 4 [(0, .ref a0), (1, .int x1), (2, .int x2)] := hl
  have hS : va_S (AE G [112, 114, 143, 144, 145, 141, 140, 139] s.heap.size) s.heap s.heap [] := va_S.rf
  have n_m1 : ((-1) : Int32).toInt = -1 := rfl
  have n_0 : (0 : Int32).toInt = 0 := rfl
  have n_1 : (1 : Int32).toInt = 1 := rfl
  have n_5 : (5 : Int32).toInt = 5 := rfl
  have n_8 : (8 : Int32).toInt = 8 := rfl
  have hap : ∀ x y, x < 74 → y < 74 → x ≠ y → K.1.2 10 x ≠ K.1.2 10 y := x_apart hKT hts inX10 tyX10 tyX10_ok nmX10 rfl
  have mf0 : MF K s.heap s.heap a0 [0] := fun _ _ _ => rfl
  have J34 : ∀ (ls319 : Array Slot) (H318 : Heap) (locsH318 : List Loc) , lv_has ls319 4 [] → TY K G H318 → va_S (AE G [112, 114, 143, 144, 145, 141, 140, 139] s.heap.size) s.heap H318 locsH318 → (MF K s.heap H318 a0 [0]) → (CG (avw K H318 a0)) → (TU (avw K H318 a0) (svw K H318 a0)) → (WD (avw K H318 a0)) → (IM (avw K H318 a0)) → W p l e ({ frames := 6, cells := 0, slots := 0, locals := 145 } : Room) s m (([.ref a0, .int x1, .int x2] : List Value).toArray) below meth c H318 locsH318 0 0 Q (F0 m 34 ls319 []) := by
    intro ls319 H318 locsH318  hl320 hTH318 hSH318 mfy321 gy321_CG gy321_TU gy321_WD gy321_IM
    refine lv_iconst (v := (-1)) hx hb dX10_fewest_34 (by decide) ?_
    exact x_iret C hQ dX10_fewest_35 hSH318 (by decide) (by decide) (⟨(-1), rfl, gy321_CG, gy321_TU, gy321_WD, gy321_IM, mfy321, hTH318⟩)
  have J51 : ∀ (ls323 : Array Slot) (H322 : Heap) (locsH322 : List Loc) (x325 : Int32), lv_has ls323 4 [(3, .int x325)] → TY K G H322 → va_S (AE G [112, 114, 143, 144, 145, 141, 140, 139] s.heap.size) s.heap H322 locsH322 → ((-1) ≤ x325.toInt ∧ x325.toInt ≤ 5) → (MF K s.heap H322 a0 [0]) → (CG (avw K H322 a0)) → (TU (avw K H322 a0) (svw K H322 a0)) → (WD (avw K H322 a0)) → (IM (avw K H322 a0)) → W p l e ({ frames := 6, cells := 0, slots := 0, locals := 145 } : Room) s m (([.ref a0, .int x1, .int x2] : List Value).toArray) below meth c H322 locsH322 0 0 Q (F0 m 51 ls323 []) := by
    intro ls323 H322 locsH322 x325 hl324 hTH322 hSH322 bx325 mfy326 gy326_CG gy326_TU gy326_WD gy326_IM
    refine lv_iload_n hx hb dX10_fewest_51 rfl (lv_at hl324 0 rfl) ?_
    exact x_iret C hQ dX10_fewest_52 hSH322 (by decide) (by decide) (⟨x325, rfl, gy326_CG, gy326_TU, gy326_WD, gy326_IM, mfy326, hTH322⟩)
  have J70 : ∀ (ls328 : Array Slot) (H327 : Heap) (locsH327 : List Loc) (x330 : Int32), lv_has ls328 4 [] → TY K G H327 → va_S (AE G [112, 114, 143, 144, 145, 141, 140, 139] s.heap.size) s.heap H327 locsH327 → ((-1) ≤ x330.toInt ∧ x330.toInt ≤ 7) → (MF K s.heap H327 a0 [0]) → (CG (avw K H327 a0)) → (TU (avw K H327 a0) (svw K H327 a0)) → (WD (avw K H327 a0)) → (IM (avw K H327 a0)) → W p l e ({ frames := 6, cells := 0, slots := 0, locals := 145 } : Room) s m (([.ref a0, .int x1, .int x2] : List Value).toArray) below meth c H327 locsH327 0 0 Q (F0 m 70 ls328 [.int x330]) := by
    intro ls328 H327 locsH327 x330 hl329 hTH327 hSH327 bx330 mfy331 gy331_CG gy331_TU gy331_WD gy331_IM
    exact x_iret C hQ dX10_fewest_70 hSH327 (by decide) (by decide) (⟨x330, rfl, gy331_CG, gy331_TU, gy331_WD, gy331_IM, mfy331, hTH327⟩)
  refine lv_aload_n hx hb dX10_fewest_0 rfl (lv_at hl 0 rfl) ?_
  refine lv_iconst (v := 0) hx hb dX10_fewest_1 (by decide) ?_
  refine x_put C hT hS (ci := 10) (k := 0) (v := .int 0) (ty0 := tyX10) rfl inX10 tyX10_ok nmX10 (by decide) rfl wF_X10_167 ga0 rg_112 rfl rfl (okI (by have := i_rng (0 : Int32); omega) (by have := i_rng (0 : Int32); omega)) rfl rfl (AE_in ga0 (by decide)) dX10_fewest_2 (fun H332 locsH332 hTH332 hSH332 wH332 => ?_)
  have mf333 : MF K s.heap H332 a0 [0] := MF.fld hap wH332 (by decide) (by decide) mf0
  have g334 : CG (avw K H332 a0) := CG.congr (fun k hk j => av_fld hT ga0 hap wH332 (by decide) (CG_ok 112 (by decide) k hk) (CG_ne 0 (by decide) k hk)) hg_CG
  have g335 : TU (avw K H332 a0) (svw K H332 a0) := TU.congr (fun k hk j => av_fld hT ga0 hap wH332 (by decide) (TU_ok 112 (by decide) k hk) (TU_ne 0 (by decide) k hk)) (fun k hk => sv_fld hap wH332 (by decide) (TU_slt k hk) (TU_sne 0 (by decide) k hk)) hg_TU
  have g336 : WD (avw K H332 a0) := WD.congr (fun k hk j => av_fld hT ga0 hap wH332 (by decide) (WD_ok 112 (by decide) k hk) (WD_ne 0 (by decide) k hk)) hg_WD
  have g337 : IM (avw K H332 a0) := IM.congr (fun k hk j => av_fld hT ga0 hap wH332 (by decide) (IM_ok 112 (by decide) k hk) (IM_ne 0 (by decide) k hk)) hg_IM
  have m338 := Wr.I wH332
  refine lv_aload_n hx hb dX10_fewest_5 rfl (lv_at hl 0 rfl) ?_
  refine lv_iload_n hx hb dX10_fewest_6 rfl (lv_at hl 1 rfl) ?_
  obtain ⟨x339, ex339⟩ : ∃ z : Int32, z = fI H332 a0 (K.1.2 10 1) := ⟨_, rfl⟩
  have bx339 := ty_fi (x := x339) (k := 1) ex339 hTH332 ga0 rg_112 rfl
  refine x_V (As := [.int x1]) (rest := []) C (a_X10_isBar l K G H332 (x1) (x339) hTH332 ga0 ex339) yo_X10_isBar wM_X10_173 ⟨⟨by decide, by decide⟩, by decide, by decide⟩ (x_rv C hTH332 (ci := 10) rfl ga0 rg_112) rfl hl.1 rfl (Nat.le_of_ble_eq_true rfl) dX10_fewest_7 hSH332 (AE_sub (fun _ _ => rfl) (by decide) hSH332.1) (fun vH340 H340 locsH340 pH340 zH340 kH340 hSH340 => ?_)
  obtain ⟨x341, hvH340, bx341, hrH340, hTH340⟩ := pH340
  subst hvH340
  have mf342 : MF K s.heap H340 a0 [0] := MF.eff (x_lt hTH332 kH340 ga0 (by decide)) mf333
  have g343 : CG (avw K H340 a0) := CG.congr (fun k hk j => av_eff hTH332 kH340 ga0 (by decide) (CG_eff [] (by decide) k hk)) g334
  have g344 : TU (avw K H340 a0) (svw K H340 a0) := TU.congr (fun k hk j => av_eff hTH332 kH340 ga0 (by decide) (TU_eff [] (by decide) k hk)) (fun k hk => sv_eff hTH332 kH340 ga0 (by decide)) g335
  have g345 : WD (avw K H340 a0) := WD.congr (fun k hk j => av_eff hTH332 kH340 ga0 (by decide) (WD_eff [] (by decide) k hk)) g336
  have g346 : IM (avw K H340 a0) := IM.congr (fun k hk j => av_eff hTH332 kH340 ga0 (by decide) (IM_eff [] (by decide) k hk)) g337
  have m347 := (fI_kept (x_lt hTH332 kH340 ga0 (by decide))).trans m338
  have m348 := (ex339).trans (fI_kept (x_lt hTH332 kH340 ga0 (by decide))).symm
  refine W.eq (g2 := F0 m 10 ls [.int x341]) rfl ?_
  refine lv_if_eq (tgt := 34) hx hb dX10_fewest_10 (by decide) (fun c349 => ?_) (fun c349 => ?_)
  · have k350 := i_eq c349
    exact J34 ls H340 locsH340 (lv_sub hl [] rfl) hTH340 hSH340 mf342 g343 g344 g345 g346
  · have k350 := i_ne c349
    refine lv_aload_n hx hb dX10_fewest_13 rfl (lv_at hl 0 rfl) ?_
    refine x_gr C hTH340 (ci := 10) (k := 4) rfl inX10 (by decide) wF_X10_13 ga0 rg_112 rfl dX10_fewest_14 (fun q351 eq351 gq351 => ?_)
    refine lv_iload_n hx hb dX10_fewest_17 rfl (lv_at hl 1 rfl) ?_
    refine x_ai C hTH340 gq351 rg_113 ⟨by omega, by show _ < ((10 : Nat) : Int); omega⟩ dX10_fewest_18 (fun x352 ex352 bx352 => ?_)
    have ux352 := sl_at g344 eq351 m348 ex352 (by omega)
    refine lv_bipush (v := 8) hx hb dX10_fewest_19 (by decide) ?_
    refine lv_icmp_gt (tgt := 34) hx hb dX10_fewest_21 (by decide) (fun c353 => ?_) (fun c353 => ?_)
    · have k354 := i_lt c353
      exact J34 ls H340 locsH340 (lv_sub hl [] rfl) hTH340 hSH340 mf342 g343 g344 g345 g346
    · have k354 := i_nlt c353
      refine lv_aload_n hx hb dX10_fewest_24 rfl (lv_at hl 0 rfl) ?_
      refine lv_iload_n hx hb dX10_fewest_25 rfl (lv_at hl 2 rfl) ?_
      refine lv_iconst (v := 0) hx hb dX10_fewest_26 (by decide) ?_
      refine lv_iconst (v := 5) hx hb dX10_fewest_27 (by decide) ?_
      refine x_V (As := [.int x2, .int 0, .int 5]) (rest := []) C (c_X10_isIn l K G H340 (x2) (0) (5) hTH340 ga0) yo_X10_isIn wM_X10_177 ⟨⟨by decide, by decide⟩, by decide, by decide⟩ (x_rv C hTH340 (ci := 10) rfl ga0 rg_112) rfl hl.1 rfl (Nat.le_of_ble_eq_true rfl) dX10_fewest_28 hSH340 (AE_sub (fun _ _ => rfl) (by decide) hSH340.1) (fun vH355 H355 locsH355 pH355 zH355 kH355 hSH355 => ?_)
      have hqH355 := pH355.1.symm
      subst hqH355
      rcases pH355.2 with ⟨hvH355, hcH355⟩ | ⟨hvH355, hcH355⟩
      · subst hvH355
        refine W.eq (g2 := F0 m 31 ls [.int 1]) rfl ?_
        refine lv_if_ne (tgt := 36) hx hb dX10_fewest_31 (by decide) (fun c356 => ?_) (fun c356 => ?_)
        · have k357 := i_ne c356
          refine lv_aload_n hx hb dX10_fewest_36 rfl (lv_at hl 0 rfl) ?_
          refine lv_iload_n hx hb dX10_fewest_37 rfl (lv_at hl 1 rfl) ?_
          obtain ⟨q358, eq358⟩ : ∃ z : Nat, z = fR H340 a0 (K.1.2 10 45) := ⟨_, rfl⟩
          have gq358 := ty_fr (q := q358) (k := 45) (u := 141) eq358 hTH340 ga0 rg_112 rfl
          refine x_V (As := [.int x1]) (rest := []) C (a_X10_findsFewest l K G H340 (x1) (x352) hTH340 ga0 (by omega) gq351 eq351 gq358 eq358 ex352 g343 (by omega) (by omega)) yo_X10_findsFewest wM_X10_371 ⟨⟨by decide, by decide⟩, by decide, by decide⟩ (x_rv C hTH340 (ci := 10) rfl ga0 rg_112) rfl hl.1 rfl (Nat.le_of_ble_eq_true rfl) dX10_fewest_38 hSH355 (AE_sub (fun _ _ => rfl) (by decide) hSH355.1) (fun vH359 H359 locsH359 pH359 zH359 kH359 hSH359 => ?_)
          obtain ⟨x360, hvH359, bx360, hTH359⟩ := pH359
          subst hvH359
          have mf361 : MF K s.heap H359 a0 [0] := MF.eff (x_lt hTH340 kH359 ga0 (by decide)) mf342
          have g362 : CG (avw K H359 a0) := CG.congr (fun k hk j => av_eff hTH340 kH359 ga0 (by decide) (CG_eff [114, 143, 144, 145, 141, 140, 139] (by decide) k hk)) g343
          have g363 : TU (avw K H359 a0) (svw K H359 a0) := TU.congr (fun k hk j => av_eff hTH340 kH359 ga0 (by decide) (TU_eff [114, 143, 144, 145, 141, 140, 139] (by decide) k hk)) (fun k hk => sv_eff hTH340 kH359 ga0 (by decide)) g344
          have g364 : WD (avw K H359 a0) := WD.congr (fun k hk j => av_eff hTH340 kH359 ga0 (by decide) (WD_eff [114, 143, 144, 145, 141, 140, 139] (by decide) k hk)) g345
          have g365 : IM (avw K H359 a0) := IM.congr (fun k hk j => av_eff hTH340 kH359 ga0 (by decide) (IM_eff [114, 143, 144, 145, 141, 140, 139] (by decide) k hk)) g346
          have m366 := (fI_kept (x_lt hTH340 kH359 ga0 (by decide))).trans m347
          have m367 := (m348).trans (fI_kept (x_lt hTH340 kH359 ga0 (by decide))).symm
          have m368 := (eq351).trans (fR_kept (x_lt hTH340 kH359 ga0 (by decide))).symm
          have m369 := (ex352).trans (fI_kept (x_lt hTH340 kH359 gq351 (by decide))).symm
          have m370 := (eq358).trans (fR_kept (x_lt hTH340 kH359 ga0 (by decide))).symm
          refine W.eq (g2 := F0 m 41 ls [.int x360]) rfl ?_
          refine lv_istore_n (lv' := [(3, .int x360), (0, .ref a0), (1, .int x1), (2, .int x2)]) hx hb dX10_fewest_41 rfl hl (by decide) rfl (fun ls371 hl372 => ?_)
          refine lv_iload_n hx hb dX10_fewest_42 rfl (lv_at hl372 3 rfl) ?_
          refine lv_if_eq (tgt := 51) hx hb dX10_fewest_43 (by decide) (fun c373 => ?_) (fun c373 => ?_)
          · have k374 := i_eq c373
            exact J51 ls371 H359 locsH359 (x360) (lv_sub hl372 [0] rfl) hTH359 hSH359 (by have := i_rng x360; omega) mf361 g362 g363 g364 g365
          · have k374 := i_ne c373
            refine lv_iload_n hx hb dX10_fewest_46 rfl (lv_at hl372 0 rfl) ?_
            refine lv_iconst (v := (-1)) hx hb dX10_fewest_47 (by decide) ?_
            refine lv_icmp_ne (tgt := 53) hx hb dX10_fewest_48 (by decide) (fun c375 => ?_) (fun c375 => ?_)
            · have k376 := i_ne c375
              refine lv_iload_n hx hb dX10_fewest_53 rfl (lv_at hl372 3 rfl) ?_
              refine lv_iload_n hx hb dX10_fewest_54 rfl (lv_at hl372 0 rfl) ?_
              refine lv_icmp_gt (tgt := 69) hx hb dX10_fewest_55 (by decide) (fun c377 => ?_) (fun c377 => ?_)
              · have k378 := i_lt c377
                refine lv_iconst (v := (-1)) hx hb dX10_fewest_69 (by decide) ?_
                exact J70 ls371 H359 locsH359 ((-1)) (lv_sub hl372 [] rfl) hTH359 hSH359 (by decide) mf361 g362 g363 g364 g365
              · have k378 := i_nlt c377
                refine lv_aload_n hx hb dX10_fewest_58 rfl (lv_at hl372 1 rfl) ?_
                refine x_gr C hTH359 (ci := 10) (k := 45) rfl inX10 (by decide) wF_X10_101 ga0 rg_112 rfl dX10_fewest_59 (fun q379 eq379 gq379 => ?_)
                have uq379 : q358 = q379 := (m370).trans eq379.symm
                subst uq379
                refine lv_iload_n hx hb dX10_fewest_62 rfl (lv_at hl372 3 rfl) ?_
                refine lv_iconst (v := 1) hx hb dX10_fewest_63 (by decide) ?_
                refine lv_isub hx hb dX10_fewest_64 ?_
                refine lv_topi (fun x380 ex380 => ?_)
                have tx380 := i_sub ex380 (by omega)
                refine x_ai C hTH359 gq358 rg_141 ⟨by omega, by show _ < ((5 : Nat) : Int); omega⟩ dX10_fewest_65 (fun x381 ex381 bx381 => ?_)
                refine lv_goto (tgt := 70) hx hb dX10_fewest_66 (by decide) ?_
                exact J70 ls371 H359 locsH359 (x381) (lv_sub hl372 [] rfl) hTH359 hSH359 (by have := i_rng x381; omega) mf361 g362 g363 g364 g365
            · have k376 := i_eq c375
              exact J51 ls371 H359 locsH359 (x360) (lv_sub hl372 [0] rfl) hTH359 hSH359 (by have := i_rng x360; omega) mf361 g362 g363 g364 g365
        · have k357 := i_eq c356
          exfalso
          omega
      · subst hvH355
        refine W.eq (g2 := F0 m 31 ls [.int 0]) rfl ?_
        refine lv_if_ne (tgt := 36) hx hb dX10_fewest_31 (by decide) (fun c382 => ?_) (fun c382 => ?_)
        · have k383 := i_ne c382
          exfalso
          omega
        · have k383 := i_eq c382
          exact J34 ls H340 locsH355 (lv_sub hl [] rfl) hTH340 hSH355 mf342 g343 g344 g345 g346

set_option maxHeartbeats 4000000 in
set_option maxRecDepth 100000 in
theorem a_X10_tap (l : Launch) (K : KE) (G : Nat → Option Nat) (H : Heap) {a0 : Nat} (x1 : Int32) (x2 : Int32) (x3 : Int32) {tpq : Nat} (hT : TY K G H) (ga0 : G a0 = some 112) (gtpq : G tpq = some 146) (etpq : tpq = fR H a0 (K.1.2 10 50)) (hg_CG : CG (avw K H a0)) (hg_TU : TU (avw K H a0) (svw K H a0)) (hg_WD : WD (avw K H a0)) (hg_IM : IM (avw K H a0)) : MX l K yX10_tap cX10_tap 6 (some .int) 2 44 0 0 [.ref a0, .int x1, .int x2, .int x3] H (AE G [112, 147, 148, 149, 150, 146] H.size) (fun v H1 => ∃ (r : Int32), v = some (.int r) ∧ tpq = fR H1 a0 (K.1.2 10 50) ∧ (CG (avw K H1 a0)) ∧ (TU (avw K H1 a0) (svw K H1 a0)) ∧ (WD (avw K H1 a0)) ∧ (IM (avw K H1 a0)) ∧ MF K H H1 a0 [0] ∧ TY K G H1) := by
  refine MX.of (by decide +kernel) (Nat.le_of_ble_eq_true rfl) ?_
  intro p e s m below meth c ls Q C hH hl hQ
  subst hH
  have C : CX p K s m _ meth c RX10 cX10_tap 6 (some .int) "tap" := C
  obtain ⟨hx, hb, hml, hown, hts, hKT, hr, hlocks, hnm⟩ := id C
  have hl : lv_has ls 6 [(0, .ref a0), (1, .int x1), (2, .int x2), (3, .int x3)] := hl
  have hS : va_S (AE G [112, 147, 148, 149, 150, 146] s.heap.size) s.heap s.heap [] := va_S.rf
  have n_m1 : ((-1) : Int32).toInt = -1 := rfl
  have n_0 : (0 : Int32).toInt = 0 := rfl
  have n_1 : (1 : Int32).toInt = 1 := rfl
  have n_12 : (12 : Int32).toInt = 12 := rfl
  have n_16 : (16 : Int32).toInt = 16 := rfl
  have n_9999999 : (9999999 : Int32).toInt = 9999999 := rfl
  have hap : ∀ x y, x < 74 → y < 74 → x ≠ y → K.1.2 10 x ≠ K.1.2 10 y := x_apart hKT hts inX10 tyX10 tyX10_ok nmX10 rfl
  have mf0 : MF K s.heap s.heap a0 [0] := fun _ _ _ => rfl
  have f0_tps : ∀ j : Nat, fI s.heap tpq j = fI s.heap tpq j := fun _ => rfl
  have J44 : ∀ (ls1295 : Array Slot) (H1294 : Heap) (locsH1294 : List Loc) , lv_has ls1295 6 [] → TY K G H1294 → va_S (AE G [112, 147, 148, 149, 150, 146] s.heap.size) s.heap H1294 locsH1294 → (tpq = fR H1294 a0 (K.1.2 10 50)) → (MF K s.heap H1294 a0 [0]) → (CG (avw K H1294 a0)) → (TU (avw K H1294 a0) (svw K H1294 a0)) → (WD (avw K H1294 a0)) → (IM (avw K H1294 a0)) → (∀ j : Nat, fI H1294 tpq j = fI s.heap tpq j) → W p l e ({ frames := 2, cells := 0, slots := 0, locals := 44 } : Room) s m (([.ref a0, .int x1, .int x2, .int x3] : List Value).toArray) below meth c H1294 locsH1294 0 0 Q (F0 m 44 ls1295 []) := by
    intro ls1295 H1294 locsH1294  hl1296 hTH1294 hSH1294 cy1297_0 mfy1297 gy1297_CG gy1297_TU gy1297_WD gy1297_IM fy1297_tps
    refine lv_iconst (v := (-1)) hx hb dX10_tap_44 (by decide) ?_
    exact x_iret C hQ dX10_tap_45 hSH1294 (by decide) (by decide) (⟨(-1), rfl, cy1297_0, gy1297_CG, gy1297_TU, gy1297_WD, gy1297_IM, mfy1297, hTH1294⟩)
  have J78 : ∀ (nf : Nat) (ls1299 : Array Slot) (H1298 : Heap) (locsH1298 : List Loc) (x1302 : Int32) (x1303 : Int32), lv_has ls1299 6 [(0, .ref a0), (1, .int x1), (4, .int x1302), (5, .int x1303)] → TY K G H1298 → va_S (AE G [112, 147, 148, 149, 150, 146] s.heap.size) s.heap H1298 locsH1298 → (0 ≤ x1.toInt ∧ x1.toInt ≤ 9) → (0 ≤ x1302.toInt ∧ x1302.toInt ≤ 119) → (0 ≤ x1303.toInt ∧ x1303.toInt ≤ 16) → (tpq = fR H1298 a0 (K.1.2 10 50)) → (MF K s.heap H1298 a0 [0]) → (CG (avw K H1298 a0)) → (TU (avw K H1298 a0) (svw K H1298 a0)) → (WD (avw K H1298 a0)) → (IM (avw K H1298 a0)) → (∀ j : Nat, fI H1298 tpq j = fI s.heap tpq j) → (16 - x1303.toInt < (nf : Int)) → ((fI s.heap tpq x1.toNatClampNeg).toInt ≤ 11) → W p l e ({ frames := 2, cells := 0, slots := 0, locals := 44 } : Room) s m (([.ref a0, .int x1, .int x2, .int x3] : List Value).toArray) below meth c H1298 locsH1298 0 0 Q (F0 m 78 ls1299 []) := by
    intro nf
    induction nf with
    | zero =>
      intro ls1299 H1298 locsH1298 x1302 x1303 hl1300 hTH1298 hSH1298 b1301 bx1302 bx1303 cy1304_0 mfy1304 gy1304_CG gy1304_TU gy1304_WD gy1304_IM fy1304_tps hm78 iv78
      exfalso
      omega
    | succ nf ih78 =>
      intro ls1299 H1298 locsH1298 x1302 x1303 hl1300 hTH1298 hSH1298 b1301 bx1302 bx1303 cy1304_0 mfy1304 gy1304_CG gy1304_TU gy1304_WD gy1304_IM fy1304_tps hm78 iv78
      refine lv_iload hx hb dX10_tap_78 (lv_at hl1300 3 rfl) ?_
      refine lv_bipush (v := 16) hx hb dX10_tap_80 (by decide) ?_
      refine lv_icmp_ge (tgt := 141) hx hb dX10_tap_82 (by decide) (fun c1305 => ?_) (fun c1305 => ?_)
      · have k1306 := i_le c1305
        refine lv_aload_n hx hb dX10_tap_141 rfl (lv_at hl1300 0 rfl) ?_
        refine x_gr C hTH1298 (ci := 10) (k := 50) rfl inX10 (by decide) wF_X10_116 ga0 rg_112 rfl dX10_tap_142 (fun q1307 eq1307 gq1307 => ?_)
        have uq1307 : tpq = q1307 := (cy1304_0).trans eq1307.symm
        subst uq1307
        refine lv_iload_n hx hb dX10_tap_145 rfl (lv_at hl1300 1 rfl) ?_
        refine lv_aload_n hx hb dX10_tap_146 rfl (lv_at hl1300 0 rfl) ?_
        refine x_gr C hTH1298 (ci := 10) (k := 50) rfl inX10 (by decide) wF_X10_116 ga0 rg_112 rfl dX10_tap_147 (fun q1308 eq1308 gq1308 => ?_)
        have uq1308 : tpq = q1308 := (cy1304_0).trans eq1308.symm
        subst uq1308
        refine lv_iload_n hx hb dX10_tap_150 rfl (lv_at hl1300 1 rfl) ?_
        refine x_ai C hTH1298 gtpq rg_146 ⟨by omega, by show _ < ((10 : Nat) : Int); omega⟩ dX10_tap_151 (fun x1309 ex1309 bx1309 => ?_)
        have q0x1309 := congrArg Int32.toInt (ex1309.trans (fy1304_tps _))
        refine lv_iconst (v := 1) hx hb dX10_tap_152 (by decide) ?_
        refine lv_iadd hx hb dX10_tap_153 ?_
        refine lv_topi (fun x1310 ex1310 => ?_)
        have tx1310 := i_add ex1310 (by omega)
        refine x_iast C hTH1298 hSH1298 gtpq rg_146 (by omega) (by show _ < ((10 : Nat) : Int); omega) ⟨by have := i_rng x1310; omega, by have := i_rng x1310; omega⟩ (AE_in gtpq (by decide)) dX10_tap_154 (fun H1311 locsH1311 hTH1311 hSH1311 wH1311 => ?_)
        have mf1312 : MF K s.heap H1311 a0 [0] := MF.arr wH1311 (G_ne ga0 gtpq (by decide)) mfy1304
        have g1313 : CG (avw K H1311 a0) := CG.congr (fun k hk j => av_arr hTH1298 ga0 wH1311 gtpq (by decide) (CG_ok 146 (by decide) k hk)) gy1304_CG
        have g1314 : TU (avw K H1311 a0) (svw K H1311 a0) := TU.congr (fun k hk j => av_arr hTH1298 ga0 wH1311 gtpq (by decide) (TU_ok 146 (by decide) k hk)) (fun k hk => sv_arr ga0 wH1311 gtpq (by decide)) gy1304_TU
        have g1315 : WD (avw K H1311 a0) := WD.congr (fun k hk j => av_arr hTH1298 ga0 wH1311 gtpq (by decide) (WD_ok 146 (by decide) k hk)) gy1304_WD
        have g1316 : IM (avw K H1311 a0) := IM.congr (fun k hk j => av_arr hTH1298 ga0 wH1311 gtpq (by decide) (IM_ok 146 (by decide) k hk)) gy1304_IM
        have m1317 := cy1304_0.trans (Wr.neR wH1311 (Or.inl (G_ne ga0 gtpq (by decide)))).symm
        have m1319 := Wr.I wH1311
        have m1319 := m1319.symm
        refine lv_aload_n hx hb dX10_tap_155 rfl (lv_at hl1300 0 rfl) ?_
        refine x_gr C hTH1311 (ci := 10) (k := 50) rfl inX10 (by decide) wF_X10_116 ga0 rg_112 rfl dX10_tap_156 (fun q1320 eq1320 gq1320 => ?_)
        have uq1320 : tpq = q1320 := (m1317).trans eq1320.symm
        subst uq1320
        refine lv_iload_n hx hb dX10_tap_159 rfl (lv_at hl1300 1 rfl) ?_
        refine x_ai C hTH1311 gtpq rg_146 ⟨by omega, by show _ < ((10 : Nat) : Int); omega⟩ dX10_tap_160 (fun x1321 ex1321 bx1321 => ?_)
        have ux1321 : x1310 = x1321 := (m1319).trans ex1321.symm
        subst ux1321
        exact x_iret C hQ dX10_tap_161 hSH1311 (by decide) (by decide) (⟨x1310, rfl, m1317, g1313, g1314, g1315, g1316, mf1312, hTH1311⟩)
      · have k1306 := i_nle c1305
        refine lv_aload_n hx hb dX10_tap_85 rfl (lv_at hl1300 0 rfl) ?_
        refine x_gr C hTH1298 (ci := 10) (k := 53) rfl inX10 (by decide) wF_X10_125 ga0 rg_112 rfl dX10_tap_86 (fun q1322 eq1322 gq1322 => ?_)
        refine lv_bipush (v := 16) hx hb dX10_tap_89 (by decide) ?_
        refine lv_iload hx hb dX10_tap_91 (lv_at hl1300 2 rfl) ?_
        refine lv_imul hx hb dX10_tap_93 ?_
        refine lv_topi (fun x1323 ex1323 => ?_)
        have tx1323 := i_mul ex1323 (by rw [n_16]; omega)
        rw [n_16] at tx1323
        refine lv_iload hx hb dX10_tap_94 (lv_at hl1300 3 rfl) ?_
        refine lv_iadd hx hb dX10_tap_96 ?_
        refine lv_topi (fun x1324 ex1324 => ?_)
        have tx1324 := i_add ex1324 (by omega)
        refine lv_aload_n hx hb dX10_tap_97 rfl (lv_at hl1300 0 rfl) ?_
        refine x_gr C hTH1298 (ci := 10) (k := 5) rfl inX10 (by decide) wF_X10_17 ga0 rg_112 rfl dX10_tap_98 (fun q1325 eq1325 gq1325 => ?_)
        refine lv_bipush (v := 16) hx hb dX10_tap_101 (by decide) ?_
        refine lv_iload_n hx hb dX10_tap_103 rfl (lv_at hl1300 1 rfl) ?_
        refine lv_imul hx hb dX10_tap_104 ?_
        refine lv_topi (fun x1326 ex1326 => ?_)
        have tx1326 := i_mul ex1326 (by rw [n_16]; omega)
        rw [n_16] at tx1326
        refine lv_iload hx hb dX10_tap_105 (lv_at hl1300 3 rfl) ?_
        refine lv_iadd hx hb dX10_tap_107 ?_
        refine lv_topi (fun x1327 ex1327 => ?_)
        have tx1327 := i_add ex1327 (by omega)
        refine x_ai C hTH1298 gq1325 rg_114 ⟨by omega, by show _ < ((160 : Nat) : Int); omega⟩ dX10_tap_108 (fun x1328 ex1328 bx1328 => ?_)
        refine x_iast C hTH1298 hSH1298 gq1322 rg_149 (by omega) (by show _ < ((1920 : Nat) : Int); omega) ⟨by have := i_rng x1328; omega, by have := i_rng x1328; omega⟩ (AE_in gq1322 (by decide)) dX10_tap_109 (fun H1329 locsH1329 hTH1329 hSH1329 wH1329 => ?_)
        have mf1330 : MF K s.heap H1329 a0 [0] := MF.arr wH1329 (G_ne ga0 gq1322 (by decide)) mfy1304
        have g1331 : CG (avw K H1329 a0) := CG.congr (fun k hk j => av_arr hTH1298 ga0 wH1329 gq1322 (by decide) (CG_ok 149 (by decide) k hk)) gy1304_CG
        have g1332 : TU (avw K H1329 a0) (svw K H1329 a0) := TU.congr (fun k hk j => av_arr hTH1298 ga0 wH1329 gq1322 (by decide) (TU_ok 149 (by decide) k hk)) (fun k hk => sv_arr ga0 wH1329 gq1322 (by decide)) gy1304_TU
        have g1333 : WD (avw K H1329 a0) := WD.congr (fun k hk j => av_arr hTH1298 ga0 wH1329 gq1322 (by decide) (WD_ok 149 (by decide) k hk)) gy1304_WD
        have g1334 : IM (avw K H1329 a0) := IM.congr (fun k hk j => av_arr hTH1298 ga0 wH1329 gq1322 (by decide) (IM_ok 149 (by decide) k hk)) gy1304_IM
        have f1335 : ∀ j : Nat, fI H1329 tpq j = fI s.heap tpq j := fun j => (Wr.neI wH1329 (Or.inl (G_ne gtpq gq1322 (by decide)))).trans (fy1304_tps j)
        have m1336 := cy1304_0.trans (Wr.neR wH1329 (Or.inl (G_ne ga0 gq1322 (by decide)))).symm
        have m1337 := eq1322.trans (Wr.neR wH1329 (Or.inl (G_ne ga0 gq1322 (by decide)))).symm
        have m1338 := eq1325.trans (Wr.neR wH1329 (Or.inl (G_ne ga0 gq1322 (by decide)))).symm
        have m1339 := ex1328.trans (Wr.neI wH1329 (Or.inl (G_ne gq1325 gq1322 (by decide)))).symm
        have m1340 := Wr.I wH1329
        have m1340 := m1340.symm
        refine lv_aload_n hx hb dX10_tap_110 rfl (lv_at hl1300 0 rfl) ?_
        refine x_gr C hTH1329 (ci := 10) (k := 54) rfl inX10 (by decide) wF_X10_128 ga0 rg_112 rfl dX10_tap_111 (fun q1341 eq1341 gq1341 => ?_)
        refine lv_bipush (v := 16) hx hb dX10_tap_114 (by decide) ?_
        refine lv_iload hx hb dX10_tap_116 (lv_at hl1300 2 rfl) ?_
        refine lv_imul hx hb dX10_tap_118 ?_
        refine lv_topi (fun x1342 ex1342 => ?_)
        have tx1342 := i_mul ex1342 (by rw [n_16]; omega)
        rw [n_16] at tx1342
        refine lv_iload hx hb dX10_tap_119 (lv_at hl1300 3 rfl) ?_
        refine lv_iadd hx hb dX10_tap_121 ?_
        refine lv_topi (fun x1343 ex1343 => ?_)
        have tx1343 := i_add ex1343 (by omega)
        refine lv_aload_n hx hb dX10_tap_122 rfl (lv_at hl1300 0 rfl) ?_
        refine x_gr C hTH1329 (ci := 10) (k := 8) rfl inX10 (by decide) wF_X10_26 ga0 rg_112 rfl dX10_tap_123 (fun q1344 eq1344 gq1344 => ?_)
        refine lv_bipush (v := 16) hx hb dX10_tap_126 (by decide) ?_
        refine lv_iload_n hx hb dX10_tap_128 rfl (lv_at hl1300 1 rfl) ?_
        refine lv_imul hx hb dX10_tap_129 ?_
        refine lv_topi (fun x1345 ex1345 => ?_)
        have tx1345 := i_mul ex1345 (by rw [n_16]; omega)
        rw [n_16] at tx1345
        refine lv_iload hx hb dX10_tap_130 (lv_at hl1300 3 rfl) ?_
        refine lv_iadd hx hb dX10_tap_132 ?_
        refine lv_topi (fun x1346 ex1346 => ?_)
        have tx1346 := i_add ex1346 (by omega)
        refine x_ai C hTH1329 gq1344 rg_117 ⟨by omega, by show _ < ((160 : Nat) : Int); omega⟩ dX10_tap_133 (fun x1347 ex1347 bx1347 => ?_)
        refine x_iast C hTH1329 hSH1329 gq1341 rg_150 (by omega) (by show _ < ((1920 : Nat) : Int); omega) ⟨by have := i_rng x1347; omega, by have := i_rng x1347; omega⟩ (AE_in gq1341 (by decide)) dX10_tap_134 (fun H1348 locsH1348 hTH1348 hSH1348 wH1348 => ?_)
        have mf1349 : MF K s.heap H1348 a0 [0] := MF.arr wH1348 (G_ne ga0 gq1341 (by decide)) mf1330
        have g1350 : CG (avw K H1348 a0) := CG.congr (fun k hk j => av_arr hTH1329 ga0 wH1348 gq1341 (by decide) (CG_ok 150 (by decide) k hk)) g1331
        have g1351 : TU (avw K H1348 a0) (svw K H1348 a0) := TU.congr (fun k hk j => av_arr hTH1329 ga0 wH1348 gq1341 (by decide) (TU_ok 150 (by decide) k hk)) (fun k hk => sv_arr ga0 wH1348 gq1341 (by decide)) g1332
        have g1352 : WD (avw K H1348 a0) := WD.congr (fun k hk j => av_arr hTH1329 ga0 wH1348 gq1341 (by decide) (WD_ok 150 (by decide) k hk)) g1333
        have g1353 : IM (avw K H1348 a0) := IM.congr (fun k hk j => av_arr hTH1329 ga0 wH1348 gq1341 (by decide) (IM_ok 150 (by decide) k hk)) g1334
        have f1354 : ∀ j : Nat, fI H1348 tpq j = fI s.heap tpq j := fun j => (Wr.neI wH1348 (Or.inl (G_ne gtpq gq1341 (by decide)))).trans (f1335 j)
        have m1355 := m1336.trans (Wr.neR wH1348 (Or.inl (G_ne ga0 gq1341 (by decide)))).symm
        have m1356 := m1337.trans (Wr.neR wH1348 (Or.inl (G_ne ga0 gq1341 (by decide)))).symm
        have m1357 := m1338.trans (Wr.neR wH1348 (Or.inl (G_ne ga0 gq1341 (by decide)))).symm
        have m1358 := m1339.trans (Wr.neI wH1348 (Or.inl (G_ne gq1325 gq1341 (by decide)))).symm
        have m1359 := m1340.trans (Wr.neI wH1348 (Or.inl (G_ne gq1322 gq1341 (by decide)))).symm
        have m1360 := eq1341.trans (Wr.neR wH1348 (Or.inl (G_ne ga0 gq1341 (by decide)))).symm
        have m1361 := eq1344.trans (Wr.neR wH1348 (Or.inl (G_ne ga0 gq1341 (by decide)))).symm
        have m1362 := ex1347.trans (Wr.neI wH1348 (Or.inl (G_ne gq1344 gq1341 (by decide)))).symm
        have m1363 := Wr.I wH1348
        have m1363 := m1363.symm
        obtain ⟨x1364, ex1364⟩ : ∃ y : Int32, y = x1303 + 1 := ⟨_, rfl⟩
        have tx1364 := i_add ex1364 (by omega)
        refine lv_iinc (v := x1364) (lv' := [(5, .int x1364), (0, .ref a0), (1, .int x1), (4, .int x1302)]) hx hb dX10_tap_135 hl1300 (k := 3) rfl (by rw [ex1364]; rfl) (by decide) rfl (fun ls1365 hl1366 => ?_)
        refine lv_goto (tgt := 78) hx hb dX10_tap_138 (by decide) ?_
        exact ih78 ls1365 H1348 locsH1348 (x1302) (x1364) (lv_sub hl1366 [1, 2, 3, 0] rfl) hTH1348 hSH1348 (by have := i_rng x1; omega) (by have := i_rng x1302; omega) (by have := i_rng x1364; omega) m1355 mf1349 g1350 g1351 g1352 g1353 f1354 (by omega) (by omega)
  refine lv_aload_n hx hb dX10_tap_0 rfl (lv_at hl 0 rfl) ?_
  refine lv_iconst (v := 0) hx hb dX10_tap_1 (by decide) ?_
  refine x_put C hT hS (ci := 10) (k := 0) (v := .int 0) (ty0 := tyX10) rfl inX10 tyX10_ok nmX10 (by decide) rfl wF_X10_167 ga0 rg_112 rfl rfl (okI (by have := i_rng (0 : Int32); omega) (by have := i_rng (0 : Int32); omega)) rfl rfl (AE_in ga0 (by decide)) dX10_tap_2 (fun H1367 locsH1367 hTH1367 hSH1367 wH1367 => ?_)
  have mf1368 : MF K s.heap H1367 a0 [0] := MF.fld hap wH1367 (by decide) (by decide) mf0
  have g1369 : CG (avw K H1367 a0) := CG.congr (fun k hk j => av_fld hT ga0 hap wH1367 (by decide) (CG_ok 112 (by decide) k hk) (CG_ne 0 (by decide) k hk)) hg_CG
  have g1370 : TU (avw K H1367 a0) (svw K H1367 a0) := TU.congr (fun k hk j => av_fld hT ga0 hap wH1367 (by decide) (TU_ok 112 (by decide) k hk) (TU_ne 0 (by decide) k hk)) (fun k hk => sv_fld hap wH1367 (by decide) (TU_slt k hk) (TU_sne 0 (by decide) k hk)) hg_TU
  have g1371 : WD (avw K H1367 a0) := WD.congr (fun k hk j => av_fld hT ga0 hap wH1367 (by decide) (WD_ok 112 (by decide) k hk) (WD_ne 0 (by decide) k hk)) hg_WD
  have g1372 : IM (avw K H1367 a0) := IM.congr (fun k hk j => av_fld hT ga0 hap wH1367 (by decide) (IM_ok 112 (by decide) k hk) (IM_ne 0 (by decide) k hk)) hg_IM
  have f1373 : ∀ j : Nat, fI H1367 tpq j = fI s.heap tpq j := fun j => (Wr.neI wH1367 (Or.inl (G_ne gtpq ga0 (by decide)))).trans (f0_tps j)
  have m1374 := etpq.trans (Wr.neR wH1367 (Or.inr (x_apart hKT hts inX10 tyX10 tyX10_ok nmX10 rfl 50 0 (by decide) (by decide) (by decide)))).symm
  have m1375 := Wr.I wH1367
  refine lv_aload_n hx hb dX10_tap_5 rfl (lv_at hl 0 rfl) ?_
  refine lv_iload_n hx hb dX10_tap_6 rfl (lv_at hl 1 rfl) ?_
  obtain ⟨x1376, ex1376⟩ : ∃ z : Int32, z = fI H1367 a0 (K.1.2 10 1) := ⟨_, rfl⟩
  have bx1376 := ty_fi (x := x1376) (k := 1) ex1376 hTH1367 ga0 rg_112 rfl
  refine x_V (As := [.int x1]) (rest := []) C (a_X10_isBar l K G H1367 (x1) (x1376) hTH1367 ga0 ex1376) yo_X10_isBar wM_X10_173 ⟨⟨by decide, by decide⟩, by decide, by decide⟩ (x_rv C hTH1367 (ci := 10) rfl ga0 rg_112) rfl hl.1 rfl (Nat.le_of_ble_eq_true rfl) dX10_tap_7 hSH1367 (AE_sub (fun _ _ => rfl) (by decide) hSH1367.1) (fun vH1377 H1377 locsH1377 pH1377 zH1377 kH1377 hSH1377 => ?_)
  obtain ⟨x1378, hvH1377, bx1378, hrH1377, hTH1377⟩ := pH1377
  subst hvH1377
  have mf1379 : MF K s.heap H1377 a0 [0] := MF.eff (x_lt hTH1367 kH1377 ga0 (by decide)) mf1368
  have g1380 : CG (avw K H1377 a0) := CG.congr (fun k hk j => av_eff hTH1367 kH1377 ga0 (by decide) (CG_eff [] (by decide) k hk)) g1369
  have g1381 : TU (avw K H1377 a0) (svw K H1377 a0) := TU.congr (fun k hk j => av_eff hTH1367 kH1377 ga0 (by decide) (TU_eff [] (by decide) k hk)) (fun k hk => sv_eff hTH1367 kH1377 ga0 (by decide)) g1370
  have g1382 : WD (avw K H1377 a0) := WD.congr (fun k hk j => av_eff hTH1367 kH1377 ga0 (by decide) (WD_eff [] (by decide) k hk)) g1371
  have g1383 : IM (avw K H1377 a0) := IM.congr (fun k hk j => av_eff hTH1367 kH1377 ga0 (by decide) (IM_eff [] (by decide) k hk)) g1372
  have f1384 : ∀ j : Nat, fI H1377 tpq j = fI s.heap tpq j := fun j => (fI_kept (x_lt hTH1367 kH1377 gtpq (by decide))).trans (f1373 j)
  have m1385 := (m1374).trans (fR_kept (x_lt hTH1367 kH1377 ga0 (by decide))).symm
  have m1386 := (fI_kept (x_lt hTH1367 kH1377 ga0 (by decide))).trans m1375
  have m1387 := (ex1376).trans (fI_kept (x_lt hTH1367 kH1377 ga0 (by decide))).symm
  refine W.eq (g2 := F0 m 10 ls [.int x1378]) rfl ?_
  refine lv_if_eq (tgt := 44) hx hb dX10_tap_10 (by decide) (fun c1388 => ?_) (fun c1388 => ?_)
  · have k1389 := i_eq c1388
    exact J44 ls H1377 locsH1377 (lv_sub hl [] rfl) hTH1377 hSH1377 m1385 mf1379 g1380 g1381 g1382 g1383 f1384
  · have k1389 := i_ne c1388
    refine lv_aload_n hx hb dX10_tap_13 rfl (lv_at hl 0 rfl) ?_
    refine lv_iload_n hx hb dX10_tap_14 rfl (lv_at hl 2 rfl) ?_
    refine x_V (As := [.int x2]) (rest := []) C (c_X10_isTone l K G H1377 (x2) hTH1377 ga0) yo_X10_isTone wM_X10_331 ⟨⟨by decide, by decide⟩, by decide, by decide⟩ (x_rv C hTH1377 (ci := 10) rfl ga0 rg_112) rfl hl.1 rfl (Nat.le_of_ble_eq_true rfl) dX10_tap_15 hSH1377 (AE_sub (fun _ _ => rfl) (by decide) hSH1377.1) (fun vH1390 H1390 locsH1390 pH1390 zH1390 kH1390 hSH1390 => ?_)
    have hqH1390 := pH1390.1.symm
    subst hqH1390
    rcases pH1390.2 with ⟨hvH1390, hcH1390⟩ | ⟨hvH1390, hcH1390⟩
    · subst hvH1390
      refine W.eq (g2 := F0 m 18 ls [.int 1]) rfl ?_
      refine lv_if_eq (tgt := 44) hx hb dX10_tap_18 (by decide) (fun c1391 => ?_) (fun c1391 => ?_)
      · have k1392 := i_eq c1391
        exfalso
        omega
      · have k1392 := i_ne c1391
        refine lv_aload_n hx hb dX10_tap_21 rfl (lv_at hl 0 rfl) ?_
        refine lv_iload_n hx hb dX10_tap_22 rfl (lv_at hl 3 rfl) ?_
        refine lv_iconst (v := 0) hx hb dX10_tap_23 (by decide) ?_
        refine lv_ldcw (v := 9999999) hx hb hown (hts _ wK_X10_374) dX10_tap_24 ?_
        refine x_V (As := [.int x3, .int 0, .int 9999999]) (rest := []) C (c_X10_isIn l K G H1377 (x3) (0) (9999999) hTH1377 ga0) yo_X10_isIn wM_X10_177 ⟨⟨by decide, by decide⟩, by decide, by decide⟩ (x_rv C hTH1377 (ci := 10) rfl ga0 rg_112) rfl hl.1 rfl (Nat.le_of_ble_eq_true rfl) dX10_tap_27 hSH1390 (AE_sub (fun _ _ => rfl) (by decide) hSH1390.1) (fun vH1393 H1393 locsH1393 pH1393 zH1393 kH1393 hSH1393 => ?_)
        have hqH1393 := pH1393.1.symm
        subst hqH1393
        rcases pH1393.2 with ⟨hvH1393, hcH1393⟩ | ⟨hvH1393, hcH1393⟩
        · subst hvH1393
          refine W.eq (g2 := F0 m 30 ls [.int 1]) rfl ?_
          refine lv_if_eq (tgt := 44) hx hb dX10_tap_30 (by decide) (fun c1394 => ?_) (fun c1394 => ?_)
          · have k1395 := i_eq c1394
            exfalso
            omega
          · have k1395 := i_ne c1394
            refine lv_aload_n hx hb dX10_tap_33 rfl (lv_at hl 0 rfl) ?_
            refine x_gr C hTH1377 (ci := 10) (k := 50) rfl inX10 (by decide) wF_X10_116 ga0 rg_112 rfl dX10_tap_34 (fun q1396 eq1396 gq1396 => ?_)
            have uq1396 : tpq = q1396 := (m1385).trans eq1396.symm
            subst uq1396
            refine lv_iload_n hx hb dX10_tap_37 rfl (lv_at hl 1 rfl) ?_
            refine x_ai C hTH1377 gtpq rg_146 ⟨by omega, by show _ < ((10 : Nat) : Int); omega⟩ dX10_tap_38 (fun x1397 ex1397 bx1397 => ?_)
            have q0x1397 := congrArg Int32.toInt (ex1397.trans (f1384 _))
            refine lv_bipush (v := 12) hx hb dX10_tap_39 (by decide) ?_
            refine lv_icmp_ne (tgt := 46) hx hb dX10_tap_41 (by decide) (fun c1398 => ?_) (fun c1398 => ?_)
            · have k1399 := i_ne c1398
              refine lv_bipush (v := 12) hx hb dX10_tap_46 (by decide) ?_
              refine lv_iload_n hx hb dX10_tap_48 rfl (lv_at hl 1 rfl) ?_
              refine lv_imul hx hb dX10_tap_49 ?_
              refine lv_topi (fun x1400 ex1400 => ?_)
              have tx1400 := i_mul ex1400 (by rw [n_12]; omega)
              rw [n_12] at tx1400
              refine lv_aload_n hx hb dX10_tap_50 rfl (lv_at hl 0 rfl) ?_
              refine x_gr C hTH1377 (ci := 10) (k := 50) rfl inX10 (by decide) wF_X10_116 ga0 rg_112 rfl dX10_tap_51 (fun q1401 eq1401 gq1401 => ?_)
              have uq1401 : tpq = q1401 := (m1385).trans eq1401.symm
              subst uq1401
              refine lv_iload_n hx hb dX10_tap_54 rfl (lv_at hl 1 rfl) ?_
              refine x_ai C hTH1377 gtpq rg_146 ⟨by omega, by show _ < ((10 : Nat) : Int); omega⟩ dX10_tap_55 (fun x1402 ex1402 bx1402 => ?_)
              have ux1402 : x1397 = x1402 := (ex1397).trans ex1402.symm
              subst ux1402
              refine lv_iadd hx hb dX10_tap_56 ?_
              refine lv_topi (fun x1403 ex1403 => ?_)
              have tx1403 := i_add ex1403 (by omega)
              refine lv_istore (lv' := [(4, .int x1403), (0, .ref a0), (1, .int x1), (2, .int x2), (3, .int x3)]) hx hb dX10_tap_57 hl (by decide) rfl (fun ls1404 hl1405 => ?_)
              refine lv_aload_n hx hb dX10_tap_59 rfl (lv_at hl1405 1 rfl) ?_
              refine x_gr C hTH1377 (ci := 10) (k := 51) rfl inX10 (by decide) wF_X10_119 ga0 rg_112 rfl dX10_tap_60 (fun q1406 eq1406 gq1406 => ?_)
              refine lv_iload hx hb dX10_tap_63 (lv_at hl1405 0 rfl) ?_
              refine lv_iload_n hx hb dX10_tap_65 rfl (lv_at hl1405 3 rfl) ?_
              refine x_iast C hTH1377 hSH1393 gq1406 rg_147 (by omega) (by show _ < ((120 : Nat) : Int); omega) ⟨by have := i_rng x2; omega, by have := i_rng x2; omega⟩ (AE_in gq1406 (by decide)) dX10_tap_66 (fun H1407 locsH1407 hTH1407 hSH1407 wH1407 => ?_)
              have mf1408 : MF K s.heap H1407 a0 [0] := MF.arr wH1407 (G_ne ga0 gq1406 (by decide)) mf1379
              have g1409 : CG (avw K H1407 a0) := CG.congr (fun k hk j => av_arr hTH1377 ga0 wH1407 gq1406 (by decide) (CG_ok 147 (by decide) k hk)) g1380
              have g1410 : TU (avw K H1407 a0) (svw K H1407 a0) := TU.congr (fun k hk j => av_arr hTH1377 ga0 wH1407 gq1406 (by decide) (TU_ok 147 (by decide) k hk)) (fun k hk => sv_arr ga0 wH1407 gq1406 (by decide)) g1381
              have g1411 : WD (avw K H1407 a0) := WD.congr (fun k hk j => av_arr hTH1377 ga0 wH1407 gq1406 (by decide) (WD_ok 147 (by decide) k hk)) g1382
              have g1412 : IM (avw K H1407 a0) := IM.congr (fun k hk j => av_arr hTH1377 ga0 wH1407 gq1406 (by decide) (IM_ok 147 (by decide) k hk)) g1383
              have f1413 : ∀ j : Nat, fI H1407 tpq j = fI s.heap tpq j := fun j => (Wr.neI wH1407 (Or.inl (G_ne gtpq gq1406 (by decide)))).trans (f1384 j)
              have m1414 := m1385.trans (Wr.neR wH1407 (Or.inl (G_ne ga0 gq1406 (by decide)))).symm
              have m1415 := (Wr.neI wH1407 (Or.inl (G_ne ga0 gq1406 (by decide)))).trans m1386
              have m1416 := m1387.trans (Wr.neI wH1407 (Or.inl (G_ne ga0 gq1406 (by decide)))).symm
              have m1417 := ex1397.trans (Wr.neI wH1407 (Or.inl (G_ne gtpq gq1406 (by decide)))).symm
              have m1418 := eq1406.trans (Wr.neR wH1407 (Or.inl (G_ne ga0 gq1406 (by decide)))).symm
              have m1419 := Wr.I wH1407
              have m1419 := m1419.symm
              refine lv_aload_n hx hb dX10_tap_67 rfl (lv_at hl1405 1 rfl) ?_
              refine x_gr C hTH1407 (ci := 10) (k := 52) rfl inX10 (by decide) wF_X10_122 ga0 rg_112 rfl dX10_tap_68 (fun q1420 eq1420 gq1420 => ?_)
              refine lv_iload hx hb dX10_tap_71 (lv_at hl1405 0 rfl) ?_
              refine lv_iload_n hx hb dX10_tap_73 rfl (lv_at hl1405 4 rfl) ?_
              refine x_iast C hTH1407 hSH1407 gq1420 rg_148 (by omega) (by show _ < ((120 : Nat) : Int); omega) ⟨by have := i_rng x3; omega, by have := i_rng x3; omega⟩ (AE_in gq1420 (by decide)) dX10_tap_74 (fun H1421 locsH1421 hTH1421 hSH1421 wH1421 => ?_)
              have mf1422 : MF K s.heap H1421 a0 [0] := MF.arr wH1421 (G_ne ga0 gq1420 (by decide)) mf1408
              have g1423 : CG (avw K H1421 a0) := CG.congr (fun k hk j => av_arr hTH1407 ga0 wH1421 gq1420 (by decide) (CG_ok 148 (by decide) k hk)) g1409
              have g1424 : TU (avw K H1421 a0) (svw K H1421 a0) := TU.congr (fun k hk j => av_arr hTH1407 ga0 wH1421 gq1420 (by decide) (TU_ok 148 (by decide) k hk)) (fun k hk => sv_arr ga0 wH1421 gq1420 (by decide)) g1410
              have g1425 : WD (avw K H1421 a0) := WD.congr (fun k hk j => av_arr hTH1407 ga0 wH1421 gq1420 (by decide) (WD_ok 148 (by decide) k hk)) g1411
              have g1426 : IM (avw K H1421 a0) := IM.congr (fun k hk j => av_arr hTH1407 ga0 wH1421 gq1420 (by decide) (IM_ok 148 (by decide) k hk)) g1412
              have f1427 : ∀ j : Nat, fI H1421 tpq j = fI s.heap tpq j := fun j => (Wr.neI wH1421 (Or.inl (G_ne gtpq gq1420 (by decide)))).trans (f1413 j)
              have m1428 := m1414.trans (Wr.neR wH1421 (Or.inl (G_ne ga0 gq1420 (by decide)))).symm
              have m1429 := (Wr.neI wH1421 (Or.inl (G_ne ga0 gq1420 (by decide)))).trans m1415
              have m1430 := m1416.trans (Wr.neI wH1421 (Or.inl (G_ne ga0 gq1420 (by decide)))).symm
              have m1431 := m1417.trans (Wr.neI wH1421 (Or.inl (G_ne gtpq gq1420 (by decide)))).symm
              have m1432 := m1418.trans (Wr.neR wH1421 (Or.inl (G_ne ga0 gq1420 (by decide)))).symm
              have m1433 := m1419.trans (Wr.neI wH1421 (Or.inl (G_ne gq1406 gq1420 (by decide)))).symm
              have m1434 := eq1420.trans (Wr.neR wH1421 (Or.inl (G_ne ga0 gq1420 (by decide)))).symm
              have m1435 := Wr.I wH1421
              have m1435 := m1435.symm
              refine lv_iconst (v := 0) hx hb dX10_tap_75 (by decide) ?_
              refine lv_istore (lv' := [(5, .int 0), (4, .int x1403), (0, .ref a0), (1, .int x1), (2, .int x2), (3, .int x3)]) hx hb dX10_tap_76 hl1405 (by decide) rfl (fun ls1436 hl1437 => ?_)
              exact J78 ((16 - (0 : Int32).toInt).toNat + 1) ls1436 H1421 locsH1421 (x1403) (0) (lv_sub hl1437 [2, 3, 1, 0] rfl) hTH1421 hSH1421 (by have := i_rng x1; omega) (by have := i_rng x1403; omega) (by decide) m1428 mf1422 g1423 g1424 g1425 g1426 f1427 (by omega) (by omega)
            · have k1399 := i_eq c1398
              exact J44 ls H1377 locsH1393 (lv_sub hl [] rfl) hTH1377 hSH1393 m1385 mf1379 g1380 g1381 g1382 g1383 f1384
        · subst hvH1393
          refine W.eq (g2 := F0 m 30 ls [.int 0]) rfl ?_
          refine lv_if_eq (tgt := 44) hx hb dX10_tap_30 (by decide) (fun c1438 => ?_) (fun c1438 => ?_)
          · have k1439 := i_eq c1438
            exact J44 ls H1377 locsH1393 (lv_sub hl [] rfl) hTH1377 hSH1393 m1385 mf1379 g1380 g1381 g1382 g1383 f1384
          · have k1439 := i_ne c1438
            exfalso
            omega
    · subst hvH1390
      refine W.eq (g2 := F0 m 18 ls [.int 0]) rfl ?_
      refine lv_if_eq (tgt := 44) hx hb dX10_tap_18 (by decide) (fun c1440 => ?_) (fun c1440 => ?_)
      · have k1441 := i_eq c1440
        exact J44 ls H1377 locsH1390 (lv_sub hl [] rfl) hTH1377 hSH1390 m1385 mf1379 g1380 g1381 g1382 g1383 f1384
      · have k1441 := i_ne c1440
        exfalso
        omega

set_option maxHeartbeats 4000000 in
set_option maxRecDepth 100000 in
theorem a_X10_fits (l : Launch) (K : KE) (G : Nat → Option Nat) (H : Heap) {a0 : Nat} (x1 : Int32) (x2 : Int32) (x3 : Int32) (x4 : Int32) {slq : Nat} (hT : TY K G H) (ga0 : G a0 = some 112) (gslq : G slq = some 113) (eslq : slq = fR H a0 (K.1.2 10 4)) (hg_CG : CG (avw K H a0)) (hg_TU : TU (avw K H a0) (svw K H a0)) (hg_WD : WD (avw K H a0)) (hg_IM : IM (avw K H a0)) : MX l K yX10_fits cX10_fits 5 (some .int) 8 197 0 0 [.ref a0, .int x1, .int x2, .int x3, .int x4] H (AE G [112, 151, 141, 115, 152, 114, 153, 140, 139] H.size) (fun v H1 => ∃ (r : Int32), v = some (.int r) ∧ slq = fR H1 a0 (K.1.2 10 4) ∧ (CG (avw K H1 a0)) ∧ (TU (avw K H1 a0) (svw K H1 a0)) ∧ (WD (avw K H1 a0)) ∧ (IM (avw K H1 a0)) ∧ MF K H H1 a0 [0, 56] ∧ TY K G H1) := by
  refine MX.of (by decide +kernel) (Nat.le_of_ble_eq_true rfl) ?_
  intro p e s m below meth c ls Q C hH hl hQ
  subst hH
  have C : CX p K s m _ meth c RX10 cX10_fits 5 (some .int) "fits" := C
  obtain ⟨hx, hb, hml, hown, hts, hKT, hr, hlocks, hnm⟩ := id C
  have hl : lv_has ls 5 [(0, .ref a0), (1, .int x1), (2, .int x2), (3, .int x3), (4, .int x4)] := hl
  have hS : va_S (AE G [112, 151, 141, 115, 152, 114, 153, 140, 139] s.heap.size) s.heap s.heap [] := va_S.rf
  have n_m1 : ((-1) : Int32).toInt = -1 := rfl
  have n_0 : (0 : Int32).toInt = 0 := rfl
  have n_1 : (1 : Int32).toInt = 1 := rfl
  have n_4 : (4 : Int32).toInt = 4 := rfl
  have n_5 : (5 : Int32).toInt = 5 := rfl
  have n_9 : (9 : Int32).toInt = 9 := rfl
  have n_10 : (10 : Int32).toInt = 10 := rfl
  have n_99999 : (99999 : Int32).toInt = 99999 := rfl
  have hap : ∀ x y, x < 74 → y < 74 → x ≠ y → K.1.2 10 x ≠ K.1.2 10 y := x_apart hKT hts inX10 tyX10 tyX10_ok nmX10 rfl
  have mf0 : MF K s.heap s.heap a0 [0, 56] := fun _ _ _ => rfl
  have f0_sls : ∀ j : Nat, fI s.heap slq j = fI s.heap slq j := fun _ => rfl
  have J76 : ∀ (ls541 : Array Slot) (H540 : Heap) (locsH540 : List Loc) , lv_has ls541 5 [] → TY K G H540 → va_S (AE G [112, 151, 141, 115, 152, 114, 153, 140, 139] s.heap.size) s.heap H540 locsH540 → (slq = fR H540 a0 (K.1.2 10 4)) → (MF K s.heap H540 a0 [0, 56]) → (CG (avw K H540 a0)) → (TU (avw K H540 a0) (svw K H540 a0)) → (WD (avw K H540 a0)) → (IM (avw K H540 a0)) → (∀ j : Nat, fI H540 slq j = fI s.heap slq j) → W p l e ({ frames := 8, cells := 0, slots := 0, locals := 197 } : Room) s m (([.ref a0, .int x1, .int x2, .int x3, .int x4] : List Value).toArray) below meth c H540 locsH540 0 0 Q (F0 m 76 ls541 []) := by
    intro ls541 H540 locsH540  hl542 hTH540 hSH540 cy543_0 mfy543 gy543_CG gy543_TU gy543_WD gy543_IM fy543_sls
    refine lv_iconst (v := (-1)) hx hb dX10_fits_76 (by decide) ?_
    exact x_iret C hQ dX10_fits_77 hSH540 (by decide) (by decide) (⟨(-1), rfl, cy543_0, gy543_CG, gy543_TU, gy543_WD, gy543_IM, mfy543, hTH540⟩)
  have J78 : ∀ (ls545 : Array Slot) (H544 : Heap) (locsH544 : List Loc) , lv_has ls545 5 [(0, .ref a0), (1, .int x1), (2, .int x2), (3, .int x3), (4, .int x4)] → TY K G H544 → va_S (AE G [112, 151, 141, 115, 152, 114, 153, 140, 139] s.heap.size) s.heap H544 locsH544 → (0 ≤ x1.toInt ∧ x1.toInt ≤ 9) → (1 ≤ x2.toInt ∧ x2.toInt ≤ 4) → (0 ≤ x3.toInt ∧ x3.toInt ≤ 99999) → (0 ≤ x4.toInt ∧ x4.toInt ≤ 14) → (slq = fR H544 a0 (K.1.2 10 4)) → (MF K s.heap H544 a0 [0, 56]) → (CG (avw K H544 a0)) → (TU (avw K H544 a0) (svw K H544 a0)) → (WD (avw K H544 a0)) → (IM (avw K H544 a0)) → (∀ j : Nat, fI H544 slq j = fI s.heap slq j) → ((1 ≤ (fI s.heap slq x1.toNatClampNeg).toInt ∧ (fI s.heap slq x1.toNatClampNeg).toInt ≤ 5 ∧ (x4.toInt = 0 ∨ x4.toInt = 1 ∨ (10 ≤ x4.toInt ∧ x4.toInt ≤ 9 + (fI s.heap slq x1.toNatClampNeg).toInt)))) → W p l e ({ frames := 8, cells := 0, slots := 0, locals := 197 } : Room) s m (([.ref a0, .int x1, .int x2, .int x3, .int x4] : List Value).toArray) below meth c H544 locsH544 0 0 Q (F0 m 78 ls545 []) := by
    intro ls545 H544 locsH544  hl546 hTH544 hSH544 b547 b548 b549 b550 cy551_0 mfy551 gy551_CG gy551_TU gy551_WD gy551_IM fy551_sls iv78
    have J118 : ∀ (ls553 : Array Slot) (H552 : Heap) (locsH552 : List Loc) (x555 : Int32), lv_has ls553 5 [] → TY K G H552 → va_S (AE G [112, 151, 141, 115, 152, 114, 153, 140, 139] s.heap.size) s.heap H552 locsH552 → (slq = fR H552 a0 (K.1.2 10 4)) → (MF K s.heap H552 a0 [0, 56]) → (CG (avw K H552 a0)) → (TU (avw K H552 a0) (svw K H552 a0)) → (WD (avw K H552 a0)) → (IM (avw K H552 a0)) → (∀ j : Nat, fI H552 slq j = fI s.heap slq j) → W p l e ({ frames := 8, cells := 0, slots := 0, locals := 197 } : Room) s m (([.ref a0, .int x1, .int x2, .int x3, .int x4] : List Value).toArray) below meth c H552 locsH552 0 0 Q (F0 m 118 ls553 [.int x555]) := by
      intro ls553 H552 locsH552 x555 hl554 hTH552 hSH552 cy556_0 mfy556 gy556_CG gy556_TU gy556_WD gy556_IM fy556_sls
      exact x_iret C hQ dX10_fits_118 hSH552 (by decide) (by decide) (⟨x555, rfl, cy556_0, gy556_CG, gy556_TU, gy556_WD, gy556_IM, mfy556, hTH552⟩)
    refine lv_aload_n hx hb dX10_fits_78 rfl (lv_at hl546 0 rfl) ?_
    refine lv_iload_n hx hb dX10_fits_79 rfl (lv_at hl546 1 rfl) ?_
    refine lv_iload_n hx hb dX10_fits_80 rfl (lv_at hl546 2 rfl) ?_
    refine lv_iload_n hx hb dX10_fits_81 rfl (lv_at hl546 3 rfl) ?_
    obtain ⟨q557, eq557⟩ : ∃ z : Nat, z = fR H544 a0 (K.1.2 10 45) := ⟨_, rfl⟩
    have gq557 := ty_fr (q := q557) (k := 45) (u := 141) eq557 hTH544 ga0 rg_112 rfl
    obtain ⟨x558, ex558⟩ : ∃ z : Int32, z = fI H544 a0 (K.1.2 10 56) := ⟨_, rfl⟩
    have bx558 := ty_fi (x := x558) (k := 56) ex558 hTH544 ga0 rg_112 rfl
    obtain ⟨x559, ex559⟩ : ∃ z : Int32, z = fI H544 slq (x1 : Int32).toNatClampNeg := ⟨_, rfl⟩
    have bx559 := ty_ai (x := x559) ex559 hTH544 gslq rg_113 (by omega)
    have q0x559 := congrArg Int32.toInt (ex559.trans (fy551_sls _))
    refine x_V (As := [.int x1, .int x2, .int x3]) (rest := []) C (a_X10_findsFits l K G H544 (x1) (x2) (x3) (x558) (x559) hTH544 ga0 (by omega) (by omega) gslq cy551_0 gq557 eq557 ex558 ex559 gy551_CG gy551_TU gy551_WD gy551_IM (by omega) (by omega)) yo_X10_findsFits wM_X10_387 ⟨⟨by decide, by decide⟩, by decide, by decide⟩ (x_rv C hTH544 (ci := 10) rfl ga0 rg_112) rfl hl546.1 rfl (Nat.le_of_ble_eq_true rfl) dX10_fits_82 hSH544 (AE_sub (fun _ _ => rfl) (by decide) hSH544.1) (fun vH560 H560 locsH560 pH560 zH560 kH560 hSH560 => ?_)
    obtain ⟨x561, hvH560, ex561, m562, m563, g564, g565, g566, g567, mf568, hTH560⟩ := pH560
    subst hvH560
    have f569 : ∀ j : Nat, fI H560 slq j = fI s.heap slq j := fun j => (fI_kept (x_lt hTH544 kH560 gslq (by decide))).trans (fy551_sls j)
    have m570 := (ex559).trans (fI_kept (x_lt hTH544 kH560 gslq (by decide))).symm
    have m571 := (cy551_0).trans (MF.r mf568 (k := 4) (by decide) (by decide)).symm
    have m572 := (eq557).trans (MF.r mf568 (k := 45) (by decide) (by decide)).symm
    have mf573 : MF K s.heap H560 a0 [0, 56] := MF.trans mfy551 mf568 (by decide)
    have bx561 := ty_fi (x := x561) (k := 56) ex561 hTH560 ga0 rg_112 rfl
    refine W.eq (g2 := F0 m 85 ls545 []) rfl ?_
    refine lv_iload hx hb dX10_fits_85 (lv_at hl546 4 rfl) ?_
    refine lv_if_ne (tgt := 95) hx hb dX10_fits_87 (by decide) (fun c574 => ?_) (fun c574 => ?_)
    · have k575 := i_ne c574
      refine lv_iload hx hb dX10_fits_95 (lv_at hl546 4 rfl) ?_
      refine lv_iconst (v := 1) hx hb dX10_fits_97 (by decide) ?_
      refine lv_icmp_ne (tgt := 109) hx hb dX10_fits_98 (by decide) (fun c576 => ?_) (fun c576 => ?_)
      · have k577 := i_ne c576
        refine lv_aload_n hx hb dX10_fits_109 rfl (lv_at hl546 0 rfl) ?_
        refine lv_iload hx hb dX10_fits_110 (lv_at hl546 4 rfl) ?_
        refine lv_bipush (v := 10) hx hb dX10_fits_112 (by decide) ?_
        refine lv_isub hx hb dX10_fits_114 ?_
        refine lv_topi (fun x578 ex578 => ?_)
        have tx578 := i_sub ex578 (by omega)
        refine x_V (As := [.int x578]) (rest := []) C (a_X10_sureOf l K G H560 (x578) hTH560 ga0 (by omega)) yo_X10_sureOf wM_X10_393 ⟨⟨by decide, by decide⟩, by decide, by decide⟩ (x_rv C hTH560 (ci := 10) rfl ga0 rg_112) rfl hl546.1 rfl (Nat.le_of_ble_eq_true rfl) dX10_fits_115 hSH560 (AE_sub (fun _ _ => rfl) (by decide) hSH560.1) (fun vH579 H579 locsH579 pH579 zH579 kH579 hSH579 => ?_)
        obtain ⟨x580, hvH579, hTH579⟩ := pH579
        subst hvH579
        have mf581 : MF K s.heap H579 a0 [0, 56] := MF.eff (x_lt hTH560 kH579 ga0 (by decide)) mf573
        have g582 : CG (avw K H579 a0) := CG.congr (fun k hk j => av_eff hTH560 kH579 ga0 (by decide) (CG_eff [] (by decide) k hk)) g564
        have g583 : TU (avw K H579 a0) (svw K H579 a0) := TU.congr (fun k hk j => av_eff hTH560 kH579 ga0 (by decide) (TU_eff [] (by decide) k hk)) (fun k hk => sv_eff hTH560 kH579 ga0 (by decide)) g565
        have g584 : WD (avw K H579 a0) := WD.congr (fun k hk j => av_eff hTH560 kH579 ga0 (by decide) (WD_eff [] (by decide) k hk)) g566
        have g585 : IM (avw K H579 a0) := IM.congr (fun k hk j => av_eff hTH560 kH579 ga0 (by decide) (IM_eff [] (by decide) k hk)) g567
        have f586 : ∀ j : Nat, fI H579 slq j = fI s.heap slq j := fun j => (fI_kept (x_lt hTH560 kH579 gslq (by decide))).trans (f569 j)
        have m587 := (m570).trans (fI_kept (x_lt hTH560 kH579 gslq (by decide))).symm
        have m588 := (m562).trans (fR_kept (x_lt hTH560 kH579 ga0 (by decide))).symm
        have m589 := (m563).trans (fR_kept (x_lt hTH560 kH579 ga0 (by decide))).symm
        have m590 := (ex561).trans (fI_kept (x_lt hTH560 kH579 ga0 (by decide))).symm
        refine W.eq (g2 := F0 m 118 ls545 [.int x580]) rfl ?_
        exact J118 ls545 H579 locsH579 (x580) (lv_sub hl546 [] rfl) hTH579 hSH579 m588 mf581 g582 g583 g584 g585 f586
      · have k577 := i_eq c576
        refine lv_aload_n hx hb dX10_fits_101 rfl (lv_at hl546 0 rfl) ?_
        refine lv_iload_n hx hb dX10_fits_102 rfl (lv_at hl546 1 rfl) ?_
        refine x_V (As := [.int x1]) (rest := []) C (a_X10_nextPass l K G H560 (x1) (x559) hTH560 ga0 (by omega) gslq m562 m570 g564 (by omega)) yo_X10_nextPass wM_X10_390 ⟨⟨by decide, by decide⟩, by decide, by decide⟩ (x_rv C hTH560 (ci := 10) rfl ga0 rg_112) rfl hl546.1 rfl (Nat.le_of_ble_eq_true rfl) dX10_fits_103 hSH560 (AE_sub (fun _ _ => rfl) (by decide) hSH560.1) (fun vH591 H591 locsH591 pH591 zH591 kH591 hSH591 => ?_)
        obtain ⟨x592, hvH591, hTH591⟩ := pH591
        subst hvH591
        have mf593 : MF K s.heap H591 a0 [0, 56] := MF.eff (x_lt hTH560 kH591 ga0 (by decide)) mf573
        have g594 : CG (avw K H591 a0) := CG.congr (fun k hk j => av_eff hTH560 kH591 ga0 (by decide) (CG_eff [114, 115, 153, 140, 139] (by decide) k hk)) g564
        have g595 : TU (avw K H591 a0) (svw K H591 a0) := TU.congr (fun k hk j => av_eff hTH560 kH591 ga0 (by decide) (TU_eff [114, 115, 153, 140, 139] (by decide) k hk)) (fun k hk => sv_eff hTH560 kH591 ga0 (by decide)) g565
        have g596 : WD (avw K H591 a0) := WD.congr (fun k hk j => av_eff hTH560 kH591 ga0 (by decide) (WD_eff [114, 115, 153, 140, 139] (by decide) k hk)) g566
        have g597 : IM (avw K H591 a0) := IM.congr (fun k hk j => av_eff hTH560 kH591 ga0 (by decide) (IM_eff [114, 115, 153, 140, 139] (by decide) k hk)) g567
        have f598 : ∀ j : Nat, fI H591 slq j = fI s.heap slq j := fun j => (fI_kept (x_lt hTH560 kH591 gslq (by decide))).trans (f569 j)
        have m599 := (m570).trans (fI_kept (x_lt hTH560 kH591 gslq (by decide))).symm
        have m600 := (m562).trans (fR_kept (x_lt hTH560 kH591 ga0 (by decide))).symm
        have m601 := (m563).trans (fR_kept (x_lt hTH560 kH591 ga0 (by decide))).symm
        have m602 := (ex561).trans (fI_kept (x_lt hTH560 kH591 ga0 (by decide))).symm
        refine W.eq (g2 := F0 m 106 ls545 [.int x592]) rfl ?_
        refine lv_goto (tgt := 118) hx hb dX10_fits_106 (by decide) ?_
        exact J118 ls545 H591 locsH591 (x592) (lv_sub hl546 [] rfl) hTH591 hSH591 m600 mf593 g594 g595 g596 g597 f598
    · have k575 := i_eq c574
      refine lv_aload_n hx hb dX10_fits_90 rfl (lv_at hl546 0 rfl) ?_
      refine x_gi C hTH560 (ci := 10) (k := 56) rfl inX10 (by decide) wF_X10_378 ga0 rg_112 rfl dX10_fits_91 (fun x603 ex603 bx603 => ?_)
      have ux603 : x561 = x603 := (ex561).trans ex603.symm
      subst ux603
      exact x_iret C hQ dX10_fits_94 hSH560 (by decide) (by decide) (⟨x561, rfl, m562, g564, g565, g566, g567, mf573, hTH560⟩)
  refine lv_aload_n hx hb dX10_fits_0 rfl (lv_at hl 0 rfl) ?_
  refine lv_iconst (v := 0) hx hb dX10_fits_1 (by decide) ?_
  refine x_put C hT hS (ci := 10) (k := 0) (v := .int 0) (ty0 := tyX10) rfl inX10 tyX10_ok nmX10 (by decide) rfl wF_X10_167 ga0 rg_112 rfl rfl (okI (by have := i_rng (0 : Int32); omega) (by have := i_rng (0 : Int32); omega)) rfl rfl (AE_in ga0 (by decide)) dX10_fits_2 (fun H604 locsH604 hTH604 hSH604 wH604 => ?_)
  have mf605 : MF K s.heap H604 a0 [0, 56] := MF.fld hap wH604 (by decide) (by decide) mf0
  have g606 : CG (avw K H604 a0) := CG.congr (fun k hk j => av_fld hT ga0 hap wH604 (by decide) (CG_ok 112 (by decide) k hk) (CG_ne 0 (by decide) k hk)) hg_CG
  have g607 : TU (avw K H604 a0) (svw K H604 a0) := TU.congr (fun k hk j => av_fld hT ga0 hap wH604 (by decide) (TU_ok 112 (by decide) k hk) (TU_ne 0 (by decide) k hk)) (fun k hk => sv_fld hap wH604 (by decide) (TU_slt k hk) (TU_sne 0 (by decide) k hk)) hg_TU
  have g608 : WD (avw K H604 a0) := WD.congr (fun k hk j => av_fld hT ga0 hap wH604 (by decide) (WD_ok 112 (by decide) k hk) (WD_ne 0 (by decide) k hk)) hg_WD
  have g609 : IM (avw K H604 a0) := IM.congr (fun k hk j => av_fld hT ga0 hap wH604 (by decide) (IM_ok 112 (by decide) k hk) (IM_ne 0 (by decide) k hk)) hg_IM
  have f610 : ∀ j : Nat, fI H604 slq j = fI s.heap slq j := fun j => (Wr.neI wH604 (Or.inl (G_ne gslq ga0 (by decide)))).trans (f0_sls j)
  have m611 := eslq.trans (Wr.neR wH604 (Or.inr (x_apart hKT hts inX10 tyX10 tyX10_ok nmX10 rfl 4 0 (by decide) (by decide) (by decide)))).symm
  have m612 := Wr.I wH604
  refine lv_aload_n hx hb dX10_fits_5 rfl (lv_at hl 0 rfl) ?_
  refine lv_iload_n hx hb dX10_fits_6 rfl (lv_at hl 1 rfl) ?_
  obtain ⟨x613, ex613⟩ : ∃ z : Int32, z = fI H604 a0 (K.1.2 10 1) := ⟨_, rfl⟩
  have bx613 := ty_fi (x := x613) (k := 1) ex613 hTH604 ga0 rg_112 rfl
  refine x_V (As := [.int x1]) (rest := []) C (a_X10_isBar l K G H604 (x1) (x613) hTH604 ga0 ex613) yo_X10_isBar wM_X10_173 ⟨⟨by decide, by decide⟩, by decide, by decide⟩ (x_rv C hTH604 (ci := 10) rfl ga0 rg_112) rfl hl.1 rfl (Nat.le_of_ble_eq_true rfl) dX10_fits_7 hSH604 (AE_sub (fun _ _ => rfl) (by decide) hSH604.1) (fun vH614 H614 locsH614 pH614 zH614 kH614 hSH614 => ?_)
  obtain ⟨x615, hvH614, bx615, hrH614, hTH614⟩ := pH614
  subst hvH614
  have mf616 : MF K s.heap H614 a0 [0, 56] := MF.eff (x_lt hTH604 kH614 ga0 (by decide)) mf605
  have g617 : CG (avw K H614 a0) := CG.congr (fun k hk j => av_eff hTH604 kH614 ga0 (by decide) (CG_eff [] (by decide) k hk)) g606
  have g618 : TU (avw K H614 a0) (svw K H614 a0) := TU.congr (fun k hk j => av_eff hTH604 kH614 ga0 (by decide) (TU_eff [] (by decide) k hk)) (fun k hk => sv_eff hTH604 kH614 ga0 (by decide)) g607
  have g619 : WD (avw K H614 a0) := WD.congr (fun k hk j => av_eff hTH604 kH614 ga0 (by decide) (WD_eff [] (by decide) k hk)) g608
  have g620 : IM (avw K H614 a0) := IM.congr (fun k hk j => av_eff hTH604 kH614 ga0 (by decide) (IM_eff [] (by decide) k hk)) g609
  have f621 : ∀ j : Nat, fI H614 slq j = fI s.heap slq j := fun j => (fI_kept (x_lt hTH604 kH614 gslq (by decide))).trans (f610 j)
  have m622 := (m611).trans (fR_kept (x_lt hTH604 kH614 ga0 (by decide))).symm
  have m623 := (fI_kept (x_lt hTH604 kH614 ga0 (by decide))).trans m612
  have m624 := (ex613).trans (fI_kept (x_lt hTH604 kH614 ga0 (by decide))).symm
  refine W.eq (g2 := F0 m 10 ls [.int x615]) rfl ?_
  refine lv_if_eq (tgt := 76) hx hb dX10_fits_10 (by decide) (fun c625 => ?_) (fun c625 => ?_)
  · have k626 := i_eq c625
    exact J76 ls H614 locsH614 (lv_sub hl [] rfl) hTH614 hSH614 m622 mf616 g617 g618 g619 g620 f621
  · have k626 := i_ne c625
    refine lv_aload_n hx hb dX10_fits_13 rfl (lv_at hl 0 rfl) ?_
    refine x_gr C hTH614 (ci := 10) (k := 4) rfl inX10 (by decide) wF_X10_13 ga0 rg_112 rfl dX10_fits_14 (fun q627 eq627 gq627 => ?_)
    have uq627 : slq = q627 := (m622).trans eq627.symm
    subst uq627
    refine lv_iload_n hx hb dX10_fits_17 rfl (lv_at hl 1 rfl) ?_
    refine x_ai C hTH614 gslq rg_113 ⟨by omega, by show _ < ((10 : Nat) : Int); omega⟩ dX10_fits_18 (fun x628 ex628 bx628 => ?_)
    have q0x628 := congrArg Int32.toInt (ex628.trans (f621 _))
    have ux628 := sl_at g618 m622 m624 ex628 (by omega)
    refine lv_iconst (v := 5) hx hb dX10_fits_19 (by decide) ?_
    refine lv_icmp_gt (tgt := 76) hx hb dX10_fits_20 (by decide) (fun c629 => ?_) (fun c629 => ?_)
    · have k630 := i_lt c629
      exact J76 ls H614 locsH614 (lv_sub hl [] rfl) hTH614 hSH614 m622 mf616 g617 g618 g619 g620 f621
    · have k630 := i_nlt c629
      refine lv_aload_n hx hb dX10_fits_23 rfl (lv_at hl 0 rfl) ?_
      refine lv_iload_n hx hb dX10_fits_24 rfl (lv_at hl 2 rfl) ?_
      refine lv_iconst (v := 1) hx hb dX10_fits_25 (by decide) ?_
      refine lv_iconst (v := 4) hx hb dX10_fits_26 (by decide) ?_
      refine x_V (As := [.int x2, .int 1, .int 4]) (rest := []) C (c_X10_isIn l K G H614 (x2) (1) (4) hTH614 ga0) yo_X10_isIn wM_X10_177 ⟨⟨by decide, by decide⟩, by decide, by decide⟩ (x_rv C hTH614 (ci := 10) rfl ga0 rg_112) rfl hl.1 rfl (Nat.le_of_ble_eq_true rfl) dX10_fits_27 hSH614 (AE_sub (fun _ _ => rfl) (by decide) hSH614.1) (fun vH631 H631 locsH631 pH631 zH631 kH631 hSH631 => ?_)
      have hqH631 := pH631.1.symm
      subst hqH631
      rcases pH631.2 with ⟨hvH631, hcH631⟩ | ⟨hvH631, hcH631⟩
      · subst hvH631
        refine W.eq (g2 := F0 m 30 ls [.int 1]) rfl ?_
        refine lv_if_eq (tgt := 76) hx hb dX10_fits_30 (by decide) (fun c632 => ?_) (fun c632 => ?_)
        · have k633 := i_eq c632
          exfalso
          omega
        · have k633 := i_ne c632
          refine lv_aload_n hx hb dX10_fits_33 rfl (lv_at hl 0 rfl) ?_
          refine lv_iload_n hx hb dX10_fits_34 rfl (lv_at hl 3 rfl) ?_
          refine lv_iconst (v := 0) hx hb dX10_fits_35 (by decide) ?_
          refine lv_ldcw (v := 99999) hx hb hown (hts _ wK_X10_308) dX10_fits_36 ?_
          refine x_V (As := [.int x3, .int 0, .int 99999]) (rest := []) C (c_X10_isIn l K G H614 (x3) (0) (99999) hTH614 ga0) yo_X10_isIn wM_X10_177 ⟨⟨by decide, by decide⟩, by decide, by decide⟩ (x_rv C hTH614 (ci := 10) rfl ga0 rg_112) rfl hl.1 rfl (Nat.le_of_ble_eq_true rfl) dX10_fits_39 hSH631 (AE_sub (fun _ _ => rfl) (by decide) hSH631.1) (fun vH634 H634 locsH634 pH634 zH634 kH634 hSH634 => ?_)
          have hqH634 := pH634.1.symm
          subst hqH634
          rcases pH634.2 with ⟨hvH634, hcH634⟩ | ⟨hvH634, hcH634⟩
          · subst hvH634
            refine W.eq (g2 := F0 m 42 ls [.int 1]) rfl ?_
            refine lv_if_eq (tgt := 76) hx hb dX10_fits_42 (by decide) (fun c635 => ?_) (fun c635 => ?_)
            · have k636 := i_eq c635
              exfalso
              omega
            · have k636 := i_ne c635
              refine lv_aload_n hx hb dX10_fits_45 rfl (lv_at hl 0 rfl) ?_
              refine lv_iload hx hb dX10_fits_46 (lv_at hl 4 rfl) ?_
              refine lv_iconst (v := 0) hx hb dX10_fits_48 (by decide) ?_
              refine lv_iconst (v := 1) hx hb dX10_fits_49 (by decide) ?_
              refine x_V (As := [.int x4, .int 0, .int 1]) (rest := []) C (c_X10_isIn l K G H614 (x4) (0) (1) hTH614 ga0) yo_X10_isIn wM_X10_177 ⟨⟨by decide, by decide⟩, by decide, by decide⟩ (x_rv C hTH614 (ci := 10) rfl ga0 rg_112) rfl hl.1 rfl (Nat.le_of_ble_eq_true rfl) dX10_fits_50 hSH634 (AE_sub (fun _ _ => rfl) (by decide) hSH634.1) (fun vH637 H637 locsH637 pH637 zH637 kH637 hSH637 => ?_)
              have hqH637 := pH637.1.symm
              subst hqH637
              rcases pH637.2 with ⟨hvH637, hcH637⟩ | ⟨hvH637, hcH637⟩
              · subst hvH637
                refine W.eq (g2 := F0 m 53 ls [.int 1]) rfl ?_
                refine lv_if_ne (tgt := 78) hx hb dX10_fits_53 (by decide) (fun c638 => ?_) (fun c638 => ?_)
                · have k639 := i_ne c638
                  exact J78 ls H614 locsH637 (lv_sub hl [0, 1, 2, 3, 4] rfl) hTH614 hSH637 (by have := i_rng x1; omega) (by have := i_rng x2; omega) (by have := i_rng x3; omega) (by have := i_rng x4; omega) m622 mf616 g617 g618 g619 g620 f621 (by omega)
                · have k639 := i_eq c638
                  exfalso
                  omega
              · subst hvH637
                refine W.eq (g2 := F0 m 53 ls [.int 0]) rfl ?_
                refine lv_if_ne (tgt := 78) hx hb dX10_fits_53 (by decide) (fun c640 => ?_) (fun c640 => ?_)
                · have k641 := i_ne c640
                  exfalso
                  omega
                · have k641 := i_eq c640
                  refine lv_aload_n hx hb dX10_fits_56 rfl (lv_at hl 0 rfl) ?_
                  refine lv_iload hx hb dX10_fits_57 (lv_at hl 4 rfl) ?_
                  refine lv_bipush (v := 10) hx hb dX10_fits_59 (by decide) ?_
                  refine lv_bipush (v := 9) hx hb dX10_fits_61 (by decide) ?_
                  refine lv_aload_n hx hb dX10_fits_63 rfl (lv_at hl 0 rfl) ?_
                  refine x_gr C hTH614 (ci := 10) (k := 4) rfl inX10 (by decide) wF_X10_13 ga0 rg_112 rfl dX10_fits_64 (fun q642 eq642 gq642 => ?_)
                  have uq642 : slq = q642 := (m622).trans eq642.symm
                  subst uq642
                  refine lv_iload_n hx hb dX10_fits_67 rfl (lv_at hl 1 rfl) ?_
                  refine x_ai C hTH614 gslq rg_113 ⟨by omega, by show _ < ((10 : Nat) : Int); omega⟩ dX10_fits_68 (fun x643 ex643 bx643 => ?_)
                  have ux643 : x628 = x643 := (ex628).trans ex643.symm
                  subst ux643
                  refine lv_iadd hx hb dX10_fits_69 ?_
                  refine lv_topi (fun x644 ex644 => ?_)
                  have tx644 := i_add ex644 (by omega)
                  refine x_V (As := [.int x4, .int 10, .int x644]) (rest := []) C (c_X10_isIn l K G H614 (x4) (10) (x644) hTH614 ga0) yo_X10_isIn wM_X10_177 ⟨⟨by decide, by decide⟩, by decide, by decide⟩ (x_rv C hTH614 (ci := 10) rfl ga0 rg_112) rfl hl.1 rfl (Nat.le_of_ble_eq_true rfl) dX10_fits_70 hSH637 (AE_sub (fun _ _ => rfl) (by decide) hSH637.1) (fun vH645 H645 locsH645 pH645 zH645 kH645 hSH645 => ?_)
                  have hqH645 := pH645.1.symm
                  subst hqH645
                  rcases pH645.2 with ⟨hvH645, hcH645⟩ | ⟨hvH645, hcH645⟩
                  · subst hvH645
                    refine W.eq (g2 := F0 m 73 ls [.int 1]) rfl ?_
                    refine lv_if_ne (tgt := 78) hx hb dX10_fits_73 (by decide) (fun c646 => ?_) (fun c646 => ?_)
                    · have k647 := i_ne c646
                      exact J78 ls H614 locsH645 (lv_sub hl [0, 1, 2, 3, 4] rfl) hTH614 hSH645 (by have := i_rng x1; omega) (by have := i_rng x2; omega) (by have := i_rng x3; omega) (by have := i_rng x4; omega) m622 mf616 g617 g618 g619 g620 f621 (by omega)
                    · have k647 := i_eq c646
                      exfalso
                      omega
                  · subst hvH645
                    refine W.eq (g2 := F0 m 73 ls [.int 0]) rfl ?_
                    refine lv_if_ne (tgt := 78) hx hb dX10_fits_73 (by decide) (fun c648 => ?_) (fun c648 => ?_)
                    · have k649 := i_ne c648
                      exfalso
                      omega
                    · have k649 := i_eq c648
                      exact J76 ls H614 locsH645 (lv_sub hl [] rfl) hTH614 hSH645 m622 mf616 g617 g618 g619 g620 f621
          · subst hvH634
            refine W.eq (g2 := F0 m 42 ls [.int 0]) rfl ?_
            refine lv_if_eq (tgt := 76) hx hb dX10_fits_42 (by decide) (fun c650 => ?_) (fun c650 => ?_)
            · have k651 := i_eq c650
              exact J76 ls H614 locsH634 (lv_sub hl [] rfl) hTH614 hSH634 m622 mf616 g617 g618 g619 g620 f621
            · have k651 := i_ne c650
              exfalso
              omega
      · subst hvH631
        refine W.eq (g2 := F0 m 30 ls [.int 0]) rfl ?_
        refine lv_if_eq (tgt := 76) hx hb dX10_fits_30 (by decide) (fun c652 => ?_) (fun c652 => ?_)
        · have k653 := i_eq c652
          exact J76 ls H614 locsH631 (lv_sub hl [] rfl) hTH614 hSH631 m622 mf616 g617 g618 g619 g620 f621
        · have k653 := i_ne c652
          exfalso
          omega

set_option maxHeartbeats 4000000 in
set_option maxRecDepth 100000 in
theorem a_X10_off (l : Launch) (K : KE) (G : Nat → Option Nat) (H : Heap) {a0 : Nat} (x1 : Int32) (hT : TY K G H) (ga0 : G a0 = some 112) (hg_CG : CG (avw K H a0)) (hg_TU : TU (avw K H a0) (svw K H a0)) (hg_WD : WD (avw K H a0)) (hg_IM : IM (avw K H a0)) : MX l K yX10_off cX10_off 2 (some .int) 6 148 0 0 [.ref a0, .int x1] H (AE G [112, 140, 139] H.size) (fun v H1 => ∃ (r : Int32), v = some (.int r) ∧ (CG (avw K H1 a0)) ∧ (TU (avw K H1 a0) (svw K H1 a0)) ∧ (WD (avw K H1 a0)) ∧ (IM (avw K H1 a0)) ∧ MF K H H1 a0 [0] ∧ TY K G H1) := by
  refine MX.of (by decide +kernel) (Nat.le_of_ble_eq_true rfl) ?_
  intro p e s m below meth c ls Q C hH hl hQ
  subst hH
  have C : CX p K s m _ meth c RX10 cX10_off 2 (some .int) "off" := C
  obtain ⟨hx, hb, hml, hown, hts, hKT, hr, hlocks, hnm⟩ := id C
  have hl : lv_has ls 2 [(0, .ref a0), (1, .int x1)] := hl
  have hS : va_S (AE G [112, 140, 139] s.heap.size) s.heap s.heap [] := va_S.rf
  have n_m1 : ((-1) : Int32).toInt = -1 := rfl
  have n_0 : (0 : Int32).toInt = 0 := rfl
  have n_1 : (1 : Int32).toInt = 1 := rfl
  have hap : ∀ x y, x < 74 → y < 74 → x ≠ y → K.1.2 10 x ≠ K.1.2 10 y := x_apart hKT hts inX10 tyX10 tyX10_ok nmX10 rfl
  have mf0 : MF K s.heap s.heap a0 [0] := fun _ _ _ => rfl
  have J46 : ∀ (ls271 : Array Slot) (H270 : Heap) (locsH270 : List Loc) (x273 : Int32), lv_has ls271 2 [] → TY K G H270 → va_S (AE G [112, 140, 139] s.heap.size) s.heap H270 locsH270 → (MF K s.heap H270 a0 [0]) → (CG (avw K H270 a0)) → (TU (avw K H270 a0) (svw K H270 a0)) → (WD (avw K H270 a0)) → (IM (avw K H270 a0)) → W p l e ({ frames := 6, cells := 0, slots := 0, locals := 148 } : Room) s m (([.ref a0, .int x1] : List Value).toArray) below meth c H270 locsH270 0 0 Q (F0 m 46 ls271 [.int x273]) := by
    intro ls271 H270 locsH270 x273 hl272 hTH270 hSH270 mfy274 gy274_CG gy274_TU gy274_WD gy274_IM
    exact x_iret C hQ dX10_off_46 hSH270 (by decide) (by decide) (⟨x273, rfl, gy274_CG, gy274_TU, gy274_WD, gy274_IM, mfy274, hTH270⟩)
  have J28 : ∀ (ls276 : Array Slot) (H275 : Heap) (locsH275 : List Loc) (x278 : Int32), lv_has ls276 2 [] → TY K G H275 → va_S (AE G [112, 140, 139] s.heap.size) s.heap H275 locsH275 → (0 ≤ x278.toInt ∧ x278.toInt ≤ 1) → (MF K s.heap H275 a0 [0]) → (CG (avw K H275 a0)) → (TU (avw K H275 a0) (svw K H275 a0)) → (WD (avw K H275 a0)) → (IM (avw K H275 a0)) → W p l e ({ frames := 6, cells := 0, slots := 0, locals := 148 } : Room) s m (([.ref a0, .int x1] : List Value).toArray) below meth c H275 locsH275 0 0 Q (F0 m 28 ls276 [.int x278]) := by
    intro ls276 H275 locsH275 x278 hl277 hTH275 hSH275 bx278 mfy279 gy279_CG gy279_TU gy279_WD gy279_IM
    exact x_iret C hQ dX10_off_28 hSH275 (by decide) (by decide) (⟨x278, rfl, gy279_CG, gy279_TU, gy279_WD, gy279_IM, mfy279, hTH275⟩)
  refine lv_aload_n hx hb dX10_off_0 rfl (lv_at hl 0 rfl) ?_
  refine lv_iconst (v := 0) hx hb dX10_off_1 (by decide) ?_
  refine x_put C hT hS (ci := 10) (k := 0) (v := .int 0) (ty0 := tyX10) rfl inX10 tyX10_ok nmX10 (by decide) rfl wF_X10_167 ga0 rg_112 rfl rfl (okI (by have := i_rng (0 : Int32); omega) (by have := i_rng (0 : Int32); omega)) rfl rfl (AE_in ga0 (by decide)) dX10_off_2 (fun H280 locsH280 hTH280 hSH280 wH280 => ?_)
  have mf281 : MF K s.heap H280 a0 [0] := MF.fld hap wH280 (by decide) (by decide) mf0
  have g282 : CG (avw K H280 a0) := CG.congr (fun k hk j => av_fld hT ga0 hap wH280 (by decide) (CG_ok 112 (by decide) k hk) (CG_ne 0 (by decide) k hk)) hg_CG
  have g283 : TU (avw K H280 a0) (svw K H280 a0) := TU.congr (fun k hk j => av_fld hT ga0 hap wH280 (by decide) (TU_ok 112 (by decide) k hk) (TU_ne 0 (by decide) k hk)) (fun k hk => sv_fld hap wH280 (by decide) (TU_slt k hk) (TU_sne 0 (by decide) k hk)) hg_TU
  have g284 : WD (avw K H280 a0) := WD.congr (fun k hk j => av_fld hT ga0 hap wH280 (by decide) (WD_ok 112 (by decide) k hk) (WD_ne 0 (by decide) k hk)) hg_WD
  have g285 : IM (avw K H280 a0) := IM.congr (fun k hk j => av_fld hT ga0 hap wH280 (by decide) (IM_ok 112 (by decide) k hk) (IM_ne 0 (by decide) k hk)) hg_IM
  have m286 := Wr.I wH280
  refine lv_iload_n hx hb dX10_off_5 rfl (lv_at hl 1 rfl) ?_
  refine lv_iconst (v := (-1)) hx hb dX10_off_6 (by decide) ?_
  refine lv_icmp_ne (tgt := 29) hx hb dX10_off_7 (by decide) (fun c287 => ?_) (fun c287 => ?_)
  · have k288 := i_ne c287
    refine lv_aload_n hx hb dX10_off_29 rfl (lv_at hl 0 rfl) ?_
    refine lv_iload_n hx hb dX10_off_30 rfl (lv_at hl 1 rfl) ?_
    refine x_V (As := [.int x1]) (rest := []) C (c_X10_isLaw l K G H280 (x1) hTH280 ga0) yo_X10_isLaw wM_X10_328 ⟨⟨by decide, by decide⟩, by decide, by decide⟩ (x_rv C hTH280 (ci := 10) rfl ga0 rg_112) rfl hl.1 rfl (Nat.le_of_ble_eq_true rfl) dX10_off_31 hSH280 (AE_sub (fun _ _ => rfl) (by decide) hSH280.1) (fun vH289 H289 locsH289 pH289 zH289 kH289 hSH289 => ?_)
    have hqH289 := pH289.1.symm
    subst hqH289
    rcases pH289.2 with ⟨hvH289, hcH289⟩ | ⟨hvH289, hcH289⟩
    · subst hvH289
      refine W.eq (g2 := F0 m 34 ls [.int 1]) rfl ?_
      refine lv_if_eq (tgt := 45) hx hb dX10_off_34 (by decide) (fun c290 => ?_) (fun c290 => ?_)
      · have k291 := i_eq c290
        exfalso
        omega
      · have k291 := i_ne c290
        refine lv_aload_n hx hb dX10_off_37 rfl (lv_at hl 0 rfl) ?_
        refine lv_iload_n hx hb dX10_off_38 rfl (lv_at hl 1 rfl) ?_
        refine x_V (As := [.int x1]) (rest := []) C (a_X10_offOf l K G H280 (x1) hTH280 ga0 (by omega) g282) yo_X10_offOf wM_X10_399 ⟨⟨by decide, by decide⟩, by decide, by decide⟩ (x_rv C hTH280 (ci := 10) rfl ga0 rg_112) rfl hl.1 rfl (Nat.le_of_ble_eq_true rfl) dX10_off_39 hSH289 (AE_sub (fun _ _ => rfl) (by decide) hSH289.1) (fun vH292 H292 locsH292 pH292 zH292 kH292 hSH292 => ?_)
        obtain ⟨x293, hvH292, hTH292⟩ := pH292
        subst hvH292
        have mf294 : MF K s.heap H292 a0 [0] := MF.eff (x_lt hTH280 kH292 ga0 (by decide)) mf281
        have g295 : CG (avw K H292 a0) := CG.congr (fun k hk j => av_eff hTH280 kH292 ga0 (by decide) (CG_eff [140, 139] (by decide) k hk)) g282
        have g296 : TU (avw K H292 a0) (svw K H292 a0) := TU.congr (fun k hk j => av_eff hTH280 kH292 ga0 (by decide) (TU_eff [140, 139] (by decide) k hk)) (fun k hk => sv_eff hTH280 kH292 ga0 (by decide)) g283
        have g297 : WD (avw K H292 a0) := WD.congr (fun k hk j => av_eff hTH280 kH292 ga0 (by decide) (WD_eff [140, 139] (by decide) k hk)) g284
        have g298 : IM (avw K H292 a0) := IM.congr (fun k hk j => av_eff hTH280 kH292 ga0 (by decide) (IM_eff [140, 139] (by decide) k hk)) g285
        have m299 := (fI_kept (x_lt hTH280 kH292 ga0 (by decide))).trans m286
        refine W.eq (g2 := F0 m 42 ls [.int x293]) rfl ?_
        refine lv_goto (tgt := 46) hx hb dX10_off_42 (by decide) ?_
        exact J46 ls H292 locsH292 (x293) (lv_sub hl [] rfl) hTH292 hSH292 mf294 g295 g296 g297 g298
    · subst hvH289
      refine W.eq (g2 := F0 m 34 ls [.int 0]) rfl ?_
      refine lv_if_eq (tgt := 45) hx hb dX10_off_34 (by decide) (fun c300 => ?_) (fun c300 => ?_)
      · have k301 := i_eq c300
        refine lv_iconst (v := (-1)) hx hb dX10_off_45 (by decide) ?_
        exact J46 ls H280 locsH289 ((-1)) (lv_sub hl [] rfl) hTH280 hSH289 mf281 g282 g283 g284 g285
      · have k301 := i_ne c300
        exfalso
        omega
  · have k288 := i_eq c287
    refine lv_aload_n hx hb dX10_off_10 rfl (lv_at hl 0 rfl) ?_
    refine lv_iconst (v := 1) hx hb dX10_off_11 (by decide) ?_
    refine x_V (As := [.int 1]) (rest := []) C (a_X10_offOf l K G H280 (1) hTH280 ga0 (by decide) g282) yo_X10_offOf wM_X10_399 ⟨⟨by decide, by decide⟩, by decide, by decide⟩ (x_rv C hTH280 (ci := 10) rfl ga0 rg_112) rfl hl.1 rfl (Nat.le_of_ble_eq_true rfl) dX10_off_12 hSH280 (AE_sub (fun _ _ => rfl) (by decide) hSH280.1) (fun vH302 H302 locsH302 pH302 zH302 kH302 hSH302 => ?_)
    obtain ⟨x303, hvH302, hTH302⟩ := pH302
    subst hvH302
    have mf304 : MF K s.heap H302 a0 [0] := MF.eff (x_lt hTH280 kH302 ga0 (by decide)) mf281
    have g305 : CG (avw K H302 a0) := CG.congr (fun k hk j => av_eff hTH280 kH302 ga0 (by decide) (CG_eff [140, 139] (by decide) k hk)) g282
    have g306 : TU (avw K H302 a0) (svw K H302 a0) := TU.congr (fun k hk j => av_eff hTH280 kH302 ga0 (by decide) (TU_eff [140, 139] (by decide) k hk)) (fun k hk => sv_eff hTH280 kH302 ga0 (by decide)) g283
    have g307 : WD (avw K H302 a0) := WD.congr (fun k hk j => av_eff hTH280 kH302 ga0 (by decide) (WD_eff [140, 139] (by decide) k hk)) g284
    have g308 : IM (avw K H302 a0) := IM.congr (fun k hk j => av_eff hTH280 kH302 ga0 (by decide) (IM_eff [140, 139] (by decide) k hk)) g285
    have m309 := (fI_kept (x_lt hTH280 kH302 ga0 (by decide))).trans m286
    refine W.eq (g2 := F0 m 15 ls [.int x303]) rfl ?_
    refine lv_aload_n hx hb dX10_off_15 rfl (lv_at hl 0 rfl) ?_
    refine lv_iconst (v := 0) hx hb dX10_off_16 (by decide) ?_
    refine x_V (As := [.int 0]) (rest := [.int x303]) C (a_X10_offOf l K G H302 (0) hTH302 ga0 (by decide) g305) yo_X10_offOf wM_X10_399 ⟨⟨by decide, by decide⟩, by decide, by decide⟩ (x_rv C hTH302 (ci := 10) rfl ga0 rg_112) rfl hl.1 rfl (Nat.le_of_ble_eq_true rfl) dX10_off_17 hSH302 (AE_sub (fun _ _ => rfl) (by decide) hSH302.1) (fun vH310 H310 locsH310 pH310 zH310 kH310 hSH310 => ?_)
    obtain ⟨x311, hvH310, hTH310⟩ := pH310
    subst hvH310
    have mf312 : MF K s.heap H310 a0 [0] := MF.eff (x_lt hTH302 kH310 ga0 (by decide)) mf304
    have g313 : CG (avw K H310 a0) := CG.congr (fun k hk j => av_eff hTH302 kH310 ga0 (by decide) (CG_eff [140, 139] (by decide) k hk)) g305
    have g314 : TU (avw K H310 a0) (svw K H310 a0) := TU.congr (fun k hk j => av_eff hTH302 kH310 ga0 (by decide) (TU_eff [140, 139] (by decide) k hk)) (fun k hk => sv_eff hTH302 kH310 ga0 (by decide)) g306
    have g315 : WD (avw K H310 a0) := WD.congr (fun k hk j => av_eff hTH302 kH310 ga0 (by decide) (WD_eff [140, 139] (by decide) k hk)) g307
    have g316 : IM (avw K H310 a0) := IM.congr (fun k hk j => av_eff hTH302 kH310 ga0 (by decide) (IM_eff [140, 139] (by decide) k hk)) g308
    have m317 := (fI_kept (x_lt hTH302 kH310 ga0 (by decide))).trans m309
    refine W.eq (g2 := F0 m 20 ls [.int x311, .int x303]) rfl ?_
    refine lv_icmp_ge (tgt := 27) hx hb dX10_off_20 (by decide) (fun c318 => ?_) (fun c318 => ?_)
    · have k319 := i_le c318
      refine lv_iconst (v := 0) hx hb dX10_off_27 (by decide) ?_
      exact J28 ls H310 locsH310 (0) (lv_sub hl [] rfl) hTH310 hSH310 (by decide) mf312 g313 g314 g315 g316
    · have k319 := i_nle c318
      refine lv_iconst (v := 1) hx hb dX10_off_23 (by decide) ?_
      refine lv_goto (tgt := 28) hx hb dX10_off_24 (by decide) ?_
      exact J28 ls H310 locsH310 (1) (lv_sub hl [] rfl) hTH310 hSH310 (by decide) mf312 g313 g314 g315 g316

set_option maxHeartbeats 4000000 in
set_option maxRecDepth 100000 in
theorem a_X10_still (l : Launch) (K : KE) (G : Nat → Option Nat) (H : Heap) {a0 : Nat} (x1 : Int32) (x2 : Int32) (x3 : Int32) (hT : TY K G H) (ga0 : G a0 = some 112) (hg_CG : CG (avw K H a0)) (hg_TU : TU (avw K H a0) (svw K H a0)) (hg_WD : WD (avw K H a0)) (hg_IM : IM (avw K H a0)) : MX l K yX10_still cX10_still 4 (some .int) 7 168 0 0 [.ref a0, .int x1, .int x2, .int x3] H (AE G [112, 140, 139] H.size) (fun v H1 => ∃ (r : Int32), v = some (.int r) ∧ (CG (avw K H1 a0)) ∧ (TU (avw K H1 a0) (svw K H1 a0)) ∧ (WD (avw K H1 a0)) ∧ (IM (avw K H1 a0)) ∧ MF K H H1 a0 [0] ∧ TY K G H1) := by
  refine MX.of (by decide +kernel) (Nat.le_of_ble_eq_true rfl) ?_
  intro p e s m below meth c ls Q C hH hl hQ
  subst hH
  have C : CX p K s m _ meth c RX10 cX10_still 4 (some .int) "still" := C
  obtain ⟨hx, hb, hml, hown, hts, hKT, hr, hlocks, hnm⟩ := id C
  have hl : lv_has ls 4 [(0, .ref a0), (1, .int x1), (2, .int x2), (3, .int x3)] := hl
  have hS : va_S (AE G [112, 140, 139] s.heap.size) s.heap s.heap [] := va_S.rf
  have n_m1 : ((-1) : Int32).toInt = -1 := rfl
  have n_0 : (0 : Int32).toInt = 0 := rfl
  have n_1 : (1 : Int32).toInt = 1 := rfl
  have hap : ∀ x y, x < 74 → y < 74 → x ≠ y → K.1.2 10 x ≠ K.1.2 10 y := x_apart hKT hts inX10 tyX10 tyX10_ok nmX10 rfl
  have mf0 : MF K s.heap s.heap a0 [0] := fun _ _ _ => rfl
  have J25 : ∀ (ls295 : Array Slot) (H294 : Heap) (locsH294 : List Loc) , lv_has ls295 4 [] → TY K G H294 → va_S (AE G [112, 140, 139] s.heap.size) s.heap H294 locsH294 → (MF K s.heap H294 a0 [0]) → (CG (avw K H294 a0)) → (TU (avw K H294 a0) (svw K H294 a0)) → (WD (avw K H294 a0)) → (IM (avw K H294 a0)) → W p l e ({ frames := 7, cells := 0, slots := 0, locals := 168 } : Room) s m (([.ref a0, .int x1, .int x2, .int x3] : List Value).toArray) below meth c H294 locsH294 0 0 Q (F0 m 25 ls295 []) := by
    intro ls295 H294 locsH294  hl296 hTH294 hSH294 mfy297 gy297_CG gy297_TU gy297_WD gy297_IM
    refine lv_iconst (v := (-1)) hx hb dX10_still_25 (by decide) ?_
    exact x_iret C hQ dX10_still_26 hSH294 (by decide) (by decide) (⟨(-1), rfl, gy297_CG, gy297_TU, gy297_WD, gy297_IM, mfy297, hTH294⟩)
  have J49 : ∀ (ls299 : Array Slot) (H298 : Heap) (locsH298 : List Loc) (x301 : Int32), lv_has ls299 4 [] → TY K G H298 → va_S (AE G [112, 140, 139] s.heap.size) s.heap H298 locsH298 → (MF K s.heap H298 a0 [0]) → (CG (avw K H298 a0)) → (TU (avw K H298 a0) (svw K H298 a0)) → (WD (avw K H298 a0)) → (IM (avw K H298 a0)) → W p l e ({ frames := 7, cells := 0, slots := 0, locals := 168 } : Room) s m (([.ref a0, .int x1, .int x2, .int x3] : List Value).toArray) below meth c H298 locsH298 0 0 Q (F0 m 49 ls299 [.int x301]) := by
    intro ls299 H298 locsH298 x301 hl300 hTH298 hSH298 mfy302 gy302_CG gy302_TU gy302_WD gy302_IM
    exact x_iret C hQ dX10_still_49 hSH298 (by decide) (by decide) (⟨x301, rfl, gy302_CG, gy302_TU, gy302_WD, gy302_IM, mfy302, hTH298⟩)
  refine lv_aload_n hx hb dX10_still_0 rfl (lv_at hl 0 rfl) ?_
  refine lv_iconst (v := 0) hx hb dX10_still_1 (by decide) ?_
  refine x_put C hT hS (ci := 10) (k := 0) (v := .int 0) (ty0 := tyX10) rfl inX10 tyX10_ok nmX10 (by decide) rfl wF_X10_167 ga0 rg_112 rfl rfl (okI (by have := i_rng (0 : Int32); omega) (by have := i_rng (0 : Int32); omega)) rfl rfl (AE_in ga0 (by decide)) dX10_still_2 (fun H303 locsH303 hTH303 hSH303 wH303 => ?_)
  have mf304 : MF K s.heap H303 a0 [0] := MF.fld hap wH303 (by decide) (by decide) mf0
  have g305 : CG (avw K H303 a0) := CG.congr (fun k hk j => av_fld hT ga0 hap wH303 (by decide) (CG_ok 112 (by decide) k hk) (CG_ne 0 (by decide) k hk)) hg_CG
  have g306 : TU (avw K H303 a0) (svw K H303 a0) := TU.congr (fun k hk j => av_fld hT ga0 hap wH303 (by decide) (TU_ok 112 (by decide) k hk) (TU_ne 0 (by decide) k hk)) (fun k hk => sv_fld hap wH303 (by decide) (TU_slt k hk) (TU_sne 0 (by decide) k hk)) hg_TU
  have g307 : WD (avw K H303 a0) := WD.congr (fun k hk j => av_fld hT ga0 hap wH303 (by decide) (WD_ok 112 (by decide) k hk) (WD_ne 0 (by decide) k hk)) hg_WD
  have g308 : IM (avw K H303 a0) := IM.congr (fun k hk j => av_fld hT ga0 hap wH303 (by decide) (IM_ok 112 (by decide) k hk) (IM_ne 0 (by decide) k hk)) hg_IM
  have m309 := Wr.I wH303
  refine lv_aload_n hx hb dX10_still_5 rfl (lv_at hl 0 rfl) ?_
  refine lv_iload_n hx hb dX10_still_6 rfl (lv_at hl 1 rfl) ?_
  obtain ⟨x310, ex310⟩ : ∃ z : Int32, z = fI H303 a0 (K.1.2 10 1) := ⟨_, rfl⟩
  have bx310 := ty_fi (x := x310) (k := 1) ex310 hTH303 ga0 rg_112 rfl
  refine x_V (As := [.int x1]) (rest := []) C (a_X10_isBar l K G H303 (x1) (x310) hTH303 ga0 ex310) yo_X10_isBar wM_X10_173 ⟨⟨by decide, by decide⟩, by decide, by decide⟩ (x_rv C hTH303 (ci := 10) rfl ga0 rg_112) rfl hl.1 rfl (Nat.le_of_ble_eq_true rfl) dX10_still_7 hSH303 (AE_sub (fun _ _ => rfl) (by decide) hSH303.1) (fun vH311 H311 locsH311 pH311 zH311 kH311 hSH311 => ?_)
  obtain ⟨x312, hvH311, bx312, hrH311, hTH311⟩ := pH311
  subst hvH311
  have mf313 : MF K s.heap H311 a0 [0] := MF.eff (x_lt hTH303 kH311 ga0 (by decide)) mf304
  have g314 : CG (avw K H311 a0) := CG.congr (fun k hk j => av_eff hTH303 kH311 ga0 (by decide) (CG_eff [] (by decide) k hk)) g305
  have g315 : TU (avw K H311 a0) (svw K H311 a0) := TU.congr (fun k hk j => av_eff hTH303 kH311 ga0 (by decide) (TU_eff [] (by decide) k hk)) (fun k hk => sv_eff hTH303 kH311 ga0 (by decide)) g306
  have g316 : WD (avw K H311 a0) := WD.congr (fun k hk j => av_eff hTH303 kH311 ga0 (by decide) (WD_eff [] (by decide) k hk)) g307
  have g317 : IM (avw K H311 a0) := IM.congr (fun k hk j => av_eff hTH303 kH311 ga0 (by decide) (IM_eff [] (by decide) k hk)) g308
  have m318 := (fI_kept (x_lt hTH303 kH311 ga0 (by decide))).trans m309
  have m319 := (ex310).trans (fI_kept (x_lt hTH303 kH311 ga0 (by decide))).symm
  refine W.eq (g2 := F0 m 10 ls [.int x312]) rfl ?_
  refine lv_if_eq (tgt := 25) hx hb dX10_still_10 (by decide) (fun c320 => ?_) (fun c320 => ?_)
  · have k321 := i_eq c320
    exact J25 ls H311 locsH311 (lv_sub hl [] rfl) hTH311 hSH311 mf313 g314 g315 g316 g317
  · have k321 := i_ne c320
    refine lv_aload_n hx hb dX10_still_13 rfl (lv_at hl 0 rfl) ?_
    refine lv_iload_n hx hb dX10_still_14 rfl (lv_at hl 2 rfl) ?_
    refine x_V (As := [.int x2]) (rest := []) C (c_X10_isTone l K G H311 (x2) hTH311 ga0) yo_X10_isTone wM_X10_331 ⟨⟨by decide, by decide⟩, by decide, by decide⟩ (x_rv C hTH311 (ci := 10) rfl ga0 rg_112) rfl hl.1 rfl (Nat.le_of_ble_eq_true rfl) dX10_still_15 hSH311 (AE_sub (fun _ _ => rfl) (by decide) hSH311.1) (fun vH322 H322 locsH322 pH322 zH322 kH322 hSH322 => ?_)
    have hqH322 := pH322.1.symm
    subst hqH322
    rcases pH322.2 with ⟨hvH322, hcH322⟩ | ⟨hvH322, hcH322⟩
    · subst hvH322
      refine W.eq (g2 := F0 m 18 ls [.int 1]) rfl ?_
      refine lv_if_eq (tgt := 25) hx hb dX10_still_18 (by decide) (fun c323 => ?_) (fun c323 => ?_)
      · have k324 := i_eq c323
        exfalso
        omega
      · have k324 := i_ne c323
        refine lv_iload_n hx hb dX10_still_21 rfl (lv_at hl 3 rfl) ?_
        refine lv_if_ge (tgt := 27) hx hb dX10_still_22 (by decide) (fun c325 => ?_) (fun c325 => ?_)
        · have k326 := i_le c325
          refine lv_iload_n hx hb dX10_still_27 rfl (lv_at hl 3 rfl) ?_
          refine lv_if_ne (tgt := 40) hx hb dX10_still_28 (by decide) (fun c327 => ?_) (fun c327 => ?_)
          · have k328 := i_ne c327
            refine lv_aload_n hx hb dX10_still_40 rfl (lv_at hl 0 rfl) ?_
            refine lv_iload_n hx hb dX10_still_41 rfl (lv_at hl 1 rfl) ?_
            refine lv_iload_n hx hb dX10_still_42 rfl (lv_at hl 2 rfl) ?_
            refine lv_iload_n hx hb dX10_still_43 rfl (lv_at hl 3 rfl) ?_
            refine lv_iconst (v := 1) hx hb dX10_still_44 (by decide) ?_
            refine lv_isub hx hb dX10_still_45 ?_
            refine lv_topi (fun x329 ex329 => ?_)
            have tx329 := i_sub ex329 (by have := i_rng x3; omega)
            refine x_V (As := [.int x1, .int x2, .int x329]) (rest := []) C (a_X10_stillAt l K G H311 (x1) (x2) (x329) hTH311 ga0 (by omega) g314) yo_X10_stillAt wM_X10_411 ⟨⟨by decide, by decide⟩, by decide, by decide⟩ (x_rv C hTH311 (ci := 10) rfl ga0 rg_112) rfl hl.1 rfl (Nat.le_of_ble_eq_true rfl) dX10_still_46 hSH322 (AE_sub (fun _ _ => rfl) (by decide) hSH322.1) (fun vH330 H330 locsH330 pH330 zH330 kH330 hSH330 => ?_)
            obtain ⟨x331, hvH330, bx331, hTH330⟩ := pH330
            subst hvH330
            have mf332 : MF K s.heap H330 a0 [0] := MF.eff (x_lt hTH311 kH330 ga0 (by decide)) mf313
            have g333 : CG (avw K H330 a0) := CG.congr (fun k hk j => av_eff hTH311 kH330 ga0 (by decide) (CG_eff [140, 139] (by decide) k hk)) g314
            have g334 : TU (avw K H330 a0) (svw K H330 a0) := TU.congr (fun k hk j => av_eff hTH311 kH330 ga0 (by decide) (TU_eff [140, 139] (by decide) k hk)) (fun k hk => sv_eff hTH311 kH330 ga0 (by decide)) g315
            have g335 : WD (avw K H330 a0) := WD.congr (fun k hk j => av_eff hTH311 kH330 ga0 (by decide) (WD_eff [140, 139] (by decide) k hk)) g316
            have g336 : IM (avw K H330 a0) := IM.congr (fun k hk j => av_eff hTH311 kH330 ga0 (by decide) (IM_eff [140, 139] (by decide) k hk)) g317
            have m337 := (fI_kept (x_lt hTH311 kH330 ga0 (by decide))).trans m318
            have m338 := (m319).trans (fI_kept (x_lt hTH311 kH330 ga0 (by decide))).symm
            refine W.eq (g2 := F0 m 49 ls [.int x331]) rfl ?_
            exact J49 ls H330 locsH330 (x331) (lv_sub hl [] rfl) hTH330 hSH330 mf332 g333 g334 g335 g336
          · have k328 := i_eq c327
            refine lv_aload_n hx hb dX10_still_31 rfl (lv_at hl 0 rfl) ?_
            refine lv_iload_n hx hb dX10_still_32 rfl (lv_at hl 1 rfl) ?_
            refine lv_iload_n hx hb dX10_still_33 rfl (lv_at hl 2 rfl) ?_
            refine x_V (As := [.int x1, .int x2]) (rest := []) C (a_X10_stills l K G H311 (x1) (x2) hTH311 ga0 (by omega) g314) yo_X10_stills wM_X10_408 ⟨⟨by decide, by decide⟩, by decide, by decide⟩ (x_rv C hTH311 (ci := 10) rfl ga0 rg_112) rfl hl.1 rfl (Nat.le_of_ble_eq_true rfl) dX10_still_34 hSH322 (AE_sub (fun _ _ => rfl) (by decide) hSH322.1) (fun vH339 H339 locsH339 pH339 zH339 kH339 hSH339 => ?_)
            obtain ⟨x340, hvH339, hTH339⟩ := pH339
            subst hvH339
            have mf341 : MF K s.heap H339 a0 [0] := MF.eff (x_lt hTH311 kH339 ga0 (by decide)) mf313
            have g342 : CG (avw K H339 a0) := CG.congr (fun k hk j => av_eff hTH311 kH339 ga0 (by decide) (CG_eff [140, 139] (by decide) k hk)) g314
            have g343 : TU (avw K H339 a0) (svw K H339 a0) := TU.congr (fun k hk j => av_eff hTH311 kH339 ga0 (by decide) (TU_eff [140, 139] (by decide) k hk)) (fun k hk => sv_eff hTH311 kH339 ga0 (by decide)) g315
            have g344 : WD (avw K H339 a0) := WD.congr (fun k hk j => av_eff hTH311 kH339 ga0 (by decide) (WD_eff [140, 139] (by decide) k hk)) g316
            have g345 : IM (avw K H339 a0) := IM.congr (fun k hk j => av_eff hTH311 kH339 ga0 (by decide) (IM_eff [140, 139] (by decide) k hk)) g317
            have m346 := (fI_kept (x_lt hTH311 kH339 ga0 (by decide))).trans m318
            have m347 := (m319).trans (fI_kept (x_lt hTH311 kH339 ga0 (by decide))).symm
            refine W.eq (g2 := F0 m 37 ls [.int x340]) rfl ?_
            refine lv_goto (tgt := 49) hx hb dX10_still_37 (by decide) ?_
            exact J49 ls H339 locsH339 (x340) (lv_sub hl [] rfl) hTH339 hSH339 mf341 g342 g343 g344 g345
        · have k326 := i_nle c325
          exact J25 ls H311 locsH322 (lv_sub hl [] rfl) hTH311 hSH322 mf313 g314 g315 g316 g317
    · subst hvH322
      refine W.eq (g2 := F0 m 18 ls [.int 0]) rfl ?_
      refine lv_if_eq (tgt := 25) hx hb dX10_still_18 (by decide) (fun c348 => ?_) (fun c348 => ?_)
      · have k349 := i_eq c348
        exact J25 ls H311 locsH322 (lv_sub hl [] rfl) hTH311 hSH322 mf313 g314 g315 g316 g317
      · have k349 := i_ne c348
        exfalso
        omega

set_option maxHeartbeats 4000000 in
set_option maxRecDepth 100000 in
theorem a_X10_holes (l : Launch) (K : KE) (G : Nat → Option Nat) (H : Heap) {a0 : Nat} (x1 : Int32) (x2 : Int32) (x3 : Int32) (hT : TY K G H) (ga0 : G a0 = some 112) (hg_CG : CG (avw K H a0)) (hg_TU : TU (avw K H a0) (svw K H a0)) (hg_WD : WD (avw K H a0)) (hg_IM : IM (avw K H a0)) : MX l K yX10_holes cX10_holes 4 (some .boolean) 2 43 0 0 [.ref a0, .int x1, .int x2, .int x3] H (AE G [112, 123, 124] H.size) (fun v H1 => ∃ (r : Int32), v = some (.int r) ∧ (0 ≤ r.toInt ∧ r.toInt ≤ 1) ∧ (CG (avw K H1 a0)) ∧ (TU (avw K H1 a0) (svw K H1 a0)) ∧ (WD (avw K H1 a0)) ∧ (IM (avw K H1 a0)) ∧ MF K H H1 a0 [0] ∧ TY K G H1) := by
  refine MX.of (by decide +kernel) (Nat.le_of_ble_eq_true rfl) ?_
  intro p e s m below meth c ls Q C hH hl hQ
  subst hH
  have C : CX p K s m _ meth c RX10 cX10_holes 4 (some .boolean) "holes" := C
  obtain ⟨hx, hb, hml, hown, hts, hKT, hr, hlocks, hnm⟩ := id C
  have hl : lv_has ls 4 [(0, .ref a0), (1, .int x1), (2, .int x2), (3, .int x3)] := hl
  have hS : va_S (AE G [112, 123, 124] s.heap.size) s.heap s.heap [] := va_S.rf
  have n_0 : (0 : Int32).toInt = 0 := rfl
  have n_1 : (1 : Int32).toInt = 1 := rfl
  have hap : ∀ x y, x < 74 → y < 74 → x ≠ y → K.1.2 10 x ≠ K.1.2 10 y := x_apart hKT hts inX10 tyX10 tyX10_ok nmX10 rfl
  have mf0 : MF K s.heap s.heap a0 [0] := fun _ _ _ => rfl
  have J28 : ∀ (ls326 : Array Slot) (H325 : Heap) (locsH325 : List Loc) , lv_has ls326 4 [] → TY K G H325 → va_S (AE G [112, 123, 124] s.heap.size) s.heap H325 locsH325 → (MF K s.heap H325 a0 [0]) → (CG (avw K H325 a0)) → (TU (avw K H325 a0) (svw K H325 a0)) → (WD (avw K H325 a0)) → (IM (avw K H325 a0)) → W p l e ({ frames := 2, cells := 0, slots := 0, locals := 43 } : Room) s m (([.ref a0, .int x1, .int x2, .int x3] : List Value).toArray) below meth c H325 locsH325 0 0 Q (F0 m 28 ls326 []) := by
    intro ls326 H325 locsH325  hl327 hTH325 hSH325 mfy328 gy328_CG gy328_TU gy328_WD gy328_IM
    refine lv_iconst (v := 0) hx hb dX10_holes_28 (by decide) ?_
    exact x_zret C hQ (Or.inl rfl) dX10_holes_29 hSH325 (by decide) (by decide) (⟨0, rfl, by decide, gy328_CG, gy328_TU, gy328_WD, gy328_IM, mfy328, hTH325⟩)
  refine lv_aload_n hx hb dX10_holes_0 rfl (lv_at hl 0 rfl) ?_
  refine lv_iconst (v := 0) hx hb dX10_holes_1 (by decide) ?_
  refine x_put C hT hS (ci := 10) (k := 0) (v := .int 0) (ty0 := tyX10) rfl inX10 tyX10_ok nmX10 (by decide) rfl wF_X10_167 ga0 rg_112 rfl rfl (okI (by have := i_rng (0 : Int32); omega) (by have := i_rng (0 : Int32); omega)) rfl rfl (AE_in ga0 (by decide)) dX10_holes_2 (fun H329 locsH329 hTH329 hSH329 wH329 => ?_)
  have mf330 : MF K s.heap H329 a0 [0] := MF.fld hap wH329 (by decide) (by decide) mf0
  have g331 : CG (avw K H329 a0) := CG.congr (fun k hk j => av_fld hT ga0 hap wH329 (by decide) (CG_ok 112 (by decide) k hk) (CG_ne 0 (by decide) k hk)) hg_CG
  have g332 : TU (avw K H329 a0) (svw K H329 a0) := TU.congr (fun k hk j => av_fld hT ga0 hap wH329 (by decide) (TU_ok 112 (by decide) k hk) (TU_ne 0 (by decide) k hk)) (fun k hk => sv_fld hap wH329 (by decide) (TU_slt k hk) (TU_sne 0 (by decide) k hk)) hg_TU
  have g333 : WD (avw K H329 a0) := WD.congr (fun k hk j => av_fld hT ga0 hap wH329 (by decide) (WD_ok 112 (by decide) k hk) (WD_ne 0 (by decide) k hk)) hg_WD
  have g334 : IM (avw K H329 a0) := IM.congr (fun k hk j => av_fld hT ga0 hap wH329 (by decide) (IM_ok 112 (by decide) k hk) (IM_ne 0 (by decide) k hk)) hg_IM
  have m335 := Wr.I wH329
  refine lv_aload_n hx hb dX10_holes_5 rfl (lv_at hl 0 rfl) ?_
  refine lv_iload_n hx hb dX10_holes_6 rfl (lv_at hl 1 rfl) ?_
  refine lv_iload_n hx hb dX10_holes_7 rfl (lv_at hl 2 rfl) ?_
  obtain ⟨x336, ex336⟩ : ∃ z : Int32, z = fI H329 a0 (K.1.2 10 1) := ⟨_, rfl⟩
  have bx336 := ty_fi (x := x336) (k := 1) ex336 hTH329 ga0 rg_112 rfl
  refine x_V (As := [.int x1, .int x2]) (rest := []) C (a_X10_isSlice l K G H329 (x1) (x2) (x336) hTH329 ga0 ex336) yo_X10_isSlice wM_X10_181 ⟨⟨by decide, by decide⟩, by decide, by decide⟩ (x_rv C hTH329 (ci := 10) rfl ga0 rg_112) rfl hl.1 rfl (Nat.le_of_ble_eq_true rfl) dX10_holes_8 hSH329 (AE_sub (fun _ _ => rfl) (by decide) hSH329.1) (fun vH337 H337 locsH337 pH337 zH337 kH337 hSH337 => ?_)
  obtain ⟨x338, hvH337, bx338, hrH337, hTH337⟩ := pH337
  subst hvH337
  have mf339 : MF K s.heap H337 a0 [0] := MF.eff (x_lt hTH329 kH337 ga0 (by decide)) mf330
  have g340 : CG (avw K H337 a0) := CG.congr (fun k hk j => av_eff hTH329 kH337 ga0 (by decide) (CG_eff [] (by decide) k hk)) g331
  have g341 : TU (avw K H337 a0) (svw K H337 a0) := TU.congr (fun k hk j => av_eff hTH329 kH337 ga0 (by decide) (TU_eff [] (by decide) k hk)) (fun k hk => sv_eff hTH329 kH337 ga0 (by decide)) g332
  have g342 : WD (avw K H337 a0) := WD.congr (fun k hk j => av_eff hTH329 kH337 ga0 (by decide) (WD_eff [] (by decide) k hk)) g333
  have g343 : IM (avw K H337 a0) := IM.congr (fun k hk j => av_eff hTH329 kH337 ga0 (by decide) (IM_eff [] (by decide) k hk)) g334
  have m344 := (fI_kept (x_lt hTH329 kH337 ga0 (by decide))).trans m335
  have m345 := (ex336).trans (fI_kept (x_lt hTH329 kH337 ga0 (by decide))).symm
  refine W.eq (g2 := F0 m 11 ls [.int x338]) rfl ?_
  refine lv_if_eq (tgt := 28) hx hb dX10_holes_11 (by decide) (fun c346 => ?_) (fun c346 => ?_)
  · have k347 := i_eq c346
    exact J28 ls H337 locsH337 (lv_sub hl [] rfl) hTH337 hSH337 mf339 g340 g341 g342 g343
  · have k347 := i_ne c346
    refine lv_aload_n hx hb dX10_holes_14 rfl (lv_at hl 0 rfl) ?_
    refine lv_iload_n hx hb dX10_holes_15 rfl (lv_at hl 1 rfl) ?_
    refine lv_iload_n hx hb dX10_holes_16 rfl (lv_at hl 3 rfl) ?_
    refine x_V (As := [.int x1, .int x3]) (rest := []) C (a_X10_isSlice l K G H337 (x1) (x3) (x336) hTH337 ga0 m345) yo_X10_isSlice wM_X10_181 ⟨⟨by decide, by decide⟩, by decide, by decide⟩ (x_rv C hTH337 (ci := 10) rfl ga0 rg_112) rfl hl.1 rfl (Nat.le_of_ble_eq_true rfl) dX10_holes_17 hSH337 (AE_sub (fun _ _ => rfl) (by decide) hSH337.1) (fun vH348 H348 locsH348 pH348 zH348 kH348 hSH348 => ?_)
    obtain ⟨x349, hvH348, bx349, hrH348, hTH348⟩ := pH348
    subst hvH348
    have mf350 : MF K s.heap H348 a0 [0] := MF.eff (x_lt hTH337 kH348 ga0 (by decide)) mf339
    have g351 : CG (avw K H348 a0) := CG.congr (fun k hk j => av_eff hTH337 kH348 ga0 (by decide) (CG_eff [] (by decide) k hk)) g340
    have g352 : TU (avw K H348 a0) (svw K H348 a0) := TU.congr (fun k hk j => av_eff hTH337 kH348 ga0 (by decide) (TU_eff [] (by decide) k hk)) (fun k hk => sv_eff hTH337 kH348 ga0 (by decide)) g341
    have g353 : WD (avw K H348 a0) := WD.congr (fun k hk j => av_eff hTH337 kH348 ga0 (by decide) (WD_eff [] (by decide) k hk)) g342
    have g354 : IM (avw K H348 a0) := IM.congr (fun k hk j => av_eff hTH337 kH348 ga0 (by decide) (IM_eff [] (by decide) k hk)) g343
    have m355 := (fI_kept (x_lt hTH337 kH348 ga0 (by decide))).trans m344
    have m356 := (m345).trans (fI_kept (x_lt hTH337 kH348 ga0 (by decide))).symm
    refine W.eq (g2 := F0 m 20 ls [.int x349]) rfl ?_
    refine lv_if_eq (tgt := 28) hx hb dX10_holes_20 (by decide) (fun c357 => ?_) (fun c357 => ?_)
    · have k358 := i_eq c357
      exact J28 ls H348 locsH348 (lv_sub hl [] rfl) hTH348 hSH348 mf350 g351 g352 g353 g354
    · have k358 := i_ne c357
      refine lv_iload_n hx hb dX10_holes_23 rfl (lv_at hl 2 rfl) ?_
      refine lv_iload_n hx hb dX10_holes_24 rfl (lv_at hl 3 rfl) ?_
      refine lv_icmp_lt (tgt := 30) hx hb dX10_holes_25 (by decide) (fun c359 => ?_) (fun c359 => ?_)
      · have k360 := i_lt c359
        refine lv_aload_n hx hb dX10_holes_30 rfl (lv_at hl 0 rfl) ?_
        refine x_gr C hTH348 (ci := 10) (k := 14) rfl inX10 (by decide) wF_X10_44 ga0 rg_112 rfl dX10_holes_31 (fun q361 eq361 gq361 => ?_)
        refine lv_iload_n hx hb dX10_holes_34 rfl (lv_at hl 1 rfl) ?_
        refine lv_iload_n hx hb dX10_holes_35 rfl (lv_at hl 2 rfl) ?_
        refine x_iast C hTH348 hSH348 gq361 rg_123 (by omega) (by show _ < ((10 : Nat) : Int); omega) ⟨by have := i_rng x2; omega, by have := i_rng x2; omega⟩ (AE_in gq361 (by decide)) dX10_holes_36 (fun H362 locsH362 hTH362 hSH362 wH362 => ?_)
        have mf363 : MF K s.heap H362 a0 [0] := MF.arr wH362 (G_ne ga0 gq361 (by decide)) mf350
        have g364 : CG (avw K H362 a0) := CG.congr (fun k hk j => av_arr hTH348 ga0 wH362 gq361 (by decide) (CG_ok 123 (by decide) k hk)) g351
        have g365 : TU (avw K H362 a0) (svw K H362 a0) := TU.congr (fun k hk j => av_arr hTH348 ga0 wH362 gq361 (by decide) (TU_ok 123 (by decide) k hk)) (fun k hk => sv_arr ga0 wH362 gq361 (by decide)) g352
        have g366 : WD (avw K H362 a0) := WD.congr (fun k hk j => av_arr hTH348 ga0 wH362 gq361 (by decide) (WD_ok 123 (by decide) k hk)) g353
        have g367 : IM (avw K H362 a0) := IM.congr (fun k hk j => av_arr hTH348 ga0 wH362 gq361 (by decide) (IM_ok 123 (by decide) k hk)) g354
        have m368 := (Wr.neI wH362 (Or.inl (G_ne ga0 gq361 (by decide)))).trans m355
        have m369 := m356.trans (Wr.neI wH362 (Or.inl (G_ne ga0 gq361 (by decide)))).symm
        have m370 := eq361.trans (Wr.neR wH362 (Or.inl (G_ne ga0 gq361 (by decide)))).symm
        have m371 := Wr.I wH362
        have m371 := m371.symm
        refine lv_aload_n hx hb dX10_holes_37 rfl (lv_at hl 0 rfl) ?_
        refine x_gr C hTH362 (ci := 10) (k := 15) rfl inX10 (by decide) wF_X10_47 ga0 rg_112 rfl dX10_holes_38 (fun q372 eq372 gq372 => ?_)
        refine lv_iload_n hx hb dX10_holes_41 rfl (lv_at hl 1 rfl) ?_
        refine lv_iload_n hx hb dX10_holes_42 rfl (lv_at hl 3 rfl) ?_
        refine x_iast C hTH362 hSH362 gq372 rg_124 (by omega) (by show _ < ((10 : Nat) : Int); omega) ⟨by have := i_rng x3; omega, by have := i_rng x3; omega⟩ (AE_in gq372 (by decide)) dX10_holes_43 (fun H373 locsH373 hTH373 hSH373 wH373 => ?_)
        have mf374 : MF K s.heap H373 a0 [0] := MF.arr wH373 (G_ne ga0 gq372 (by decide)) mf363
        have g375 : CG (avw K H373 a0) := CG.congr (fun k hk j => av_arr hTH362 ga0 wH373 gq372 (by decide) (CG_ok 124 (by decide) k hk)) g364
        have g376 : TU (avw K H373 a0) (svw K H373 a0) := TU.congr (fun k hk j => av_arr hTH362 ga0 wH373 gq372 (by decide) (TU_ok 124 (by decide) k hk)) (fun k hk => sv_arr ga0 wH373 gq372 (by decide)) g365
        have g377 : WD (avw K H373 a0) := WD.congr (fun k hk j => av_arr hTH362 ga0 wH373 gq372 (by decide) (WD_ok 124 (by decide) k hk)) g366
        have g378 : IM (avw K H373 a0) := IM.congr (fun k hk j => av_arr hTH362 ga0 wH373 gq372 (by decide) (IM_ok 124 (by decide) k hk)) g367
        have m379 := (Wr.neI wH373 (Or.inl (G_ne ga0 gq372 (by decide)))).trans m368
        have m380 := m369.trans (Wr.neI wH373 (Or.inl (G_ne ga0 gq372 (by decide)))).symm
        have m381 := m370.trans (Wr.neR wH373 (Or.inl (G_ne ga0 gq372 (by decide)))).symm
        have m382 := m371.trans (Wr.neI wH373 (Or.inl (G_ne gq361 gq372 (by decide)))).symm
        have m383 := eq372.trans (Wr.neR wH373 (Or.inl (G_ne ga0 gq372 (by decide)))).symm
        have m384 := Wr.I wH373
        have m384 := m384.symm
        refine lv_iconst (v := 1) hx hb dX10_holes_44 (by decide) ?_
        exact x_zret C hQ (Or.inr rfl) dX10_holes_45 hSH373 (by decide) (by decide) (⟨1, rfl, by decide, g375, g376, g377, g378, mf374, hTH373⟩)
      · have k360 := i_nlt c359
        exact J28 ls H348 locsH348 (lv_sub hl [] rfl) hTH348 hSH348 mf350 g351 g352 g353 g354

set_option maxHeartbeats 4000000 in
set_option maxRecDepth 100000 in
theorem a_X10_state (l : Launch) (K : KE) (G : Nat → Option Nat) (H : Heap) {a0 : Nat} (x1 : Int32) (x2 : Int32) (hT : TY K G H) (ga0 : G a0 = some 112) (hg_CG : CG (avw K H a0)) (hg_TU : TU (avw K H a0) (svw K H a0)) (hg_WD : WD (avw K H a0)) (hg_IM : IM (avw K H a0)) : MX l K yX10_state cX10_state 3 (some .int) 8 190 0 0 [.ref a0, .int x1, .int x2] H (AE G [112, 140, 139] H.size) (fun v H1 => ∃ (r : Int32), v = some (.int r) ∧ (CG (avw K H1 a0)) ∧ (TU (avw K H1 a0) (svw K H1 a0)) ∧ (WD (avw K H1 a0)) ∧ (IM (avw K H1 a0)) ∧ MF K H H1 a0 [0] ∧ TY K G H1) := by
  refine MX.of (by decide +kernel) (Nat.le_of_ble_eq_true rfl) ?_
  intro p e s m below meth c ls Q C hH hl hQ
  subst hH
  have C : CX p K s m _ meth c RX10 cX10_state 3 (some .int) "state" := C
  obtain ⟨hx, hb, hml, hown, hts, hKT, hr, hlocks, hnm⟩ := id C
  have hl : lv_has ls 3 [(0, .ref a0), (1, .int x1), (2, .int x2)] := hl
  have hS : va_S (AE G [112, 140, 139] s.heap.size) s.heap s.heap [] := va_S.rf
  have n_m2 : ((-2) : Int32).toInt = -2 := rfl
  have n_0 : (0 : Int32).toInt = 0 := rfl
  have n_1 : (1 : Int32).toInt = 1 := rfl
  have n_2 : (2 : Int32).toInt = 2 := rfl
  have n_3 : (3 : Int32).toInt = 3 := rfl
  have n_4 : (4 : Int32).toInt = 4 := rfl
  have n_5 : (5 : Int32).toInt = 5 := rfl
  have n_7 : (7 : Int32).toInt = 7 := rfl
  have n_8 : (8 : Int32).toInt = 8 := rfl
  have n_9 : (9 : Int32).toInt = 9 := rfl
  have hap : ∀ x y, x < 74 → y < 74 → x ≠ y → K.1.2 10 x ≠ K.1.2 10 y := x_apart hKT hts inX10 tyX10 tyX10_ok nmX10 rfl
  have mf0 : MF K s.heap s.heap a0 [0] := fun _ _ _ => rfl
  have J144 : ∀ (ls445 : Array Slot) (H444 : Heap) (locsH444 : List Loc) (x447 : Int32), lv_has ls445 3 [] → TY K G H444 → va_S (AE G [112, 140, 139] s.heap.size) s.heap H444 locsH444 → (MF K s.heap H444 a0 [0]) → (CG (avw K H444 a0)) → (TU (avw K H444 a0) (svw K H444 a0)) → (WD (avw K H444 a0)) → (IM (avw K H444 a0)) → W p l e ({ frames := 8, cells := 0, slots := 0, locals := 190 } : Room) s m (([.ref a0, .int x1, .int x2] : List Value).toArray) below meth c H444 locsH444 0 0 Q (F0 m 144 ls445 [.int x447]) := by
    intro ls445 H444 locsH444 x447 hl446 hTH444 hSH444 mfy448 gy448_CG gy448_TU gy448_WD gy448_IM
    exact x_iret C hQ dX10_state_144 hSH444 (by decide) (by decide) (⟨x447, rfl, gy448_CG, gy448_TU, gy448_WD, gy448_IM, mfy448, hTH444⟩)
  have J76 : ∀ (ls450 : Array Slot) (H449 : Heap) (locsH449 : List Loc) (x452 : Int32), lv_has ls450 3 [] → TY K G H449 → va_S (AE G [112, 140, 139] s.heap.size) s.heap H449 locsH449 → (0 ≤ x452.toInt ∧ x452.toInt ≤ 1) → (MF K s.heap H449 a0 [0]) → (CG (avw K H449 a0)) → (TU (avw K H449 a0) (svw K H449 a0)) → (WD (avw K H449 a0)) → (IM (avw K H449 a0)) → W p l e ({ frames := 8, cells := 0, slots := 0, locals := 190 } : Room) s m (([.ref a0, .int x1, .int x2] : List Value).toArray) below meth c H449 locsH449 0 0 Q (F0 m 76 ls450 [.int x452]) := by
    intro ls450 H449 locsH449 x452 hl451 hTH449 hSH449 bx452 mfy453 gy453_CG gy453_TU gy453_WD gy453_IM
    exact x_iret C hQ dX10_state_76 hSH449 (by decide) (by decide) (⟨x452, rfl, gy453_CG, gy453_TU, gy453_WD, gy453_IM, mfy453, hTH449⟩)
  have J57 : ∀ (ls455 : Array Slot) (H454 : Heap) (locsH454 : List Loc) (x457 : Int32), lv_has ls455 3 [] → TY K G H454 → va_S (AE G [112, 140, 139] s.heap.size) s.heap H454 locsH454 → (0 ≤ x457.toInt ∧ x457.toInt ≤ 1) → (MF K s.heap H454 a0 [0]) → (CG (avw K H454 a0)) → (TU (avw K H454 a0) (svw K H454 a0)) → (WD (avw K H454 a0)) → (IM (avw K H454 a0)) → W p l e ({ frames := 8, cells := 0, slots := 0, locals := 190 } : Room) s m (([.ref a0, .int x1, .int x2] : List Value).toArray) below meth c H454 locsH454 0 0 Q (F0 m 57 ls455 [.int x457]) := by
    intro ls455 H454 locsH454 x457 hl456 hTH454 hSH454 bx457 mfy458 gy458_CG gy458_TU gy458_WD gy458_IM
    exact x_iret C hQ dX10_state_57 hSH454 (by decide) (by decide) (⟨x457, rfl, gy458_CG, gy458_TU, gy458_WD, gy458_IM, mfy458, hTH454⟩)
  refine lv_aload_n hx hb dX10_state_0 rfl (lv_at hl 0 rfl) ?_
  refine lv_iconst (v := 0) hx hb dX10_state_1 (by decide) ?_
  refine x_put C hT hS (ci := 10) (k := 0) (v := .int 0) (ty0 := tyX10) rfl inX10 tyX10_ok nmX10 (by decide) rfl wF_X10_167 ga0 rg_112 rfl rfl (okI (by have := i_rng (0 : Int32); omega) (by have := i_rng (0 : Int32); omega)) rfl rfl (AE_in ga0 (by decide)) dX10_state_2 (fun H459 locsH459 hTH459 hSH459 wH459 => ?_)
  have mf460 : MF K s.heap H459 a0 [0] := MF.fld hap wH459 (by decide) (by decide) mf0
  have g461 : CG (avw K H459 a0) := CG.congr (fun k hk j => av_fld hT ga0 hap wH459 (by decide) (CG_ok 112 (by decide) k hk) (CG_ne 0 (by decide) k hk)) hg_CG
  have g462 : TU (avw K H459 a0) (svw K H459 a0) := TU.congr (fun k hk j => av_fld hT ga0 hap wH459 (by decide) (TU_ok 112 (by decide) k hk) (TU_ne 0 (by decide) k hk)) (fun k hk => sv_fld hap wH459 (by decide) (TU_slt k hk) (TU_sne 0 (by decide) k hk)) hg_TU
  have g463 : WD (avw K H459 a0) := WD.congr (fun k hk j => av_fld hT ga0 hap wH459 (by decide) (WD_ok 112 (by decide) k hk) (WD_ne 0 (by decide) k hk)) hg_WD
  have g464 : IM (avw K H459 a0) := IM.congr (fun k hk j => av_fld hT ga0 hap wH459 (by decide) (IM_ok 112 (by decide) k hk) (IM_ne 0 (by decide) k hk)) hg_IM
  have m465 := Wr.I wH459
  refine lv_aload_n hx hb dX10_state_5 rfl (lv_at hl 0 rfl) ?_
  refine lv_iload_n hx hb dX10_state_6 rfl (lv_at hl 1 rfl) ?_
  obtain ⟨x466, ex466⟩ : ∃ z : Int32, z = fI H459 a0 (K.1.2 10 1) := ⟨_, rfl⟩
  have bx466 := ty_fi (x := x466) (k := 1) ex466 hTH459 ga0 rg_112 rfl
  refine x_V (As := [.int x1]) (rest := []) C (a_X10_isBar l K G H459 (x1) (x466) hTH459 ga0 ex466) yo_X10_isBar wM_X10_173 ⟨⟨by decide, by decide⟩, by decide, by decide⟩ (x_rv C hTH459 (ci := 10) rfl ga0 rg_112) rfl hl.1 rfl (Nat.le_of_ble_eq_true rfl) dX10_state_7 hSH459 (AE_sub (fun _ _ => rfl) (by decide) hSH459.1) (fun vH467 H467 locsH467 pH467 zH467 kH467 hSH467 => ?_)
  obtain ⟨x468, hvH467, bx468, hrH467, hTH467⟩ := pH467
  subst hvH467
  have mf469 : MF K s.heap H467 a0 [0] := MF.eff (x_lt hTH459 kH467 ga0 (by decide)) mf460
  have g470 : CG (avw K H467 a0) := CG.congr (fun k hk j => av_eff hTH459 kH467 ga0 (by decide) (CG_eff [] (by decide) k hk)) g461
  have g471 : TU (avw K H467 a0) (svw K H467 a0) := TU.congr (fun k hk j => av_eff hTH459 kH467 ga0 (by decide) (TU_eff [] (by decide) k hk)) (fun k hk => sv_eff hTH459 kH467 ga0 (by decide)) g462
  have g472 : WD (avw K H467 a0) := WD.congr (fun k hk j => av_eff hTH459 kH467 ga0 (by decide) (WD_eff [] (by decide) k hk)) g463
  have g473 : IM (avw K H467 a0) := IM.congr (fun k hk j => av_eff hTH459 kH467 ga0 (by decide) (IM_eff [] (by decide) k hk)) g464
  have m474 := (fI_kept (x_lt hTH459 kH467 ga0 (by decide))).trans m465
  have m475 := (ex466).trans (fI_kept (x_lt hTH459 kH467 ga0 (by decide))).symm
  refine W.eq (g2 := F0 m 10 ls [.int x468]) rfl ?_
  refine lv_if_ne (tgt := 16) hx hb dX10_state_10 (by decide) (fun c476 => ?_) (fun c476 => ?_)
  · have k477 := i_ne c476
    refine lv_iload_n hx hb dX10_state_16 rfl (lv_at hl 2 rfl) ?_
    refine lv_if_ne (tgt := 27) hx hb dX10_state_17 (by decide) (fun c478 => ?_) (fun c478 => ?_)
    · have k479 := i_ne c478
      refine lv_iload_n hx hb dX10_state_27 rfl (lv_at hl 2 rfl) ?_
      refine lv_iconst (v := 1) hx hb dX10_state_28 (by decide) ?_
      refine lv_icmp_ne (tgt := 39) hx hb dX10_state_29 (by decide) (fun c480 => ?_) (fun c480 => ?_)
      · have k481 := i_ne c480
        refine lv_iload_n hx hb dX10_state_39 rfl (lv_at hl 2 rfl) ?_
        refine lv_iconst (v := 2) hx hb dX10_state_40 (by decide) ?_
        refine lv_icmp_ne (tgt := 58) hx hb dX10_state_41 (by decide) (fun c482 => ?_) (fun c482 => ?_)
        · have k483 := i_ne c482
          refine lv_iload_n hx hb dX10_state_58 rfl (lv_at hl 2 rfl) ?_
          refine lv_iconst (v := 3) hx hb dX10_state_59 (by decide) ?_
          refine lv_icmp_ne (tgt := 77) hx hb dX10_state_60 (by decide) (fun c484 => ?_) (fun c484 => ?_)
          · have k485 := i_ne c484
            refine lv_iload_n hx hb dX10_state_77 rfl (lv_at hl 2 rfl) ?_
            refine lv_iconst (v := 4) hx hb dX10_state_78 (by decide) ?_
            refine lv_icmp_ne (tgt := 89) hx hb dX10_state_79 (by decide) (fun c486 => ?_) (fun c486 => ?_)
            · have k487 := i_ne c486
              refine lv_aload_n hx hb dX10_state_89 rfl (lv_at hl 0 rfl) ?_
              refine lv_iload_n hx hb dX10_state_90 rfl (lv_at hl 2 rfl) ?_
              refine lv_iconst (v := 5) hx hb dX10_state_91 (by decide) ?_
              refine lv_bipush (v := 7) hx hb dX10_state_92 (by decide) ?_
              refine x_V (As := [.int x2, .int 5, .int 7]) (rest := []) C (c_X10_isIn l K G H467 (x2) (5) (7) hTH467 ga0) yo_X10_isIn wM_X10_177 ⟨⟨by decide, by decide⟩, by decide, by decide⟩ (x_rv C hTH467 (ci := 10) rfl ga0 rg_112) rfl hl.1 rfl (Nat.le_of_ble_eq_true rfl) dX10_state_94 hSH467 (AE_sub (fun _ _ => rfl) (by decide) hSH467.1) (fun vH488 H488 locsH488 pH488 zH488 kH488 hSH488 => ?_)
              have hqH488 := pH488.1.symm
              subst hqH488
              rcases pH488.2 with ⟨hvH488, hcH488⟩ | ⟨hvH488, hcH488⟩
              · subst hvH488
                refine W.eq (g2 := F0 m 97 ls [.int 1]) rfl ?_
                refine lv_if_eq (tgt := 113) hx hb dX10_state_97 (by decide) (fun c489 => ?_) (fun c489 => ?_)
                · have k490 := i_eq c489
                  exfalso
                  omega
                · have k490 := i_ne c489
                  refine lv_aload_n hx hb dX10_state_100 rfl (lv_at hl 0 rfl) ?_
                  refine x_gr C hTH467 (ci := 10) (k := 9) rfl inX10 (by decide) wF_X10_29 ga0 rg_112 rfl dX10_state_101 (fun q491 eq491 gq491 => ?_)
                  refine lv_iconst (v := 3) hx hb dX10_state_104 (by decide) ?_
                  refine lv_iload_n hx hb dX10_state_105 rfl (lv_at hl 1 rfl) ?_
                  refine lv_imul hx hb dX10_state_106 ?_
                  refine lv_topi (fun x492 ex492 => ?_)
                  have tx492 := i_mul ex492 (by rw [n_3]; omega)
                  rw [n_3] at tx492
                  refine lv_iload_n hx hb dX10_state_107 rfl (lv_at hl 2 rfl) ?_
                  refine lv_iadd hx hb dX10_state_108 ?_
                  refine lv_topi (fun x493 ex493 => ?_)
                  have tx493 := i_add ex493 (by omega)
                  refine lv_iconst (v := 5) hx hb dX10_state_109 (by decide) ?_
                  refine lv_isub hx hb dX10_state_110 ?_
                  refine lv_topi (fun x494 ex494 => ?_)
                  have tx494 := i_sub ex494 (by omega)
                  refine x_ai C hTH467 gq491 rg_118 ⟨by omega, by show _ < ((30 : Nat) : Int); omega⟩ dX10_state_111 (fun x495 ex495 bx495 => ?_)
                  exact x_iret C hQ dX10_state_112 hSH488 (by decide) (by decide) (⟨x495, rfl, g470, g471, g472, g473, mf469, hTH467⟩)
              · subst hvH488
                refine W.eq (g2 := F0 m 97 ls [.int 0]) rfl ?_
                refine lv_if_eq (tgt := 113) hx hb dX10_state_97 (by decide) (fun c496 => ?_) (fun c496 => ?_)
                · have k497 := i_eq c496
                  refine lv_iload_n hx hb dX10_state_113 rfl (lv_at hl 2 rfl) ?_
                  refine lv_bipush (v := 8) hx hb dX10_state_114 (by decide) ?_
                  refine lv_icmp_ne (tgt := 128) hx hb dX10_state_116 (by decide) (fun c498 => ?_) (fun c498 => ?_)
                  · have k499 := i_ne c498
                    refine lv_iload_n hx hb dX10_state_128 rfl (lv_at hl 2 rfl) ?_
                    refine lv_bipush (v := 9) hx hb dX10_state_129 (by decide) ?_
                    refine lv_icmp_ne (tgt := 142) hx hb dX10_state_131 (by decide) (fun c500 => ?_) (fun c500 => ?_)
                    · have k501 := i_ne c500
                      refine lv_bipush (v := (-2)) hx hb dX10_state_142 (by decide) ?_
                      exact J144 ls H467 locsH488 ((-2)) (lv_sub hl [] rfl) hTH467 hSH488 mf469 g470 g471 g472 g473
                    · have k501 := i_eq c500
                      refine lv_aload_n hx hb dX10_state_134 rfl (lv_at hl 0 rfl) ?_
                      refine lv_iload_n hx hb dX10_state_135 rfl (lv_at hl 1 rfl) ?_
                      refine x_V (As := [.int x1]) (rest := []) C (a_X10_amiss l K G H467 (x1) hTH467 ga0 (by omega) g470) yo_X10_amiss wM_X10_417 ⟨⟨by decide, by decide⟩, by decide, by decide⟩ (x_rv C hTH467 (ci := 10) rfl ga0 rg_112) rfl hl.1 rfl (Nat.le_of_ble_eq_true rfl) dX10_state_136 hSH488 (AE_sub (fun _ _ => rfl) (by decide) hSH488.1) (fun vH502 H502 locsH502 pH502 zH502 kH502 hSH502 => ?_)
                      obtain ⟨x503, hvH502, hTH502⟩ := pH502
                      subst hvH502
                      have mf504 : MF K s.heap H502 a0 [0] := MF.eff (x_lt hTH467 kH502 ga0 (by decide)) mf469
                      have g505 : CG (avw K H502 a0) := CG.congr (fun k hk j => av_eff hTH467 kH502 ga0 (by decide) (CG_eff [140, 139] (by decide) k hk)) g470
                      have g506 : TU (avw K H502 a0) (svw K H502 a0) := TU.congr (fun k hk j => av_eff hTH467 kH502 ga0 (by decide) (TU_eff [140, 139] (by decide) k hk)) (fun k hk => sv_eff hTH467 kH502 ga0 (by decide)) g471
                      have g507 : WD (avw K H502 a0) := WD.congr (fun k hk j => av_eff hTH467 kH502 ga0 (by decide) (WD_eff [140, 139] (by decide) k hk)) g472
                      have g508 : IM (avw K H502 a0) := IM.congr (fun k hk j => av_eff hTH467 kH502 ga0 (by decide) (IM_eff [140, 139] (by decide) k hk)) g473
                      have m509 := (fI_kept (x_lt hTH467 kH502 ga0 (by decide))).trans m474
                      have m510 := (m475).trans (fI_kept (x_lt hTH467 kH502 ga0 (by decide))).symm
                      refine W.eq (g2 := F0 m 139 ls [.int x503]) rfl ?_
                      refine lv_goto (tgt := 144) hx hb dX10_state_139 (by decide) ?_
                      exact J144 ls H502 locsH502 (x503) (lv_sub hl [] rfl) hTH502 hSH502 mf504 g505 g506 g507 g508
                  · have k499 := i_eq c498
                    refine lv_aload_n hx hb dX10_state_119 rfl (lv_at hl 0 rfl) ?_
                    refine x_gr C hTH467 (ci := 10) (k := 50) rfl inX10 (by decide) wF_X10_116 ga0 rg_112 rfl dX10_state_120 (fun q511 eq511 gq511 => ?_)
                    refine lv_iload_n hx hb dX10_state_123 rfl (lv_at hl 1 rfl) ?_
                    refine x_ai C hTH467 gq511 rg_146 ⟨by omega, by show _ < ((10 : Nat) : Int); omega⟩ dX10_state_124 (fun x512 ex512 bx512 => ?_)
                    refine lv_goto (tgt := 144) hx hb dX10_state_125 (by decide) ?_
                    exact J144 ls H467 locsH488 (x512) (lv_sub hl [] rfl) hTH467 hSH488 mf469 g470 g471 g472 g473
                · have k497 := i_ne c496
                  exfalso
                  omega
            · have k487 := i_eq c486
              refine lv_aload_n hx hb dX10_state_82 rfl (lv_at hl 0 rfl) ?_
              refine x_gr C hTH467 (ci := 10) (k := 13) rfl inX10 (by decide) wF_X10_41 ga0 rg_112 rfl dX10_state_83 (fun q513 eq513 gq513 => ?_)
              refine lv_iload_n hx hb dX10_state_86 rfl (lv_at hl 1 rfl) ?_
              refine x_ai C hTH467 gq513 rg_122 ⟨by omega, by show _ < ((10 : Nat) : Int); omega⟩ dX10_state_87 (fun x514 ex514 bx514 => ?_)
              exact x_iret C hQ dX10_state_88 hSH467 (by decide) (by decide) (⟨x514, rfl, g470, g471, g472, g473, mf469, hTH467⟩)
          · have k485 := i_eq c484
            refine lv_aload_n hx hb dX10_state_63 rfl (lv_at hl 0 rfl) ?_
            refine lv_iload_n hx hb dX10_state_64 rfl (lv_at hl 1 rfl) ?_
            refine x_V (As := [.int x1]) (rest := []) C (a_X10_isTrue l K G H467 (x1) hTH467 ga0 (by omega) g470) yo_X10_isTrue wM_X10_414 ⟨⟨by decide, by decide⟩, by decide, by decide⟩ (x_rv C hTH467 (ci := 10) rfl ga0 rg_112) rfl hl.1 rfl (Nat.le_of_ble_eq_true rfl) dX10_state_65 hSH467 (AE_sub (fun _ _ => rfl) (by decide) hSH467.1) (fun vH515 H515 locsH515 pH515 zH515 kH515 hSH515 => ?_)
            obtain ⟨x516, hvH515, bx516, hTH515⟩ := pH515
            subst hvH515
            have mf517 : MF K s.heap H515 a0 [0] := MF.eff (x_lt hTH467 kH515 ga0 (by decide)) mf469
            have g518 : CG (avw K H515 a0) := CG.congr (fun k hk j => av_eff hTH467 kH515 ga0 (by decide) (CG_eff [140, 139] (by decide) k hk)) g470
            have g519 : TU (avw K H515 a0) (svw K H515 a0) := TU.congr (fun k hk j => av_eff hTH467 kH515 ga0 (by decide) (TU_eff [140, 139] (by decide) k hk)) (fun k hk => sv_eff hTH467 kH515 ga0 (by decide)) g471
            have g520 : WD (avw K H515 a0) := WD.congr (fun k hk j => av_eff hTH467 kH515 ga0 (by decide) (WD_eff [140, 139] (by decide) k hk)) g472
            have g521 : IM (avw K H515 a0) := IM.congr (fun k hk j => av_eff hTH467 kH515 ga0 (by decide) (IM_eff [140, 139] (by decide) k hk)) g473
            have m522 := (fI_kept (x_lt hTH467 kH515 ga0 (by decide))).trans m474
            have m523 := (m475).trans (fI_kept (x_lt hTH467 kH515 ga0 (by decide))).symm
            refine W.eq (g2 := F0 m 68 ls [.int x516]) rfl ?_
            refine lv_if_eq (tgt := 75) hx hb dX10_state_68 (by decide) (fun c524 => ?_) (fun c524 => ?_)
            · have k525 := i_eq c524
              refine lv_iconst (v := 0) hx hb dX10_state_75 (by decide) ?_
              exact J76 ls H515 locsH515 (0) (lv_sub hl [] rfl) hTH515 hSH515 (by decide) mf517 g518 g519 g520 g521
            · have k525 := i_ne c524
              refine lv_iconst (v := 1) hx hb dX10_state_71 (by decide) ?_
              refine lv_goto (tgt := 76) hx hb dX10_state_72 (by decide) ?_
              exact J76 ls H515 locsH515 (1) (lv_sub hl [] rfl) hTH515 hSH515 (by decide) mf517 g518 g519 g520 g521
        · have k483 := i_eq c482
          refine lv_aload_n hx hb dX10_state_44 rfl (lv_at hl 0 rfl) ?_
          refine lv_iload_n hx hb dX10_state_45 rfl (lv_at hl 1 rfl) ?_
          refine x_V (As := [.int x1]) (rest := []) C (a_X10_isLost l K G H467 (x1) hTH467 ga0 (by omega) g470) yo_X10_isLost wM_X10_338 ⟨⟨by decide, by decide⟩, by decide, by decide⟩ (x_rv C hTH467 (ci := 10) rfl ga0 rg_112) rfl hl.1 rfl (Nat.le_of_ble_eq_true rfl) dX10_state_46 hSH467 (AE_sub (fun _ _ => rfl) (by decide) hSH467.1) (fun vH526 H526 locsH526 pH526 zH526 kH526 hSH526 => ?_)
          obtain ⟨x527, hvH526, bx527, hTH526⟩ := pH526
          subst hvH526
          have mf528 : MF K s.heap H526 a0 [0] := MF.eff (x_lt hTH467 kH526 ga0 (by decide)) mf469
          have g529 : CG (avw K H526 a0) := CG.congr (fun k hk j => av_eff hTH467 kH526 ga0 (by decide) (CG_eff [140, 139] (by decide) k hk)) g470
          have g530 : TU (avw K H526 a0) (svw K H526 a0) := TU.congr (fun k hk j => av_eff hTH467 kH526 ga0 (by decide) (TU_eff [140, 139] (by decide) k hk)) (fun k hk => sv_eff hTH467 kH526 ga0 (by decide)) g471
          have g531 : WD (avw K H526 a0) := WD.congr (fun k hk j => av_eff hTH467 kH526 ga0 (by decide) (WD_eff [140, 139] (by decide) k hk)) g472
          have g532 : IM (avw K H526 a0) := IM.congr (fun k hk j => av_eff hTH467 kH526 ga0 (by decide) (IM_eff [140, 139] (by decide) k hk)) g473
          have m533 := (fI_kept (x_lt hTH467 kH526 ga0 (by decide))).trans m474
          have m534 := (m475).trans (fI_kept (x_lt hTH467 kH526 ga0 (by decide))).symm
          refine W.eq (g2 := F0 m 49 ls [.int x527]) rfl ?_
          refine lv_if_eq (tgt := 56) hx hb dX10_state_49 (by decide) (fun c535 => ?_) (fun c535 => ?_)
          · have k536 := i_eq c535
            refine lv_iconst (v := 0) hx hb dX10_state_56 (by decide) ?_
            exact J57 ls H526 locsH526 (0) (lv_sub hl [] rfl) hTH526 hSH526 (by decide) mf528 g529 g530 g531 g532
          · have k536 := i_ne c535
            refine lv_iconst (v := 1) hx hb dX10_state_52 (by decide) ?_
            refine lv_goto (tgt := 57) hx hb dX10_state_53 (by decide) ?_
            exact J57 ls H526 locsH526 (1) (lv_sub hl [] rfl) hTH526 hSH526 (by decide) mf528 g529 g530 g531 g532
      · have k481 := i_eq c480
        refine lv_aload_n hx hb dX10_state_32 rfl (lv_at hl 0 rfl) ?_
        refine x_gr C hTH467 (ci := 10) (k := 10) rfl inX10 (by decide) wF_X10_32 ga0 rg_112 rfl dX10_state_33 (fun q537 eq537 gq537 => ?_)
        refine lv_iload_n hx hb dX10_state_36 rfl (lv_at hl 1 rfl) ?_
        refine x_ai C hTH467 gq537 rg_119 ⟨by omega, by show _ < ((10 : Nat) : Int); omega⟩ dX10_state_37 (fun x538 ex538 bx538 => ?_)
        exact x_iret C hQ dX10_state_38 hSH467 (by decide) (by decide) (⟨x538, rfl, g470, g471, g472, g473, mf469, hTH467⟩)
    · have k479 := i_eq c478
      refine lv_aload_n hx hb dX10_state_20 rfl (lv_at hl 0 rfl) ?_
      refine x_gr C hTH467 (ci := 10) (k := 4) rfl inX10 (by decide) wF_X10_13 ga0 rg_112 rfl dX10_state_21 (fun q539 eq539 gq539 => ?_)
      refine lv_iload_n hx hb dX10_state_24 rfl (lv_at hl 1 rfl) ?_
      refine x_ai C hTH467 gq539 rg_113 ⟨by omega, by show _ < ((10 : Nat) : Int); omega⟩ dX10_state_25 (fun x540 ex540 bx540 => ?_)
      exact x_iret C hQ dX10_state_26 hSH467 (by decide) (by decide) (⟨x540, rfl, g470, g471, g472, g473, mf469, hTH467⟩)
  · have k477 := i_eq c476
    refine lv_bipush (v := (-2)) hx hb dX10_state_13 (by decide) ?_
    exact x_iret C hQ dX10_state_15 hSH467 (by decide) (by decide) (⟨(-2), rfl, g470, g471, g472, g473, mf469, hTH467⟩)

set_option maxHeartbeats 4000000 in
set_option maxRecDepth 100000 in
theorem a_X10_in (l : Launch) (K : KE) (G : Nat → Option Nat) (H : Heap) {a0 : Nat} (x1 : Int32) (x2 : Int32) (x3 : Int32) (x4 : Int32) (bs : Int32) (hT : TY K G H) (ga0 : G a0 = some 112) (ebs : bs = fI H a0 (K.1.2 10 1)) (hg_CG : CG (avw K H a0)) (hg_TU : TU (avw K H a0) (svw K H a0)) (hg_WD : WD (avw K H a0)) (hg_IM : IM (avw K H a0)) : MX l K yX10_in cX10_in 8 (some .int) 8 196 0 0 [.ref a0, .int x1, .int x2, .int x3, .int x4] H (AE G [112, 140, 139] H.size) (fun v H1 => ∃ (r : Int32), v = some (.int r) ∧ (CG (avw K H1 a0)) ∧ (TU (avw K H1 a0) (svw K H1 a0)) ∧ (WD (avw K H1 a0)) ∧ (IM (avw K H1 a0)) ∧ MF K H H1 a0 [0] ∧ TY K G H1) := by
  refine MX.of (by decide +kernel) (Nat.le_of_ble_eq_true rfl) ?_
  intro p e s m below meth c ls Q C hH hl hQ
  subst hH
  have C : CX p K s m _ meth c RX10 cX10_in 8 (some .int) "in" := C
  obtain ⟨hx, hb, hml, hown, hts, hKT, hr, hlocks, hnm⟩ := id C
  have hl : lv_has ls 8 [(0, .ref a0), (1, .int x1), (2, .int x2), (3, .int x3), (4, .int x4)] := hl
  have hS : va_S (AE G [112, 140, 139] s.heap.size) s.heap s.heap [] := va_S.rf
  have n_m1 : ((-1) : Int32).toInt = -1 := rfl
  have n_0 : (0 : Int32).toInt = 0 := rfl
  have n_1 : (1 : Int32).toInt = 1 := rfl
  have n_2 : (2 : Int32).toInt = 2 := rfl
  have n_3 : (3 : Int32).toInt = 3 := rfl
  have n_9999 : (9999 : Int32).toInt = 9999 := rfl
  have bbs := ty_fi (x := bs) (k := 1) ebs hT ga0 rg_112 rfl
  have hap : ∀ x y, x < 74 → y < 74 → x ≠ y → K.1.2 10 x ≠ K.1.2 10 y := x_apart hKT hts inX10 tyX10 tyX10_ok nmX10 rfl
  have mf0 : MF K s.heap s.heap a0 [0] := fun _ _ _ => rfl
  have J40 : ∀ (ls1877 : Array Slot) (H1876 : Heap) (locsH1876 : List Loc) , lv_has ls1877 8 [] → TY K G H1876 → va_S (AE G [112, 140, 139] s.heap.size) s.heap H1876 locsH1876 → (bs = fI H1876 a0 (K.1.2 10 1)) → (MF K s.heap H1876 a0 [0]) → (CG (avw K H1876 a0)) → (TU (avw K H1876 a0) (svw K H1876 a0)) → (WD (avw K H1876 a0)) → (IM (avw K H1876 a0)) → W p l e ({ frames := 8, cells := 0, slots := 0, locals := 196 } : Room) s m (([.ref a0, .int x1, .int x2, .int x3, .int x4] : List Value).toArray) below meth c H1876 locsH1876 0 0 Q (F0 m 40 ls1877 []) := by
    intro ls1877 H1876 locsH1876  hl1878 hTH1876 hSH1876 cy1879_0 mfy1879 gy1879_CG gy1879_TU gy1879_WD gy1879_IM
    refine lv_iconst (v := (-1)) hx hb dX10_in_40 (by decide) ?_
    exact x_iret C hQ dX10_in_41 hSH1876 (by decide) (by decide) (⟨(-1), rfl, gy1879_CG, gy1879_TU, gy1879_WD, gy1879_IM, mfy1879, hTH1876⟩)
  have J54 : ∀ (ls1881 : Array Slot) (H1880 : Heap) (locsH1880 : List Loc) , lv_has ls1881 8 [(0, .ref a0), (1, .int x1), (2, .int x2), (3, .int x3), (4, .int x4)] → TY K G H1880 → va_S (AE G [112, 140, 139] s.heap.size) s.heap H1880 locsH1880 → (0 ≤ x1.toInt ∧ x1.toInt ≤ 9) → ((-20) ≤ x2.toInt ∧ x2.toInt ≤ 50) → (0 ≤ x3.toInt ∧ x3.toInt ≤ 99) → (1 ≤ x4.toInt ∧ x4.toInt ≤ 2) → (bs = fI H1880 a0 (K.1.2 10 1)) → (MF K s.heap H1880 a0 [0]) → (CG (avw K H1880 a0)) → (TU (avw K H1880 a0) (svw K H1880 a0)) → (WD (avw K H1880 a0)) → (IM (avw K H1880 a0)) → (x1.toInt < bs.toInt) → W p l e ({ frames := 8, cells := 0, slots := 0, locals := 196 } : Room) s m (([.ref a0, .int x1, .int x2, .int x3, .int x4] : List Value).toArray) below meth c H1880 locsH1880 0 0 Q (F0 m 54 ls1881 []) := by
    intro ls1881 H1880 locsH1880  hl1882 hTH1880 hSH1880 b1883 b1884 b1885 b1886 cy1887_0 mfy1887 gy1887_CG gy1887_TU gy1887_WD gy1887_IM iv54
    refine lv_aload_n hx hb dX10_in_54 rfl (lv_at hl1882 0 rfl) ?_
    refine lv_iload_n hx hb dX10_in_55 rfl (lv_at hl1882 1 rfl) ?_
    refine lv_iload_n hx hb dX10_in_56 rfl (lv_at hl1882 2 rfl) ?_
    refine lv_iload_n hx hb dX10_in_57 rfl (lv_at hl1882 3 rfl) ?_
    refine lv_iload hx hb dX10_in_58 (lv_at hl1882 4 rfl) ?_
    refine lv_iconst (v := 1) hx hb dX10_in_60 (by decide) ?_
    refine lv_isub hx hb dX10_in_61 ?_
    refine lv_topi (fun x1888 ex1888 => ?_)
    have tx1888 := i_sub ex1888 (by omega)
    refine x_V (As := [.int x1, .int x2, .int x3, .int x1888]) (rest := []) C (a_X10_beatOf l K G H1880 (x1) (x2) (x3) (x1888) (bs) hTH1880 ga0 (by omega) (by omega) cy1887_0 gy1887_CG gy1887_TU (by omega)) yo_X10_beatOf wM_X10_434 ⟨⟨by decide, by decide⟩, by decide, by decide⟩ (x_rv C hTH1880 (ci := 10) rfl ga0 rg_112) rfl hl1882.1 rfl (Nat.le_of_ble_eq_true rfl) dX10_in_62 hSH1880 (AE_sub (fun _ _ => rfl) (by decide) hSH1880.1) (fun vH1889 H1889 locsH1889 pH1889 zH1889 kH1889 hSH1889 => ?_)
    obtain ⟨x1890, hvH1889, hTH1889⟩ := pH1889
    subst hvH1889
    have mf1891 : MF K s.heap H1889 a0 [0] := MF.eff (x_lt hTH1880 kH1889 ga0 (by decide)) mfy1887
    have g1892 : CG (avw K H1889 a0) := CG.congr (fun k hk j => av_eff hTH1880 kH1889 ga0 (by decide) (CG_eff [140, 139] (by decide) k hk)) gy1887_CG
    have g1893 : TU (avw K H1889 a0) (svw K H1889 a0) := TU.congr (fun k hk j => av_eff hTH1880 kH1889 ga0 (by decide) (TU_eff [140, 139] (by decide) k hk)) (fun k hk => sv_eff hTH1880 kH1889 ga0 (by decide)) gy1887_TU
    have g1894 : WD (avw K H1889 a0) := WD.congr (fun k hk j => av_eff hTH1880 kH1889 ga0 (by decide) (WD_eff [140, 139] (by decide) k hk)) gy1887_WD
    have g1895 : IM (avw K H1889 a0) := IM.congr (fun k hk j => av_eff hTH1880 kH1889 ga0 (by decide) (IM_eff [140, 139] (by decide) k hk)) gy1887_IM
    have m1896 := (cy1887_0).trans (fI_kept (x_lt hTH1880 kH1889 ga0 (by decide))).symm
    refine W.eq (g2 := F0 m 65 ls1881 [.int x1890]) rfl ?_
    exact x_iret C hQ dX10_in_65 hSH1889 (by decide) (by decide) (⟨x1890, rfl, g1892, g1893, g1894, g1895, mf1891, hTH1889⟩)
  have J89 : ∀ (nf : Nat) (ls1898 : Array Slot) (H1897 : Heap) (locsH1897 : List Loc) (x1901 : Int32) (x1902 : Int32) (x1903 : Int32), lv_has ls1898 8 [(0, .ref a0), (2, .int x2), (5, .int x1901), (6, .int x1902), (7, .int x1903)] → TY K G H1897 → va_S (AE G [112, 140, 139] s.heap.size) s.heap H1897 locsH1897 → ((-20) ≤ x2.toInt ∧ x2.toInt ≤ 50) → (1 ≤ x1902.toInt ∧ x1902.toInt ≤ 9999) → (2 ≤ x1903.toInt ∧ x1903.toInt ≤ 10000) → (bs = fI H1897 a0 (K.1.2 10 1)) → (MF K s.heap H1897 a0 [0]) → (CG (avw K H1897 a0)) → (TU (avw K H1897 a0) (svw K H1897 a0)) → (WD (avw K H1897 a0)) → (IM (avw K H1897 a0)) → (10000 - x1903.toInt < (nf : Int)) → W p l e ({ frames := 8, cells := 0, slots := 0, locals := 196 } : Room) s m (([.ref a0, .int x1, .int x2, .int x3, .int x4] : List Value).toArray) below meth c H1897 locsH1897 0 0 Q (F0 m 89 ls1898 []) := by
    intro nf
    induction nf with
    | zero =>
      intro ls1898 H1897 locsH1897 x1901 x1902 x1903 hl1899 hTH1897 hSH1897 b1900 bx1902 bx1903 cy1904_0 mfy1904 gy1904_CG gy1904_TU gy1904_WD gy1904_IM hm89
      have rx1901 := i_rng x1901
      exfalso
      omega
    | succ nf ih89 =>
      intro ls1898 H1897 locsH1897 x1901 x1902 x1903 hl1899 hTH1897 hSH1897 b1900 bx1902 bx1903 cy1904_0 mfy1904 gy1904_CG gy1904_TU gy1904_WD gy1904_IM hm89
      have rx1901 := i_rng x1901
      have J132 : ∀ (ls1906 : Array Slot) (H1905 : Heap) (locsH1905 : List Loc) (x1908 : Int32), lv_has ls1906 8 [(0, .ref a0), (2, .int x2), (5, .int x1901), (6, .int x1908), (7, .int x1903)] → TY K G H1905 → va_S (AE G [112, 140, 139] s.heap.size) s.heap H1905 locsH1905 → (1 ≤ x1908.toInt ∧ x1908.toInt ≤ 9999) → (2 ≤ x1903.toInt ∧ x1903.toInt ≤ 9999) → (bs = fI H1905 a0 (K.1.2 10 1)) → (MF K s.heap H1905 a0 [0]) → (CG (avw K H1905 a0)) → (TU (avw K H1905 a0) (svw K H1905 a0)) → (WD (avw K H1905 a0)) → (IM (avw K H1905 a0)) → W p l e ({ frames := 8, cells := 0, slots := 0, locals := 196 } : Room) s m (([.ref a0, .int x1, .int x2, .int x3, .int x4] : List Value).toArray) below meth c H1905 locsH1905 0 0 Q (F0 m 132 ls1906 []) := by
        intro ls1906 H1905 locsH1905 x1908 hl1907 hTH1905 hSH1905 bx1908 b1909 cy1910_0 mfy1910 gy1910_CG gy1910_TU gy1910_WD gy1910_IM
        obtain ⟨x1911, ex1911⟩ : ∃ y : Int32, y = x1903 + 1 := ⟨_, rfl⟩
        have tx1911 := i_add ex1911 (by omega)
        refine lv_iinc (v := x1911) (lv' := [(7, .int x1911), (0, .ref a0), (2, .int x2), (5, .int x1901), (6, .int x1908)]) hx hb dX10_in_132 hl1907 (k := 4) rfl (by rw [ex1911]; rfl) (by decide) rfl (fun ls1912 hl1913 => ?_)
        refine lv_goto (tgt := 89) hx hb dX10_in_135 (by decide) ?_
        exact ih89 ls1912 H1905 locsH1905 (x1901) (x1908) (x1911) (lv_sub hl1913 [1, 2, 3, 4, 0] rfl) hTH1905 hSH1905 (by have := i_rng x2; omega) (by have := i_rng x1908; omega) (by have := i_rng x1911; omega) cy1910_0 mfy1910 gy1910_CG gy1910_TU gy1910_WD gy1910_IM (by omega)
      refine lv_iload hx hb dX10_in_89 (lv_at hl1899 4 rfl) ?_
      refine lv_sipush (v := 9999) hx hb dX10_in_91 (by decide) ?_
      refine lv_icmp_gt (tgt := 138) hx hb dX10_in_94 (by decide) (fun c1914 => ?_) (fun c1914 => ?_)
      · have k1915 := i_lt c1914
        refine lv_iload hx hb dX10_in_138 (lv_at hl1899 3 rfl) ?_
        exact x_iret C hQ dX10_in_140 hSH1897 (by decide) (by decide) (⟨x1902, rfl, gy1904_CG, gy1904_TU, gy1904_WD, gy1904_IM, mfy1904, hTH1897⟩)
      · have k1915 := i_nlt c1914
        refine lv_aload_n hx hb dX10_in_97 rfl (lv_at hl1899 0 rfl) ?_
        refine lv_aload_n hx hb dX10_in_98 rfl (lv_at hl1899 0 rfl) ?_
        refine lv_iload hx hb dX10_in_99 (lv_at hl1899 4 rfl) ?_
        refine lv_iload_n hx hb dX10_in_101 rfl (lv_at hl1899 1 rfl) ?_
        refine x_V (As := [.int x1903, .int x2]) (rest := [.ref a0]) C (a_X10_sounds l K G H1897 (x1903) (x2) hTH1897 ga0 (by omega)) yo_X10_sounds wM_X10_422 ⟨⟨by decide, by decide⟩, by decide, by decide⟩ (x_rv C hTH1897 (ci := 10) rfl ga0 rg_112) rfl hl1899.1 rfl (Nat.le_of_ble_eq_true rfl) dX10_in_102 hSH1897 (AE_sub (fun _ _ => rfl) (by decide) hSH1897.1) (fun vH1916 H1916 locsH1916 pH1916 zH1916 kH1916 hSH1916 => ?_)
        obtain ⟨x1917, hvH1916, hTH1916⟩ := pH1916
        subst hvH1916
        have mf1918 : MF K s.heap H1916 a0 [0] := MF.eff (x_lt hTH1897 kH1916 ga0 (by decide)) mfy1904
        have g1919 : CG (avw K H1916 a0) := CG.congr (fun k hk j => av_eff hTH1897 kH1916 ga0 (by decide) (CG_eff [] (by decide) k hk)) gy1904_CG
        have g1920 : TU (avw K H1916 a0) (svw K H1916 a0) := TU.congr (fun k hk j => av_eff hTH1897 kH1916 ga0 (by decide) (TU_eff [] (by decide) k hk)) (fun k hk => sv_eff hTH1897 kH1916 ga0 (by decide)) gy1904_TU
        have g1921 : WD (avw K H1916 a0) := WD.congr (fun k hk j => av_eff hTH1897 kH1916 ga0 (by decide) (WD_eff [] (by decide) k hk)) gy1904_WD
        have g1922 : IM (avw K H1916 a0) := IM.congr (fun k hk j => av_eff hTH1897 kH1916 ga0 (by decide) (IM_eff [] (by decide) k hk)) gy1904_IM
        have m1923 := (cy1904_0).trans (fI_kept (x_lt hTH1897 kH1916 ga0 (by decide))).symm
        refine W.eq (g2 := F0 m 105 ls1898 [.int x1917, .ref a0]) rfl ?_
        refine lv_iload hx hb dX10_in_105 (lv_at hl1899 2 rfl) ?_
        refine lv_isub hx hb dX10_in_107 ?_
        refine lv_topi (fun x1924 ex1924 => ?_)
        refine x_V (As := [.int x1924]) (rest := []) C (a_X10_size l K G H1916 (x1924) hTH1916 ga0) yo_X10_size wM_X10_309 ⟨⟨by decide, by decide⟩, by decide, by decide⟩ (x_rv C hTH1916 (ci := 10) rfl ga0 rg_112) rfl hl1899.1 rfl (Nat.le_of_ble_eq_true rfl) dX10_in_108 hSH1916 (AE_sub (fun _ _ => rfl) (by decide) hSH1916.1) (fun vH1925 H1925 locsH1925 pH1925 zH1925 kH1925 hSH1925 => ?_)
        obtain ⟨x1926, hvH1925, hTH1925⟩ := pH1925
        subst hvH1925
        have mf1927 : MF K s.heap H1925 a0 [0] := MF.eff (x_lt hTH1916 kH1925 ga0 (by decide)) mf1918
        have g1928 : CG (avw K H1925 a0) := CG.congr (fun k hk j => av_eff hTH1916 kH1925 ga0 (by decide) (CG_eff [] (by decide) k hk)) g1919
        have g1929 : TU (avw K H1925 a0) (svw K H1925 a0) := TU.congr (fun k hk j => av_eff hTH1916 kH1925 ga0 (by decide) (TU_eff [] (by decide) k hk)) (fun k hk => sv_eff hTH1916 kH1925 ga0 (by decide)) g1920
        have g1930 : WD (avw K H1925 a0) := WD.congr (fun k hk j => av_eff hTH1916 kH1925 ga0 (by decide) (WD_eff [] (by decide) k hk)) g1921
        have g1931 : IM (avw K H1925 a0) := IM.congr (fun k hk j => av_eff hTH1916 kH1925 ga0 (by decide) (IM_eff [] (by decide) k hk)) g1922
        have m1932 := (m1923).trans (fI_kept (x_lt hTH1916 kH1925 ga0 (by decide))).symm
        refine W.eq (g2 := F0 m 111 ls1898 [.int x1926]) rfl ?_
        refine lv_aload_n hx hb dX10_in_111 rfl (lv_at hl1899 0 rfl) ?_
        refine lv_aload_n hx hb dX10_in_112 rfl (lv_at hl1899 0 rfl) ?_
        refine lv_iload hx hb dX10_in_113 (lv_at hl1899 3 rfl) ?_
        refine lv_iload_n hx hb dX10_in_115 rfl (lv_at hl1899 1 rfl) ?_
        refine x_V (As := [.int x1902, .int x2]) (rest := [.ref a0, .int x1926]) C (a_X10_sounds l K G H1925 (x1902) (x2) hTH1925 ga0 (by omega)) yo_X10_sounds wM_X10_422 ⟨⟨by decide, by decide⟩, by decide, by decide⟩ (x_rv C hTH1925 (ci := 10) rfl ga0 rg_112) rfl hl1899.1 rfl (Nat.le_of_ble_eq_true rfl) dX10_in_116 hSH1925 (AE_sub (fun _ _ => rfl) (by decide) hSH1925.1) (fun vH1933 H1933 locsH1933 pH1933 zH1933 kH1933 hSH1933 => ?_)
        obtain ⟨x1934, hvH1933, hTH1933⟩ := pH1933
        subst hvH1933
        have mf1935 : MF K s.heap H1933 a0 [0] := MF.eff (x_lt hTH1925 kH1933 ga0 (by decide)) mf1927
        have g1936 : CG (avw K H1933 a0) := CG.congr (fun k hk j => av_eff hTH1925 kH1933 ga0 (by decide) (CG_eff [] (by decide) k hk)) g1928
        have g1937 : TU (avw K H1933 a0) (svw K H1933 a0) := TU.congr (fun k hk j => av_eff hTH1925 kH1933 ga0 (by decide) (TU_eff [] (by decide) k hk)) (fun k hk => sv_eff hTH1925 kH1933 ga0 (by decide)) g1929
        have g1938 : WD (avw K H1933 a0) := WD.congr (fun k hk j => av_eff hTH1925 kH1933 ga0 (by decide) (WD_eff [] (by decide) k hk)) g1930
        have g1939 : IM (avw K H1933 a0) := IM.congr (fun k hk j => av_eff hTH1925 kH1933 ga0 (by decide) (IM_eff [] (by decide) k hk)) g1931
        have m1940 := (m1932).trans (fI_kept (x_lt hTH1925 kH1933 ga0 (by decide))).symm
        refine W.eq (g2 := F0 m 119 ls1898 [.int x1934, .ref a0, .int x1926]) rfl ?_
        refine lv_iload hx hb dX10_in_119 (lv_at hl1899 2 rfl) ?_
        refine lv_isub hx hb dX10_in_121 ?_
        refine lv_topi (fun x1941 ex1941 => ?_)
        refine x_V (As := [.int x1941]) (rest := [.int x1926]) C (a_X10_size l K G H1933 (x1941) hTH1933 ga0) yo_X10_size wM_X10_309 ⟨⟨by decide, by decide⟩, by decide, by decide⟩ (x_rv C hTH1933 (ci := 10) rfl ga0 rg_112) rfl hl1899.1 rfl (Nat.le_of_ble_eq_true rfl) dX10_in_122 hSH1933 (AE_sub (fun _ _ => rfl) (by decide) hSH1933.1) (fun vH1942 H1942 locsH1942 pH1942 zH1942 kH1942 hSH1942 => ?_)
        obtain ⟨x1943, hvH1942, hTH1942⟩ := pH1942
        subst hvH1942
        have mf1944 : MF K s.heap H1942 a0 [0] := MF.eff (x_lt hTH1933 kH1942 ga0 (by decide)) mf1935
        have g1945 : CG (avw K H1942 a0) := CG.congr (fun k hk j => av_eff hTH1933 kH1942 ga0 (by decide) (CG_eff [] (by decide) k hk)) g1936
        have g1946 : TU (avw K H1942 a0) (svw K H1942 a0) := TU.congr (fun k hk j => av_eff hTH1933 kH1942 ga0 (by decide) (TU_eff [] (by decide) k hk)) (fun k hk => sv_eff hTH1933 kH1942 ga0 (by decide)) g1937
        have g1947 : WD (avw K H1942 a0) := WD.congr (fun k hk j => av_eff hTH1933 kH1942 ga0 (by decide) (WD_eff [] (by decide) k hk)) g1938
        have g1948 : IM (avw K H1942 a0) := IM.congr (fun k hk j => av_eff hTH1933 kH1942 ga0 (by decide) (IM_eff [] (by decide) k hk)) g1939
        have m1949 := (m1940).trans (fI_kept (x_lt hTH1933 kH1942 ga0 (by decide))).symm
        refine W.eq (g2 := F0 m 125 ls1898 [.int x1943, .int x1926]) rfl ?_
        refine lv_icmp_ge (tgt := 132) hx hb dX10_in_125 (by decide) (fun c1950 => ?_) (fun c1950 => ?_)
        · have k1951 := i_le c1950
          exact J132 ls1898 H1942 locsH1942 (x1902) (lv_sub hl1899 [0, 1, 2, 3, 4] rfl) hTH1942 hSH1942 (by have := i_rng x1902; omega) (by have := i_rng x1903; omega) m1949 mf1944 g1945 g1946 g1947 g1948
        · have k1951 := i_nle c1950
          refine lv_iload hx hb dX10_in_128 (lv_at hl1899 4 rfl) ?_
          refine lv_istore (lv' := [(6, .int x1903), (0, .ref a0), (2, .int x2), (5, .int x1901), (7, .int x1903)]) hx hb dX10_in_130 hl1899 (by decide) rfl (fun ls1952 hl1953 => ?_)
          exact J132 ls1952 H1942 locsH1942 (x1903) (lv_sub hl1953 [1, 2, 3, 0, 4] rfl) hTH1942 hSH1942 (by have := i_rng x1903; omega) (by have := i_rng x1903; omega) m1949 mf1944 g1945 g1946 g1947 g1948
  refine lv_aload_n hx hb dX10_in_0 rfl (lv_at hl 0 rfl) ?_
  refine lv_iconst (v := 0) hx hb dX10_in_1 (by decide) ?_
  refine x_put C hT hS (ci := 10) (k := 0) (v := .int 0) (ty0 := tyX10) rfl inX10 tyX10_ok nmX10 (by decide) rfl wF_X10_167 ga0 rg_112 rfl rfl (okI (by have := i_rng (0 : Int32); omega) (by have := i_rng (0 : Int32); omega)) rfl rfl (AE_in ga0 (by decide)) dX10_in_2 (fun H1954 locsH1954 hTH1954 hSH1954 wH1954 => ?_)
  have mf1955 : MF K s.heap H1954 a0 [0] := MF.fld hap wH1954 (by decide) (by decide) mf0
  have g1956 : CG (avw K H1954 a0) := CG.congr (fun k hk j => av_fld hT ga0 hap wH1954 (by decide) (CG_ok 112 (by decide) k hk) (CG_ne 0 (by decide) k hk)) hg_CG
  have g1957 : TU (avw K H1954 a0) (svw K H1954 a0) := TU.congr (fun k hk j => av_fld hT ga0 hap wH1954 (by decide) (TU_ok 112 (by decide) k hk) (TU_ne 0 (by decide) k hk)) (fun k hk => sv_fld hap wH1954 (by decide) (TU_slt k hk) (TU_sne 0 (by decide) k hk)) hg_TU
  have g1958 : WD (avw K H1954 a0) := WD.congr (fun k hk j => av_fld hT ga0 hap wH1954 (by decide) (WD_ok 112 (by decide) k hk) (WD_ne 0 (by decide) k hk)) hg_WD
  have g1959 : IM (avw K H1954 a0) := IM.congr (fun k hk j => av_fld hT ga0 hap wH1954 (by decide) (IM_ok 112 (by decide) k hk) (IM_ne 0 (by decide) k hk)) hg_IM
  have m1960 := ebs.trans (Wr.neI wH1954 (Or.inr (x_apart hKT hts inX10 tyX10 tyX10_ok nmX10 rfl 1 0 (by decide) (by decide) (by decide)))).symm
  have m1961 := Wr.I wH1954
  refine lv_aload_n hx hb dX10_in_5 rfl (lv_at hl 0 rfl) ?_
  refine lv_iload_n hx hb dX10_in_6 rfl (lv_at hl 1 rfl) ?_
  refine x_V (As := [.int x1]) (rest := []) C (a_X10_isBar l K G H1954 (x1) (bs) hTH1954 ga0 m1960) yo_X10_isBar wM_X10_173 ⟨⟨by decide, by decide⟩, by decide, by decide⟩ (x_rv C hTH1954 (ci := 10) rfl ga0 rg_112) rfl hl.1 rfl (Nat.le_of_ble_eq_true rfl) dX10_in_7 hSH1954 (AE_sub (fun _ _ => rfl) (by decide) hSH1954.1) (fun vH1962 H1962 locsH1962 pH1962 zH1962 kH1962 hSH1962 => ?_)
  obtain ⟨x1963, hvH1962, bx1963, hrH1962, hTH1962⟩ := pH1962
  subst hvH1962
  have mf1964 : MF K s.heap H1962 a0 [0] := MF.eff (x_lt hTH1954 kH1962 ga0 (by decide)) mf1955
  have g1965 : CG (avw K H1962 a0) := CG.congr (fun k hk j => av_eff hTH1954 kH1962 ga0 (by decide) (CG_eff [] (by decide) k hk)) g1956
  have g1966 : TU (avw K H1962 a0) (svw K H1962 a0) := TU.congr (fun k hk j => av_eff hTH1954 kH1962 ga0 (by decide) (TU_eff [] (by decide) k hk)) (fun k hk => sv_eff hTH1954 kH1962 ga0 (by decide)) g1957
  have g1967 : WD (avw K H1962 a0) := WD.congr (fun k hk j => av_eff hTH1954 kH1962 ga0 (by decide) (WD_eff [] (by decide) k hk)) g1958
  have g1968 : IM (avw K H1962 a0) := IM.congr (fun k hk j => av_eff hTH1954 kH1962 ga0 (by decide) (IM_eff [] (by decide) k hk)) g1959
  have m1969 := (m1960).trans (fI_kept (x_lt hTH1954 kH1962 ga0 (by decide))).symm
  have m1970 := (fI_kept (x_lt hTH1954 kH1962 ga0 (by decide))).trans m1961
  refine W.eq (g2 := F0 m 10 ls [.int x1963]) rfl ?_
  refine lv_if_eq (tgt := 40) hx hb dX10_in_10 (by decide) (fun c1971 => ?_) (fun c1971 => ?_)
  · have k1972 := i_eq c1971
    exact J40 ls H1962 locsH1962 (lv_sub hl [] rfl) hTH1962 hSH1962 m1969 mf1964 g1965 g1966 g1967 g1968
  · have k1972 := i_ne c1971
    refine lv_aload_n hx hb dX10_in_13 rfl (lv_at hl 0 rfl) ?_
    refine lv_iload_n hx hb dX10_in_14 rfl (lv_at hl 2 rfl) ?_
    refine x_V (As := [.int x2]) (rest := []) C (c_X10_isHeat l K G H1962 (x2) hTH1962 ga0) yo_X10_isHeat wM_X10_428 ⟨⟨by decide, by decide⟩, by decide, by decide⟩ (x_rv C hTH1962 (ci := 10) rfl ga0 rg_112) rfl hl.1 rfl (Nat.le_of_ble_eq_true rfl) dX10_in_15 hSH1962 (AE_sub (fun _ _ => rfl) (by decide) hSH1962.1) (fun vH1973 H1973 locsH1973 pH1973 zH1973 kH1973 hSH1973 => ?_)
    have hqH1973 := pH1973.1.symm
    subst hqH1973
    rcases pH1973.2 with ⟨hvH1973, hcH1973⟩ | ⟨hvH1973, hcH1973⟩
    · subst hvH1973
      refine W.eq (g2 := F0 m 18 ls [.int 1]) rfl ?_
      refine lv_if_eq (tgt := 40) hx hb dX10_in_18 (by decide) (fun c1974 => ?_) (fun c1974 => ?_)
      · have k1975 := i_eq c1974
        exfalso
        omega
      · have k1975 := i_ne c1974
        refine lv_aload_n hx hb dX10_in_21 rfl (lv_at hl 0 rfl) ?_
        refine lv_iload_n hx hb dX10_in_22 rfl (lv_at hl 3 rfl) ?_
        refine x_V (As := [.int x3]) (rest := []) C (c_X10_isWet l K G H1962 (x3) hTH1962 ga0) yo_X10_isWet wM_X10_431 ⟨⟨by decide, by decide⟩, by decide, by decide⟩ (x_rv C hTH1962 (ci := 10) rfl ga0 rg_112) rfl hl.1 rfl (Nat.le_of_ble_eq_true rfl) dX10_in_23 hSH1973 (AE_sub (fun _ _ => rfl) (by decide) hSH1973.1) (fun vH1976 H1976 locsH1976 pH1976 zH1976 kH1976 hSH1976 => ?_)
        have hqH1976 := pH1976.1.symm
        subst hqH1976
        rcases pH1976.2 with ⟨hvH1976, hcH1976⟩ | ⟨hvH1976, hcH1976⟩
        · subst hvH1976
          refine W.eq (g2 := F0 m 26 ls [.int 1]) rfl ?_
          refine lv_if_eq (tgt := 40) hx hb dX10_in_26 (by decide) (fun c1977 => ?_) (fun c1977 => ?_)
          · have k1978 := i_eq c1977
            exfalso
            omega
          · have k1978 := i_ne c1977
            refine lv_aload_n hx hb dX10_in_29 rfl (lv_at hl 0 rfl) ?_
            refine lv_iload hx hb dX10_in_30 (lv_at hl 4 rfl) ?_
            refine lv_iconst (v := 0) hx hb dX10_in_32 (by decide) ?_
            refine lv_iconst (v := 3) hx hb dX10_in_33 (by decide) ?_
            refine x_V (As := [.int x4, .int 0, .int 3]) (rest := []) C (c_X10_isIn l K G H1962 (x4) (0) (3) hTH1962 ga0) yo_X10_isIn wM_X10_177 ⟨⟨by decide, by decide⟩, by decide, by decide⟩ (x_rv C hTH1962 (ci := 10) rfl ga0 rg_112) rfl hl.1 rfl (Nat.le_of_ble_eq_true rfl) dX10_in_34 hSH1976 (AE_sub (fun _ _ => rfl) (by decide) hSH1976.1) (fun vH1979 H1979 locsH1979 pH1979 zH1979 kH1979 hSH1979 => ?_)
            have hqH1979 := pH1979.1.symm
            subst hqH1979
            rcases pH1979.2 with ⟨hvH1979, hcH1979⟩ | ⟨hvH1979, hcH1979⟩
            · subst hvH1979
              refine W.eq (g2 := F0 m 37 ls [.int 1]) rfl ?_
              refine lv_if_ne (tgt := 42) hx hb dX10_in_37 (by decide) (fun c1980 => ?_) (fun c1980 => ?_)
              · have k1981 := i_ne c1980
                refine lv_iload hx hb dX10_in_42 (lv_at hl 4 rfl) ?_
                refine lv_iconst (v := 1) hx hb dX10_in_44 (by decide) ?_
                refine lv_icmp_eq (tgt := 54) hx hb dX10_in_45 (by decide) (fun c1982 => ?_) (fun c1982 => ?_)
                · have k1983 := i_eq c1982
                  exact J54 ls H1962 locsH1979 (lv_sub hl [0, 1, 2, 3, 4] rfl) hTH1962 hSH1979 (by have := i_rng x1; omega) (by have := i_rng x2; omega) (by have := i_rng x3; omega) (by have := i_rng x4; omega) m1969 mf1964 g1965 g1966 g1967 g1968 (by omega)
                · have k1983 := i_ne c1982
                  refine lv_iload hx hb dX10_in_48 (lv_at hl 4 rfl) ?_
                  refine lv_iconst (v := 2) hx hb dX10_in_50 (by decide) ?_
                  refine lv_icmp_ne (tgt := 66) hx hb dX10_in_51 (by decide) (fun c1984 => ?_) (fun c1984 => ?_)
                  · have k1985 := i_ne c1984
                    refine lv_aload_n hx hb dX10_in_66 rfl (lv_at hl 0 rfl) ?_
                    refine lv_iload_n hx hb dX10_in_67 rfl (lv_at hl 1 rfl) ?_
                    refine lv_iload_n hx hb dX10_in_68 rfl (lv_at hl 2 rfl) ?_
                    refine lv_iload_n hx hb dX10_in_69 rfl (lv_at hl 3 rfl) ?_
                    refine x_V (As := [.int x1, .int x2, .int x3]) (rest := []) C (a_X10_drifted l K G H1962 (x1) (x2) (x3) hTH1962 ga0 (by omega) g1965) yo_X10_drifted wM_X10_425 ⟨⟨by decide, by decide⟩, by decide, by decide⟩ (x_rv C hTH1962 (ci := 10) rfl ga0 rg_112) rfl hl.1 rfl (Nat.le_of_ble_eq_true rfl) dX10_in_70 hSH1979 (AE_sub (fun _ _ => rfl) (by decide) hSH1979.1) (fun vH1986 H1986 locsH1986 pH1986 zH1986 kH1986 hSH1986 => ?_)
                    obtain ⟨x1987, hvH1986, hTH1986⟩ := pH1986
                    subst hvH1986
                    have mf1988 : MF K s.heap H1986 a0 [0] := MF.eff (x_lt hTH1962 kH1986 ga0 (by decide)) mf1964
                    have g1989 : CG (avw K H1986 a0) := CG.congr (fun k hk j => av_eff hTH1962 kH1986 ga0 (by decide) (CG_eff [140, 139] (by decide) k hk)) g1965
                    have g1990 : TU (avw K H1986 a0) (svw K H1986 a0) := TU.congr (fun k hk j => av_eff hTH1962 kH1986 ga0 (by decide) (TU_eff [140, 139] (by decide) k hk)) (fun k hk => sv_eff hTH1962 kH1986 ga0 (by decide)) g1966
                    have g1991 : WD (avw K H1986 a0) := WD.congr (fun k hk j => av_eff hTH1962 kH1986 ga0 (by decide) (WD_eff [140, 139] (by decide) k hk)) g1967
                    have g1992 : IM (avw K H1986 a0) := IM.congr (fun k hk j => av_eff hTH1962 kH1986 ga0 (by decide) (IM_eff [140, 139] (by decide) k hk)) g1968
                    have m1993 := (m1969).trans (fI_kept (x_lt hTH1962 kH1986 ga0 (by decide))).symm
                    have m1994 := (fI_kept (x_lt hTH1962 kH1986 ga0 (by decide))).trans m1970
                    refine W.eq (g2 := F0 m 73 ls [.int x1987]) rfl ?_
                    refine lv_istore (lv' := [(5, .int x1987), (0, .ref a0), (1, .int x1), (2, .int x2), (3, .int x3), (4, .int x4)]) hx hb dX10_in_73 hl (by decide) rfl (fun ls1995 hl1996 => ?_)
                    refine lv_iload hx hb dX10_in_75 (lv_at hl1996 5 rfl) ?_
                    refine lv_if_ne (tgt := 83) hx hb dX10_in_77 (by decide) (fun c1997 => ?_) (fun c1997 => ?_)
                    · have k1998 := i_ne c1997
                      refine lv_iconst (v := 1) hx hb dX10_in_83 (by decide) ?_
                      refine lv_istore (lv' := [(6, .int 1), (5, .int x1987), (0, .ref a0), (1, .int x1), (2, .int x2), (3, .int x3), (4, .int x4)]) hx hb dX10_in_84 hl1996 (by decide) rfl (fun ls1999 hl2000 => ?_)
                      refine lv_iconst (v := 2) hx hb dX10_in_86 (by decide) ?_
                      refine lv_istore (lv' := [(7, .int 2), (6, .int 1), (5, .int x1987), (0, .ref a0), (1, .int x1), (2, .int x2), (3, .int x3), (4, .int x4)]) hx hb dX10_in_87 hl2000 (by decide) rfl (fun ls2001 hl2002 => ?_)
                      exact J89 ((10000 - (2 : Int32).toInt).toNat + 1) ls2001 H1986 locsH1986 (x1987) (1) (2) (lv_sub hl2002 [3, 5, 2, 1, 0] rfl) hTH1986 hSH1986 (by have := i_rng x2; omega) (by decide) (by decide) m1993 mf1988 g1989 g1990 g1991 g1992 (by omega)
                    · have k1998 := i_eq c1997
                      refine lv_iload hx hb dX10_in_80 (lv_at hl1996 0 rfl) ?_
                      exact x_iret C hQ dX10_in_82 hSH1986 (by decide) (by decide) (⟨x1987, rfl, g1989, g1990, g1991, g1992, mf1988, hTH1986⟩)
                  · have k1985 := i_eq c1984
                    exact J54 ls H1962 locsH1979 (lv_sub hl [0, 1, 2, 3, 4] rfl) hTH1962 hSH1979 (by have := i_rng x1; omega) (by have := i_rng x2; omega) (by have := i_rng x3; omega) (by have := i_rng x4; omega) m1969 mf1964 g1965 g1966 g1967 g1968 (by omega)
              · have k1981 := i_eq c1980
                exfalso
                omega
            · subst hvH1979
              refine W.eq (g2 := F0 m 37 ls [.int 0]) rfl ?_
              refine lv_if_ne (tgt := 42) hx hb dX10_in_37 (by decide) (fun c2003 => ?_) (fun c2003 => ?_)
              · have k2004 := i_ne c2003
                exfalso
                omega
              · have k2004 := i_eq c2003
                exact J40 ls H1962 locsH1979 (lv_sub hl [] rfl) hTH1962 hSH1979 m1969 mf1964 g1965 g1966 g1967 g1968
        · subst hvH1976
          refine W.eq (g2 := F0 m 26 ls [.int 0]) rfl ?_
          refine lv_if_eq (tgt := 40) hx hb dX10_in_26 (by decide) (fun c2005 => ?_) (fun c2005 => ?_)
          · have k2006 := i_eq c2005
            exact J40 ls H1962 locsH1976 (lv_sub hl [] rfl) hTH1962 hSH1976 m1969 mf1964 g1965 g1966 g1967 g1968
          · have k2006 := i_ne c2005
            exfalso
            omega
    · subst hvH1973
      refine W.eq (g2 := F0 m 18 ls [.int 0]) rfl ?_
      refine lv_if_eq (tgt := 40) hx hb dX10_in_18 (by decide) (fun c2007 => ?_) (fun c2007 => ?_)
      · have k2008 := i_eq c2007
        exact J40 ls H1962 locsH1973 (lv_sub hl [] rfl) hTH1962 hSH1973 m1969 mf1964 g1965 g1966 g1967 g1968
      · have k2008 := i_ne c2007
        exfalso
        omega

set_option maxHeartbeats 4000000 in
set_option maxRecDepth 100000 in
theorem a_X10_nights (l : Launch) (K : KE) (G : Nat → Option Nat) (H : Heap) {a0 : Nat} (x1 : Int32) (x2 : Int32) (hT : TY K G H) (ga0 : G a0 = some 112) (hg_CG : CG (avw K H a0)) (hg_TU : TU (avw K H a0) (svw K H a0)) (hg_WD : WD (avw K H a0)) (hg_IM : IM (avw K H a0)) : MX l K yX10_nights cX10_nights 5 (some .int) 11 266 0 0 [.ref a0, .int x1, .int x2] H (AE G [112, 140, 139] H.size) (fun v H1 => ∃ (r : Int32), v = some (.int r) ∧ (CG (avw K H1 a0)) ∧ (TU (avw K H1 a0) (svw K H1 a0)) ∧ (WD (avw K H1 a0)) ∧ (IM (avw K H1 a0)) ∧ MF K H H1 a0 [0] ∧ TY K G H1) := by
  refine MX.of (by decide +kernel) (Nat.le_of_ble_eq_true rfl) ?_
  intro p e s m below meth c ls Q C hH hl hQ
  subst hH
  have C : CX p K s m _ meth c RX10 cX10_nights 5 (some .int) "nights" := C
  obtain ⟨hx, hb, hml, hown, hts, hKT, hr, hlocks, hnm⟩ := id C
  have hl : lv_has ls 5 [(0, .ref a0), (1, .int x1), (2, .int x2)] := hl
  have hS : va_S (AE G [112, 140, 139] s.heap.size) s.heap s.heap [] := va_S.rf
  have n_m2 : ((-2) : Int32).toInt = -2 := rfl
  have n_m1 : ((-1) : Int32).toInt = -1 := rfl
  have n_0 : (0 : Int32).toInt = 0 := rfl
  have n_1 : (1 : Int32).toInt = 1 := rfl
  have n_2 : (2 : Int32).toInt = 2 := rfl
  have n_3 : (3 : Int32).toInt = 3 := rfl
  have hap : ∀ x y, x < 74 → y < 74 → x ≠ y → K.1.2 10 x ≠ K.1.2 10 y := x_apart hKT hts inX10 tyX10 tyX10_ok nmX10 rfl
  have mf0 : MF K s.heap s.heap a0 [0] := fun _ _ _ => rfl
  have J68 : ∀ (ls678 : Array Slot) (H677 : Heap) (locsH677 : List Loc) , lv_has ls678 5 [(0, .ref a0), (1, .int x1), (2, .int x2)] → TY K G H677 → va_S (AE G [112, 140, 139] s.heap.size) s.heap H677 locsH677 → (0 ≤ x1.toInt ∧ x1.toInt ≤ 19) → (0 ≤ x2.toInt ∧ x2.toInt ≤ 1) → (MF K s.heap H677 a0 [0]) → (CG (avw K H677 a0)) → (TU (avw K H677 a0) (svw K H677 a0)) → (WD (avw K H677 a0)) → (IM (avw K H677 a0)) → W p l e ({ frames := 11, cells := 0, slots := 0, locals := 266 } : Room) s m (([.ref a0, .int x1, .int x2] : List Value).toArray) below meth c H677 locsH677 0 0 Q (F0 m 68 ls678 []) := by
    intro ls678 H677 locsH677  hl679 hTH677 hSH677 b680 b681 mfy682 gy682_CG gy682_TU gy682_WD gy682_IM
    refine lv_aload_n hx hb dX10_nights_68 rfl (lv_at hl679 0 rfl) ?_
    refine lv_iload_n hx hb dX10_nights_69 rfl (lv_at hl679 1 rfl) ?_
    refine lv_iload_n hx hb dX10_nights_70 rfl (lv_at hl679 2 rfl) ?_
    obtain ⟨x683, ex683⟩ : ∃ z : Int32, z = fI H677 a0 (K.1.2 10 1) := ⟨_, rfl⟩
    have bx683 := ty_fi (x := x683) (k := 1) ex683 hTH677 ga0 rg_112 rfl
    refine x_V (As := [.int x1, .int x2]) (rest := []) C (a_X10_worstOf l K G H677 (x1) (x2) (x683) hTH677 ga0 (by omega) (by omega) ex683 gy682_CG gy682_TU) yo_X10_worstOf wM_X10_441 ⟨⟨by decide, by decide⟩, by decide, by decide⟩ (x_rv C hTH677 (ci := 10) rfl ga0 rg_112) rfl hl679.1 rfl (Nat.le_of_ble_eq_true rfl) dX10_nights_71 hSH677 (AE_sub (fun _ _ => rfl) (by decide) hSH677.1) (fun vH684 H684 locsH684 pH684 zH684 kH684 hSH684 => ?_)
    obtain ⟨x685, hvH684, bx685, hrH684, hTH684⟩ := pH684
    subst hvH684
    have mf686 : MF K s.heap H684 a0 [0] := MF.eff (x_lt hTH677 kH684 ga0 (by decide)) mfy682
    have g687 : CG (avw K H684 a0) := CG.congr (fun k hk j => av_eff hTH677 kH684 ga0 (by decide) (CG_eff [140, 139] (by decide) k hk)) gy682_CG
    have g688 : TU (avw K H684 a0) (svw K H684 a0) := TU.congr (fun k hk j => av_eff hTH677 kH684 ga0 (by decide) (TU_eff [140, 139] (by decide) k hk)) (fun k hk => sv_eff hTH677 kH684 ga0 (by decide)) gy682_TU
    have g689 : WD (avw K H684 a0) := WD.congr (fun k hk j => av_eff hTH677 kH684 ga0 (by decide) (WD_eff [140, 139] (by decide) k hk)) gy682_WD
    have g690 : IM (avw K H684 a0) := IM.congr (fun k hk j => av_eff hTH677 kH684 ga0 (by decide) (IM_eff [140, 139] (by decide) k hk)) gy682_IM
    have m691 := (ex683).trans (fI_kept (x_lt hTH677 kH684 ga0 (by decide))).symm
    refine W.eq (g2 := F0 m 74 ls678 [.int x685]) rfl ?_
    exact x_iret C hQ dX10_nights_74 hSH684 (by decide) (by decide) (⟨x685, rfl, g687, g688, g689, g690, mf686, hTH684⟩)
  have J103 : ∀ (ls693 : Array Slot) (H692 : Heap) (locsH692 : List Loc) (x695 : Int32), lv_has ls693 5 [] → TY K G H692 → va_S (AE G [112, 140, 139] s.heap.size) s.heap H692 locsH692 → (MF K s.heap H692 a0 [0]) → (CG (avw K H692 a0)) → (TU (avw K H692 a0) (svw K H692 a0)) → (WD (avw K H692 a0)) → (IM (avw K H692 a0)) → W p l e ({ frames := 11, cells := 0, slots := 0, locals := 266 } : Room) s m (([.ref a0, .int x1, .int x2] : List Value).toArray) below meth c H692 locsH692 0 0 Q (F0 m 103 ls693 [.int x695]) := by
    intro ls693 H692 locsH692 x695 hl694 hTH692 hSH692 mfy696 gy696_CG gy696_TU gy696_WD gy696_IM
    exact x_iret C hQ dX10_nights_103 hSH692 (by decide) (by decide) (⟨x695, rfl, gy696_CG, gy696_TU, gy696_WD, gy696_IM, mfy696, hTH692⟩)
  have J15 : ∀ (nf : Nat) (ls698 : Array Slot) (H697 : Heap) (locsH697 : List Loc) (x700 : Int32) (x701 : Int32), lv_has ls698 5 [(0, .ref a0), (3, .int x700), (4, .int x701)] → TY K G H697 → va_S (AE G [112, 140, 139] s.heap.size) s.heap H697 locsH697 → (0 ≤ x701.toInt ∧ x701.toInt ≤ 20) → (MF K s.heap H697 a0 [0]) → (CG (avw K H697 a0)) → (TU (avw K H697 a0) (svw K H697 a0)) → (WD (avw K H697 a0)) → (IM (avw K H697 a0)) → (20 - x701.toInt < (nf : Int)) → W p l e ({ frames := 11, cells := 0, slots := 0, locals := 266 } : Room) s m (([.ref a0, .int x1, .int x2] : List Value).toArray) below meth c H697 locsH697 0 0 Q (F0 m 15 ls698 []) := by
    intro nf
    induction nf with
    | zero =>
      intro ls698 H697 locsH697 x700 x701 hl699 hTH697 hSH697 bx701 mfy702 gy702_CG gy702_TU gy702_WD gy702_IM hm15
      have rx700 := i_rng x700
      exfalso
      omega
    | succ nf ih15 =>
      intro ls698 H697 locsH697 x700 x701 hl699 hTH697 hSH697 bx701 mfy702 gy702_CG gy702_TU gy702_WD gy702_IM hm15
      have rx700 := i_rng x700
      refine lv_iload hx hb dX10_nights_15 (lv_at hl699 2 rfl) ?_
      refine lv_aload_n hx hb dX10_nights_17 rfl (lv_at hl699 0 rfl) ?_
      refine x_gi C hTH697 (ci := 10) (k := 59) rfl inX10 (by decide) wF_X10_438 ga0 rg_112 rfl dX10_nights_18 (fun x703 ex703 bx703 => ?_)
      refine lv_icmp_ge (tgt := 39) hx hb dX10_nights_21 (by decide) (fun c704 => ?_) (fun c704 => ?_)
      · have k705 := i_le c704
        refine lv_iload_n hx hb dX10_nights_39 rfl (lv_at hl699 1 rfl) ?_
        exact x_iret C hQ dX10_nights_40 hSH697 (by decide) (by decide) (⟨x700, rfl, gy702_CG, gy702_TU, gy702_WD, gy702_IM, mfy702, hTH697⟩)
      · have k705 := i_nle c704
        refine lv_iload_n hx hb dX10_nights_24 rfl (lv_at hl699 1 rfl) ?_
        refine lv_aload_n hx hb dX10_nights_25 rfl (lv_at hl699 0 rfl) ?_
        refine lv_iload hx hb dX10_nights_26 (lv_at hl699 2 rfl) ?_
        refine x_V (As := [.int x701]) (rest := [.int x700]) C (a_X10_suits l K G H697 (x701) hTH697 ga0 (by omega) gy702_CG gy702_TU) yo_X10_suits wM_X10_449 ⟨⟨by decide, by decide⟩, by decide, by decide⟩ (x_rv C hTH697 (ci := 10) rfl ga0 rg_112) rfl hl699.1 rfl (Nat.le_of_ble_eq_true rfl) dX10_nights_28 hSH697 (AE_sub (fun _ _ => rfl) (by decide) hSH697.1) (fun vH706 H706 locsH706 pH706 zH706 kH706 hSH706 => ?_)
        obtain ⟨x707, hvH706, hTH706⟩ := pH706
        subst hvH706
        have mf708 : MF K s.heap H706 a0 [0] := MF.eff (x_lt hTH697 kH706 ga0 (by decide)) mfy702
        have g709 : CG (avw K H706 a0) := CG.congr (fun k hk j => av_eff hTH697 kH706 ga0 (by decide) (CG_eff [140, 139] (by decide) k hk)) gy702_CG
        have g710 : TU (avw K H706 a0) (svw K H706 a0) := TU.congr (fun k hk j => av_eff hTH697 kH706 ga0 (by decide) (TU_eff [140, 139] (by decide) k hk)) (fun k hk => sv_eff hTH697 kH706 ga0 (by decide)) gy702_TU
        have g711 : WD (avw K H706 a0) := WD.congr (fun k hk j => av_eff hTH697 kH706 ga0 (by decide) (WD_eff [140, 139] (by decide) k hk)) gy702_WD
        have g712 : IM (avw K H706 a0) := IM.congr (fun k hk j => av_eff hTH697 kH706 ga0 (by decide) (IM_eff [140, 139] (by decide) k hk)) gy702_IM
        have m713 := (ex703).trans (fI_kept (x_lt hTH697 kH706 ga0 (by decide))).symm
        refine W.eq (g2 := F0 m 31 ls698 [.int x707, .int x700]) rfl ?_
        refine lv_iadd hx hb dX10_nights_31 ?_
        refine lv_topi (fun x714 ex714 => ?_)
        refine lv_istore_n (lv' := [(3, .int x714), (0, .ref a0), (4, .int x701)]) hx hb dX10_nights_32 rfl hl699 (by decide) rfl (fun ls715 hl716 => ?_)
        obtain ⟨x717, ex717⟩ : ∃ y : Int32, y = x701 + 1 := ⟨_, rfl⟩
        have tx717 := i_add ex717 (by omega)
        refine lv_iinc (v := x717) (lv' := [(4, .int x717), (3, .int x714), (0, .ref a0)]) hx hb dX10_nights_33 hl716 (k := 2) rfl (by rw [ex717]; rfl) (by decide) rfl (fun ls718 hl719 => ?_)
        refine lv_goto (tgt := 15) hx hb dX10_nights_36 (by decide) ?_
        exact ih15 ls718 H706 locsH706 (x714) (x717) (lv_sub hl719 [2, 1, 0] rfl) hTH706 hSH706 (by have := i_rng x717; omega) mf708 g709 g710 g711 g712 (by omega)
  refine lv_aload_n hx hb dX10_nights_0 rfl (lv_at hl 0 rfl) ?_
  refine lv_iconst (v := 0) hx hb dX10_nights_1 (by decide) ?_
  refine x_put C hT hS (ci := 10) (k := 0) (v := .int 0) (ty0 := tyX10) rfl inX10 tyX10_ok nmX10 (by decide) rfl wF_X10_167 ga0 rg_112 rfl rfl (okI (by have := i_rng (0 : Int32); omega) (by have := i_rng (0 : Int32); omega)) rfl rfl (AE_in ga0 (by decide)) dX10_nights_2 (fun H720 locsH720 hTH720 hSH720 wH720 => ?_)
  have mf721 : MF K s.heap H720 a0 [0] := MF.fld hap wH720 (by decide) (by decide) mf0
  have g722 : CG (avw K H720 a0) := CG.congr (fun k hk j => av_fld hT ga0 hap wH720 (by decide) (CG_ok 112 (by decide) k hk) (CG_ne 0 (by decide) k hk)) hg_CG
  have g723 : TU (avw K H720 a0) (svw K H720 a0) := TU.congr (fun k hk j => av_fld hT ga0 hap wH720 (by decide) (TU_ok 112 (by decide) k hk) (TU_ne 0 (by decide) k hk)) (fun k hk => sv_fld hap wH720 (by decide) (TU_slt k hk) (TU_sne 0 (by decide) k hk)) hg_TU
  have g724 : WD (avw K H720 a0) := WD.congr (fun k hk j => av_fld hT ga0 hap wH720 (by decide) (WD_ok 112 (by decide) k hk) (WD_ne 0 (by decide) k hk)) hg_WD
  have g725 : IM (avw K H720 a0) := IM.congr (fun k hk j => av_fld hT ga0 hap wH720 (by decide) (IM_ok 112 (by decide) k hk) (IM_ne 0 (by decide) k hk)) hg_IM
  have m726 := Wr.I wH720
  refine lv_iload_n hx hb dX10_nights_5 rfl (lv_at hl 1 rfl) ?_
  refine lv_iconst (v := (-1)) hx hb dX10_nights_6 (by decide) ?_
  refine lv_icmp_ne (tgt := 41) hx hb dX10_nights_7 (by decide) (fun c727 => ?_) (fun c727 => ?_)
  · have k728 := i_ne c727
    refine lv_aload_n hx hb dX10_nights_41 rfl (lv_at hl 0 rfl) ?_
    refine lv_iload_n hx hb dX10_nights_42 rfl (lv_at hl 1 rfl) ?_
    refine lv_iconst (v := 0) hx hb dX10_nights_43 (by decide) ?_
    refine lv_aload_n hx hb dX10_nights_44 rfl (lv_at hl 0 rfl) ?_
    refine x_gi C hTH720 (ci := 10) (k := 59) rfl inX10 (by decide) wF_X10_438 ga0 rg_112 rfl dX10_nights_45 (fun x729 ex729 bx729 => ?_)
    refine lv_iconst (v := 1) hx hb dX10_nights_48 (by decide) ?_
    refine lv_isub hx hb dX10_nights_49 ?_
    refine lv_topi (fun x730 ex730 => ?_)
    have tx730 := i_sub ex730 (by omega)
    refine x_V (As := [.int x1, .int 0, .int x730]) (rest := []) C (c_X10_isIn l K G H720 (x1) (0) (x730) hTH720 ga0) yo_X10_isIn wM_X10_177 ⟨⟨by decide, by decide⟩, by decide, by decide⟩ (x_rv C hTH720 (ci := 10) rfl ga0 rg_112) rfl hl.1 rfl (Nat.le_of_ble_eq_true rfl) dX10_nights_50 hSH720 (AE_sub (fun _ _ => rfl) (by decide) hSH720.1) (fun vH731 H731 locsH731 pH731 zH731 kH731 hSH731 => ?_)
    have hqH731 := pH731.1.symm
    subst hqH731
    rcases pH731.2 with ⟨hvH731, hcH731⟩ | ⟨hvH731, hcH731⟩
    · subst hvH731
      refine W.eq (g2 := F0 m 53 ls [.int 1]) rfl ?_
      refine lv_if_ne (tgt := 59) hx hb dX10_nights_53 (by decide) (fun c732 => ?_) (fun c732 => ?_)
      · have k733 := i_ne c732
        refine lv_iload_n hx hb dX10_nights_59 rfl (lv_at hl 2 rfl) ?_
        refine lv_if_eq (tgt := 68) hx hb dX10_nights_60 (by decide) (fun c734 => ?_) (fun c734 => ?_)
        · have k735 := i_eq c734
          exact J68 ls H720 locsH731 (lv_sub hl [0, 1, 2] rfl) hTH720 hSH731 (by have := i_rng x1; omega) (by have := i_rng x2; omega) mf721 g722 g723 g724 g725
        · have k735 := i_ne c734
          refine lv_iload_n hx hb dX10_nights_63 rfl (lv_at hl 2 rfl) ?_
          refine lv_iconst (v := 1) hx hb dX10_nights_64 (by decide) ?_
          refine lv_icmp_ne (tgt := 75) hx hb dX10_nights_65 (by decide) (fun c736 => ?_) (fun c736 => ?_)
          · have k737 := i_ne c736
            refine lv_iload_n hx hb dX10_nights_75 rfl (lv_at hl 2 rfl) ?_
            refine lv_iconst (v := 2) hx hb dX10_nights_76 (by decide) ?_
            refine lv_icmp_ne (tgt := 88) hx hb dX10_nights_77 (by decide) (fun c738 => ?_) (fun c738 => ?_)
            · have k739 := i_ne c738
              refine lv_iload_n hx hb dX10_nights_88 rfl (lv_at hl 2 rfl) ?_
              refine lv_iconst (v := 3) hx hb dX10_nights_89 (by decide) ?_
              refine lv_icmp_ne (tgt := 101) hx hb dX10_nights_90 (by decide) (fun c740 => ?_) (fun c740 => ?_)
              · have k741 := i_ne c740
                refine lv_bipush (v := (-2)) hx hb dX10_nights_101 (by decide) ?_
                exact J103 ls H720 locsH731 ((-2)) (lv_sub hl [] rfl) hTH720 hSH731 mf721 g722 g723 g724 g725
              · have k741 := i_eq c740
                refine lv_aload_n hx hb dX10_nights_93 rfl (lv_at hl 0 rfl) ?_
                refine lv_iload_n hx hb dX10_nights_94 rfl (lv_at hl 1 rfl) ?_
                refine x_V (As := [.int x1]) (rest := []) C (a_X10_together l K G H720 (x1) hTH720 ga0 (by omega) g722) yo_X10_together wM_X10_452 ⟨⟨by decide, by decide⟩, by decide, by decide⟩ (x_rv C hTH720 (ci := 10) rfl ga0 rg_112) rfl hl.1 rfl (Nat.le_of_ble_eq_true rfl) dX10_nights_95 hSH731 (AE_sub (fun _ _ => rfl) (by decide) hSH731.1) (fun vH742 H742 locsH742 pH742 zH742 kH742 hSH742 => ?_)
                obtain ⟨x743, hvH742, hTH742⟩ := pH742
                subst hvH742
                have mf744 : MF K s.heap H742 a0 [0] := MF.eff (x_lt hTH720 kH742 ga0 (by decide)) mf721
                have g745 : CG (avw K H742 a0) := CG.congr (fun k hk j => av_eff hTH720 kH742 ga0 (by decide) (CG_eff [140, 139] (by decide) k hk)) g722
                have g746 : TU (avw K H742 a0) (svw K H742 a0) := TU.congr (fun k hk j => av_eff hTH720 kH742 ga0 (by decide) (TU_eff [140, 139] (by decide) k hk)) (fun k hk => sv_eff hTH720 kH742 ga0 (by decide)) g723
                have g747 : WD (avw K H742 a0) := WD.congr (fun k hk j => av_eff hTH720 kH742 ga0 (by decide) (WD_eff [140, 139] (by decide) k hk)) g724
                have g748 : IM (avw K H742 a0) := IM.congr (fun k hk j => av_eff hTH720 kH742 ga0 (by decide) (IM_eff [140, 139] (by decide) k hk)) g725
                have m749 := (fI_kept (x_lt hTH720 kH742 ga0 (by decide))).trans m726
                have m750 := (ex729).trans (fI_kept (x_lt hTH720 kH742 ga0 (by decide))).symm
                refine W.eq (g2 := F0 m 98 ls [.int x743]) rfl ?_
                refine lv_goto (tgt := 103) hx hb dX10_nights_98 (by decide) ?_
                exact J103 ls H742 locsH742 (x743) (lv_sub hl [] rfl) hTH742 hSH742 mf744 g745 g746 g747 g748
            · have k739 := i_eq c738
              refine lv_aload_n hx hb dX10_nights_80 rfl (lv_at hl 0 rfl) ?_
              refine lv_iload_n hx hb dX10_nights_81 rfl (lv_at hl 1 rfl) ?_
              refine x_V (As := [.int x1]) (rest := []) C (a_X10_suits l K G H720 (x1) hTH720 ga0 (by omega) g722 g723) yo_X10_suits wM_X10_449 ⟨⟨by decide, by decide⟩, by decide, by decide⟩ (x_rv C hTH720 (ci := 10) rfl ga0 rg_112) rfl hl.1 rfl (Nat.le_of_ble_eq_true rfl) dX10_nights_82 hSH731 (AE_sub (fun _ _ => rfl) (by decide) hSH731.1) (fun vH751 H751 locsH751 pH751 zH751 kH751 hSH751 => ?_)
              obtain ⟨x752, hvH751, hTH751⟩ := pH751
              subst hvH751
              have mf753 : MF K s.heap H751 a0 [0] := MF.eff (x_lt hTH720 kH751 ga0 (by decide)) mf721
              have g754 : CG (avw K H751 a0) := CG.congr (fun k hk j => av_eff hTH720 kH751 ga0 (by decide) (CG_eff [140, 139] (by decide) k hk)) g722
              have g755 : TU (avw K H751 a0) (svw K H751 a0) := TU.congr (fun k hk j => av_eff hTH720 kH751 ga0 (by decide) (TU_eff [140, 139] (by decide) k hk)) (fun k hk => sv_eff hTH720 kH751 ga0 (by decide)) g723
              have g756 : WD (avw K H751 a0) := WD.congr (fun k hk j => av_eff hTH720 kH751 ga0 (by decide) (WD_eff [140, 139] (by decide) k hk)) g724
              have g757 : IM (avw K H751 a0) := IM.congr (fun k hk j => av_eff hTH720 kH751 ga0 (by decide) (IM_eff [140, 139] (by decide) k hk)) g725
              have m758 := (fI_kept (x_lt hTH720 kH751 ga0 (by decide))).trans m726
              have m759 := (ex729).trans (fI_kept (x_lt hTH720 kH751 ga0 (by decide))).symm
              refine W.eq (g2 := F0 m 85 ls [.int x752]) rfl ?_
              refine lv_goto (tgt := 103) hx hb dX10_nights_85 (by decide) ?_
              exact J103 ls H751 locsH751 (x752) (lv_sub hl [] rfl) hTH751 hSH751 mf753 g754 g755 g756 g757
          · have k737 := i_eq c736
            exact J68 ls H720 locsH731 (lv_sub hl [0, 1, 2] rfl) hTH720 hSH731 (by have := i_rng x1; omega) (by have := i_rng x2; omega) mf721 g722 g723 g724 g725
      · have k733 := i_eq c732
        exfalso
        omega
    · subst hvH731
      refine W.eq (g2 := F0 m 53 ls [.int 0]) rfl ?_
      refine lv_if_ne (tgt := 59) hx hb dX10_nights_53 (by decide) (fun c760 => ?_) (fun c760 => ?_)
      · have k761 := i_ne c760
        exfalso
        omega
      · have k761 := i_eq c760
        refine lv_bipush (v := (-2)) hx hb dX10_nights_56 (by decide) ?_
        exact x_iret C hQ dX10_nights_58 hSH731 (by decide) (by decide) (⟨(-2), rfl, g722, g723, g724, g725, mf721, hTH720⟩)
  · have k728 := i_eq c727
    refine lv_iconst (v := 0) hx hb dX10_nights_10 (by decide) ?_
    refine lv_istore_n (lv' := [(3, .int 0), (0, .ref a0), (1, .int x1), (2, .int x2)]) hx hb dX10_nights_11 rfl hl (by decide) rfl (fun ls762 hl763 => ?_)
    refine lv_iconst (v := 0) hx hb dX10_nights_12 (by decide) ?_
    refine lv_istore (lv' := [(4, .int 0), (3, .int 0), (0, .ref a0), (1, .int x1), (2, .int x2)]) hx hb dX10_nights_13 hl763 (by decide) rfl (fun ls764 hl765 => ?_)
    exact J15 ((20 - (0 : Int32).toInt).toNat + 1) ls764 H720 locsH720 (0) (0) (lv_sub hl765 [2, 1, 0] rfl) hTH720 hSH720 (by decide) mf721 g722 g723 g724 g725 (by omega)

set_option maxHeartbeats 4000000 in
set_option maxRecDepth 100000 in
theorem a_X10_down (l : Launch) (K : KE) (G : Nat → Option Nat) (H : Heap) {a0 : Nat} (x1 : Int32) (hT : TY K G H) (ga0 : G a0 = some 112) (hg_CG : CG (avw K H a0)) (hg_TU : TU (avw K H a0) (svw K H a0)) (hg_WD : WD (avw K H a0)) (hg_IM : IM (avw K H a0)) : MX l K yX10_down cX10_down 5 (some .int) 6 145 0 0 [.ref a0, .int x1] H (AE G [112, 140, 139] H.size) (fun v H1 => ∃ (r : Int32), v = some (.int r) ∧ (CG (avw K H1 a0)) ∧ (TU (avw K H1 a0) (svw K H1 a0)) ∧ (WD (avw K H1 a0)) ∧ (IM (avw K H1 a0)) ∧ MF K H H1 a0 [0] ∧ TY K G H1) := by
  refine MX.of (by decide +kernel) (Nat.le_of_ble_eq_true rfl) ?_
  intro p e s m below meth c ls Q C hH hl hQ
  subst hH
  have C : CX p K s m _ meth c RX10 cX10_down 5 (some .int) "down" := C
  obtain ⟨hx, hb, hml, hown, hts, hKT, hr, hlocks, hnm⟩ := id C
  have hl : lv_has ls 5 [(0, .ref a0), (1, .int x1)] := hl
  have hS : va_S (AE G [112, 140, 139] s.heap.size) s.heap s.heap [] := va_S.rf
  have n_m1 : ((-1) : Int32).toInt = -1 := rfl
  have n_0 : (0 : Int32).toInt = 0 := rfl
  have n_1 : (1 : Int32).toInt = 1 := rfl
  have hap : ∀ x y, x < 74 → y < 74 → x ≠ y → K.1.2 10 x ≠ K.1.2 10 y := x_apart hKT hts inX10 tyX10 tyX10_ok nmX10 rfl
  have mf0 : MF K s.heap s.heap a0 [0] := fun _ _ _ => rfl
  have J27 : ∀ (nf : Nat) (ls552 : Array Slot) (H551 : Heap) (locsH551 : List Loc) (x554 : Int32) (x555 : Int32) (x556 : Int32), lv_has ls552 5 [(0, .ref a0), (2, .int x554), (3, .int x555), (4, .int x556)] → TY K G H551 → va_S (AE G [112, 140, 139] s.heap.size) s.heap H551 locsH551 → ((-1) ≤ x555.toInt ∧ x555.toInt ≤ 7) → (0 ≤ x556.toInt ∧ x556.toInt ≤ 8) → (MF K s.heap H551 a0 [0]) → (CG (avw K H551 a0)) → (TU (avw K H551 a0) (svw K H551 a0)) → (WD (avw K H551 a0)) → (IM (avw K H551 a0)) → (8 - x556.toInt < (nf : Int)) → W p l e ({ frames := 6, cells := 0, slots := 0, locals := 145 } : Room) s m (([.ref a0, .int x1] : List Value).toArray) below meth c H551 locsH551 0 0 Q (F0 m 27 ls552 []) := by
    intro nf
    induction nf with
    | zero =>
      intro ls552 H551 locsH551 x554 x555 x556 hl553 hTH551 hSH551 bx555 bx556 mfy557 gy557_CG gy557_TU gy557_WD gy557_IM hm27
      have rx554 := i_rng x554
      exfalso
      omega
    | succ nf ih27 =>
      intro ls552 H551 locsH551 x554 x555 x556 hl553 hTH551 hSH551 bx555 bx556 mfy557 gy557_CG gy557_TU gy557_WD gy557_IM hm27
      have rx554 := i_rng x554
      have J76 : ∀ (ls559 : Array Slot) (H558 : Heap) (locsH558 : List Loc) (x561 : Int32), lv_has ls559 5 [(0, .ref a0), (2, .int x554), (3, .int x561), (4, .int x556)] → TY K G H558 → va_S (AE G [112, 140, 139] s.heap.size) s.heap H558 locsH558 → ((-1) ≤ x561.toInt ∧ x561.toInt ≤ 7) → (0 ≤ x556.toInt ∧ x556.toInt ≤ 7) → (MF K s.heap H558 a0 [0]) → (CG (avw K H558 a0)) → (TU (avw K H558 a0) (svw K H558 a0)) → (WD (avw K H558 a0)) → (IM (avw K H558 a0)) → W p l e ({ frames := 6, cells := 0, slots := 0, locals := 145 } : Room) s m (([.ref a0, .int x1] : List Value).toArray) below meth c H558 locsH558 0 0 Q (F0 m 76 ls559 []) := by
        intro ls559 H558 locsH558 x561 hl560 hTH558 hSH558 bx561 b562 mfy563 gy563_CG gy563_TU gy563_WD gy563_IM
        obtain ⟨x564, ex564⟩ : ∃ y : Int32, y = x556 + 1 := ⟨_, rfl⟩
        have tx564 := i_add ex564 (by omega)
        refine lv_iinc (v := x564) (lv' := [(4, .int x564), (0, .ref a0), (2, .int x554), (3, .int x561)]) hx hb dX10_down_76 hl560 (k := 3) rfl (by rw [ex564]; rfl) (by decide) rfl (fun ls565 hl566 => ?_)
        refine lv_goto (tgt := 27) hx hb dX10_down_79 (by decide) ?_
        exact ih27 ls565 H558 locsH558 (x554) (x561) (x564) (lv_sub hl566 [1, 2, 3, 0] rfl) hTH558 hSH558 (by have := i_rng x561; omega) (by have := i_rng x564; omega) mfy563 gy563_CG gy563_TU gy563_WD gy563_IM (by omega)
      have J73 : ∀ (ls568 : Array Slot) (H567 : Heap) (locsH567 : List Loc) , lv_has ls568 5 [(0, .ref a0), (2, .int x554), (4, .int x556)] → TY K G H567 → va_S (AE G [112, 140, 139] s.heap.size) s.heap H567 locsH567 → (0 ≤ x556.toInt ∧ x556.toInt ≤ 7) → (MF K s.heap H567 a0 [0]) → (CG (avw K H567 a0)) → (TU (avw K H567 a0) (svw K H567 a0)) → (WD (avw K H567 a0)) → (IM (avw K H567 a0)) → W p l e ({ frames := 6, cells := 0, slots := 0, locals := 145 } : Room) s m (([.ref a0, .int x1] : List Value).toArray) below meth c H567 locsH567 0 0 Q (F0 m 73 ls568 []) := by
        intro ls568 H567 locsH567  hl569 hTH567 hSH567 b570 mfy571 gy571_CG gy571_TU gy571_WD gy571_IM
        refine lv_iload hx hb dX10_down_73 (lv_at hl569 2 rfl) ?_
        refine lv_istore_n (lv' := [(3, .int x556), (0, .ref a0), (2, .int x554), (4, .int x556)]) hx hb dX10_down_75 rfl hl569 (by decide) rfl (fun ls572 hl573 => ?_)
        exact J76 ls572 H567 locsH567 (x556) (lv_sub hl573 [1, 2, 0, 3] rfl) hTH567 hSH567 (by have := i_rng x556; omega) (by have := i_rng x556; omega) mfy571 gy571_CG gy571_TU gy571_WD gy571_IM
      refine lv_iload hx hb dX10_down_27 (lv_at hl553 3 rfl) ?_
      refine lv_aload_n hx hb dX10_down_29 rfl (lv_at hl553 0 rfl) ?_
      refine x_gi C hTH551 (ci := 10) (k := 62) rfl inX10 (by decide) wF_X10_455 ga0 rg_112 rfl dX10_down_30 (fun x574 ex574 bx574 => ?_)
      refine lv_icmp_ge (tgt := 82) hx hb dX10_down_33 (by decide) (fun c575 => ?_) (fun c575 => ?_)
      · have k576 := i_le c575
        refine lv_iload_n hx hb dX10_down_82 rfl (lv_at hl553 2 rfl) ?_
        exact x_iret C hQ dX10_down_83 hSH551 (by decide) (by decide) (⟨x555, rfl, gy557_CG, gy557_TU, gy557_WD, gy557_IM, mfy557, hTH551⟩)
      · have k576 := i_nle c575
        refine lv_aload_n hx hb dX10_down_36 rfl (lv_at hl553 0 rfl) ?_
        refine x_gr C hTH551 (ci := 10) (k := 63) rfl inX10 (by decide) wF_X10_146 ga0 rg_112 rfl dX10_down_37 (fun q577 eq577 gq577 => ?_)
        refine lv_iload hx hb dX10_down_40 (lv_at hl553 3 rfl) ?_
        refine x_ai C hTH551 gq577 rg_156 ⟨by omega, by show _ < ((8 : Nat) : Int); omega⟩ dX10_down_42 (fun x578 ex578 bx578 => ?_)
        refine lv_iload_n hx hb dX10_down_43 rfl (lv_at hl553 1 rfl) ?_
        refine lv_aload_n hx hb dX10_down_44 rfl (lv_at hl553 0 rfl) ?_
        refine x_gi C hTH551 (ci := 10) (k := 3) rfl inX10 (by decide) wF_X10_7 ga0 rg_112 rfl dX10_down_45 (fun x579 ex579 bx579 => ?_)
        refine lv_iadd hx hb dX10_down_48 ?_
        refine lv_topi (fun x580 ex580 => ?_)
        refine lv_icmp_gt (tgt := 76) hx hb dX10_down_49 (by decide) (fun c581 => ?_) (fun c581 => ?_)
        · have k582 := i_lt c581
          exact J76 ls552 H551 locsH551 (x555) (lv_sub hl553 [0, 1, 2, 3] rfl) hTH551 hSH551 (by have := i_rng x555; omega) (by have := i_rng x556; omega) mfy557 gy557_CG gy557_TU gy557_WD gy557_IM
        · have k582 := i_nlt c581
          refine lv_iload_n hx hb dX10_down_52 rfl (lv_at hl553 2 rfl) ?_
          refine lv_iconst (v := (-1)) hx hb dX10_down_53 (by decide) ?_
          refine lv_icmp_eq (tgt := 73) hx hb dX10_down_54 (by decide) (fun c583 => ?_) (fun c583 => ?_)
          · have k584 := i_eq c583
            exact J73 ls552 H551 locsH551 (lv_sub hl553 [0, 1, 3] rfl) hTH551 hSH551 (by have := i_rng x556; omega) mfy557 gy557_CG gy557_TU gy557_WD gy557_IM
          · have k584 := i_ne c583
            refine lv_aload_n hx hb dX10_down_57 rfl (lv_at hl553 0 rfl) ?_
            refine x_gr C hTH551 (ci := 10) (k := 63) rfl inX10 (by decide) wF_X10_146 ga0 rg_112 rfl dX10_down_58 (fun q585 eq585 gq585 => ?_)
            have uq585 : q577 = q585 := (eq577).trans eq585.symm
            subst uq585
            refine lv_iload hx hb dX10_down_61 (lv_at hl553 3 rfl) ?_
            refine x_ai C hTH551 gq577 rg_156 ⟨by omega, by show _ < ((8 : Nat) : Int); omega⟩ dX10_down_63 (fun x586 ex586 bx586 => ?_)
            have ux586 : x578 = x586 := (ex578).trans ex586.symm
            subst ux586
            refine lv_aload_n hx hb dX10_down_64 rfl (lv_at hl553 0 rfl) ?_
            refine x_gr C hTH551 (ci := 10) (k := 63) rfl inX10 (by decide) wF_X10_146 ga0 rg_112 rfl dX10_down_65 (fun q587 eq587 gq587 => ?_)
            have uq587 : q577 = q587 := (eq577).trans eq587.symm
            subst uq587
            refine lv_iload_n hx hb dX10_down_68 rfl (lv_at hl553 2 rfl) ?_
            refine x_ai C hTH551 gq577 rg_156 ⟨by omega, by show _ < ((8 : Nat) : Int); omega⟩ dX10_down_69 (fun x588 ex588 bx588 => ?_)
            refine lv_icmp_le (tgt := 76) hx hb dX10_down_70 (by decide) (fun c589 => ?_) (fun c589 => ?_)
            · have k590 := i_le c589
              exact J76 ls552 H551 locsH551 (x555) (lv_sub hl553 [0, 1, 2, 3] rfl) hTH551 hSH551 (by have := i_rng x555; omega) (by have := i_rng x556; omega) mfy557 gy557_CG gy557_TU gy557_WD gy557_IM
            · have k590 := i_nle c589
              exact J73 ls552 H551 locsH551 (lv_sub hl553 [0, 1, 3] rfl) hTH551 hSH551 (by have := i_rng x556; omega) mfy557 gy557_CG gy557_TU gy557_WD gy557_IM
  refine lv_aload_n hx hb dX10_down_0 rfl (lv_at hl 0 rfl) ?_
  refine lv_iconst (v := 0) hx hb dX10_down_1 (by decide) ?_
  refine x_put C hT hS (ci := 10) (k := 0) (v := .int 0) (ty0 := tyX10) rfl inX10 tyX10_ok nmX10 (by decide) rfl wF_X10_167 ga0 rg_112 rfl rfl (okI (by have := i_rng (0 : Int32); omega) (by have := i_rng (0 : Int32); omega)) rfl rfl (AE_in ga0 (by decide)) dX10_down_2 (fun H591 locsH591 hTH591 hSH591 wH591 => ?_)
  have mf592 : MF K s.heap H591 a0 [0] := MF.fld hap wH591 (by decide) (by decide) mf0
  have g593 : CG (avw K H591 a0) := CG.congr (fun k hk j => av_fld hT ga0 hap wH591 (by decide) (CG_ok 112 (by decide) k hk) (CG_ne 0 (by decide) k hk)) hg_CG
  have g594 : TU (avw K H591 a0) (svw K H591 a0) := TU.congr (fun k hk j => av_fld hT ga0 hap wH591 (by decide) (TU_ok 112 (by decide) k hk) (TU_ne 0 (by decide) k hk)) (fun k hk => sv_fld hap wH591 (by decide) (TU_slt k hk) (TU_sne 0 (by decide) k hk)) hg_TU
  have g595 : WD (avw K H591 a0) := WD.congr (fun k hk j => av_fld hT ga0 hap wH591 (by decide) (WD_ok 112 (by decide) k hk) (WD_ne 0 (by decide) k hk)) hg_WD
  have g596 : IM (avw K H591 a0) := IM.congr (fun k hk j => av_fld hT ga0 hap wH591 (by decide) (IM_ok 112 (by decide) k hk) (IM_ne 0 (by decide) k hk)) hg_IM
  have m597 := Wr.I wH591
  refine lv_aload_n hx hb dX10_down_5 rfl (lv_at hl 0 rfl) ?_
  refine lv_iload_n hx hb dX10_down_6 rfl (lv_at hl 1 rfl) ?_
  obtain ⟨x598, ex598⟩ : ∃ z : Int32, z = fI H591 a0 (K.1.2 10 1) := ⟨_, rfl⟩
  have bx598 := ty_fi (x := x598) (k := 1) ex598 hTH591 ga0 rg_112 rfl
  refine x_V (As := [.int x1]) (rest := []) C (a_X10_isBar l K G H591 (x1) (x598) hTH591 ga0 ex598) yo_X10_isBar wM_X10_173 ⟨⟨by decide, by decide⟩, by decide, by decide⟩ (x_rv C hTH591 (ci := 10) rfl ga0 rg_112) rfl hl.1 rfl (Nat.le_of_ble_eq_true rfl) dX10_down_7 hSH591 (AE_sub (fun _ _ => rfl) (by decide) hSH591.1) (fun vH599 H599 locsH599 pH599 zH599 kH599 hSH599 => ?_)
  obtain ⟨x600, hvH599, bx600, hrH599, hTH599⟩ := pH599
  subst hvH599
  have mf601 : MF K s.heap H599 a0 [0] := MF.eff (x_lt hTH591 kH599 ga0 (by decide)) mf592
  have g602 : CG (avw K H599 a0) := CG.congr (fun k hk j => av_eff hTH591 kH599 ga0 (by decide) (CG_eff [] (by decide) k hk)) g593
  have g603 : TU (avw K H599 a0) (svw K H599 a0) := TU.congr (fun k hk j => av_eff hTH591 kH599 ga0 (by decide) (TU_eff [] (by decide) k hk)) (fun k hk => sv_eff hTH591 kH599 ga0 (by decide)) g594
  have g604 : WD (avw K H599 a0) := WD.congr (fun k hk j => av_eff hTH591 kH599 ga0 (by decide) (WD_eff [] (by decide) k hk)) g595
  have g605 : IM (avw K H599 a0) := IM.congr (fun k hk j => av_eff hTH591 kH599 ga0 (by decide) (IM_eff [] (by decide) k hk)) g596
  have m606 := (fI_kept (x_lt hTH591 kH599 ga0 (by decide))).trans m597
  have m607 := (ex598).trans (fI_kept (x_lt hTH591 kH599 ga0 (by decide))).symm
  refine W.eq (g2 := F0 m 10 ls [.int x600]) rfl ?_
  refine lv_if_ne (tgt := 15) hx hb dX10_down_10 (by decide) (fun c608 => ?_) (fun c608 => ?_)
  · have k609 := i_ne c608
    refine lv_aload_n hx hb dX10_down_15 rfl (lv_at hl 0 rfl) ?_
    refine lv_iload_n hx hb dX10_down_16 rfl (lv_at hl 1 rfl) ?_
    refine lv_iconst (v := 0) hx hb dX10_down_17 (by decide) ?_
    refine x_V (As := [.int x1, .int 0]) (rest := []) C (a_X10_toneNow l K G H599 (x1) (0) hTH599 ga0 (by omega) g602) yo_X10_toneNow wM_X10_335 ⟨⟨by decide, by decide⟩, by decide, by decide⟩ (x_rv C hTH599 (ci := 10) rfl ga0 rg_112) rfl hl.1 rfl (Nat.le_of_ble_eq_true rfl) dX10_down_18 hSH599 (AE_sub (fun _ _ => rfl) (by decide) hSH599.1) (fun vH610 H610 locsH610 pH610 zH610 kH610 hSH610 => ?_)
    obtain ⟨x611, hvH610, hTH610⟩ := pH610
    subst hvH610
    have mf612 : MF K s.heap H610 a0 [0] := MF.eff (x_lt hTH599 kH610 ga0 (by decide)) mf601
    have g613 : CG (avw K H610 a0) := CG.congr (fun k hk j => av_eff hTH599 kH610 ga0 (by decide) (CG_eff [140, 139] (by decide) k hk)) g602
    have g614 : TU (avw K H610 a0) (svw K H610 a0) := TU.congr (fun k hk j => av_eff hTH599 kH610 ga0 (by decide) (TU_eff [140, 139] (by decide) k hk)) (fun k hk => sv_eff hTH599 kH610 ga0 (by decide)) g603
    have g615 : WD (avw K H610 a0) := WD.congr (fun k hk j => av_eff hTH599 kH610 ga0 (by decide) (WD_eff [140, 139] (by decide) k hk)) g604
    have g616 : IM (avw K H610 a0) := IM.congr (fun k hk j => av_eff hTH599 kH610 ga0 (by decide) (IM_eff [140, 139] (by decide) k hk)) g605
    have m617 := (fI_kept (x_lt hTH599 kH610 ga0 (by decide))).trans m606
    have m618 := (m607).trans (fI_kept (x_lt hTH599 kH610 ga0 (by decide))).symm
    refine W.eq (g2 := F0 m 21 ls [.int x611]) rfl ?_
    refine lv_istore_n (lv' := [(2, .int x611), (0, .ref a0), (1, .int x1)]) hx hb dX10_down_21 rfl hl (by decide) rfl (fun ls619 hl620 => ?_)
    refine lv_iconst (v := (-1)) hx hb dX10_down_22 (by decide) ?_
    refine lv_istore_n (lv' := [(3, .int (-1)), (2, .int x611), (0, .ref a0), (1, .int x1)]) hx hb dX10_down_23 rfl hl620 (by decide) rfl (fun ls621 hl622 => ?_)
    refine lv_iconst (v := 0) hx hb dX10_down_24 (by decide) ?_
    refine lv_istore (lv' := [(4, .int 0), (3, .int (-1)), (2, .int x611), (0, .ref a0), (1, .int x1)]) hx hb dX10_down_25 hl622 (by decide) rfl (fun ls623 hl624 => ?_)
    exact J27 ((8 - (0 : Int32).toInt).toNat + 1) ls623 H610 locsH610 (x611) ((-1)) (0) (lv_sub hl624 [3, 2, 1, 0] rfl) hTH610 hSH610 (by decide) (by decide) mf612 g613 g614 g615 g616 (by omega)
  · have k609 := i_eq c608
    refine lv_iconst (v := (-1)) hx hb dX10_down_13 (by decide) ?_
    exact x_iret C hQ dX10_down_14 hSH599 (by decide) (by decide) (⟨(-1), rfl, g602, g603, g604, g605, mf601, hTH599⟩)

set_option maxHeartbeats 4000000 in
set_option maxRecDepth 100000 in
theorem a_X10_enough (l : Launch) (K : KE) (G : Nat → Option Nat) (H : Heap) {a0 : Nat} (x1 : Int32) (x2 : Int32) (x3 : Int32) (hT : TY K G H) (ga0 : G a0 = some 112) (hg_CG : CG (avw K H a0)) (hg_TU : TU (avw K H a0) (svw K H a0)) (hg_WD : WD (avw K H a0)) (hg_IM : IM (avw K H a0)) : MX l K yX10_enough cX10_enough 7 (some .int) 6 145 0 0 [.ref a0, .int x1, .int x2, .int x3] H (AE G [112, 117, 140, 139] H.size) (fun v H1 => ∃ (r : Int32), v = some (.int r) ∧ (CG (avw K H1 a0)) ∧ (TU (avw K H1 a0) (svw K H1 a0)) ∧ (WD (avw K H1 a0)) ∧ (IM (avw K H1 a0)) ∧ MF K H H1 a0 [0] ∧ TY K G H1) := by
  refine MX.of (by decide +kernel) (Nat.le_of_ble_eq_true rfl) ?_
  intro p e s m below meth c ls Q C hH hl hQ
  subst hH
  have C : CX p K s m _ meth c RX10 cX10_enough 7 (some .int) "enough" := C
  obtain ⟨hx, hb, hml, hown, hts, hKT, hr, hlocks, hnm⟩ := id C
  have hl : lv_has ls 7 [(0, .ref a0), (1, .int x1), (2, .int x2), (3, .int x3)] := hl
  have hS : va_S (AE G [112, 117, 140, 139] s.heap.size) s.heap s.heap [] := va_S.rf
  have n_m1 : ((-1) : Int32).toInt = -1 := rfl
  have n_0 : (0 : Int32).toInt = 0 := rfl
  have n_1 : (1 : Int32).toInt = 1 := rfl
  have n_3 : (3 : Int32).toInt = 3 := rfl
  have n_16 : (16 : Int32).toInt = 16 := rfl
  have n_99 : (99 : Int32).toInt = 99 := rfl
  have hap : ∀ x y, x < 74 → y < 74 → x ≠ y → K.1.2 10 x ≠ K.1.2 10 y := x_apart hKT hts inX10 tyX10 tyX10_ok nmX10 rfl
  have mf0 : MF K s.heap s.heap a0 [0] := fun _ _ _ => rfl
  have J35 : ∀ (ls542 : Array Slot) (H541 : Heap) (locsH541 : List Loc) , lv_has ls542 7 [] → TY K G H541 → va_S (AE G [112, 117, 140, 139] s.heap.size) s.heap H541 locsH541 → (MF K s.heap H541 a0 [0]) → (CG (avw K H541 a0)) → (TU (avw K H541 a0) (svw K H541 a0)) → (WD (avw K H541 a0)) → (IM (avw K H541 a0)) → W p l e ({ frames := 6, cells := 0, slots := 0, locals := 145 } : Room) s m (([.ref a0, .int x1, .int x2, .int x3] : List Value).toArray) below meth c H541 locsH541 0 0 Q (F0 m 35 ls542 []) := by
    intro ls542 H541 locsH541  hl543 hTH541 hSH541 mfy544 gy544_CG gy544_TU gy544_WD gy544_IM
    refine lv_iconst (v := (-1)) hx hb dX10_enough_35 (by decide) ?_
    exact x_iret C hQ dX10_enough_36 hSH541 (by decide) (by decide) (⟨(-1), rfl, gy544_CG, gy544_TU, gy544_WD, gy544_IM, mfy544, hTH541⟩)
  have J57 : ∀ (nf : Nat) (ls546 : Array Slot) (H545 : Heap) (locsH545 : List Loc) (x551 : Int32) (x552 : Int32) (x553 : Int32), lv_has ls546 7 [(0, .ref a0), (1, .int x1), (2, .int x2), (3, .int x3), (4, .int x551), (5, .int x552), (6, .int x553)] → TY K G H545 → va_S (AE G [112, 117, 140, 139] s.heap.size) s.heap H545 locsH545 → (0 ≤ x1.toInt ∧ x1.toInt ≤ 9) → (0 ≤ x2.toInt ∧ x2.toInt ≤ 15) → (0 ≤ x3.toInt ∧ x3.toInt ≤ 2) → ((-2147483648) ≤ x553.toInt ∧ x553.toInt ≤ 99) → (MF K s.heap H545 a0 [0]) → (CG (avw K H545 a0)) → (TU (avw K H545 a0) (svw K H545 a0)) → (WD (avw K H545 a0)) → (IM (avw K H545 a0)) → (2147483647 - x552.toInt < (nf : Int)) → W p l e ({ frames := 6, cells := 0, slots := 0, locals := 145 } : Room) s m (([.ref a0, .int x1, .int x2, .int x3] : List Value).toArray) below meth c H545 locsH545 0 0 Q (F0 m 57 ls546 []) := by
    intro nf
    induction nf with
    | zero =>
      intro ls546 H545 locsH545 x551 x552 x553 hl547 hTH545 hSH545 b548 b549 b550 bx553 mfy554 gy554_CG gy554_TU gy554_WD gy554_IM hm57
      have rx551 := i_rng x551
      have rx552 := i_rng x552
      exfalso
      omega
    | succ nf ih57 =>
      intro ls546 H545 locsH545 x551 x552 x553 hl547 hTH545 hSH545 b548 b549 b550 bx553 mfy554 gy554_CG gy554_TU gy554_WD gy554_IM hm57
      have rx551 := i_rng x551
      have rx552 := i_rng x552
      have J120 : ∀ (ls556 : Array Slot) (H555 : Heap) (locsH555 : List Loc) , lv_has ls556 7 [(0, .ref a0), (1, .int x1), (2, .int x2), (4, .int x551), (6, .int x553)] → TY K G H555 → va_S (AE G [112, 117, 140, 139] s.heap.size) s.heap H555 locsH555 → (MF K s.heap H555 a0 [0]) → (CG (avw K H555 a0)) → (TU (avw K H555 a0) (svw K H555 a0)) → (WD (avw K H555 a0)) → (IM (avw K H555 a0)) → W p l e ({ frames := 6, cells := 0, slots := 0, locals := 145 } : Room) s m (([.ref a0, .int x1, .int x2, .int x3] : List Value).toArray) below meth c H555 locsH555 0 0 Q (F0 m 120 ls556 []) := by
        intro ls556 H555 locsH555  hl557 hTH555 hSH555 mfy558 gy558_CG gy558_TU gy558_WD gy558_IM
        refine lv_aload_n hx hb dX10_enough_120 rfl (lv_at hl557 0 rfl) ?_
        refine x_gr C hTH555 (ci := 10) (k := 8) rfl inX10 (by decide) wF_X10_26 ga0 rg_112 rfl dX10_enough_121 (fun q559 eq559 gq559 => ?_)
        refine lv_bipush (v := 16) hx hb dX10_enough_124 (by decide) ?_
        refine lv_iload_n hx hb dX10_enough_126 rfl (lv_at hl557 1 rfl) ?_
        refine lv_imul hx hb dX10_enough_127 ?_
        refine lv_topi (fun x560 ex560 => ?_)
        have tx560 := i_mul ex560 (by rw [n_16]; omega)
        rw [n_16] at tx560
        refine lv_iload_n hx hb dX10_enough_128 rfl (lv_at hl557 2 rfl) ?_
        refine lv_iadd hx hb dX10_enough_129 ?_
        refine lv_topi (fun x561 ex561 => ?_)
        have tx561 := i_add ex561 (by omega)
        refine lv_iload hx hb dX10_enough_130 (lv_at hl557 3 rfl) ?_
        refine x_iast C hTH555 hSH555 gq559 rg_117 (by omega) (by show _ < ((160 : Nat) : Int); omega) ⟨by have := i_rng x551; omega, by have := i_rng x551; omega⟩ (AE_in gq559 (by decide)) dX10_enough_132 (fun H562 locsH562 hTH562 hSH562 wH562 => ?_)
        have mf563 : MF K s.heap H562 a0 [0] := MF.arr wH562 (G_ne ga0 gq559 (by decide)) mfy558
        have g564 : CG (avw K H562 a0) := CG.congr (fun k hk j => av_arr hTH555 ga0 wH562 gq559 (by decide) (CG_ok 117 (by decide) k hk)) gy558_CG
        have g565 : TU (avw K H562 a0) (svw K H562 a0) := TU.congr (fun k hk j => av_arr hTH555 ga0 wH562 gq559 (by decide) (TU_ok 117 (by decide) k hk)) (fun k hk => sv_arr ga0 wH562 gq559 (by decide)) gy558_TU
        have g566 : WD (avw K H562 a0) := WD.congr (fun k hk j => av_arr hTH555 ga0 wH562 gq559 (by decide) (WD_ok 117 (by decide) k hk)) gy558_WD
        have g567 : IM (avw K H562 a0) := IM.congr (fun k hk j => av_arr hTH555 ga0 wH562 gq559 (by decide) (IM_ok 117 (by decide) k hk)) gy558_IM
        have m568 := eq559.trans (Wr.neR wH562 (Or.inl (G_ne ga0 gq559 (by decide)))).symm
        have m569 := Wr.I wH562
        have m569 := m569.symm
        refine lv_iload hx hb dX10_enough_133 (lv_at hl557 4 rfl) ?_
        exact x_iret C hQ dX10_enough_135 hSH562 (by decide) (by decide) (⟨x553, rfl, g564, g565, g566, g567, mf563, hTH562⟩)
      have J111 : ∀ (ls571 : Array Slot) (H570 : Heap) (locsH570 : List Loc) (x574 : Int32), lv_has ls571 7 [(0, .ref a0), (1, .int x1), (2, .int x2), (3, .int x3), (4, .int x551), (5, .int x552), (6, .int x574)] → TY K G H570 → va_S (AE G [112, 117, 140, 139] s.heap.size) s.heap H570 locsH570 → ((-2147483648) ≤ x552.toInt ∧ x552.toInt ≤ 99) → ((-2147483648) ≤ x574.toInt ∧ x574.toInt ≤ 99) → (MF K s.heap H570 a0 [0]) → (CG (avw K H570 a0)) → (TU (avw K H570 a0) (svw K H570 a0)) → (WD (avw K H570 a0)) → (IM (avw K H570 a0)) → W p l e ({ frames := 6, cells := 0, slots := 0, locals := 145 } : Room) s m (([.ref a0, .int x1, .int x2, .int x3] : List Value).toArray) below meth c H570 locsH570 0 0 Q (F0 m 111 ls571 []) := by
        intro ls571 H570 locsH570 x574 hl572 hTH570 hSH570 b573 bx574 mfy575 gy575_CG gy575_TU gy575_WD gy575_IM
        refine lv_iload hx hb dX10_enough_111 (lv_at hl572 5 rfl) ?_
        refine lv_iconst (v := 1) hx hb dX10_enough_113 (by decide) ?_
        refine lv_iadd hx hb dX10_enough_114 ?_
        refine lv_topi (fun x576 ex576 => ?_)
        have tx576 := i_add ex576 (by have := i_rng x552; omega)
        refine lv_istore (lv' := [(5, .int x576), (0, .ref a0), (1, .int x1), (2, .int x2), (3, .int x3), (4, .int x551), (6, .int x574)]) hx hb dX10_enough_115 hl572 (by decide) rfl (fun ls577 hl578 => ?_)
        refine lv_goto (tgt := 57) hx hb dX10_enough_117 (by decide) ?_
        exact ih57 ls577 H570 locsH570 (x551) (x576) (x574) (lv_sub hl578 [1, 2, 3, 4, 5, 0, 6] rfl) hTH570 hSH570 (by have := i_rng x1; omega) (by have := i_rng x2; omega) (by have := i_rng x3; omega) (by have := i_rng x574; omega) mfy575 gy575_CG gy575_TU gy575_WD gy575_IM (by omega)
      refine lv_iload hx hb dX10_enough_57 (lv_at hl547 5 rfl) ?_
      refine lv_bipush (v := 99) hx hb dX10_enough_59 (by decide) ?_
      refine lv_icmp_gt (tgt := 120) hx hb dX10_enough_61 (by decide) (fun c579 => ?_) (fun c579 => ?_)
      · have k580 := i_lt c579
        exact J120 ls546 H545 locsH545 (lv_sub hl547 [0, 1, 2, 4, 6] rfl) hTH545 hSH545 mfy554 gy554_CG gy554_TU gy554_WD gy554_IM
      · have k580 := i_nlt c579
        refine lv_iload hx hb dX10_enough_64 (lv_at hl547 6 rfl) ?_
        refine lv_iconst (v := (-1)) hx hb dX10_enough_66 (by decide) ?_
        refine lv_icmp_ne (tgt := 120) hx hb dX10_enough_67 (by decide) (fun c581 => ?_) (fun c581 => ?_)
        · have k582 := i_ne c581
          exact J120 ls546 H545 locsH545 (lv_sub hl547 [0, 1, 2, 4, 6] rfl) hTH545 hSH545 mfy554 gy554_CG gy554_TU gy554_WD gy554_IM
        · have k582 := i_eq c581
          refine lv_aload_n hx hb dX10_enough_70 rfl (lv_at hl547 0 rfl) ?_
          refine x_gr C hTH545 (ci := 10) (k := 8) rfl inX10 (by decide) wF_X10_26 ga0 rg_112 rfl dX10_enough_71 (fun q583 eq583 gq583 => ?_)
          refine lv_bipush (v := 16) hx hb dX10_enough_74 (by decide) ?_
          refine lv_iload_n hx hb dX10_enough_76 rfl (lv_at hl547 1 rfl) ?_
          refine lv_imul hx hb dX10_enough_77 ?_
          refine lv_topi (fun x584 ex584 => ?_)
          have tx584 := i_mul ex584 (by rw [n_16]; omega)
          rw [n_16] at tx584
          refine lv_iload_n hx hb dX10_enough_78 rfl (lv_at hl547 2 rfl) ?_
          refine lv_iadd hx hb dX10_enough_79 ?_
          refine lv_topi (fun x585 ex585 => ?_)
          have tx585 := i_add ex585 (by omega)
          refine lv_iload hx hb dX10_enough_80 (lv_at hl547 5 rfl) ?_
          refine x_iast C hTH545 hSH545 gq583 rg_117 (by omega) (by show _ < ((160 : Nat) : Int); omega) ⟨by have := i_rng x552; omega, by have := i_rng x552; omega⟩ (AE_in gq583 (by decide)) dX10_enough_82 (fun H586 locsH586 hTH586 hSH586 wH586 => ?_)
          have mf587 : MF K s.heap H586 a0 [0] := MF.arr wH586 (G_ne ga0 gq583 (by decide)) mfy554
          have g588 : CG (avw K H586 a0) := CG.congr (fun k hk j => av_arr hTH545 ga0 wH586 gq583 (by decide) (CG_ok 117 (by decide) k hk)) gy554_CG
          have g589 : TU (avw K H586 a0) (svw K H586 a0) := TU.congr (fun k hk j => av_arr hTH545 ga0 wH586 gq583 (by decide) (TU_ok 117 (by decide) k hk)) (fun k hk => sv_arr ga0 wH586 gq583 (by decide)) gy554_TU
          have g590 : WD (avw K H586 a0) := WD.congr (fun k hk j => av_arr hTH545 ga0 wH586 gq583 (by decide) (WD_ok 117 (by decide) k hk)) gy554_WD
          have g591 : IM (avw K H586 a0) := IM.congr (fun k hk j => av_arr hTH545 ga0 wH586 gq583 (by decide) (IM_ok 117 (by decide) k hk)) gy554_IM
          have m592 := eq583.trans (Wr.neR wH586 (Or.inl (G_ne ga0 gq583 (by decide)))).symm
          have m593 := Wr.I wH586
          have m593 := m593.symm
          refine lv_aload_n hx hb dX10_enough_83 rfl (lv_at hl547 0 rfl) ?_
          refine lv_iload_n hx hb dX10_enough_84 rfl (lv_at hl547 1 rfl) ?_
          refine lv_iload_n hx hb dX10_enough_85 rfl (lv_at hl547 3 rfl) ?_
          refine x_V (As := [.int x1, .int x3]) (rest := []) C (a_X10_toneNow l K G H586 (x1) (x3) hTH586 ga0 (by omega) g588) yo_X10_toneNow wM_X10_335 ⟨⟨by decide, by decide⟩, by decide, by decide⟩ (x_rv C hTH586 (ci := 10) rfl ga0 rg_112) rfl hl547.1 rfl (Nat.le_of_ble_eq_true rfl) dX10_enough_86 hSH586 (AE_sub (fun _ _ => rfl) (by decide) hSH586.1) (fun vH594 H594 locsH594 pH594 zH594 kH594 hSH594 => ?_)
          obtain ⟨x595, hvH594, hTH594⟩ := pH594
          subst hvH594
          have mf596 : MF K s.heap H594 a0 [0] := MF.eff (x_lt hTH586 kH594 ga0 (by decide)) mf587
          have g597 : CG (avw K H594 a0) := CG.congr (fun k hk j => av_eff hTH586 kH594 ga0 (by decide) (CG_eff [140, 139] (by decide) k hk)) g588
          have g598 : TU (avw K H594 a0) (svw K H594 a0) := TU.congr (fun k hk j => av_eff hTH586 kH594 ga0 (by decide) (TU_eff [140, 139] (by decide) k hk)) (fun k hk => sv_eff hTH586 kH594 ga0 (by decide)) g589
          have g599 : WD (avw K H594 a0) := WD.congr (fun k hk j => av_eff hTH586 kH594 ga0 (by decide) (WD_eff [140, 139] (by decide) k hk)) g590
          have g600 : IM (avw K H594 a0) := IM.congr (fun k hk j => av_eff hTH586 kH594 ga0 (by decide) (IM_eff [140, 139] (by decide) k hk)) g591
          have m601 := (m592).trans (fR_kept (x_lt hTH586 kH594 ga0 (by decide))).symm
          have m602 := (m593).trans (fI_kept (x_lt hTH586 kH594 gq583 (by decide))).symm
          refine W.eq (g2 := F0 m 89 ls546 [.int x595]) rfl ?_
          refine lv_aload_n hx hb dX10_enough_89 rfl (lv_at hl547 0 rfl) ?_
          refine x_gr C hTH594 (ci := 10) (k := 9) rfl inX10 (by decide) wF_X10_29 ga0 rg_112 rfl dX10_enough_90 (fun q603 eq603 gq603 => ?_)
          refine lv_iconst (v := 3) hx hb dX10_enough_93 (by decide) ?_
          refine lv_iload_n hx hb dX10_enough_94 rfl (lv_at hl547 1 rfl) ?_
          refine lv_imul hx hb dX10_enough_95 ?_
          refine lv_topi (fun x604 ex604 => ?_)
          have tx604 := i_mul ex604 (by rw [n_3]; omega)
          rw [n_3] at tx604
          refine lv_iload_n hx hb dX10_enough_96 rfl (lv_at hl547 3 rfl) ?_
          refine lv_iadd hx hb dX10_enough_97 ?_
          refine lv_topi (fun x605 ex605 => ?_)
          have tx605 := i_add ex605 (by omega)
          refine x_ai C hTH594 gq603 rg_118 ⟨by omega, by show _ < ((30 : Nat) : Int); omega⟩ dX10_enough_98 (fun x606 ex606 bx606 => ?_)
          refine lv_aload_n hx hb dX10_enough_99 rfl (lv_at hl547 0 rfl) ?_
          refine x_gi C hTH594 (ci := 10) (k := 3) rfl inX10 (by decide) wF_X10_7 ga0 rg_112 rfl dX10_enough_100 (fun x607 ex607 bx607 => ?_)
          refine lv_iadd hx hb dX10_enough_103 ?_
          refine lv_topi (fun x608 ex608 => ?_)
          refine lv_icmp_gt (tgt := 111) hx hb dX10_enough_104 (by decide) (fun c609 => ?_) (fun c609 => ?_)
          · have k610 := i_lt c609
            exact J111 ls546 H594 locsH594 (x553) (lv_sub hl547 [0, 1, 2, 3, 4, 5, 6] rfl) hTH594 hSH594 (by have := i_rng x552; omega) (by have := i_rng x553; omega) mf596 g597 g598 g599 g600
          · have k610 := i_nlt c609
            refine lv_iload hx hb dX10_enough_107 (lv_at hl547 5 rfl) ?_
            refine lv_istore (lv' := [(6, .int x552), (0, .ref a0), (1, .int x1), (2, .int x2), (3, .int x3), (4, .int x551), (5, .int x552)]) hx hb dX10_enough_109 hl547 (by decide) rfl (fun ls611 hl612 => ?_)
            exact J111 ls611 H594 locsH594 (x552) (lv_sub hl612 [1, 2, 3, 4, 5, 6, 0] rfl) hTH594 hSH594 (by have := i_rng x552; omega) (by have := i_rng x552; omega) mf596 g597 g598 g599 g600
  refine lv_aload_n hx hb dX10_enough_0 rfl (lv_at hl 0 rfl) ?_
  refine lv_iconst (v := 0) hx hb dX10_enough_1 (by decide) ?_
  refine x_put C hT hS (ci := 10) (k := 0) (v := .int 0) (ty0 := tyX10) rfl inX10 tyX10_ok nmX10 (by decide) rfl wF_X10_167 ga0 rg_112 rfl rfl (okI (by have := i_rng (0 : Int32); omega) (by have := i_rng (0 : Int32); omega)) rfl rfl (AE_in ga0 (by decide)) dX10_enough_2 (fun H613 locsH613 hTH613 hSH613 wH613 => ?_)
  have mf614 : MF K s.heap H613 a0 [0] := MF.fld hap wH613 (by decide) (by decide) mf0
  have g615 : CG (avw K H613 a0) := CG.congr (fun k hk j => av_fld hT ga0 hap wH613 (by decide) (CG_ok 112 (by decide) k hk) (CG_ne 0 (by decide) k hk)) hg_CG
  have g616 : TU (avw K H613 a0) (svw K H613 a0) := TU.congr (fun k hk j => av_fld hT ga0 hap wH613 (by decide) (TU_ok 112 (by decide) k hk) (TU_ne 0 (by decide) k hk)) (fun k hk => sv_fld hap wH613 (by decide) (TU_slt k hk) (TU_sne 0 (by decide) k hk)) hg_TU
  have g617 : WD (avw K H613 a0) := WD.congr (fun k hk j => av_fld hT ga0 hap wH613 (by decide) (WD_ok 112 (by decide) k hk) (WD_ne 0 (by decide) k hk)) hg_WD
  have g618 : IM (avw K H613 a0) := IM.congr (fun k hk j => av_fld hT ga0 hap wH613 (by decide) (IM_ok 112 (by decide) k hk) (IM_ne 0 (by decide) k hk)) hg_IM
  have m619 := Wr.I wH613
  refine lv_aload_n hx hb dX10_enough_5 rfl (lv_at hl 0 rfl) ?_
  refine lv_iload_n hx hb dX10_enough_6 rfl (lv_at hl 1 rfl) ?_
  refine lv_iload_n hx hb dX10_enough_7 rfl (lv_at hl 2 rfl) ?_
  obtain ⟨x620, ex620⟩ : ∃ z : Int32, z = fI H613 a0 (K.1.2 10 1) := ⟨_, rfl⟩
  have bx620 := ty_fi (x := x620) (k := 1) ex620 hTH613 ga0 rg_112 rfl
  refine x_V (As := [.int x1, .int x2]) (rest := []) C (a_X10_isSlice l K G H613 (x1) (x2) (x620) hTH613 ga0 ex620) yo_X10_isSlice wM_X10_181 ⟨⟨by decide, by decide⟩, by decide, by decide⟩ (x_rv C hTH613 (ci := 10) rfl ga0 rg_112) rfl hl.1 rfl (Nat.le_of_ble_eq_true rfl) dX10_enough_8 hSH613 (AE_sub (fun _ _ => rfl) (by decide) hSH613.1) (fun vH621 H621 locsH621 pH621 zH621 kH621 hSH621 => ?_)
  obtain ⟨x622, hvH621, bx622, hrH621, hTH621⟩ := pH621
  subst hvH621
  have mf623 : MF K s.heap H621 a0 [0] := MF.eff (x_lt hTH613 kH621 ga0 (by decide)) mf614
  have g624 : CG (avw K H621 a0) := CG.congr (fun k hk j => av_eff hTH613 kH621 ga0 (by decide) (CG_eff [] (by decide) k hk)) g615
  have g625 : TU (avw K H621 a0) (svw K H621 a0) := TU.congr (fun k hk j => av_eff hTH613 kH621 ga0 (by decide) (TU_eff [] (by decide) k hk)) (fun k hk => sv_eff hTH613 kH621 ga0 (by decide)) g616
  have g626 : WD (avw K H621 a0) := WD.congr (fun k hk j => av_eff hTH613 kH621 ga0 (by decide) (WD_eff [] (by decide) k hk)) g617
  have g627 : IM (avw K H621 a0) := IM.congr (fun k hk j => av_eff hTH613 kH621 ga0 (by decide) (IM_eff [] (by decide) k hk)) g618
  have m628 := (fI_kept (x_lt hTH613 kH621 ga0 (by decide))).trans m619
  have m629 := (ex620).trans (fI_kept (x_lt hTH613 kH621 ga0 (by decide))).symm
  refine W.eq (g2 := F0 m 11 ls [.int x622]) rfl ?_
  refine lv_if_eq (tgt := 35) hx hb dX10_enough_11 (by decide) (fun c630 => ?_) (fun c630 => ?_)
  · have k631 := i_eq c630
    exact J35 ls H621 locsH621 (lv_sub hl [] rfl) hTH621 hSH621 mf623 g624 g625 g626 g627
  · have k631 := i_ne c630
    refine lv_aload_n hx hb dX10_enough_14 rfl (lv_at hl 0 rfl) ?_
    refine lv_iload_n hx hb dX10_enough_15 rfl (lv_at hl 3 rfl) ?_
    refine x_V (As := [.int x3]) (rest := []) C (c_X10_isTone l K G H621 (x3) hTH621 ga0) yo_X10_isTone wM_X10_331 ⟨⟨by decide, by decide⟩, by decide, by decide⟩ (x_rv C hTH621 (ci := 10) rfl ga0 rg_112) rfl hl.1 rfl (Nat.le_of_ble_eq_true rfl) dX10_enough_16 hSH621 (AE_sub (fun _ _ => rfl) (by decide) hSH621.1) (fun vH632 H632 locsH632 pH632 zH632 kH632 hSH632 => ?_)
    have hqH632 := pH632.1.symm
    subst hqH632
    rcases pH632.2 with ⟨hvH632, hcH632⟩ | ⟨hvH632, hcH632⟩
    · subst hvH632
      refine W.eq (g2 := F0 m 19 ls [.int 1]) rfl ?_
      refine lv_if_eq (tgt := 35) hx hb dX10_enough_19 (by decide) (fun c633 => ?_) (fun c633 => ?_)
      · have k634 := i_eq c633
        exfalso
        omega
      · have k634 := i_ne c633
        refine lv_aload_n hx hb dX10_enough_22 rfl (lv_at hl 0 rfl) ?_
        refine x_gr C hTH621 (ci := 10) (k := 9) rfl inX10 (by decide) wF_X10_29 ga0 rg_112 rfl dX10_enough_23 (fun q635 eq635 gq635 => ?_)
        refine lv_iconst (v := 3) hx hb dX10_enough_26 (by decide) ?_
        refine lv_iload_n hx hb dX10_enough_27 rfl (lv_at hl 1 rfl) ?_
        refine lv_imul hx hb dX10_enough_28 ?_
        refine lv_topi (fun x636 ex636 => ?_)
        have tx636 := i_mul ex636 (by rw [n_3]; omega)
        rw [n_3] at tx636
        refine lv_iload_n hx hb dX10_enough_29 rfl (lv_at hl 3 rfl) ?_
        refine lv_iadd hx hb dX10_enough_30 ?_
        refine lv_topi (fun x637 ex637 => ?_)
        have tx637 := i_add ex637 (by omega)
        refine x_ai C hTH621 gq635 rg_118 ⟨by omega, by show _ < ((30 : Nat) : Int); omega⟩ dX10_enough_31 (fun x638 ex638 bx638 => ?_)
        refine lv_if_ne (tgt := 37) hx hb dX10_enough_32 (by decide) (fun c639 => ?_) (fun c639 => ?_)
        · have k640 := i_ne c639
          refine lv_aload_n hx hb dX10_enough_37 rfl (lv_at hl 0 rfl) ?_
          refine x_gr C hTH621 (ci := 10) (k := 8) rfl inX10 (by decide) wF_X10_26 ga0 rg_112 rfl dX10_enough_38 (fun q641 eq641 gq641 => ?_)
          refine lv_bipush (v := 16) hx hb dX10_enough_41 (by decide) ?_
          refine lv_iload_n hx hb dX10_enough_43 rfl (lv_at hl 1 rfl) ?_
          refine lv_imul hx hb dX10_enough_44 ?_
          refine lv_topi (fun x642 ex642 => ?_)
          have tx642 := i_mul ex642 (by rw [n_16]; omega)
          rw [n_16] at tx642
          refine lv_iload_n hx hb dX10_enough_45 rfl (lv_at hl 2 rfl) ?_
          refine lv_iadd hx hb dX10_enough_46 ?_
          refine lv_topi (fun x643 ex643 => ?_)
          have tx643 := i_add ex643 (by omega)
          refine x_ai C hTH621 gq641 rg_117 ⟨by omega, by show _ < ((160 : Nat) : Int); omega⟩ dX10_enough_47 (fun x644 ex644 bx644 => ?_)
          refine lv_istore (lv' := [(4, .int x644), (0, .ref a0), (1, .int x1), (2, .int x2), (3, .int x3)]) hx hb dX10_enough_48 hl (by decide) rfl (fun ls645 hl646 => ?_)
          refine lv_iload hx hb dX10_enough_50 (lv_at hl646 0 rfl) ?_
          refine lv_istore (lv' := [(5, .int x644), (4, .int x644), (0, .ref a0), (1, .int x1), (2, .int x2), (3, .int x3)]) hx hb dX10_enough_52 hl646 (by decide) rfl (fun ls647 hl648 => ?_)
          refine lv_iconst (v := (-1)) hx hb dX10_enough_54 (by decide) ?_
          refine lv_istore (lv' := [(6, .int (-1)), (5, .int x644), (4, .int x644), (0, .ref a0), (1, .int x1), (2, .int x2), (3, .int x3)]) hx hb dX10_enough_55 hl648 (by decide) rfl (fun ls649 hl650 => ?_)
          exact J57 ((2147483647 - x644.toInt).toNat + 1) ls649 H621 locsH632 (x644) (x644) ((-1)) (lv_sub hl650 [3, 4, 5, 6, 2, 1, 0] rfl) hTH621 hSH632 (by have := i_rng x1; omega) (by have := i_rng x2; omega) (by have := i_rng x3; omega) (by decide) mf623 g624 g625 g626 g627 (by omega)
        · have k640 := i_eq c639
          exact J35 ls H621 locsH632 (lv_sub hl [] rfl) hTH621 hSH632 mf623 g624 g625 g626 g627
    · subst hvH632
      refine W.eq (g2 := F0 m 19 ls [.int 0]) rfl ?_
      refine lv_if_eq (tgt := 35) hx hb dX10_enough_19 (by decide) (fun c651 => ?_) (fun c651 => ?_)
      · have k652 := i_eq c651
        exact J35 ls H621 locsH632 (lv_sub hl [] rfl) hTH621 hSH632 mf623 g624 g625 g626 g627
      · have k652 := i_ne c651
        exfalso
        omega

set_option maxHeartbeats 4000000 in
set_option maxRecDepth 100000 in
theorem a_X10_look (l : Launch) (K : KE) (G : Nat → Option Nat) (H : Heap) {a0 : Nat} (x1 : Int32) (hT : TY K G H) (ga0 : G a0 = some 112) (hg_CG : CG (avw K H a0)) (hg_TU : TU (avw K H a0) (svw K H a0)) (hg_WD : WD (avw K H a0)) (hg_IM : IM (avw K H a0)) : MX l K yX10_look cX10_look 2 (some .int) 8 190 0 0 [.ref a0, .int x1] H (AE G [112, 140, 139] H.size) (fun v H1 => ∃ (r : Int32), v = some (.int r) ∧ (CG (avw K H1 a0)) ∧ (TU (avw K H1 a0) (svw K H1 a0)) ∧ (WD (avw K H1 a0)) ∧ (IM (avw K H1 a0)) ∧ MF K H H1 a0 [0] ∧ TY K G H1) := by
  refine MX.of (by decide +kernel) (Nat.le_of_ble_eq_true rfl) ?_
  intro p e s m below meth c ls Q C hH hl hQ
  subst hH
  have C : CX p K s m _ meth c RX10 cX10_look 2 (some .int) "look" := C
  obtain ⟨hx, hb, hml, hown, hts, hKT, hr, hlocks, hnm⟩ := id C
  have hl : lv_has ls 2 [(0, .ref a0), (1, .int x1)] := hl
  have hS : va_S (AE G [112, 140, 139] s.heap.size) s.heap s.heap [] := va_S.rf
  have n_m1 : ((-1) : Int32).toInt = -1 := rfl
  have n_0 : (0 : Int32).toInt = 0 := rfl
  have n_1 : (1 : Int32).toInt = 1 := rfl
  have n_2 : (2 : Int32).toInt = 2 := rfl
  have n_3 : (3 : Int32).toInt = 3 := rfl
  have n_4 : (4 : Int32).toInt = 4 := rfl
  have n_5 : (5 : Int32).toInt = 5 := rfl
  have n_6 : (6 : Int32).toInt = 6 := rfl
  have n_7 : (7 : Int32).toInt = 7 := rfl
  have hap : ∀ x y, x < 74 → y < 74 → x ≠ y → K.1.2 10 x ≠ K.1.2 10 y := x_apart hKT hts inX10 tyX10 tyX10_ok nmX10 rfl
  have mf0 : MF K s.heap s.heap a0 [0] := fun _ _ _ => rfl
  have J95 : ∀ (ls273 : Array Slot) (H272 : Heap) (locsH272 : List Loc) (x275 : Int32), lv_has ls273 2 [] → TY K G H272 → va_S (AE G [112, 140, 139] s.heap.size) s.heap H272 locsH272 → (MF K s.heap H272 a0 [0]) → (CG (avw K H272 a0)) → (TU (avw K H272 a0) (svw K H272 a0)) → (WD (avw K H272 a0)) → (IM (avw K H272 a0)) → W p l e ({ frames := 8, cells := 0, slots := 0, locals := 190 } : Room) s m (([.ref a0, .int x1] : List Value).toArray) below meth c H272 locsH272 0 0 Q (F0 m 95 ls273 [.int x275]) := by
    intro ls273 H272 locsH272 x275 hl274 hTH272 hSH272 mfy276 gy276_CG gy276_TU gy276_WD gy276_IM
    exact x_iret C hQ dX10_look_95 hSH272 (by decide) (by decide) (⟨x275, rfl, gy276_CG, gy276_TU, gy276_WD, gy276_IM, mfy276, hTH272⟩)
  have J76 : ∀ (ls278 : Array Slot) (H277 : Heap) (locsH277 : List Loc) , lv_has ls278 2 [(0, .ref a0), (1, .int x1)] → TY K G H277 → va_S (AE G [112, 140, 139] s.heap.size) s.heap H277 locsH277 → (6 ≤ x1.toInt ∧ x1.toInt ≤ 7) → (MF K s.heap H277 a0 [0]) → (CG (avw K H277 a0)) → (TU (avw K H277 a0) (svw K H277 a0)) → (WD (avw K H277 a0)) → (IM (avw K H277 a0)) → W p l e ({ frames := 8, cells := 0, slots := 0, locals := 190 } : Room) s m (([.ref a0, .int x1] : List Value).toArray) below meth c H277 locsH277 0 0 Q (F0 m 76 ls278 []) := by
    intro ls278 H277 locsH277  hl279 hTH277 hSH277 b280 mfy281 gy281_CG gy281_TU gy281_WD gy281_IM
    have J88 : ∀ (ls283 : Array Slot) (H282 : Heap) (locsH282 : List Loc) (x285 : Int32), lv_has ls283 2 [] → TY K G H282 → va_S (AE G [112, 140, 139] s.heap.size) s.heap H282 locsH282 → (0 ≤ x285.toInt ∧ x285.toInt ≤ 1) → (MF K s.heap H282 a0 [0]) → (CG (avw K H282 a0)) → (TU (avw K H282 a0) (svw K H282 a0)) → (WD (avw K H282 a0)) → (IM (avw K H282 a0)) → W p l e ({ frames := 8, cells := 0, slots := 0, locals := 190 } : Room) s m (([.ref a0, .int x1] : List Value).toArray) below meth c H282 locsH282 0 0 Q (F0 m 88 ls283 [.int x285, .ref a0]) := by
      intro ls283 H282 locsH282 x285 hl284 hTH282 hSH282 bx285 mfy286 gy286_CG gy286_TU gy286_WD gy286_IM
      refine x_V (As := [.int x285]) (rest := []) C (a_X10_barsThat l K G H282 (x285) hTH282 ga0 (by omega) gy286_CG) yo_X10_barsThat wM_X10_488 ⟨⟨by decide, by decide⟩, by decide, by decide⟩ (x_rv C hTH282 (ci := 10) rfl ga0 rg_112) rfl hl284.1 rfl (Nat.le_of_ble_eq_true rfl) dX10_look_88 hSH282 (AE_sub (fun _ _ => rfl) (by decide) hSH282.1) (fun vH287 H287 locsH287 pH287 zH287 kH287 hSH287 => ?_)
      obtain ⟨x288, hvH287, hTH287⟩ := pH287
      subst hvH287
      have mf289 : MF K s.heap H287 a0 [0] := MF.eff (x_lt hTH282 kH287 ga0 (by decide)) mfy286
      have g290 : CG (avw K H287 a0) := CG.congr (fun k hk j => av_eff hTH282 kH287 ga0 (by decide) (CG_eff [140, 139] (by decide) k hk)) gy286_CG
      have g291 : TU (avw K H287 a0) (svw K H287 a0) := TU.congr (fun k hk j => av_eff hTH282 kH287 ga0 (by decide) (TU_eff [140, 139] (by decide) k hk)) (fun k hk => sv_eff hTH282 kH287 ga0 (by decide)) gy286_TU
      have g292 : WD (avw K H287 a0) := WD.congr (fun k hk j => av_eff hTH282 kH287 ga0 (by decide) (WD_eff [140, 139] (by decide) k hk)) gy286_WD
      have g293 : IM (avw K H287 a0) := IM.congr (fun k hk j => av_eff hTH282 kH287 ga0 (by decide) (IM_eff [140, 139] (by decide) k hk)) gy286_IM
      refine W.eq (g2 := F0 m 91 ls283 [.int x288]) rfl ?_
      refine lv_goto (tgt := 95) hx hb dX10_look_91 (by decide) ?_
      exact J95 ls283 H287 locsH287 (x288) (lv_sub hl284 [] rfl) hTH287 hSH287 mf289 g290 g291 g292 g293
    refine lv_aload_n hx hb dX10_look_76 rfl (lv_at hl279 0 rfl) ?_
    refine lv_iload_n hx hb dX10_look_77 rfl (lv_at hl279 1 rfl) ?_
    refine lv_bipush (v := 6) hx hb dX10_look_78 (by decide) ?_
    refine lv_icmp_ne (tgt := 87) hx hb dX10_look_80 (by decide) (fun c294 => ?_) (fun c294 => ?_)
    · have k295 := i_ne c294
      refine lv_iconst (v := 0) hx hb dX10_look_87 (by decide) ?_
      exact J88 ls278 H277 locsH277 (0) (lv_sub hl279 [] rfl) hTH277 hSH277 (by decide) mfy281 gy281_CG gy281_TU gy281_WD gy281_IM
    · have k295 := i_eq c294
      refine lv_iconst (v := 1) hx hb dX10_look_83 (by decide) ?_
      refine lv_goto (tgt := 88) hx hb dX10_look_84 (by decide) ?_
      exact J88 ls278 H277 locsH277 (1) (lv_sub hl279 [] rfl) hTH277 hSH277 (by decide) mfy281 gy281_CG gy281_TU gy281_WD gy281_IM
  refine lv_aload_n hx hb dX10_look_0 rfl (lv_at hl 0 rfl) ?_
  refine lv_iconst (v := 0) hx hb dX10_look_1 (by decide) ?_
  refine x_put C hT hS (ci := 10) (k := 0) (v := .int 0) (ty0 := tyX10) rfl inX10 tyX10_ok nmX10 (by decide) rfl wF_X10_167 ga0 rg_112 rfl rfl (okI (by have := i_rng (0 : Int32); omega) (by have := i_rng (0 : Int32); omega)) rfl rfl (AE_in ga0 (by decide)) dX10_look_2 (fun H296 locsH296 hTH296 hSH296 wH296 => ?_)
  have mf297 : MF K s.heap H296 a0 [0] := MF.fld hap wH296 (by decide) (by decide) mf0
  have g298 : CG (avw K H296 a0) := CG.congr (fun k hk j => av_fld hT ga0 hap wH296 (by decide) (CG_ok 112 (by decide) k hk) (CG_ne 0 (by decide) k hk)) hg_CG
  have g299 : TU (avw K H296 a0) (svw K H296 a0) := TU.congr (fun k hk j => av_fld hT ga0 hap wH296 (by decide) (TU_ok 112 (by decide) k hk) (TU_ne 0 (by decide) k hk)) (fun k hk => sv_fld hap wH296 (by decide) (TU_slt k hk) (TU_sne 0 (by decide) k hk)) hg_TU
  have g300 : WD (avw K H296 a0) := WD.congr (fun k hk j => av_fld hT ga0 hap wH296 (by decide) (WD_ok 112 (by decide) k hk) (WD_ne 0 (by decide) k hk)) hg_WD
  have g301 : IM (avw K H296 a0) := IM.congr (fun k hk j => av_fld hT ga0 hap wH296 (by decide) (IM_ok 112 (by decide) k hk) (IM_ne 0 (by decide) k hk)) hg_IM
  have m302 := Wr.I wH296
  refine lv_iload_n hx hb dX10_look_5 rfl (lv_at hl 1 rfl) ?_
  refine lv_if_ne (tgt := 14) hx hb dX10_look_6 (by decide) (fun c303 => ?_) (fun c303 => ?_)
  · have k304 := i_ne c303
    refine lv_iload_n hx hb dX10_look_14 rfl (lv_at hl 1 rfl) ?_
    refine lv_iconst (v := 1) hx hb dX10_look_15 (by decide) ?_
    refine lv_icmp_ne (tgt := 24) hx hb dX10_look_16 (by decide) (fun c305 => ?_) (fun c305 => ?_)
    · have k306 := i_ne c305
      refine lv_iload_n hx hb dX10_look_24 rfl (lv_at hl 1 rfl) ?_
      refine lv_iconst (v := 2) hx hb dX10_look_25 (by decide) ?_
      refine lv_icmp_ne (tgt := 34) hx hb dX10_look_26 (by decide) (fun c307 => ?_) (fun c307 => ?_)
      · have k308 := i_ne c307
        refine lv_iload_n hx hb dX10_look_34 rfl (lv_at hl 1 rfl) ?_
        refine lv_iconst (v := 3) hx hb dX10_look_35 (by decide) ?_
        refine lv_icmp_ne (tgt := 44) hx hb dX10_look_36 (by decide) (fun c309 => ?_) (fun c309 => ?_)
        · have k310 := i_ne c309
          refine lv_iload_n hx hb dX10_look_44 rfl (lv_at hl 1 rfl) ?_
          refine lv_iconst (v := 4) hx hb dX10_look_45 (by decide) ?_
          refine lv_icmp_ne (tgt := 54) hx hb dX10_look_46 (by decide) (fun c311 => ?_) (fun c311 => ?_)
          · have k312 := i_ne c311
            refine lv_iload_n hx hb dX10_look_54 rfl (lv_at hl 1 rfl) ?_
            refine lv_iconst (v := 5) hx hb dX10_look_55 (by decide) ?_
            refine lv_icmp_ne (tgt := 64) hx hb dX10_look_56 (by decide) (fun c313 => ?_) (fun c313 => ?_)
            · have k314 := i_ne c313
              refine lv_iload_n hx hb dX10_look_64 rfl (lv_at hl 1 rfl) ?_
              refine lv_bipush (v := 6) hx hb dX10_look_65 (by decide) ?_
              refine lv_icmp_eq (tgt := 76) hx hb dX10_look_67 (by decide) (fun c315 => ?_) (fun c315 => ?_)
              · have k316 := i_eq c315
                exact J76 ls H296 locsH296 (lv_sub hl [0, 1] rfl) hTH296 hSH296 (by have := i_rng x1; omega) mf297 g298 g299 g300 g301
              · have k316 := i_ne c315
                refine lv_iload_n hx hb dX10_look_70 rfl (lv_at hl 1 rfl) ?_
                refine lv_bipush (v := 7) hx hb dX10_look_71 (by decide) ?_
                refine lv_icmp_ne (tgt := 94) hx hb dX10_look_73 (by decide) (fun c317 => ?_) (fun c317 => ?_)
                · have k318 := i_ne c317
                  refine lv_iconst (v := (-1)) hx hb dX10_look_94 (by decide) ?_
                  exact J95 ls H296 locsH296 ((-1)) (lv_sub hl [] rfl) hTH296 hSH296 mf297 g298 g299 g300 g301
                · have k318 := i_eq c317
                  exact J76 ls H296 locsH296 (lv_sub hl [0, 1] rfl) hTH296 hSH296 (by have := i_rng x1; omega) mf297 g298 g299 g300 g301
            · have k314 := i_eq c313
              refine lv_aload_n hx hb dX10_look_59 rfl (lv_at hl 0 rfl) ?_
              refine x_gi C hTH296 (ci := 10) (k := 2) rfl inX10 (by decide) wF_X10_322 ga0 rg_112 rfl dX10_look_60 (fun x319 ex319 bx319 => ?_)
              exact x_iret C hQ dX10_look_63 hSH296 (by decide) (by decide) (⟨x319, rfl, g298, g299, g300, g301, mf297, hTH296⟩)
          · have k312 := i_eq c311
            refine lv_aload_n hx hb dX10_look_49 rfl (lv_at hl 0 rfl) ?_
            refine x_gi C hTH296 (ci := 10) (k := 3) rfl inX10 (by decide) wF_X10_7 ga0 rg_112 rfl dX10_look_50 (fun x320 ex320 bx320 => ?_)
            exact x_iret C hQ dX10_look_53 hSH296 (by decide) (by decide) (⟨x320, rfl, g298, g299, g300, g301, mf297, hTH296⟩)
        · have k310 := i_eq c309
          refine lv_aload_n hx hb dX10_look_39 rfl (lv_at hl 0 rfl) ?_
          refine x_gi C hTH296 (ci := 10) (k := 65) rfl inX10 (by decide) wF_X10_458 ga0 rg_112 rfl dX10_look_40 (fun x321 ex321 bx321 => ?_)
          exact x_iret C hQ dX10_look_43 hSH296 (by decide) (by decide) (⟨x321, rfl, g298, g299, g300, g301, mf297, hTH296⟩)
      · have k308 := i_eq c307
        refine lv_aload_n hx hb dX10_look_29 rfl (lv_at hl 0 rfl) ?_
        refine x_gi C hTH296 (ci := 10) (k := 62) rfl inX10 (by decide) wF_X10_455 ga0 rg_112 rfl dX10_look_30 (fun x322 ex322 bx322 => ?_)
        exact x_iret C hQ dX10_look_33 hSH296 (by decide) (by decide) (⟨x322, rfl, g298, g299, g300, g301, mf297, hTH296⟩)
    · have k306 := i_eq c305
      refine lv_aload_n hx hb dX10_look_19 rfl (lv_at hl 0 rfl) ?_
      refine x_gi C hTH296 (ci := 10) (k := 59) rfl inX10 (by decide) wF_X10_438 ga0 rg_112 rfl dX10_look_20 (fun x323 ex323 bx323 => ?_)
      exact x_iret C hQ dX10_look_23 hSH296 (by decide) (by decide) (⟨x323, rfl, g298, g299, g300, g301, mf297, hTH296⟩)
  · have k304 := i_eq c303
    refine lv_aload_n hx hb dX10_look_9 rfl (lv_at hl 0 rfl) ?_
    refine x_gi C hTH296 (ci := 10) (k := 1) rfl inX10 (by decide) wF_X10_170 ga0 rg_112 rfl dX10_look_10 (fun x324 ex324 bx324 => ?_)
    exact x_iret C hQ dX10_look_13 hSH296 (by decide) (by decide) (⟨x324, rfl, g298, g299, g300, g301, mf297, hTH296⟩)

set_option maxHeartbeats 4000000 in
set_option maxRecDepth 100000 in
theorem a_X10_bar (l : Launch) (K : KE) (G : Nat → Option Nat) (H : Heap) {a0 : Nat} (x1 : Int32) {slq : Nat} {tbq : Nat} (bs : Int32) (hT : TY K G H) (ga0 : G a0 = some 112) (gslq : G slq = some 113) (eslq : slq = fR H a0 (K.1.2 10 4)) (gtbq : G tbq = some 125) (etbq : tbq = fR H a0 (K.1.2 10 16)) (ebs : bs = fI H a0 (K.1.2 10 1)) (hg_CG : CG (avw K H a0)) (hg_TU : TU (avw K H a0) (svw K H a0)) (hg_WD : WD (avw K H a0)) (hg_IM : IM (avw K H a0)) : MX l K yX10_bar cX10_bar 3 (some .int) 1 23 0 0 [.ref a0, .int x1] H (AE G [112, 113, 114, 115, 116, 117, 125] H.size) (fun v H1 => ∃ (r : Int32) (t0 : Int32), v = some (.int r) ∧ t0 = fI H1 a0 (K.1.2 10 1) ∧ ((3 ≤ x1.toInt ∧ x1.toInt ≤ 16 ∧ bs.toInt ≤ 9 ∧ r.toInt = bs.toInt ∧ t0.toInt = bs.toInt + 1) ∨ ((x1.toInt < 3 ∨ 16 < x1.toInt ∨ 9 < bs.toInt) ∧ r.toInt = -1 ∧ t0.toInt = bs.toInt)) ∧ slq = fR H1 a0 (K.1.2 10 4) ∧ tbq = fR H1 a0 (K.1.2 10 16) ∧ (CG (avw K H1 a0)) ∧ (TU (avw K H1 a0) (svw K H1 a0)) ∧ (WD (avw K H1 a0)) ∧ (IM (avw K H1 a0)) ∧ MF K H H1 a0 [0, 1] ∧ TY K G H1) := by
  refine MX.of (by decide +kernel) (Nat.le_of_ble_eq_true rfl) ?_
  intro p e s m below meth c ls Q C hH hl hQ
  subst hH
  have C : CX p K s m _ meth c RX10 cX10_bar 3 (some .int) "bar" := C
  obtain ⟨hx, hb, hml, hown, hts, hKT, hr, hlocks, hnm⟩ := id C
  have hl : lv_has ls 3 [(0, .ref a0), (1, .int x1)] := hl
  have hS : va_S (AE G [112, 113, 114, 115, 116, 117, 125] s.heap.size) s.heap s.heap [] := va_S.rf
  have n_m1 : ((-1) : Int32).toInt = -1 := rfl
  have n_0 : (0 : Int32).toInt = 0 := rfl
  have n_1 : (1 : Int32).toInt = 1 := rfl
  have n_2 : (2 : Int32).toInt = 2 := rfl
  have n_3 : (3 : Int32).toInt = 3 := rfl
  have n_5 : (5 : Int32).toInt = 5 := rfl
  have n_10 : (10 : Int32).toInt = 10 := rfl
  have n_16 : (16 : Int32).toInt = 16 := rfl
  have n_20 : (20 : Int32).toInt = 20 := rfl
  have n_500 : (500 : Int32).toInt = 500 := rfl
  have bbs := ty_fi (x := bs) (k := 1) ebs hT ga0 rg_112 rfl
  have hap : ∀ x y, x < 74 → y < 74 → x ≠ y → K.1.2 10 x ≠ K.1.2 10 y := x_apart hKT hts inX10 tyX10 tyX10_ok nmX10 rfl
  have mf0 : MF K s.heap s.heap a0 [0, 1] := fun _ _ _ => rfl
  have J45 : ∀ (nf : Nat) (ls1082 : Array Slot) (H1081 : Heap) (locsH1081 : List Loc) (x1084 : Int32) (x1085 : Int32), lv_has ls1082 3 [(0, .ref a0), (2, .int x1084)] → TY K G H1081 → va_S (AE G [112, 113, 114, 115, 116, 117, 125] s.heap.size) s.heap H1081 locsH1081 → (0 ≤ x1084.toInt ∧ x1084.toInt ≤ 160) → (0 ≤ x1085.toInt ∧ x1085.toInt ≤ 9) → (x1085 = fI H1081 a0 (K.1.2 10 1)) → (slq = fR H1081 a0 (K.1.2 10 4)) → (tbq = fR H1081 a0 (K.1.2 10 16)) → (AB H1081 slq (bs.toNatClampNeg + 1) (1) (16)) → (MF K s.heap H1081 a0 [0, 1]) → (CG (avw K H1081 a0)) → (TU (avw K H1081 a0) (svw K H1081 a0)) → (WD (avw K H1081 a0)) → (IM (avw K H1081 a0)) → (160 - x1084.toInt < (nf : Int)) → (16 * bs.toInt ≤ x1084.toInt ∧ 3 ≤ x1.toInt ∧ x1.toInt ≤ 16 ∧ x1085.toInt = bs.toInt ∧ bs.toInt ≤ 9) → W p l e ({ frames := 1, cells := 0, slots := 0, locals := 23 } : Room) s m (([.ref a0, .int x1] : List Value).toArray) below meth c H1081 locsH1081 0 0 Q (F0 m 45 ls1082 []) := by
    intro nf
    induction nf with
    | zero =>
      intro ls1082 H1081 locsH1081 x1084 x1085 hl1083 hTH1081 hSH1081 bx1084 bx1085 ex1085 cy1086_0 cy1086_1 by1086_sl mfy1086 gy1086_CG gy1086_TU gy1086_WD gy1086_IM hm45 iv45
      exfalso
      omega
    | succ nf ih45 =>
      intro ls1082 H1081 locsH1081 x1084 x1085 hl1083 hTH1081 hSH1081 bx1084 bx1085 ex1085 cy1086_0 cy1086_1 by1086_sl mfy1086 gy1086_CG gy1086_TU gy1086_WD gy1086_IM hm45 iv45
      refine lv_iload_n hx hb dX10_bar_45 rfl (lv_at hl1083 1 rfl) ?_
      refine lv_bipush (v := 16) hx hb dX10_bar_46 (by decide) ?_
      refine lv_aload_n hx hb dX10_bar_48 rfl (lv_at hl1083 0 rfl) ?_
      refine x_gi C hTH1081 (ci := 10) (k := 1) rfl inX10 (by decide) wF_X10_170 ga0 rg_112 rfl dX10_bar_49 (fun x1087 ex1087 bx1087 => ?_)
      have ux1087 : x1085 = x1087 := (ex1085).trans ex1087.symm
      subst ux1087
      refine lv_imul hx hb dX10_bar_52 ?_
      refine lv_topi (fun x1088 ex1088 => ?_)
      have tx1088 := i_mul ex1088 (by rw [n_16]; omega)
      rw [n_16] at tx1088
      refine lv_bipush (v := 16) hx hb dX10_bar_53 (by decide) ?_
      refine lv_iadd hx hb dX10_bar_55 ?_
      refine lv_topi (fun x1089 ex1089 => ?_)
      have tx1089 := i_add ex1089 (by omega)
      refine lv_icmp_ge (tgt := 94) hx hb dX10_bar_56 (by decide) (fun c1090 => ?_) (fun c1090 => ?_)
      · have k1091 := i_le c1090
        have cbtb := i_cl (x := x1085) (by omega)
        have atb : AB H1081 tbq (2 * x1085.toNatClampNeg) 1 9999 := TU.abT gy1086_TU cy1086_1 ex1085 (by omega) (fun j hj => (by obtain ⟨c, -, -, -, -, -, -, h⟩ := hTH1081.aint gtbq rg_125 (j := j) (by omega); exact h))
        refine lv_aload_n hx hb dX10_bar_94 rfl (lv_at hl1083 0 rfl) ?_
        refine x_gr C hTH1081 (ci := 10) (k := 16) rfl inX10 (by decide) wF_X10_50 ga0 rg_112 rfl dX10_bar_95 (fun q1092 eq1092 gq1092 => ?_)
        have uq1092 : tbq = q1092 := (cy1086_1).trans eq1092.symm
        subst uq1092
        refine lv_iconst (v := 2) hx hb dX10_bar_98 (by decide) ?_
        refine lv_aload_n hx hb dX10_bar_99 rfl (lv_at hl1083 0 rfl) ?_
        refine x_gi C hTH1081 (ci := 10) (k := 1) rfl inX10 (by decide) wF_X10_170 ga0 rg_112 rfl dX10_bar_100 (fun x1093 ex1093 bx1093 => ?_)
        have ux1093 : x1085 = x1093 := (ex1085).trans ex1093.symm
        subst ux1093
        refine lv_imul hx hb dX10_bar_103 ?_
        refine lv_topi (fun x1094 ex1094 => ?_)
        have tx1094 := i_mul ex1094 (by rw [n_2]; omega)
        rw [n_2] at tx1094
        refine lv_sipush (v := 500) hx hb dX10_bar_104 (by decide) ?_
        refine x_iast C hTH1081 hSH1081 gtbq rg_125 (by omega) (by show _ < ((20 : Nat) : Int); omega) (by decide) (AE_in gtbq (by decide)) dX10_bar_107 (fun H1095 locsH1095 hTH1095 hSH1095 wH1095 => ?_)
        have mf1096 : MF K s.heap H1095 a0 [0, 1] := MF.arr wH1095 (G_ne ga0 gtbq (by decide)) mfy1086
        have g1097 : CG (avw K H1095 a0) := CG.congr (fun k hk j => av_arr hTH1081 ga0 wH1095 gtbq (by decide) (CG_ok 125 (by decide) k hk)) gy1086_CG
        have g1098 : TU (avw K H1095 a0) (svw K H1095 a0) := TU.putT hTH1081 ga0 wH1095 gtbq cy1086_1 (by omega) gy1086_TU
        have g1099 : WD (avw K H1095 a0) := WD.congr (fun k hk j => av_arr hTH1081 ga0 wH1095 gtbq (by decide) (WD_ok 125 (by decide) k hk)) gy1086_WD
        have g1100 : IM (avw K H1095 a0) := IM.congr (fun k hk j => av_arr hTH1081 ga0 wH1095 gtbq (by decide) (IM_ok 125 (by decide) k hk)) gy1086_IM
        have b1101 : AB H1095 slq (bs.toNatClampNeg + 1) (1) (16) := AB.kept (fun j => Wr.neI wH1095 (Or.inl (G_ne gslq gtbq (by decide)))) by1086_sl
        have cjH1095 := i_cl (x := x1094) (by omega)
        have b1102 : AB H1095 tbq (2 * x1085.toNatClampNeg + 1) (1) (9999) := (AB.ext wH1095 (by omega) atb (by omega) rfl)
        have m1103 := ex1085.trans (Wr.neI wH1095 (Or.inl (G_ne ga0 gtbq (by decide)))).symm
        have m1104 := cy1086_0.trans (Wr.neR wH1095 (Or.inl (G_ne ga0 gtbq (by decide)))).symm
        have m1105 := cy1086_1.trans (Wr.neR wH1095 (Or.inl (G_ne ga0 gtbq (by decide)))).symm
        have m1106 := Wr.I wH1095
        refine lv_aload_n hx hb dX10_bar_108 rfl (lv_at hl1083 0 rfl) ?_
        refine x_gr C hTH1095 (ci := 10) (k := 16) rfl inX10 (by decide) wF_X10_50 ga0 rg_112 rfl dX10_bar_109 (fun q1107 eq1107 gq1107 => ?_)
        have uq1107 : tbq = q1107 := (m1105).trans eq1107.symm
        subst uq1107
        refine lv_iconst (v := 2) hx hb dX10_bar_112 (by decide) ?_
        refine lv_aload_n hx hb dX10_bar_113 rfl (lv_at hl1083 0 rfl) ?_
        refine x_gi C hTH1095 (ci := 10) (k := 1) rfl inX10 (by decide) wF_X10_170 ga0 rg_112 rfl dX10_bar_114 (fun x1108 ex1108 bx1108 => ?_)
        have ux1108 : x1085 = x1108 := (m1103).trans ex1108.symm
        subst ux1108
        refine lv_imul hx hb dX10_bar_117 ?_
        refine lv_topi (fun x1109 ex1109 => ?_)
        have tx1109 := i_mul ex1109 (by rw [n_2]; omega)
        rw [n_2] at tx1109
        refine lv_iconst (v := 1) hx hb dX10_bar_118 (by decide) ?_
        refine lv_iadd hx hb dX10_bar_119 ?_
        refine lv_topi (fun x1110 ex1110 => ?_)
        have tx1110 := i_add ex1110 (by omega)
        refine lv_sipush (v := 500) hx hb dX10_bar_120 (by decide) ?_
        refine x_iast C hTH1095 hSH1095 gtbq rg_125 (by omega) (by show _ < ((20 : Nat) : Int); omega) (by decide) (AE_in gtbq (by decide)) dX10_bar_123 (fun H1111 locsH1111 hTH1111 hSH1111 wH1111 => ?_)
        have mf1112 : MF K s.heap H1111 a0 [0, 1] := MF.arr wH1111 (G_ne ga0 gtbq (by decide)) mf1096
        have g1113 : CG (avw K H1111 a0) := CG.congr (fun k hk j => av_arr hTH1095 ga0 wH1111 gtbq (by decide) (CG_ok 125 (by decide) k hk)) g1097
        have g1114 : TU (avw K H1111 a0) (svw K H1111 a0) := TU.putT hTH1095 ga0 wH1111 gtbq m1105 (by omega) g1098
        have g1115 : WD (avw K H1111 a0) := WD.congr (fun k hk j => av_arr hTH1095 ga0 wH1111 gtbq (by decide) (WD_ok 125 (by decide) k hk)) g1099
        have g1116 : IM (avw K H1111 a0) := IM.congr (fun k hk j => av_arr hTH1095 ga0 wH1111 gtbq (by decide) (IM_ok 125 (by decide) k hk)) g1100
        have b1117 : AB H1111 slq (bs.toNatClampNeg + 1) (1) (16) := AB.kept (fun j => Wr.neI wH1111 (Or.inl (G_ne gslq gtbq (by decide)))) b1101
        have cjH1111 := i_cl (x := x1110) (by omega)
        have b1118 : AB H1111 tbq (2 * x1085.toNatClampNeg + 1 + 1) (1) (9999) := (AB.ext wH1111 (by omega) b1102 (by omega) rfl)
        have m1119 := m1103.trans (Wr.neI wH1111 (Or.inl (G_ne ga0 gtbq (by decide)))).symm
        have m1120 := m1104.trans (Wr.neR wH1111 (Or.inl (G_ne ga0 gtbq (by decide)))).symm
        have m1121 := m1105.trans (Wr.neR wH1111 (Or.inl (G_ne ga0 gtbq (by decide)))).symm
        have m1123 := Wr.I wH1111
        refine lv_aload_n hx hb dX10_bar_124 rfl (lv_at hl1083 0 rfl) ?_
        refine lv_aload_n hx hb dX10_bar_125 rfl (lv_at hl1083 0 rfl) ?_
        refine x_gi C hTH1111 (ci := 10) (k := 1) rfl inX10 (by decide) wF_X10_170 ga0 rg_112 rfl dX10_bar_126 (fun x1124 ex1124 bx1124 => ?_)
        have ux1124 : x1085 = x1124 := (m1119).trans ex1124.symm
        subst ux1124
        refine lv_iconst (v := 1) hx hb dX10_bar_129 (by decide) ?_
        refine lv_iadd hx hb dX10_bar_130 ?_
        refine lv_topi (fun x1125 ex1125 => ?_)
        have tx1125 := i_add ex1125 (by omega)
        refine x_put C hTH1111 hSH1111 (ci := 10) (k := 1) (v := .int x1125) (ty0 := tyX10) rfl inX10 tyX10_ok nmX10 (by decide) rfl wF_X10_170 ga0 rg_112 rfl rfl (okI (by have := i_rng x1125; omega) (by have := i_rng x1125; omega)) rfl rfl (AE_in ga0 (by decide)) dX10_bar_131 (fun H1126 locsH1126 hTH1126 hSH1126 wH1126 => ?_)
        have mf1127 : MF K s.heap H1126 a0 [0, 1] := MF.fld hap wH1126 (by decide) (by decide) mf1112
        have g1128 : CG (avw K H1126 a0) := CG.congr (fun k hk j => av_fld hTH1111 ga0 hap wH1126 (by decide) (CG_ok 112 (by decide) k hk) (CG_ne 1 (by decide) k hk)) g1113
        have clt_bs := i_cl (x := bs) (by omega)
        have clt_x1085 := i_cl (x := x1085) (by omega)
        have g1129 : TU (avw K H1126 a0) (svw K H1126 a0) := TU.grow hTH1111 ga0 hap wH1126 m1121 m1120 b1118 b1117 (by omega) (by omega)
        have g1130 : WD (avw K H1126 a0) := WD.congr (fun k hk j => av_fld hTH1111 ga0 hap wH1126 (by decide) (WD_ok 112 (by decide) k hk) (WD_ne 1 (by decide) k hk)) g1115
        have g1131 : IM (avw K H1126 a0) := IM.congr (fun k hk j => av_fld hTH1111 ga0 hap wH1126 (by decide) (IM_ok 112 (by decide) k hk) (IM_ne 1 (by decide) k hk)) g1116
        have b1132 : AB H1126 slq (bs.toNatClampNeg + 1) (1) (16) := AB.kept (fun j => Wr.neI wH1126 (Or.inl (G_ne gslq ga0 (by decide)))) b1117
        have b1133 : AB H1126 tbq (2 * x1085.toNatClampNeg + 1 + 1) (1) (9999) := AB.kept (fun j => Wr.neI wH1126 (Or.inl (G_ne gtbq ga0 (by decide)))) b1118
        have m1135 := m1120.trans (Wr.neR wH1126 (Or.inr (x_apart hKT hts inX10 tyX10 tyX10_ok nmX10 rfl 4 1 (by decide) (by decide) (by decide)))).symm
        have m1136 := m1121.trans (Wr.neR wH1126 (Or.inr (x_apart hKT hts inX10 tyX10 tyX10_ok nmX10 rfl 16 1 (by decide) (by decide) (by decide)))).symm
        have m1137 := (Wr.neI wH1126 (Or.inl (G_ne gtbq ga0 (by decide)))).trans m1123
        have m1138 := Wr.I wH1126
        have m1138 := m1138.symm
        refine lv_aload_n hx hb dX10_bar_134 rfl (lv_at hl1083 0 rfl) ?_
        refine x_gi C hTH1126 (ci := 10) (k := 1) rfl inX10 (by decide) wF_X10_170 ga0 rg_112 rfl dX10_bar_135 (fun x1139 ex1139 bx1139 => ?_)
        have ux1139 : x1125 = x1139 := (m1138).trans ex1139.symm
        subst ux1139
        refine lv_iconst (v := 1) hx hb dX10_bar_138 (by decide) ?_
        refine lv_isub hx hb dX10_bar_139 ?_
        refine lv_topi (fun x1140 ex1140 => ?_)
        have tx1140 := i_sub ex1140 (by omega)
        exact x_iret C hQ dX10_bar_140 hSH1126 (by decide) (by decide) (⟨x1140, x1125, rfl, m1138, by omega, m1135, m1136, g1128, g1129, g1130, g1131, mf1127, hTH1126⟩)
      · have k1091 := i_nle c1090
        refine lv_aload_n hx hb dX10_bar_59 rfl (lv_at hl1083 0 rfl) ?_
        refine x_gr C hTH1081 (ci := 10) (k := 5) rfl inX10 (by decide) wF_X10_17 ga0 rg_112 rfl dX10_bar_60 (fun q1141 eq1141 gq1141 => ?_)
        refine lv_iload_n hx hb dX10_bar_63 rfl (lv_at hl1083 1 rfl) ?_
        refine lv_bipush (v := 20) hx hb dX10_bar_64 (by decide) ?_
        refine x_iast C hTH1081 hSH1081 gq1141 rg_114 (by omega) (by show _ < ((160 : Nat) : Int); omega) (by decide) (AE_in gq1141 (by decide)) dX10_bar_66 (fun H1142 locsH1142 hTH1142 hSH1142 wH1142 => ?_)
        have mf1143 : MF K s.heap H1142 a0 [0, 1] := MF.arr wH1142 (G_ne ga0 gq1141 (by decide)) mfy1086
        have g1144 : CG (avw K H1142 a0) := CG.congr (fun k hk j => av_arr hTH1081 ga0 wH1142 gq1141 (by decide) (CG_ok 114 (by decide) k hk)) gy1086_CG
        have g1145 : TU (avw K H1142 a0) (svw K H1142 a0) := TU.congr (fun k hk j => av_arr hTH1081 ga0 wH1142 gq1141 (by decide) (TU_ok 114 (by decide) k hk)) (fun k hk => sv_arr ga0 wH1142 gq1141 (by decide)) gy1086_TU
        have g1146 : WD (avw K H1142 a0) := WD.congr (fun k hk j => av_arr hTH1081 ga0 wH1142 gq1141 (by decide) (WD_ok 114 (by decide) k hk)) gy1086_WD
        have g1147 : IM (avw K H1142 a0) := IM.congr (fun k hk j => av_arr hTH1081 ga0 wH1142 gq1141 (by decide) (IM_ok 114 (by decide) k hk)) gy1086_IM
        have b1148 : AB H1142 slq (bs.toNatClampNeg + 1) (1) (16) := AB.kept (fun j => Wr.neI wH1142 (Or.inl (G_ne gslq gq1141 (by decide)))) by1086_sl
        have m1149 := ex1085.trans (Wr.neI wH1142 (Or.inl (G_ne ga0 gq1141 (by decide)))).symm
        have m1150 := cy1086_0.trans (Wr.neR wH1142 (Or.inl (G_ne ga0 gq1141 (by decide)))).symm
        have m1151 := cy1086_1.trans (Wr.neR wH1142 (Or.inl (G_ne ga0 gq1141 (by decide)))).symm
        have m1152 := eq1141.trans (Wr.neR wH1142 (Or.inl (G_ne ga0 gq1141 (by decide)))).symm
        have m1153 := Wr.I wH1142
        refine lv_aload_n hx hb dX10_bar_67 rfl (lv_at hl1083 0 rfl) ?_
        refine x_gr C hTH1142 (ci := 10) (k := 6) rfl inX10 (by decide) wF_X10_20 ga0 rg_112 rfl dX10_bar_68 (fun q1154 eq1154 gq1154 => ?_)
        refine lv_iload_n hx hb dX10_bar_71 rfl (lv_at hl1083 1 rfl) ?_
        refine lv_iconst (v := 5) hx hb dX10_bar_72 (by decide) ?_
        refine x_iast C hTH1142 hSH1142 gq1154 rg_115 (by omega) (by show _ < ((160 : Nat) : Int); omega) (by decide) (AE_in gq1154 (by decide)) dX10_bar_73 (fun H1155 locsH1155 hTH1155 hSH1155 wH1155 => ?_)
        have mf1156 : MF K s.heap H1155 a0 [0, 1] := MF.arr wH1155 (G_ne ga0 gq1154 (by decide)) mf1143
        have g1157 : CG (avw K H1155 a0) := CG.congr (fun k hk j => av_arr hTH1142 ga0 wH1155 gq1154 (by decide) (CG_ok 115 (by decide) k hk)) g1144
        have g1158 : TU (avw K H1155 a0) (svw K H1155 a0) := TU.congr (fun k hk j => av_arr hTH1142 ga0 wH1155 gq1154 (by decide) (TU_ok 115 (by decide) k hk)) (fun k hk => sv_arr ga0 wH1155 gq1154 (by decide)) g1145
        have g1159 : WD (avw K H1155 a0) := WD.congr (fun k hk j => av_arr hTH1142 ga0 wH1155 gq1154 (by decide) (WD_ok 115 (by decide) k hk)) g1146
        have g1160 : IM (avw K H1155 a0) := IM.congr (fun k hk j => av_arr hTH1142 ga0 wH1155 gq1154 (by decide) (IM_ok 115 (by decide) k hk)) g1147
        have b1161 : AB H1155 slq (bs.toNatClampNeg + 1) (1) (16) := AB.kept (fun j => Wr.neI wH1155 (Or.inl (G_ne gslq gq1154 (by decide)))) b1148
        have m1162 := m1149.trans (Wr.neI wH1155 (Or.inl (G_ne ga0 gq1154 (by decide)))).symm
        have m1163 := m1150.trans (Wr.neR wH1155 (Or.inl (G_ne ga0 gq1154 (by decide)))).symm
        have m1164 := m1151.trans (Wr.neR wH1155 (Or.inl (G_ne ga0 gq1154 (by decide)))).symm
        have m1165 := m1152.trans (Wr.neR wH1155 (Or.inl (G_ne ga0 gq1154 (by decide)))).symm
        have m1166 := (Wr.neI wH1155 (Or.inl (G_ne gq1141 gq1154 (by decide)))).trans m1153
        have m1167 := eq1154.trans (Wr.neR wH1155 (Or.inl (G_ne ga0 gq1154 (by decide)))).symm
        have m1168 := Wr.I wH1155
        refine lv_aload_n hx hb dX10_bar_74 rfl (lv_at hl1083 0 rfl) ?_
        refine x_gr C hTH1155 (ci := 10) (k := 7) rfl inX10 (by decide) wF_X10_23 ga0 rg_112 rfl dX10_bar_75 (fun q1169 eq1169 gq1169 => ?_)
        refine lv_iload_n hx hb dX10_bar_78 rfl (lv_at hl1083 1 rfl) ?_
        refine lv_iconst (v := 5) hx hb dX10_bar_79 (by decide) ?_
        refine x_iast C hTH1155 hSH1155 gq1169 rg_116 (by omega) (by show _ < ((160 : Nat) : Int); omega) (by decide) (AE_in gq1169 (by decide)) dX10_bar_80 (fun H1170 locsH1170 hTH1170 hSH1170 wH1170 => ?_)
        have mf1171 : MF K s.heap H1170 a0 [0, 1] := MF.arr wH1170 (G_ne ga0 gq1169 (by decide)) mf1156
        have g1172 : CG (avw K H1170 a0) := CG.congr (fun k hk j => av_arr hTH1155 ga0 wH1170 gq1169 (by decide) (CG_ok 116 (by decide) k hk)) g1157
        have g1173 : TU (avw K H1170 a0) (svw K H1170 a0) := TU.congr (fun k hk j => av_arr hTH1155 ga0 wH1170 gq1169 (by decide) (TU_ok 116 (by decide) k hk)) (fun k hk => sv_arr ga0 wH1170 gq1169 (by decide)) g1158
        have g1174 : WD (avw K H1170 a0) := WD.congr (fun k hk j => av_arr hTH1155 ga0 wH1170 gq1169 (by decide) (WD_ok 116 (by decide) k hk)) g1159
        have g1175 : IM (avw K H1170 a0) := IM.congr (fun k hk j => av_arr hTH1155 ga0 wH1170 gq1169 (by decide) (IM_ok 116 (by decide) k hk)) g1160
        have b1176 : AB H1170 slq (bs.toNatClampNeg + 1) (1) (16) := AB.kept (fun j => Wr.neI wH1170 (Or.inl (G_ne gslq gq1169 (by decide)))) b1161
        have m1177 := m1162.trans (Wr.neI wH1170 (Or.inl (G_ne ga0 gq1169 (by decide)))).symm
        have m1178 := m1163.trans (Wr.neR wH1170 (Or.inl (G_ne ga0 gq1169 (by decide)))).symm
        have m1179 := m1164.trans (Wr.neR wH1170 (Or.inl (G_ne ga0 gq1169 (by decide)))).symm
        have m1180 := m1165.trans (Wr.neR wH1170 (Or.inl (G_ne ga0 gq1169 (by decide)))).symm
        have m1181 := (Wr.neI wH1170 (Or.inl (G_ne gq1141 gq1169 (by decide)))).trans m1166
        have m1182 := m1167.trans (Wr.neR wH1170 (Or.inl (G_ne ga0 gq1169 (by decide)))).symm
        have m1183 := (Wr.neI wH1170 (Or.inl (G_ne gq1154 gq1169 (by decide)))).trans m1168
        have m1184 := eq1169.trans (Wr.neR wH1170 (Or.inl (G_ne ga0 gq1169 (by decide)))).symm
        have m1185 := Wr.I wH1170
        refine lv_aload_n hx hb dX10_bar_81 rfl (lv_at hl1083 0 rfl) ?_
        refine x_gr C hTH1170 (ci := 10) (k := 8) rfl inX10 (by decide) wF_X10_26 ga0 rg_112 rfl dX10_bar_82 (fun q1186 eq1186 gq1186 => ?_)
        refine lv_iload_n hx hb dX10_bar_85 rfl (lv_at hl1083 1 rfl) ?_
        refine lv_iconst (v := 0) hx hb dX10_bar_86 (by decide) ?_
        refine x_iast C hTH1170 hSH1170 gq1186 rg_117 (by omega) (by show _ < ((160 : Nat) : Int); omega) (by decide) (AE_in gq1186 (by decide)) dX10_bar_87 (fun H1187 locsH1187 hTH1187 hSH1187 wH1187 => ?_)
        have mf1188 : MF K s.heap H1187 a0 [0, 1] := MF.arr wH1187 (G_ne ga0 gq1186 (by decide)) mf1171
        have g1189 : CG (avw K H1187 a0) := CG.congr (fun k hk j => av_arr hTH1170 ga0 wH1187 gq1186 (by decide) (CG_ok 117 (by decide) k hk)) g1172
        have g1190 : TU (avw K H1187 a0) (svw K H1187 a0) := TU.congr (fun k hk j => av_arr hTH1170 ga0 wH1187 gq1186 (by decide) (TU_ok 117 (by decide) k hk)) (fun k hk => sv_arr ga0 wH1187 gq1186 (by decide)) g1173
        have g1191 : WD (avw K H1187 a0) := WD.congr (fun k hk j => av_arr hTH1170 ga0 wH1187 gq1186 (by decide) (WD_ok 117 (by decide) k hk)) g1174
        have g1192 : IM (avw K H1187 a0) := IM.congr (fun k hk j => av_arr hTH1170 ga0 wH1187 gq1186 (by decide) (IM_ok 117 (by decide) k hk)) g1175
        have b1193 : AB H1187 slq (bs.toNatClampNeg + 1) (1) (16) := AB.kept (fun j => Wr.neI wH1187 (Or.inl (G_ne gslq gq1186 (by decide)))) b1176
        have m1194 := m1177.trans (Wr.neI wH1187 (Or.inl (G_ne ga0 gq1186 (by decide)))).symm
        have m1195 := m1178.trans (Wr.neR wH1187 (Or.inl (G_ne ga0 gq1186 (by decide)))).symm
        have m1196 := m1179.trans (Wr.neR wH1187 (Or.inl (G_ne ga0 gq1186 (by decide)))).symm
        have m1197 := m1180.trans (Wr.neR wH1187 (Or.inl (G_ne ga0 gq1186 (by decide)))).symm
        have m1198 := (Wr.neI wH1187 (Or.inl (G_ne gq1141 gq1186 (by decide)))).trans m1181
        have m1199 := m1182.trans (Wr.neR wH1187 (Or.inl (G_ne ga0 gq1186 (by decide)))).symm
        have m1200 := (Wr.neI wH1187 (Or.inl (G_ne gq1154 gq1186 (by decide)))).trans m1183
        have m1201 := m1184.trans (Wr.neR wH1187 (Or.inl (G_ne ga0 gq1186 (by decide)))).symm
        have m1202 := (Wr.neI wH1187 (Or.inl (G_ne gq1169 gq1186 (by decide)))).trans m1185
        have m1203 := eq1186.trans (Wr.neR wH1187 (Or.inl (G_ne ga0 gq1186 (by decide)))).symm
        have m1204 := Wr.I wH1187
        obtain ⟨x1205, ex1205⟩ : ∃ y : Int32, y = x1084 + 1 := ⟨_, rfl⟩
        have tx1205 := i_add ex1205 (by omega)
        refine lv_iinc (v := x1205) (lv' := [(2, .int x1205), (0, .ref a0)]) hx hb dX10_bar_88 hl1083 (k := 1) rfl (by rw [ex1205]; rfl) (by decide) rfl (fun ls1206 hl1207 => ?_)
        refine lv_goto (tgt := 45) hx hb dX10_bar_91 (by decide) ?_
        have cl_bs := i_cl (x := bs) (by omega)
        exact ih45 ls1206 H1187 locsH1187 (x1205) (x1085) (lv_sub hl1207 [1, 0] rfl) hTH1187 hSH1187 (by have := i_rng x1205; omega) (by have := i_rng x1085; omega) m1194 m1195 m1196 (AB.weak b1193 (by omega) (by omega) (by omega)) mf1188 g1189 g1190 g1191 g1192 (by omega) (by omega)
  refine lv_aload_n hx hb dX10_bar_0 rfl (lv_at hl 0 rfl) ?_
  refine lv_iconst (v := 0) hx hb dX10_bar_1 (by decide) ?_
  refine x_put C hT hS (ci := 10) (k := 0) (v := .int 0) (ty0 := tyX10) rfl inX10 tyX10_ok nmX10 (by decide) rfl wF_X10_167 ga0 rg_112 rfl rfl (okI (by have := i_rng (0 : Int32); omega) (by have := i_rng (0 : Int32); omega)) rfl rfl (AE_in ga0 (by decide)) dX10_bar_2 (fun H1208 locsH1208 hTH1208 hSH1208 wH1208 => ?_)
  have mf1209 : MF K s.heap H1208 a0 [0, 1] := MF.fld hap wH1208 (by decide) (by decide) mf0
  have g1210 : CG (avw K H1208 a0) := CG.congr (fun k hk j => av_fld hT ga0 hap wH1208 (by decide) (CG_ok 112 (by decide) k hk) (CG_ne 0 (by decide) k hk)) hg_CG
  have g1211 : TU (avw K H1208 a0) (svw K H1208 a0) := TU.congr (fun k hk j => av_fld hT ga0 hap wH1208 (by decide) (TU_ok 112 (by decide) k hk) (TU_ne 0 (by decide) k hk)) (fun k hk => sv_fld hap wH1208 (by decide) (TU_slt k hk) (TU_sne 0 (by decide) k hk)) hg_TU
  have g1212 : WD (avw K H1208 a0) := WD.congr (fun k hk j => av_fld hT ga0 hap wH1208 (by decide) (WD_ok 112 (by decide) k hk) (WD_ne 0 (by decide) k hk)) hg_WD
  have g1213 : IM (avw K H1208 a0) := IM.congr (fun k hk j => av_fld hT ga0 hap wH1208 (by decide) (IM_ok 112 (by decide) k hk) (IM_ne 0 (by decide) k hk)) hg_IM
  have m1214 := eslq.trans (Wr.neR wH1208 (Or.inr (x_apart hKT hts inX10 tyX10 tyX10_ok nmX10 rfl 4 0 (by decide) (by decide) (by decide)))).symm
  have m1215 := etbq.trans (Wr.neR wH1208 (Or.inr (x_apart hKT hts inX10 tyX10 tyX10_ok nmX10 rfl 16 0 (by decide) (by decide) (by decide)))).symm
  have m1216 := ebs.trans (Wr.neI wH1208 (Or.inr (x_apart hKT hts inX10 tyX10 tyX10_ok nmX10 rfl 1 0 (by decide) (by decide) (by decide)))).symm
  have m1217 := Wr.I wH1208
  refine lv_aload_n hx hb dX10_bar_5 rfl (lv_at hl 0 rfl) ?_
  refine lv_iload_n hx hb dX10_bar_6 rfl (lv_at hl 1 rfl) ?_
  refine lv_iconst (v := 3) hx hb dX10_bar_7 (by decide) ?_
  refine lv_bipush (v := 16) hx hb dX10_bar_8 (by decide) ?_
  refine x_V (As := [.int x1, .int 3, .int 16]) (rest := []) C (c_X10_isIn l K G H1208 (x1) (3) (16) hTH1208 ga0) yo_X10_isIn wM_X10_177 ⟨⟨by decide, by decide⟩, by decide, by decide⟩ (x_rv C hTH1208 (ci := 10) rfl ga0 rg_112) rfl hl.1 rfl (Nat.le_of_ble_eq_true rfl) dX10_bar_10 hSH1208 (AE_sub (fun _ _ => rfl) (by decide) hSH1208.1) (fun vH1218 H1218 locsH1218 pH1218 zH1218 kH1218 hSH1218 => ?_)
  have hqH1218 := pH1218.1.symm
  subst hqH1218
  rcases pH1218.2 with ⟨hvH1218, hcH1218⟩ | ⟨hvH1218, hcH1218⟩
  · subst hvH1218
    refine W.eq (g2 := F0 m 13 ls [.int 1]) rfl ?_
    refine lv_if_eq (tgt := 25) hx hb dX10_bar_13 (by decide) (fun c1219 => ?_) (fun c1219 => ?_)
    · have k1220 := i_eq c1219
      exfalso
      omega
    · have k1220 := i_ne c1219
      refine lv_aload_n hx hb dX10_bar_16 rfl (lv_at hl 0 rfl) ?_
      refine x_gi C hTH1208 (ci := 10) (k := 1) rfl inX10 (by decide) wF_X10_170 ga0 rg_112 rfl dX10_bar_17 (fun x1221 ex1221 bx1221 => ?_)
      have ux1221 : bs = x1221 := (m1216).trans ex1221.symm
      subst ux1221
      refine lv_bipush (v := 10) hx hb dX10_bar_20 (by decide) ?_
      refine lv_icmp_ne (tgt := 27) hx hb dX10_bar_22 (by decide) (fun c1222 => ?_) (fun c1222 => ?_)
      · have k1223 := i_ne c1222
        have cbsl := i_cl (x := bs) (by omega)
        have asl : AB H1208 slq (bs.toNatClampNeg) 1 16 := TU.abS g1211 m1214 m1216 (by omega) (fun j hj => (by obtain ⟨c, -, -, -, -, -, -, h⟩ := hTH1208.aint gslq rg_113 (j := j) (by omega); exact h))
        refine lv_aload_n hx hb dX10_bar_27 rfl (lv_at hl 0 rfl) ?_
        refine x_gr C hTH1208 (ci := 10) (k := 4) rfl inX10 (by decide) wF_X10_13 ga0 rg_112 rfl dX10_bar_28 (fun q1224 eq1224 gq1224 => ?_)
        have uq1224 : slq = q1224 := (m1214).trans eq1224.symm
        subst uq1224
        refine lv_aload_n hx hb dX10_bar_31 rfl (lv_at hl 0 rfl) ?_
        refine x_gi C hTH1208 (ci := 10) (k := 1) rfl inX10 (by decide) wF_X10_170 ga0 rg_112 rfl dX10_bar_32 (fun x1225 ex1225 bx1225 => ?_)
        have ux1225 : bs = x1225 := (m1216).trans ex1225.symm
        subst ux1225
        refine lv_iload_n hx hb dX10_bar_35 rfl (lv_at hl 1 rfl) ?_
        refine x_iast C hTH1208 hSH1218 gslq rg_113 (by omega) (by show _ < ((10 : Nat) : Int); omega) ⟨by have := i_rng x1; omega, by have := i_rng x1; omega⟩ (AE_in gslq (by decide)) dX10_bar_36 (fun H1226 locsH1226 hTH1226 hSH1226 wH1226 => ?_)
        have mf1227 : MF K s.heap H1226 a0 [0, 1] := MF.arr wH1226 (G_ne ga0 gslq (by decide)) mf1209
        have g1228 : CG (avw K H1226 a0) := CG.congr (fun k hk j => av_arr hTH1208 ga0 wH1226 gslq (by decide) (CG_ok 113 (by decide) k hk)) g1210
        have g1229 : TU (avw K H1226 a0) (svw K H1226 a0) := TU.putS hTH1208 ga0 wH1226 gslq m1214 (by omega) g1211
        have g1230 : WD (avw K H1226 a0) := WD.congr (fun k hk j => av_arr hTH1208 ga0 wH1226 gslq (by decide) (WD_ok 113 (by decide) k hk)) g1212
        have g1231 : IM (avw K H1226 a0) := IM.congr (fun k hk j => av_arr hTH1208 ga0 wH1226 gslq (by decide) (IM_ok 113 (by decide) k hk)) g1213
        have cjH1226 := i_cl (x := bs) (by omega)
        have b1232 : AB H1226 slq (bs.toNatClampNeg + 1) (1) (16) := (AB.ext wH1226 (by omega) asl (by omega) rfl)
        have m1233 := m1214.trans (Wr.neR wH1226 (Or.inl (G_ne ga0 gslq (by decide)))).symm
        have m1234 := m1215.trans (Wr.neR wH1226 (Or.inl (G_ne ga0 gslq (by decide)))).symm
        have m1235 := m1216.trans (Wr.neI wH1226 (Or.inl (G_ne ga0 gslq (by decide)))).symm
        have m1236 := (Wr.neI wH1226 (Or.inl (G_ne ga0 gslq (by decide)))).trans m1217
        have m1237 := Wr.I wH1226
        have m1237 := m1237.symm
        refine lv_bipush (v := 16) hx hb dX10_bar_37 (by decide) ?_
        refine lv_aload_n hx hb dX10_bar_39 rfl (lv_at hl 0 rfl) ?_
        refine x_gi C hTH1226 (ci := 10) (k := 1) rfl inX10 (by decide) wF_X10_170 ga0 rg_112 rfl dX10_bar_40 (fun x1238 ex1238 bx1238 => ?_)
        have ux1238 : bs = x1238 := (m1235).trans ex1238.symm
        subst ux1238
        refine lv_imul hx hb dX10_bar_43 ?_
        refine lv_topi (fun x1239 ex1239 => ?_)
        have tx1239 := i_mul ex1239 (by rw [n_16]; omega)
        rw [n_16] at tx1239
        refine lv_istore_n (lv' := [(2, .int x1239), (0, .ref a0), (1, .int x1)]) hx hb dX10_bar_44 rfl hl (by decide) rfl (fun ls1240 hl1241 => ?_)
        have cl_bs := i_cl (x := bs) (by omega)
        exact J45 ((160 - x1239.toInt).toNat + 1) ls1240 H1226 locsH1226 (x1239) (bs) (lv_sub hl1241 [1, 0] rfl) hTH1226 hSH1226 (by have := i_rng x1239; omega) (by have := i_rng bs; omega) m1235 m1233 m1234 (AB.weak b1232 (by omega) (by omega) (by omega)) mf1227 g1228 g1229 g1230 g1231 (by omega) (by omega)
      · have k1223 := i_eq c1222
        refine lv_iconst (v := (-1)) hx hb dX10_bar_25 (by decide) ?_
        exact x_iret C hQ dX10_bar_26 hSH1218 (by decide) (by decide) (⟨(-1), bs, rfl, m1216, by omega, m1214, m1215, g1210, g1211, g1212, g1213, mf1209, hTH1208⟩)
  · subst hvH1218
    refine W.eq (g2 := F0 m 13 ls [.int 0]) rfl ?_
    refine lv_if_eq (tgt := 25) hx hb dX10_bar_13 (by decide) (fun c1242 => ?_) (fun c1242 => ?_)
    · have k1243 := i_eq c1242
      refine lv_iconst (v := (-1)) hx hb dX10_bar_25 (by decide) ?_
      exact x_iret C hQ dX10_bar_26 hSH1218 (by decide) (by decide) (⟨(-1), bs, rfl, m1216, by omega, m1214, m1215, g1210, g1211, g1212, g1213, mf1209, hTH1208⟩)
    · have k1243 := i_ne c1242
      exfalso
      omega
