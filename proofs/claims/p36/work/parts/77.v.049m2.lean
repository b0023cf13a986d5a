
set_option maxHeartbeats 4000000 in
set_option maxRecDepth 100000 in
theorem a_X10_reads_e (l : Launch) (K : KE) (G : Nat → Option Nat) (H : Heap) {a0 : Nat} {tq : Nat} (sp : Int32) (fr : Int32) (tk : Int32) (vl : Int32) (tp : Int32) (bt : Nat → Int) (hT : TY K G H) (ga0 : G a0 = some 112) (gtq : G tq = some 126) (etq : @Eq Ad tq (fR H a0 (K.1.2 10 17))) (esp : sp = fI H a0 (K.1.2 10 19)) (efr : fr = fI H a0 (K.1.2 10 20)) (etk : tk = fI H a0 (K.1.2 10 21)) (evl : vl = fI H a0 (K.1.2 10 22)) (etp : tp = fI H a0 (K.1.2 10 18)) (hg_CG : CG (avw K H a0)) (hg_TU : TU (avw K H a0) (svw K H a0)) (hg_WD : WD (avw K H a0)) (hg_IM : IM (avw K H a0)) (hp0 : sp.toInt ≤ tp.toInt) (hy0 : ∀ j : Nat, j < tp.toNatClampNeg → 0 ≤ bt j) (hv_bt : ∀ j : Nat, bt j = (fI H tq j).toInt) : MX l K yX10_reads cX10_reads 2 none 2 44 0 0 [.ref a0] H (AE G [112] H.size) (fun v H1 => ∃ (t0 : Int32) (t1 : Int32) (t2 : Int32) (t3 : Int32), v = none ∧ t0 = fI H1 a0 (K.1.2 10 19) ∧ t1 = fI H1 a0 (K.1.2 10 20) ∧ t2 = fI H1 a0 (K.1.2 10 21) ∧ t3 = fI H1 a0 (K.1.2 10 22) ∧ (t1.toInt ≤ t0.toInt ∧ t0.toInt ≤ tp.toInt ∧ sp.toInt ≤ t1.toInt ∧ (t2.toInt = 0 ∨ t1.toInt < t0.toInt) ∧ (t2.toInt ≠ 2 ∨ (0 ≤ t3.toInt ∧ t3.toInt ≤ 23))) ∧ @Eq Ad tq (fR H1 a0 (K.1.2 10 17)) ∧ (CG (avw K H1 a0)) ∧ (TU (avw K H1 a0) (svw K H1 a0)) ∧ (WD (avw K H1 a0)) ∧ (IM (avw K H1 a0)) ∧ MF K H H1 a0 [19, 20, 21, 22] ∧ (skB bt tp.toNatClampNeg sp.toNatClampNeg = t1.toNatClampNeg) ∧ (tkN bt tp.toNatClampNeg (skB bt tp.toNatClampNeg sp.toNatClampNeg) = t0.toNatClampNeg) ∧ (TV (tkK bt tp.toNatClampNeg (skB bt tp.toNatClampNeg sp.toNatClampNeg)) (tkV bt tp.toNatClampNeg (skB bt tp.toNatClampNeg sp.toNatClampNeg)) t2.toInt t3.toInt) ∧ TY K G H1) := by
  refine MX.of (by decide +kernel) (Nat.le_of_ble_eq_true rfl) ?_
  intro p e s m below meth c ls Q C hH hl hQ
  subst hH
  have C : CX p K s m _ meth c RX10 cX10_reads 2 none "reads" := C
  obtain ⟨hx, hb, hml, hown, hts, hKT, hr, hlocks, hnm⟩ := id C
  have hl : lv_has ls 2 [(0, .ref a0)] := hl
  have hS : va_S (AE G [112] s.heap.size) s.heap s.heap [] := va_S.rf
  have n_m1 : ((-1) : Int32).toInt = -1 := rfl
  have n_0 : (0 : Int32).toInt = 0 := rfl
  have n_1 : (1 : Int32).toInt = 1 := rfl
  have n_2 : (2 : Int32).toInt = 2 := rfl
  have n_3 : (3 : Int32).toInt = 3 := rfl
  have n_4 : (4 : Int32).toInt = 4 := rfl
  have n_6 : (6 : Int32).toInt = 6 := rfl
  have n_10 : (10 : Int32).toInt = 10 := rfl
  have n_32 : (32 : Int32).toInt = 32 := rfl
  have n_48 : (48 : Int32).toInt = 48 := rfl
  have n_100000 : (100000 : Int32).toInt = 100000 := rfl
  have bsp := ty_fi (x := sp) (k := 19) esp hT ga0 rg_112 rfl
  have bfr := ty_fi (x := fr) (k := 20) efr hT ga0 rg_112 rfl
  have btk := ty_fi (x := tk) (k := 21) etk hT ga0 rg_112 rfl
  have bvl := ty_fi (x := vl) (k := 22) evl hT ga0 rg_112 rfl
  have btp := ty_fi (x := tp) (k := 18) etp hT ga0 rg_112 rfl
  have hap : ∀ x y, x < 74 → y < 74 → x ≠ y → K.1.2 10 x ≠ K.1.2 10 y := x_apart hKT hts inX10 tyX10 tyX10_ok nmX10 rfl
  have mf0 : MF K s.heap s.heap a0 [19, 20, 21, 22] := fun _ _ _ => rfl
  have f0_bt := hv_bt
  have J0 : ∀ (nf : Nat)  (ls2470 : Array Slot) (H2469 : Heap) (locsH2469 : List Loc) (x2472 : Int32) (x2473 : Int32) (x2474 : Int32) (x2475 : Int32), lv_has ls2470 2 [(0, .ref a0)] → TY K G H2469 → va_S (AE G [112] s.heap.size) s.heap H2469 locsH2469 → (0 ≤ x2472.toInt ∧ x2472.toInt ≤ 500) → (0 ≤ x2473.toInt ∧ x2473.toInt ≤ 500) → (x2472 = fI H2469 a0 (K.1.2 10 19)) → (x2473 = fI H2469 a0 (K.1.2 10 20)) → (x2474 = fI H2469 a0 (K.1.2 10 21)) → (x2475 = fI H2469 a0 (K.1.2 10 22)) → (@Eq Ad tq (fR H2469 a0 (K.1.2 10 17))) → (tp = fI H2469 a0 (K.1.2 10 18)) → (MF K s.heap H2469 a0 [19, 20, 21, 22]) → (CG (avw K H2469 a0)) → (TU (avw K H2469 a0) (svw K H2469 a0)) → (WD (avw K H2469 a0)) → (IM (avw K H2469 a0)) → (∀ j : Nat, bt j = (fI H2469 tq j).toInt) → (500 - x2472.toInt < (nf : Int)) → (sp.toInt ≤ x2472.toInt ∧ x2472.toInt ≤ tp.toInt) → (skB bt tp.toNatClampNeg sp.toNatClampNeg = scn (inL tp.toNatClampNeg iBl bt) (500 - x2472.toNatClampNeg) x2472.toNatClampNeg) → W p l e ({ frames := 2, cells := 0, slots := 0, locals := 44 } : Room) s m (([.ref a0] : List Value).toArray) below meth c H2469 locsH2469 0 0 Q (F0 m 0 ls2470 []) := by
    intro nf
    induction nf with
    | zero =>
      intro  ls2470 H2469 locsH2469 x2472 x2473 x2474 x2475 hl2471 hTH2469 hSH2469 bx2472 bx2473 ex2472 ex2473 ex2474 ex2475 cy2476_0 cy2476_1 mfy2476 gy2476_CG gy2476_TU gy2476_WD gy2476_IM fy2476_bt hm0 iv0 hsp0
      have rx2474 := i_rng x2474
      have rx2475 := i_rng x2475
      exfalso
      omega
    | succ nf ih0 =>
      intro  ls2470 H2469 locsH2469 x2472 x2473 x2474 x2475 hl2471 hTH2469 hSH2469 bx2472 bx2473 ex2472 ex2473 ex2474 ex2475 cy2476_0 cy2476_1 mfy2476 gy2476_CG gy2476_TU gy2476_WD gy2476_IM fy2476_bt hm0 iv0 hsp0
      have rx2474 := i_rng x2474
      have rx2475 := i_rng x2475
      have J171 : ∀ (nf : Nat)  (ls2478 : Array Slot) (H2477 : Heap) (locsH2477 : List Loc) (x2480 : Int32) (x2481 : Int32) (x2482 : Int32) (x2483 : Int32), lv_has ls2478 2 [(0, .ref a0)] → TY K G H2477 → va_S (AE G [112] s.heap.size) s.heap H2477 locsH2477 → (1 ≤ x2480.toInt ∧ x2480.toInt ≤ 500) → (0 ≤ x2481.toInt ∧ x2481.toInt ≤ 500) → (1 ≤ x2482.toInt ∧ x2482.toInt ≤ 1) → (0 ≤ x2483.toInt ∧ x2483.toInt ≤ 2147483646) → (x2480 = fI H2477 a0 (K.1.2 10 19)) → (x2481 = fI H2477 a0 (K.1.2 10 20)) → (x2482 = fI H2477 a0 (K.1.2 10 21)) → (x2483 = fI H2477 a0 (K.1.2 10 22)) → (@Eq Ad tq (fR H2477 a0 (K.1.2 10 17))) → (tp = fI H2477 a0 (K.1.2 10 18)) → (MF K s.heap H2477 a0 [19, 20, 21, 22]) → (CG (avw K H2477 a0)) → (TU (avw K H2477 a0) (svw K H2477 a0)) → (WD (avw K H2477 a0)) → (IM (avw K H2477 a0)) → (∀ j : Nat, bt j = (fI H2477 tq j).toInt) → (500 - x2480.toInt < (nf : Int)) → (sp.toInt ≤ x2481.toInt ∧ x2481.toInt < x2480.toInt ∧ x2480.toInt ≤ tp.toInt ∧ x2482.toInt = 1 ∧ x2481.toInt < tp.toInt ∧ ((x2480.toInt = x2481.toInt + 1 ∧ 0 ≤ x2483.toInt ∧ x2483.toInt ≤ 9) ∨ (x2480.toInt = x2481.toInt + 2 ∧ 0 ≤ x2483.toInt ∧ x2483.toInt ≤ 99) ∨ (x2480.toInt = x2481.toInt + 3 ∧ 0 ≤ x2483.toInt ∧ x2483.toInt ≤ 999) ∨ (x2480.toInt = x2481.toInt + 4 ∧ 0 ≤ x2483.toInt ∧ x2483.toInt ≤ 9999) ∨ (x2480.toInt = x2481.toInt + 5 ∧ 0 ≤ x2483.toInt ∧ x2483.toInt ≤ 99999) ∨ (x2481.toInt + 6 ≤ x2480.toInt ∧ 0 ≤ x2483.toInt ∧ x2483.toInt ≤ 999999))) → (enD bt tp.toNatClampNeg (x2481.toNatClampNeg + 1) = scn (inL tp.toNatClampNeg iDg bt) (500 - x2480.toNatClampNeg) x2480.toNatClampNeg) → (48 ≤ bt x2481.toNatClampNeg ∧ bt x2481.toNatClampNeg ≤ 57) → (skB bt tp.toNatClampNeg sp.toNatClampNeg = x2481.toNatClampNeg) → (HD (x2480.toNatClampNeg - x2481.toNatClampNeg ≤ 5 → nmb bt (x2480.toNatClampNeg - x2481.toNatClampNeg) x2481.toNatClampNeg 0 = x2483.toInt)) → W p l e ({ frames := 2, cells := 0, slots := 0, locals := 44 } : Room) s m (([.ref a0] : List Value).toArray) below meth c H2477 locsH2477 0 0 Q (F0 m 171 ls2478 []) := by
        intro nf
        induction nf with
        | zero =>
          intro  ls2478 H2477 locsH2477 x2480 x2481 x2482 x2483 hl2479 hTH2477 hSH2477 bx2480 bx2481 bx2482 bx2483 ex2480 ex2481 ex2482 ex2483 cy2484_0 cy2484_1 mfy2484 gy2484_CG gy2484_TU gy2484_WD gy2484_IM fy2484_bt hm171 iv171 hsp171 hdg171 hsf171 hnv171
          exfalso
          omega
        | succ nf ih171 =>
          intro  ls2478 H2477 locsH2477 x2480 x2481 x2482 x2483 hl2479 hTH2477 hSH2477 bx2480 bx2481 bx2482 bx2483 ex2480 ex2481 ex2482 ex2483 cy2484_0 cy2484_1 mfy2484 gy2484_CG gy2484_TU gy2484_WD gy2484_IM fy2484_bt hm171 iv171 hsp171 hdg171 hsf171 hnv171
          refine lv_aload_n hx hb dX10_reads_171 rfl (lv_at hl2479 0 rfl) ?_
          refine lv_aload_n hx hb dX10_reads_172 rfl (lv_at hl2479 0 rfl) ?_
          refine lv_aload_n hx hb dX10_reads_173 rfl (lv_at hl2479 0 rfl) ?_
          refine x_gi C hTH2477 (ci := 10) (k := 19) rfl inX10 (by decide) wF_X10_192 ga0 rg_112 rfl dX10_reads_174 (fun x2485 ex2485 bx2485 => ?_)
          have ux2485 : x2480 = x2485 := (ex2480).trans ex2485.symm
          subst ux2485
          refine x_V (As := [.int x2480]) (rest := [.ref a0]) C (a_X10_raw_e l K G H2477 (x2480) (tp) bt hTH2477 ga0 (by omega) gtq cy2484_0 cy2484_1 fy2484_bt) yo_X10_raw wM_X10_195 ⟨⟨by decide, by decide⟩, by decide, by decide⟩ (x_rv C hTH2477 (ci := 10) rfl ga0 rg_112) rfl hl2479.1 rfl (Nat.le_of_ble_eq_true rfl) dX10_reads_177 hSH2477 (AE_sub (fun _ _ => rfl) (by decide) hSH2477.1) (fun vH2486 H2486 locsH2486 pH2486 zH2486 kH2486 hSH2486 => ?_)
          obtain ⟨x2487, hvH2486, hrH2486, hTH2486⟩ := pH2486
          subst hvH2486
          have mf2488 : MF K s.heap H2486 a0 [19, 20, 21, 22] := MF.eff (x_lt hTH2477 kH2486 ga0 (by decide)) mfy2484
          have g2489 : CG (avw K H2486 a0) := CG.congr (fun k hk j => av_eff hTH2477 kH2486 ga0 (by decide) (CG_eff [] (by decide) k hk)) gy2484_CG
          have g2490 : TU (avw K H2486 a0) (svw K H2486 a0) := TU.congr (fun k hk j => av_eff hTH2477 kH2486 ga0 (by decide) (TU_eff [] (by decide) k hk)) (fun k hk => sv_eff hTH2477 kH2486 ga0 (by decide)) gy2484_TU
          have g2491 : WD (avw K H2486 a0) := WD.congr (fun k hk j => av_eff hTH2477 kH2486 ga0 (by decide) (WD_eff [] (by decide) k hk)) gy2484_WD
          have g2492 : IM (avw K H2486 a0) := IM.congr (fun k hk j => av_eff hTH2477 kH2486 ga0 (by decide) (IM_eff [] (by decide) k hk)) gy2484_IM
          have f2493 : ∀ j : Nat, bt j = (fI H2486 tq j).toInt := fun j => (fy2484_bt j).trans (congrArg Int32.toInt (fI_kept (x_lt hTH2477 kH2486 gtq (by decide))).symm)
          have m2494 := (ex2480).trans (fI_kept (x_lt hTH2477 kH2486 ga0 (by decide))).symm
          have m2495 := (ex2481).trans (fI_kept (x_lt hTH2477 kH2486 ga0 (by decide))).symm
          have m2496 := (ex2482).trans (fI_kept (x_lt hTH2477 kH2486 ga0 (by decide))).symm
          have m2497 := (ex2483).trans (fI_kept (x_lt hTH2477 kH2486 ga0 (by decide))).symm
          have m2498 := (cy2484_0).trans (fR_kept (x_lt hTH2477 kH2486 ga0 (by decide))).symm
          have m2499 := (cy2484_1).trans (fI_kept (x_lt hTH2477 kH2486 ga0 (by decide))).symm
          refine W.eq (g2 := F0 m 180 ls2478 [.int x2487, .ref a0]) rfl ?_
          refine x_V (As := [.int x2487]) (rest := []) C (a_X10_isDigit_e l K G H2486 (x2487) hTH2486 ga0) yo_X10_isDigit wM_X10_215 ⟨⟨by decide, by decide⟩, by decide, by decide⟩ (x_rv C hTH2486 (ci := 10) rfl ga0 rg_112) rfl hl2479.1 rfl (Nat.le_of_ble_eq_true rfl) dX10_reads_180 hSH2486 (AE_sub (fun _ _ => rfl) (by decide) hSH2486.1) (fun vH2500 H2500 locsH2500 pH2500 zH2500 kH2500 hSH2500 => ?_)
          obtain ⟨x2501, hvH2500, bx2501, hrH2500, hTH2500⟩ := pH2500
          subst hvH2500
          have mf2502 : MF K s.heap H2500 a0 [19, 20, 21, 22] := MF.eff (x_lt hTH2486 kH2500 ga0 (by decide)) mf2488
          have g2503 : CG (avw K H2500 a0) := CG.congr (fun k hk j => av_eff hTH2486 kH2500 ga0 (by decide) (CG_eff [] (by decide) k hk)) g2489
          have g2504 : TU (avw K H2500 a0) (svw K H2500 a0) := TU.congr (fun k hk j => av_eff hTH2486 kH2500 ga0 (by decide) (TU_eff [] (by decide) k hk)) (fun k hk => sv_eff hTH2486 kH2500 ga0 (by decide)) g2490
          have g2505 : WD (avw K H2500 a0) := WD.congr (fun k hk j => av_eff hTH2486 kH2500 ga0 (by decide) (WD_eff [] (by decide) k hk)) g2491
          have g2506 : IM (avw K H2500 a0) := IM.congr (fun k hk j => av_eff hTH2486 kH2500 ga0 (by decide) (IM_eff [] (by decide) k hk)) g2492
          have f2507 : ∀ j : Nat, bt j = (fI H2500 tq j).toInt := fun j => (f2493 j).trans (congrArg Int32.toInt (fI_kept (x_lt hTH2486 kH2500 gtq (by decide))).symm)
          have m2508 := (m2494).trans (fI_kept (x_lt hTH2486 kH2500 ga0 (by decide))).symm
          have m2509 := (m2495).trans (fI_kept (x_lt hTH2486 kH2500 ga0 (by decide))).symm
          have m2510 := (m2496).trans (fI_kept (x_lt hTH2486 kH2500 ga0 (by decide))).symm
          have m2511 := (m2497).trans (fI_kept (x_lt hTH2486 kH2500 ga0 (by decide))).symm
          have m2512 := (m2498).trans (fR_kept (x_lt hTH2486 kH2500 ga0 (by decide))).symm
          have m2513 := (m2499).trans (fI_kept (x_lt hTH2486 kH2500 ga0 (by decide))).symm
          refine W.eq (g2 := F0 m 183 ls2478 [.int x2501]) rfl ?_
          refine lv_if_eq (tgt := 238) hx hb dX10_reads_183 (by decide) (fun c2514 => ?_) (fun c2514 => ?_)
          · have k2515 := i_eq c2514
            refine lv_aload_n hx hb dX10_reads_238 rfl (lv_at hl2479 0 rfl) ?_
            refine x_gi C hTH2500 (ci := 10) (k := 19) rfl inX10 (by decide) wF_X10_192 ga0 rg_112 rfl dX10_reads_239 (fun x2516 ex2516 bx2516 => ?_)
            have ux2516 : x2480 = x2516 := (m2508).trans ex2516.symm
            subst ux2516
            refine lv_aload_n hx hb dX10_reads_242 rfl (lv_at hl2479 0 rfl) ?_
            refine x_gi C hTH2500 (ci := 10) (k := 20) rfl inX10 (by decide) wF_X10_199 ga0 rg_112 rfl dX10_reads_243 (fun x2517 ex2517 bx2517 => ?_)
            have ux2517 : x2481 = x2517 := (m2509).trans ex2517.symm
            subst ux2517
            refine lv_isub hx hb dX10_reads_246 ?_
            refine lv_topi (fun x2518 ex2518 => ?_)
            have tx2518 := i_sub ex2518 (by omega)
            refine lv_bipush (v := 6) hx hb dX10_reads_247 (by decide) ?_
            refine lv_icmp_ge (tgt := 273) hx hb dX10_reads_249 (by decide) (fun c2519 => ?_) (fun c2519 => ?_)
            · have k2520 := i_le c2519
              have cn_x2481 := i_cl (x := x2481) bx2481.1
              have cn_x2480 := i_cl (x := x2480) (Int.le_trans (by decide) bx2480.1)
              have cn_tp := i_cl (x := tp) (by omega)
              have he2521 : enD bt tp.toNatClampNeg (x2481.toNatClampNeg + 1) = x2480.toNatClampNeg := hsp171.trans (scn_end (by by_cases hh : tp.toNatClampNeg ≤ x2480.toNatClampNeg; exact inL_o hh; exact inL_n (iDg_n (by omega))))
              have tv2522 : TV (tkK bt tp.toNatClampNeg x2481.toNatClampNeg) (tkV bt tp.toNatClampNeg x2481.toNatClampNeg) x2482.toInt x2483.toInt ∧ tkN bt tp.toNatClampNeg x2481.toNatClampNeg = x2480.toNatClampNeg := tv_num (by omega) hdg171 he2521 (by first | exact Or.inl ⟨by omega, by omega, (HD.get hnv171 (by omega)).symm⟩ | exact Or.inr ⟨by omega, by omega⟩)
              exact x_vret C hQ dX10_reads_273 hSH2500 (by decide) (by decide) (⟨x2480, x2481, x2482, x2483, rfl, m2508, m2509, m2510, m2511, by omega, m2512, g2503, g2504, g2505, g2506, mf2502, hsf171, (by rw [hsf171]; exact tv2522.2), (by rw [hsf171]; exact tv2522.1), hTH2500⟩)
            · have k2520 := i_nle c2519
              refine lv_aload_n hx hb dX10_reads_252 rfl (lv_at hl2479 0 rfl) ?_
              refine lv_iconst (v := 3) hx hb dX10_reads_253 (by decide) ?_
              refine x_put C hTH2500 hSH2500 (ci := 10) (k := 21) (v := .int 3) (ty0 := tyX10) rfl inX10 tyX10_ok nmX10 (by decide) rfl wF_X10_202 ga0 rg_112 rfl rfl (okI (i_rng (3 : Int32)).1 (i_rng (3 : Int32)).2) rfl rfl (AE_in ga0 (by decide)) dX10_reads_254 (fun H2523 locsH2523 hTH2523 hSH2523 wH2523 => ?_)
              clear f2493 m2494 m2495 m2496 m2497 m2498 m2499
              have mf2524 : MF K s.heap H2523 a0 [19, 20, 21, 22] := MF.fld hap wH2523 (by decide) (by decide) mf2502
              have g2525 : CG (avw K H2523 a0) := CG.congr (fun k hk j => av_fld hTH2500 ga0 hap wH2523 (by decide) (CG_ok 112 (by decide) k hk) (CG_ne 21 (by decide) k hk)) g2503
              have g2526 : TU (avw K H2523 a0) (svw K H2523 a0) := TU.congr (fun k hk j => av_fld hTH2500 ga0 hap wH2523 (by decide) (TU_ok 112 (by decide) k hk) (TU_ne 21 (by decide) k hk)) (fun k hk => sv_fld hap wH2523 (by decide) (TU_slt k hk) (TU_sne 21 (by decide) k hk)) g2504
              have g2527 : WD (avw K H2523 a0) := WD.congr (fun k hk j => av_fld hTH2500 ga0 hap wH2523 (by decide) (WD_ok 112 (by decide) k hk) (WD_ne 21 (by decide) k hk)) g2505
              have g2528 : IM (avw K H2523 a0) := IM.congr (fun k hk j => av_fld hTH2500 ga0 hap wH2523 (by decide) (IM_ok 112 (by decide) k hk) (IM_ne 21 (by decide) k hk)) g2506
              have f2529 : ∀ j : Nat, bt j = (fI H2523 tq j).toInt := fun j => (f2507 j).trans (congrArg Int32.toInt (Wr.neI wH2523 (Or.inl (G_ne gtq ga0 (by decide)))).symm)
              have m2530 := m2508.trans (Wr.neI wH2523 (Or.inr (x_apart hKT hts inX10 tyX10 tyX10_ok nmX10 rfl 19 21 (by decide) (by decide) (by decide)))).symm
              have m2531 := m2509.trans (Wr.neI wH2523 (Or.inr (x_apart hKT hts inX10 tyX10 tyX10_ok nmX10 rfl 20 21 (by decide) (by decide) (by decide)))).symm
              have m2533 := m2511.trans (Wr.neI wH2523 (Or.inr (x_apart hKT hts inX10 tyX10 tyX10_ok nmX10 rfl 22 21 (by decide) (by decide) (by decide)))).symm
              have m2534 := m2512.trans (Wr.neR wH2523 (Or.inr (x_apart hKT hts inX10 tyX10 tyX10_ok nmX10 rfl 17 21 (by decide) (by decide) (by decide)))).symm
              have m2535 := m2513.trans (Wr.neI wH2523 (Or.inr (x_apart hKT hts inX10 tyX10 tyX10_ok nmX10 rfl 18 21 (by decide) (by decide) (by decide)))).symm
              have m2536 := Wr.I wH2523
              refine lv_goto (tgt := 273) hx hb dX10_reads_257 (by decide) ?_
              have cn_x2481 := i_cl (x := x2481) bx2481.1
              have cn_x2480 := i_cl (x := x2480) (Int.le_trans (by decide) bx2480.1)
              have cn_tp := i_cl (x := tp) (by omega)
              have he2537 : enD bt tp.toNatClampNeg (x2481.toNatClampNeg + 1) = x2480.toNatClampNeg := hsp171.trans (scn_end (by by_cases hh : tp.toNatClampNeg ≤ x2480.toNatClampNeg; exact inL_o hh; exact inL_n (iDg_n (by omega))))
              have tv2538 : TV (tkK bt tp.toNatClampNeg x2481.toNatClampNeg) (tkV bt tp.toNatClampNeg x2481.toNatClampNeg) (3 : Int32).toInt x2483.toInt ∧ tkN bt tp.toNatClampNeg x2481.toNatClampNeg = x2480.toNatClampNeg := tv_num (by omega) hdg171 he2537 (by first | exact Or.inl ⟨by omega, by omega, (HD.get hnv171 (by omega)).symm⟩ | exact Or.inr ⟨by omega, by omega⟩)
              exact x_vret C hQ dX10_reads_273 hSH2523 (by decide) (by decide) (⟨x2480, x2481, 3, x2483, rfl, m2530, m2531, (m2536).symm, m2533, by omega, m2534, g2525, g2526, g2527, g2528, mf2524, hsf171, (by rw [hsf171]; exact tv2538.2), (by rw [hsf171]; exact tv2538.1), hTH2523⟩)
          · have k2515 := i_ne c2514
            refine lv_aload_n hx hb dX10_reads_186 rfl (lv_at hl2479 0 rfl) ?_
            refine lv_aload_n hx hb dX10_reads_187 rfl (lv_at hl2479 0 rfl) ?_
            refine x_gi C hTH2500 (ci := 10) (k := 22) rfl inX10 (by decide) wF_X10_205 ga0 rg_112 rfl dX10_reads_188 (fun x2539 ex2539 bx2539 => ?_)
            have ux2539 : x2483 = x2539 := (m2511).trans ex2539.symm
            subst ux2539
            refine lv_ldc (v := 100000) hx hb hown (hts _ wK_X10_218) dX10_reads_191 ?_
            refine lv_icmp_ge (tgt := 218) hx hb dX10_reads_193 (by decide) (fun c2540 => ?_) (fun c2540 => ?_)
            · have k2541 := i_le c2540
              refine lv_aload_n hx hb dX10_reads_218 rfl (lv_at hl2479 0 rfl) ?_
              refine x_gi C hTH2500 (ci := 10) (k := 22) rfl inX10 (by decide) wF_X10_205 ga0 rg_112 rfl dX10_reads_219 (fun x2542 ex2542 bx2542 => ?_)
              have ux2542 : x2483 = x2542 := (m2511).trans ex2542.symm
              subst ux2542
              refine x_put C hTH2500 hSH2500 (ci := 10) (k := 22) (v := .int x2483) (ty0 := tyX10) rfl inX10 tyX10_ok nmX10 (by decide) rfl wF_X10_205 ga0 rg_112 rfl rfl (okI (i_rng x2483).1 (i_rng x2483).2) rfl rfl (AE_in ga0 (by decide)) dX10_reads_222 (fun H2543 locsH2543 hTH2543 hSH2543 wH2543 => ?_)
              clear f2493 m2494 m2495 m2496 m2497 m2498 m2499
              have mf2544 : MF K s.heap H2543 a0 [19, 20, 21, 22] := MF.fld hap wH2543 (by decide) (by decide) mf2502
              have g2545 : CG (avw K H2543 a0) := CG.congr (fun k hk j => av_fld hTH2500 ga0 hap wH2543 (by decide) (CG_ok 112 (by decide) k hk) (CG_ne 22 (by decide) k hk)) g2503
              have g2546 : TU (avw K H2543 a0) (svw K H2543 a0) := TU.congr (fun k hk j => av_fld hTH2500 ga0 hap wH2543 (by decide) (TU_ok 112 (by decide) k hk) (TU_ne 22 (by decide) k hk)) (fun k hk => sv_fld hap wH2543 (by decide) (TU_slt k hk) (TU_sne 22 (by decide) k hk)) g2504
              have g2547 : WD (avw K H2543 a0) := WD.congr (fun k hk j => av_fld hTH2500 ga0 hap wH2543 (by decide) (WD_ok 112 (by decide) k hk) (WD_ne 22 (by decide) k hk)) g2505
              have g2548 : IM (avw K H2543 a0) := IM.congr (fun k hk j => av_fld hTH2500 ga0 hap wH2543 (by decide) (IM_ok 112 (by decide) k hk) (IM_ne 22 (by decide) k hk)) g2506
              have f2549 : ∀ j : Nat, bt j = (fI H2543 tq j).toInt := fun j => (f2507 j).trans (congrArg Int32.toInt (Wr.neI wH2543 (Or.inl (G_ne gtq ga0 (by decide)))).symm)
              have m2550 := m2508.trans (Wr.neI wH2543 (Or.inr (x_apart hKT hts inX10 tyX10 tyX10_ok nmX10 rfl 19 22 (by decide) (by decide) (by decide)))).symm
              have m2551 := m2509.trans (Wr.neI wH2543 (Or.inr (x_apart hKT hts inX10 tyX10 tyX10_ok nmX10 rfl 20 22 (by decide) (by decide) (by decide)))).symm
              have m2552 := m2510.trans (Wr.neI wH2543 (Or.inr (x_apart hKT hts inX10 tyX10 tyX10_ok nmX10 rfl 21 22 (by decide) (by decide) (by decide)))).symm
              have m2554 := m2512.trans (Wr.neR wH2543 (Or.inr (x_apart hKT hts inX10 tyX10 tyX10_ok nmX10 rfl 17 22 (by decide) (by decide) (by decide)))).symm
              have m2555 := m2513.trans (Wr.neI wH2543 (Or.inr (x_apart hKT hts inX10 tyX10 tyX10_ok nmX10 rfl 18 22 (by decide) (by decide) (by decide)))).symm
              have m2556 := Wr.I wH2543
              have m2556 := m2556.symm
              refine lv_aload_n hx hb dX10_reads_225 rfl (lv_at hl2479 0 rfl) ?_
              refine lv_aload_n hx hb dX10_reads_226 rfl (lv_at hl2479 0 rfl) ?_
              refine x_gi C hTH2543 (ci := 10) (k := 19) rfl inX10 (by decide) wF_X10_192 ga0 rg_112 rfl dX10_reads_227 (fun x2557 ex2557 bx2557 => ?_)
              have ux2557 : x2480 = x2557 := (m2550).trans ex2557.symm
              subst ux2557
              refine lv_iconst (v := 1) hx hb dX10_reads_230 (by decide) ?_
              refine lv_iadd hx hb dX10_reads_231 ?_
              refine lv_topi (fun x2558 ex2558 => ?_)
              have tx2558 := i_add ex2558 (by omega)
              have fz2560 : 0 ≤ x2558.toInt ∧ x2558.toInt ≤ 500 := by have := i_rng x2558; omega
              refine x_put C hTH2543 hSH2543 (ci := 10) (k := 19) (v := .int x2558) (ty0 := tyX10) rfl inX10 tyX10_ok nmX10 (by decide) rfl wF_X10_192 ga0 rg_112 rfl rfl (okI fz2560.1 fz2560.2) rfl rfl (AE_in ga0 (by decide)) dX10_reads_232 (fun H2559 locsH2559 hTH2559 hSH2559 wH2559 => ?_)
              clear f2507 m2508 m2509 m2510 m2511 m2512 m2513
              have mf2561 : MF K s.heap H2559 a0 [19, 20, 21, 22] := MF.fld hap wH2559 (by decide) (by decide) mf2544
              have g2562 : CG (avw K H2559 a0) := CG.congr (fun k hk j => av_fld hTH2543 ga0 hap wH2559 (by decide) (CG_ok 112 (by decide) k hk) (CG_ne 19 (by decide) k hk)) g2545
              have g2563 : TU (avw K H2559 a0) (svw K H2559 a0) := TU.congr (fun k hk j => av_fld hTH2543 ga0 hap wH2559 (by decide) (TU_ok 112 (by decide) k hk) (TU_ne 19 (by decide) k hk)) (fun k hk => sv_fld hap wH2559 (by decide) (TU_slt k hk) (TU_sne 19 (by decide) k hk)) g2546
              have g2564 : WD (avw K H2559 a0) := WD.congr (fun k hk j => av_fld hTH2543 ga0 hap wH2559 (by decide) (WD_ok 112 (by decide) k hk) (WD_ne 19 (by decide) k hk)) g2547
              have g2565 : IM (avw K H2559 a0) := IM.congr (fun k hk j => av_fld hTH2543 ga0 hap wH2559 (by decide) (IM_ok 112 (by decide) k hk) (IM_ne 19 (by decide) k hk)) g2548
              have f2566 : ∀ j : Nat, bt j = (fI H2559 tq j).toInt := fun j => (f2549 j).trans (congrArg Int32.toInt (Wr.neI wH2559 (Or.inl (G_ne gtq ga0 (by decide)))).symm)
              have m2568 := m2551.trans (Wr.neI wH2559 (Or.inr (x_apart hKT hts inX10 tyX10 tyX10_ok nmX10 rfl 20 19 (by decide) (by decide) (by decide)))).symm
              have m2569 := m2552.trans (Wr.neI wH2559 (Or.inr (x_apart hKT hts inX10 tyX10 tyX10_ok nmX10 rfl 21 19 (by decide) (by decide) (by decide)))).symm
              have m2570 := m2554.trans (Wr.neR wH2559 (Or.inr (x_apart hKT hts inX10 tyX10 tyX10_ok nmX10 rfl 17 19 (by decide) (by decide) (by decide)))).symm
              have m2571 := m2555.trans (Wr.neI wH2559 (Or.inr (x_apart hKT hts inX10 tyX10 tyX10_ok nmX10 rfl 18 19 (by decide) (by decide) (by decide)))).symm
              have m2572 := m2556.trans (Wr.neI wH2559 (Or.inr (x_apart hKT hts inX10 tyX10 tyX10_ok nmX10 rfl 22 19 (by decide) (by decide) (by decide)))).symm
              have m2573 := Wr.I wH2559
              have m2573 := m2573.symm
              refine lv_goto (tgt := 171) hx hb dX10_reads_235 (by decide) ?_
              have cn_x2481 := i_cl (x := x2481) bx2481.1
              have cn_x2558 := i_cl (x := x2558) (by omega)
              have cn_tp := i_cl (x := tp) (by omega)
              have cn_x2480 := i_cl (x := x2480) (Int.le_trans (by decide) bx2480.1)
              exact ih171  ls2478 H2559 locsH2559 (x2558) (x2481) (x2482) (x2483) (lv_sub hl2479 [0] rfl) hTH2559 hSH2559 (by have := i_rng x2558; omega) bx2481 bx2482 bx2483 m2573 m2568 m2569 m2572 m2570 m2571 mf2561 g2562 g2563 g2564 g2565 f2566 (by omega) (by omega) (hsp171.trans (scn_go (inL_y (by omega) (iDg_y (by omega))) (by omega) (by omega))) hdg171 hsf171 (HD.mk (fun h5 => nmb_at (HD.get hnv171 (by omega)) (by omega) (show bt (x2481.toNatClampNeg + (x2480.toNatClampNeg - x2481.toNatClampNeg)) = bt x2480.toNatClampNeg by rw [show x2481.toNatClampNeg + (x2480.toNatClampNeg - x2481.toNatClampNeg) = x2480.toNatClampNeg by omega]) (by omega)))
            · have k2541 := i_nle c2540
              refine lv_bipush (v := 10) hx hb dX10_reads_196 (by decide) ?_
              refine lv_aload_n hx hb dX10_reads_198 rfl (lv_at hl2479 0 rfl) ?_
              refine x_gi C hTH2500 (ci := 10) (k := 22) rfl inX10 (by decide) wF_X10_205 ga0 rg_112 rfl dX10_reads_199 (fun x2574 ex2574 bx2574 => ?_)
              have ux2574 : x2483 = x2574 := (m2511).trans ex2574.symm
              subst ux2574
              refine lv_imul hx hb dX10_reads_202 ?_
              refine lv_topi (fun x2575 ex2575 => ?_)
              have tx2575 := i_mul ex2575 (by rw [n_10]; omega)
              rw [n_10] at tx2575
              refine lv_aload_n hx hb dX10_reads_203 rfl (lv_at hl2479 0 rfl) ?_
              refine lv_aload_n hx hb dX10_reads_204 rfl (lv_at hl2479 0 rfl) ?_
              refine x_gi C hTH2500 (ci := 10) (k := 19) rfl inX10 (by decide) wF_X10_192 ga0 rg_112 rfl dX10_reads_205 (fun x2576 ex2576 bx2576 => ?_)
              have ux2576 : x2480 = x2576 := (m2508).trans ex2576.symm
              subst ux2576
              refine x_V (As := [.int x2480]) (rest := [.int x2575, .ref a0]) C (a_X10_raw_e l K G H2500 (x2480) (tp) bt hTH2500 ga0 (by omega) gtq m2512 m2513 f2507) yo_X10_raw wM_X10_195 ⟨⟨by decide, by decide⟩, by decide, by decide⟩ (x_rv C hTH2500 (ci := 10) rfl ga0 rg_112) rfl hl2479.1 rfl (Nat.le_of_ble_eq_true rfl) dX10_reads_208 hSH2500 (AE_sub (fun _ _ => rfl) (by decide) hSH2500.1) (fun vH2577 H2577 locsH2577 pH2577 zH2577 kH2577 hSH2577 => ?_)
              obtain ⟨x2578, hvH2577, hrH2577, hTH2577⟩ := pH2577
              subst hvH2577
              clear f2493 m2494 m2495 m2496 m2497 m2498 m2499
              have mf2579 : MF K s.heap H2577 a0 [19, 20, 21, 22] := MF.eff (x_lt hTH2500 kH2577 ga0 (by decide)) mf2502
              have g2580 : CG (avw K H2577 a0) := CG.congr (fun k hk j => av_eff hTH2500 kH2577 ga0 (by decide) (CG_eff [] (by decide) k hk)) g2503
              have g2581 : TU (avw K H2577 a0) (svw K H2577 a0) := TU.congr (fun k hk j => av_eff hTH2500 kH2577 ga0 (by decide) (TU_eff [] (by decide) k hk)) (fun k hk => sv_eff hTH2500 kH2577 ga0 (by decide)) g2504
              have g2582 : WD (avw K H2577 a0) := WD.congr (fun k hk j => av_eff hTH2500 kH2577 ga0 (by decide) (WD_eff [] (by decide) k hk)) g2505
              have g2583 : IM (avw K H2577 a0) := IM.congr (fun k hk j => av_eff hTH2500 kH2577 ga0 (by decide) (IM_eff [] (by decide) k hk)) g2506
              have f2584 : ∀ j : Nat, bt j = (fI H2577 tq j).toInt := fun j => (f2507 j).trans (congrArg Int32.toInt (fI_kept (x_lt hTH2500 kH2577 gtq (by decide))).symm)
              have m2585 := (m2508).trans (fI_kept (x_lt hTH2500 kH2577 ga0 (by decide))).symm
              have m2586 := (m2509).trans (fI_kept (x_lt hTH2500 kH2577 ga0 (by decide))).symm
              have m2587 := (m2510).trans (fI_kept (x_lt hTH2500 kH2577 ga0 (by decide))).symm
              have m2588 := (m2511).trans (fI_kept (x_lt hTH2500 kH2577 ga0 (by decide))).symm
              have m2589 := (m2512).trans (fR_kept (x_lt hTH2500 kH2577 ga0 (by decide))).symm
              have m2590 := (m2513).trans (fI_kept (x_lt hTH2500 kH2577 ga0 (by decide))).symm
              refine W.eq (g2 := F0 m 211 ls2478 [.int x2578, .int x2575, .ref a0]) rfl ?_
              refine lv_iadd hx hb dX10_reads_211 ?_
              refine lv_topi (fun x2591 ex2591 => ?_)
              have tx2591 := i_add ex2591 (by omega)
              refine lv_bipush (v := 48) hx hb dX10_reads_212 (by decide) ?_
              refine lv_isub hx hb dX10_reads_214 ?_
              refine lv_topi (fun x2592 ex2592 => ?_)
              have tx2592 := i_sub ex2592 (by omega)
              refine lv_goto (tgt := 222) hx hb dX10_reads_215 (by decide) ?_
              refine x_put C hTH2577 hSH2577 (ci := 10) (k := 22) (v := .int x2592) (ty0 := tyX10) rfl inX10 tyX10_ok nmX10 (by decide) rfl wF_X10_205 ga0 rg_112 rfl rfl (okI (i_rng x2592).1 (i_rng x2592).2) rfl rfl (AE_in ga0 (by decide)) dX10_reads_222 (fun H2593 locsH2593 hTH2593 hSH2593 wH2593 => ?_)
              clear f2507 m2508 m2509 m2510 m2511 m2512 m2513
              have mf2594 : MF K s.heap H2593 a0 [19, 20, 21, 22] := MF.fld hap wH2593 (by decide) (by decide) mf2579
              have g2595 : CG (avw K H2593 a0) := CG.congr (fun k hk j => av_fld hTH2577 ga0 hap wH2593 (by decide) (CG_ok 112 (by decide) k hk) (CG_ne 22 (by decide) k hk)) g2580
              have g2596 : TU (avw K H2593 a0) (svw K H2593 a0) := TU.congr (fun k hk j => av_fld hTH2577 ga0 hap wH2593 (by decide) (TU_ok 112 (by decide) k hk) (TU_ne 22 (by decide) k hk)) (fun k hk => sv_fld hap wH2593 (by decide) (TU_slt k hk) (TU_sne 22 (by decide) k hk)) g2581
              have g2597 : WD (avw K H2593 a0) := WD.congr (fun k hk j => av_fld hTH2577 ga0 hap wH2593 (by decide) (WD_ok 112 (by decide) k hk) (WD_ne 22 (by decide) k hk)) g2582
              have g2598 : IM (avw K H2593 a0) := IM.congr (fun k hk j => av_fld hTH2577 ga0 hap wH2593 (by decide) (IM_ok 112 (by decide) k hk) (IM_ne 22 (by decide) k hk)) g2583
              have f2599 : ∀ j : Nat, bt j = (fI H2593 tq j).toInt := fun j => (f2584 j).trans (congrArg Int32.toInt (Wr.neI wH2593 (Or.inl (G_ne gtq ga0 (by decide)))).symm)
              have m2600 := m2585.trans (Wr.neI wH2593 (Or.inr (x_apart hKT hts inX10 tyX10 tyX10_ok nmX10 rfl 19 22 (by decide) (by decide) (by decide)))).symm
              have m2601 := m2586.trans (Wr.neI wH2593 (Or.inr (x_apart hKT hts inX10 tyX10 tyX10_ok nmX10 rfl 20 22 (by decide) (by decide) (by decide)))).symm
              have m2602 := m2587.trans (Wr.neI wH2593 (Or.inr (x_apart hKT hts inX10 tyX10 tyX10_ok nmX10 rfl 21 22 (by decide) (by decide) (by decide)))).symm
              have m2604 := m2589.trans (Wr.neR wH2593 (Or.inr (x_apart hKT hts inX10 tyX10 tyX10_ok nmX10 rfl 17 22 (by decide) (by decide) (by decide)))).symm
              have m2605 := m2590.trans (Wr.neI wH2593 (Or.inr (x_apart hKT hts inX10 tyX10 tyX10_ok nmX10 rfl 18 22 (by decide) (by decide) (by decide)))).symm
              have m2606 := Wr.I wH2593
              have m2606 := m2606.symm
              refine lv_aload_n hx hb dX10_reads_225 rfl (lv_at hl2479 0 rfl) ?_
              refine lv_aload_n hx hb dX10_reads_226 rfl (lv_at hl2479 0 rfl) ?_
              refine x_gi C hTH2593 (ci := 10) (k := 19) rfl inX10 (by decide) wF_X10_192 ga0 rg_112 rfl dX10_reads_227 (fun x2607 ex2607 bx2607 => ?_)
              have ux2607 : x2480 = x2607 := (m2600).trans ex2607.symm
              subst ux2607
              refine lv_iconst (v := 1) hx hb dX10_reads_230 (by decide) ?_
              refine lv_iadd hx hb dX10_reads_231 ?_
              refine lv_topi (fun x2608 ex2608 => ?_)
              have tx2608 := i_add ex2608 (by omega)
              have fz2610 : 0 ≤ x2608.toInt ∧ x2608.toInt ≤ 500 := by have := i_rng x2608; omega
              refine x_put C hTH2593 hSH2593 (ci := 10) (k := 19) (v := .int x2608) (ty0 := tyX10) rfl inX10 tyX10_ok nmX10 (by decide) rfl wF_X10_192 ga0 rg_112 rfl rfl (okI fz2610.1 fz2610.2) rfl rfl (AE_in ga0 (by decide)) dX10_reads_232 (fun H2609 locsH2609 hTH2609 hSH2609 wH2609 => ?_)
              clear f2584 m2585 m2586 m2587 m2588 m2589 m2590
              have mf2611 : MF K s.heap H2609 a0 [19, 20, 21, 22] := MF.fld hap wH2609 (by decide) (by decide) mf2594
              have g2612 : CG (avw K H2609 a0) := CG.congr (fun k hk j => av_fld hTH2593 ga0 hap wH2609 (by decide) (CG_ok 112 (by decide) k hk) (CG_ne 19 (by decide) k hk)) g2595
              have g2613 : TU (avw K H2609 a0) (svw K H2609 a0) := TU.congr (fun k hk j => av_fld hTH2593 ga0 hap wH2609 (by decide) (TU_ok 112 (by decide) k hk) (TU_ne 19 (by decide) k hk)) (fun k hk => sv_fld hap wH2609 (by decide) (TU_slt k hk) (TU_sne 19 (by decide) k hk)) g2596
              have g2614 : WD (avw K H2609 a0) := WD.congr (fun k hk j => av_fld hTH2593 ga0 hap wH2609 (by decide) (WD_ok 112 (by decide) k hk) (WD_ne 19 (by decide) k hk)) g2597
              have g2615 : IM (avw K H2609 a0) := IM.congr (fun k hk j => av_fld hTH2593 ga0 hap wH2609 (by decide) (IM_ok 112 (by decide) k hk) (IM_ne 19 (by decide) k hk)) g2598
              have f2616 : ∀ j : Nat, bt j = (fI H2609 tq j).toInt := fun j => (f2599 j).trans (congrArg Int32.toInt (Wr.neI wH2609 (Or.inl (G_ne gtq ga0 (by decide)))).symm)
              have m2618 := m2601.trans (Wr.neI wH2609 (Or.inr (x_apart hKT hts inX10 tyX10 tyX10_ok nmX10 rfl 20 19 (by decide) (by decide) (by decide)))).symm
              have m2619 := m2602.trans (Wr.neI wH2609 (Or.inr (x_apart hKT hts inX10 tyX10 tyX10_ok nmX10 rfl 21 19 (by decide) (by decide) (by decide)))).symm
              have m2620 := m2604.trans (Wr.neR wH2609 (Or.inr (x_apart hKT hts inX10 tyX10 tyX10_ok nmX10 rfl 17 19 (by decide) (by decide) (by decide)))).symm
              have m2621 := m2605.trans (Wr.neI wH2609 (Or.inr (x_apart hKT hts inX10 tyX10 tyX10_ok nmX10 rfl 18 19 (by decide) (by decide) (by decide)))).symm
              have m2622 := m2606.trans (Wr.neI wH2609 (Or.inr (x_apart hKT hts inX10 tyX10 tyX10_ok nmX10 rfl 22 19 (by decide) (by decide) (by decide)))).symm
              have m2623 := Wr.I wH2609
              have m2623 := m2623.symm
              refine lv_goto (tgt := 171) hx hb dX10_reads_235 (by decide) ?_
              have cn_x2481 := i_cl (x := x2481) bx2481.1
              have cn_x2608 := i_cl (x := x2608) (by omega)
              have cn_tp := i_cl (x := tp) (by omega)
              have cn_x2480 := i_cl (x := x2480) (Int.le_trans (by decide) bx2480.1)
              exact ih171  ls2478 H2609 locsH2609 (x2608) (x2481) (x2482) (x2592) (lv_sub hl2479 [0] rfl) hTH2609 hSH2609 (by have := i_rng x2608; omega) bx2481 bx2482 (by have := i_rng x2592; omega) m2623 m2618 m2619 m2622 m2620 m2621 mf2611 g2612 g2613 g2614 g2615 f2616 (by omega) (by omega) (hsp171.trans (scn_go (inL_y (by omega) (iDg_y (by omega))) (by omega) (by omega))) hdg171 hsf171 (HD.mk (fun h5 => nmb_at (HD.get hnv171 (by omega)) (by omega) (show bt (x2481.toNatClampNeg + (x2480.toNatClampNeg - x2481.toNatClampNeg)) = bt x2480.toNatClampNeg by rw [show x2481.toNatClampNeg + (x2480.toNatClampNeg - x2481.toNatClampNeg) = x2480.toNatClampNeg by omega]) (by omega)))
      have J95 : ∀ (nf : Nat)  (ls2625 : Array Slot) (H2624 : Heap) (locsH2624 : List Loc) (x2627 : Int32) (x2628 : Int32) (x2629 : Int32) (x2630 : Int32), lv_has ls2625 2 [(0, .ref a0)] → TY K G H2624 → va_S (AE G [112] s.heap.size) s.heap H2624 locsH2624 → (1 ≤ x2627.toInt ∧ x2627.toInt ≤ 500) → (0 ≤ x2628.toInt ∧ x2628.toInt ≤ 500) → (1 ≤ x2629.toInt ∧ x2629.toInt ≤ 1) → (65 ≤ x2630.toInt ∧ x2630.toInt ≤ 122) → (x2627 = fI H2624 a0 (K.1.2 10 19)) → (x2628 = fI H2624 a0 (K.1.2 10 20)) → (x2629 = fI H2624 a0 (K.1.2 10 21)) → (x2630 = fI H2624 a0 (K.1.2 10 22)) → (@Eq Ad tq (fR H2624 a0 (K.1.2 10 17))) → (tp = fI H2624 a0 (K.1.2 10 18)) → (MF K s.heap H2624 a0 [19, 20, 21, 22]) → (CG (avw K H2624 a0)) → (TU (avw K H2624 a0) (svw K H2624 a0)) → (WD (avw K H2624 a0)) → (IM (avw K H2624 a0)) → (∀ j : Nat, bt j = (fI H2624 tq j).toInt) → (500 - x2627.toInt < (nf : Int)) → (sp.toInt ≤ x2628.toInt ∧ x2628.toInt < x2627.toInt ∧ x2627.toInt ≤ tp.toInt ∧ x2629.toInt = 1 ∧ x2628.toInt < tp.toInt) → (enL bt tp.toNatClampNeg (x2628.toNatClampNeg + 1) = scn (inL tp.toNatClampNeg iLt bt) (500 - x2627.toNatClampNeg) x2627.toNatClampNeg) → ((97 ≤ bt x2628.toNatClampNeg ∧ bt x2628.toNatClampNeg ≤ 122) ∨ (65 ≤ bt x2628.toNatClampNeg ∧ bt x2628.toNatClampNeg ≤ 90)) → (skB bt tp.toNatClampNeg sp.toNatClampNeg = x2628.toNatClampNeg) → W p l e ({ frames := 2, cells := 0, slots := 0, locals := 44 } : Room) s m (([.ref a0] : List Value).toArray) below meth c H2624 locsH2624 0 0 Q (F0 m 95 ls2625 []) := by
        intro nf
        induction nf with
        | zero =>
          intro  ls2625 H2624 locsH2624 x2627 x2628 x2629 x2630 hl2626 hTH2624 hSH2624 bx2627 bx2628 bx2629 bx2630 ex2627 ex2628 ex2629 ex2630 cy2631_0 cy2631_1 mfy2631 gy2631_CG gy2631_TU gy2631_WD gy2631_IM fy2631_bt hm95 iv95 hsp95 hlt95 hsf95
          exfalso
          omega
        | succ nf ih95 =>
          intro  ls2625 H2624 locsH2624 x2627 x2628 x2629 x2630 hl2626 hTH2624 hSH2624 bx2627 bx2628 bx2629 bx2630 ex2627 ex2628 ex2629 ex2630 cy2631_0 cy2631_1 mfy2631 gy2631_CG gy2631_TU gy2631_WD gy2631_IM fy2631_bt hm95 iv95 hsp95 hlt95 hsf95
          refine lv_aload_n hx hb dX10_reads_95 rfl (lv_at hl2626 0 rfl) ?_
          refine lv_aload_n hx hb dX10_reads_96 rfl (lv_at hl2626 0 rfl) ?_
          refine lv_aload_n hx hb dX10_reads_97 rfl (lv_at hl2626 0 rfl) ?_
          refine x_gi C hTH2624 (ci := 10) (k := 19) rfl inX10 (by decide) wF_X10_192 ga0 rg_112 rfl dX10_reads_98 (fun x2632 ex2632 bx2632 => ?_)
          have ux2632 : x2627 = x2632 := (ex2627).trans ex2632.symm
          subst ux2632
          refine x_V (As := [.int x2627]) (rest := [.ref a0]) C (a_X10_raw_e l K G H2624 (x2627) (tp) bt hTH2624 ga0 (by omega) gtq cy2631_0 cy2631_1 fy2631_bt) yo_X10_raw wM_X10_195 ⟨⟨by decide, by decide⟩, by decide, by decide⟩ (x_rv C hTH2624 (ci := 10) rfl ga0 rg_112) rfl hl2626.1 rfl (Nat.le_of_ble_eq_true rfl) dX10_reads_101 hSH2624 (AE_sub (fun _ _ => rfl) (by decide) hSH2624.1) (fun vH2633 H2633 locsH2633 pH2633 zH2633 kH2633 hSH2633 => ?_)
          obtain ⟨x2634, hvH2633, hrH2633, hTH2633⟩ := pH2633
          subst hvH2633
          have mf2635 : MF K s.heap H2633 a0 [19, 20, 21, 22] := MF.eff (x_lt hTH2624 kH2633 ga0 (by decide)) mfy2631
          have g2636 : CG (avw K H2633 a0) := CG.congr (fun k hk j => av_eff hTH2624 kH2633 ga0 (by decide) (CG_eff [] (by decide) k hk)) gy2631_CG
          have g2637 : TU (avw K H2633 a0) (svw K H2633 a0) := TU.congr (fun k hk j => av_eff hTH2624 kH2633 ga0 (by decide) (TU_eff [] (by decide) k hk)) (fun k hk => sv_eff hTH2624 kH2633 ga0 (by decide)) gy2631_TU
          have g2638 : WD (avw K H2633 a0) := WD.congr (fun k hk j => av_eff hTH2624 kH2633 ga0 (by decide) (WD_eff [] (by decide) k hk)) gy2631_WD
          have g2639 : IM (avw K H2633 a0) := IM.congr (fun k hk j => av_eff hTH2624 kH2633 ga0 (by decide) (IM_eff [] (by decide) k hk)) gy2631_IM
          have f2640 : ∀ j : Nat, bt j = (fI H2633 tq j).toInt := fun j => (fy2631_bt j).trans (congrArg Int32.toInt (fI_kept (x_lt hTH2624 kH2633 gtq (by decide))).symm)
          have m2641 := (ex2627).trans (fI_kept (x_lt hTH2624 kH2633 ga0 (by decide))).symm
          have m2642 := (ex2628).trans (fI_kept (x_lt hTH2624 kH2633 ga0 (by decide))).symm
          have m2643 := (ex2629).trans (fI_kept (x_lt hTH2624 kH2633 ga0 (by decide))).symm
          have m2644 := (ex2630).trans (fI_kept (x_lt hTH2624 kH2633 ga0 (by decide))).symm
          have m2645 := (cy2631_0).trans (fR_kept (x_lt hTH2624 kH2633 ga0 (by decide))).symm
          have m2646 := (cy2631_1).trans (fI_kept (x_lt hTH2624 kH2633 ga0 (by decide))).symm
          refine W.eq (g2 := F0 m 104 ls2625 [.int x2634, .ref a0]) rfl ?_
          refine x_V (As := [.int x2634]) (rest := []) C (a_X10_isLetter_e l K G H2633 (x2634) hTH2633 ga0) yo_X10_isLetter wM_X10_208 ⟨⟨by decide, by decide⟩, by decide, by decide⟩ (x_rv C hTH2633 (ci := 10) rfl ga0 rg_112) rfl hl2626.1 rfl (Nat.le_of_ble_eq_true rfl) dX10_reads_104 hSH2633 (AE_sub (fun _ _ => rfl) (by decide) hSH2633.1) (fun vH2647 H2647 locsH2647 pH2647 zH2647 kH2647 hSH2647 => ?_)
          obtain ⟨x2648, hvH2647, bx2648, hrH2647, hTH2647⟩ := pH2647
          subst hvH2647
          have mf2649 : MF K s.heap H2647 a0 [19, 20, 21, 22] := MF.eff (x_lt hTH2633 kH2647 ga0 (by decide)) mf2635
          have g2650 : CG (avw K H2647 a0) := CG.congr (fun k hk j => av_eff hTH2633 kH2647 ga0 (by decide) (CG_eff [] (by decide) k hk)) g2636
          have g2651 : TU (avw K H2647 a0) (svw K H2647 a0) := TU.congr (fun k hk j => av_eff hTH2633 kH2647 ga0 (by decide) (TU_eff [] (by decide) k hk)) (fun k hk => sv_eff hTH2633 kH2647 ga0 (by decide)) g2637
          have g2652 : WD (avw K H2647 a0) := WD.congr (fun k hk j => av_eff hTH2633 kH2647 ga0 (by decide) (WD_eff [] (by decide) k hk)) g2638
          have g2653 : IM (avw K H2647 a0) := IM.congr (fun k hk j => av_eff hTH2633 kH2647 ga0 (by decide) (IM_eff [] (by decide) k hk)) g2639
          have f2654 : ∀ j : Nat, bt j = (fI H2647 tq j).toInt := fun j => (f2640 j).trans (congrArg Int32.toInt (fI_kept (x_lt hTH2633 kH2647 gtq (by decide))).symm)
          have m2655 := (m2641).trans (fI_kept (x_lt hTH2633 kH2647 ga0 (by decide))).symm
          have m2656 := (m2642).trans (fI_kept (x_lt hTH2633 kH2647 ga0 (by decide))).symm
          have m2657 := (m2643).trans (fI_kept (x_lt hTH2633 kH2647 ga0 (by decide))).symm
          have m2658 := (m2644).trans (fI_kept (x_lt hTH2633 kH2647 ga0 (by decide))).symm
          have m2659 := (m2645).trans (fR_kept (x_lt hTH2633 kH2647 ga0 (by decide))).symm
          have m2660 := (m2646).trans (fI_kept (x_lt hTH2633 kH2647 ga0 (by decide))).symm
          refine W.eq (g2 := F0 m 107 ls2625 [.int x2648]) rfl ?_
          refine lv_if_eq (tgt := 123) hx hb dX10_reads_107 (by decide) (fun c2661 => ?_) (fun c2661 => ?_)
          · have k2662 := i_eq c2661
            refine lv_aload_n hx hb dX10_reads_123 rfl (lv_at hl2626 0 rfl) ?_
            refine lv_aload_n hx hb dX10_reads_124 rfl (lv_at hl2626 0 rfl) ?_
            refine lv_aload_n hx hb dX10_reads_125 rfl (lv_at hl2626 0 rfl) ?_
            refine x_gi C hTH2647 (ci := 10) (k := 20) rfl inX10 (by decide) wF_X10_199 ga0 rg_112 rfl dX10_reads_126 (fun x2663 ex2663 bx2663 => ?_)
            have ux2663 : x2628 = x2663 := (m2656).trans ex2663.symm
            subst ux2663
            refine lv_aload_n hx hb dX10_reads_129 rfl (lv_at hl2626 0 rfl) ?_
            refine x_gi C hTH2647 (ci := 10) (k := 19) rfl inX10 (by decide) wF_X10_192 ga0 rg_112 rfl dX10_reads_130 (fun x2664 ex2664 bx2664 => ?_)
            have ux2664 : x2627 = x2664 := (m2655).trans ex2664.symm
            subst ux2664
            obtain ⟨q2665, eq2665⟩ : ∃ z : Nat, @Eq Ad z (fR H2647 a0 (K.1.2 10 23)) := ⟨_, rfl⟩
            have gq2665 := ty_fr (q := q2665) (k := 23) (u := 127) eq2665 hTH2647 ga0 rg_112 rfl
            have cn_x2628 := i_cl (x := x2628) bx2628.1
            have cn_x2627 := i_cl (x := x2627) (Int.le_trans (by decide) bx2627.1)
            have cn_tp := i_cl (x := tp) (by omega)
            have he2666 : enL bt tp.toNatClampNeg (x2628.toNatClampNeg + 1) = x2627.toNatClampNeg := hsp95.trans (scn_end (by by_cases hh : tp.toNatClampNeg ≤ x2627.toNatClampNeg; exact inL_o hh; exact inL_n (iLt_n (by omega))))
            refine x_V (As := [.int x2628, .int x2627]) (rest := [.ref a0]) C (a_X10_wordAt_e l K G H2647 (x2628) (x2627) bt hTH2647 ga0 (by omega) (by omega) gq2665 eq2665 gtq m2659 g2652 (by omega) (enL_all he2666 hlt95) f2654) yo_X10_wordAt wM_X10_211 ⟨⟨by decide, by decide⟩, by decide, by decide⟩ (x_rv C hTH2647 (ci := 10) rfl ga0 rg_112) rfl hl2626.1 rfl (Nat.le_of_ble_eq_true rfl) dX10_reads_133 hSH2647 (AE_sub (fun _ _ => rfl) (by decide) hSH2647.1) (fun vH2667 H2667 locsH2667 pH2667 zH2667 kH2667 hSH2667 => ?_)
            obtain ⟨x2668, hvH2667, bx2668, m2669, hTH2667⟩ := pH2667
            subst hvH2667
            clear f2640 m2641 m2642 m2643 m2644 m2645 m2646
            have mf2670 : MF K s.heap H2667 a0 [19, 20, 21, 22] := MF.eff (x_lt hTH2647 kH2667 ga0 (by decide)) mf2649
            have g2671 : CG (avw K H2667 a0) := CG.congr (fun k hk j => av_eff hTH2647 kH2667 ga0 (by decide) (CG_eff [] (by decide) k hk)) g2650
            have g2672 : TU (avw K H2667 a0) (svw K H2667 a0) := TU.congr (fun k hk j => av_eff hTH2647 kH2667 ga0 (by decide) (TU_eff [] (by decide) k hk)) (fun k hk => sv_eff hTH2647 kH2667 ga0 (by decide)) g2651
            have g2673 : WD (avw K H2667 a0) := WD.congr (fun k hk j => av_eff hTH2647 kH2667 ga0 (by decide) (WD_eff [] (by decide) k hk)) g2652
            have g2674 : IM (avw K H2667 a0) := IM.congr (fun k hk j => av_eff hTH2647 kH2667 ga0 (by decide) (IM_eff [] (by decide) k hk)) g2653
            have f2675 : ∀ j : Nat, bt j = (fI H2667 tq j).toInt := fun j => (f2654 j).trans (congrArg Int32.toInt (fI_kept (x_lt hTH2647 kH2667 gtq (by decide))).symm)
            have m2676 := (m2655).trans (fI_kept (x_lt hTH2647 kH2667 ga0 (by decide))).symm
            have m2677 := (m2656).trans (fI_kept (x_lt hTH2647 kH2667 ga0 (by decide))).symm
            have m2678 := (m2657).trans (fI_kept (x_lt hTH2647 kH2667 ga0 (by decide))).symm
            have m2679 := (m2658).trans (fI_kept (x_lt hTH2647 kH2667 ga0 (by decide))).symm
            have m2680 := (m2659).trans (fR_kept (x_lt hTH2647 kH2667 ga0 (by decide))).symm
            have m2681 := (m2660).trans (fI_kept (x_lt hTH2647 kH2667 ga0 (by decide))).symm
            have m2682 := (eq2665).trans (fR_kept (x_lt hTH2647 kH2667 ga0 (by decide))).symm
            refine W.eq (g2 := F0 m 136 ls2625 [.int x2668, .ref a0]) rfl ?_
            refine x_put C hTH2667 hSH2667 (ci := 10) (k := 22) (v := .int x2668) (ty0 := tyX10) rfl inX10 tyX10_ok nmX10 (by decide) rfl wF_X10_205 ga0 rg_112 rfl rfl (okI (i_rng x2668).1 (i_rng x2668).2) rfl rfl (AE_in ga0 (by decide)) dX10_reads_136 (fun H2683 locsH2683 hTH2683 hSH2683 wH2683 => ?_)
            clear f2654 m2655 m2656 m2657 m2658 m2659 m2660
            have mf2684 : MF K s.heap H2683 a0 [19, 20, 21, 22] := MF.fld hap wH2683 (by decide) (by decide) mf2670
            have g2685 : CG (avw K H2683 a0) := CG.congr (fun k hk j => av_fld hTH2667 ga0 hap wH2683 (by decide) (CG_ok 112 (by decide) k hk) (CG_ne 22 (by decide) k hk)) g2671
            have g2686 : TU (avw K H2683 a0) (svw K H2683 a0) := TU.congr (fun k hk j => av_fld hTH2667 ga0 hap wH2683 (by decide) (TU_ok 112 (by decide) k hk) (TU_ne 22 (by decide) k hk)) (fun k hk => sv_fld hap wH2683 (by decide) (TU_slt k hk) (TU_sne 22 (by decide) k hk)) g2672
            have g2687 : WD (avw K H2683 a0) := WD.congr (fun k hk j => av_fld hTH2667 ga0 hap wH2683 (by decide) (WD_ok 112 (by decide) k hk) (WD_ne 22 (by decide) k hk)) g2673
            have g2688 : IM (avw K H2683 a0) := IM.congr (fun k hk j => av_fld hTH2667 ga0 hap wH2683 (by decide) (IM_ok 112 (by decide) k hk) (IM_ne 22 (by decide) k hk)) g2674
            have f2689 : ∀ j : Nat, bt j = (fI H2683 tq j).toInt := fun j => (f2675 j).trans (congrArg Int32.toInt (Wr.neI wH2683 (Or.inl (G_ne gtq ga0 (by decide)))).symm)
            have m2690 := m2676.trans (Wr.neI wH2683 (Or.inr (x_apart hKT hts inX10 tyX10 tyX10_ok nmX10 rfl 19 22 (by decide) (by decide) (by decide)))).symm
            have m2691 := m2677.trans (Wr.neI wH2683 (Or.inr (x_apart hKT hts inX10 tyX10 tyX10_ok nmX10 rfl 20 22 (by decide) (by decide) (by decide)))).symm
            have m2692 := m2678.trans (Wr.neI wH2683 (Or.inr (x_apart hKT hts inX10 tyX10 tyX10_ok nmX10 rfl 21 22 (by decide) (by decide) (by decide)))).symm
            have m2694 := m2680.trans (Wr.neR wH2683 (Or.inr (x_apart hKT hts inX10 tyX10 tyX10_ok nmX10 rfl 17 22 (by decide) (by decide) (by decide)))).symm
            have m2695 := m2681.trans (Wr.neI wH2683 (Or.inr (x_apart hKT hts inX10 tyX10 tyX10_ok nmX10 rfl 18 22 (by decide) (by decide) (by decide)))).symm
            have m2696 := m2682.trans (Wr.neR wH2683 (Or.inr (x_apart hKT hts inX10 tyX10 tyX10_ok nmX10 rfl 23 22 (by decide) (by decide) (by decide)))).symm
            have m2697 := Wr.I wH2683
            have m2697 := m2697.symm
            refine lv_aload_n hx hb dX10_reads_139 rfl (lv_at hl2626 0 rfl) ?_
            refine x_gi C hTH2683 (ci := 10) (k := 22) rfl inX10 (by decide) wF_X10_205 ga0 rg_112 rfl dX10_reads_140 (fun x2698 ex2698 bx2698 => ?_)
            have ux2698 : x2668 = x2698 := (m2697).trans ex2698.symm
            subst ux2698
            refine lv_iconst (v := (-1)) hx hb dX10_reads_143 (by decide) ?_
            refine lv_icmp_eq (tgt := 273) hx hb dX10_reads_144 (by decide) (fun c2699 => ?_) (fun c2699 => ?_)
            · have k2700 := i_eq c2699
              have tv2701 : TV (tkK bt tp.toNatClampNeg x2628.toNatClampNeg) (tkV bt tp.toNatClampNeg x2628.toNatClampNeg) x2629.toInt x2668.toInt ∧ tkN bt tp.toNatClampNeg x2628.toNatClampNeg = x2627.toNatClampNeg := tv_word (by omega) hlt95 he2666 (by rw [← m2669]; exact wNo_rW (by omega) (enL_all he2666 hlt95)) (by omega)
              exact x_vret C hQ dX10_reads_273 hSH2683 (by decide) (by decide) (⟨x2627, x2628, x2629, x2668, rfl, m2690, m2691, m2692, m2697, by omega, m2694, g2685, g2686, g2687, g2688, mf2684, hsf95, (by rw [hsf95]; exact tv2701.2), (by rw [hsf95]; exact tv2701.1), hTH2683⟩)
            · have k2700 := i_ne c2699
              refine lv_aload_n hx hb dX10_reads_147 rfl (lv_at hl2626 0 rfl) ?_
              refine lv_iconst (v := 2) hx hb dX10_reads_148 (by decide) ?_
              refine x_put C hTH2683 hSH2683 (ci := 10) (k := 21) (v := .int 2) (ty0 := tyX10) rfl inX10 tyX10_ok nmX10 (by decide) rfl wF_X10_202 ga0 rg_112 rfl rfl (okI (i_rng (2 : Int32)).1 (i_rng (2 : Int32)).2) rfl rfl (AE_in ga0 (by decide)) dX10_reads_149 (fun H2702 locsH2702 hTH2702 hSH2702 wH2702 => ?_)
              clear f2675 m2676 m2677 m2678 m2679 m2680 m2681 m2682
              have mf2703 : MF K s.heap H2702 a0 [19, 20, 21, 22] := MF.fld hap wH2702 (by decide) (by decide) mf2684
              have g2704 : CG (avw K H2702 a0) := CG.congr (fun k hk j => av_fld hTH2683 ga0 hap wH2702 (by decide) (CG_ok 112 (by decide) k hk) (CG_ne 21 (by decide) k hk)) g2685
              have g2705 : TU (avw K H2702 a0) (svw K H2702 a0) := TU.congr (fun k hk j => av_fld hTH2683 ga0 hap wH2702 (by decide) (TU_ok 112 (by decide) k hk) (TU_ne 21 (by decide) k hk)) (fun k hk => sv_fld hap wH2702 (by decide) (TU_slt k hk) (TU_sne 21 (by decide) k hk)) g2686
              have g2706 : WD (avw K H2702 a0) := WD.congr (fun k hk j => av_fld hTH2683 ga0 hap wH2702 (by decide) (WD_ok 112 (by decide) k hk) (WD_ne 21 (by decide) k hk)) g2687
              have g2707 : IM (avw K H2702 a0) := IM.congr (fun k hk j => av_fld hTH2683 ga0 hap wH2702 (by decide) (IM_ok 112 (by decide) k hk) (IM_ne 21 (by decide) k hk)) g2688
              have f2708 : ∀ j : Nat, bt j = (fI H2702 tq j).toInt := fun j => (f2689 j).trans (congrArg Int32.toInt (Wr.neI wH2702 (Or.inl (G_ne gtq ga0 (by decide)))).symm)
              have m2709 := m2690.trans (Wr.neI wH2702 (Or.inr (x_apart hKT hts inX10 tyX10 tyX10_ok nmX10 rfl 19 21 (by decide) (by decide) (by decide)))).symm
              have m2710 := m2691.trans (Wr.neI wH2702 (Or.inr (x_apart hKT hts inX10 tyX10 tyX10_ok nmX10 rfl 20 21 (by decide) (by decide) (by decide)))).symm
              have m2712 := m2694.trans (Wr.neR wH2702 (Or.inr (x_apart hKT hts inX10 tyX10 tyX10_ok nmX10 rfl 17 21 (by decide) (by decide) (by decide)))).symm
              have m2713 := m2695.trans (Wr.neI wH2702 (Or.inr (x_apart hKT hts inX10 tyX10 tyX10_ok nmX10 rfl 18 21 (by decide) (by decide) (by decide)))).symm
              have m2714 := m2696.trans (Wr.neR wH2702 (Or.inr (x_apart hKT hts inX10 tyX10 tyX10_ok nmX10 rfl 23 21 (by decide) (by decide) (by decide)))).symm
              have m2715 := m2697.trans (Wr.neI wH2702 (Or.inr (x_apart hKT hts inX10 tyX10 tyX10_ok nmX10 rfl 22 21 (by decide) (by decide) (by decide)))).symm
              have m2716 := Wr.I wH2702
              refine lv_goto (tgt := 273) hx hb dX10_reads_152 (by decide) ?_
              have tv2717 : TV (tkK bt tp.toNatClampNeg x2628.toNatClampNeg) (tkV bt tp.toNatClampNeg x2628.toNatClampNeg) (2 : Int32).toInt x2668.toInt ∧ tkN bt tp.toNatClampNeg x2628.toNatClampNeg = x2627.toNatClampNeg := tv_word (by omega) hlt95 he2666 (by rw [← m2669]; exact wNo_rW (by omega) (enL_all he2666 hlt95)) (by omega)
              exact x_vret C hQ dX10_reads_273 hSH2702 (by decide) (by decide) (⟨x2627, x2628, 2, x2668, rfl, m2709, m2710, (m2716).symm, m2715, by omega, m2712, g2704, g2705, g2706, g2707, mf2703, hsf95, (by rw [hsf95]; exact tv2717.2), (by rw [hsf95]; exact tv2717.1), hTH2702⟩)
          · have k2662 := i_ne c2661
            refine lv_aload_n hx hb dX10_reads_110 rfl (lv_at hl2626 0 rfl) ?_
            refine lv_aload_n hx hb dX10_reads_111 rfl (lv_at hl2626 0 rfl) ?_
            refine x_gi C hTH2647 (ci := 10) (k := 19) rfl inX10 (by decide) wF_X10_192 ga0 rg_112 rfl dX10_reads_112 (fun x2718 ex2718 bx2718 => ?_)
            have ux2718 : x2627 = x2718 := (m2655).trans ex2718.symm
            subst ux2718
            refine lv_iconst (v := 1) hx hb dX10_reads_115 (by decide) ?_
            refine lv_iadd hx hb dX10_reads_116 ?_
            refine lv_topi (fun x2719 ex2719 => ?_)
            have tx2719 := i_add ex2719 (by omega)
            have fz2721 : 0 ≤ x2719.toInt ∧ x2719.toInt ≤ 500 := by have := i_rng x2719; omega
            refine x_put C hTH2647 hSH2647 (ci := 10) (k := 19) (v := .int x2719) (ty0 := tyX10) rfl inX10 tyX10_ok nmX10 (by decide) rfl wF_X10_192 ga0 rg_112 rfl rfl (okI fz2721.1 fz2721.2) rfl rfl (AE_in ga0 (by decide)) dX10_reads_117 (fun H2720 locsH2720 hTH2720 hSH2720 wH2720 => ?_)
            clear f2640 m2641 m2642 m2643 m2644 m2645 m2646
            have mf2722 : MF K s.heap H2720 a0 [19, 20, 21, 22] := MF.fld hap wH2720 (by decide) (by decide) mf2649
            have g2723 : CG (avw K H2720 a0) := CG.congr (fun k hk j => av_fld hTH2647 ga0 hap wH2720 (by decide) (CG_ok 112 (by decide) k hk) (CG_ne 19 (by decide) k hk)) g2650
            have g2724 : TU (avw K H2720 a0) (svw K H2720 a0) := TU.congr (fun k hk j => av_fld hTH2647 ga0 hap wH2720 (by decide) (TU_ok 112 (by decide) k hk) (TU_ne 19 (by decide) k hk)) (fun k hk => sv_fld hap wH2720 (by decide) (TU_slt k hk) (TU_sne 19 (by decide) k hk)) g2651
            have g2725 : WD (avw K H2720 a0) := WD.congr (fun k hk j => av_fld hTH2647 ga0 hap wH2720 (by decide) (WD_ok 112 (by decide) k hk) (WD_ne 19 (by decide) k hk)) g2652
            have g2726 : IM (avw K H2720 a0) := IM.congr (fun k hk j => av_fld hTH2647 ga0 hap wH2720 (by decide) (IM_ok 112 (by decide) k hk) (IM_ne 19 (by decide) k hk)) g2653
            have f2727 : ∀ j : Nat, bt j = (fI H2720 tq j).toInt := fun j => (f2654 j).trans (congrArg Int32.toInt (Wr.neI wH2720 (Or.inl (G_ne gtq ga0 (by decide)))).symm)
            have m2729 := m2656.trans (Wr.neI wH2720 (Or.inr (x_apart hKT hts inX10 tyX10 tyX10_ok nmX10 rfl 20 19 (by decide) (by decide) (by decide)))).symm
            have m2730 := m2657.trans (Wr.neI wH2720 (Or.inr (x_apart hKT hts inX10 tyX10 tyX10_ok nmX10 rfl 21 19 (by decide) (by decide) (by decide)))).symm
            have m2731 := m2658.trans (Wr.neI wH2720 (Or.inr (x_apart hKT hts inX10 tyX10 tyX10_ok nmX10 rfl 22 19 (by decide) (by decide) (by decide)))).symm
            have m2732 := m2659.trans (Wr.neR wH2720 (Or.inr (x_apart hKT hts inX10 tyX10 tyX10_ok nmX10 rfl 17 19 (by decide) (by decide) (by decide)))).symm
            have m2733 := m2660.trans (Wr.neI wH2720 (Or.inr (x_apart hKT hts inX10 tyX10 tyX10_ok nmX10 rfl 18 19 (by decide) (by decide) (by decide)))).symm
            have m2734 := Wr.I wH2720
            have m2734 := m2734.symm
            refine lv_goto (tgt := 95) hx hb dX10_reads_120 (by decide) ?_
            have cn_x2628 := i_cl (x := x2628) bx2628.1
            have cn_x2719 := i_cl (x := x2719) (by omega)
            have cn_tp := i_cl (x := tp) (by omega)
            have cn_x2627 := i_cl (x := x2627) (Int.le_trans (by decide) bx2627.1)
            exact ih95  ls2625 H2720 locsH2720 (x2719) (x2628) (x2629) (x2630) (lv_sub hl2626 [0] rfl) hTH2720 hSH2720 (by have := i_rng x2719; omega) bx2628 bx2629 bx2630 m2734 m2729 m2730 m2731 m2732 m2733 mf2722 g2723 g2724 g2725 g2726 f2727 (by omega) (by omega) (hsp95.trans (scn_go (inL_y (by omega) (iLt_y (by omega))) (by omega) (by omega))) hlt95 hsf95
      refine lv_aload_n hx hb dX10_reads_0 rfl (lv_at hl2471 0 rfl) ?_
      refine lv_aload_n hx hb dX10_reads_1 rfl (lv_at hl2471 0 rfl) ?_
      refine x_gi C hTH2469 (ci := 10) (k := 19) rfl inX10 (by decide) wF_X10_192 ga0 rg_112 rfl dX10_reads_2 (fun x2735 ex2735 bx2735 => ?_)
      have ux2735 : x2472 = x2735 := (ex2472).trans ex2735.symm
      subst ux2735
      refine x_V (As := [.int x2472]) (rest := []) C (a_X10_raw_e l K G H2469 (x2472) (tp) bt hTH2469 ga0 (by omega) gtq cy2476_0 cy2476_1 fy2476_bt) yo_X10_raw wM_X10_195 ⟨⟨by decide, by decide⟩, by decide, by decide⟩ (x_rv C hTH2469 (ci := 10) rfl ga0 rg_112) rfl hl2471.1 rfl (Nat.le_of_ble_eq_true rfl) dX10_reads_5 hSH2469 (AE_sub (fun _ _ => rfl) (by decide) hSH2469.1) (fun vH2736 H2736 locsH2736 pH2736 zH2736 kH2736 hSH2736 => ?_)
      obtain ⟨x2737, hvH2736, hrH2736, hTH2736⟩ := pH2736
      subst hvH2736
      have mf2738 : MF K s.heap H2736 a0 [19, 20, 21, 22] := MF.eff (x_lt hTH2469 kH2736 ga0 (by decide)) mfy2476
      have g2739 : CG (avw K H2736 a0) := CG.congr (fun k hk j => av_eff hTH2469 kH2736 ga0 (by decide) (CG_eff [] (by decide) k hk)) gy2476_CG
      have g2740 : TU (avw K H2736 a0) (svw K H2736 a0) := TU.congr (fun k hk j => av_eff hTH2469 kH2736 ga0 (by decide) (TU_eff [] (by decide) k hk)) (fun k hk => sv_eff hTH2469 kH2736 ga0 (by decide)) gy2476_TU
      have g2741 : WD (avw K H2736 a0) := WD.congr (fun k hk j => av_eff hTH2469 kH2736 ga0 (by decide) (WD_eff [] (by decide) k hk)) gy2476_WD
      have g2742 : IM (avw K H2736 a0) := IM.congr (fun k hk j => av_eff hTH2469 kH2736 ga0 (by decide) (IM_eff [] (by decide) k hk)) gy2476_IM
      have f2743 : ∀ j : Nat, bt j = (fI H2736 tq j).toInt := fun j => (fy2476_bt j).trans (congrArg Int32.toInt (fI_kept (x_lt hTH2469 kH2736 gtq (by decide))).symm)
      have m2744 := (ex2472).trans (fI_kept (x_lt hTH2469 kH2736 ga0 (by decide))).symm
      have m2745 := (ex2473).trans (fI_kept (x_lt hTH2469 kH2736 ga0 (by decide))).symm
      have m2746 := (ex2474).trans (fI_kept (x_lt hTH2469 kH2736 ga0 (by decide))).symm
      have m2747 := (ex2475).trans (fI_kept (x_lt hTH2469 kH2736 ga0 (by decide))).symm
      have m2748 := (cy2476_0).trans (fR_kept (x_lt hTH2469 kH2736 ga0 (by decide))).symm
      have m2749 := (cy2476_1).trans (fI_kept (x_lt hTH2469 kH2736 ga0 (by decide))).symm
      refine W.eq (g2 := F0 m 8 ls2470 [.int x2737]) rfl ?_
      refine lv_bipush (v := 32) hx hb dX10_reads_8 (by decide) ?_
      refine lv_icmp_eq (tgt := 26) hx hb dX10_reads_10 (by decide) (fun c2750 => ?_) (fun c2750 => ?_)
      · have k2751 := i_eq c2750
        refine lv_aload_n hx hb dX10_reads_26 rfl (lv_at hl2471 0 rfl) ?_
        refine lv_aload_n hx hb dX10_reads_27 rfl (lv_at hl2471 0 rfl) ?_
        refine x_gi C hTH2736 (ci := 10) (k := 19) rfl inX10 (by decide) wF_X10_192 ga0 rg_112 rfl dX10_reads_28 (fun x2752 ex2752 bx2752 => ?_)
        have ux2752 : x2472 = x2752 := (m2744).trans ex2752.symm
        subst ux2752
        refine lv_iconst (v := 1) hx hb dX10_reads_31 (by decide) ?_
        refine lv_iadd hx hb dX10_reads_32 ?_
        refine lv_topi (fun x2753 ex2753 => ?_)
        have tx2753 := i_add ex2753 (by omega)
        have fz2755 : 0 ≤ x2753.toInt ∧ x2753.toInt ≤ 500 := by have := i_rng x2753; omega
        refine x_put C hTH2736 hSH2736 (ci := 10) (k := 19) (v := .int x2753) (ty0 := tyX10) rfl inX10 tyX10_ok nmX10 (by decide) rfl wF_X10_192 ga0 rg_112 rfl rfl (okI fz2755.1 fz2755.2) rfl rfl (AE_in ga0 (by decide)) dX10_reads_33 (fun H2754 locsH2754 hTH2754 hSH2754 wH2754 => ?_)
        have mf2756 : MF K s.heap H2754 a0 [19, 20, 21, 22] := MF.fld hap wH2754 (by decide) (by decide) mf2738
        have g2757 : CG (avw K H2754 a0) := CG.congr (fun k hk j => av_fld hTH2736 ga0 hap wH2754 (by decide) (CG_ok 112 (by decide) k hk) (CG_ne 19 (by decide) k hk)) g2739
        have g2758 : TU (avw K H2754 a0) (svw K H2754 a0) := TU.congr (fun k hk j => av_fld hTH2736 ga0 hap wH2754 (by decide) (TU_ok 112 (by decide) k hk) (TU_ne 19 (by decide) k hk)) (fun k hk => sv_fld hap wH2754 (by decide) (TU_slt k hk) (TU_sne 19 (by decide) k hk)) g2740
        have g2759 : WD (avw K H2754 a0) := WD.congr (fun k hk j => av_fld hTH2736 ga0 hap wH2754 (by decide) (WD_ok 112 (by decide) k hk) (WD_ne 19 (by decide) k hk)) g2741
        have g2760 : IM (avw K H2754 a0) := IM.congr (fun k hk j => av_fld hTH2736 ga0 hap wH2754 (by decide) (IM_ok 112 (by decide) k hk) (IM_ne 19 (by decide) k hk)) g2742
        have f2761 : ∀ j : Nat, bt j = (fI H2754 tq j).toInt := fun j => (f2743 j).trans (congrArg Int32.toInt (Wr.neI wH2754 (Or.inl (G_ne gtq ga0 (by decide)))).symm)
        have m2763 := m2745.trans (Wr.neI wH2754 (Or.inr (x_apart hKT hts inX10 tyX10 tyX10_ok nmX10 rfl 20 19 (by decide) (by decide) (by decide)))).symm
        have m2764 := m2746.trans (Wr.neI wH2754 (Or.inr (x_apart hKT hts inX10 tyX10 tyX10_ok nmX10 rfl 21 19 (by decide) (by decide) (by decide)))).symm
        have m2765 := m2747.trans (Wr.neI wH2754 (Or.inr (x_apart hKT hts inX10 tyX10 tyX10_ok nmX10 rfl 22 19 (by decide) (by decide) (by decide)))).symm
        have m2766 := m2748.trans (Wr.neR wH2754 (Or.inr (x_apart hKT hts inX10 tyX10 tyX10_ok nmX10 rfl 17 19 (by decide) (by decide) (by decide)))).symm
        have m2767 := m2749.trans (Wr.neI wH2754 (Or.inr (x_apart hKT hts inX10 tyX10 tyX10_ok nmX10 rfl 18 19 (by decide) (by decide) (by decide)))).symm
        have m2768 := Wr.I wH2754
        have m2768 := m2768.symm
        refine lv_goto (tgt := 0) hx hb dX10_reads_36 (by decide) ?_
        have cn_x2472 := i_cl (x := x2472) bx2472.1
        have cn_x2753 := i_cl (x := x2753) (by omega)
        have cn_tp := i_cl (x := tp) (by omega)
        exact ih0  ls2470 H2754 locsH2754 (x2753) (x2473) (x2474) (x2475) (lv_sub hl2471 [0] rfl) hTH2754 hSH2754 (by have := i_rng x2753; omega) bx2473 m2768 m2763 m2764 m2765 m2766 m2767 mf2756 g2757 g2758 g2759 g2760 f2761 (by omega) (by omega) (hsp0.trans (scn_go (inL_y (by omega) (iBl_y (by omega))) (by omega) (by omega)))
      · have k2751 := i_ne c2750
        refine lv_aload_n hx hb dX10_reads_13 rfl (lv_at hl2471 0 rfl) ?_
        refine lv_aload_n hx hb dX10_reads_14 rfl (lv_at hl2471 0 rfl) ?_
        refine x_gi C hTH2736 (ci := 10) (k := 19) rfl inX10 (by decide) wF_X10_192 ga0 rg_112 rfl dX10_reads_15 (fun x2769 ex2769 bx2769 => ?_)
        have ux2769 : x2472 = x2769 := (m2744).trans ex2769.symm
        subst ux2769
        refine x_V (As := [.int x2472]) (rest := []) C (a_X10_raw_e l K G H2736 (x2472) (tp) bt hTH2736 ga0 (by omega) gtq m2748 m2749 f2743) yo_X10_raw wM_X10_195 ⟨⟨by decide, by decide⟩, by decide, by decide⟩ (x_rv C hTH2736 (ci := 10) rfl ga0 rg_112) rfl hl2471.1 rfl (Nat.le_of_ble_eq_true rfl) dX10_reads_18 hSH2736 (AE_sub (fun _ _ => rfl) (by decide) hSH2736.1) (fun vH2770 H2770 locsH2770 pH2770 zH2770 kH2770 hSH2770 => ?_)
        obtain ⟨x2771, hvH2770, hrH2770, hTH2770⟩ := pH2770
        subst hvH2770
        have mf2772 : MF K s.heap H2770 a0 [19, 20, 21, 22] := MF.eff (x_lt hTH2736 kH2770 ga0 (by decide)) mf2738
        have g2773 : CG (avw K H2770 a0) := CG.congr (fun k hk j => av_eff hTH2736 kH2770 ga0 (by decide) (CG_eff [] (by decide) k hk)) g2739
        have g2774 : TU (avw K H2770 a0) (svw K H2770 a0) := TU.congr (fun k hk j => av_eff hTH2736 kH2770 ga0 (by decide) (TU_eff [] (by decide) k hk)) (fun k hk => sv_eff hTH2736 kH2770 ga0 (by decide)) g2740
        have g2775 : WD (avw K H2770 a0) := WD.congr (fun k hk j => av_eff hTH2736 kH2770 ga0 (by decide) (WD_eff [] (by decide) k hk)) g2741
        have g2776 : IM (avw K H2770 a0) := IM.congr (fun k hk j => av_eff hTH2736 kH2770 ga0 (by decide) (IM_eff [] (by decide) k hk)) g2742
        have f2777 : ∀ j : Nat, bt j = (fI H2770 tq j).toInt := fun j => (f2743 j).trans (congrArg Int32.toInt (fI_kept (x_lt hTH2736 kH2770 gtq (by decide))).symm)
        have m2778 := (m2744).trans (fI_kept (x_lt hTH2736 kH2770 ga0 (by decide))).symm
        have m2779 := (m2745).trans (fI_kept (x_lt hTH2736 kH2770 ga0 (by decide))).symm
        have m2780 := (m2746).trans (fI_kept (x_lt hTH2736 kH2770 ga0 (by decide))).symm
        have m2781 := (m2747).trans (fI_kept (x_lt hTH2736 kH2770 ga0 (by decide))).symm
        have m2782 := (m2748).trans (fR_kept (x_lt hTH2736 kH2770 ga0 (by decide))).symm
        have m2783 := (m2749).trans (fI_kept (x_lt hTH2736 kH2770 ga0 (by decide))).symm
        refine W.eq (g2 := F0 m 21 ls2470 [.int x2771]) rfl ?_
        refine lv_bipush (v := 10) hx hb dX10_reads_21 (by decide) ?_
        refine lv_icmp_ne (tgt := 39) hx hb dX10_reads_23 (by decide) (fun c2784 => ?_) (fun c2784 => ?_)
        · have k2785 := i_ne c2784
          refine lv_aload_n hx hb dX10_reads_39 rfl (lv_at hl2471 0 rfl) ?_
          refine lv_aload_n hx hb dX10_reads_40 rfl (lv_at hl2471 0 rfl) ?_
          refine x_gi C hTH2770 (ci := 10) (k := 19) rfl inX10 (by decide) wF_X10_192 ga0 rg_112 rfl dX10_reads_41 (fun x2786 ex2786 bx2786 => ?_)
          have ux2786 : x2472 = x2786 := (m2778).trans ex2786.symm
          subst ux2786
          refine x_put C hTH2770 hSH2770 (ci := 10) (k := 20) (v := .int x2472) (ty0 := tyX10) rfl inX10 tyX10_ok nmX10 (by decide) rfl wF_X10_199 ga0 rg_112 rfl rfl (okI bx2472.1 bx2472.2) rfl rfl (AE_in ga0 (by decide)) dX10_reads_44 (fun H2787 locsH2787 hTH2787 hSH2787 wH2787 => ?_)
          clear f2743 m2744 m2745 m2746 m2747 m2748 m2749
          have mf2788 : MF K s.heap H2787 a0 [19, 20, 21, 22] := MF.fld hap wH2787 (by decide) (by decide) mf2772
          have g2789 : CG (avw K H2787 a0) := CG.congr (fun k hk j => av_fld hTH2770 ga0 hap wH2787 (by decide) (CG_ok 112 (by decide) k hk) (CG_ne 20 (by decide) k hk)) g2773
          have g2790 : TU (avw K H2787 a0) (svw K H2787 a0) := TU.congr (fun k hk j => av_fld hTH2770 ga0 hap wH2787 (by decide) (TU_ok 112 (by decide) k hk) (TU_ne 20 (by decide) k hk)) (fun k hk => sv_fld hap wH2787 (by decide) (TU_slt k hk) (TU_sne 20 (by decide) k hk)) g2774
          have g2791 : WD (avw K H2787 a0) := WD.congr (fun k hk j => av_fld hTH2770 ga0 hap wH2787 (by decide) (WD_ok 112 (by decide) k hk) (WD_ne 20 (by decide) k hk)) g2775
          have g2792 : IM (avw K H2787 a0) := IM.congr (fun k hk j => av_fld hTH2770 ga0 hap wH2787 (by decide) (IM_ok 112 (by decide) k hk) (IM_ne 20 (by decide) k hk)) g2776
          have f2793 : ∀ j : Nat, bt j = (fI H2787 tq j).toInt := fun j => (f2777 j).trans (congrArg Int32.toInt (Wr.neI wH2787 (Or.inl (G_ne gtq ga0 (by decide)))).symm)
          have m2794 := m2778.trans (Wr.neI wH2787 (Or.inr (x_apart hKT hts inX10 tyX10 tyX10_ok nmX10 rfl 19 20 (by decide) (by decide) (by decide)))).symm
          have m2796 := m2780.trans (Wr.neI wH2787 (Or.inr (x_apart hKT hts inX10 tyX10 tyX10_ok nmX10 rfl 21 20 (by decide) (by decide) (by decide)))).symm
          have m2797 := m2781.trans (Wr.neI wH2787 (Or.inr (x_apart hKT hts inX10 tyX10 tyX10_ok nmX10 rfl 22 20 (by decide) (by decide) (by decide)))).symm
          have m2798 := m2782.trans (Wr.neR wH2787 (Or.inr (x_apart hKT hts inX10 tyX10 tyX10_ok nmX10 rfl 17 20 (by decide) (by decide) (by decide)))).symm
          have m2799 := m2783.trans (Wr.neI wH2787 (Or.inr (x_apart hKT hts inX10 tyX10 tyX10_ok nmX10 rfl 18 20 (by decide) (by decide) (by decide)))).symm
          have m2800 := Wr.I wH2787
          have m2800 := m2800.symm
          refine lv_aload_n hx hb dX10_reads_47 rfl (lv_at hl2471 0 rfl) ?_
          refine lv_iconst (v := 1) hx hb dX10_reads_48 (by decide) ?_
          refine x_put C hTH2787 hSH2787 (ci := 10) (k := 21) (v := .int 1) (ty0 := tyX10) rfl inX10 tyX10_ok nmX10 (by decide) rfl wF_X10_202 ga0 rg_112 rfl rfl (okI (i_rng (1 : Int32)).1 (i_rng (1 : Int32)).2) rfl rfl (AE_in ga0 (by decide)) dX10_reads_49 (fun H2801 locsH2801 hTH2801 hSH2801 wH2801 => ?_)
          clear f2777 m2778 m2779 m2780 m2781 m2782 m2783
          have mf2802 : MF K s.heap H2801 a0 [19, 20, 21, 22] := MF.fld hap wH2801 (by decide) (by decide) mf2788
          have g2803 : CG (avw K H2801 a0) := CG.congr (fun k hk j => av_fld hTH2787 ga0 hap wH2801 (by decide) (CG_ok 112 (by decide) k hk) (CG_ne 21 (by decide) k hk)) g2789
          have g2804 : TU (avw K H2801 a0) (svw K H2801 a0) := TU.congr (fun k hk j => av_fld hTH2787 ga0 hap wH2801 (by decide) (TU_ok 112 (by decide) k hk) (TU_ne 21 (by decide) k hk)) (fun k hk => sv_fld hap wH2801 (by decide) (TU_slt k hk) (TU_sne 21 (by decide) k hk)) g2790
          have g2805 : WD (avw K H2801 a0) := WD.congr (fun k hk j => av_fld hTH2787 ga0 hap wH2801 (by decide) (WD_ok 112 (by decide) k hk) (WD_ne 21 (by decide) k hk)) g2791
          have g2806 : IM (avw K H2801 a0) := IM.congr (fun k hk j => av_fld hTH2787 ga0 hap wH2801 (by decide) (IM_ok 112 (by decide) k hk) (IM_ne 21 (by decide) k hk)) g2792
          have f2807 : ∀ j : Nat, bt j = (fI H2801 tq j).toInt := fun j => (f2793 j).trans (congrArg Int32.toInt (Wr.neI wH2801 (Or.inl (G_ne gtq ga0 (by decide)))).symm)
          have m2808 := m2794.trans (Wr.neI wH2801 (Or.inr (x_apart hKT hts inX10 tyX10 tyX10_ok nmX10 rfl 19 21 (by decide) (by decide) (by decide)))).symm
          have m2810 := m2797.trans (Wr.neI wH2801 (Or.inr (x_apart hKT hts inX10 tyX10 tyX10_ok nmX10 rfl 22 21 (by decide) (by decide) (by decide)))).symm
          have m2811 := m2798.trans (Wr.neR wH2801 (Or.inr (x_apart hKT hts inX10 tyX10 tyX10_ok nmX10 rfl 17 21 (by decide) (by decide) (by decide)))).symm
          have m2812 := m2799.trans (Wr.neI wH2801 (Or.inr (x_apart hKT hts inX10 tyX10 tyX10_ok nmX10 rfl 18 21 (by decide) (by decide) (by decide)))).symm
          have m2813 := m2800.trans (Wr.neI wH2801 (Or.inr (x_apart hKT hts inX10 tyX10 tyX10_ok nmX10 rfl 20 21 (by decide) (by decide) (by decide)))).symm
          have m2814 := Wr.I wH2801
          refine lv_aload_n hx hb dX10_reads_52 rfl (lv_at hl2471 0 rfl) ?_
          refine lv_aload_n hx hb dX10_reads_53 rfl (lv_at hl2471 0 rfl) ?_
          refine x_gi C hTH2801 (ci := 10) (k := 19) rfl inX10 (by decide) wF_X10_192 ga0 rg_112 rfl dX10_reads_54 (fun x2815 ex2815 bx2815 => ?_)
          have ux2815 : x2472 = x2815 := (m2808).trans ex2815.symm
          subst ux2815
          refine x_V (As := [.int x2472]) (rest := []) C (a_X10_raw_e l K G H2801 (x2472) (tp) bt hTH2801 ga0 (by omega) gtq m2811 m2812 f2807) yo_X10_raw wM_X10_195 ⟨⟨by decide, by decide⟩, by decide, by decide⟩ (x_rv C hTH2801 (ci := 10) rfl ga0 rg_112) rfl hl2471.1 rfl (Nat.le_of_ble_eq_true rfl) dX10_reads_57 hSH2801 (AE_sub (fun _ _ => rfl) (by decide) hSH2801.1) (fun vH2816 H2816 locsH2816 pH2816 zH2816 kH2816 hSH2816 => ?_)
          obtain ⟨x2817, hvH2816, hrH2816, hTH2816⟩ := pH2816
          subst hvH2816
          clear f2793 m2794 m2796 m2797 m2798 m2799 m2800
          have mf2818 : MF K s.heap H2816 a0 [19, 20, 21, 22] := MF.eff (x_lt hTH2801 kH2816 ga0 (by decide)) mf2802
          have g2819 : CG (avw K H2816 a0) := CG.congr (fun k hk j => av_eff hTH2801 kH2816 ga0 (by decide) (CG_eff [] (by decide) k hk)) g2803
          have g2820 : TU (avw K H2816 a0) (svw K H2816 a0) := TU.congr (fun k hk j => av_eff hTH2801 kH2816 ga0 (by decide) (TU_eff [] (by decide) k hk)) (fun k hk => sv_eff hTH2801 kH2816 ga0 (by decide)) g2804
          have g2821 : WD (avw K H2816 a0) := WD.congr (fun k hk j => av_eff hTH2801 kH2816 ga0 (by decide) (WD_eff [] (by decide) k hk)) g2805
          have g2822 : IM (avw K H2816 a0) := IM.congr (fun k hk j => av_eff hTH2801 kH2816 ga0 (by decide) (IM_eff [] (by decide) k hk)) g2806
          have f2823 : ∀ j : Nat, bt j = (fI H2816 tq j).toInt := fun j => (f2807 j).trans (congrArg Int32.toInt (fI_kept (x_lt hTH2801 kH2816 gtq (by decide))).symm)
          have m2824 := (m2808).trans (fI_kept (x_lt hTH2801 kH2816 ga0 (by decide))).symm
          have m2825 := (m2810).trans (fI_kept (x_lt hTH2801 kH2816 ga0 (by decide))).symm
          have m2826 := (m2811).trans (fR_kept (x_lt hTH2801 kH2816 ga0 (by decide))).symm
          have m2827 := (m2812).trans (fI_kept (x_lt hTH2801 kH2816 ga0 (by decide))).symm
          have m2828 := (m2813).trans (fI_kept (x_lt hTH2801 kH2816 ga0 (by decide))).symm
          have m2829 := (fI_kept (x_lt hTH2801 kH2816 ga0 (by decide))).trans m2814
          refine W.eq (g2 := F0 m 60 ls2470 [.int x2817]) rfl ?_
          refine lv_istore_n (lv' := [(1, .int x2817), (0, .ref a0)]) hx hb dX10_reads_60 rfl hl2471 (by decide) rfl (fun ls2830 hl2831 => ?_)
          refine lv_iload_n hx hb dX10_reads_61 rfl (lv_at hl2831 0 rfl) ?_
          refine lv_iconst (v := (-1)) hx hb dX10_reads_62 (by decide) ?_
          refine lv_icmp_ne (tgt := 72) hx hb dX10_reads_63 (by decide) (fun c2832 => ?_) (fun c2832 => ?_)
          · have k2833 := i_ne c2832
            refine lv_aload_n hx hb dX10_reads_72 rfl (lv_at hl2831 1 rfl) ?_
            refine lv_aload_n hx hb dX10_reads_73 rfl (lv_at hl2831 1 rfl) ?_
            refine x_gi C hTH2816 (ci := 10) (k := 19) rfl inX10 (by decide) wF_X10_192 ga0 rg_112 rfl dX10_reads_74 (fun x2834 ex2834 bx2834 => ?_)
            have ux2834 : x2472 = x2834 := (m2824).trans ex2834.symm
            subst ux2834
            refine lv_iconst (v := 1) hx hb dX10_reads_77 (by decide) ?_
            refine lv_iadd hx hb dX10_reads_78 ?_
            refine lv_topi (fun x2835 ex2835 => ?_)
            have tx2835 := i_add ex2835 (by omega)
            have fz2837 : 0 ≤ x2835.toInt ∧ x2835.toInt ≤ 500 := by have := i_rng x2835; omega
            refine x_put C hTH2816 hSH2816 (ci := 10) (k := 19) (v := .int x2835) (ty0 := tyX10) rfl inX10 tyX10_ok nmX10 (by decide) rfl wF_X10_192 ga0 rg_112 rfl rfl (okI fz2837.1 fz2837.2) rfl rfl (AE_in ga0 (by decide)) dX10_reads_79 (fun H2836 locsH2836 hTH2836 hSH2836 wH2836 => ?_)
            clear f2807 m2808 m2810 m2811 m2812 m2813 m2814
            have mf2838 : MF K s.heap H2836 a0 [19, 20, 21, 22] := MF.fld hap wH2836 (by decide) (by decide) mf2818
            have g2839 : CG (avw K H2836 a0) := CG.congr (fun k hk j => av_fld hTH2816 ga0 hap wH2836 (by decide) (CG_ok 112 (by decide) k hk) (CG_ne 19 (by decide) k hk)) g2819
            have g2840 : TU (avw K H2836 a0) (svw K H2836 a0) := TU.congr (fun k hk j => av_fld hTH2816 ga0 hap wH2836 (by decide) (TU_ok 112 (by decide) k hk) (TU_ne 19 (by decide) k hk)) (fun k hk => sv_fld hap wH2836 (by decide) (TU_slt k hk) (TU_sne 19 (by decide) k hk)) g2820
            have g2841 : WD (avw K H2836 a0) := WD.congr (fun k hk j => av_fld hTH2816 ga0 hap wH2836 (by decide) (WD_ok 112 (by decide) k hk) (WD_ne 19 (by decide) k hk)) g2821
            have g2842 : IM (avw K H2836 a0) := IM.congr (fun k hk j => av_fld hTH2816 ga0 hap wH2836 (by decide) (IM_ok 112 (by decide) k hk) (IM_ne 19 (by decide) k hk)) g2822
            have f2843 : ∀ j : Nat, bt j = (fI H2836 tq j).toInt := fun j => (f2823 j).trans (congrArg Int32.toInt (Wr.neI wH2836 (Or.inl (G_ne gtq ga0 (by decide)))).symm)
            have m2845 := m2825.trans (Wr.neI wH2836 (Or.inr (x_apart hKT hts inX10 tyX10 tyX10_ok nmX10 rfl 22 19 (by decide) (by decide) (by decide)))).symm
            have m2846 := m2826.trans (Wr.neR wH2836 (Or.inr (x_apart hKT hts inX10 tyX10 tyX10_ok nmX10 rfl 17 19 (by decide) (by decide) (by decide)))).symm
            have m2847 := m2827.trans (Wr.neI wH2836 (Or.inr (x_apart hKT hts inX10 tyX10 tyX10_ok nmX10 rfl 18 19 (by decide) (by decide) (by decide)))).symm
            have m2848 := m2828.trans (Wr.neI wH2836 (Or.inr (x_apart hKT hts inX10 tyX10 tyX10_ok nmX10 rfl 20 19 (by decide) (by decide) (by decide)))).symm
            have m2849 := (Wr.neI wH2836 (Or.inr (x_apart hKT hts inX10 tyX10 tyX10_ok nmX10 rfl 21 19 (by decide) (by decide) (by decide)))).trans m2829
            have m2850 := Wr.I wH2836
            have m2850 := m2850.symm
            refine lv_aload_n hx hb dX10_reads_82 rfl (lv_at hl2831 1 rfl) ?_
            refine lv_iload_n hx hb dX10_reads_83 rfl (lv_at hl2831 0 rfl) ?_
            refine x_put C hTH2836 hSH2836 (ci := 10) (k := 22) (v := .int x2817) (ty0 := tyX10) rfl inX10 tyX10_ok nmX10 (by decide) rfl wF_X10_205 ga0 rg_112 rfl rfl (okI (i_rng x2817).1 (i_rng x2817).2) rfl rfl (AE_in ga0 (by decide)) dX10_reads_84 (fun H2851 locsH2851 hTH2851 hSH2851 wH2851 => ?_)
            clear f2823 m2824 m2825 m2826 m2827 m2828 m2829
            have mf2852 : MF K s.heap H2851 a0 [19, 20, 21, 22] := MF.fld hap wH2851 (by decide) (by decide) mf2838
            have g2853 : CG (avw K H2851 a0) := CG.congr (fun k hk j => av_fld hTH2836 ga0 hap wH2851 (by decide) (CG_ok 112 (by decide) k hk) (CG_ne 22 (by decide) k hk)) g2839
            have g2854 : TU (avw K H2851 a0) (svw K H2851 a0) := TU.congr (fun k hk j => av_fld hTH2836 ga0 hap wH2851 (by decide) (TU_ok 112 (by decide) k hk) (TU_ne 22 (by decide) k hk)) (fun k hk => sv_fld hap wH2851 (by decide) (TU_slt k hk) (TU_sne 22 (by decide) k hk)) g2840
            have g2855 : WD (avw K H2851 a0) := WD.congr (fun k hk j => av_fld hTH2836 ga0 hap wH2851 (by decide) (WD_ok 112 (by decide) k hk) (WD_ne 22 (by decide) k hk)) g2841
            have g2856 : IM (avw K H2851 a0) := IM.congr (fun k hk j => av_fld hTH2836 ga0 hap wH2851 (by decide) (IM_ok 112 (by decide) k hk) (IM_ne 22 (by decide) k hk)) g2842
            have f2857 : ∀ j : Nat, bt j = (fI H2851 tq j).toInt := fun j => (f2843 j).trans (congrArg Int32.toInt (Wr.neI wH2851 (Or.inl (G_ne gtq ga0 (by decide)))).symm)
            have m2859 := m2846.trans (Wr.neR wH2851 (Or.inr (x_apart hKT hts inX10 tyX10 tyX10_ok nmX10 rfl 17 22 (by decide) (by decide) (by decide)))).symm
            have m2860 := m2847.trans (Wr.neI wH2851 (Or.inr (x_apart hKT hts inX10 tyX10 tyX10_ok nmX10 rfl 18 22 (by decide) (by decide) (by decide)))).symm
            have m2861 := m2848.trans (Wr.neI wH2851 (Or.inr (x_apart hKT hts inX10 tyX10 tyX10_ok nmX10 rfl 20 22 (by decide) (by decide) (by decide)))).symm
            have m2862 := (Wr.neI wH2851 (Or.inr (x_apart hKT hts inX10 tyX10 tyX10_ok nmX10 rfl 21 22 (by decide) (by decide) (by decide)))).trans m2849
            have m2863 := m2850.trans (Wr.neI wH2851 (Or.inr (x_apart hKT hts inX10 tyX10 tyX10_ok nmX10 rfl 19 22 (by decide) (by decide) (by decide)))).symm
            have m2864 := Wr.I wH2851
            have m2864 := m2864.symm
            refine lv_aload_n hx hb dX10_reads_87 rfl (lv_at hl2831 1 rfl) ?_
            refine lv_iload_n hx hb dX10_reads_88 rfl (lv_at hl2831 0 rfl) ?_
            refine x_V (As := [.int x2817]) (rest := []) C (a_X10_isLetter_e l K G H2851 (x2817) hTH2851 ga0) yo_X10_isLetter wM_X10_208 ⟨⟨by decide, by decide⟩, by decide, by decide⟩ (x_rv C hTH2851 (ci := 10) rfl ga0 rg_112) rfl hl2831.1 rfl (Nat.le_of_ble_eq_true rfl) dX10_reads_89 hSH2851 (AE_sub (fun _ _ => rfl) (by decide) hSH2851.1) (fun vH2865 H2865 locsH2865 pH2865 zH2865 kH2865 hSH2865 => ?_)
            obtain ⟨x2866, hvH2865, bx2866, hrH2865, hTH2865⟩ := pH2865
            subst hvH2865
            clear f2843 m2845 m2846 m2847 m2848 m2849 m2850
            have mf2867 : MF K s.heap H2865 a0 [19, 20, 21, 22] := MF.eff (x_lt hTH2851 kH2865 ga0 (by decide)) mf2852
            have g2868 : CG (avw K H2865 a0) := CG.congr (fun k hk j => av_eff hTH2851 kH2865 ga0 (by decide) (CG_eff [] (by decide) k hk)) g2853
            have g2869 : TU (avw K H2865 a0) (svw K H2865 a0) := TU.congr (fun k hk j => av_eff hTH2851 kH2865 ga0 (by decide) (TU_eff [] (by decide) k hk)) (fun k hk => sv_eff hTH2851 kH2865 ga0 (by decide)) g2854
            have g2870 : WD (avw K H2865 a0) := WD.congr (fun k hk j => av_eff hTH2851 kH2865 ga0 (by decide) (WD_eff [] (by decide) k hk)) g2855
            have g2871 : IM (avw K H2865 a0) := IM.congr (fun k hk j => av_eff hTH2851 kH2865 ga0 (by decide) (IM_eff [] (by decide) k hk)) g2856
            have f2872 : ∀ j : Nat, bt j = (fI H2865 tq j).toInt := fun j => (f2857 j).trans (congrArg Int32.toInt (fI_kept (x_lt hTH2851 kH2865 gtq (by decide))).symm)
            have m2873 := (m2859).trans (fR_kept (x_lt hTH2851 kH2865 ga0 (by decide))).symm
            have m2874 := (m2860).trans (fI_kept (x_lt hTH2851 kH2865 ga0 (by decide))).symm
            have m2875 := (m2861).trans (fI_kept (x_lt hTH2851 kH2865 ga0 (by decide))).symm
            have m2876 := (fI_kept (x_lt hTH2851 kH2865 ga0 (by decide))).trans m2862
            have m2877 := (m2863).trans (fI_kept (x_lt hTH2851 kH2865 ga0 (by decide))).symm
            have m2878 := (m2864).trans (fI_kept (x_lt hTH2851 kH2865 ga0 (by decide))).symm
            refine W.eq (g2 := F0 m 92 ls2830 [.int x2866]) rfl ?_
            refine lv_if_eq (tgt := 155) hx hb dX10_reads_92 (by decide) (fun c2879 => ?_) (fun c2879 => ?_)
            · have k2880 := i_eq c2879
              refine lv_aload_n hx hb dX10_reads_155 rfl (lv_at hl2831 1 rfl) ?_
              refine lv_iload_n hx hb dX10_reads_156 rfl (lv_at hl2831 0 rfl) ?_
              refine x_V (As := [.int x2817]) (rest := []) C (a_X10_isDigit_e l K G H2865 (x2817) hTH2865 ga0) yo_X10_isDigit wM_X10_215 ⟨⟨by decide, by decide⟩, by decide, by decide⟩ (x_rv C hTH2865 (ci := 10) rfl ga0 rg_112) rfl hl2831.1 rfl (Nat.le_of_ble_eq_true rfl) dX10_reads_157 hSH2865 (AE_sub (fun _ _ => rfl) (by decide) hSH2865.1) (fun vH2881 H2881 locsH2881 pH2881 zH2881 kH2881 hSH2881 => ?_)
              obtain ⟨x2882, hvH2881, bx2882, hrH2881, hTH2881⟩ := pH2881
              subst hvH2881
              clear f2857 m2859 m2860 m2861 m2862 m2863 m2864
              have mf2883 : MF K s.heap H2881 a0 [19, 20, 21, 22] := MF.eff (x_lt hTH2865 kH2881 ga0 (by decide)) mf2867
              have g2884 : CG (avw K H2881 a0) := CG.congr (fun k hk j => av_eff hTH2865 kH2881 ga0 (by decide) (CG_eff [] (by decide) k hk)) g2868
              have g2885 : TU (avw K H2881 a0) (svw K H2881 a0) := TU.congr (fun k hk j => av_eff hTH2865 kH2881 ga0 (by decide) (TU_eff [] (by decide) k hk)) (fun k hk => sv_eff hTH2865 kH2881 ga0 (by decide)) g2869
              have g2886 : WD (avw K H2881 a0) := WD.congr (fun k hk j => av_eff hTH2865 kH2881 ga0 (by decide) (WD_eff [] (by decide) k hk)) g2870
              have g2887 : IM (avw K H2881 a0) := IM.congr (fun k hk j => av_eff hTH2865 kH2881 ga0 (by decide) (IM_eff [] (by decide) k hk)) g2871
              have f2888 : ∀ j : Nat, bt j = (fI H2881 tq j).toInt := fun j => (f2872 j).trans (congrArg Int32.toInt (fI_kept (x_lt hTH2865 kH2881 gtq (by decide))).symm)
              have m2889 := (m2873).trans (fR_kept (x_lt hTH2865 kH2881 ga0 (by decide))).symm
              have m2890 := (m2874).trans (fI_kept (x_lt hTH2865 kH2881 ga0 (by decide))).symm
              have m2891 := (m2875).trans (fI_kept (x_lt hTH2865 kH2881 ga0 (by decide))).symm
              have m2892 := (fI_kept (x_lt hTH2865 kH2881 ga0 (by decide))).trans m2876
              have m2893 := (m2877).trans (fI_kept (x_lt hTH2865 kH2881 ga0 (by decide))).symm
              have m2894 := (m2878).trans (fI_kept (x_lt hTH2865 kH2881 ga0 (by decide))).symm
              refine W.eq (g2 := F0 m 160 ls2830 [.int x2882]) rfl ?_
              refine lv_if_eq (tgt := 260) hx hb dX10_reads_160 (by decide) (fun c2895 => ?_) (fun c2895 => ?_)
              · have k2896 := i_eq c2895
                refine lv_aload_n hx hb dX10_reads_260 rfl (lv_at hl2831 1 rfl) ?_
                refine lv_iload_n hx hb dX10_reads_261 rfl (lv_at hl2831 0 rfl) ?_
                refine x_V (As := [.int x2817]) (rest := []) C (a_X10_isMarkSign_e l K G H2881 (x2817) hTH2881 ga0) yo_X10_isMarkSign wM_X10_219 ⟨⟨by decide, by decide⟩, by decide, by decide⟩ (x_rv C hTH2881 (ci := 10) rfl ga0 rg_112) rfl hl2831.1 rfl (Nat.le_of_ble_eq_true rfl) dX10_reads_262 hSH2881 (AE_sub (fun _ _ => rfl) (by decide) hSH2881.1) (fun vH2897 H2897 locsH2897 pH2897 zH2897 kH2897 hSH2897 => ?_)
                obtain ⟨x2898, hvH2897, bx2898, hrH2897, hTH2897⟩ := pH2897
                subst hvH2897
                clear f2872 m2873 m2874 m2875 m2876 m2877 m2878
                have mf2899 : MF K s.heap H2897 a0 [19, 20, 21, 22] := MF.eff (x_lt hTH2881 kH2897 ga0 (by decide)) mf2883
                have g2900 : CG (avw K H2897 a0) := CG.congr (fun k hk j => av_eff hTH2881 kH2897 ga0 (by decide) (CG_eff [] (by decide) k hk)) g2884
                have g2901 : TU (avw K H2897 a0) (svw K H2897 a0) := TU.congr (fun k hk j => av_eff hTH2881 kH2897 ga0 (by decide) (TU_eff [] (by decide) k hk)) (fun k hk => sv_eff hTH2881 kH2897 ga0 (by decide)) g2885
                have g2902 : WD (avw K H2897 a0) := WD.congr (fun k hk j => av_eff hTH2881 kH2897 ga0 (by decide) (WD_eff [] (by decide) k hk)) g2886
                have g2903 : IM (avw K H2897 a0) := IM.congr (fun k hk j => av_eff hTH2881 kH2897 ga0 (by decide) (IM_eff [] (by decide) k hk)) g2887
                have f2904 : ∀ j : Nat, bt j = (fI H2897 tq j).toInt := fun j => (f2888 j).trans (congrArg Int32.toInt (fI_kept (x_lt hTH2881 kH2897 gtq (by decide))).symm)
                have m2905 := (m2889).trans (fR_kept (x_lt hTH2881 kH2897 ga0 (by decide))).symm
                have m2906 := (m2890).trans (fI_kept (x_lt hTH2881 kH2897 ga0 (by decide))).symm
                have m2907 := (m2891).trans (fI_kept (x_lt hTH2881 kH2897 ga0 (by decide))).symm
                have m2908 := (fI_kept (x_lt hTH2881 kH2897 ga0 (by decide))).trans m2892
                have m2909 := (m2893).trans (fI_kept (x_lt hTH2881 kH2897 ga0 (by decide))).symm
                have m2910 := (m2894).trans (fI_kept (x_lt hTH2881 kH2897 ga0 (by decide))).symm
                refine W.eq (g2 := F0 m 265 ls2830 [.int x2898]) rfl ?_
                refine lv_if_eq (tgt := 273) hx hb dX10_reads_265 (by decide) (fun c2911 => ?_) (fun c2911 => ?_)
                · have k2912 := i_eq c2911
                  have cn_x2472 := i_cl (x := x2472) bx2472.1
                  have cn_x2835 := i_cl (x := x2835) (by omega)
                  have cn_tp := i_cl (x := tp) (by omega)
                  have sf2913 : skB bt tp.toNatClampNeg sp.toNatClampNeg = x2472.toNatClampNeg := hsp0.trans (scn_end (by by_cases hh : tp.toNatClampNeg ≤ x2472.toNatClampNeg; exact inL_o hh; exact inL_n (iBl_n (by omega))))
                  have pf1_ : x2835.toNatClampNeg = x2472.toNatClampNeg + 1 := by omega
                  have tv2914 : TV (tkK bt tp.toNatClampNeg x2472.toNatClampNeg) (tkV bt tp.toNatClampNeg x2472.toNatClampNeg) (1 : Int32).toInt x2817.toInt ∧ tkN bt tp.toNatClampNeg x2472.toNatClampNeg = x2835.toNatClampNeg := (by rw [pf1_]; exact tv_sign (by omega) (by omega) (by omega) (by omega))
                  exact x_vret C hQ dX10_reads_273 hSH2897 (by decide) (by decide) (⟨x2835, x2472, 1, x2817, rfl, m2909, m2907, (m2908).symm, m2910, by omega, m2905, g2900, g2901, g2902, g2903, mf2899, sf2913, (by rw [sf2913]; exact tv2914.2), (by rw [sf2913]; exact tv2914.1), hTH2897⟩)
                · have k2912 := i_ne c2911
                  refine lv_aload_n hx hb dX10_reads_268 rfl (lv_at hl2831 1 rfl) ?_
                  refine lv_iconst (v := 4) hx hb dX10_reads_269 (by decide) ?_
                  refine x_put C hTH2897 hSH2897 (ci := 10) (k := 21) (v := .int 4) (ty0 := tyX10) rfl inX10 tyX10_ok nmX10 (by decide) rfl wF_X10_202 ga0 rg_112 rfl rfl (okI (i_rng (4 : Int32)).1 (i_rng (4 : Int32)).2) rfl rfl (AE_in ga0 (by decide)) dX10_reads_270 (fun H2915 locsH2915 hTH2915 hSH2915 wH2915 => ?_)
                  clear f2888 m2889 m2890 m2891 m2892 m2893 m2894
                  have mf2916 : MF K s.heap H2915 a0 [19, 20, 21, 22] := MF.fld hap wH2915 (by decide) (by decide) mf2899
                  have g2917 : CG (avw K H2915 a0) := CG.congr (fun k hk j => av_fld hTH2897 ga0 hap wH2915 (by decide) (CG_ok 112 (by decide) k hk) (CG_ne 21 (by decide) k hk)) g2900
                  have g2918 : TU (avw K H2915 a0) (svw K H2915 a0) := TU.congr (fun k hk j => av_fld hTH2897 ga0 hap wH2915 (by decide) (TU_ok 112 (by decide) k hk) (TU_ne 21 (by decide) k hk)) (fun k hk => sv_fld hap wH2915 (by decide) (TU_slt k hk) (TU_sne 21 (by decide) k hk)) g2901
                  have g2919 : WD (avw K H2915 a0) := WD.congr (fun k hk j => av_fld hTH2897 ga0 hap wH2915 (by decide) (WD_ok 112 (by decide) k hk) (WD_ne 21 (by decide) k hk)) g2902
                  have g2920 : IM (avw K H2915 a0) := IM.congr (fun k hk j => av_fld hTH2897 ga0 hap wH2915 (by decide) (IM_ok 112 (by decide) k hk) (IM_ne 21 (by decide) k hk)) g2903
                  have f2921 : ∀ j : Nat, bt j = (fI H2915 tq j).toInt := fun j => (f2904 j).trans (congrArg Int32.toInt (Wr.neI wH2915 (Or.inl (G_ne gtq ga0 (by decide)))).symm)
                  have m2922 := m2905.trans (Wr.neR wH2915 (Or.inr (x_apart hKT hts inX10 tyX10 tyX10_ok nmX10 rfl 17 21 (by decide) (by decide) (by decide)))).symm
                  have m2923 := m2906.trans (Wr.neI wH2915 (Or.inr (x_apart hKT hts inX10 tyX10 tyX10_ok nmX10 rfl 18 21 (by decide) (by decide) (by decide)))).symm
                  have m2924 := m2907.trans (Wr.neI wH2915 (Or.inr (x_apart hKT hts inX10 tyX10 tyX10_ok nmX10 rfl 20 21 (by decide) (by decide) (by decide)))).symm
                  have m2926 := m2909.trans (Wr.neI wH2915 (Or.inr (x_apart hKT hts inX10 tyX10 tyX10_ok nmX10 rfl 19 21 (by decide) (by decide) (by decide)))).symm
                  have m2927 := m2910.trans (Wr.neI wH2915 (Or.inr (x_apart hKT hts inX10 tyX10 tyX10_ok nmX10 rfl 22 21 (by decide) (by decide) (by decide)))).symm
                  have m2928 := Wr.I wH2915
                  have cn_x2472 := i_cl (x := x2472) bx2472.1
                  have cn_x2835 := i_cl (x := x2835) (by omega)
                  have cn_tp := i_cl (x := tp) (by omega)
                  have sf2929 : skB bt tp.toNatClampNeg sp.toNatClampNeg = x2472.toNatClampNeg := hsp0.trans (scn_end (by by_cases hh : tp.toNatClampNeg ≤ x2472.toNatClampNeg; exact inL_o hh; exact inL_n (iBl_n (by omega))))
                  have pf1_ : x2835.toNatClampNeg = x2472.toNatClampNeg + 1 := by omega
                  have tv2930 : TV (tkK bt tp.toNatClampNeg x2472.toNatClampNeg) (tkV bt tp.toNatClampNeg x2472.toNatClampNeg) (4 : Int32).toInt x2817.toInt ∧ tkN bt tp.toNatClampNeg x2472.toNatClampNeg = x2835.toNatClampNeg := (by rw [pf1_]; exact tv_sign (by omega) (by omega) (by omega) (by omega))
                  exact x_vret C hQ dX10_reads_273 hSH2915 (by decide) (by decide) (⟨x2835, x2472, 4, x2817, rfl, m2926, m2924, (m2928).symm, m2927, by omega, m2922, g2917, g2918, g2919, g2920, mf2916, sf2929, (by rw [sf2929]; exact tv2930.2), (by rw [sf2929]; exact tv2930.1), hTH2915⟩)
              · have k2896 := i_ne c2895
                refine lv_aload_n hx hb dX10_reads_163 rfl (lv_at hl2831 1 rfl) ?_
                refine lv_iload_n hx hb dX10_reads_164 rfl (lv_at hl2831 0 rfl) ?_
                refine lv_bipush (v := 48) hx hb dX10_reads_165 (by decide) ?_
                refine lv_isub hx hb dX10_reads_167 ?_
                refine lv_topi (fun x2931 ex2931 => ?_)
                have tx2931 := i_sub ex2931 (by omega)
                refine x_put C hTH2881 hSH2881 (ci := 10) (k := 22) (v := .int x2931) (ty0 := tyX10) rfl inX10 tyX10_ok nmX10 (by decide) rfl wF_X10_205 ga0 rg_112 rfl rfl (okI (i_rng x2931).1 (i_rng x2931).2) rfl rfl (AE_in ga0 (by decide)) dX10_reads_168 (fun H2932 locsH2932 hTH2932 hSH2932 wH2932 => ?_)
                clear f2872 m2873 m2874 m2875 m2876 m2877 m2878
                have mf2933 : MF K s.heap H2932 a0 [19, 20, 21, 22] := MF.fld hap wH2932 (by decide) (by decide) mf2883
                have g2934 : CG (avw K H2932 a0) := CG.congr (fun k hk j => av_fld hTH2881 ga0 hap wH2932 (by decide) (CG_ok 112 (by decide) k hk) (CG_ne 22 (by decide) k hk)) g2884
                have g2935 : TU (avw K H2932 a0) (svw K H2932 a0) := TU.congr (fun k hk j => av_fld hTH2881 ga0 hap wH2932 (by decide) (TU_ok 112 (by decide) k hk) (TU_ne 22 (by decide) k hk)) (fun k hk => sv_fld hap wH2932 (by decide) (TU_slt k hk) (TU_sne 22 (by decide) k hk)) g2885
                have g2936 : WD (avw K H2932 a0) := WD.congr (fun k hk j => av_fld hTH2881 ga0 hap wH2932 (by decide) (WD_ok 112 (by decide) k hk) (WD_ne 22 (by decide) k hk)) g2886
                have g2937 : IM (avw K H2932 a0) := IM.congr (fun k hk j => av_fld hTH2881 ga0 hap wH2932 (by decide) (IM_ok 112 (by decide) k hk) (IM_ne 22 (by decide) k hk)) g2887
                have f2938 : ∀ j : Nat, bt j = (fI H2932 tq j).toInt := fun j => (f2888 j).trans (congrArg Int32.toInt (Wr.neI wH2932 (Or.inl (G_ne gtq ga0 (by decide)))).symm)
                have m2939 := m2889.trans (Wr.neR wH2932 (Or.inr (x_apart hKT hts inX10 tyX10 tyX10_ok nmX10 rfl 17 22 (by decide) (by decide) (by decide)))).symm
                have m2940 := m2890.trans (Wr.neI wH2932 (Or.inr (x_apart hKT hts inX10 tyX10 tyX10_ok nmX10 rfl 18 22 (by decide) (by decide) (by decide)))).symm
                have m2941 := m2891.trans (Wr.neI wH2932 (Or.inr (x_apart hKT hts inX10 tyX10 tyX10_ok nmX10 rfl 20 22 (by decide) (by decide) (by decide)))).symm
                have m2942 := (Wr.neI wH2932 (Or.inr (x_apart hKT hts inX10 tyX10 tyX10_ok nmX10 rfl 21 22 (by decide) (by decide) (by decide)))).trans m2892
                have m2943 := m2893.trans (Wr.neI wH2932 (Or.inr (x_apart hKT hts inX10 tyX10 tyX10_ok nmX10 rfl 19 22 (by decide) (by decide) (by decide)))).symm
                have m2945 := Wr.I wH2932
                have m2945 := m2945.symm
                have cn_x2472 := i_cl (x := x2472) bx2472.1
                have cn_x2835 := i_cl (x := x2835) (by omega)
                have cn_tp := i_cl (x := tp) (by omega)
                have sf2946 : skB bt tp.toNatClampNeg sp.toNatClampNeg = x2472.toNatClampNeg := hsp0.trans (scn_end (by by_cases hh : tp.toNatClampNeg ≤ x2472.toNatClampNeg; exact inL_o hh; exact inL_n (iBl_n (by omega))))
                have e1_ : x2835.toNatClampNeg - x2472.toNatClampNeg = 1 := by omega
                exact J171 ((500 - x2835.toInt).toNat + 1)  ls2830 H2932 locsH2932 (x2835) (x2472) (1) (x2931) (lv_sub hl2831 [1] rfl) hTH2932 hSH2932 (by have := i_rng x2835; omega) bx2472 (by decide) (by have := i_rng x2931; omega) m2943 m2941 (m2942).symm m2945 m2939 m2940 mf2933 g2934 g2935 g2936 g2937 f2938 (by omega) (by omega) (by rw [show x2835.toNatClampNeg = x2472.toNatClampNeg + 1 by omega]; rfl) (by omega) sf2946 (HD.mk (fun _ => by rw [e1_]; exact nmb_at (k := 0) (v := 0) (c := bt x2472.toNatClampNeg) rfl rfl rfl (by omega)))
            · have k2880 := i_ne c2879
              have cn_x2472 := i_cl (x := x2472) bx2472.1
              have cn_x2835 := i_cl (x := x2835) (by omega)
              have cn_tp := i_cl (x := tp) (by omega)
              have sf2947 : skB bt tp.toNatClampNeg sp.toNatClampNeg = x2472.toNatClampNeg := hsp0.trans (scn_end (by by_cases hh : tp.toNatClampNeg ≤ x2472.toNatClampNeg; exact inL_o hh; exact inL_n (iBl_n (by omega))))
              exact J95 ((500 - x2835.toInt).toNat + 1)  ls2830 H2865 locsH2865 (x2835) (x2472) (1) (x2817) (lv_sub hl2831 [1] rfl) hTH2865 hSH2865 (by have := i_rng x2835; omega) bx2472 (by decide) (by have := i_rng x2817; omega) m2877 m2875 (m2876).symm m2878 m2873 m2874 mf2867 g2868 g2869 g2870 g2871 f2872 (by omega) (by omega) (by rw [show x2835.toNatClampNeg = x2472.toNatClampNeg + 1 by omega]; rfl) (by omega) sf2947
          · have k2833 := i_eq c2832
            refine lv_aload_n hx hb dX10_reads_66 rfl (lv_at hl2831 1 rfl) ?_
            refine lv_iconst (v := 0) hx hb dX10_reads_67 (by decide) ?_
            refine x_put C hTH2816 hSH2816 (ci := 10) (k := 21) (v := .int 0) (ty0 := tyX10) rfl inX10 tyX10_ok nmX10 (by decide) rfl wF_X10_202 ga0 rg_112 rfl rfl (okI (i_rng (0 : Int32)).1 (i_rng (0 : Int32)).2) rfl rfl (AE_in ga0 (by decide)) dX10_reads_68 (fun H2948 locsH2948 hTH2948 hSH2948 wH2948 => ?_)
            clear f2807 m2808 m2810 m2811 m2812 m2813 m2814
            have mf2949 : MF K s.heap H2948 a0 [19, 20, 21, 22] := MF.fld hap wH2948 (by decide) (by decide) mf2818
            have g2950 : CG (avw K H2948 a0) := CG.congr (fun k hk j => av_fld hTH2816 ga0 hap wH2948 (by decide) (CG_ok 112 (by decide) k hk) (CG_ne 21 (by decide) k hk)) g2819
            have g2951 : TU (avw K H2948 a0) (svw K H2948 a0) := TU.congr (fun k hk j => av_fld hTH2816 ga0 hap wH2948 (by decide) (TU_ok 112 (by decide) k hk) (TU_ne 21 (by decide) k hk)) (fun k hk => sv_fld hap wH2948 (by decide) (TU_slt k hk) (TU_sne 21 (by decide) k hk)) g2820
            have g2952 : WD (avw K H2948 a0) := WD.congr (fun k hk j => av_fld hTH2816 ga0 hap wH2948 (by decide) (WD_ok 112 (by decide) k hk) (WD_ne 21 (by decide) k hk)) g2821
            have g2953 : IM (avw K H2948 a0) := IM.congr (fun k hk j => av_fld hTH2816 ga0 hap wH2948 (by decide) (IM_ok 112 (by decide) k hk) (IM_ne 21 (by decide) k hk)) g2822
            have f2954 : ∀ j : Nat, bt j = (fI H2948 tq j).toInt := fun j => (f2823 j).trans (congrArg Int32.toInt (Wr.neI wH2948 (Or.inl (G_ne gtq ga0 (by decide)))).symm)
            have m2955 := m2824.trans (Wr.neI wH2948 (Or.inr (x_apart hKT hts inX10 tyX10 tyX10_ok nmX10 rfl 19 21 (by decide) (by decide) (by decide)))).symm
            have m2956 := m2825.trans (Wr.neI wH2948 (Or.inr (x_apart hKT hts inX10 tyX10 tyX10_ok nmX10 rfl 22 21 (by decide) (by decide) (by decide)))).symm
            have m2957 := m2826.trans (Wr.neR wH2948 (Or.inr (x_apart hKT hts inX10 tyX10 tyX10_ok nmX10 rfl 17 21 (by decide) (by decide) (by decide)))).symm
            have m2958 := m2827.trans (Wr.neI wH2948 (Or.inr (x_apart hKT hts inX10 tyX10 tyX10_ok nmX10 rfl 18 21 (by decide) (by decide) (by decide)))).symm
            have m2959 := m2828.trans (Wr.neI wH2948 (Or.inr (x_apart hKT hts inX10 tyX10 tyX10_ok nmX10 rfl 20 21 (by decide) (by decide) (by decide)))).symm
            have m2961 := Wr.I wH2948
            have cn_x2472 := i_cl (x := x2472) bx2472.1
            have cn_tp := i_cl (x := tp) (by omega)
            have sf2962 : skB bt tp.toNatClampNeg sp.toNatClampNeg = x2472.toNatClampNeg := hsp0.trans (scn_end (by by_cases hh : tp.toNatClampNeg ≤ x2472.toNatClampNeg; exact inL_o hh; exact inL_n (iBl_n (by omega))))
            have nn_ : x2472.toNatClampNeg < tp.toNatClampNeg → 0 ≤ bt x2472.toNatClampNeg := hy0 _
            have tv2963 : TV (tkK bt tp.toNatClampNeg x2472.toNatClampNeg) (tkV bt tp.toNatClampNeg x2472.toNatClampNeg) (0 : Int32).toInt x2475.toInt ∧ tkN bt tp.toNatClampNeg x2472.toNatClampNeg = x2472.toNatClampNeg := tv_end (by omega)
            exact x_vret C hQ dX10_reads_71 hSH2948 (by decide) (by decide) (⟨x2472, x2472, 0, x2475, rfl, m2955, m2959, (m2961).symm, m2956, by omega, m2957, g2950, g2951, g2952, g2953, mf2949, sf2962, (by rw [sf2962]; exact tv2963.2), (by rw [sf2962]; exact tv2963.1), hTH2948⟩)
        · have k2785 := i_eq c2784
          refine lv_aload_n hx hb dX10_reads_26 rfl (lv_at hl2471 0 rfl) ?_
          refine lv_aload_n hx hb dX10_reads_27 rfl (lv_at hl2471 0 rfl) ?_
          refine x_gi C hTH2770 (ci := 10) (k := 19) rfl inX10 (by decide) wF_X10_192 ga0 rg_112 rfl dX10_reads_28 (fun x2964 ex2964 bx2964 => ?_)
          have ux2964 : x2472 = x2964 := (m2778).trans ex2964.symm
          subst ux2964
          refine lv_iconst (v := 1) hx hb dX10_reads_31 (by decide) ?_
          refine lv_iadd hx hb dX10_reads_32 ?_
          refine lv_topi (fun x2965 ex2965 => ?_)
          have tx2965 := i_add ex2965 (by omega)
          have fz2967 : 0 ≤ x2965.toInt ∧ x2965.toInt ≤ 500 := by have := i_rng x2965; omega
          refine x_put C hTH2770 hSH2770 (ci := 10) (k := 19) (v := .int x2965) (ty0 := tyX10) rfl inX10 tyX10_ok nmX10 (by decide) rfl wF_X10_192 ga0 rg_112 rfl rfl (okI fz2967.1 fz2967.2) rfl rfl (AE_in ga0 (by decide)) dX10_reads_33 (fun H2966 locsH2966 hTH2966 hSH2966 wH2966 => ?_)
          clear f2743 m2744 m2745 m2746 m2747 m2748 m2749
          have mf2968 : MF K s.heap H2966 a0 [19, 20, 21, 22] := MF.fld hap wH2966 (by decide) (by decide) mf2772
          have g2969 : CG (avw K H2966 a0) := CG.congr (fun k hk j => av_fld hTH2770 ga0 hap wH2966 (by decide) (CG_ok 112 (by decide) k hk) (CG_ne 19 (by decide) k hk)) g2773
          have g2970 : TU (avw K H2966 a0) (svw K H2966 a0) := TU.congr (fun k hk j => av_fld hTH2770 ga0 hap wH2966 (by decide) (TU_ok 112 (by decide) k hk) (TU_ne 19 (by decide) k hk)) (fun k hk => sv_fld hap wH2966 (by decide) (TU_slt k hk) (TU_sne 19 (by decide) k hk)) g2774
          have g2971 : WD (avw K H2966 a0) := WD.congr (fun k hk j => av_fld hTH2770 ga0 hap wH2966 (by decide) (WD_ok 112 (by decide) k hk) (WD_ne 19 (by decide) k hk)) g2775
          have g2972 : IM (avw K H2966 a0) := IM.congr (fun k hk j => av_fld hTH2770 ga0 hap wH2966 (by decide) (IM_ok 112 (by decide) k hk) (IM_ne 19 (by decide) k hk)) g2776
          have f2973 : ∀ j : Nat, bt j = (fI H2966 tq j).toInt := fun j => (f2777 j).trans (congrArg Int32.toInt (Wr.neI wH2966 (Or.inl (G_ne gtq ga0 (by decide)))).symm)
          have m2975 := m2779.trans (Wr.neI wH2966 (Or.inr (x_apart hKT hts inX10 tyX10 tyX10_ok nmX10 rfl 20 19 (by decide) (by decide) (by decide)))).symm
          have m2976 := m2780.trans (Wr.neI wH2966 (Or.inr (x_apart hKT hts inX10 tyX10 tyX10_ok nmX10 rfl 21 19 (by decide) (by decide) (by decide)))).symm
          have m2977 := m2781.trans (Wr.neI wH2966 (Or.inr (x_apart hKT hts inX10 tyX10 tyX10_ok nmX10 rfl 22 19 (by decide) (by decide) (by decide)))).symm
          have m2978 := m2782.trans (Wr.neR wH2966 (Or.inr (x_apart hKT hts inX10 tyX10 tyX10_ok nmX10 rfl 17 19 (by decide) (by decide) (by decide)))).symm
          have m2979 := m2783.trans (Wr.neI wH2966 (Or.inr (x_apart hKT hts inX10 tyX10 tyX10_ok nmX10 rfl 18 19 (by decide) (by decide) (by decide)))).symm
          have m2980 := Wr.I wH2966
          have m2980 := m2980.symm
          refine lv_goto (tgt := 0) hx hb dX10_reads_36 (by decide) ?_
          have cn_x2472 := i_cl (x := x2472) bx2472.1
          have cn_x2965 := i_cl (x := x2965) (by omega)
          have cn_tp := i_cl (x := tp) (by omega)
          exact ih0  ls2470 H2966 locsH2966 (x2965) (x2473) (x2474) (x2475) (lv_sub hl2471 [0] rfl) hTH2966 hSH2966 (by have := i_rng x2965; omega) bx2473 m2980 m2975 m2976 m2977 m2978 m2979 mf2968 g2969 g2970 g2971 g2972 f2973 (by omega) (by omega) (hsp0.trans (scn_go (inL_y (by omega) (iBl_y (by omega))) (by omega) (by omega)))
  exact J0 ((500 - sp.toInt).toNat + 1)  ls s.heap [] (sp) (fr) (tk) (vl) (lv_sub hl [0] rfl) hT hS (by have := i_rng sp; omega) (by have := i_rng fr; omega) esp efr etk evl etq etp mf0 hg_CG hg_TU hg_WD hg_IM f0_bt (by omega) (by omega) rfl
