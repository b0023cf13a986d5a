set_option maxHeartbeats 4000000 in
set_option maxRecDepth 100000 in
theorem a_X10_readNumber (l : Launch) (K : KE) (G : Nat → Option Nat) (H : Heap) {a0 : Nat} (x1 : Int32) (x2 : Int32) {tq : Nat} (sp : Int32) (fr : Int32) (tk : Int32) (vl : Int32) (tp : Int32) (hT : TY K G H) (ga0 : G a0 = some 112) (hx1 : 0 ≤ x1.toInt ∧ x1.toInt ≤ 1) (hx2 : 0 ≤ x2.toInt ∧ x2.toInt ≤ 99) (gtq : G tq = some 126) (etq : tq = fR H a0 (K.1.2 10 17)) (esp : sp = fI H a0 (K.1.2 10 19)) (efr : fr = fI H a0 (K.1.2 10 20)) (etk : tk = fI H a0 (K.1.2 10 21)) (evl : vl = fI H a0 (K.1.2 10 22)) (etp : tp = fI H a0 (K.1.2 10 18)) (hg_CG : CG (avw K H a0)) (hg_TU : TU (avw K H a0) (svw K H a0)) (hg_WD : WD (avw K H a0)) (hg_IM : IM (avw K H a0)) (hp0 : (sp.toInt ≤ tp.toInt ∧ fr.toInt ≤ sp.toInt ∧ (tk.toInt = 0 ∨ fr.toInt < sp.toInt) ∧ (tk.toInt ≠ 2 ∨ (0 ≤ vl.toInt ∧ vl.toInt ≤ 23)))) : MX l K yX10_readNumber cX10_readNumber 4 (some .int) 3 65 0 0 [.ref a0, .int x1, .int x2] H (AE G [112] H.size) (fun v H1 => ∃ (r : Int32) (t0 : Int32) (t1 : Int32) (t2 : Int32) (t3 : Int32), v = some (.int r) ∧ t0 = fI H1 a0 (K.1.2 10 19) ∧ t1 = fI H1 a0 (K.1.2 10 20) ∧ t2 = fI H1 a0 (K.1.2 10 21) ∧ t3 = fI H1 a0 (K.1.2 10 22) ∧ (r.toInt = -1 ∨ (x1.toInt ≤ r.toInt ∧ r.toInt ≤ x2.toInt ∧ (t0.toInt ≤ tp.toInt ∧ t1.toInt ≤ t0.toInt ∧ (t2.toInt = 0 ∨ t1.toInt < t0.toInt) ∧ (t2.toInt ≠ 2 ∨ (0 ≤ t3.toInt ∧ t3.toInt ≤ 23))) ∧ fr.toInt < t1.toInt)) ∧ tq = fR H1 a0 (K.1.2 10 17) ∧ (CG (avw K H1 a0)) ∧ (TU (avw K H1 a0) (svw K H1 a0)) ∧ (WD (avw K H1 a0)) ∧ (IM (avw K H1 a0)) ∧ MF K H H1 a0 [19, 20, 21, 22, 39, 40] ∧ TY K G H1) := by
  refine MX.of (by decide +kernel) (Nat.le_of_ble_eq_true rfl) ?_
  intro p e s m below meth c ls Q C hH hl hQ
  subst hH
  have C : CX p K s m _ meth c RX10 cX10_readNumber 4 (some .int) "readNumber" := C
  obtain ⟨hx, hb, hml, hown, hts, hKT, hr, hlocks, hnm⟩ := id C
  have hl : lv_has ls 4 [(0, .ref a0), (1, .int x1), (2, .int x2)] := hl
  have hS : va_S (AE G [112] s.heap.size) s.heap s.heap [] := va_S.rf
  have n_0 : (0 : Int32).toInt = 0 := rfl
  have n_1 : (1 : Int32).toInt = 1 := rfl
  have n_2 : (2 : Int32).toInt = 2 := rfl
  have n_3 : (3 : Int32).toInt = 3 := rfl
  have bsp := ty_fi (x := sp) (k := 19) esp hT ga0 rg_112 rfl
  have bfr := ty_fi (x := fr) (k := 20) efr hT ga0 rg_112 rfl
  have btk := ty_fi (x := tk) (k := 21) etk hT ga0 rg_112 rfl
  have bvl := ty_fi (x := vl) (k := 22) evl hT ga0 rg_112 rfl
  have btp := ty_fi (x := tp) (k := 18) etp hT ga0 rg_112 rfl
  have hap : ∀ x y, x < 74 → y < 74 → x ≠ y → K.1.2 10 x ≠ K.1.2 10 y := x_apart hKT hts inX10 tyX10 tyX10_ok nmX10 rfl
  have mf0 : MF K s.heap s.heap a0 [19, 20, 21, 22, 39, 40] := fun _ _ _ => rfl
  refine lv_aload_n hx hb dX10_readNumber_0 rfl (lv_at hl 0 rfl) ?_
  refine x_gi C hT (ci := 10) (k := 21) rfl inX10 (by decide) wF_X10_202 ga0 rg_112 rfl dX10_readNumber_1 (fun x317 ex317 bx317 => ?_)
  have ux317 : tk = x317 := (etk).trans ex317.symm
  subst ux317
  refine lv_iconst (v := 3) hx hb dX10_readNumber_4 (by decide) ?_
  refine lv_icmp_eq (tgt := 14) hx hb dX10_readNumber_5 (by decide) (fun c318 => ?_) (fun c318 => ?_)
  · have k319 := i_eq c318
    refine lv_aload_n hx hb dX10_readNumber_14 rfl (lv_at hl 0 rfl) ?_
    refine lv_aload_n hx hb dX10_readNumber_15 rfl (lv_at hl 0 rfl) ?_
    refine x_gi C hT (ci := 10) (k := 22) rfl inX10 (by decide) wF_X10_205 ga0 rg_112 rfl dX10_readNumber_16 (fun x320 ex320 bx320 => ?_)
    have ux320 : vl = x320 := (evl).trans ex320.symm
    subst ux320
    refine lv_iload_n hx hb dX10_readNumber_19 rfl (lv_at hl 1 rfl) ?_
    refine lv_iload_n hx hb dX10_readNumber_20 rfl (lv_at hl 2 rfl) ?_
    refine x_V (As := [.int vl, .int x1, .int x2]) (rest := []) C (c_X10_isIn l K G s.heap (vl) (x1) (x2) hT ga0) yo_X10_isIn wM_X10_177 ⟨⟨by decide, by decide⟩, by decide, by decide⟩ (x_rv C hT (ci := 10) rfl ga0 rg_112) rfl hl.1 rfl (Nat.le_of_ble_eq_true rfl) dX10_readNumber_21 hS (AE_sub (fun _ _ => rfl) (by decide) hS.1) (fun vH321 H321 locsH321 pH321 zH321 kH321 hSH321 => ?_)
    have hqH321 := pH321.1.symm
    subst hqH321
    rcases pH321.2 with ⟨hvH321, hcH321⟩ | ⟨hvH321, hcH321⟩
    · subst hvH321
      refine W.eq (g2 := F0 m 24 ls [.int 1]) rfl ?_
      refine lv_if_ne (tgt := 33) hx hb dX10_readNumber_24 (by decide) (fun c322 => ?_) (fun c322 => ?_)
      · have k323 := i_ne c322
        refine lv_aload_n hx hb dX10_readNumber_33 rfl (lv_at hl 0 rfl) ?_
        refine x_gi C hT (ci := 10) (k := 22) rfl inX10 (by decide) wF_X10_205 ga0 rg_112 rfl dX10_readNumber_34 (fun x324 ex324 bx324 => ?_)
        have ux324 : vl = x324 := (evl).trans ex324.symm
        subst ux324
        refine lv_istore_n (lv' := [(3, .int vl), (0, .ref a0), (1, .int x1), (2, .int x2)]) hx hb dX10_readNumber_37 rfl hl (by decide) rfl (fun ls325 hl326 => ?_)
        refine lv_aload_n hx hb dX10_readNumber_38 rfl (lv_at hl326 1 rfl) ?_
        refine x_V (As := []) (rest := []) C (a_X10_reads l K G s.heap (sp) (fr) (tk) (vl) (tp) hT ga0 gtq etq esp efr etk evl etp hg_CG hg_TU hg_WD hg_IM (by omega)) yo_X10_reads wM_X10_242 ⟨⟨by decide, by decide⟩, by decide, by decide⟩ (x_rv C hT (ci := 10) rfl ga0 rg_112) rfl hl326.1 rfl (Nat.le_of_ble_eq_true rfl) dX10_readNumber_39 hSH321 (AE_sub (fun _ _ => rfl) (by decide) hSH321.1) (fun vH327 H327 locsH327 pH327 zH327 kH327 hSH327 => ?_)
        obtain ⟨x328, x329, x330, x331, hvH327, ex328, ex329, ex330, ex331, hrH327, m332, g333, g334, g335, g336, mf337, hTH327⟩ := pH327
        subst hvH327
        have m338 := (etq).trans (MF.r mf337 (k := 17) (by decide) (by decide)).symm
        have m339 := (etp).trans (MF.i mf337 (k := 18) (by decide) (by decide)).symm
        have mf340 : MF K s.heap H327 a0 [19, 20, 21, 22, 39, 40] := MF.trans mf0 mf337 (by decide)
        have bx328 := ty_fi (x := x328) (k := 19) ex328 hTH327 ga0 rg_112 rfl
        have bx329 := ty_fi (x := x329) (k := 20) ex329 hTH327 ga0 rg_112 rfl
        have bx330 := ty_fi (x := x330) (k := 21) ex330 hTH327 ga0 rg_112 rfl
        have bx331 := ty_fi (x := x331) (k := 22) ex331 hTH327 ga0 rg_112 rfl
        refine W.eq (g2 := F0 m 42 ls325 []) rfl ?_
        refine lv_iload_n hx hb dX10_readNumber_42 rfl (lv_at hl326 0 rfl) ?_
        exact x_iret C hQ dX10_readNumber_43 hSH327 (by decide) (by decide) (⟨vl, x328, x329, x330, x331, rfl, ex328, ex329, ex330, ex331, by omega, m332, g333, g334, g335, g336, mf340, hTH327⟩)
      · have k323 := i_eq c322
        exfalso
        omega
    · subst hvH321
      refine W.eq (g2 := F0 m 24 ls [.int 0]) rfl ?_
      refine lv_if_ne (tgt := 33) hx hb dX10_readNumber_24 (by decide) (fun c341 => ?_) (fun c341 => ?_)
      · have k342 := i_ne c341
        exfalso
        omega
      · have k342 := i_eq c341
        refine lv_aload_n hx hb dX10_readNumber_27 rfl (lv_at hl 0 rfl) ?_
        refine lv_iconst (v := 2) hx hb dX10_readNumber_28 (by decide) ?_
        refine x_V (As := [.int 2]) (rest := []) C (a_X10_fails l K G s.heap (2) hT ga0 hg_CG hg_TU hg_WD hg_IM) yo_X10_fails wM_X10_235 ⟨⟨by decide, by decide⟩, by decide, by decide⟩ (x_rv C hT (ci := 10) rfl ga0 rg_112) rfl hl.1 rfl (Nat.le_of_ble_eq_true rfl) dX10_readNumber_29 hSH321 (AE_sub (fun _ _ => rfl) (by decide) hSH321.1) (fun vH343 H343 locsH343 pH343 zH343 kH343 hSH343 => ?_)
        obtain ⟨x344, hvH343, bx344, g345, g346, g347, g348, mf349, hTH343⟩ := pH343
        subst hvH343
        have m350 := (etq).trans (MF.r mf349 (k := 17) (by decide) (by decide)).symm
        have m351 := (esp).trans (MF.i mf349 (k := 19) (by decide) (by decide)).symm
        have m352 := (efr).trans (MF.i mf349 (k := 20) (by decide) (by decide)).symm
        have m353 := (etk).trans (MF.i mf349 (k := 21) (by decide) (by decide)).symm
        have m354 := (evl).trans (MF.i mf349 (k := 22) (by decide) (by decide)).symm
        have m355 := (etp).trans (MF.i mf349 (k := 18) (by decide) (by decide)).symm
        have mf356 : MF K s.heap H343 a0 [19, 20, 21, 22, 39, 40] := MF.trans mf0 mf349 (by decide)
        refine W.eq (g2 := F0 m 32 ls [.int x344]) rfl ?_
        exact x_iret C hQ dX10_readNumber_32 hSH343 (by decide) (by decide) (⟨x344, sp, fr, tk, vl, rfl, m351, m352, m353, m354, by omega, m350, g345, g346, g347, g348, mf356, hTH343⟩)
  · have k319 := i_ne c318
    refine lv_aload_n hx hb dX10_readNumber_8 rfl (lv_at hl 0 rfl) ?_
    refine lv_iconst (v := 1) hx hb dX10_readNumber_9 (by decide) ?_
    refine x_V (As := [.int 1]) (rest := []) C (a_X10_fails l K G s.heap (1) hT ga0 hg_CG hg_TU hg_WD hg_IM) yo_X10_fails wM_X10_235 ⟨⟨by decide, by decide⟩, by decide, by decide⟩ (x_rv C hT (ci := 10) rfl ga0 rg_112) rfl hl.1 rfl (Nat.le_of_ble_eq_true rfl) dX10_readNumber_10 hS (AE_sub (fun _ _ => rfl) (by decide) hS.1) (fun vH357 H357 locsH357 pH357 zH357 kH357 hSH357 => ?_)
    obtain ⟨x358, hvH357, bx358, g359, g360, g361, g362, mf363, hTH357⟩ := pH357
    subst hvH357
    have m364 := (etq).trans (MF.r mf363 (k := 17) (by decide) (by decide)).symm
    have m365 := (esp).trans (MF.i mf363 (k := 19) (by decide) (by decide)).symm
    have m366 := (efr).trans (MF.i mf363 (k := 20) (by decide) (by decide)).symm
    have m367 := (etk).trans (MF.i mf363 (k := 21) (by decide) (by decide)).symm
    have m368 := (evl).trans (MF.i mf363 (k := 22) (by decide) (by decide)).symm
    have m369 := (etp).trans (MF.i mf363 (k := 18) (by decide) (by decide)).symm
    have mf370 : MF K s.heap H357 a0 [19, 20, 21, 22, 39, 40] := MF.trans mf0 mf363 (by decide)
    refine W.eq (g2 := F0 m 13 ls [.int x358]) rfl ?_
    exact x_iret C hQ dX10_readNumber_13 hSH357 (by decide) (by decide) (⟨x358, sp, fr, tk, vl, rfl, m365, m366, m367, m368, by omega, m364, g359, g360, g361, g362, mf370, hTH357⟩)

set_option maxHeartbeats 4000000 in
set_option maxRecDepth 100000 in
theorem a_X10_isBegin (l : Launch) (K : KE) (G : Nat → Option Nat) (H : Heap) {a0 : Nat} (tk : Int32) (vl : Int32) (hT : TY K G H) (ga0 : G a0 = some 112) (etk : tk = fI H a0 (K.1.2 10 21)) (evl : vl = fI H a0 (K.1.2 10 22)) : MX l K yX10_isBegin cX10_isBegin 1 (some .boolean) 0 0 0 0 [.ref a0] H (AE G [] H.size) (fun v H1 => ∃ (r : Int32), v = some (.int r) ∧ (0 ≤ r.toInt ∧ r.toInt ≤ 1) ∧ (r.toInt = 0 ∨ tk.toInt = 2) ∧ TY K G H1) := by
  refine MX.of (by decide +kernel) (Nat.le_of_ble_eq_true rfl) ?_
  intro p e s m below meth c ls Q C hH hl hQ
  subst hH
  have C : CX p K s m _ meth c RX10 cX10_isBegin 1 (some .boolean) "isBegin" := C
  obtain ⟨hx, hb, hml, hown, hts, hKT, hr, hlocks, hnm⟩ := id C
  have hl : lv_has ls 1 [(0, .ref a0)] := hl
  have hS : va_S (AE G [] s.heap.size) s.heap s.heap [] := va_S.rf
  have n_0 : (0 : Int32).toInt = 0 := rfl
  have n_1 : (1 : Int32).toInt = 1 := rfl
  have n_2 : (2 : Int32).toInt = 2 := rfl
  have n_3 : (3 : Int32).toInt = 3 := rfl
  have n_4 : (4 : Int32).toInt = 4 := rfl
  have n_5 : (5 : Int32).toInt = 5 := rfl
  have n_17 : (17 : Int32).toInt = 17 := rfl
  have btk := ty_fi (x := tk) (k := 21) etk hT ga0 rg_112 rfl
  have bvl := ty_fi (x := vl) (k := 22) evl hT ga0 rg_112 rfl
  have hap : ∀ x y, x < 74 → y < 74 → x ≠ y → K.1.2 10 x ≠ K.1.2 10 y := x_apart hKT hts inX10 tyX10 tyX10_ok nmX10 rfl
  refine lv_aload_n hx hb dX10_isBegin_0 rfl (lv_at hl 0 rfl) ?_
  refine x_gi C hT (ci := 10) (k := 21) rfl inX10 (by decide) wF_X10_202 ga0 rg_112 rfl dX10_isBegin_1 (fun x173 ex173 bx173 => ?_)
  have ux173 : tk = x173 := (etk).trans ex173.symm
  subst ux173
  refine lv_iconst (v := 2) hx hb dX10_isBegin_4 (by decide) ?_
  refine lv_icmp_eq (tgt := 10) hx hb dX10_isBegin_5 (by decide) (fun c174 => ?_) (fun c174 => ?_)
  · have k175 := i_eq c174
    refine lv_aload_n hx hb dX10_isBegin_10 rfl (lv_at hl 0 rfl) ?_
    refine x_gi C hT (ci := 10) (k := 34) rfl inX10 (by decide) wF_X10_231 ga0 rg_112 rfl dX10_isBegin_11 (fun x176 ex176 bx176 => ?_)
    refine lv_if_eq (tgt := 50) hx hb dX10_isBegin_14 (by decide) (fun c177 => ?_) (fun c177 => ?_)
    · have k178 := i_eq c177
      refine lv_aload_n hx hb dX10_isBegin_50 rfl (lv_at hl 0 rfl) ?_
      refine x_gi C hT (ci := 10) (k := 22) rfl inX10 (by decide) wF_X10_205 ga0 rg_112 rfl dX10_isBegin_51 (fun x179 ex179 bx179 => ?_)
      have ux179 : vl = x179 := (evl).trans ex179.symm
      subst ux179
      refine lv_iconst (v := 3) hx hb dX10_isBegin_54 (by decide) ?_
      refine lv_icmp_gt (tgt := 62) hx hb dX10_isBegin_55 (by decide) (fun c180 => ?_) (fun c180 => ?_)
      · have k181 := i_lt c180
        refine lv_iconst (v := 0) hx hb dX10_isBegin_62 (by decide) ?_
        exact x_zret C hQ (Or.inl rfl) dX10_isBegin_63 hS (by decide) (by decide) (⟨0, rfl, by decide, by omega, hT⟩)
      · have k181 := i_nlt c180
        refine lv_iconst (v := 1) hx hb dX10_isBegin_58 (by decide) ?_
        refine lv_goto (tgt := 63) hx hb dX10_isBegin_59 (by decide) ?_
        exact x_zret C hQ (Or.inr rfl) dX10_isBegin_63 hS (by decide) (by decide) (⟨1, rfl, by decide, by omega, hT⟩)
    · have k178 := i_ne c177
      refine lv_aload_n hx hb dX10_isBegin_17 rfl (lv_at hl 0 rfl) ?_
      refine x_gi C hT (ci := 10) (k := 22) rfl inX10 (by decide) wF_X10_205 ga0 rg_112 rfl dX10_isBegin_18 (fun x182 ex182 bx182 => ?_)
      have ux182 : vl = x182 := (evl).trans ex182.symm
      subst ux182
      refine lv_iconst (v := 4) hx hb dX10_isBegin_21 (by decide) ?_
      refine lv_icmp_eq (tgt := 42) hx hb dX10_isBegin_22 (by decide) (fun c183 => ?_) (fun c183 => ?_)
      · have k184 := i_eq c183
        refine lv_iconst (v := 1) hx hb dX10_isBegin_42 (by decide) ?_
        refine lv_goto (tgt := 63) hx hb dX10_isBegin_43 (by decide) ?_
        exact x_zret C hQ (Or.inr rfl) dX10_isBegin_63 hS (by decide) (by decide) (⟨1, rfl, by decide, by omega, hT⟩)
      · have k184 := i_ne c183
        refine lv_aload_n hx hb dX10_isBegin_25 rfl (lv_at hl 0 rfl) ?_
        refine x_gi C hT (ci := 10) (k := 22) rfl inX10 (by decide) wF_X10_205 ga0 rg_112 rfl dX10_isBegin_26 (fun x185 ex185 bx185 => ?_)
        have ux185 : vl = x185 := (evl).trans ex185.symm
        subst ux185
        refine lv_iconst (v := 5) hx hb dX10_isBegin_29 (by decide) ?_
        refine lv_icmp_eq (tgt := 42) hx hb dX10_isBegin_30 (by decide) (fun c186 => ?_) (fun c186 => ?_)
        · have k187 := i_eq c186
          refine lv_iconst (v := 1) hx hb dX10_isBegin_42 (by decide) ?_
          refine lv_goto (tgt := 63) hx hb dX10_isBegin_43 (by decide) ?_
          exact x_zret C hQ (Or.inr rfl) dX10_isBegin_63 hS (by decide) (by decide) (⟨1, rfl, by decide, by omega, hT⟩)
        · have k187 := i_ne c186
          refine lv_aload_n hx hb dX10_isBegin_33 rfl (lv_at hl 0 rfl) ?_
          refine x_gi C hT (ci := 10) (k := 22) rfl inX10 (by decide) wF_X10_205 ga0 rg_112 rfl dX10_isBegin_34 (fun x188 ex188 bx188 => ?_)
          have ux188 : vl = x188 := (evl).trans ex188.symm
          subst ux188
          refine lv_bipush (v := 17) hx hb dX10_isBegin_37 (by decide) ?_
          refine lv_icmp_ne (tgt := 46) hx hb dX10_isBegin_39 (by decide) (fun c189 => ?_) (fun c189 => ?_)
          · have k190 := i_ne c189
            refine lv_iconst (v := 0) hx hb dX10_isBegin_46 (by decide) ?_
            refine lv_goto (tgt := 63) hx hb dX10_isBegin_47 (by decide) ?_
            exact x_zret C hQ (Or.inl rfl) dX10_isBegin_63 hS (by decide) (by decide) (⟨0, rfl, by decide, by omega, hT⟩)
          · have k190 := i_eq c189
            refine lv_iconst (v := 1) hx hb dX10_isBegin_42 (by decide) ?_
            refine lv_goto (tgt := 63) hx hb dX10_isBegin_43 (by decide) ?_
            exact x_zret C hQ (Or.inr rfl) dX10_isBegin_63 hS (by decide) (by decide) (⟨1, rfl, by decide, by omega, hT⟩)
  · have k175 := i_ne c174
    refine lv_iconst (v := 0) hx hb dX10_isBegin_8 (by decide) ?_
    exact x_zret C hQ (Or.inl rfl) dX10_isBegin_9 hS (by decide) (by decide) (⟨0, rfl, by decide, by omega, hT⟩)

set_option maxHeartbeats 4000000 in
set_option maxRecDepth 100000 in
theorem a_X10_readNumbers (l : Launch) (K : KE) (G : Nat → Option Nat) (H : Heap) {a0 : Nat} (x1 : Int32) (x2 : Int32) {tq : Nat} (sp : Int32) (fr : Int32) (tk : Int32) (vl : Int32) (tp : Int32) (hT : TY K G H) (ga0 : G a0 = some 112) (hx1 : 96 ≤ x1.toInt ∧ x1.toInt ≤ 111) (gtq : G tq = some 126) (etq : tq = fR H a0 (K.1.2 10 17)) (esp : sp = fI H a0 (K.1.2 10 19)) (efr : fr = fI H a0 (K.1.2 10 20)) (etk : tk = fI H a0 (K.1.2 10 21)) (evl : vl = fI H a0 (K.1.2 10 22)) (etp : tp = fI H a0 (K.1.2 10 18)) (hg_CG : CG (avw K H a0)) (hg_TU : TU (avw K H a0) (svw K H a0)) (hg_WD : WD (avw K H a0)) (hg_IM : IM (avw K H a0)) (hp0 : (sp.toInt ≤ tp.toInt ∧ fr.toInt ≤ sp.toInt ∧ (tk.toInt = 0 ∨ fr.toInt < sp.toInt) ∧ (tk.toInt ≠ 2 ∨ (0 ≤ vl.toInt ∧ vl.toInt ≤ 23)))) : MX l K yX10_readNumbers cX10_readNumbers 3 (some .int) 4 88 0 0 [.ref a0, .int x1, .int x2] H (AE G [112, 130, 131, 132] H.size) (fun v H1 => ∃ (r : Int32) (t0 : Int32) (t1 : Int32) (t2 : Int32) (t3 : Int32), v = some (.int r) ∧ t0 = fI H1 a0 (K.1.2 10 19) ∧ t1 = fI H1 a0 (K.1.2 10 20) ∧ t2 = fI H1 a0 (K.1.2 10 21) ∧ t3 = fI H1 a0 (K.1.2 10 22) ∧ (r.toInt = -1 ∨ ((t0.toInt ≤ tp.toInt ∧ t1.toInt ≤ t0.toInt ∧ (t2.toInt = 0 ∨ t1.toInt < t0.toInt) ∧ (t2.toInt ≠ 2 ∨ (0 ≤ t3.toInt ∧ t3.toInt ≤ 23))) ∧ fr.toInt ≤ t1.toInt)) ∧ tq = fR H1 a0 (K.1.2 10 17) ∧ (CG (avw K H1 a0)) ∧ (TU (avw K H1 a0) (svw K H1 a0)) ∧ (WD (avw K H1 a0)) ∧ (IM (avw K H1 a0)) ∧ MF K H H1 a0 [19, 20, 21, 22, 39, 40] ∧ TY K G H1) := by
  refine MX.of (by decide +kernel) (Nat.le_of_ble_eq_true rfl) ?_
  intro p e s m below meth c ls Q C hH hl hQ
  subst hH
  have C : CX p K s m _ meth c RX10 cX10_readNumbers 3 (some .int) "readNumbers" := C
  obtain ⟨hx, hb, hml, hown, hts, hKT, hr, hlocks, hnm⟩ := id C
  have hl : lv_has ls 3 [(0, .ref a0), (1, .int x1), (2, .int x2)] := hl
  have hS : va_S (AE G [112, 130, 131, 132] s.heap.size) s.heap s.heap [] := va_S.rf
  have n_m1 : ((-1) : Int32).toInt = -1 := rfl
  have n_0 : (0 : Int32).toInt = 0 := rfl
  have n_1 : (1 : Int32).toInt = 1 := rfl
  have n_2 : (2 : Int32).toInt = 2 := rfl
  have n_3 : (3 : Int32).toInt = 3 := rfl
  have n_5 : (5 : Int32).toInt = 5 := rfl
  have n_9 : (9 : Int32).toInt = 9 := rfl
  have n_15 : (15 : Int32).toInt = 15 := rfl
  have n_17 : (17 : Int32).toInt = 17 := rfl
  have n_99 : (99 : Int32).toInt = 99 := rfl
  have bsp := ty_fi (x := sp) (k := 19) esp hT ga0 rg_112 rfl
  have bfr := ty_fi (x := fr) (k := 20) efr hT ga0 rg_112 rfl
  have btk := ty_fi (x := tk) (k := 21) etk hT ga0 rg_112 rfl
  have bvl := ty_fi (x := vl) (k := 22) evl hT ga0 rg_112 rfl
  have btp := ty_fi (x := tp) (k := 18) etp hT ga0 rg_112 rfl
  have hap : ∀ x y, x < 74 → y < 74 → x ≠ y → K.1.2 10 x ≠ K.1.2 10 y := x_apart hKT hts inX10 tyX10 tyX10_ok nmX10 rfl
  have mf0 : MF K s.heap s.heap a0 [19, 20, 21, 22, 39, 40] := fun _ _ _ => rfl
  refine lv_aload_n hx hb dX10_readNumbers_0 rfl (lv_at hl 0 rfl) ?_
  refine x_gr C hT (ci := 10) (k := 26) rfl inX10 (by decide) wF_X10_65 ga0 rg_112 rfl dX10_readNumbers_1 (fun q1509 eq1509 gq1509 => ?_)
  refine lv_iload_n hx hb dX10_readNumbers_4 rfl (lv_at hl 1 rfl) ?_
  refine lv_iconst (v := 0) hx hb dX10_readNumbers_5 (by decide) ?_
  refine x_iast C hT hS gq1509 rg_130 (by omega) (by show _ < ((112 : Nat) : Int); omega) (by decide) (AE_in gq1509 (by decide)) dX10_readNumbers_6 (fun H1510 locsH1510 hTH1510 hSH1510 wH1510 => ?_)
  have mf1511 : MF K s.heap H1510 a0 [19, 20, 21, 22, 39, 40] := MF.arr wH1510 (G_ne ga0 gq1509 (by decide)) mf0
  have g1512 : CG (avw K H1510 a0) := CG.congr (fun k hk j => av_arr hT ga0 wH1510 gq1509 (by decide) (CG_ok 130 (by decide) k hk)) hg_CG
  have g1513 : TU (avw K H1510 a0) (svw K H1510 a0) := TU.congr (fun k hk j => av_arr hT ga0 wH1510 gq1509 (by decide) (TU_ok 130 (by decide) k hk)) (fun k hk => sv_arr ga0 wH1510 gq1509 (by decide)) hg_TU
  have g1514 : WD (avw K H1510 a0) := WD.congr (fun k hk j => av_arr hT ga0 wH1510 gq1509 (by decide) (WD_ok 130 (by decide) k hk)) hg_WD
  have g1515 : IM (avw K H1510 a0) := IM.congr (fun k hk j => av_arr hT ga0 wH1510 gq1509 (by decide) (IM_ok 130 (by decide) k hk)) hg_IM
  have m1516 := etq.trans (Wr.neR wH1510 (Or.inl (G_ne ga0 gq1509 (by decide)))).symm
  have m1517 := esp.trans (Wr.neI wH1510 (Or.inl (G_ne ga0 gq1509 (by decide)))).symm
  have m1518 := efr.trans (Wr.neI wH1510 (Or.inl (G_ne ga0 gq1509 (by decide)))).symm
  have m1519 := etk.trans (Wr.neI wH1510 (Or.inl (G_ne ga0 gq1509 (by decide)))).symm
  have m1520 := evl.trans (Wr.neI wH1510 (Or.inl (G_ne ga0 gq1509 (by decide)))).symm
  have m1521 := etp.trans (Wr.neI wH1510 (Or.inl (G_ne ga0 gq1509 (by decide)))).symm
  have m1522 := eq1509.trans (Wr.neR wH1510 (Or.inl (G_ne ga0 gq1509 (by decide)))).symm
  have m1523 := Wr.I wH1510
  refine lv_aload_n hx hb dX10_readNumbers_7 rfl (lv_at hl 0 rfl) ?_
  refine x_gr C hTH1510 (ci := 10) (k := 27) rfl inX10 (by decide) wF_X10_68 ga0 rg_112 rfl dX10_readNumbers_8 (fun q1524 eq1524 gq1524 => ?_)
  refine lv_iload_n hx hb dX10_readNumbers_11 rfl (lv_at hl 1 rfl) ?_
  refine lv_iconst (v := 0) hx hb dX10_readNumbers_12 (by decide) ?_
  refine x_iast C hTH1510 hSH1510 gq1524 rg_131 (by omega) (by show _ < ((112 : Nat) : Int); omega) (by decide) (AE_in gq1524 (by decide)) dX10_readNumbers_13 (fun H1525 locsH1525 hTH1525 hSH1525 wH1525 => ?_)
  have mf1526 : MF K s.heap H1525 a0 [19, 20, 21, 22, 39, 40] := MF.arr wH1525 (G_ne ga0 gq1524 (by decide)) mf1511
  have g1527 : CG (avw K H1525 a0) := CG.congr (fun k hk j => av_arr hTH1510 ga0 wH1525 gq1524 (by decide) (CG_ok 131 (by decide) k hk)) g1512
  have g1528 : TU (avw K H1525 a0) (svw K H1525 a0) := TU.congr (fun k hk j => av_arr hTH1510 ga0 wH1525 gq1524 (by decide) (TU_ok 131 (by decide) k hk)) (fun k hk => sv_arr ga0 wH1525 gq1524 (by decide)) g1513
  have g1529 : WD (avw K H1525 a0) := WD.congr (fun k hk j => av_arr hTH1510 ga0 wH1525 gq1524 (by decide) (WD_ok 131 (by decide) k hk)) g1514
  have g1530 : IM (avw K H1525 a0) := IM.congr (fun k hk j => av_arr hTH1510 ga0 wH1525 gq1524 (by decide) (IM_ok 131 (by decide) k hk)) g1515
  have m1531 := m1516.trans (Wr.neR wH1525 (Or.inl (G_ne ga0 gq1524 (by decide)))).symm
  have m1532 := m1517.trans (Wr.neI wH1525 (Or.inl (G_ne ga0 gq1524 (by decide)))).symm
  have m1533 := m1518.trans (Wr.neI wH1525 (Or.inl (G_ne ga0 gq1524 (by decide)))).symm
  have m1534 := m1519.trans (Wr.neI wH1525 (Or.inl (G_ne ga0 gq1524 (by decide)))).symm
  have m1535 := m1520.trans (Wr.neI wH1525 (Or.inl (G_ne ga0 gq1524 (by decide)))).symm
  have m1536 := m1521.trans (Wr.neI wH1525 (Or.inl (G_ne ga0 gq1524 (by decide)))).symm
  have m1537 := m1522.trans (Wr.neR wH1525 (Or.inl (G_ne ga0 gq1524 (by decide)))).symm
  have m1538 := (Wr.neI wH1525 (Or.inl (G_ne gq1509 gq1524 (by decide)))).trans m1523
  have m1539 := eq1524.trans (Wr.neR wH1525 (Or.inl (G_ne ga0 gq1524 (by decide)))).symm
  have m1540 := Wr.I wH1525
  refine lv_aload_n hx hb dX10_readNumbers_14 rfl (lv_at hl 0 rfl) ?_
  refine x_gr C hTH1525 (ci := 10) (k := 28) rfl inX10 (by decide) wF_X10_71 ga0 rg_112 rfl dX10_readNumbers_15 (fun q1541 eq1541 gq1541 => ?_)
  refine lv_iload_n hx hb dX10_readNumbers_18 rfl (lv_at hl 1 rfl) ?_
  refine lv_iconst (v := 0) hx hb dX10_readNumbers_19 (by decide) ?_
  refine x_iast C hTH1525 hSH1525 gq1541 rg_132 (by omega) (by show _ < ((112 : Nat) : Int); omega) (by decide) (AE_in gq1541 (by decide)) dX10_readNumbers_20 (fun H1542 locsH1542 hTH1542 hSH1542 wH1542 => ?_)
  have mf1543 : MF K s.heap H1542 a0 [19, 20, 21, 22, 39, 40] := MF.arr wH1542 (G_ne ga0 gq1541 (by decide)) mf1526
  have g1544 : CG (avw K H1542 a0) := CG.congr (fun k hk j => av_arr hTH1525 ga0 wH1542 gq1541 (by decide) (CG_ok 132 (by decide) k hk)) g1527
  have g1545 : TU (avw K H1542 a0) (svw K H1542 a0) := TU.congr (fun k hk j => av_arr hTH1525 ga0 wH1542 gq1541 (by decide) (TU_ok 132 (by decide) k hk)) (fun k hk => sv_arr ga0 wH1542 gq1541 (by decide)) g1528
  have g1546 : WD (avw K H1542 a0) := WD.congr (fun k hk j => av_arr hTH1525 ga0 wH1542 gq1541 (by decide) (WD_ok 132 (by decide) k hk)) g1529
  have g1547 : IM (avw K H1542 a0) := IM.congr (fun k hk j => av_arr hTH1525 ga0 wH1542 gq1541 (by decide) (IM_ok 132 (by decide) k hk)) g1530
  have m1548 := m1531.trans (Wr.neR wH1542 (Or.inl (G_ne ga0 gq1541 (by decide)))).symm
  have m1549 := m1532.trans (Wr.neI wH1542 (Or.inl (G_ne ga0 gq1541 (by decide)))).symm
  have m1550 := m1533.trans (Wr.neI wH1542 (Or.inl (G_ne ga0 gq1541 (by decide)))).symm
  have m1551 := m1534.trans (Wr.neI wH1542 (Or.inl (G_ne ga0 gq1541 (by decide)))).symm
  have m1552 := m1535.trans (Wr.neI wH1542 (Or.inl (G_ne ga0 gq1541 (by decide)))).symm
  have m1553 := m1536.trans (Wr.neI wH1542 (Or.inl (G_ne ga0 gq1541 (by decide)))).symm
  have m1554 := m1537.trans (Wr.neR wH1542 (Or.inl (G_ne ga0 gq1541 (by decide)))).symm
  have m1555 := (Wr.neI wH1542 (Or.inl (G_ne gq1509 gq1541 (by decide)))).trans m1538
  have m1556 := m1539.trans (Wr.neR wH1542 (Or.inl (G_ne ga0 gq1541 (by decide)))).symm
  have m1557 := (Wr.neI wH1542 (Or.inl (G_ne gq1524 gq1541 (by decide)))).trans m1540
  have m1558 := eq1541.trans (Wr.neR wH1542 (Or.inl (G_ne ga0 gq1541 (by decide)))).symm
  have m1559 := Wr.I wH1542
  refine lv_iload_n hx hb dX10_readNumbers_21 rfl (lv_at hl 2 rfl) ?_
  refine lv_iconst (v := 3) hx hb dX10_readNumbers_22 (by decide) ?_
  refine lv_icmp_ne (tgt := 28) hx hb dX10_readNumbers_23 (by decide) (fun c1560 => ?_) (fun c1560 => ?_)
  · have k1561 := i_ne c1560
    refine lv_aload_n hx hb dX10_readNumbers_28 rfl (lv_at hl 0 rfl) ?_
    refine x_gr C hTH1542 (ci := 10) (k := 26) rfl inX10 (by decide) wF_X10_65 ga0 rg_112 rfl dX10_readNumbers_29 (fun q1562 eq1562 gq1562 => ?_)
    have uq1562 : q1509 = q1562 := (m1554).trans eq1562.symm
    subst uq1562
    refine lv_iload_n hx hb dX10_readNumbers_32 rfl (lv_at hl 1 rfl) ?_
    refine lv_aload_n hx hb dX10_readNumbers_33 rfl (lv_at hl 0 rfl) ?_
    refine lv_iconst (v := 0) hx hb dX10_readNumbers_34 (by decide) ?_
    refine lv_aload_n hx hb dX10_readNumbers_35 rfl (lv_at hl 0 rfl) ?_
    refine x_gi C hTH1542 (ci := 10) (k := 34) rfl inX10 (by decide) wF_X10_231 ga0 rg_112 rfl dX10_readNumbers_36 (fun x1563 ex1563 bx1563 => ?_)
    refine lv_if_eq (tgt := 47) hx hb dX10_readNumbers_39 (by decide) (fun c1564 => ?_) (fun c1564 => ?_)
    · have k1565 := i_eq c1564
      refine lv_iconst (v := 2) hx hb dX10_readNumbers_47 (by decide) ?_
      refine x_V (As := [.int 0, .int 2]) (rest := [.int x1, .ref q1509]) C (a_X10_readNumber l K G H1542 (0) (2) (sp) (fr) (tk) (vl) (tp) hTH1542 ga0 (by decide) (by decide) gtq m1548 m1549 m1550 m1551 m1552 m1553 g1544 g1545 g1546 g1547 (by omega)) yo_X10_readNumber wM_X10_276 ⟨⟨by decide, by decide⟩, by decide, by decide⟩ (x_rv C hTH1542 (ci := 10) rfl ga0 rg_112) rfl hl.1 rfl (Nat.le_of_ble_eq_true rfl) dX10_readNumbers_48 hSH1542 (AE_sub (fun _ _ => rfl) (by decide) hSH1542.1) (fun vH1566 H1566 locsH1566 pH1566 zH1566 kH1566 hSH1566 => ?_)
      obtain ⟨x1567, x1568, x1569, x1570, x1571, hvH1566, ex1568, ex1569, ex1570, ex1571, hrH1566, m1572, g1573, g1574, g1575, g1576, mf1577, hTH1566⟩ := pH1566
      subst hvH1566
      have m1578 := (fI_kept (x_lt hTH1542 kH1566 gq1509 (by decide))).trans m1555
      have m1579 := (fI_kept (x_lt hTH1542 kH1566 gq1524 (by decide))).trans m1557
      have m1580 := (fI_kept (x_lt hTH1542 kH1566 gq1541 (by decide))).trans m1559
      have m1581 := (m1548).trans (MF.r mf1577 (k := 17) (by decide) (by decide)).symm
      have m1582 := (m1553).trans (MF.i mf1577 (k := 18) (by decide) (by decide)).symm
      have m1583 := (m1554).trans (MF.r mf1577 (k := 26) (by decide) (by decide)).symm
      have m1584 := (m1556).trans (MF.r mf1577 (k := 27) (by decide) (by decide)).symm
      have m1585 := (m1558).trans (MF.r mf1577 (k := 28) (by decide) (by decide)).symm
      have m1586 := (ex1563).trans (MF.i mf1577 (k := 34) (by decide) (by decide)).symm
      have mf1587 : MF K s.heap H1566 a0 [19, 20, 21, 22, 39, 40] := MF.trans mf1543 mf1577 (by decide)
      have bx1568 := ty_fi (x := x1568) (k := 19) ex1568 hTH1566 ga0 rg_112 rfl
      have bx1569 := ty_fi (x := x1569) (k := 20) ex1569 hTH1566 ga0 rg_112 rfl
      have bx1570 := ty_fi (x := x1570) (k := 21) ex1570 hTH1566 ga0 rg_112 rfl
      have bx1571 := ty_fi (x := x1571) (k := 22) ex1571 hTH1566 ga0 rg_112 rfl
      refine W.eq (g2 := F0 m 51 ls [.int x1567, .int x1, .ref q1509]) rfl ?_
      refine x_iast C hTH1566 hSH1566 gq1509 rg_130 (by omega) (by show _ < ((112 : Nat) : Int); omega) ⟨by have := i_rng x1567; omega, by have := i_rng x1567; omega⟩ (AE_in gq1509 (by decide)) dX10_readNumbers_51 (fun H1588 locsH1588 hTH1588 hSH1588 wH1588 => ?_)
      have mf1589 : MF K s.heap H1588 a0 [19, 20, 21, 22, 39, 40] := MF.arr wH1588 (G_ne ga0 gq1509 (by decide)) mf1587
      have g1590 : CG (avw K H1588 a0) := CG.congr (fun k hk j => av_arr hTH1566 ga0 wH1588 gq1509 (by decide) (CG_ok 130 (by decide) k hk)) g1573
      have g1591 : TU (avw K H1588 a0) (svw K H1588 a0) := TU.congr (fun k hk j => av_arr hTH1566 ga0 wH1588 gq1509 (by decide) (TU_ok 130 (by decide) k hk)) (fun k hk => sv_arr ga0 wH1588 gq1509 (by decide)) g1574
      have g1592 : WD (avw K H1588 a0) := WD.congr (fun k hk j => av_arr hTH1566 ga0 wH1588 gq1509 (by decide) (WD_ok 130 (by decide) k hk)) g1575
      have g1593 : IM (avw K H1588 a0) := IM.congr (fun k hk j => av_arr hTH1566 ga0 wH1588 gq1509 (by decide) (IM_ok 130 (by decide) k hk)) g1576
      have m1595 := (Wr.neI wH1588 (Or.inl (G_ne gq1524 gq1509 (by decide)))).trans m1579
      have m1596 := (Wr.neI wH1588 (Or.inl (G_ne gq1541 gq1509 (by decide)))).trans m1580
      have m1597 := m1572.trans (Wr.neR wH1588 (Or.inl (G_ne ga0 gq1509 (by decide)))).symm
      have m1598 := m1582.trans (Wr.neI wH1588 (Or.inl (G_ne ga0 gq1509 (by decide)))).symm
      have m1599 := m1583.trans (Wr.neR wH1588 (Or.inl (G_ne ga0 gq1509 (by decide)))).symm
      have m1600 := m1584.trans (Wr.neR wH1588 (Or.inl (G_ne ga0 gq1509 (by decide)))).symm
      have m1601 := m1585.trans (Wr.neR wH1588 (Or.inl (G_ne ga0 gq1509 (by decide)))).symm
      have m1602 := m1586.trans (Wr.neI wH1588 (Or.inl (G_ne ga0 gq1509 (by decide)))).symm
      have m1603 := ex1568.trans (Wr.neI wH1588 (Or.inl (G_ne ga0 gq1509 (by decide)))).symm
      have m1604 := ex1569.trans (Wr.neI wH1588 (Or.inl (G_ne ga0 gq1509 (by decide)))).symm
      have m1605 := ex1570.trans (Wr.neI wH1588 (Or.inl (G_ne ga0 gq1509 (by decide)))).symm
      have m1606 := ex1571.trans (Wr.neI wH1588 (Or.inl (G_ne ga0 gq1509 (by decide)))).symm
      have m1607 := Wr.I wH1588
      have m1607 := m1607.symm
      refine lv_aload_n hx hb dX10_readNumbers_52 rfl (lv_at hl 0 rfl) ?_
      refine x_gr C hTH1588 (ci := 10) (k := 26) rfl inX10 (by decide) wF_X10_65 ga0 rg_112 rfl dX10_readNumbers_53 (fun q1608 eq1608 gq1608 => ?_)
      have uq1608 : q1509 = q1608 := (m1599).trans eq1608.symm
      subst uq1608
      refine lv_iload_n hx hb dX10_readNumbers_56 rfl (lv_at hl 1 rfl) ?_
      refine x_ai C hTH1588 gq1509 rg_130 ⟨by omega, by show _ < ((112 : Nat) : Int); omega⟩ dX10_readNumbers_57 (fun x1609 ex1609 bx1609 => ?_)
      have ux1609 : x1567 = x1609 := (m1607).trans ex1609.symm
      subst ux1609
      refine lv_iconst (v := (-1)) hx hb dX10_readNumbers_58 (by decide) ?_
      refine lv_icmp_eq (tgt := 69) hx hb dX10_readNumbers_59 (by decide) (fun c1610 => ?_) (fun c1610 => ?_)
      · have k1611 := i_eq c1610
        refine lv_aload_n hx hb dX10_readNumbers_69 rfl (lv_at hl 0 rfl) ?_
        refine x_gr C hTH1588 (ci := 10) (k := 26) rfl inX10 (by decide) wF_X10_65 ga0 rg_112 rfl dX10_readNumbers_70 (fun q1612 eq1612 gq1612 => ?_)
        have uq1612 : q1509 = q1612 := (m1599).trans eq1612.symm
        subst uq1612
        refine lv_iload_n hx hb dX10_readNumbers_73 rfl (lv_at hl 1 rfl) ?_
        refine x_ai C hTH1588 gq1509 rg_130 ⟨by omega, by show _ < ((112 : Nat) : Int); omega⟩ dX10_readNumbers_74 (fun x1613 ex1613 bx1613 => ?_)
        have ux1613 : x1567 = x1613 := (m1607).trans ex1613.symm
        subst ux1613
        exact x_iret C hQ dX10_readNumbers_75 hSH1588 (by decide) (by decide) (⟨x1567, x1568, x1569, x1570, x1571, rfl, m1603, m1604, m1605, m1606, by omega, m1597, g1590, g1591, g1592, g1593, mf1589, hTH1588⟩)
      · have k1611 := i_ne c1610
        refine lv_aload_n hx hb dX10_readNumbers_62 rfl (lv_at hl 0 rfl) ?_
        refine x_gi C hTH1588 (ci := 10) (k := 34) rfl inX10 (by decide) wF_X10_231 ga0 rg_112 rfl dX10_readNumbers_63 (fun x1614 ex1614 bx1614 => ?_)
        have ux1614 : x1563 = x1614 := (m1602).trans ex1614.symm
        subst ux1614
        refine lv_if_ne (tgt := 76) hx hb dX10_readNumbers_66 (by decide) (fun c1615 => ?_) (fun c1615 => ?_)
        · have k1616 := i_ne c1615
          exfalso
          omega
        · have k1616 := i_eq c1615
          refine lv_aload_n hx hb dX10_readNumbers_69 rfl (lv_at hl 0 rfl) ?_
          refine x_gr C hTH1588 (ci := 10) (k := 26) rfl inX10 (by decide) wF_X10_65 ga0 rg_112 rfl dX10_readNumbers_70 (fun q1617 eq1617 gq1617 => ?_)
          have uq1617 : q1509 = q1617 := (m1599).trans eq1617.symm
          subst uq1617
          refine lv_iload_n hx hb dX10_readNumbers_73 rfl (lv_at hl 1 rfl) ?_
          refine x_ai C hTH1588 gq1509 rg_130 ⟨by omega, by show _ < ((112 : Nat) : Int); omega⟩ dX10_readNumbers_74 (fun x1618 ex1618 bx1618 => ?_)
          have ux1618 : x1567 = x1618 := (m1607).trans ex1618.symm
          subst ux1618
          exact x_iret C hQ dX10_readNumbers_75 hSH1588 (by decide) (by decide) (⟨x1567, x1568, x1569, x1570, x1571, rfl, m1603, m1604, m1605, m1606, by omega, m1597, g1590, g1591, g1592, g1593, mf1589, hTH1588⟩)
    · have k1565 := i_ne c1564
      refine lv_bipush (v := 15) hx hb dX10_readNumbers_42 (by decide) ?_
      refine lv_goto (tgt := 48) hx hb dX10_readNumbers_44 (by decide) ?_
      refine x_V (As := [.int 0, .int 15]) (rest := [.int x1, .ref q1509]) C (a_X10_readNumber l K G H1542 (0) (15) (sp) (fr) (tk) (vl) (tp) hTH1542 ga0 (by decide) (by decide) gtq m1548 m1549 m1550 m1551 m1552 m1553 g1544 g1545 g1546 g1547 (by omega)) yo_X10_readNumber wM_X10_276 ⟨⟨by decide, by decide⟩, by decide, by decide⟩ (x_rv C hTH1542 (ci := 10) rfl ga0 rg_112) rfl hl.1 rfl (Nat.le_of_ble_eq_true rfl) dX10_readNumbers_48 hSH1542 (AE_sub (fun _ _ => rfl) (by decide) hSH1542.1) (fun vH1619 H1619 locsH1619 pH1619 zH1619 kH1619 hSH1619 => ?_)
      obtain ⟨x1620, x1621, x1622, x1623, x1624, hvH1619, ex1621, ex1622, ex1623, ex1624, hrH1619, m1625, g1626, g1627, g1628, g1629, mf1630, hTH1619⟩ := pH1619
      subst hvH1619
      have m1631 := (fI_kept (x_lt hTH1542 kH1619 gq1509 (by decide))).trans m1555
      have m1632 := (fI_kept (x_lt hTH1542 kH1619 gq1524 (by decide))).trans m1557
      have m1633 := (fI_kept (x_lt hTH1542 kH1619 gq1541 (by decide))).trans m1559
      have m1634 := (m1548).trans (MF.r mf1630 (k := 17) (by decide) (by decide)).symm
      have m1635 := (m1553).trans (MF.i mf1630 (k := 18) (by decide) (by decide)).symm
      have m1636 := (m1554).trans (MF.r mf1630 (k := 26) (by decide) (by decide)).symm
      have m1637 := (m1556).trans (MF.r mf1630 (k := 27) (by decide) (by decide)).symm
      have m1638 := (m1558).trans (MF.r mf1630 (k := 28) (by decide) (by decide)).symm
      have m1639 := (ex1563).trans (MF.i mf1630 (k := 34) (by decide) (by decide)).symm
      have mf1640 : MF K s.heap H1619 a0 [19, 20, 21, 22, 39, 40] := MF.trans mf1543 mf1630 (by decide)
      have bx1621 := ty_fi (x := x1621) (k := 19) ex1621 hTH1619 ga0 rg_112 rfl
      have bx1622 := ty_fi (x := x1622) (k := 20) ex1622 hTH1619 ga0 rg_112 rfl
      have bx1623 := ty_fi (x := x1623) (k := 21) ex1623 hTH1619 ga0 rg_112 rfl
      have bx1624 := ty_fi (x := x1624) (k := 22) ex1624 hTH1619 ga0 rg_112 rfl
      refine W.eq (g2 := F0 m 51 ls [.int x1620, .int x1, .ref q1509]) rfl ?_
      refine x_iast C hTH1619 hSH1619 gq1509 rg_130 (by omega) (by show _ < ((112 : Nat) : Int); omega) ⟨by have := i_rng x1620; omega, by have := i_rng x1620; omega⟩ (AE_in gq1509 (by decide)) dX10_readNumbers_51 (fun H1641 locsH1641 hTH1641 hSH1641 wH1641 => ?_)
      have mf1642 : MF K s.heap H1641 a0 [19, 20, 21, 22, 39, 40] := MF.arr wH1641 (G_ne ga0 gq1509 (by decide)) mf1640
      have g1643 : CG (avw K H1641 a0) := CG.congr (fun k hk j => av_arr hTH1619 ga0 wH1641 gq1509 (by decide) (CG_ok 130 (by decide) k hk)) g1626
      have g1644 : TU (avw K H1641 a0) (svw K H1641 a0) := TU.congr (fun k hk j => av_arr hTH1619 ga0 wH1641 gq1509 (by decide) (TU_ok 130 (by decide) k hk)) (fun k hk => sv_arr ga0 wH1641 gq1509 (by decide)) g1627
      have g1645 : WD (avw K H1641 a0) := WD.congr (fun k hk j => av_arr hTH1619 ga0 wH1641 gq1509 (by decide) (WD_ok 130 (by decide) k hk)) g1628
      have g1646 : IM (avw K H1641 a0) := IM.congr (fun k hk j => av_arr hTH1619 ga0 wH1641 gq1509 (by decide) (IM_ok 130 (by decide) k hk)) g1629
      have m1648 := (Wr.neI wH1641 (Or.inl (G_ne gq1524 gq1509 (by decide)))).trans m1632
      have m1649 := (Wr.neI wH1641 (Or.inl (G_ne gq1541 gq1509 (by decide)))).trans m1633
      have m1650 := m1625.trans (Wr.neR wH1641 (Or.inl (G_ne ga0 gq1509 (by decide)))).symm
      have m1651 := m1635.trans (Wr.neI wH1641 (Or.inl (G_ne ga0 gq1509 (by decide)))).symm
      have m1652 := m1636.trans (Wr.neR wH1641 (Or.inl (G_ne ga0 gq1509 (by decide)))).symm
      have m1653 := m1637.trans (Wr.neR wH1641 (Or.inl (G_ne ga0 gq1509 (by decide)))).symm
      have m1654 := m1638.trans (Wr.neR wH1641 (Or.inl (G_ne ga0 gq1509 (by decide)))).symm
      have m1655 := m1639.trans (Wr.neI wH1641 (Or.inl (G_ne ga0 gq1509 (by decide)))).symm
      have m1656 := ex1621.trans (Wr.neI wH1641 (Or.inl (G_ne ga0 gq1509 (by decide)))).symm
      have m1657 := ex1622.trans (Wr.neI wH1641 (Or.inl (G_ne ga0 gq1509 (by decide)))).symm
      have m1658 := ex1623.trans (Wr.neI wH1641 (Or.inl (G_ne ga0 gq1509 (by decide)))).symm
      have m1659 := ex1624.trans (Wr.neI wH1641 (Or.inl (G_ne ga0 gq1509 (by decide)))).symm
      have m1660 := Wr.I wH1641
      have m1660 := m1660.symm
      refine lv_aload_n hx hb dX10_readNumbers_52 rfl (lv_at hl 0 rfl) ?_
      refine x_gr C hTH1641 (ci := 10) (k := 26) rfl inX10 (by decide) wF_X10_65 ga0 rg_112 rfl dX10_readNumbers_53 (fun q1661 eq1661 gq1661 => ?_)
      have uq1661 : q1509 = q1661 := (m1652).trans eq1661.symm
      subst uq1661
      refine lv_iload_n hx hb dX10_readNumbers_56 rfl (lv_at hl 1 rfl) ?_
      refine x_ai C hTH1641 gq1509 rg_130 ⟨by omega, by show _ < ((112 : Nat) : Int); omega⟩ dX10_readNumbers_57 (fun x1662 ex1662 bx1662 => ?_)
      have ux1662 : x1620 = x1662 := (m1660).trans ex1662.symm
      subst ux1662
      refine lv_iconst (v := (-1)) hx hb dX10_readNumbers_58 (by decide) ?_
      refine lv_icmp_eq (tgt := 69) hx hb dX10_readNumbers_59 (by decide) (fun c1663 => ?_) (fun c1663 => ?_)
      · have k1664 := i_eq c1663
        refine lv_aload_n hx hb dX10_readNumbers_69 rfl (lv_at hl 0 rfl) ?_
        refine x_gr C hTH1641 (ci := 10) (k := 26) rfl inX10 (by decide) wF_X10_65 ga0 rg_112 rfl dX10_readNumbers_70 (fun q1665 eq1665 gq1665 => ?_)
        have uq1665 : q1509 = q1665 := (m1652).trans eq1665.symm
        subst uq1665
        refine lv_iload_n hx hb dX10_readNumbers_73 rfl (lv_at hl 1 rfl) ?_
        refine x_ai C hTH1641 gq1509 rg_130 ⟨by omega, by show _ < ((112 : Nat) : Int); omega⟩ dX10_readNumbers_74 (fun x1666 ex1666 bx1666 => ?_)
        have ux1666 : x1620 = x1666 := (m1660).trans ex1666.symm
        subst ux1666
        exact x_iret C hQ dX10_readNumbers_75 hSH1641 (by decide) (by decide) (⟨x1620, x1621, x1622, x1623, x1624, rfl, m1656, m1657, m1658, m1659, by omega, m1650, g1643, g1644, g1645, g1646, mf1642, hTH1641⟩)
      · have k1664 := i_ne c1663
        refine lv_aload_n hx hb dX10_readNumbers_62 rfl (lv_at hl 0 rfl) ?_
        refine x_gi C hTH1641 (ci := 10) (k := 34) rfl inX10 (by decide) wF_X10_231 ga0 rg_112 rfl dX10_readNumbers_63 (fun x1667 ex1667 bx1667 => ?_)
        have ux1667 : x1563 = x1667 := (m1655).trans ex1667.symm
        subst ux1667
        refine lv_if_ne (tgt := 76) hx hb dX10_readNumbers_66 (by decide) (fun c1668 => ?_) (fun c1668 => ?_)
        · have k1669 := i_ne c1668
          refine lv_iload_n hx hb dX10_readNumbers_76 rfl (lv_at hl 2 rfl) ?_
          refine lv_iconst (v := 5) hx hb dX10_readNumbers_77 (by decide) ?_
          refine lv_icmp_ne (tgt := 94) hx hb dX10_readNumbers_78 (by decide) (fun c1670 => ?_) (fun c1670 => ?_)
          · have k1671 := i_ne c1670
            refine lv_aload_n hx hb dX10_readNumbers_94 rfl (lv_at hl 0 rfl) ?_
            refine x_gr C hTH1641 (ci := 10) (k := 27) rfl inX10 (by decide) wF_X10_68 ga0 rg_112 rfl dX10_readNumbers_95 (fun q1672 eq1672 gq1672 => ?_)
            have uq1672 : q1524 = q1672 := (m1653).trans eq1672.symm
            subst uq1672
            refine lv_iload_n hx hb dX10_readNumbers_98 rfl (lv_at hl 1 rfl) ?_
            refine x_ai C hTH1641 gq1524 rg_131 ⟨by omega, by show _ < ((112 : Nat) : Int); omega⟩ dX10_readNumbers_99 (fun x1673 ex1673 bx1673 => ?_)
            have ux1673 : x1673 = 0 := ex1673.trans m1648
            subst ux1673
            refine lv_iconst (v := (-1)) hx hb dX10_readNumbers_100 (by decide) ?_
            refine lv_icmp_ne (tgt := 106) hx hb dX10_readNumbers_101 (by decide) (fun c1674 => ?_) (fun c1674 => ?_)
            · have k1675 := i_ne c1674
              refine lv_aload_n hx hb dX10_readNumbers_106 rfl (lv_at hl 0 rfl) ?_
              refine x_gr C hTH1641 (ci := 10) (k := 28) rfl inX10 (by decide) wF_X10_71 ga0 rg_112 rfl dX10_readNumbers_107 (fun q1676 eq1676 gq1676 => ?_)
              have uq1676 : q1541 = q1676 := (m1654).trans eq1676.symm
              subst uq1676
              refine lv_iload_n hx hb dX10_readNumbers_110 rfl (lv_at hl 1 rfl) ?_
              refine lv_iload_n hx hb dX10_readNumbers_111 rfl (lv_at hl 2 rfl) ?_
              refine lv_bipush (v := 17) hx hb dX10_readNumbers_112 (by decide) ?_
              refine lv_icmp_ne (tgt := 127) hx hb dX10_readNumbers_114 (by decide) (fun c1677 => ?_) (fun c1677 => ?_)
              · have k1678 := i_ne c1677
                refine lv_aload_n hx hb dX10_readNumbers_127 rfl (lv_at hl 0 rfl) ?_
                refine lv_iconst (v := 1) hx hb dX10_readNumbers_128 (by decide) ?_
                refine lv_bipush (v := 9) hx hb dX10_readNumbers_129 (by decide) ?_
                refine x_V (As := [.int 1, .int 9]) (rest := [.int x1, .ref q1541]) C (a_X10_readNumber l K G H1641 (1) (9) (x1621) (x1622) (x1623) (x1624) (tp) hTH1641 ga0 (by decide) (by decide) gtq m1650 m1656 m1657 m1658 m1659 m1651 g1643 g1644 g1645 g1646 (by omega)) yo_X10_readNumber wM_X10_276 ⟨⟨by decide, by decide⟩, by decide, by decide⟩ (x_rv C hTH1641 (ci := 10) rfl ga0 rg_112) rfl hl.1 rfl (Nat.le_of_ble_eq_true rfl) dX10_readNumbers_131 hSH1641 (AE_sub (fun _ _ => rfl) (by decide) hSH1641.1) (fun vH1679 H1679 locsH1679 pH1679 zH1679 kH1679 hSH1679 => ?_)
                obtain ⟨x1680, x1681, x1682, x1683, x1684, hvH1679, ex1681, ex1682, ex1683, ex1684, hrH1679, m1685, g1686, g1687, g1688, g1689, mf1690, hTH1679⟩ := pH1679
                subst hvH1679
                have m1691 := (fI_kept (x_lt hTH1641 kH1679 gq1524 (by decide))).trans m1648
                have m1692 := (fI_kept (x_lt hTH1641 kH1679 gq1541 (by decide))).trans m1649
                have m1693 := (m1660).trans (fI_kept (x_lt hTH1641 kH1679 gq1509 (by decide))).symm
                have m1694 := (m1650).trans (MF.r mf1690 (k := 17) (by decide) (by decide)).symm
                have m1695 := (m1651).trans (MF.i mf1690 (k := 18) (by decide) (by decide)).symm
                have m1696 := (m1652).trans (MF.r mf1690 (k := 26) (by decide) (by decide)).symm
                have m1697 := (m1653).trans (MF.r mf1690 (k := 27) (by decide) (by decide)).symm
                have m1698 := (m1654).trans (MF.r mf1690 (k := 28) (by decide) (by decide)).symm
                have m1699 := (m1655).trans (MF.i mf1690 (k := 34) (by decide) (by decide)).symm
                have mf1700 : MF K s.heap H1679 a0 [19, 20, 21, 22, 39, 40] := MF.trans mf1642 mf1690 (by decide)
                have bx1681 := ty_fi (x := x1681) (k := 19) ex1681 hTH1679 ga0 rg_112 rfl
                have bx1682 := ty_fi (x := x1682) (k := 20) ex1682 hTH1679 ga0 rg_112 rfl
                have bx1683 := ty_fi (x := x1683) (k := 21) ex1683 hTH1679 ga0 rg_112 rfl
                have bx1684 := ty_fi (x := x1684) (k := 22) ex1684 hTH1679 ga0 rg_112 rfl
                refine W.eq (g2 := F0 m 134 ls [.int x1680, .int x1, .ref q1541]) rfl ?_
                refine x_iast C hTH1679 hSH1679 gq1541 rg_132 (by omega) (by show _ < ((112 : Nat) : Int); omega) ⟨by have := i_rng x1680; omega, by have := i_rng x1680; omega⟩ (AE_in gq1541 (by decide)) dX10_readNumbers_134 (fun H1701 locsH1701 hTH1701 hSH1701 wH1701 => ?_)
                have mf1702 : MF K s.heap H1701 a0 [19, 20, 21, 22, 39, 40] := MF.arr wH1701 (G_ne ga0 gq1541 (by decide)) mf1700
                have g1703 : CG (avw K H1701 a0) := CG.congr (fun k hk j => av_arr hTH1679 ga0 wH1701 gq1541 (by decide) (CG_ok 132 (by decide) k hk)) g1686
                have g1704 : TU (avw K H1701 a0) (svw K H1701 a0) := TU.congr (fun k hk j => av_arr hTH1679 ga0 wH1701 gq1541 (by decide) (TU_ok 132 (by decide) k hk)) (fun k hk => sv_arr ga0 wH1701 gq1541 (by decide)) g1687
                have g1705 : WD (avw K H1701 a0) := WD.congr (fun k hk j => av_arr hTH1679 ga0 wH1701 gq1541 (by decide) (WD_ok 132 (by decide) k hk)) g1688
                have g1706 : IM (avw K H1701 a0) := IM.congr (fun k hk j => av_arr hTH1679 ga0 wH1701 gq1541 (by decide) (IM_ok 132 (by decide) k hk)) g1689
                have m1707 := (Wr.neI wH1701 (Or.inl (G_ne gq1524 gq1541 (by decide)))).trans m1691
                have m1709 := m1693.trans (Wr.neI wH1701 (Or.inl (G_ne gq1509 gq1541 (by decide)))).symm
                have m1710 := m1685.trans (Wr.neR wH1701 (Or.inl (G_ne ga0 gq1541 (by decide)))).symm
                have m1711 := m1695.trans (Wr.neI wH1701 (Or.inl (G_ne ga0 gq1541 (by decide)))).symm
                have m1712 := m1696.trans (Wr.neR wH1701 (Or.inl (G_ne ga0 gq1541 (by decide)))).symm
                have m1713 := m1697.trans (Wr.neR wH1701 (Or.inl (G_ne ga0 gq1541 (by decide)))).symm
                have m1714 := m1698.trans (Wr.neR wH1701 (Or.inl (G_ne ga0 gq1541 (by decide)))).symm
                have m1715 := m1699.trans (Wr.neI wH1701 (Or.inl (G_ne ga0 gq1541 (by decide)))).symm
                have m1716 := ex1681.trans (Wr.neI wH1701 (Or.inl (G_ne ga0 gq1541 (by decide)))).symm
                have m1717 := ex1682.trans (Wr.neI wH1701 (Or.inl (G_ne ga0 gq1541 (by decide)))).symm
                have m1718 := ex1683.trans (Wr.neI wH1701 (Or.inl (G_ne ga0 gq1541 (by decide)))).symm
                have m1719 := ex1684.trans (Wr.neI wH1701 (Or.inl (G_ne ga0 gq1541 (by decide)))).symm
                have m1720 := Wr.I wH1701
                have m1720 := m1720.symm
                refine lv_aload_n hx hb dX10_readNumbers_135 rfl (lv_at hl 0 rfl) ?_
                refine x_gr C hTH1701 (ci := 10) (k := 28) rfl inX10 (by decide) wF_X10_71 ga0 rg_112 rfl dX10_readNumbers_136 (fun q1721 eq1721 gq1721 => ?_)
                have uq1721 : q1541 = q1721 := (m1714).trans eq1721.symm
                subst uq1721
                refine lv_iload_n hx hb dX10_readNumbers_139 rfl (lv_at hl 1 rfl) ?_
                refine x_ai C hTH1701 gq1541 rg_132 ⟨by omega, by show _ < ((112 : Nat) : Int); omega⟩ dX10_readNumbers_140 (fun x1722 ex1722 bx1722 => ?_)
                have ux1722 : x1680 = x1722 := (m1720).trans ex1722.symm
                subst ux1722
                exact x_iret C hQ dX10_readNumbers_141 hSH1701 (by decide) (by decide) (⟨x1680, x1681, x1682, x1683, x1684, rfl, m1716, m1717, m1718, m1719, by omega, m1710, g1703, g1704, g1705, g1706, mf1702, hTH1701⟩)
              · have k1678 := i_eq c1677
                refine lv_aload_n hx hb dX10_readNumbers_117 rfl (lv_at hl 0 rfl) ?_
                refine lv_iconst (v := 0) hx hb dX10_readNumbers_118 (by decide) ?_
                refine lv_bipush (v := 99) hx hb dX10_readNumbers_119 (by decide) ?_
                refine x_V (As := [.int 0, .int 99]) (rest := [.int x1, .ref q1541]) C (a_X10_readNumber l K G H1641 (0) (99) (x1621) (x1622) (x1623) (x1624) (tp) hTH1641 ga0 (by decide) (by decide) gtq m1650 m1656 m1657 m1658 m1659 m1651 g1643 g1644 g1645 g1646 (by omega)) yo_X10_readNumber wM_X10_276 ⟨⟨by decide, by decide⟩, by decide, by decide⟩ (x_rv C hTH1641 (ci := 10) rfl ga0 rg_112) rfl hl.1 rfl (Nat.le_of_ble_eq_true rfl) dX10_readNumbers_121 hSH1641 (AE_sub (fun _ _ => rfl) (by decide) hSH1641.1) (fun vH1723 H1723 locsH1723 pH1723 zH1723 kH1723 hSH1723 => ?_)
                obtain ⟨x1724, x1725, x1726, x1727, x1728, hvH1723, ex1725, ex1726, ex1727, ex1728, hrH1723, m1729, g1730, g1731, g1732, g1733, mf1734, hTH1723⟩ := pH1723
                subst hvH1723
                have m1735 := (fI_kept (x_lt hTH1641 kH1723 gq1524 (by decide))).trans m1648
                have m1736 := (fI_kept (x_lt hTH1641 kH1723 gq1541 (by decide))).trans m1649
                have m1737 := (m1660).trans (fI_kept (x_lt hTH1641 kH1723 gq1509 (by decide))).symm
                have m1738 := (m1650).trans (MF.r mf1734 (k := 17) (by decide) (by decide)).symm
                have m1739 := (m1651).trans (MF.i mf1734 (k := 18) (by decide) (by decide)).symm
                have m1740 := (m1652).trans (MF.r mf1734 (k := 26) (by decide) (by decide)).symm
                have m1741 := (m1653).trans (MF.r mf1734 (k := 27) (by decide) (by decide)).symm
                have m1742 := (m1654).trans (MF.r mf1734 (k := 28) (by decide) (by decide)).symm
                have m1743 := (m1655).trans (MF.i mf1734 (k := 34) (by decide) (by decide)).symm
                have mf1744 : MF K s.heap H1723 a0 [19, 20, 21, 22, 39, 40] := MF.trans mf1642 mf1734 (by decide)
                have bx1725 := ty_fi (x := x1725) (k := 19) ex1725 hTH1723 ga0 rg_112 rfl
                have bx1726 := ty_fi (x := x1726) (k := 20) ex1726 hTH1723 ga0 rg_112 rfl
                have bx1727 := ty_fi (x := x1727) (k := 21) ex1727 hTH1723 ga0 rg_112 rfl
                have bx1728 := ty_fi (x := x1728) (k := 22) ex1728 hTH1723 ga0 rg_112 rfl
                refine W.eq (g2 := F0 m 124 ls [.int x1724, .int x1, .ref q1541]) rfl ?_
                refine lv_goto (tgt := 134) hx hb dX10_readNumbers_124 (by decide) ?_
                refine x_iast C hTH1723 hSH1723 gq1541 rg_132 (by omega) (by show _ < ((112 : Nat) : Int); omega) ⟨by have := i_rng x1724; omega, by have := i_rng x1724; omega⟩ (AE_in gq1541 (by decide)) dX10_readNumbers_134 (fun H1745 locsH1745 hTH1745 hSH1745 wH1745 => ?_)
                have mf1746 : MF K s.heap H1745 a0 [19, 20, 21, 22, 39, 40] := MF.arr wH1745 (G_ne ga0 gq1541 (by decide)) mf1744
                have g1747 : CG (avw K H1745 a0) := CG.congr (fun k hk j => av_arr hTH1723 ga0 wH1745 gq1541 (by decide) (CG_ok 132 (by decide) k hk)) g1730
                have g1748 : TU (avw K H1745 a0) (svw K H1745 a0) := TU.congr (fun k hk j => av_arr hTH1723 ga0 wH1745 gq1541 (by decide) (TU_ok 132 (by decide) k hk)) (fun k hk => sv_arr ga0 wH1745 gq1541 (by decide)) g1731
                have g1749 : WD (avw K H1745 a0) := WD.congr (fun k hk j => av_arr hTH1723 ga0 wH1745 gq1541 (by decide) (WD_ok 132 (by decide) k hk)) g1732
                have g1750 : IM (avw K H1745 a0) := IM.congr (fun k hk j => av_arr hTH1723 ga0 wH1745 gq1541 (by decide) (IM_ok 132 (by decide) k hk)) g1733
                have m1751 := (Wr.neI wH1745 (Or.inl (G_ne gq1524 gq1541 (by decide)))).trans m1735
                have m1753 := m1737.trans (Wr.neI wH1745 (Or.inl (G_ne gq1509 gq1541 (by decide)))).symm
                have m1754 := m1729.trans (Wr.neR wH1745 (Or.inl (G_ne ga0 gq1541 (by decide)))).symm
                have m1755 := m1739.trans (Wr.neI wH1745 (Or.inl (G_ne ga0 gq1541 (by decide)))).symm
                have m1756 := m1740.trans (Wr.neR wH1745 (Or.inl (G_ne ga0 gq1541 (by decide)))).symm
                have m1757 := m1741.trans (Wr.neR wH1745 (Or.inl (G_ne ga0 gq1541 (by decide)))).symm
                have m1758 := m1742.trans (Wr.neR wH1745 (Or.inl (G_ne ga0 gq1541 (by decide)))).symm
                have m1759 := m1743.trans (Wr.neI wH1745 (Or.inl (G_ne ga0 gq1541 (by decide)))).symm
                have m1760 := ex1725.trans (Wr.neI wH1745 (Or.inl (G_ne ga0 gq1541 (by decide)))).symm
                have m1761 := ex1726.trans (Wr.neI wH1745 (Or.inl (G_ne ga0 gq1541 (by decide)))).symm
                have m1762 := ex1727.trans (Wr.neI wH1745 (Or.inl (G_ne ga0 gq1541 (by decide)))).symm
                have m1763 := ex1728.trans (Wr.neI wH1745 (Or.inl (G_ne ga0 gq1541 (by decide)))).symm
                have m1764 := Wr.I wH1745
                have m1764 := m1764.symm
                refine lv_aload_n hx hb dX10_readNumbers_135 rfl (lv_at hl 0 rfl) ?_
                refine x_gr C hTH1745 (ci := 10) (k := 28) rfl inX10 (by decide) wF_X10_71 ga0 rg_112 rfl dX10_readNumbers_136 (fun q1765 eq1765 gq1765 => ?_)
                have uq1765 : q1541 = q1765 := (m1758).trans eq1765.symm
                subst uq1765
                refine lv_iload_n hx hb dX10_readNumbers_139 rfl (lv_at hl 1 rfl) ?_
                refine x_ai C hTH1745 gq1541 rg_132 ⟨by omega, by show _ < ((112 : Nat) : Int); omega⟩ dX10_readNumbers_140 (fun x1766 ex1766 bx1766 => ?_)
                have ux1766 : x1724 = x1766 := (m1764).trans ex1766.symm
                subst ux1766
                exact x_iret C hQ dX10_readNumbers_141 hSH1745 (by decide) (by decide) (⟨x1724, x1725, x1726, x1727, x1728, rfl, m1760, m1761, m1762, m1763, by omega, m1754, g1747, g1748, g1749, g1750, mf1746, hTH1745⟩)
            · have k1675 := i_eq c1674
              exfalso
              omega
          · have k1671 := i_eq c1670
            refine lv_aload_n hx hb dX10_readNumbers_81 rfl (lv_at hl 0 rfl) ?_
            refine x_gr C hTH1641 (ci := 10) (k := 27) rfl inX10 (by decide) wF_X10_68 ga0 rg_112 rfl dX10_readNumbers_82 (fun q1767 eq1767 gq1767 => ?_)
            have uq1767 : q1524 = q1767 := (m1653).trans eq1767.symm
            subst uq1767
            refine lv_iload_n hx hb dX10_readNumbers_85 rfl (lv_at hl 1 rfl) ?_
            refine lv_aload_n hx hb dX10_readNumbers_86 rfl (lv_at hl 0 rfl) ?_
            refine lv_iconst (v := 0) hx hb dX10_readNumbers_87 (by decide) ?_
            refine lv_bipush (v := 15) hx hb dX10_readNumbers_88 (by decide) ?_
            refine x_V (As := [.int 0, .int 15]) (rest := [.int x1, .ref q1524]) C (a_X10_readNumber l K G H1641 (0) (15) (x1621) (x1622) (x1623) (x1624) (tp) hTH1641 ga0 (by decide) (by decide) gtq m1650 m1656 m1657 m1658 m1659 m1651 g1643 g1644 g1645 g1646 (by omega)) yo_X10_readNumber wM_X10_276 ⟨⟨by decide, by decide⟩, by decide, by decide⟩ (x_rv C hTH1641 (ci := 10) rfl ga0 rg_112) rfl hl.1 rfl (Nat.le_of_ble_eq_true rfl) dX10_readNumbers_90 hSH1641 (AE_sub (fun _ _ => rfl) (by decide) hSH1641.1) (fun vH1768 H1768 locsH1768 pH1768 zH1768 kH1768 hSH1768 => ?_)
            obtain ⟨x1769, x1770, x1771, x1772, x1773, hvH1768, ex1770, ex1771, ex1772, ex1773, hrH1768, m1774, g1775, g1776, g1777, g1778, mf1779, hTH1768⟩ := pH1768
            subst hvH1768
            have m1780 := (fI_kept (x_lt hTH1641 kH1768 gq1524 (by decide))).trans m1648
            have m1781 := (fI_kept (x_lt hTH1641 kH1768 gq1541 (by decide))).trans m1649
            have m1782 := (m1660).trans (fI_kept (x_lt hTH1641 kH1768 gq1509 (by decide))).symm
            have m1783 := (m1650).trans (MF.r mf1779 (k := 17) (by decide) (by decide)).symm
            have m1784 := (m1651).trans (MF.i mf1779 (k := 18) (by decide) (by decide)).symm
            have m1785 := (m1652).trans (MF.r mf1779 (k := 26) (by decide) (by decide)).symm
            have m1786 := (m1653).trans (MF.r mf1779 (k := 27) (by decide) (by decide)).symm
            have m1787 := (m1654).trans (MF.r mf1779 (k := 28) (by decide) (by decide)).symm
            have m1788 := (m1655).trans (MF.i mf1779 (k := 34) (by decide) (by decide)).symm
            have mf1789 : MF K s.heap H1768 a0 [19, 20, 21, 22, 39, 40] := MF.trans mf1642 mf1779 (by decide)
            have bx1770 := ty_fi (x := x1770) (k := 19) ex1770 hTH1768 ga0 rg_112 rfl
            have bx1771 := ty_fi (x := x1771) (k := 20) ex1771 hTH1768 ga0 rg_112 rfl
            have bx1772 := ty_fi (x := x1772) (k := 21) ex1772 hTH1768 ga0 rg_112 rfl
            have bx1773 := ty_fi (x := x1773) (k := 22) ex1773 hTH1768 ga0 rg_112 rfl
            refine W.eq (g2 := F0 m 93 ls [.int x1769, .int x1, .ref q1524]) rfl ?_
            refine x_iast C hTH1768 hSH1768 gq1524 rg_131 (by omega) (by show _ < ((112 : Nat) : Int); omega) ⟨by have := i_rng x1769; omega, by have := i_rng x1769; omega⟩ (AE_in gq1524 (by decide)) dX10_readNumbers_93 (fun H1790 locsH1790 hTH1790 hSH1790 wH1790 => ?_)
            have mf1791 : MF K s.heap H1790 a0 [19, 20, 21, 22, 39, 40] := MF.arr wH1790 (G_ne ga0 gq1524 (by decide)) mf1789
            have g1792 : CG (avw K H1790 a0) := CG.congr (fun k hk j => av_arr hTH1768 ga0 wH1790 gq1524 (by decide) (CG_ok 131 (by decide) k hk)) g1775
            have g1793 : TU (avw K H1790 a0) (svw K H1790 a0) := TU.congr (fun k hk j => av_arr hTH1768 ga0 wH1790 gq1524 (by decide) (TU_ok 131 (by decide) k hk)) (fun k hk => sv_arr ga0 wH1790 gq1524 (by decide)) g1776
            have g1794 : WD (avw K H1790 a0) := WD.congr (fun k hk j => av_arr hTH1768 ga0 wH1790 gq1524 (by decide) (WD_ok 131 (by decide) k hk)) g1777
            have g1795 : IM (avw K H1790 a0) := IM.congr (fun k hk j => av_arr hTH1768 ga0 wH1790 gq1524 (by decide) (IM_ok 131 (by decide) k hk)) g1778
            have m1797 := (Wr.neI wH1790 (Or.inl (G_ne gq1541 gq1524 (by decide)))).trans m1781
            have m1798 := m1782.trans (Wr.neI wH1790 (Or.inl (G_ne gq1509 gq1524 (by decide)))).symm
            have m1799 := m1774.trans (Wr.neR wH1790 (Or.inl (G_ne ga0 gq1524 (by decide)))).symm
            have m1800 := m1784.trans (Wr.neI wH1790 (Or.inl (G_ne ga0 gq1524 (by decide)))).symm
            have m1801 := m1785.trans (Wr.neR wH1790 (Or.inl (G_ne ga0 gq1524 (by decide)))).symm
            have m1802 := m1786.trans (Wr.neR wH1790 (Or.inl (G_ne ga0 gq1524 (by decide)))).symm
            have m1803 := m1787.trans (Wr.neR wH1790 (Or.inl (G_ne ga0 gq1524 (by decide)))).symm
            have m1804 := m1788.trans (Wr.neI wH1790 (Or.inl (G_ne ga0 gq1524 (by decide)))).symm
            have m1805 := ex1770.trans (Wr.neI wH1790 (Or.inl (G_ne ga0 gq1524 (by decide)))).symm
            have m1806 := ex1771.trans (Wr.neI wH1790 (Or.inl (G_ne ga0 gq1524 (by decide)))).symm
            have m1807 := ex1772.trans (Wr.neI wH1790 (Or.inl (G_ne ga0 gq1524 (by decide)))).symm
            have m1808 := ex1773.trans (Wr.neI wH1790 (Or.inl (G_ne ga0 gq1524 (by decide)))).symm
            have m1809 := Wr.I wH1790
            have m1809 := m1809.symm
            refine lv_aload_n hx hb dX10_readNumbers_94 rfl (lv_at hl 0 rfl) ?_
            refine x_gr C hTH1790 (ci := 10) (k := 27) rfl inX10 (by decide) wF_X10_68 ga0 rg_112 rfl dX10_readNumbers_95 (fun q1810 eq1810 gq1810 => ?_)
            have uq1810 : q1524 = q1810 := (m1802).trans eq1810.symm
            subst uq1810
            refine lv_iload_n hx hb dX10_readNumbers_98 rfl (lv_at hl 1 rfl) ?_
            refine x_ai C hTH1790 gq1524 rg_131 ⟨by omega, by show _ < ((112 : Nat) : Int); omega⟩ dX10_readNumbers_99 (fun x1811 ex1811 bx1811 => ?_)
            have ux1811 : x1769 = x1811 := (m1809).trans ex1811.symm
            subst ux1811
            refine lv_iconst (v := (-1)) hx hb dX10_readNumbers_100 (by decide) ?_
            refine lv_icmp_ne (tgt := 106) hx hb dX10_readNumbers_101 (by decide) (fun c1812 => ?_) (fun c1812 => ?_)
            · have k1813 := i_ne c1812
              refine lv_aload_n hx hb dX10_readNumbers_106 rfl (lv_at hl 0 rfl) ?_
              refine x_gr C hTH1790 (ci := 10) (k := 28) rfl inX10 (by decide) wF_X10_71 ga0 rg_112 rfl dX10_readNumbers_107 (fun q1814 eq1814 gq1814 => ?_)
              have uq1814 : q1541 = q1814 := (m1803).trans eq1814.symm
              subst uq1814
              refine lv_iload_n hx hb dX10_readNumbers_110 rfl (lv_at hl 1 rfl) ?_
              refine lv_iload_n hx hb dX10_readNumbers_111 rfl (lv_at hl 2 rfl) ?_
              refine lv_bipush (v := 17) hx hb dX10_readNumbers_112 (by decide) ?_
              refine lv_icmp_ne (tgt := 127) hx hb dX10_readNumbers_114 (by decide) (fun c1815 => ?_) (fun c1815 => ?_)
              · have k1816 := i_ne c1815
                refine lv_aload_n hx hb dX10_readNumbers_127 rfl (lv_at hl 0 rfl) ?_
                refine lv_iconst (v := 1) hx hb dX10_readNumbers_128 (by decide) ?_
                refine lv_bipush (v := 9) hx hb dX10_readNumbers_129 (by decide) ?_
                refine x_V (As := [.int 1, .int 9]) (rest := [.int x1, .ref q1541]) C (a_X10_readNumber l K G H1790 (1) (9) (x1770) (x1771) (x1772) (x1773) (tp) hTH1790 ga0 (by decide) (by decide) gtq m1799 m1805 m1806 m1807 m1808 m1800 g1792 g1793 g1794 g1795 (by omega)) yo_X10_readNumber wM_X10_276 ⟨⟨by decide, by decide⟩, by decide, by decide⟩ (x_rv C hTH1790 (ci := 10) rfl ga0 rg_112) rfl hl.1 rfl (Nat.le_of_ble_eq_true rfl) dX10_readNumbers_131 hSH1790 (AE_sub (fun _ _ => rfl) (by decide) hSH1790.1) (fun vH1817 H1817 locsH1817 pH1817 zH1817 kH1817 hSH1817 => ?_)
                obtain ⟨x1818, x1819, x1820, x1821, x1822, hvH1817, ex1819, ex1820, ex1821, ex1822, hrH1817, m1823, g1824, g1825, g1826, g1827, mf1828, hTH1817⟩ := pH1817
                subst hvH1817
                have m1829 := (fI_kept (x_lt hTH1790 kH1817 gq1541 (by decide))).trans m1797
                have m1830 := (m1798).trans (fI_kept (x_lt hTH1790 kH1817 gq1509 (by decide))).symm
                have m1831 := (m1809).trans (fI_kept (x_lt hTH1790 kH1817 gq1524 (by decide))).symm
                have m1832 := (m1799).trans (MF.r mf1828 (k := 17) (by decide) (by decide)).symm
                have m1833 := (m1800).trans (MF.i mf1828 (k := 18) (by decide) (by decide)).symm
                have m1834 := (m1801).trans (MF.r mf1828 (k := 26) (by decide) (by decide)).symm
                have m1835 := (m1802).trans (MF.r mf1828 (k := 27) (by decide) (by decide)).symm
                have m1836 := (m1803).trans (MF.r mf1828 (k := 28) (by decide) (by decide)).symm
                have m1837 := (m1804).trans (MF.i mf1828 (k := 34) (by decide) (by decide)).symm
                have mf1838 : MF K s.heap H1817 a0 [19, 20, 21, 22, 39, 40] := MF.trans mf1791 mf1828 (by decide)
                have bx1819 := ty_fi (x := x1819) (k := 19) ex1819 hTH1817 ga0 rg_112 rfl
                have bx1820 := ty_fi (x := x1820) (k := 20) ex1820 hTH1817 ga0 rg_112 rfl
                have bx1821 := ty_fi (x := x1821) (k := 21) ex1821 hTH1817 ga0 rg_112 rfl
                have bx1822 := ty_fi (x := x1822) (k := 22) ex1822 hTH1817 ga0 rg_112 rfl
                refine W.eq (g2 := F0 m 134 ls [.int x1818, .int x1, .ref q1541]) rfl ?_
                refine x_iast C hTH1817 hSH1817 gq1541 rg_132 (by omega) (by show _ < ((112 : Nat) : Int); omega) ⟨by have := i_rng x1818; omega, by have := i_rng x1818; omega⟩ (AE_in gq1541 (by decide)) dX10_readNumbers_134 (fun H1839 locsH1839 hTH1839 hSH1839 wH1839 => ?_)
                have mf1840 : MF K s.heap H1839 a0 [19, 20, 21, 22, 39, 40] := MF.arr wH1839 (G_ne ga0 gq1541 (by decide)) mf1838
                have g1841 : CG (avw K H1839 a0) := CG.congr (fun k hk j => av_arr hTH1817 ga0 wH1839 gq1541 (by decide) (CG_ok 132 (by decide) k hk)) g1824
                have g1842 : TU (avw K H1839 a0) (svw K H1839 a0) := TU.congr (fun k hk j => av_arr hTH1817 ga0 wH1839 gq1541 (by decide) (TU_ok 132 (by decide) k hk)) (fun k hk => sv_arr ga0 wH1839 gq1541 (by decide)) g1825
                have g1843 : WD (avw K H1839 a0) := WD.congr (fun k hk j => av_arr hTH1817 ga0 wH1839 gq1541 (by decide) (WD_ok 132 (by decide) k hk)) g1826
                have g1844 : IM (avw K H1839 a0) := IM.congr (fun k hk j => av_arr hTH1817 ga0 wH1839 gq1541 (by decide) (IM_ok 132 (by decide) k hk)) g1827
                have m1846 := m1830.trans (Wr.neI wH1839 (Or.inl (G_ne gq1509 gq1541 (by decide)))).symm
                have m1847 := m1831.trans (Wr.neI wH1839 (Or.inl (G_ne gq1524 gq1541 (by decide)))).symm
                have m1848 := m1823.trans (Wr.neR wH1839 (Or.inl (G_ne ga0 gq1541 (by decide)))).symm
                have m1849 := m1833.trans (Wr.neI wH1839 (Or.inl (G_ne ga0 gq1541 (by decide)))).symm
                have m1850 := m1834.trans (Wr.neR wH1839 (Or.inl (G_ne ga0 gq1541 (by decide)))).symm
                have m1851 := m1835.trans (Wr.neR wH1839 (Or.inl (G_ne ga0 gq1541 (by decide)))).symm
                have m1852 := m1836.trans (Wr.neR wH1839 (Or.inl (G_ne ga0 gq1541 (by decide)))).symm
                have m1853 := m1837.trans (Wr.neI wH1839 (Or.inl (G_ne ga0 gq1541 (by decide)))).symm
                have m1854 := ex1819.trans (Wr.neI wH1839 (Or.inl (G_ne ga0 gq1541 (by decide)))).symm
                have m1855 := ex1820.trans (Wr.neI wH1839 (Or.inl (G_ne ga0 gq1541 (by decide)))).symm
                have m1856 := ex1821.trans (Wr.neI wH1839 (Or.inl (G_ne ga0 gq1541 (by decide)))).symm
                have m1857 := ex1822.trans (Wr.neI wH1839 (Or.inl (G_ne ga0 gq1541 (by decide)))).symm
                have m1858 := Wr.I wH1839
                have m1858 := m1858.symm
                refine lv_aload_n hx hb dX10_readNumbers_135 rfl (lv_at hl 0 rfl) ?_
                refine x_gr C hTH1839 (ci := 10) (k := 28) rfl inX10 (by decide) wF_X10_71 ga0 rg_112 rfl dX10_readNumbers_136 (fun q1859 eq1859 gq1859 => ?_)
                have uq1859 : q1541 = q1859 := (m1852).trans eq1859.symm
                subst uq1859
                refine lv_iload_n hx hb dX10_readNumbers_139 rfl (lv_at hl 1 rfl) ?_
                refine x_ai C hTH1839 gq1541 rg_132 ⟨by omega, by show _ < ((112 : Nat) : Int); omega⟩ dX10_readNumbers_140 (fun x1860 ex1860 bx1860 => ?_)
                have ux1860 : x1818 = x1860 := (m1858).trans ex1860.symm
                subst ux1860
                exact x_iret C hQ dX10_readNumbers_141 hSH1839 (by decide) (by decide) (⟨x1818, x1819, x1820, x1821, x1822, rfl, m1854, m1855, m1856, m1857, by omega, m1848, g1841, g1842, g1843, g1844, mf1840, hTH1839⟩)
              · have k1816 := i_eq c1815
                exfalso
                omega
            · have k1813 := i_eq c1812
              refine lv_iconst (v := (-1)) hx hb dX10_readNumbers_104 (by decide) ?_
              exact x_iret C hQ dX10_readNumbers_105 hSH1790 (by decide) (by decide) (⟨(-1), x1770, x1771, x1772, x1773, rfl, m1805, m1806, m1807, m1808, by omega, m1799, g1792, g1793, g1794, g1795, mf1791, hTH1790⟩)
        · have k1669 := i_eq c1668
          exfalso
          omega
  · have k1561 := i_eq c1560
    refine lv_iconst (v := 0) hx hb dX10_readNumbers_26 (by decide) ?_
    exact x_iret C hQ dX10_readNumbers_27 hSH1542 (by decide) (by decide) (⟨0, sp, fr, tk, vl, rfl, m1549, m1550, m1551, m1552, by omega, m1548, g1544, g1545, g1546, g1547, mf1543, hTH1542⟩)
