set_option maxHeartbeats 4000000 in
set_option maxRecDepth 100000 in
theorem a_X9_slack_s (l : Launch) (K : KE) (G : Nat → Option Nat) (H : Heap) {a0 : Nat} (x1 : Int32) (hT : TY K G H) (ga0 : G a0 = some 68) : MX l K yX9_slack cX9_slack 2 (some .boolean) 1 22 0 0 [.ref a0, .int x1] H (AE G [0] H.size) (fun v H1 => ∃ (r : Int32), v = some (.int r) ∧ (0 ≤ r.toInt ∧ r.toInt ≤ 1) ∧ ((r.toInt = 1 ∧ 0 ≤ x1.toInt ∧ x1.toInt ≤ 9999) ∨ (r.toInt = 0 ∧ (x1.toInt < 0 ∨ 9999 < x1.toInt))) ∧ TY K G H1) := by
  refine MX.of (by decide +kernel) (Nat.le_of_ble_eq_true rfl) ?_
  intro p e s m below meth c ls Q C hH hl hQ
  subst hH
  have C : CX p K s m _ meth c RX9 cX9_slack 2 (some .boolean) "slack" := C
  obtain ⟨hx, hb, hml, hown, hts, hKT, hr, hlocks, hnm⟩ := id C
  have hl : lv_has ls 2 [(0, .ref a0), (1, .int x1)] := hl
  have hS : va_S (AE G [0] s.heap.size) s.heap s.heap [] := va_S.rf
  have n_0 : (0 : Int32).toInt = 0 := rfl
  have n_1 : (1 : Int32).toInt = 1 := rfl
  have n_9999 : (9999 : Int32).toInt = 9999 := rfl
  refine lv_iload_n hx hb dX9_slack_0 rfl (lv_at hl 1 rfl) ?_
  refine lv_iconst (v := 0) hx hb dX9_slack_1 (by decide) ?_
  refine lv_sipush (v := 9999) hx hb dX9_slack_2 (by decide) ?_
  refine x_S (As := [.int x1, .int 0, .int 9999]) (rest := []) C (c_X9_within l K G s.heap (x1) (0) (9999) hT) yo_X9_within wM_X9_89 ⟨⟨by decide, by decide⟩, by decide, by decide⟩ rfl hl.1 rfl (Nat.le_of_ble_eq_true rfl) dX9_slack_5 hS (AE_sub (fun _ _ => rfl) (by decide) hS.1) (fun vH137 H137 locsH137 pH137 zH137 kH137 hSH137 => ?_)
  have hqH137 := pH137.1.symm
  subst hqH137
  rcases pH137.2 with ⟨hvH137, hcH137⟩ | ⟨hvH137, hcH137⟩
  · subst hvH137
    refine W.eq (g2 := F0 m 8 ls [.int 1]) rfl ?_
    refine lv_if_ne (tgt := 13) hx hb dX9_slack_8 (by decide) (fun c138 => ?_) (fun c138 => ?_)
    · have k139 := i_ne c138
      refine lv_aload_n hx hb dX9_slack_13 rfl (lv_at hl 0 rfl) ?_
      refine x_gr C hT (ci := 9) (k := 0) rfl inX9 (by decide) wF_X9_12 ga0 rg_68 rfl dX9_slack_14 (fun q140 eq140 gq140 => ?_)
      refine lv_iload_n hx hb dX9_slack_17 rfl (lv_at hl 1 rfl) ?_
      refine x_put C hT hSH137 (ci := 8) (k := 5) (v := .int x1) (ty0 := tyX8) rfl inX8 tyX8_ok nmX8 (by decide) rfl wF_X9_184 gq140 rg_0 rfl rfl (okI (by have := i_rng x1; omega) (by have := i_rng x1; omega)) rfl rfl (AE_in gq140 (by decide)) dX9_slack_18 (fun H141 locsH141 hTH141 hSH141 wH141 => ?_)
      have m142 := eq140.trans (Wr.neR wH141 (Or.inl (G_ne ga0 gq140 (by decide)))).symm
      have m143 := Wr.I wH141
      have m143 := m143.symm
      refine lv_iconst (v := 1) hx hb dX9_slack_21 (by decide) ?_
      exact x_zret C hQ (Or.inr rfl) dX9_slack_22 hSH141 (by decide) (by decide) (⟨1, rfl, by decide, by omega, hTH141⟩)
    · have k139 := i_eq c138
      exfalso
      omega
  · subst hvH137
    refine W.eq (g2 := F0 m 8 ls [.int 0]) rfl ?_
    refine lv_if_ne (tgt := 13) hx hb dX9_slack_8 (by decide) (fun c144 => ?_) (fun c144 => ?_)
    · have k145 := i_ne c144
      exfalso
      omega
    · have k145 := i_eq c144
      refine lv_iconst (v := 0) hx hb dX9_slack_11 (by decide) ?_
      exact x_zret C hQ (Or.inl rfl) dX9_slack_12 hSH137 (by decide) (by decide) (⟨0, rfl, by decide, by omega, hT⟩)

set_option maxHeartbeats 4000000 in
set_option maxRecDepth 100000 in
theorem a_X10_slack_s (l : Launch) (K : KE) (G : Nat → Option Nat) (H : Heap) {a0 : Nat} (x1 : Int32) (hT : TY K G H) (ga0 : G a0 = some 112) (hg_CG : CG (avw K H a0)) (hg_TU : TU (avw K H a0) (svw K H a0)) (hg_WD : WD (avw K H a0)) (hg_IM : IM (avw K H a0)) : MX l K yX10_slack cX10_slack 2 (some .boolean) 1 23 0 0 [.ref a0, .int x1] H (AE G [112] H.size) (fun v H1 => ∃ (r : Int32), v = some (.int r) ∧ (0 ≤ r.toInt ∧ r.toInt ≤ 1) ∧ ((r.toInt = 1 ∧ 0 ≤ x1.toInt ∧ x1.toInt ≤ 9999) ∨ (r.toInt = 0 ∧ (x1.toInt < 0 ∨ 9999 < x1.toInt))) ∧ (CG (avw K H1 a0)) ∧ (TU (avw K H1 a0) (svw K H1 a0)) ∧ (WD (avw K H1 a0)) ∧ (IM (avw K H1 a0)) ∧ MF K H H1 a0 [0, 3] ∧ TY K G H1) := by
  refine MX.of (by decide +kernel) (Nat.le_of_ble_eq_true rfl) ?_
  intro p e s m below meth c ls Q C hH hl hQ
  subst hH
  have C : CX p K s m _ meth c RX10 cX10_slack 2 (some .boolean) "slack" := C
  obtain ⟨hx, hb, hml, hown, hts, hKT, hr, hlocks, hnm⟩ := id C
  have hl : lv_has ls 2 [(0, .ref a0), (1, .int x1)] := hl
  have hS : va_S (AE G [112] s.heap.size) s.heap s.heap [] := va_S.rf
  have n_0 : (0 : Int32).toInt = 0 := rfl
  have n_1 : (1 : Int32).toInt = 1 := rfl
  have n_9999 : (9999 : Int32).toInt = 9999 := rfl
  have hap : ∀ x y, x < 74 → y < 74 → x ≠ y → K.1.2 10 x ≠ K.1.2 10 y := x_apart hKT hts inX10 tyX10 tyX10_ok nmX10 rfl
  have mf0 : MF K s.heap s.heap a0 [0, 3] := fun _ _ _ => rfl
  refine lv_aload_n hx hb dX10_slack_0 rfl (lv_at hl 0 rfl) ?_
  refine lv_iconst (v := 0) hx hb dX10_slack_1 (by decide) ?_
  refine x_put C hT hS (ci := 10) (k := 0) (v := .int 0) (ty0 := tyX10) rfl inX10 tyX10_ok nmX10 (by decide) rfl wF_X10_167 ga0 rg_112 rfl rfl (okI (by have := i_rng (0 : Int32); omega) (by have := i_rng (0 : Int32); omega)) rfl rfl (AE_in ga0 (by decide)) dX10_slack_2 (fun H181 locsH181 hTH181 hSH181 wH181 => ?_)
  have mf182 : MF K s.heap H181 a0 [0, 3] := MF.fld hap wH181 (by decide) (by decide) mf0
  have g183 : CG (avw K H181 a0) := CG.congr (fun k hk j => av_fld hT ga0 hap wH181 (by decide) (CG_ok 112 (by decide) k hk) (CG_ne 0 (by decide) k hk)) hg_CG
  have g184 : TU (avw K H181 a0) (svw K H181 a0) := TU.congr (fun k hk j => av_fld hT ga0 hap wH181 (by decide) (TU_ok 112 (by decide) k hk) (TU_ne 0 (by decide) k hk)) (fun k hk => sv_fld hap wH181 (by decide) (TU_slt k hk) (TU_sne 0 (by decide) k hk)) hg_TU
  have g185 : WD (avw K H181 a0) := WD.congr (fun k hk j => av_fld hT ga0 hap wH181 (by decide) (WD_ok 112 (by decide) k hk) (WD_ne 0 (by decide) k hk)) hg_WD
  have g186 : IM (avw K H181 a0) := IM.congr (fun k hk j => av_fld hT ga0 hap wH181 (by decide) (IM_ok 112 (by decide) k hk) (IM_ne 0 (by decide) k hk)) hg_IM
  have m187 := Wr.I wH181
  refine lv_aload_n hx hb dX10_slack_5 rfl (lv_at hl 0 rfl) ?_
  refine lv_iload_n hx hb dX10_slack_6 rfl (lv_at hl 1 rfl) ?_
  refine lv_iconst (v := 0) hx hb dX10_slack_7 (by decide) ?_
  refine lv_sipush (v := 9999) hx hb dX10_slack_8 (by decide) ?_
  refine x_V (As := [.int x1, .int 0, .int 9999]) (rest := []) C (c_X10_isIn l K G H181 (x1) (0) (9999) hTH181 ga0) yo_X10_isIn wM_X10_177 ⟨⟨by decide, by decide⟩, by decide, by decide⟩ (x_rv C hTH181 (ci := 10) rfl ga0 rg_112) rfl hl.1 rfl (Nat.le_of_ble_eq_true rfl) dX10_slack_11 hSH181 (AE_sub (fun _ _ => rfl) (by decide) hSH181.1) (fun vH188 H188 locsH188 pH188 zH188 kH188 hSH188 => ?_)
  have hqH188 := pH188.1.symm
  subst hqH188
  rcases pH188.2 with ⟨hvH188, hcH188⟩ | ⟨hvH188, hcH188⟩
  · subst hvH188
    refine W.eq (g2 := F0 m 14 ls [.int 1]) rfl ?_
    refine lv_if_ne (tgt := 19) hx hb dX10_slack_14 (by decide) (fun c189 => ?_) (fun c189 => ?_)
    · have k190 := i_ne c189
      refine lv_aload_n hx hb dX10_slack_19 rfl (lv_at hl 0 rfl) ?_
      refine lv_iload_n hx hb dX10_slack_20 rfl (lv_at hl 1 rfl) ?_
      refine x_put C hTH181 hSH188 (ci := 10) (k := 3) (v := .int x1) (ty0 := tyX10) rfl inX10 tyX10_ok nmX10 (by decide) rfl wF_X10_7 ga0 rg_112 rfl rfl (okI (by have := i_rng x1; omega) (by have := i_rng x1; omega)) rfl rfl (AE_in ga0 (by decide)) dX10_slack_21 (fun H191 locsH191 hTH191 hSH191 wH191 => ?_)
      have mf192 : MF K s.heap H191 a0 [0, 3] := MF.fld hap wH191 (by decide) (by decide) mf182
      have g193 : CG (avw K H191 a0) := CG.congr (fun k hk j => av_fld hTH181 ga0 hap wH191 (by decide) (CG_ok 112 (by decide) k hk) (CG_ne 3 (by decide) k hk)) g183
      have g194 : TU (avw K H191 a0) (svw K H191 a0) := TU.congr (fun k hk j => av_fld hTH181 ga0 hap wH191 (by decide) (TU_ok 112 (by decide) k hk) (TU_ne 3 (by decide) k hk)) (fun k hk => sv_fld hap wH191 (by decide) (TU_slt k hk) (TU_sne 3 (by decide) k hk)) g184
      have g195 : WD (avw K H191 a0) := WD.congr (fun k hk j => av_fld hTH181 ga0 hap wH191 (by decide) (WD_ok 112 (by decide) k hk) (WD_ne 3 (by decide) k hk)) g185
      have g196 : IM (avw K H191 a0) := IM.congr (fun k hk j => av_fld hTH181 ga0 hap wH191 (by decide) (IM_ok 112 (by decide) k hk) (IM_ne 3 (by decide) k hk)) g186
      have m197 := (Wr.neI wH191 (Or.inr (x_apart hKT hts inX10 tyX10 tyX10_ok nmX10 rfl 0 3 (by decide) (by decide) (by decide)))).trans m187
      have m198 := Wr.I wH191
      have m198 := m198.symm
      refine lv_iconst (v := 1) hx hb dX10_slack_24 (by decide) ?_
      exact x_zret C hQ (Or.inr rfl) dX10_slack_25 hSH191 (by decide) (by decide) (⟨1, rfl, by decide, by omega, g193, g194, g195, g196, mf192, hTH191⟩)
    · have k190 := i_eq c189
      exfalso
      omega
  · subst hvH188
    refine W.eq (g2 := F0 m 14 ls [.int 0]) rfl ?_
    refine lv_if_ne (tgt := 19) hx hb dX10_slack_14 (by decide) (fun c199 => ?_) (fun c199 => ?_)
    · have k200 := i_ne c199
      exfalso
      omega
    · have k200 := i_eq c199
      refine lv_iconst (v := 0) hx hb dX10_slack_17 (by decide) ?_
      exact x_zret C hQ (Or.inl rfl) dX10_slack_18 hSH188 (by decide) (by decide) (⟨0, rfl, by decide, by omega, g183, g184, g185, g186, mf182, hTH181⟩)

set_option maxHeartbeats 4000000 in
set_option maxRecDepth 100000 in
theorem a_X9_addBytes_t (l : Launch) (K : KE) (G : Nat → Option Nat) (H : Heap) {a0 : Nat} (x1 : Int32) (tp : Int32) (hT : TY K G H) (ga0 : G a0 = some 68) (etp : tp = fI H a0 (K.1.2 9 3)) (hp0 : tp.toInt ≤ 496) : MX l K yX9_addBytes cX9_addBytes 3 none 0 0 0 0 [.ref a0, .int x1] H (AE G [68, 108] H.size) (fun v H1 => ∃ (t0 : Int32), v = none ∧ t0 = fI H1 a0 (K.1.2 9 3) ∧ (t0.toInt = tp.toInt + 4) ∧ TY K G H1) := by
  refine MX.of (by decide +kernel) (Nat.le_of_ble_eq_true rfl) ?_
  intro p e s m below meth c ls Q C hH hl hQ
  subst hH
  have C : CX p K s m _ meth c RX9 cX9_addBytes 3 none "addBytes" := C
  obtain ⟨hx, hb, hml, hown, hts, hKT, hr, hlocks, hnm⟩ := id C
  have hl : lv_has ls 3 [(0, .ref a0), (1, .int x1)] := hl
  have hS : va_S (AE G [68, 108] s.heap.size) s.heap s.heap [] := va_S.rf
  have n_m8 : ((-8) : Int32).toInt = -8 := rfl
  have n_0 : (0 : Int32).toInt = 0 := rfl
  have n_1 : (1 : Int32).toInt = 1 := rfl
  have n_24 : (24 : Int32).toInt = 24 := rfl
  have n_255 : (255 : Int32).toInt = 255 := rfl
  have n_500 : (500 : Int32).toInt = 500 := rfl
  have btp := ty_fi (x := tp) (k := 3) etp hT ga0 rg_68 rfl
  have J3 : ∀ (nf : Nat) (ls310 : Array Slot) (H309 : Heap) (locsH309 : List Loc) (x312 : Int32) (x313 : Int32), lv_has ls310 3 [(0, .ref a0), (1, .int x1), (2, .int x312)] → TY K G H309 → va_S (AE G [68, 108] s.heap.size) s.heap H309 locsH309 → ((-8) ≤ x312.toInt ∧ x312.toInt ≤ 24) → (0 ≤ x313.toInt ∧ x313.toInt ≤ 500) → (x313 = fI H309 a0 (K.1.2 9 3)) → (x312.toInt - (-8) < (nf : Int)) → (8 * (x313.toInt - tp.toInt) = 24 - x312.toInt) → W p l e ({ frames := 0, cells := 0, slots := 0, locals := 0 } : Room) s m (([.ref a0, .int x1] : List Value).toArray) below meth c H309 locsH309 0 0 Q (F0 m 3 ls310 []) := by
    intro nf
    induction nf with
    | zero =>
      intro ls310 H309 locsH309 x312 x313 hl311 hTH309 hSH309 bx312 bx313 ex313 hm3 iv3
      exfalso
      omega
    | succ nf ih3 =>
      intro ls310 H309 locsH309 x312 x313 hl311 hTH309 hSH309 bx312 bx313 ex313 hm3 iv3
      refine lv_iload_n hx hb dX9_addBytes_3 rfl (lv_at hl311 2 rfl) ?_
      refine lv_if_lt (tgt := 49) hx hb dX9_addBytes_4 (by decide) (fun c315 => ?_) (fun c315 => ?_)
      · have k316 := i_lt c315
        exact x_vret C hQ dX9_addBytes_49 hSH309 (by decide) (by decide) (⟨x313, rfl, ex313, by omega, hTH309⟩)
      · have k316 := i_nlt c315
        refine lv_aload_n hx hb dX9_addBytes_7 rfl (lv_at hl311 0 rfl) ?_
        refine x_gi C hTH309 (ci := 9) (k := 3) rfl inX9 (by decide) wF_X9_105 ga0 rg_68 rfl dX9_addBytes_8 (fun x317 ex317 bx317 => ?_)
        have ux317 : x313 = x317 := (ex313).trans ex317.symm
        subst ux317
        refine lv_sipush (v := 500) hx hb dX9_addBytes_11 (by decide) ?_
        refine lv_icmp_ge (tgt := 49) hx hb dX9_addBytes_14 (by decide) (fun c318 => ?_) (fun c318 => ?_)
        · have k319 := i_le c318
          exact x_vret C hQ dX9_addBytes_49 hSH309 (by decide) (by decide) (⟨x313, rfl, ex313, by omega, hTH309⟩)
        · have k319 := i_nle c318
          refine lv_aload_n hx hb dX9_addBytes_17 rfl (lv_at hl311 0 rfl) ?_
          refine x_gr C hTH309 (ci := 9) (k := 2) rfl inX9 (by decide) wF_X9_16 ga0 rg_68 rfl dX9_addBytes_18 (fun q320 eq320 gq320 => ?_)
          refine lv_aload_n hx hb dX9_addBytes_21 rfl (lv_at hl311 0 rfl) ?_
          refine x_gi C hTH309 (ci := 9) (k := 3) rfl inX9 (by decide) wF_X9_105 ga0 rg_68 rfl dX9_addBytes_22 (fun x321 ex321 bx321 => ?_)
          have ux321 : x313 = x321 := (ex313).trans ex321.symm
          subst ux321
          refine lv_iload_n hx hb dX9_addBytes_25 rfl (lv_at hl311 1 rfl) ?_
          refine lv_iload_n hx hb dX9_addBytes_26 rfl (lv_at hl311 2 rfl) ?_
          obtain ⟨x322, ex322⟩ : ∃ z : Int32, ((x1 : Int32).toUInt32 >>> ((x312 : Int32).toUInt32 &&& Int32.toUInt32 31)).toInt32 = z := ⟨_, rfl⟩
          refine lv_iushr (v := x322) hx hb dX9_addBytes_27 ex322 ?_
          refine lv_sipush (v := 255) hx hb dX9_addBytes_28 (by decide) ?_
          refine lv_iand hx hb dX9_addBytes_31 ?_
          refine lv_topi (fun x323 ex323 => ?_)
          have tx323 := i_and255 ex323
          refine x_iast C hTH309 hSH309 gq320 rg_108 (by omega) (by show _ < ((500 : Nat) : Int); omega) ⟨by have := i_rng x323; omega, by have := i_rng x323; omega⟩ (AE_in gq320 (by decide)) dX9_addBytes_32 (fun H324 locsH324 hTH324 hSH324 wH324 => ?_)
          have m325 := ex313.trans (Wr.neI wH324 (Or.inl (G_ne ga0 gq320 (by decide)))).symm
          have m326 := eq320.trans (Wr.neR wH324 (Or.inl (G_ne ga0 gq320 (by decide)))).symm
          have m327 := Wr.I wH324
          have m327 := m327.symm
          refine lv_aload_n hx hb dX9_addBytes_33 rfl (lv_at hl311 0 rfl) ?_
          refine lv_dup hx hb dX9_addBytes_34 rfl ?_
          refine x_gi C hTH324 (ci := 9) (k := 3) rfl inX9 (by decide) wF_X9_105 ga0 rg_68 rfl dX9_addBytes_35 (fun x328 ex328 bx328 => ?_)
          have ux328 : x313 = x328 := (m325).trans ex328.symm
          subst ux328
          refine lv_iconst (v := 1) hx hb dX9_addBytes_38 (by decide) ?_
          refine lv_iadd hx hb dX9_addBytes_39 ?_
          refine lv_topi (fun x329 ex329 => ?_)
          have tx329 := i_add ex329 (by omega)
          refine x_put C hTH324 hSH324 (ci := 9) (k := 3) (v := .int x329) (ty0 := tyX9) rfl inX9 tyX9_ok nmX9 (by decide) rfl wF_X9_105 ga0 rg_68 rfl rfl (okI (by have := i_rng x329; omega) (by have := i_rng x329; omega)) rfl rfl (AE_in ga0 (by decide)) dX9_addBytes_40 (fun H330 locsH330 hTH330 hSH330 wH330 => ?_)
          have m332 := m326.trans (Wr.neR wH330 (Or.inr (x_apart hKT hts inX9 tyX9 tyX9_ok nmX9 rfl 2 3 (by decide) (by decide) (by decide)))).symm
          have m333 := m327.trans (Wr.neI wH330 (Or.inl (G_ne gq320 ga0 (by decide)))).symm
          have m334 := Wr.I wH330
          have m334 := m334.symm
          obtain ⟨x335, ex335⟩ : ∃ y : Int32, y = x312 + (-8) := ⟨_, rfl⟩
          have tx335 := i_add ex335 (by omega)
          refine lv_iinc (v := x335) (lv' := [(2, .int x335), (0, .ref a0), (1, .int x1)]) hx hb dX9_addBytes_43 hl311 (k := 2) rfl (by rw [ex335]; rfl) (by decide) rfl (fun ls336 hl337 => ?_)
          refine lv_goto (tgt := 3) hx hb dX9_addBytes_46 (by decide) ?_
          exact ih3 ls336 H330 locsH330 (x335) (x329) (lv_sub hl337 [1, 2, 0] rfl) hTH330 hSH330 (by have := i_rng x335; omega) (by have := i_rng x329; omega) m334 (by omega) (by omega)
  refine lv_bipush (v := 24) hx hb dX9_addBytes_0 (by decide) ?_
  refine lv_istore_n (lv' := [(2, .int 24), (0, .ref a0), (1, .int x1)]) hx hb dX9_addBytes_2 rfl hl (by decide) rfl (fun ls338 hl339 => ?_)
  exact J3 (((24 : Int32).toInt - (-8)).toNat + 1) ls338 s.heap [] (24) (tp) (lv_sub hl339 [1, 2, 0] rfl) hT hS (by decide) (by have := i_rng tp; omega) etp (by omega) (by omega)

set_option maxHeartbeats 4000000 in
set_option maxRecDepth 100000 in
theorem a_X9_feed_t (l : Launch) (K : KE) (G : Nat → Option Nat) (H : Heap) {a0 : Nat} (x1 : Int32) (x2 : Int32) (x3 : Int32) (x4 : Int32) (x5 : Int32) (tp : Int32) (hT : TY K G H) (ga0 : G a0 = some 68) (etp : tp = fI H a0 (K.1.2 9 3)) : MX l K yX9_feed cX9_feed 6 (some .int) 1 22 0 0 [.ref a0, .int x1, .int x2, .int x3, .int x4, .int x5] H (AE G [68, 108] H.size) (fun v H1 => ∃ (r : Int32) (t0 : Int32), v = some (.int r) ∧ t0 = fI H1 a0 (K.1.2 9 3) ∧ ((tp.toInt ≤ 480 ∧ r.toInt = tp.toInt + 20 ∧ t0.toInt = tp.toInt + 20) ∨ (480 < tp.toInt ∧ r.toInt = -1 ∧ t0.toInt = tp.toInt)) ∧ TY K G H1) := by
  refine MX.of (by decide +kernel) (Nat.le_of_ble_eq_true rfl) ?_
  intro p e s m below meth c ls Q C hH hl hQ
  subst hH
  have C : CX p K s m _ meth c RX9 cX9_feed 6 (some .int) "feed" := C
  obtain ⟨hx, hb, hml, hown, hts, hKT, hr, hlocks, hnm⟩ := id C
  have hl : lv_has ls 6 [(0, .ref a0), (1, .int x1), (2, .int x2), (3, .int x3), (4, .int x4), (5, .int x5)] := hl
  have hS : va_S (AE G [68, 108] s.heap.size) s.heap s.heap [] := va_S.rf
  have n_m1 : ((-1) : Int32).toInt = -1 := rfl
  have n_20 : (20 : Int32).toInt = 20 := rfl
  have n_500 : (500 : Int32).toInt = 500 := rfl
  have btp := ty_fi (x := tp) (k := 3) etp hT ga0 rg_68 rfl
  refine lv_aload_n hx hb dX9_feed_0 rfl (lv_at hl 0 rfl) ?_
  refine x_gi C hT (ci := 9) (k := 3) rfl inX9 (by decide) wF_X9_105 ga0 rg_68 rfl dX9_feed_1 (fun x161 ex161 bx161 => ?_)
  have ux161 : tp = x161 := (etp).trans ex161.symm
  subst ux161
  refine lv_bipush (v := 20) hx hb dX9_feed_4 (by decide) ?_
  refine lv_iadd hx hb dX9_feed_6 ?_
  refine lv_topi (fun x162 ex162 => ?_)
  have tx162 := i_add ex162 (by omega)
  refine lv_sipush (v := 500) hx hb dX9_feed_7 (by decide) ?_
  refine lv_icmp_le (tgt := 15) hx hb dX9_feed_10 (by decide) (fun c163 => ?_) (fun c163 => ?_)
  · have k164 := i_le c163
    refine lv_aload_n hx hb dX9_feed_15 rfl (lv_at hl 0 rfl) ?_
    refine lv_iload_n hx hb dX9_feed_16 rfl (lv_at hl 1 rfl) ?_
    refine x_V (As := [.int x1]) (rest := []) C (a_X9_addBytes_t l K G s.heap (x1) (tp) hT ga0 etp (by omega)) yo_X9_addBytes wM_X9_108 ⟨⟨by decide, by decide⟩, by decide, by decide⟩ (x_rv C hT (ci := 9) rfl ga0 rg_68) rfl hl.1 rfl (Nat.le_of_ble_eq_true rfl) dX9_feed_17 hS (AE_sub (fun _ _ => rfl) (by decide) hS.1) (fun vH165 H165 locsH165 pH165 zH165 kH165 hSH165 => ?_)
    obtain ⟨x166, hvH165, ex166, hrH165, hTH165⟩ := pH165
    subst hvH165
    have bx166 := ty_fi (x := x166) (k := 3) ex166 hTH165 ga0 rg_68 rfl
    refine W.eq (g2 := F0 m 20 ls []) rfl ?_
    refine lv_aload_n hx hb dX9_feed_20 rfl (lv_at hl 0 rfl) ?_
    refine lv_iload_n hx hb dX9_feed_21 rfl (lv_at hl 2 rfl) ?_
    refine x_V (As := [.int x2]) (rest := []) C (a_X9_addBytes_t l K G H165 (x2) (x166) hTH165 ga0 ex166 (by omega)) yo_X9_addBytes wM_X9_108 ⟨⟨by decide, by decide⟩, by decide, by decide⟩ (x_rv C hTH165 (ci := 9) rfl ga0 rg_68) rfl hl.1 rfl (Nat.le_of_ble_eq_true rfl) dX9_feed_22 hSH165 (AE_sub (fun _ _ => rfl) (by decide) hSH165.1) (fun vH167 H167 locsH167 pH167 zH167 kH167 hSH167 => ?_)
    obtain ⟨x168, hvH167, ex168, hrH167, hTH167⟩ := pH167
    subst hvH167
    have bx168 := ty_fi (x := x168) (k := 3) ex168 hTH167 ga0 rg_68 rfl
    refine W.eq (g2 := F0 m 25 ls []) rfl ?_
    refine lv_aload_n hx hb dX9_feed_25 rfl (lv_at hl 0 rfl) ?_
    refine lv_iload_n hx hb dX9_feed_26 rfl (lv_at hl 3 rfl) ?_
    refine x_V (As := [.int x3]) (rest := []) C (a_X9_addBytes_t l K G H167 (x3) (x168) hTH167 ga0 ex168 (by omega)) yo_X9_addBytes wM_X9_108 ⟨⟨by decide, by decide⟩, by decide, by decide⟩ (x_rv C hTH167 (ci := 9) rfl ga0 rg_68) rfl hl.1 rfl (Nat.le_of_ble_eq_true rfl) dX9_feed_27 hSH167 (AE_sub (fun _ _ => rfl) (by decide) hSH167.1) (fun vH169 H169 locsH169 pH169 zH169 kH169 hSH169 => ?_)
    obtain ⟨x170, hvH169, ex170, hrH169, hTH169⟩ := pH169
    subst hvH169
    have bx170 := ty_fi (x := x170) (k := 3) ex170 hTH169 ga0 rg_68 rfl
    refine W.eq (g2 := F0 m 30 ls []) rfl ?_
    refine lv_aload_n hx hb dX9_feed_30 rfl (lv_at hl 0 rfl) ?_
    refine lv_iload hx hb dX9_feed_31 (lv_at hl 4 rfl) ?_
    refine x_V (As := [.int x4]) (rest := []) C (a_X9_addBytes_t l K G H169 (x4) (x170) hTH169 ga0 ex170 (by omega)) yo_X9_addBytes wM_X9_108 ⟨⟨by decide, by decide⟩, by decide, by decide⟩ (x_rv C hTH169 (ci := 9) rfl ga0 rg_68) rfl hl.1 rfl (Nat.le_of_ble_eq_true rfl) dX9_feed_33 hSH169 (AE_sub (fun _ _ => rfl) (by decide) hSH169.1) (fun vH171 H171 locsH171 pH171 zH171 kH171 hSH171 => ?_)
    obtain ⟨x172, hvH171, ex172, hrH171, hTH171⟩ := pH171
    subst hvH171
    have bx172 := ty_fi (x := x172) (k := 3) ex172 hTH171 ga0 rg_68 rfl
    refine W.eq (g2 := F0 m 36 ls []) rfl ?_
    refine lv_aload_n hx hb dX9_feed_36 rfl (lv_at hl 0 rfl) ?_
    refine lv_iload hx hb dX9_feed_37 (lv_at hl 5 rfl) ?_
    refine x_V (As := [.int x5]) (rest := []) C (a_X9_addBytes_t l K G H171 (x5) (x172) hTH171 ga0 ex172 (by omega)) yo_X9_addBytes wM_X9_108 ⟨⟨by decide, by decide⟩, by decide, by decide⟩ (x_rv C hTH171 (ci := 9) rfl ga0 rg_68) rfl hl.1 rfl (Nat.le_of_ble_eq_true rfl) dX9_feed_39 hSH171 (AE_sub (fun _ _ => rfl) (by decide) hSH171.1) (fun vH173 H173 locsH173 pH173 zH173 kH173 hSH173 => ?_)
    obtain ⟨x174, hvH173, ex174, hrH173, hTH173⟩ := pH173
    subst hvH173
    have bx174 := ty_fi (x := x174) (k := 3) ex174 hTH173 ga0 rg_68 rfl
    refine W.eq (g2 := F0 m 42 ls []) rfl ?_
    refine lv_aload_n hx hb dX9_feed_42 rfl (lv_at hl 0 rfl) ?_
    refine x_gi C hTH173 (ci := 9) (k := 3) rfl inX9 (by decide) wF_X9_105 ga0 rg_68 rfl dX9_feed_43 (fun x175 ex175 bx175 => ?_)
    have ux175 : x174 = x175 := (ex174).trans ex175.symm
    subst ux175
    exact x_iret C hQ dX9_feed_46 hSH173 (by decide) (by decide) (⟨x174, x174, rfl, ex174, by omega, hTH173⟩)
  · have k164 := i_nle c163
    refine lv_iconst (v := (-1)) hx hb dX9_feed_13 (by decide) ?_
    exact x_iret C hQ dX9_feed_14 hS (by decide) (by decide) (⟨(-1), tp, rfl, etp, by omega, hT⟩)

set_option maxHeartbeats 4000000 in
set_option maxRecDepth 100000 in
theorem a_X9_end_t (l : Launch) (K : KE) (G : Nat → Option Nat) (H : Heap) {a0 : Nat} (x1 : Int32) (tp : Int32) (hT : TY K G H) (ga0 : G a0 = some 68) (etp : tp = fI H a0 (K.1.2 9 3)) : MX l K yX9_end cX9_end 2 (some .boolean) 0 0 0 0 [.ref a0, .int x1] H (AE G [68] H.size) (fun v H1 => ∃ (r : Int32) (t0 : Int32), v = some (.int r) ∧ (0 ≤ r.toInt ∧ r.toInt ≤ 1) ∧ t0 = fI H1 a0 (K.1.2 9 3) ∧ ((0 ≤ x1.toInt ∧ x1.toInt ≤ tp.toInt ∧ r.toInt = 1 ∧ t0.toInt = x1.toInt) ∨ ((x1.toInt < 0 ∨ tp.toInt < x1.toInt) ∧ r.toInt = 0 ∧ t0.toInt = tp.toInt)) ∧ TY K G H1) := by
  refine MX.of (by decide +kernel) (Nat.le_of_ble_eq_true rfl) ?_
  intro p e s m below meth c ls Q C hH hl hQ
  subst hH
  have C : CX p K s m _ meth c RX9 cX9_end 2 (some .boolean) "end" := C
  obtain ⟨hx, hb, hml, hown, hts, hKT, hr, hlocks, hnm⟩ := id C
  have hl : lv_has ls 2 [(0, .ref a0), (1, .int x1)] := hl
  have hS : va_S (AE G [68] s.heap.size) s.heap s.heap [] := va_S.rf
  have n_0 : (0 : Int32).toInt = 0 := rfl
  have n_1 : (1 : Int32).toInt = 1 := rfl
  have btp := ty_fi (x := tp) (k := 3) etp hT ga0 rg_68 rfl
  refine lv_iload_n hx hb dX9_end_0 rfl (lv_at hl 1 rfl) ?_
  refine lv_if_lt (tgt := 12) hx hb dX9_end_1 (by decide) (fun c133 => ?_) (fun c133 => ?_)
  · have k134 := i_lt c133
    refine lv_iconst (v := 0) hx hb dX9_end_12 (by decide) ?_
    exact x_zret C hQ (Or.inl rfl) dX9_end_13 hS (by decide) (by decide) (⟨0, tp, rfl, by decide, etp, by omega, hT⟩)
  · have k134 := i_nlt c133
    refine lv_iload_n hx hb dX9_end_4 rfl (lv_at hl 1 rfl) ?_
    refine lv_aload_n hx hb dX9_end_5 rfl (lv_at hl 0 rfl) ?_
    refine x_gi C hT (ci := 9) (k := 3) rfl inX9 (by decide) wF_X9_105 ga0 rg_68 rfl dX9_end_6 (fun x135 ex135 bx135 => ?_)
    have ux135 : tp = x135 := (etp).trans ex135.symm
    subst ux135
    refine lv_icmp_le (tgt := 14) hx hb dX9_end_9 (by decide) (fun c136 => ?_) (fun c136 => ?_)
    · have k137 := i_le c136
      refine lv_aload_n hx hb dX9_end_14 rfl (lv_at hl 0 rfl) ?_
      refine lv_iload_n hx hb dX9_end_15 rfl (lv_at hl 1 rfl) ?_
      refine x_put C hT hS (ci := 9) (k := 3) (v := .int x1) (ty0 := tyX9) rfl inX9 tyX9_ok nmX9 (by decide) rfl wF_X9_105 ga0 rg_68 rfl rfl (okI (by have := i_rng x1; omega) (by have := i_rng x1; omega)) rfl rfl (AE_in ga0 (by decide)) dX9_end_16 (fun H138 locsH138 hTH138 hSH138 wH138 => ?_)
      have m140 := Wr.I wH138
      have m140 := m140.symm
      refine lv_iconst (v := 1) hx hb dX9_end_19 (by decide) ?_
      exact x_zret C hQ (Or.inr rfl) dX9_end_20 hSH138 (by decide) (by decide) (⟨1, x1, rfl, by decide, m140, by omega, hTH138⟩)
    · have k137 := i_nle c136
      refine lv_iconst (v := 0) hx hb dX9_end_12 (by decide) ?_
      exact x_zret C hQ (Or.inl rfl) dX9_end_13 hS (by decide) (by decide) (⟨0, tp, rfl, by decide, etp, by omega, hT⟩)

set_option maxHeartbeats 4000000 in
set_option maxRecDepth 100000 in
theorem a_X10_feed_t (l : Launch) (K : KE) (G : Nat → Option Nat) (H : Heap) {a0 : Nat} (x1 : Int32) (x2 : Int32) (x3 : Int32) (x4 : Int32) (x5 : Int32) (tp : Int32) (hT : TY K G H) (ga0 : G a0 = some 112) (etp : tp = fI H a0 (K.1.2 10 18)) (hg_CG : CG (avw K H a0)) (hg_TU : TU (avw K H a0) (svw K H a0)) (hg_WD : WD (avw K H a0)) (hg_IM : IM (avw K H a0)) : MX l K yX10_feed cX10_feed 6 (some .int) 1 22 0 0 [.ref a0, .int x1, .int x2, .int x3, .int x4, .int x5] H (AE G [112, 126] H.size) (fun v H1 => ∃ (r : Int32) (t0 : Int32), v = some (.int r) ∧ t0 = fI H1 a0 (K.1.2 10 18) ∧ ((tp.toInt ≤ 480 ∧ r.toInt = tp.toInt + 20 ∧ t0.toInt = tp.toInt + 20) ∨ (480 < tp.toInt ∧ r.toInt = -1 ∧ t0.toInt = tp.toInt)) ∧ (CG (avw K H1 a0)) ∧ (TU (avw K H1 a0) (svw K H1 a0)) ∧ (WD (avw K H1 a0)) ∧ (IM (avw K H1 a0)) ∧ MF K H H1 a0 [0, 18] ∧ TY K G H1) := by
  refine MX.of (by decide +kernel) (Nat.le_of_ble_eq_true rfl) ?_
  intro p e s m below meth c ls Q C hH hl hQ
  subst hH
  have C : CX p K s m _ meth c RX10 cX10_feed 6 (some .int) "feed" := C
  obtain ⟨hx, hb, hml, hown, hts, hKT, hr, hlocks, hnm⟩ := id C
  have hl : lv_has ls 6 [(0, .ref a0), (1, .int x1), (2, .int x2), (3, .int x3), (4, .int x4), (5, .int x5)] := hl
  have hS : va_S (AE G [112, 126] s.heap.size) s.heap s.heap [] := va_S.rf
  have n_m1 : ((-1) : Int32).toInt = -1 := rfl
  have n_0 : (0 : Int32).toInt = 0 := rfl
  have n_480 : (480 : Int32).toInt = 480 := rfl
  have btp := ty_fi (x := tp) (k := 18) etp hT ga0 rg_112 rfl
  have hap : ∀ x y, x < 74 → y < 74 → x ≠ y → K.1.2 10 x ≠ K.1.2 10 y := x_apart hKT hts inX10 tyX10 tyX10_ok nmX10 rfl
  have mf0 : MF K s.heap s.heap a0 [0, 18] := fun _ _ _ => rfl
  refine lv_aload_n hx hb dX10_feed_0 rfl (lv_at hl 0 rfl) ?_
  refine lv_iconst (v := 0) hx hb dX10_feed_1 (by decide) ?_
  refine x_put C hT hS (ci := 10) (k := 0) (v := .int 0) (ty0 := tyX10) rfl inX10 tyX10_ok nmX10 (by decide) rfl wF_X10_167 ga0 rg_112 rfl rfl (okI (by have := i_rng (0 : Int32); omega) (by have := i_rng (0 : Int32); omega)) rfl rfl (AE_in ga0 (by decide)) dX10_feed_2 (fun H329 locsH329 hTH329 hSH329 wH329 => ?_)
  have mf330 : MF K s.heap H329 a0 [0, 18] := MF.fld hap wH329 (by decide) (by decide) mf0
  have g331 : CG (avw K H329 a0) := CG.congr (fun k hk j => av_fld hT ga0 hap wH329 (by decide) (CG_ok 112 (by decide) k hk) (CG_ne 0 (by decide) k hk)) hg_CG
  have g332 : TU (avw K H329 a0) (svw K H329 a0) := TU.congr (fun k hk j => av_fld hT ga0 hap wH329 (by decide) (TU_ok 112 (by decide) k hk) (TU_ne 0 (by decide) k hk)) (fun k hk => sv_fld hap wH329 (by decide) (TU_slt k hk) (TU_sne 0 (by decide) k hk)) hg_TU
  have g333 : WD (avw K H329 a0) := WD.congr (fun k hk j => av_fld hT ga0 hap wH329 (by decide) (WD_ok 112 (by decide) k hk) (WD_ne 0 (by decide) k hk)) hg_WD
  have g334 : IM (avw K H329 a0) := IM.congr (fun k hk j => av_fld hT ga0 hap wH329 (by decide) (IM_ok 112 (by decide) k hk) (IM_ne 0 (by decide) k hk)) hg_IM
  have m335 := etp.trans (Wr.neI wH329 (Or.inr (x_apart hKT hts inX10 tyX10 tyX10_ok nmX10 rfl 18 0 (by decide) (by decide) (by decide)))).symm
  have m336 := Wr.I wH329
  refine lv_aload_n hx hb dX10_feed_5 rfl (lv_at hl 0 rfl) ?_
  refine x_gi C hTH329 (ci := 10) (k := 18) rfl inX10 (by decide) wF_X10_185 ga0 rg_112 rfl dX10_feed_6 (fun x337 ex337 bx337 => ?_)
  have ux337 : tp = x337 := (m335).trans ex337.symm
  subst ux337
  refine lv_sipush (v := 480) hx hb dX10_feed_9 (by decide) ?_
  refine lv_icmp_le (tgt := 17) hx hb dX10_feed_12 (by decide) (fun c338 => ?_) (fun c338 => ?_)
  · have k339 := i_le c338
    refine lv_aload_n hx hb dX10_feed_17 rfl (lv_at hl 0 rfl) ?_
    refine lv_iload_n hx hb dX10_feed_18 rfl (lv_at hl 1 rfl) ?_
    refine x_V (As := [.int x1]) (rest := []) C (a_X10_puts l K G H329 (x1) (tp) hTH329 ga0 m335 g331 g332 g333 g334 (by omega)) yo_X10_puts wM_X10_188 ⟨⟨by decide, by decide⟩, by decide, by decide⟩ (x_rv C hTH329 (ci := 10) rfl ga0 rg_112) rfl hl.1 rfl (Nat.le_of_ble_eq_true rfl) dX10_feed_19 hSH329 (AE_sub (fun _ _ => rfl) (by decide) hSH329.1) (fun vH340 H340 locsH340 pH340 zH340 kH340 hSH340 => ?_)
    obtain ⟨x341, hvH340, ex341, hrH340, g342, g343, g344, g345, mf346, hTH340⟩ := pH340
    subst hvH340
    have m347 := (MF.i mf346 (k := 0) (by decide) (by decide)).trans m336
    have mf348 : MF K s.heap H340 a0 [0, 18] := MF.trans mf330 mf346 (by decide)
    have bx341 := ty_fi (x := x341) (k := 18) ex341 hTH340 ga0 rg_112 rfl
    refine W.eq (g2 := F0 m 22 ls []) rfl ?_
    refine lv_aload_n hx hb dX10_feed_22 rfl (lv_at hl 0 rfl) ?_
    refine lv_iload_n hx hb dX10_feed_23 rfl (lv_at hl 2 rfl) ?_
    refine x_V (As := [.int x2]) (rest := []) C (a_X10_puts l K G H340 (x2) (x341) hTH340 ga0 ex341 g342 g343 g344 g345 (by omega)) yo_X10_puts wM_X10_188 ⟨⟨by decide, by decide⟩, by decide, by decide⟩ (x_rv C hTH340 (ci := 10) rfl ga0 rg_112) rfl hl.1 rfl (Nat.le_of_ble_eq_true rfl) dX10_feed_24 hSH340 (AE_sub (fun _ _ => rfl) (by decide) hSH340.1) (fun vH349 H349 locsH349 pH349 zH349 kH349 hSH349 => ?_)
    obtain ⟨x350, hvH349, ex350, hrH349, g351, g352, g353, g354, mf355, hTH349⟩ := pH349
    subst hvH349
    have m356 := (MF.i mf355 (k := 0) (by decide) (by decide)).trans m347
    have mf357 : MF K s.heap H349 a0 [0, 18] := MF.trans mf348 mf355 (by decide)
    have bx350 := ty_fi (x := x350) (k := 18) ex350 hTH349 ga0 rg_112 rfl
    refine W.eq (g2 := F0 m 27 ls []) rfl ?_
    refine lv_aload_n hx hb dX10_feed_27 rfl (lv_at hl 0 rfl) ?_
    refine lv_iload_n hx hb dX10_feed_28 rfl (lv_at hl 3 rfl) ?_
    refine x_V (As := [.int x3]) (rest := []) C (a_X10_puts l K G H349 (x3) (x350) hTH349 ga0 ex350 g351 g352 g353 g354 (by omega)) yo_X10_puts wM_X10_188 ⟨⟨by decide, by decide⟩, by decide, by decide⟩ (x_rv C hTH349 (ci := 10) rfl ga0 rg_112) rfl hl.1 rfl (Nat.le_of_ble_eq_true rfl) dX10_feed_29 hSH349 (AE_sub (fun _ _ => rfl) (by decide) hSH349.1) (fun vH358 H358 locsH358 pH358 zH358 kH358 hSH358 => ?_)
    obtain ⟨x359, hvH358, ex359, hrH358, g360, g361, g362, g363, mf364, hTH358⟩ := pH358
    subst hvH358
    have m365 := (MF.i mf364 (k := 0) (by decide) (by decide)).trans m356
    have mf366 : MF K s.heap H358 a0 [0, 18] := MF.trans mf357 mf364 (by decide)
    have bx359 := ty_fi (x := x359) (k := 18) ex359 hTH358 ga0 rg_112 rfl
    refine W.eq (g2 := F0 m 32 ls []) rfl ?_
    refine lv_aload_n hx hb dX10_feed_32 rfl (lv_at hl 0 rfl) ?_
    refine lv_iload hx hb dX10_feed_33 (lv_at hl 4 rfl) ?_
    refine x_V (As := [.int x4]) (rest := []) C (a_X10_puts l K G H358 (x4) (x359) hTH358 ga0 ex359 g360 g361 g362 g363 (by omega)) yo_X10_puts wM_X10_188 ⟨⟨by decide, by decide⟩, by decide, by decide⟩ (x_rv C hTH358 (ci := 10) rfl ga0 rg_112) rfl hl.1 rfl (Nat.le_of_ble_eq_true rfl) dX10_feed_35 hSH358 (AE_sub (fun _ _ => rfl) (by decide) hSH358.1) (fun vH367 H367 locsH367 pH367 zH367 kH367 hSH367 => ?_)
    obtain ⟨x368, hvH367, ex368, hrH367, g369, g370, g371, g372, mf373, hTH367⟩ := pH367
    subst hvH367
    have m374 := (MF.i mf373 (k := 0) (by decide) (by decide)).trans m365
    have mf375 : MF K s.heap H367 a0 [0, 18] := MF.trans mf366 mf373 (by decide)
    have bx368 := ty_fi (x := x368) (k := 18) ex368 hTH367 ga0 rg_112 rfl
    refine W.eq (g2 := F0 m 38 ls []) rfl ?_
    refine lv_aload_n hx hb dX10_feed_38 rfl (lv_at hl 0 rfl) ?_
    refine lv_iload hx hb dX10_feed_39 (lv_at hl 5 rfl) ?_
    refine x_V (As := [.int x5]) (rest := []) C (a_X10_puts l K G H367 (x5) (x368) hTH367 ga0 ex368 g369 g370 g371 g372 (by omega)) yo_X10_puts wM_X10_188 ⟨⟨by decide, by decide⟩, by decide, by decide⟩ (x_rv C hTH367 (ci := 10) rfl ga0 rg_112) rfl hl.1 rfl (Nat.le_of_ble_eq_true rfl) dX10_feed_41 hSH367 (AE_sub (fun _ _ => rfl) (by decide) hSH367.1) (fun vH376 H376 locsH376 pH376 zH376 kH376 hSH376 => ?_)
    obtain ⟨x377, hvH376, ex377, hrH376, g378, g379, g380, g381, mf382, hTH376⟩ := pH376
    subst hvH376
    have m383 := (MF.i mf382 (k := 0) (by decide) (by decide)).trans m374
    have mf384 : MF K s.heap H376 a0 [0, 18] := MF.trans mf375 mf382 (by decide)
    have bx377 := ty_fi (x := x377) (k := 18) ex377 hTH376 ga0 rg_112 rfl
    refine W.eq (g2 := F0 m 44 ls []) rfl ?_
    refine lv_aload_n hx hb dX10_feed_44 rfl (lv_at hl 0 rfl) ?_
    refine x_gi C hTH376 (ci := 10) (k := 18) rfl inX10 (by decide) wF_X10_185 ga0 rg_112 rfl dX10_feed_45 (fun x385 ex385 bx385 => ?_)
    have ux385 : x377 = x385 := (ex377).trans ex385.symm
    subst ux385
    exact x_iret C hQ dX10_feed_48 hSH376 (by decide) (by decide) (⟨x377, x377, rfl, ex377, by omega, g378, g379, g380, g381, mf384, hTH376⟩)
  · have k339 := i_nle c338
    refine lv_iconst (v := (-1)) hx hb dX10_feed_15 (by decide) ?_
    exact x_iret C hQ dX10_feed_16 hSH329 (by decide) (by decide) (⟨(-1), tp, rfl, m335, by omega, g331, g332, g333, g334, mf330, hTH329⟩)

set_option maxHeartbeats 4000000 in
set_option maxRecDepth 100000 in
theorem a_X10_end_t (l : Launch) (K : KE) (G : Nat → Option Nat) (H : Heap) {a0 : Nat} (x1 : Int32) (tp : Int32) (hT : TY K G H) (ga0 : G a0 = some 112) (etp : tp = fI H a0 (K.1.2 10 18)) (hg_CG : CG (avw K H a0)) (hg_TU : TU (avw K H a0) (svw K H a0)) (hg_WD : WD (avw K H a0)) (hg_IM : IM (avw K H a0)) : MX l K yX10_end cX10_end 2 (some .boolean) 1 23 0 0 [.ref a0, .int x1] H (AE G [112] H.size) (fun v H1 => ∃ (r : Int32) (t0 : Int32), v = some (.int r) ∧ (0 ≤ r.toInt ∧ r.toInt ≤ 1) ∧ t0 = fI H1 a0 (K.1.2 10 18) ∧ ((0 ≤ x1.toInt ∧ x1.toInt ≤ tp.toInt ∧ r.toInt = 1 ∧ t0.toInt = x1.toInt) ∨ ((x1.toInt < 0 ∨ tp.toInt < x1.toInt) ∧ r.toInt = 0 ∧ t0.toInt = tp.toInt)) ∧ (CG (avw K H1 a0)) ∧ (TU (avw K H1 a0) (svw K H1 a0)) ∧ (WD (avw K H1 a0)) ∧ (IM (avw K H1 a0)) ∧ MF K H H1 a0 [0, 18] ∧ TY K G H1) := by
  refine MX.of (by decide +kernel) (Nat.le_of_ble_eq_true rfl) ?_
  intro p e s m below meth c ls Q C hH hl hQ
  subst hH
  have C : CX p K s m _ meth c RX10 cX10_end 2 (some .boolean) "end" := C
  obtain ⟨hx, hb, hml, hown, hts, hKT, hr, hlocks, hnm⟩ := id C
  have hl : lv_has ls 2 [(0, .ref a0), (1, .int x1)] := hl
  have hS : va_S (AE G [112] s.heap.size) s.heap s.heap [] := va_S.rf
  have n_0 : (0 : Int32).toInt = 0 := rfl
  have n_1 : (1 : Int32).toInt = 1 := rfl
  have btp := ty_fi (x := tp) (k := 18) etp hT ga0 rg_112 rfl
  have hap : ∀ x y, x < 74 → y < 74 → x ≠ y → K.1.2 10 x ≠ K.1.2 10 y := x_apart hKT hts inX10 tyX10 tyX10_ok nmX10 rfl
  have mf0 : MF K s.heap s.heap a0 [0, 18] := fun _ _ _ => rfl
  refine lv_aload_n hx hb dX10_end_0 rfl (lv_at hl 0 rfl) ?_
  refine lv_iconst (v := 0) hx hb dX10_end_1 (by decide) ?_
  refine x_put C hT hS (ci := 10) (k := 0) (v := .int 0) (ty0 := tyX10) rfl inX10 tyX10_ok nmX10 (by decide) rfl wF_X10_167 ga0 rg_112 rfl rfl (okI (by have := i_rng (0 : Int32); omega) (by have := i_rng (0 : Int32); omega)) rfl rfl (AE_in ga0 (by decide)) dX10_end_2 (fun H193 locsH193 hTH193 hSH193 wH193 => ?_)
  have mf194 : MF K s.heap H193 a0 [0, 18] := MF.fld hap wH193 (by decide) (by decide) mf0
  have g195 : CG (avw K H193 a0) := CG.congr (fun k hk j => av_fld hT ga0 hap wH193 (by decide) (CG_ok 112 (by decide) k hk) (CG_ne 0 (by decide) k hk)) hg_CG
  have g196 : TU (avw K H193 a0) (svw K H193 a0) := TU.congr (fun k hk j => av_fld hT ga0 hap wH193 (by decide) (TU_ok 112 (by decide) k hk) (TU_ne 0 (by decide) k hk)) (fun k hk => sv_fld hap wH193 (by decide) (TU_slt k hk) (TU_sne 0 (by decide) k hk)) hg_TU
  have g197 : WD (avw K H193 a0) := WD.congr (fun k hk j => av_fld hT ga0 hap wH193 (by decide) (WD_ok 112 (by decide) k hk) (WD_ne 0 (by decide) k hk)) hg_WD
  have g198 : IM (avw K H193 a0) := IM.congr (fun k hk j => av_fld hT ga0 hap wH193 (by decide) (IM_ok 112 (by decide) k hk) (IM_ne 0 (by decide) k hk)) hg_IM
  have m199 := etp.trans (Wr.neI wH193 (Or.inr (x_apart hKT hts inX10 tyX10 tyX10_ok nmX10 rfl 18 0 (by decide) (by decide) (by decide)))).symm
  have m200 := Wr.I wH193
  refine lv_aload_n hx hb dX10_end_5 rfl (lv_at hl 0 rfl) ?_
  refine lv_iload_n hx hb dX10_end_6 rfl (lv_at hl 1 rfl) ?_
  refine lv_iconst (v := 0) hx hb dX10_end_7 (by decide) ?_
  refine lv_aload_n hx hb dX10_end_8 rfl (lv_at hl 0 rfl) ?_
  refine x_gi C hTH193 (ci := 10) (k := 18) rfl inX10 (by decide) wF_X10_185 ga0 rg_112 rfl dX10_end_9 (fun x201 ex201 bx201 => ?_)
  have ux201 : tp = x201 := (m199).trans ex201.symm
  subst ux201
  refine x_V (As := [.int x1, .int 0, .int tp]) (rest := []) C (c_X10_isIn l K G H193 (x1) (0) (tp) hTH193 ga0) yo_X10_isIn wM_X10_177 ⟨⟨by decide, by decide⟩, by decide, by decide⟩ (x_rv C hTH193 (ci := 10) rfl ga0 rg_112) rfl hl.1 rfl (Nat.le_of_ble_eq_true rfl) dX10_end_12 hSH193 (AE_sub (fun _ _ => rfl) (by decide) hSH193.1) (fun vH202 H202 locsH202 pH202 zH202 kH202 hSH202 => ?_)
  have hqH202 := pH202.1.symm
  subst hqH202
  rcases pH202.2 with ⟨hvH202, hcH202⟩ | ⟨hvH202, hcH202⟩
  · subst hvH202
    refine W.eq (g2 := F0 m 15 ls [.int 1]) rfl ?_
    refine lv_if_ne (tgt := 20) hx hb dX10_end_15 (by decide) (fun c203 => ?_) (fun c203 => ?_)
    · have k204 := i_ne c203
      refine lv_aload_n hx hb dX10_end_20 rfl (lv_at hl 0 rfl) ?_
      refine lv_iload_n hx hb dX10_end_21 rfl (lv_at hl 1 rfl) ?_
      refine x_put C hTH193 hSH202 (ci := 10) (k := 18) (v := .int x1) (ty0 := tyX10) rfl inX10 tyX10_ok nmX10 (by decide) rfl wF_X10_185 ga0 rg_112 rfl rfl (okI (by have := i_rng x1; omega) (by have := i_rng x1; omega)) rfl rfl (AE_in ga0 (by decide)) dX10_end_22 (fun H205 locsH205 hTH205 hSH205 wH205 => ?_)
      have mf206 : MF K s.heap H205 a0 [0, 18] := MF.fld hap wH205 (by decide) (by decide) mf194
      have g207 : CG (avw K H205 a0) := CG.congr (fun k hk j => av_fld hTH193 ga0 hap wH205 (by decide) (CG_ok 112 (by decide) k hk) (CG_ne 18 (by decide) k hk)) g195
      have g208 : TU (avw K H205 a0) (svw K H205 a0) := TU.congr (fun k hk j => av_fld hTH193 ga0 hap wH205 (by decide) (TU_ok 112 (by decide) k hk) (TU_ne 18 (by decide) k hk)) (fun k hk => sv_fld hap wH205 (by decide) (TU_slt k hk) (TU_sne 18 (by decide) k hk)) g196
      have g209 : WD (avw K H205 a0) := WD.congr (fun k hk j => av_fld hTH193 ga0 hap wH205 (by decide) (WD_ok 112 (by decide) k hk) (WD_ne 18 (by decide) k hk)) g197
      have g210 : IM (avw K H205 a0) := IM.congr (fun k hk j => av_fld hTH193 ga0 hap wH205 (by decide) (IM_ok 112 (by decide) k hk) (IM_ne 18 (by decide) k hk)) g198
      have m212 := (Wr.neI wH205 (Or.inr (x_apart hKT hts inX10 tyX10 tyX10_ok nmX10 rfl 0 18 (by decide) (by decide) (by decide)))).trans m200
      have m213 := Wr.I wH205
      have m213 := m213.symm
      refine lv_iconst (v := 1) hx hb dX10_end_25 (by decide) ?_
      exact x_zret C hQ (Or.inr rfl) dX10_end_26 hSH205 (by decide) (by decide) (⟨1, x1, rfl, by decide, m213, by omega, g207, g208, g209, g210, mf206, hTH205⟩)
    · have k204 := i_eq c203
      exfalso
      omega
  · subst hvH202
    refine W.eq (g2 := F0 m 15 ls [.int 0]) rfl ?_
    refine lv_if_ne (tgt := 20) hx hb dX10_end_15 (by decide) (fun c214 => ?_) (fun c214 => ?_)
    · have k215 := i_ne c214
      exfalso
      omega
    · have k215 := i_eq c214
      refine lv_iconst (v := 0) hx hb dX10_end_18 (by decide) ?_
      exact x_zret C hQ (Or.inl rfl) dX10_end_19 hSH202 (by decide) (by decide) (⟨0, tp, rfl, by decide, m199, by omega, g195, g196, g197, g198, mf194, hTH193⟩)

set_option maxHeartbeats 4000000 in
set_option maxRecDepth 100000 in
theorem a_X9_text_t (l : Launch) (K : KE) (G : Nat → Option Nat) (H : Heap) {a0 : Nat} (x1 x2 : Int32) (hT : TY K G H) (ga0 : G a0 = some 68) : MX l K yX9_text cX9_text 6 (some .int) 39 869 0 0 [.ref a0, .int x1, .int x2] H (AE G [68, 0, 78, 79, 80, 81, 69, 70, 71, 72, 73, 74, 75, 76, 77, 16, 17, 18, 19, 20, 21, 22, 23, 24] H.size) (fun v H1 => ∃ (r : Int32), v = some (.int r) ∧ fI H1 a0 (K.1.2 9 3) = 0 ∧ TY K G H1) := by
  refine MX.of (by decide +kernel) (Nat.le_of_ble_eq_true rfl) ?_
  intro p e s m below meth c ls Q C hH hl hQ
  subst hH
  have C : CX p K s m _ meth c RX9 cX9_text 6 (some .int) "text" := C
  obtain ⟨hx, hb, hml, hown, hts, hKT, hr, hlocks, hnm⟩ := id C
  have hl : lv_has ls 6 [(0, .ref a0), (1, .int x1), (2, .int x2)] := hl
  have hS : va_S (AE G [68, 0, 78, 79, 80, 81, 69, 70, 71, 72, 73, 74, 75, 76, 77, 16, 17, 18, 19, 20, 21, 22, 23, 24] s.heap.size) s.heap s.heap [] := va_S.rf
  have n_m1 : ((-1) : Int32).toInt = -1 := rfl
  have n_0 : (0 : Int32).toInt = 0 := rfl
  have n_1 : (1 : Int32).toInt = 1 := rfl
  have n_16 : (16 : Int32).toInt = 16 := rfl
  have n_26 : (26 : Int32).toInt = 26 := rfl
  refine lv_aload_n hx hb dX9_text_0 rfl (lv_at hl 0 rfl) ?_
  refine x_gi C hT (ci := 9) (k := 3) rfl inX9 (by decide) wF_X9_105 ga0 rg_68 rfl dX9_text_1 (fun x101 ex101 bx101 => ?_)
  refine lv_istore_n (lv' := [(3, .int x101), (0, .ref a0), (1, .int x1), (2, .int x2)]) hx hb dX9_text_4 rfl hl (by decide) rfl (fun ls102 hl103 => ?_)
  refine lv_aload_n hx hb dX9_text_5 rfl (lv_at hl103 1 rfl) ?_
  refine lv_iconst (v := 0) hx hb dX9_text_6 (by decide) ?_
  refine x_put C hT hS (ci := 9) (k := 3) (v := .int 0) (ty0 := tyX9) rfl inX9 tyX9_ok nmX9 (by decide) rfl wF_X9_105 ga0 rg_68 rfl rfl (okI (by have := i_rng (0 : Int32); omega) (by have := i_rng (0 : Int32); omega)) rfl rfl (AE_in ga0 (by decide)) dX9_text_7 (fun H104 locsH104 hTH104 hSH104 wH104 => ?_)
  have m106 := Wr.I wH104
  refine lv_aload_n hx hb dX9_text_10 rfl (lv_at hl103 1 rfl) ?_
  refine x_gr C hTH104 (ci := 9) (k := 0) rfl inX9 (by decide) wF_X9_12 ga0 rg_68 rfl dX9_text_11 (fun q107 eq107 gq107 => ?_)
  refine lv_iconst (v := 0) hx hb dX9_text_14 (by decide) ?_
  refine x_put C hTH104 hSH104 (ci := 8) (k := 6) (v := .int 0) (ty0 := tyX8) rfl inX8 tyX8_ok nmX8 (by decide) rfl wF_X9_111 gq107 rg_0 rfl rfl (okI (by have := i_rng (0 : Int32); omega) (by have := i_rng (0 : Int32); omega)) rfl rfl (AE_in gq107 (by decide)) dX9_text_15 (fun H108 locsH108 hTH108 hSH108 wH108 => ?_)
  have m109 := (Wr.neI wH108 (Or.inl (G_ne ga0 gq107 (by decide)))).trans m106
  have m110 := eq107.trans (Wr.neR wH108 (Or.inl (G_ne ga0 gq107 (by decide)))).symm
  have m111 := Wr.I wH108
  refine lv_aload_n hx hb dX9_text_18 rfl (lv_at hl103 1 rfl) ?_
  refine x_gr C hTH108 (ci := 9) (k := 0) rfl inX9 (by decide) wF_X9_12 ga0 rg_68 rfl dX9_text_19 (fun q112 eq112 gq112 => ?_)
  have uq112 : q107 = q112 := (m110).trans eq112.symm
  subst uq112
  refine lv_iconst (v := (-1)) hx hb dX9_text_22 (by decide) ?_
  refine x_put C hTH108 hSH108 (ci := 8) (k := 7) (v := .int (-1)) (ty0 := tyX8) rfl inX8 tyX8_ok nmX8 (by decide) rfl wF_X9_114 gq107 rg_0 rfl rfl (okI (by have := i_rng ((-1) : Int32); omega) (by have := i_rng ((-1) : Int32); omega)) rfl rfl (AE_in gq107 (by decide)) dX9_text_23 (fun H113 locsH113 hTH113 hSH113 wH113 => ?_)
  have m114 := (Wr.neI wH113 (Or.inl (G_ne ga0 gq107 (by decide)))).trans m109
  have m115 := m110.trans (Wr.neR wH113 (Or.inl (G_ne ga0 gq107 (by decide)))).symm
  have m116 := (Wr.neI wH113 (Or.inr (x_apart hKT hts inX8 tyX8 tyX8_ok nmX8 rfl 6 7 (by decide) (by decide) (by decide)))).trans m111
  have m117 := Wr.I wH113
  refine lv_aload_n hx hb dX9_text_26 rfl (lv_at hl103 1 rfl) ?_
  refine lv_iload_n hx hb dX9_text_27 rfl (lv_at hl103 2 rfl) ?_
  refine lv_iload_n hx hb dX9_text_28 rfl (lv_at hl103 3 rfl) ?_
  refine x_V (As := [.int x1, .int x2]) (rest := []) C (a_X9_textAt l K G H113 (x1) (x2) hTH113 ga0) yo_X9_textAt wM_X9_117 ⟨⟨by decide, by decide⟩, by decide, by decide⟩ (x_rv C hTH113 (ci := 9) rfl ga0 rg_68) rfl hl103.1 rfl (Nat.le_of_ble_eq_true rfl) dX9_text_29 hSH113 (AE_sub (fun _ _ => rfl) (by decide) hSH113.1) (fun vH118 H118 locsH118 pH118 zH118 kH118 hSH118 => ?_)
  have hTH118 := pH118.2
  have m119 := (fI_kept (x_lt hTH113 kH118 ga0 (by decide))).trans m114
  have m120 := (m115).trans (fR_kept (x_lt hTH113 kH118 ga0 (by decide))).symm
  have m121 := (fI_kept (x_lt hTH113 kH118 gq107 (by decide))).trans m116
  have m122 := (fI_kept (x_lt hTH113 kH118 gq107 (by decide))).trans m117
  rcases pH118.1 with hvH118 | ⟨q123, hvH118, gq123⟩
  · skip
    subst hvH118
    refine W.eq (g2 := F0 m 32 ls102 [.null]) rfl ?_
    refine lv_astoreN (lv' := [(4, .null), (3, .int x101), (0, .ref a0), (1, .int x1), (2, .int x2)]) hx hb dX9_text_32 hl103 (by decide) rfl (fun ls124 hl125 => ?_)
    refine lv_aloadN hx hb dX9_text_34 (lv_at hl125 0 rfl) ?_
    refine lv_ifnonnullN hx hb dX9_text_36 ?_
    refine lv_iconst (v := (-1)) hx hb dX9_text_39 (by decide) ?_
    exact x_iret C hQ dX9_text_40 hSH118 (by decide) (by decide) (⟨(-1), rfl, m119, hTH118⟩)
  · skip
    subst hvH118
    refine W.eq (g2 := F0 m 32 ls102 [.ref q123]) rfl ?_
    refine lv_astore (lv' := [(4, .ref q123), (3, .int x101), (0, .ref a0), (1, .int x1), (2, .int x2)]) hx hb dX9_text_32 hl103 (by decide) rfl (fun ls126 hl127 => ?_)
    refine lv_aload hx hb dX9_text_34 (lv_at hl127 0 rfl) ?_
    refine lv_ifnonnull (tgt := 41) hx hb dX9_text_36 (by decide) ?_
    refine lv_aload_n hx hb dX9_text_41 rfl (lv_at hl127 2 rfl) ?_
    refine x_gr C hTH118 (ci := 9) (k := 4) rfl inX9 (by decide) wF_X9_23 ga0 rg_68 rfl dX9_text_42 (fun q128 eq128 gq128 => ?_)
    refine lv_aload_n hx hb dX9_text_45 rfl (lv_at hl127 2 rfl) ?_
    refine x_gr C hTH118 (ci := 9) (k := 2) rfl inX9 (by decide) wF_X9_16 ga0 rg_68 rfl dX9_text_46 (fun q129 eq129 gq129 => ?_)
    refine lv_iload_n hx hb dX9_text_49 rfl (lv_at hl127 1 rfl) ?_
    refine lv_iload_n hx hb dX9_text_50 rfl (lv_at hl127 3 rfl) ?_
    refine lv_if_ne (tgt := 58) hx hb dX9_text_51 (by decide) (fun c130 => ?_) (fun c130 => ?_)
    · have k131 := i_ne c130
      refine lv_iconst (v := 0) hx hb dX9_text_58 (by decide) ?_
      obtain ⟨q132, eq132⟩ : ∃ z : Nat, z = fR H118 q128 (K.1.2 4 0) := ⟨_, rfl⟩
      have gq132 := ty_fr (q := q132) (k := 0) (u := 69) eq132 hTH118 gq128 rg_78 rfl
      obtain ⟨q133, eq133⟩ : ∃ z : Nat, z = fR H118 q128 (K.1.2 4 3) := ⟨_, rfl⟩
      have gq133 := ty_fr (q := q133) (k := 3) (u := 79) eq133 hTH118 gq128 rg_78 rfl
      obtain ⟨x134, ex134⟩ : ∃ z : Int32, z = fI H118 q128 (K.1.2 4 7) := ⟨_, rfl⟩
      have bx134 := ty_fi (x := x134) (k := 7) ex134 hTH118 gq128 rg_78 rfl
      obtain ⟨x135, ex135⟩ : ∃ z : Int32, z = fI H118 q128 (K.1.2 4 6) := ⟨_, rfl⟩
      have bx135 := ty_fi (x := x135) (k := 6) ex135 hTH118 gq128 rg_78 rfl
      refine x_V (As := [.ref q129, .int x101, .int 0]) (rest := []) C (a_X4_start l K G H118 (x101) (0) (x134) (x135) hTH118 gq128 gq129 (by omega) (by decide) gq132 eq132 gq133 eq133 ex134 ex135) yo_X4_start wM_X9_121 ⟨⟨by decide, by decide⟩, by decide, by decide⟩ (x_rv C hTH118 (ci := 4) rfl gq128 rg_78) rfl hl127.1 rfl (Nat.le_of_ble_eq_true rfl) dX9_text_59 hSH118 (AE_sub (fun _ _ => rfl) (by decide) hSH118.1) (fun vH136 H136 locsH136 pH136 zH136 kH136 hSH136 => ?_)
      obtain ⟨x137, x138, hvH136, ex137, ex138, hrH136, m139, m140, m141, hTH136⟩ := pH136
      subst hvH136
      have m142 := (fI_kept (x_lt hTH118 kH136 ga0 (by decide))).trans m119
      have m143 := (m120).trans (fR_kept (x_lt hTH118 kH136 ga0 (by decide))).symm
      have m144 := (fI_kept (x_lt hTH118 kH136 gq107 (by decide))).trans m121
      have m145 := (fI_kept (x_lt hTH118 kH136 gq107 (by decide))).trans m122
      have m146 := (eq128).trans (fR_kept (x_lt hTH118 kH136 ga0 (by decide))).symm
      have m147 := (eq129).trans (fR_kept (x_lt hTH118 kH136 ga0 (by decide))).symm
      have bx137 := ty_fi (x := x137) (k := 7) ex137 hTH136 gq128 rg_78 rfl
      have bx138 := ty_fi (x := x138) (k := 6) ex138 hTH136 gq128 rg_78 rfl
      obtain ⟨x148, bx148, mx148⟩ := m141
      refine W.eq (g2 := F0 m 62 ls126 []) rfl ?_
      refine lv_iconst (v := 0) hx hb dX9_text_62 (by decide) ?_
      refine lv_istore (lv' := [(5, .int 0), (4, .ref q123), (3, .int x101), (0, .ref a0), (1, .int x1), (2, .int x2)]) hx hb dX9_text_63 hl127 (by decide) rfl (fun ls149 hl150 => ?_)
      have Lp151 : ∀ (nf : Nat) (ls154 : Array Slot) (H153 : Heap) (locsH153 : List Loc) (x152 : Int32) (x161 : Int32), lv_has ls154 6 [(5, .int x152), (4, .ref q123), (0, .ref a0)] → TY K G H153 → va_S (AE G [68, 0, 78, 79, 80, 81, 69, 70, 71, 72, 73, 74, 75, 76, 77, 16, 17, 18, 19, 20, 21, 22, 23, 24] s.heap.size) s.heap H153 locsH153 → (0 ≤ x152.toInt ∧ x152.toInt ≤ 17) → (q128 = fR H153 a0 (K.1.2 9 4)) → (q132 = fR H153 q128 (K.1.2 4 0)) → (q133 = fR H153 q128 (K.1.2 4 3)) → (fI H153 q133 (x148 : Int32).toNatClampNeg = 26) → (fI H153 a0 (K.1.2 9 3) = 0) → (x161 = fI H153 q128 (K.1.2 4 7)) → (x161.toInt ≤ x148.toInt ∧ 0 ≤ x161.toInt) → (17 - x152.toInt < (nf : Int)) → W p l e ({ frames := 39, cells := 0, slots := 0, locals := 869 } : Room) s m (([.ref a0, .int x1, .int x2] : List Value).toArray) below meth c H153 locsH153 ((0 + 0) + 0) ((0 + 0) + 0) Q (F0 m 65 ls154 []) := by
        intro nf
        induction nf with
        | zero =>
          intro ls154 H153 locsH153 x152 x161 hl155 hTH153 hSH153 bx152 i156 i157 i158 i159 i160 ex161 tx161 hmLp151
          exfalso
          omega
        | succ nf ihLp151 =>
          intro ls154 H153 locsH153 x152 x161 hl155 hTH153 hSH153 bx152 i156 i157 i158 i159 i160 ex161 tx161 hmLp151
          refine lv_iload hx hb dX9_text_65 (lv_at hl155 0 rfl) ?_
          refine lv_bipush (v := 16) hx hb dX9_text_67 (by decide) ?_
          refine lv_icmp_gt (tgt := 96) hx hb dX9_text_69 (by decide) (fun c162 => ?_) (fun c162 => ?_)
          · have k163 := i_lt c162
            refine lv_aload_n hx hb dX9_text_96 rfl (lv_at hl155 2 rfl) ?_
            refine x_gr C hTH153 (ci := 9) (k := 4) rfl inX9 (by decide) wF_X9_23 ga0 rg_68 rfl dX9_text_97 (fun q164 eq164 gq164 => ?_)
            have uq164 : q128 = q164 := (i156).trans eq164.symm
            subst uq164
            refine x_gi C hTH153 (ci := 4) (k := 1) rfl inX4 (by decide) wF_X9_132 gq128 rg_78 rfl dX9_text_100 (fun x165 ex165 bx165 => ?_)
            refine lv_if_eq (tgt := 136) hx hb dX9_text_103 (by decide) (fun c166 => ?_) (fun c166 => ?_)
            · have k167 := i_eq c166
              refine lv_aload hx hb dX9_text_136 (lv_at hl155 1 rfl) ?_
              refine lv_aload_n hx hb dX9_text_138 rfl (lv_at hl155 2 rfl) ?_
              refine x_gr C hTH153 (ci := 9) (k := 4) rfl inX9 (by decide) wF_X9_23 ga0 rg_68 rfl dX9_text_139 (fun q168 eq168 gq168 => ?_)
              have uq168 : q128 = q168 := (i156).trans eq168.symm
              subst uq168
              refine x_gr C hTH153 (ci := 4) (k := 0) rfl inX4 (by decide) wF_X9_134 gq128 rg_78 rfl dX9_text_142 (fun q169 eq169 gq169 => ?_)
              have uq169 : q132 = q169 := (i157).trans eq169.symm
              subst uq169
              refine x_V (As := [.ref q132]) (rest := []) C (a_X7_copyFrom_n_m l K G H153  hTH153 gq123 gq132) yo_X7_copyFrom wM_X9_138 ⟨⟨by decide, by decide⟩, by decide, by decide⟩ (x_rv C hTH153 (ci := 7) rfl gq123 rg_16) rfl hl155.1 rfl (Nat.le_of_ble_eq_true rfl) dX9_text_145 hSH153 (AE_sub (fun _ _ => rfl) (by decide) hSH153.1) (fun vH170 H170 locsH170 pH170 zH170 kH170 hSH170 => ?_)
              obtain ⟨hvH170, hTH170⟩ := pH170
              subst hvH170
              have m171 := (i156).trans (fR_kept (x_lt hTH153 kH170 ga0 (by decide))).symm
              have m172 := (i157).trans (fR_kept (x_lt hTH153 kH170 gq128 (by decide))).symm
              have m173 := (i158).trans (fR_kept (x_lt hTH153 kH170 gq128 (by decide))).symm
              have m174 := (fI_kept (x_lt hTH153 kH170 gq133 (by decide))).trans i159
              have m175 := (fI_kept (x_lt hTH153 kH170 ga0 (by decide))).trans i160
              have m176 := (ex161).trans (fI_kept (x_lt hTH153 kH170 gq128 (by decide))).symm
              have m177 := (ex165).trans (fI_kept (x_lt hTH153 kH170 gq128 (by decide))).symm
              refine W.eq (g2 := F0 m 148 ls154 []) rfl ?_
              refine lv_aload hx hb dX9_text_148 (lv_at hl155 1 rfl) ?_
              refine x_gi C hTH170 (ci := 7) (k := 0) rfl inX7 (by decide) wF_X9_144 gq123 rg_16 rfl dX9_text_150 (fun x178 ex178 bx178 => ?_)
              exact x_iret C hQ dX9_text_153 hSH170 (by decide) (by decide) (⟨x178, rfl, m175, hTH170⟩)
            · have k167 := i_ne c166
              refine lv_aload_n hx hb dX9_text_106 rfl (lv_at hl155 2 rfl) ?_
              refine x_gr C hTH153 (ci := 9) (k := 0) rfl inX9 (by decide) wF_X9_12 ga0 rg_68 rfl dX9_text_107 (fun q179 eq179 gq179 => ?_)
              refine lv_aload_n hx hb dX9_text_110 rfl (lv_at hl155 2 rfl) ?_
              refine x_gr C hTH153 (ci := 9) (k := 4) rfl inX9 (by decide) wF_X9_23 ga0 rg_68 rfl dX9_text_111 (fun q180 eq180 gq180 => ?_)
              have uq180 : q128 = q180 := (i156).trans eq180.symm
              subst uq180
              refine x_gi C hTH153 (ci := 4) (k := 1) rfl inX4 (by decide) wF_X9_132 gq128 rg_78 rfl dX9_text_114 (fun x181 ex181 bx181 => ?_)
              have ux181 : x165 = x181 := (ex165).trans ex181.symm
              subst ux181
              refine x_put C hTH153 hSH153 (ci := 8) (k := 6) (v := .int x165) (ty0 := tyX8) rfl inX8 tyX8_ok nmX8 (by decide) rfl wF_X9_111 gq179 rg_0 rfl rfl (okI (by have := i_rng x165; omega) (by have := i_rng x165; omega)) rfl rfl (AE_in gq179 (by decide)) dX9_text_117 (fun H182 locsH182 hTH182 hSH182 wH182 => ?_)
              have m183 := i156.trans (Wr.neR wH182 (Or.inl (G_ne ga0 gq179 (by decide)))).symm
              have m184 := i157.trans (Wr.neR wH182 (Or.inl (G_ne gq128 gq179 (by decide)))).symm
              have m185 := i158.trans (Wr.neR wH182 (Or.inl (G_ne gq128 gq179 (by decide)))).symm
              have m186 := (Wr.neI wH182 (Or.inl (G_ne gq133 gq179 (by decide)))).trans i159
              have m187 := (Wr.neI wH182 (Or.inl (G_ne ga0 gq179 (by decide)))).trans i160
              have m188 := ex161.trans (Wr.neI wH182 (Or.inl (G_ne gq128 gq179 (by decide)))).symm
              have m189 := ex165.trans (Wr.neI wH182 (Or.inl (G_ne gq128 gq179 (by decide)))).symm
              have m190 := eq179.trans (Wr.neR wH182 (Or.inl (G_ne ga0 gq179 (by decide)))).symm
              have m191 := Wr.I wH182
              have m191 := m191.symm
              refine lv_aload_n hx hb dX9_text_120 rfl (lv_at hl155 2 rfl) ?_
              refine x_gr C hTH182 (ci := 9) (k := 0) rfl inX9 (by decide) wF_X9_12 ga0 rg_68 rfl dX9_text_121 (fun q192 eq192 gq192 => ?_)
              have uq192 : q179 = q192 := (m190).trans eq192.symm
              subst uq192
              refine lv_aload_n hx hb dX9_text_124 rfl (lv_at hl155 2 rfl) ?_
              refine x_gr C hTH182 (ci := 9) (k := 4) rfl inX9 (by decide) wF_X9_23 ga0 rg_68 rfl dX9_text_125 (fun q193 eq193 gq193 => ?_)
              have uq193 : q128 = q193 := (m183).trans eq193.symm
              subst uq193
              refine x_gi C hTH182 (ci := 4) (k := 2) rfl inX4 (by decide) wF_X9_133 gq128 rg_78 rfl dX9_text_128 (fun x194 ex194 bx194 => ?_)
              refine x_put C hTH182 hSH182 (ci := 8) (k := 7) (v := .int x194) (ty0 := tyX8) rfl inX8 tyX8_ok nmX8 (by decide) rfl wF_X9_114 gq179 rg_0 rfl rfl (okI (by have := i_rng x194; omega) (by have := i_rng x194; omega)) rfl rfl (AE_in gq179 (by decide)) dX9_text_131 (fun H195 locsH195 hTH195 hSH195 wH195 => ?_)
              have m196 := m183.trans (Wr.neR wH195 (Or.inl (G_ne ga0 gq179 (by decide)))).symm
              have m197 := m184.trans (Wr.neR wH195 (Or.inl (G_ne gq128 gq179 (by decide)))).symm
              have m198 := m185.trans (Wr.neR wH195 (Or.inl (G_ne gq128 gq179 (by decide)))).symm
              have m199 := (Wr.neI wH195 (Or.inl (G_ne gq133 gq179 (by decide)))).trans m186
              have m200 := (Wr.neI wH195 (Or.inl (G_ne ga0 gq179 (by decide)))).trans m187
              have m201 := m188.trans (Wr.neI wH195 (Or.inl (G_ne gq128 gq179 (by decide)))).symm
              have m202 := m189.trans (Wr.neI wH195 (Or.inl (G_ne gq128 gq179 (by decide)))).symm
              have m203 := m190.trans (Wr.neR wH195 (Or.inl (G_ne ga0 gq179 (by decide)))).symm
              have m204 := m191.trans (Wr.neI wH195 (Or.inr (x_apart hKT hts inX8 tyX8 tyX8_ok nmX8 rfl 6 7 (by decide) (by decide) (by decide)))).symm
              have m205 := ex194.trans (Wr.neI wH195 (Or.inl (G_ne gq128 gq179 (by decide)))).symm
              have m206 := Wr.I wH195
              have m206 := m206.symm
              refine lv_iconst (v := (-1)) hx hb dX9_text_134 (by decide) ?_
              exact x_iret C hQ dX9_text_135 hSH195 (by decide) (by decide) (⟨(-1), rfl, m200, hTH195⟩)
          · have k163 := i_nlt c162
            refine lv_aload_n hx hb dX9_text_72 rfl (lv_at hl155 2 rfl) ?_
            refine x_gr C hTH153 (ci := 9) (k := 4) rfl inX9 (by decide) wF_X9_23 ga0 rg_68 rfl dX9_text_73 (fun q207 eq207 gq207 => ?_)
            have uq207 : q128 = q207 := (i156).trans eq207.symm
            subst uq207
            refine x_V (As := []) (rest := []) C (a_X4_goesOn l K G H153  hTH153 gq128) yo_X4_goesOn wM_X9_125 ⟨⟨by decide, by decide⟩, by decide, by decide⟩ (x_rv C hTH153 (ci := 4) rfl gq128 rg_78) rfl hl155.1 rfl (Nat.le_of_ble_eq_true rfl) dX9_text_76 hSH153 (AE_sub (fun _ _ => rfl) (by decide) hSH153.1) (fun vH208 H208 locsH208 pH208 zH208 kH208 hSH208 => ?_)
            obtain ⟨x209, hvH208, bx209, hTH208⟩ := pH208
            subst hvH208
            have m210 := (i156).trans (fR_kept (x_lt hTH153 kH208 ga0 (by decide))).symm
            have m211 := (i157).trans (fR_kept (x_lt hTH153 kH208 gq128 (by decide))).symm
            have m212 := (i158).trans (fR_kept (x_lt hTH153 kH208 gq128 (by decide))).symm
            have m213 := (fI_kept (x_lt hTH153 kH208 gq133 (by decide))).trans i159
            have m214 := (fI_kept (x_lt hTH153 kH208 ga0 (by decide))).trans i160
            have m215 := (ex161).trans (fI_kept (x_lt hTH153 kH208 gq128 (by decide))).symm
            refine W.eq (g2 := F0 m 79 ls154 [.int x209]) rfl ?_
            refine lv_if_eq (tgt := 96) hx hb dX9_text_79 (by decide) (fun c216 => ?_) (fun c216 => ?_)
            · have k217 := i_eq c216
              refine lv_aload_n hx hb dX9_text_96 rfl (lv_at hl155 2 rfl) ?_
              refine x_gr C hTH208 (ci := 9) (k := 4) rfl inX9 (by decide) wF_X9_23 ga0 rg_68 rfl dX9_text_97 (fun q218 eq218 gq218 => ?_)
              have uq218 : q128 = q218 := (m210).trans eq218.symm
              subst uq218
              refine x_gi C hTH208 (ci := 4) (k := 1) rfl inX4 (by decide) wF_X9_132 gq128 rg_78 rfl dX9_text_100 (fun x219 ex219 bx219 => ?_)
              refine lv_if_eq (tgt := 136) hx hb dX9_text_103 (by decide) (fun c220 => ?_) (fun c220 => ?_)
              · have k221 := i_eq c220
                refine lv_aload hx hb dX9_text_136 (lv_at hl155 1 rfl) ?_
                refine lv_aload_n hx hb dX9_text_138 rfl (lv_at hl155 2 rfl) ?_
                refine x_gr C hTH208 (ci := 9) (k := 4) rfl inX9 (by decide) wF_X9_23 ga0 rg_68 rfl dX9_text_139 (fun q222 eq222 gq222 => ?_)
                have uq222 : q128 = q222 := (m210).trans eq222.symm
                subst uq222
                refine x_gr C hTH208 (ci := 4) (k := 0) rfl inX4 (by decide) wF_X9_134 gq128 rg_78 rfl dX9_text_142 (fun q223 eq223 gq223 => ?_)
                have uq223 : q132 = q223 := (m211).trans eq223.symm
                subst uq223
                refine x_V (As := [.ref q132]) (rest := []) C (a_X7_copyFrom_n_m l K G H208  hTH208 gq123 gq132) yo_X7_copyFrom wM_X9_138 ⟨⟨by decide, by decide⟩, by decide, by decide⟩ (x_rv C hTH208 (ci := 7) rfl gq123 rg_16) rfl hl155.1 rfl (Nat.le_of_ble_eq_true rfl) dX9_text_145 hSH208 (AE_sub (fun _ _ => rfl) (by decide) hSH208.1) (fun vH224 H224 locsH224 pH224 zH224 kH224 hSH224 => ?_)
                obtain ⟨hvH224, hTH224⟩ := pH224
                subst hvH224
                have m225 := (m210).trans (fR_kept (x_lt hTH208 kH224 ga0 (by decide))).symm
                have m226 := (m211).trans (fR_kept (x_lt hTH208 kH224 gq128 (by decide))).symm
                have m227 := (m212).trans (fR_kept (x_lt hTH208 kH224 gq128 (by decide))).symm
                have m228 := (fI_kept (x_lt hTH208 kH224 gq133 (by decide))).trans m213
                have m229 := (fI_kept (x_lt hTH208 kH224 ga0 (by decide))).trans m214
                have m230 := (m215).trans (fI_kept (x_lt hTH208 kH224 gq128 (by decide))).symm
                have m231 := (ex219).trans (fI_kept (x_lt hTH208 kH224 gq128 (by decide))).symm
                refine W.eq (g2 := F0 m 148 ls154 []) rfl ?_
                refine lv_aload hx hb dX9_text_148 (lv_at hl155 1 rfl) ?_
                refine x_gi C hTH224 (ci := 7) (k := 0) rfl inX7 (by decide) wF_X9_144 gq123 rg_16 rfl dX9_text_150 (fun x232 ex232 bx232 => ?_)
                exact x_iret C hQ dX9_text_153 hSH224 (by decide) (by decide) (⟨x232, rfl, m229, hTH224⟩)
              · have k221 := i_ne c220
                refine lv_aload_n hx hb dX9_text_106 rfl (lv_at hl155 2 rfl) ?_
                refine x_gr C hTH208 (ci := 9) (k := 0) rfl inX9 (by decide) wF_X9_12 ga0 rg_68 rfl dX9_text_107 (fun q233 eq233 gq233 => ?_)
                refine lv_aload_n hx hb dX9_text_110 rfl (lv_at hl155 2 rfl) ?_
                refine x_gr C hTH208 (ci := 9) (k := 4) rfl inX9 (by decide) wF_X9_23 ga0 rg_68 rfl dX9_text_111 (fun q234 eq234 gq234 => ?_)
                have uq234 : q128 = q234 := (m210).trans eq234.symm
                subst uq234
                refine x_gi C hTH208 (ci := 4) (k := 1) rfl inX4 (by decide) wF_X9_132 gq128 rg_78 rfl dX9_text_114 (fun x235 ex235 bx235 => ?_)
                have ux235 : x219 = x235 := (ex219).trans ex235.symm
                subst ux235
                refine x_put C hTH208 hSH208 (ci := 8) (k := 6) (v := .int x219) (ty0 := tyX8) rfl inX8 tyX8_ok nmX8 (by decide) rfl wF_X9_111 gq233 rg_0 rfl rfl (okI (by have := i_rng x219; omega) (by have := i_rng x219; omega)) rfl rfl (AE_in gq233 (by decide)) dX9_text_117 (fun H236 locsH236 hTH236 hSH236 wH236 => ?_)
                have m237 := m210.trans (Wr.neR wH236 (Or.inl (G_ne ga0 gq233 (by decide)))).symm
                have m238 := m211.trans (Wr.neR wH236 (Or.inl (G_ne gq128 gq233 (by decide)))).symm
                have m239 := m212.trans (Wr.neR wH236 (Or.inl (G_ne gq128 gq233 (by decide)))).symm
                have m240 := (Wr.neI wH236 (Or.inl (G_ne gq133 gq233 (by decide)))).trans m213
                have m241 := (Wr.neI wH236 (Or.inl (G_ne ga0 gq233 (by decide)))).trans m214
                have m242 := m215.trans (Wr.neI wH236 (Or.inl (G_ne gq128 gq233 (by decide)))).symm
                have m243 := ex219.trans (Wr.neI wH236 (Or.inl (G_ne gq128 gq233 (by decide)))).symm
                have m244 := eq233.trans (Wr.neR wH236 (Or.inl (G_ne ga0 gq233 (by decide)))).symm
                have m245 := Wr.I wH236
                have m245 := m245.symm
                refine lv_aload_n hx hb dX9_text_120 rfl (lv_at hl155 2 rfl) ?_
                refine x_gr C hTH236 (ci := 9) (k := 0) rfl inX9 (by decide) wF_X9_12 ga0 rg_68 rfl dX9_text_121 (fun q246 eq246 gq246 => ?_)
                have uq246 : q233 = q246 := (m244).trans eq246.symm
                subst uq246
                refine lv_aload_n hx hb dX9_text_124 rfl (lv_at hl155 2 rfl) ?_
                refine x_gr C hTH236 (ci := 9) (k := 4) rfl inX9 (by decide) wF_X9_23 ga0 rg_68 rfl dX9_text_125 (fun q247 eq247 gq247 => ?_)
                have uq247 : q128 = q247 := (m237).trans eq247.symm
                subst uq247
                refine x_gi C hTH236 (ci := 4) (k := 2) rfl inX4 (by decide) wF_X9_133 gq128 rg_78 rfl dX9_text_128 (fun x248 ex248 bx248 => ?_)
                refine x_put C hTH236 hSH236 (ci := 8) (k := 7) (v := .int x248) (ty0 := tyX8) rfl inX8 tyX8_ok nmX8 (by decide) rfl wF_X9_114 gq233 rg_0 rfl rfl (okI (by have := i_rng x248; omega) (by have := i_rng x248; omega)) rfl rfl (AE_in gq233 (by decide)) dX9_text_131 (fun H249 locsH249 hTH249 hSH249 wH249 => ?_)
                have m250 := m237.trans (Wr.neR wH249 (Or.inl (G_ne ga0 gq233 (by decide)))).symm
                have m251 := m238.trans (Wr.neR wH249 (Or.inl (G_ne gq128 gq233 (by decide)))).symm
                have m252 := m239.trans (Wr.neR wH249 (Or.inl (G_ne gq128 gq233 (by decide)))).symm
                have m253 := (Wr.neI wH249 (Or.inl (G_ne gq133 gq233 (by decide)))).trans m240
                have m254 := (Wr.neI wH249 (Or.inl (G_ne ga0 gq233 (by decide)))).trans m241
                have m255 := m242.trans (Wr.neI wH249 (Or.inl (G_ne gq128 gq233 (by decide)))).symm
                have m256 := m243.trans (Wr.neI wH249 (Or.inl (G_ne gq128 gq233 (by decide)))).symm
                have m257 := m244.trans (Wr.neR wH249 (Or.inl (G_ne ga0 gq233 (by decide)))).symm
                have m258 := m245.trans (Wr.neI wH249 (Or.inr (x_apart hKT hts inX8 tyX8 tyX8_ok nmX8 rfl 6 7 (by decide) (by decide) (by decide)))).symm
                have m259 := ex248.trans (Wr.neI wH249 (Or.inl (G_ne gq128 gq233 (by decide)))).symm
                have m260 := Wr.I wH249
                have m260 := m260.symm
                refine lv_iconst (v := (-1)) hx hb dX9_text_134 (by decide) ?_
                exact x_iret C hQ dX9_text_135 hSH249 (by decide) (by decide) (⟨(-1), rfl, m254, hTH249⟩)
            · have k217 := i_ne c216
              refine lv_aload_n hx hb dX9_text_82 rfl (lv_at hl155 2 rfl) ?_
              refine x_gr C hTH208 (ci := 9) (k := 4) rfl inX9 (by decide) wF_X9_23 ga0 rg_68 rfl dX9_text_83 (fun q261 eq261 gq261 => ?_)
              have uq261 : q128 = q261 := (m210).trans eq261.symm
              subst uq261
              obtain ⟨x262, ex262⟩ : ∃ z : Int32, z = fI H208 q132 (K.1.2 7 0) := ⟨_, rfl⟩
              have bx262 := ty_fi (x := x262) (k := 0) ex262 hTH208 gq132 rg_69 rfl
              refine x_V (As := []) (rest := []) C (a_X4_line l K G H208 (x148) (x161) (x262) hTH208 gq128 gq132 m211 gq133 m212 m215 ex262 m213 (by omega) (by omega)) yo_X4_line wM_X9_129 ⟨⟨by decide, by decide⟩, by decide, by decide⟩ (x_rv C hTH208 (ci := 4) rfl gq128 rg_78) rfl hl155.1 rfl (Nat.le_of_ble_eq_true rfl) dX9_text_86 hSH208 (AE_sub (fun _ _ => rfl) (by decide) hSH208.1) (fun vH263 H263 locsH263 pH263 zH263 kH263 hSH263 => ?_)
              obtain ⟨x264, x265, x266, hvH263, bx264, ex265, ex266, hrH263, m267, m268, hTH263⟩ := pH263
              subst hvH263
              have m269 := (m210).trans (fR_kept (x_lt hTH208 kH263 ga0 (by decide))).symm
              have m270 := (fI_kept (x_lt hTH208 kH263 gq133 (by decide))).trans m213
              have m271 := (fI_kept (x_lt hTH208 kH263 ga0 (by decide))).trans m214
              have bx265 := ty_fi (x := x265) (k := 7) ex265 hTH263 gq128 rg_78 rfl
              have bx266 := ty_fi (x := x266) (k := 0) ex266 hTH263 gq132 rg_69 rfl
              refine W.eq (g2 := F0 m 89 ls154 [.int x264]) rfl ?_
              refine lv_pop hx hb dX9_text_89 rfl ?_
              obtain ⟨x272, ex272⟩ : ∃ y : Int32, y = x152 + 1 := ⟨_, rfl⟩
              have tx272 := i_add ex272 (by omega)
              refine lv_iinc (v := x272) (lv' := [(5, .int x272), (4, .ref q123), (0, .ref a0)]) hx hb dX9_text_90 hl155 (k := 0) rfl (by rw [ex272]; rfl) (by decide) rfl (fun ls273 hl274 => ?_)
              refine lv_goto (tgt := 65) hx hb dX9_text_93 (by decide) ?_
              exact ihLp151 ls273 H263 locsH263 (x272) (x265) (lv_sub hl274 [0, 1, 2] rfl) hTH263 hSH263 (by omega) m269 m267 m268 m270 m271 ex265 (by omega) (by omega)
      exact Lp151 ((17 - (0 : Int32).toInt).toNat + 1) ls149 H136 locsH136 (0) (x137) (lv_sub hl150 [0, 1, 3] rfl) hTH136 hSH136 (by omega) m146 m139 m140 mx148 m142 ex137 (by omega) (by omega)
    · have k131 := i_eq c130
      refine lv_iconst (v := 1) hx hb dX9_text_54 (by decide) ?_
      refine lv_goto (tgt := 59) hx hb dX9_text_55 (by decide) ?_
      obtain ⟨q275, eq275⟩ : ∃ z : Nat, z = fR H118 q128 (K.1.2 4 0) := ⟨_, rfl⟩
      have gq275 := ty_fr (q := q275) (k := 0) (u := 69) eq275 hTH118 gq128 rg_78 rfl
      obtain ⟨q276, eq276⟩ : ∃ z : Nat, z = fR H118 q128 (K.1.2 4 3) := ⟨_, rfl⟩
      have gq276 := ty_fr (q := q276) (k := 3) (u := 79) eq276 hTH118 gq128 rg_78 rfl
      obtain ⟨x277, ex277⟩ : ∃ z : Int32, z = fI H118 q128 (K.1.2 4 7) := ⟨_, rfl⟩
      have bx277 := ty_fi (x := x277) (k := 7) ex277 hTH118 gq128 rg_78 rfl
      obtain ⟨x278, ex278⟩ : ∃ z : Int32, z = fI H118 q128 (K.1.2 4 6) := ⟨_, rfl⟩
      have bx278 := ty_fi (x := x278) (k := 6) ex278 hTH118 gq128 rg_78 rfl
      refine x_V (As := [.ref q129, .int x101, .int 1]) (rest := []) C (a_X4_start l K G H118 (x101) (1) (x277) (x278) hTH118 gq128 gq129 (by omega) (by decide) gq275 eq275 gq276 eq276 ex277 ex278) yo_X4_start wM_X9_121 ⟨⟨by decide, by decide⟩, by decide, by decide⟩ (x_rv C hTH118 (ci := 4) rfl gq128 rg_78) rfl hl127.1 rfl (Nat.le_of_ble_eq_true rfl) dX9_text_59 hSH118 (AE_sub (fun _ _ => rfl) (by decide) hSH118.1) (fun vH279 H279 locsH279 pH279 zH279 kH279 hSH279 => ?_)
      obtain ⟨x280, x281, hvH279, ex280, ex281, hrH279, m282, m283, m284, hTH279⟩ := pH279
      subst hvH279
      have m285 := (fI_kept (x_lt hTH118 kH279 ga0 (by decide))).trans m119
      have m286 := (m120).trans (fR_kept (x_lt hTH118 kH279 ga0 (by decide))).symm
      have m287 := (fI_kept (x_lt hTH118 kH279 gq107 (by decide))).trans m121
      have m288 := (fI_kept (x_lt hTH118 kH279 gq107 (by decide))).trans m122
      have m289 := (eq128).trans (fR_kept (x_lt hTH118 kH279 ga0 (by decide))).symm
      have m290 := (eq129).trans (fR_kept (x_lt hTH118 kH279 ga0 (by decide))).symm
      have bx280 := ty_fi (x := x280) (k := 7) ex280 hTH279 gq128 rg_78 rfl
      have bx281 := ty_fi (x := x281) (k := 6) ex281 hTH279 gq128 rg_78 rfl
      obtain ⟨x291, bx291, mx291⟩ := m284
      refine W.eq (g2 := F0 m 62 ls126 []) rfl ?_
      refine lv_iconst (v := 0) hx hb dX9_text_62 (by decide) ?_
      refine lv_istore (lv' := [(5, .int 0), (4, .ref q123), (3, .int x101), (0, .ref a0), (1, .int x1), (2, .int x2)]) hx hb dX9_text_63 hl127 (by decide) rfl (fun ls292 hl293 => ?_)
      have Lp294 : ∀ (nf : Nat) (ls297 : Array Slot) (H296 : Heap) (locsH296 : List Loc) (x295 : Int32) (x304 : Int32), lv_has ls297 6 [(5, .int x295), (4, .ref q123), (0, .ref a0)] → TY K G H296 → va_S (AE G [68, 0, 78, 79, 80, 81, 69, 70, 71, 72, 73, 74, 75, 76, 77, 16, 17, 18, 19, 20, 21, 22, 23, 24] s.heap.size) s.heap H296 locsH296 → (0 ≤ x295.toInt ∧ x295.toInt ≤ 17) → (q128 = fR H296 a0 (K.1.2 9 4)) → (q275 = fR H296 q128 (K.1.2 4 0)) → (q276 = fR H296 q128 (K.1.2 4 3)) → (fI H296 q276 (x291 : Int32).toNatClampNeg = 26) → (fI H296 a0 (K.1.2 9 3) = 0) → (x304 = fI H296 q128 (K.1.2 4 7)) → (x304.toInt ≤ x291.toInt ∧ 0 ≤ x304.toInt) → (17 - x295.toInt < (nf : Int)) → W p l e ({ frames := 39, cells := 0, slots := 0, locals := 869 } : Room) s m (([.ref a0, .int x1, .int x2] : List Value).toArray) below meth c H296 locsH296 ((0 + 0) + 0) ((0 + 0) + 0) Q (F0 m 65 ls297 []) := by
        intro nf
        induction nf with
        | zero =>
          intro ls297 H296 locsH296 x295 x304 hl298 hTH296 hSH296 bx295 i299 i300 i301 i302 i303 ex304 tx304 hmLp294
          exfalso
          omega
        | succ nf ihLp294 =>
          intro ls297 H296 locsH296 x295 x304 hl298 hTH296 hSH296 bx295 i299 i300 i301 i302 i303 ex304 tx304 hmLp294
          refine lv_iload hx hb dX9_text_65 (lv_at hl298 0 rfl) ?_
          refine lv_bipush (v := 16) hx hb dX9_text_67 (by decide) ?_
          refine lv_icmp_gt (tgt := 96) hx hb dX9_text_69 (by decide) (fun c305 => ?_) (fun c305 => ?_)
          · have k306 := i_lt c305
            refine lv_aload_n hx hb dX9_text_96 rfl (lv_at hl298 2 rfl) ?_
            refine x_gr C hTH296 (ci := 9) (k := 4) rfl inX9 (by decide) wF_X9_23 ga0 rg_68 rfl dX9_text_97 (fun q307 eq307 gq307 => ?_)
            have uq307 : q128 = q307 := (i299).trans eq307.symm
            subst uq307
            refine x_gi C hTH296 (ci := 4) (k := 1) rfl inX4 (by decide) wF_X9_132 gq128 rg_78 rfl dX9_text_100 (fun x308 ex308 bx308 => ?_)
            refine lv_if_eq (tgt := 136) hx hb dX9_text_103 (by decide) (fun c309 => ?_) (fun c309 => ?_)
            · have k310 := i_eq c309
              refine lv_aload hx hb dX9_text_136 (lv_at hl298 1 rfl) ?_
              refine lv_aload_n hx hb dX9_text_138 rfl (lv_at hl298 2 rfl) ?_
              refine x_gr C hTH296 (ci := 9) (k := 4) rfl inX9 (by decide) wF_X9_23 ga0 rg_68 rfl dX9_text_139 (fun q311 eq311 gq311 => ?_)
              have uq311 : q128 = q311 := (i299).trans eq311.symm
              subst uq311
              refine x_gr C hTH296 (ci := 4) (k := 0) rfl inX4 (by decide) wF_X9_134 gq128 rg_78 rfl dX9_text_142 (fun q312 eq312 gq312 => ?_)
              have uq312 : q275 = q312 := (i300).trans eq312.symm
              subst uq312
              refine x_V (As := [.ref q275]) (rest := []) C (a_X7_copyFrom_n_m l K G H296  hTH296 gq123 gq275) yo_X7_copyFrom wM_X9_138 ⟨⟨by decide, by decide⟩, by decide, by decide⟩ (x_rv C hTH296 (ci := 7) rfl gq123 rg_16) rfl hl298.1 rfl (Nat.le_of_ble_eq_true rfl) dX9_text_145 hSH296 (AE_sub (fun _ _ => rfl) (by decide) hSH296.1) (fun vH313 H313 locsH313 pH313 zH313 kH313 hSH313 => ?_)
              obtain ⟨hvH313, hTH313⟩ := pH313
              subst hvH313
              have m314 := (i299).trans (fR_kept (x_lt hTH296 kH313 ga0 (by decide))).symm
              have m315 := (i300).trans (fR_kept (x_lt hTH296 kH313 gq128 (by decide))).symm
              have m316 := (i301).trans (fR_kept (x_lt hTH296 kH313 gq128 (by decide))).symm
              have m317 := (fI_kept (x_lt hTH296 kH313 gq276 (by decide))).trans i302
              have m318 := (fI_kept (x_lt hTH296 kH313 ga0 (by decide))).trans i303
              have m319 := (ex304).trans (fI_kept (x_lt hTH296 kH313 gq128 (by decide))).symm
              have m320 := (ex308).trans (fI_kept (x_lt hTH296 kH313 gq128 (by decide))).symm
              refine W.eq (g2 := F0 m 148 ls297 []) rfl ?_
              refine lv_aload hx hb dX9_text_148 (lv_at hl298 1 rfl) ?_
              refine x_gi C hTH313 (ci := 7) (k := 0) rfl inX7 (by decide) wF_X9_144 gq123 rg_16 rfl dX9_text_150 (fun x321 ex321 bx321 => ?_)
              exact x_iret C hQ dX9_text_153 hSH313 (by decide) (by decide) (⟨x321, rfl, m318, hTH313⟩)
            · have k310 := i_ne c309
              refine lv_aload_n hx hb dX9_text_106 rfl (lv_at hl298 2 rfl) ?_
              refine x_gr C hTH296 (ci := 9) (k := 0) rfl inX9 (by decide) wF_X9_12 ga0 rg_68 rfl dX9_text_107 (fun q322 eq322 gq322 => ?_)
              refine lv_aload_n hx hb dX9_text_110 rfl (lv_at hl298 2 rfl) ?_
              refine x_gr C hTH296 (ci := 9) (k := 4) rfl inX9 (by decide) wF_X9_23 ga0 rg_68 rfl dX9_text_111 (fun q323 eq323 gq323 => ?_)
              have uq323 : q128 = q323 := (i299).trans eq323.symm
              subst uq323
              refine x_gi C hTH296 (ci := 4) (k := 1) rfl inX4 (by decide) wF_X9_132 gq128 rg_78 rfl dX9_text_114 (fun x324 ex324 bx324 => ?_)
              have ux324 : x308 = x324 := (ex308).trans ex324.symm
              subst ux324
              refine x_put C hTH296 hSH296 (ci := 8) (k := 6) (v := .int x308) (ty0 := tyX8) rfl inX8 tyX8_ok nmX8 (by decide) rfl wF_X9_111 gq322 rg_0 rfl rfl (okI (by have := i_rng x308; omega) (by have := i_rng x308; omega)) rfl rfl (AE_in gq322 (by decide)) dX9_text_117 (fun H325 locsH325 hTH325 hSH325 wH325 => ?_)
              have m326 := i299.trans (Wr.neR wH325 (Or.inl (G_ne ga0 gq322 (by decide)))).symm
              have m327 := i300.trans (Wr.neR wH325 (Or.inl (G_ne gq128 gq322 (by decide)))).symm
              have m328 := i301.trans (Wr.neR wH325 (Or.inl (G_ne gq128 gq322 (by decide)))).symm
              have m329 := (Wr.neI wH325 (Or.inl (G_ne gq276 gq322 (by decide)))).trans i302
              have m330 := (Wr.neI wH325 (Or.inl (G_ne ga0 gq322 (by decide)))).trans i303
              have m331 := ex304.trans (Wr.neI wH325 (Or.inl (G_ne gq128 gq322 (by decide)))).symm
              have m332 := ex308.trans (Wr.neI wH325 (Or.inl (G_ne gq128 gq322 (by decide)))).symm
              have m333 := eq322.trans (Wr.neR wH325 (Or.inl (G_ne ga0 gq322 (by decide)))).symm
              have m334 := Wr.I wH325
              have m334 := m334.symm
              refine lv_aload_n hx hb dX9_text_120 rfl (lv_at hl298 2 rfl) ?_
              refine x_gr C hTH325 (ci := 9) (k := 0) rfl inX9 (by decide) wF_X9_12 ga0 rg_68 rfl dX9_text_121 (fun q335 eq335 gq335 => ?_)
              have uq335 : q322 = q335 := (m333).trans eq335.symm
              subst uq335
              refine lv_aload_n hx hb dX9_text_124 rfl (lv_at hl298 2 rfl) ?_
              refine x_gr C hTH325 (ci := 9) (k := 4) rfl inX9 (by decide) wF_X9_23 ga0 rg_68 rfl dX9_text_125 (fun q336 eq336 gq336 => ?_)
              have uq336 : q128 = q336 := (m326).trans eq336.symm
              subst uq336
              refine x_gi C hTH325 (ci := 4) (k := 2) rfl inX4 (by decide) wF_X9_133 gq128 rg_78 rfl dX9_text_128 (fun x337 ex337 bx337 => ?_)
              refine x_put C hTH325 hSH325 (ci := 8) (k := 7) (v := .int x337) (ty0 := tyX8) rfl inX8 tyX8_ok nmX8 (by decide) rfl wF_X9_114 gq322 rg_0 rfl rfl (okI (by have := i_rng x337; omega) (by have := i_rng x337; omega)) rfl rfl (AE_in gq322 (by decide)) dX9_text_131 (fun H338 locsH338 hTH338 hSH338 wH338 => ?_)
              have m339 := m326.trans (Wr.neR wH338 (Or.inl (G_ne ga0 gq322 (by decide)))).symm
              have m340 := m327.trans (Wr.neR wH338 (Or.inl (G_ne gq128 gq322 (by decide)))).symm
              have m341 := m328.trans (Wr.neR wH338 (Or.inl (G_ne gq128 gq322 (by decide)))).symm
              have m342 := (Wr.neI wH338 (Or.inl (G_ne gq276 gq322 (by decide)))).trans m329
              have m343 := (Wr.neI wH338 (Or.inl (G_ne ga0 gq322 (by decide)))).trans m330
              have m344 := m331.trans (Wr.neI wH338 (Or.inl (G_ne gq128 gq322 (by decide)))).symm
              have m345 := m332.trans (Wr.neI wH338 (Or.inl (G_ne gq128 gq322 (by decide)))).symm
              have m346 := m333.trans (Wr.neR wH338 (Or.inl (G_ne ga0 gq322 (by decide)))).symm
              have m347 := m334.trans (Wr.neI wH338 (Or.inr (x_apart hKT hts inX8 tyX8 tyX8_ok nmX8 rfl 6 7 (by decide) (by decide) (by decide)))).symm
              have m348 := ex337.trans (Wr.neI wH338 (Or.inl (G_ne gq128 gq322 (by decide)))).symm
              have m349 := Wr.I wH338
              have m349 := m349.symm
              refine lv_iconst (v := (-1)) hx hb dX9_text_134 (by decide) ?_
              exact x_iret C hQ dX9_text_135 hSH338 (by decide) (by decide) (⟨(-1), rfl, m343, hTH338⟩)
          · have k306 := i_nlt c305
            refine lv_aload_n hx hb dX9_text_72 rfl (lv_at hl298 2 rfl) ?_
            refine x_gr C hTH296 (ci := 9) (k := 4) rfl inX9 (by decide) wF_X9_23 ga0 rg_68 rfl dX9_text_73 (fun q350 eq350 gq350 => ?_)
            have uq350 : q128 = q350 := (i299).trans eq350.symm
            subst uq350
            refine x_V (As := []) (rest := []) C (a_X4_goesOn l K G H296  hTH296 gq128) yo_X4_goesOn wM_X9_125 ⟨⟨by decide, by decide⟩, by decide, by decide⟩ (x_rv C hTH296 (ci := 4) rfl gq128 rg_78) rfl hl298.1 rfl (Nat.le_of_ble_eq_true rfl) dX9_text_76 hSH296 (AE_sub (fun _ _ => rfl) (by decide) hSH296.1) (fun vH351 H351 locsH351 pH351 zH351 kH351 hSH351 => ?_)
            obtain ⟨x352, hvH351, bx352, hTH351⟩ := pH351
            subst hvH351
            have m353 := (i299).trans (fR_kept (x_lt hTH296 kH351 ga0 (by decide))).symm
            have m354 := (i300).trans (fR_kept (x_lt hTH296 kH351 gq128 (by decide))).symm
            have m355 := (i301).trans (fR_kept (x_lt hTH296 kH351 gq128 (by decide))).symm
            have m356 := (fI_kept (x_lt hTH296 kH351 gq276 (by decide))).trans i302
            have m357 := (fI_kept (x_lt hTH296 kH351 ga0 (by decide))).trans i303
            have m358 := (ex304).trans (fI_kept (x_lt hTH296 kH351 gq128 (by decide))).symm
            refine W.eq (g2 := F0 m 79 ls297 [.int x352]) rfl ?_
            refine lv_if_eq (tgt := 96) hx hb dX9_text_79 (by decide) (fun c359 => ?_) (fun c359 => ?_)
            · have k360 := i_eq c359
              refine lv_aload_n hx hb dX9_text_96 rfl (lv_at hl298 2 rfl) ?_
              refine x_gr C hTH351 (ci := 9) (k := 4) rfl inX9 (by decide) wF_X9_23 ga0 rg_68 rfl dX9_text_97 (fun q361 eq361 gq361 => ?_)
              have uq361 : q128 = q361 := (m353).trans eq361.symm
              subst uq361
              refine x_gi C hTH351 (ci := 4) (k := 1) rfl inX4 (by decide) wF_X9_132 gq128 rg_78 rfl dX9_text_100 (fun x362 ex362 bx362 => ?_)
              refine lv_if_eq (tgt := 136) hx hb dX9_text_103 (by decide) (fun c363 => ?_) (fun c363 => ?_)
              · have k364 := i_eq c363
                refine lv_aload hx hb dX9_text_136 (lv_at hl298 1 rfl) ?_
                refine lv_aload_n hx hb dX9_text_138 rfl (lv_at hl298 2 rfl) ?_
                refine x_gr C hTH351 (ci := 9) (k := 4) rfl inX9 (by decide) wF_X9_23 ga0 rg_68 rfl dX9_text_139 (fun q365 eq365 gq365 => ?_)
                have uq365 : q128 = q365 := (m353).trans eq365.symm
                subst uq365
                refine x_gr C hTH351 (ci := 4) (k := 0) rfl inX4 (by decide) wF_X9_134 gq128 rg_78 rfl dX9_text_142 (fun q366 eq366 gq366 => ?_)
                have uq366 : q275 = q366 := (m354).trans eq366.symm
                subst uq366
                refine x_V (As := [.ref q275]) (rest := []) C (a_X7_copyFrom_n_m l K G H351  hTH351 gq123 gq275) yo_X7_copyFrom wM_X9_138 ⟨⟨by decide, by decide⟩, by decide, by decide⟩ (x_rv C hTH351 (ci := 7) rfl gq123 rg_16) rfl hl298.1 rfl (Nat.le_of_ble_eq_true rfl) dX9_text_145 hSH351 (AE_sub (fun _ _ => rfl) (by decide) hSH351.1) (fun vH367 H367 locsH367 pH367 zH367 kH367 hSH367 => ?_)
                obtain ⟨hvH367, hTH367⟩ := pH367
                subst hvH367
                have m368 := (m353).trans (fR_kept (x_lt hTH351 kH367 ga0 (by decide))).symm
                have m369 := (m354).trans (fR_kept (x_lt hTH351 kH367 gq128 (by decide))).symm
                have m370 := (m355).trans (fR_kept (x_lt hTH351 kH367 gq128 (by decide))).symm
                have m371 := (fI_kept (x_lt hTH351 kH367 gq276 (by decide))).trans m356
                have m372 := (fI_kept (x_lt hTH351 kH367 ga0 (by decide))).trans m357
                have m373 := (m358).trans (fI_kept (x_lt hTH351 kH367 gq128 (by decide))).symm
                have m374 := (ex362).trans (fI_kept (x_lt hTH351 kH367 gq128 (by decide))).symm
                refine W.eq (g2 := F0 m 148 ls297 []) rfl ?_
                refine lv_aload hx hb dX9_text_148 (lv_at hl298 1 rfl) ?_
                refine x_gi C hTH367 (ci := 7) (k := 0) rfl inX7 (by decide) wF_X9_144 gq123 rg_16 rfl dX9_text_150 (fun x375 ex375 bx375 => ?_)
                exact x_iret C hQ dX9_text_153 hSH367 (by decide) (by decide) (⟨x375, rfl, m372, hTH367⟩)
              · have k364 := i_ne c363
                refine lv_aload_n hx hb dX9_text_106 rfl (lv_at hl298 2 rfl) ?_
                refine x_gr C hTH351 (ci := 9) (k := 0) rfl inX9 (by decide) wF_X9_12 ga0 rg_68 rfl dX9_text_107 (fun q376 eq376 gq376 => ?_)
                refine lv_aload_n hx hb dX9_text_110 rfl (lv_at hl298 2 rfl) ?_
                refine x_gr C hTH351 (ci := 9) (k := 4) rfl inX9 (by decide) wF_X9_23 ga0 rg_68 rfl dX9_text_111 (fun q377 eq377 gq377 => ?_)
                have uq377 : q128 = q377 := (m353).trans eq377.symm
                subst uq377
                refine x_gi C hTH351 (ci := 4) (k := 1) rfl inX4 (by decide) wF_X9_132 gq128 rg_78 rfl dX9_text_114 (fun x378 ex378 bx378 => ?_)
                have ux378 : x362 = x378 := (ex362).trans ex378.symm
                subst ux378
                refine x_put C hTH351 hSH351 (ci := 8) (k := 6) (v := .int x362) (ty0 := tyX8) rfl inX8 tyX8_ok nmX8 (by decide) rfl wF_X9_111 gq376 rg_0 rfl rfl (okI (by have := i_rng x362; omega) (by have := i_rng x362; omega)) rfl rfl (AE_in gq376 (by decide)) dX9_text_117 (fun H379 locsH379 hTH379 hSH379 wH379 => ?_)
                have m380 := m353.trans (Wr.neR wH379 (Or.inl (G_ne ga0 gq376 (by decide)))).symm
                have m381 := m354.trans (Wr.neR wH379 (Or.inl (G_ne gq128 gq376 (by decide)))).symm
                have m382 := m355.trans (Wr.neR wH379 (Or.inl (G_ne gq128 gq376 (by decide)))).symm
                have m383 := (Wr.neI wH379 (Or.inl (G_ne gq276 gq376 (by decide)))).trans m356
                have m384 := (Wr.neI wH379 (Or.inl (G_ne ga0 gq376 (by decide)))).trans m357
                have m385 := m358.trans (Wr.neI wH379 (Or.inl (G_ne gq128 gq376 (by decide)))).symm
                have m386 := ex362.trans (Wr.neI wH379 (Or.inl (G_ne gq128 gq376 (by decide)))).symm
                have m387 := eq376.trans (Wr.neR wH379 (Or.inl (G_ne ga0 gq376 (by decide)))).symm
                have m388 := Wr.I wH379
                have m388 := m388.symm
                refine lv_aload_n hx hb dX9_text_120 rfl (lv_at hl298 2 rfl) ?_
                refine x_gr C hTH379 (ci := 9) (k := 0) rfl inX9 (by decide) wF_X9_12 ga0 rg_68 rfl dX9_text_121 (fun q389 eq389 gq389 => ?_)
                have uq389 : q376 = q389 := (m387).trans eq389.symm
                subst uq389
                refine lv_aload_n hx hb dX9_text_124 rfl (lv_at hl298 2 rfl) ?_
                refine x_gr C hTH379 (ci := 9) (k := 4) rfl inX9 (by decide) wF_X9_23 ga0 rg_68 rfl dX9_text_125 (fun q390 eq390 gq390 => ?_)
                have uq390 : q128 = q390 := (m380).trans eq390.symm
                subst uq390
                refine x_gi C hTH379 (ci := 4) (k := 2) rfl inX4 (by decide) wF_X9_133 gq128 rg_78 rfl dX9_text_128 (fun x391 ex391 bx391 => ?_)
                refine x_put C hTH379 hSH379 (ci := 8) (k := 7) (v := .int x391) (ty0 := tyX8) rfl inX8 tyX8_ok nmX8 (by decide) rfl wF_X9_114 gq376 rg_0 rfl rfl (okI (by have := i_rng x391; omega) (by have := i_rng x391; omega)) rfl rfl (AE_in gq376 (by decide)) dX9_text_131 (fun H392 locsH392 hTH392 hSH392 wH392 => ?_)
                have m393 := m380.trans (Wr.neR wH392 (Or.inl (G_ne ga0 gq376 (by decide)))).symm
                have m394 := m381.trans (Wr.neR wH392 (Or.inl (G_ne gq128 gq376 (by decide)))).symm
                have m395 := m382.trans (Wr.neR wH392 (Or.inl (G_ne gq128 gq376 (by decide)))).symm
                have m396 := (Wr.neI wH392 (Or.inl (G_ne gq276 gq376 (by decide)))).trans m383
                have m397 := (Wr.neI wH392 (Or.inl (G_ne ga0 gq376 (by decide)))).trans m384
                have m398 := m385.trans (Wr.neI wH392 (Or.inl (G_ne gq128 gq376 (by decide)))).symm
                have m399 := m386.trans (Wr.neI wH392 (Or.inl (G_ne gq128 gq376 (by decide)))).symm
                have m400 := m387.trans (Wr.neR wH392 (Or.inl (G_ne ga0 gq376 (by decide)))).symm
                have m401 := m388.trans (Wr.neI wH392 (Or.inr (x_apart hKT hts inX8 tyX8 tyX8_ok nmX8 rfl 6 7 (by decide) (by decide) (by decide)))).symm
                have m402 := ex391.trans (Wr.neI wH392 (Or.inl (G_ne gq128 gq376 (by decide)))).symm
                have m403 := Wr.I wH392
                have m403 := m403.symm
                refine lv_iconst (v := (-1)) hx hb dX9_text_134 (by decide) ?_
                exact x_iret C hQ dX9_text_135 hSH392 (by decide) (by decide) (⟨(-1), rfl, m397, hTH392⟩)
            · have k360 := i_ne c359
              refine lv_aload_n hx hb dX9_text_82 rfl (lv_at hl298 2 rfl) ?_
              refine x_gr C hTH351 (ci := 9) (k := 4) rfl inX9 (by decide) wF_X9_23 ga0 rg_68 rfl dX9_text_83 (fun q404 eq404 gq404 => ?_)
              have uq404 : q128 = q404 := (m353).trans eq404.symm
              subst uq404
              obtain ⟨x405, ex405⟩ : ∃ z : Int32, z = fI H351 q275 (K.1.2 7 0) := ⟨_, rfl⟩
              have bx405 := ty_fi (x := x405) (k := 0) ex405 hTH351 gq275 rg_69 rfl
              refine x_V (As := []) (rest := []) C (a_X4_line l K G H351 (x291) (x304) (x405) hTH351 gq128 gq275 m354 gq276 m355 m358 ex405 m356 (by omega) (by omega)) yo_X4_line wM_X9_129 ⟨⟨by decide, by decide⟩, by decide, by decide⟩ (x_rv C hTH351 (ci := 4) rfl gq128 rg_78) rfl hl298.1 rfl (Nat.le_of_ble_eq_true rfl) dX9_text_86 hSH351 (AE_sub (fun _ _ => rfl) (by decide) hSH351.1) (fun vH406 H406 locsH406 pH406 zH406 kH406 hSH406 => ?_)
              obtain ⟨x407, x408, x409, hvH406, bx407, ex408, ex409, hrH406, m410, m411, hTH406⟩ := pH406
              subst hvH406
              have m412 := (m353).trans (fR_kept (x_lt hTH351 kH406 ga0 (by decide))).symm
              have m413 := (fI_kept (x_lt hTH351 kH406 gq276 (by decide))).trans m356
              have m414 := (fI_kept (x_lt hTH351 kH406 ga0 (by decide))).trans m357
              have bx408 := ty_fi (x := x408) (k := 7) ex408 hTH406 gq128 rg_78 rfl
              have bx409 := ty_fi (x := x409) (k := 0) ex409 hTH406 gq275 rg_69 rfl
              refine W.eq (g2 := F0 m 89 ls297 [.int x407]) rfl ?_
              refine lv_pop hx hb dX9_text_89 rfl ?_
              obtain ⟨x415, ex415⟩ : ∃ y : Int32, y = x295 + 1 := ⟨_, rfl⟩
              have tx415 := i_add ex415 (by omega)
              refine lv_iinc (v := x415) (lv' := [(5, .int x415), (4, .ref q123), (0, .ref a0)]) hx hb dX9_text_90 hl298 (k := 0) rfl (by rw [ex415]; rfl) (by decide) rfl (fun ls416 hl417 => ?_)
              refine lv_goto (tgt := 65) hx hb dX9_text_93 (by decide) ?_
              exact ihLp294 ls416 H406 locsH406 (x415) (x408) (lv_sub hl417 [0, 1, 2] rfl) hTH406 hSH406 (by omega) m412 m410 m411 m413 m414 ex408 (by omega) (by omega)
      exact Lp294 ((17 - (0 : Int32).toInt).toNat + 1) ls292 H279 locsH279 (0) (x280) (lv_sub hl293 [0, 1, 3] rfl) hTH279 hSH279 (by omega) m289 m282 m283 mx291 m285 ex280 (by omega) (by omega)

set_option maxHeartbeats 4000000 in
set_option maxRecDepth 100000 in
theorem a_X9_image_t0 (l : Launch) (K : KE) (G : Nat → Option Nat) (H : Heap) {a0 : Nat} (tp : Int32) (hT : TY K G H) (ga0 : G a0 = some 68) (etp : tp = fI H a0 (K.1.2 9 3)) : MX l K yX9_image cX9_image 2 (some .boolean) 3 84 0 0 [.ref a0, .int 0] H (AE G [68, 34, 35, 36, 37, 38, 39, 40, 41, 42, 43, 44, 46, 48, 49, 50, 51, 52, 53, 54, 55, 56, 57, 58, 62, 63, 64, 65, 66, 67, 0, 1, 2, 3, 4, 5, 6, 7, 8, 9, 10, 12, 14, 15, 16, 17, 18, 19, 20, 21, 22, 23, 24, 28, 29, 30, 31, 32, 33] H.size) (fun v H1 => ∃ (r : Int32), v = some (.int r) ∧ (0 ≤ r.toInt ∧ r.toInt ≤ 1) ∧ ∃ G1 : Nat → Option Nat, (∀ q, q < H.size → G1 q = G q) ∧ tp = fI H1 a0 (K.1.2 9 3) ∧ TY K G1 H1) := by
  refine MX.of (by decide +kernel) (Nat.le_of_ble_eq_true rfl) ?_
  intro p e s m below meth c ls Q C hH hl hQ
  subst hH
  have C : CX p K s m _ meth c RX9 cX9_image 2 (some .boolean) "image" := C
  obtain ⟨hx, hb, hml, hown, hts, hKT, hr, hlocks, hnm⟩ := id C
  have hl : lv_has ls 2 [(0, .ref a0), (1, .int 0)] := hl
  have hS : va_S (AE G [68, 34, 35, 36, 37, 38, 39, 40, 41, 42, 43, 44, 46, 48, 49, 50, 51, 52, 53, 54, 55, 56, 57, 58, 62, 63, 64, 65, 66, 67, 0, 1, 2, 3, 4, 5, 6, 7, 8, 9, 10, 12, 14, 15, 16, 17, 18, 19, 20, 21, 22, 23, 24, 28, 29, 30, 31, 32, 33] s.heap.size) s.heap s.heap [] := va_S.rf
  have n_0 : (0 : Int32).toInt = 0 := rfl
  have n_1 : (1 : Int32).toInt = 1 := rfl
  have hT_0 := hT
  have hGo : ∀ q, q < s.heap.size → G q = G q := fun _ _ => rfl
  refine lv_iload_n hx hb dX9_image_0 rfl (lv_at hl 1 rfl) ?_
  refine lv_if_eq (tgt := 36) hx hb dX9_image_1 (by decide) (fun c101 => ?_) (fun c101 => ?_)
  · have k102 := i_eq c101
    refine lv_aload_n hx hb dX9_image_36 rfl (lv_at hl 0 rfl) ?_
    refine x_gn C hT (ci := 9) (k := 1) rfl inX9 (by decide) wF_X9_348 ga0 rg_68 rfl dX9_image_37 (fun zq103 => ?_) (fun q103 eq103 fq103 gq103 => ?_)
    · skip
      refine lv_ifnullN (tgt := 54) hx hb dX9_image_40 (by decide) ?_
      refine lv_aload_n hx hb dX9_image_54 rfl (lv_at hl 0 rfl) ?_
      refine x_gn C hT (ci := 9) (k := 1) rfl inX9 (by decide) wF_X9_348 ga0 rg_68 rfl dX9_image_55 (fun _ => ?_) (fun q _ hq _ => absurd (hq.symm.trans zq103) (by intro h; cases h))
      refine lv_ifnullN (tgt := 65) hx hb dX9_image_58 (by decide) ?_
      refine lv_iconst (v := 0) hx hb dX9_image_65 (by decide) ?_
      exact x_zret C hQ (Or.inl rfl) dX9_image_66 hS (by decide) (by decide) (⟨0, rfl, by omega, G, fun _ _ => rfl, etp, hT⟩)
    · skip
      refine lv_ifnull hx hb dX9_image_40 ?_
      refine lv_aload_n hx hb dX9_image_43 rfl (lv_at hl 0 rfl) ?_
      refine x_gr C hT (ci := 9) (k := 0) rfl inX9 (by decide) wF_X9_12 ga0 rg_68 rfl dX9_image_44 (fun q104 eq104 gq104 => ?_)
      refine lv_aload_n hx hb dX9_image_47 rfl (lv_at hl 0 rfl) ?_
      refine x_gn C hT (ci := 9) (k := 1) rfl inX9 (by decide) wF_X9_348 ga0 rg_68 rfl dX9_image_48 (fun z => absurd (z.symm.trans fq103) (by intro h; cases h)) (fun q105 eq105 fq105 gq105 => ?_)
      refine x_V (As := [.ref q105]) (rest := []) C (a_X8_copyFrom_n l K G s.heap  hT gq104 gq105) yo_X8_copyFrom wM_X9_351 ⟨⟨by decide, by decide⟩, by decide, by decide⟩ (x_rv C hT (ci := 8) rfl gq104 rg_0) rfl hl.1 rfl (Nat.le_of_ble_eq_true rfl) dX9_image_51 hS (AE_sub (fun _ _ => rfl) (by decide) hS.1) (fun vH106 H106 locsH106 pH106 zH106 kH106 hSH106 => ?_)
      obtain ⟨hvH106, hTH106⟩ := pH106
      subst hvH106
      have m107 := (etp).trans (fI_kept (x_lt hT kH106 ga0 (by decide))).symm
      have m108 := (fV_kept (x_lt hT kH106 ga0 (by decide))).trans fq103
      have m109 := (eq104).trans (fR_kept (x_lt hT kH106 ga0 (by decide))).symm
      refine W.eq (g2 := F0 m 54 ls []) rfl ?_
      refine lv_aload_n hx hb dX9_image_54 rfl (lv_at hl 0 rfl) ?_
      refine x_gn C hTH106 (ci := 9) (k := 1) rfl inX9 (by decide) wF_X9_348 ga0 rg_68 rfl dX9_image_55 (fun z => absurd (z.symm.trans m108) (by intro h; cases h)) (fun q110 eq110 fq110 gq110 => ?_)
      refine lv_ifnull hx hb dX9_image_58 ?_
      refine lv_iconst (v := 1) hx hb dX9_image_61 (by decide) ?_
      refine lv_goto (tgt := 66) hx hb dX9_image_62 (by decide) ?_
      exact x_zret C hQ (Or.inr rfl) dX9_image_66 hSH106 (by decide) (by decide) (⟨1, rfl, by omega, G, fun _ _ => rfl, m107, hTH106⟩)
  · have k102 := i_ne c101
    exfalso
    omega

set_option maxHeartbeats 4000000 in
set_option maxRecDepth 100000 in
theorem a_X9_image_t1 (l : Launch) (K : KE) (G : Nat → Option Nat) (H : Heap) {a0 : Nat} (tp : Int32) (hT : TY K G H) (ga0 : G a0 = some 68) (etp : tp = fI H a0 (K.1.2 9 3)) : MX l K yX9_image cX9_image 2 (some .boolean) 3 84 434 13027 [.ref a0, .int 1] H (AE G [68, 34, 35, 36, 37, 38, 39, 40, 41, 42, 43, 44, 46, 48, 49, 50, 51, 52, 53, 54, 55, 56, 57, 58, 62, 63, 64, 65, 66, 67, 0, 1, 2, 3, 4, 5, 6, 7, 8, 9, 10, 12, 14, 15, 16, 17, 18, 19, 20, 21, 22, 23, 24, 28, 29, 30, 31, 32, 33] H.size) (fun v H1 => ∃ (r : Int32), v = some (.int r) ∧ (0 ≤ r.toInt ∧ r.toInt ≤ 1) ∧ ∃ G1 : Nat → Option Nat, (∀ q, q < H.size → G1 q = G q) ∧ tp = fI H1 a0 (K.1.2 9 3) ∧ TY K G1 H1) := by
  refine MX.of (by decide +kernel) (Nat.le_of_ble_eq_true rfl) ?_
  intro p e s m below meth c ls Q C hH hl hQ
  subst hH
  have C : CX p K s m _ meth c RX9 cX9_image 2 (some .boolean) "image" := C
  obtain ⟨hx, hb, hml, hown, hts, hKT, hr, hlocks, hnm⟩ := id C
  have hl : lv_has ls 2 [(0, .ref a0), (1, .int 1)] := hl
  have hS : va_S (AE G [68, 34, 35, 36, 37, 38, 39, 40, 41, 42, 43, 44, 46, 48, 49, 50, 51, 52, 53, 54, 55, 56, 57, 58, 62, 63, 64, 65, 66, 67, 0, 1, 2, 3, 4, 5, 6, 7, 8, 9, 10, 12, 14, 15, 16, 17, 18, 19, 20, 21, 22, 23, 24, 28, 29, 30, 31, 32, 33] s.heap.size) s.heap s.heap [] := va_S.rf
  have n_0 : (0 : Int32).toInt = 0 := rfl
  have n_1 : (1 : Int32).toInt = 1 := rfl
  have hT_0 := hT
  have hGo : ∀ q, q < s.heap.size → G q = G q := fun _ _ => rfl
  refine lv_iload_n hx hb dX9_image_0 rfl (lv_at hl 1 rfl) ?_
  refine lv_if_eq (tgt := 36) hx hb dX9_image_1 (by decide) (fun c101 => ?_) (fun c101 => ?_)
  · have k102 := i_eq c101
    exfalso
    omega
  · have k102 := i_ne c101
    refine lv_aload_n hx hb dX9_image_4 rfl (lv_at hl 0 rfl) ?_
    refine x_gn C hT (ci := 9) (k := 1) rfl inX9 (by decide) wF_X9_348 ga0 rg_68 rfl dX9_image_5 (fun zq103 => ?_) (fun q103 eq103 fq103 gq103 => ?_)
    · skip
      refine lv_ifnonnullN hx hb dX9_image_8 ?_
      refine lv_aload_n hx hb dX9_image_11 rfl (lv_at hl 0 rfl) ?_
      refine x_new C hT hS (ci := 8) (ty0 := tyX8) (vs := [.null, .int 0, .null, .null, .int 0, .int 0, .int 0, .int 0, .null, .null, .int 0, .null, .null, .int 0, .null, .null, .int 0]) rfl inX8 tyX8_ok wC_X9_9 wIS_X8 wIN_X8 dfX8 ⟨by decide, by decide⟩ dX9_image_12 (fun H104 hR106 hTH104 hSH104 oH104 zH104 => ?_)
      have hNq105 : G s.heap.size = none := hT.gb _ (Nat.le_refl _)
      have m107 := (etp).trans (fI_kept (oH104 _ (hT.lt ga0))).symm
      have m108 := (fV_kept (oH104 _ (hT.lt ga0))).trans zq103
      obtain ⟨q105, eq105⟩ : ∃ q, q = s.heap.size := ⟨_, rfl⟩
      have leq105 : s.heap.size ≤ q105 := by rw [eq105]; exact hS.1
      rw [← eq105] at hNq105 hR106
      rw [← eq105]
      clear eq105
      clear oH104 zH104 hT
      refine lv_dup hx hb dX9_image_15 rfl ?_
      refine x_I (As := []) (rest := [.ref q105, .ref a0]) C (k_X8_init_kept l K G H104 (a := q105) hTH104 hNq105 hR106) yo_X8_init rfl wM_X9_11 ⟨⟨by decide, by decide⟩, by decide, by decide⟩ rfl hl.1 rfl (Nat.le_of_ble_eq_true rfl) dX9_image_16 hSH104 (fun x h => Or.inr (h.elim (fun e => by rw [e]; exact leq105) (fun h => Nat.le_trans hSH104.1 h))) (fun vH109 H109 locsH109 pH109 zH109 kH109 hSH109 => ?_)
      obtain ⟨hvH109, G110, hgH109, ggH109, hTH109, bqq105, gbqq105, ebqq105, dbq105, fq105_1, fq105_4, fq105_5, fq105_6, fq105_7, fq105_10, fq105_13, fq105_16⟩ := pH109
      subst hvH109
      have m111 := (m107).trans (fI_kept (kH109 _ (hTH104.lt ga0) (fun h => h.elim (g_ne ga0 hNq105) (Nat.not_le.mpr (hTH104.lt ga0))))).symm
      clear m107
      have m112 := (fV_kept (kH109 _ (hTH104.lt ga0) (fun h => h.elim (g_ne ga0 hNq105) (Nat.not_le.mpr (hTH104.lt ga0))))).trans m108
      clear m108
      replace ga0 : G110 a0 = some 68 := (hgH109 _ (hTH104.lt ga0) (g_ne ga0 hNq105)).trans ga0
      replace hGo : ∀ q, q < s.heap.size → G110 q = G q := fun q hq => (hgH109 q (Nat.lt_of_lt_of_le hq hSH104.1) (Nat.ne_of_lt (Nat.lt_of_lt_of_le hq leq105))).trans (hGo q hq)
      have gq105 : G110 q105 = some 34 := ggH109
      clear hR106 hNq105 ggH109 hgH109 kH109 zH109 hTH104 
      refine W.eq (g2 := F0 m 19 ls [.ref q105, .ref a0]) rfl ?_
      refine x_put C hTH109 hSH109 (ci := 9) (k := 1) (v := .ref q105) (ty0 := tyX9) rfl inX9 tyX9_ok nmX9 (by decide) rfl wF_X9_348 ga0 rg_68 rfl rfl (Or.inr ⟨q105, rfl, gq105⟩) rfl rfl (AE_sub hGo (fun _ h => h) (Nat.le_refl _) _ (AE_in ga0 (by decide))) dX9_image_19 (fun H113 locsH113 hTH113 hSH113 wH113 => ?_)
      have m114 := m111.trans (Wr.neI wH113 (Or.inr (x_apart hKT hts inX9 tyX9 tyX9_ok nmX9 rfl 3 1 (by decide) (by decide) (by decide)))).symm
      have m116 := ebqq105.trans (Wr.neR wH113 (Or.inl (G_ne gq105 ga0 (by decide)))).symm
      have m117 := (Wr.neI wH113 (Or.inl (G_ne gq105 ga0 (by decide)))).trans fq105_1
      have m118 := (Wr.neI wH113 (Or.inl (G_ne gq105 ga0 (by decide)))).trans fq105_4
      have m119 := (Wr.neI wH113 (Or.inl (G_ne gq105 ga0 (by decide)))).trans fq105_5
      have m120 := (Wr.neI wH113 (Or.inl (G_ne gq105 ga0 (by decide)))).trans fq105_6
      have m121 := (Wr.neI wH113 (Or.inl (G_ne gq105 ga0 (by decide)))).trans fq105_7
      have m122 := (Wr.neI wH113 (Or.inl (G_ne gq105 ga0 (by decide)))).trans fq105_10
      have m123 := (Wr.neI wH113 (Or.inl (G_ne gq105 ga0 (by decide)))).trans fq105_13
      have m124 := (Wr.neI wH113 (Or.inl (G_ne gq105 ga0 (by decide)))).trans fq105_16
      replace dbq105 := DB.kept dbq105 (wH113.off (G_ne gbqq105 ga0 (by decide)))
      have m125 := wH113.2.2.1
      refine lv_aload_n hx hb dX9_image_22 rfl (lv_at hl 0 rfl) ?_
      refine x_gn C hTH113 (ci := 9) (k := 1) rfl inX9 (by decide) wF_X9_348 ga0 rg_68 rfl dX9_image_23 (fun z => absurd (z.symm.trans m125) (by intro h; cases h)) (fun q126 eq126 fq126 gq126 => ?_)
      refine lv_aload_n hx hb dX9_image_26 rfl (lv_at hl 0 rfl) ?_
      refine x_gr C hTH113 (ci := 9) (k := 0) rfl inX9 (by decide) wF_X9_12 ga0 rg_68 rfl dX9_image_27 (fun q127 eq127 gq127 => ?_)
      refine x_V (As := [.ref q127]) (rest := []) C (a_X8_copyFrom_k l K G110 H113  hTH113 gq126 gq127) yo_X8_copyFrom wM_X9_351 ⟨⟨by decide, by decide⟩, by decide, by decide⟩ (x_rv C hTH113 (ci := 8) rfl gq126 rg_34) rfl hl.1 rfl (Nat.le_of_ble_eq_true rfl) dX9_image_30 hSH113 (AE_sub hGo (by decide) hSH113.1) (fun vH128 H128 locsH128 pH128 zH128 kH128 hSH128 => ?_)
      obtain ⟨hvH128, hTH128⟩ := pH128
      subst hvH128
      replace dbq105 := DB.kept dbq105 (x_lt hTH113 kH128 gbqq105 (by decide))
      have m129 := (m114).trans (fI_kept (x_lt hTH113 kH128 ga0 (by decide))).symm
      have m130 := (fV_kept (x_lt hTH113 kH128 ga0 (by decide))).trans m125
      have m131 := (eq127).trans (fR_kept (x_lt hTH113 kH128 ga0 (by decide))).symm
      refine W.eq (g2 := F0 m 33 ls []) rfl ?_
      refine lv_goto (tgt := 54) hx hb dX9_image_33 (by decide) ?_
      refine lv_aload_n hx hb dX9_image_54 rfl (lv_at hl 0 rfl) ?_
      refine x_gn C hTH128 (ci := 9) (k := 1) rfl inX9 (by decide) wF_X9_348 ga0 rg_68 rfl dX9_image_55 (fun z => absurd (z.symm.trans m130) (by intro h; cases h)) (fun q132 eq132 fq132 gq132 => ?_)
      refine lv_ifnull hx hb dX9_image_58 ?_
      refine lv_iconst (v := 1) hx hb dX9_image_61 (by decide) ?_
      refine lv_goto (tgt := 66) hx hb dX9_image_62 (by decide) ?_
      exact x_zret C hQ (Or.inr rfl) dX9_image_66 hSH128 (by decide) (by decide) (⟨1, rfl, by omega, G110, hGo, m129, hTH128⟩)
    · skip
      refine lv_ifnonnull (tgt := 22) hx hb dX9_image_8 (by decide) ?_
      refine lv_aload_n hx hb dX9_image_22 rfl (lv_at hl 0 rfl) ?_
      refine x_gn C hT (ci := 9) (k := 1) rfl inX9 (by decide) wF_X9_348 ga0 rg_68 rfl dX9_image_23 (fun z => absurd (z.symm.trans fq103) (by intro h; cases h)) (fun q133 eq133 fq133 gq133 => ?_)
      refine lv_aload_n hx hb dX9_image_26 rfl (lv_at hl 0 rfl) ?_
      refine x_gr C hT (ci := 9) (k := 0) rfl inX9 (by decide) wF_X9_12 ga0 rg_68 rfl dX9_image_27 (fun q134 eq134 gq134 => ?_)
      refine x_V (As := [.ref q134]) (rest := []) C (a_X8_copyFrom_k l K G s.heap  hT gq133 gq134) yo_X8_copyFrom wM_X9_351 ⟨⟨by decide, by decide⟩, by decide, by decide⟩ (x_rv C hT (ci := 8) rfl gq133 rg_34) rfl hl.1 rfl (Nat.le_of_ble_eq_true rfl) dX9_image_30 hS (AE_sub (fun _ _ => rfl) (by decide) hS.1) (fun vH135 H135 locsH135 pH135 zH135 kH135 hSH135 => ?_)
      obtain ⟨hvH135, hTH135⟩ := pH135
      subst hvH135
      have m136 := (etp).trans (fI_kept (x_lt hT kH135 ga0 (by decide))).symm
      have m137 := (fV_kept (x_lt hT kH135 ga0 (by decide))).trans fq103
      have m138 := (eq134).trans (fR_kept (x_lt hT kH135 ga0 (by decide))).symm
      refine W.eq (g2 := F0 m 33 ls []) rfl ?_
      refine lv_goto (tgt := 54) hx hb dX9_image_33 (by decide) ?_
      refine lv_aload_n hx hb dX9_image_54 rfl (lv_at hl 0 rfl) ?_
      refine x_gn C hTH135 (ci := 9) (k := 1) rfl inX9 (by decide) wF_X9_348 ga0 rg_68 rfl dX9_image_55 (fun z => absurd (z.symm.trans m137) (by intro h; cases h)) (fun q139 eq139 fq139 gq139 => ?_)
      refine lv_ifnull hx hb dX9_image_58 ?_
      refine lv_iconst (v := 1) hx hb dX9_image_61 (by decide) ?_
      refine lv_goto (tgt := 66) hx hb dX9_image_62 (by decide) ?_
      exact x_zret C hQ (Or.inr rfl) dX9_image_66 hSH135 (by decide) (by decide) (⟨1, rfl, by omega, G, fun _ _ => rfl, m136, hTH135⟩)
