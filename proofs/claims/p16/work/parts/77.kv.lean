set_option maxHeartbeats 4000000 in
set_option maxRecDepth 100000 in
theorem a_X9_slack_s (l : Launch) (K : KE) (G : Nat → Option Nat) (H : Heap) {a0 : Nat} (x1 : Int32) (hT : TY K G H) (ga0 : G a0 = some 68) : MX l K yX9_slack cX9_slack 2 (some .boolean) 1 22 0 0 [.ref a0, .int x1] H (AE G [0] H.size) (fun v H1 => ∃ (r : Int32), v = some (.int r) ∧ (0 ≤ r.toInt ∧ r.toInt ≤ 1) ∧ ((r.toInt = 1 ∧ 0 ≤ x1.toInt ∧ x1.toInt ≤ 9999) ∨ (r.toInt = 0 ∧ (x1.toInt < 0 ∨ 9999 < x1.toInt))) ∧ TY K G H1) := by
  refine MX.of (by decide +kernel) (Nat.le_of_ble_eq_true rfl) ?_
  intro p e s m below meth c ls Q C hH hl hQ
  subst hH
  have C : CX p K s m _ meth c RX9 cX9_slack 2 (some .boolean) "slack" := C
  obtain ⟨hx, hb, hml, hown, hts, hKT, hr, hlocks, hnm⟩ := id C
  have hl : lv_has ls 2 [(0, .ref a0), (1, .int x1)] := hl
  have hS : va_S (AE G [0] s.heap.size) s.heap s.heap [] := va_S.rf
  have n_0 : (0 : Int32).toInt = 0 := rfl
  have n_1 : (1 : Int32).toInt = 1 := rfl
  have n_9999 : (9999 : Int32).toInt = 9999 := rfl
  refine lv_iload_n hx hb dX9_slack_0 rfl (lv_at hl 1 rfl) ?_
  refine lv_iconst (v := 0) hx hb dX9_slack_1 (by decide) ?_
  refine lv_sipush (v := 9999) hx hb dX9_slack_2 (by decide) ?_
  refine x_S (As := [.int x1, .int 0, .int 9999]) (rest := []) C (c_X9_within l K G s.heap (x1) (0) (9999) hT) yo_X9_within wM_X9_89 ⟨⟨by decide, by decide⟩, by decide, by decide⟩ rfl hl.1 rfl (Nat.le_of_ble_eq_true rfl) dX9_slack_5 hS (AE_sub (fun _ _ => rfl) (by decide) hS.1) (fun vH137 H137 locsH137 pH137 zH137 kH137 hSH137 => ?_)
  have hqH137 := pH137.1.symm
  subst hqH137
  rcases pH137.2 with ⟨hvH137, hcH137⟩ | ⟨hvH137, hcH137⟩
  · subst hvH137
    refine W.eq (g2 := F0 m 8 ls [.int 1]) rfl ?_
    refine lv_if_ne (tgt := 13) hx hb dX9_slack_8 (by decide) (fun c138 => ?_) (fun c138 => ?_)
    · have k139 := i_ne c138
      refine lv_aload_n hx hb dX9_slack_13 rfl (lv_at hl 0 rfl) ?_
      refine x_gr C hT (ci := 9) (k := 0) rfl inX9 (by decide) wF_X9_12 ga0 rg_68 rfl dX9_slack_14 (fun q140 eq140 gq140 => ?_)
      refine lv_iload_n hx hb dX9_slack_17 rfl (lv_at hl 1 rfl) ?_
      refine x_put C hT hSH137 (ci := 8) (k := 5) (v := .int x1) (ty0 := tyX8) rfl inX8 tyX8_ok nmX8 (by decide) rfl wF_X9_184 gq140 rg_0 rfl rfl (okI (by have := i_rng x1; omega) (by have := i_rng x1; omega)) rfl rfl (AE_in gq140 (by decide)) dX9_slack_18 (fun H141 locsH141 hTH141 hSH141 wH141 => ?_)
      have m142 := eq140.trans (Wr.neR wH141 (Or.inl (G_ne ga0 gq140 (by decide)))).symm
      have m143 := Wr.I wH141
      have m143 := m143.symm
      refine lv_iconst (v := 1) hx hb dX9_slack_21 (by decide) ?_
      exact x_zret C hQ (Or.inr rfl) dX9_slack_22 hSH141 (by decide) (by decide) (⟨1, rfl, by decide, by omega, hTH141⟩)
    · have k139 := i_eq c138
      exfalso
      omega
  · subst hvH137
    refine W.eq (g2 := F0 m 8 ls [.int 0]) rfl ?_
    refine lv_if_ne (tgt := 13) hx hb dX9_slack_8 (by decide) (fun c144 => ?_) (fun c144 => ?_)
    · have k145 := i_ne c144
      exfalso
      omega
    · have k145 := i_eq c144
      refine lv_iconst (v := 0) hx hb dX9_slack_11 (by decide) ?_
      exact x_zret C hQ (Or.inl rfl) dX9_slack_12 hSH137 (by decide) (by decide) (⟨0, rfl, by decide, by omega, hT⟩)

set_option maxHeartbeats 4000000 in
set_option maxRecDepth 100000 in
theorem a_X10_slack_s (l : Launch) (K : KE) (G : Nat → Option Nat) (H : Heap) {a0 : Nat} (x1 : Int32) (hT : TY K G H) (ga0 : G a0 = some 112) (hg_CG : CG (avw K H a0)) (hg_TU : TU (avw K H a0) (svw K H a0)) (hg_WD : WD (avw K H a0)) (hg_IM : IM (avw K H a0)) : MX l K yX10_slack cX10_slack 2 (some .boolean) 1 23 0 0 [.ref a0, .int x1] H (AE G [112] H.size) (fun v H1 => ∃ (r : Int32), v = some (.int r) ∧ (0 ≤ r.toInt ∧ r.toInt ≤ 1) ∧ ((r.toInt = 1 ∧ 0 ≤ x1.toInt ∧ x1.toInt ≤ 9999) ∨ (r.toInt = 0 ∧ (x1.toInt < 0 ∨ 9999 < x1.toInt))) ∧ (CG (avw K H1 a0)) ∧ (TU (avw K H1 a0) (svw K H1 a0)) ∧ (WD (avw K H1 a0)) ∧ (IM (avw K H1 a0)) ∧ TY K G H1) := by
  refine MX.of (by decide +kernel) (Nat.le_of_ble_eq_true rfl) ?_
  intro p e s m below meth c ls Q C hH hl hQ
  subst hH
  have C : CX p K s m _ meth c RX10 cX10_slack 2 (some .boolean) "slack" := C
  obtain ⟨hx, hb, hml, hown, hts, hKT, hr, hlocks, hnm⟩ := id C
  have hl : lv_has ls 2 [(0, .ref a0), (1, .int x1)] := hl
  have hS : va_S (AE G [112] s.heap.size) s.heap s.heap [] := va_S.rf
  have n_0 : (0 : Int32).toInt = 0 := rfl
  have n_1 : (1 : Int32).toInt = 1 := rfl
  have n_9999 : (9999 : Int32).toInt = 9999 := rfl
  have hap : ∀ x y, x < 74 → y < 74 → x ≠ y → K.1.2 10 x ≠ K.1.2 10 y := x_apart hKT hts inX10 tyX10 tyX10_ok nmX10 rfl
  refine lv_aload_n hx hb dX10_slack_0 rfl (lv_at hl 0 rfl) ?_
  refine lv_iconst (v := 0) hx hb dX10_slack_1 (by decide) ?_
  refine x_put C hT hS (ci := 10) (k := 0) (v := .int 0) (ty0 := tyX10) rfl inX10 tyX10_ok nmX10 (by decide) rfl wF_X10_167 ga0 rg_112 rfl rfl (okI (by have := i_rng (0 : Int32); omega) (by have := i_rng (0 : Int32); omega)) rfl rfl (AE_in ga0 (by decide)) dX10_slack_2 (fun H173 locsH173 hTH173 hSH173 wH173 => ?_)
  have g174 : CG (avw K H173 a0) := CG.congr (fun k hk j => av_fld hT ga0 hap wH173 (by decide) (CG_ok 112 (by decide) k hk) (CG_ne 0 (by decide) k hk)) hg_CG
  have g175 : TU (avw K H173 a0) (svw K H173 a0) := TU.congr (fun k hk j => av_fld hT ga0 hap wH173 (by decide) (TU_ok 112 (by decide) k hk) (TU_ne 0 (by decide) k hk)) (fun k hk => sv_fld hap wH173 (by decide) (TU_slt k hk) (TU_sne 0 (by decide) k hk)) hg_TU
  have g176 : WD (avw K H173 a0) := WD.congr (fun k hk j => av_fld hT ga0 hap wH173 (by decide) (WD_ok 112 (by decide) k hk) (WD_ne 0 (by decide) k hk)) hg_WD
  have g177 : IM (avw K H173 a0) := IM.congr (fun k hk j => av_fld hT ga0 hap wH173 (by decide) (IM_ok 112 (by decide) k hk) (IM_ne 0 (by decide) k hk)) hg_IM
  have m178 := Wr.I wH173
  refine lv_aload_n hx hb dX10_slack_5 rfl (lv_at hl 0 rfl) ?_
  refine lv_iload_n hx hb dX10_slack_6 rfl (lv_at hl 1 rfl) ?_
  refine lv_iconst (v := 0) hx hb dX10_slack_7 (by decide) ?_
  refine lv_sipush (v := 9999) hx hb dX10_slack_8 (by decide) ?_
  refine x_V (As := [.int x1, .int 0, .int 9999]) (rest := []) C (c_X10_isIn l K G H173 (x1) (0) (9999) hTH173 ga0) yo_X10_isIn wM_X10_177 ⟨⟨by decide, by decide⟩, by decide, by decide⟩ (x_rv C hTH173 (ci := 10) rfl ga0 rg_112) rfl hl.1 rfl (Nat.le_of_ble_eq_true rfl) dX10_slack_11 hSH173 (AE_sub (fun _ _ => rfl) (by decide) hSH173.1) (fun vH179 H179 locsH179 pH179 zH179 kH179 hSH179 => ?_)
  have hqH179 := pH179.1.symm
  subst hqH179
  rcases pH179.2 with ⟨hvH179, hcH179⟩ | ⟨hvH179, hcH179⟩
  · subst hvH179
    refine W.eq (g2 := F0 m 14 ls [.int 1]) rfl ?_
    refine lv_if_ne (tgt := 19) hx hb dX10_slack_14 (by decide) (fun c180 => ?_) (fun c180 => ?_)
    · have k181 := i_ne c180
      refine lv_aload_n hx hb dX10_slack_19 rfl (lv_at hl 0 rfl) ?_
      refine lv_iload_n hx hb dX10_slack_20 rfl (lv_at hl 1 rfl) ?_
      refine x_put C hTH173 hSH179 (ci := 10) (k := 3) (v := .int x1) (ty0 := tyX10) rfl inX10 tyX10_ok nmX10 (by decide) rfl wF_X10_7 ga0 rg_112 rfl rfl (okI (by have := i_rng x1; omega) (by have := i_rng x1; omega)) rfl rfl (AE_in ga0 (by decide)) dX10_slack_21 (fun H182 locsH182 hTH182 hSH182 wH182 => ?_)
      have g183 : CG (avw K H182 a0) := CG.congr (fun k hk j => av_fld hTH173 ga0 hap wH182 (by decide) (CG_ok 112 (by decide) k hk) (CG_ne 3 (by decide) k hk)) g174
      have g184 : TU (avw K H182 a0) (svw K H182 a0) := TU.congr (fun k hk j => av_fld hTH173 ga0 hap wH182 (by decide) (TU_ok 112 (by decide) k hk) (TU_ne 3 (by decide) k hk)) (fun k hk => sv_fld hap wH182 (by decide) (TU_slt k hk) (TU_sne 3 (by decide) k hk)) g175
      have g185 : WD (avw K H182 a0) := WD.congr (fun k hk j => av_fld hTH173 ga0 hap wH182 (by decide) (WD_ok 112 (by decide) k hk) (WD_ne 3 (by decide) k hk)) g176
      have g186 : IM (avw K H182 a0) := IM.congr (fun k hk j => av_fld hTH173 ga0 hap wH182 (by decide) (IM_ok 112 (by decide) k hk) (IM_ne 3 (by decide) k hk)) g177
      have m187 := (Wr.neI wH182 (Or.inr (x_apart hKT hts inX10 tyX10 tyX10_ok nmX10 rfl 0 3 (by decide) (by decide) (by decide)))).trans m178
      have m188 := Wr.I wH182
      have m188 := m188.symm
      refine lv_iconst (v := 1) hx hb dX10_slack_24 (by decide) ?_
      exact x_zret C hQ (Or.inr rfl) dX10_slack_25 hSH182 (by decide) (by decide) (⟨1, rfl, by decide, by omega, g183, g184, g185, g186, hTH182⟩)
    · have k181 := i_eq c180
      exfalso
      omega
  · subst hvH179
    refine W.eq (g2 := F0 m 14 ls [.int 0]) rfl ?_
    refine lv_if_ne (tgt := 19) hx hb dX10_slack_14 (by decide) (fun c189 => ?_) (fun c189 => ?_)
    · have k190 := i_ne c189
      exfalso
      omega
    · have k190 := i_eq c189
      refine lv_iconst (v := 0) hx hb dX10_slack_17 (by decide) ?_
      exact x_zret C hQ (Or.inl rfl) dX10_slack_18 hSH179 (by decide) (by decide) (⟨0, rfl, by decide, by omega, g174, g175, g176, g177, hTH173⟩)
