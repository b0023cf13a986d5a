set_option maxHeartbeats 4000000 in
set_option maxRecDepth 100000 in
theorem a_X10_end_t (l : Launch) (K : KE) (G : Nat → Option Nat) (H : Heap) {a0 : Nat} (x1 : Int32) (tp : Int32) (hT : TY K G H) (ga0 : G a0 = some 112) (etp : tp = fI H a0 (K.1.2 10 18)) (hg_CG : CG (avw K H a0)) (hg_TU : TU (avw K H a0) (svw K H a0)) (hg_WD : WD (avw K H a0)) (hg_IM : IM (avw K H a0)) : MX l K yX10_end cX10_end 2 (some .boolean) 1 23 0 0 [.ref a0, .int x1] H (AE G [112] H.size) (fun v H1 => ∃ (r : Int32) (t0 : Int32), v = some (.int r) ∧ (0 ≤ r.toInt ∧ r.toInt ≤ 1) ∧ t0 = fI H1 a0 (K.1.2 10 18) ∧ ((0 ≤ x1.toInt ∧ x1.toInt ≤ tp.toInt ∧ r.toInt = 1 ∧ t0.toInt = x1.toInt) ∨ ((x1.toInt < 0 ∨ tp.toInt < x1.toInt) ∧ r.toInt = 0 ∧ t0.toInt = tp.toInt)) ∧ (CG (avw K H1 a0)) ∧ (TU (avw K H1 a0) (svw K H1 a0)) ∧ (WD (avw K H1 a0)) ∧ (IM (avw K H1 a0)) ∧ MF K H H1 a0 [0, 18] ∧ TY K G H1) := by
  refine MX.of (by decide +kernel) (Nat.le_of_ble_eq_true rfl) ?_
  intro p e s m below meth c ls Q C hH hl hQ
  subst hH
  have C : CX p K s m _ meth c RX10 cX10_end 2 (some .boolean) "end" := C
  obtain ⟨hx, hb, hml, hown, hts, hKT, hr, hlocks, hnm⟩ := id C
  have hl : lv_has ls 2 [(0, .ref a0), (1, .int x1)] := hl
  have hS : va_S (AE G [112] s.heap.size) s.heap s.heap [] := va_S.rf
  have n_0 : (0 : Int32).toInt = 0 := rfl
  have n_1 : (1 : Int32).toInt = 1 := rfl
  have btp := ty_fi (x := tp) (k := 18) etp hT ga0 rg_112 rfl
  have hap : ∀ x y, x < 74 → y < 74 → x ≠ y → K.1.2 10 x ≠ K.1.2 10 y := x_apart hKT hts inX10 tyX10 tyX10_ok nmX10 rfl
  have mf0 : MF K s.heap s.heap a0 [0, 18] := fun _ _ _ => rfl
  refine lv_aload_n hx hb dX10_end_0 rfl (lv_at hl 0 rfl) ?_
  refine lv_iconst (v := 0) hx hb dX10_end_1 (by decide) ?_
  refine x_put C hT hS (ci := 10) (k := 0) (v := .int 0) (ty0 := tyX10) rfl inX10 tyX10_ok nmX10 (by decide) rfl wF_X10_167 ga0 rg_112 rfl rfl (okI (by have := i_rng (0 : Int32); omega) (by have := i_rng (0 : Int32); omega)) rfl rfl (AE_in ga0 (by decide)) dX10_end_2 (fun H193 locsH193 hTH193 hSH193 wH193 => ?_)
  have mf194 : MF K s.heap H193 a0 [0, 18] := MF.fld hap wH193 (by decide) (by decide) mf0
  have g195 : CG (avw K H193 a0) := CG.congr (fun k hk j => av_fld hT ga0 hap wH193 (by decide) (CG_ok 112 (by decide) k hk) (CG_ne 0 (by decide) k hk)) hg_CG
  have g196 : TU (avw K H193 a0) (svw K H193 a0) := TU.congr (fun k hk j => av_fld hT ga0 hap wH193 (by decide) (TU_ok 112 (by decide) k hk) (TU_ne 0 (by decide) k hk)) (fun k hk => sv_fld hap wH193 (by decide) (TU_slt k hk) (TU_sne 0 (by decide) k hk)) hg_TU
  have g197 : WD (avw K H193 a0) := WD.congr (fun k hk j => av_fld hT ga0 hap wH193 (by decide) (WD_ok 112 (by decide) k hk) (WD_ne 0 (by decide) k hk)) hg_WD
  have g198 : IM (avw K H193 a0) := IM.congr (fun k hk j => av_fld hT ga0 hap wH193 (by decide) (IM_ok 112 (by decide) k hk) (IM_ne 0 (by decide) k hk)) hg_IM
  have m199 := etp.trans (Wr.neI wH193 (Or.inr (x_apart hKT hts inX10 tyX10 tyX10_ok nmX10 rfl 18 0 (by decide) (by decide) (by decide)))).symm
  have m200 := Wr.I wH193
  refine lv_aload_n hx hb dX10_end_5 rfl (lv_at hl 0 rfl) ?_
  refine lv_iload_n hx hb dX10_end_6 rfl (lv_at hl 1 rfl) ?_
  refine lv_iconst (v := 0) hx hb dX10_end_7 (by decide) ?_
  refine lv_aload_n hx hb dX10_end_8 rfl (lv_at hl 0 rfl) ?_
  refine x_gi C hTH193 (ci := 10) (k := 18) rfl inX10 (by decide) wF_X10_185 ga0 rg_112 rfl dX10_end_9 (fun x201 ex201 bx201 => ?_)
  have ux201 : tp = x201 := (m199).trans ex201.symm
  subst ux201
  refine x_V (As := [.int x1, .int 0, .int tp]) (rest := []) C (c_X10_isIn l K G H193 (x1) (0) (tp) hTH193 ga0) yo_X10_isIn wM_X10_177 ⟨⟨by decide, by decide⟩, by decide, by decide⟩ (x_rv C hTH193 (ci := 10) rfl ga0 rg_112) rfl hl.1 rfl (Nat.le_of_ble_eq_true rfl) dX10_end_12 hSH193 (AE_sub (fun _ _ => rfl) (by decide) hSH193.1) (fun vH202 H202 locsH202 pH202 zH202 kH202 hSH202 => ?_)
  have hqH202 := pH202.1.symm
  subst hqH202
  rcases pH202.2 with ⟨hvH202, hcH202⟩ | ⟨hvH202, hcH202⟩
  · subst hvH202
    refine W.eq (g2 := F0 m 15 ls [.int 1]) rfl ?_
    refine lv_if_ne (tgt := 20) hx hb dX10_end_15 (by decide) (fun c203 => ?_) (fun c203 => ?_)
    · have k204 := i_ne c203
      refine lv_aload_n hx hb dX10_end_20 rfl (lv_at hl 0 rfl) ?_
      refine lv_iload_n hx hb dX10_end_21 rfl (lv_at hl 1 rfl) ?_
      refine x_put C hTH193 hSH202 (ci := 10) (k := 18) (v := .int x1) (ty0 := tyX10) rfl inX10 tyX10_ok nmX10 (by decide) rfl wF_X10_185 ga0 rg_112 rfl rfl (okI (by have := i_rng x1; omega) (by have := i_rng x1; omega)) rfl rfl (AE_in ga0 (by decide)) dX10_end_22 (fun H205 locsH205 hTH205 hSH205 wH205 => ?_)
      have mf206 : MF K s.heap H205 a0 [0, 18] := MF.fld hap wH205 (by decide) (by decide) mf194
      have g207 : CG (avw K H205 a0) := CG.congr (fun k hk j => av_fld hTH193 ga0 hap wH205 (by decide) (CG_ok 112 (by decide) k hk) (CG_ne 18 (by decide) k hk)) g195
      have g208 : TU (avw K H205 a0) (svw K H205 a0) := TU.congr (fun k hk j => av_fld hTH193 ga0 hap wH205 (by decide) (TU_ok 112 (by decide) k hk) (TU_ne 18 (by decide) k hk)) (fun k hk => sv_fld hap wH205 (by decide) (TU_slt k hk) (TU_sne 18 (by decide) k hk)) g196
      have g209 : WD (avw K H205 a0) := WD.congr (fun k hk j => av_fld hTH193 ga0 hap wH205 (by decide) (WD_ok 112 (by decide) k hk) (WD_ne 18 (by decide) k hk)) g197
      have g210 : IM (avw K H205 a0) := IM.congr (fun k hk j => av_fld hTH193 ga0 hap wH205 (by decide) (IM_ok 112 (by decide) k hk) (IM_ne 18 (by decide) k hk)) g198
      have m212 := (Wr.neI wH205 (Or.inr (x_apart hKT hts inX10 tyX10 tyX10_ok nmX10 rfl 0 18 (by decide) (by decide) (by decide)))).trans m200
      have m213 := Wr.I wH205
      have m213 := m213.symm
      refine lv_iconst (v := 1) hx hb dX10_end_25 (by decide) ?_
      exact x_zret C hQ (Or.inr rfl) dX10_end_26 hSH205 (by decide) (by decide) (⟨1, x1, rfl, by decide, m213, by omega, g207, g208, g209, g210, mf206, hTH205⟩)
    · have k204 := i_eq c203
      exfalso
      omega
  · subst hvH202
    refine W.eq (g2 := F0 m 15 ls [.int 0]) rfl ?_
    refine lv_if_ne (tgt := 20) hx hb dX10_end_15 (by decide) (fun c214 => ?_) (fun c214 => ?_)
    · have k215 := i_ne c214
      exfalso
      omega
    · have k215 := i_eq c214
      refine lv_iconst (v := 0) hx hb dX10_end_18 (by decide) ?_
      exact x_zret C hQ (Or.inl rfl) dX10_end_19 hSH202 (by decide) (by decide) (⟨0, tp, rfl, by decide, m199, by omega, g195, g196, g197, g198, mf194, hTH193⟩)
