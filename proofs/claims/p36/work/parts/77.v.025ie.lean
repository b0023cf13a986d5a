set_option maxHeartbeats 4000000 in
set_option maxRecDepth 100000 in
theorem a_X10_isBar_n (l : Launch) (K : KE) (G : Nat → Option Nat) (H : Heap) {a0 : Nat} (x1 : Int32) (bs : Int32) (hT : TY K G H) (ga0 : G a0 = some 112) (ebs : bs = fI H a0 (K.1.2 10 1)) (hp0 : x1.toInt < 0 ∨ bs.toInt ≤ x1.toInt) : MX l K yX10_isBar cX10_isBar 2 (some .boolean) 0 0 0 0 [.ref a0, .int x1] H (AE G [] H.size) (fun v H1 => ∃ (r : Int32), v = some (.int r) ∧ (0 ≤ r.toInt ∧ r.toInt ≤ 0) ∧ TY K G H1) := by
  refine MX.of (by decide +kernel) (Nat.le_of_ble_eq_true rfl) ?_
  intro p e s m below meth c ls Q C hH hl hQ
  subst hH
  have C : CX p K s m _ meth c RX10 cX10_isBar 2 (some .boolean) "isBar" := C
  obtain ⟨hx, hb, hml, hown, hts, hKT, hr, hlocks, hnm⟩ := id C
  have hl : lv_has ls 2 [(0, .ref a0), (1, .int x1)] := hl
  have hS : va_S (AE G [] s.heap.size) s.heap s.heap [] := va_S.rf
  have n_0 : (0 : Int32).toInt = 0 := rfl
  have bbs := ty_fi (x := bs) (k := 1) ebs hT ga0 rg_112 rfl
  have hap : ∀ x y, x < 74 → y < 74 → x ≠ y → K.1.2 10 x ≠ K.1.2 10 y := x_apart hKT hts inX10 tyX10 tyX10_ok nmX10 rfl
  refine lv_iload_n hx hb dX10_isBar_0 rfl (lv_at hl 1 rfl) ?_
  refine lv_if_lt (tgt := 16) hx hb dX10_isBar_1 (by decide) (fun c121 => ?_) (fun c121 => ?_)
  · have k122 := i_lt c121
    refine lv_iconst (v := 0) hx hb dX10_isBar_16 (by decide) ?_
    exact x_zret C hQ (Or.inl rfl) dX10_isBar_17 hS (by decide) (by decide) (⟨0, rfl, by decide, hT⟩)
  · have k122 := i_nlt c121
    refine lv_iload_n hx hb dX10_isBar_4 rfl (lv_at hl 1 rfl) ?_
    refine lv_aload_n hx hb dX10_isBar_5 rfl (lv_at hl 0 rfl) ?_
    refine x_gi C hT (ci := 10) (k := 1) rfl inX10 (by decide) wF_X10_170 ga0 rg_112 rfl dX10_isBar_6 (fun x123 ex123 bx123 => ?_)
    have ux123 : bs = x123 := (ebs).trans ex123.symm
    subst ux123
    refine lv_icmp_ge (tgt := 16) hx hb dX10_isBar_9 (by decide) (fun c124 => ?_) (fun c124 => ?_)
    · have k125 := i_le c124
      refine lv_iconst (v := 0) hx hb dX10_isBar_16 (by decide) ?_
      exact x_zret C hQ (Or.inl rfl) dX10_isBar_17 hS (by decide) (by decide) (⟨0, rfl, by decide, hT⟩)
    · have k125 := i_nle c124
      exfalso
      omega

set_option maxHeartbeats 4000000 in
set_option maxRecDepth 100000 in
theorem a_X10_isSlice_n (l : Launch) (K : KE) (G : Nat → Option Nat) (H : Heap) {a0 : Nat} (x1 : Int32) (x2 : Int32) (bs : Int32) (hT : TY K G H) (ga0 : G a0 = some 112) (ebs : bs = fI H a0 (K.1.2 10 1)) (hp0 : x1.toInt < 0 ∨ bs.toInt ≤ x1.toInt) : MX l K yX10_isSlice cX10_isSlice 3 (some .boolean) 1 21 0 0 [.ref a0, .int x1, .int x2] H (AE G [] H.size) (fun v H1 => ∃ (r : Int32), v = some (.int r) ∧ (0 ≤ r.toInt ∧ r.toInt ≤ 0) ∧ TY K G H1) := by
  refine MX.of (by decide +kernel) (Nat.le_of_ble_eq_true rfl) ?_
  intro p e s m below meth c ls Q C hH hl hQ
  subst hH
  have C : CX p K s m _ meth c RX10 cX10_isSlice 3 (some .boolean) "isSlice" := C
  obtain ⟨hx, hb, hml, hown, hts, hKT, hr, hlocks, hnm⟩ := id C
  have hl : lv_has ls 3 [(0, .ref a0), (1, .int x1), (2, .int x2)] := hl
  have hS : va_S (AE G [] s.heap.size) s.heap s.heap [] := va_S.rf
  have n_0 : (0 : Int32).toInt = 0 := rfl
  have bbs := ty_fi (x := bs) (k := 1) ebs hT ga0 rg_112 rfl
  have hap : ∀ x y, x < 74 → y < 74 → x ≠ y → K.1.2 10 x ≠ K.1.2 10 y := x_apart hKT hts inX10 tyX10 tyX10_ok nmX10 rfl
  refine lv_aload_n hx hb dX10_isSlice_0 rfl (lv_at hl 0 rfl) ?_
  refine lv_iload_n hx hb dX10_isSlice_1 rfl (lv_at hl 1 rfl) ?_
  refine x_V (As := [.int x1]) (rest := []) C (a_X10_isBar_n l K G s.heap (x1) (bs) hT ga0 ebs (by omega)) yo_X10_isBar wM_X10_173 ⟨⟨by decide, by decide⟩, by decide, by decide⟩ (x_rv C hT (ci := 10) rfl ga0 rg_112) rfl hl.1 rfl (Nat.le_of_ble_eq_true rfl) dX10_isSlice_2 hS (AE_sub (fun _ _ => rfl) (by decide) hS.1) (fun vH121 H121 locsH121 pH121 zH121 kH121 hSH121 => ?_)
  obtain ⟨x122, hvH121, bx122, hTH121⟩ := pH121
  subst hvH121
  have m123 := (ebs).trans (fI_kept (x_lt hT kH121 ga0 (by decide))).symm
  refine W.eq (g2 := F0 m 5 ls [.int x122]) rfl ?_
  refine lv_if_eq (tgt := 26) hx hb dX10_isSlice_5 (by decide) (fun c124 => ?_) (fun c124 => ?_)
  · have k125 := i_eq c124
    refine lv_iconst (v := 0) hx hb dX10_isSlice_26 (by decide) ?_
    exact x_zret C hQ (Or.inl rfl) dX10_isSlice_27 hSH121 (by decide) (by decide) (⟨0, rfl, by decide, hTH121⟩)
  · have k125 := i_ne c124
    exfalso
    omega

set_option maxHeartbeats 4000000 in
set_option maxRecDepth 100000 in
theorem a_X10_canPass_n (l : Launch) (K : KE) (G : Nat → Option Nat) (H : Heap) {a0 : Nat} (x1 : Int32) (x2 : Int32) (x3 : Int32) (bs : Int32) (hT : TY K G H) (ga0 : G a0 = some 112) (ebs : bs = fI H a0 (K.1.2 10 1)) (hp0 : x1.toInt < 0 ∨ bs.toInt ≤ x1.toInt) : MX l K yX10_canPass cX10_canPass 4 (some .boolean) 2 43 0 0 [.ref a0, .int x1, .int x2, .int x3] H (AE G [] H.size) (fun v H1 => ∃ (r : Int32), v = some (.int r) ∧ (0 ≤ r.toInt ∧ r.toInt ≤ 0) ∧ TY K G H1) := by
  refine MX.of (by decide +kernel) (Nat.le_of_ble_eq_true rfl) ?_
  intro p e s m below meth c ls Q C hH hl hQ
  subst hH
  have C : CX p K s m _ meth c RX10 cX10_canPass 4 (some .boolean) "canPass" := C
  obtain ⟨hx, hb, hml, hown, hts, hKT, hr, hlocks, hnm⟩ := id C
  have hl : lv_has ls 4 [(0, .ref a0), (1, .int x1), (2, .int x2), (3, .int x3)] := hl
  have hS : va_S (AE G [] s.heap.size) s.heap s.heap [] := va_S.rf
  have n_0 : (0 : Int32).toInt = 0 := rfl
  have bbs := ty_fi (x := bs) (k := 1) ebs hT ga0 rg_112 rfl
  have hap : ∀ x y, x < 74 → y < 74 → x ≠ y → K.1.2 10 x ≠ K.1.2 10 y := x_apart hKT hts inX10 tyX10 tyX10_ok nmX10 rfl
  refine lv_aload_n hx hb dX10_canPass_0 rfl (lv_at hl 0 rfl) ?_
  refine lv_iload_n hx hb dX10_canPass_1 rfl (lv_at hl 1 rfl) ?_
  refine lv_iload_n hx hb dX10_canPass_2 rfl (lv_at hl 2 rfl) ?_
  refine x_V (As := [.int x1, .int x2]) (rest := []) C (a_X10_isSlice_n l K G s.heap (x1) (x2) (bs) hT ga0 ebs (by omega)) yo_X10_isSlice wM_X10_181 ⟨⟨by decide, by decide⟩, by decide, by decide⟩ (x_rv C hT (ci := 10) rfl ga0 rg_112) rfl hl.1 rfl (Nat.le_of_ble_eq_true rfl) dX10_canPass_3 hS (AE_sub (fun _ _ => rfl) (by decide) hS.1) (fun vH121 H121 locsH121 pH121 zH121 kH121 hSH121 => ?_)
  obtain ⟨x122, hvH121, bx122, hTH121⟩ := pH121
  subst hvH121
  have m123 := (ebs).trans (fI_kept (x_lt hT kH121 ga0 (by decide))).symm
  refine W.eq (g2 := F0 m 6 ls [.int x122]) rfl ?_
  refine lv_if_eq (tgt := 40) hx hb dX10_canPass_6 (by decide) (fun c124 => ?_) (fun c124 => ?_)
  · have k125 := i_eq c124
    refine lv_iconst (v := 0) hx hb dX10_canPass_40 (by decide) ?_
    exact x_zret C hQ (Or.inl rfl) dX10_canPass_41 hSH121 (by decide) (by decide) (⟨0, rfl, by decide, hTH121⟩)
  · have k125 := i_ne c124
    exfalso
    omega

set_option maxHeartbeats 4000000 in
set_option maxRecDepth 100000 in
theorem a_X10_slice_n (l : Launch) (K : KE) (G : Nat → Option Nat) (H : Heap) {a0 : Nat} (x1 : Int32) (x2 : Int32) (x3 : Int32) (x4 : Int32) (x5 : Int32) (bs : Int32) (hT : TY K G H) (ga0 : G a0 = some 112) (ebs : bs = fI H a0 (K.1.2 10 1)) (hg_CG : CG (avw K H a0)) (hg_TU : TU (avw K H a0) (svw K H a0)) (hg_WD : WD (avw K H a0)) (hg_IM : IM (avw K H a0)) (hp0 : x1.toInt < 0 ∨ bs.toInt ≤ x1.toInt) : MX l K yX10_slice cX10_slice 6 (some .boolean) 2 43 0 0 [.ref a0, .int x1, .int x2, .int x3, .int x4, .int x5] H (AE G [112] H.size) (fun v H1 => ∃ (r : Int32), v = some (.int r) ∧ (0 ≤ r.toInt ∧ r.toInt ≤ 0) ∧ bs = fI H1 a0 (K.1.2 10 1) ∧ (CG (avw K H1 a0)) ∧ (TU (avw K H1 a0) (svw K H1 a0)) ∧ (WD (avw K H1 a0)) ∧ (IM (avw K H1 a0)) ∧ MF K H H1 a0 [0] ∧ TY K G H1) := by
  refine MX.of (by decide +kernel) (Nat.le_of_ble_eq_true rfl) ?_
  intro p e s m below meth c ls Q C hH hl hQ
  subst hH
  have C : CX p K s m _ meth c RX10 cX10_slice 6 (some .boolean) "slice" := C
  obtain ⟨hx, hb, hml, hown, hts, hKT, hr, hlocks, hnm⟩ := id C
  have hl : lv_has ls 6 [(0, .ref a0), (1, .int x1), (2, .int x2), (3, .int x3), (4, .int x4), (5, .int x5)] := hl
  have hS : va_S (AE G [112] s.heap.size) s.heap s.heap [] := va_S.rf
  have n_0 : (0 : Int32).toInt = 0 := rfl
  have bbs := ty_fi (x := bs) (k := 1) ebs hT ga0 rg_112 rfl
  have hap : ∀ x y, x < 74 → y < 74 → x ≠ y → K.1.2 10 x ≠ K.1.2 10 y := x_apart hKT hts inX10 tyX10 tyX10_ok nmX10 rfl
  have mf0 : MF K s.heap s.heap a0 [0] := fun _ _ _ => rfl
  refine lv_aload_n hx hb dX10_slice_0 rfl (lv_at hl 0 rfl) ?_
  refine lv_iconst (v := 0) hx hb dX10_slice_1 (by decide) ?_
  refine x_put C hT hS (ci := 10) (k := 0) (v := .int 0) (ty0 := tyX10) rfl inX10 tyX10_ok nmX10 (by decide) rfl wF_X10_167 ga0 rg_112 rfl rfl (okI (by have := i_rng (0 : Int32); omega) (by have := i_rng (0 : Int32); omega)) rfl rfl (AE_in ga0 (by decide)) dX10_slice_2 (fun H177 locsH177 hTH177 hSH177 wH177 => ?_)
  have mf178 : MF K s.heap H177 a0 [0] := MF.fld hap wH177 (by decide) (by decide) mf0
  have g179 : CG (avw K H177 a0) := CG.congr (fun k hk j => av_fld hT ga0 hap wH177 (by decide) (CG_ok 112 (by decide) k hk) (CG_ne 0 (by decide) k hk)) hg_CG
  have g180 : TU (avw K H177 a0) (svw K H177 a0) := TU.congr (fun k hk j => av_fld hT ga0 hap wH177 (by decide) (TU_ok 112 (by decide) k hk) (TU_ne 0 (by decide) k hk)) (fun k hk => sv_fld hap wH177 (by decide) (TU_slt k hk) (TU_sne 0 (by decide) k hk)) hg_TU
  have g181 : WD (avw K H177 a0) := WD.congr (fun k hk j => av_fld hT ga0 hap wH177 (by decide) (WD_ok 112 (by decide) k hk) (WD_ne 0 (by decide) k hk)) hg_WD
  have g182 : IM (avw K H177 a0) := IM.congr (fun k hk j => av_fld hT ga0 hap wH177 (by decide) (IM_ok 112 (by decide) k hk) (IM_ne 0 (by decide) k hk)) hg_IM
  have m183 := ebs.trans (Wr.neI wH177 (Or.inr (x_apart hKT hts inX10 tyX10 tyX10_ok nmX10 rfl 1 0 (by decide) (by decide) (by decide)))).symm
  have m184 := Wr.I wH177
  refine lv_aload_n hx hb dX10_slice_5 rfl (lv_at hl 0 rfl) ?_
  refine lv_iload_n hx hb dX10_slice_6 rfl (lv_at hl 1 rfl) ?_
  refine lv_iload_n hx hb dX10_slice_7 rfl (lv_at hl 2 rfl) ?_
  refine x_V (As := [.int x1, .int x2]) (rest := []) C (a_X10_isSlice_n l K G H177 (x1) (x2) (bs) hTH177 ga0 m183 (by omega)) yo_X10_isSlice wM_X10_181 ⟨⟨by decide, by decide⟩, by decide, by decide⟩ (x_rv C hTH177 (ci := 10) rfl ga0 rg_112) rfl hl.1 rfl (Nat.le_of_ble_eq_true rfl) dX10_slice_8 hSH177 (AE_sub (fun _ _ => rfl) (by decide) hSH177.1) (fun vH185 H185 locsH185 pH185 zH185 kH185 hSH185 => ?_)
  obtain ⟨x186, hvH185, bx186, hTH185⟩ := pH185
  subst hvH185
  have mf187 : MF K s.heap H185 a0 [0] := MF.eff (x_lt hTH177 kH185 ga0 (by decide)) mf178
  have g188 : CG (avw K H185 a0) := CG.congr (fun k hk j => av_eff hTH177 kH185 ga0 (by decide) (CG_eff [] (by decide) k hk)) g179
  have g189 : TU (avw K H185 a0) (svw K H185 a0) := TU.congr (fun k hk j => av_eff hTH177 kH185 ga0 (by decide) (TU_eff [] (by decide) k hk)) (fun k hk => sv_eff hTH177 kH185 ga0 (by decide)) g180
  have g190 : WD (avw K H185 a0) := WD.congr (fun k hk j => av_eff hTH177 kH185 ga0 (by decide) (WD_eff [] (by decide) k hk)) g181
  have g191 : IM (avw K H185 a0) := IM.congr (fun k hk j => av_eff hTH177 kH185 ga0 (by decide) (IM_eff [] (by decide) k hk)) g182
  have m192 := (m183).trans (fI_kept (x_lt hTH177 kH185 ga0 (by decide))).symm
  have m193 := (fI_kept (x_lt hTH177 kH185 ga0 (by decide))).trans m184
  refine W.eq (g2 := F0 m 11 ls [.int x186]) rfl ?_
  refine lv_if_eq (tgt := 58) hx hb dX10_slice_11 (by decide) (fun c194 => ?_) (fun c194 => ?_)
  · have k195 := i_eq c194
    refine lv_iconst (v := 0) hx hb dX10_slice_58 (by decide) ?_
    exact x_zret C hQ (Or.inl rfl) dX10_slice_59 hSH185 (by decide) (by decide) (⟨0, rfl, by decide, m192, g188, g189, g190, g191, mf187, hTH185⟩)
  · have k195 := i_ne c194
    exfalso
    omega

set_option maxHeartbeats 4000000 in
set_option maxRecDepth 100000 in
theorem a_X10_wax_n (l : Launch) (K : KE) (G : Nat → Option Nat) (H : Heap) {a0 : Nat} (x1 : Int32) (x2 : Int32) (x3 : Int32) (bs : Int32) (hT : TY K G H) (ga0 : G a0 = some 112) (ebs : bs = fI H a0 (K.1.2 10 1)) (hg_CG : CG (avw K H a0)) (hg_TU : TU (avw K H a0) (svw K H a0)) (hg_WD : WD (avw K H a0)) (hg_IM : IM (avw K H a0)) (hp0 : x1.toInt < 0 ∨ bs.toInt ≤ x1.toInt) : MX l K yX10_wax cX10_wax 4 (some .boolean) 2 43 0 0 [.ref a0, .int x1, .int x2, .int x3] H (AE G [112] H.size) (fun v H1 => ∃ (r : Int32), v = some (.int r) ∧ (0 ≤ r.toInt ∧ r.toInt ≤ 0) ∧ bs = fI H1 a0 (K.1.2 10 1) ∧ (CG (avw K H1 a0)) ∧ (TU (avw K H1 a0) (svw K H1 a0)) ∧ (WD (avw K H1 a0)) ∧ (IM (avw K H1 a0)) ∧ MF K H H1 a0 [0] ∧ TY K G H1) := by
  refine MX.of (by decide +kernel) (Nat.le_of_ble_eq_true rfl) ?_
  intro p e s m below meth c ls Q C hH hl hQ
  subst hH
  have C : CX p K s m _ meth c RX10 cX10_wax 4 (some .boolean) "wax" := C
  obtain ⟨hx, hb, hml, hown, hts, hKT, hr, hlocks, hnm⟩ := id C
  have hl : lv_has ls 4 [(0, .ref a0), (1, .int x1), (2, .int x2), (3, .int x3)] := hl
  have hS : va_S (AE G [112] s.heap.size) s.heap s.heap [] := va_S.rf
  have n_0 : (0 : Int32).toInt = 0 := rfl
  have bbs := ty_fi (x := bs) (k := 1) ebs hT ga0 rg_112 rfl
  have hap : ∀ x y, x < 74 → y < 74 → x ≠ y → K.1.2 10 x ≠ K.1.2 10 y := x_apart hKT hts inX10 tyX10 tyX10_ok nmX10 rfl
  have mf0 : MF K s.heap s.heap a0 [0] := fun _ _ _ => rfl
  refine lv_aload_n hx hb dX10_wax_0 rfl (lv_at hl 0 rfl) ?_
  refine lv_iconst (v := 0) hx hb dX10_wax_1 (by decide) ?_
  refine x_put C hT hS (ci := 10) (k := 0) (v := .int 0) (ty0 := tyX10) rfl inX10 tyX10_ok nmX10 (by decide) rfl wF_X10_167 ga0 rg_112 rfl rfl (okI (by have := i_rng (0 : Int32); omega) (by have := i_rng (0 : Int32); omega)) rfl rfl (AE_in ga0 (by decide)) dX10_wax_2 (fun H177 locsH177 hTH177 hSH177 wH177 => ?_)
  have mf178 : MF K s.heap H177 a0 [0] := MF.fld hap wH177 (by decide) (by decide) mf0
  have g179 : CG (avw K H177 a0) := CG.congr (fun k hk j => av_fld hT ga0 hap wH177 (by decide) (CG_ok 112 (by decide) k hk) (CG_ne 0 (by decide) k hk)) hg_CG
  have g180 : TU (avw K H177 a0) (svw K H177 a0) := TU.congr (fun k hk j => av_fld hT ga0 hap wH177 (by decide) (TU_ok 112 (by decide) k hk) (TU_ne 0 (by decide) k hk)) (fun k hk => sv_fld hap wH177 (by decide) (TU_slt k hk) (TU_sne 0 (by decide) k hk)) hg_TU
  have g181 : WD (avw K H177 a0) := WD.congr (fun k hk j => av_fld hT ga0 hap wH177 (by decide) (WD_ok 112 (by decide) k hk) (WD_ne 0 (by decide) k hk)) hg_WD
  have g182 : IM (avw K H177 a0) := IM.congr (fun k hk j => av_fld hT ga0 hap wH177 (by decide) (IM_ok 112 (by decide) k hk) (IM_ne 0 (by decide) k hk)) hg_IM
  have m183 := ebs.trans (Wr.neI wH177 (Or.inr (x_apart hKT hts inX10 tyX10 tyX10_ok nmX10 rfl 1 0 (by decide) (by decide) (by decide)))).symm
  have m184 := Wr.I wH177
  refine lv_aload_n hx hb dX10_wax_5 rfl (lv_at hl 0 rfl) ?_
  refine lv_iload_n hx hb dX10_wax_6 rfl (lv_at hl 1 rfl) ?_
  refine lv_iload_n hx hb dX10_wax_7 rfl (lv_at hl 2 rfl) ?_
  refine x_V (As := [.int x1, .int x2]) (rest := []) C (a_X10_isSlice_n l K G H177 (x1) (x2) (bs) hTH177 ga0 m183 (by omega)) yo_X10_isSlice wM_X10_181 ⟨⟨by decide, by decide⟩, by decide, by decide⟩ (x_rv C hTH177 (ci := 10) rfl ga0 rg_112) rfl hl.1 rfl (Nat.le_of_ble_eq_true rfl) dX10_wax_8 hSH177 (AE_sub (fun _ _ => rfl) (by decide) hSH177.1) (fun vH185 H185 locsH185 pH185 zH185 kH185 hSH185 => ?_)
  obtain ⟨x186, hvH185, bx186, hTH185⟩ := pH185
  subst hvH185
  have mf187 : MF K s.heap H185 a0 [0] := MF.eff (x_lt hTH177 kH185 ga0 (by decide)) mf178
  have g188 : CG (avw K H185 a0) := CG.congr (fun k hk j => av_eff hTH177 kH185 ga0 (by decide) (CG_eff [] (by decide) k hk)) g179
  have g189 : TU (avw K H185 a0) (svw K H185 a0) := TU.congr (fun k hk j => av_eff hTH177 kH185 ga0 (by decide) (TU_eff [] (by decide) k hk)) (fun k hk => sv_eff hTH177 kH185 ga0 (by decide)) g180
  have g190 : WD (avw K H185 a0) := WD.congr (fun k hk j => av_eff hTH177 kH185 ga0 (by decide) (WD_eff [] (by decide) k hk)) g181
  have g191 : IM (avw K H185 a0) := IM.congr (fun k hk j => av_eff hTH177 kH185 ga0 (by decide) (IM_eff [] (by decide) k hk)) g182
  have m192 := (m183).trans (fI_kept (x_lt hTH177 kH185 ga0 (by decide))).symm
  have m193 := (fI_kept (x_lt hTH177 kH185 ga0 (by decide))).trans m184
  refine W.eq (g2 := F0 m 11 ls [.int x186]) rfl ?_
  refine lv_if_eq (tgt := 25) hx hb dX10_wax_11 (by decide) (fun c194 => ?_) (fun c194 => ?_)
  · have k195 := i_eq c194
    refine lv_iconst (v := 0) hx hb dX10_wax_25 (by decide) ?_
    exact x_zret C hQ (Or.inl rfl) dX10_wax_26 hSH185 (by decide) (by decide) (⟨0, rfl, by decide, m192, g188, g189, g190, g191, mf187, hTH185⟩)
  · have k195 := i_ne c194
    exfalso
    omega

set_option maxHeartbeats 4000000 in
set_option maxRecDepth 100000 in
theorem a_X10_goal_n (l : Launch) (K : KE) (G : Nat → Option Nat) (H : Heap) {a0 : Nat} (x1 : Int32) (x2 : Int32) (x3 : Int32) (bs : Int32) (hT : TY K G H) (ga0 : G a0 = some 112) (ebs : bs = fI H a0 (K.1.2 10 1)) (hg_CG : CG (avw K H a0)) (hg_TU : TU (avw K H a0) (svw K H a0)) (hg_WD : WD (avw K H a0)) (hg_IM : IM (avw K H a0)) (hp0 : x1.toInt < 0 ∨ bs.toInt ≤ x1.toInt) : MX l K yX10_goal cX10_goal 4 (some .boolean) 1 21 0 0 [.ref a0, .int x1, .int x2, .int x3] H (AE G [112] H.size) (fun v H1 => ∃ (r : Int32), v = some (.int r) ∧ (0 ≤ r.toInt ∧ r.toInt ≤ 0) ∧ bs = fI H1 a0 (K.1.2 10 1) ∧ (CG (avw K H1 a0)) ∧ (TU (avw K H1 a0) (svw K H1 a0)) ∧ (WD (avw K H1 a0)) ∧ (IM (avw K H1 a0)) ∧ MF K H H1 a0 [0] ∧ TY K G H1) := by
  refine MX.of (by decide +kernel) (Nat.le_of_ble_eq_true rfl) ?_
  intro p e s m below meth c ls Q C hH hl hQ
  subst hH
  have C : CX p K s m _ meth c RX10 cX10_goal 4 (some .boolean) "goal" := C
  obtain ⟨hx, hb, hml, hown, hts, hKT, hr, hlocks, hnm⟩ := id C
  have hl : lv_has ls 4 [(0, .ref a0), (1, .int x1), (2, .int x2), (3, .int x3)] := hl
  have hS : va_S (AE G [112] s.heap.size) s.heap s.heap [] := va_S.rf
  have n_0 : (0 : Int32).toInt = 0 := rfl
  have bbs := ty_fi (x := bs) (k := 1) ebs hT ga0 rg_112 rfl
  have hap : ∀ x y, x < 74 → y < 74 → x ≠ y → K.1.2 10 x ≠ K.1.2 10 y := x_apart hKT hts inX10 tyX10 tyX10_ok nmX10 rfl
  have mf0 : MF K s.heap s.heap a0 [0] := fun _ _ _ => rfl
  refine lv_aload_n hx hb dX10_goal_0 rfl (lv_at hl 0 rfl) ?_
  refine lv_iconst (v := 0) hx hb dX10_goal_1 (by decide) ?_
  refine x_put C hT hS (ci := 10) (k := 0) (v := .int 0) (ty0 := tyX10) rfl inX10 tyX10_ok nmX10 (by decide) rfl wF_X10_167 ga0 rg_112 rfl rfl (okI (by have := i_rng (0 : Int32); omega) (by have := i_rng (0 : Int32); omega)) rfl rfl (AE_in ga0 (by decide)) dX10_goal_2 (fun H177 locsH177 hTH177 hSH177 wH177 => ?_)
  have mf178 : MF K s.heap H177 a0 [0] := MF.fld hap wH177 (by decide) (by decide) mf0
  have g179 : CG (avw K H177 a0) := CG.congr (fun k hk j => av_fld hT ga0 hap wH177 (by decide) (CG_ok 112 (by decide) k hk) (CG_ne 0 (by decide) k hk)) hg_CG
  have g180 : TU (avw K H177 a0) (svw K H177 a0) := TU.congr (fun k hk j => av_fld hT ga0 hap wH177 (by decide) (TU_ok 112 (by decide) k hk) (TU_ne 0 (by decide) k hk)) (fun k hk => sv_fld hap wH177 (by decide) (TU_slt k hk) (TU_sne 0 (by decide) k hk)) hg_TU
  have g181 : WD (avw K H177 a0) := WD.congr (fun k hk j => av_fld hT ga0 hap wH177 (by decide) (WD_ok 112 (by decide) k hk) (WD_ne 0 (by decide) k hk)) hg_WD
  have g182 : IM (avw K H177 a0) := IM.congr (fun k hk j => av_fld hT ga0 hap wH177 (by decide) (IM_ok 112 (by decide) k hk) (IM_ne 0 (by decide) k hk)) hg_IM
  have m183 := ebs.trans (Wr.neI wH177 (Or.inr (x_apart hKT hts inX10 tyX10 tyX10_ok nmX10 rfl 1 0 (by decide) (by decide) (by decide)))).symm
  have m184 := Wr.I wH177
  refine lv_aload_n hx hb dX10_goal_5 rfl (lv_at hl 0 rfl) ?_
  refine lv_iload_n hx hb dX10_goal_6 rfl (lv_at hl 1 rfl) ?_
  refine x_V (As := [.int x1]) (rest := []) C (a_X10_isBar_n l K G H177 (x1) (bs) hTH177 ga0 m183 (by omega)) yo_X10_isBar wM_X10_173 ⟨⟨by decide, by decide⟩, by decide, by decide⟩ (x_rv C hTH177 (ci := 10) rfl ga0 rg_112) rfl hl.1 rfl (Nat.le_of_ble_eq_true rfl) dX10_goal_7 hSH177 (AE_sub (fun _ _ => rfl) (by decide) hSH177.1) (fun vH185 H185 locsH185 pH185 zH185 kH185 hSH185 => ?_)
  obtain ⟨x186, hvH185, bx186, hTH185⟩ := pH185
  subst hvH185
  have mf187 : MF K s.heap H185 a0 [0] := MF.eff (x_lt hTH177 kH185 ga0 (by decide)) mf178
  have g188 : CG (avw K H185 a0) := CG.congr (fun k hk j => av_eff hTH177 kH185 ga0 (by decide) (CG_eff [] (by decide) k hk)) g179
  have g189 : TU (avw K H185 a0) (svw K H185 a0) := TU.congr (fun k hk j => av_eff hTH177 kH185 ga0 (by decide) (TU_eff [] (by decide) k hk)) (fun k hk => sv_eff hTH177 kH185 ga0 (by decide)) g180
  have g190 : WD (avw K H185 a0) := WD.congr (fun k hk j => av_eff hTH177 kH185 ga0 (by decide) (WD_eff [] (by decide) k hk)) g181
  have g191 : IM (avw K H185 a0) := IM.congr (fun k hk j => av_eff hTH177 kH185 ga0 (by decide) (IM_eff [] (by decide) k hk)) g182
  have m192 := (m183).trans (fI_kept (x_lt hTH177 kH185 ga0 (by decide))).symm
  have m193 := (fI_kept (x_lt hTH177 kH185 ga0 (by decide))).trans m184
  refine W.eq (g2 := F0 m 10 ls [.int x186]) rfl ?_
  refine lv_if_eq (tgt := 33) hx hb dX10_goal_10 (by decide) (fun c194 => ?_) (fun c194 => ?_)
  · have k195 := i_eq c194
    refine lv_iconst (v := 0) hx hb dX10_goal_33 (by decide) ?_
    exact x_zret C hQ (Or.inl rfl) dX10_goal_34 hSH185 (by decide) (by decide) (⟨0, rfl, by decide, m192, g188, g189, g190, g191, mf187, hTH185⟩)
  · have k195 := i_ne c194
    exfalso
    omega

set_option maxHeartbeats 4000000 in
set_option maxRecDepth 100000 in
theorem a_X10_shave_n (l : Launch) (K : KE) (G : Nat → Option Nat) (H : Heap) {a0 : Nat} (x1 : Int32) (x2 : Int32) (x3 : Int32) (bs : Int32) (hT : TY K G H) (ga0 : G a0 = some 112) (ebs : bs = fI H a0 (K.1.2 10 1)) (hg_CG : CG (avw K H a0)) (hg_TU : TU (avw K H a0) (svw K H a0)) (hg_WD : WD (avw K H a0)) (hg_IM : IM (avw K H a0)) (hp0 : x1.toInt < 0 ∨ bs.toInt ≤ x1.toInt) : MX l K yX10_shave cX10_shave 4 (some .int) 3 66 0 0 [.ref a0, .int x1, .int x2, .int x3] H (AE G [112] H.size) (fun v H1 => ∃ (r : Int32), v = some (.int r) ∧ ((-1) ≤ r.toInt ∧ r.toInt ≤ (-1)) ∧ bs = fI H1 a0 (K.1.2 10 1) ∧ (CG (avw K H1 a0)) ∧ (TU (avw K H1 a0) (svw K H1 a0)) ∧ (WD (avw K H1 a0)) ∧ (IM (avw K H1 a0)) ∧ MF K H H1 a0 [0] ∧ TY K G H1) := by
  refine MX.of (by decide +kernel) (Nat.le_of_ble_eq_true rfl) ?_
  intro p e s m below meth c ls Q C hH hl hQ
  subst hH
  have C : CX p K s m _ meth c RX10 cX10_shave 4 (some .int) "shave" := C
  obtain ⟨hx, hb, hml, hown, hts, hKT, hr, hlocks, hnm⟩ := id C
  have hl : lv_has ls 4 [(0, .ref a0), (1, .int x1), (2, .int x2), (3, .int x3)] := hl
  have hS : va_S (AE G [112] s.heap.size) s.heap s.heap [] := va_S.rf
  have n_m1 : ((-1) : Int32).toInt = -1 := rfl
  have n_0 : (0 : Int32).toInt = 0 := rfl
  have n_1 : (1 : Int32).toInt = 1 := rfl
  have n_9 : (9 : Int32).toInt = 9 := rfl
  have bbs := ty_fi (x := bs) (k := 1) ebs hT ga0 rg_112 rfl
  have hap : ∀ x y, x < 74 → y < 74 → x ≠ y → K.1.2 10 x ≠ K.1.2 10 y := x_apart hKT hts inX10 tyX10 tyX10_ok nmX10 rfl
  have mf0 : MF K s.heap s.heap a0 [0] := fun _ _ _ => rfl
  refine lv_aload_n hx hb dX10_shave_0 rfl (lv_at hl 0 rfl) ?_
  refine lv_iconst (v := 0) hx hb dX10_shave_1 (by decide) ?_
  refine x_put C hT hS (ci := 10) (k := 0) (v := .int 0) (ty0 := tyX10) rfl inX10 tyX10_ok nmX10 (by decide) rfl wF_X10_167 ga0 rg_112 rfl rfl (okI (by have := i_rng (0 : Int32); omega) (by have := i_rng (0 : Int32); omega)) rfl rfl (AE_in ga0 (by decide)) dX10_shave_2 (fun H221 locsH221 hTH221 hSH221 wH221 => ?_)
  have mf222 : MF K s.heap H221 a0 [0] := MF.fld hap wH221 (by decide) (by decide) mf0
  have g223 : CG (avw K H221 a0) := CG.congr (fun k hk j => av_fld hT ga0 hap wH221 (by decide) (CG_ok 112 (by decide) k hk) (CG_ne 0 (by decide) k hk)) hg_CG
  have g224 : TU (avw K H221 a0) (svw K H221 a0) := TU.congr (fun k hk j => av_fld hT ga0 hap wH221 (by decide) (TU_ok 112 (by decide) k hk) (TU_ne 0 (by decide) k hk)) (fun k hk => sv_fld hap wH221 (by decide) (TU_slt k hk) (TU_sne 0 (by decide) k hk)) hg_TU
  have g225 : WD (avw K H221 a0) := WD.congr (fun k hk j => av_fld hT ga0 hap wH221 (by decide) (WD_ok 112 (by decide) k hk) (WD_ne 0 (by decide) k hk)) hg_WD
  have g226 : IM (avw K H221 a0) := IM.congr (fun k hk j => av_fld hT ga0 hap wH221 (by decide) (IM_ok 112 (by decide) k hk) (IM_ne 0 (by decide) k hk)) hg_IM
  have m227 := ebs.trans (Wr.neI wH221 (Or.inr (x_apart hKT hts inX10 tyX10 tyX10_ok nmX10 rfl 1 0 (by decide) (by decide) (by decide)))).symm
  have m228 := Wr.I wH221
  refine lv_aload_n hx hb dX10_shave_5 rfl (lv_at hl 0 rfl) ?_
  refine lv_iload_n hx hb dX10_shave_6 rfl (lv_at hl 3 rfl) ?_
  refine lv_iconst (v := 1) hx hb dX10_shave_7 (by decide) ?_
  refine lv_bipush (v := 9) hx hb dX10_shave_8 (by decide) ?_
  refine x_V (As := [.int x3, .int 1, .int 9]) (rest := []) C (a_X10_isIn_v l K G H221 (x3) (1) (9) hTH221 ga0) yo_X10_isIn wM_X10_177 ⟨⟨by decide, by decide⟩, by decide, by decide⟩ (x_rv C hTH221 (ci := 10) rfl ga0 rg_112) rfl hl.1 rfl (Nat.le_of_ble_eq_true rfl) dX10_shave_10 hSH221 (AE_sub (fun _ _ => rfl) (by decide) hSH221.1) (fun vH229 H229 locsH229 pH229 zH229 kH229 hSH229 => ?_)
  obtain ⟨x230, hvH229, bx230, hrH229, hTH229⟩ := pH229
  subst hvH229
  have mf231 : MF K s.heap H229 a0 [0] := MF.eff (x_lt hTH221 kH229 ga0 (by decide)) mf222
  have g232 : CG (avw K H229 a0) := CG.congr (fun k hk j => av_eff hTH221 kH229 ga0 (by decide) (CG_eff [] (by decide) k hk)) g223
  have g233 : TU (avw K H229 a0) (svw K H229 a0) := TU.congr (fun k hk j => av_eff hTH221 kH229 ga0 (by decide) (TU_eff [] (by decide) k hk)) (fun k hk => sv_eff hTH221 kH229 ga0 (by decide)) g224
  have g234 : WD (avw K H229 a0) := WD.congr (fun k hk j => av_eff hTH221 kH229 ga0 (by decide) (WD_eff [] (by decide) k hk)) g225
  have g235 : IM (avw K H229 a0) := IM.congr (fun k hk j => av_eff hTH221 kH229 ga0 (by decide) (IM_eff [] (by decide) k hk)) g226
  have m236 := (m227).trans (fI_kept (x_lt hTH221 kH229 ga0 (by decide))).symm
  have m237 := (fI_kept (x_lt hTH221 kH229 ga0 (by decide))).trans m228
  refine W.eq (g2 := F0 m 13 ls [.int x230]) rfl ?_
  refine lv_if_eq (tgt := 26) hx hb dX10_shave_13 (by decide) (fun c238 => ?_) (fun c238 => ?_)
  · have k239 := i_eq c238
    refine lv_iconst (v := (-1)) hx hb dX10_shave_26 (by decide) ?_
    exact x_iret C hQ dX10_shave_27 hSH229 (by decide) (by decide) (⟨(-1), rfl, by decide, m236, g232, g233, g234, g235, mf231, hTH229⟩)
  · have k239 := i_ne c238
    refine lv_aload_n hx hb dX10_shave_16 rfl (lv_at hl 0 rfl) ?_
    refine lv_iload_n hx hb dX10_shave_17 rfl (lv_at hl 1 rfl) ?_
    refine lv_iload_n hx hb dX10_shave_18 rfl (lv_at hl 2 rfl) ?_
    refine lv_iload_n hx hb dX10_shave_19 rfl (lv_at hl 3 rfl) ?_
    refine x_V (As := [.int x1, .int x2, .int x3]) (rest := []) C (a_X10_canPass_n l K G H229 (x1) (x2) (x3) (bs) hTH229 ga0 m236 (by omega)) yo_X10_canPass wM_X10_341 ⟨⟨by decide, by decide⟩, by decide, by decide⟩ (x_rv C hTH229 (ci := 10) rfl ga0 rg_112) rfl hl.1 rfl (Nat.le_of_ble_eq_true rfl) dX10_shave_20 hSH229 (AE_sub (fun _ _ => rfl) (by decide) hSH229.1) (fun vH240 H240 locsH240 pH240 zH240 kH240 hSH240 => ?_)
    obtain ⟨x241, hvH240, bx241, hTH240⟩ := pH240
    subst hvH240
    have mf242 : MF K s.heap H240 a0 [0] := MF.eff (x_lt hTH229 kH240 ga0 (by decide)) mf231
    have g243 : CG (avw K H240 a0) := CG.congr (fun k hk j => av_eff hTH229 kH240 ga0 (by decide) (CG_eff [] (by decide) k hk)) g232
    have g244 : TU (avw K H240 a0) (svw K H240 a0) := TU.congr (fun k hk j => av_eff hTH229 kH240 ga0 (by decide) (TU_eff [] (by decide) k hk)) (fun k hk => sv_eff hTH229 kH240 ga0 (by decide)) g233
    have g245 : WD (avw K H240 a0) := WD.congr (fun k hk j => av_eff hTH229 kH240 ga0 (by decide) (WD_eff [] (by decide) k hk)) g234
    have g246 : IM (avw K H240 a0) := IM.congr (fun k hk j => av_eff hTH229 kH240 ga0 (by decide) (IM_eff [] (by decide) k hk)) g235
    have m247 := (m236).trans (fI_kept (x_lt hTH229 kH240 ga0 (by decide))).symm
    have m248 := (fI_kept (x_lt hTH229 kH240 ga0 (by decide))).trans m237
    refine W.eq (g2 := F0 m 23 ls [.int x241]) rfl ?_
    refine lv_if_ne (tgt := 28) hx hb dX10_shave_23 (by decide) (fun c249 => ?_) (fun c249 => ?_)
    · have k250 := i_ne c249
      exfalso
      omega
    · have k250 := i_eq c249
      refine lv_iconst (v := (-1)) hx hb dX10_shave_26 (by decide) ?_
      exact x_iret C hQ dX10_shave_27 hSH240 (by decide) (by decide) (⟨(-1), rfl, by decide, m247, g243, g244, g245, g246, mf242, hTH240⟩)

set_option maxHeartbeats 4000000 in
set_option maxRecDepth 100000 in
theorem a_X10_job_n (l : Launch) (K : KE) (G : Nat → Option Nat) (H : Heap) {a0 : Nat} (x1 : Int32) (x2 : Int32) (bs : Int32) (hT : TY K G H) (ga0 : G a0 = some 112) (ebs : bs = fI H a0 (K.1.2 10 1)) (hg_CG : CG (avw K H a0)) (hg_TU : TU (avw K H a0) (svw K H a0)) (hg_WD : WD (avw K H a0)) (hg_IM : IM (avw K H a0)) (hp0 : x2.toInt < 0 ∨ bs.toInt ≤ x2.toInt) : MX l K yX10_job cX10_job 6 (some .int) 1 23 0 0 [.ref a0, .int x1, .int x2] H (AE G [112] H.size) (fun v H1 => ∃ (r : Int32), v = some (.int r) ∧ ((-1) ≤ r.toInt ∧ r.toInt ≤ (-1)) ∧ bs = fI H1 a0 (K.1.2 10 1) ∧ (CG (avw K H1 a0)) ∧ (TU (avw K H1 a0) (svw K H1 a0)) ∧ (WD (avw K H1 a0)) ∧ (IM (avw K H1 a0)) ∧ MF K H H1 a0 [0] ∧ TY K G H1) := by
  refine MX.of (by decide +kernel) (Nat.le_of_ble_eq_true rfl) ?_
  intro p e s m below meth c ls Q C hH hl hQ
  subst hH
  have C : CX p K s m _ meth c RX10 cX10_job 6 (some .int) "job" := C
  obtain ⟨hx, hb, hml, hown, hts, hKT, hr, hlocks, hnm⟩ := id C
  have hl : lv_has ls 6 [(0, .ref a0), (1, .int x1), (2, .int x2)] := hl
  have hS : va_S (AE G [112] s.heap.size) s.heap s.heap [] := va_S.rf
  have n_m1 : ((-1) : Int32).toInt = -1 := rfl
  have n_0 : (0 : Int32).toInt = 0 := rfl
  have n_3 : (3 : Int32).toInt = 3 := rfl
  have bbs := ty_fi (x := bs) (k := 1) ebs hT ga0 rg_112 rfl
  have hap : ∀ x y, x < 74 → y < 74 → x ≠ y → K.1.2 10 x ≠ K.1.2 10 y := x_apart hKT hts inX10 tyX10 tyX10_ok nmX10 rfl
  have mf0 : MF K s.heap s.heap a0 [0] := fun _ _ _ => rfl
  refine lv_aload_n hx hb dX10_job_0 rfl (lv_at hl 0 rfl) ?_
  refine lv_iconst (v := 0) hx hb dX10_job_1 (by decide) ?_
  refine x_put C hT hS (ci := 10) (k := 0) (v := .int 0) (ty0 := tyX10) rfl inX10 tyX10_ok nmX10 (by decide) rfl wF_X10_167 ga0 rg_112 rfl rfl (okI (by have := i_rng (0 : Int32); omega) (by have := i_rng (0 : Int32); omega)) rfl rfl (AE_in ga0 (by decide)) dX10_job_2 (fun H221 locsH221 hTH221 hSH221 wH221 => ?_)
  have mf222 : MF K s.heap H221 a0 [0] := MF.fld hap wH221 (by decide) (by decide) mf0
  have g223 : CG (avw K H221 a0) := CG.congr (fun k hk j => av_fld hT ga0 hap wH221 (by decide) (CG_ok 112 (by decide) k hk) (CG_ne 0 (by decide) k hk)) hg_CG
  have g224 : TU (avw K H221 a0) (svw K H221 a0) := TU.congr (fun k hk j => av_fld hT ga0 hap wH221 (by decide) (TU_ok 112 (by decide) k hk) (TU_ne 0 (by decide) k hk)) (fun k hk => sv_fld hap wH221 (by decide) (TU_slt k hk) (TU_sne 0 (by decide) k hk)) hg_TU
  have g225 : WD (avw K H221 a0) := WD.congr (fun k hk j => av_fld hT ga0 hap wH221 (by decide) (WD_ok 112 (by decide) k hk) (WD_ne 0 (by decide) k hk)) hg_WD
  have g226 : IM (avw K H221 a0) := IM.congr (fun k hk j => av_fld hT ga0 hap wH221 (by decide) (IM_ok 112 (by decide) k hk) (IM_ne 0 (by decide) k hk)) hg_IM
  have m227 := ebs.trans (Wr.neI wH221 (Or.inr (x_apart hKT hts inX10 tyX10 tyX10_ok nmX10 rfl 1 0 (by decide) (by decide) (by decide)))).symm
  have m228 := Wr.I wH221
  refine lv_aload_n hx hb dX10_job_5 rfl (lv_at hl 0 rfl) ?_
  refine lv_iload_n hx hb dX10_job_6 rfl (lv_at hl 1 rfl) ?_
  refine lv_iconst (v := 0) hx hb dX10_job_7 (by decide) ?_
  refine lv_iconst (v := 3) hx hb dX10_job_8 (by decide) ?_
  refine x_V (As := [.int x1, .int 0, .int 3]) (rest := []) C (a_X10_isIn_v l K G H221 (x1) (0) (3) hTH221 ga0) yo_X10_isIn wM_X10_177 ⟨⟨by decide, by decide⟩, by decide, by decide⟩ (x_rv C hTH221 (ci := 10) rfl ga0 rg_112) rfl hl.1 rfl (Nat.le_of_ble_eq_true rfl) dX10_job_9 hSH221 (AE_sub (fun _ _ => rfl) (by decide) hSH221.1) (fun vH229 H229 locsH229 pH229 zH229 kH229 hSH229 => ?_)
  obtain ⟨x230, hvH229, bx230, hrH229, hTH229⟩ := pH229
  subst hvH229
  have mf231 : MF K s.heap H229 a0 [0] := MF.eff (x_lt hTH221 kH229 ga0 (by decide)) mf222
  have g232 : CG (avw K H229 a0) := CG.congr (fun k hk j => av_eff hTH221 kH229 ga0 (by decide) (CG_eff [] (by decide) k hk)) g223
  have g233 : TU (avw K H229 a0) (svw K H229 a0) := TU.congr (fun k hk j => av_eff hTH221 kH229 ga0 (by decide) (TU_eff [] (by decide) k hk)) (fun k hk => sv_eff hTH221 kH229 ga0 (by decide)) g224
  have g234 : WD (avw K H229 a0) := WD.congr (fun k hk j => av_eff hTH221 kH229 ga0 (by decide) (WD_eff [] (by decide) k hk)) g225
  have g235 : IM (avw K H229 a0) := IM.congr (fun k hk j => av_eff hTH221 kH229 ga0 (by decide) (IM_eff [] (by decide) k hk)) g226
  have m236 := (m227).trans (fI_kept (x_lt hTH221 kH229 ga0 (by decide))).symm
  have m237 := (fI_kept (x_lt hTH221 kH229 ga0 (by decide))).trans m228
  refine W.eq (g2 := F0 m 12 ls [.int x230]) rfl ?_
  refine lv_if_eq (tgt := 23) hx hb dX10_job_12 (by decide) (fun c238 => ?_) (fun c238 => ?_)
  · have k239 := i_eq c238
    refine lv_iconst (v := (-1)) hx hb dX10_job_23 (by decide) ?_
    exact x_iret C hQ dX10_job_24 hSH229 (by decide) (by decide) (⟨(-1), rfl, by decide, m236, g232, g233, g234, g235, mf231, hTH229⟩)
  · have k239 := i_ne c238
    refine lv_aload_n hx hb dX10_job_15 rfl (lv_at hl 0 rfl) ?_
    refine lv_iload_n hx hb dX10_job_16 rfl (lv_at hl 2 rfl) ?_
    refine x_V (As := [.int x2]) (rest := []) C (a_X10_isBar_n l K G H229 (x2) (bs) hTH229 ga0 m236 (by omega)) yo_X10_isBar wM_X10_173 ⟨⟨by decide, by decide⟩, by decide, by decide⟩ (x_rv C hTH229 (ci := 10) rfl ga0 rg_112) rfl hl.1 rfl (Nat.le_of_ble_eq_true rfl) dX10_job_17 hSH229 (AE_sub (fun _ _ => rfl) (by decide) hSH229.1) (fun vH240 H240 locsH240 pH240 zH240 kH240 hSH240 => ?_)
    obtain ⟨x241, hvH240, bx241, hTH240⟩ := pH240
    subst hvH240
    have mf242 : MF K s.heap H240 a0 [0] := MF.eff (x_lt hTH229 kH240 ga0 (by decide)) mf231
    have g243 : CG (avw K H240 a0) := CG.congr (fun k hk j => av_eff hTH229 kH240 ga0 (by decide) (CG_eff [] (by decide) k hk)) g232
    have g244 : TU (avw K H240 a0) (svw K H240 a0) := TU.congr (fun k hk j => av_eff hTH229 kH240 ga0 (by decide) (TU_eff [] (by decide) k hk)) (fun k hk => sv_eff hTH229 kH240 ga0 (by decide)) g233
    have g245 : WD (avw K H240 a0) := WD.congr (fun k hk j => av_eff hTH229 kH240 ga0 (by decide) (WD_eff [] (by decide) k hk)) g234
    have g246 : IM (avw K H240 a0) := IM.congr (fun k hk j => av_eff hTH229 kH240 ga0 (by decide) (IM_eff [] (by decide) k hk)) g235
    have m247 := (m236).trans (fI_kept (x_lt hTH229 kH240 ga0 (by decide))).symm
    have m248 := (fI_kept (x_lt hTH229 kH240 ga0 (by decide))).trans m237
    refine W.eq (g2 := F0 m 20 ls [.int x241]) rfl ?_
    refine lv_if_ne (tgt := 25) hx hb dX10_job_20 (by decide) (fun c249 => ?_) (fun c249 => ?_)
    · have k250 := i_ne c249
      exfalso
      omega
    · have k250 := i_eq c249
      refine lv_iconst (v := (-1)) hx hb dX10_job_23 (by decide) ?_
      exact x_iret C hQ dX10_job_24 hSH240 (by decide) (by decide) (⟨(-1), rfl, by decide, m247, g243, g244, g245, g246, mf242, hTH240⟩)

set_option maxHeartbeats 4000000 in
set_option maxRecDepth 100000 in
theorem a_X10_slice_v (l : Launch) (K : KE) (G : Nat → Option Nat) (H : Heap) {a0 : Nat} (x1 : Int32) (x2 : Int32) (x3 : Int32) (x4 : Int32) (x5 : Int32) {slq : Nat} {psq : Nat} {kq : Nat} {gnq : Nat} {hvq : Nat} (bs : Int32) (sz : Int32) (ps : Int32) (hT : TY K G H) (ga0 : G a0 = some 112) (hx1 : 0 ≤ x1.toInt ∧ x1.toInt ≤ 9) (gslq : G slq = some 113) (eslq : slq = fR H a0 (K.1.2 10 4)) (gpsq : G psq = some 119) (epsq : psq = fR H a0 (K.1.2 10 10)) (gkq : G kq = some 114) (ekq : kq = fR H a0 (K.1.2 10 5)) (ggnq : G gnq = some 115) (egnq : gnq = fR H a0 (K.1.2 10 6)) (ghvq : G hvq = some 116) (ehvq : hvq = fR H a0 (K.1.2 10 7)) (ebs : bs = fI H a0 (K.1.2 10 1)) (esz : sz = fI H slq (x1 : Int32).toNatClampNeg) (eps : ps = fI H psq (x1 : Int32).toNatClampNeg) (hg_CG : CG (avw K H a0)) (hg_TU : TU (avw K H a0) (svw K H a0)) (hg_WD : WD (avw K H a0)) (hg_IM : IM (avw K H a0)) (hp0 : x1.toInt < bs.toInt) : MX l K yX10_slice cX10_slice 6 (some .boolean) 2 43 0 0 [.ref a0, .int x1, .int x2, .int x3, .int x4, .int x5] H (AE G [112, 114, 115, 116] H.size) (fun v H1 => ∃ (r : Int32), v = some (.int r) ∧ (0 ≤ r.toInt ∧ r.toInt ≤ 1) ∧ slq = fR H1 a0 (K.1.2 10 4) ∧ psq = fR H1 a0 (K.1.2 10 10) ∧ kq = fR H1 a0 (K.1.2 10 5) ∧ gnq = fR H1 a0 (K.1.2 10 6) ∧ hvq = fR H1 a0 (K.1.2 10 7) ∧ (CG (avw K H1 a0)) ∧ (TU (avw K H1 a0) (svw K H1 a0)) ∧ (WD (avw K H1 a0)) ∧ (IM (avw K H1 a0)) ∧ MF K H H1 a0 [0] ∧ ((r.toInt = 1 ∧ slK (vwR K H a0 x1.toNatClampNeg) x2.toInt x3.toInt x4.toInt x5.toInt ∧ vwR K H1 a0 x1.toNatClampNeg = slV (vwR K H a0 x1.toNatClampNeg) x2.toInt x3.toInt x4.toInt x5.toInt) ∨ (r.toInt = 0 ∧ ¬ slK (vwR K H a0 x1.toNatClampNeg) x2.toInt x3.toInt x4.toInt x5.toInt ∧ vwR K H1 a0 x1.toNatClampNeg = vwR K H a0 x1.toNatClampNeg)) ∧ (∀ b2 : Nat, b2 ≠ x1.toNatClampNeg → EqV (vwR K H1 a0 b2) (vwR K H a0 b2)) ∧ TY K G H1) := by
  refine MX.of (by decide +kernel) (Nat.le_of_ble_eq_true rfl) ?_
  intro p e s m below meth c ls Q C hH hl hQ
  subst hH
  have C : CX p K s m _ meth c RX10 cX10_slice 6 (some .boolean) "slice" := C
  obtain ⟨hx, hb, hml, hown, hts, hKT, hr, hlocks, hnm⟩ := id C
  have hl : lv_has ls 6 [(0, .ref a0), (1, .int x1), (2, .int x2), (3, .int x3), (4, .int x4), (5, .int x5)] := hl
  have hS : va_S (AE G [112, 114, 115, 116] s.heap.size) s.heap s.heap [] := va_S.rf
  have n_0 : (0 : Int32).toInt = 0 := rfl
  have n_1 : (1 : Int32).toInt = 1 := rfl
  have n_9 : (9 : Int32).toInt = 9 := rfl
  have n_16 : (16 : Int32).toInt = 16 := rfl
  have n_99 : (99 : Int32).toInt = 99 := rfl
  have bbs := ty_fi (x := bs) (k := 1) ebs hT ga0 rg_112 rfl
  have bsz := ty_ai (x := sz) esz hT gslq rg_113 (by omega)
  have bps := ty_ai (x := ps) eps hT gpsq rg_119 (by omega)
  have hap : ∀ x y, x < 74 → y < 74 → x ≠ y → K.1.2 10 x ≠ K.1.2 10 y := x_apart hKT hts inX10 tyX10 tyX10_ok nmX10 rfl
  have mf0 : MF K s.heap s.heap a0 [0] := fun _ _ _ => rfl
  have vr_0 : vwR K s.heap a0 x1.toNatClampNeg = vwR K s.heap a0 x1.toNatClampNeg := rfl
  have vo_0 : ∀ b2 : Nat, b2 ≠ x1.toNatClampNeg → EqV (vwR K s.heap a0 b2) (vwR K s.heap a0 b2) := fun _ _ => EqV.rf
  have v00 : vwR K s.heap a0 x1.toNatClampNeg 0 0 = sz.toInt := by rw [vwR_f (by decide)]; show (fI s.heap (fR s.heap a0 (K.1.2 10 4)) x1.toNatClampNeg).toInt = _; rw [← eslq, ← esz]
  have v80 : vwR K s.heap a0 x1.toNatClampNeg 8 0 = ps.toInt := by rw [vwR_f (by decide)]; show (fI s.heap (fR s.heap a0 (K.1.2 10 10)) x1.toNatClampNeg).toInt = _; rw [← epsq, ← eps]
  refine lv_aload_n hx hb dX10_slice_0 rfl (lv_at hl 0 rfl) ?_
  refine lv_iconst (v := 0) hx hb dX10_slice_1 (by decide) ?_
  refine x_put C hT hS (ci := 10) (k := 0) (v := .int 0) (ty0 := tyX10) rfl inX10 tyX10_ok nmX10 (by decide) rfl wF_X10_167 ga0 rg_112 rfl rfl (okI (by have := i_rng (0 : Int32); omega) (by have := i_rng (0 : Int32); omega)) rfl rfl (AE_in ga0 (by decide)) dX10_slice_2 (fun H705 locsH705 hTH705 hSH705 wH705 => ?_)
  have mf706 : MF K s.heap H705 a0 [0] := MF.fld hap wH705 (by decide) (by decide) mf0
  have g707 : CG (avw K H705 a0) := CG.congr (fun k hk j => av_fld hT ga0 hap wH705 (by decide) (CG_ok 112 (by decide) k hk) (CG_ne 0 (by decide) k hk)) hg_CG
  have g708 : TU (avw K H705 a0) (svw K H705 a0) := TU.congr (fun k hk j => av_fld hT ga0 hap wH705 (by decide) (TU_ok 112 (by decide) k hk) (TU_ne 0 (by decide) k hk)) (fun k hk => sv_fld hap wH705 (by decide) (TU_slt k hk) (TU_sne 0 (by decide) k hk)) hg_TU
  have g709 : WD (avw K H705 a0) := WD.congr (fun k hk j => av_fld hT ga0 hap wH705 (by decide) (WD_ok 112 (by decide) k hk) (WD_ne 0 (by decide) k hk)) hg_WD
  have g710 : IM (avw K H705 a0) := IM.congr (fun k hk j => av_fld hT ga0 hap wH705 (by decide) (IM_ok 112 (by decide) k hk) (IM_ne 0 (by decide) k hk)) hg_IM
  have m711 := eslq.trans (Wr.neR wH705 (Or.inr (x_apart hKT hts inX10 tyX10 tyX10_ok nmX10 rfl 4 0 (by decide) (by decide) (by decide)))).symm
  have m712 := epsq.trans (Wr.neR wH705 (Or.inr (x_apart hKT hts inX10 tyX10 tyX10_ok nmX10 rfl 10 0 (by decide) (by decide) (by decide)))).symm
  have m713 := ekq.trans (Wr.neR wH705 (Or.inr (x_apart hKT hts inX10 tyX10 tyX10_ok nmX10 rfl 5 0 (by decide) (by decide) (by decide)))).symm
  have m714 := egnq.trans (Wr.neR wH705 (Or.inr (x_apart hKT hts inX10 tyX10 tyX10_ok nmX10 rfl 6 0 (by decide) (by decide) (by decide)))).symm
  have m715 := ehvq.trans (Wr.neR wH705 (Or.inr (x_apart hKT hts inX10 tyX10 tyX10_ok nmX10 rfl 7 0 (by decide) (by decide) (by decide)))).symm
  have m716 := ebs.trans (Wr.neI wH705 (Or.inr (x_apart hKT hts inX10 tyX10 tyX10_ok nmX10 rfl 1 0 (by decide) (by decide) (by decide)))).symm
  have m717 := esz.trans (Wr.neI wH705 (Or.inl (G_ne gslq ga0 (by decide)))).symm
  have m718 := eps.trans (Wr.neI wH705 (Or.inl (G_ne gpsq ga0 (by decide)))).symm
  have m719 := Wr.I wH705
  have vr720 : vwR K H705 a0 x1.toNatClampNeg = (vwR K s.heap a0 x1.toNatClampNeg) := (vr_told hap hT ga0 wH705).trans vr_0
  have vo721 : ∀ b2 : Nat, b2 ≠ x1.toNatClampNeg → EqV (vwR K H705 a0 b2) (vwR K s.heap a0 b2) := fun b2 hb => by rw [vr_told hap hT ga0 wH705]; exact vo_0 b2 hb
  refine lv_aload_n hx hb dX10_slice_5 rfl (lv_at hl 0 rfl) ?_
  refine lv_iload_n hx hb dX10_slice_6 rfl (lv_at hl 1 rfl) ?_
  refine lv_iload_n hx hb dX10_slice_7 rfl (lv_at hl 2 rfl) ?_
  refine x_V (As := [.int x1, .int x2]) (rest := []) C (a_X10_isSlice_v l K G H705 (x1) (x2) (bs) (sz) hTH705 ga0 (by omega) gslq m711 m716 m717 (by omega)) yo_X10_isSlice wM_X10_181 ⟨⟨by decide, by decide⟩, by decide, by decide⟩ (x_rv C hTH705 (ci := 10) rfl ga0 rg_112) rfl hl.1 rfl (Nat.le_of_ble_eq_true rfl) dX10_slice_8 hSH705 (AE_sub (fun _ _ => rfl) (by decide) hSH705.1) (fun vH722 H722 locsH722 pH722 zH722 kH722 hSH722 => ?_)
  obtain ⟨x723, hvH722, bx723, hrH722, hTH722⟩ := pH722
  subst hvH722
  have mf724 : MF K s.heap H722 a0 [0] := MF.eff (x_lt hTH705 kH722 ga0 (by decide)) mf706
  have g725 : CG (avw K H722 a0) := CG.congr (fun k hk j => av_eff hTH705 kH722 ga0 (by decide) (CG_eff [] (by decide) k hk)) g707
  have g726 : TU (avw K H722 a0) (svw K H722 a0) := TU.congr (fun k hk j => av_eff hTH705 kH722 ga0 (by decide) (TU_eff [] (by decide) k hk)) (fun k hk => sv_eff hTH705 kH722 ga0 (by decide)) g708
  have g727 : WD (avw K H722 a0) := WD.congr (fun k hk j => av_eff hTH705 kH722 ga0 (by decide) (WD_eff [] (by decide) k hk)) g709
  have g728 : IM (avw K H722 a0) := IM.congr (fun k hk j => av_eff hTH705 kH722 ga0 (by decide) (IM_eff [] (by decide) k hk)) g710
  have m729 := (m711).trans (fR_kept (x_lt hTH705 kH722 ga0 (by decide))).symm
  have m730 := (m712).trans (fR_kept (x_lt hTH705 kH722 ga0 (by decide))).symm
  have m731 := (m713).trans (fR_kept (x_lt hTH705 kH722 ga0 (by decide))).symm
  have m732 := (m714).trans (fR_kept (x_lt hTH705 kH722 ga0 (by decide))).symm
  have m733 := (m715).trans (fR_kept (x_lt hTH705 kH722 ga0 (by decide))).symm
  have m734 := (m716).trans (fI_kept (x_lt hTH705 kH722 ga0 (by decide))).symm
  have m735 := (m717).trans (fI_kept (x_lt hTH705 kH722 gslq (by decide))).symm
  have m736 := (m718).trans (fI_kept (x_lt hTH705 kH722 gpsq (by decide))).symm
  have m737 := (fI_kept (x_lt hTH705 kH722 ga0 (by decide))).trans m719
  have vr738 : vwR K H722 a0 x1.toNatClampNeg = (vwR K s.heap a0 x1.toNatClampNeg) := (vr_frr hTH705 ga0 (fun q t hq h1 h2 => x_lt hTH705 kH722 hq (by first | omega | (intro z; simp only [List.mem_cons, List.not_mem_nil, or_false] at z <;> omega)))).trans vr720
  have vo739 : ∀ b2 : Nat, b2 ≠ x1.toNatClampNeg → EqV (vwR K H722 a0 b2) (vwR K s.heap a0 b2) := fun b2 hb => by rw [vr_frr hTH705 ga0 (fun q t hq h1 h2 => x_lt hTH705 kH722 hq (by first | omega | (intro z; simp only [List.mem_cons, List.not_mem_nil, or_false] at z <;> omega)))]; exact vo721 b2 hb
  refine W.eq (g2 := F0 m 11 ls [.int x723]) rfl ?_
  refine lv_if_eq (tgt := 58) hx hb dX10_slice_11 (by decide) (fun c740 => ?_) (fun c740 => ?_)
  · have k741 := i_eq c740
    refine lv_iconst (v := 0) hx hb dX10_slice_58 (by decide) ?_
    exact x_zret C hQ (Or.inl rfl) dX10_slice_59 hSH722 (by decide) (by decide) (⟨0, rfl, by decide, m729, m730, m731, m732, m733, g725, g726, g727, g728, mf724, (Or.inr ⟨rfl, (fun z => by unfold slK at z; rw [v00, v80] at z; omega), vr738⟩), vo739, hTH722⟩)
  · have k741 := i_ne c740
    refine lv_aload_n hx hb dX10_slice_14 rfl (lv_at hl 0 rfl) ?_
    refine x_gr C hTH722 (ci := 10) (k := 10) rfl inX10 (by decide) wF_X10_32 ga0 rg_112 rfl dX10_slice_15 (fun q742 eq742 gq742 => ?_)
    have uq742 : psq = q742 := (m730).trans eq742.symm
    subst uq742
    refine lv_iload_n hx hb dX10_slice_18 rfl (lv_at hl 1 rfl) ?_
    refine x_ai C hTH722 gpsq rg_119 ⟨by omega, by show _ < ((10 : Nat) : Int); omega⟩ dX10_slice_19 (fun x743 ex743 bx743 => ?_)
    have ux743 : ps = x743 := (m736).trans ex743.symm
    subst ux743
    refine lv_if_gt (tgt := 58) hx hb dX10_slice_20 (by decide) (fun c744 => ?_) (fun c744 => ?_)
    · have k745 := i_lt c744
      refine lv_iconst (v := 0) hx hb dX10_slice_58 (by decide) ?_
      exact x_zret C hQ (Or.inl rfl) dX10_slice_59 hSH722 (by decide) (by decide) (⟨0, rfl, by decide, m729, m730, m731, m732, m733, g725, g726, g727, g728, mf724, (Or.inr ⟨rfl, (fun z => by unfold slK at z; rw [v00, v80] at z; omega), vr738⟩), vo739, hTH722⟩)
    · have k745 := i_nlt c744
      refine lv_aload_n hx hb dX10_slice_23 rfl (lv_at hl 0 rfl) ?_
      refine lv_iload_n hx hb dX10_slice_24 rfl (lv_at hl 3 rfl) ?_
      refine lv_iconst (v := 1) hx hb dX10_slice_25 (by decide) ?_
      refine lv_bipush (v := 99) hx hb dX10_slice_26 (by decide) ?_
      refine x_V (As := [.int x3, .int 1, .int 99]) (rest := []) C (a_X10_isIn_v l K G H722 (x3) (1) (99) hTH722 ga0) yo_X10_isIn wM_X10_177 ⟨⟨by decide, by decide⟩, by decide, by decide⟩ (x_rv C hTH722 (ci := 10) rfl ga0 rg_112) rfl hl.1 rfl (Nat.le_of_ble_eq_true rfl) dX10_slice_28 hSH722 (AE_sub (fun _ _ => rfl) (by decide) hSH722.1) (fun vH746 H746 locsH746 pH746 zH746 kH746 hSH746 => ?_)
      obtain ⟨x747, hvH746, bx747, hrH746, hTH746⟩ := pH746
      subst hvH746
      have mf748 : MF K s.heap H746 a0 [0] := MF.eff (x_lt hTH722 kH746 ga0 (by decide)) mf724
      have g749 : CG (avw K H746 a0) := CG.congr (fun k hk j => av_eff hTH722 kH746 ga0 (by decide) (CG_eff [] (by decide) k hk)) g725
      have g750 : TU (avw K H746 a0) (svw K H746 a0) := TU.congr (fun k hk j => av_eff hTH722 kH746 ga0 (by decide) (TU_eff [] (by decide) k hk)) (fun k hk => sv_eff hTH722 kH746 ga0 (by decide)) g726
      have g751 : WD (avw K H746 a0) := WD.congr (fun k hk j => av_eff hTH722 kH746 ga0 (by decide) (WD_eff [] (by decide) k hk)) g727
      have g752 : IM (avw K H746 a0) := IM.congr (fun k hk j => av_eff hTH722 kH746 ga0 (by decide) (IM_eff [] (by decide) k hk)) g728
      have m753 := (m729).trans (fR_kept (x_lt hTH722 kH746 ga0 (by decide))).symm
      have m754 := (m730).trans (fR_kept (x_lt hTH722 kH746 ga0 (by decide))).symm
      have m755 := (m731).trans (fR_kept (x_lt hTH722 kH746 ga0 (by decide))).symm
      have m756 := (m732).trans (fR_kept (x_lt hTH722 kH746 ga0 (by decide))).symm
      have m757 := (m733).trans (fR_kept (x_lt hTH722 kH746 ga0 (by decide))).symm
      have m758 := (m734).trans (fI_kept (x_lt hTH722 kH746 ga0 (by decide))).symm
      have m759 := (m735).trans (fI_kept (x_lt hTH722 kH746 gslq (by decide))).symm
      have m760 := (m736).trans (fI_kept (x_lt hTH722 kH746 gpsq (by decide))).symm
      have m761 := (fI_kept (x_lt hTH722 kH746 ga0 (by decide))).trans m737
      have vr762 : vwR K H746 a0 x1.toNatClampNeg = (vwR K s.heap a0 x1.toNatClampNeg) := (vr_frr hTH722 ga0 (fun q t hq h1 h2 => x_lt hTH722 kH746 hq (by first | omega | (intro z; simp only [List.mem_cons, List.not_mem_nil, or_false] at z <;> omega)))).trans vr738
      have vo763 : ∀ b2 : Nat, b2 ≠ x1.toNatClampNeg → EqV (vwR K H746 a0 b2) (vwR K s.heap a0 b2) := fun b2 hb => by rw [vr_frr hTH722 ga0 (fun q t hq h1 h2 => x_lt hTH722 kH746 hq (by first | omega | (intro z; simp only [List.mem_cons, List.not_mem_nil, or_false] at z <;> omega)))]; exact vo739 b2 hb
      refine W.eq (g2 := F0 m 31 ls [.int x747]) rfl ?_
      refine lv_if_eq (tgt := 58) hx hb dX10_slice_31 (by decide) (fun c764 => ?_) (fun c764 => ?_)
      · have k765 := i_eq c764
        refine lv_iconst (v := 0) hx hb dX10_slice_58 (by decide) ?_
        exact x_zret C hQ (Or.inl rfl) dX10_slice_59 hSH746 (by decide) (by decide) (⟨0, rfl, by decide, m753, m754, m755, m756, m757, g749, g750, g751, g752, mf748, (Or.inr ⟨rfl, (fun z => by unfold slK at z; rw [v00, v80] at z; omega), vr762⟩), vo763, hTH746⟩)
      · have k765 := i_ne c764
        refine lv_aload_n hx hb dX10_slice_34 rfl (lv_at hl 0 rfl) ?_
        refine lv_iload hx hb dX10_slice_35 (lv_at hl 4 rfl) ?_
        refine lv_iconst (v := 1) hx hb dX10_slice_37 (by decide) ?_
        refine lv_bipush (v := 9) hx hb dX10_slice_38 (by decide) ?_
        refine x_V (As := [.int x4, .int 1, .int 9]) (rest := []) C (a_X10_isIn_v l K G H746 (x4) (1) (9) hTH746 ga0) yo_X10_isIn wM_X10_177 ⟨⟨by decide, by decide⟩, by decide, by decide⟩ (x_rv C hTH746 (ci := 10) rfl ga0 rg_112) rfl hl.1 rfl (Nat.le_of_ble_eq_true rfl) dX10_slice_40 hSH746 (AE_sub (fun _ _ => rfl) (by decide) hSH746.1) (fun vH766 H766 locsH766 pH766 zH766 kH766 hSH766 => ?_)
        obtain ⟨x767, hvH766, bx767, hrH766, hTH766⟩ := pH766
        subst hvH766
        have mf768 : MF K s.heap H766 a0 [0] := MF.eff (x_lt hTH746 kH766 ga0 (by decide)) mf748
        have g769 : CG (avw K H766 a0) := CG.congr (fun k hk j => av_eff hTH746 kH766 ga0 (by decide) (CG_eff [] (by decide) k hk)) g749
        have g770 : TU (avw K H766 a0) (svw K H766 a0) := TU.congr (fun k hk j => av_eff hTH746 kH766 ga0 (by decide) (TU_eff [] (by decide) k hk)) (fun k hk => sv_eff hTH746 kH766 ga0 (by decide)) g750
        have g771 : WD (avw K H766 a0) := WD.congr (fun k hk j => av_eff hTH746 kH766 ga0 (by decide) (WD_eff [] (by decide) k hk)) g751
        have g772 : IM (avw K H766 a0) := IM.congr (fun k hk j => av_eff hTH746 kH766 ga0 (by decide) (IM_eff [] (by decide) k hk)) g752
        have m773 := (m753).trans (fR_kept (x_lt hTH746 kH766 ga0 (by decide))).symm
        have m774 := (m754).trans (fR_kept (x_lt hTH746 kH766 ga0 (by decide))).symm
        have m775 := (m755).trans (fR_kept (x_lt hTH746 kH766 ga0 (by decide))).symm
        have m776 := (m756).trans (fR_kept (x_lt hTH746 kH766 ga0 (by decide))).symm
        have m777 := (m757).trans (fR_kept (x_lt hTH746 kH766 ga0 (by decide))).symm
        have m778 := (m758).trans (fI_kept (x_lt hTH746 kH766 ga0 (by decide))).symm
        have m779 := (m759).trans (fI_kept (x_lt hTH746 kH766 gslq (by decide))).symm
        have m780 := (m760).trans (fI_kept (x_lt hTH746 kH766 gpsq (by decide))).symm
        have m781 := (fI_kept (x_lt hTH746 kH766 ga0 (by decide))).trans m761
        have vr782 : vwR K H766 a0 x1.toNatClampNeg = (vwR K s.heap a0 x1.toNatClampNeg) := (vr_frr hTH746 ga0 (fun q t hq h1 h2 => x_lt hTH746 kH766 hq (by first | omega | (intro z; simp only [List.mem_cons, List.not_mem_nil, or_false] at z <;> omega)))).trans vr762
        have vo783 : ∀ b2 : Nat, b2 ≠ x1.toNatClampNeg → EqV (vwR K H766 a0 b2) (vwR K s.heap a0 b2) := fun b2 hb => by rw [vr_frr hTH746 ga0 (fun q t hq h1 h2 => x_lt hTH746 kH766 hq (by first | omega | (intro z; simp only [List.mem_cons, List.not_mem_nil, or_false] at z <;> omega)))]; exact vo763 b2 hb
        refine W.eq (g2 := F0 m 43 ls [.int x767]) rfl ?_
        refine lv_if_eq (tgt := 58) hx hb dX10_slice_43 (by decide) (fun c784 => ?_) (fun c784 => ?_)
        · have k785 := i_eq c784
          refine lv_iconst (v := 0) hx hb dX10_slice_58 (by decide) ?_
          exact x_zret C hQ (Or.inl rfl) dX10_slice_59 hSH766 (by decide) (by decide) (⟨0, rfl, by decide, m773, m774, m775, m776, m777, g769, g770, g771, g772, mf768, (Or.inr ⟨rfl, (fun z => by unfold slK at z; rw [v00, v80] at z; omega), vr782⟩), vo783, hTH766⟩)
        · have k785 := i_ne c784
          refine lv_aload_n hx hb dX10_slice_46 rfl (lv_at hl 0 rfl) ?_
          refine lv_iload hx hb dX10_slice_47 (lv_at hl 5 rfl) ?_
          refine lv_iconst (v := 1) hx hb dX10_slice_49 (by decide) ?_
          refine lv_bipush (v := 9) hx hb dX10_slice_50 (by decide) ?_
          refine x_V (As := [.int x5, .int 1, .int 9]) (rest := []) C (a_X10_isIn_v l K G H766 (x5) (1) (9) hTH766 ga0) yo_X10_isIn wM_X10_177 ⟨⟨by decide, by decide⟩, by decide, by decide⟩ (x_rv C hTH766 (ci := 10) rfl ga0 rg_112) rfl hl.1 rfl (Nat.le_of_ble_eq_true rfl) dX10_slice_52 hSH766 (AE_sub (fun _ _ => rfl) (by decide) hSH766.1) (fun vH786 H786 locsH786 pH786 zH786 kH786 hSH786 => ?_)
          obtain ⟨x787, hvH786, bx787, hrH786, hTH786⟩ := pH786
          subst hvH786
          have mf788 : MF K s.heap H786 a0 [0] := MF.eff (x_lt hTH766 kH786 ga0 (by decide)) mf768
          have g789 : CG (avw K H786 a0) := CG.congr (fun k hk j => av_eff hTH766 kH786 ga0 (by decide) (CG_eff [] (by decide) k hk)) g769
          have g790 : TU (avw K H786 a0) (svw K H786 a0) := TU.congr (fun k hk j => av_eff hTH766 kH786 ga0 (by decide) (TU_eff [] (by decide) k hk)) (fun k hk => sv_eff hTH766 kH786 ga0 (by decide)) g770
          have g791 : WD (avw K H786 a0) := WD.congr (fun k hk j => av_eff hTH766 kH786 ga0 (by decide) (WD_eff [] (by decide) k hk)) g771
          have g792 : IM (avw K H786 a0) := IM.congr (fun k hk j => av_eff hTH766 kH786 ga0 (by decide) (IM_eff [] (by decide) k hk)) g772
          have m793 := (m773).trans (fR_kept (x_lt hTH766 kH786 ga0 (by decide))).symm
          have m794 := (m774).trans (fR_kept (x_lt hTH766 kH786 ga0 (by decide))).symm
          have m795 := (m775).trans (fR_kept (x_lt hTH766 kH786 ga0 (by decide))).symm
          have m796 := (m776).trans (fR_kept (x_lt hTH766 kH786 ga0 (by decide))).symm
          have m797 := (m777).trans (fR_kept (x_lt hTH766 kH786 ga0 (by decide))).symm
          have m798 := (m778).trans (fI_kept (x_lt hTH766 kH786 ga0 (by decide))).symm
          have m799 := (m779).trans (fI_kept (x_lt hTH766 kH786 gslq (by decide))).symm
          have m800 := (m780).trans (fI_kept (x_lt hTH766 kH786 gpsq (by decide))).symm
          have m801 := (fI_kept (x_lt hTH766 kH786 ga0 (by decide))).trans m781
          have vr802 : vwR K H786 a0 x1.toNatClampNeg = (vwR K s.heap a0 x1.toNatClampNeg) := (vr_frr hTH766 ga0 (fun q t hq h1 h2 => x_lt hTH766 kH786 hq (by first | omega | (intro z; simp only [List.mem_cons, List.not_mem_nil, or_false] at z <;> omega)))).trans vr782
          have vo803 : ∀ b2 : Nat, b2 ≠ x1.toNatClampNeg → EqV (vwR K H786 a0 b2) (vwR K s.heap a0 b2) := fun b2 hb => by rw [vr_frr hTH766 ga0 (fun q t hq h1 h2 => x_lt hTH766 kH786 hq (by first | omega | (intro z; simp only [List.mem_cons, List.not_mem_nil, or_false] at z <;> omega)))]; exact vo783 b2 hb
          refine W.eq (g2 := F0 m 55 ls [.int x787]) rfl ?_
          refine lv_if_ne (tgt := 60) hx hb dX10_slice_55 (by decide) (fun c804 => ?_) (fun c804 => ?_)
          · have k805 := i_ne c804
            refine lv_aload_n hx hb dX10_slice_60 rfl (lv_at hl 0 rfl) ?_
            refine x_gr C hTH786 (ci := 10) (k := 5) rfl inX10 (by decide) wF_X10_17 ga0 rg_112 rfl dX10_slice_61 (fun q806 eq806 gq806 => ?_)
            have uq806 : kq = q806 := (m795).trans eq806.symm
            subst uq806
            refine lv_bipush (v := 16) hx hb dX10_slice_64 (by decide) ?_
            refine lv_iload_n hx hb dX10_slice_66 rfl (lv_at hl 1 rfl) ?_
            refine lv_imul hx hb dX10_slice_67 ?_
            refine lv_topi (fun x807 ex807 => ?_)
            have tx807 := i_mul ex807 (by rw [n_16]; omega)
            rw [n_16] at tx807
            refine lv_iload_n hx hb dX10_slice_68 rfl (lv_at hl 2 rfl) ?_
            refine lv_iadd hx hb dX10_slice_69 ?_
            refine lv_topi (fun x808 ex808 => ?_)
            have tx808 := i_add ex808 (by omega)
            refine lv_iload_n hx hb dX10_slice_70 rfl (lv_at hl 3 rfl) ?_
            refine x_iast C hTH786 hSH786 gkq rg_114 (by omega) (by show _ < ((160 : Nat) : Int); omega) ⟨by have := i_rng x3; omega, by have := i_rng x3; omega⟩ (AE_in gkq (by decide)) dX10_slice_71 (fun H809 locsH809 hTH809 hSH809 wH809 => ?_)
            have mf810 : MF K s.heap H809 a0 [0] := MF.arr wH809 (G_ne ga0 gkq (by decide)) mf788
            have g811 : CG (avw K H809 a0) := CG.congr (fun k hk j => av_arr hTH786 ga0 wH809 gkq (by decide) (CG_ok 114 (by decide) k hk)) g789
            have g812 : TU (avw K H809 a0) (svw K H809 a0) := TU.congr (fun k hk j => av_arr hTH786 ga0 wH809 gkq (by decide) (TU_ok 114 (by decide) k hk)) (fun k hk => sv_arr ga0 wH809 gkq (by decide)) g790
            have g813 : WD (avw K H809 a0) := WD.congr (fun k hk j => av_arr hTH786 ga0 wH809 gkq (by decide) (WD_ok 114 (by decide) k hk)) g791
            have g814 : IM (avw K H809 a0) := IM.congr (fun k hk j => av_arr hTH786 ga0 wH809 gkq (by decide) (IM_ok 114 (by decide) k hk)) g792
            have m815 := m793.trans (Wr.neR wH809 (Or.inl (G_ne ga0 gkq (by decide)))).symm
            have m816 := m794.trans (Wr.neR wH809 (Or.inl (G_ne ga0 gkq (by decide)))).symm
            have m817 := m795.trans (Wr.neR wH809 (Or.inl (G_ne ga0 gkq (by decide)))).symm
            have m818 := m796.trans (Wr.neR wH809 (Or.inl (G_ne ga0 gkq (by decide)))).symm
            have m819 := m797.trans (Wr.neR wH809 (Or.inl (G_ne ga0 gkq (by decide)))).symm
            have m820 := m798.trans (Wr.neI wH809 (Or.inl (G_ne ga0 gkq (by decide)))).symm
            have m821 := m799.trans (Wr.neI wH809 (Or.inl (G_ne gslq gkq (by decide)))).symm
            have m822 := m800.trans (Wr.neI wH809 (Or.inl (G_ne gpsq gkq (by decide)))).symm
            have m823 := (Wr.neI wH809 (Or.inl (G_ne ga0 gkq (by decide)))).trans m801
            have m824 := Wr.I wH809
            have m824 := m824.symm
            have cn_x1 := i_cl (x := x1) (by omega)
            have cn_x2 := i_cl (x := x2) (by omega)
            have cn_x808 := i_cl (x := x808) (by omega)
            have vr825 : vwR K H809 a0 x1.toNatClampNeg = (upV (vwR K s.heap a0 x1.toNatClampNeg) 1 x2.toNatClampNeg x3.toInt) := by rw [vr_arr (k := 1) (i := x2.toNatClampNeg) hTH786 ga0 wH809 m795 (by decide) (show x808.toNatClampNeg = 16 * x1.toNatClampNeg + x2.toNatClampNeg by omega) (fun z => absurd z (by decide)) rfl, vr802]
            have vo826 : ∀ b2 : Nat, b2 ≠ x1.toNatClampNeg → EqV (vwR K H809 a0 b2) (vwR K s.heap a0 b2) := fun b2 hb => (vr_oth (k := 1) (i := x2.toNatClampNeg) hTH786 ga0 wH809 m795 (by decide) (show x808.toNatClampNeg = 16 * x1.toNatClampNeg + x2.toNatClampNeg by omega) (show x2.toNatClampNeg < 16 by omega) hb).tr (vo803 b2 hb)
            refine lv_aload_n hx hb dX10_slice_72 rfl (lv_at hl 0 rfl) ?_
            refine x_gr C hTH809 (ci := 10) (k := 6) rfl inX10 (by decide) wF_X10_20 ga0 rg_112 rfl dX10_slice_73 (fun q827 eq827 gq827 => ?_)
            have uq827 : gnq = q827 := (m818).trans eq827.symm
            subst uq827
            refine lv_bipush (v := 16) hx hb dX10_slice_76 (by decide) ?_
            refine lv_iload_n hx hb dX10_slice_78 rfl (lv_at hl 1 rfl) ?_
            refine lv_imul hx hb dX10_slice_79 ?_
            refine lv_topi (fun x828 ex828 => ?_)
            have tx828 := i_mul ex828 (by rw [n_16]; omega)
            rw [n_16] at tx828
            refine lv_iload_n hx hb dX10_slice_80 rfl (lv_at hl 2 rfl) ?_
            refine lv_iadd hx hb dX10_slice_81 ?_
            refine lv_topi (fun x829 ex829 => ?_)
            have tx829 := i_add ex829 (by omega)
            refine lv_iload hx hb dX10_slice_82 (lv_at hl 4 rfl) ?_
            refine x_iast C hTH809 hSH809 ggnq rg_115 (by omega) (by show _ < ((160 : Nat) : Int); omega) ⟨by have := i_rng x4; omega, by have := i_rng x4; omega⟩ (AE_in ggnq (by decide)) dX10_slice_84 (fun H830 locsH830 hTH830 hSH830 wH830 => ?_)
            have mf831 : MF K s.heap H830 a0 [0] := MF.arr wH830 (G_ne ga0 ggnq (by decide)) mf810
            have g832 : CG (avw K H830 a0) := CG.congr (fun k hk j => av_arr hTH809 ga0 wH830 ggnq (by decide) (CG_ok 115 (by decide) k hk)) g811
            have g833 : TU (avw K H830 a0) (svw K H830 a0) := TU.congr (fun k hk j => av_arr hTH809 ga0 wH830 ggnq (by decide) (TU_ok 115 (by decide) k hk)) (fun k hk => sv_arr ga0 wH830 ggnq (by decide)) g812
            have g834 : WD (avw K H830 a0) := WD.congr (fun k hk j => av_arr hTH809 ga0 wH830 ggnq (by decide) (WD_ok 115 (by decide) k hk)) g813
            have g835 : IM (avw K H830 a0) := IM.congr (fun k hk j => av_arr hTH809 ga0 wH830 ggnq (by decide) (IM_ok 115 (by decide) k hk)) g814
            have m836 := m815.trans (Wr.neR wH830 (Or.inl (G_ne ga0 ggnq (by decide)))).symm
            have m837 := m816.trans (Wr.neR wH830 (Or.inl (G_ne ga0 ggnq (by decide)))).symm
            have m838 := m817.trans (Wr.neR wH830 (Or.inl (G_ne ga0 ggnq (by decide)))).symm
            have m839 := m818.trans (Wr.neR wH830 (Or.inl (G_ne ga0 ggnq (by decide)))).symm
            have m840 := m819.trans (Wr.neR wH830 (Or.inl (G_ne ga0 ggnq (by decide)))).symm
            have m841 := m820.trans (Wr.neI wH830 (Or.inl (G_ne ga0 ggnq (by decide)))).symm
            have m842 := m821.trans (Wr.neI wH830 (Or.inl (G_ne gslq ggnq (by decide)))).symm
            have m843 := m822.trans (Wr.neI wH830 (Or.inl (G_ne gpsq ggnq (by decide)))).symm
            have m844 := (Wr.neI wH830 (Or.inl (G_ne ga0 ggnq (by decide)))).trans m823
            have m845 := m824.trans (Wr.neI wH830 (Or.inl (G_ne gkq ggnq (by decide)))).symm
            have m846 := Wr.I wH830
            have m846 := m846.symm
            have cn_x1 := i_cl (x := x1) (by omega)
            have cn_x2 := i_cl (x := x2) (by omega)
            have cn_x829 := i_cl (x := x829) (by omega)
            have vr847 : vwR K H830 a0 x1.toNatClampNeg = (upV (upV (vwR K s.heap a0 x1.toNatClampNeg) 1 x2.toNatClampNeg x3.toInt) 2 x2.toNatClampNeg x4.toInt) := by rw [vr_arr (k := 2) (i := x2.toNatClampNeg) hTH809 ga0 wH830 m818 (by decide) (show x829.toNatClampNeg = 16 * x1.toNatClampNeg + x2.toNatClampNeg by omega) (fun z => absurd z (by decide)) rfl, vr825]
            have vo848 : ∀ b2 : Nat, b2 ≠ x1.toNatClampNeg → EqV (vwR K H830 a0 b2) (vwR K s.heap a0 b2) := fun b2 hb => (vr_oth (k := 2) (i := x2.toNatClampNeg) hTH809 ga0 wH830 m818 (by decide) (show x829.toNatClampNeg = 16 * x1.toNatClampNeg + x2.toNatClampNeg by omega) (show x2.toNatClampNeg < 16 by omega) hb).tr (vo826 b2 hb)
            refine lv_aload_n hx hb dX10_slice_85 rfl (lv_at hl 0 rfl) ?_
            refine x_gr C hTH830 (ci := 10) (k := 7) rfl inX10 (by decide) wF_X10_23 ga0 rg_112 rfl dX10_slice_86 (fun q849 eq849 gq849 => ?_)
            have uq849 : hvq = q849 := (m840).trans eq849.symm
            subst uq849
            refine lv_bipush (v := 16) hx hb dX10_slice_89 (by decide) ?_
            refine lv_iload_n hx hb dX10_slice_91 rfl (lv_at hl 1 rfl) ?_
            refine lv_imul hx hb dX10_slice_92 ?_
            refine lv_topi (fun x850 ex850 => ?_)
            have tx850 := i_mul ex850 (by rw [n_16]; omega)
            rw [n_16] at tx850
            refine lv_iload_n hx hb dX10_slice_93 rfl (lv_at hl 2 rfl) ?_
            refine lv_iadd hx hb dX10_slice_94 ?_
            refine lv_topi (fun x851 ex851 => ?_)
            have tx851 := i_add ex851 (by omega)
            refine lv_iload hx hb dX10_slice_95 (lv_at hl 5 rfl) ?_
            refine x_iast C hTH830 hSH830 ghvq rg_116 (by omega) (by show _ < ((160 : Nat) : Int); omega) ⟨by have := i_rng x5; omega, by have := i_rng x5; omega⟩ (AE_in ghvq (by decide)) dX10_slice_97 (fun H852 locsH852 hTH852 hSH852 wH852 => ?_)
            have mf853 : MF K s.heap H852 a0 [0] := MF.arr wH852 (G_ne ga0 ghvq (by decide)) mf831
            have g854 : CG (avw K H852 a0) := CG.congr (fun k hk j => av_arr hTH830 ga0 wH852 ghvq (by decide) (CG_ok 116 (by decide) k hk)) g832
            have g855 : TU (avw K H852 a0) (svw K H852 a0) := TU.congr (fun k hk j => av_arr hTH830 ga0 wH852 ghvq (by decide) (TU_ok 116 (by decide) k hk)) (fun k hk => sv_arr ga0 wH852 ghvq (by decide)) g833
            have g856 : WD (avw K H852 a0) := WD.congr (fun k hk j => av_arr hTH830 ga0 wH852 ghvq (by decide) (WD_ok 116 (by decide) k hk)) g834
            have g857 : IM (avw K H852 a0) := IM.congr (fun k hk j => av_arr hTH830 ga0 wH852 ghvq (by decide) (IM_ok 116 (by decide) k hk)) g835
            have m858 := m836.trans (Wr.neR wH852 (Or.inl (G_ne ga0 ghvq (by decide)))).symm
            have m859 := m837.trans (Wr.neR wH852 (Or.inl (G_ne ga0 ghvq (by decide)))).symm
            have m860 := m838.trans (Wr.neR wH852 (Or.inl (G_ne ga0 ghvq (by decide)))).symm
            have m861 := m839.trans (Wr.neR wH852 (Or.inl (G_ne ga0 ghvq (by decide)))).symm
            have m862 := m840.trans (Wr.neR wH852 (Or.inl (G_ne ga0 ghvq (by decide)))).symm
            have m863 := m841.trans (Wr.neI wH852 (Or.inl (G_ne ga0 ghvq (by decide)))).symm
            have m864 := m842.trans (Wr.neI wH852 (Or.inl (G_ne gslq ghvq (by decide)))).symm
            have m865 := m843.trans (Wr.neI wH852 (Or.inl (G_ne gpsq ghvq (by decide)))).symm
            have m866 := (Wr.neI wH852 (Or.inl (G_ne ga0 ghvq (by decide)))).trans m844
            have m867 := m845.trans (Wr.neI wH852 (Or.inl (G_ne gkq ghvq (by decide)))).symm
            have m868 := m846.trans (Wr.neI wH852 (Or.inl (G_ne ggnq ghvq (by decide)))).symm
            have m869 := Wr.I wH852
            have m869 := m869.symm
            have cn_x1 := i_cl (x := x1) (by omega)
            have cn_x2 := i_cl (x := x2) (by omega)
            have cn_x851 := i_cl (x := x851) (by omega)
            have vr870 : vwR K H852 a0 x1.toNatClampNeg = (upV (upV (upV (vwR K s.heap a0 x1.toNatClampNeg) 1 x2.toNatClampNeg x3.toInt) 2 x2.toNatClampNeg x4.toInt) 3 x2.toNatClampNeg x5.toInt) := by rw [vr_arr (k := 3) (i := x2.toNatClampNeg) hTH830 ga0 wH852 m840 (by decide) (show x851.toNatClampNeg = 16 * x1.toNatClampNeg + x2.toNatClampNeg by omega) (fun z => absurd z (by decide)) rfl, vr847]
            have vo871 : ∀ b2 : Nat, b2 ≠ x1.toNatClampNeg → EqV (vwR K H852 a0 b2) (vwR K s.heap a0 b2) := fun b2 hb => (vr_oth (k := 3) (i := x2.toNatClampNeg) hTH830 ga0 wH852 m840 (by decide) (show x851.toNatClampNeg = 16 * x1.toNatClampNeg + x2.toNatClampNeg by omega) (show x2.toNatClampNeg < 16 by omega) hb).tr (vo848 b2 hb)
            refine lv_iconst (v := 1) hx hb dX10_slice_98 (by decide) ?_
            exact x_zret C hQ (Or.inr rfl) dX10_slice_99 hSH852 (by decide) (by decide) (⟨1, rfl, by decide, m858, m859, m860, m861, m862, g854, g855, g856, g857, mf853, (Or.inl ⟨rfl, (by unfold slK; rw [v00, v80]; omega), vr870⟩), vo871, hTH852⟩)
          · have k805 := i_eq c804
            refine lv_iconst (v := 0) hx hb dX10_slice_58 (by decide) ?_
            exact x_zret C hQ (Or.inl rfl) dX10_slice_59 hSH786 (by decide) (by decide) (⟨0, rfl, by decide, m793, m794, m795, m796, m797, g789, g790, g791, g792, mf788, (Or.inr ⟨rfl, (fun z => by unfold slK at z; rw [v00, v80] at z; omega), vr802⟩), vo803, hTH786⟩)

set_option maxHeartbeats 4000000 in
set_option maxRecDepth 100000 in
theorem a_X10_wax_v (l : Launch) (K : KE) (G : Nat → Option Nat) (H : Heap) {a0 : Nat} (x1 : Int32) (x2 : Int32) (x3 : Int32) {slq : Nat} {wxq : Nat} (bs : Int32) (sz : Int32) (hT : TY K G H) (ga0 : G a0 = some 112) (hx1 : 0 ≤ x1.toInt ∧ x1.toInt ≤ 9) (gslq : G slq = some 113) (eslq : slq = fR H a0 (K.1.2 10 4)) (gwxq : G wxq = some 117) (ewxq : wxq = fR H a0 (K.1.2 10 8)) (ebs : bs = fI H a0 (K.1.2 10 1)) (esz : sz = fI H slq (x1 : Int32).toNatClampNeg) (hg_CG : CG (avw K H a0)) (hg_TU : TU (avw K H a0) (svw K H a0)) (hg_WD : WD (avw K H a0)) (hg_IM : IM (avw K H a0)) (hp0 : x1.toInt < bs.toInt) : MX l K yX10_wax cX10_wax 4 (some .boolean) 2 43 0 0 [.ref a0, .int x1, .int x2, .int x3] H (AE G [112, 117] H.size) (fun v H1 => ∃ (r : Int32), v = some (.int r) ∧ (0 ≤ r.toInt ∧ r.toInt ≤ 1) ∧ slq = fR H1 a0 (K.1.2 10 4) ∧ wxq = fR H1 a0 (K.1.2 10 8) ∧ (CG (avw K H1 a0)) ∧ (TU (avw K H1 a0) (svw K H1 a0)) ∧ (WD (avw K H1 a0)) ∧ (IM (avw K H1 a0)) ∧ MF K H H1 a0 [0] ∧ ((r.toInt = 1 ∧ wxK (vwR K H a0 x1.toNatClampNeg) x2.toInt x3.toInt ∧ vwR K H1 a0 x1.toNatClampNeg = wxV (vwR K H a0 x1.toNatClampNeg) x2.toInt x3.toInt) ∨ (r.toInt = 0 ∧ ¬ wxK (vwR K H a0 x1.toNatClampNeg) x2.toInt x3.toInt ∧ vwR K H1 a0 x1.toNatClampNeg = vwR K H a0 x1.toNatClampNeg)) ∧ (∀ b2 : Nat, b2 ≠ x1.toNatClampNeg → EqV (vwR K H1 a0 b2) (vwR K H a0 b2)) ∧ TY K G H1) := by
  refine MX.of (by decide +kernel) (Nat.le_of_ble_eq_true rfl) ?_
  intro p e s m below meth c ls Q C hH hl hQ
  subst hH
  have C : CX p K s m _ meth c RX10 cX10_wax 4 (some .boolean) "wax" := C
  obtain ⟨hx, hb, hml, hown, hts, hKT, hr, hlocks, hnm⟩ := id C
  have hl : lv_has ls 4 [(0, .ref a0), (1, .int x1), (2, .int x2), (3, .int x3)] := hl
  have hS : va_S (AE G [112, 117] s.heap.size) s.heap s.heap [] := va_S.rf
  have n_0 : (0 : Int32).toInt = 0 := rfl
  have n_1 : (1 : Int32).toInt = 1 := rfl
  have n_16 : (16 : Int32).toInt = 16 := rfl
  have n_99 : (99 : Int32).toInt = 99 := rfl
  have bbs := ty_fi (x := bs) (k := 1) ebs hT ga0 rg_112 rfl
  have bsz := ty_ai (x := sz) esz hT gslq rg_113 (by omega)
  have hap : ∀ x y, x < 74 → y < 74 → x ≠ y → K.1.2 10 x ≠ K.1.2 10 y := x_apart hKT hts inX10 tyX10 tyX10_ok nmX10 rfl
  have mf0 : MF K s.heap s.heap a0 [0] := fun _ _ _ => rfl
  have vr_0 : vwR K s.heap a0 x1.toNatClampNeg = vwR K s.heap a0 x1.toNatClampNeg := rfl
  have vo_0 : ∀ b2 : Nat, b2 ≠ x1.toNatClampNeg → EqV (vwR K s.heap a0 b2) (vwR K s.heap a0 b2) := fun _ _ => EqV.rf
  have v00 : vwR K s.heap a0 x1.toNatClampNeg 0 0 = sz.toInt := by rw [vwR_f (by decide)]; show (fI s.heap (fR s.heap a0 (K.1.2 10 4)) x1.toNatClampNeg).toInt = _; rw [← eslq, ← esz]
  refine lv_aload_n hx hb dX10_wax_0 rfl (lv_at hl 0 rfl) ?_
  refine lv_iconst (v := 0) hx hb dX10_wax_1 (by decide) ?_
  refine x_put C hT hS (ci := 10) (k := 0) (v := .int 0) (ty0 := tyX10) rfl inX10 tyX10_ok nmX10 (by decide) rfl wF_X10_167 ga0 rg_112 rfl rfl (okI (by have := i_rng (0 : Int32); omega) (by have := i_rng (0 : Int32); omega)) rfl rfl (AE_in ga0 (by decide)) dX10_wax_2 (fun H317 locsH317 hTH317 hSH317 wH317 => ?_)
  have mf318 : MF K s.heap H317 a0 [0] := MF.fld hap wH317 (by decide) (by decide) mf0
  have g319 : CG (avw K H317 a0) := CG.congr (fun k hk j => av_fld hT ga0 hap wH317 (by decide) (CG_ok 112 (by decide) k hk) (CG_ne 0 (by decide) k hk)) hg_CG
  have g320 : TU (avw K H317 a0) (svw K H317 a0) := TU.congr (fun k hk j => av_fld hT ga0 hap wH317 (by decide) (TU_ok 112 (by decide) k hk) (TU_ne 0 (by decide) k hk)) (fun k hk => sv_fld hap wH317 (by decide) (TU_slt k hk) (TU_sne 0 (by decide) k hk)) hg_TU
  have g321 : WD (avw K H317 a0) := WD.congr (fun k hk j => av_fld hT ga0 hap wH317 (by decide) (WD_ok 112 (by decide) k hk) (WD_ne 0 (by decide) k hk)) hg_WD
  have g322 : IM (avw K H317 a0) := IM.congr (fun k hk j => av_fld hT ga0 hap wH317 (by decide) (IM_ok 112 (by decide) k hk) (IM_ne 0 (by decide) k hk)) hg_IM
  have m323 := eslq.trans (Wr.neR wH317 (Or.inr (x_apart hKT hts inX10 tyX10 tyX10_ok nmX10 rfl 4 0 (by decide) (by decide) (by decide)))).symm
  have m324 := ewxq.trans (Wr.neR wH317 (Or.inr (x_apart hKT hts inX10 tyX10 tyX10_ok nmX10 rfl 8 0 (by decide) (by decide) (by decide)))).symm
  have m325 := ebs.trans (Wr.neI wH317 (Or.inr (x_apart hKT hts inX10 tyX10 tyX10_ok nmX10 rfl 1 0 (by decide) (by decide) (by decide)))).symm
  have m326 := esz.trans (Wr.neI wH317 (Or.inl (G_ne gslq ga0 (by decide)))).symm
  have m327 := Wr.I wH317
  have vr328 : vwR K H317 a0 x1.toNatClampNeg = (vwR K s.heap a0 x1.toNatClampNeg) := (vr_told hap hT ga0 wH317).trans vr_0
  have vo329 : ∀ b2 : Nat, b2 ≠ x1.toNatClampNeg → EqV (vwR K H317 a0 b2) (vwR K s.heap a0 b2) := fun b2 hb => by rw [vr_told hap hT ga0 wH317]; exact vo_0 b2 hb
  refine lv_aload_n hx hb dX10_wax_5 rfl (lv_at hl 0 rfl) ?_
  refine lv_iload_n hx hb dX10_wax_6 rfl (lv_at hl 1 rfl) ?_
  refine lv_iload_n hx hb dX10_wax_7 rfl (lv_at hl 2 rfl) ?_
  refine x_V (As := [.int x1, .int x2]) (rest := []) C (a_X10_isSlice_v l K G H317 (x1) (x2) (bs) (sz) hTH317 ga0 (by omega) gslq m323 m325 m326 (by omega)) yo_X10_isSlice wM_X10_181 ⟨⟨by decide, by decide⟩, by decide, by decide⟩ (x_rv C hTH317 (ci := 10) rfl ga0 rg_112) rfl hl.1 rfl (Nat.le_of_ble_eq_true rfl) dX10_wax_8 hSH317 (AE_sub (fun _ _ => rfl) (by decide) hSH317.1) (fun vH330 H330 locsH330 pH330 zH330 kH330 hSH330 => ?_)
  obtain ⟨x331, hvH330, bx331, hrH330, hTH330⟩ := pH330
  subst hvH330
  have mf332 : MF K s.heap H330 a0 [0] := MF.eff (x_lt hTH317 kH330 ga0 (by decide)) mf318
  have g333 : CG (avw K H330 a0) := CG.congr (fun k hk j => av_eff hTH317 kH330 ga0 (by decide) (CG_eff [] (by decide) k hk)) g319
  have g334 : TU (avw K H330 a0) (svw K H330 a0) := TU.congr (fun k hk j => av_eff hTH317 kH330 ga0 (by decide) (TU_eff [] (by decide) k hk)) (fun k hk => sv_eff hTH317 kH330 ga0 (by decide)) g320
  have g335 : WD (avw K H330 a0) := WD.congr (fun k hk j => av_eff hTH317 kH330 ga0 (by decide) (WD_eff [] (by decide) k hk)) g321
  have g336 : IM (avw K H330 a0) := IM.congr (fun k hk j => av_eff hTH317 kH330 ga0 (by decide) (IM_eff [] (by decide) k hk)) g322
  have m337 := (m323).trans (fR_kept (x_lt hTH317 kH330 ga0 (by decide))).symm
  have m338 := (m324).trans (fR_kept (x_lt hTH317 kH330 ga0 (by decide))).symm
  have m339 := (m325).trans (fI_kept (x_lt hTH317 kH330 ga0 (by decide))).symm
  have m340 := (m326).trans (fI_kept (x_lt hTH317 kH330 gslq (by decide))).symm
  have m341 := (fI_kept (x_lt hTH317 kH330 ga0 (by decide))).trans m327
  have vr342 : vwR K H330 a0 x1.toNatClampNeg = (vwR K s.heap a0 x1.toNatClampNeg) := (vr_frr hTH317 ga0 (fun q t hq h1 h2 => x_lt hTH317 kH330 hq (by first | omega | (intro z; simp only [List.mem_cons, List.not_mem_nil, or_false] at z <;> omega)))).trans vr328
  have vo343 : ∀ b2 : Nat, b2 ≠ x1.toNatClampNeg → EqV (vwR K H330 a0 b2) (vwR K s.heap a0 b2) := fun b2 hb => by rw [vr_frr hTH317 ga0 (fun q t hq h1 h2 => x_lt hTH317 kH330 hq (by first | omega | (intro z; simp only [List.mem_cons, List.not_mem_nil, or_false] at z <;> omega)))]; exact vo329 b2 hb
  refine W.eq (g2 := F0 m 11 ls [.int x331]) rfl ?_
  refine lv_if_eq (tgt := 25) hx hb dX10_wax_11 (by decide) (fun c344 => ?_) (fun c344 => ?_)
  · have k345 := i_eq c344
    refine lv_iconst (v := 0) hx hb dX10_wax_25 (by decide) ?_
    exact x_zret C hQ (Or.inl rfl) dX10_wax_26 hSH330 (by decide) (by decide) (⟨0, rfl, by decide, m337, m338, g333, g334, g335, g336, mf332, (Or.inr ⟨rfl, (fun z => by unfold wxK at z; rw [v00] at z; omega), vr342⟩), vo343, hTH330⟩)
  · have k345 := i_ne c344
    refine lv_aload_n hx hb dX10_wax_14 rfl (lv_at hl 0 rfl) ?_
    refine lv_iload_n hx hb dX10_wax_15 rfl (lv_at hl 3 rfl) ?_
    refine lv_iconst (v := 0) hx hb dX10_wax_16 (by decide) ?_
    refine lv_bipush (v := 99) hx hb dX10_wax_17 (by decide) ?_
    refine x_V (As := [.int x3, .int 0, .int 99]) (rest := []) C (a_X10_isIn_v l K G H330 (x3) (0) (99) hTH330 ga0) yo_X10_isIn wM_X10_177 ⟨⟨by decide, by decide⟩, by decide, by decide⟩ (x_rv C hTH330 (ci := 10) rfl ga0 rg_112) rfl hl.1 rfl (Nat.le_of_ble_eq_true rfl) dX10_wax_19 hSH330 (AE_sub (fun _ _ => rfl) (by decide) hSH330.1) (fun vH346 H346 locsH346 pH346 zH346 kH346 hSH346 => ?_)
    obtain ⟨x347, hvH346, bx347, hrH346, hTH346⟩ := pH346
    subst hvH346
    have mf348 : MF K s.heap H346 a0 [0] := MF.eff (x_lt hTH330 kH346 ga0 (by decide)) mf332
    have g349 : CG (avw K H346 a0) := CG.congr (fun k hk j => av_eff hTH330 kH346 ga0 (by decide) (CG_eff [] (by decide) k hk)) g333
    have g350 : TU (avw K H346 a0) (svw K H346 a0) := TU.congr (fun k hk j => av_eff hTH330 kH346 ga0 (by decide) (TU_eff [] (by decide) k hk)) (fun k hk => sv_eff hTH330 kH346 ga0 (by decide)) g334
    have g351 : WD (avw K H346 a0) := WD.congr (fun k hk j => av_eff hTH330 kH346 ga0 (by decide) (WD_eff [] (by decide) k hk)) g335
    have g352 : IM (avw K H346 a0) := IM.congr (fun k hk j => av_eff hTH330 kH346 ga0 (by decide) (IM_eff [] (by decide) k hk)) g336
    have m353 := (m337).trans (fR_kept (x_lt hTH330 kH346 ga0 (by decide))).symm
    have m354 := (m338).trans (fR_kept (x_lt hTH330 kH346 ga0 (by decide))).symm
    have m355 := (m339).trans (fI_kept (x_lt hTH330 kH346 ga0 (by decide))).symm
    have m356 := (m340).trans (fI_kept (x_lt hTH330 kH346 gslq (by decide))).symm
    have m357 := (fI_kept (x_lt hTH330 kH346 ga0 (by decide))).trans m341
    have vr358 : vwR K H346 a0 x1.toNatClampNeg = (vwR K s.heap a0 x1.toNatClampNeg) := (vr_frr hTH330 ga0 (fun q t hq h1 h2 => x_lt hTH330 kH346 hq (by first | omega | (intro z; simp only [List.mem_cons, List.not_mem_nil, or_false] at z <;> omega)))).trans vr342
    have vo359 : ∀ b2 : Nat, b2 ≠ x1.toNatClampNeg → EqV (vwR K H346 a0 b2) (vwR K s.heap a0 b2) := fun b2 hb => by rw [vr_frr hTH330 ga0 (fun q t hq h1 h2 => x_lt hTH330 kH346 hq (by first | omega | (intro z; simp only [List.mem_cons, List.not_mem_nil, or_false] at z <;> omega)))]; exact vo343 b2 hb
    refine W.eq (g2 := F0 m 22 ls [.int x347]) rfl ?_
    refine lv_if_ne (tgt := 27) hx hb dX10_wax_22 (by decide) (fun c360 => ?_) (fun c360 => ?_)
    · have k361 := i_ne c360
      refine lv_aload_n hx hb dX10_wax_27 rfl (lv_at hl 0 rfl) ?_
      refine x_gr C hTH346 (ci := 10) (k := 8) rfl inX10 (by decide) wF_X10_26 ga0 rg_112 rfl dX10_wax_28 (fun q362 eq362 gq362 => ?_)
      have uq362 : wxq = q362 := (m354).trans eq362.symm
      subst uq362
      refine lv_bipush (v := 16) hx hb dX10_wax_31 (by decide) ?_
      refine lv_iload_n hx hb dX10_wax_33 rfl (lv_at hl 1 rfl) ?_
      refine lv_imul hx hb dX10_wax_34 ?_
      refine lv_topi (fun x363 ex363 => ?_)
      have tx363 := i_mul ex363 (by rw [n_16]; omega)
      rw [n_16] at tx363
      refine lv_iload_n hx hb dX10_wax_35 rfl (lv_at hl 2 rfl) ?_
      refine lv_iadd hx hb dX10_wax_36 ?_
      refine lv_topi (fun x364 ex364 => ?_)
      have tx364 := i_add ex364 (by omega)
      refine lv_iload_n hx hb dX10_wax_37 rfl (lv_at hl 3 rfl) ?_
      refine x_iast C hTH346 hSH346 gwxq rg_117 (by omega) (by show _ < ((160 : Nat) : Int); omega) ⟨by have := i_rng x3; omega, by have := i_rng x3; omega⟩ (AE_in gwxq (by decide)) dX10_wax_38 (fun H365 locsH365 hTH365 hSH365 wH365 => ?_)
      have mf366 : MF K s.heap H365 a0 [0] := MF.arr wH365 (G_ne ga0 gwxq (by decide)) mf348
      have g367 : CG (avw K H365 a0) := CG.congr (fun k hk j => av_arr hTH346 ga0 wH365 gwxq (by decide) (CG_ok 117 (by decide) k hk)) g349
      have g368 : TU (avw K H365 a0) (svw K H365 a0) := TU.congr (fun k hk j => av_arr hTH346 ga0 wH365 gwxq (by decide) (TU_ok 117 (by decide) k hk)) (fun k hk => sv_arr ga0 wH365 gwxq (by decide)) g350
      have g369 : WD (avw K H365 a0) := WD.congr (fun k hk j => av_arr hTH346 ga0 wH365 gwxq (by decide) (WD_ok 117 (by decide) k hk)) g351
      have g370 : IM (avw K H365 a0) := IM.congr (fun k hk j => av_arr hTH346 ga0 wH365 gwxq (by decide) (IM_ok 117 (by decide) k hk)) g352
      have m371 := m353.trans (Wr.neR wH365 (Or.inl (G_ne ga0 gwxq (by decide)))).symm
      have m372 := m354.trans (Wr.neR wH365 (Or.inl (G_ne ga0 gwxq (by decide)))).symm
      have m373 := m355.trans (Wr.neI wH365 (Or.inl (G_ne ga0 gwxq (by decide)))).symm
      have m374 := m356.trans (Wr.neI wH365 (Or.inl (G_ne gslq gwxq (by decide)))).symm
      have m375 := (Wr.neI wH365 (Or.inl (G_ne ga0 gwxq (by decide)))).trans m357
      have m376 := Wr.I wH365
      have m376 := m376.symm
      have cn_x1 := i_cl (x := x1) (by omega)
      have cn_x2 := i_cl (x := x2) (by omega)
      have cn_x364 := i_cl (x := x364) (by omega)
      have vr377 : vwR K H365 a0 x1.toNatClampNeg = (upV (vwR K s.heap a0 x1.toNatClampNeg) 4 x2.toNatClampNeg x3.toInt) := by rw [vr_arr (k := 4) (i := x2.toNatClampNeg) hTH346 ga0 wH365 m354 (by decide) (show x364.toNatClampNeg = 16 * x1.toNatClampNeg + x2.toNatClampNeg by omega) (fun z => absurd z (by decide)) rfl, vr358]
      have vo378 : ∀ b2 : Nat, b2 ≠ x1.toNatClampNeg → EqV (vwR K H365 a0 b2) (vwR K s.heap a0 b2) := fun b2 hb => (vr_oth (k := 4) (i := x2.toNatClampNeg) hTH346 ga0 wH365 m354 (by decide) (show x364.toNatClampNeg = 16 * x1.toNatClampNeg + x2.toNatClampNeg by omega) (show x2.toNatClampNeg < 16 by omega) hb).tr (vo359 b2 hb)
      refine lv_iconst (v := 1) hx hb dX10_wax_39 (by decide) ?_
      exact x_zret C hQ (Or.inr rfl) dX10_wax_40 hSH365 (by decide) (by decide) (⟨1, rfl, by decide, m371, m372, g367, g368, g369, g370, mf366, (Or.inl ⟨rfl, (by unfold wxK; rw [v00]; omega), vr377⟩), vo378, hTH365⟩)
    · have k361 := i_eq c360
      refine lv_iconst (v := 0) hx hb dX10_wax_25 (by decide) ?_
      exact x_zret C hQ (Or.inl rfl) dX10_wax_26 hSH346 (by decide) (by decide) (⟨0, rfl, by decide, m353, m354, g349, g350, g351, g352, mf348, (Or.inr ⟨rfl, (fun z => by unfold wxK at z; rw [v00] at z; omega), vr358⟩), vo359, hTH346⟩)

set_option maxHeartbeats 4000000 in
set_option maxRecDepth 100000 in
theorem a_X10_goal_v (l : Launch) (K : KE) (G : Nat → Option Nat) (H : Heap) {a0 : Nat} (x1 : Int32) (x2 : Int32) (x3 : Int32) {slq : Nat} {gq : Nat} (bs : Int32) (sz : Int32) (hT : TY K G H) (ga0 : G a0 = some 112) (hx1 : 0 ≤ x1.toInt ∧ x1.toInt ≤ 9) (gslq : G slq = some 113) (eslq : slq = fR H a0 (K.1.2 10 4)) (ggq : G gq = some 118) (egq : gq = fR H a0 (K.1.2 10 9)) (ebs : bs = fI H a0 (K.1.2 10 1)) (esz : sz = fI H slq (x1 : Int32).toNatClampNeg) (hg_CG : CG (avw K H a0)) (hg_TU : TU (avw K H a0) (svw K H a0)) (hg_WD : WD (avw K H a0)) (hg_IM : IM (avw K H a0)) (hp0 : x1.toInt < bs.toInt) : MX l K yX10_goal cX10_goal 4 (some .boolean) 2 44 0 0 [.ref a0, .int x1, .int x2, .int x3] H (AE G [112, 118] H.size) (fun v H1 => ∃ (r : Int32), v = some (.int r) ∧ (0 ≤ r.toInt ∧ r.toInt ≤ 1) ∧ slq = fR H1 a0 (K.1.2 10 4) ∧ gq = fR H1 a0 (K.1.2 10 9) ∧ (CG (avw K H1 a0)) ∧ (TU (avw K H1 a0) (svw K H1 a0)) ∧ (WD (avw K H1 a0)) ∧ (IM (avw K H1 a0)) ∧ MF K H H1 a0 [0] ∧ ((r.toInt = 1 ∧ glK x2.toInt x3.toInt ∧ vwR K H1 a0 x1.toNatClampNeg = glV (vwR K H a0 x1.toNatClampNeg) x2.toInt x3.toInt) ∨ (r.toInt = 0 ∧ ¬ glK x2.toInt x3.toInt ∧ vwR K H1 a0 x1.toNatClampNeg = vwR K H a0 x1.toNatClampNeg)) ∧ (∀ b2 : Nat, b2 ≠ x1.toNatClampNeg → EqV (vwR K H1 a0 b2) (vwR K H a0 b2)) ∧ TY K G H1) := by
  refine MX.of (by decide +kernel) (Nat.le_of_ble_eq_true rfl) ?_
  intro p e s m below meth c ls Q C hH hl hQ
  subst hH
  have C : CX p K s m _ meth c RX10 cX10_goal 4 (some .boolean) "goal" := C
  obtain ⟨hx, hb, hml, hown, hts, hKT, hr, hlocks, hnm⟩ := id C
  have hl : lv_has ls 4 [(0, .ref a0), (1, .int x1), (2, .int x2), (3, .int x3)] := hl
  have hS : va_S (AE G [112, 118] s.heap.size) s.heap s.heap [] := va_S.rf
  have n_0 : (0 : Int32).toInt = 0 := rfl
  have n_1 : (1 : Int32).toInt = 1 := rfl
  have n_3 : (3 : Int32).toInt = 3 := rfl
  have n_999999 : (999999 : Int32).toInt = 999999 := rfl
  have bbs := ty_fi (x := bs) (k := 1) ebs hT ga0 rg_112 rfl
  have bsz := ty_ai (x := sz) esz hT gslq rg_113 (by omega)
  have hap : ∀ x y, x < 74 → y < 74 → x ≠ y → K.1.2 10 x ≠ K.1.2 10 y := x_apart hKT hts inX10 tyX10 tyX10_ok nmX10 rfl
  have mf0 : MF K s.heap s.heap a0 [0] := fun _ _ _ => rfl
  have vr_0 : vwR K s.heap a0 x1.toNatClampNeg = vwR K s.heap a0 x1.toNatClampNeg := rfl
  have vo_0 : ∀ b2 : Nat, b2 ≠ x1.toNatClampNeg → EqV (vwR K s.heap a0 b2) (vwR K s.heap a0 b2) := fun _ _ => EqV.rf
  have v00 : vwR K s.heap a0 x1.toNatClampNeg 0 0 = sz.toInt := by rw [vwR_f (by decide)]; show (fI s.heap (fR s.heap a0 (K.1.2 10 4)) x1.toNatClampNeg).toInt = _; rw [← eslq, ← esz]
  refine lv_aload_n hx hb dX10_goal_0 rfl (lv_at hl 0 rfl) ?_
  refine lv_iconst (v := 0) hx hb dX10_goal_1 (by decide) ?_
  refine x_put C hT hS (ci := 10) (k := 0) (v := .int 0) (ty0 := tyX10) rfl inX10 tyX10_ok nmX10 (by decide) rfl wF_X10_167 ga0 rg_112 rfl rfl (okI (by have := i_rng (0 : Int32); omega) (by have := i_rng (0 : Int32); omega)) rfl rfl (AE_in ga0 (by decide)) dX10_goal_2 (fun H337 locsH337 hTH337 hSH337 wH337 => ?_)
  have mf338 : MF K s.heap H337 a0 [0] := MF.fld hap wH337 (by decide) (by decide) mf0
  have g339 : CG (avw K H337 a0) := CG.congr (fun k hk j => av_fld hT ga0 hap wH337 (by decide) (CG_ok 112 (by decide) k hk) (CG_ne 0 (by decide) k hk)) hg_CG
  have g340 : TU (avw K H337 a0) (svw K H337 a0) := TU.congr (fun k hk j => av_fld hT ga0 hap wH337 (by decide) (TU_ok 112 (by decide) k hk) (TU_ne 0 (by decide) k hk)) (fun k hk => sv_fld hap wH337 (by decide) (TU_slt k hk) (TU_sne 0 (by decide) k hk)) hg_TU
  have g341 : WD (avw K H337 a0) := WD.congr (fun k hk j => av_fld hT ga0 hap wH337 (by decide) (WD_ok 112 (by decide) k hk) (WD_ne 0 (by decide) k hk)) hg_WD
  have g342 : IM (avw K H337 a0) := IM.congr (fun k hk j => av_fld hT ga0 hap wH337 (by decide) (IM_ok 112 (by decide) k hk) (IM_ne 0 (by decide) k hk)) hg_IM
  have m343 := eslq.trans (Wr.neR wH337 (Or.inr (x_apart hKT hts inX10 tyX10 tyX10_ok nmX10 rfl 4 0 (by decide) (by decide) (by decide)))).symm
  have m344 := egq.trans (Wr.neR wH337 (Or.inr (x_apart hKT hts inX10 tyX10 tyX10_ok nmX10 rfl 9 0 (by decide) (by decide) (by decide)))).symm
  have m345 := ebs.trans (Wr.neI wH337 (Or.inr (x_apart hKT hts inX10 tyX10 tyX10_ok nmX10 rfl 1 0 (by decide) (by decide) (by decide)))).symm
  have m346 := esz.trans (Wr.neI wH337 (Or.inl (G_ne gslq ga0 (by decide)))).symm
  have m347 := Wr.I wH337
  have vr348 : vwR K H337 a0 x1.toNatClampNeg = (vwR K s.heap a0 x1.toNatClampNeg) := (vr_told hap hT ga0 wH337).trans vr_0
  have vo349 : ∀ b2 : Nat, b2 ≠ x1.toNatClampNeg → EqV (vwR K H337 a0 b2) (vwR K s.heap a0 b2) := fun b2 hb => by rw [vr_told hap hT ga0 wH337]; exact vo_0 b2 hb
  refine lv_aload_n hx hb dX10_goal_5 rfl (lv_at hl 0 rfl) ?_
  refine lv_iload_n hx hb dX10_goal_6 rfl (lv_at hl 1 rfl) ?_
  refine x_V (As := [.int x1]) (rest := []) C (a_X10_isBar_r l K G H337 (x1) (bs) hTH337 ga0 m345) yo_X10_isBar wM_X10_173 ⟨⟨by decide, by decide⟩, by decide, by decide⟩ (x_rv C hTH337 (ci := 10) rfl ga0 rg_112) rfl hl.1 rfl (Nat.le_of_ble_eq_true rfl) dX10_goal_7 hSH337 (AE_sub (fun _ _ => rfl) (by decide) hSH337.1) (fun vH350 H350 locsH350 pH350 zH350 kH350 hSH350 => ?_)
  obtain ⟨x351, hvH350, bx351, hrH350, hTH350⟩ := pH350
  subst hvH350
  have mf352 : MF K s.heap H350 a0 [0] := MF.eff (x_lt hTH337 kH350 ga0 (by decide)) mf338
  have g353 : CG (avw K H350 a0) := CG.congr (fun k hk j => av_eff hTH337 kH350 ga0 (by decide) (CG_eff [] (by decide) k hk)) g339
  have g354 : TU (avw K H350 a0) (svw K H350 a0) := TU.congr (fun k hk j => av_eff hTH337 kH350 ga0 (by decide) (TU_eff [] (by decide) k hk)) (fun k hk => sv_eff hTH337 kH350 ga0 (by decide)) g340
  have g355 : WD (avw K H350 a0) := WD.congr (fun k hk j => av_eff hTH337 kH350 ga0 (by decide) (WD_eff [] (by decide) k hk)) g341
  have g356 : IM (avw K H350 a0) := IM.congr (fun k hk j => av_eff hTH337 kH350 ga0 (by decide) (IM_eff [] (by decide) k hk)) g342
  have m357 := (m343).trans (fR_kept (x_lt hTH337 kH350 ga0 (by decide))).symm
  have m358 := (m344).trans (fR_kept (x_lt hTH337 kH350 ga0 (by decide))).symm
  have m359 := (m345).trans (fI_kept (x_lt hTH337 kH350 ga0 (by decide))).symm
  have m360 := (m346).trans (fI_kept (x_lt hTH337 kH350 gslq (by decide))).symm
  have m361 := (fI_kept (x_lt hTH337 kH350 ga0 (by decide))).trans m347
  have vr362 : vwR K H350 a0 x1.toNatClampNeg = (vwR K s.heap a0 x1.toNatClampNeg) := (vr_frr hTH337 ga0 (fun q t hq h1 h2 => x_lt hTH337 kH350 hq (by first | omega | (intro z; simp only [List.mem_cons, List.not_mem_nil, or_false] at z <;> omega)))).trans vr348
  have vo363 : ∀ b2 : Nat, b2 ≠ x1.toNatClampNeg → EqV (vwR K H350 a0 b2) (vwR K s.heap a0 b2) := fun b2 hb => by rw [vr_frr hTH337 ga0 (fun q t hq h1 h2 => x_lt hTH337 kH350 hq (by first | omega | (intro z; simp only [List.mem_cons, List.not_mem_nil, or_false] at z <;> omega)))]; exact vo349 b2 hb
  refine W.eq (g2 := F0 m 10 ls [.int x351]) rfl ?_
  refine lv_if_eq (tgt := 33) hx hb dX10_goal_10 (by decide) (fun c364 => ?_) (fun c364 => ?_)
  · have k365 := i_eq c364
    refine lv_iconst (v := 0) hx hb dX10_goal_33 (by decide) ?_
    exact x_zret C hQ (Or.inl rfl) dX10_goal_34 hSH350 (by decide) (by decide) (⟨0, rfl, by decide, m357, m358, g353, g354, g355, g356, mf352, (Or.inr ⟨rfl, (fun z => by unfold glK at z; omega), vr362⟩), vo363, hTH350⟩)
  · have k365 := i_ne c364
    refine lv_aload_n hx hb dX10_goal_13 rfl (lv_at hl 0 rfl) ?_
    refine lv_iload_n hx hb dX10_goal_14 rfl (lv_at hl 2 rfl) ?_
    refine x_V (As := [.int x2]) (rest := []) C (c_X10_isTone l K G H350 (x2) hTH350 ga0) yo_X10_isTone wM_X10_331 ⟨⟨by decide, by decide⟩, by decide, by decide⟩ (x_rv C hTH350 (ci := 10) rfl ga0 rg_112) rfl hl.1 rfl (Nat.le_of_ble_eq_true rfl) dX10_goal_15 hSH350 (AE_sub (fun _ _ => rfl) (by decide) hSH350.1) (fun vH366 H366 locsH366 pH366 zH366 kH366 hSH366 => ?_)
    have hqH366 := pH366.1.symm
    subst hqH366
    rcases pH366.2 with ⟨hvH366, hcH366⟩ | ⟨hvH366, hcH366⟩
    · subst hvH366
      refine W.eq (g2 := F0 m 18 ls [.int 1]) rfl ?_
      refine lv_if_eq (tgt := 33) hx hb dX10_goal_18 (by decide) (fun c367 => ?_) (fun c367 => ?_)
      · have k368 := i_eq c367
        exfalso
        omega
      · have k368 := i_ne c367
        refine lv_aload_n hx hb dX10_goal_21 rfl (lv_at hl 0 rfl) ?_
        refine lv_iload_n hx hb dX10_goal_22 rfl (lv_at hl 3 rfl) ?_
        refine lv_iconst (v := 0) hx hb dX10_goal_23 (by decide) ?_
        refine lv_ldcw (v := 999999) hx hb hown (hts _ wK_X10_348) dX10_goal_24 ?_
        refine x_V (As := [.int x3, .int 0, .int 999999]) (rest := []) C (a_X10_isIn_v l K G H350 (x3) (0) (999999) hTH350 ga0) yo_X10_isIn wM_X10_177 ⟨⟨by decide, by decide⟩, by decide, by decide⟩ (x_rv C hTH350 (ci := 10) rfl ga0 rg_112) rfl hl.1 rfl (Nat.le_of_ble_eq_true rfl) dX10_goal_27 hSH366 (AE_sub (fun _ _ => rfl) (by decide) hSH366.1) (fun vH369 H369 locsH369 pH369 zH369 kH369 hSH369 => ?_)
        obtain ⟨x370, hvH369, bx370, hrH369, hTH369⟩ := pH369
        subst hvH369
        have mf371 : MF K s.heap H369 a0 [0] := MF.eff (x_lt hTH350 kH369 ga0 (by decide)) mf352
        have g372 : CG (avw K H369 a0) := CG.congr (fun k hk j => av_eff hTH350 kH369 ga0 (by decide) (CG_eff [] (by decide) k hk)) g353
        have g373 : TU (avw K H369 a0) (svw K H369 a0) := TU.congr (fun k hk j => av_eff hTH350 kH369 ga0 (by decide) (TU_eff [] (by decide) k hk)) (fun k hk => sv_eff hTH350 kH369 ga0 (by decide)) g354
        have g374 : WD (avw K H369 a0) := WD.congr (fun k hk j => av_eff hTH350 kH369 ga0 (by decide) (WD_eff [] (by decide) k hk)) g355
        have g375 : IM (avw K H369 a0) := IM.congr (fun k hk j => av_eff hTH350 kH369 ga0 (by decide) (IM_eff [] (by decide) k hk)) g356
        have m376 := (m357).trans (fR_kept (x_lt hTH350 kH369 ga0 (by decide))).symm
        have m377 := (m358).trans (fR_kept (x_lt hTH350 kH369 ga0 (by decide))).symm
        have m378 := (m359).trans (fI_kept (x_lt hTH350 kH369 ga0 (by decide))).symm
        have m379 := (m360).trans (fI_kept (x_lt hTH350 kH369 gslq (by decide))).symm
        have m380 := (fI_kept (x_lt hTH350 kH369 ga0 (by decide))).trans m361
        have vr381 : vwR K H369 a0 x1.toNatClampNeg = (vwR K s.heap a0 x1.toNatClampNeg) := (vr_frr hTH350 ga0 (fun q t hq h1 h2 => x_lt hTH350 kH369 hq (by first | omega | (intro z; simp only [List.mem_cons, List.not_mem_nil, or_false] at z <;> omega)))).trans vr362
        have vo382 : ∀ b2 : Nat, b2 ≠ x1.toNatClampNeg → EqV (vwR K H369 a0 b2) (vwR K s.heap a0 b2) := fun b2 hb => by rw [vr_frr hTH350 ga0 (fun q t hq h1 h2 => x_lt hTH350 kH369 hq (by first | omega | (intro z; simp only [List.mem_cons, List.not_mem_nil, or_false] at z <;> omega)))]; exact vo363 b2 hb
        refine W.eq (g2 := F0 m 30 ls [.int x370]) rfl ?_
        refine lv_if_ne (tgt := 35) hx hb dX10_goal_30 (by decide) (fun c383 => ?_) (fun c383 => ?_)
        · have k384 := i_ne c383
          refine lv_aload_n hx hb dX10_goal_35 rfl (lv_at hl 0 rfl) ?_
          refine x_gr C hTH369 (ci := 10) (k := 9) rfl inX10 (by decide) wF_X10_29 ga0 rg_112 rfl dX10_goal_36 (fun q385 eq385 gq385 => ?_)
          have uq385 : gq = q385 := (m377).trans eq385.symm
          subst uq385
          refine lv_iconst (v := 3) hx hb dX10_goal_39 (by decide) ?_
          refine lv_iload_n hx hb dX10_goal_40 rfl (lv_at hl 1 rfl) ?_
          refine lv_imul hx hb dX10_goal_41 ?_
          refine lv_topi (fun x386 ex386 => ?_)
          have tx386 := i_mul ex386 (by rw [n_3]; omega)
          rw [n_3] at tx386
          refine lv_iload_n hx hb dX10_goal_42 rfl (lv_at hl 2 rfl) ?_
          refine lv_iadd hx hb dX10_goal_43 ?_
          refine lv_topi (fun x387 ex387 => ?_)
          have tx387 := i_add ex387 (by omega)
          refine lv_iload_n hx hb dX10_goal_44 rfl (lv_at hl 3 rfl) ?_
          refine x_iast C hTH369 hSH369 ggq rg_118 (by omega) (by show _ < ((30 : Nat) : Int); omega) ⟨by have := i_rng x3; omega, by have := i_rng x3; omega⟩ (AE_in ggq (by decide)) dX10_goal_45 (fun H388 locsH388 hTH388 hSH388 wH388 => ?_)
          have mf389 : MF K s.heap H388 a0 [0] := MF.arr wH388 (G_ne ga0 ggq (by decide)) mf371
          have g390 : CG (avw K H388 a0) := CG.congr (fun k hk j => av_arr hTH369 ga0 wH388 ggq (by decide) (CG_ok 118 (by decide) k hk)) g372
          have g391 : TU (avw K H388 a0) (svw K H388 a0) := TU.congr (fun k hk j => av_arr hTH369 ga0 wH388 ggq (by decide) (TU_ok 118 (by decide) k hk)) (fun k hk => sv_arr ga0 wH388 ggq (by decide)) g373
          have g392 : WD (avw K H388 a0) := WD.congr (fun k hk j => av_arr hTH369 ga0 wH388 ggq (by decide) (WD_ok 118 (by decide) k hk)) g374
          have g393 : IM (avw K H388 a0) := IM.congr (fun k hk j => av_arr hTH369 ga0 wH388 ggq (by decide) (IM_ok 118 (by decide) k hk)) g375
          have m394 := m376.trans (Wr.neR wH388 (Or.inl (G_ne ga0 ggq (by decide)))).symm
          have m395 := m377.trans (Wr.neR wH388 (Or.inl (G_ne ga0 ggq (by decide)))).symm
          have m396 := m378.trans (Wr.neI wH388 (Or.inl (G_ne ga0 ggq (by decide)))).symm
          have m397 := m379.trans (Wr.neI wH388 (Or.inl (G_ne gslq ggq (by decide)))).symm
          have m398 := (Wr.neI wH388 (Or.inl (G_ne ga0 ggq (by decide)))).trans m380
          have m399 := Wr.I wH388
          have m399 := m399.symm
          have cn_x1 := i_cl (x := x1) (by omega)
          have cn_x2 := i_cl (x := x2) (by omega)
          have cn_x387 := i_cl (x := x387) (by omega)
          have vr400 : vwR K H388 a0 x1.toNatClampNeg = (upV (vwR K s.heap a0 x1.toNatClampNeg) 5 x2.toNatClampNeg x3.toInt) := by rw [vr_arr (k := 5) (i := x2.toNatClampNeg) hTH369 ga0 wH388 m377 (by decide) (show x387.toNatClampNeg = 3 * x1.toNatClampNeg + x2.toNatClampNeg by omega) (fun z => absurd z (by decide)) rfl, vr381]
          have vo401 : ∀ b2 : Nat, b2 ≠ x1.toNatClampNeg → EqV (vwR K H388 a0 b2) (vwR K s.heap a0 b2) := fun b2 hb => (vr_oth (k := 5) (i := x2.toNatClampNeg) hTH369 ga0 wH388 m377 (by decide) (show x387.toNatClampNeg = 3 * x1.toNatClampNeg + x2.toNatClampNeg by omega) (show x2.toNatClampNeg < 3 by omega) hb).tr (vo382 b2 hb)
          refine lv_iconst (v := 1) hx hb dX10_goal_46 (by decide) ?_
          exact x_zret C hQ (Or.inr rfl) dX10_goal_47 hSH388 (by decide) (by decide) (⟨1, rfl, by decide, m394, m395, g390, g391, g392, g393, mf389, (Or.inl ⟨rfl, (by unfold glK; omega), vr400⟩), vo401, hTH388⟩)
        · have k384 := i_eq c383
          refine lv_iconst (v := 0) hx hb dX10_goal_33 (by decide) ?_
          exact x_zret C hQ (Or.inl rfl) dX10_goal_34 hSH369 (by decide) (by decide) (⟨0, rfl, by decide, m376, m377, g372, g373, g374, g375, mf371, (Or.inr ⟨rfl, (fun z => by unfold glK at z; omega), vr381⟩), vo382, hTH369⟩)
    · subst hvH366
      refine W.eq (g2 := F0 m 18 ls [.int 0]) rfl ?_
      refine lv_if_eq (tgt := 33) hx hb dX10_goal_18 (by decide) (fun c402 => ?_) (fun c402 => ?_)
      · have k403 := i_eq c402
        refine lv_iconst (v := 0) hx hb dX10_goal_33 (by decide) ?_
        exact x_zret C hQ (Or.inl rfl) dX10_goal_34 hSH366 (by decide) (by decide) (⟨0, rfl, by decide, m357, m358, g353, g354, g355, g356, mf352, (Or.inr ⟨rfl, (fun z => by unfold glK at z; omega), vr362⟩), vo363, hTH350⟩)
      · have k403 := i_ne c402
        exfalso
        omega

set_option maxHeartbeats 4000000 in
set_option maxRecDepth 100000 in
theorem a_X10_shave_v (l : Launch) (K : KE) (G : Nat → Option Nat) (H : Heap) {a0 : Nat} (x1 : Int32) (x2 : Int32) (x3 : Int32) {kq : Nat} {paq : Nat} {pdq : Nat} {psq : Nat} {lbq : Nat} {gq : Nat} {slq : Nat} {wxq : Nat} (ps : Int32) (lb : Int32) (bs : Int32) (sz : Int32) (fo : Int32) (sl : Int32) (fsE : Nat → EF) (fwE : Nat → EF) (hT : TY K G H) (ga0 : G a0 = some 112) (hx1 : 0 ≤ x1.toInt ∧ x1.toInt ≤ 9) (gkq : G kq = some 114) (ekq : kq = fR H a0 (K.1.2 10 5)) (gpaq : G paq = some 120) (epaq : paq = fR H a0 (K.1.2 10 11)) (gpdq : G pdq = some 121) (epdq : pdq = fR H a0 (K.1.2 10 12)) (gpsq : G psq = some 119) (epsq : psq = fR H a0 (K.1.2 10 10)) (glbq : G lbq = some 122) (elbq : lbq = fR H a0 (K.1.2 10 13)) (ggq : G gq = some 118) (egq : gq = fR H a0 (K.1.2 10 9)) (gslq : G slq = some 113) (eslq : slq = fR H a0 (K.1.2 10 4)) (gwxq : G wxq = some 117) (ewxq : wxq = fR H a0 (K.1.2 10 8)) (eps : ps = fI H psq (x1 : Int32).toNatClampNeg) (elb : lb = fI H lbq (x1 : Int32).toNatClampNeg) (ebs : bs = fI H a0 (K.1.2 10 1)) (esz : sz = fI H slq (x1 : Int32).toNatClampNeg) (efo : fo = fI H a0 (K.1.2 10 2)) (esl : sl = fI H a0 (K.1.2 10 3)) (hg_CG : CG (avw K H a0)) (hg_TU : TU (avw K H a0) (svw K H a0)) (hg_WD : WD (avw K H a0)) (hg_IM : IM (avw K H a0)) (hp0 : 0 ≤ sl.toInt ∧ sl.toInt ≤ 9999) (hp1 : x1.toInt < bs.toInt) (hy0 : TXR K H a0 fo.toNatClampNeg 1 fsE fwE) (hy1 : ∀ j : Nat, j < 3 → 0 ≤ (fI H gq (3 * x1.toNatClampNeg + j)).toInt ∧ (fI H gq (3 * x1.toNatClampNeg + j)).toInt ≤ 999999) : MX l K yX10_shave cX10_shave 4 (some .int) 8 190 0 0 [.ref a0, .int x1, .int x2, .int x3] H (AE G [112, 114, 120, 121, 119, 122, 140, 139] H.size) (fun v H1 => ∃ (r : Int32) (t0 : Int32) (t1 : Int32), v = some (.int r) ∧ t0 = fI H1 psq (x1 : Int32).toNatClampNeg ∧ t1 = fI H1 lbq (x1 : Int32).toNatClampNeg ∧ kq = fR H1 a0 (K.1.2 10 5) ∧ paq = fR H1 a0 (K.1.2 10 11) ∧ pdq = fR H1 a0 (K.1.2 10 12) ∧ psq = fR H1 a0 (K.1.2 10 10) ∧ lbq = fR H1 a0 (K.1.2 10 13) ∧ gq = fR H1 a0 (K.1.2 10 9) ∧ slq = fR H1 a0 (K.1.2 10 4) ∧ wxq = fR H1 a0 (K.1.2 10 8) ∧ fo = fI H1 a0 (K.1.2 10 2) ∧ sl = fI H1 a0 (K.1.2 10 3) ∧ (CG (avw K H1 a0)) ∧ (TU (avw K H1 a0) (svw K H1 a0)) ∧ (WD (avw K H1 a0)) ∧ (IM (avw K H1 a0)) ∧ MF K H H1 a0 [0] ∧ (vwR K H1 a0 x1.toNatClampNeg = paV (tlR K H a0 fo.toNatClampNeg fsE fwE) sl.toInt (vwR K H a0 x1.toNatClampNeg) x2.toInt x3.toInt) ∧ (r.toInt = paR (vwR K H a0 x1.toNatClampNeg) x2.toInt x3.toInt) ∧ (∀ b2 : Nat, b2 ≠ x1.toNatClampNeg → EqV (vwR K H1 a0 b2) (vwR K H a0 b2)) ∧ TY K G H1) := by
  refine MX.of (by decide +kernel) (Nat.le_of_ble_eq_true rfl) ?_
  intro p e s m below meth c ls Q C hH hl hQ
  subst hH
  have C : CX p K s m _ meth c RX10 cX10_shave 4 (some .int) "shave" := C
  obtain ⟨hx, hb, hml, hown, hts, hKT, hr, hlocks, hnm⟩ := id C
  have hl : lv_has ls 4 [(0, .ref a0), (1, .int x1), (2, .int x2), (3, .int x3)] := hl
  have hS : va_S (AE G [112, 114, 120, 121, 119, 122, 140, 139] s.heap.size) s.heap s.heap [] := va_S.rf
  have n_m1 : ((-1) : Int32).toInt = -1 := rfl
  have n_0 : (0 : Int32).toInt = 0 := rfl
  have n_1 : (1 : Int32).toInt = 1 := rfl
  have n_9 : (9 : Int32).toInt = 9 := rfl
  have bps := ty_ai (x := ps) eps hT gpsq rg_119 (by omega)
  have blb := ty_ai (x := lb) elb hT glbq rg_122 (by omega)
  have bbs := ty_fi (x := bs) (k := 1) ebs hT ga0 rg_112 rfl
  have bsz := ty_ai (x := sz) esz hT gslq rg_113 (by omega)
  have bfo := ty_fi (x := fo) (k := 2) efo hT ga0 rg_112 rfl
  have bsl := ty_fi (x := sl) (k := 3) esl hT ga0 rg_112 rfl
  have hap : ∀ x y, x < 74 → y < 74 → x ≠ y → K.1.2 10 x ≠ K.1.2 10 y := x_apart hKT hts inX10 tyX10 tyX10_ok nmX10 rfl
  have mf0 : MF K s.heap s.heap a0 [0] := fun _ _ _ => rfl
  have vr_0 : vwR K s.heap a0 x1.toNatClampNeg = vwR K s.heap a0 x1.toNatClampNeg := rfl
  have vo_0 : ∀ b2 : Nat, b2 ≠ x1.toNatClampNeg → EqV (vwR K s.heap a0 b2) (vwR K s.heap a0 b2) := fun _ _ => EqV.rf
  have v00 : vwR K s.heap a0 x1.toNatClampNeg 0 0 = sz.toInt := by rw [vwR_f (by decide)]; show (fI s.heap (fR s.heap a0 (K.1.2 10 4)) x1.toNatClampNeg).toInt = _; rw [← eslq, ← esz]
  have v80 : vwR K s.heap a0 x1.toNatClampNeg 8 0 = ps.toInt := by rw [vwR_f (by decide)]; show (fI s.heap (fR s.heap a0 (K.1.2 10 10)) x1.toNatClampNeg).toInt = _; rw [← epsq, ← eps]
  have f0_tf : TXG K a0 G s.heap s.heap := TXG.rf
  have f0_s_gq : ∀ j : Nat, fI s.heap gq j = fI s.heap gq j := fun _ => rfl
  refine lv_aload_n hx hb dX10_shave_0 rfl (lv_at hl 0 rfl) ?_
  refine lv_iconst (v := 0) hx hb dX10_shave_1 (by decide) ?_
  refine x_put C hT hS (ci := 10) (k := 0) (v := .int 0) (ty0 := tyX10) rfl inX10 tyX10_ok nmX10 (by decide) rfl wF_X10_167 ga0 rg_112 rfl rfl (okI (by have := i_rng (0 : Int32); omega) (by have := i_rng (0 : Int32); omega)) rfl rfl (AE_in ga0 (by decide)) dX10_shave_2 (fun H513 locsH513 hTH513 hSH513 wH513 => ?_)
  have mf514 : MF K s.heap H513 a0 [0] := MF.fld hap wH513 (by decide) (by decide) mf0
  have g515 : CG (avw K H513 a0) := CG.congr (fun k hk j => av_fld hT ga0 hap wH513 (by decide) (CG_ok 112 (by decide) k hk) (CG_ne 0 (by decide) k hk)) hg_CG
  have g516 : TU (avw K H513 a0) (svw K H513 a0) := TU.congr (fun k hk j => av_fld hT ga0 hap wH513 (by decide) (TU_ok 112 (by decide) k hk) (TU_ne 0 (by decide) k hk)) (fun k hk => sv_fld hap wH513 (by decide) (TU_slt k hk) (TU_sne 0 (by decide) k hk)) hg_TU
  have g517 : WD (avw K H513 a0) := WD.congr (fun k hk j => av_fld hT ga0 hap wH513 (by decide) (WD_ok 112 (by decide) k hk) (WD_ne 0 (by decide) k hk)) hg_WD
  have g518 : IM (avw K H513 a0) := IM.congr (fun k hk j => av_fld hT ga0 hap wH513 (by decide) (IM_ok 112 (by decide) k hk) (IM_ne 0 (by decide) k hk)) hg_IM
  have f519 : TXG K a0 G H513 s.heap := ⟨fun k h0 h1 => (Wr.neR wH513 (Or.inr (hap k 0 h1 (by decide) (by omega)))).trans (f0_tf.1 k h0 h1), fun q t hq h1 => (wH513.off (G_ne hq ga0 (by first | omega | (intro z; simp only [List.mem_cons, List.not_mem_nil, or_false] at z <;> omega)))).trans (f0_tf.2 q t hq h1)⟩
  have f520 : ∀ j : Nat, fI H513 gq j = fI s.heap gq j := fun j => (Wr.neI wH513 (Or.inl (G_ne ggq ga0 (by decide)))).trans (f0_s_gq j)
  have m521 := ekq.trans (Wr.neR wH513 (Or.inr (x_apart hKT hts inX10 tyX10 tyX10_ok nmX10 rfl 5 0 (by decide) (by decide) (by decide)))).symm
  have m522 := epaq.trans (Wr.neR wH513 (Or.inr (x_apart hKT hts inX10 tyX10 tyX10_ok nmX10 rfl 11 0 (by decide) (by decide) (by decide)))).symm
  have m523 := epdq.trans (Wr.neR wH513 (Or.inr (x_apart hKT hts inX10 tyX10 tyX10_ok nmX10 rfl 12 0 (by decide) (by decide) (by decide)))).symm
  have m524 := epsq.trans (Wr.neR wH513 (Or.inr (x_apart hKT hts inX10 tyX10 tyX10_ok nmX10 rfl 10 0 (by decide) (by decide) (by decide)))).symm
  have m525 := elbq.trans (Wr.neR wH513 (Or.inr (x_apart hKT hts inX10 tyX10 tyX10_ok nmX10 rfl 13 0 (by decide) (by decide) (by decide)))).symm
  have m526 := egq.trans (Wr.neR wH513 (Or.inr (x_apart hKT hts inX10 tyX10 tyX10_ok nmX10 rfl 9 0 (by decide) (by decide) (by decide)))).symm
  have m527 := eslq.trans (Wr.neR wH513 (Or.inr (x_apart hKT hts inX10 tyX10 tyX10_ok nmX10 rfl 4 0 (by decide) (by decide) (by decide)))).symm
  have m528 := ewxq.trans (Wr.neR wH513 (Or.inr (x_apart hKT hts inX10 tyX10 tyX10_ok nmX10 rfl 8 0 (by decide) (by decide) (by decide)))).symm
  have m529 := eps.trans (Wr.neI wH513 (Or.inl (G_ne gpsq ga0 (by decide)))).symm
  have m530 := elb.trans (Wr.neI wH513 (Or.inl (G_ne glbq ga0 (by decide)))).symm
  have m531 := ebs.trans (Wr.neI wH513 (Or.inr (x_apart hKT hts inX10 tyX10 tyX10_ok nmX10 rfl 1 0 (by decide) (by decide) (by decide)))).symm
  have m532 := esz.trans (Wr.neI wH513 (Or.inl (G_ne gslq ga0 (by decide)))).symm
  have m533 := efo.trans (Wr.neI wH513 (Or.inr (x_apart hKT hts inX10 tyX10 tyX10_ok nmX10 rfl 2 0 (by decide) (by decide) (by decide)))).symm
  have m534 := esl.trans (Wr.neI wH513 (Or.inr (x_apart hKT hts inX10 tyX10 tyX10_ok nmX10 rfl 3 0 (by decide) (by decide) (by decide)))).symm
  have m535 := Wr.I wH513
  have vr536 : vwR K H513 a0 x1.toNatClampNeg = (vwR K s.heap a0 x1.toNatClampNeg) := (vr_told hap hT ga0 wH513).trans vr_0
  have vo537 : ∀ b2 : Nat, b2 ≠ x1.toNatClampNeg → EqV (vwR K H513 a0 b2) (vwR K s.heap a0 b2) := fun b2 hb => by rw [vr_told hap hT ga0 wH513]; exact vo_0 b2 hb
  refine lv_aload_n hx hb dX10_shave_5 rfl (lv_at hl 0 rfl) ?_
  refine lv_iload_n hx hb dX10_shave_6 rfl (lv_at hl 3 rfl) ?_
  refine lv_iconst (v := 1) hx hb dX10_shave_7 (by decide) ?_
  refine lv_bipush (v := 9) hx hb dX10_shave_8 (by decide) ?_
  refine x_V (As := [.int x3, .int 1, .int 9]) (rest := []) C (a_X10_isIn_v l K G H513 (x3) (1) (9) hTH513 ga0) yo_X10_isIn wM_X10_177 ⟨⟨by decide, by decide⟩, by decide, by decide⟩ (x_rv C hTH513 (ci := 10) rfl ga0 rg_112) rfl hl.1 rfl (Nat.le_of_ble_eq_true rfl) dX10_shave_10 hSH513 (AE_sub (fun _ _ => rfl) (by decide) hSH513.1) (fun vH538 H538 locsH538 pH538 zH538 kH538 hSH538 => ?_)
  obtain ⟨x539, hvH538, bx539, hrH538, hTH538⟩ := pH538
  subst hvH538
  have mf540 : MF K s.heap H538 a0 [0] := MF.eff (x_lt hTH513 kH538 ga0 (by decide)) mf514
  have g541 : CG (avw K H538 a0) := CG.congr (fun k hk j => av_eff hTH513 kH538 ga0 (by decide) (CG_eff [] (by decide) k hk)) g515
  have g542 : TU (avw K H538 a0) (svw K H538 a0) := TU.congr (fun k hk j => av_eff hTH513 kH538 ga0 (by decide) (TU_eff [] (by decide) k hk)) (fun k hk => sv_eff hTH513 kH538 ga0 (by decide)) g516
  have g543 : WD (avw K H538 a0) := WD.congr (fun k hk j => av_eff hTH513 kH538 ga0 (by decide) (WD_eff [] (by decide) k hk)) g517
  have g544 : IM (avw K H538 a0) := IM.congr (fun k hk j => av_eff hTH513 kH538 ga0 (by decide) (IM_eff [] (by decide) k hk)) g518
  have f545 : TXG K a0 G H538 s.heap := ⟨fun k h0 h1 => (fR_kept (x_lt hTH513 kH538 ga0 (by decide))).trans (f519.1 k h0 h1), fun q t hq h1 => (x_lt hTH513 kH538 hq (by first | omega | (intro z; simp only [List.mem_cons, List.not_mem_nil, or_false] at z <;> omega))).trans (f519.2 q t hq h1)⟩
  have f546 : ∀ j : Nat, fI H538 gq j = fI s.heap gq j := fun j => (fI_kept (x_lt hTH513 kH538 ggq (by decide))).trans (f520 j)
  have m547 := (m521).trans (fR_kept (x_lt hTH513 kH538 ga0 (by decide))).symm
  have m548 := (m522).trans (fR_kept (x_lt hTH513 kH538 ga0 (by decide))).symm
  have m549 := (m523).trans (fR_kept (x_lt hTH513 kH538 ga0 (by decide))).symm
  have m550 := (m524).trans (fR_kept (x_lt hTH513 kH538 ga0 (by decide))).symm
  have m551 := (m525).trans (fR_kept (x_lt hTH513 kH538 ga0 (by decide))).symm
  have m552 := (m526).trans (fR_kept (x_lt hTH513 kH538 ga0 (by decide))).symm
  have m553 := (m527).trans (fR_kept (x_lt hTH513 kH538 ga0 (by decide))).symm
  have m554 := (m528).trans (fR_kept (x_lt hTH513 kH538 ga0 (by decide))).symm
  have m555 := (m529).trans (fI_kept (x_lt hTH513 kH538 gpsq (by decide))).symm
  have m556 := (m530).trans (fI_kept (x_lt hTH513 kH538 glbq (by decide))).symm
  have m557 := (m531).trans (fI_kept (x_lt hTH513 kH538 ga0 (by decide))).symm
  have m558 := (m532).trans (fI_kept (x_lt hTH513 kH538 gslq (by decide))).symm
  have m559 := (m533).trans (fI_kept (x_lt hTH513 kH538 ga0 (by decide))).symm
  have m560 := (m534).trans (fI_kept (x_lt hTH513 kH538 ga0 (by decide))).symm
  have m561 := (fI_kept (x_lt hTH513 kH538 ga0 (by decide))).trans m535
  have vr562 : vwR K H538 a0 x1.toNatClampNeg = (vwR K s.heap a0 x1.toNatClampNeg) := (vr_frr hTH513 ga0 (fun q t hq h1 h2 => x_lt hTH513 kH538 hq (by first | omega | (intro z; simp only [List.mem_cons, List.not_mem_nil, or_false] at z <;> omega)))).trans vr536
  have vo563 : ∀ b2 : Nat, b2 ≠ x1.toNatClampNeg → EqV (vwR K H538 a0 b2) (vwR K s.heap a0 b2) := fun b2 hb => by rw [vr_frr hTH513 ga0 (fun q t hq h1 h2 => x_lt hTH513 kH538 hq (by first | omega | (intro z; simp only [List.mem_cons, List.not_mem_nil, or_false] at z <;> omega)))]; exact vo537 b2 hb
  refine W.eq (g2 := F0 m 13 ls [.int x539]) rfl ?_
  refine lv_if_eq (tgt := 26) hx hb dX10_shave_13 (by decide) (fun c564 => ?_) (fun c564 => ?_)
  · have k565 := i_eq c564
    refine lv_iconst (v := (-1)) hx hb dX10_shave_26 (by decide) ?_
    have hcn_ : ¬ (0 ≤ x2.toInt ∧ x2.toInt < (vwR K s.heap a0 x1.toNatClampNeg) 0 0 ∧ 1 ≤ x3.toInt ∧ x3.toInt ≤ 9 ∧ x3.toInt < (vwR K s.heap a0 x1.toNatClampNeg) 1 x2.toInt.toNat ∧ (vwR K s.heap a0 x1.toNatClampNeg) 8 0 < 200) := fun z => by have z1 := z.2.2.1; have z2 := z.2.2.2.1; omega
    exact x_iret C hQ dX10_shave_27 hSH538 (by decide) (by decide) (⟨(-1), ps, lb, rfl, m555, m556, m547, m548, m549, m550, m551, m552, m553, m554, m559, m560, g541, g542, g543, g544, mf540, (vr562.trans (paV_no hcn_).symm), (paR_n hcn_ rfl), vo563, hTH538⟩)
  · have k565 := i_ne c564
    refine lv_aload_n hx hb dX10_shave_16 rfl (lv_at hl 0 rfl) ?_
    refine lv_iload_n hx hb dX10_shave_17 rfl (lv_at hl 1 rfl) ?_
    refine lv_iload_n hx hb dX10_shave_18 rfl (lv_at hl 2 rfl) ?_
    refine lv_iload_n hx hb dX10_shave_19 rfl (lv_at hl 3 rfl) ?_
    refine x_V (As := [.int x1, .int x2, .int x3]) (rest := []) C (a_X10_canPass_v l K G H538 (x1) (x2) (x3) (bs) (sz) (ps) hTH538 ga0 (by omega) gslq m553 gkq m547 gpsq m550 m557 m558 m555 (by omega)) yo_X10_canPass wM_X10_341 ⟨⟨by decide, by decide⟩, by decide, by decide⟩ (x_rv C hTH538 (ci := 10) rfl ga0 rg_112) rfl hl.1 rfl (Nat.le_of_ble_eq_true rfl) dX10_shave_20 hSH538 (AE_sub (fun _ _ => rfl) (by decide) hSH538.1) (fun vH566 H566 locsH566 pH566 zH566 kH566 hSH566 => ?_)
    obtain ⟨x567, hvH566, bx567, hrH566, m568, hTH566⟩ := pH566
    subst hvH566
    have mf569 : MF K s.heap H566 a0 [0] := MF.eff (x_lt hTH538 kH566 ga0 (by decide)) mf540
    have g570 : CG (avw K H566 a0) := CG.congr (fun k hk j => av_eff hTH538 kH566 ga0 (by decide) (CG_eff [] (by decide) k hk)) g541
    have g571 : TU (avw K H566 a0) (svw K H566 a0) := TU.congr (fun k hk j => av_eff hTH538 kH566 ga0 (by decide) (TU_eff [] (by decide) k hk)) (fun k hk => sv_eff hTH538 kH566 ga0 (by decide)) g542
    have g572 : WD (avw K H566 a0) := WD.congr (fun k hk j => av_eff hTH538 kH566 ga0 (by decide) (WD_eff [] (by decide) k hk)) g543
    have g573 : IM (avw K H566 a0) := IM.congr (fun k hk j => av_eff hTH538 kH566 ga0 (by decide) (IM_eff [] (by decide) k hk)) g544
    have f574 : TXG K a0 G H566 s.heap := ⟨fun k h0 h1 => (fR_kept (x_lt hTH538 kH566 ga0 (by decide))).trans (f545.1 k h0 h1), fun q t hq h1 => (x_lt hTH538 kH566 hq (by first | omega | (intro z; simp only [List.mem_cons, List.not_mem_nil, or_false] at z <;> omega))).trans (f545.2 q t hq h1)⟩
    have f575 : ∀ j : Nat, fI H566 gq j = fI s.heap gq j := fun j => (fI_kept (x_lt hTH538 kH566 ggq (by decide))).trans (f546 j)
    have m576 := (m547).trans (fR_kept (x_lt hTH538 kH566 ga0 (by decide))).symm
    have m577 := (m548).trans (fR_kept (x_lt hTH538 kH566 ga0 (by decide))).symm
    have m578 := (m549).trans (fR_kept (x_lt hTH538 kH566 ga0 (by decide))).symm
    have m579 := (m550).trans (fR_kept (x_lt hTH538 kH566 ga0 (by decide))).symm
    have m580 := (m551).trans (fR_kept (x_lt hTH538 kH566 ga0 (by decide))).symm
    have m581 := (m552).trans (fR_kept (x_lt hTH538 kH566 ga0 (by decide))).symm
    have m582 := (m553).trans (fR_kept (x_lt hTH538 kH566 ga0 (by decide))).symm
    have m583 := (m554).trans (fR_kept (x_lt hTH538 kH566 ga0 (by decide))).symm
    have m584 := (m555).trans (fI_kept (x_lt hTH538 kH566 gpsq (by decide))).symm
    have m585 := (m556).trans (fI_kept (x_lt hTH538 kH566 glbq (by decide))).symm
    have m586 := (m557).trans (fI_kept (x_lt hTH538 kH566 ga0 (by decide))).symm
    have m587 := (m558).trans (fI_kept (x_lt hTH538 kH566 gslq (by decide))).symm
    have m588 := (m559).trans (fI_kept (x_lt hTH538 kH566 ga0 (by decide))).symm
    have m589 := (m560).trans (fI_kept (x_lt hTH538 kH566 ga0 (by decide))).symm
    have m590 := (fI_kept (x_lt hTH538 kH566 ga0 (by decide))).trans m561
    have cp591 : (x567.toInt = 1 ∧ cpV (vwR K s.heap a0 x1.toNatClampNeg) x2.toInt x3.toInt) ∨ (x567.toInt = 0 ∧ ¬ cpV (vwR K s.heap a0 x1.toNatClampNeg) x2.toInt x3.toInt) := by rw [← vr562]; exact m568
    have vr592 : vwR K H566 a0 x1.toNatClampNeg = (vwR K s.heap a0 x1.toNatClampNeg) := (vr_frr hTH538 ga0 (fun q t hq h1 h2 => x_lt hTH538 kH566 hq (by first | omega | (intro z; simp only [List.mem_cons, List.not_mem_nil, or_false] at z <;> omega)))).trans vr562
    have vo593 : ∀ b2 : Nat, b2 ≠ x1.toNatClampNeg → EqV (vwR K H566 a0 b2) (vwR K s.heap a0 b2) := fun b2 hb => by rw [vr_frr hTH538 ga0 (fun q t hq h1 h2 => x_lt hTH538 kH566 hq (by first | omega | (intro z; simp only [List.mem_cons, List.not_mem_nil, or_false] at z <;> omega)))]; exact vo563 b2 hb
    refine W.eq (g2 := F0 m 23 ls [.int x567]) rfl ?_
    refine lv_if_ne (tgt := 28) hx hb dX10_shave_23 (by decide) (fun c594 => ?_) (fun c594 => ?_)
    · have k595 := i_ne c594
      refine lv_aload_n hx hb dX10_shave_28 rfl (lv_at hl 0 rfl) ?_
      refine lv_iload_n hx hb dX10_shave_29 rfl (lv_at hl 1 rfl) ?_
      refine lv_iload_n hx hb dX10_shave_30 rfl (lv_at hl 2 rfl) ?_
      refine lv_iload_n hx hb dX10_shave_31 rfl (lv_at hl 3 rfl) ?_
      refine x_V (As := [.int x1, .int x2, .int x3]) (rest := []) C (a_X10_takesOff_v l K G H566 (x1) (x2) (x3) (ps) (lb) (sz) (fo) (sl) (fsE) (fwE) hTH566 ga0 (by omega) (by omega) (by omega) gkq m576 gpaq m577 gpdq m578 gpsq m579 glbq m580 ggq m581 gslq m582 m584 m585 m587 m588 m589 g570 (by omega) (by omega) (by omega) ((TXR.frr hT ga0 f574 hy0)) ((fun j hj => by rw [f575 (3 * x1.toNatClampNeg + j)]; exact hy1 j hj)) (by have z := (cp591.resolve_right (fun z => by have := z.1; omega)).2.2.2.1; rw [← vr592, vwR_a (k := 1) (by decide)] at z; rw [m576]; exact z)) yo_X10_takesOff wM_X10_344 ⟨⟨by decide, by decide⟩, by decide, by decide⟩ (x_rv C hTH566 (ci := 10) rfl ga0 rg_112) rfl hl.1 rfl (Nat.le_of_ble_eq_true rfl) dX10_shave_32 hSH566 (AE_sub (fun _ _ => rfl) (by decide) hSH566.1) (fun vH596 H596 locsH596 pH596 zH596 kH596 hSH596 => ?_)
      obtain ⟨x597, x598, hvH596, ex597, ex598, m599, m600, hTH596⟩ := pH596
      subst hvH596
      have mf601 : MF K s.heap H596 a0 [0] := MF.eff (x_lt hTH566 kH596 ga0 (by decide)) mf569
      have g602 : CG (avw K H596 a0) := CG.congr (fun k hk j => av_eff hTH566 kH596 ga0 (by decide) (CG_eff [114, 120, 121, 119, 122, 140, 139] (by decide) k hk)) g570
      have g603 : TU (avw K H596 a0) (svw K H596 a0) := TU.congr (fun k hk j => av_eff hTH566 kH596 ga0 (by decide) (TU_eff [114, 120, 121, 119, 122, 140, 139] (by decide) k hk)) (fun k hk => sv_eff hTH566 kH596 ga0 (by decide)) g571
      have g604 : WD (avw K H596 a0) := WD.congr (fun k hk j => av_eff hTH566 kH596 ga0 (by decide) (WD_eff [114, 120, 121, 119, 122, 140, 139] (by decide) k hk)) g572
      have g605 : IM (avw K H596 a0) := IM.congr (fun k hk j => av_eff hTH566 kH596 ga0 (by decide) (IM_eff [114, 120, 121, 119, 122, 140, 139] (by decide) k hk)) g573
      have f606 : TXG K a0 G H596 s.heap := ⟨fun k h0 h1 => (fR_kept (x_lt hTH566 kH596 ga0 (by decide))).trans (f574.1 k h0 h1), fun q t hq h1 => (x_lt hTH566 kH596 hq (by first | omega | (intro z; simp only [List.mem_cons, List.not_mem_nil, or_false] at z <;> omega))).trans (f574.2 q t hq h1)⟩
      have f607 : ∀ j : Nat, fI H596 gq j = fI s.heap gq j := fun j => (fI_kept (x_lt hTH566 kH596 ggq (by decide))).trans (f575 j)
      have m608 := (m576).trans (fR_kept (x_lt hTH566 kH596 ga0 (by decide))).symm
      have m609 := (m577).trans (fR_kept (x_lt hTH566 kH596 ga0 (by decide))).symm
      have m610 := (m578).trans (fR_kept (x_lt hTH566 kH596 ga0 (by decide))).symm
      have m611 := (m579).trans (fR_kept (x_lt hTH566 kH596 ga0 (by decide))).symm
      have m612 := (m580).trans (fR_kept (x_lt hTH566 kH596 ga0 (by decide))).symm
      have m613 := (m581).trans (fR_kept (x_lt hTH566 kH596 ga0 (by decide))).symm
      have m614 := (m582).trans (fR_kept (x_lt hTH566 kH596 ga0 (by decide))).symm
      have m615 := (m583).trans (fR_kept (x_lt hTH566 kH596 ga0 (by decide))).symm
      have m616 := (m586).trans (fI_kept (x_lt hTH566 kH596 ga0 (by decide))).symm
      have m617 := (m587).trans (fI_kept (x_lt hTH566 kH596 gslq (by decide))).symm
      have m618 := (m588).trans (fI_kept (x_lt hTH566 kH596 ga0 (by decide))).symm
      have m619 := (m589).trans (fI_kept (x_lt hTH566 kH596 ga0 (by decide))).symm
      have m620 := (fI_kept (x_lt hTH566 kH596 ga0 (by decide))).trans m590
      have bx597 := ty_ai (x := x597) ex597 hTH596 gpsq rg_119 (by omega)
      have bx598 := ty_ai (x := x598) ex598 hTH596 glbq rg_122 (by omega)
      have vr621 : vwR K H596 a0 x1.toNatClampNeg = (paV (tlR K s.heap a0 fo.toNatClampNeg fsE fwE) sl.toInt (vwR K s.heap a0 x1.toNatClampNeg) x2.toInt x3.toInt) := by rw [m599, tlR_frr hT ga0 f574, vr592]
      have vo622 : ∀ b2 : Nat, b2 ≠ x1.toNatClampNeg → EqV (vwR K H596 a0 b2) (vwR K s.heap a0 b2) := fun b2 hb => (m600 b2 hb).tr (vo593 b2 hb)
      refine W.eq (g2 := F0 m 35 ls []) rfl ?_
      refine lv_aload_n hx hb dX10_shave_35 rfl (lv_at hl 0 rfl) ?_
      refine x_gr C hTH596 (ci := 10) (k := 10) rfl inX10 (by decide) wF_X10_32 ga0 rg_112 rfl dX10_shave_36 (fun q623 eq623 gq623 => ?_)
      have uq623 : psq = q623 := (m611).trans eq623.symm
      subst uq623
      refine lv_iload_n hx hb dX10_shave_39 rfl (lv_at hl 1 rfl) ?_
      refine x_ai C hTH596 gpsq rg_119 ⟨by omega, by show _ < ((10 : Nat) : Int); omega⟩ dX10_shave_40 (fun x624 ex624 bx624 => ?_)
      have ux624 : x597 = x624 := (ex597).trans ex624.symm
      subst ux624
      have hcz_ := (cp591.resolve_right (fun z => by have := z.1; omega)).2
      have hcy_ : 0 ≤ x2.toInt ∧ x2.toInt < (vwR K s.heap a0 x1.toNatClampNeg) 0 0 ∧ 1 ≤ x3.toInt ∧ x3.toInt ≤ 9 ∧ x3.toInt < (vwR K s.heap a0 x1.toNatClampNeg) 1 x2.toInt.toNat ∧ (vwR K s.heap a0 x1.toNatClampNeg) 8 0 < 200 := ⟨hcz_.1, hcz_.2.1, by omega, by omega, hcz_.2.2.1, hcz_.2.2.2⟩
      have r8_ : x597.toInt = vwR K H596 a0 x1.toNatClampNeg 8 0 := by rw [vwR_f (Or.inr (Or.inl rfl))]; show _ = (fI H596 (fR H596 a0 (K.1.2 10 10)) x1.toNatClampNeg).toInt; rw [← m611, ← ex597]
      exact x_iret C hQ dX10_shave_41 hSH596 (by decide) (by decide) (⟨x597, x597, x598, rfl, ex597, ex598, m608, m609, m610, m611, m612, m613, m614, m615, m618, m619, g602, g603, g604, g605, mf601, vr621, (paR_y hcy_ (r8_.trans (by rw [vr621]; exact paV_8 hcy_))), vo622, hTH596⟩)
    · have k595 := i_eq c594
      refine lv_iconst (v := (-1)) hx hb dX10_shave_26 (by decide) ?_
      have hcn_ : ¬ (0 ≤ x2.toInt ∧ x2.toInt < (vwR K s.heap a0 x1.toNatClampNeg) 0 0 ∧ 1 ≤ x3.toInt ∧ x3.toInt ≤ 9 ∧ x3.toInt < (vwR K s.heap a0 x1.toNatClampNeg) 1 x2.toInt.toNat ∧ (vwR K s.heap a0 x1.toNatClampNeg) 8 0 < 200) := fun z => (cp591.resolve_left (fun z => by have := z.1; omega)).2 ⟨z.1, z.2.1, z.2.2.2.2.1, z.2.2.2.2.2⟩
      exact x_iret C hQ dX10_shave_27 hSH566 (by decide) (by decide) (⟨(-1), ps, lb, rfl, m584, m585, m576, m577, m578, m579, m580, m581, m582, m583, m588, m589, g570, g571, g572, g573, mf569, (vr592.trans (paV_no hcn_).symm), (paR_n hcn_ rfl), vo593, hTH566⟩)
