
set_option maxHeartbeats 4000000 in
set_option maxRecDepth 100000 in
theorem a_X4_lawHead_e (l : Launch) (K : KE) (G : Nat → Option Nat) (H : Heap) {a0 : Nat} (x1 : Int32) (x2 : Int32) {mq : Nat} {kq : Nat} {vq : Nat} (F : Int32) (tat : Int32) (fa : Int32) (lw : Int32) (li : Int32) (kk : Nat → Int) (vv : Nat → Int) (hT : TY K G H) (ga0 : G a0 = some 78) (hx1 : 0 ≤ x1.toInt ∧ x1.toInt ≤ 15) (gmq : G mq = some 69) (emq : mq = fR H a0 (K.1.2 4 0)) (gkq : G kq = some 79) (ekq : kq = fR H a0 (K.1.2 4 3)) (gvq : G vq = some 80) (evq : vq = fR H a0 (K.1.2 4 4)) (etat : tat = fI H a0 (K.1.2 4 7)) (efa : fa = fI H a0 (K.1.2 4 1)) (elw : lw = fI H a0 (K.1.2 4 8)) (eli : li = fI H mq (K.1.2 7 0)) (hel0 : fI H kq (F : Int32).toNatClampNeg = 26) (hp0 : tat.toInt ≤ F.toInt) (hp1 : F.toInt ≤ 500) (hv_kk : ∀ j : Nat, j ≤ F.toNatClampNeg → kk j = (fI H kq j).toInt) (hv_vv : ∀ j : Nat, j ≤ F.toNatClampNeg → vv j = (fI H vq j).toInt) : MX l K yX4_lawHead cX4_lawHead 3 (some .boolean) 2 43 0 0 [.ref a0, .int x1, .int x2] H (AE G [78, 71] H.size) (fun v H1 => ∃ (r : Int32) (t0 : Int32) (t1 : Int32), v = some (.int r) ∧ (0 ≤ r.toInt ∧ r.toInt ≤ 1) ∧ t0 = fI H1 a0 (K.1.2 4 7) ∧ t1 = fI H1 a0 (K.1.2 4 1) ∧ (t0.toInt ≤ F.toInt ∧ ((r.toInt = 1 ∧ t1.toInt = fa.toInt ∧ tat.toInt ≤ t0.toInt) ∨ (r.toInt = 0 ∧ t1.toInt ≠ 0))) ∧ mq = fR H1 a0 (K.1.2 4 0) ∧ kq = fR H1 a0 (K.1.2 4 3) ∧ vq = fR H1 a0 (K.1.2 4 4) ∧ lw = fI H1 a0 (K.1.2 4 8) ∧ (RQ (hlI kk vv x2.toInt tat.toNatClampNeg) r t0) ∧ TY K G H1) := by
  refine MX.of (by decide +kernel) (Nat.le_of_ble_eq_true rfl) ?_
  intro p e s m below meth c ls Q C hH hl hQ
  subst hH
  have C : CX p K s m _ meth c RX4 cX4_lawHead 3 (some .boolean) "lawHead" := C
  obtain ⟨hx, hb, hml, hown, hts, hKT, hr, hlocks, hnm⟩ := id C
  have hl : lv_has ls 3 [(0, .ref a0), (1, .int x1), (2, .int x2)] := hl
  have hS : va_S (AE G [78, 71] s.heap.size) s.heap s.heap [] := va_S.rf
  have n_0 : (0 : Int32).toInt = 0 := rfl
  have n_1 : (1 : Int32).toInt = 1 := rfl
  have n_2 : (2 : Int32).toInt = 2 := rfl
  have n_3 : (3 : Int32).toInt = 3 := rfl
  have btat := ty_fi (x := tat) (k := 7) etat hT ga0 rg_78 rfl
  have bfa := ty_fi (x := fa) (k := 1) efa hT ga0 rg_78 rfl
  have blw := ty_fi (x := lw) (k := 8) elw hT ga0 rg_78 rfl
  have bli := ty_fi (x := li) (k := 0) eli hT gmq rg_69 rfl
  have hsp0 : hlI kk vv x2.toInt tat.toNatClampNeg = hlI kk vv x2.toInt tat.toNatClampNeg := rfl
  have f0_kk := hv_kk
  have f0_vv := hv_vv
  refine lv_iload_n hx hb dX4_lawHead_0 rfl (lv_at hl 2 rfl) ?_
  refine lv_iconst (v := 3) hx hb dX4_lawHead_1 (by decide) ?_
  refine lv_icmp_ne (tgt := 7) hx hb dX4_lawHead_2 (by decide) (fun c245 => ?_) (fun c245 => ?_)
  · have k246 := i_ne c245
    refine lv_aload_n hx hb dX4_lawHead_7 rfl (lv_at hl 0 rfl) ?_
    refine lv_iconst (v := 0) hx hb dX4_lawHead_8 (by decide) ?_
    refine lv_iconst (v := 2) hx hb dX4_lawHead_9 (by decide) ?_
    refine x_V (As := [.int 0, .int 2]) (rest := []) C (a_X4_number_e l K G s.heap (0) (2) (F) (tat) (fa) (lw) (li) kk vv hT ga0 gmq emq gkq ekq gvq evq etat efa elw eli hel0 (by omega) (by omega) f0_kk f0_vv) yo_X4_number wM_X4_119 ⟨⟨by decide, by decide⟩, by decide, by decide⟩ (x_rv C hT (ci := 4) rfl ga0 rg_78) rfl hl.1 rfl (Nat.le_of_ble_eq_true rfl) dX4_lawHead_10 hS (AE_sub (fun _ _ => rfl) (by decide) hS.1) (fun vH247 H247 locsH247 pH247 zH247 kH247 hSH247 => ?_)
    obtain ⟨x248, x249, x250, hvH247, bx248, ex249, ex250, hrH247, m251, m252, m253, m254, hTH247⟩ := pH247
    subst hvH247
    have f255 : ∀ j : Nat, j ≤ F.toNatClampNeg → kk j = (fI H247 kq j).toInt := fun j hj => (f0_kk j hj).trans (congrArg Int32.toInt (fI_kept (x_lt hT kH247 gkq (by decide))).symm)
    have f256 : ∀ j : Nat, j ≤ F.toNatClampNeg → vv j = (fI H247 vq j).toInt := fun j hj => (f0_vv j hj).trans (congrArg Int32.toInt (fI_kept (x_lt hT kH247 gvq (by decide))).symm)
    have m257 := (eli).trans (fI_kept (x_lt hT kH247 gmq (by decide))).symm
    have m258 := (fI_kept (x_lt hT kH247 gkq (by decide))).trans hel0
    have bx249 := ty_fi (x := x249) (k := 7) ex249 hTH247 ga0 rg_78 rfl
    have bx250 := ty_fi (x := x250) (k := 1) ex250 hTH247 ga0 rg_78 rfl
    refine W.eq (g2 := F0 m 13 ls [.int x248]) rfl ?_
    refine lv_if_ne (tgt := 18) hx hb dX4_lawHead_13 (by decide) (fun c259 => ?_) (fun c259 => ?_)
    · have k260 := i_ne c259
      refine lv_aload_n hx hb dX4_lawHead_18 rfl (lv_at hl 0 rfl) ?_
      refine x_gr C hTH247 (ci := 4) (k := 0) rfl inX4 (by decide) wF_X4_12 ga0 rg_78 rfl dX4_lawHead_19 (fun q261 eq261 gq261 => ?_)
      have uq261 : mq = q261 := (m251).trans eq261.symm
      subst uq261
      refine x_gr C hTH247 (ci := 7) (k := 2) rfl inX7 (by decide) wF_X4_90 gmq rg_69 rfl dX4_lawHead_22 (fun q262 eq262 gq262 => ?_)
      refine lv_iload_n hx hb dX4_lawHead_25 rfl (lv_at hl 1 rfl) ?_
      refine lv_aload_n hx hb dX4_lawHead_26 rfl (lv_at hl 0 rfl) ?_
      refine x_gr C hTH247 (ci := 4) (k := 4) rfl inX4 (by decide) wF_X4_22 ga0 rg_78 rfl dX4_lawHead_27 (fun q263 eq263 gq263 => ?_)
      have uq263 : vq = q263 := (m253).trans eq263.symm
      subst uq263
      refine lv_aload_n hx hb dX4_lawHead_30 rfl (lv_at hl 0 rfl) ?_
      refine x_gi C hTH247 (ci := 4) (k := 7) rfl inX4 (by decide) wF_X4_42 ga0 rg_78 rfl dX4_lawHead_31 (fun x264 ex264 bx264 => ?_)
      have ux264 : x249 = x264 := (ex249).trans ex264.symm
      subst ux264
      refine lv_iconst (v := 1) hx hb dX4_lawHead_34 (by decide) ?_
      refine lv_isub hx hb dX4_lawHead_35 ?_
      refine lv_topi (fun x265 ex265 => ?_)
      have tx265 := i_sub ex265 (by omega)
      refine x_ai C hTH247 gvq rg_80 ⟨by omega, by show _ < ((501 : Nat) : Int); omega⟩ dX4_lawHead_36 (fun x266 ex266 bx266 => ?_)
      have qvx266 : vv x265.toNatClampNeg = x266.toInt := (f256 _ (by have h1 := i_cl (x := x265) (by omega); have h2 := i_cl (x := F) (by omega); omega)).trans (congrArg Int32.toInt ex266.symm)
      refine x_iast C hTH247 hSH247 gq262 rg_71 (by omega) (by show _ < ((16 : Nat) : Int); omega) ⟨by have := i_rng x266; omega, by have := i_rng x266; omega⟩ (AE_in gq262 (by decide)) dX4_lawHead_37 (fun H267 locsH267 hTH267 hSH267 wH267 => ?_)
      have f268 : ∀ j : Nat, j ≤ F.toNatClampNeg → kk j = (fI H267 kq j).toInt := fun j hj => (f255 j hj).trans (congrArg Int32.toInt (Wr.neI wH267 (Or.inl (G_ne gkq gq262 (by decide)))).symm)
      have f269 : ∀ j : Nat, j ≤ F.toNatClampNeg → vv j = (fI H267 vq j).toInt := fun j hj => (f256 j hj).trans (congrArg Int32.toInt (Wr.neI wH267 (Or.inl (G_ne gvq gq262 (by decide)))).symm)
      have m270 := m257.trans (Wr.neI wH267 (Or.inl (G_ne gmq gq262 (by decide)))).symm
      have m271 := (Wr.neI wH267 (Or.inl (G_ne gkq gq262 (by decide)))).trans m258
      have m272 := m251.trans (Wr.neR wH267 (Or.inl (G_ne ga0 gq262 (by decide)))).symm
      have m273 := m252.trans (Wr.neR wH267 (Or.inl (G_ne ga0 gq262 (by decide)))).symm
      have m274 := m253.trans (Wr.neR wH267 (Or.inl (G_ne ga0 gq262 (by decide)))).symm
      have m275 := m254.trans (Wr.neI wH267 (Or.inl (G_ne ga0 gq262 (by decide)))).symm
      have m276 := ex249.trans (Wr.neI wH267 (Or.inl (G_ne ga0 gq262 (by decide)))).symm
      have m277 := ex250.trans (Wr.neI wH267 (Or.inl (G_ne ga0 gq262 (by decide)))).symm
      have m278 := eq262.trans (Wr.neR wH267 (Or.inl (G_ne gmq gq262 (by decide)))).symm
      have m279 := ex266.trans (Wr.neI wH267 (Or.inl (G_ne gvq gq262 (by decide)))).symm
      have m280 := Wr.I wH267
      have m280 := m280.symm
      refine lv_iconst (v := 1) hx hb dX4_lawHead_38 (by decide) ?_
      have cn_F := i_cl (x := F) (by omega)
      have cn_tat := i_cl (x := tat) (by omega)
      have cn_x249 := i_cl (x := x249) (by omega)
      exact x_zret C hQ (Or.inr rfl) dX4_lawHead_39 hSH267 (by decide) (by decide) (⟨1, x249, x250, rfl, by decide, m276, m277, by omega, m272, m273, m274, m275, Or.inr ⟨(if_neg (by omega)).trans (nm_y (by omega) (by omega)), by omega⟩, hTH267⟩)
    · have k260 := i_eq c259
      refine lv_iconst (v := 0) hx hb dX4_lawHead_16 (by decide) ?_
      have cn_F := i_cl (x := F) (by omega)
      have cn_tat := i_cl (x := tat) (by omega)
      have cn_x249 := i_cl (x := x249) (by omega)
      exact x_zret C hQ (Or.inl rfl) dX4_lawHead_17 hSH247 (by decide) (by decide) (⟨0, x249, x250, rfl, by decide, ex249, ex250, by omega, m251, m252, m253, m254, Or.inl ⟨(if_neg (by omega)).trans (nm_n (by omega)), by omega⟩, hTH247⟩)
  · have k246 := i_eq c245
    refine lv_iconst (v := 1) hx hb dX4_lawHead_5 (by decide) ?_
    have cn_F := i_cl (x := F) (by omega)
    have cn_tat := i_cl (x := tat) (by omega)
    have cn_tat := i_cl (x := tat) (by omega)
    exact x_zret C hQ (Or.inr rfl) dX4_lawHead_6 hS (by decide) (by decide) (⟨1, tat, fa, rfl, by decide, etat, efa, by omega, emq, ekq, evq, elw, Or.inr ⟨if_pos (by omega), by omega⟩, hT⟩)

set_option maxHeartbeats 4000000 in
set_option maxRecDepth 100000 in
theorem a_X4_jobHead_e (l : Launch) (K : KE) (G : Nat → Option Nat) (H : Heap) {a0 : Nat} (x1 : Int32) (x2 : Int32) {mq : Nat} {kq : Nat} {vq : Nat} (F : Int32) (tat : Int32) (fa : Int32) (lw : Int32) (li : Int32) (kk : Nat → Int) (vv : Nat → Int) (hT : TY K G H) (ga0 : G a0 = some 78) (hx1 : 0 ≤ x1.toInt ∧ x1.toInt ≤ 15) (gmq : G mq = some 69) (emq : mq = fR H a0 (K.1.2 4 0)) (gkq : G kq = some 79) (ekq : kq = fR H a0 (K.1.2 4 3)) (gvq : G vq = some 80) (evq : vq = fR H a0 (K.1.2 4 4)) (etat : tat = fI H a0 (K.1.2 4 7)) (efa : fa = fI H a0 (K.1.2 4 1)) (elw : lw = fI H a0 (K.1.2 4 8)) (eli : li = fI H mq (K.1.2 7 0)) (hel0 : fI H kq (F : Int32).toNatClampNeg = 26) (hp0 : tat.toInt ≤ F.toInt) (hp1 : F.toInt ≤ 500) (hv_kk : ∀ j : Nat, j ≤ F.toNatClampNeg → kk j = (fI H kq j).toInt) (hv_vv : ∀ j : Nat, j ≤ F.toNatClampNeg → vv j = (fI H vq j).toInt) : MX l K yX4_jobHead cX4_jobHead 3 (some .boolean) 2 43 0 0 [.ref a0, .int x1, .int x2] H (AE G [78, 71, 72, 73] H.size) (fun v H1 => ∃ (r : Int32) (t0 : Int32) (t1 : Int32), v = some (.int r) ∧ (0 ≤ r.toInt ∧ r.toInt ≤ 1) ∧ t0 = fI H1 a0 (K.1.2 4 7) ∧ t1 = fI H1 a0 (K.1.2 4 1) ∧ (t0.toInt ≤ F.toInt ∧ ((r.toInt = 1 ∧ t1.toInt = fa.toInt ∧ tat.toInt < t0.toInt) ∨ (r.toInt = 0 ∧ t1.toInt ≠ 0))) ∧ mq = fR H1 a0 (K.1.2 4 0) ∧ kq = fR H1 a0 (K.1.2 4 3) ∧ vq = fR H1 a0 (K.1.2 4 4) ∧ lw = fI H1 a0 (K.1.2 4 8) ∧ (RQ (hjI kk vv x2.toInt tat.toNatClampNeg) r t0) ∧ TY K G H1) := by
  refine MX.of (by decide +kernel) (Nat.le_of_ble_eq_true rfl) ?_
  intro p e s m below meth c ls Q C hH hl hQ
  subst hH
  have C : CX p K s m _ meth c RX4 cX4_jobHead 3 (some .boolean) "jobHead" := C
  obtain ⟨hx, hb, hml, hown, hts, hKT, hr, hlocks, hnm⟩ := id C
  have hl : lv_has ls 3 [(0, .ref a0), (1, .int x1), (2, .int x2)] := hl
  have hS : va_S (AE G [78, 71, 72, 73] s.heap.size) s.heap s.heap [] := va_S.rf
  have n_0 : (0 : Int32).toInt = 0 := rfl
  have n_1 : (1 : Int32).toInt = 1 := rfl
  have n_5 : (5 : Int32).toInt = 5 := rfl
  have n_6 : (6 : Int32).toInt = 6 := rfl
  have n_9 : (9 : Int32).toInt = 9 := rfl
  have n_15 : (15 : Int32).toInt = 15 := rfl
  have n_99 : (99 : Int32).toInt = 99 := rfl
  have btat := ty_fi (x := tat) (k := 7) etat hT ga0 rg_78 rfl
  have bfa := ty_fi (x := fa) (k := 1) efa hT ga0 rg_78 rfl
  have blw := ty_fi (x := lw) (k := 8) elw hT ga0 rg_78 rfl
  have bli := ty_fi (x := li) (k := 0) eli hT gmq rg_69 rfl
  have hsp0 : hjI kk vv x2.toInt tat.toNatClampNeg = hjI kk vv x2.toInt tat.toNatClampNeg := rfl
  have f0_kk := hv_kk
  have f0_vv := hv_vv
  refine lv_aload_n hx hb dX4_jobHead_0 rfl (lv_at hl 0 rfl) ?_
  refine lv_iconst (v := 0) hx hb dX4_jobHead_1 (by decide) ?_
  refine lv_bipush (v := 15) hx hb dX4_jobHead_2 (by decide) ?_
  refine x_V (As := [.int 0, .int 15]) (rest := []) C (a_X4_number_e l K G s.heap (0) (15) (F) (tat) (fa) (lw) (li) kk vv hT ga0 gmq emq gkq ekq gvq evq etat efa elw eli hel0 (by omega) (by omega) f0_kk f0_vv) yo_X4_number wM_X4_119 ⟨⟨by decide, by decide⟩, by decide, by decide⟩ (x_rv C hT (ci := 4) rfl ga0 rg_78) rfl hl.1 rfl (Nat.le_of_ble_eq_true rfl) dX4_jobHead_4 hS (AE_sub (fun _ _ => rfl) (by decide) hS.1) (fun vH925 H925 locsH925 pH925 zH925 kH925 hSH925 => ?_)
  obtain ⟨x926, x927, x928, hvH925, bx926, ex927, ex928, hrH925, m929, m930, m931, m932, hTH925⟩ := pH925
  subst hvH925
  have f933 : ∀ j : Nat, j ≤ F.toNatClampNeg → kk j = (fI H925 kq j).toInt := fun j hj => (f0_kk j hj).trans (congrArg Int32.toInt (fI_kept (x_lt hT kH925 gkq (by decide))).symm)
  have f934 : ∀ j : Nat, j ≤ F.toNatClampNeg → vv j = (fI H925 vq j).toInt := fun j hj => (f0_vv j hj).trans (congrArg Int32.toInt (fI_kept (x_lt hT kH925 gvq (by decide))).symm)
  have m935 := (eli).trans (fI_kept (x_lt hT kH925 gmq (by decide))).symm
  have m936 := (fI_kept (x_lt hT kH925 gkq (by decide))).trans hel0
  have bx927 := ty_fi (x := x927) (k := 7) ex927 hTH925 ga0 rg_78 rfl
  have bx928 := ty_fi (x := x928) (k := 1) ex928 hTH925 ga0 rg_78 rfl
  refine W.eq (g2 := F0 m 7 ls [.int x926]) rfl ?_
  refine lv_if_ne (tgt := 12) hx hb dX4_jobHead_7 (by decide) (fun c937 => ?_) (fun c937 => ?_)
  · have k938 := i_ne c937
    refine lv_aload_n hx hb dX4_jobHead_12 rfl (lv_at hl 0 rfl) ?_
    refine x_gr C hTH925 (ci := 4) (k := 0) rfl inX4 (by decide) wF_X4_12 ga0 rg_78 rfl dX4_jobHead_13 (fun q939 eq939 gq939 => ?_)
    have uq939 : mq = q939 := (m929).trans eq939.symm
    subst uq939
    refine x_gr C hTH925 (ci := 7) (k := 2) rfl inX7 (by decide) wF_X4_90 gmq rg_69 rfl dX4_jobHead_16 (fun q940 eq940 gq940 => ?_)
    refine lv_iload_n hx hb dX4_jobHead_19 rfl (lv_at hl 1 rfl) ?_
    refine lv_aload_n hx hb dX4_jobHead_20 rfl (lv_at hl 0 rfl) ?_
    refine x_gr C hTH925 (ci := 4) (k := 4) rfl inX4 (by decide) wF_X4_22 ga0 rg_78 rfl dX4_jobHead_21 (fun q941 eq941 gq941 => ?_)
    have uq941 : vq = q941 := (m931).trans eq941.symm
    subst uq941
    refine lv_aload_n hx hb dX4_jobHead_24 rfl (lv_at hl 0 rfl) ?_
    refine x_gi C hTH925 (ci := 4) (k := 7) rfl inX4 (by decide) wF_X4_42 ga0 rg_78 rfl dX4_jobHead_25 (fun x942 ex942 bx942 => ?_)
    have ux942 : x927 = x942 := (ex927).trans ex942.symm
    subst ux942
    refine lv_iconst (v := 1) hx hb dX4_jobHead_28 (by decide) ?_
    refine lv_isub hx hb dX4_jobHead_29 ?_
    refine lv_topi (fun x943 ex943 => ?_)
    have tx943 := i_sub ex943 (by omega)
    refine x_ai C hTH925 gvq rg_80 ⟨by omega, by show _ < ((501 : Nat) : Int); omega⟩ dX4_jobHead_30 (fun x944 ex944 bx944 => ?_)
    have qvx944 : vv x943.toNatClampNeg = x944.toInt := (f934 _ (by have h1 := i_cl (x := x943) (by omega); have h2 := i_cl (x := F) (by omega); omega)).trans (congrArg Int32.toInt ex944.symm)
    refine x_iast C hTH925 hSH925 gq940 rg_71 (by omega) (by show _ < ((16 : Nat) : Int); omega) ⟨by have := i_rng x944; omega, by have := i_rng x944; omega⟩ (AE_in gq940 (by decide)) dX4_jobHead_31 (fun H945 locsH945 hTH945 hSH945 wH945 => ?_)
    have f946 : ∀ j : Nat, j ≤ F.toNatClampNeg → kk j = (fI H945 kq j).toInt := fun j hj => (f933 j hj).trans (congrArg Int32.toInt (Wr.neI wH945 (Or.inl (G_ne gkq gq940 (by decide)))).symm)
    have f947 : ∀ j : Nat, j ≤ F.toNatClampNeg → vv j = (fI H945 vq j).toInt := fun j hj => (f934 j hj).trans (congrArg Int32.toInt (Wr.neI wH945 (Or.inl (G_ne gvq gq940 (by decide)))).symm)
    have m948 := m935.trans (Wr.neI wH945 (Or.inl (G_ne gmq gq940 (by decide)))).symm
    have m949 := (Wr.neI wH945 (Or.inl (G_ne gkq gq940 (by decide)))).trans m936
    have m950 := m929.trans (Wr.neR wH945 (Or.inl (G_ne ga0 gq940 (by decide)))).symm
    have m951 := m930.trans (Wr.neR wH945 (Or.inl (G_ne ga0 gq940 (by decide)))).symm
    have m952 := m931.trans (Wr.neR wH945 (Or.inl (G_ne ga0 gq940 (by decide)))).symm
    have m953 := m932.trans (Wr.neI wH945 (Or.inl (G_ne ga0 gq940 (by decide)))).symm
    have m954 := ex927.trans (Wr.neI wH945 (Or.inl (G_ne ga0 gq940 (by decide)))).symm
    have m955 := ex928.trans (Wr.neI wH945 (Or.inl (G_ne ga0 gq940 (by decide)))).symm
    have m956 := eq940.trans (Wr.neR wH945 (Or.inl (G_ne gmq gq940 (by decide)))).symm
    have m957 := ex944.trans (Wr.neI wH945 (Or.inl (G_ne gvq gq940 (by decide)))).symm
    have m958 := Wr.I wH945
    have m958 := m958.symm
    refine lv_iload_n hx hb dX4_jobHead_32 rfl (lv_at hl 2 rfl) ?_
    refine lv_iconst (v := 5) hx hb dX4_jobHead_33 (by decide) ?_
    refine lv_icmp_ne (tgt := 69) hx hb dX4_jobHead_34 (by decide) (fun c959 => ?_) (fun c959 => ?_)
    · have k960 := i_ne c959
      refine lv_iload_n hx hb dX4_jobHead_69 rfl (lv_at hl 2 rfl) ?_
      refine lv_bipush (v := 6) hx hb dX4_jobHead_70 (by decide) ?_
      refine lv_icmp_ne (tgt := 88) hx hb dX4_jobHead_72 (by decide) (fun c961 => ?_) (fun c961 => ?_)
      · have k962 := i_ne c961
        refine lv_aload_n hx hb dX4_jobHead_88 rfl (lv_at hl 0 rfl) ?_
        refine lv_iconst (v := 1) hx hb dX4_jobHead_89 (by decide) ?_
        refine lv_bipush (v := 9) hx hb dX4_jobHead_90 (by decide) ?_
        refine x_V (As := [.int 1, .int 9]) (rest := []) C (a_X4_number_e l K G H945 (1) (9) (F) (x927) (x928) (lw) (li) kk vv hTH945 ga0 gmq m950 gkq m951 gvq m952 m954 m955 m953 m948 m949 (by omega) (by omega) f946 f947) yo_X4_number wM_X4_119 ⟨⟨by decide, by decide⟩, by decide, by decide⟩ (x_rv C hTH945 (ci := 4) rfl ga0 rg_78) rfl hl.1 rfl (Nat.le_of_ble_eq_true rfl) dX4_jobHead_92 hSH945 (AE_sub (fun _ _ => rfl) (by decide) hSH945.1) (fun vH963 H963 locsH963 pH963 zH963 kH963 hSH963 => ?_)
        obtain ⟨x964, x965, x966, hvH963, bx964, ex965, ex966, hrH963, m967, m968, m969, m970, hTH963⟩ := pH963
        subst hvH963
        have f971 : ∀ j : Nat, j ≤ F.toNatClampNeg → kk j = (fI H963 kq j).toInt := fun j hj => (f946 j hj).trans (congrArg Int32.toInt (fI_kept (x_lt hTH945 kH963 gkq (by decide))).symm)
        have f972 : ∀ j : Nat, j ≤ F.toNatClampNeg → vv j = (fI H963 vq j).toInt := fun j hj => (f947 j hj).trans (congrArg Int32.toInt (fI_kept (x_lt hTH945 kH963 gvq (by decide))).symm)
        have m973 := (m948).trans (fI_kept (x_lt hTH945 kH963 gmq (by decide))).symm
        have m974 := (fI_kept (x_lt hTH945 kH963 gkq (by decide))).trans m949
        have m975 := (m956).trans (fR_kept (x_lt hTH945 kH963 gmq (by decide))).symm
        have m976 := (m957).trans (fI_kept (x_lt hTH945 kH963 gvq (by decide))).symm
        have m977 := (m958).trans (fI_kept (x_lt hTH945 kH963 gq940 (by decide))).symm
        have bx965 := ty_fi (x := x965) (k := 7) ex965 hTH963 ga0 rg_78 rfl
        have bx966 := ty_fi (x := x966) (k := 1) ex966 hTH963 ga0 rg_78 rfl
        refine W.eq (g2 := F0 m 95 ls [.int x964]) rfl ?_
        refine lv_if_ne (tgt := 100) hx hb dX4_jobHead_95 (by decide) (fun c978 => ?_) (fun c978 => ?_)
        · have k979 := i_ne c978
          refine lv_aload_n hx hb dX4_jobHead_100 rfl (lv_at hl 0 rfl) ?_
          refine x_gr C hTH963 (ci := 4) (k := 0) rfl inX4 (by decide) wF_X4_12 ga0 rg_78 rfl dX4_jobHead_101 (fun q980 eq980 gq980 => ?_)
          have uq980 : mq = q980 := (m967).trans eq980.symm
          subst uq980
          refine x_gr C hTH963 (ci := 7) (k := 4) rfl inX7 (by decide) wF_X4_125 gmq rg_69 rfl dX4_jobHead_104 (fun q981 eq981 gq981 => ?_)
          refine lv_iload_n hx hb dX4_jobHead_107 rfl (lv_at hl 1 rfl) ?_
          refine lv_aload_n hx hb dX4_jobHead_108 rfl (lv_at hl 0 rfl) ?_
          refine x_gr C hTH963 (ci := 4) (k := 4) rfl inX4 (by decide) wF_X4_22 ga0 rg_78 rfl dX4_jobHead_109 (fun q982 eq982 gq982 => ?_)
          have uq982 : vq = q982 := (m969).trans eq982.symm
          subst uq982
          refine lv_aload_n hx hb dX4_jobHead_112 rfl (lv_at hl 0 rfl) ?_
          refine x_gi C hTH963 (ci := 4) (k := 7) rfl inX4 (by decide) wF_X4_42 ga0 rg_78 rfl dX4_jobHead_113 (fun x983 ex983 bx983 => ?_)
          have ux983 : x965 = x983 := (ex965).trans ex983.symm
          subst ux983
          refine lv_iconst (v := 1) hx hb dX4_jobHead_116 (by decide) ?_
          refine lv_isub hx hb dX4_jobHead_117 ?_
          refine lv_topi (fun x984 ex984 => ?_)
          have tx984 := i_sub ex984 (by omega)
          refine x_ai C hTH963 gvq rg_80 ⟨by omega, by show _ < ((501 : Nat) : Int); omega⟩ dX4_jobHead_118 (fun x985 ex985 bx985 => ?_)
          have qvx985 : vv x984.toNatClampNeg = x985.toInt := (f972 _ (by have h1 := i_cl (x := x984) (by omega); have h2 := i_cl (x := F) (by omega); omega)).trans (congrArg Int32.toInt ex985.symm)
          refine x_iast C hTH963 hSH963 gq981 rg_73 (by omega) (by show _ < ((16 : Nat) : Int); omega) ⟨by have := i_rng x985; omega, by have := i_rng x985; omega⟩ (AE_in gq981 (by decide)) dX4_jobHead_119 (fun H986 locsH986 hTH986 hSH986 wH986 => ?_)
          have f987 : ∀ j : Nat, j ≤ F.toNatClampNeg → kk j = (fI H986 kq j).toInt := fun j hj => (f971 j hj).trans (congrArg Int32.toInt (Wr.neI wH986 (Or.inl (G_ne gkq gq981 (by decide)))).symm)
          have f988 : ∀ j : Nat, j ≤ F.toNatClampNeg → vv j = (fI H986 vq j).toInt := fun j hj => (f972 j hj).trans (congrArg Int32.toInt (Wr.neI wH986 (Or.inl (G_ne gvq gq981 (by decide)))).symm)
          have m989 := m973.trans (Wr.neI wH986 (Or.inl (G_ne gmq gq981 (by decide)))).symm
          have m990 := (Wr.neI wH986 (Or.inl (G_ne gkq gq981 (by decide)))).trans m974
          have m991 := m975.trans (Wr.neR wH986 (Or.inl (G_ne gmq gq981 (by decide)))).symm
          have m992 := m976.trans (Wr.neI wH986 (Or.inl (G_ne gvq gq981 (by decide)))).symm
          have m993 := m977.trans (Wr.neI wH986 (Or.inl (G_ne gq940 gq981 (by decide)))).symm
          have m994 := m967.trans (Wr.neR wH986 (Or.inl (G_ne ga0 gq981 (by decide)))).symm
          have m995 := m968.trans (Wr.neR wH986 (Or.inl (G_ne ga0 gq981 (by decide)))).symm
          have m996 := m969.trans (Wr.neR wH986 (Or.inl (G_ne ga0 gq981 (by decide)))).symm
          have m997 := m970.trans (Wr.neI wH986 (Or.inl (G_ne ga0 gq981 (by decide)))).symm
          have m998 := ex965.trans (Wr.neI wH986 (Or.inl (G_ne ga0 gq981 (by decide)))).symm
          have m999 := ex966.trans (Wr.neI wH986 (Or.inl (G_ne ga0 gq981 (by decide)))).symm
          have m1000 := eq981.trans (Wr.neR wH986 (Or.inl (G_ne gmq gq981 (by decide)))).symm
          have m1001 := ex985.trans (Wr.neI wH986 (Or.inl (G_ne gvq gq981 (by decide)))).symm
          have m1002 := Wr.I wH986
          have m1002 := m1002.symm
          refine lv_iconst (v := 1) hx hb dX4_jobHead_120 (by decide) ?_
          have cn_F := i_cl (x := F) (by omega)
          have cn_tat := i_cl (x := tat) (by omega)
          have cn_x965 := i_cl (x := x965) (by omega)
          have cn_tat := i_cl (x := tat) (by omega)
          have cn_x927 := i_cl (x := x927) (by omega)
          have cn_x927 := i_cl (x := x927) (by omega)
          have cn_x965 := i_cl (x := x965) (by omega)
          exact x_zret C hQ (Or.inr rfl) dX4_jobHead_121 hSH986 (by decide) (by decide) (⟨1, x965, x966, rfl, by decide, m998, m999, by omega, m994, m995, m996, m997, Or.inr ⟨(hj_go (nm_y (by omega) (show x927.toNatClampNeg = _ + 1 by omega)) (Or.inr ⟨by omega, rfl⟩)).trans ((if_neg (by omega)).trans (nm_y (by omega) (show x965.toNatClampNeg = _ + 1 by omega))), by omega⟩, hTH986⟩)
        · have k979 := i_eq c978
          refine lv_iconst (v := 0) hx hb dX4_jobHead_98 (by decide) ?_
          have cn_F := i_cl (x := F) (by omega)
          have cn_tat := i_cl (x := tat) (by omega)
          have cn_x965 := i_cl (x := x965) (by omega)
          have cn_tat := i_cl (x := tat) (by omega)
          have cn_x927 := i_cl (x := x927) (by omega)
          have cn_x927 := i_cl (x := x927) (by omega)
          have cn_x965 := i_cl (x := x965) (by omega)
          exact x_zret C hQ (Or.inl rfl) dX4_jobHead_99 hSH963 (by decide) (by decide) (⟨0, x965, x966, rfl, by decide, ex965, ex966, by omega, m967, m968, m969, m970, Or.inl ⟨(hj_go (nm_y (by omega) (show x927.toNatClampNeg = _ + 1 by omega)) (Or.inr ⟨by omega, rfl⟩)).trans ((if_neg (by omega)).trans (nm_n (by omega))), by omega⟩, hTH963⟩)
      · have k962 := i_eq c961
        refine lv_aload_n hx hb dX4_jobHead_75 rfl (lv_at hl 0 rfl) ?_
        refine lv_iconst (v := 0) hx hb dX4_jobHead_76 (by decide) ?_
        refine lv_bipush (v := 99) hx hb dX4_jobHead_77 (by decide) ?_
        refine x_V (As := [.int 0, .int 99]) (rest := []) C (a_X4_number_e l K G H945 (0) (99) (F) (x927) (x928) (lw) (li) kk vv hTH945 ga0 gmq m950 gkq m951 gvq m952 m954 m955 m953 m948 m949 (by omega) (by omega) f946 f947) yo_X4_number wM_X4_119 ⟨⟨by decide, by decide⟩, by decide, by decide⟩ (x_rv C hTH945 (ci := 4) rfl ga0 rg_78) rfl hl.1 rfl (Nat.le_of_ble_eq_true rfl) dX4_jobHead_79 hSH945 (AE_sub (fun _ _ => rfl) (by decide) hSH945.1) (fun vH1003 H1003 locsH1003 pH1003 zH1003 kH1003 hSH1003 => ?_)
        obtain ⟨x1004, x1005, x1006, hvH1003, bx1004, ex1005, ex1006, hrH1003, m1007, m1008, m1009, m1010, hTH1003⟩ := pH1003
        subst hvH1003
        have f1011 : ∀ j : Nat, j ≤ F.toNatClampNeg → kk j = (fI H1003 kq j).toInt := fun j hj => (f946 j hj).trans (congrArg Int32.toInt (fI_kept (x_lt hTH945 kH1003 gkq (by decide))).symm)
        have f1012 : ∀ j : Nat, j ≤ F.toNatClampNeg → vv j = (fI H1003 vq j).toInt := fun j hj => (f947 j hj).trans (congrArg Int32.toInt (fI_kept (x_lt hTH945 kH1003 gvq (by decide))).symm)
        have m1013 := (m948).trans (fI_kept (x_lt hTH945 kH1003 gmq (by decide))).symm
        have m1014 := (fI_kept (x_lt hTH945 kH1003 gkq (by decide))).trans m949
        have m1015 := (m956).trans (fR_kept (x_lt hTH945 kH1003 gmq (by decide))).symm
        have m1016 := (m957).trans (fI_kept (x_lt hTH945 kH1003 gvq (by decide))).symm
        have m1017 := (m958).trans (fI_kept (x_lt hTH945 kH1003 gq940 (by decide))).symm
        have bx1005 := ty_fi (x := x1005) (k := 7) ex1005 hTH1003 ga0 rg_78 rfl
        have bx1006 := ty_fi (x := x1006) (k := 1) ex1006 hTH1003 ga0 rg_78 rfl
        refine W.eq (g2 := F0 m 82 ls [.int x1004]) rfl ?_
        refine lv_if_eq (tgt := 98) hx hb dX4_jobHead_82 (by decide) (fun c1018 => ?_) (fun c1018 => ?_)
        · have k1019 := i_eq c1018
          refine lv_iconst (v := 0) hx hb dX4_jobHead_98 (by decide) ?_
          have cn_F := i_cl (x := F) (by omega)
          have cn_tat := i_cl (x := tat) (by omega)
          have cn_x1005 := i_cl (x := x1005) (by omega)
          have cn_tat := i_cl (x := tat) (by omega)
          have cn_x927 := i_cl (x := x927) (by omega)
          have cn_x927 := i_cl (x := x927) (by omega)
          have cn_x1005 := i_cl (x := x1005) (by omega)
          exact x_zret C hQ (Or.inl rfl) dX4_jobHead_99 hSH1003 (by decide) (by decide) (⟨0, x1005, x1006, rfl, by decide, ex1005, ex1006, by omega, m1007, m1008, m1009, m1010, Or.inl ⟨(hj_go (nm_y (by omega) (show x927.toNatClampNeg = _ + 1 by omega)) (Or.inr ⟨by omega, rfl⟩)).trans ((if_pos (by omega)).trans (nm_n (by omega))), by omega⟩, hTH1003⟩)
        · have k1019 := i_ne c1018
          refine lv_goto (tgt := 100) hx hb dX4_jobHead_85 (by decide) ?_
          refine lv_aload_n hx hb dX4_jobHead_100 rfl (lv_at hl 0 rfl) ?_
          refine x_gr C hTH1003 (ci := 4) (k := 0) rfl inX4 (by decide) wF_X4_12 ga0 rg_78 rfl dX4_jobHead_101 (fun q1020 eq1020 gq1020 => ?_)
          have uq1020 : mq = q1020 := (m1007).trans eq1020.symm
          subst uq1020
          refine x_gr C hTH1003 (ci := 7) (k := 4) rfl inX7 (by decide) wF_X4_125 gmq rg_69 rfl dX4_jobHead_104 (fun q1021 eq1021 gq1021 => ?_)
          refine lv_iload_n hx hb dX4_jobHead_107 rfl (lv_at hl 1 rfl) ?_
          refine lv_aload_n hx hb dX4_jobHead_108 rfl (lv_at hl 0 rfl) ?_
          refine x_gr C hTH1003 (ci := 4) (k := 4) rfl inX4 (by decide) wF_X4_22 ga0 rg_78 rfl dX4_jobHead_109 (fun q1022 eq1022 gq1022 => ?_)
          have uq1022 : vq = q1022 := (m1009).trans eq1022.symm
          subst uq1022
          refine lv_aload_n hx hb dX4_jobHead_112 rfl (lv_at hl 0 rfl) ?_
          refine x_gi C hTH1003 (ci := 4) (k := 7) rfl inX4 (by decide) wF_X4_42 ga0 rg_78 rfl dX4_jobHead_113 (fun x1023 ex1023 bx1023 => ?_)
          have ux1023 : x1005 = x1023 := (ex1005).trans ex1023.symm
          subst ux1023
          refine lv_iconst (v := 1) hx hb dX4_jobHead_116 (by decide) ?_
          refine lv_isub hx hb dX4_jobHead_117 ?_
          refine lv_topi (fun x1024 ex1024 => ?_)
          have tx1024 := i_sub ex1024 (by omega)
          refine x_ai C hTH1003 gvq rg_80 ⟨by omega, by show _ < ((501 : Nat) : Int); omega⟩ dX4_jobHead_118 (fun x1025 ex1025 bx1025 => ?_)
          have qvx1025 : vv x1024.toNatClampNeg = x1025.toInt := (f1012 _ (by have h1 := i_cl (x := x1024) (by omega); have h2 := i_cl (x := F) (by omega); omega)).trans (congrArg Int32.toInt ex1025.symm)
          refine x_iast C hTH1003 hSH1003 gq1021 rg_73 (by omega) (by show _ < ((16 : Nat) : Int); omega) ⟨by have := i_rng x1025; omega, by have := i_rng x1025; omega⟩ (AE_in gq1021 (by decide)) dX4_jobHead_119 (fun H1026 locsH1026 hTH1026 hSH1026 wH1026 => ?_)
          have f1027 : ∀ j : Nat, j ≤ F.toNatClampNeg → kk j = (fI H1026 kq j).toInt := fun j hj => (f1011 j hj).trans (congrArg Int32.toInt (Wr.neI wH1026 (Or.inl (G_ne gkq gq1021 (by decide)))).symm)
          have f1028 : ∀ j : Nat, j ≤ F.toNatClampNeg → vv j = (fI H1026 vq j).toInt := fun j hj => (f1012 j hj).trans (congrArg Int32.toInt (Wr.neI wH1026 (Or.inl (G_ne gvq gq1021 (by decide)))).symm)
          have m1029 := m1013.trans (Wr.neI wH1026 (Or.inl (G_ne gmq gq1021 (by decide)))).symm
          have m1030 := (Wr.neI wH1026 (Or.inl (G_ne gkq gq1021 (by decide)))).trans m1014
          have m1031 := m1015.trans (Wr.neR wH1026 (Or.inl (G_ne gmq gq1021 (by decide)))).symm
          have m1032 := m1016.trans (Wr.neI wH1026 (Or.inl (G_ne gvq gq1021 (by decide)))).symm
          have m1033 := m1017.trans (Wr.neI wH1026 (Or.inl (G_ne gq940 gq1021 (by decide)))).symm
          have m1034 := m1007.trans (Wr.neR wH1026 (Or.inl (G_ne ga0 gq1021 (by decide)))).symm
          have m1035 := m1008.trans (Wr.neR wH1026 (Or.inl (G_ne ga0 gq1021 (by decide)))).symm
          have m1036 := m1009.trans (Wr.neR wH1026 (Or.inl (G_ne ga0 gq1021 (by decide)))).symm
          have m1037 := m1010.trans (Wr.neI wH1026 (Or.inl (G_ne ga0 gq1021 (by decide)))).symm
          have m1038 := ex1005.trans (Wr.neI wH1026 (Or.inl (G_ne ga0 gq1021 (by decide)))).symm
          have m1039 := ex1006.trans (Wr.neI wH1026 (Or.inl (G_ne ga0 gq1021 (by decide)))).symm
          have m1040 := eq1021.trans (Wr.neR wH1026 (Or.inl (G_ne gmq gq1021 (by decide)))).symm
          have m1041 := ex1025.trans (Wr.neI wH1026 (Or.inl (G_ne gvq gq1021 (by decide)))).symm
          have m1042 := Wr.I wH1026
          have m1042 := m1042.symm
          refine lv_iconst (v := 1) hx hb dX4_jobHead_120 (by decide) ?_
          have cn_F := i_cl (x := F) (by omega)
          have cn_tat := i_cl (x := tat) (by omega)
          have cn_x1005 := i_cl (x := x1005) (by omega)
          have cn_tat := i_cl (x := tat) (by omega)
          have cn_x927 := i_cl (x := x927) (by omega)
          have cn_x927 := i_cl (x := x927) (by omega)
          have cn_x1005 := i_cl (x := x1005) (by omega)
          exact x_zret C hQ (Or.inr rfl) dX4_jobHead_121 hSH1026 (by decide) (by decide) (⟨1, x1005, x1006, rfl, by decide, m1038, m1039, by omega, m1034, m1035, m1036, m1037, Or.inr ⟨(hj_go (nm_y (by omega) (show x927.toNatClampNeg = _ + 1 by omega)) (Or.inr ⟨by omega, rfl⟩)).trans ((if_pos (by omega)).trans (nm_y (by omega) (show x1005.toNatClampNeg = _ + 1 by omega))), by omega⟩, hTH1026⟩)
    · have k960 := i_eq c959
      refine lv_aload_n hx hb dX4_jobHead_37 rfl (lv_at hl 0 rfl) ?_
      refine lv_iconst (v := 0) hx hb dX4_jobHead_38 (by decide) ?_
      refine lv_bipush (v := 15) hx hb dX4_jobHead_39 (by decide) ?_
      refine x_V (As := [.int 0, .int 15]) (rest := []) C (a_X4_number_e l K G H945 (0) (15) (F) (x927) (x928) (lw) (li) kk vv hTH945 ga0 gmq m950 gkq m951 gvq m952 m954 m955 m953 m948 m949 (by omega) (by omega) f946 f947) yo_X4_number wM_X4_119 ⟨⟨by decide, by decide⟩, by decide, by decide⟩ (x_rv C hTH945 (ci := 4) rfl ga0 rg_78) rfl hl.1 rfl (Nat.le_of_ble_eq_true rfl) dX4_jobHead_41 hSH945 (AE_sub (fun _ _ => rfl) (by decide) hSH945.1) (fun vH1043 H1043 locsH1043 pH1043 zH1043 kH1043 hSH1043 => ?_)
      obtain ⟨x1044, x1045, x1046, hvH1043, bx1044, ex1045, ex1046, hrH1043, m1047, m1048, m1049, m1050, hTH1043⟩ := pH1043
      subst hvH1043
      have f1051 : ∀ j : Nat, j ≤ F.toNatClampNeg → kk j = (fI H1043 kq j).toInt := fun j hj => (f946 j hj).trans (congrArg Int32.toInt (fI_kept (x_lt hTH945 kH1043 gkq (by decide))).symm)
      have f1052 : ∀ j : Nat, j ≤ F.toNatClampNeg → vv j = (fI H1043 vq j).toInt := fun j hj => (f947 j hj).trans (congrArg Int32.toInt (fI_kept (x_lt hTH945 kH1043 gvq (by decide))).symm)
      have m1053 := (m948).trans (fI_kept (x_lt hTH945 kH1043 gmq (by decide))).symm
      have m1054 := (fI_kept (x_lt hTH945 kH1043 gkq (by decide))).trans m949
      have m1055 := (m956).trans (fR_kept (x_lt hTH945 kH1043 gmq (by decide))).symm
      have m1056 := (m957).trans (fI_kept (x_lt hTH945 kH1043 gvq (by decide))).symm
      have m1057 := (m958).trans (fI_kept (x_lt hTH945 kH1043 gq940 (by decide))).symm
      have bx1045 := ty_fi (x := x1045) (k := 7) ex1045 hTH1043 ga0 rg_78 rfl
      have bx1046 := ty_fi (x := x1046) (k := 1) ex1046 hTH1043 ga0 rg_78 rfl
      refine W.eq (g2 := F0 m 44 ls [.int x1044]) rfl ?_
      refine lv_if_ne (tgt := 49) hx hb dX4_jobHead_44 (by decide) (fun c1058 => ?_) (fun c1058 => ?_)
      · have k1059 := i_ne c1058
        refine lv_aload_n hx hb dX4_jobHead_49 rfl (lv_at hl 0 rfl) ?_
        refine x_gr C hTH1043 (ci := 4) (k := 0) rfl inX4 (by decide) wF_X4_12 ga0 rg_78 rfl dX4_jobHead_50 (fun q1060 eq1060 gq1060 => ?_)
        have uq1060 : mq = q1060 := (m1047).trans eq1060.symm
        subst uq1060
        refine x_gr C hTH1043 (ci := 7) (k := 3) rfl inX7 (by decide) wF_X4_122 gmq rg_69 rfl dX4_jobHead_53 (fun q1061 eq1061 gq1061 => ?_)
        refine lv_iload_n hx hb dX4_jobHead_56 rfl (lv_at hl 1 rfl) ?_
        refine lv_aload_n hx hb dX4_jobHead_57 rfl (lv_at hl 0 rfl) ?_
        refine x_gr C hTH1043 (ci := 4) (k := 4) rfl inX4 (by decide) wF_X4_22 ga0 rg_78 rfl dX4_jobHead_58 (fun q1062 eq1062 gq1062 => ?_)
        have uq1062 : vq = q1062 := (m1049).trans eq1062.symm
        subst uq1062
        refine lv_aload_n hx hb dX4_jobHead_61 rfl (lv_at hl 0 rfl) ?_
        refine x_gi C hTH1043 (ci := 4) (k := 7) rfl inX4 (by decide) wF_X4_42 ga0 rg_78 rfl dX4_jobHead_62 (fun x1063 ex1063 bx1063 => ?_)
        have ux1063 : x1045 = x1063 := (ex1045).trans ex1063.symm
        subst ux1063
        refine lv_iconst (v := 1) hx hb dX4_jobHead_65 (by decide) ?_
        refine lv_isub hx hb dX4_jobHead_66 ?_
        refine lv_topi (fun x1064 ex1064 => ?_)
        have tx1064 := i_sub ex1064 (by omega)
        refine x_ai C hTH1043 gvq rg_80 ⟨by omega, by show _ < ((501 : Nat) : Int); omega⟩ dX4_jobHead_67 (fun x1065 ex1065 bx1065 => ?_)
        have qvx1065 : vv x1064.toNatClampNeg = x1065.toInt := (f1052 _ (by have h1 := i_cl (x := x1064) (by omega); have h2 := i_cl (x := F) (by omega); omega)).trans (congrArg Int32.toInt ex1065.symm)
        refine x_iast C hTH1043 hSH1043 gq1061 rg_72 (by omega) (by show _ < ((16 : Nat) : Int); omega) ⟨by have := i_rng x1065; omega, by have := i_rng x1065; omega⟩ (AE_in gq1061 (by decide)) dX4_jobHead_68 (fun H1066 locsH1066 hTH1066 hSH1066 wH1066 => ?_)
        have f1067 : ∀ j : Nat, j ≤ F.toNatClampNeg → kk j = (fI H1066 kq j).toInt := fun j hj => (f1051 j hj).trans (congrArg Int32.toInt (Wr.neI wH1066 (Or.inl (G_ne gkq gq1061 (by decide)))).symm)
        have f1068 : ∀ j : Nat, j ≤ F.toNatClampNeg → vv j = (fI H1066 vq j).toInt := fun j hj => (f1052 j hj).trans (congrArg Int32.toInt (Wr.neI wH1066 (Or.inl (G_ne gvq gq1061 (by decide)))).symm)
        have m1069 := m1053.trans (Wr.neI wH1066 (Or.inl (G_ne gmq gq1061 (by decide)))).symm
        have m1070 := (Wr.neI wH1066 (Or.inl (G_ne gkq gq1061 (by decide)))).trans m1054
        have m1071 := m1055.trans (Wr.neR wH1066 (Or.inl (G_ne gmq gq1061 (by decide)))).symm
        have m1072 := m1056.trans (Wr.neI wH1066 (Or.inl (G_ne gvq gq1061 (by decide)))).symm
        have m1073 := m1057.trans (Wr.neI wH1066 (Or.inl (G_ne gq940 gq1061 (by decide)))).symm
        have m1074 := m1047.trans (Wr.neR wH1066 (Or.inl (G_ne ga0 gq1061 (by decide)))).symm
        have m1075 := m1048.trans (Wr.neR wH1066 (Or.inl (G_ne ga0 gq1061 (by decide)))).symm
        have m1076 := m1049.trans (Wr.neR wH1066 (Or.inl (G_ne ga0 gq1061 (by decide)))).symm
        have m1077 := m1050.trans (Wr.neI wH1066 (Or.inl (G_ne ga0 gq1061 (by decide)))).symm
        have m1078 := ex1045.trans (Wr.neI wH1066 (Or.inl (G_ne ga0 gq1061 (by decide)))).symm
        have m1079 := ex1046.trans (Wr.neI wH1066 (Or.inl (G_ne ga0 gq1061 (by decide)))).symm
        have m1080 := eq1061.trans (Wr.neR wH1066 (Or.inl (G_ne gmq gq1061 (by decide)))).symm
        have m1081 := ex1065.trans (Wr.neI wH1066 (Or.inl (G_ne gvq gq1061 (by decide)))).symm
        have m1082 := Wr.I wH1066
        have m1082 := m1082.symm
        refine lv_iload_n hx hb dX4_jobHead_69 rfl (lv_at hl 2 rfl) ?_
        refine lv_bipush (v := 6) hx hb dX4_jobHead_70 (by decide) ?_
        refine lv_icmp_ne (tgt := 88) hx hb dX4_jobHead_72 (by decide) (fun c1083 => ?_) (fun c1083 => ?_)
        · have k1084 := i_ne c1083
          refine lv_aload_n hx hb dX4_jobHead_88 rfl (lv_at hl 0 rfl) ?_
          refine lv_iconst (v := 1) hx hb dX4_jobHead_89 (by decide) ?_
          refine lv_bipush (v := 9) hx hb dX4_jobHead_90 (by decide) ?_
          refine x_V (As := [.int 1, .int 9]) (rest := []) C (a_X4_number_e l K G H1066 (1) (9) (F) (x1045) (x1046) (lw) (li) kk vv hTH1066 ga0 gmq m1074 gkq m1075 gvq m1076 m1078 m1079 m1077 m1069 m1070 (by omega) (by omega) f1067 f1068) yo_X4_number wM_X4_119 ⟨⟨by decide, by decide⟩, by decide, by decide⟩ (x_rv C hTH1066 (ci := 4) rfl ga0 rg_78) rfl hl.1 rfl (Nat.le_of_ble_eq_true rfl) dX4_jobHead_92 hSH1066 (AE_sub (fun _ _ => rfl) (by decide) hSH1066.1) (fun vH1085 H1085 locsH1085 pH1085 zH1085 kH1085 hSH1085 => ?_)
          obtain ⟨x1086, x1087, x1088, hvH1085, bx1086, ex1087, ex1088, hrH1085, m1089, m1090, m1091, m1092, hTH1085⟩ := pH1085
          subst hvH1085
          have f1093 : ∀ j : Nat, j ≤ F.toNatClampNeg → kk j = (fI H1085 kq j).toInt := fun j hj => (f1067 j hj).trans (congrArg Int32.toInt (fI_kept (x_lt hTH1066 kH1085 gkq (by decide))).symm)
          have f1094 : ∀ j : Nat, j ≤ F.toNatClampNeg → vv j = (fI H1085 vq j).toInt := fun j hj => (f1068 j hj).trans (congrArg Int32.toInt (fI_kept (x_lt hTH1066 kH1085 gvq (by decide))).symm)
          have m1095 := (m1069).trans (fI_kept (x_lt hTH1066 kH1085 gmq (by decide))).symm
          have m1096 := (fI_kept (x_lt hTH1066 kH1085 gkq (by decide))).trans m1070
          have m1097 := (m1071).trans (fR_kept (x_lt hTH1066 kH1085 gmq (by decide))).symm
          have m1098 := (m1072).trans (fI_kept (x_lt hTH1066 kH1085 gvq (by decide))).symm
          have m1099 := (m1073).trans (fI_kept (x_lt hTH1066 kH1085 gq940 (by decide))).symm
          have m1100 := (m1080).trans (fR_kept (x_lt hTH1066 kH1085 gmq (by decide))).symm
          have m1101 := (m1081).trans (fI_kept (x_lt hTH1066 kH1085 gvq (by decide))).symm
          have m1102 := (m1082).trans (fI_kept (x_lt hTH1066 kH1085 gq1061 (by decide))).symm
          have bx1087 := ty_fi (x := x1087) (k := 7) ex1087 hTH1085 ga0 rg_78 rfl
          have bx1088 := ty_fi (x := x1088) (k := 1) ex1088 hTH1085 ga0 rg_78 rfl
          refine W.eq (g2 := F0 m 95 ls [.int x1086]) rfl ?_
          refine lv_if_ne (tgt := 100) hx hb dX4_jobHead_95 (by decide) (fun c1103 => ?_) (fun c1103 => ?_)
          · have k1104 := i_ne c1103
            refine lv_aload_n hx hb dX4_jobHead_100 rfl (lv_at hl 0 rfl) ?_
            refine x_gr C hTH1085 (ci := 4) (k := 0) rfl inX4 (by decide) wF_X4_12 ga0 rg_78 rfl dX4_jobHead_101 (fun q1105 eq1105 gq1105 => ?_)
            have uq1105 : mq = q1105 := (m1089).trans eq1105.symm
            subst uq1105
            refine x_gr C hTH1085 (ci := 7) (k := 4) rfl inX7 (by decide) wF_X4_125 gmq rg_69 rfl dX4_jobHead_104 (fun q1106 eq1106 gq1106 => ?_)
            refine lv_iload_n hx hb dX4_jobHead_107 rfl (lv_at hl 1 rfl) ?_
            refine lv_aload_n hx hb dX4_jobHead_108 rfl (lv_at hl 0 rfl) ?_
            refine x_gr C hTH1085 (ci := 4) (k := 4) rfl inX4 (by decide) wF_X4_22 ga0 rg_78 rfl dX4_jobHead_109 (fun q1107 eq1107 gq1107 => ?_)
            have uq1107 : vq = q1107 := (m1091).trans eq1107.symm
            subst uq1107
            refine lv_aload_n hx hb dX4_jobHead_112 rfl (lv_at hl 0 rfl) ?_
            refine x_gi C hTH1085 (ci := 4) (k := 7) rfl inX4 (by decide) wF_X4_42 ga0 rg_78 rfl dX4_jobHead_113 (fun x1108 ex1108 bx1108 => ?_)
            have ux1108 : x1087 = x1108 := (ex1087).trans ex1108.symm
            subst ux1108
            refine lv_iconst (v := 1) hx hb dX4_jobHead_116 (by decide) ?_
            refine lv_isub hx hb dX4_jobHead_117 ?_
            refine lv_topi (fun x1109 ex1109 => ?_)
            have tx1109 := i_sub ex1109 (by omega)
            refine x_ai C hTH1085 gvq rg_80 ⟨by omega, by show _ < ((501 : Nat) : Int); omega⟩ dX4_jobHead_118 (fun x1110 ex1110 bx1110 => ?_)
            have qvx1110 : vv x1109.toNatClampNeg = x1110.toInt := (f1094 _ (by have h1 := i_cl (x := x1109) (by omega); have h2 := i_cl (x := F) (by omega); omega)).trans (congrArg Int32.toInt ex1110.symm)
            refine x_iast C hTH1085 hSH1085 gq1106 rg_73 (by omega) (by show _ < ((16 : Nat) : Int); omega) ⟨by have := i_rng x1110; omega, by have := i_rng x1110; omega⟩ (AE_in gq1106 (by decide)) dX4_jobHead_119 (fun H1111 locsH1111 hTH1111 hSH1111 wH1111 => ?_)
            have f1112 : ∀ j : Nat, j ≤ F.toNatClampNeg → kk j = (fI H1111 kq j).toInt := fun j hj => (f1093 j hj).trans (congrArg Int32.toInt (Wr.neI wH1111 (Or.inl (G_ne gkq gq1106 (by decide)))).symm)
            have f1113 : ∀ j : Nat, j ≤ F.toNatClampNeg → vv j = (fI H1111 vq j).toInt := fun j hj => (f1094 j hj).trans (congrArg Int32.toInt (Wr.neI wH1111 (Or.inl (G_ne gvq gq1106 (by decide)))).symm)
            have m1114 := m1095.trans (Wr.neI wH1111 (Or.inl (G_ne gmq gq1106 (by decide)))).symm
            have m1115 := (Wr.neI wH1111 (Or.inl (G_ne gkq gq1106 (by decide)))).trans m1096
            have m1116 := m1097.trans (Wr.neR wH1111 (Or.inl (G_ne gmq gq1106 (by decide)))).symm
            have m1117 := m1098.trans (Wr.neI wH1111 (Or.inl (G_ne gvq gq1106 (by decide)))).symm
            have m1118 := m1099.trans (Wr.neI wH1111 (Or.inl (G_ne gq940 gq1106 (by decide)))).symm
            have m1119 := m1100.trans (Wr.neR wH1111 (Or.inl (G_ne gmq gq1106 (by decide)))).symm
            have m1120 := m1101.trans (Wr.neI wH1111 (Or.inl (G_ne gvq gq1106 (by decide)))).symm
            have m1121 := m1102.trans (Wr.neI wH1111 (Or.inl (G_ne gq1061 gq1106 (by decide)))).symm
            have m1122 := m1089.trans (Wr.neR wH1111 (Or.inl (G_ne ga0 gq1106 (by decide)))).symm
            have m1123 := m1090.trans (Wr.neR wH1111 (Or.inl (G_ne ga0 gq1106 (by decide)))).symm
            have m1124 := m1091.trans (Wr.neR wH1111 (Or.inl (G_ne ga0 gq1106 (by decide)))).symm
            have m1125 := m1092.trans (Wr.neI wH1111 (Or.inl (G_ne ga0 gq1106 (by decide)))).symm
            have m1126 := ex1087.trans (Wr.neI wH1111 (Or.inl (G_ne ga0 gq1106 (by decide)))).symm
            have m1127 := ex1088.trans (Wr.neI wH1111 (Or.inl (G_ne ga0 gq1106 (by decide)))).symm
            have m1128 := eq1106.trans (Wr.neR wH1111 (Or.inl (G_ne gmq gq1106 (by decide)))).symm
            have m1129 := ex1110.trans (Wr.neI wH1111 (Or.inl (G_ne gvq gq1106 (by decide)))).symm
            have m1130 := Wr.I wH1111
            have m1130 := m1130.symm
            refine lv_iconst (v := 1) hx hb dX4_jobHead_120 (by decide) ?_
            have cn_F := i_cl (x := F) (by omega)
            have cn_tat := i_cl (x := tat) (by omega)
            have cn_x1087 := i_cl (x := x1087) (by omega)
            have cn_tat := i_cl (x := tat) (by omega)
            have cn_x927 := i_cl (x := x927) (by omega)
            have cn_x927 := i_cl (x := x927) (by omega)
            have cn_x1045 := i_cl (x := x1045) (by omega)
            have cn_x1045 := i_cl (x := x1045) (by omega)
            have cn_x1087 := i_cl (x := x1087) (by omega)
            exact x_zret C hQ (Or.inr rfl) dX4_jobHead_121 hSH1111 (by decide) (by decide) (⟨1, x1087, x1088, rfl, by decide, m1126, m1127, by omega, m1122, m1123, m1124, m1125, Or.inr ⟨(hj_go (nm_y (by omega) (show x927.toNatClampNeg = _ + 1 by omega)) (Or.inl ⟨by omega, nm_y (by omega) (show x1045.toNatClampNeg = _ + 1 by omega)⟩)).trans ((if_neg (by omega)).trans (nm_y (by omega) (show x1087.toNatClampNeg = _ + 1 by omega))), by omega⟩, hTH1111⟩)
          · have k1104 := i_eq c1103
            refine lv_iconst (v := 0) hx hb dX4_jobHead_98 (by decide) ?_
            have cn_F := i_cl (x := F) (by omega)
            have cn_tat := i_cl (x := tat) (by omega)
            have cn_x1087 := i_cl (x := x1087) (by omega)
            have cn_tat := i_cl (x := tat) (by omega)
            have cn_x927 := i_cl (x := x927) (by omega)
            have cn_x927 := i_cl (x := x927) (by omega)
            have cn_x1045 := i_cl (x := x1045) (by omega)
            have cn_x1045 := i_cl (x := x1045) (by omega)
            have cn_x1087 := i_cl (x := x1087) (by omega)
            exact x_zret C hQ (Or.inl rfl) dX4_jobHead_99 hSH1085 (by decide) (by decide) (⟨0, x1087, x1088, rfl, by decide, ex1087, ex1088, by omega, m1089, m1090, m1091, m1092, Or.inl ⟨(hj_go (nm_y (by omega) (show x927.toNatClampNeg = _ + 1 by omega)) (Or.inl ⟨by omega, nm_y (by omega) (show x1045.toNatClampNeg = _ + 1 by omega)⟩)).trans ((if_neg (by omega)).trans (nm_n (by omega))), by omega⟩, hTH1085⟩)
        · have k1084 := i_eq c1083
          exfalso
          omega
      · have k1059 := i_eq c1058
        refine lv_iconst (v := 0) hx hb dX4_jobHead_47 (by decide) ?_
        have cn_F := i_cl (x := F) (by omega)
        have cn_tat := i_cl (x := tat) (by omega)
        have cn_x1045 := i_cl (x := x1045) (by omega)
        have cn_tat := i_cl (x := tat) (by omega)
        have cn_x927 := i_cl (x := x927) (by omega)
        have cn_x927 := i_cl (x := x927) (by omega)
        have cn_x1045 := i_cl (x := x1045) (by omega)
        exact x_zret C hQ (Or.inl rfl) dX4_jobHead_48 hSH1043 (by decide) (by decide) (⟨0, x1045, x1046, rfl, by decide, ex1045, ex1046, by omega, m1047, m1048, m1049, m1050, Or.inl ⟨hj_no2 (nm_y (by omega) (show x927.toNatClampNeg = _ + 1 by omega)) (by omega) (nm_n (by omega)), by omega⟩, hTH1043⟩)
  · have k938 := i_eq c937
    refine lv_iconst (v := 0) hx hb dX4_jobHead_10 (by decide) ?_
    have cn_F := i_cl (x := F) (by omega)
    have cn_tat := i_cl (x := tat) (by omega)
    have cn_x927 := i_cl (x := x927) (by omega)
    have cn_tat := i_cl (x := tat) (by omega)
    have cn_x927 := i_cl (x := x927) (by omega)
    exact x_zret C hQ (Or.inl rfl) dX4_jobHead_11 hSH925 (by decide) (by decide) (⟨0, x927, x928, rfl, by decide, ex927, ex928, by omega, m929, m930, m931, m932, Or.inl ⟨hj_no1 (nm_n (by omega)), by omega⟩, hTH925⟩)
