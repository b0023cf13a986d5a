
set_option maxHeartbeats 4000000 in
set_option maxRecDepth 100000 in
theorem a_X4_refuse_e (l : Launch) (K : KE) (G : Nat → Option Nat) (H : Heap) {a0 : Nat} (x1 : Int32) {mq : Nat} {kq : Nat} {vq : Nat} (tat : Int32) (fa : Int32) (lw : Int32) (hT : TY K G H) (ga0 : G a0 = some 78) (gmq : G mq = some 69) (emq : mq = fR H a0 (K.1.2 4 0)) (gkq : G kq = some 79) (ekq : kq = fR H a0 (K.1.2 4 3)) (gvq : G vq = some 80) (evq : vq = fR H a0 (K.1.2 4 4)) (etat : tat = fI H a0 (K.1.2 4 7)) (efa : fa = fI H a0 (K.1.2 4 1)) (elw : lw = fI H a0 (K.1.2 4 8)) : MX l K yX4_refuse cX4_refuse 2 (some .boolean) 0 0 0 0 [.ref a0, .int x1] H (AE G [78] H.size) (fun v H1 => ∃ (r : Int32) (t0 : Int32) (t1 : Int32), v = some (.int r) ∧ (0 ≤ r.toInt ∧ r.toInt ≤ 0) ∧ t0 = fI H1 a0 (K.1.2 4 7) ∧ t1 = fI H1 a0 (K.1.2 4 1) ∧ (t0.toInt = tat.toInt ∧ t1.toInt = x1.toInt) ∧ mq = fR H1 a0 (K.1.2 4 0) ∧ kq = fR H1 a0 (K.1.2 4 3) ∧ vq = fR H1 a0 (K.1.2 4 4) ∧ lw = fI H1 a0 (K.1.2 4 8) ∧ TY K G H1) := by
  refine MX.of (by decide +kernel) (Nat.le_of_ble_eq_true rfl) ?_
  intro p e s m below meth c ls Q C hH hl hQ
  subst hH
  have C : CX p K s m _ meth c RX4 cX4_refuse 2 (some .boolean) "refuse" := C
  obtain ⟨hx, hb, hml, hown, hts, hKT, hr, hlocks, hnm⟩ := id C
  have hl : lv_has ls 2 [(0, .ref a0), (1, .int x1)] := hl
  have hS : va_S (AE G [78] s.heap.size) s.heap s.heap [] := va_S.rf
  have n_0 : (0 : Int32).toInt = 0 := rfl
  have btat := ty_fi (x := tat) (k := 7) etat hT ga0 rg_78 rfl
  have bfa := ty_fi (x := fa) (k := 1) efa hT ga0 rg_78 rfl
  have blw := ty_fi (x := lw) (k := 8) elw hT ga0 rg_78 rfl
  refine lv_aload_n hx hb dX4_refuse_0 rfl (lv_at hl 0 rfl) ?_
  refine lv_iload_n hx hb dX4_refuse_1 rfl (lv_at hl 1 rfl) ?_
  refine x_put C hT hS (ci := 4) (k := 1) (v := .int x1) (ty0 := tyX4) rfl inX4 tyX4_ok nmX4 (by decide) rfl wF_X4_32 ga0 rg_78 rfl rfl (okI (by have := i_rng x1; omega) (by have := i_rng x1; omega)) rfl rfl (AE_in ga0 (by decide)) dX4_refuse_2 (fun H185 locsH185 hTH185 hSH185 wH185 => ?_)
  have m186 := emq.trans (Wr.neR wH185 (Or.inr (x_apart hKT hts inX4 tyX4 tyX4_ok nmX4 rfl 0 1 (by decide) (by decide) (by decide)))).symm
  have m187 := ekq.trans (Wr.neR wH185 (Or.inr (x_apart hKT hts inX4 tyX4 tyX4_ok nmX4 rfl 3 1 (by decide) (by decide) (by decide)))).symm
  have m188 := evq.trans (Wr.neR wH185 (Or.inr (x_apart hKT hts inX4 tyX4 tyX4_ok nmX4 rfl 4 1 (by decide) (by decide) (by decide)))).symm
  have m189 := etat.trans (Wr.neI wH185 (Or.inr (x_apart hKT hts inX4 tyX4 tyX4_ok nmX4 rfl 7 1 (by decide) (by decide) (by decide)))).symm
  have m191 := elw.trans (Wr.neI wH185 (Or.inr (x_apart hKT hts inX4 tyX4 tyX4_ok nmX4 rfl 8 1 (by decide) (by decide) (by decide)))).symm
  have m192 := Wr.I wH185
  have m192 := m192.symm
  refine lv_aload_n hx hb dX4_refuse_5 rfl (lv_at hl 0 rfl) ?_
  refine lv_aload_n hx hb dX4_refuse_6 rfl (lv_at hl 0 rfl) ?_
  refine x_gr C hTH185 (ci := 4) (k := 5) rfl inX4 (by decide) wF_X4_25 ga0 rg_78 rfl dX4_refuse_7 (fun q193 eq193 gq193 => ?_)
  refine lv_aload_n hx hb dX4_refuse_10 rfl (lv_at hl 0 rfl) ?_
  refine x_gi C hTH185 (ci := 4) (k := 7) rfl inX4 (by decide) wF_X4_42 ga0 rg_78 rfl dX4_refuse_11 (fun x194 ex194 bx194 => ?_)
  have ux194 : tat = x194 := (m189).trans ex194.symm
  subst ux194
  refine x_ai C hTH185 gq193 rg_81 ⟨by omega, by show _ < ((501 : Nat) : Int); omega⟩ dX4_refuse_14 (fun x195 ex195 bx195 => ?_)
  refine x_put C hTH185 hSH185 (ci := 4) (k := 2) (v := .int x195) (ty0 := tyX4) rfl inX4 tyX4_ok nmX4 (by decide) rfl wF_X4_36 ga0 rg_78 rfl rfl (okI (by have := i_rng x195; omega) (by have := i_rng x195; omega)) rfl rfl (AE_in ga0 (by decide)) dX4_refuse_15 (fun H196 locsH196 hTH196 hSH196 wH196 => ?_)
  have m197 := m186.trans (Wr.neR wH196 (Or.inr (x_apart hKT hts inX4 tyX4 tyX4_ok nmX4 rfl 0 2 (by decide) (by decide) (by decide)))).symm
  have m198 := m187.trans (Wr.neR wH196 (Or.inr (x_apart hKT hts inX4 tyX4 tyX4_ok nmX4 rfl 3 2 (by decide) (by decide) (by decide)))).symm
  have m199 := m188.trans (Wr.neR wH196 (Or.inr (x_apart hKT hts inX4 tyX4 tyX4_ok nmX4 rfl 4 2 (by decide) (by decide) (by decide)))).symm
  have m200 := m189.trans (Wr.neI wH196 (Or.inr (x_apart hKT hts inX4 tyX4 tyX4_ok nmX4 rfl 7 2 (by decide) (by decide) (by decide)))).symm
  have m201 := m191.trans (Wr.neI wH196 (Or.inr (x_apart hKT hts inX4 tyX4 tyX4_ok nmX4 rfl 8 2 (by decide) (by decide) (by decide)))).symm
  have m202 := m192.trans (Wr.neI wH196 (Or.inr (x_apart hKT hts inX4 tyX4 tyX4_ok nmX4 rfl 1 2 (by decide) (by decide) (by decide)))).symm
  have m203 := eq193.trans (Wr.neR wH196 (Or.inr (x_apart hKT hts inX4 tyX4 tyX4_ok nmX4 rfl 5 2 (by decide) (by decide) (by decide)))).symm
  have m204 := ex195.trans (Wr.neI wH196 (Or.inl (G_ne gq193 ga0 (by decide)))).symm
  have m205 := Wr.I wH196
  have m205 := m205.symm
  refine lv_iconst (v := 0) hx hb dX4_refuse_18 (by decide) ?_
  exact x_zret C hQ (Or.inl rfl) dX4_refuse_19 hSH196 (by decide) (by decide) (⟨0, tat, x1, rfl, by decide, m200, m202, by omega, m197, m198, m199, m201, hTH196⟩)

set_option maxHeartbeats 4000000 in
set_option maxRecDepth 100000 in
theorem a_X4_isUnit_e (l : Launch) (K : KE) (G : Nat → Option Nat) (H : Heap) {a0 : Nat} (x1 : Int32) (lw : Int32) (hT : TY K G H) (ga0 : G a0 = some 78) (elw : lw = fI H a0 (K.1.2 4 8)) : MX l K yX4_isUnit cX4_isUnit 2 (some .boolean) 0 0 0 0 [.ref a0, .int x1] H (AE G [] H.size) (fun v H1 => ∃ (r : Int32), v = some (.int r) ∧ (0 ≤ r.toInt ∧ r.toInt ≤ 1) ∧ ((r.toInt = 1 ∧ ((lw.toInt ≠ 0 ∧ (x1.toInt = 6 ∨ (11 ≤ x1.toInt ∧ x1.toInt ≤ 19))) ∨ (lw.toInt = 0 ∧ 20 ≤ x1.toInt ∧ x1.toInt ≤ 23))) ∨ (r.toInt = 0 ∧ ((lw.toInt = 0 ∨ (x1.toInt ≠ 6 ∧ (x1.toInt < 11 ∨ 19 < x1.toInt))) ∧ (lw.toInt ≠ 0 ∨ x1.toInt < 20 ∨ 23 < x1.toInt)))) ∧ TY K G H1) := by
  refine MX.of (by decide +kernel) (Nat.le_of_ble_eq_true rfl) ?_
  intro p e s m below meth c ls Q C hH hl hQ
  subst hH
  have C : CX p K s m _ meth c RX4 cX4_isUnit 2 (some .boolean) "isUnit" := C
  obtain ⟨hx, hb, hml, hown, hts, hKT, hr, hlocks, hnm⟩ := id C
  have hl : lv_has ls 2 [(0, .ref a0), (1, .int x1)] := hl
  have hS : va_S (AE G [] s.heap.size) s.heap s.heap [] := va_S.rf
  have n_0 : (0 : Int32).toInt = 0 := rfl
  have n_1 : (1 : Int32).toInt = 1 := rfl
  have n_6 : (6 : Int32).toInt = 6 := rfl
  have n_11 : (11 : Int32).toInt = 11 := rfl
  have n_19 : (19 : Int32).toInt = 19 := rfl
  have n_20 : (20 : Int32).toInt = 20 := rfl
  have n_23 : (23 : Int32).toInt = 23 := rfl
  have blw := ty_fi (x := lw) (k := 8) elw hT ga0 rg_78 rfl
  refine lv_aload_n hx hb dX4_isUnit_0 rfl (lv_at hl 0 rfl) ?_
  refine x_gi C hT (ci := 4) (k := 8) rfl inX4 (by decide) wF_X4_28 ga0 rg_78 rfl dX4_isUnit_1 (fun x153 ex153 bx153 => ?_)
  have ux153 : lw = x153 := (elw).trans ex153.symm
  subst ux153
  refine lv_if_eq (tgt := 33) hx hb dX4_isUnit_4 (by decide) (fun c154 => ?_) (fun c154 => ?_)
  · have k155 := i_eq c154
    refine lv_iload_n hx hb dX4_isUnit_33 rfl (lv_at hl 1 rfl) ?_
    refine lv_bipush (v := 20) hx hb dX4_isUnit_34 (by decide) ?_
    refine lv_icmp_lt (tgt := 49) hx hb dX4_isUnit_36 (by decide) (fun c156 => ?_) (fun c156 => ?_)
    · have k157 := i_lt c156
      refine lv_iconst (v := 0) hx hb dX4_isUnit_49 (by decide) ?_
      exact x_zret C hQ (Or.inl rfl) dX4_isUnit_50 hS (by decide) (by decide) (⟨0, rfl, by decide, by omega, hT⟩)
    · have k157 := i_nlt c156
      refine lv_iload_n hx hb dX4_isUnit_39 rfl (lv_at hl 1 rfl) ?_
      refine lv_bipush (v := 23) hx hb dX4_isUnit_40 (by decide) ?_
      refine lv_icmp_gt (tgt := 49) hx hb dX4_isUnit_42 (by decide) (fun c158 => ?_) (fun c158 => ?_)
      · have k159 := i_lt c158
        refine lv_iconst (v := 0) hx hb dX4_isUnit_49 (by decide) ?_
        exact x_zret C hQ (Or.inl rfl) dX4_isUnit_50 hS (by decide) (by decide) (⟨0, rfl, by decide, by omega, hT⟩)
      · have k159 := i_nlt c158
        refine lv_iconst (v := 1) hx hb dX4_isUnit_45 (by decide) ?_
        refine lv_goto (tgt := 50) hx hb dX4_isUnit_46 (by decide) ?_
        exact x_zret C hQ (Or.inr rfl) dX4_isUnit_50 hS (by decide) (by decide) (⟨1, rfl, by decide, by omega, hT⟩)
  · have k155 := i_ne c154
    refine lv_iload_n hx hb dX4_isUnit_7 rfl (lv_at hl 1 rfl) ?_
    refine lv_bipush (v := 6) hx hb dX4_isUnit_8 (by decide) ?_
    refine lv_icmp_eq (tgt := 25) hx hb dX4_isUnit_10 (by decide) (fun c160 => ?_) (fun c160 => ?_)
    · have k161 := i_eq c160
      refine lv_iconst (v := 1) hx hb dX4_isUnit_25 (by decide) ?_
      refine lv_goto (tgt := 50) hx hb dX4_isUnit_26 (by decide) ?_
      exact x_zret C hQ (Or.inr rfl) dX4_isUnit_50 hS (by decide) (by decide) (⟨1, rfl, by decide, by omega, hT⟩)
    · have k161 := i_ne c160
      refine lv_iload_n hx hb dX4_isUnit_13 rfl (lv_at hl 1 rfl) ?_
      refine lv_bipush (v := 11) hx hb dX4_isUnit_14 (by decide) ?_
      refine lv_icmp_lt (tgt := 29) hx hb dX4_isUnit_16 (by decide) (fun c162 => ?_) (fun c162 => ?_)
      · have k163 := i_lt c162
        refine lv_iconst (v := 0) hx hb dX4_isUnit_29 (by decide) ?_
        refine lv_goto (tgt := 50) hx hb dX4_isUnit_30 (by decide) ?_
        exact x_zret C hQ (Or.inl rfl) dX4_isUnit_50 hS (by decide) (by decide) (⟨0, rfl, by decide, by omega, hT⟩)
      · have k163 := i_nlt c162
        refine lv_iload_n hx hb dX4_isUnit_19 rfl (lv_at hl 1 rfl) ?_
        refine lv_bipush (v := 19) hx hb dX4_isUnit_20 (by decide) ?_
        refine lv_icmp_gt (tgt := 29) hx hb dX4_isUnit_22 (by decide) (fun c164 => ?_) (fun c164 => ?_)
        · have k165 := i_lt c164
          refine lv_iconst (v := 0) hx hb dX4_isUnit_29 (by decide) ?_
          refine lv_goto (tgt := 50) hx hb dX4_isUnit_30 (by decide) ?_
          exact x_zret C hQ (Or.inl rfl) dX4_isUnit_50 hS (by decide) (by decide) (⟨0, rfl, by decide, by omega, hT⟩)
        · have k165 := i_nlt c164
          refine lv_iconst (v := 1) hx hb dX4_isUnit_25 (by decide) ?_
          refine lv_goto (tgt := 50) hx hb dX4_isUnit_26 (by decide) ?_
          exact x_zret C hQ (Or.inr rfl) dX4_isUnit_50 hS (by decide) (by decide) (⟨1, rfl, by decide, by omega, hT⟩)

set_option maxHeartbeats 4000000 in
set_option maxRecDepth 100000 in
theorem a_X4_number_e (l : Launch) (K : KE) (G : Nat → Option Nat) (H : Heap) {a0 : Nat} (x1 : Int32) (x2 : Int32) {mq : Nat} {kq : Nat} {vq : Nat} (F : Int32) (tat : Int32) (fa : Int32) (lw : Int32) (li : Int32) (kk : Nat → Int) (vv : Nat → Int) (hT : TY K G H) (ga0 : G a0 = some 78) (gmq : G mq = some 69) (emq : mq = fR H a0 (K.1.2 4 0)) (gkq : G kq = some 79) (ekq : kq = fR H a0 (K.1.2 4 3)) (gvq : G vq = some 80) (evq : vq = fR H a0 (K.1.2 4 4)) (etat : tat = fI H a0 (K.1.2 4 7)) (efa : fa = fI H a0 (K.1.2 4 1)) (elw : lw = fI H a0 (K.1.2 4 8)) (eli : li = fI H mq (K.1.2 7 0)) (hel0 : fI H kq (F : Int32).toNatClampNeg = 26) (hp0 : tat.toInt ≤ F.toInt) (hp1 : F.toInt ≤ 500) (hv_kk : ∀ j : Nat, j ≤ F.toNatClampNeg → kk j = (fI H kq j).toInt) (hv_vv : ∀ j : Nat, j ≤ F.toNatClampNeg → vv j = (fI H vq j).toInt) : MX l K yX4_number cX4_number 3 (some .boolean) 1 21 0 0 [.ref a0, .int x1, .int x2] H (AE G [78] H.size) (fun v H1 => ∃ (r : Int32) (t0 : Int32) (t1 : Int32), v = some (.int r) ∧ (0 ≤ r.toInt ∧ r.toInt ≤ 1) ∧ t0 = fI H1 a0 (K.1.2 4 7) ∧ t1 = fI H1 a0 (K.1.2 4 1) ∧ ((r.toInt = 1 ∧ kk tat.toNatClampNeg = 24 ∧ x1.toInt ≤ vv tat.toNatClampNeg ∧ vv tat.toNatClampNeg ≤ x2.toInt ∧ t0.toInt = tat.toInt + 1 ∧ tat.toInt < F.toInt ∧ t1.toInt = fa.toInt) ∨ (r.toInt = 0 ∧ (kk tat.toNatClampNeg ≠ 24 ∨ vv tat.toNatClampNeg < x1.toInt ∨ x2.toInt < vv tat.toNatClampNeg) ∧ t0.toInt = tat.toInt ∧ t1.toInt ≠ 0)) ∧ mq = fR H1 a0 (K.1.2 4 0) ∧ kq = fR H1 a0 (K.1.2 4 3) ∧ vq = fR H1 a0 (K.1.2 4 4) ∧ lw = fI H1 a0 (K.1.2 4 8) ∧ TY K G H1) := by
  refine MX.of (by decide +kernel) (Nat.le_of_ble_eq_true rfl) ?_
  intro p e s m below meth c ls Q C hH hl hQ
  subst hH
  have C : CX p K s m _ meth c RX4 cX4_number 3 (some .boolean) "number" := C
  obtain ⟨hx, hb, hml, hown, hts, hKT, hr, hlocks, hnm⟩ := id C
  have hl : lv_has ls 3 [(0, .ref a0), (1, .int x1), (2, .int x2)] := hl
  have hS : va_S (AE G [78] s.heap.size) s.heap s.heap [] := va_S.rf
  have n_1 : (1 : Int32).toInt = 1 := rfl
  have n_2 : (2 : Int32).toInt = 2 := rfl
  have n_24 : (24 : Int32).toInt = 24 := rfl
  have n_26 : (26 : Int32).toInt = 26 := rfl
  have btat := ty_fi (x := tat) (k := 7) etat hT ga0 rg_78 rfl
  have bfa := ty_fi (x := fa) (k := 1) efa hT ga0 rg_78 rfl
  have blw := ty_fi (x := lw) (k := 8) elw hT ga0 rg_78 rfl
  have bli := ty_fi (x := li) (k := 0) eli hT gmq rg_69 rfl
  have f0_kk := hv_kk
  have f0_vv := hv_vv
  refine lv_aload_n hx hb dX4_number_0 rfl (lv_at hl 0 rfl) ?_
  refine x_gr C hT (ci := 4) (k := 3) rfl inX4 (by decide) wF_X4_18 ga0 rg_78 rfl dX4_number_1 (fun q393 eq393 gq393 => ?_)
  have uq393 : kq = q393 := (ekq).trans eq393.symm
  subst uq393
  refine lv_aload_n hx hb dX4_number_4 rfl (lv_at hl 0 rfl) ?_
  refine x_gi C hT (ci := 4) (k := 7) rfl inX4 (by decide) wF_X4_42 ga0 rg_78 rfl dX4_number_5 (fun x394 ex394 bx394 => ?_)
  have ux394 : tat = x394 := (etat).trans ex394.symm
  subst ux394
  refine x_ai C hT gkq rg_79 ⟨by omega, by show _ < ((501 : Nat) : Int); omega⟩ dX4_number_8 (fun x395 ex395 bx395 => ?_)
  have dx395 := el_hit ex395 hel0
  have qvx395 : kk tat.toNatClampNeg = x395.toInt := (f0_kk _ (by have h1 := i_cl (x := tat) (by omega); have h2 := i_cl (x := F) (by omega); omega)).trans (congrArg Int32.toInt ex395.symm)
  refine lv_bipush (v := 24) hx hb dX4_number_9 (by decide) ?_
  refine lv_icmp_eq (tgt := 20) hx hb dX4_number_11 (by decide) (fun c396 => ?_) (fun c396 => ?_)
  · have k397 := i_eq c396
    refine lv_aload_n hx hb dX4_number_20 rfl (lv_at hl 0 rfl) ?_
    refine x_gr C hT (ci := 4) (k := 4) rfl inX4 (by decide) wF_X4_22 ga0 rg_78 rfl dX4_number_21 (fun q398 eq398 gq398 => ?_)
    have uq398 : vq = q398 := (evq).trans eq398.symm
    subst uq398
    refine lv_aload_n hx hb dX4_number_24 rfl (lv_at hl 0 rfl) ?_
    refine x_gi C hT (ci := 4) (k := 7) rfl inX4 (by decide) wF_X4_42 ga0 rg_78 rfl dX4_number_25 (fun x399 ex399 bx399 => ?_)
    have ux399 : tat = x399 := (etat).trans ex399.symm
    subst ux399
    refine x_ai C hT gvq rg_80 ⟨by omega, by show _ < ((501 : Nat) : Int); omega⟩ dX4_number_28 (fun x400 ex400 bx400 => ?_)
    have qvx400 : vv tat.toNatClampNeg = x400.toInt := (f0_vv _ (by have h1 := i_cl (x := tat) (by omega); have h2 := i_cl (x := F) (by omega); omega)).trans (congrArg Int32.toInt ex400.symm)
    refine lv_iload_n hx hb dX4_number_29 rfl (lv_at hl 1 rfl) ?_
    refine lv_icmp_lt (tgt := 46) hx hb dX4_number_30 (by decide) (fun c401 => ?_) (fun c401 => ?_)
    · have k402 := i_lt c401
      refine lv_aload_n hx hb dX4_number_46 rfl (lv_at hl 0 rfl) ?_
      refine lv_iconst (v := 2) hx hb dX4_number_47 (by decide) ?_
      refine x_V (As := [.int 2]) (rest := []) C (a_X4_refuse_e l K G s.heap (2) (tat) (fa) (lw) hT ga0 gmq emq gkq ekq gvq evq etat efa elw) yo_X4_refuse wM_X4_81 ⟨⟨by decide, by decide⟩, by decide, by decide⟩ (x_rv C hT (ci := 4) rfl ga0 rg_78) rfl hl.1 rfl (Nat.le_of_ble_eq_true rfl) dX4_number_48 hS (AE_sub (fun _ _ => rfl) (by decide) hS.1) (fun vH403 H403 locsH403 pH403 zH403 kH403 hSH403 => ?_)
      obtain ⟨x404, x405, x406, hvH403, bx404, ex405, ex406, hrH403, m407, m408, m409, m410, hTH403⟩ := pH403
      subst hvH403
      have f411 : ∀ j : Nat, j ≤ F.toNatClampNeg → kk j = (fI H403 kq j).toInt := fun j hj => (f0_kk j hj).trans (congrArg Int32.toInt (fI_kept (x_lt hT kH403 gkq (by decide))).symm)
      have f412 : ∀ j : Nat, j ≤ F.toNatClampNeg → vv j = (fI H403 vq j).toInt := fun j hj => (f0_vv j hj).trans (congrArg Int32.toInt (fI_kept (x_lt hT kH403 gvq (by decide))).symm)
      have m413 := (eli).trans (fI_kept (x_lt hT kH403 gmq (by decide))).symm
      have m414 := (fI_kept (x_lt hT kH403 gkq (by decide))).trans hel0
      have m415 := (ex395).trans (fI_kept (x_lt hT kH403 gkq (by decide))).symm
      have m416 := (ex400).trans (fI_kept (x_lt hT kH403 gvq (by decide))).symm
      have bx405 := ty_fi (x := x405) (k := 7) ex405 hTH403 ga0 rg_78 rfl
      have bx406 := ty_fi (x := x406) (k := 1) ex406 hTH403 ga0 rg_78 rfl
      refine W.eq (g2 := F0 m 51 ls [.int x404]) rfl ?_
      exact x_zret C hQ (i_01 (by omega)) dX4_number_51 hSH403 (by decide) (by decide) (⟨x404, x405, x406, rfl, by omega, ex405, ex406, by omega, m407, m408, m409, m410, hTH403⟩)
    · have k402 := i_nlt c401
      refine lv_aload_n hx hb dX4_number_33 rfl (lv_at hl 0 rfl) ?_
      refine x_gr C hT (ci := 4) (k := 4) rfl inX4 (by decide) wF_X4_22 ga0 rg_78 rfl dX4_number_34 (fun q417 eq417 gq417 => ?_)
      have uq417 : vq = q417 := (evq).trans eq417.symm
      subst uq417
      refine lv_aload_n hx hb dX4_number_37 rfl (lv_at hl 0 rfl) ?_
      refine x_gi C hT (ci := 4) (k := 7) rfl inX4 (by decide) wF_X4_42 ga0 rg_78 rfl dX4_number_38 (fun x418 ex418 bx418 => ?_)
      have ux418 : tat = x418 := (etat).trans ex418.symm
      subst ux418
      refine x_ai C hT gvq rg_80 ⟨by omega, by show _ < ((501 : Nat) : Int); omega⟩ dX4_number_41 (fun x419 ex419 bx419 => ?_)
      have ux419 : x400 = x419 := (ex400).trans ex419.symm
      subst ux419
      have qvx419 : vv tat.toNatClampNeg = x400.toInt := (f0_vv _ (by have h1 := i_cl (x := tat) (by omega); have h2 := i_cl (x := F) (by omega); omega)).trans (congrArg Int32.toInt ex419.symm)
      refine lv_iload_n hx hb dX4_number_42 rfl (lv_at hl 2 rfl) ?_
      refine lv_icmp_le (tgt := 52) hx hb dX4_number_43 (by decide) (fun c420 => ?_) (fun c420 => ?_)
      · have k421 := i_le c420
        refine lv_aload_n hx hb dX4_number_52 rfl (lv_at hl 0 rfl) ?_
        refine lv_dup hx hb dX4_number_53 rfl ?_
        refine x_gi C hT (ci := 4) (k := 7) rfl inX4 (by decide) wF_X4_42 ga0 rg_78 rfl dX4_number_54 (fun x422 ex422 bx422 => ?_)
        have ux422 : tat = x422 := (etat).trans ex422.symm
        subst ux422
        refine lv_iconst (v := 1) hx hb dX4_number_57 (by decide) ?_
        refine lv_iadd hx hb dX4_number_58 ?_
        refine lv_topi (fun x423 ex423 => ?_)
        have tx423 := i_add ex423 (by omega)
        have fz425 : 0 ≤ x423.toInt ∧ x423.toInt ≤ 500 := by have := i_rng x423; omega
        refine x_put C hT hS (ci := 4) (k := 7) (v := .int x423) (ty0 := tyX4) rfl inX4 tyX4_ok nmX4 (by decide) rfl wF_X4_42 ga0 rg_78 rfl rfl (okI (by have := i_rng x423; omega) (by have := i_rng x423; omega)) rfl rfl (AE_in ga0 (by decide)) dX4_number_59 (fun H424 locsH424 hTH424 hSH424 wH424 => ?_)
        have f426 : ∀ j : Nat, j ≤ F.toNatClampNeg → kk j = (fI H424 kq j).toInt := fun j hj => (f0_kk j hj).trans (congrArg Int32.toInt (Wr.neI wH424 (Or.inl (G_ne gkq ga0 (by decide)))).symm)
        have f427 : ∀ j : Nat, j ≤ F.toNatClampNeg → vv j = (fI H424 vq j).toInt := fun j hj => (f0_vv j hj).trans (congrArg Int32.toInt (Wr.neI wH424 (Or.inl (G_ne gvq ga0 (by decide)))).symm)
        have m428 := emq.trans (Wr.neR wH424 (Or.inr (x_apart hKT hts inX4 tyX4 tyX4_ok nmX4 rfl 0 7 (by decide) (by decide) (by decide)))).symm
        have m429 := ekq.trans (Wr.neR wH424 (Or.inr (x_apart hKT hts inX4 tyX4 tyX4_ok nmX4 rfl 3 7 (by decide) (by decide) (by decide)))).symm
        have m430 := evq.trans (Wr.neR wH424 (Or.inr (x_apart hKT hts inX4 tyX4 tyX4_ok nmX4 rfl 4 7 (by decide) (by decide) (by decide)))).symm
        have m432 := efa.trans (Wr.neI wH424 (Or.inr (x_apart hKT hts inX4 tyX4 tyX4_ok nmX4 rfl 1 7 (by decide) (by decide) (by decide)))).symm
        have m433 := elw.trans (Wr.neI wH424 (Or.inr (x_apart hKT hts inX4 tyX4 tyX4_ok nmX4 rfl 8 7 (by decide) (by decide) (by decide)))).symm
        have m434 := eli.trans (Wr.neI wH424 (Or.inl (G_ne gmq ga0 (by decide)))).symm
        have m435 := (Wr.neI wH424 (Or.inl (G_ne gkq ga0 (by decide)))).trans hel0
        have m436 := ex395.trans (Wr.neI wH424 (Or.inl (G_ne gkq ga0 (by decide)))).symm
        have m437 := ex400.trans (Wr.neI wH424 (Or.inl (G_ne gvq ga0 (by decide)))).symm
        have m438 := Wr.I wH424
        have m438 := m438.symm
        refine lv_iconst (v := 1) hx hb dX4_number_62 (by decide) ?_
        exact x_zret C hQ (Or.inr rfl) dX4_number_63 hSH424 (by decide) (by decide) (⟨1, x423, fa, rfl, by decide, m438, m432, by omega, m428, m429, m430, m433, hTH424⟩)
      · have k421 := i_nle c420
        refine lv_aload_n hx hb dX4_number_46 rfl (lv_at hl 0 rfl) ?_
        refine lv_iconst (v := 2) hx hb dX4_number_47 (by decide) ?_
        refine x_V (As := [.int 2]) (rest := []) C (a_X4_refuse_e l K G s.heap (2) (tat) (fa) (lw) hT ga0 gmq emq gkq ekq gvq evq etat efa elw) yo_X4_refuse wM_X4_81 ⟨⟨by decide, by decide⟩, by decide, by decide⟩ (x_rv C hT (ci := 4) rfl ga0 rg_78) rfl hl.1 rfl (Nat.le_of_ble_eq_true rfl) dX4_number_48 hS (AE_sub (fun _ _ => rfl) (by decide) hS.1) (fun vH439 H439 locsH439 pH439 zH439 kH439 hSH439 => ?_)
        obtain ⟨x440, x441, x442, hvH439, bx440, ex441, ex442, hrH439, m443, m444, m445, m446, hTH439⟩ := pH439
        subst hvH439
        have f447 : ∀ j : Nat, j ≤ F.toNatClampNeg → kk j = (fI H439 kq j).toInt := fun j hj => (f0_kk j hj).trans (congrArg Int32.toInt (fI_kept (x_lt hT kH439 gkq (by decide))).symm)
        have f448 : ∀ j : Nat, j ≤ F.toNatClampNeg → vv j = (fI H439 vq j).toInt := fun j hj => (f0_vv j hj).trans (congrArg Int32.toInt (fI_kept (x_lt hT kH439 gvq (by decide))).symm)
        have m449 := (eli).trans (fI_kept (x_lt hT kH439 gmq (by decide))).symm
        have m450 := (fI_kept (x_lt hT kH439 gkq (by decide))).trans hel0
        have m451 := (ex395).trans (fI_kept (x_lt hT kH439 gkq (by decide))).symm
        have m452 := (ex400).trans (fI_kept (x_lt hT kH439 gvq (by decide))).symm
        have bx441 := ty_fi (x := x441) (k := 7) ex441 hTH439 ga0 rg_78 rfl
        have bx442 := ty_fi (x := x442) (k := 1) ex442 hTH439 ga0 rg_78 rfl
        refine W.eq (g2 := F0 m 51 ls [.int x440]) rfl ?_
        exact x_zret C hQ (i_01 (by omega)) dX4_number_51 hSH439 (by decide) (by decide) (⟨x440, x441, x442, rfl, by omega, ex441, ex442, by omega, m443, m444, m445, m446, hTH439⟩)
  · have k397 := i_ne c396
    refine lv_aload_n hx hb dX4_number_14 rfl (lv_at hl 0 rfl) ?_
    refine lv_iconst (v := 1) hx hb dX4_number_15 (by decide) ?_
    refine x_V (As := [.int 1]) (rest := []) C (a_X4_refuse_e l K G s.heap (1) (tat) (fa) (lw) hT ga0 gmq emq gkq ekq gvq evq etat efa elw) yo_X4_refuse wM_X4_81 ⟨⟨by decide, by decide⟩, by decide, by decide⟩ (x_rv C hT (ci := 4) rfl ga0 rg_78) rfl hl.1 rfl (Nat.le_of_ble_eq_true rfl) dX4_number_16 hS (AE_sub (fun _ _ => rfl) (by decide) hS.1) (fun vH453 H453 locsH453 pH453 zH453 kH453 hSH453 => ?_)
    obtain ⟨x454, x455, x456, hvH453, bx454, ex455, ex456, hrH453, m457, m458, m459, m460, hTH453⟩ := pH453
    subst hvH453
    have f461 : ∀ j : Nat, j ≤ F.toNatClampNeg → kk j = (fI H453 kq j).toInt := fun j hj => (f0_kk j hj).trans (congrArg Int32.toInt (fI_kept (x_lt hT kH453 gkq (by decide))).symm)
    have f462 : ∀ j : Nat, j ≤ F.toNatClampNeg → vv j = (fI H453 vq j).toInt := fun j hj => (f0_vv j hj).trans (congrArg Int32.toInt (fI_kept (x_lt hT kH453 gvq (by decide))).symm)
    have m463 := (eli).trans (fI_kept (x_lt hT kH453 gmq (by decide))).symm
    have m464 := (fI_kept (x_lt hT kH453 gkq (by decide))).trans hel0
    have m465 := (ex395).trans (fI_kept (x_lt hT kH453 gkq (by decide))).symm
    have bx455 := ty_fi (x := x455) (k := 7) ex455 hTH453 ga0 rg_78 rfl
    have bx456 := ty_fi (x := x456) (k := 1) ex456 hTH453 ga0 rg_78 rfl
    refine W.eq (g2 := F0 m 19 ls [.int x454]) rfl ?_
    exact x_zret C hQ (i_01 (by omega)) dX4_number_19 hSH453 (by decide) (by decide) (⟨x454, x455, x456, rfl, by omega, ex455, ex456, by omega, m457, m458, m459, m460, hTH453⟩)
