
set_option maxHeartbeats 4000000 in
set_option maxRecDepth 100000 in
theorem a_X7_addStep_e (l : Launch) (K : KE) (G : Nat → Option Nat) (H : Heap) {a0 : Nat} (x1 : Int32) (x2 : Int32) (li : Int32) (hT : TY K G H) (ga0 : G a0 = some 69) (eli : li = fI H a0 (K.1.2 7 0)) : MX l K yX7_addStep cX7_addStep 3 none 0 0 0 0 [.ref a0, .int x1, .int x2] H (AE G [69, 77] H.size) (fun v H1 => v = none ∧ li = fI H1 a0 (K.1.2 7 0) ∧ TY K G H1) := by
  refine MX.of (by decide +kernel) (Nat.le_of_ble_eq_true rfl) ?_
  intro p e s m below meth c ls Q C hH hl hQ
  subst hH
  have C : CX p K s m _ meth c RX7 cX7_addStep 3 none "addStep" := C
  obtain ⟨hx, hb, hml, hown, hts, hKT, hr, hlocks, hnm⟩ := id C
  have hl : lv_has ls 3 [(0, .ref a0), (1, .int x1), (2, .int x2)] := hl
  have hS : va_S (AE G [69, 77] s.heap.size) s.heap s.heap [] := va_S.rf
  have n_1 : (1 : Int32).toInt = 1 := rfl
  have n_500 : (500 : Int32).toInt = 500 := rfl
  have n_100000 : (100000 : Int32).toInt = 100000 := rfl
  have bli := ty_fi (x := li) (k := 0) eli hT ga0 rg_69 rfl
  have J35 : ∀ (ls182 : Array Slot) (H181 : Heap) (locsH181 : List Loc) , lv_has ls182 3 [] → TY K G H181 → va_S (AE G [69, 77] s.heap.size) s.heap H181 locsH181 → (li = fI H181 a0 (K.1.2 7 0)) → W p l e ({ frames := 0, cells := 0, slots := 0, locals := 0 } : Room) s m (([.ref a0, .int x1, .int x2] : List Value).toArray) below meth c H181 locsH181 0 0 Q (F0 m 35 ls182 []) := by
    intro ls182 H181 locsH181  hl183 hTH181 hSH181 cy184_0
    exact x_vret C hQ dX7_addStep_35 hSH181 (by decide) (by decide) (⟨rfl, cy184_0, hTH181⟩)
  refine lv_aload_n hx hb dX7_addStep_0 rfl (lv_at hl 0 rfl) ?_
  refine x_gi C hT (ci := 7) (k := 9) rfl inX7 (by decide) wF_X7_40 ga0 rg_69 rfl dX7_addStep_1 (fun x185 ex185 bx185 => ?_)
  refine lv_sipush (v := 500) hx hb dX7_addStep_4 (by decide) ?_
  refine lv_icmp_ge (tgt := 35) hx hb dX7_addStep_7 (by decide) (fun c186 => ?_) (fun c186 => ?_)
  · have k187 := i_le c186
    exact J35 ls s.heap [] (lv_sub hl [] rfl) hT hS eli
  · have k187 := i_nle c186
    refine lv_aload_n hx hb dX7_addStep_10 rfl (lv_at hl 0 rfl) ?_
    refine x_gr C hT (ci := 7) (k := 8) rfl inX7 (by decide) wF_X7_33 ga0 rg_69 rfl dX7_addStep_11 (fun q188 eq188 gq188 => ?_)
    refine lv_aload_n hx hb dX7_addStep_14 rfl (lv_at hl 0 rfl) ?_
    refine x_gi C hT (ci := 7) (k := 9) rfl inX7 (by decide) wF_X7_40 ga0 rg_69 rfl dX7_addStep_15 (fun x189 ex189 bx189 => ?_)
    have ux189 : x185 = x189 := (ex185).trans ex189.symm
    subst ux189
    refine lv_iload_n hx hb dX7_addStep_18 rfl (lv_at hl 1 rfl) ?_
    refine lv_ldc (v := 100000) hx hb hown (hts _ wK_X7_43) dX7_addStep_19 ?_
    refine lv_imul hx hb dX7_addStep_21 ?_
    refine lv_topi (fun x190 ex190 => ?_)
    refine lv_iload_n hx hb dX7_addStep_22 rfl (lv_at hl 2 rfl) ?_
    refine lv_iadd hx hb dX7_addStep_23 ?_
    refine lv_topi (fun x191 ex191 => ?_)
    refine x_iast C hT hS gq188 rg_77 (by omega) (by show _ < ((500 : Nat) : Int); omega) ⟨by have := i_rng x191; omega, by have := i_rng x191; omega⟩ (AE_in gq188 (by decide)) dX7_addStep_24 (fun H192 locsH192 hTH192 hSH192 wH192 => ?_)
    have m193 := eli.trans (Wr.neI wH192 (Or.inl (G_ne ga0 gq188 (by decide)))).symm
    have m194 := ex185.trans (Wr.neI wH192 (Or.inl (G_ne ga0 gq188 (by decide)))).symm
    have m195 := eq188.trans (Wr.neR wH192 (Or.inl (G_ne ga0 gq188 (by decide)))).symm
    have m196 := Wr.I wH192
    have m196 := m196.symm
    refine lv_aload_n hx hb dX7_addStep_25 rfl (lv_at hl 0 rfl) ?_
    refine lv_dup hx hb dX7_addStep_26 rfl ?_
    refine x_gi C hTH192 (ci := 7) (k := 9) rfl inX7 (by decide) wF_X7_40 ga0 rg_69 rfl dX7_addStep_27 (fun x197 ex197 bx197 => ?_)
    have ux197 : x185 = x197 := (m194).trans ex197.symm
    subst ux197
    refine lv_iconst (v := 1) hx hb dX7_addStep_30 (by decide) ?_
    refine lv_iadd hx hb dX7_addStep_31 ?_
    refine lv_topi (fun x198 ex198 => ?_)
    have tx198 := i_add ex198 (by omega)
    refine x_put C hTH192 hSH192 (ci := 7) (k := 9) (v := .int x198) (ty0 := tyX7) rfl inX7 tyX7_ok nmX7 (by decide) rfl wF_X7_40 ga0 rg_69 rfl rfl (okI (by have := i_rng x198; omega) (by have := i_rng x198; omega)) rfl rfl (AE_in ga0 (by decide)) dX7_addStep_32 (fun H199 locsH199 hTH199 hSH199 wH199 => ?_)
    have m200 := m193.trans (Wr.neI wH199 (Or.inr (x_apart hKT hts inX7 tyX7 tyX7_ok nmX7 rfl 0 9 (by decide) (by decide) (by decide)))).symm
    have m202 := m195.trans (Wr.neR wH199 (Or.inr (x_apart hKT hts inX7 tyX7 tyX7_ok nmX7 rfl 8 9 (by decide) (by decide) (by decide)))).symm
    have m203 := m196.trans (Wr.neI wH199 (Or.inl (G_ne gq188 ga0 (by decide)))).symm
    have m204 := Wr.I wH199
    have m204 := m204.symm
    exact J35 ls H199 locsH199 (lv_sub hl [] rfl) hTH199 hSH199 m200

set_option maxHeartbeats 4000000 in
set_option maxRecDepth 100000 in
theorem a_X4_refuse_e (l : Launch) (K : KE) (G : Nat → Option Nat) (H : Heap) {a0 : Nat} (x1 : Int32) {mq : Nat} {kq : Nat} {vq : Nat} (tat : Int32) (fa : Int32) (lw : Int32) (hT : TY K G H) (ga0 : G a0 = some 78) (gmq : G mq = some 69) (emq : mq = fR H a0 (K.1.2 4 0)) (gkq : G kq = some 79) (ekq : kq = fR H a0 (K.1.2 4 3)) (gvq : G vq = some 80) (evq : vq = fR H a0 (K.1.2 4 4)) (etat : tat = fI H a0 (K.1.2 4 7)) (efa : fa = fI H a0 (K.1.2 4 1)) (elw : lw = fI H a0 (K.1.2 4 8)) : MX l K yX4_refuse cX4_refuse 2 (some .boolean) 0 0 0 0 [.ref a0, .int x1] H (AE G [78] H.size) (fun v H1 => ∃ (r : Int32) (t0 : Int32) (t1 : Int32), v = some (.int r) ∧ (0 ≤ r.toInt ∧ r.toInt ≤ 0) ∧ t0 = fI H1 a0 (K.1.2 4 7) ∧ t1 = fI H1 a0 (K.1.2 4 1) ∧ (t0.toInt = tat.toInt ∧ t1.toInt = x1.toInt) ∧ mq = fR H1 a0 (K.1.2 4 0) ∧ kq = fR H1 a0 (K.1.2 4 3) ∧ vq = fR H1 a0 (K.1.2 4 4) ∧ lw = fI H1 a0 (K.1.2 4 8) ∧ TY K G H1) := by
  refine MX.of (by decide +kernel) (Nat.le_of_ble_eq_true rfl) ?_
  intro p e s m below meth c ls Q C hH hl hQ
  subst hH
  have C : CX p K s m _ meth c RX4 cX4_refuse 2 (some .boolean) "refuse" := C
  obtain ⟨hx, hb, hml, hown, hts, hKT, hr, hlocks, hnm⟩ := id C
  have hl : lv_has ls 2 [(0, .ref a0), (1, .int x1)] := hl
  have hS : va_S (AE G [78] s.heap.size) s.heap s.heap [] := va_S.rf
  have n_0 : (0 : Int32).toInt = 0 := rfl
  have btat := ty_fi (x := tat) (k := 7) etat hT ga0 rg_78 rfl
  have bfa := ty_fi (x := fa) (k := 1) efa hT ga0 rg_78 rfl
  have blw := ty_fi (x := lw) (k := 8) elw hT ga0 rg_78 rfl
  refine lv_aload_n hx hb dX4_refuse_0 rfl (lv_at hl 0 rfl) ?_
  refine lv_iload_n hx hb dX4_refuse_1 rfl (lv_at hl 1 rfl) ?_
  refine x_put C hT hS (ci := 4) (k := 1) (v := .int x1) (ty0 := tyX4) rfl inX4 tyX4_ok nmX4 (by decide) rfl wF_X4_32 ga0 rg_78 rfl rfl (okI (by have := i_rng x1; omega) (by have := i_rng x1; omega)) rfl rfl (AE_in ga0 (by decide)) dX4_refuse_2 (fun H185 locsH185 hTH185 hSH185 wH185 => ?_)
  have m186 := emq.trans (Wr.neR wH185 (Or.inr (x_apart hKT hts inX4 tyX4 tyX4_ok nmX4 rfl 0 1 (by decide) (by decide) (by decide)))).symm
  have m187 := ekq.trans (Wr.neR wH185 (Or.inr (x_apart hKT hts inX4 tyX4 tyX4_ok nmX4 rfl 3 1 (by decide) (by decide) (by decide)))).symm
  have m188 := evq.trans (Wr.neR wH185 (Or.inr (x_apart hKT hts inX4 tyX4 tyX4_ok nmX4 rfl 4 1 (by decide) (by decide) (by decide)))).symm
  have m189 := etat.trans (Wr.neI wH185 (Or.inr (x_apart hKT hts inX4 tyX4 tyX4_ok nmX4 rfl 7 1 (by decide) (by decide) (by decide)))).symm
  have m191 := elw.trans (Wr.neI wH185 (Or.inr (x_apart hKT hts inX4 tyX4 tyX4_ok nmX4 rfl 8 1 (by decide) (by decide) (by decide)))).symm
  have m192 := Wr.I wH185
  have m192 := m192.symm
  refine lv_aload_n hx hb dX4_refuse_5 rfl (lv_at hl 0 rfl) ?_
  refine lv_aload_n hx hb dX4_refuse_6 rfl (lv_at hl 0 rfl) ?_
  refine x_gr C hTH185 (ci := 4) (k := 5) rfl inX4 (by decide) wF_X4_25 ga0 rg_78 rfl dX4_refuse_7 (fun q193 eq193 gq193 => ?_)
  refine lv_aload_n hx hb dX4_refuse_10 rfl (lv_at hl 0 rfl) ?_
  refine x_gi C hTH185 (ci := 4) (k := 7) rfl inX4 (by decide) wF_X4_42 ga0 rg_78 rfl dX4_refuse_11 (fun x194 ex194 bx194 => ?_)
  have ux194 : tat = x194 := (m189).trans ex194.symm
  subst ux194
  refine x_ai C hTH185 gq193 rg_81 ⟨by omega, by show _ < ((501 : Nat) : Int); omega⟩ dX4_refuse_14 (fun x195 ex195 bx195 => ?_)
  refine x_put C hTH185 hSH185 (ci := 4) (k := 2) (v := .int x195) (ty0 := tyX4) rfl inX4 tyX4_ok nmX4 (by decide) rfl wF_X4_36 ga0 rg_78 rfl rfl (okI (by have := i_rng x195; omega) (by have := i_rng x195; omega)) rfl rfl (AE_in ga0 (by decide)) dX4_refuse_15 (fun H196 locsH196 hTH196 hSH196 wH196 => ?_)
  have m197 := m186.trans (Wr.neR wH196 (Or.inr (x_apart hKT hts inX4 tyX4 tyX4_ok nmX4 rfl 0 2 (by decide) (by decide) (by decide)))).symm
  have m198 := m187.trans (Wr.neR wH196 (Or.inr (x_apart hKT hts inX4 tyX4 tyX4_ok nmX4 rfl 3 2 (by decide) (by decide) (by decide)))).symm
  have m199 := m188.trans (Wr.neR wH196 (Or.inr (x_apart hKT hts inX4 tyX4 tyX4_ok nmX4 rfl 4 2 (by decide) (by decide) (by decide)))).symm
  have m200 := m189.trans (Wr.neI wH196 (Or.inr (x_apart hKT hts inX4 tyX4 tyX4_ok nmX4 rfl 7 2 (by decide) (by decide) (by decide)))).symm
  have m201 := m191.trans (Wr.neI wH196 (Or.inr (x_apart hKT hts inX4 tyX4 tyX4_ok nmX4 rfl 8 2 (by decide) (by decide) (by decide)))).symm
  have m202 := m192.trans (Wr.neI wH196 (Or.inr (x_apart hKT hts inX4 tyX4 tyX4_ok nmX4 rfl 1 2 (by decide) (by decide) (by decide)))).symm
  have m203 := eq193.trans (Wr.neR wH196 (Or.inr (x_apart hKT hts inX4 tyX4 tyX4_ok nmX4 rfl 5 2 (by decide) (by decide) (by decide)))).symm
  have m204 := ex195.trans (Wr.neI wH196 (Or.inl (G_ne gq193 ga0 (by decide)))).symm
  have m205 := Wr.I wH196
  have m205 := m205.symm
  refine lv_iconst (v := 0) hx hb dX4_refuse_18 (by decide) ?_
  exact x_zret C hQ (Or.inl rfl) dX4_refuse_19 hSH196 (by decide) (by decide) (⟨0, tat, x1, rfl, by decide, m200, m202, by omega, m197, m198, m199, m201, hTH196⟩)

set_option maxHeartbeats 4000000 in
set_option maxRecDepth 100000 in
theorem a_X4_isUnit_e (l : Launch) (K : KE) (G : Nat → Option Nat) (H : Heap) {a0 : Nat} (x1 : Int32) (lw : Int32) (hT : TY K G H) (ga0 : G a0 = some 78) (elw : lw = fI H a0 (K.1.2 4 8)) : MX l K yX4_isUnit cX4_isUnit 2 (some .boolean) 0 0 0 0 [.ref a0, .int x1] H (AE G [] H.size) (fun v H1 => ∃ (r : Int32), v = some (.int r) ∧ (0 ≤ r.toInt ∧ r.toInt ≤ 1) ∧ ((r.toInt = 1 ∧ ((lw.toInt ≠ 0 ∧ (x1.toInt = 6 ∨ (11 ≤ x1.toInt ∧ x1.toInt ≤ 19))) ∨ (lw.toInt = 0 ∧ 20 ≤ x1.toInt ∧ x1.toInt ≤ 23))) ∨ (r.toInt = 0 ∧ ((lw.toInt = 0 ∨ (x1.toInt ≠ 6 ∧ (x1.toInt < 11 ∨ 19 < x1.toInt))) ∧ (lw.toInt ≠ 0 ∨ x1.toInt < 20 ∨ 23 < x1.toInt)))) ∧ TY K G H1) := by
  refine MX.of (by decide +kernel) (Nat.le_of_ble_eq_true rfl) ?_
  intro p e s m below meth c ls Q C hH hl hQ
  subst hH
  have C : CX p K s m _ meth c RX4 cX4_isUnit 2 (some .boolean) "isUnit" := C
  obtain ⟨hx, hb, hml, hown, hts, hKT, hr, hlocks, hnm⟩ := id C
  have hl : lv_has ls 2 [(0, .ref a0), (1, .int x1)] := hl
  have hS : va_S (AE G [] s.heap.size) s.heap s.heap [] := va_S.rf
  have n_0 : (0 : Int32).toInt = 0 := rfl
  have n_1 : (1 : Int32).toInt = 1 := rfl
  have n_6 : (6 : Int32).toInt = 6 := rfl
  have n_11 : (11 : Int32).toInt = 11 := rfl
  have n_19 : (19 : Int32).toInt = 19 := rfl
  have n_20 : (20 : Int32).toInt = 20 := rfl
  have n_23 : (23 : Int32).toInt = 23 := rfl
  have blw := ty_fi (x := lw) (k := 8) elw hT ga0 rg_78 rfl
  refine lv_aload_n hx hb dX4_isUnit_0 rfl (lv_at hl 0 rfl) ?_
  refine x_gi C hT (ci := 4) (k := 8) rfl inX4 (by decide) wF_X4_28 ga0 rg_78 rfl dX4_isUnit_1 (fun x153 ex153 bx153 => ?_)
  have ux153 : lw = x153 := (elw).trans ex153.symm
  subst ux153
  refine lv_if_eq (tgt := 33) hx hb dX4_isUnit_4 (by decide) (fun c154 => ?_) (fun c154 => ?_)
  · have k155 := i_eq c154
    refine lv_iload_n hx hb dX4_isUnit_33 rfl (lv_at hl 1 rfl) ?_
    refine lv_bipush (v := 20) hx hb dX4_isUnit_34 (by decide) ?_
    refine lv_icmp_lt (tgt := 49) hx hb dX4_isUnit_36 (by decide) (fun c156 => ?_) (fun c156 => ?_)
    · have k157 := i_lt c156
      refine lv_iconst (v := 0) hx hb dX4_isUnit_49 (by decide) ?_
      exact x_zret C hQ (Or.inl rfl) dX4_isUnit_50 hS (by decide) (by decide) (⟨0, rfl, by decide, by omega, hT⟩)
    · have k157 := i_nlt c156
      refine lv_iload_n hx hb dX4_isUnit_39 rfl (lv_at hl 1 rfl) ?_
      refine lv_bipush (v := 23) hx hb dX4_isUnit_40 (by decide) ?_
      refine lv_icmp_gt (tgt := 49) hx hb dX4_isUnit_42 (by decide) (fun c158 => ?_) (fun c158 => ?_)
      · have k159 := i_lt c158
        refine lv_iconst (v := 0) hx hb dX4_isUnit_49 (by decide) ?_
        exact x_zret C hQ (Or.inl rfl) dX4_isUnit_50 hS (by decide) (by decide) (⟨0, rfl, by decide, by omega, hT⟩)
      · have k159 := i_nlt c158
        refine lv_iconst (v := 1) hx hb dX4_isUnit_45 (by decide) ?_
        refine lv_goto (tgt := 50) hx hb dX4_isUnit_46 (by decide) ?_
        exact x_zret C hQ (Or.inr rfl) dX4_isUnit_50 hS (by decide) (by decide) (⟨1, rfl, by decide, by omega, hT⟩)
  · have k155 := i_ne c154
    refine lv_iload_n hx hb dX4_isUnit_7 rfl (lv_at hl 1 rfl) ?_
    refine lv_bipush (v := 6) hx hb dX4_isUnit_8 (by decide) ?_
    refine lv_icmp_eq (tgt := 25) hx hb dX4_isUnit_10 (by decide) (fun c160 => ?_) (fun c160 => ?_)
    · have k161 := i_eq c160
      refine lv_iconst (v := 1) hx hb dX4_isUnit_25 (by decide) ?_
      refine lv_goto (tgt := 50) hx hb dX4_isUnit_26 (by decide) ?_
      exact x_zret C hQ (Or.inr rfl) dX4_isUnit_50 hS (by decide) (by decide) (⟨1, rfl, by decide, by omega, hT⟩)
    · have k161 := i_ne c160
      refine lv_iload_n hx hb dX4_isUnit_13 rfl (lv_at hl 1 rfl) ?_
      refine lv_bipush (v := 11) hx hb dX4_isUnit_14 (by decide) ?_
      refine lv_icmp_lt (tgt := 29) hx hb dX4_isUnit_16 (by decide) (fun c162 => ?_) (fun c162 => ?_)
      · have k163 := i_lt c162
        refine lv_iconst (v := 0) hx hb dX4_isUnit_29 (by decide) ?_
        refine lv_goto (tgt := 50) hx hb dX4_isUnit_30 (by decide) ?_
        exact x_zret C hQ (Or.inl rfl) dX4_isUnit_50 hS (by decide) (by decide) (⟨0, rfl, by decide, by omega, hT⟩)
      · have k163 := i_nlt c162
        refine lv_iload_n hx hb dX4_isUnit_19 rfl (lv_at hl 1 rfl) ?_
        refine lv_bipush (v := 19) hx hb dX4_isUnit_20 (by decide) ?_
        refine lv_icmp_gt (tgt := 29) hx hb dX4_isUnit_22 (by decide) (fun c164 => ?_) (fun c164 => ?_)
        · have k165 := i_lt c164
          refine lv_iconst (v := 0) hx hb dX4_isUnit_29 (by decide) ?_
          refine lv_goto (tgt := 50) hx hb dX4_isUnit_30 (by decide) ?_
          exact x_zret C hQ (Or.inl rfl) dX4_isUnit_50 hS (by decide) (by decide) (⟨0, rfl, by decide, by omega, hT⟩)
        · have k165 := i_nlt c164
          refine lv_iconst (v := 1) hx hb dX4_isUnit_25 (by decide) ?_
          refine lv_goto (tgt := 50) hx hb dX4_isUnit_26 (by decide) ?_
          exact x_zret C hQ (Or.inr rfl) dX4_isUnit_50 hS (by decide) (by decide) (⟨1, rfl, by decide, by omega, hT⟩)

set_option maxHeartbeats 4000000 in
set_option maxRecDepth 100000 in
theorem a_X4_number_e (l : Launch) (K : KE) (G : Nat → Option Nat) (H : Heap) {a0 : Nat} (x1 : Int32) (x2 : Int32) {mq : Nat} {kq : Nat} {vq : Nat} (F : Int32) (tat : Int32) (fa : Int32) (lw : Int32) (li : Int32) (kk : Nat → Int) (vv : Nat → Int) (hT : TY K G H) (ga0 : G a0 = some 78) (gmq : G mq = some 69) (emq : mq = fR H a0 (K.1.2 4 0)) (gkq : G kq = some 79) (ekq : kq = fR H a0 (K.1.2 4 3)) (gvq : G vq = some 80) (evq : vq = fR H a0 (K.1.2 4 4)) (etat : tat = fI H a0 (K.1.2 4 7)) (efa : fa = fI H a0 (K.1.2 4 1)) (elw : lw = fI H a0 (K.1.2 4 8)) (eli : li = fI H mq (K.1.2 7 0)) (hel0 : fI H kq (F : Int32).toNatClampNeg = 26) (hp0 : tat.toInt ≤ F.toInt) (hp1 : F.toInt ≤ 500) (hv_kk : ∀ j : Nat, j ≤ F.toNatClampNeg → kk j = (fI H kq j).toInt) (hv_vv : ∀ j : Nat, j ≤ F.toNatClampNeg → vv j = (fI H vq j).toInt) : MX l K yX4_number cX4_number 3 (some .boolean) 1 21 0 0 [.ref a0, .int x1, .int x2] H (AE G [78] H.size) (fun v H1 => ∃ (r : Int32) (t0 : Int32) (t1 : Int32), v = some (.int r) ∧ (0 ≤ r.toInt ∧ r.toInt ≤ 1) ∧ t0 = fI H1 a0 (K.1.2 4 7) ∧ t1 = fI H1 a0 (K.1.2 4 1) ∧ ((r.toInt = 1 ∧ kk tat.toNatClampNeg = 24 ∧ x1.toInt ≤ vv tat.toNatClampNeg ∧ vv tat.toNatClampNeg ≤ x2.toInt ∧ t0.toInt = tat.toInt + 1 ∧ tat.toInt < F.toInt ∧ t1.toInt = fa.toInt) ∨ (r.toInt = 0 ∧ (kk tat.toNatClampNeg ≠ 24 ∨ vv tat.toNatClampNeg < x1.toInt ∨ x2.toInt < vv tat.toNatClampNeg) ∧ t0.toInt = tat.toInt ∧ t1.toInt ≠ 0)) ∧ mq = fR H1 a0 (K.1.2 4 0) ∧ kq = fR H1 a0 (K.1.2 4 3) ∧ vq = fR H1 a0 (K.1.2 4 4) ∧ lw = fI H1 a0 (K.1.2 4 8) ∧ TY K G H1) := by
  refine MX.of (by decide +kernel) (Nat.le_of_ble_eq_true rfl) ?_
  intro p e s m below meth c ls Q C hH hl hQ
  subst hH
  have C : CX p K s m _ meth c RX4 cX4_number 3 (some .boolean) "number" := C
  obtain ⟨hx, hb, hml, hown, hts, hKT, hr, hlocks, hnm⟩ := id C
  have hl : lv_has ls 3 [(0, .ref a0), (1, .int x1), (2, .int x2)] := hl
  have hS : va_S (AE G [78] s.heap.size) s.heap s.heap [] := va_S.rf
  have n_1 : (1 : Int32).toInt = 1 := rfl
  have n_2 : (2 : Int32).toInt = 2 := rfl
  have n_24 : (24 : Int32).toInt = 24 := rfl
  have n_26 : (26 : Int32).toInt = 26 := rfl
  have btat := ty_fi (x := tat) (k := 7) etat hT ga0 rg_78 rfl
  have bfa := ty_fi (x := fa) (k := 1) efa hT ga0 rg_78 rfl
  have blw := ty_fi (x := lw) (k := 8) elw hT ga0 rg_78 rfl
  have bli := ty_fi (x := li) (k := 0) eli hT gmq rg_69 rfl
  have f0_kk := hv_kk
  have f0_vv := hv_vv
  refine lv_aload_n hx hb dX4_number_0 rfl (lv_at hl 0 rfl) ?_
  refine x_gr C hT (ci := 4) (k := 3) rfl inX4 (by decide) wF_X4_18 ga0 rg_78 rfl dX4_number_1 (fun q393 eq393 gq393 => ?_)
  have uq393 : kq = q393 := (ekq).trans eq393.symm
  subst uq393
  refine lv_aload_n hx hb dX4_number_4 rfl (lv_at hl 0 rfl) ?_
  refine x_gi C hT (ci := 4) (k := 7) rfl inX4 (by decide) wF_X4_42 ga0 rg_78 rfl dX4_number_5 (fun x394 ex394 bx394 => ?_)
  have ux394 : tat = x394 := (etat).trans ex394.symm
  subst ux394
  refine x_ai C hT gkq rg_79 ⟨by omega, by show _ < ((501 : Nat) : Int); omega⟩ dX4_number_8 (fun x395 ex395 bx395 => ?_)
  have dx395 := el_hit ex395 hel0
  have qvx395 : kk tat.toNatClampNeg = x395.toInt := (f0_kk _ (by have h1 := i_cl (x := tat) (by omega); have h2 := i_cl (x := F) (by omega); omega)).trans (congrArg Int32.toInt ex395.symm)
  refine lv_bipush (v := 24) hx hb dX4_number_9 (by decide) ?_
  refine lv_icmp_eq (tgt := 20) hx hb dX4_number_11 (by decide) (fun c396 => ?_) (fun c396 => ?_)
  · have k397 := i_eq c396
    refine lv_aload_n hx hb dX4_number_20 rfl (lv_at hl 0 rfl) ?_
    refine x_gr C hT (ci := 4) (k := 4) rfl inX4 (by decide) wF_X4_22 ga0 rg_78 rfl dX4_number_21 (fun q398 eq398 gq398 => ?_)
    have uq398 : vq = q398 := (evq).trans eq398.symm
    subst uq398
    refine lv_aload_n hx hb dX4_number_24 rfl (lv_at hl 0 rfl) ?_
    refine x_gi C hT (ci := 4) (k := 7) rfl inX4 (by decide) wF_X4_42 ga0 rg_78 rfl dX4_number_25 (fun x399 ex399 bx399 => ?_)
    have ux399 : tat = x399 := (etat).trans ex399.symm
    subst ux399
    refine x_ai C hT gvq rg_80 ⟨by omega, by show _ < ((501 : Nat) : Int); omega⟩ dX4_number_28 (fun x400 ex400 bx400 => ?_)
    have qvx400 : vv tat.toNatClampNeg = x400.toInt := (f0_vv _ (by have h1 := i_cl (x := tat) (by omega); have h2 := i_cl (x := F) (by omega); omega)).trans (congrArg Int32.toInt ex400.symm)
    refine lv_iload_n hx hb dX4_number_29 rfl (lv_at hl 1 rfl) ?_
    refine lv_icmp_lt (tgt := 46) hx hb dX4_number_30 (by decide) (fun c401 => ?_) (fun c401 => ?_)
    · have k402 := i_lt c401
      refine lv_aload_n hx hb dX4_number_46 rfl (lv_at hl 0 rfl) ?_
      refine lv_iconst (v := 2) hx hb dX4_number_47 (by decide) ?_
      refine x_V (As := [.int 2]) (rest := []) C (a_X4_refuse_e l K G s.heap (2) (tat) (fa) (lw) hT ga0 gmq emq gkq ekq gvq evq etat efa elw) yo_X4_refuse wM_X4_81 ⟨⟨by decide, by decide⟩, by decide, by decide⟩ (x_rv C hT (ci := 4) rfl ga0 rg_78) rfl hl.1 rfl (Nat.le_of_ble_eq_true rfl) dX4_number_48 hS (AE_sub (fun _ _ => rfl) (by decide) hS.1) (fun vH403 H403 locsH403 pH403 zH403 kH403 hSH403 => ?_)
      obtain ⟨x404, x405, x406, hvH403, bx404, ex405, ex406, hrH403, m407, m408, m409, m410, hTH403⟩ := pH403
      subst hvH403
      have f411 : ∀ j : Nat, j ≤ F.toNatClampNeg → kk j = (fI H403 kq j).toInt := fun j hj => (f0_kk j hj).trans (congrArg Int32.toInt (fI_kept (x_lt hT kH403 gkq (by decide))).symm)
      have f412 : ∀ j : Nat, j ≤ F.toNatClampNeg → vv j = (fI H403 vq j).toInt := fun j hj => (f0_vv j hj).trans (congrArg Int32.toInt (fI_kept (x_lt hT kH403 gvq (by decide))).symm)
      have m413 := (eli).trans (fI_kept (x_lt hT kH403 gmq (by decide))).symm
      have m414 := (fI_kept (x_lt hT kH403 gkq (by decide))).trans hel0
      have m415 := (ex395).trans (fI_kept (x_lt hT kH403 gkq (by decide))).symm
      have m416 := (ex400).trans (fI_kept (x_lt hT kH403 gvq (by decide))).symm
      have bx405 := ty_fi (x := x405) (k := 7) ex405 hTH403 ga0 rg_78 rfl
      have bx406 := ty_fi (x := x406) (k := 1) ex406 hTH403 ga0 rg_78 rfl
      refine W.eq (g2 := F0 m 51 ls [.int x404]) rfl ?_
      exact x_zret C hQ (i_01 (by omega)) dX4_number_51 hSH403 (by decide) (by decide) (⟨x404, x405, x406, rfl, by omega, ex405, ex406, by omega, m407, m408, m409, m410, hTH403⟩)
    · have k402 := i_nlt c401
      refine lv_aload_n hx hb dX4_number_33 rfl (lv_at hl 0 rfl) ?_
      refine x_gr C hT (ci := 4) (k := 4) rfl inX4 (by decide) wF_X4_22 ga0 rg_78 rfl dX4_number_34 (fun q417 eq417 gq417 => ?_)
      have uq417 : vq = q417 := (evq).trans eq417.symm
      subst uq417
      refine lv_aload_n hx hb dX4_number_37 rfl (lv_at hl 0 rfl) ?_
      refine x_gi C hT (ci := 4) (k := 7) rfl inX4 (by decide) wF_X4_42 ga0 rg_78 rfl dX4_number_38 (fun x418 ex418 bx418 => ?_)
      have ux418 : tat = x418 := (etat).trans ex418.symm
      subst ux418
      refine x_ai C hT gvq rg_80 ⟨by omega, by show _ < ((501 : Nat) : Int); omega⟩ dX4_number_41 (fun x419 ex419 bx419 => ?_)
      have ux419 : x400 = x419 := (ex400).trans ex419.symm
      subst ux419
      have qvx419 : vv tat.toNatClampNeg = x400.toInt := (f0_vv _ (by have h1 := i_cl (x := tat) (by omega); have h2 := i_cl (x := F) (by omega); omega)).trans (congrArg Int32.toInt ex419.symm)
      refine lv_iload_n hx hb dX4_number_42 rfl (lv_at hl 2 rfl) ?_
      refine lv_icmp_le (tgt := 52) hx hb dX4_number_43 (by decide) (fun c420 => ?_) (fun c420 => ?_)
      · have k421 := i_le c420
        refine lv_aload_n hx hb dX4_number_52 rfl (lv_at hl 0 rfl) ?_
        refine lv_dup hx hb dX4_number_53 rfl ?_
        refine x_gi C hT (ci := 4) (k := 7) rfl inX4 (by decide) wF_X4_42 ga0 rg_78 rfl dX4_number_54 (fun x422 ex422 bx422 => ?_)
        have ux422 : tat = x422 := (etat).trans ex422.symm
        subst ux422
        refine lv_iconst (v := 1) hx hb dX4_number_57 (by decide) ?_
        refine lv_iadd hx hb dX4_number_58 ?_
        refine lv_topi (fun x423 ex423 => ?_)
        have tx423 := i_add ex423 (by omega)
        have fz425 : 0 ≤ x423.toInt ∧ x423.toInt ≤ 500 := by have := i_rng x423; omega
        refine x_put C hT hS (ci := 4) (k := 7) (v := .int x423) (ty0 := tyX4) rfl inX4 tyX4_ok nmX4 (by decide) rfl wF_X4_42 ga0 rg_78 rfl rfl (okI (by have := i_rng x423; omega) (by have := i_rng x423; omega)) rfl rfl (AE_in ga0 (by decide)) dX4_number_59 (fun H424 locsH424 hTH424 hSH424 wH424 => ?_)
        have f426 : ∀ j : Nat, j ≤ F.toNatClampNeg → kk j = (fI H424 kq j).toInt := fun j hj => (f0_kk j hj).trans (congrArg Int32.toInt (Wr.neI wH424 (Or.inl (G_ne gkq ga0 (by decide)))).symm)
        have f427 : ∀ j : Nat, j ≤ F.toNatClampNeg → vv j = (fI H424 vq j).toInt := fun j hj => (f0_vv j hj).trans (congrArg Int32.toInt (Wr.neI wH424 (Or.inl (G_ne gvq ga0 (by decide)))).symm)
        have m428 := emq.trans (Wr.neR wH424 (Or.inr (x_apart hKT hts inX4 tyX4 tyX4_ok nmX4 rfl 0 7 (by decide) (by decide) (by decide)))).symm
        have m429 := ekq.trans (Wr.neR wH424 (Or.inr (x_apart hKT hts inX4 tyX4 tyX4_ok nmX4 rfl 3 7 (by decide) (by decide) (by decide)))).symm
        have m430 := evq.trans (Wr.neR wH424 (Or.inr (x_apart hKT hts inX4 tyX4 tyX4_ok nmX4 rfl 4 7 (by decide) (by decide) (by decide)))).symm
        have m432 := efa.trans (Wr.neI wH424 (Or.inr (x_apart hKT hts inX4 tyX4 tyX4_ok nmX4 rfl 1 7 (by decide) (by decide) (by decide)))).symm
        have m433 := elw.trans (Wr.neI wH424 (Or.inr (x_apart hKT hts inX4 tyX4 tyX4_ok nmX4 rfl 8 7 (by decide) (by decide) (by decide)))).symm
        have m434 := eli.trans (Wr.neI wH424 (Or.inl (G_ne gmq ga0 (by decide)))).symm
        have m435 := (Wr.neI wH424 (Or.inl (G_ne gkq ga0 (by decide)))).trans hel0
        have m436 := ex395.trans (Wr.neI wH424 (Or.inl (G_ne gkq ga0 (by decide)))).symm
        have m437 := ex400.trans (Wr.neI wH424 (Or.inl (G_ne gvq ga0 (by decide)))).symm
        have m438 := Wr.I wH424
        have m438 := m438.symm
        refine lv_iconst (v := 1) hx hb dX4_number_62 (by decide) ?_
        exact x_zret C hQ (Or.inr rfl) dX4_number_63 hSH424 (by decide) (by decide) (⟨1, x423, fa, rfl, by decide, m438, m432, by omega, m428, m429, m430, m433, hTH424⟩)
      · have k421 := i_nle c420
        refine lv_aload_n hx hb dX4_number_46 rfl (lv_at hl 0 rfl) ?_
        refine lv_iconst (v := 2) hx hb dX4_number_47 (by decide) ?_
        refine x_V (As := [.int 2]) (rest := []) C (a_X4_refuse_e l K G s.heap (2) (tat) (fa) (lw) hT ga0 gmq emq gkq ekq gvq evq etat efa elw) yo_X4_refuse wM_X4_81 ⟨⟨by decide, by decide⟩, by decide, by decide⟩ (x_rv C hT (ci := 4) rfl ga0 rg_78) rfl hl.1 rfl (Nat.le_of_ble_eq_true rfl) dX4_number_48 hS (AE_sub (fun _ _ => rfl) (by decide) hS.1) (fun vH439 H439 locsH439 pH439 zH439 kH439 hSH439 => ?_)
        obtain ⟨x440, x441, x442, hvH439, bx440, ex441, ex442, hrH439, m443, m444, m445, m446, hTH439⟩ := pH439
        subst hvH439
        have f447 : ∀ j : Nat, j ≤ F.toNatClampNeg → kk j = (fI H439 kq j).toInt := fun j hj => (f0_kk j hj).trans (congrArg Int32.toInt (fI_kept (x_lt hT kH439 gkq (by decide))).symm)
        have f448 : ∀ j : Nat, j ≤ F.toNatClampNeg → vv j = (fI H439 vq j).toInt := fun j hj => (f0_vv j hj).trans (congrArg Int32.toInt (fI_kept (x_lt hT kH439 gvq (by decide))).symm)
        have m449 := (eli).trans (fI_kept (x_lt hT kH439 gmq (by decide))).symm
        have m450 := (fI_kept (x_lt hT kH439 gkq (by decide))).trans hel0
        have m451 := (ex395).trans (fI_kept (x_lt hT kH439 gkq (by decide))).symm
        have m452 := (ex400).trans (fI_kept (x_lt hT kH439 gvq (by decide))).symm
        have bx441 := ty_fi (x := x441) (k := 7) ex441 hTH439 ga0 rg_78 rfl
        have bx442 := ty_fi (x := x442) (k := 1) ex442 hTH439 ga0 rg_78 rfl
        refine W.eq (g2 := F0 m 51 ls [.int x440]) rfl ?_
        exact x_zret C hQ (i_01 (by omega)) dX4_number_51 hSH439 (by decide) (by decide) (⟨x440, x441, x442, rfl, by omega, ex441, ex442, by omega, m443, m444, m445, m446, hTH439⟩)
  · have k397 := i_ne c396
    refine lv_aload_n hx hb dX4_number_14 rfl (lv_at hl 0 rfl) ?_
    refine lv_iconst (v := 1) hx hb dX4_number_15 (by decide) ?_
    refine x_V (As := [.int 1]) (rest := []) C (a_X4_refuse_e l K G s.heap (1) (tat) (fa) (lw) hT ga0 gmq emq gkq ekq gvq evq etat efa elw) yo_X4_refuse wM_X4_81 ⟨⟨by decide, by decide⟩, by decide, by decide⟩ (x_rv C hT (ci := 4) rfl ga0 rg_78) rfl hl.1 rfl (Nat.le_of_ble_eq_true rfl) dX4_number_16 hS (AE_sub (fun _ _ => rfl) (by decide) hS.1) (fun vH453 H453 locsH453 pH453 zH453 kH453 hSH453 => ?_)
    obtain ⟨x454, x455, x456, hvH453, bx454, ex455, ex456, hrH453, m457, m458, m459, m460, hTH453⟩ := pH453
    subst hvH453
    have f461 : ∀ j : Nat, j ≤ F.toNatClampNeg → kk j = (fI H453 kq j).toInt := fun j hj => (f0_kk j hj).trans (congrArg Int32.toInt (fI_kept (x_lt hT kH453 gkq (by decide))).symm)
    have f462 : ∀ j : Nat, j ≤ F.toNatClampNeg → vv j = (fI H453 vq j).toInt := fun j hj => (f0_vv j hj).trans (congrArg Int32.toInt (fI_kept (x_lt hT kH453 gvq (by decide))).symm)
    have m463 := (eli).trans (fI_kept (x_lt hT kH453 gmq (by decide))).symm
    have m464 := (fI_kept (x_lt hT kH453 gkq (by decide))).trans hel0
    have m465 := (ex395).trans (fI_kept (x_lt hT kH453 gkq (by decide))).symm
    have bx455 := ty_fi (x := x455) (k := 7) ex455 hTH453 ga0 rg_78 rfl
    have bx456 := ty_fi (x := x456) (k := 1) ex456 hTH453 ga0 rg_78 rfl
    refine W.eq (g2 := F0 m 19 ls [.int x454]) rfl ?_
    exact x_zret C hQ (i_01 (by omega)) dX4_number_19 hSH453 (by decide) (by decide) (⟨x454, x455, x456, rfl, by omega, ex455, ex456, by omega, m457, m458, m459, m460, hTH453⟩)

set_option maxHeartbeats 4000000 in
set_option maxRecDepth 100000 in
theorem a_X4_term_e (l : Launch) (K : KE) (G : Nat → Option Nat) (H : Heap) {a0 : Nat} {mq : Nat} {kq : Nat} {vq : Nat} (F : Int32) (tat : Int32) (fa : Int32) (lw : Int32) (li : Int32) (kk : Nat → Int) (vv : Nat → Int) (hT : TY K G H) (ga0 : G a0 = some 78) (gmq : G mq = some 69) (emq : mq = fR H a0 (K.1.2 4 0)) (gkq : G kq = some 79) (ekq : kq = fR H a0 (K.1.2 4 3)) (gvq : G vq = some 80) (evq : vq = fR H a0 (K.1.2 4 4)) (etat : tat = fI H a0 (K.1.2 4 7)) (efa : fa = fI H a0 (K.1.2 4 1)) (elw : lw = fI H a0 (K.1.2 4 8)) (eli : li = fI H mq (K.1.2 7 0)) (hel0 : fI H kq (F : Int32).toNatClampNeg = 26) (hp0 : tat.toInt ≤ F.toInt) (hp1 : F.toInt ≤ 500) (hv_kk : ∀ j : Nat, j ≤ F.toNatClampNeg → kk j = (fI H kq j).toInt) (hv_vv : ∀ j : Nat, j ≤ F.toNatClampNeg → vv j = (fI H vq j).toInt) : MX l K yX4_term cX4_term 5 (some .boolean) 1 22 0 0 [.ref a0] H (AE G [78, 69, 77] H.size) (fun v H1 => ∃ (r : Int32) (t0 : Int32) (t1 : Int32), v = some (.int r) ∧ (0 ≤ r.toInt ∧ r.toInt ≤ 1) ∧ t0 = fI H1 a0 (K.1.2 4 7) ∧ t1 = fI H1 a0 (K.1.2 4 1) ∧ (t0.toInt ≤ F.toInt ∧ ((r.toInt = 1 ∧ t1.toInt = fa.toInt ∧ tat.toInt < t0.toInt) ∨ (r.toInt = 0 ∧ t1.toInt ≠ 0))) ∧ mq = fR H1 a0 (K.1.2 4 0) ∧ kq = fR H1 a0 (K.1.2 4 3) ∧ vq = fR H1 a0 (K.1.2 4 4) ∧ lw = fI H1 a0 (K.1.2 4 8) ∧ li = fI H1 mq (K.1.2 7 0) ∧ (RQ (tmI kk vv lw.toInt 0 tat.toNatClampNeg) r t0) ∧ TY K G H1) := by
  refine MX.of (by decide +kernel) (Nat.le_of_ble_eq_true rfl) ?_
  intro p e s m below meth c ls Q C hH hl hQ
  subst hH
  have C : CX p K s m _ meth c RX4 cX4_term 5 (some .boolean) "term" := C
  obtain ⟨hx, hb, hml, hown, hts, hKT, hr, hlocks, hnm⟩ := id C
  have hl : lv_has ls 5 [(0, .ref a0)] := hl
  have hS : va_S (AE G [78, 69, 77] s.heap.size) s.heap s.heap [] := va_S.rf
  have n_0 : (0 : Int32).toInt = 0 := rfl
  have n_1 : (1 : Int32).toInt = 1 := rfl
  have n_2 : (2 : Int32).toInt = 2 := rfl
  have n_24 : (24 : Int32).toInt = 24 := rfl
  have n_26 : (26 : Int32).toInt = 26 := rfl
  have n_42 : (42 : Int32).toInt = 42 := rfl
  have n_47 : (47 : Int32).toInt = 47 := rfl
  have n_500 : (500 : Int32).toInt = 500 := rfl
  have btat := ty_fi (x := tat) (k := 7) etat hT ga0 rg_78 rfl
  have bfa := ty_fi (x := fa) (k := 1) efa hT ga0 rg_78 rfl
  have blw := ty_fi (x := lw) (k := 8) elw hT ga0 rg_78 rfl
  have bli := ty_fi (x := li) (k := 0) eli hT gmq rg_69 rfl
  have hsp0 : tmI kk vv lw.toInt 0 tat.toNatClampNeg = tmI kk vv lw.toInt 0 tat.toNatClampNeg := rfl
  have f0_kk := hv_kk
  have f0_vv := hv_vv
  have J4 : ∀ (nf : Nat)  (ls17042 : Array Slot) (H17041 : Heap) (locsH17041 : List Loc) (x17044 : Int32) (x17045 : Int32) (x17046 : Int32) (x17047 : Int32), lv_has ls17042 5 [(0, .ref a0), (1, .int x17044), (2, .int x17045)] → TY K G H17041 → va_S (AE G [78, 69, 77] s.heap.size) s.heap H17041 locsH17041 → (0 ≤ x17044.toInt ∧ x17044.toInt ≤ 47) → (0 ≤ x17045.toInt ∧ x17045.toInt ≤ 500) → (0 ≤ x17046.toInt ∧ x17046.toInt ≤ 500) → (x17046 = fI H17041 a0 (K.1.2 4 7)) → (x17047 = fI H17041 a0 (K.1.2 4 1)) → (mq = fR H17041 a0 (K.1.2 4 0)) → (kq = fR H17041 a0 (K.1.2 4 3)) → (vq = fR H17041 a0 (K.1.2 4 4)) → (lw = fI H17041 a0 (K.1.2 4 8)) → (li = fI H17041 mq (K.1.2 7 0)) → (fI H17041 kq (F : Int32).toNatClampNeg = 26) → (∀ j : Nat, j ≤ F.toNatClampNeg → kk j = (fI H17041 kq j).toInt) → (∀ j : Nat, j ≤ F.toNatClampNeg → vv j = (fI H17041 vq j).toInt) → (500 - x17045.toInt < (nf : Int)) → (2 * x17045.toInt ≤ x17046.toInt ∧ tat.toInt ≤ x17046.toInt ∧ x17046.toInt ≤ F.toInt ∧ x17047.toInt = fa.toInt) → (tmI kk vv lw.toInt 0 tat.toNatClampNeg = tmI kk vv lw.toInt x17044.toInt x17046.toNatClampNeg) → W p l e ({ frames := 1, cells := 0, slots := 0, locals := 22 } : Room) s m (([.ref a0] : List Value).toArray) below meth c H17041 locsH17041 0 0 Q (F0 m 4 ls17042 []) := by
    intro nf
    induction nf with
    | zero =>
      intro  ls17042 H17041 locsH17041 x17044 x17045 x17046 x17047 hl17043 hTH17041 hSH17041 bx17044 bx17045 bx17046 ex17046 ex17047 cy17048_0 cy17048_1 cy17048_2 cy17048_3 cy17048_4 cy17048_5 fy17048_kk fy17048_vv hm4 iv4 hsp4
      have rx17047 := i_rng x17047
      exfalso
      omega
    | succ nf ih4 =>
      intro  ls17042 H17041 locsH17041 x17044 x17045 x17046 x17047 hl17043 hTH17041 hSH17041 bx17044 bx17045 bx17046 ex17046 ex17047 cy17048_0 cy17048_1 cy17048_2 cy17048_3 cy17048_4 cy17048_5 fy17048_kk fy17048_vv hm4 iv4 hsp4
      have rx17047 := i_rng x17047
      refine lv_iload_n hx hb dX4_term_4 rfl (lv_at hl17043 2 rfl) ?_
      refine lv_sipush (v := 500) hx hb dX4_term_5 (by decide) ?_
      refine lv_icmp_ge (tgt := 169) hx hb dX4_term_8 (by decide) (fun c17049 => ?_) (fun c17049 => ?_)
      · have k17050 := i_le c17049
        refine lv_iconst (v := 1) hx hb dX4_term_169 (by decide) ?_
        exact x_zret C hQ (Or.inr rfl) dX4_term_170 hSH17041 (by decide) (by decide) (⟨1, x17046, x17047, rfl, by decide, ex17046, ex17047, by omega, cy17048_0, cy17048_1, cy17048_2, cy17048_3, cy17048_4, (by exfalso; omega), hTH17041⟩)
      · have k17050 := i_nle c17049
        refine lv_aload_n hx hb dX4_term_11 rfl (lv_at hl17043 0 rfl) ?_
        refine x_gr C hTH17041 (ci := 4) (k := 3) rfl inX4 (by decide) wF_X4_18 ga0 rg_78 rfl dX4_term_12 (fun q17051 eq17051 gq17051 => ?_)
        have uq17051 : kq = q17051 := (cy17048_1).trans eq17051.symm
        subst uq17051
        refine lv_aload_n hx hb dX4_term_15 rfl (lv_at hl17043 0 rfl) ?_
        refine x_gi C hTH17041 (ci := 4) (k := 7) rfl inX4 (by decide) wF_X4_42 ga0 rg_78 rfl dX4_term_16 (fun x17052 ex17052 bx17052 => ?_)
        have ux17052 : x17046 = x17052 := (ex17046).trans ex17052.symm
        subst ux17052
        refine x_ai C hTH17041 gkq rg_79 ⟨by omega, by show _ < ((501 : Nat) : Int); omega⟩ dX4_term_19 (fun x17053 ex17053 bx17053 => ?_)
        have dx17053 := el_hit ex17053 cy17048_5
        have qvx17053 : kk x17046.toNatClampNeg = x17053.toInt := (fy17048_kk _ (by have h1 := i_cl (x := x17046) (by omega); have h2 := i_cl (x := F) (by omega); omega)).trans (congrArg Int32.toInt ex17053.symm)
        refine lv_istore_n (lv' := [(3, .int x17053), (0, .ref a0), (1, .int x17044), (2, .int x17045)]) hx hb dX4_term_20 rfl hl17043 (by decide) rfl (fun ls17054 hl17055 => ?_)
        refine lv_aload_n hx hb dX4_term_21 rfl (lv_at hl17055 1 rfl) ?_
        refine x_gr C hTH17041 (ci := 4) (k := 4) rfl inX4 (by decide) wF_X4_22 ga0 rg_78 rfl dX4_term_22 (fun q17056 eq17056 gq17056 => ?_)
        have uq17056 : vq = q17056 := (cy17048_2).trans eq17056.symm
        subst uq17056
        refine lv_aload_n hx hb dX4_term_25 rfl (lv_at hl17055 1 rfl) ?_
        refine x_gi C hTH17041 (ci := 4) (k := 7) rfl inX4 (by decide) wF_X4_42 ga0 rg_78 rfl dX4_term_26 (fun x17057 ex17057 bx17057 => ?_)
        have ux17057 : x17046 = x17057 := (ex17046).trans ex17057.symm
        subst ux17057
        refine x_ai C hTH17041 gvq rg_80 ⟨by omega, by show _ < ((501 : Nat) : Int); omega⟩ dX4_term_29 (fun x17058 ex17058 bx17058 => ?_)
        have qvx17058 : vv x17046.toNatClampNeg = x17058.toInt := (fy17048_vv _ (by have h1 := i_cl (x := x17046) (by omega); have h2 := i_cl (x := F) (by omega); omega)).trans (congrArg Int32.toInt ex17058.symm)
        refine lv_istore (lv' := [(4, .int x17058), (3, .int x17053), (0, .ref a0), (1, .int x17044), (2, .int x17045)]) hx hb dX4_term_30 hl17055 (by decide) rfl (fun ls17059 hl17060 => ?_)
        refine lv_iload_n hx hb dX4_term_32 rfl (lv_at hl17060 1 rfl) ?_
        refine lv_bipush (v := 24) hx hb dX4_term_33 (by decide) ?_
        refine lv_icmp_eq (tgt := 58) hx hb dX4_term_35 (by decide) (fun c17061 => ?_) (fun c17061 => ?_)
        · have k17062 := i_eq c17061
          refine lv_iload_n hx hb dX4_term_58 rfl (lv_at hl17060 3 rfl) ?_
          refine lv_bipush (v := 47) hx hb dX4_term_59 (by decide) ?_
          refine lv_icmp_ne (tgt := 75) hx hb dX4_term_61 (by decide) (fun c17063 => ?_) (fun c17063 => ?_)
          · have k17064 := i_ne c17063
            refine lv_iload_n hx hb dX4_term_75 rfl (lv_at hl17060 3 rfl) ?_
            refine lv_bipush (v := 47) hx hb dX4_term_76 (by decide) ?_
            refine lv_icmp_ne (tgt := 94) hx hb dX4_term_78 (by decide) (fun c17065 => ?_) (fun c17065 => ?_)
            · have k17066 := i_ne c17065
              refine lv_aload_n hx hb dX4_term_94 rfl (lv_at hl17060 2 rfl) ?_
              refine x_gr C hTH17041 (ci := 4) (k := 0) rfl inX4 (by decide) wF_X4_12 ga0 rg_78 rfl dX4_term_95 (fun q17067 eq17067 gq17067 => ?_)
              have uq17067 : mq = q17067 := (cy17048_0).trans eq17067.symm
              subst uq17067
              refine lv_iload_n hx hb dX4_term_98 rfl (lv_at hl17060 1 rfl) ?_
              refine lv_iload hx hb dX4_term_99 (lv_at hl17060 0 rfl) ?_
              refine x_V (As := [.int x17053, .int x17058]) (rest := []) C (a_X7_addStep_e l K G H17041 (x17053) (x17058) (li) hTH17041 gmq cy17048_4) yo_X7_addStep wM_X4_131 ⟨⟨by decide, by decide⟩, by decide, by decide⟩ (x_rv C hTH17041 (ci := 7) rfl gmq rg_69) rfl hl17060.1 rfl (Nat.le_of_ble_eq_true rfl) dX4_term_101 hSH17041 (AE_sub (fun _ _ => rfl) (by decide) hSH17041.1) (fun vH17068 H17068 locsH17068 pH17068 zH17068 kH17068 hSH17068 => ?_)
              obtain ⟨hvH17068, m17069, hTH17068⟩ := pH17068
              subst hvH17068
              have f17070 : ∀ j : Nat, j ≤ F.toNatClampNeg → kk j = (fI H17068 kq j).toInt := fun j hj => (fy17048_kk j hj).trans (congrArg Int32.toInt (fI_kept (x_lt hTH17041 kH17068 gkq (by decide))).symm)
              have f17071 : ∀ j : Nat, j ≤ F.toNatClampNeg → vv j = (fI H17068 vq j).toInt := fun j hj => (fy17048_vv j hj).trans (congrArg Int32.toInt (fI_kept (x_lt hTH17041 kH17068 gvq (by decide))).symm)
              have m17072 := (ex17046).trans (fI_kept (x_lt hTH17041 kH17068 ga0 (by decide))).symm
              have m17073 := (ex17047).trans (fI_kept (x_lt hTH17041 kH17068 ga0 (by decide))).symm
              have m17074 := (cy17048_0).trans (fR_kept (x_lt hTH17041 kH17068 ga0 (by decide))).symm
              have m17075 := (cy17048_1).trans (fR_kept (x_lt hTH17041 kH17068 ga0 (by decide))).symm
              have m17076 := (cy17048_2).trans (fR_kept (x_lt hTH17041 kH17068 ga0 (by decide))).symm
              have m17077 := (cy17048_3).trans (fI_kept (x_lt hTH17041 kH17068 ga0 (by decide))).symm
              have m17078 := (fI_kept (x_lt hTH17041 kH17068 gkq (by decide))).trans cy17048_5
              have m17079 := (ex17053).trans (fI_kept (x_lt hTH17041 kH17068 gkq (by decide))).symm
              have m17080 := (ex17058).trans (fI_kept (x_lt hTH17041 kH17068 gvq (by decide))).symm
              refine W.eq (g2 := F0 m 104 ls17059 []) rfl ?_
              refine lv_iload_n hx hb dX4_term_104 rfl (lv_at hl17060 3 rfl) ?_
              refine lv_bipush (v := 42) hx hb dX4_term_105 (by decide) ?_
              refine lv_icmp_ne (tgt := 119) hx hb dX4_term_107 (by decide) (fun c17081 => ?_) (fun c17081 => ?_)
              · have k17082 := i_ne c17081
                refine lv_aload_n hx hb dX4_term_119 rfl (lv_at hl17060 2 rfl) ?_
                refine lv_dup hx hb dX4_term_120 rfl ?_
                refine x_gi C hTH17068 (ci := 4) (k := 7) rfl inX4 (by decide) wF_X4_42 ga0 rg_78 rfl dX4_term_121 (fun x17083 ex17083 bx17083 => ?_)
                have ux17083 : x17046 = x17083 := (m17072).trans ex17083.symm
                subst ux17083
                refine lv_iconst (v := 1) hx hb dX4_term_124 (by decide) ?_
                refine lv_iadd hx hb dX4_term_125 ?_
                refine lv_topi (fun x17084 ex17084 => ?_)
                have tx17084 := i_add ex17084 (by omega)
                have fz17086 : 0 ≤ x17084.toInt ∧ x17084.toInt ≤ 500 := by have := i_rng x17084; omega
                refine x_put C hTH17068 hSH17068 (ci := 4) (k := 7) (v := .int x17084) (ty0 := tyX4) rfl inX4 tyX4_ok nmX4 (by decide) rfl wF_X4_42 ga0 rg_78 rfl rfl (okI (by have := i_rng x17084; omega) (by have := i_rng x17084; omega)) rfl rfl (AE_in ga0 (by decide)) dX4_term_126 (fun H17085 locsH17085 hTH17085 hSH17085 wH17085 => ?_)
                have f17087 : ∀ j : Nat, j ≤ F.toNatClampNeg → kk j = (fI H17085 kq j).toInt := fun j hj => (f17070 j hj).trans (congrArg Int32.toInt (Wr.neI wH17085 (Or.inl (G_ne gkq ga0 (by decide)))).symm)
                have f17088 : ∀ j : Nat, j ≤ F.toNatClampNeg → vv j = (fI H17085 vq j).toInt := fun j hj => (f17071 j hj).trans (congrArg Int32.toInt (Wr.neI wH17085 (Or.inl (G_ne gvq ga0 (by decide)))).symm)
                have m17090 := m17073.trans (Wr.neI wH17085 (Or.inr (x_apart hKT hts inX4 tyX4 tyX4_ok nmX4 rfl 1 7 (by decide) (by decide) (by decide)))).symm
                have m17091 := m17074.trans (Wr.neR wH17085 (Or.inr (x_apart hKT hts inX4 tyX4 tyX4_ok nmX4 rfl 0 7 (by decide) (by decide) (by decide)))).symm
                have m17092 := m17075.trans (Wr.neR wH17085 (Or.inr (x_apart hKT hts inX4 tyX4 tyX4_ok nmX4 rfl 3 7 (by decide) (by decide) (by decide)))).symm
                have m17093 := m17076.trans (Wr.neR wH17085 (Or.inr (x_apart hKT hts inX4 tyX4 tyX4_ok nmX4 rfl 4 7 (by decide) (by decide) (by decide)))).symm
                have m17094 := m17077.trans (Wr.neI wH17085 (Or.inr (x_apart hKT hts inX4 tyX4 tyX4_ok nmX4 rfl 8 7 (by decide) (by decide) (by decide)))).symm
                have m17095 := (Wr.neI wH17085 (Or.inl (G_ne gkq ga0 (by decide)))).trans m17078
                have m17096 := m17079.trans (Wr.neI wH17085 (Or.inl (G_ne gkq ga0 (by decide)))).symm
                have m17097 := m17080.trans (Wr.neI wH17085 (Or.inl (G_ne gvq ga0 (by decide)))).symm
                have m17098 := m17069.trans (Wr.neI wH17085 (Or.inl (G_ne gmq ga0 (by decide)))).symm
                have m17099 := Wr.I wH17085
                have m17099 := m17099.symm
                refine lv_aload_n hx hb dX4_term_129 rfl (lv_at hl17060 2 rfl) ?_
                refine x_gr C hTH17085 (ci := 4) (k := 3) rfl inX4 (by decide) wF_X4_18 ga0 rg_78 rfl dX4_term_130 (fun q17100 eq17100 gq17100 => ?_)
                have uq17100 : kq = q17100 := (m17092).trans eq17100.symm
                subst uq17100
                refine lv_aload_n hx hb dX4_term_133 rfl (lv_at hl17060 2 rfl) ?_
                refine x_gi C hTH17085 (ci := 4) (k := 7) rfl inX4 (by decide) wF_X4_42 ga0 rg_78 rfl dX4_term_134 (fun x17101 ex17101 bx17101 => ?_)
                have ux17101 : x17084 = x17101 := (m17099).trans ex17101.symm
                subst ux17101
                refine x_ai C hTH17085 gkq rg_79 ⟨by omega, by show _ < ((501 : Nat) : Int); omega⟩ dX4_term_137 (fun x17102 ex17102 bx17102 => ?_)
                have dx17102 := el_hit ex17102 m17095
                have qvx17102 : kk x17084.toNatClampNeg = x17102.toInt := (f17087 _ (by have h1 := i_cl (x := x17084) (by omega); have h2 := i_cl (x := F) (by omega); omega)).trans (congrArg Int32.toInt ex17102.symm)
                have cn_x17084 := i_cl (x := x17084) (by omega)
                have cn_x17046 := i_cl (x := x17046) (by omega)
                have qn17103 : kk (x17046.toNatClampNeg + 1) = x17102.toInt := by rw [show x17046.toNatClampNeg + 1 = x17084.toNatClampNeg by omega]; exact qvx17102
                refine lv_istore_n (lv' := [(1, .int x17102), (4, .int x17058), (3, .int x17053), (0, .ref a0), (2, .int x17045)]) hx hb dX4_term_138 rfl hl17060 (by decide) rfl (fun ls17104 hl17105 => ?_)
                refine lv_iload_n hx hb dX4_term_139 rfl (lv_at hl17105 0 rfl) ?_
                refine lv_bipush (v := 42) hx hb dX4_term_140 (by decide) ?_
                refine lv_icmp_eq (tgt := 153) hx hb dX4_term_142 (by decide) (fun c17106 => ?_) (fun c17106 => ?_)
                · have k17107 := i_eq c17106
                  refine lv_aload_n hx hb dX4_term_153 rfl (lv_at hl17105 3 rfl) ?_
                  refine lv_dup hx hb dX4_term_154 rfl ?_
                  refine x_gi C hTH17085 (ci := 4) (k := 7) rfl inX4 (by decide) wF_X4_42 ga0 rg_78 rfl dX4_term_155 (fun x17108 ex17108 bx17108 => ?_)
                  have ux17108 : x17084 = x17108 := (m17099).trans ex17108.symm
                  subst ux17108
                  refine lv_iconst (v := 1) hx hb dX4_term_158 (by decide) ?_
                  refine lv_iadd hx hb dX4_term_159 ?_
                  refine lv_topi (fun x17109 ex17109 => ?_)
                  have tx17109 := i_add ex17109 (by omega)
                  have fz17111 : 0 ≤ x17109.toInt ∧ x17109.toInt ≤ 500 := by have := i_rng x17109; omega
                  refine x_put C hTH17085 hSH17085 (ci := 4) (k := 7) (v := .int x17109) (ty0 := tyX4) rfl inX4 tyX4_ok nmX4 (by decide) rfl wF_X4_42 ga0 rg_78 rfl rfl (okI (by have := i_rng x17109; omega) (by have := i_rng x17109; omega)) rfl rfl (AE_in ga0 (by decide)) dX4_term_160 (fun H17110 locsH17110 hTH17110 hSH17110 wH17110 => ?_)
                  have f17112 : ∀ j : Nat, j ≤ F.toNatClampNeg → kk j = (fI H17110 kq j).toInt := fun j hj => (f17087 j hj).trans (congrArg Int32.toInt (Wr.neI wH17110 (Or.inl (G_ne gkq ga0 (by decide)))).symm)
                  have f17113 : ∀ j : Nat, j ≤ F.toNatClampNeg → vv j = (fI H17110 vq j).toInt := fun j hj => (f17088 j hj).trans (congrArg Int32.toInt (Wr.neI wH17110 (Or.inl (G_ne gvq ga0 (by decide)))).symm)
                  have m17114 := m17090.trans (Wr.neI wH17110 (Or.inr (x_apart hKT hts inX4 tyX4 tyX4_ok nmX4 rfl 1 7 (by decide) (by decide) (by decide)))).symm
                  have m17115 := m17091.trans (Wr.neR wH17110 (Or.inr (x_apart hKT hts inX4 tyX4 tyX4_ok nmX4 rfl 0 7 (by decide) (by decide) (by decide)))).symm
                  have m17116 := m17092.trans (Wr.neR wH17110 (Or.inr (x_apart hKT hts inX4 tyX4 tyX4_ok nmX4 rfl 3 7 (by decide) (by decide) (by decide)))).symm
                  have m17117 := m17093.trans (Wr.neR wH17110 (Or.inr (x_apart hKT hts inX4 tyX4 tyX4_ok nmX4 rfl 4 7 (by decide) (by decide) (by decide)))).symm
                  have m17118 := m17094.trans (Wr.neI wH17110 (Or.inr (x_apart hKT hts inX4 tyX4 tyX4_ok nmX4 rfl 8 7 (by decide) (by decide) (by decide)))).symm
                  have m17119 := (Wr.neI wH17110 (Or.inl (G_ne gkq ga0 (by decide)))).trans m17095
                  have m17120 := m17096.trans (Wr.neI wH17110 (Or.inl (G_ne gkq ga0 (by decide)))).symm
                  have m17121 := m17097.trans (Wr.neI wH17110 (Or.inl (G_ne gvq ga0 (by decide)))).symm
                  have m17122 := m17098.trans (Wr.neI wH17110 (Or.inl (G_ne gmq ga0 (by decide)))).symm
                  have m17124 := ex17102.trans (Wr.neI wH17110 (Or.inl (G_ne gkq ga0 (by decide)))).symm
                  have m17125 := Wr.I wH17110
                  have m17125 := m17125.symm
                  obtain ⟨x17126, ex17126⟩ : ∃ y : Int32, y = x17045 + 1 := ⟨_, rfl⟩
                  have tx17126 := i_add ex17126 (by omega)
                  refine lv_iinc (v := x17126) (lv' := [(2, .int x17126), (1, .int x17102), (4, .int x17058), (3, .int x17053), (0, .ref a0)]) hx hb dX4_term_163 hl17105 (k := 4) rfl (by rw [ex17126]; rfl) (by decide) rfl (fun ls17127 hl17128 => ?_)
                  refine lv_goto (tgt := 4) hx hb dX4_term_166 (by decide) ?_
                  have cn_x17046 := i_cl (x := x17046) (by omega)
                  have cn_x17109 := i_cl (x := x17109) (by omega)
                  have cn_F := i_cl (x := F) (by omega)
                  exact ih4  ls17127 H17110 locsH17110 (x17102) (x17126) (x17109) (x17047) (lv_sub hl17128 [4, 1, 0] rfl) hTH17110 hSH17110 (by have := i_rng x17102; omega) (by have := i_rng x17126; omega) (by have := i_rng x17109; omega) m17125 m17114 m17115 m17116 m17117 m17118 m17122 m17119 f17112 f17113 (by omega) (by omega) (hsp4.trans (by rw [tmI_eq (by omega), if_neg (by omega), if_neg (by omega), if_pos (by omega), qn17103, show x17046.toNatClampNeg + 2 = x17109.toNatClampNeg by omega]))
                · have k17107 := i_ne c17106
                  refine lv_iload_n hx hb dX4_term_145 rfl (lv_at hl17105 0 rfl) ?_
                  refine lv_bipush (v := 47) hx hb dX4_term_146 (by decide) ?_
                  refine lv_icmp_eq (tgt := 153) hx hb dX4_term_148 (by decide) (fun c17129 => ?_) (fun c17129 => ?_)
                  · have k17130 := i_eq c17129
                    refine lv_aload_n hx hb dX4_term_153 rfl (lv_at hl17105 3 rfl) ?_
                    refine lv_dup hx hb dX4_term_154 rfl ?_
                    refine x_gi C hTH17085 (ci := 4) (k := 7) rfl inX4 (by decide) wF_X4_42 ga0 rg_78 rfl dX4_term_155 (fun x17131 ex17131 bx17131 => ?_)
                    have ux17131 : x17084 = x17131 := (m17099).trans ex17131.symm
                    subst ux17131
                    refine lv_iconst (v := 1) hx hb dX4_term_158 (by decide) ?_
                    refine lv_iadd hx hb dX4_term_159 ?_
                    refine lv_topi (fun x17132 ex17132 => ?_)
                    have tx17132 := i_add ex17132 (by omega)
                    have fz17134 : 0 ≤ x17132.toInt ∧ x17132.toInt ≤ 500 := by have := i_rng x17132; omega
                    refine x_put C hTH17085 hSH17085 (ci := 4) (k := 7) (v := .int x17132) (ty0 := tyX4) rfl inX4 tyX4_ok nmX4 (by decide) rfl wF_X4_42 ga0 rg_78 rfl rfl (okI (by have := i_rng x17132; omega) (by have := i_rng x17132; omega)) rfl rfl (AE_in ga0 (by decide)) dX4_term_160 (fun H17133 locsH17133 hTH17133 hSH17133 wH17133 => ?_)
                    have f17135 : ∀ j : Nat, j ≤ F.toNatClampNeg → kk j = (fI H17133 kq j).toInt := fun j hj => (f17087 j hj).trans (congrArg Int32.toInt (Wr.neI wH17133 (Or.inl (G_ne gkq ga0 (by decide)))).symm)
                    have f17136 : ∀ j : Nat, j ≤ F.toNatClampNeg → vv j = (fI H17133 vq j).toInt := fun j hj => (f17088 j hj).trans (congrArg Int32.toInt (Wr.neI wH17133 (Or.inl (G_ne gvq ga0 (by decide)))).symm)
                    have m17137 := m17090.trans (Wr.neI wH17133 (Or.inr (x_apart hKT hts inX4 tyX4 tyX4_ok nmX4 rfl 1 7 (by decide) (by decide) (by decide)))).symm
                    have m17138 := m17091.trans (Wr.neR wH17133 (Or.inr (x_apart hKT hts inX4 tyX4 tyX4_ok nmX4 rfl 0 7 (by decide) (by decide) (by decide)))).symm
                    have m17139 := m17092.trans (Wr.neR wH17133 (Or.inr (x_apart hKT hts inX4 tyX4 tyX4_ok nmX4 rfl 3 7 (by decide) (by decide) (by decide)))).symm
                    have m17140 := m17093.trans (Wr.neR wH17133 (Or.inr (x_apart hKT hts inX4 tyX4 tyX4_ok nmX4 rfl 4 7 (by decide) (by decide) (by decide)))).symm
                    have m17141 := m17094.trans (Wr.neI wH17133 (Or.inr (x_apart hKT hts inX4 tyX4 tyX4_ok nmX4 rfl 8 7 (by decide) (by decide) (by decide)))).symm
                    have m17142 := (Wr.neI wH17133 (Or.inl (G_ne gkq ga0 (by decide)))).trans m17095
                    have m17143 := m17096.trans (Wr.neI wH17133 (Or.inl (G_ne gkq ga0 (by decide)))).symm
                    have m17144 := m17097.trans (Wr.neI wH17133 (Or.inl (G_ne gvq ga0 (by decide)))).symm
                    have m17145 := m17098.trans (Wr.neI wH17133 (Or.inl (G_ne gmq ga0 (by decide)))).symm
                    have m17147 := ex17102.trans (Wr.neI wH17133 (Or.inl (G_ne gkq ga0 (by decide)))).symm
                    have m17148 := Wr.I wH17133
                    have m17148 := m17148.symm
                    obtain ⟨x17149, ex17149⟩ : ∃ y : Int32, y = x17045 + 1 := ⟨_, rfl⟩
                    have tx17149 := i_add ex17149 (by omega)
                    refine lv_iinc (v := x17149) (lv' := [(2, .int x17149), (1, .int x17102), (4, .int x17058), (3, .int x17053), (0, .ref a0)]) hx hb dX4_term_163 hl17105 (k := 4) rfl (by rw [ex17149]; rfl) (by decide) rfl (fun ls17150 hl17151 => ?_)
                    refine lv_goto (tgt := 4) hx hb dX4_term_166 (by decide) ?_
                    have cn_x17046 := i_cl (x := x17046) (by omega)
                    have cn_x17132 := i_cl (x := x17132) (by omega)
                    have cn_F := i_cl (x := F) (by omega)
                    exact ih4  ls17150 H17133 locsH17133 (x17102) (x17149) (x17132) (x17047) (lv_sub hl17151 [4, 1, 0] rfl) hTH17133 hSH17133 (by have := i_rng x17102; omega) (by have := i_rng x17149; omega) (by have := i_rng x17132; omega) m17148 m17137 m17138 m17139 m17140 m17141 m17145 m17142 f17135 f17136 (by omega) (by omega) (hsp4.trans (by rw [tmI_eq (by omega), if_neg (by omega), if_neg (by omega), if_pos (by omega), qn17103, show x17046.toNatClampNeg + 2 = x17132.toNatClampNeg by omega]))
                  · have k17130 := i_ne c17129
                    refine lv_iconst (v := 1) hx hb dX4_term_151 (by decide) ?_
                    have cn_x17046 := i_cl (x := x17046) (by omega)
                    have cn_F := i_cl (x := F) (by omega)
                    have cn_x17084 := i_cl (x := x17084) (by omega)
                    exact x_zret C hQ (Or.inr rfl) dX4_term_152 hSH17085 (by decide) (by decide) (⟨1, x17084, x17047, rfl, by decide, m17099, m17090, by omega, m17091, m17092, m17093, m17094, m17098, Or.inr ⟨hsp4.trans (by rw [tmI_eq (by omega), if_neg (by omega), if_neg (by omega), if_neg (by omega), show x17046.toNatClampNeg + 1 = x17084.toNatClampNeg by omega]), by omega⟩, hTH17085⟩)
              · have k17082 := i_eq c17081
                refine lv_aload_n hx hb dX4_term_110 rfl (lv_at hl17060 2 rfl) ?_
                refine x_gr C hTH17068 (ci := 4) (k := 0) rfl inX4 (by decide) wF_X4_12 ga0 rg_78 rfl dX4_term_111 (fun q17152 eq17152 gq17152 => ?_)
                have uq17152 : mq = q17152 := (m17074).trans eq17152.symm
                subst uq17152
                refine lv_iload_n hx hb dX4_term_114 rfl (lv_at hl17060 3 rfl) ?_
                refine lv_iconst (v := 0) hx hb dX4_term_115 (by decide) ?_
                refine x_V (As := [.int x17044, .int 0]) (rest := []) C (a_X7_addStep_e l K G H17068 (x17044) (0) (li) hTH17068 gmq m17069) yo_X7_addStep wM_X4_131 ⟨⟨by decide, by decide⟩, by decide, by decide⟩ (x_rv C hTH17068 (ci := 7) rfl gmq rg_69) rfl hl17060.1 rfl (Nat.le_of_ble_eq_true rfl) dX4_term_116 hSH17068 (AE_sub (fun _ _ => rfl) (by decide) hSH17068.1) (fun vH17153 H17153 locsH17153 pH17153 zH17153 kH17153 hSH17153 => ?_)
                obtain ⟨hvH17153, m17154, hTH17153⟩ := pH17153
                subst hvH17153
                have f17155 : ∀ j : Nat, j ≤ F.toNatClampNeg → kk j = (fI H17153 kq j).toInt := fun j hj => (f17070 j hj).trans (congrArg Int32.toInt (fI_kept (x_lt hTH17068 kH17153 gkq (by decide))).symm)
                have f17156 : ∀ j : Nat, j ≤ F.toNatClampNeg → vv j = (fI H17153 vq j).toInt := fun j hj => (f17071 j hj).trans (congrArg Int32.toInt (fI_kept (x_lt hTH17068 kH17153 gvq (by decide))).symm)
                have m17157 := (m17072).trans (fI_kept (x_lt hTH17068 kH17153 ga0 (by decide))).symm
                have m17158 := (m17073).trans (fI_kept (x_lt hTH17068 kH17153 ga0 (by decide))).symm
                have m17159 := (m17074).trans (fR_kept (x_lt hTH17068 kH17153 ga0 (by decide))).symm
                have m17160 := (m17075).trans (fR_kept (x_lt hTH17068 kH17153 ga0 (by decide))).symm
                have m17161 := (m17076).trans (fR_kept (x_lt hTH17068 kH17153 ga0 (by decide))).symm
                have m17162 := (m17077).trans (fI_kept (x_lt hTH17068 kH17153 ga0 (by decide))).symm
                have m17163 := (fI_kept (x_lt hTH17068 kH17153 gkq (by decide))).trans m17078
                have m17164 := (m17079).trans (fI_kept (x_lt hTH17068 kH17153 gkq (by decide))).symm
                have m17165 := (m17080).trans (fI_kept (x_lt hTH17068 kH17153 gvq (by decide))).symm
                refine W.eq (g2 := F0 m 119 ls17059 []) rfl ?_
                refine lv_aload_n hx hb dX4_term_119 rfl (lv_at hl17060 2 rfl) ?_
                refine lv_dup hx hb dX4_term_120 rfl ?_
                refine x_gi C hTH17153 (ci := 4) (k := 7) rfl inX4 (by decide) wF_X4_42 ga0 rg_78 rfl dX4_term_121 (fun x17166 ex17166 bx17166 => ?_)
                have ux17166 : x17046 = x17166 := (m17157).trans ex17166.symm
                subst ux17166
                refine lv_iconst (v := 1) hx hb dX4_term_124 (by decide) ?_
                refine lv_iadd hx hb dX4_term_125 ?_
                refine lv_topi (fun x17167 ex17167 => ?_)
                have tx17167 := i_add ex17167 (by omega)
                have fz17169 : 0 ≤ x17167.toInt ∧ x17167.toInt ≤ 500 := by have := i_rng x17167; omega
                refine x_put C hTH17153 hSH17153 (ci := 4) (k := 7) (v := .int x17167) (ty0 := tyX4) rfl inX4 tyX4_ok nmX4 (by decide) rfl wF_X4_42 ga0 rg_78 rfl rfl (okI (by have := i_rng x17167; omega) (by have := i_rng x17167; omega)) rfl rfl (AE_in ga0 (by decide)) dX4_term_126 (fun H17168 locsH17168 hTH17168 hSH17168 wH17168 => ?_)
                have f17170 : ∀ j : Nat, j ≤ F.toNatClampNeg → kk j = (fI H17168 kq j).toInt := fun j hj => (f17155 j hj).trans (congrArg Int32.toInt (Wr.neI wH17168 (Or.inl (G_ne gkq ga0 (by decide)))).symm)
                have f17171 : ∀ j : Nat, j ≤ F.toNatClampNeg → vv j = (fI H17168 vq j).toInt := fun j hj => (f17156 j hj).trans (congrArg Int32.toInt (Wr.neI wH17168 (Or.inl (G_ne gvq ga0 (by decide)))).symm)
                have m17173 := m17158.trans (Wr.neI wH17168 (Or.inr (x_apart hKT hts inX4 tyX4 tyX4_ok nmX4 rfl 1 7 (by decide) (by decide) (by decide)))).symm
                have m17174 := m17159.trans (Wr.neR wH17168 (Or.inr (x_apart hKT hts inX4 tyX4 tyX4_ok nmX4 rfl 0 7 (by decide) (by decide) (by decide)))).symm
                have m17175 := m17160.trans (Wr.neR wH17168 (Or.inr (x_apart hKT hts inX4 tyX4 tyX4_ok nmX4 rfl 3 7 (by decide) (by decide) (by decide)))).symm
                have m17176 := m17161.trans (Wr.neR wH17168 (Or.inr (x_apart hKT hts inX4 tyX4 tyX4_ok nmX4 rfl 4 7 (by decide) (by decide) (by decide)))).symm
                have m17177 := m17162.trans (Wr.neI wH17168 (Or.inr (x_apart hKT hts inX4 tyX4 tyX4_ok nmX4 rfl 8 7 (by decide) (by decide) (by decide)))).symm
                have m17178 := (Wr.neI wH17168 (Or.inl (G_ne gkq ga0 (by decide)))).trans m17163
                have m17179 := m17164.trans (Wr.neI wH17168 (Or.inl (G_ne gkq ga0 (by decide)))).symm
                have m17180 := m17165.trans (Wr.neI wH17168 (Or.inl (G_ne gvq ga0 (by decide)))).symm
                have m17181 := m17154.trans (Wr.neI wH17168 (Or.inl (G_ne gmq ga0 (by decide)))).symm
                have m17182 := Wr.I wH17168
                have m17182 := m17182.symm
                refine lv_aload_n hx hb dX4_term_129 rfl (lv_at hl17060 2 rfl) ?_
                refine x_gr C hTH17168 (ci := 4) (k := 3) rfl inX4 (by decide) wF_X4_18 ga0 rg_78 rfl dX4_term_130 (fun q17183 eq17183 gq17183 => ?_)
                have uq17183 : kq = q17183 := (m17175).trans eq17183.symm
                subst uq17183
                refine lv_aload_n hx hb dX4_term_133 rfl (lv_at hl17060 2 rfl) ?_
                refine x_gi C hTH17168 (ci := 4) (k := 7) rfl inX4 (by decide) wF_X4_42 ga0 rg_78 rfl dX4_term_134 (fun x17184 ex17184 bx17184 => ?_)
                have ux17184 : x17167 = x17184 := (m17182).trans ex17184.symm
                subst ux17184
                refine x_ai C hTH17168 gkq rg_79 ⟨by omega, by show _ < ((501 : Nat) : Int); omega⟩ dX4_term_137 (fun x17185 ex17185 bx17185 => ?_)
                have dx17185 := el_hit ex17185 m17178
                have qvx17185 : kk x17167.toNatClampNeg = x17185.toInt := (f17170 _ (by have h1 := i_cl (x := x17167) (by omega); have h2 := i_cl (x := F) (by omega); omega)).trans (congrArg Int32.toInt ex17185.symm)
                have cn_x17167 := i_cl (x := x17167) (by omega)
                have cn_x17046 := i_cl (x := x17046) (by omega)
                have qn17186 : kk (x17046.toNatClampNeg + 1) = x17185.toInt := by rw [show x17046.toNatClampNeg + 1 = x17167.toNatClampNeg by omega]; exact qvx17185
                refine lv_istore_n (lv' := [(1, .int x17185), (4, .int x17058), (3, .int x17053), (0, .ref a0), (2, .int x17045)]) hx hb dX4_term_138 rfl hl17060 (by decide) rfl (fun ls17187 hl17188 => ?_)
                refine lv_iload_n hx hb dX4_term_139 rfl (lv_at hl17188 0 rfl) ?_
                refine lv_bipush (v := 42) hx hb dX4_term_140 (by decide) ?_
                refine lv_icmp_eq (tgt := 153) hx hb dX4_term_142 (by decide) (fun c17189 => ?_) (fun c17189 => ?_)
                · have k17190 := i_eq c17189
                  refine lv_aload_n hx hb dX4_term_153 rfl (lv_at hl17188 3 rfl) ?_
                  refine lv_dup hx hb dX4_term_154 rfl ?_
                  refine x_gi C hTH17168 (ci := 4) (k := 7) rfl inX4 (by decide) wF_X4_42 ga0 rg_78 rfl dX4_term_155 (fun x17191 ex17191 bx17191 => ?_)
                  have ux17191 : x17167 = x17191 := (m17182).trans ex17191.symm
                  subst ux17191
                  refine lv_iconst (v := 1) hx hb dX4_term_158 (by decide) ?_
                  refine lv_iadd hx hb dX4_term_159 ?_
                  refine lv_topi (fun x17192 ex17192 => ?_)
                  have tx17192 := i_add ex17192 (by omega)
                  have fz17194 : 0 ≤ x17192.toInt ∧ x17192.toInt ≤ 500 := by have := i_rng x17192; omega
                  refine x_put C hTH17168 hSH17168 (ci := 4) (k := 7) (v := .int x17192) (ty0 := tyX4) rfl inX4 tyX4_ok nmX4 (by decide) rfl wF_X4_42 ga0 rg_78 rfl rfl (okI (by have := i_rng x17192; omega) (by have := i_rng x17192; omega)) rfl rfl (AE_in ga0 (by decide)) dX4_term_160 (fun H17193 locsH17193 hTH17193 hSH17193 wH17193 => ?_)
                  have f17195 : ∀ j : Nat, j ≤ F.toNatClampNeg → kk j = (fI H17193 kq j).toInt := fun j hj => (f17170 j hj).trans (congrArg Int32.toInt (Wr.neI wH17193 (Or.inl (G_ne gkq ga0 (by decide)))).symm)
                  have f17196 : ∀ j : Nat, j ≤ F.toNatClampNeg → vv j = (fI H17193 vq j).toInt := fun j hj => (f17171 j hj).trans (congrArg Int32.toInt (Wr.neI wH17193 (Or.inl (G_ne gvq ga0 (by decide)))).symm)
                  have m17197 := m17173.trans (Wr.neI wH17193 (Or.inr (x_apart hKT hts inX4 tyX4 tyX4_ok nmX4 rfl 1 7 (by decide) (by decide) (by decide)))).symm
                  have m17198 := m17174.trans (Wr.neR wH17193 (Or.inr (x_apart hKT hts inX4 tyX4 tyX4_ok nmX4 rfl 0 7 (by decide) (by decide) (by decide)))).symm
                  have m17199 := m17175.trans (Wr.neR wH17193 (Or.inr (x_apart hKT hts inX4 tyX4 tyX4_ok nmX4 rfl 3 7 (by decide) (by decide) (by decide)))).symm
                  have m17200 := m17176.trans (Wr.neR wH17193 (Or.inr (x_apart hKT hts inX4 tyX4 tyX4_ok nmX4 rfl 4 7 (by decide) (by decide) (by decide)))).symm
                  have m17201 := m17177.trans (Wr.neI wH17193 (Or.inr (x_apart hKT hts inX4 tyX4 tyX4_ok nmX4 rfl 8 7 (by decide) (by decide) (by decide)))).symm
                  have m17202 := (Wr.neI wH17193 (Or.inl (G_ne gkq ga0 (by decide)))).trans m17178
                  have m17203 := m17179.trans (Wr.neI wH17193 (Or.inl (G_ne gkq ga0 (by decide)))).symm
                  have m17204 := m17180.trans (Wr.neI wH17193 (Or.inl (G_ne gvq ga0 (by decide)))).symm
                  have m17205 := m17181.trans (Wr.neI wH17193 (Or.inl (G_ne gmq ga0 (by decide)))).symm
                  have m17207 := ex17185.trans (Wr.neI wH17193 (Or.inl (G_ne gkq ga0 (by decide)))).symm
                  have m17208 := Wr.I wH17193
                  have m17208 := m17208.symm
                  obtain ⟨x17209, ex17209⟩ : ∃ y : Int32, y = x17045 + 1 := ⟨_, rfl⟩
                  have tx17209 := i_add ex17209 (by omega)
                  refine lv_iinc (v := x17209) (lv' := [(2, .int x17209), (1, .int x17185), (4, .int x17058), (3, .int x17053), (0, .ref a0)]) hx hb dX4_term_163 hl17188 (k := 4) rfl (by rw [ex17209]; rfl) (by decide) rfl (fun ls17210 hl17211 => ?_)
                  refine lv_goto (tgt := 4) hx hb dX4_term_166 (by decide) ?_
                  have cn_x17046 := i_cl (x := x17046) (by omega)
                  have cn_x17192 := i_cl (x := x17192) (by omega)
                  have cn_F := i_cl (x := F) (by omega)
                  exact ih4  ls17210 H17193 locsH17193 (x17185) (x17209) (x17192) (x17047) (lv_sub hl17211 [4, 1, 0] rfl) hTH17193 hSH17193 (by have := i_rng x17185; omega) (by have := i_rng x17209; omega) (by have := i_rng x17192; omega) m17208 m17197 m17198 m17199 m17200 m17201 m17205 m17202 f17195 f17196 (by omega) (by omega) (hsp4.trans (by rw [tmI_eq (by omega), if_neg (by omega), if_neg (by omega), if_pos (by omega), qn17186, show x17046.toNatClampNeg + 2 = x17192.toNatClampNeg by omega]))
                · have k17190 := i_ne c17189
                  refine lv_iload_n hx hb dX4_term_145 rfl (lv_at hl17188 0 rfl) ?_
                  refine lv_bipush (v := 47) hx hb dX4_term_146 (by decide) ?_
                  refine lv_icmp_eq (tgt := 153) hx hb dX4_term_148 (by decide) (fun c17212 => ?_) (fun c17212 => ?_)
                  · have k17213 := i_eq c17212
                    refine lv_aload_n hx hb dX4_term_153 rfl (lv_at hl17188 3 rfl) ?_
                    refine lv_dup hx hb dX4_term_154 rfl ?_
                    refine x_gi C hTH17168 (ci := 4) (k := 7) rfl inX4 (by decide) wF_X4_42 ga0 rg_78 rfl dX4_term_155 (fun x17214 ex17214 bx17214 => ?_)
                    have ux17214 : x17167 = x17214 := (m17182).trans ex17214.symm
                    subst ux17214
                    refine lv_iconst (v := 1) hx hb dX4_term_158 (by decide) ?_
                    refine lv_iadd hx hb dX4_term_159 ?_
                    refine lv_topi (fun x17215 ex17215 => ?_)
                    have tx17215 := i_add ex17215 (by omega)
                    have fz17217 : 0 ≤ x17215.toInt ∧ x17215.toInt ≤ 500 := by have := i_rng x17215; omega
                    refine x_put C hTH17168 hSH17168 (ci := 4) (k := 7) (v := .int x17215) (ty0 := tyX4) rfl inX4 tyX4_ok nmX4 (by decide) rfl wF_X4_42 ga0 rg_78 rfl rfl (okI (by have := i_rng x17215; omega) (by have := i_rng x17215; omega)) rfl rfl (AE_in ga0 (by decide)) dX4_term_160 (fun H17216 locsH17216 hTH17216 hSH17216 wH17216 => ?_)
                    have f17218 : ∀ j : Nat, j ≤ F.toNatClampNeg → kk j = (fI H17216 kq j).toInt := fun j hj => (f17170 j hj).trans (congrArg Int32.toInt (Wr.neI wH17216 (Or.inl (G_ne gkq ga0 (by decide)))).symm)
                    have f17219 : ∀ j : Nat, j ≤ F.toNatClampNeg → vv j = (fI H17216 vq j).toInt := fun j hj => (f17171 j hj).trans (congrArg Int32.toInt (Wr.neI wH17216 (Or.inl (G_ne gvq ga0 (by decide)))).symm)
                    have m17220 := m17173.trans (Wr.neI wH17216 (Or.inr (x_apart hKT hts inX4 tyX4 tyX4_ok nmX4 rfl 1 7 (by decide) (by decide) (by decide)))).symm
                    have m17221 := m17174.trans (Wr.neR wH17216 (Or.inr (x_apart hKT hts inX4 tyX4 tyX4_ok nmX4 rfl 0 7 (by decide) (by decide) (by decide)))).symm
                    have m17222 := m17175.trans (Wr.neR wH17216 (Or.inr (x_apart hKT hts inX4 tyX4 tyX4_ok nmX4 rfl 3 7 (by decide) (by decide) (by decide)))).symm
                    have m17223 := m17176.trans (Wr.neR wH17216 (Or.inr (x_apart hKT hts inX4 tyX4 tyX4_ok nmX4 rfl 4 7 (by decide) (by decide) (by decide)))).symm
                    have m17224 := m17177.trans (Wr.neI wH17216 (Or.inr (x_apart hKT hts inX4 tyX4 tyX4_ok nmX4 rfl 8 7 (by decide) (by decide) (by decide)))).symm
                    have m17225 := (Wr.neI wH17216 (Or.inl (G_ne gkq ga0 (by decide)))).trans m17178
                    have m17226 := m17179.trans (Wr.neI wH17216 (Or.inl (G_ne gkq ga0 (by decide)))).symm
                    have m17227 := m17180.trans (Wr.neI wH17216 (Or.inl (G_ne gvq ga0 (by decide)))).symm
                    have m17228 := m17181.trans (Wr.neI wH17216 (Or.inl (G_ne gmq ga0 (by decide)))).symm
                    have m17230 := ex17185.trans (Wr.neI wH17216 (Or.inl (G_ne gkq ga0 (by decide)))).symm
                    have m17231 := Wr.I wH17216
                    have m17231 := m17231.symm
                    obtain ⟨x17232, ex17232⟩ : ∃ y : Int32, y = x17045 + 1 := ⟨_, rfl⟩
                    have tx17232 := i_add ex17232 (by omega)
                    refine lv_iinc (v := x17232) (lv' := [(2, .int x17232), (1, .int x17185), (4, .int x17058), (3, .int x17053), (0, .ref a0)]) hx hb dX4_term_163 hl17188 (k := 4) rfl (by rw [ex17232]; rfl) (by decide) rfl (fun ls17233 hl17234 => ?_)
                    refine lv_goto (tgt := 4) hx hb dX4_term_166 (by decide) ?_
                    have cn_x17046 := i_cl (x := x17046) (by omega)
                    have cn_x17215 := i_cl (x := x17215) (by omega)
                    have cn_F := i_cl (x := F) (by omega)
                    exact ih4  ls17233 H17216 locsH17216 (x17185) (x17232) (x17215) (x17047) (lv_sub hl17234 [4, 1, 0] rfl) hTH17216 hSH17216 (by have := i_rng x17185; omega) (by have := i_rng x17232; omega) (by have := i_rng x17215; omega) m17231 m17220 m17221 m17222 m17223 m17224 m17228 m17225 f17218 f17219 (by omega) (by omega) (hsp4.trans (by rw [tmI_eq (by omega), if_neg (by omega), if_neg (by omega), if_pos (by omega), qn17186, show x17046.toNatClampNeg + 2 = x17215.toNatClampNeg by omega]))
                  · have k17213 := i_ne c17212
                    refine lv_iconst (v := 1) hx hb dX4_term_151 (by decide) ?_
                    have cn_x17046 := i_cl (x := x17046) (by omega)
                    have cn_F := i_cl (x := F) (by omega)
                    have cn_x17167 := i_cl (x := x17167) (by omega)
                    exact x_zret C hQ (Or.inr rfl) dX4_term_152 hSH17168 (by decide) (by decide) (⟨1, x17167, x17047, rfl, by decide, m17182, m17173, by omega, m17174, m17175, m17176, m17177, m17181, Or.inr ⟨hsp4.trans (by rw [tmI_eq (by omega), if_neg (by omega), if_neg (by omega), if_neg (by omega), show x17046.toNatClampNeg + 1 = x17167.toNatClampNeg by omega]), by omega⟩, hTH17168⟩)
            · have k17066 := i_eq c17065
              exfalso
              omega
          · have k17064 := i_eq c17063
            refine lv_iload hx hb dX4_term_64 (lv_at hl17060 0 rfl) ?_
            refine lv_if_ne (tgt := 75) hx hb dX4_term_66 (by decide) (fun c17235 => ?_) (fun c17235 => ?_)
            · have k17236 := i_ne c17235
              refine lv_iload_n hx hb dX4_term_75 rfl (lv_at hl17060 3 rfl) ?_
              refine lv_bipush (v := 47) hx hb dX4_term_76 (by decide) ?_
              refine lv_icmp_ne (tgt := 94) hx hb dX4_term_78 (by decide) (fun c17237 => ?_) (fun c17237 => ?_)
              · have k17238 := i_ne c17237
                exfalso
                omega
              · have k17238 := i_eq c17237
                refine lv_aload_n hx hb dX4_term_81 rfl (lv_at hl17060 2 rfl) ?_
                refine x_gr C hTH17041 (ci := 4) (k := 0) rfl inX4 (by decide) wF_X4_12 ga0 rg_78 rfl dX4_term_82 (fun q17239 eq17239 gq17239 => ?_)
                have uq17239 : mq = q17239 := (cy17048_0).trans eq17239.symm
                subst uq17239
                refine lv_iload_n hx hb dX4_term_85 rfl (lv_at hl17060 3 rfl) ?_
                refine lv_iload hx hb dX4_term_86 (lv_at hl17060 0 rfl) ?_
                refine x_V (As := [.int x17044, .int x17058]) (rest := []) C (a_X7_addStep_e l K G H17041 (x17044) (x17058) (li) hTH17041 gmq cy17048_4) yo_X7_addStep wM_X4_131 ⟨⟨by decide, by decide⟩, by decide, by decide⟩ (x_rv C hTH17041 (ci := 7) rfl gmq rg_69) rfl hl17060.1 rfl (Nat.le_of_ble_eq_true rfl) dX4_term_88 hSH17041 (AE_sub (fun _ _ => rfl) (by decide) hSH17041.1) (fun vH17240 H17240 locsH17240 pH17240 zH17240 kH17240 hSH17240 => ?_)
                obtain ⟨hvH17240, m17241, hTH17240⟩ := pH17240
                subst hvH17240
                have f17242 : ∀ j : Nat, j ≤ F.toNatClampNeg → kk j = (fI H17240 kq j).toInt := fun j hj => (fy17048_kk j hj).trans (congrArg Int32.toInt (fI_kept (x_lt hTH17041 kH17240 gkq (by decide))).symm)
                have f17243 : ∀ j : Nat, j ≤ F.toNatClampNeg → vv j = (fI H17240 vq j).toInt := fun j hj => (fy17048_vv j hj).trans (congrArg Int32.toInt (fI_kept (x_lt hTH17041 kH17240 gvq (by decide))).symm)
                have m17244 := (ex17046).trans (fI_kept (x_lt hTH17041 kH17240 ga0 (by decide))).symm
                have m17245 := (ex17047).trans (fI_kept (x_lt hTH17041 kH17240 ga0 (by decide))).symm
                have m17246 := (cy17048_0).trans (fR_kept (x_lt hTH17041 kH17240 ga0 (by decide))).symm
                have m17247 := (cy17048_1).trans (fR_kept (x_lt hTH17041 kH17240 ga0 (by decide))).symm
                have m17248 := (cy17048_2).trans (fR_kept (x_lt hTH17041 kH17240 ga0 (by decide))).symm
                have m17249 := (cy17048_3).trans (fI_kept (x_lt hTH17041 kH17240 ga0 (by decide))).symm
                have m17250 := (fI_kept (x_lt hTH17041 kH17240 gkq (by decide))).trans cy17048_5
                have m17251 := (ex17053).trans (fI_kept (x_lt hTH17041 kH17240 gkq (by decide))).symm
                have m17252 := (ex17058).trans (fI_kept (x_lt hTH17041 kH17240 gvq (by decide))).symm
                refine W.eq (g2 := F0 m 91 ls17059 []) rfl ?_
                refine lv_goto (tgt := 104) hx hb dX4_term_91 (by decide) ?_
                refine lv_iload_n hx hb dX4_term_104 rfl (lv_at hl17060 3 rfl) ?_
                refine lv_bipush (v := 42) hx hb dX4_term_105 (by decide) ?_
                refine lv_icmp_ne (tgt := 119) hx hb dX4_term_107 (by decide) (fun c17253 => ?_) (fun c17253 => ?_)
                · have k17254 := i_ne c17253
                  refine lv_aload_n hx hb dX4_term_119 rfl (lv_at hl17060 2 rfl) ?_
                  refine lv_dup hx hb dX4_term_120 rfl ?_
                  refine x_gi C hTH17240 (ci := 4) (k := 7) rfl inX4 (by decide) wF_X4_42 ga0 rg_78 rfl dX4_term_121 (fun x17255 ex17255 bx17255 => ?_)
                  have ux17255 : x17046 = x17255 := (m17244).trans ex17255.symm
                  subst ux17255
                  refine lv_iconst (v := 1) hx hb dX4_term_124 (by decide) ?_
                  refine lv_iadd hx hb dX4_term_125 ?_
                  refine lv_topi (fun x17256 ex17256 => ?_)
                  have tx17256 := i_add ex17256 (by omega)
                  have fz17258 : 0 ≤ x17256.toInt ∧ x17256.toInt ≤ 500 := by have := i_rng x17256; omega
                  refine x_put C hTH17240 hSH17240 (ci := 4) (k := 7) (v := .int x17256) (ty0 := tyX4) rfl inX4 tyX4_ok nmX4 (by decide) rfl wF_X4_42 ga0 rg_78 rfl rfl (okI (by have := i_rng x17256; omega) (by have := i_rng x17256; omega)) rfl rfl (AE_in ga0 (by decide)) dX4_term_126 (fun H17257 locsH17257 hTH17257 hSH17257 wH17257 => ?_)
                  have f17259 : ∀ j : Nat, j ≤ F.toNatClampNeg → kk j = (fI H17257 kq j).toInt := fun j hj => (f17242 j hj).trans (congrArg Int32.toInt (Wr.neI wH17257 (Or.inl (G_ne gkq ga0 (by decide)))).symm)
                  have f17260 : ∀ j : Nat, j ≤ F.toNatClampNeg → vv j = (fI H17257 vq j).toInt := fun j hj => (f17243 j hj).trans (congrArg Int32.toInt (Wr.neI wH17257 (Or.inl (G_ne gvq ga0 (by decide)))).symm)
                  have m17262 := m17245.trans (Wr.neI wH17257 (Or.inr (x_apart hKT hts inX4 tyX4 tyX4_ok nmX4 rfl 1 7 (by decide) (by decide) (by decide)))).symm
                  have m17263 := m17246.trans (Wr.neR wH17257 (Or.inr (x_apart hKT hts inX4 tyX4 tyX4_ok nmX4 rfl 0 7 (by decide) (by decide) (by decide)))).symm
                  have m17264 := m17247.trans (Wr.neR wH17257 (Or.inr (x_apart hKT hts inX4 tyX4 tyX4_ok nmX4 rfl 3 7 (by decide) (by decide) (by decide)))).symm
                  have m17265 := m17248.trans (Wr.neR wH17257 (Or.inr (x_apart hKT hts inX4 tyX4 tyX4_ok nmX4 rfl 4 7 (by decide) (by decide) (by decide)))).symm
                  have m17266 := m17249.trans (Wr.neI wH17257 (Or.inr (x_apart hKT hts inX4 tyX4 tyX4_ok nmX4 rfl 8 7 (by decide) (by decide) (by decide)))).symm
                  have m17267 := (Wr.neI wH17257 (Or.inl (G_ne gkq ga0 (by decide)))).trans m17250
                  have m17268 := m17251.trans (Wr.neI wH17257 (Or.inl (G_ne gkq ga0 (by decide)))).symm
                  have m17269 := m17252.trans (Wr.neI wH17257 (Or.inl (G_ne gvq ga0 (by decide)))).symm
                  have m17270 := m17241.trans (Wr.neI wH17257 (Or.inl (G_ne gmq ga0 (by decide)))).symm
                  have m17271 := Wr.I wH17257
                  have m17271 := m17271.symm
                  refine lv_aload_n hx hb dX4_term_129 rfl (lv_at hl17060 2 rfl) ?_
                  refine x_gr C hTH17257 (ci := 4) (k := 3) rfl inX4 (by decide) wF_X4_18 ga0 rg_78 rfl dX4_term_130 (fun q17272 eq17272 gq17272 => ?_)
                  have uq17272 : kq = q17272 := (m17264).trans eq17272.symm
                  subst uq17272
                  refine lv_aload_n hx hb dX4_term_133 rfl (lv_at hl17060 2 rfl) ?_
                  refine x_gi C hTH17257 (ci := 4) (k := 7) rfl inX4 (by decide) wF_X4_42 ga0 rg_78 rfl dX4_term_134 (fun x17273 ex17273 bx17273 => ?_)
                  have ux17273 : x17256 = x17273 := (m17271).trans ex17273.symm
                  subst ux17273
                  refine x_ai C hTH17257 gkq rg_79 ⟨by omega, by show _ < ((501 : Nat) : Int); omega⟩ dX4_term_137 (fun x17274 ex17274 bx17274 => ?_)
                  have dx17274 := el_hit ex17274 m17267
                  have qvx17274 : kk x17256.toNatClampNeg = x17274.toInt := (f17259 _ (by have h1 := i_cl (x := x17256) (by omega); have h2 := i_cl (x := F) (by omega); omega)).trans (congrArg Int32.toInt ex17274.symm)
                  have cn_x17256 := i_cl (x := x17256) (by omega)
                  have cn_x17046 := i_cl (x := x17046) (by omega)
                  have qn17275 : kk (x17046.toNatClampNeg + 1) = x17274.toInt := by rw [show x17046.toNatClampNeg + 1 = x17256.toNatClampNeg by omega]; exact qvx17274
                  refine lv_istore_n (lv' := [(1, .int x17274), (4, .int x17058), (3, .int x17053), (0, .ref a0), (2, .int x17045)]) hx hb dX4_term_138 rfl hl17060 (by decide) rfl (fun ls17276 hl17277 => ?_)
                  refine lv_iload_n hx hb dX4_term_139 rfl (lv_at hl17277 0 rfl) ?_
                  refine lv_bipush (v := 42) hx hb dX4_term_140 (by decide) ?_
                  refine lv_icmp_eq (tgt := 153) hx hb dX4_term_142 (by decide) (fun c17278 => ?_) (fun c17278 => ?_)
                  · have k17279 := i_eq c17278
                    refine lv_aload_n hx hb dX4_term_153 rfl (lv_at hl17277 3 rfl) ?_
                    refine lv_dup hx hb dX4_term_154 rfl ?_
                    refine x_gi C hTH17257 (ci := 4) (k := 7) rfl inX4 (by decide) wF_X4_42 ga0 rg_78 rfl dX4_term_155 (fun x17280 ex17280 bx17280 => ?_)
                    have ux17280 : x17256 = x17280 := (m17271).trans ex17280.symm
                    subst ux17280
                    refine lv_iconst (v := 1) hx hb dX4_term_158 (by decide) ?_
                    refine lv_iadd hx hb dX4_term_159 ?_
                    refine lv_topi (fun x17281 ex17281 => ?_)
                    have tx17281 := i_add ex17281 (by omega)
                    have fz17283 : 0 ≤ x17281.toInt ∧ x17281.toInt ≤ 500 := by have := i_rng x17281; omega
                    refine x_put C hTH17257 hSH17257 (ci := 4) (k := 7) (v := .int x17281) (ty0 := tyX4) rfl inX4 tyX4_ok nmX4 (by decide) rfl wF_X4_42 ga0 rg_78 rfl rfl (okI (by have := i_rng x17281; omega) (by have := i_rng x17281; omega)) rfl rfl (AE_in ga0 (by decide)) dX4_term_160 (fun H17282 locsH17282 hTH17282 hSH17282 wH17282 => ?_)
                    have f17284 : ∀ j : Nat, j ≤ F.toNatClampNeg → kk j = (fI H17282 kq j).toInt := fun j hj => (f17259 j hj).trans (congrArg Int32.toInt (Wr.neI wH17282 (Or.inl (G_ne gkq ga0 (by decide)))).symm)
                    have f17285 : ∀ j : Nat, j ≤ F.toNatClampNeg → vv j = (fI H17282 vq j).toInt := fun j hj => (f17260 j hj).trans (congrArg Int32.toInt (Wr.neI wH17282 (Or.inl (G_ne gvq ga0 (by decide)))).symm)
                    have m17286 := m17262.trans (Wr.neI wH17282 (Or.inr (x_apart hKT hts inX4 tyX4 tyX4_ok nmX4 rfl 1 7 (by decide) (by decide) (by decide)))).symm
                    have m17287 := m17263.trans (Wr.neR wH17282 (Or.inr (x_apart hKT hts inX4 tyX4 tyX4_ok nmX4 rfl 0 7 (by decide) (by decide) (by decide)))).symm
                    have m17288 := m17264.trans (Wr.neR wH17282 (Or.inr (x_apart hKT hts inX4 tyX4 tyX4_ok nmX4 rfl 3 7 (by decide) (by decide) (by decide)))).symm
                    have m17289 := m17265.trans (Wr.neR wH17282 (Or.inr (x_apart hKT hts inX4 tyX4 tyX4_ok nmX4 rfl 4 7 (by decide) (by decide) (by decide)))).symm
                    have m17290 := m17266.trans (Wr.neI wH17282 (Or.inr (x_apart hKT hts inX4 tyX4 tyX4_ok nmX4 rfl 8 7 (by decide) (by decide) (by decide)))).symm
                    have m17291 := (Wr.neI wH17282 (Or.inl (G_ne gkq ga0 (by decide)))).trans m17267
                    have m17292 := m17268.trans (Wr.neI wH17282 (Or.inl (G_ne gkq ga0 (by decide)))).symm
                    have m17293 := m17269.trans (Wr.neI wH17282 (Or.inl (G_ne gvq ga0 (by decide)))).symm
                    have m17294 := m17270.trans (Wr.neI wH17282 (Or.inl (G_ne gmq ga0 (by decide)))).symm
                    have m17296 := ex17274.trans (Wr.neI wH17282 (Or.inl (G_ne gkq ga0 (by decide)))).symm
                    have m17297 := Wr.I wH17282
                    have m17297 := m17297.symm
                    obtain ⟨x17298, ex17298⟩ : ∃ y : Int32, y = x17045 + 1 := ⟨_, rfl⟩
                    have tx17298 := i_add ex17298 (by omega)
                    refine lv_iinc (v := x17298) (lv' := [(2, .int x17298), (1, .int x17274), (4, .int x17058), (3, .int x17053), (0, .ref a0)]) hx hb dX4_term_163 hl17277 (k := 4) rfl (by rw [ex17298]; rfl) (by decide) rfl (fun ls17299 hl17300 => ?_)
                    refine lv_goto (tgt := 4) hx hb dX4_term_166 (by decide) ?_
                    have cn_x17046 := i_cl (x := x17046) (by omega)
                    have cn_x17281 := i_cl (x := x17281) (by omega)
                    have cn_F := i_cl (x := F) (by omega)
                    exact ih4  ls17299 H17282 locsH17282 (x17274) (x17298) (x17281) (x17047) (lv_sub hl17300 [4, 1, 0] rfl) hTH17282 hSH17282 (by have := i_rng x17274; omega) (by have := i_rng x17298; omega) (by have := i_rng x17281; omega) m17297 m17286 m17287 m17288 m17289 m17290 m17294 m17291 f17284 f17285 (by omega) (by omega) (hsp4.trans (by rw [tmI_eq (by omega), if_neg (by omega), if_neg (by omega), if_pos (by omega), qn17275, show x17046.toNatClampNeg + 2 = x17281.toNatClampNeg by omega]))
                  · have k17279 := i_ne c17278
                    refine lv_iload_n hx hb dX4_term_145 rfl (lv_at hl17277 0 rfl) ?_
                    refine lv_bipush (v := 47) hx hb dX4_term_146 (by decide) ?_
                    refine lv_icmp_eq (tgt := 153) hx hb dX4_term_148 (by decide) (fun c17301 => ?_) (fun c17301 => ?_)
                    · have k17302 := i_eq c17301
                      refine lv_aload_n hx hb dX4_term_153 rfl (lv_at hl17277 3 rfl) ?_
                      refine lv_dup hx hb dX4_term_154 rfl ?_
                      refine x_gi C hTH17257 (ci := 4) (k := 7) rfl inX4 (by decide) wF_X4_42 ga0 rg_78 rfl dX4_term_155 (fun x17303 ex17303 bx17303 => ?_)
                      have ux17303 : x17256 = x17303 := (m17271).trans ex17303.symm
                      subst ux17303
                      refine lv_iconst (v := 1) hx hb dX4_term_158 (by decide) ?_
                      refine lv_iadd hx hb dX4_term_159 ?_
                      refine lv_topi (fun x17304 ex17304 => ?_)
                      have tx17304 := i_add ex17304 (by omega)
                      have fz17306 : 0 ≤ x17304.toInt ∧ x17304.toInt ≤ 500 := by have := i_rng x17304; omega
                      refine x_put C hTH17257 hSH17257 (ci := 4) (k := 7) (v := .int x17304) (ty0 := tyX4) rfl inX4 tyX4_ok nmX4 (by decide) rfl wF_X4_42 ga0 rg_78 rfl rfl (okI (by have := i_rng x17304; omega) (by have := i_rng x17304; omega)) rfl rfl (AE_in ga0 (by decide)) dX4_term_160 (fun H17305 locsH17305 hTH17305 hSH17305 wH17305 => ?_)
                      have f17307 : ∀ j : Nat, j ≤ F.toNatClampNeg → kk j = (fI H17305 kq j).toInt := fun j hj => (f17259 j hj).trans (congrArg Int32.toInt (Wr.neI wH17305 (Or.inl (G_ne gkq ga0 (by decide)))).symm)
                      have f17308 : ∀ j : Nat, j ≤ F.toNatClampNeg → vv j = (fI H17305 vq j).toInt := fun j hj => (f17260 j hj).trans (congrArg Int32.toInt (Wr.neI wH17305 (Or.inl (G_ne gvq ga0 (by decide)))).symm)
                      have m17309 := m17262.trans (Wr.neI wH17305 (Or.inr (x_apart hKT hts inX4 tyX4 tyX4_ok nmX4 rfl 1 7 (by decide) (by decide) (by decide)))).symm
                      have m17310 := m17263.trans (Wr.neR wH17305 (Or.inr (x_apart hKT hts inX4 tyX4 tyX4_ok nmX4 rfl 0 7 (by decide) (by decide) (by decide)))).symm
                      have m17311 := m17264.trans (Wr.neR wH17305 (Or.inr (x_apart hKT hts inX4 tyX4 tyX4_ok nmX4 rfl 3 7 (by decide) (by decide) (by decide)))).symm
                      have m17312 := m17265.trans (Wr.neR wH17305 (Or.inr (x_apart hKT hts inX4 tyX4 tyX4_ok nmX4 rfl 4 7 (by decide) (by decide) (by decide)))).symm
                      have m17313 := m17266.trans (Wr.neI wH17305 (Or.inr (x_apart hKT hts inX4 tyX4 tyX4_ok nmX4 rfl 8 7 (by decide) (by decide) (by decide)))).symm
                      have m17314 := (Wr.neI wH17305 (Or.inl (G_ne gkq ga0 (by decide)))).trans m17267
                      have m17315 := m17268.trans (Wr.neI wH17305 (Or.inl (G_ne gkq ga0 (by decide)))).symm
                      have m17316 := m17269.trans (Wr.neI wH17305 (Or.inl (G_ne gvq ga0 (by decide)))).symm
                      have m17317 := m17270.trans (Wr.neI wH17305 (Or.inl (G_ne gmq ga0 (by decide)))).symm
                      have m17319 := ex17274.trans (Wr.neI wH17305 (Or.inl (G_ne gkq ga0 (by decide)))).symm
                      have m17320 := Wr.I wH17305
                      have m17320 := m17320.symm
                      obtain ⟨x17321, ex17321⟩ : ∃ y : Int32, y = x17045 + 1 := ⟨_, rfl⟩
                      have tx17321 := i_add ex17321 (by omega)
                      refine lv_iinc (v := x17321) (lv' := [(2, .int x17321), (1, .int x17274), (4, .int x17058), (3, .int x17053), (0, .ref a0)]) hx hb dX4_term_163 hl17277 (k := 4) rfl (by rw [ex17321]; rfl) (by decide) rfl (fun ls17322 hl17323 => ?_)
                      refine lv_goto (tgt := 4) hx hb dX4_term_166 (by decide) ?_
                      have cn_x17046 := i_cl (x := x17046) (by omega)
                      have cn_x17304 := i_cl (x := x17304) (by omega)
                      have cn_F := i_cl (x := F) (by omega)
                      exact ih4  ls17322 H17305 locsH17305 (x17274) (x17321) (x17304) (x17047) (lv_sub hl17323 [4, 1, 0] rfl) hTH17305 hSH17305 (by have := i_rng x17274; omega) (by have := i_rng x17321; omega) (by have := i_rng x17304; omega) m17320 m17309 m17310 m17311 m17312 m17313 m17317 m17314 f17307 f17308 (by omega) (by omega) (hsp4.trans (by rw [tmI_eq (by omega), if_neg (by omega), if_neg (by omega), if_pos (by omega), qn17275, show x17046.toNatClampNeg + 2 = x17304.toNatClampNeg by omega]))
                    · have k17302 := i_ne c17301
                      refine lv_iconst (v := 1) hx hb dX4_term_151 (by decide) ?_
                      have cn_x17046 := i_cl (x := x17046) (by omega)
                      have cn_F := i_cl (x := F) (by omega)
                      have cn_x17256 := i_cl (x := x17256) (by omega)
                      exact x_zret C hQ (Or.inr rfl) dX4_term_152 hSH17257 (by decide) (by decide) (⟨1, x17256, x17047, rfl, by decide, m17271, m17262, by omega, m17263, m17264, m17265, m17266, m17270, Or.inr ⟨hsp4.trans (by rw [tmI_eq (by omega), if_neg (by omega), if_neg (by omega), if_neg (by omega), show x17046.toNatClampNeg + 1 = x17256.toNatClampNeg by omega]), by omega⟩, hTH17257⟩)
                · have k17254 := i_eq c17253
                  exfalso
                  omega
            · have k17236 := i_eq c17235
              refine lv_aload_n hx hb dX4_term_69 rfl (lv_at hl17060 2 rfl) ?_
              refine lv_iconst (v := 2) hx hb dX4_term_70 (by decide) ?_
              refine x_V (As := [.int 2]) (rest := []) C (a_X4_refuse_e l K G H17041 (2) (x17046) (x17047) (lw) hTH17041 ga0 gmq cy17048_0 gkq cy17048_1 gvq cy17048_2 ex17046 ex17047 cy17048_3) yo_X4_refuse wM_X4_81 ⟨⟨by decide, by decide⟩, by decide, by decide⟩ (x_rv C hTH17041 (ci := 4) rfl ga0 rg_78) rfl hl17060.1 rfl (Nat.le_of_ble_eq_true rfl) dX4_term_71 hSH17041 (AE_sub (fun _ _ => rfl) (by decide) hSH17041.1) (fun vH17324 H17324 locsH17324 pH17324 zH17324 kH17324 hSH17324 => ?_)
              obtain ⟨x17325, x17326, x17327, hvH17324, bx17325, ex17326, ex17327, hrH17324, m17328, m17329, m17330, m17331, hTH17324⟩ := pH17324
              subst hvH17324
              have f17332 : ∀ j : Nat, j ≤ F.toNatClampNeg → kk j = (fI H17324 kq j).toInt := fun j hj => (fy17048_kk j hj).trans (congrArg Int32.toInt (fI_kept (x_lt hTH17041 kH17324 gkq (by decide))).symm)
              have f17333 : ∀ j : Nat, j ≤ F.toNatClampNeg → vv j = (fI H17324 vq j).toInt := fun j hj => (fy17048_vv j hj).trans (congrArg Int32.toInt (fI_kept (x_lt hTH17041 kH17324 gvq (by decide))).symm)
              have m17334 := (cy17048_4).trans (fI_kept (x_lt hTH17041 kH17324 gmq (by decide))).symm
              have m17335 := (fI_kept (x_lt hTH17041 kH17324 gkq (by decide))).trans cy17048_5
              have m17336 := (ex17053).trans (fI_kept (x_lt hTH17041 kH17324 gkq (by decide))).symm
              have m17337 := (ex17058).trans (fI_kept (x_lt hTH17041 kH17324 gvq (by decide))).symm
              have bx17326 := ty_fi (x := x17326) (k := 7) ex17326 hTH17324 ga0 rg_78 rfl
              have bx17327 := ty_fi (x := x17327) (k := 1) ex17327 hTH17324 ga0 rg_78 rfl
              refine W.eq (g2 := F0 m 74 ls17059 [.int x17325]) rfl ?_
              have cn_x17046 := i_cl (x := x17046) (by omega)
              have cn_F := i_cl (x := F) (by omega)
              exact x_zret C hQ (i_01 (by omega)) dX4_term_74 hSH17324 (by decide) (by decide) (⟨x17325, x17326, x17327, rfl, by omega, ex17326, ex17327, by omega, m17328, m17329, m17330, m17331, m17334, Or.inl ⟨hsp4.trans (by rw [tmI_eq (by omega), if_neg (by omega), if_pos (by omega)]), by omega⟩, hTH17324⟩)
        · have k17062 := i_ne c17061
          refine lv_iload_n hx hb dX4_term_38 rfl (lv_at hl17060 3 rfl) ?_
          refine lv_bipush (v := 47) hx hb dX4_term_39 (by decide) ?_
          refine lv_icmp_eq (tgt := 52) hx hb dX4_term_41 (by decide) (fun c17338 => ?_) (fun c17338 => ?_)
          · have k17339 := i_eq c17338
            refine lv_aload_n hx hb dX4_term_52 rfl (lv_at hl17060 2 rfl) ?_
            refine lv_iconst (v := 1) hx hb dX4_term_53 (by decide) ?_
            refine x_V (As := [.int 1]) (rest := []) C (a_X4_refuse_e l K G H17041 (1) (x17046) (x17047) (lw) hTH17041 ga0 gmq cy17048_0 gkq cy17048_1 gvq cy17048_2 ex17046 ex17047 cy17048_3) yo_X4_refuse wM_X4_81 ⟨⟨by decide, by decide⟩, by decide, by decide⟩ (x_rv C hTH17041 (ci := 4) rfl ga0 rg_78) rfl hl17060.1 rfl (Nat.le_of_ble_eq_true rfl) dX4_term_54 hSH17041 (AE_sub (fun _ _ => rfl) (by decide) hSH17041.1) (fun vH17340 H17340 locsH17340 pH17340 zH17340 kH17340 hSH17340 => ?_)
            obtain ⟨x17341, x17342, x17343, hvH17340, bx17341, ex17342, ex17343, hrH17340, m17344, m17345, m17346, m17347, hTH17340⟩ := pH17340
            subst hvH17340
            have f17348 : ∀ j : Nat, j ≤ F.toNatClampNeg → kk j = (fI H17340 kq j).toInt := fun j hj => (fy17048_kk j hj).trans (congrArg Int32.toInt (fI_kept (x_lt hTH17041 kH17340 gkq (by decide))).symm)
            have f17349 : ∀ j : Nat, j ≤ F.toNatClampNeg → vv j = (fI H17340 vq j).toInt := fun j hj => (fy17048_vv j hj).trans (congrArg Int32.toInt (fI_kept (x_lt hTH17041 kH17340 gvq (by decide))).symm)
            have m17350 := (cy17048_4).trans (fI_kept (x_lt hTH17041 kH17340 gmq (by decide))).symm
            have m17351 := (fI_kept (x_lt hTH17041 kH17340 gkq (by decide))).trans cy17048_5
            have m17352 := (ex17053).trans (fI_kept (x_lt hTH17041 kH17340 gkq (by decide))).symm
            have m17353 := (ex17058).trans (fI_kept (x_lt hTH17041 kH17340 gvq (by decide))).symm
            have bx17342 := ty_fi (x := x17342) (k := 7) ex17342 hTH17340 ga0 rg_78 rfl
            have bx17343 := ty_fi (x := x17343) (k := 1) ex17343 hTH17340 ga0 rg_78 rfl
            refine W.eq (g2 := F0 m 57 ls17059 [.int x17341]) rfl ?_
            have cn_x17046 := i_cl (x := x17046) (by omega)
            have cn_F := i_cl (x := F) (by omega)
            exact x_zret C hQ (i_01 (by omega)) dX4_term_57 hSH17340 (by decide) (by decide) (⟨x17341, x17342, x17343, rfl, by omega, ex17342, ex17343, by omega, m17344, m17345, m17346, m17347, m17350, Or.inl ⟨hsp4.trans (by rw [tmI_eq (by omega), if_pos (by omega)]), by omega⟩, hTH17340⟩)
          · have k17339 := i_ne c17338
            refine lv_aload_n hx hb dX4_term_44 rfl (lv_at hl17060 2 rfl) ?_
            refine lv_iload_n hx hb dX4_term_45 rfl (lv_at hl17060 1 rfl) ?_
            refine x_V (As := [.int x17053]) (rest := []) C (a_X4_isUnit_e l K G H17041 (x17053) (lw) hTH17041 ga0 cy17048_3) yo_X4_isUnit wM_X4_144 ⟨⟨by decide, by decide⟩, by decide, by decide⟩ (x_rv C hTH17041 (ci := 4) rfl ga0 rg_78) rfl hl17060.1 rfl (Nat.le_of_ble_eq_true rfl) dX4_term_46 hSH17041 (AE_sub (fun _ _ => rfl) (by decide) hSH17041.1) (fun vH17354 H17354 locsH17354 pH17354 zH17354 kH17354 hSH17354 => ?_)
            obtain ⟨x17355, hvH17354, bx17355, hrH17354, hTH17354⟩ := pH17354
            subst hvH17354
            have f17356 : ∀ j : Nat, j ≤ F.toNatClampNeg → kk j = (fI H17354 kq j).toInt := fun j hj => (fy17048_kk j hj).trans (congrArg Int32.toInt (fI_kept (x_lt hTH17041 kH17354 gkq (by decide))).symm)
            have f17357 : ∀ j : Nat, j ≤ F.toNatClampNeg → vv j = (fI H17354 vq j).toInt := fun j hj => (fy17048_vv j hj).trans (congrArg Int32.toInt (fI_kept (x_lt hTH17041 kH17354 gvq (by decide))).symm)
            have m17358 := (ex17046).trans (fI_kept (x_lt hTH17041 kH17354 ga0 (by decide))).symm
            have m17359 := (ex17047).trans (fI_kept (x_lt hTH17041 kH17354 ga0 (by decide))).symm
            have m17360 := (cy17048_0).trans (fR_kept (x_lt hTH17041 kH17354 ga0 (by decide))).symm
            have m17361 := (cy17048_1).trans (fR_kept (x_lt hTH17041 kH17354 ga0 (by decide))).symm
            have m17362 := (cy17048_2).trans (fR_kept (x_lt hTH17041 kH17354 ga0 (by decide))).symm
            have m17363 := (cy17048_3).trans (fI_kept (x_lt hTH17041 kH17354 ga0 (by decide))).symm
            have m17364 := (cy17048_4).trans (fI_kept (x_lt hTH17041 kH17354 gmq (by decide))).symm
            have m17365 := (fI_kept (x_lt hTH17041 kH17354 gkq (by decide))).trans cy17048_5
            have m17366 := (ex17053).trans (fI_kept (x_lt hTH17041 kH17354 gkq (by decide))).symm
            have m17367 := (ex17058).trans (fI_kept (x_lt hTH17041 kH17354 gvq (by decide))).symm
            refine W.eq (g2 := F0 m 49 ls17059 [.int x17355]) rfl ?_
            refine lv_if_ne (tgt := 58) hx hb dX4_term_49 (by decide) (fun c17368 => ?_) (fun c17368 => ?_)
            · have k17369 := i_ne c17368
              refine lv_iload_n hx hb dX4_term_58 rfl (lv_at hl17060 3 rfl) ?_
              refine lv_bipush (v := 47) hx hb dX4_term_59 (by decide) ?_
              refine lv_icmp_ne (tgt := 75) hx hb dX4_term_61 (by decide) (fun c17370 => ?_) (fun c17370 => ?_)
              · have k17371 := i_ne c17370
                refine lv_iload_n hx hb dX4_term_75 rfl (lv_at hl17060 3 rfl) ?_
                refine lv_bipush (v := 47) hx hb dX4_term_76 (by decide) ?_
                refine lv_icmp_ne (tgt := 94) hx hb dX4_term_78 (by decide) (fun c17372 => ?_) (fun c17372 => ?_)
                · have k17373 := i_ne c17372
                  refine lv_aload_n hx hb dX4_term_94 rfl (lv_at hl17060 2 rfl) ?_
                  refine x_gr C hTH17354 (ci := 4) (k := 0) rfl inX4 (by decide) wF_X4_12 ga0 rg_78 rfl dX4_term_95 (fun q17374 eq17374 gq17374 => ?_)
                  have uq17374 : mq = q17374 := (m17360).trans eq17374.symm
                  subst uq17374
                  refine lv_iload_n hx hb dX4_term_98 rfl (lv_at hl17060 1 rfl) ?_
                  refine lv_iload hx hb dX4_term_99 (lv_at hl17060 0 rfl) ?_
                  refine x_V (As := [.int x17053, .int x17058]) (rest := []) C (a_X7_addStep_e l K G H17354 (x17053) (x17058) (li) hTH17354 gmq m17364) yo_X7_addStep wM_X4_131 ⟨⟨by decide, by decide⟩, by decide, by decide⟩ (x_rv C hTH17354 (ci := 7) rfl gmq rg_69) rfl hl17060.1 rfl (Nat.le_of_ble_eq_true rfl) dX4_term_101 hSH17354 (AE_sub (fun _ _ => rfl) (by decide) hSH17354.1) (fun vH17375 H17375 locsH17375 pH17375 zH17375 kH17375 hSH17375 => ?_)
                  obtain ⟨hvH17375, m17376, hTH17375⟩ := pH17375
                  subst hvH17375
                  have f17377 : ∀ j : Nat, j ≤ F.toNatClampNeg → kk j = (fI H17375 kq j).toInt := fun j hj => (f17356 j hj).trans (congrArg Int32.toInt (fI_kept (x_lt hTH17354 kH17375 gkq (by decide))).symm)
                  have f17378 : ∀ j : Nat, j ≤ F.toNatClampNeg → vv j = (fI H17375 vq j).toInt := fun j hj => (f17357 j hj).trans (congrArg Int32.toInt (fI_kept (x_lt hTH17354 kH17375 gvq (by decide))).symm)
                  have m17379 := (m17358).trans (fI_kept (x_lt hTH17354 kH17375 ga0 (by decide))).symm
                  have m17380 := (m17359).trans (fI_kept (x_lt hTH17354 kH17375 ga0 (by decide))).symm
                  have m17381 := (m17360).trans (fR_kept (x_lt hTH17354 kH17375 ga0 (by decide))).symm
                  have m17382 := (m17361).trans (fR_kept (x_lt hTH17354 kH17375 ga0 (by decide))).symm
                  have m17383 := (m17362).trans (fR_kept (x_lt hTH17354 kH17375 ga0 (by decide))).symm
                  have m17384 := (m17363).trans (fI_kept (x_lt hTH17354 kH17375 ga0 (by decide))).symm
                  have m17385 := (fI_kept (x_lt hTH17354 kH17375 gkq (by decide))).trans m17365
                  have m17386 := (m17366).trans (fI_kept (x_lt hTH17354 kH17375 gkq (by decide))).symm
                  have m17387 := (m17367).trans (fI_kept (x_lt hTH17354 kH17375 gvq (by decide))).symm
                  refine W.eq (g2 := F0 m 104 ls17059 []) rfl ?_
                  refine lv_iload_n hx hb dX4_term_104 rfl (lv_at hl17060 3 rfl) ?_
                  refine lv_bipush (v := 42) hx hb dX4_term_105 (by decide) ?_
                  refine lv_icmp_ne (tgt := 119) hx hb dX4_term_107 (by decide) (fun c17388 => ?_) (fun c17388 => ?_)
                  · have k17389 := i_ne c17388
                    refine lv_aload_n hx hb dX4_term_119 rfl (lv_at hl17060 2 rfl) ?_
                    refine lv_dup hx hb dX4_term_120 rfl ?_
                    refine x_gi C hTH17375 (ci := 4) (k := 7) rfl inX4 (by decide) wF_X4_42 ga0 rg_78 rfl dX4_term_121 (fun x17390 ex17390 bx17390 => ?_)
                    have ux17390 : x17046 = x17390 := (m17379).trans ex17390.symm
                    subst ux17390
                    refine lv_iconst (v := 1) hx hb dX4_term_124 (by decide) ?_
                    refine lv_iadd hx hb dX4_term_125 ?_
                    refine lv_topi (fun x17391 ex17391 => ?_)
                    have tx17391 := i_add ex17391 (by omega)
                    have fz17393 : 0 ≤ x17391.toInt ∧ x17391.toInt ≤ 500 := by have := i_rng x17391; omega
                    refine x_put C hTH17375 hSH17375 (ci := 4) (k := 7) (v := .int x17391) (ty0 := tyX4) rfl inX4 tyX4_ok nmX4 (by decide) rfl wF_X4_42 ga0 rg_78 rfl rfl (okI (by have := i_rng x17391; omega) (by have := i_rng x17391; omega)) rfl rfl (AE_in ga0 (by decide)) dX4_term_126 (fun H17392 locsH17392 hTH17392 hSH17392 wH17392 => ?_)
                    have f17394 : ∀ j : Nat, j ≤ F.toNatClampNeg → kk j = (fI H17392 kq j).toInt := fun j hj => (f17377 j hj).trans (congrArg Int32.toInt (Wr.neI wH17392 (Or.inl (G_ne gkq ga0 (by decide)))).symm)
                    have f17395 : ∀ j : Nat, j ≤ F.toNatClampNeg → vv j = (fI H17392 vq j).toInt := fun j hj => (f17378 j hj).trans (congrArg Int32.toInt (Wr.neI wH17392 (Or.inl (G_ne gvq ga0 (by decide)))).symm)
                    have m17397 := m17380.trans (Wr.neI wH17392 (Or.inr (x_apart hKT hts inX4 tyX4 tyX4_ok nmX4 rfl 1 7 (by decide) (by decide) (by decide)))).symm
                    have m17398 := m17381.trans (Wr.neR wH17392 (Or.inr (x_apart hKT hts inX4 tyX4 tyX4_ok nmX4 rfl 0 7 (by decide) (by decide) (by decide)))).symm
                    have m17399 := m17382.trans (Wr.neR wH17392 (Or.inr (x_apart hKT hts inX4 tyX4 tyX4_ok nmX4 rfl 3 7 (by decide) (by decide) (by decide)))).symm
                    have m17400 := m17383.trans (Wr.neR wH17392 (Or.inr (x_apart hKT hts inX4 tyX4 tyX4_ok nmX4 rfl 4 7 (by decide) (by decide) (by decide)))).symm
                    have m17401 := m17384.trans (Wr.neI wH17392 (Or.inr (x_apart hKT hts inX4 tyX4 tyX4_ok nmX4 rfl 8 7 (by decide) (by decide) (by decide)))).symm
                    have m17402 := (Wr.neI wH17392 (Or.inl (G_ne gkq ga0 (by decide)))).trans m17385
                    have m17403 := m17386.trans (Wr.neI wH17392 (Or.inl (G_ne gkq ga0 (by decide)))).symm
                    have m17404 := m17387.trans (Wr.neI wH17392 (Or.inl (G_ne gvq ga0 (by decide)))).symm
                    have m17405 := m17376.trans (Wr.neI wH17392 (Or.inl (G_ne gmq ga0 (by decide)))).symm
                    have m17406 := Wr.I wH17392
                    have m17406 := m17406.symm
                    refine lv_aload_n hx hb dX4_term_129 rfl (lv_at hl17060 2 rfl) ?_
                    refine x_gr C hTH17392 (ci := 4) (k := 3) rfl inX4 (by decide) wF_X4_18 ga0 rg_78 rfl dX4_term_130 (fun q17407 eq17407 gq17407 => ?_)
                    have uq17407 : kq = q17407 := (m17399).trans eq17407.symm
                    subst uq17407
                    refine lv_aload_n hx hb dX4_term_133 rfl (lv_at hl17060 2 rfl) ?_
                    refine x_gi C hTH17392 (ci := 4) (k := 7) rfl inX4 (by decide) wF_X4_42 ga0 rg_78 rfl dX4_term_134 (fun x17408 ex17408 bx17408 => ?_)
                    have ux17408 : x17391 = x17408 := (m17406).trans ex17408.symm
                    subst ux17408
                    refine x_ai C hTH17392 gkq rg_79 ⟨by omega, by show _ < ((501 : Nat) : Int); omega⟩ dX4_term_137 (fun x17409 ex17409 bx17409 => ?_)
                    have dx17409 := el_hit ex17409 m17402
                    have qvx17409 : kk x17391.toNatClampNeg = x17409.toInt := (f17394 _ (by have h1 := i_cl (x := x17391) (by omega); have h2 := i_cl (x := F) (by omega); omega)).trans (congrArg Int32.toInt ex17409.symm)
                    have cn_x17391 := i_cl (x := x17391) (by omega)
                    have cn_x17046 := i_cl (x := x17046) (by omega)
                    have qn17410 : kk (x17046.toNatClampNeg + 1) = x17409.toInt := by rw [show x17046.toNatClampNeg + 1 = x17391.toNatClampNeg by omega]; exact qvx17409
                    refine lv_istore_n (lv' := [(1, .int x17409), (4, .int x17058), (3, .int x17053), (0, .ref a0), (2, .int x17045)]) hx hb dX4_term_138 rfl hl17060 (by decide) rfl (fun ls17411 hl17412 => ?_)
                    refine lv_iload_n hx hb dX4_term_139 rfl (lv_at hl17412 0 rfl) ?_
                    refine lv_bipush (v := 42) hx hb dX4_term_140 (by decide) ?_
                    refine lv_icmp_eq (tgt := 153) hx hb dX4_term_142 (by decide) (fun c17413 => ?_) (fun c17413 => ?_)
                    · have k17414 := i_eq c17413
                      refine lv_aload_n hx hb dX4_term_153 rfl (lv_at hl17412 3 rfl) ?_
                      refine lv_dup hx hb dX4_term_154 rfl ?_
                      refine x_gi C hTH17392 (ci := 4) (k := 7) rfl inX4 (by decide) wF_X4_42 ga0 rg_78 rfl dX4_term_155 (fun x17415 ex17415 bx17415 => ?_)
                      have ux17415 : x17391 = x17415 := (m17406).trans ex17415.symm
                      subst ux17415
                      refine lv_iconst (v := 1) hx hb dX4_term_158 (by decide) ?_
                      refine lv_iadd hx hb dX4_term_159 ?_
                      refine lv_topi (fun x17416 ex17416 => ?_)
                      have tx17416 := i_add ex17416 (by omega)
                      have fz17418 : 0 ≤ x17416.toInt ∧ x17416.toInt ≤ 500 := by have := i_rng x17416; omega
                      refine x_put C hTH17392 hSH17392 (ci := 4) (k := 7) (v := .int x17416) (ty0 := tyX4) rfl inX4 tyX4_ok nmX4 (by decide) rfl wF_X4_42 ga0 rg_78 rfl rfl (okI (by have := i_rng x17416; omega) (by have := i_rng x17416; omega)) rfl rfl (AE_in ga0 (by decide)) dX4_term_160 (fun H17417 locsH17417 hTH17417 hSH17417 wH17417 => ?_)
                      have f17419 : ∀ j : Nat, j ≤ F.toNatClampNeg → kk j = (fI H17417 kq j).toInt := fun j hj => (f17394 j hj).trans (congrArg Int32.toInt (Wr.neI wH17417 (Or.inl (G_ne gkq ga0 (by decide)))).symm)
                      have f17420 : ∀ j : Nat, j ≤ F.toNatClampNeg → vv j = (fI H17417 vq j).toInt := fun j hj => (f17395 j hj).trans (congrArg Int32.toInt (Wr.neI wH17417 (Or.inl (G_ne gvq ga0 (by decide)))).symm)
                      have m17421 := m17397.trans (Wr.neI wH17417 (Or.inr (x_apart hKT hts inX4 tyX4 tyX4_ok nmX4 rfl 1 7 (by decide) (by decide) (by decide)))).symm
                      have m17422 := m17398.trans (Wr.neR wH17417 (Or.inr (x_apart hKT hts inX4 tyX4 tyX4_ok nmX4 rfl 0 7 (by decide) (by decide) (by decide)))).symm
                      have m17423 := m17399.trans (Wr.neR wH17417 (Or.inr (x_apart hKT hts inX4 tyX4 tyX4_ok nmX4 rfl 3 7 (by decide) (by decide) (by decide)))).symm
                      have m17424 := m17400.trans (Wr.neR wH17417 (Or.inr (x_apart hKT hts inX4 tyX4 tyX4_ok nmX4 rfl 4 7 (by decide) (by decide) (by decide)))).symm
                      have m17425 := m17401.trans (Wr.neI wH17417 (Or.inr (x_apart hKT hts inX4 tyX4 tyX4_ok nmX4 rfl 8 7 (by decide) (by decide) (by decide)))).symm
                      have m17426 := (Wr.neI wH17417 (Or.inl (G_ne gkq ga0 (by decide)))).trans m17402
                      have m17427 := m17403.trans (Wr.neI wH17417 (Or.inl (G_ne gkq ga0 (by decide)))).symm
                      have m17428 := m17404.trans (Wr.neI wH17417 (Or.inl (G_ne gvq ga0 (by decide)))).symm
                      have m17429 := m17405.trans (Wr.neI wH17417 (Or.inl (G_ne gmq ga0 (by decide)))).symm
                      have m17431 := ex17409.trans (Wr.neI wH17417 (Or.inl (G_ne gkq ga0 (by decide)))).symm
                      have m17432 := Wr.I wH17417
                      have m17432 := m17432.symm
                      obtain ⟨x17433, ex17433⟩ : ∃ y : Int32, y = x17045 + 1 := ⟨_, rfl⟩
                      have tx17433 := i_add ex17433 (by omega)
                      refine lv_iinc (v := x17433) (lv' := [(2, .int x17433), (1, .int x17409), (4, .int x17058), (3, .int x17053), (0, .ref a0)]) hx hb dX4_term_163 hl17412 (k := 4) rfl (by rw [ex17433]; rfl) (by decide) rfl (fun ls17434 hl17435 => ?_)
                      refine lv_goto (tgt := 4) hx hb dX4_term_166 (by decide) ?_
                      have cn_x17046 := i_cl (x := x17046) (by omega)
                      have cn_x17416 := i_cl (x := x17416) (by omega)
                      have cn_F := i_cl (x := F) (by omega)
                      exact ih4  ls17434 H17417 locsH17417 (x17409) (x17433) (x17416) (x17047) (lv_sub hl17435 [4, 1, 0] rfl) hTH17417 hSH17417 (by have := i_rng x17409; omega) (by have := i_rng x17433; omega) (by have := i_rng x17416; omega) m17432 m17421 m17422 m17423 m17424 m17425 m17429 m17426 f17419 f17420 (by omega) (by omega) (hsp4.trans (by rw [tmI_eq (by omega), if_neg (by omega), if_neg (by omega), if_pos (by omega), qn17410, show x17046.toNatClampNeg + 2 = x17416.toNatClampNeg by omega]))
                    · have k17414 := i_ne c17413
                      refine lv_iload_n hx hb dX4_term_145 rfl (lv_at hl17412 0 rfl) ?_
                      refine lv_bipush (v := 47) hx hb dX4_term_146 (by decide) ?_
                      refine lv_icmp_eq (tgt := 153) hx hb dX4_term_148 (by decide) (fun c17436 => ?_) (fun c17436 => ?_)
                      · have k17437 := i_eq c17436
                        refine lv_aload_n hx hb dX4_term_153 rfl (lv_at hl17412 3 rfl) ?_
                        refine lv_dup hx hb dX4_term_154 rfl ?_
                        refine x_gi C hTH17392 (ci := 4) (k := 7) rfl inX4 (by decide) wF_X4_42 ga0 rg_78 rfl dX4_term_155 (fun x17438 ex17438 bx17438 => ?_)
                        have ux17438 : x17391 = x17438 := (m17406).trans ex17438.symm
                        subst ux17438
                        refine lv_iconst (v := 1) hx hb dX4_term_158 (by decide) ?_
                        refine lv_iadd hx hb dX4_term_159 ?_
                        refine lv_topi (fun x17439 ex17439 => ?_)
                        have tx17439 := i_add ex17439 (by omega)
                        have fz17441 : 0 ≤ x17439.toInt ∧ x17439.toInt ≤ 500 := by have := i_rng x17439; omega
                        refine x_put C hTH17392 hSH17392 (ci := 4) (k := 7) (v := .int x17439) (ty0 := tyX4) rfl inX4 tyX4_ok nmX4 (by decide) rfl wF_X4_42 ga0 rg_78 rfl rfl (okI (by have := i_rng x17439; omega) (by have := i_rng x17439; omega)) rfl rfl (AE_in ga0 (by decide)) dX4_term_160 (fun H17440 locsH17440 hTH17440 hSH17440 wH17440 => ?_)
                        have f17442 : ∀ j : Nat, j ≤ F.toNatClampNeg → kk j = (fI H17440 kq j).toInt := fun j hj => (f17394 j hj).trans (congrArg Int32.toInt (Wr.neI wH17440 (Or.inl (G_ne gkq ga0 (by decide)))).symm)
                        have f17443 : ∀ j : Nat, j ≤ F.toNatClampNeg → vv j = (fI H17440 vq j).toInt := fun j hj => (f17395 j hj).trans (congrArg Int32.toInt (Wr.neI wH17440 (Or.inl (G_ne gvq ga0 (by decide)))).symm)
                        have m17444 := m17397.trans (Wr.neI wH17440 (Or.inr (x_apart hKT hts inX4 tyX4 tyX4_ok nmX4 rfl 1 7 (by decide) (by decide) (by decide)))).symm
                        have m17445 := m17398.trans (Wr.neR wH17440 (Or.inr (x_apart hKT hts inX4 tyX4 tyX4_ok nmX4 rfl 0 7 (by decide) (by decide) (by decide)))).symm
                        have m17446 := m17399.trans (Wr.neR wH17440 (Or.inr (x_apart hKT hts inX4 tyX4 tyX4_ok nmX4 rfl 3 7 (by decide) (by decide) (by decide)))).symm
                        have m17447 := m17400.trans (Wr.neR wH17440 (Or.inr (x_apart hKT hts inX4 tyX4 tyX4_ok nmX4 rfl 4 7 (by decide) (by decide) (by decide)))).symm
                        have m17448 := m17401.trans (Wr.neI wH17440 (Or.inr (x_apart hKT hts inX4 tyX4 tyX4_ok nmX4 rfl 8 7 (by decide) (by decide) (by decide)))).symm
                        have m17449 := (Wr.neI wH17440 (Or.inl (G_ne gkq ga0 (by decide)))).trans m17402
                        have m17450 := m17403.trans (Wr.neI wH17440 (Or.inl (G_ne gkq ga0 (by decide)))).symm
                        have m17451 := m17404.trans (Wr.neI wH17440 (Or.inl (G_ne gvq ga0 (by decide)))).symm
                        have m17452 := m17405.trans (Wr.neI wH17440 (Or.inl (G_ne gmq ga0 (by decide)))).symm
                        have m17454 := ex17409.trans (Wr.neI wH17440 (Or.inl (G_ne gkq ga0 (by decide)))).symm
                        have m17455 := Wr.I wH17440
                        have m17455 := m17455.symm
                        obtain ⟨x17456, ex17456⟩ : ∃ y : Int32, y = x17045 + 1 := ⟨_, rfl⟩
                        have tx17456 := i_add ex17456 (by omega)
                        refine lv_iinc (v := x17456) (lv' := [(2, .int x17456), (1, .int x17409), (4, .int x17058), (3, .int x17053), (0, .ref a0)]) hx hb dX4_term_163 hl17412 (k := 4) rfl (by rw [ex17456]; rfl) (by decide) rfl (fun ls17457 hl17458 => ?_)
                        refine lv_goto (tgt := 4) hx hb dX4_term_166 (by decide) ?_
                        have cn_x17046 := i_cl (x := x17046) (by omega)
                        have cn_x17439 := i_cl (x := x17439) (by omega)
                        have cn_F := i_cl (x := F) (by omega)
                        exact ih4  ls17457 H17440 locsH17440 (x17409) (x17456) (x17439) (x17047) (lv_sub hl17458 [4, 1, 0] rfl) hTH17440 hSH17440 (by have := i_rng x17409; omega) (by have := i_rng x17456; omega) (by have := i_rng x17439; omega) m17455 m17444 m17445 m17446 m17447 m17448 m17452 m17449 f17442 f17443 (by omega) (by omega) (hsp4.trans (by rw [tmI_eq (by omega), if_neg (by omega), if_neg (by omega), if_pos (by omega), qn17410, show x17046.toNatClampNeg + 2 = x17439.toNatClampNeg by omega]))
                      · have k17437 := i_ne c17436
                        refine lv_iconst (v := 1) hx hb dX4_term_151 (by decide) ?_
                        have cn_x17046 := i_cl (x := x17046) (by omega)
                        have cn_F := i_cl (x := F) (by omega)
                        have cn_x17391 := i_cl (x := x17391) (by omega)
                        exact x_zret C hQ (Or.inr rfl) dX4_term_152 hSH17392 (by decide) (by decide) (⟨1, x17391, x17047, rfl, by decide, m17406, m17397, by omega, m17398, m17399, m17400, m17401, m17405, Or.inr ⟨hsp4.trans (by rw [tmI_eq (by omega), if_neg (by omega), if_neg (by omega), if_neg (by omega), show x17046.toNatClampNeg + 1 = x17391.toNatClampNeg by omega]), by omega⟩, hTH17392⟩)
                  · have k17389 := i_eq c17388
                    refine lv_aload_n hx hb dX4_term_110 rfl (lv_at hl17060 2 rfl) ?_
                    refine x_gr C hTH17375 (ci := 4) (k := 0) rfl inX4 (by decide) wF_X4_12 ga0 rg_78 rfl dX4_term_111 (fun q17459 eq17459 gq17459 => ?_)
                    have uq17459 : mq = q17459 := (m17381).trans eq17459.symm
                    subst uq17459
                    refine lv_iload_n hx hb dX4_term_114 rfl (lv_at hl17060 3 rfl) ?_
                    refine lv_iconst (v := 0) hx hb dX4_term_115 (by decide) ?_
                    refine x_V (As := [.int x17044, .int 0]) (rest := []) C (a_X7_addStep_e l K G H17375 (x17044) (0) (li) hTH17375 gmq m17376) yo_X7_addStep wM_X4_131 ⟨⟨by decide, by decide⟩, by decide, by decide⟩ (x_rv C hTH17375 (ci := 7) rfl gmq rg_69) rfl hl17060.1 rfl (Nat.le_of_ble_eq_true rfl) dX4_term_116 hSH17375 (AE_sub (fun _ _ => rfl) (by decide) hSH17375.1) (fun vH17460 H17460 locsH17460 pH17460 zH17460 kH17460 hSH17460 => ?_)
                    obtain ⟨hvH17460, m17461, hTH17460⟩ := pH17460
                    subst hvH17460
                    have f17462 : ∀ j : Nat, j ≤ F.toNatClampNeg → kk j = (fI H17460 kq j).toInt := fun j hj => (f17377 j hj).trans (congrArg Int32.toInt (fI_kept (x_lt hTH17375 kH17460 gkq (by decide))).symm)
                    have f17463 : ∀ j : Nat, j ≤ F.toNatClampNeg → vv j = (fI H17460 vq j).toInt := fun j hj => (f17378 j hj).trans (congrArg Int32.toInt (fI_kept (x_lt hTH17375 kH17460 gvq (by decide))).symm)
                    have m17464 := (m17379).trans (fI_kept (x_lt hTH17375 kH17460 ga0 (by decide))).symm
                    have m17465 := (m17380).trans (fI_kept (x_lt hTH17375 kH17460 ga0 (by decide))).symm
                    have m17466 := (m17381).trans (fR_kept (x_lt hTH17375 kH17460 ga0 (by decide))).symm
                    have m17467 := (m17382).trans (fR_kept (x_lt hTH17375 kH17460 ga0 (by decide))).symm
                    have m17468 := (m17383).trans (fR_kept (x_lt hTH17375 kH17460 ga0 (by decide))).symm
                    have m17469 := (m17384).trans (fI_kept (x_lt hTH17375 kH17460 ga0 (by decide))).symm
                    have m17470 := (fI_kept (x_lt hTH17375 kH17460 gkq (by decide))).trans m17385
                    have m17471 := (m17386).trans (fI_kept (x_lt hTH17375 kH17460 gkq (by decide))).symm
                    have m17472 := (m17387).trans (fI_kept (x_lt hTH17375 kH17460 gvq (by decide))).symm
                    refine W.eq (g2 := F0 m 119 ls17059 []) rfl ?_
                    refine lv_aload_n hx hb dX4_term_119 rfl (lv_at hl17060 2 rfl) ?_
                    refine lv_dup hx hb dX4_term_120 rfl ?_
                    refine x_gi C hTH17460 (ci := 4) (k := 7) rfl inX4 (by decide) wF_X4_42 ga0 rg_78 rfl dX4_term_121 (fun x17473 ex17473 bx17473 => ?_)
                    have ux17473 : x17046 = x17473 := (m17464).trans ex17473.symm
                    subst ux17473
                    refine lv_iconst (v := 1) hx hb dX4_term_124 (by decide) ?_
                    refine lv_iadd hx hb dX4_term_125 ?_
                    refine lv_topi (fun x17474 ex17474 => ?_)
                    have tx17474 := i_add ex17474 (by omega)
                    have fz17476 : 0 ≤ x17474.toInt ∧ x17474.toInt ≤ 500 := by have := i_rng x17474; omega
                    refine x_put C hTH17460 hSH17460 (ci := 4) (k := 7) (v := .int x17474) (ty0 := tyX4) rfl inX4 tyX4_ok nmX4 (by decide) rfl wF_X4_42 ga0 rg_78 rfl rfl (okI (by have := i_rng x17474; omega) (by have := i_rng x17474; omega)) rfl rfl (AE_in ga0 (by decide)) dX4_term_126 (fun H17475 locsH17475 hTH17475 hSH17475 wH17475 => ?_)
                    have f17477 : ∀ j : Nat, j ≤ F.toNatClampNeg → kk j = (fI H17475 kq j).toInt := fun j hj => (f17462 j hj).trans (congrArg Int32.toInt (Wr.neI wH17475 (Or.inl (G_ne gkq ga0 (by decide)))).symm)
                    have f17478 : ∀ j : Nat, j ≤ F.toNatClampNeg → vv j = (fI H17475 vq j).toInt := fun j hj => (f17463 j hj).trans (congrArg Int32.toInt (Wr.neI wH17475 (Or.inl (G_ne gvq ga0 (by decide)))).symm)
                    have m17480 := m17465.trans (Wr.neI wH17475 (Or.inr (x_apart hKT hts inX4 tyX4 tyX4_ok nmX4 rfl 1 7 (by decide) (by decide) (by decide)))).symm
                    have m17481 := m17466.trans (Wr.neR wH17475 (Or.inr (x_apart hKT hts inX4 tyX4 tyX4_ok nmX4 rfl 0 7 (by decide) (by decide) (by decide)))).symm
                    have m17482 := m17467.trans (Wr.neR wH17475 (Or.inr (x_apart hKT hts inX4 tyX4 tyX4_ok nmX4 rfl 3 7 (by decide) (by decide) (by decide)))).symm
                    have m17483 := m17468.trans (Wr.neR wH17475 (Or.inr (x_apart hKT hts inX4 tyX4 tyX4_ok nmX4 rfl 4 7 (by decide) (by decide) (by decide)))).symm
                    have m17484 := m17469.trans (Wr.neI wH17475 (Or.inr (x_apart hKT hts inX4 tyX4 tyX4_ok nmX4 rfl 8 7 (by decide) (by decide) (by decide)))).symm
                    have m17485 := (Wr.neI wH17475 (Or.inl (G_ne gkq ga0 (by decide)))).trans m17470
                    have m17486 := m17471.trans (Wr.neI wH17475 (Or.inl (G_ne gkq ga0 (by decide)))).symm
                    have m17487 := m17472.trans (Wr.neI wH17475 (Or.inl (G_ne gvq ga0 (by decide)))).symm
                    have m17488 := m17461.trans (Wr.neI wH17475 (Or.inl (G_ne gmq ga0 (by decide)))).symm
                    have m17489 := Wr.I wH17475
                    have m17489 := m17489.symm
                    refine lv_aload_n hx hb dX4_term_129 rfl (lv_at hl17060 2 rfl) ?_
                    refine x_gr C hTH17475 (ci := 4) (k := 3) rfl inX4 (by decide) wF_X4_18 ga0 rg_78 rfl dX4_term_130 (fun q17490 eq17490 gq17490 => ?_)
                    have uq17490 : kq = q17490 := (m17482).trans eq17490.symm
                    subst uq17490
                    refine lv_aload_n hx hb dX4_term_133 rfl (lv_at hl17060 2 rfl) ?_
                    refine x_gi C hTH17475 (ci := 4) (k := 7) rfl inX4 (by decide) wF_X4_42 ga0 rg_78 rfl dX4_term_134 (fun x17491 ex17491 bx17491 => ?_)
                    have ux17491 : x17474 = x17491 := (m17489).trans ex17491.symm
                    subst ux17491
                    refine x_ai C hTH17475 gkq rg_79 ⟨by omega, by show _ < ((501 : Nat) : Int); omega⟩ dX4_term_137 (fun x17492 ex17492 bx17492 => ?_)
                    have dx17492 := el_hit ex17492 m17485
                    have qvx17492 : kk x17474.toNatClampNeg = x17492.toInt := (f17477 _ (by have h1 := i_cl (x := x17474) (by omega); have h2 := i_cl (x := F) (by omega); omega)).trans (congrArg Int32.toInt ex17492.symm)
                    have cn_x17474 := i_cl (x := x17474) (by omega)
                    have cn_x17046 := i_cl (x := x17046) (by omega)
                    have qn17493 : kk (x17046.toNatClampNeg + 1) = x17492.toInt := by rw [show x17046.toNatClampNeg + 1 = x17474.toNatClampNeg by omega]; exact qvx17492
                    refine lv_istore_n (lv' := [(1, .int x17492), (4, .int x17058), (3, .int x17053), (0, .ref a0), (2, .int x17045)]) hx hb dX4_term_138 rfl hl17060 (by decide) rfl (fun ls17494 hl17495 => ?_)
                    refine lv_iload_n hx hb dX4_term_139 rfl (lv_at hl17495 0 rfl) ?_
                    refine lv_bipush (v := 42) hx hb dX4_term_140 (by decide) ?_
                    refine lv_icmp_eq (tgt := 153) hx hb dX4_term_142 (by decide) (fun c17496 => ?_) (fun c17496 => ?_)
                    · have k17497 := i_eq c17496
                      refine lv_aload_n hx hb dX4_term_153 rfl (lv_at hl17495 3 rfl) ?_
                      refine lv_dup hx hb dX4_term_154 rfl ?_
                      refine x_gi C hTH17475 (ci := 4) (k := 7) rfl inX4 (by decide) wF_X4_42 ga0 rg_78 rfl dX4_term_155 (fun x17498 ex17498 bx17498 => ?_)
                      have ux17498 : x17474 = x17498 := (m17489).trans ex17498.symm
                      subst ux17498
                      refine lv_iconst (v := 1) hx hb dX4_term_158 (by decide) ?_
                      refine lv_iadd hx hb dX4_term_159 ?_
                      refine lv_topi (fun x17499 ex17499 => ?_)
                      have tx17499 := i_add ex17499 (by omega)
                      have fz17501 : 0 ≤ x17499.toInt ∧ x17499.toInt ≤ 500 := by have := i_rng x17499; omega
                      refine x_put C hTH17475 hSH17475 (ci := 4) (k := 7) (v := .int x17499) (ty0 := tyX4) rfl inX4 tyX4_ok nmX4 (by decide) rfl wF_X4_42 ga0 rg_78 rfl rfl (okI (by have := i_rng x17499; omega) (by have := i_rng x17499; omega)) rfl rfl (AE_in ga0 (by decide)) dX4_term_160 (fun H17500 locsH17500 hTH17500 hSH17500 wH17500 => ?_)
                      have f17502 : ∀ j : Nat, j ≤ F.toNatClampNeg → kk j = (fI H17500 kq j).toInt := fun j hj => (f17477 j hj).trans (congrArg Int32.toInt (Wr.neI wH17500 (Or.inl (G_ne gkq ga0 (by decide)))).symm)
                      have f17503 : ∀ j : Nat, j ≤ F.toNatClampNeg → vv j = (fI H17500 vq j).toInt := fun j hj => (f17478 j hj).trans (congrArg Int32.toInt (Wr.neI wH17500 (Or.inl (G_ne gvq ga0 (by decide)))).symm)
                      have m17504 := m17480.trans (Wr.neI wH17500 (Or.inr (x_apart hKT hts inX4 tyX4 tyX4_ok nmX4 rfl 1 7 (by decide) (by decide) (by decide)))).symm
                      have m17505 := m17481.trans (Wr.neR wH17500 (Or.inr (x_apart hKT hts inX4 tyX4 tyX4_ok nmX4 rfl 0 7 (by decide) (by decide) (by decide)))).symm
                      have m17506 := m17482.trans (Wr.neR wH17500 (Or.inr (x_apart hKT hts inX4 tyX4 tyX4_ok nmX4 rfl 3 7 (by decide) (by decide) (by decide)))).symm
                      have m17507 := m17483.trans (Wr.neR wH17500 (Or.inr (x_apart hKT hts inX4 tyX4 tyX4_ok nmX4 rfl 4 7 (by decide) (by decide) (by decide)))).symm
                      have m17508 := m17484.trans (Wr.neI wH17500 (Or.inr (x_apart hKT hts inX4 tyX4 tyX4_ok nmX4 rfl 8 7 (by decide) (by decide) (by decide)))).symm
                      have m17509 := (Wr.neI wH17500 (Or.inl (G_ne gkq ga0 (by decide)))).trans m17485
                      have m17510 := m17486.trans (Wr.neI wH17500 (Or.inl (G_ne gkq ga0 (by decide)))).symm
                      have m17511 := m17487.trans (Wr.neI wH17500 (Or.inl (G_ne gvq ga0 (by decide)))).symm
                      have m17512 := m17488.trans (Wr.neI wH17500 (Or.inl (G_ne gmq ga0 (by decide)))).symm
                      have m17514 := ex17492.trans (Wr.neI wH17500 (Or.inl (G_ne gkq ga0 (by decide)))).symm
                      have m17515 := Wr.I wH17500
                      have m17515 := m17515.symm
                      obtain ⟨x17516, ex17516⟩ : ∃ y : Int32, y = x17045 + 1 := ⟨_, rfl⟩
                      have tx17516 := i_add ex17516 (by omega)
                      refine lv_iinc (v := x17516) (lv' := [(2, .int x17516), (1, .int x17492), (4, .int x17058), (3, .int x17053), (0, .ref a0)]) hx hb dX4_term_163 hl17495 (k := 4) rfl (by rw [ex17516]; rfl) (by decide) rfl (fun ls17517 hl17518 => ?_)
                      refine lv_goto (tgt := 4) hx hb dX4_term_166 (by decide) ?_
                      have cn_x17046 := i_cl (x := x17046) (by omega)
                      have cn_x17499 := i_cl (x := x17499) (by omega)
                      have cn_F := i_cl (x := F) (by omega)
                      exact ih4  ls17517 H17500 locsH17500 (x17492) (x17516) (x17499) (x17047) (lv_sub hl17518 [4, 1, 0] rfl) hTH17500 hSH17500 (by have := i_rng x17492; omega) (by have := i_rng x17516; omega) (by have := i_rng x17499; omega) m17515 m17504 m17505 m17506 m17507 m17508 m17512 m17509 f17502 f17503 (by omega) (by omega) (hsp4.trans (by rw [tmI_eq (by omega), if_neg (by omega), if_neg (by omega), if_pos (by omega), qn17493, show x17046.toNatClampNeg + 2 = x17499.toNatClampNeg by omega]))
                    · have k17497 := i_ne c17496
                      refine lv_iload_n hx hb dX4_term_145 rfl (lv_at hl17495 0 rfl) ?_
                      refine lv_bipush (v := 47) hx hb dX4_term_146 (by decide) ?_
                      refine lv_icmp_eq (tgt := 153) hx hb dX4_term_148 (by decide) (fun c17519 => ?_) (fun c17519 => ?_)
                      · have k17520 := i_eq c17519
                        refine lv_aload_n hx hb dX4_term_153 rfl (lv_at hl17495 3 rfl) ?_
                        refine lv_dup hx hb dX4_term_154 rfl ?_
                        refine x_gi C hTH17475 (ci := 4) (k := 7) rfl inX4 (by decide) wF_X4_42 ga0 rg_78 rfl dX4_term_155 (fun x17521 ex17521 bx17521 => ?_)
                        have ux17521 : x17474 = x17521 := (m17489).trans ex17521.symm
                        subst ux17521
                        refine lv_iconst (v := 1) hx hb dX4_term_158 (by decide) ?_
                        refine lv_iadd hx hb dX4_term_159 ?_
                        refine lv_topi (fun x17522 ex17522 => ?_)
                        have tx17522 := i_add ex17522 (by omega)
                        have fz17524 : 0 ≤ x17522.toInt ∧ x17522.toInt ≤ 500 := by have := i_rng x17522; omega
                        refine x_put C hTH17475 hSH17475 (ci := 4) (k := 7) (v := .int x17522) (ty0 := tyX4) rfl inX4 tyX4_ok nmX4 (by decide) rfl wF_X4_42 ga0 rg_78 rfl rfl (okI (by have := i_rng x17522; omega) (by have := i_rng x17522; omega)) rfl rfl (AE_in ga0 (by decide)) dX4_term_160 (fun H17523 locsH17523 hTH17523 hSH17523 wH17523 => ?_)
                        have f17525 : ∀ j : Nat, j ≤ F.toNatClampNeg → kk j = (fI H17523 kq j).toInt := fun j hj => (f17477 j hj).trans (congrArg Int32.toInt (Wr.neI wH17523 (Or.inl (G_ne gkq ga0 (by decide)))).symm)
                        have f17526 : ∀ j : Nat, j ≤ F.toNatClampNeg → vv j = (fI H17523 vq j).toInt := fun j hj => (f17478 j hj).trans (congrArg Int32.toInt (Wr.neI wH17523 (Or.inl (G_ne gvq ga0 (by decide)))).symm)
                        have m17527 := m17480.trans (Wr.neI wH17523 (Or.inr (x_apart hKT hts inX4 tyX4 tyX4_ok nmX4 rfl 1 7 (by decide) (by decide) (by decide)))).symm
                        have m17528 := m17481.trans (Wr.neR wH17523 (Or.inr (x_apart hKT hts inX4 tyX4 tyX4_ok nmX4 rfl 0 7 (by decide) (by decide) (by decide)))).symm
                        have m17529 := m17482.trans (Wr.neR wH17523 (Or.inr (x_apart hKT hts inX4 tyX4 tyX4_ok nmX4 rfl 3 7 (by decide) (by decide) (by decide)))).symm
                        have m17530 := m17483.trans (Wr.neR wH17523 (Or.inr (x_apart hKT hts inX4 tyX4 tyX4_ok nmX4 rfl 4 7 (by decide) (by decide) (by decide)))).symm
                        have m17531 := m17484.trans (Wr.neI wH17523 (Or.inr (x_apart hKT hts inX4 tyX4 tyX4_ok nmX4 rfl 8 7 (by decide) (by decide) (by decide)))).symm
                        have m17532 := (Wr.neI wH17523 (Or.inl (G_ne gkq ga0 (by decide)))).trans m17485
                        have m17533 := m17486.trans (Wr.neI wH17523 (Or.inl (G_ne gkq ga0 (by decide)))).symm
                        have m17534 := m17487.trans (Wr.neI wH17523 (Or.inl (G_ne gvq ga0 (by decide)))).symm
                        have m17535 := m17488.trans (Wr.neI wH17523 (Or.inl (G_ne gmq ga0 (by decide)))).symm
                        have m17537 := ex17492.trans (Wr.neI wH17523 (Or.inl (G_ne gkq ga0 (by decide)))).symm
                        have m17538 := Wr.I wH17523
                        have m17538 := m17538.symm
                        obtain ⟨x17539, ex17539⟩ : ∃ y : Int32, y = x17045 + 1 := ⟨_, rfl⟩
                        have tx17539 := i_add ex17539 (by omega)
                        refine lv_iinc (v := x17539) (lv' := [(2, .int x17539), (1, .int x17492), (4, .int x17058), (3, .int x17053), (0, .ref a0)]) hx hb dX4_term_163 hl17495 (k := 4) rfl (by rw [ex17539]; rfl) (by decide) rfl (fun ls17540 hl17541 => ?_)
                        refine lv_goto (tgt := 4) hx hb dX4_term_166 (by decide) ?_
                        have cn_x17046 := i_cl (x := x17046) (by omega)
                        have cn_x17522 := i_cl (x := x17522) (by omega)
                        have cn_F := i_cl (x := F) (by omega)
                        exact ih4  ls17540 H17523 locsH17523 (x17492) (x17539) (x17522) (x17047) (lv_sub hl17541 [4, 1, 0] rfl) hTH17523 hSH17523 (by have := i_rng x17492; omega) (by have := i_rng x17539; omega) (by have := i_rng x17522; omega) m17538 m17527 m17528 m17529 m17530 m17531 m17535 m17532 f17525 f17526 (by omega) (by omega) (hsp4.trans (by rw [tmI_eq (by omega), if_neg (by omega), if_neg (by omega), if_pos (by omega), qn17493, show x17046.toNatClampNeg + 2 = x17522.toNatClampNeg by omega]))
                      · have k17520 := i_ne c17519
                        refine lv_iconst (v := 1) hx hb dX4_term_151 (by decide) ?_
                        have cn_x17046 := i_cl (x := x17046) (by omega)
                        have cn_F := i_cl (x := F) (by omega)
                        have cn_x17474 := i_cl (x := x17474) (by omega)
                        exact x_zret C hQ (Or.inr rfl) dX4_term_152 hSH17475 (by decide) (by decide) (⟨1, x17474, x17047, rfl, by decide, m17489, m17480, by omega, m17481, m17482, m17483, m17484, m17488, Or.inr ⟨hsp4.trans (by rw [tmI_eq (by omega), if_neg (by omega), if_neg (by omega), if_neg (by omega), show x17046.toNatClampNeg + 1 = x17474.toNatClampNeg by omega]), by omega⟩, hTH17475⟩)
                · have k17373 := i_eq c17372
                  exfalso
                  omega
              · have k17371 := i_eq c17370
                exfalso
                omega
            · have k17369 := i_eq c17368
              refine lv_aload_n hx hb dX4_term_52 rfl (lv_at hl17060 2 rfl) ?_
              refine lv_iconst (v := 1) hx hb dX4_term_53 (by decide) ?_
              refine x_V (As := [.int 1]) (rest := []) C (a_X4_refuse_e l K G H17354 (1) (x17046) (x17047) (lw) hTH17354 ga0 gmq m17360 gkq m17361 gvq m17362 m17358 m17359 m17363) yo_X4_refuse wM_X4_81 ⟨⟨by decide, by decide⟩, by decide, by decide⟩ (x_rv C hTH17354 (ci := 4) rfl ga0 rg_78) rfl hl17060.1 rfl (Nat.le_of_ble_eq_true rfl) dX4_term_54 hSH17354 (AE_sub (fun _ _ => rfl) (by decide) hSH17354.1) (fun vH17542 H17542 locsH17542 pH17542 zH17542 kH17542 hSH17542 => ?_)
              obtain ⟨x17543, x17544, x17545, hvH17542, bx17543, ex17544, ex17545, hrH17542, m17546, m17547, m17548, m17549, hTH17542⟩ := pH17542
              subst hvH17542
              have f17550 : ∀ j : Nat, j ≤ F.toNatClampNeg → kk j = (fI H17542 kq j).toInt := fun j hj => (f17356 j hj).trans (congrArg Int32.toInt (fI_kept (x_lt hTH17354 kH17542 gkq (by decide))).symm)
              have f17551 : ∀ j : Nat, j ≤ F.toNatClampNeg → vv j = (fI H17542 vq j).toInt := fun j hj => (f17357 j hj).trans (congrArg Int32.toInt (fI_kept (x_lt hTH17354 kH17542 gvq (by decide))).symm)
              have m17552 := (m17364).trans (fI_kept (x_lt hTH17354 kH17542 gmq (by decide))).symm
              have m17553 := (fI_kept (x_lt hTH17354 kH17542 gkq (by decide))).trans m17365
              have m17554 := (m17366).trans (fI_kept (x_lt hTH17354 kH17542 gkq (by decide))).symm
              have m17555 := (m17367).trans (fI_kept (x_lt hTH17354 kH17542 gvq (by decide))).symm
              have bx17544 := ty_fi (x := x17544) (k := 7) ex17544 hTH17542 ga0 rg_78 rfl
              have bx17545 := ty_fi (x := x17545) (k := 1) ex17545 hTH17542 ga0 rg_78 rfl
              refine W.eq (g2 := F0 m 57 ls17059 [.int x17543]) rfl ?_
              have cn_x17046 := i_cl (x := x17046) (by omega)
              have cn_F := i_cl (x := F) (by omega)
              exact x_zret C hQ (i_01 (by omega)) dX4_term_57 hSH17542 (by decide) (by decide) (⟨x17543, x17544, x17545, rfl, by omega, ex17544, ex17545, by omega, m17546, m17547, m17548, m17549, m17552, Or.inl ⟨hsp4.trans (by rw [tmI_eq (by omega), if_pos (by omega)]), by omega⟩, hTH17542⟩)
  refine lv_iconst (v := 0) hx hb dX4_term_0 (by decide) ?_
  refine lv_istore_n (lv' := [(1, .int 0), (0, .ref a0)]) hx hb dX4_term_1 rfl hl (by decide) rfl (fun ls17556 hl17557 => ?_)
  refine lv_iconst (v := 0) hx hb dX4_term_2 (by decide) ?_
  refine lv_istore_n (lv' := [(2, .int 0), (1, .int 0), (0, .ref a0)]) hx hb dX4_term_3 rfl hl17557 (by decide) rfl (fun ls17558 hl17559 => ?_)
  exact J4 ((500 - (0 : Int32).toInt).toNat + 1)  ls17558 s.heap [] (0) (0) (tat) (fa) (lv_sub hl17559 [2, 1, 0] rfl) hT hS (by decide) (by decide) (by have := i_rng tat; omega) etat efa emq ekq evq elw eli hel0 f0_kk f0_vv (by omega) (by omega) (hsp0.trans (by rfl))

set_option maxHeartbeats 4000000 in
set_option maxRecDepth 100000 in
theorem a_X4_sum_e (l : Launch) (K : KE) (G : Nat → Option Nat) (H : Heap) {a0 : Nat} {mq : Nat} {kq : Nat} {vq : Nat} (F : Int32) (tat : Int32) (fa : Int32) (lw : Int32) (li : Int32) (kk : Nat → Int) (vv : Nat → Int) (hT : TY K G H) (ga0 : G a0 = some 78) (gmq : G mq = some 69) (emq : mq = fR H a0 (K.1.2 4 0)) (gkq : G kq = some 79) (ekq : kq = fR H a0 (K.1.2 4 3)) (gvq : G vq = some 80) (evq : vq = fR H a0 (K.1.2 4 4)) (etat : tat = fI H a0 (K.1.2 4 7)) (efa : fa = fI H a0 (K.1.2 4 1)) (elw : lw = fI H a0 (K.1.2 4 8)) (eli : li = fI H mq (K.1.2 7 0)) (hel0 : fI H kq (F : Int32).toNatClampNeg = 26) (hp0 : tat.toInt ≤ F.toInt) (hp1 : F.toInt ≤ 500) (hv_kk : ∀ j : Nat, j ≤ F.toNatClampNeg → kk j = (fI H kq j).toInt) (hv_vv : ∀ j : Nat, j ≤ F.toNatClampNeg → vv j = (fI H vq j).toInt) : MX l K yX4_sum cX4_sum 3 (some .boolean) 2 46 0 0 [.ref a0] H (AE G [78, 69, 77] H.size) (fun v H1 => ∃ (r : Int32) (t0 : Int32) (t1 : Int32), v = some (.int r) ∧ (0 ≤ r.toInt ∧ r.toInt ≤ 1) ∧ t0 = fI H1 a0 (K.1.2 4 7) ∧ t1 = fI H1 a0 (K.1.2 4 1) ∧ (t0.toInt ≤ F.toInt ∧ ((r.toInt = 1 ∧ t1.toInt = fa.toInt ∧ tat.toInt < t0.toInt) ∨ (r.toInt = 0 ∧ t1.toInt ≠ 0))) ∧ mq = fR H1 a0 (K.1.2 4 0) ∧ kq = fR H1 a0 (K.1.2 4 3) ∧ vq = fR H1 a0 (K.1.2 4 4) ∧ lw = fI H1 a0 (K.1.2 4 8) ∧ li = fI H1 mq (K.1.2 7 0) ∧ (RQ (lpI (tmI kk vv lw.toInt 0) (cPM kk) tat.toNatClampNeg) r t0) ∧ TY K G H1) := by
  refine MX.of (by decide +kernel) (Nat.le_of_ble_eq_true rfl) ?_
  intro p e s m below meth c ls Q C hH hl hQ
  subst hH
  have C : CX p K s m _ meth c RX4 cX4_sum 3 (some .boolean) "sum" := C
  obtain ⟨hx, hb, hml, hown, hts, hKT, hr, hlocks, hnm⟩ := id C
  have hl : lv_has ls 3 [(0, .ref a0)] := hl
  have hS : va_S (AE G [78, 69, 77] s.heap.size) s.heap s.heap [] := va_S.rf
  have n_0 : (0 : Int32).toInt = 0 := rfl
  have n_1 : (1 : Int32).toInt = 1 := rfl
  have n_26 : (26 : Int32).toInt = 26 := rfl
  have n_43 : (43 : Int32).toInt = 43 := rfl
  have n_45 : (45 : Int32).toInt = 45 := rfl
  have n_500 : (500 : Int32).toInt = 500 := rfl
  have btat := ty_fi (x := tat) (k := 7) etat hT ga0 rg_78 rfl
  have bfa := ty_fi (x := fa) (k := 1) efa hT ga0 rg_78 rfl
  have blw := ty_fi (x := lw) (k := 8) elw hT ga0 rg_78 rfl
  have bli := ty_fi (x := li) (k := 0) eli hT gmq rg_69 rfl
  have hsp0 : lpI (tmI kk vv lw.toInt 0) (cPM kk) tat.toNatClampNeg = lpI (tmI kk vv lw.toInt 0) (cPM kk) tat.toNatClampNeg := rfl
  have f0_kk := hv_kk
  have f0_vv := hv_vv
  have J4 : ∀ (nf : Nat)  (ls3929 : Array Slot) (H3928 : Heap) (locsH3928 : List Loc) (x3931 : Int32) (x3932 : Int32) (x3933 : Int32) (x3934 : Int32), lv_has ls3929 3 [(0, .ref a0), (1, .int x3931), (2, .int x3932)] → TY K G H3928 → va_S (AE G [78, 69, 77] s.heap.size) s.heap H3928 locsH3928 → (0 ≤ x3931.toInt ∧ x3931.toInt ≤ 45) → (0 ≤ x3932.toInt ∧ x3932.toInt ≤ 500) → (0 ≤ x3933.toInt ∧ x3933.toInt ≤ 500) → (x3933 = fI H3928 a0 (K.1.2 4 7)) → (x3934 = fI H3928 a0 (K.1.2 4 1)) → (mq = fR H3928 a0 (K.1.2 4 0)) → (kq = fR H3928 a0 (K.1.2 4 3)) → (vq = fR H3928 a0 (K.1.2 4 4)) → (lw = fI H3928 a0 (K.1.2 4 8)) → (li = fI H3928 mq (K.1.2 7 0)) → (fI H3928 kq (F : Int32).toNatClampNeg = 26) → (∀ j : Nat, j ≤ F.toNatClampNeg → kk j = (fI H3928 kq j).toInt) → (∀ j : Nat, j ≤ F.toNatClampNeg → vv j = (fI H3928 vq j).toInt) → (500 - x3932.toInt < (nf : Int)) → (2 * x3932.toInt ≤ x3933.toInt ∧ tat.toInt ≤ x3933.toInt ∧ x3933.toInt ≤ F.toInt ∧ x3934.toInt = fa.toInt) → (lpI (tmI kk vv lw.toInt 0) (cPM kk) tat.toNatClampNeg = lpI (tmI kk vv lw.toInt 0) (cPM kk) x3933.toNatClampNeg) → W p l e ({ frames := 2, cells := 0, slots := 0, locals := 46 } : Room) s m (([.ref a0] : List Value).toArray) below meth c H3928 locsH3928 0 0 Q (F0 m 4 ls3929 []) := by
    intro nf
    induction nf with
    | zero =>
      intro  ls3929 H3928 locsH3928 x3931 x3932 x3933 x3934 hl3930 hTH3928 hSH3928 bx3931 bx3932 bx3933 ex3933 ex3934 cy3935_0 cy3935_1 cy3935_2 cy3935_3 cy3935_4 cy3935_5 fy3935_kk fy3935_vv hm4 iv4 hsp4
      have rx3934 := i_rng x3934
      exfalso
      omega
    | succ nf ih4 =>
      intro  ls3929 H3928 locsH3928 x3931 x3932 x3933 x3934 hl3930 hTH3928 hSH3928 bx3931 bx3932 bx3933 ex3933 ex3934 cy3935_0 cy3935_1 cy3935_2 cy3935_3 cy3935_4 cy3935_5 fy3935_kk fy3935_vv hm4 iv4 hsp4
      have rx3934 := i_rng x3934
      refine lv_iload_n hx hb dX4_sum_4 rfl (lv_at hl3930 2 rfl) ?_
      refine lv_sipush (v := 500) hx hb dX4_sum_5 (by decide) ?_
      refine lv_icmp_ge (tgt := 73) hx hb dX4_sum_8 (by decide) (fun c3936 => ?_) (fun c3936 => ?_)
      · have k3937 := i_le c3936
        refine lv_iconst (v := 1) hx hb dX4_sum_73 (by decide) ?_
        exact x_zret C hQ (Or.inr rfl) dX4_sum_74 hSH3928 (by decide) (by decide) (⟨1, x3933, x3934, rfl, by decide, ex3933, ex3934, by omega, cy3935_0, cy3935_1, cy3935_2, cy3935_3, cy3935_4, (by exfalso; omega), hTH3928⟩)
      · have k3937 := i_nle c3936
        refine lv_aload_n hx hb dX4_sum_11 rfl (lv_at hl3930 0 rfl) ?_
        refine x_V (As := []) (rest := []) C (a_X4_term_e l K G H3928 (F) (x3933) (x3934) (lw) (li) kk vv hTH3928 ga0 gmq cy3935_0 gkq cy3935_1 gvq cy3935_2 ex3933 ex3934 cy3935_3 cy3935_4 cy3935_5 (by omega) (by omega) fy3935_kk fy3935_vv) yo_X4_term wM_X4_141 ⟨⟨by decide, by decide⟩, by decide, by decide⟩ (x_rv C hTH3928 (ci := 4) rfl ga0 rg_78) rfl hl3930.1 rfl (Nat.le_of_ble_eq_true rfl) dX4_sum_12 hSH3928 (AE_sub (fun _ _ => rfl) (by decide) hSH3928.1) (fun vH3938 H3938 locsH3938 pH3938 zH3938 kH3938 hSH3938 => ?_)
        obtain ⟨x3939, x3940, x3941, hvH3938, bx3939, ex3940, ex3941, hrH3938, m3942, m3943, m3944, m3945, m3946, m3947, hTH3938⟩ := pH3938
        subst hvH3938
        have f3948 : ∀ j : Nat, j ≤ F.toNatClampNeg → kk j = (fI H3938 kq j).toInt := fun j hj => (fy3935_kk j hj).trans (congrArg Int32.toInt (fI_kept (x_lt hTH3928 kH3938 gkq (by decide))).symm)
        have f3949 : ∀ j : Nat, j ≤ F.toNatClampNeg → vv j = (fI H3938 vq j).toInt := fun j hj => (fy3935_vv j hj).trans (congrArg Int32.toInt (fI_kept (x_lt hTH3928 kH3938 gvq (by decide))).symm)
        have m3950 := (fI_kept (x_lt hTH3928 kH3938 gkq (by decide))).trans cy3935_5
        have bx3940 := ty_fi (x := x3940) (k := 7) ex3940 hTH3938 ga0 rg_78 rfl
        have bx3941 := ty_fi (x := x3941) (k := 1) ex3941 hTH3938 ga0 rg_78 rfl
        refine W.eq (g2 := F0 m 15 ls3929 [.int x3939]) rfl ?_
        refine lv_if_ne (tgt := 20) hx hb dX4_sum_15 (by decide) (fun c3951 => ?_) (fun c3951 => ?_)
        · have k3952 := i_ne c3951
          refine lv_iload_n hx hb dX4_sum_20 rfl (lv_at hl3930 1 rfl) ?_
          refine lv_if_eq (tgt := 33) hx hb dX4_sum_21 (by decide) (fun c3953 => ?_) (fun c3953 => ?_)
          · have k3954 := i_eq c3953
            refine lv_aload_n hx hb dX4_sum_33 rfl (lv_at hl3930 0 rfl) ?_
            refine x_gr C hTH3938 (ci := 4) (k := 3) rfl inX4 (by decide) wF_X4_18 ga0 rg_78 rfl dX4_sum_34 (fun q3955 eq3955 gq3955 => ?_)
            have uq3955 : kq = q3955 := (m3943).trans eq3955.symm
            subst uq3955
            refine lv_aload_n hx hb dX4_sum_37 rfl (lv_at hl3930 0 rfl) ?_
            refine x_gi C hTH3938 (ci := 4) (k := 7) rfl inX4 (by decide) wF_X4_42 ga0 rg_78 rfl dX4_sum_38 (fun x3956 ex3956 bx3956 => ?_)
            have ux3956 : x3940 = x3956 := (ex3940).trans ex3956.symm
            subst ux3956
            refine x_ai C hTH3938 gkq rg_79 ⟨by omega, by show _ < ((501 : Nat) : Int); omega⟩ dX4_sum_41 (fun x3957 ex3957 bx3957 => ?_)
            have dx3957 := el_hit ex3957 m3950
            have qvx3957 : kk x3940.toNatClampNeg = x3957.toInt := (f3948 _ (by have h1 := i_cl (x := x3940) (by omega); have h2 := i_cl (x := F) (by omega); omega)).trans (congrArg Int32.toInt ex3957.symm)
            refine lv_istore_n (lv' := [(1, .int x3957), (0, .ref a0), (2, .int x3932)]) hx hb dX4_sum_42 rfl hl3930 (by decide) rfl (fun ls3958 hl3959 => ?_)
            refine lv_iload_n hx hb dX4_sum_43 rfl (lv_at hl3959 0 rfl) ?_
            refine lv_bipush (v := 43) hx hb dX4_sum_44 (by decide) ?_
            refine lv_icmp_eq (tgt := 57) hx hb dX4_sum_46 (by decide) (fun c3960 => ?_) (fun c3960 => ?_)
            · have k3961 := i_eq c3960
              refine lv_aload_n hx hb dX4_sum_57 rfl (lv_at hl3959 1 rfl) ?_
              refine lv_dup hx hb dX4_sum_58 rfl ?_
              refine x_gi C hTH3938 (ci := 4) (k := 7) rfl inX4 (by decide) wF_X4_42 ga0 rg_78 rfl dX4_sum_59 (fun x3962 ex3962 bx3962 => ?_)
              have ux3962 : x3940 = x3962 := (ex3940).trans ex3962.symm
              subst ux3962
              refine lv_iconst (v := 1) hx hb dX4_sum_62 (by decide) ?_
              refine lv_iadd hx hb dX4_sum_63 ?_
              refine lv_topi (fun x3963 ex3963 => ?_)
              have tx3963 := i_add ex3963 (by omega)
              have fz3965 : 0 ≤ x3963.toInt ∧ x3963.toInt ≤ 500 := by have := i_rng x3963; omega
              refine x_put C hTH3938 hSH3938 (ci := 4) (k := 7) (v := .int x3963) (ty0 := tyX4) rfl inX4 tyX4_ok nmX4 (by decide) rfl wF_X4_42 ga0 rg_78 rfl rfl (okI (by have := i_rng x3963; omega) (by have := i_rng x3963; omega)) rfl rfl (AE_in ga0 (by decide)) dX4_sum_64 (fun H3964 locsH3964 hTH3964 hSH3964 wH3964 => ?_)
              have f3966 : ∀ j : Nat, j ≤ F.toNatClampNeg → kk j = (fI H3964 kq j).toInt := fun j hj => (f3948 j hj).trans (congrArg Int32.toInt (Wr.neI wH3964 (Or.inl (G_ne gkq ga0 (by decide)))).symm)
              have f3967 : ∀ j : Nat, j ≤ F.toNatClampNeg → vv j = (fI H3964 vq j).toInt := fun j hj => (f3949 j hj).trans (congrArg Int32.toInt (Wr.neI wH3964 (Or.inl (G_ne gvq ga0 (by decide)))).symm)
              have m3968 := (Wr.neI wH3964 (Or.inl (G_ne gkq ga0 (by decide)))).trans m3950
              have m3969 := m3942.trans (Wr.neR wH3964 (Or.inr (x_apart hKT hts inX4 tyX4 tyX4_ok nmX4 rfl 0 7 (by decide) (by decide) (by decide)))).symm
              have m3970 := m3943.trans (Wr.neR wH3964 (Or.inr (x_apart hKT hts inX4 tyX4 tyX4_ok nmX4 rfl 3 7 (by decide) (by decide) (by decide)))).symm
              have m3971 := m3944.trans (Wr.neR wH3964 (Or.inr (x_apart hKT hts inX4 tyX4 tyX4_ok nmX4 rfl 4 7 (by decide) (by decide) (by decide)))).symm
              have m3972 := m3945.trans (Wr.neI wH3964 (Or.inr (x_apart hKT hts inX4 tyX4 tyX4_ok nmX4 rfl 8 7 (by decide) (by decide) (by decide)))).symm
              have m3973 := m3946.trans (Wr.neI wH3964 (Or.inl (G_ne gmq ga0 (by decide)))).symm
              have m3975 := ex3941.trans (Wr.neI wH3964 (Or.inr (x_apart hKT hts inX4 tyX4 tyX4_ok nmX4 rfl 1 7 (by decide) (by decide) (by decide)))).symm
              have m3976 := ex3957.trans (Wr.neI wH3964 (Or.inl (G_ne gkq ga0 (by decide)))).symm
              have m3977 := Wr.I wH3964
              have m3977 := m3977.symm
              obtain ⟨x3978, ex3978⟩ : ∃ y : Int32, y = x3932 + 1 := ⟨_, rfl⟩
              have tx3978 := i_add ex3978 (by omega)
              refine lv_iinc (v := x3978) (lv' := [(2, .int x3978), (1, .int x3957), (0, .ref a0)]) hx hb dX4_sum_67 hl3959 (k := 2) rfl (by rw [ex3978]; rfl) (by decide) rfl (fun ls3979 hl3980 => ?_)
              refine lv_goto (tgt := 4) hx hb dX4_sum_70 (by decide) ?_
              have cn_x3963 := i_cl (x := x3963) (by omega)
              have cn_x3940 := i_cl (x := x3940) (by omega)
              have cn_F := i_cl (x := F) (by omega)
              exact ih4  ls3979 H3964 locsH3964 (x3957) (x3978) (x3963) (x3941) (lv_sub hl3980 [2, 1, 0] rfl) hTH3964 hSH3964 (by have := i_rng x3957; omega) (by have := i_rng x3978; omega) (by have := i_rng x3963; omega) m3977 m3975 m3969 m3970 m3971 m3972 m3973 m3968 f3966 f3967 (by omega) (by omega) (hsp4.trans (by exact lp_more tmI_gp (RQ.yes m3947 (by omega)) (show cPM kk _ = true from decide_eq_true (by omega)) (by omega)))
            · have k3961 := i_ne c3960
              refine lv_iload_n hx hb dX4_sum_49 rfl (lv_at hl3959 0 rfl) ?_
              refine lv_bipush (v := 45) hx hb dX4_sum_50 (by decide) ?_
              refine lv_icmp_eq (tgt := 57) hx hb dX4_sum_52 (by decide) (fun c3981 => ?_) (fun c3981 => ?_)
              · have k3982 := i_eq c3981
                refine lv_aload_n hx hb dX4_sum_57 rfl (lv_at hl3959 1 rfl) ?_
                refine lv_dup hx hb dX4_sum_58 rfl ?_
                refine x_gi C hTH3938 (ci := 4) (k := 7) rfl inX4 (by decide) wF_X4_42 ga0 rg_78 rfl dX4_sum_59 (fun x3983 ex3983 bx3983 => ?_)
                have ux3983 : x3940 = x3983 := (ex3940).trans ex3983.symm
                subst ux3983
                refine lv_iconst (v := 1) hx hb dX4_sum_62 (by decide) ?_
                refine lv_iadd hx hb dX4_sum_63 ?_
                refine lv_topi (fun x3984 ex3984 => ?_)
                have tx3984 := i_add ex3984 (by omega)
                have fz3986 : 0 ≤ x3984.toInt ∧ x3984.toInt ≤ 500 := by have := i_rng x3984; omega
                refine x_put C hTH3938 hSH3938 (ci := 4) (k := 7) (v := .int x3984) (ty0 := tyX4) rfl inX4 tyX4_ok nmX4 (by decide) rfl wF_X4_42 ga0 rg_78 rfl rfl (okI (by have := i_rng x3984; omega) (by have := i_rng x3984; omega)) rfl rfl (AE_in ga0 (by decide)) dX4_sum_64 (fun H3985 locsH3985 hTH3985 hSH3985 wH3985 => ?_)
                have f3987 : ∀ j : Nat, j ≤ F.toNatClampNeg → kk j = (fI H3985 kq j).toInt := fun j hj => (f3948 j hj).trans (congrArg Int32.toInt (Wr.neI wH3985 (Or.inl (G_ne gkq ga0 (by decide)))).symm)
                have f3988 : ∀ j : Nat, j ≤ F.toNatClampNeg → vv j = (fI H3985 vq j).toInt := fun j hj => (f3949 j hj).trans (congrArg Int32.toInt (Wr.neI wH3985 (Or.inl (G_ne gvq ga0 (by decide)))).symm)
                have m3989 := (Wr.neI wH3985 (Or.inl (G_ne gkq ga0 (by decide)))).trans m3950
                have m3990 := m3942.trans (Wr.neR wH3985 (Or.inr (x_apart hKT hts inX4 tyX4 tyX4_ok nmX4 rfl 0 7 (by decide) (by decide) (by decide)))).symm
                have m3991 := m3943.trans (Wr.neR wH3985 (Or.inr (x_apart hKT hts inX4 tyX4 tyX4_ok nmX4 rfl 3 7 (by decide) (by decide) (by decide)))).symm
                have m3992 := m3944.trans (Wr.neR wH3985 (Or.inr (x_apart hKT hts inX4 tyX4 tyX4_ok nmX4 rfl 4 7 (by decide) (by decide) (by decide)))).symm
                have m3993 := m3945.trans (Wr.neI wH3985 (Or.inr (x_apart hKT hts inX4 tyX4 tyX4_ok nmX4 rfl 8 7 (by decide) (by decide) (by decide)))).symm
                have m3994 := m3946.trans (Wr.neI wH3985 (Or.inl (G_ne gmq ga0 (by decide)))).symm
                have m3996 := ex3941.trans (Wr.neI wH3985 (Or.inr (x_apart hKT hts inX4 tyX4 tyX4_ok nmX4 rfl 1 7 (by decide) (by decide) (by decide)))).symm
                have m3997 := ex3957.trans (Wr.neI wH3985 (Or.inl (G_ne gkq ga0 (by decide)))).symm
                have m3998 := Wr.I wH3985
                have m3998 := m3998.symm
                obtain ⟨x3999, ex3999⟩ : ∃ y : Int32, y = x3932 + 1 := ⟨_, rfl⟩
                have tx3999 := i_add ex3999 (by omega)
                refine lv_iinc (v := x3999) (lv' := [(2, .int x3999), (1, .int x3957), (0, .ref a0)]) hx hb dX4_sum_67 hl3959 (k := 2) rfl (by rw [ex3999]; rfl) (by decide) rfl (fun ls4000 hl4001 => ?_)
                refine lv_goto (tgt := 4) hx hb dX4_sum_70 (by decide) ?_
                have cn_x3984 := i_cl (x := x3984) (by omega)
                have cn_x3940 := i_cl (x := x3940) (by omega)
                have cn_F := i_cl (x := F) (by omega)
                exact ih4  ls4000 H3985 locsH3985 (x3957) (x3999) (x3984) (x3941) (lv_sub hl4001 [2, 1, 0] rfl) hTH3985 hSH3985 (by have := i_rng x3957; omega) (by have := i_rng x3999; omega) (by have := i_rng x3984; omega) m3998 m3996 m3990 m3991 m3992 m3993 m3994 m3989 f3987 f3988 (by omega) (by omega) (hsp4.trans (by exact lp_more tmI_gp (RQ.yes m3947 (by omega)) (show cPM kk _ = true from decide_eq_true (by omega)) (by omega)))
              · have k3982 := i_ne c3981
                refine lv_iconst (v := 1) hx hb dX4_sum_55 (by decide) ?_
                have cn_x3933 := i_cl (x := x3933) (by omega)
                have cn_F := i_cl (x := F) (by omega)
                exact x_zret C hQ (Or.inr rfl) dX4_sum_56 hSH3938 (by decide) (by decide) (⟨1, x3940, x3941, rfl, by decide, ex3940, ex3941, by omega, m3942, m3943, m3944, m3945, m3946, Or.inr ⟨hsp4.trans (lp_end tmI_gp (RQ.yes m3947 (by omega)) (show cPM kk _ = false from decide_eq_false (by omega))), by omega⟩, hTH3938⟩)
          · have k3954 := i_ne c3953
            refine lv_aload_n hx hb dX4_sum_24 rfl (lv_at hl3930 0 rfl) ?_
            refine x_gr C hTH3938 (ci := 4) (k := 0) rfl inX4 (by decide) wF_X4_12 ga0 rg_78 rfl dX4_sum_25 (fun q4002 eq4002 gq4002 => ?_)
            have uq4002 : mq = q4002 := (m3942).trans eq4002.symm
            subst uq4002
            refine lv_iload_n hx hb dX4_sum_28 rfl (lv_at hl3930 1 rfl) ?_
            refine lv_iconst (v := 0) hx hb dX4_sum_29 (by decide) ?_
            refine x_V (As := [.int x3931, .int 0]) (rest := []) C (a_X7_addStep_e l K G H3938 (x3931) (0) (li) hTH3938 gmq m3946) yo_X7_addStep wM_X4_131 ⟨⟨by decide, by decide⟩, by decide, by decide⟩ (x_rv C hTH3938 (ci := 7) rfl gmq rg_69) rfl hl3930.1 rfl (Nat.le_of_ble_eq_true rfl) dX4_sum_30 hSH3938 (AE_sub (fun _ _ => rfl) (by decide) hSH3938.1) (fun vH4003 H4003 locsH4003 pH4003 zH4003 kH4003 hSH4003 => ?_)
            obtain ⟨hvH4003, m4004, hTH4003⟩ := pH4003
            subst hvH4003
            have f4005 : ∀ j : Nat, j ≤ F.toNatClampNeg → kk j = (fI H4003 kq j).toInt := fun j hj => (f3948 j hj).trans (congrArg Int32.toInt (fI_kept (x_lt hTH3938 kH4003 gkq (by decide))).symm)
            have f4006 : ∀ j : Nat, j ≤ F.toNatClampNeg → vv j = (fI H4003 vq j).toInt := fun j hj => (f3949 j hj).trans (congrArg Int32.toInt (fI_kept (x_lt hTH3938 kH4003 gvq (by decide))).symm)
            have m4007 := (fI_kept (x_lt hTH3938 kH4003 gkq (by decide))).trans m3950
            have m4008 := (m3942).trans (fR_kept (x_lt hTH3938 kH4003 ga0 (by decide))).symm
            have m4009 := (m3943).trans (fR_kept (x_lt hTH3938 kH4003 ga0 (by decide))).symm
            have m4010 := (m3944).trans (fR_kept (x_lt hTH3938 kH4003 ga0 (by decide))).symm
            have m4011 := (m3945).trans (fI_kept (x_lt hTH3938 kH4003 ga0 (by decide))).symm
            have m4012 := (ex3940).trans (fI_kept (x_lt hTH3938 kH4003 ga0 (by decide))).symm
            have m4013 := (ex3941).trans (fI_kept (x_lt hTH3938 kH4003 ga0 (by decide))).symm
            refine W.eq (g2 := F0 m 33 ls3929 []) rfl ?_
            refine lv_aload_n hx hb dX4_sum_33 rfl (lv_at hl3930 0 rfl) ?_
            refine x_gr C hTH4003 (ci := 4) (k := 3) rfl inX4 (by decide) wF_X4_18 ga0 rg_78 rfl dX4_sum_34 (fun q4014 eq4014 gq4014 => ?_)
            have uq4014 : kq = q4014 := (m4009).trans eq4014.symm
            subst uq4014
            refine lv_aload_n hx hb dX4_sum_37 rfl (lv_at hl3930 0 rfl) ?_
            refine x_gi C hTH4003 (ci := 4) (k := 7) rfl inX4 (by decide) wF_X4_42 ga0 rg_78 rfl dX4_sum_38 (fun x4015 ex4015 bx4015 => ?_)
            have ux4015 : x3940 = x4015 := (m4012).trans ex4015.symm
            subst ux4015
            refine x_ai C hTH4003 gkq rg_79 ⟨by omega, by show _ < ((501 : Nat) : Int); omega⟩ dX4_sum_41 (fun x4016 ex4016 bx4016 => ?_)
            have dx4016 := el_hit ex4016 m4007
            have qvx4016 : kk x3940.toNatClampNeg = x4016.toInt := (f4005 _ (by have h1 := i_cl (x := x3940) (by omega); have h2 := i_cl (x := F) (by omega); omega)).trans (congrArg Int32.toInt ex4016.symm)
            refine lv_istore_n (lv' := [(1, .int x4016), (0, .ref a0), (2, .int x3932)]) hx hb dX4_sum_42 rfl hl3930 (by decide) rfl (fun ls4017 hl4018 => ?_)
            refine lv_iload_n hx hb dX4_sum_43 rfl (lv_at hl4018 0 rfl) ?_
            refine lv_bipush (v := 43) hx hb dX4_sum_44 (by decide) ?_
            refine lv_icmp_eq (tgt := 57) hx hb dX4_sum_46 (by decide) (fun c4019 => ?_) (fun c4019 => ?_)
            · have k4020 := i_eq c4019
              refine lv_aload_n hx hb dX4_sum_57 rfl (lv_at hl4018 1 rfl) ?_
              refine lv_dup hx hb dX4_sum_58 rfl ?_
              refine x_gi C hTH4003 (ci := 4) (k := 7) rfl inX4 (by decide) wF_X4_42 ga0 rg_78 rfl dX4_sum_59 (fun x4021 ex4021 bx4021 => ?_)
              have ux4021 : x3940 = x4021 := (m4012).trans ex4021.symm
              subst ux4021
              refine lv_iconst (v := 1) hx hb dX4_sum_62 (by decide) ?_
              refine lv_iadd hx hb dX4_sum_63 ?_
              refine lv_topi (fun x4022 ex4022 => ?_)
              have tx4022 := i_add ex4022 (by omega)
              have fz4024 : 0 ≤ x4022.toInt ∧ x4022.toInt ≤ 500 := by have := i_rng x4022; omega
              refine x_put C hTH4003 hSH4003 (ci := 4) (k := 7) (v := .int x4022) (ty0 := tyX4) rfl inX4 tyX4_ok nmX4 (by decide) rfl wF_X4_42 ga0 rg_78 rfl rfl (okI (by have := i_rng x4022; omega) (by have := i_rng x4022; omega)) rfl rfl (AE_in ga0 (by decide)) dX4_sum_64 (fun H4023 locsH4023 hTH4023 hSH4023 wH4023 => ?_)
              have f4025 : ∀ j : Nat, j ≤ F.toNatClampNeg → kk j = (fI H4023 kq j).toInt := fun j hj => (f4005 j hj).trans (congrArg Int32.toInt (Wr.neI wH4023 (Or.inl (G_ne gkq ga0 (by decide)))).symm)
              have f4026 : ∀ j : Nat, j ≤ F.toNatClampNeg → vv j = (fI H4023 vq j).toInt := fun j hj => (f4006 j hj).trans (congrArg Int32.toInt (Wr.neI wH4023 (Or.inl (G_ne gvq ga0 (by decide)))).symm)
              have m4027 := (Wr.neI wH4023 (Or.inl (G_ne gkq ga0 (by decide)))).trans m4007
              have m4028 := m4008.trans (Wr.neR wH4023 (Or.inr (x_apart hKT hts inX4 tyX4 tyX4_ok nmX4 rfl 0 7 (by decide) (by decide) (by decide)))).symm
              have m4029 := m4009.trans (Wr.neR wH4023 (Or.inr (x_apart hKT hts inX4 tyX4 tyX4_ok nmX4 rfl 3 7 (by decide) (by decide) (by decide)))).symm
              have m4030 := m4010.trans (Wr.neR wH4023 (Or.inr (x_apart hKT hts inX4 tyX4 tyX4_ok nmX4 rfl 4 7 (by decide) (by decide) (by decide)))).symm
              have m4031 := m4011.trans (Wr.neI wH4023 (Or.inr (x_apart hKT hts inX4 tyX4 tyX4_ok nmX4 rfl 8 7 (by decide) (by decide) (by decide)))).symm
              have m4033 := m4013.trans (Wr.neI wH4023 (Or.inr (x_apart hKT hts inX4 tyX4 tyX4_ok nmX4 rfl 1 7 (by decide) (by decide) (by decide)))).symm
              have m4034 := m4004.trans (Wr.neI wH4023 (Or.inl (G_ne gmq ga0 (by decide)))).symm
              have m4035 := ex4016.trans (Wr.neI wH4023 (Or.inl (G_ne gkq ga0 (by decide)))).symm
              have m4036 := Wr.I wH4023
              have m4036 := m4036.symm
              obtain ⟨x4037, ex4037⟩ : ∃ y : Int32, y = x3932 + 1 := ⟨_, rfl⟩
              have tx4037 := i_add ex4037 (by omega)
              refine lv_iinc (v := x4037) (lv' := [(2, .int x4037), (1, .int x4016), (0, .ref a0)]) hx hb dX4_sum_67 hl4018 (k := 2) rfl (by rw [ex4037]; rfl) (by decide) rfl (fun ls4038 hl4039 => ?_)
              refine lv_goto (tgt := 4) hx hb dX4_sum_70 (by decide) ?_
              have cn_x4022 := i_cl (x := x4022) (by omega)
              have cn_x3940 := i_cl (x := x3940) (by omega)
              have cn_F := i_cl (x := F) (by omega)
              exact ih4  ls4038 H4023 locsH4023 (x4016) (x4037) (x4022) (x3941) (lv_sub hl4039 [2, 1, 0] rfl) hTH4023 hSH4023 (by have := i_rng x4016; omega) (by have := i_rng x4037; omega) (by have := i_rng x4022; omega) m4036 m4033 m4028 m4029 m4030 m4031 m4034 m4027 f4025 f4026 (by omega) (by omega) (hsp4.trans (by exact lp_more tmI_gp (RQ.yes m3947 (by omega)) (show cPM kk _ = true from decide_eq_true (by omega)) (by omega)))
            · have k4020 := i_ne c4019
              refine lv_iload_n hx hb dX4_sum_49 rfl (lv_at hl4018 0 rfl) ?_
              refine lv_bipush (v := 45) hx hb dX4_sum_50 (by decide) ?_
              refine lv_icmp_eq (tgt := 57) hx hb dX4_sum_52 (by decide) (fun c4040 => ?_) (fun c4040 => ?_)
              · have k4041 := i_eq c4040
                refine lv_aload_n hx hb dX4_sum_57 rfl (lv_at hl4018 1 rfl) ?_
                refine lv_dup hx hb dX4_sum_58 rfl ?_
                refine x_gi C hTH4003 (ci := 4) (k := 7) rfl inX4 (by decide) wF_X4_42 ga0 rg_78 rfl dX4_sum_59 (fun x4042 ex4042 bx4042 => ?_)
                have ux4042 : x3940 = x4042 := (m4012).trans ex4042.symm
                subst ux4042
                refine lv_iconst (v := 1) hx hb dX4_sum_62 (by decide) ?_
                refine lv_iadd hx hb dX4_sum_63 ?_
                refine lv_topi (fun x4043 ex4043 => ?_)
                have tx4043 := i_add ex4043 (by omega)
                have fz4045 : 0 ≤ x4043.toInt ∧ x4043.toInt ≤ 500 := by have := i_rng x4043; omega
                refine x_put C hTH4003 hSH4003 (ci := 4) (k := 7) (v := .int x4043) (ty0 := tyX4) rfl inX4 tyX4_ok nmX4 (by decide) rfl wF_X4_42 ga0 rg_78 rfl rfl (okI (by have := i_rng x4043; omega) (by have := i_rng x4043; omega)) rfl rfl (AE_in ga0 (by decide)) dX4_sum_64 (fun H4044 locsH4044 hTH4044 hSH4044 wH4044 => ?_)
                have f4046 : ∀ j : Nat, j ≤ F.toNatClampNeg → kk j = (fI H4044 kq j).toInt := fun j hj => (f4005 j hj).trans (congrArg Int32.toInt (Wr.neI wH4044 (Or.inl (G_ne gkq ga0 (by decide)))).symm)
                have f4047 : ∀ j : Nat, j ≤ F.toNatClampNeg → vv j = (fI H4044 vq j).toInt := fun j hj => (f4006 j hj).trans (congrArg Int32.toInt (Wr.neI wH4044 (Or.inl (G_ne gvq ga0 (by decide)))).symm)
                have m4048 := (Wr.neI wH4044 (Or.inl (G_ne gkq ga0 (by decide)))).trans m4007
                have m4049 := m4008.trans (Wr.neR wH4044 (Or.inr (x_apart hKT hts inX4 tyX4 tyX4_ok nmX4 rfl 0 7 (by decide) (by decide) (by decide)))).symm
                have m4050 := m4009.trans (Wr.neR wH4044 (Or.inr (x_apart hKT hts inX4 tyX4 tyX4_ok nmX4 rfl 3 7 (by decide) (by decide) (by decide)))).symm
                have m4051 := m4010.trans (Wr.neR wH4044 (Or.inr (x_apart hKT hts inX4 tyX4 tyX4_ok nmX4 rfl 4 7 (by decide) (by decide) (by decide)))).symm
                have m4052 := m4011.trans (Wr.neI wH4044 (Or.inr (x_apart hKT hts inX4 tyX4 tyX4_ok nmX4 rfl 8 7 (by decide) (by decide) (by decide)))).symm
                have m4054 := m4013.trans (Wr.neI wH4044 (Or.inr (x_apart hKT hts inX4 tyX4 tyX4_ok nmX4 rfl 1 7 (by decide) (by decide) (by decide)))).symm
                have m4055 := m4004.trans (Wr.neI wH4044 (Or.inl (G_ne gmq ga0 (by decide)))).symm
                have m4056 := ex4016.trans (Wr.neI wH4044 (Or.inl (G_ne gkq ga0 (by decide)))).symm
                have m4057 := Wr.I wH4044
                have m4057 := m4057.symm
                obtain ⟨x4058, ex4058⟩ : ∃ y : Int32, y = x3932 + 1 := ⟨_, rfl⟩
                have tx4058 := i_add ex4058 (by omega)
                refine lv_iinc (v := x4058) (lv' := [(2, .int x4058), (1, .int x4016), (0, .ref a0)]) hx hb dX4_sum_67 hl4018 (k := 2) rfl (by rw [ex4058]; rfl) (by decide) rfl (fun ls4059 hl4060 => ?_)
                refine lv_goto (tgt := 4) hx hb dX4_sum_70 (by decide) ?_
                have cn_x4043 := i_cl (x := x4043) (by omega)
                have cn_x3940 := i_cl (x := x3940) (by omega)
                have cn_F := i_cl (x := F) (by omega)
                exact ih4  ls4059 H4044 locsH4044 (x4016) (x4058) (x4043) (x3941) (lv_sub hl4060 [2, 1, 0] rfl) hTH4044 hSH4044 (by have := i_rng x4016; omega) (by have := i_rng x4058; omega) (by have := i_rng x4043; omega) m4057 m4054 m4049 m4050 m4051 m4052 m4055 m4048 f4046 f4047 (by omega) (by omega) (hsp4.trans (by exact lp_more tmI_gp (RQ.yes m3947 (by omega)) (show cPM kk _ = true from decide_eq_true (by omega)) (by omega)))
              · have k4041 := i_ne c4040
                refine lv_iconst (v := 1) hx hb dX4_sum_55 (by decide) ?_
                have cn_x3933 := i_cl (x := x3933) (by omega)
                have cn_F := i_cl (x := F) (by omega)
                exact x_zret C hQ (Or.inr rfl) dX4_sum_56 hSH4003 (by decide) (by decide) (⟨1, x3940, x3941, rfl, by decide, m4012, m4013, by omega, m4008, m4009, m4010, m4011, m4004, Or.inr ⟨hsp4.trans (lp_end tmI_gp (RQ.yes m3947 (by omega)) (show cPM kk _ = false from decide_eq_false (by omega))), by omega⟩, hTH4003⟩)
        · have k3952 := i_eq c3951
          refine lv_iconst (v := 0) hx hb dX4_sum_18 (by decide) ?_
          have cn_x3933 := i_cl (x := x3933) (by omega)
          have cn_F := i_cl (x := F) (by omega)
          exact x_zret C hQ (Or.inl rfl) dX4_sum_19 hSH3938 (by decide) (by decide) (⟨0, x3940, x3941, rfl, by decide, ex3940, ex3941, by omega, m3942, m3943, m3944, m3945, m3946, Or.inl ⟨hsp4.trans (lp_none tmI_gp (RQ.no m3947 (by omega))), by omega⟩, hTH3938⟩)
  refine lv_iconst (v := 0) hx hb dX4_sum_0 (by decide) ?_
  refine lv_istore_n (lv' := [(1, .int 0), (0, .ref a0)]) hx hb dX4_sum_1 rfl hl (by decide) rfl (fun ls4061 hl4062 => ?_)
  refine lv_iconst (v := 0) hx hb dX4_sum_2 (by decide) ?_
  refine lv_istore_n (lv' := [(2, .int 0), (1, .int 0), (0, .ref a0)]) hx hb dX4_sum_3 rfl hl4062 (by decide) rfl (fun ls4063 hl4064 => ?_)
  exact J4 ((500 - (0 : Int32).toInt).toNat + 1)  ls4063 s.heap [] (0) (0) (tat) (fa) (lv_sub hl4064 [2, 1, 0] rfl) hT hS (by decide) (by decide) (by have := i_rng tat; omega) etat efa emq ekq evq elw eli hel0 f0_kk f0_vv (by omega) (by omega) (hsp0.trans (by rfl))
