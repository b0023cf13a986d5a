
set_option maxHeartbeats 4000000 in
set_option maxRecDepth 100000 in
theorem a_X10_isWord_e (l : Launch) (K : KE) (G : Nat → Option Nat) (H : Heap) {a0 : Nat} (x1 : Int32) (tk : Int32) (vl : Int32) (hT : TY K G H) (ga0 : G a0 = some 112) (etk : tk = fI H a0 (K.1.2 10 21)) (evl : vl = fI H a0 (K.1.2 10 22)) : MX l K yX10_isWord cX10_isWord 2 (some .boolean) 0 0 0 0 [.ref a0, .int x1] H (AE G [] H.size) (fun v H1 => ∃ (r : Int32), v = some (.int r) ∧ (0 ≤ r.toInt ∧ r.toInt ≤ 1) ∧ ((r.toInt = 0 ∧ (tk.toInt ≠ 2 ∨ vl.toInt ≠ x1.toInt)) ∨ (r.toInt = 1 ∧ tk.toInt = 2 ∧ vl.toInt = x1.toInt)) ∧ TY K G H1) := by
  refine MX.of (by decide +kernel) (Nat.le_of_ble_eq_true rfl) ?_
  intro p e s m below meth c ls Q C hH hl hQ
  subst hH
  have C : CX p K s m _ meth c RX10 cX10_isWord 2 (some .boolean) "isWord" := C
  obtain ⟨hx, hb, hml, hown, hts, hKT, hr, hlocks, hnm⟩ := id C
  have hl : lv_has ls 2 [(0, .ref a0), (1, .int x1)] := hl
  have hS : va_S (AE G [] s.heap.size) s.heap s.heap [] := va_S.rf
  have n_0 : (0 : Int32).toInt = 0 := rfl
  have n_1 : (1 : Int32).toInt = 1 := rfl
  have n_2 : (2 : Int32).toInt = 2 := rfl
  have btk := ty_fi (x := tk) (k := 21) etk hT ga0 rg_112 rfl
  have bvl := ty_fi (x := vl) (k := 22) evl hT ga0 rg_112 rfl
  have hap : ∀ x y, x < 74 → y < 74 → x ≠ y → K.1.2 10 x ≠ K.1.2 10 y := x_apart hKT hts inX10 tyX10 tyX10_ok nmX10 rfl
  refine lv_aload_n hx hb dX10_isWord_0 rfl (lv_at hl 0 rfl) ?_
  refine x_gi C hT (ci := 10) (k := 21) rfl inX10 (by decide) wF_X10_202 ga0 rg_112 rfl dX10_isWord_1 (fun x125 ex125 bx125 => ?_)
  have ux125 : tk = x125 := (etk).trans ex125.symm
  subst ux125
  refine lv_iconst (v := 2) hx hb dX10_isWord_4 (by decide) ?_
  refine lv_icmp_ne (tgt := 20) hx hb dX10_isWord_5 (by decide) (fun c126 => ?_) (fun c126 => ?_)
  · have k127 := i_ne c126
    refine lv_iconst (v := 0) hx hb dX10_isWord_20 (by decide) ?_
    exact x_zret C hQ (Or.inl rfl) dX10_isWord_21 hS (by decide) (by decide) (⟨0, rfl, by decide, by omega, hT⟩)
  · have k127 := i_eq c126
    refine lv_aload_n hx hb dX10_isWord_8 rfl (lv_at hl 0 rfl) ?_
    refine x_gi C hT (ci := 10) (k := 22) rfl inX10 (by decide) wF_X10_205 ga0 rg_112 rfl dX10_isWord_9 (fun x128 ex128 bx128 => ?_)
    have ux128 : vl = x128 := (evl).trans ex128.symm
    subst ux128
    refine lv_iload_n hx hb dX10_isWord_12 rfl (lv_at hl 1 rfl) ?_
    refine lv_icmp_ne (tgt := 20) hx hb dX10_isWord_13 (by decide) (fun c129 => ?_) (fun c129 => ?_)
    · have k130 := i_ne c129
      refine lv_iconst (v := 0) hx hb dX10_isWord_20 (by decide) ?_
      exact x_zret C hQ (Or.inl rfl) dX10_isWord_21 hS (by decide) (by decide) (⟨0, rfl, by decide, by omega, hT⟩)
    · have k130 := i_eq c129
      refine lv_iconst (v := 1) hx hb dX10_isWord_16 (by decide) ?_
      refine lv_goto (tgt := 21) hx hb dX10_isWord_17 (by decide) ?_
      exact x_zret C hQ (Or.inr rfl) dX10_isWord_21 hS (by decide) (by decide) (⟨1, rfl, by decide, by omega, hT⟩)

set_option maxHeartbeats 4000000 in
set_option maxRecDepth 100000 in
theorem a_X10_isSign_e (l : Launch) (K : KE) (G : Nat → Option Nat) (H : Heap) {a0 : Nat} (x1 : Int32) (tk : Int32) (vl : Int32) (hT : TY K G H) (ga0 : G a0 = some 112) (etk : tk = fI H a0 (K.1.2 10 21)) (evl : vl = fI H a0 (K.1.2 10 22)) : MX l K yX10_isSign cX10_isSign 2 (some .boolean) 0 0 0 0 [.ref a0, .int x1] H (AE G [] H.size) (fun v H1 => ∃ (r : Int32), v = some (.int r) ∧ (0 ≤ r.toInt ∧ r.toInt ≤ 1) ∧ ((r.toInt = 0 ∧ (tk.toInt ≠ 4 ∨ vl.toInt ≠ x1.toInt)) ∨ (r.toInt = 1 ∧ tk.toInt = 4 ∧ vl.toInt = x1.toInt)) ∧ TY K G H1) := by
  refine MX.of (by decide +kernel) (Nat.le_of_ble_eq_true rfl) ?_
  intro p e s m below meth c ls Q C hH hl hQ
  subst hH
  have C : CX p K s m _ meth c RX10 cX10_isSign 2 (some .boolean) "isSign" := C
  obtain ⟨hx, hb, hml, hown, hts, hKT, hr, hlocks, hnm⟩ := id C
  have hl : lv_has ls 2 [(0, .ref a0), (1, .int x1)] := hl
  have hS : va_S (AE G [] s.heap.size) s.heap s.heap [] := va_S.rf
  have n_0 : (0 : Int32).toInt = 0 := rfl
  have n_1 : (1 : Int32).toInt = 1 := rfl
  have n_4 : (4 : Int32).toInt = 4 := rfl
  have btk := ty_fi (x := tk) (k := 21) etk hT ga0 rg_112 rfl
  have bvl := ty_fi (x := vl) (k := 22) evl hT ga0 rg_112 rfl
  have hap : ∀ x y, x < 74 → y < 74 → x ≠ y → K.1.2 10 x ≠ K.1.2 10 y := x_apart hKT hts inX10 tyX10 tyX10_ok nmX10 rfl
  refine lv_aload_n hx hb dX10_isSign_0 rfl (lv_at hl 0 rfl) ?_
  refine x_gi C hT (ci := 10) (k := 21) rfl inX10 (by decide) wF_X10_202 ga0 rg_112 rfl dX10_isSign_1 (fun x125 ex125 bx125 => ?_)
  have ux125 : tk = x125 := (etk).trans ex125.symm
  subst ux125
  refine lv_iconst (v := 4) hx hb dX10_isSign_4 (by decide) ?_
  refine lv_icmp_ne (tgt := 20) hx hb dX10_isSign_5 (by decide) (fun c126 => ?_) (fun c126 => ?_)
  · have k127 := i_ne c126
    refine lv_iconst (v := 0) hx hb dX10_isSign_20 (by decide) ?_
    exact x_zret C hQ (Or.inl rfl) dX10_isSign_21 hS (by decide) (by decide) (⟨0, rfl, by decide, by omega, hT⟩)
  · have k127 := i_eq c126
    refine lv_aload_n hx hb dX10_isSign_8 rfl (lv_at hl 0 rfl) ?_
    refine x_gi C hT (ci := 10) (k := 22) rfl inX10 (by decide) wF_X10_205 ga0 rg_112 rfl dX10_isSign_9 (fun x128 ex128 bx128 => ?_)
    have ux128 : vl = x128 := (evl).trans ex128.symm
    subst ux128
    refine lv_iload_n hx hb dX10_isSign_12 rfl (lv_at hl 1 rfl) ?_
    refine lv_icmp_ne (tgt := 20) hx hb dX10_isSign_13 (by decide) (fun c129 => ?_) (fun c129 => ?_)
    · have k130 := i_ne c129
      refine lv_iconst (v := 0) hx hb dX10_isSign_20 (by decide) ?_
      exact x_zret C hQ (Or.inl rfl) dX10_isSign_21 hS (by decide) (by decide) (⟨0, rfl, by decide, by omega, hT⟩)
    · have k130 := i_eq c129
      refine lv_iconst (v := 1) hx hb dX10_isSign_16 (by decide) ?_
      refine lv_goto (tgt := 21) hx hb dX10_isSign_17 (by decide) ?_
      exact x_zret C hQ (Or.inr rfl) dX10_isSign_21 hS (by decide) (by decide) (⟨1, rfl, by decide, by omega, hT⟩)
