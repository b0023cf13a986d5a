theorem HD.get {P : Prop} (h : HD P) : P := h
/-- what text answers: the lines, or -1 -/
def RT (o : Option Nat) (r : Int32) : Prop := (o = none ∧ r.toInt = -1) ∨ ∃ n : Nat, o = some n ∧ r.toInt = (n : Int)
def TXA (b : Nat → Int) (L : Nat) (x1 x2 r : Int32) : Prop := (((x1.toInt = 0 ∧ 0 ≤ x2.toInt ∧ x2.toInt ≤ 1) ∨ (x1.toInt = 1 ∧ 0 ≤ x2.toInt ∧ x2.toInt ≤ 3)) ∧ RT (txS (kK b L) (vV b L) (if x1.toInt = 0 then 1 else 0) 18 0 0) r) ∨ ((x1.toInt ≠ 0 ∨ x2.toInt < 0 ∨ 1 < x2.toInt) ∧ (x1.toInt ≠ 1 ∨ x2.toInt < 0 ∨ 3 < x2.toInt) ∧ r.toInt = -1)
set_option maxHeartbeats 4000000 in
set_option maxRecDepth 100000 in
theorem a_X4_goesOn_e (l : Launch) (K : KE) (G : Nat → Option Nat) (H : Heap) {a0 : Nat} {mq : Nat} {kq : Nat} {vq : Nat} (F : Int32) (tat : Int32) (fa : Int32) (kk : Nat → Int) (vv : Nat → Int) (hT : TY K G H) (ga0 : G a0 = some 78) (gmq : G mq = some 69) (emq : mq = fR H a0 (K.1.2 4 0)) (gkq : G kq = some 79) (ekq : kq = fR H a0 (K.1.2 4 3)) (gvq : G vq = some 80) (evq : vq = fR H a0 (K.1.2 4 4)) (etat : tat = fI H a0 (K.1.2 4 7)) (efa : fa = fI H a0 (K.1.2 4 1)) (hel0 : fI H kq (F : Int32).toNatClampNeg = 26) (hp0 : tat.toInt ≤ F.toInt) (hp1 : F.toInt ≤ 500) (hv_kk : ∀ j : Nat, j ≤ F.toNatClampNeg → kk j = (fI H kq j).toInt) (hv_vv : ∀ j : Nat, j ≤ F.toNatClampNeg → vv j = (fI H vq j).toInt) : MX l K yX4_goesOn cX4_goesOn 1 (some .boolean) 0 0 0 0 [.ref a0] H (AE G [] H.size) (fun v H1 => ∃ (r : Int32), v = some (.int r) ∧ (0 ≤ r.toInt ∧ r.toInt ≤ 1) ∧ ((r.toInt = 1 ∧ fa.toInt = 0 ∧ kk tat.toNatClampNeg ≠ 26) ∨ (r.toInt = 0 ∧ (fa.toInt ≠ 0 ∨ kk tat.toNatClampNeg = 26))) ∧ TY K G H1) := by
  refine MX.of (by decide +kernel) (Nat.le_of_ble_eq_true rfl) ?_
  intro p e s m below meth c ls Q C hH hl hQ
  subst hH
  have C : CX p K s m _ meth c RX4 cX4_goesOn 1 (some .boolean) "goesOn" := C
  obtain ⟨hx, hb, hml, hown, hts, hKT, hr, hlocks, hnm⟩ := id C
  have hl : lv_has ls 1 [(0, .ref a0)] := hl
  have hS : va_S (AE G [] s.heap.size) s.heap s.heap [] := va_S.rf
  have n_0 : (0 : Int32).toInt = 0 := rfl
  have n_1 : (1 : Int32).toInt = 1 := rfl
  have n_26 : (26 : Int32).toInt = 26 := rfl
  have btat := ty_fi (x := tat) (k := 7) etat hT ga0 rg_78 rfl
  have bfa := ty_fi (x := fa) (k := 1) efa hT ga0 rg_78 rfl
  have f0_kk := hv_kk
  have f0_vv := hv_vv
  refine lv_aload_n hx hb dX4_goesOn_0 rfl (lv_at hl 0 rfl) ?_
  refine x_gi C hT (ci := 4) (k := 1) rfl inX4 (by decide) wF_X4_32 ga0 rg_78 rfl dX4_goesOn_1 (fun x133 ex133 bx133 => ?_)
  have ux133 : fa = x133 := (efa).trans ex133.symm
  subst ux133
  refine lv_if_ne (tgt := 25) hx hb dX4_goesOn_4 (by decide) (fun c134 => ?_) (fun c134 => ?_)
  · have k135 := i_ne c134
    refine lv_iconst (v := 0) hx hb dX4_goesOn_25 (by decide) ?_
    exact x_zret C hQ (Or.inl rfl) dX4_goesOn_26 hS (by decide) (by decide) (⟨0, rfl, by decide, by omega, hT⟩)
  · have k135 := i_eq c134
    refine lv_aload_n hx hb dX4_goesOn_7 rfl (lv_at hl 0 rfl) ?_
    refine x_gr C hT (ci := 4) (k := 3) rfl inX4 (by decide) wF_X4_18 ga0 rg_78 rfl dX4_goesOn_8 (fun q136 eq136 gq136 => ?_)
    have uq136 : kq = q136 := (ekq).trans eq136.symm
    subst uq136
    refine lv_aload_n hx hb dX4_goesOn_11 rfl (lv_at hl 0 rfl) ?_
    refine x_gi C hT (ci := 4) (k := 7) rfl inX4 (by decide) wF_X4_42 ga0 rg_78 rfl dX4_goesOn_12 (fun x137 ex137 bx137 => ?_)
    have ux137 : tat = x137 := (etat).trans ex137.symm
    subst ux137
    refine x_ai C hT gkq rg_79 ⟨by omega, by show _ < ((501 : Nat) : Int); omega⟩ dX4_goesOn_15 (fun x138 ex138 bx138 => ?_)
    have dx138 := el_hit ex138 hel0
    have qvx138 : kk tat.toNatClampNeg = x138.toInt := (f0_kk _ (by have h1 := i_cl (x := tat) (by omega); have h2 := i_cl (x := F) (by omega); omega)).trans (congrArg Int32.toInt ex138.symm)
    refine lv_bipush (v := 26) hx hb dX4_goesOn_16 (by decide) ?_
    refine lv_icmp_eq (tgt := 25) hx hb dX4_goesOn_18 (by decide) (fun c139 => ?_) (fun c139 => ?_)
    · have k140 := i_eq c139
      refine lv_iconst (v := 0) hx hb dX4_goesOn_25 (by decide) ?_
      exact x_zret C hQ (Or.inl rfl) dX4_goesOn_26 hS (by decide) (by decide) (⟨0, rfl, by decide, by omega, hT⟩)
    · have k140 := i_ne c139
      refine lv_iconst (v := 1) hx hb dX4_goesOn_21 (by decide) ?_
      refine lv_goto (tgt := 26) hx hb dX4_goesOn_22 (by decide) ?_
      exact x_zret C hQ (Or.inr rfl) dX4_goesOn_26 hS (by decide) (by decide) (⟨1, rfl, by decide, by omega, hT⟩)
