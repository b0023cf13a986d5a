/-- one more in a row, or not (c: the count behind) -/
def nuX (x n c : Int32) (f : Nat → Int32) (j : Nat) : Int32 := if j = n.toNatClampNeg ∧ c.toInt ≠ n.toInt then x else f j
theorem nu_y {x n c : Int32} {f g : Nat → Int32} {q : Nat} (hq : g q = x) (hn : ∀ j : Nat, j ≠ q → g j = f j) (e : q = n.toNatClampNeg) (hc : c.toInt ≠ n.toInt) : ∀ j : Nat, g j = nuX x n c f j := fun j => by
  subst e
  unfold nuX
  by_cases z : j = n.toNatClampNeg
  · rw [if_pos ⟨z, hc⟩, z, hq]
  · rw [if_neg (fun y => z y.1), hn j z]
theorem nu_n {x n c : Int32} {f g : Nat → Int32} (h : ∀ j : Nat, g j = f j) (hc : c.toInt = n.toInt) : ∀ j : Nat, g j = nuX x n c f j := fun j => by
  unfold nuX
  rw [if_neg (fun y => y.2 hc), h j]
/-- two rows are alike up to N, and what stands there is small -/
def EQR (f g : Nat → Int32) (N : Int) : Prop := ∀ j : Nat, (j : Int) < N → f j = g j ∧ 0 ≤ (g j).toInt ∧ (g j).toInt ≤ 99
theorem EQR.nil {f g : Nat → Int32} {N : Int} (h : N ≤ 0) : EQR f g N := fun j hj => by omega
theorem EQR.of {f g f1 g1 : Nat → Int32} {N M : Int} (h : EQR f g N) (hf : ∀ j : Nat, (j : Int) < M → f1 j = f j) (hg : ∀ j : Nat, (j : Int) < M → g1 j = g j) (hM : M ≤ N) : EQR f1 g1 M := fun j hj => by
  rw [hf j hj, hg j hj]; exact h j (by omega)
theorem EQR.nu {f g : Nat → Int32} {x n c n' c' : Int32} (h : EQR f g n'.toInt) (h0 : 0 ≤ n'.toInt) (en : n.toInt = n'.toInt) (ec : c.toInt = c'.toInt) (hx : c'.toInt ≠ n'.toInt → 0 ≤ x.toInt ∧ x.toInt ≤ 99) (hc : c'.toInt ≤ n'.toInt + 1) : EQR (nuX x n c f) (nuX x n' c' g) c'.toInt := by
  have e1 : n = n' := Int32.toInt_inj.mp en
  have e2 : c = c' := Int32.toInt_inj.mp ec
  subst e1; subst e2
  have hk := i_cl (x := n) h0
  intro j hj
  unfold nuX
  by_cases z : j = n.toNatClampNeg ∧ c.toInt ≠ n.toInt
  · rw [if_pos z, if_pos z]; exact ⟨rfl, hx z.2⟩
  · rw [if_neg z, if_neg z]
    refine h j ?_
    by_cases y : c.toInt = n.toInt
    · omega
    · have : j ≠ n.toNatClampNeg := fun q => z ⟨q, y⟩
      omega
set_option maxHeartbeats 4000000 in
set_option maxRecDepth 100000 in
theorem a_X9_note_n (l : Launch) (K : KE) (G : Nat → Option Nat) (H : Heap) {a0 : Nat} (x1 : Int32) (x2 : Int32) {wq : Nat} {nq : Nat} {lq : Nat} {kq : Nat} (s1 : Int32) (s4 : Int32) (s5 : Int32) (s10 : Int32) (s13 : Int32) (s16 : Int32) (hT : TY K G H) (ga0 : G a0 = some 68) (gwq : G wq = some 0) (ewq : wq = fR H a0 (K.1.2 9 0)) (gnq : G nq = some 31) (enq : nq = fR H wq (K.1.2 8 12)) (glq : G lq = some 32) (elq : lq = fR H wq (K.1.2 8 14)) (gkq : G kq = some 33) (ekq : kq = fR H wq (K.1.2 8 15)) (es1 : s1 = fI H wq (K.1.2 8 1)) (es4 : s4 = fI H wq (K.1.2 8 4)) (es5 : s5 = fI H wq (K.1.2 8 5)) (es10 : s10 = fI H wq (K.1.2 8 10)) (es13 : s13 = fI H wq (K.1.2 8 13)) (es16 : s16 = fI H wq (K.1.2 8 16)) : MX l K yX9_note cX9_note 3 (some .int) 1 22 0 0 [.ref a0, .int x1, .int x2] H (AE G [0, 30, 31] H.size) (fun v H1 => ∃ (r : Int32) (t0 : Int32) (t1 : Int32) (t2 : Int32) (t3 : Int32) (t4 : Int32) (t5 : Int32), v = some (.int r) ∧ t0 = fI H1 wq (K.1.2 8 1) ∧ t1 = fI H1 wq (K.1.2 8 4) ∧ t2 = fI H1 wq (K.1.2 8 5) ∧ t3 = fI H1 wq (K.1.2 8 10) ∧ t4 = fI H1 wq (K.1.2 8 13) ∧ t5 = fI H1 wq (K.1.2 8 16) ∧ (((1 ≤ x1.toInt ∧ x1.toInt ≤ 999999 ∧ 1 ≤ x2.toInt ∧ x2.toInt ≤ 99 ∧ s13.toInt ≤ 7 ∧ r.toInt = s13.toInt ∧ t4.toInt = s13.toInt + 1) ∨ ((x1.toInt < 1 ∨ 999999 < x1.toInt ∨ x2.toInt < 1 ∨ 99 < x2.toInt ∨ 7 < s13.toInt) ∧ r.toInt = -1 ∧ t4.toInt = s13.toInt)) ∧ t0.toInt = s1.toInt ∧ t1.toInt = s4.toInt ∧ t2.toInt = s5.toInt ∧ t3.toInt = s10.toInt ∧ t5.toInt = s16.toInt) ∧ nq = fR H1 wq (K.1.2 8 12) ∧ lq = fR H1 wq (K.1.2 8 14) ∧ kq = fR H1 wq (K.1.2 8 15) ∧ (∀ j : Nat, fI H1 nq j = nuX x2 s13 t4 (fun j => fI H nq j) j) ∧ TY K G H1) := by
  refine MX.of (by decide +kernel) (Nat.le_of_ble_eq_true rfl) ?_
  intro p e s m below meth c ls Q C hH hl hQ
  subst hH
  have C : CX p K s m _ meth c RX9 cX9_note 3 (some .int) "note" := C
  obtain ⟨hx, hb, hml, hown, hts, hKT, hr, hlocks, hnm⟩ := id C
  have hl : lv_has ls 3 [(0, .ref a0), (1, .int x1), (2, .int x2)] := hl
  have hS : va_S (AE G [0, 30, 31] s.heap.size) s.heap s.heap [] := va_S.rf
  have n_m1 : ((-1) : Int32).toInt = -1 := rfl
  have n_0 : (0 : Int32).toInt = 0 := rfl
  have n_1 : (1 : Int32).toInt = 1 := rfl
  have n_8 : (8 : Int32).toInt = 8 := rfl
  have n_99 : (99 : Int32).toInt = 99 := rfl
  have n_999999 : (999999 : Int32).toInt = 999999 := rfl
  have bs1 := ty_fi (x := s1) (k := 1) es1 hT gwq rg_0 rfl
  have bs4 := ty_fi (x := s4) (k := 4) es4 hT gwq rg_0 rfl
  have bs5 := ty_fi (x := s5) (k := 5) es5 hT gwq rg_0 rfl
  have bs10 := ty_fi (x := s10) (k := 10) es10 hT gwq rg_0 rfl
  have bs13 := ty_fi (x := s13) (k := 13) es13 hT gwq rg_0 rfl
  have bs16 := ty_fi (x := s16) (k := 16) es16 hT gwq rg_0 rfl
  have f0_onq : ∀ j : Nat, fI s.heap nq j = fI s.heap nq j := fun _ => rfl
  refine lv_iload_n hx hb dX9_note_0 rfl (lv_at hl 1 rfl) ?_
  refine lv_iconst (v := 1) hx hb dX9_note_1 (by decide) ?_
  refine lv_ldc (v := 999999) hx hb hown (hts _ wK_X9_180) dX9_note_2 ?_
  refine x_S (As := [.int x1, .int 1, .int 999999]) (rest := []) C (c_X9_within l K G s.heap (x1) (1) (999999) hT) yo_X9_within wM_X9_89 ⟨⟨by decide, by decide⟩, by decide, by decide⟩ rfl hl.1 rfl (Nat.le_of_ble_eq_true rfl) dX9_note_4 hS (AE_sub (fun _ _ => rfl) (by decide) hS.1) (fun vH385 H385 locsH385 pH385 zH385 kH385 hSH385 => ?_)
  have hqH385 := pH385.1.symm
  subst hqH385
  rcases pH385.2 with ⟨hvH385, hcH385⟩ | ⟨hvH385, hcH385⟩
  · subst hvH385
    refine W.eq (g2 := F0 m 7 ls [.int 1]) rfl ?_
    refine lv_if_eq (tgt := 32) hx hb dX9_note_7 (by decide) (fun c386 => ?_) (fun c386 => ?_)
    · have k387 := i_eq c386
      exfalso
      omega
    · have k387 := i_ne c386
      refine lv_iload_n hx hb dX9_note_10 rfl (lv_at hl 2 rfl) ?_
      refine lv_iconst (v := 1) hx hb dX9_note_11 (by decide) ?_
      refine lv_bipush (v := 99) hx hb dX9_note_12 (by decide) ?_
      refine x_S (As := [.int x2, .int 1, .int 99]) (rest := []) C (c_X9_within l K G s.heap (x2) (1) (99) hT) yo_X9_within wM_X9_89 ⟨⟨by decide, by decide⟩, by decide, by decide⟩ rfl hl.1 rfl (Nat.le_of_ble_eq_true rfl) dX9_note_14 hSH385 (AE_sub (fun _ _ => rfl) (by decide) hSH385.1) (fun vH388 H388 locsH388 pH388 zH388 kH388 hSH388 => ?_)
      have hqH388 := pH388.1.symm
      subst hqH388
      rcases pH388.2 with ⟨hvH388, hcH388⟩ | ⟨hvH388, hcH388⟩
      · subst hvH388
        refine W.eq (g2 := F0 m 17 ls [.int 1]) rfl ?_
        refine lv_if_eq (tgt := 32) hx hb dX9_note_17 (by decide) (fun c389 => ?_) (fun c389 => ?_)
        · have k390 := i_eq c389
          exfalso
          omega
        · have k390 := i_ne c389
          refine lv_aload_n hx hb dX9_note_20 rfl (lv_at hl 0 rfl) ?_
          refine x_gr C hT (ci := 9) (k := 0) rfl inX9 (by decide) wF_X9_12 ga0 rg_68 rfl dX9_note_21 (fun q391 eq391 gq391 => ?_)
          have uq391 : wq = q391 := (ewq).trans eq391.symm
          subst uq391
          refine x_gi C hT (ci := 8) (k := 13) rfl inX8 (by decide) wF_X9_317 gwq rg_0 rfl dX9_note_24 (fun x392 ex392 bx392 => ?_)
          have ux392 : s13 = x392 := (es13).trans ex392.symm
          subst ux392
          refine lv_bipush (v := 8) hx hb dX9_note_27 (by decide) ?_
          refine lv_icmp_lt (tgt := 34) hx hb dX9_note_29 (by decide) (fun c393 => ?_) (fun c393 => ?_)
          · have k394 := i_lt c393
            refine lv_aload_n hx hb dX9_note_34 rfl (lv_at hl 0 rfl) ?_
            refine x_gr C hT (ci := 9) (k := 0) rfl inX9 (by decide) wF_X9_12 ga0 rg_68 rfl dX9_note_35 (fun q395 eq395 gq395 => ?_)
            have uq395 : wq = q395 := (ewq).trans eq395.symm
            subst uq395
            refine x_gr C hT (ci := 8) (k := 11) rfl inX8 (by decide) wF_X9_320 gwq rg_0 rfl dX9_note_38 (fun q396 eq396 gq396 => ?_)
            refine lv_aload_n hx hb dX9_note_41 rfl (lv_at hl 0 rfl) ?_
            refine x_gr C hT (ci := 9) (k := 0) rfl inX9 (by decide) wF_X9_12 ga0 rg_68 rfl dX9_note_42 (fun q397 eq397 gq397 => ?_)
            have uq397 : wq = q397 := (ewq).trans eq397.symm
            subst uq397
            refine x_gi C hT (ci := 8) (k := 13) rfl inX8 (by decide) wF_X9_317 gwq rg_0 rfl dX9_note_45 (fun x398 ex398 bx398 => ?_)
            have ux398 : s13 = x398 := (es13).trans ex398.symm
            subst ux398
            refine lv_iload_n hx hb dX9_note_48 rfl (lv_at hl 1 rfl) ?_
            refine x_iast C hT hSH388 gq396 rg_30 (by omega) (by show _ < ((8 : Nat) : Int); omega) ⟨by have := i_rng x1; omega, by have := i_rng x1; omega⟩ (AE_in gq396 (by decide)) dX9_note_49 (fun H399 locsH399 hTH399 hSH399 wH399 => ?_)
            have f400 : ∀ j : Nat, fI H399 nq j = fI s.heap nq j := fun j => (Wr.neI wH399 (Or.inl (G_ne gnq gq396 (by decide)))).trans (f0_onq j)
            have m401 := ewq.trans (Wr.neR wH399 (Or.inl (G_ne ga0 gq396 (by decide)))).symm
            have m402 := enq.trans (Wr.neR wH399 (Or.inl (G_ne gwq gq396 (by decide)))).symm
            have m403 := elq.trans (Wr.neR wH399 (Or.inl (G_ne gwq gq396 (by decide)))).symm
            have m404 := ekq.trans (Wr.neR wH399 (Or.inl (G_ne gwq gq396 (by decide)))).symm
            have m405 := es1.trans (Wr.neI wH399 (Or.inl (G_ne gwq gq396 (by decide)))).symm
            have m406 := es4.trans (Wr.neI wH399 (Or.inl (G_ne gwq gq396 (by decide)))).symm
            have m407 := es5.trans (Wr.neI wH399 (Or.inl (G_ne gwq gq396 (by decide)))).symm
            have m408 := es10.trans (Wr.neI wH399 (Or.inl (G_ne gwq gq396 (by decide)))).symm
            have m409 := es13.trans (Wr.neI wH399 (Or.inl (G_ne gwq gq396 (by decide)))).symm
            have m410 := es16.trans (Wr.neI wH399 (Or.inl (G_ne gwq gq396 (by decide)))).symm
            have m411 := eq396.trans (Wr.neR wH399 (Or.inl (G_ne gwq gq396 (by decide)))).symm
            have m412 := Wr.I wH399
            have m412 := m412.symm
            refine lv_aload_n hx hb dX9_note_50 rfl (lv_at hl 0 rfl) ?_
            refine x_gr C hTH399 (ci := 9) (k := 0) rfl inX9 (by decide) wF_X9_12 ga0 rg_68 rfl dX9_note_51 (fun q413 eq413 gq413 => ?_)
            have uq413 : wq = q413 := (m401).trans eq413.symm
            subst uq413
            refine x_gr C hTH399 (ci := 8) (k := 12) rfl inX8 (by decide) wF_X9_323 gwq rg_0 rfl dX9_note_54 (fun q414 eq414 gq414 => ?_)
            have uq414 : nq = q414 := (m402).trans eq414.symm
            subst uq414
            refine lv_aload_n hx hb dX9_note_57 rfl (lv_at hl 0 rfl) ?_
            refine x_gr C hTH399 (ci := 9) (k := 0) rfl inX9 (by decide) wF_X9_12 ga0 rg_68 rfl dX9_note_58 (fun q415 eq415 gq415 => ?_)
            have uq415 : wq = q415 := (m401).trans eq415.symm
            subst uq415
            refine x_gi C hTH399 (ci := 8) (k := 13) rfl inX8 (by decide) wF_X9_317 gwq rg_0 rfl dX9_note_61 (fun x416 ex416 bx416 => ?_)
            have ux416 : s13 = x416 := (m409).trans ex416.symm
            subst ux416
            refine lv_iload_n hx hb dX9_note_64 rfl (lv_at hl 2 rfl) ?_
            refine x_iast C hTH399 hSH399 gnq rg_31 (by omega) (by show _ < ((8 : Nat) : Int); omega) ⟨by have := i_rng x2; omega, by have := i_rng x2; omega⟩ (AE_in gnq (by decide)) dX9_note_65 (fun H417 locsH417 hTH417 hSH417 wH417 => ?_)
            have m418 := m401.trans (Wr.neR wH417 (Or.inl (G_ne ga0 gnq (by decide)))).symm
            have m419 := m402.trans (Wr.neR wH417 (Or.inl (G_ne gwq gnq (by decide)))).symm
            have m420 := m403.trans (Wr.neR wH417 (Or.inl (G_ne gwq gnq (by decide)))).symm
            have m421 := m404.trans (Wr.neR wH417 (Or.inl (G_ne gwq gnq (by decide)))).symm
            have m422 := m405.trans (Wr.neI wH417 (Or.inl (G_ne gwq gnq (by decide)))).symm
            have m423 := m406.trans (Wr.neI wH417 (Or.inl (G_ne gwq gnq (by decide)))).symm
            have m424 := m407.trans (Wr.neI wH417 (Or.inl (G_ne gwq gnq (by decide)))).symm
            have m425 := m408.trans (Wr.neI wH417 (Or.inl (G_ne gwq gnq (by decide)))).symm
            have m426 := m409.trans (Wr.neI wH417 (Or.inl (G_ne gwq gnq (by decide)))).symm
            have m427 := m410.trans (Wr.neI wH417 (Or.inl (G_ne gwq gnq (by decide)))).symm
            have m428 := m411.trans (Wr.neR wH417 (Or.inl (G_ne gwq gnq (by decide)))).symm
            have m429 := m412.trans (Wr.neI wH417 (Or.inl (G_ne gq396 gnq (by decide)))).symm
            have m430 := Wr.I wH417
            have m430 := m430.symm
            refine lv_aload_n hx hb dX9_note_66 rfl (lv_at hl 0 rfl) ?_
            refine x_gr C hTH417 (ci := 9) (k := 0) rfl inX9 (by decide) wF_X9_12 ga0 rg_68 rfl dX9_note_67 (fun q431 eq431 gq431 => ?_)
            have uq431 : wq = q431 := (m418).trans eq431.symm
            subst uq431
            refine lv_dup hx hb dX9_note_70 rfl ?_
            refine x_gi C hTH417 (ci := 8) (k := 13) rfl inX8 (by decide) wF_X9_317 gwq rg_0 rfl dX9_note_71 (fun x432 ex432 bx432 => ?_)
            have ux432 : s13 = x432 := (m426).trans ex432.symm
            subst ux432
            refine lv_iconst (v := 1) hx hb dX9_note_74 (by decide) ?_
            refine lv_iadd hx hb dX9_note_75 ?_
            refine lv_topi (fun x433 ex433 => ?_)
            have tx433 := i_add ex433 (by omega)
            refine x_put C hTH417 hSH417 (ci := 8) (k := 13) (v := .int x433) (ty0 := tyX8) rfl inX8 tyX8_ok nmX8 (by decide) rfl wF_X9_317 gwq rg_0 rfl rfl (okI (by have := i_rng x433; omega) (by have := i_rng x433; omega)) rfl rfl (AE_in gwq (by decide)) dX9_note_76 (fun H434 locsH434 hTH434 hSH434 wH434 => ?_)
            have m435 := m418.trans (Wr.neR wH434 (Or.inl (G_ne ga0 gwq (by decide)))).symm
            have m436 := m419.trans (Wr.neR wH434 (Or.inr (x_apart hKT hts inX8 tyX8 tyX8_ok nmX8 rfl 12 13 (by decide) (by decide) (by decide)))).symm
            have m437 := m420.trans (Wr.neR wH434 (Or.inr (x_apart hKT hts inX8 tyX8 tyX8_ok nmX8 rfl 14 13 (by decide) (by decide) (by decide)))).symm
            have m438 := m421.trans (Wr.neR wH434 (Or.inr (x_apart hKT hts inX8 tyX8 tyX8_ok nmX8 rfl 15 13 (by decide) (by decide) (by decide)))).symm
            have m439 := m422.trans (Wr.neI wH434 (Or.inr (x_apart hKT hts inX8 tyX8 tyX8_ok nmX8 rfl 1 13 (by decide) (by decide) (by decide)))).symm
            have m440 := m423.trans (Wr.neI wH434 (Or.inr (x_apart hKT hts inX8 tyX8 tyX8_ok nmX8 rfl 4 13 (by decide) (by decide) (by decide)))).symm
            have m441 := m424.trans (Wr.neI wH434 (Or.inr (x_apart hKT hts inX8 tyX8 tyX8_ok nmX8 rfl 5 13 (by decide) (by decide) (by decide)))).symm
            have m442 := m425.trans (Wr.neI wH434 (Or.inr (x_apart hKT hts inX8 tyX8 tyX8_ok nmX8 rfl 10 13 (by decide) (by decide) (by decide)))).symm
            have m444 := m427.trans (Wr.neI wH434 (Or.inr (x_apart hKT hts inX8 tyX8 tyX8_ok nmX8 rfl 16 13 (by decide) (by decide) (by decide)))).symm
            have m445 := m428.trans (Wr.neR wH434 (Or.inr (x_apart hKT hts inX8 tyX8 tyX8_ok nmX8 rfl 11 13 (by decide) (by decide) (by decide)))).symm
            have m446 := m429.trans (Wr.neI wH434 (Or.inl (G_ne gq396 gwq (by decide)))).symm
            have m447 := m430.trans (Wr.neI wH434 (Or.inl (G_ne gnq gwq (by decide)))).symm
            have m448 := Wr.I wH434
            have m448 := m448.symm
            refine lv_aload_n hx hb dX9_note_79 rfl (lv_at hl 0 rfl) ?_
            refine x_gr C hTH434 (ci := 9) (k := 0) rfl inX9 (by decide) wF_X9_12 ga0 rg_68 rfl dX9_note_80 (fun q449 eq449 gq449 => ?_)
            have uq449 : wq = q449 := (m435).trans eq449.symm
            subst uq449
            refine x_gi C hTH434 (ci := 8) (k := 13) rfl inX8 (by decide) wF_X9_317 gwq rg_0 rfl dX9_note_83 (fun x450 ex450 bx450 => ?_)
            have ux450 : x433 = x450 := (m448).trans ex450.symm
            subst ux450
            refine lv_iconst (v := 1) hx hb dX9_note_86 (by decide) ?_
            refine lv_isub hx hb dX9_note_87 ?_
            refine lv_topi (fun x451 ex451 => ?_)
            have tx451 := i_sub ex451 (by omega)
            have cn_s13 := i_cl (x := s13) (by omega)
            have cn_s13 := i_cl (x := s13) (by omega)
            exact x_iret C hQ dX9_note_88 hSH434 (by decide) (by decide) (⟨x451, s1, s4, s5, s10, x433, s16, rfl, m439, m440, m441, m442, m448, m444, by omega, m436, m437, m438, (nu_y (g := fun j => fI _ nq j) (q := s13.toNatClampNeg) (((Wr.neI wH434 (Or.inl (G_ne gnq gwq (by decide))))).trans (Wr.I wH417)) (fun j hj => ((Wr.neI wH434 (Or.inl (G_ne gnq gwq (by decide))))).trans ((Wr.neI wH417 (Or.inr hj)).trans (f400 j))) (by omega) (by omega)), hTH434⟩)
          · have k394 := i_nlt c393
            refine lv_iconst (v := (-1)) hx hb dX9_note_32 (by decide) ?_
            exact x_iret C hQ dX9_note_33 hSH388 (by decide) (by decide) (⟨(-1), s1, s4, s5, s10, s13, s16, rfl, es1, es4, es5, es10, es13, es16, by omega, enq, elq, ekq, (nu_n f0_onq (by omega)), hT⟩)
      · subst hvH388
        refine W.eq (g2 := F0 m 17 ls [.int 0]) rfl ?_
        refine lv_if_eq (tgt := 32) hx hb dX9_note_17 (by decide) (fun c452 => ?_) (fun c452 => ?_)
        · have k453 := i_eq c452
          refine lv_iconst (v := (-1)) hx hb dX9_note_32 (by decide) ?_
          exact x_iret C hQ dX9_note_33 hSH388 (by decide) (by decide) (⟨(-1), s1, s4, s5, s10, s13, s16, rfl, es1, es4, es5, es10, es13, es16, by omega, enq, elq, ekq, (nu_n f0_onq (by omega)), hT⟩)
        · have k453 := i_ne c452
          exfalso
          omega
  · subst hvH385
    refine W.eq (g2 := F0 m 7 ls [.int 0]) rfl ?_
    refine lv_if_eq (tgt := 32) hx hb dX9_note_7 (by decide) (fun c454 => ?_) (fun c454 => ?_)
    · have k455 := i_eq c454
      refine lv_iconst (v := (-1)) hx hb dX9_note_32 (by decide) ?_
      exact x_iret C hQ dX9_note_33 hSH385 (by decide) (by decide) (⟨(-1), s1, s4, s5, s10, s13, s16, rfl, es1, es4, es5, es10, es13, es16, by omega, enq, elq, ekq, (nu_n f0_onq (by omega)), hT⟩)
    · have k455 := i_ne c454
      exfalso
      omega

set_option maxHeartbeats 4000000 in
set_option maxRecDepth 100000 in
theorem a_X10_note_n (l : Launch) (K : KE) (G : Nat → Option Nat) (H : Heap) {a0 : Nat} (x1 : Int32) (x2 : Int32) {nq : Nat} (s13 : Int32) (hT : TY K G H) (ga0 : G a0 = some 112) (gnq : G nq = some 157) (enq : nq = fR H a0 (K.1.2 10 64)) (es13 : s13 = fI H a0 (K.1.2 10 62)) (hg_CG : CG (avw K H a0)) (hg_TU : TU (avw K H a0) (svw K H a0)) (hg_WD : WD (avw K H a0)) (hg_IM : IM (avw K H a0)) : MX l K yX10_note cX10_note 3 (some .int) 1 23 0 0 [.ref a0, .int x1, .int x2] H (AE G [112, 156, 157] H.size) (fun v H1 => ∃ (r : Int32) (t0 : Int32), v = some (.int r) ∧ t0 = fI H1 a0 (K.1.2 10 62) ∧ ((1 ≤ x1.toInt ∧ x1.toInt ≤ 999999 ∧ 1 ≤ x2.toInt ∧ x2.toInt ≤ 99 ∧ s13.toInt ≤ 7 ∧ r.toInt = s13.toInt ∧ t0.toInt = s13.toInt + 1) ∨ ((x1.toInt < 1 ∨ 999999 < x1.toInt ∨ x2.toInt < 1 ∨ 99 < x2.toInt ∨ 7 < s13.toInt) ∧ r.toInt = -1 ∧ t0.toInt = s13.toInt)) ∧ nq = fR H1 a0 (K.1.2 10 64) ∧ (CG (avw K H1 a0)) ∧ (TU (avw K H1 a0) (svw K H1 a0)) ∧ (WD (avw K H1 a0)) ∧ (IM (avw K H1 a0)) ∧ MF K H H1 a0 [0, 62] ∧ (∀ j : Nat, fI H1 nq j = nuX x2 s13 t0 (fun j => fI H nq j) j) ∧ TY K G H1) := by
  refine MX.of (by decide +kernel) (Nat.le_of_ble_eq_true rfl) ?_
  intro p e s m below meth c ls Q C hH hl hQ
  subst hH
  have C : CX p K s m _ meth c RX10 cX10_note 3 (some .int) "note" := C
  obtain ⟨hx, hb, hml, hown, hts, hKT, hr, hlocks, hnm⟩ := id C
  have hl : lv_has ls 3 [(0, .ref a0), (1, .int x1), (2, .int x2)] := hl
  have hS : va_S (AE G [112, 156, 157] s.heap.size) s.heap s.heap [] := va_S.rf
  have n_m1 : ((-1) : Int32).toInt = -1 := rfl
  have n_0 : (0 : Int32).toInt = 0 := rfl
  have n_1 : (1 : Int32).toInt = 1 := rfl
  have n_8 : (8 : Int32).toInt = 8 := rfl
  have n_99 : (99 : Int32).toInt = 99 := rfl
  have n_999999 : (999999 : Int32).toInt = 999999 := rfl
  have bs13 := ty_fi (x := s13) (k := 62) es13 hT ga0 rg_112 rfl
  have hap : ∀ x y, x < 74 → y < 74 → x ≠ y → K.1.2 10 x ≠ K.1.2 10 y := x_apart hKT hts inX10 tyX10 tyX10_ok nmX10 rfl
  have mf0 : MF K s.heap s.heap a0 [0, 62] := fun _ _ _ => rfl
  have f0_onq : ∀ j : Nat, fI s.heap nq j = fI s.heap nq j := fun _ => rfl
  refine lv_aload_n hx hb dX10_note_0 rfl (lv_at hl 0 rfl) ?_
  refine lv_iconst (v := 0) hx hb dX10_note_1 (by decide) ?_
  refine x_put C hT hS (ci := 10) (k := 0) (v := .int 0) (ty0 := tyX10) rfl inX10 tyX10_ok nmX10 (by decide) rfl wF_X10_167 ga0 rg_112 rfl rfl (okI (by have := i_rng (0 : Int32); omega) (by have := i_rng (0 : Int32); omega)) rfl rfl (AE_in ga0 (by decide)) dX10_note_2 (fun H373 locsH373 hTH373 hSH373 wH373 => ?_)
  have mf374 : MF K s.heap H373 a0 [0, 62] := MF.fld hap wH373 (by decide) (by decide) mf0
  have g375 : CG (avw K H373 a0) := CG.congr (fun k hk j => av_fld hT ga0 hap wH373 (by decide) (CG_ok 112 (by decide) k hk) (CG_ne 0 (by decide) k hk)) hg_CG
  have g376 : TU (avw K H373 a0) (svw K H373 a0) := TU.congr (fun k hk j => av_fld hT ga0 hap wH373 (by decide) (TU_ok 112 (by decide) k hk) (TU_ne 0 (by decide) k hk)) (fun k hk => sv_fld hap wH373 (by decide) (TU_slt k hk) (TU_sne 0 (by decide) k hk)) hg_TU
  have g377 : WD (avw K H373 a0) := WD.congr (fun k hk j => av_fld hT ga0 hap wH373 (by decide) (WD_ok 112 (by decide) k hk) (WD_ne 0 (by decide) k hk)) hg_WD
  have g378 : IM (avw K H373 a0) := IM.congr (fun k hk j => av_fld hT ga0 hap wH373 (by decide) (IM_ok 112 (by decide) k hk) (IM_ne 0 (by decide) k hk)) hg_IM
  have f379 : ∀ j : Nat, fI H373 nq j = fI s.heap nq j := fun j => (Wr.neI wH373 (Or.inl (G_ne gnq ga0 (by decide)))).trans (f0_onq j)
  have m380 := enq.trans (Wr.neR wH373 (Or.inr (x_apart hKT hts inX10 tyX10 tyX10_ok nmX10 rfl 64 0 (by decide) (by decide) (by decide)))).symm
  have m381 := es13.trans (Wr.neI wH373 (Or.inr (x_apart hKT hts inX10 tyX10 tyX10_ok nmX10 rfl 62 0 (by decide) (by decide) (by decide)))).symm
  have m382 := Wr.I wH373
  refine lv_aload_n hx hb dX10_note_5 rfl (lv_at hl 0 rfl) ?_
  refine lv_iload_n hx hb dX10_note_6 rfl (lv_at hl 1 rfl) ?_
  refine lv_iconst (v := 1) hx hb dX10_note_7 (by decide) ?_
  refine lv_ldcw (v := 999999) hx hb hown (hts _ wK_X10_348) dX10_note_8 ?_
  refine x_V (As := [.int x1, .int 1, .int 999999]) (rest := []) C (c_X10_isIn l K G H373 (x1) (1) (999999) hTH373 ga0) yo_X10_isIn wM_X10_177 ⟨⟨by decide, by decide⟩, by decide, by decide⟩ (x_rv C hTH373 (ci := 10) rfl ga0 rg_112) rfl hl.1 rfl (Nat.le_of_ble_eq_true rfl) dX10_note_11 hSH373 (AE_sub (fun _ _ => rfl) (by decide) hSH373.1) (fun vH383 H383 locsH383 pH383 zH383 kH383 hSH383 => ?_)
  have hqH383 := pH383.1.symm
  subst hqH383
  rcases pH383.2 with ⟨hvH383, hcH383⟩ | ⟨hvH383, hcH383⟩
  · subst hvH383
    refine W.eq (g2 := F0 m 14 ls [.int 1]) rfl ?_
    refine lv_if_eq (tgt := 37) hx hb dX10_note_14 (by decide) (fun c384 => ?_) (fun c384 => ?_)
    · have k385 := i_eq c384
      exfalso
      omega
    · have k385 := i_ne c384
      refine lv_aload_n hx hb dX10_note_17 rfl (lv_at hl 0 rfl) ?_
      refine lv_iload_n hx hb dX10_note_18 rfl (lv_at hl 2 rfl) ?_
      refine lv_iconst (v := 1) hx hb dX10_note_19 (by decide) ?_
      refine lv_bipush (v := 99) hx hb dX10_note_20 (by decide) ?_
      refine x_V (As := [.int x2, .int 1, .int 99]) (rest := []) C (c_X10_isIn l K G H373 (x2) (1) (99) hTH373 ga0) yo_X10_isIn wM_X10_177 ⟨⟨by decide, by decide⟩, by decide, by decide⟩ (x_rv C hTH373 (ci := 10) rfl ga0 rg_112) rfl hl.1 rfl (Nat.le_of_ble_eq_true rfl) dX10_note_22 hSH383 (AE_sub (fun _ _ => rfl) (by decide) hSH383.1) (fun vH386 H386 locsH386 pH386 zH386 kH386 hSH386 => ?_)
      have hqH386 := pH386.1.symm
      subst hqH386
      rcases pH386.2 with ⟨hvH386, hcH386⟩ | ⟨hvH386, hcH386⟩
      · subst hvH386
        refine W.eq (g2 := F0 m 25 ls [.int 1]) rfl ?_
        refine lv_if_eq (tgt := 37) hx hb dX10_note_25 (by decide) (fun c387 => ?_) (fun c387 => ?_)
        · have k388 := i_eq c387
          exfalso
          omega
        · have k388 := i_ne c387
          refine lv_aload_n hx hb dX10_note_28 rfl (lv_at hl 0 rfl) ?_
          refine x_gi C hTH373 (ci := 10) (k := 62) rfl inX10 (by decide) wF_X10_455 ga0 rg_112 rfl dX10_note_29 (fun x389 ex389 bx389 => ?_)
          have ux389 : s13 = x389 := (m381).trans ex389.symm
          subst ux389
          refine lv_bipush (v := 8) hx hb dX10_note_32 (by decide) ?_
          refine lv_icmp_ne (tgt := 39) hx hb dX10_note_34 (by decide) (fun c390 => ?_) (fun c390 => ?_)
          · have k391 := i_ne c390
            refine lv_aload_n hx hb dX10_note_39 rfl (lv_at hl 0 rfl) ?_
            refine x_gr C hTH373 (ci := 10) (k := 63) rfl inX10 (by decide) wF_X10_146 ga0 rg_112 rfl dX10_note_40 (fun q392 eq392 gq392 => ?_)
            refine lv_aload_n hx hb dX10_note_43 rfl (lv_at hl 0 rfl) ?_
            refine x_gi C hTH373 (ci := 10) (k := 62) rfl inX10 (by decide) wF_X10_455 ga0 rg_112 rfl dX10_note_44 (fun x393 ex393 bx393 => ?_)
            have ux393 : s13 = x393 := (m381).trans ex393.symm
            subst ux393
            refine lv_iload_n hx hb dX10_note_47 rfl (lv_at hl 1 rfl) ?_
            refine x_iast C hTH373 hSH386 gq392 rg_156 (by omega) (by show _ < ((8 : Nat) : Int); omega) ⟨by have := i_rng x1; omega, by have := i_rng x1; omega⟩ (AE_in gq392 (by decide)) dX10_note_48 (fun H394 locsH394 hTH394 hSH394 wH394 => ?_)
            have mf395 : MF K s.heap H394 a0 [0, 62] := MF.arr wH394 (G_ne ga0 gq392 (by decide)) mf374
            have g396 : CG (avw K H394 a0) := CG.congr (fun k hk j => av_arr hTH373 ga0 wH394 gq392 (by decide) (CG_ok 156 (by decide) k hk)) g375
            have g397 : TU (avw K H394 a0) (svw K H394 a0) := TU.congr (fun k hk j => av_arr hTH373 ga0 wH394 gq392 (by decide) (TU_ok 156 (by decide) k hk)) (fun k hk => sv_arr ga0 wH394 gq392 (by decide)) g376
            have g398 : WD (avw K H394 a0) := WD.congr (fun k hk j => av_arr hTH373 ga0 wH394 gq392 (by decide) (WD_ok 156 (by decide) k hk)) g377
            have g399 : IM (avw K H394 a0) := IM.congr (fun k hk j => av_arr hTH373 ga0 wH394 gq392 (by decide) (IM_ok 156 (by decide) k hk)) g378
            have f400 : ∀ j : Nat, fI H394 nq j = fI s.heap nq j := fun j => (Wr.neI wH394 (Or.inl (G_ne gnq gq392 (by decide)))).trans (f379 j)
            have m401 := m380.trans (Wr.neR wH394 (Or.inl (G_ne ga0 gq392 (by decide)))).symm
            have m402 := m381.trans (Wr.neI wH394 (Or.inl (G_ne ga0 gq392 (by decide)))).symm
            have m403 := (Wr.neI wH394 (Or.inl (G_ne ga0 gq392 (by decide)))).trans m382
            have m404 := eq392.trans (Wr.neR wH394 (Or.inl (G_ne ga0 gq392 (by decide)))).symm
            have m405 := Wr.I wH394
            have m405 := m405.symm
            refine lv_aload_n hx hb dX10_note_49 rfl (lv_at hl 0 rfl) ?_
            refine x_gr C hTH394 (ci := 10) (k := 64) rfl inX10 (by decide) wF_X10_149 ga0 rg_112 rfl dX10_note_50 (fun q406 eq406 gq406 => ?_)
            have uq406 : nq = q406 := (m401).trans eq406.symm
            subst uq406
            refine lv_aload_n hx hb dX10_note_53 rfl (lv_at hl 0 rfl) ?_
            refine x_gi C hTH394 (ci := 10) (k := 62) rfl inX10 (by decide) wF_X10_455 ga0 rg_112 rfl dX10_note_54 (fun x407 ex407 bx407 => ?_)
            have ux407 : s13 = x407 := (m402).trans ex407.symm
            subst ux407
            refine lv_iload_n hx hb dX10_note_57 rfl (lv_at hl 2 rfl) ?_
            refine x_iast C hTH394 hSH394 gnq rg_157 (by omega) (by show _ < ((8 : Nat) : Int); omega) ⟨by have := i_rng x2; omega, by have := i_rng x2; omega⟩ (AE_in gnq (by decide)) dX10_note_58 (fun H408 locsH408 hTH408 hSH408 wH408 => ?_)
            have mf409 : MF K s.heap H408 a0 [0, 62] := MF.arr wH408 (G_ne ga0 gnq (by decide)) mf395
            have g410 : CG (avw K H408 a0) := CG.congr (fun k hk j => av_arr hTH394 ga0 wH408 gnq (by decide) (CG_ok 157 (by decide) k hk)) g396
            have g411 : TU (avw K H408 a0) (svw K H408 a0) := TU.congr (fun k hk j => av_arr hTH394 ga0 wH408 gnq (by decide) (TU_ok 157 (by decide) k hk)) (fun k hk => sv_arr ga0 wH408 gnq (by decide)) g397
            have g412 : WD (avw K H408 a0) := WD.congr (fun k hk j => av_arr hTH394 ga0 wH408 gnq (by decide) (WD_ok 157 (by decide) k hk)) g398
            have g413 : IM (avw K H408 a0) := IM.congr (fun k hk j => av_arr hTH394 ga0 wH408 gnq (by decide) (IM_ok 157 (by decide) k hk)) g399
            have m414 := m401.trans (Wr.neR wH408 (Or.inl (G_ne ga0 gnq (by decide)))).symm
            have m415 := m402.trans (Wr.neI wH408 (Or.inl (G_ne ga0 gnq (by decide)))).symm
            have m416 := (Wr.neI wH408 (Or.inl (G_ne ga0 gnq (by decide)))).trans m403
            have m417 := m404.trans (Wr.neR wH408 (Or.inl (G_ne ga0 gnq (by decide)))).symm
            have m418 := m405.trans (Wr.neI wH408 (Or.inl (G_ne gq392 gnq (by decide)))).symm
            have m419 := Wr.I wH408
            have m419 := m419.symm
            refine lv_aload_n hx hb dX10_note_59 rfl (lv_at hl 0 rfl) ?_
            refine lv_aload_n hx hb dX10_note_60 rfl (lv_at hl 0 rfl) ?_
            refine x_gi C hTH408 (ci := 10) (k := 62) rfl inX10 (by decide) wF_X10_455 ga0 rg_112 rfl dX10_note_61 (fun x420 ex420 bx420 => ?_)
            have ux420 : s13 = x420 := (m415).trans ex420.symm
            subst ux420
            refine lv_iconst (v := 1) hx hb dX10_note_64 (by decide) ?_
            refine lv_iadd hx hb dX10_note_65 ?_
            refine lv_topi (fun x421 ex421 => ?_)
            have tx421 := i_add ex421 (by omega)
            refine x_put C hTH408 hSH408 (ci := 10) (k := 62) (v := .int x421) (ty0 := tyX10) rfl inX10 tyX10_ok nmX10 (by decide) rfl wF_X10_455 ga0 rg_112 rfl rfl (okI (by have := i_rng x421; omega) (by have := i_rng x421; omega)) rfl rfl (AE_in ga0 (by decide)) dX10_note_66 (fun H422 locsH422 hTH422 hSH422 wH422 => ?_)
            have mf423 : MF K s.heap H422 a0 [0, 62] := MF.fld hap wH422 (by decide) (by decide) mf409
            have g424 : CG (avw K H422 a0) := CG.congr (fun k hk j => av_fld hTH408 ga0 hap wH422 (by decide) (CG_ok 112 (by decide) k hk) (CG_ne 62 (by decide) k hk)) g410
            have g425 : TU (avw K H422 a0) (svw K H422 a0) := TU.congr (fun k hk j => av_fld hTH408 ga0 hap wH422 (by decide) (TU_ok 112 (by decide) k hk) (TU_ne 62 (by decide) k hk)) (fun k hk => sv_fld hap wH422 (by decide) (TU_slt k hk) (TU_sne 62 (by decide) k hk)) g411
            have g426 : WD (avw K H422 a0) := WD.congr (fun k hk j => av_fld hTH408 ga0 hap wH422 (by decide) (WD_ok 112 (by decide) k hk) (WD_ne 62 (by decide) k hk)) g412
            have g427 : IM (avw K H422 a0) := IM.congr (fun k hk j => av_fld hTH408 ga0 hap wH422 (by decide) (IM_ok 112 (by decide) k hk) (IM_ne 62 (by decide) k hk)) g413
            have m428 := m414.trans (Wr.neR wH422 (Or.inr (x_apart hKT hts inX10 tyX10 tyX10_ok nmX10 rfl 64 62 (by decide) (by decide) (by decide)))).symm
            have m430 := (Wr.neI wH422 (Or.inr (x_apart hKT hts inX10 tyX10 tyX10_ok nmX10 rfl 0 62 (by decide) (by decide) (by decide)))).trans m416
            have m431 := m417.trans (Wr.neR wH422 (Or.inr (x_apart hKT hts inX10 tyX10 tyX10_ok nmX10 rfl 63 62 (by decide) (by decide) (by decide)))).symm
            have m432 := m418.trans (Wr.neI wH422 (Or.inl (G_ne gq392 ga0 (by decide)))).symm
            have m433 := m419.trans (Wr.neI wH422 (Or.inl (G_ne gnq ga0 (by decide)))).symm
            have m434 := Wr.I wH422
            have m434 := m434.symm
            refine lv_aload_n hx hb dX10_note_69 rfl (lv_at hl 0 rfl) ?_
            refine x_gi C hTH422 (ci := 10) (k := 62) rfl inX10 (by decide) wF_X10_455 ga0 rg_112 rfl dX10_note_70 (fun x435 ex435 bx435 => ?_)
            have ux435 : x421 = x435 := (m434).trans ex435.symm
            subst ux435
            refine lv_iconst (v := 1) hx hb dX10_note_73 (by decide) ?_
            refine lv_isub hx hb dX10_note_74 ?_
            refine lv_topi (fun x436 ex436 => ?_)
            have tx436 := i_sub ex436 (by omega)
            have cn_s13 := i_cl (x := s13) (by omega)
            have cn_s13 := i_cl (x := s13) (by omega)
            exact x_iret C hQ dX10_note_75 hSH422 (by decide) (by decide) (⟨x436, x421, rfl, m434, by omega, m428, g424, g425, g426, g427, mf423, (nu_y (g := fun j => fI _ nq j) (q := s13.toNatClampNeg) (((Wr.neI wH422 (Or.inl (G_ne gnq ga0 (by decide))))).trans (Wr.I wH408)) (fun j hj => ((Wr.neI wH422 (Or.inl (G_ne gnq ga0 (by decide))))).trans ((Wr.neI wH408 (Or.inr hj)).trans (f400 j))) (by omega) (by omega)), hTH422⟩)
          · have k391 := i_eq c390
            refine lv_iconst (v := (-1)) hx hb dX10_note_37 (by decide) ?_
            exact x_iret C hQ dX10_note_38 hSH386 (by decide) (by decide) (⟨(-1), s13, rfl, m381, by omega, m380, g375, g376, g377, g378, mf374, (nu_n f379 (by omega)), hTH373⟩)
      · subst hvH386
        refine W.eq (g2 := F0 m 25 ls [.int 0]) rfl ?_
        refine lv_if_eq (tgt := 37) hx hb dX10_note_25 (by decide) (fun c437 => ?_) (fun c437 => ?_)
        · have k438 := i_eq c437
          refine lv_iconst (v := (-1)) hx hb dX10_note_37 (by decide) ?_
          exact x_iret C hQ dX10_note_38 hSH386 (by decide) (by decide) (⟨(-1), s13, rfl, m381, by omega, m380, g375, g376, g377, g378, mf374, (nu_n f379 (by omega)), hTH373⟩)
        · have k438 := i_ne c437
          exfalso
          omega
  · subst hvH383
    refine W.eq (g2 := F0 m 14 ls [.int 0]) rfl ?_
    refine lv_if_eq (tgt := 37) hx hb dX10_note_14 (by decide) (fun c439 => ?_) (fun c439 => ?_)
    · have k440 := i_eq c439
      refine lv_iconst (v := (-1)) hx hb dX10_note_37 (by decide) ?_
      exact x_iret C hQ dX10_note_38 hSH383 (by decide) (by decide) (⟨(-1), s13, rfl, m381, by omega, m380, g375, g376, g377, g378, mf374, (nu_n f379 (by omega)), hTH373⟩)
    · have k440 := i_ne c439
      exfalso
      omega

set_option maxHeartbeats 4000000 in
set_option maxRecDepth 100000 in
theorem a_X9_blank_n (l : Launch) (K : KE) (G : Nat → Option Nat) (H : Heap) {a0 : Nat} (x1 : Int32) (x2 : Int32) {wq : Nat} {nq : Nat} {lq : Nat} {kq : Nat} (s1 : Int32) (s4 : Int32) (s5 : Int32) (s10 : Int32) (s13 : Int32) (s16 : Int32) (hT : TY K G H) (ga0 : G a0 = some 68) (gwq : G wq = some 0) (ewq : wq = fR H a0 (K.1.2 9 0)) (gnq : G nq = some 31) (enq : nq = fR H wq (K.1.2 8 12)) (glq : G lq = some 32) (elq : lq = fR H wq (K.1.2 8 14)) (gkq : G kq = some 33) (ekq : kq = fR H wq (K.1.2 8 15)) (es1 : s1 = fI H wq (K.1.2 8 1)) (es4 : s4 = fI H wq (K.1.2 8 4)) (es5 : s5 = fI H wq (K.1.2 8 5)) (es10 : s10 = fI H wq (K.1.2 8 10)) (es13 : s13 = fI H wq (K.1.2 8 13)) (es16 : s16 = fI H wq (K.1.2 8 16)) : MX l K yX9_blank cX9_blank 3 (some .int) 1 22 0 0 [.ref a0, .int x1, .int x2] H (AE G [0, 32, 33] H.size) (fun v H1 => ∃ (r : Int32) (t0 : Int32) (t1 : Int32) (t2 : Int32) (t3 : Int32) (t4 : Int32) (t5 : Int32), v = some (.int r) ∧ t0 = fI H1 wq (K.1.2 8 1) ∧ t1 = fI H1 wq (K.1.2 8 4) ∧ t2 = fI H1 wq (K.1.2 8 5) ∧ t3 = fI H1 wq (K.1.2 8 10) ∧ t4 = fI H1 wq (K.1.2 8 13) ∧ t5 = fI H1 wq (K.1.2 8 16) ∧ (((1 ≤ x1.toInt ∧ x1.toInt ≤ 99 ∧ 0 ≤ x2.toInt ∧ x2.toInt ≤ 99 ∧ s16.toInt ≤ 7 ∧ r.toInt = s16.toInt ∧ t5.toInt = s16.toInt + 1) ∨ ((x1.toInt < 1 ∨ 99 < x1.toInt ∨ x2.toInt < 0 ∨ 99 < x2.toInt ∨ 7 < s16.toInt) ∧ r.toInt = -1 ∧ t5.toInt = s16.toInt)) ∧ t0.toInt = s1.toInt ∧ t1.toInt = s4.toInt ∧ t2.toInt = s5.toInt ∧ t3.toInt = s10.toInt ∧ t4.toInt = s13.toInt) ∧ nq = fR H1 wq (K.1.2 8 12) ∧ lq = fR H1 wq (K.1.2 8 14) ∧ kq = fR H1 wq (K.1.2 8 15) ∧ (∀ j : Nat, fI H1 lq j = nuX x1 s16 t5 (fun j => fI H lq j) j) ∧ (∀ j : Nat, fI H1 kq j = nuX x2 s16 t5 (fun j => fI H kq j) j) ∧ TY K G H1) := by
  refine MX.of (by decide +kernel) (Nat.le_of_ble_eq_true rfl) ?_
  intro p e s m below meth c ls Q C hH hl hQ
  subst hH
  have C : CX p K s m _ meth c RX9 cX9_blank 3 (some .int) "blank" := C
  obtain ⟨hx, hb, hml, hown, hts, hKT, hr, hlocks, hnm⟩ := id C
  have hl : lv_has ls 3 [(0, .ref a0), (1, .int x1), (2, .int x2)] := hl
  have hS : va_S (AE G [0, 32, 33] s.heap.size) s.heap s.heap [] := va_S.rf
  have n_m1 : ((-1) : Int32).toInt = -1 := rfl
  have n_0 : (0 : Int32).toInt = 0 := rfl
  have n_1 : (1 : Int32).toInt = 1 := rfl
  have n_8 : (8 : Int32).toInt = 8 := rfl
  have n_99 : (99 : Int32).toInt = 99 := rfl
  have bs1 := ty_fi (x := s1) (k := 1) es1 hT gwq rg_0 rfl
  have bs4 := ty_fi (x := s4) (k := 4) es4 hT gwq rg_0 rfl
  have bs5 := ty_fi (x := s5) (k := 5) es5 hT gwq rg_0 rfl
  have bs10 := ty_fi (x := s10) (k := 10) es10 hT gwq rg_0 rfl
  have bs13 := ty_fi (x := s13) (k := 13) es13 hT gwq rg_0 rfl
  have bs16 := ty_fi (x := s16) (k := 16) es16 hT gwq rg_0 rfl
  have f0_olq : ∀ j : Nat, fI s.heap lq j = fI s.heap lq j := fun _ => rfl
  have f0_okq : ∀ j : Nat, fI s.heap kq j = fI s.heap kq j := fun _ => rfl
  refine lv_iload_n hx hb dX9_blank_0 rfl (lv_at hl 1 rfl) ?_
  refine lv_iconst (v := 1) hx hb dX9_blank_1 (by decide) ?_
  refine lv_bipush (v := 99) hx hb dX9_blank_2 (by decide) ?_
  refine x_S (As := [.int x1, .int 1, .int 99]) (rest := []) C (c_X9_within l K G s.heap (x1) (1) (99) hT) yo_X9_within wM_X9_89 ⟨⟨by decide, by decide⟩, by decide, by decide⟩ rfl hl.1 rfl (Nat.le_of_ble_eq_true rfl) dX9_blank_4 hS (AE_sub (fun _ _ => rfl) (by decide) hS.1) (fun vH373 H373 locsH373 pH373 zH373 kH373 hSH373 => ?_)
  have hqH373 := pH373.1.symm
  subst hqH373
  rcases pH373.2 with ⟨hvH373, hcH373⟩ | ⟨hvH373, hcH373⟩
  · subst hvH373
    refine W.eq (g2 := F0 m 7 ls [.int 1]) rfl ?_
    refine lv_if_eq (tgt := 32) hx hb dX9_blank_7 (by decide) (fun c374 => ?_) (fun c374 => ?_)
    · have k375 := i_eq c374
      exfalso
      omega
    · have k375 := i_ne c374
      refine lv_iload_n hx hb dX9_blank_10 rfl (lv_at hl 2 rfl) ?_
      refine lv_iconst (v := 0) hx hb dX9_blank_11 (by decide) ?_
      refine lv_bipush (v := 99) hx hb dX9_blank_12 (by decide) ?_
      refine x_S (As := [.int x2, .int 0, .int 99]) (rest := []) C (c_X9_within l K G s.heap (x2) (0) (99) hT) yo_X9_within wM_X9_89 ⟨⟨by decide, by decide⟩, by decide, by decide⟩ rfl hl.1 rfl (Nat.le_of_ble_eq_true rfl) dX9_blank_14 hSH373 (AE_sub (fun _ _ => rfl) (by decide) hSH373.1) (fun vH376 H376 locsH376 pH376 zH376 kH376 hSH376 => ?_)
      have hqH376 := pH376.1.symm
      subst hqH376
      rcases pH376.2 with ⟨hvH376, hcH376⟩ | ⟨hvH376, hcH376⟩
      · subst hvH376
        refine W.eq (g2 := F0 m 17 ls [.int 1]) rfl ?_
        refine lv_if_eq (tgt := 32) hx hb dX9_blank_17 (by decide) (fun c377 => ?_) (fun c377 => ?_)
        · have k378 := i_eq c377
          exfalso
          omega
        · have k378 := i_ne c377
          refine lv_aload_n hx hb dX9_blank_20 rfl (lv_at hl 0 rfl) ?_
          refine x_gr C hT (ci := 9) (k := 0) rfl inX9 (by decide) wF_X9_12 ga0 rg_68 rfl dX9_blank_21 (fun q379 eq379 gq379 => ?_)
          have uq379 : wq = q379 := (ewq).trans eq379.symm
          subst uq379
          refine x_gi C hT (ci := 8) (k := 16) rfl inX8 (by decide) wF_X9_326 gwq rg_0 rfl dX9_blank_24 (fun x380 ex380 bx380 => ?_)
          have ux380 : s16 = x380 := (es16).trans ex380.symm
          subst ux380
          refine lv_bipush (v := 8) hx hb dX9_blank_27 (by decide) ?_
          refine lv_icmp_lt (tgt := 34) hx hb dX9_blank_29 (by decide) (fun c381 => ?_) (fun c381 => ?_)
          · have k382 := i_lt c381
            refine lv_aload_n hx hb dX9_blank_34 rfl (lv_at hl 0 rfl) ?_
            refine x_gr C hT (ci := 9) (k := 0) rfl inX9 (by decide) wF_X9_12 ga0 rg_68 rfl dX9_blank_35 (fun q383 eq383 gq383 => ?_)
            have uq383 : wq = q383 := (ewq).trans eq383.symm
            subst uq383
            refine x_gr C hT (ci := 8) (k := 14) rfl inX8 (by decide) wF_X9_329 gwq rg_0 rfl dX9_blank_38 (fun q384 eq384 gq384 => ?_)
            have uq384 : lq = q384 := (elq).trans eq384.symm
            subst uq384
            refine lv_aload_n hx hb dX9_blank_41 rfl (lv_at hl 0 rfl) ?_
            refine x_gr C hT (ci := 9) (k := 0) rfl inX9 (by decide) wF_X9_12 ga0 rg_68 rfl dX9_blank_42 (fun q385 eq385 gq385 => ?_)
            have uq385 : wq = q385 := (ewq).trans eq385.symm
            subst uq385
            refine x_gi C hT (ci := 8) (k := 16) rfl inX8 (by decide) wF_X9_326 gwq rg_0 rfl dX9_blank_45 (fun x386 ex386 bx386 => ?_)
            have ux386 : s16 = x386 := (es16).trans ex386.symm
            subst ux386
            refine lv_iload_n hx hb dX9_blank_48 rfl (lv_at hl 1 rfl) ?_
            refine x_iast C hT hSH376 glq rg_32 (by omega) (by show _ < ((8 : Nat) : Int); omega) ⟨by have := i_rng x1; omega, by have := i_rng x1; omega⟩ (AE_in glq (by decide)) dX9_blank_49 (fun H387 locsH387 hTH387 hSH387 wH387 => ?_)
            have f388 : ∀ j : Nat, fI H387 kq j = fI s.heap kq j := fun j => (Wr.neI wH387 (Or.inl (G_ne gkq glq (by decide)))).trans (f0_okq j)
            have m389 := ewq.trans (Wr.neR wH387 (Or.inl (G_ne ga0 glq (by decide)))).symm
            have m390 := enq.trans (Wr.neR wH387 (Or.inl (G_ne gwq glq (by decide)))).symm
            have m391 := elq.trans (Wr.neR wH387 (Or.inl (G_ne gwq glq (by decide)))).symm
            have m392 := ekq.trans (Wr.neR wH387 (Or.inl (G_ne gwq glq (by decide)))).symm
            have m393 := es1.trans (Wr.neI wH387 (Or.inl (G_ne gwq glq (by decide)))).symm
            have m394 := es4.trans (Wr.neI wH387 (Or.inl (G_ne gwq glq (by decide)))).symm
            have m395 := es5.trans (Wr.neI wH387 (Or.inl (G_ne gwq glq (by decide)))).symm
            have m396 := es10.trans (Wr.neI wH387 (Or.inl (G_ne gwq glq (by decide)))).symm
            have m397 := es13.trans (Wr.neI wH387 (Or.inl (G_ne gwq glq (by decide)))).symm
            have m398 := es16.trans (Wr.neI wH387 (Or.inl (G_ne gwq glq (by decide)))).symm
            have m399 := Wr.I wH387
            have m399 := m399.symm
            refine lv_aload_n hx hb dX9_blank_50 rfl (lv_at hl 0 rfl) ?_
            refine x_gr C hTH387 (ci := 9) (k := 0) rfl inX9 (by decide) wF_X9_12 ga0 rg_68 rfl dX9_blank_51 (fun q400 eq400 gq400 => ?_)
            have uq400 : wq = q400 := (m389).trans eq400.symm
            subst uq400
            refine x_gr C hTH387 (ci := 8) (k := 15) rfl inX8 (by decide) wF_X9_332 gwq rg_0 rfl dX9_blank_54 (fun q401 eq401 gq401 => ?_)
            have uq401 : kq = q401 := (m392).trans eq401.symm
            subst uq401
            refine lv_aload_n hx hb dX9_blank_57 rfl (lv_at hl 0 rfl) ?_
            refine x_gr C hTH387 (ci := 9) (k := 0) rfl inX9 (by decide) wF_X9_12 ga0 rg_68 rfl dX9_blank_58 (fun q402 eq402 gq402 => ?_)
            have uq402 : wq = q402 := (m389).trans eq402.symm
            subst uq402
            refine x_gi C hTH387 (ci := 8) (k := 16) rfl inX8 (by decide) wF_X9_326 gwq rg_0 rfl dX9_blank_61 (fun x403 ex403 bx403 => ?_)
            have ux403 : s16 = x403 := (m398).trans ex403.symm
            subst ux403
            refine lv_iload_n hx hb dX9_blank_64 rfl (lv_at hl 2 rfl) ?_
            refine x_iast C hTH387 hSH387 gkq rg_33 (by omega) (by show _ < ((8 : Nat) : Int); omega) ⟨by have := i_rng x2; omega, by have := i_rng x2; omega⟩ (AE_in gkq (by decide)) dX9_blank_65 (fun H404 locsH404 hTH404 hSH404 wH404 => ?_)
            have m405 := m389.trans (Wr.neR wH404 (Or.inl (G_ne ga0 gkq (by decide)))).symm
            have m406 := m390.trans (Wr.neR wH404 (Or.inl (G_ne gwq gkq (by decide)))).symm
            have m407 := m391.trans (Wr.neR wH404 (Or.inl (G_ne gwq gkq (by decide)))).symm
            have m408 := m392.trans (Wr.neR wH404 (Or.inl (G_ne gwq gkq (by decide)))).symm
            have m409 := m393.trans (Wr.neI wH404 (Or.inl (G_ne gwq gkq (by decide)))).symm
            have m410 := m394.trans (Wr.neI wH404 (Or.inl (G_ne gwq gkq (by decide)))).symm
            have m411 := m395.trans (Wr.neI wH404 (Or.inl (G_ne gwq gkq (by decide)))).symm
            have m412 := m396.trans (Wr.neI wH404 (Or.inl (G_ne gwq gkq (by decide)))).symm
            have m413 := m397.trans (Wr.neI wH404 (Or.inl (G_ne gwq gkq (by decide)))).symm
            have m414 := m398.trans (Wr.neI wH404 (Or.inl (G_ne gwq gkq (by decide)))).symm
            have m415 := m399.trans (Wr.neI wH404 (Or.inl (G_ne glq gkq (by decide)))).symm
            have m416 := Wr.I wH404
            have m416 := m416.symm
            refine lv_aload_n hx hb dX9_blank_66 rfl (lv_at hl 0 rfl) ?_
            refine x_gr C hTH404 (ci := 9) (k := 0) rfl inX9 (by decide) wF_X9_12 ga0 rg_68 rfl dX9_blank_67 (fun q417 eq417 gq417 => ?_)
            have uq417 : wq = q417 := (m405).trans eq417.symm
            subst uq417
            refine lv_dup hx hb dX9_blank_70 rfl ?_
            refine x_gi C hTH404 (ci := 8) (k := 16) rfl inX8 (by decide) wF_X9_326 gwq rg_0 rfl dX9_blank_71 (fun x418 ex418 bx418 => ?_)
            have ux418 : s16 = x418 := (m414).trans ex418.symm
            subst ux418
            refine lv_iconst (v := 1) hx hb dX9_blank_74 (by decide) ?_
            refine lv_iadd hx hb dX9_blank_75 ?_
            refine lv_topi (fun x419 ex419 => ?_)
            have tx419 := i_add ex419 (by omega)
            refine x_put C hTH404 hSH404 (ci := 8) (k := 16) (v := .int x419) (ty0 := tyX8) rfl inX8 tyX8_ok nmX8 (by decide) rfl wF_X9_326 gwq rg_0 rfl rfl (okI (by have := i_rng x419; omega) (by have := i_rng x419; omega)) rfl rfl (AE_in gwq (by decide)) dX9_blank_76 (fun H420 locsH420 hTH420 hSH420 wH420 => ?_)
            have m421 := m405.trans (Wr.neR wH420 (Or.inl (G_ne ga0 gwq (by decide)))).symm
            have m422 := m406.trans (Wr.neR wH420 (Or.inr (x_apart hKT hts inX8 tyX8 tyX8_ok nmX8 rfl 12 16 (by decide) (by decide) (by decide)))).symm
            have m423 := m407.trans (Wr.neR wH420 (Or.inr (x_apart hKT hts inX8 tyX8 tyX8_ok nmX8 rfl 14 16 (by decide) (by decide) (by decide)))).symm
            have m424 := m408.trans (Wr.neR wH420 (Or.inr (x_apart hKT hts inX8 tyX8 tyX8_ok nmX8 rfl 15 16 (by decide) (by decide) (by decide)))).symm
            have m425 := m409.trans (Wr.neI wH420 (Or.inr (x_apart hKT hts inX8 tyX8 tyX8_ok nmX8 rfl 1 16 (by decide) (by decide) (by decide)))).symm
            have m426 := m410.trans (Wr.neI wH420 (Or.inr (x_apart hKT hts inX8 tyX8 tyX8_ok nmX8 rfl 4 16 (by decide) (by decide) (by decide)))).symm
            have m427 := m411.trans (Wr.neI wH420 (Or.inr (x_apart hKT hts inX8 tyX8 tyX8_ok nmX8 rfl 5 16 (by decide) (by decide) (by decide)))).symm
            have m428 := m412.trans (Wr.neI wH420 (Or.inr (x_apart hKT hts inX8 tyX8 tyX8_ok nmX8 rfl 10 16 (by decide) (by decide) (by decide)))).symm
            have m429 := m413.trans (Wr.neI wH420 (Or.inr (x_apart hKT hts inX8 tyX8 tyX8_ok nmX8 rfl 13 16 (by decide) (by decide) (by decide)))).symm
            have m431 := m415.trans (Wr.neI wH420 (Or.inl (G_ne glq gwq (by decide)))).symm
            have m432 := m416.trans (Wr.neI wH420 (Or.inl (G_ne gkq gwq (by decide)))).symm
            have m433 := Wr.I wH420
            have m433 := m433.symm
            refine lv_aload_n hx hb dX9_blank_79 rfl (lv_at hl 0 rfl) ?_
            refine x_gr C hTH420 (ci := 9) (k := 0) rfl inX9 (by decide) wF_X9_12 ga0 rg_68 rfl dX9_blank_80 (fun q434 eq434 gq434 => ?_)
            have uq434 : wq = q434 := (m421).trans eq434.symm
            subst uq434
            refine x_gi C hTH420 (ci := 8) (k := 16) rfl inX8 (by decide) wF_X9_326 gwq rg_0 rfl dX9_blank_83 (fun x435 ex435 bx435 => ?_)
            have ux435 : x419 = x435 := (m433).trans ex435.symm
            subst ux435
            refine lv_iconst (v := 1) hx hb dX9_blank_86 (by decide) ?_
            refine lv_isub hx hb dX9_blank_87 ?_
            refine lv_topi (fun x436 ex436 => ?_)
            have tx436 := i_sub ex436 (by omega)
            have cn_s16 := i_cl (x := s16) (by omega)
            have cn_s16 := i_cl (x := s16) (by omega)
            have cn_s16 := i_cl (x := s16) (by omega)
            have cn_s16 := i_cl (x := s16) (by omega)
            exact x_iret C hQ dX9_blank_88 hSH420 (by decide) (by decide) (⟨x436, s1, s4, s5, s10, s13, x419, rfl, m425, m426, m427, m428, m429, m433, by omega, m422, m423, m424, (nu_y (g := fun j => fI _ lq j) (q := s16.toNatClampNeg) ((((Wr.neI wH420 (Or.inl (G_ne glq gwq (by decide)))).trans (Wr.neI wH404 (Or.inl (G_ne glq gkq (by decide)))))).trans (Wr.I wH387)) (fun j hj => (((Wr.neI wH420 (Or.inl (G_ne glq gwq (by decide)))).trans (Wr.neI wH404 (Or.inl (G_ne glq gkq (by decide)))))).trans ((Wr.neI wH387 (Or.inr hj)).trans (f0_olq j))) (by omega) (by omega)), (nu_y (g := fun j => fI _ kq j) (q := s16.toNatClampNeg) (((Wr.neI wH420 (Or.inl (G_ne gkq gwq (by decide))))).trans (Wr.I wH404)) (fun j hj => ((Wr.neI wH420 (Or.inl (G_ne gkq gwq (by decide))))).trans ((Wr.neI wH404 (Or.inr hj)).trans (f388 j))) (by omega) (by omega)), hTH420⟩)
          · have k382 := i_nlt c381
            refine lv_iconst (v := (-1)) hx hb dX9_blank_32 (by decide) ?_
            exact x_iret C hQ dX9_blank_33 hSH376 (by decide) (by decide) (⟨(-1), s1, s4, s5, s10, s13, s16, rfl, es1, es4, es5, es10, es13, es16, by omega, enq, elq, ekq, (nu_n f0_olq (by omega)), (nu_n f0_okq (by omega)), hT⟩)
      · subst hvH376
        refine W.eq (g2 := F0 m 17 ls [.int 0]) rfl ?_
        refine lv_if_eq (tgt := 32) hx hb dX9_blank_17 (by decide) (fun c437 => ?_) (fun c437 => ?_)
        · have k438 := i_eq c437
          refine lv_iconst (v := (-1)) hx hb dX9_blank_32 (by decide) ?_
          exact x_iret C hQ dX9_blank_33 hSH376 (by decide) (by decide) (⟨(-1), s1, s4, s5, s10, s13, s16, rfl, es1, es4, es5, es10, es13, es16, by omega, enq, elq, ekq, (nu_n f0_olq (by omega)), (nu_n f0_okq (by omega)), hT⟩)
        · have k438 := i_ne c437
          exfalso
          omega
  · subst hvH373
    refine W.eq (g2 := F0 m 7 ls [.int 0]) rfl ?_
    refine lv_if_eq (tgt := 32) hx hb dX9_blank_7 (by decide) (fun c439 => ?_) (fun c439 => ?_)
    · have k440 := i_eq c439
      refine lv_iconst (v := (-1)) hx hb dX9_blank_32 (by decide) ?_
      exact x_iret C hQ dX9_blank_33 hSH373 (by decide) (by decide) (⟨(-1), s1, s4, s5, s10, s13, s16, rfl, es1, es4, es5, es10, es13, es16, by omega, enq, elq, ekq, (nu_n f0_olq (by omega)), (nu_n f0_okq (by omega)), hT⟩)
    · have k440 := i_ne c439
      exfalso
      omega

set_option maxHeartbeats 4000000 in
set_option maxRecDepth 100000 in
theorem a_X10_blank_n (l : Launch) (K : KE) (G : Nat → Option Nat) (H : Heap) {a0 : Nat} (x1 : Int32) (x2 : Int32) {lq : Nat} {kq : Nat} (s16 : Int32) (hT : TY K G H) (ga0 : G a0 = some 112) (glq : G lq = some 158) (elq : lq = fR H a0 (K.1.2 10 66)) (gkq : G kq = some 159) (ekq : kq = fR H a0 (K.1.2 10 67)) (es16 : s16 = fI H a0 (K.1.2 10 65)) (hg_CG : CG (avw K H a0)) (hg_TU : TU (avw K H a0) (svw K H a0)) (hg_WD : WD (avw K H a0)) (hg_IM : IM (avw K H a0)) : MX l K yX10_blank cX10_blank 3 (some .int) 1 23 0 0 [.ref a0, .int x1, .int x2] H (AE G [112, 158, 159] H.size) (fun v H1 => ∃ (r : Int32) (t0 : Int32), v = some (.int r) ∧ t0 = fI H1 a0 (K.1.2 10 65) ∧ ((1 ≤ x1.toInt ∧ x1.toInt ≤ 99 ∧ 0 ≤ x2.toInt ∧ x2.toInt ≤ 99 ∧ s16.toInt ≤ 7 ∧ r.toInt = s16.toInt ∧ t0.toInt = s16.toInt + 1) ∨ ((x1.toInt < 1 ∨ 99 < x1.toInt ∨ x2.toInt < 0 ∨ 99 < x2.toInt ∨ 7 < s16.toInt) ∧ r.toInt = -1 ∧ t0.toInt = s16.toInt)) ∧ lq = fR H1 a0 (K.1.2 10 66) ∧ kq = fR H1 a0 (K.1.2 10 67) ∧ (CG (avw K H1 a0)) ∧ (TU (avw K H1 a0) (svw K H1 a0)) ∧ (WD (avw K H1 a0)) ∧ (IM (avw K H1 a0)) ∧ MF K H H1 a0 [0, 65] ∧ (∀ j : Nat, fI H1 lq j = nuX x1 s16 t0 (fun j => fI H lq j) j) ∧ (∀ j : Nat, fI H1 kq j = nuX x2 s16 t0 (fun j => fI H kq j) j) ∧ TY K G H1) := by
  refine MX.of (by decide +kernel) (Nat.le_of_ble_eq_true rfl) ?_
  intro p e s m below meth c ls Q C hH hl hQ
  subst hH
  have C : CX p K s m _ meth c RX10 cX10_blank 3 (some .int) "blank" := C
  obtain ⟨hx, hb, hml, hown, hts, hKT, hr, hlocks, hnm⟩ := id C
  have hl : lv_has ls 3 [(0, .ref a0), (1, .int x1), (2, .int x2)] := hl
  have hS : va_S (AE G [112, 158, 159] s.heap.size) s.heap s.heap [] := va_S.rf
  have n_m1 : ((-1) : Int32).toInt = -1 := rfl
  have n_0 : (0 : Int32).toInt = 0 := rfl
  have n_1 : (1 : Int32).toInt = 1 := rfl
  have n_8 : (8 : Int32).toInt = 8 := rfl
  have n_99 : (99 : Int32).toInt = 99 := rfl
  have bs16 := ty_fi (x := s16) (k := 65) es16 hT ga0 rg_112 rfl
  have hap : ∀ x y, x < 74 → y < 74 → x ≠ y → K.1.2 10 x ≠ K.1.2 10 y := x_apart hKT hts inX10 tyX10 tyX10_ok nmX10 rfl
  have mf0 : MF K s.heap s.heap a0 [0, 65] := fun _ _ _ => rfl
  have f0_olq : ∀ j : Nat, fI s.heap lq j = fI s.heap lq j := fun _ => rfl
  have f0_okq : ∀ j : Nat, fI s.heap kq j = fI s.heap kq j := fun _ => rfl
  refine lv_aload_n hx hb dX10_blank_0 rfl (lv_at hl 0 rfl) ?_
  refine lv_iconst (v := 0) hx hb dX10_blank_1 (by decide) ?_
  refine x_put C hT hS (ci := 10) (k := 0) (v := .int 0) (ty0 := tyX10) rfl inX10 tyX10_ok nmX10 (by decide) rfl wF_X10_167 ga0 rg_112 rfl rfl (okI (by have := i_rng (0 : Int32); omega) (by have := i_rng (0 : Int32); omega)) rfl rfl (AE_in ga0 (by decide)) dX10_blank_2 (fun H381 locsH381 hTH381 hSH381 wH381 => ?_)
  have mf382 : MF K s.heap H381 a0 [0, 65] := MF.fld hap wH381 (by decide) (by decide) mf0
  have g383 : CG (avw K H381 a0) := CG.congr (fun k hk j => av_fld hT ga0 hap wH381 (by decide) (CG_ok 112 (by decide) k hk) (CG_ne 0 (by decide) k hk)) hg_CG
  have g384 : TU (avw K H381 a0) (svw K H381 a0) := TU.congr (fun k hk j => av_fld hT ga0 hap wH381 (by decide) (TU_ok 112 (by decide) k hk) (TU_ne 0 (by decide) k hk)) (fun k hk => sv_fld hap wH381 (by decide) (TU_slt k hk) (TU_sne 0 (by decide) k hk)) hg_TU
  have g385 : WD (avw K H381 a0) := WD.congr (fun k hk j => av_fld hT ga0 hap wH381 (by decide) (WD_ok 112 (by decide) k hk) (WD_ne 0 (by decide) k hk)) hg_WD
  have g386 : IM (avw K H381 a0) := IM.congr (fun k hk j => av_fld hT ga0 hap wH381 (by decide) (IM_ok 112 (by decide) k hk) (IM_ne 0 (by decide) k hk)) hg_IM
  have f387 : ∀ j : Nat, fI H381 lq j = fI s.heap lq j := fun j => (Wr.neI wH381 (Or.inl (G_ne glq ga0 (by decide)))).trans (f0_olq j)
  have f388 : ∀ j : Nat, fI H381 kq j = fI s.heap kq j := fun j => (Wr.neI wH381 (Or.inl (G_ne gkq ga0 (by decide)))).trans (f0_okq j)
  have m389 := elq.trans (Wr.neR wH381 (Or.inr (x_apart hKT hts inX10 tyX10 tyX10_ok nmX10 rfl 66 0 (by decide) (by decide) (by decide)))).symm
  have m390 := ekq.trans (Wr.neR wH381 (Or.inr (x_apart hKT hts inX10 tyX10 tyX10_ok nmX10 rfl 67 0 (by decide) (by decide) (by decide)))).symm
  have m391 := es16.trans (Wr.neI wH381 (Or.inr (x_apart hKT hts inX10 tyX10 tyX10_ok nmX10 rfl 65 0 (by decide) (by decide) (by decide)))).symm
  have m392 := Wr.I wH381
  refine lv_aload_n hx hb dX10_blank_5 rfl (lv_at hl 0 rfl) ?_
  refine lv_iload_n hx hb dX10_blank_6 rfl (lv_at hl 1 rfl) ?_
  refine lv_iconst (v := 1) hx hb dX10_blank_7 (by decide) ?_
  refine lv_bipush (v := 99) hx hb dX10_blank_8 (by decide) ?_
  refine x_V (As := [.int x1, .int 1, .int 99]) (rest := []) C (c_X10_isIn l K G H381 (x1) (1) (99) hTH381 ga0) yo_X10_isIn wM_X10_177 ⟨⟨by decide, by decide⟩, by decide, by decide⟩ (x_rv C hTH381 (ci := 10) rfl ga0 rg_112) rfl hl.1 rfl (Nat.le_of_ble_eq_true rfl) dX10_blank_10 hSH381 (AE_sub (fun _ _ => rfl) (by decide) hSH381.1) (fun vH393 H393 locsH393 pH393 zH393 kH393 hSH393 => ?_)
  have hqH393 := pH393.1.symm
  subst hqH393
  rcases pH393.2 with ⟨hvH393, hcH393⟩ | ⟨hvH393, hcH393⟩
  · subst hvH393
    refine W.eq (g2 := F0 m 13 ls [.int 1]) rfl ?_
    refine lv_if_eq (tgt := 36) hx hb dX10_blank_13 (by decide) (fun c394 => ?_) (fun c394 => ?_)
    · have k395 := i_eq c394
      exfalso
      omega
    · have k395 := i_ne c394
      refine lv_aload_n hx hb dX10_blank_16 rfl (lv_at hl 0 rfl) ?_
      refine lv_iload_n hx hb dX10_blank_17 rfl (lv_at hl 2 rfl) ?_
      refine lv_iconst (v := 0) hx hb dX10_blank_18 (by decide) ?_
      refine lv_bipush (v := 99) hx hb dX10_blank_19 (by decide) ?_
      refine x_V (As := [.int x2, .int 0, .int 99]) (rest := []) C (c_X10_isIn l K G H381 (x2) (0) (99) hTH381 ga0) yo_X10_isIn wM_X10_177 ⟨⟨by decide, by decide⟩, by decide, by decide⟩ (x_rv C hTH381 (ci := 10) rfl ga0 rg_112) rfl hl.1 rfl (Nat.le_of_ble_eq_true rfl) dX10_blank_21 hSH393 (AE_sub (fun _ _ => rfl) (by decide) hSH393.1) (fun vH396 H396 locsH396 pH396 zH396 kH396 hSH396 => ?_)
      have hqH396 := pH396.1.symm
      subst hqH396
      rcases pH396.2 with ⟨hvH396, hcH396⟩ | ⟨hvH396, hcH396⟩
      · subst hvH396
        refine W.eq (g2 := F0 m 24 ls [.int 1]) rfl ?_
        refine lv_if_eq (tgt := 36) hx hb dX10_blank_24 (by decide) (fun c397 => ?_) (fun c397 => ?_)
        · have k398 := i_eq c397
          exfalso
          omega
        · have k398 := i_ne c397
          refine lv_aload_n hx hb dX10_blank_27 rfl (lv_at hl 0 rfl) ?_
          refine x_gi C hTH381 (ci := 10) (k := 65) rfl inX10 (by decide) wF_X10_458 ga0 rg_112 rfl dX10_blank_28 (fun x399 ex399 bx399 => ?_)
          have ux399 : s16 = x399 := (m391).trans ex399.symm
          subst ux399
          refine lv_bipush (v := 8) hx hb dX10_blank_31 (by decide) ?_
          refine lv_icmp_ne (tgt := 38) hx hb dX10_blank_33 (by decide) (fun c400 => ?_) (fun c400 => ?_)
          · have k401 := i_ne c400
            refine lv_aload_n hx hb dX10_blank_38 rfl (lv_at hl 0 rfl) ?_
            refine x_gr C hTH381 (ci := 10) (k := 66) rfl inX10 (by decide) wF_X10_152 ga0 rg_112 rfl dX10_blank_39 (fun q402 eq402 gq402 => ?_)
            have uq402 : lq = q402 := (m389).trans eq402.symm
            subst uq402
            refine lv_aload_n hx hb dX10_blank_42 rfl (lv_at hl 0 rfl) ?_
            refine x_gi C hTH381 (ci := 10) (k := 65) rfl inX10 (by decide) wF_X10_458 ga0 rg_112 rfl dX10_blank_43 (fun x403 ex403 bx403 => ?_)
            have ux403 : s16 = x403 := (m391).trans ex403.symm
            subst ux403
            refine lv_iload_n hx hb dX10_blank_46 rfl (lv_at hl 1 rfl) ?_
            refine x_iast C hTH381 hSH396 glq rg_158 (by omega) (by show _ < ((8 : Nat) : Int); omega) ⟨by have := i_rng x1; omega, by have := i_rng x1; omega⟩ (AE_in glq (by decide)) dX10_blank_47 (fun H404 locsH404 hTH404 hSH404 wH404 => ?_)
            have mf405 : MF K s.heap H404 a0 [0, 65] := MF.arr wH404 (G_ne ga0 glq (by decide)) mf382
            have g406 : CG (avw K H404 a0) := CG.congr (fun k hk j => av_arr hTH381 ga0 wH404 glq (by decide) (CG_ok 158 (by decide) k hk)) g383
            have g407 : TU (avw K H404 a0) (svw K H404 a0) := TU.congr (fun k hk j => av_arr hTH381 ga0 wH404 glq (by decide) (TU_ok 158 (by decide) k hk)) (fun k hk => sv_arr ga0 wH404 glq (by decide)) g384
            have g408 : WD (avw K H404 a0) := WD.congr (fun k hk j => av_arr hTH381 ga0 wH404 glq (by decide) (WD_ok 158 (by decide) k hk)) g385
            have g409 : IM (avw K H404 a0) := IM.congr (fun k hk j => av_arr hTH381 ga0 wH404 glq (by decide) (IM_ok 158 (by decide) k hk)) g386
            have f410 : ∀ j : Nat, fI H404 kq j = fI s.heap kq j := fun j => (Wr.neI wH404 (Or.inl (G_ne gkq glq (by decide)))).trans (f388 j)
            have m411 := m389.trans (Wr.neR wH404 (Or.inl (G_ne ga0 glq (by decide)))).symm
            have m412 := m390.trans (Wr.neR wH404 (Or.inl (G_ne ga0 glq (by decide)))).symm
            have m413 := m391.trans (Wr.neI wH404 (Or.inl (G_ne ga0 glq (by decide)))).symm
            have m414 := (Wr.neI wH404 (Or.inl (G_ne ga0 glq (by decide)))).trans m392
            have m415 := Wr.I wH404
            have m415 := m415.symm
            refine lv_aload_n hx hb dX10_blank_48 rfl (lv_at hl 0 rfl) ?_
            refine x_gr C hTH404 (ci := 10) (k := 67) rfl inX10 (by decide) wF_X10_155 ga0 rg_112 rfl dX10_blank_49 (fun q416 eq416 gq416 => ?_)
            have uq416 : kq = q416 := (m412).trans eq416.symm
            subst uq416
            refine lv_aload_n hx hb dX10_blank_52 rfl (lv_at hl 0 rfl) ?_
            refine x_gi C hTH404 (ci := 10) (k := 65) rfl inX10 (by decide) wF_X10_458 ga0 rg_112 rfl dX10_blank_53 (fun x417 ex417 bx417 => ?_)
            have ux417 : s16 = x417 := (m413).trans ex417.symm
            subst ux417
            refine lv_iload_n hx hb dX10_blank_56 rfl (lv_at hl 2 rfl) ?_
            refine x_iast C hTH404 hSH404 gkq rg_159 (by omega) (by show _ < ((8 : Nat) : Int); omega) ⟨by have := i_rng x2; omega, by have := i_rng x2; omega⟩ (AE_in gkq (by decide)) dX10_blank_57 (fun H418 locsH418 hTH418 hSH418 wH418 => ?_)
            have mf419 : MF K s.heap H418 a0 [0, 65] := MF.arr wH418 (G_ne ga0 gkq (by decide)) mf405
            have g420 : CG (avw K H418 a0) := CG.congr (fun k hk j => av_arr hTH404 ga0 wH418 gkq (by decide) (CG_ok 159 (by decide) k hk)) g406
            have g421 : TU (avw K H418 a0) (svw K H418 a0) := TU.congr (fun k hk j => av_arr hTH404 ga0 wH418 gkq (by decide) (TU_ok 159 (by decide) k hk)) (fun k hk => sv_arr ga0 wH418 gkq (by decide)) g407
            have g422 : WD (avw K H418 a0) := WD.congr (fun k hk j => av_arr hTH404 ga0 wH418 gkq (by decide) (WD_ok 159 (by decide) k hk)) g408
            have g423 : IM (avw K H418 a0) := IM.congr (fun k hk j => av_arr hTH404 ga0 wH418 gkq (by decide) (IM_ok 159 (by decide) k hk)) g409
            have m424 := m411.trans (Wr.neR wH418 (Or.inl (G_ne ga0 gkq (by decide)))).symm
            have m425 := m412.trans (Wr.neR wH418 (Or.inl (G_ne ga0 gkq (by decide)))).symm
            have m426 := m413.trans (Wr.neI wH418 (Or.inl (G_ne ga0 gkq (by decide)))).symm
            have m427 := (Wr.neI wH418 (Or.inl (G_ne ga0 gkq (by decide)))).trans m414
            have m428 := m415.trans (Wr.neI wH418 (Or.inl (G_ne glq gkq (by decide)))).symm
            have m429 := Wr.I wH418
            have m429 := m429.symm
            refine lv_aload_n hx hb dX10_blank_58 rfl (lv_at hl 0 rfl) ?_
            refine lv_aload_n hx hb dX10_blank_59 rfl (lv_at hl 0 rfl) ?_
            refine x_gi C hTH418 (ci := 10) (k := 65) rfl inX10 (by decide) wF_X10_458 ga0 rg_112 rfl dX10_blank_60 (fun x430 ex430 bx430 => ?_)
            have ux430 : s16 = x430 := (m426).trans ex430.symm
            subst ux430
            refine lv_iconst (v := 1) hx hb dX10_blank_63 (by decide) ?_
            refine lv_iadd hx hb dX10_blank_64 ?_
            refine lv_topi (fun x431 ex431 => ?_)
            have tx431 := i_add ex431 (by omega)
            refine x_put C hTH418 hSH418 (ci := 10) (k := 65) (v := .int x431) (ty0 := tyX10) rfl inX10 tyX10_ok nmX10 (by decide) rfl wF_X10_458 ga0 rg_112 rfl rfl (okI (by have := i_rng x431; omega) (by have := i_rng x431; omega)) rfl rfl (AE_in ga0 (by decide)) dX10_blank_65 (fun H432 locsH432 hTH432 hSH432 wH432 => ?_)
            have mf433 : MF K s.heap H432 a0 [0, 65] := MF.fld hap wH432 (by decide) (by decide) mf419
            have g434 : CG (avw K H432 a0) := CG.congr (fun k hk j => av_fld hTH418 ga0 hap wH432 (by decide) (CG_ok 112 (by decide) k hk) (CG_ne 65 (by decide) k hk)) g420
            have g435 : TU (avw K H432 a0) (svw K H432 a0) := TU.congr (fun k hk j => av_fld hTH418 ga0 hap wH432 (by decide) (TU_ok 112 (by decide) k hk) (TU_ne 65 (by decide) k hk)) (fun k hk => sv_fld hap wH432 (by decide) (TU_slt k hk) (TU_sne 65 (by decide) k hk)) g421
            have g436 : WD (avw K H432 a0) := WD.congr (fun k hk j => av_fld hTH418 ga0 hap wH432 (by decide) (WD_ok 112 (by decide) k hk) (WD_ne 65 (by decide) k hk)) g422
            have g437 : IM (avw K H432 a0) := IM.congr (fun k hk j => av_fld hTH418 ga0 hap wH432 (by decide) (IM_ok 112 (by decide) k hk) (IM_ne 65 (by decide) k hk)) g423
            have m438 := m424.trans (Wr.neR wH432 (Or.inr (x_apart hKT hts inX10 tyX10 tyX10_ok nmX10 rfl 66 65 (by decide) (by decide) (by decide)))).symm
            have m439 := m425.trans (Wr.neR wH432 (Or.inr (x_apart hKT hts inX10 tyX10 tyX10_ok nmX10 rfl 67 65 (by decide) (by decide) (by decide)))).symm
            have m441 := (Wr.neI wH432 (Or.inr (x_apart hKT hts inX10 tyX10 tyX10_ok nmX10 rfl 0 65 (by decide) (by decide) (by decide)))).trans m427
            have m442 := m428.trans (Wr.neI wH432 (Or.inl (G_ne glq ga0 (by decide)))).symm
            have m443 := m429.trans (Wr.neI wH432 (Or.inl (G_ne gkq ga0 (by decide)))).symm
            have m444 := Wr.I wH432
            have m444 := m444.symm
            refine lv_aload_n hx hb dX10_blank_68 rfl (lv_at hl 0 rfl) ?_
            refine x_gi C hTH432 (ci := 10) (k := 65) rfl inX10 (by decide) wF_X10_458 ga0 rg_112 rfl dX10_blank_69 (fun x445 ex445 bx445 => ?_)
            have ux445 : x431 = x445 := (m444).trans ex445.symm
            subst ux445
            refine lv_iconst (v := 1) hx hb dX10_blank_72 (by decide) ?_
            refine lv_isub hx hb dX10_blank_73 ?_
            refine lv_topi (fun x446 ex446 => ?_)
            have tx446 := i_sub ex446 (by omega)
            have cn_s16 := i_cl (x := s16) (by omega)
            have cn_s16 := i_cl (x := s16) (by omega)
            have cn_s16 := i_cl (x := s16) (by omega)
            have cn_s16 := i_cl (x := s16) (by omega)
            exact x_iret C hQ dX10_blank_74 hSH432 (by decide) (by decide) (⟨x446, x431, rfl, m444, by omega, m438, m439, g434, g435, g436, g437, mf433, (nu_y (g := fun j => fI _ lq j) (q := s16.toNatClampNeg) ((((Wr.neI wH432 (Or.inl (G_ne glq ga0 (by decide)))).trans (Wr.neI wH418 (Or.inl (G_ne glq gkq (by decide)))))).trans (Wr.I wH404)) (fun j hj => (((Wr.neI wH432 (Or.inl (G_ne glq ga0 (by decide)))).trans (Wr.neI wH418 (Or.inl (G_ne glq gkq (by decide)))))).trans ((Wr.neI wH404 (Or.inr hj)).trans (f387 j))) (by omega) (by omega)), (nu_y (g := fun j => fI _ kq j) (q := s16.toNatClampNeg) (((Wr.neI wH432 (Or.inl (G_ne gkq ga0 (by decide))))).trans (Wr.I wH418)) (fun j hj => ((Wr.neI wH432 (Or.inl (G_ne gkq ga0 (by decide))))).trans ((Wr.neI wH418 (Or.inr hj)).trans (f410 j))) (by omega) (by omega)), hTH432⟩)
          · have k401 := i_eq c400
            refine lv_iconst (v := (-1)) hx hb dX10_blank_36 (by decide) ?_
            exact x_iret C hQ dX10_blank_37 hSH396 (by decide) (by decide) (⟨(-1), s16, rfl, m391, by omega, m389, m390, g383, g384, g385, g386, mf382, (nu_n f387 (by omega)), (nu_n f388 (by omega)), hTH381⟩)
      · subst hvH396
        refine W.eq (g2 := F0 m 24 ls [.int 0]) rfl ?_
        refine lv_if_eq (tgt := 36) hx hb dX10_blank_24 (by decide) (fun c447 => ?_) (fun c447 => ?_)
        · have k448 := i_eq c447
          refine lv_iconst (v := (-1)) hx hb dX10_blank_36 (by decide) ?_
          exact x_iret C hQ dX10_blank_37 hSH396 (by decide) (by decide) (⟨(-1), s16, rfl, m391, by omega, m389, m390, g383, g384, g385, g386, mf382, (nu_n f387 (by omega)), (nu_n f388 (by omega)), hTH381⟩)
        · have k448 := i_ne c447
          exfalso
          omega
  · subst hvH393
    refine W.eq (g2 := F0 m 13 ls [.int 0]) rfl ?_
    refine lv_if_eq (tgt := 36) hx hb dX10_blank_13 (by decide) (fun c449 => ?_) (fun c449 => ?_)
    · have k450 := i_eq c449
      refine lv_iconst (v := (-1)) hx hb dX10_blank_36 (by decide) ?_
      exact x_iret C hQ dX10_blank_37 hSH393 (by decide) (by decide) (⟨(-1), s16, rfl, m391, by omega, m389, m390, g383, g384, g385, g386, mf382, (nu_n f387 (by omega)), (nu_n f388 (by omega)), hTH381⟩)
    · have k450 := i_ne c449
      exfalso
      omega
