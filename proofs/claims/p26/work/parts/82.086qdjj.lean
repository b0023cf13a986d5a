set_option maxHeartbeats 4000000 in
set_option maxRecDepth 100000 in
theorem a_X9_tells_v (l : Launch) (K : KE) (G : Nat → Option Nat) (H : Heap) {a0 : Nat} (x1 : Int32) (x2 : Int32) (x3 : Int32) (x4 : Int32) (x5 : Int32) {smq : Nat} {w0 : Nat} {lawq : Nat} {tx : Nat} {bq : Nat} {bb : Nat} {kq : Nat} {gnq : Nat} {hvq : Nat} {xq : Nat} (s1 : Int32) (sz : Int32) (fsE : Nat → EF) (fwE : Nat → EF) (hT : TY K G H) (ga0 : G a0 = some 68) (hx1 : 0 ≤ x1.toInt ∧ x1.toInt ≤ 1) (hx4 : 0 ≤ x4.toInt ∧ x4.toInt ≤ 9) (gsmq : G smq = some 82) (esmq : smq = fR H a0 (K.1.2 9 5)) (gw0 : G w0 = some 0) (ew0 : w0 = fR H a0 (K.1.2 9 0)) (glawq : G lawq = some 26) (elawq : lawq = fR H w0 (K.1.2 8 2)) (gtx : G tx = some 16) (etx : tx = fR H lawq (x1 : Int32).toNatClampNeg) (gbq : G bq = some 25) (ebq : bq = fR H w0 (K.1.2 8 0)) (gbb : G bb = some 1) (ebb : bb = fR H bq (x4 : Int32).toNatClampNeg) (gkq : G kq = some 2) (ekq : kq = fR H bb (K.1.2 0 1)) (ggnq : G gnq = some 3) (egnq : gnq = fR H bb (K.1.2 0 2)) (ghvq : G hvq = some 4) (ehvq : hvq = fR H bb (K.1.2 0 3)) (gxq : G xq = some 5) (exq : xq = fR H bb (K.1.2 0 4)) (es1 : s1 = fI H w0 (K.1.2 8 1)) (esz : sz = fI H bb (K.1.2 0 0)) (hp0 : x4.toInt < s1.toInt) (hy0 : TXC K H tx 1 fsE fwE) : MX l K yX9_tells cX9_tells 7 (some .int) 3 75 0 0 [.ref a0, .int x1, .int x2, .int x3, .int x4, .int x5] H (AE G [83, 84] H.size) (fun v H1 => ∃ (r : Int32), v = some (.int r) ∧ (r.toInt = teV (tlC K H tx fsE fwE) (vwC K H bb) x2.toInt x3.toInt x5.toInt) ∧ TY K G H1) := by
  refine MX.of (by decide +kernel) (Nat.le_of_ble_eq_true rfl) ?_
  intro p e s m below meth c ls Q C hH hl hQ
  subst hH
  have C : CX p K s m _ meth c RX9 cX9_tells 7 (some .int) "tells" := C
  obtain ⟨hx, hb, hml, hown, hts, hKT, hr, hlocks, hnm⟩ := id C
  have hl : lv_has ls 7 [(0, .ref a0), (1, .int x1), (2, .int x2), (3, .int x3), (4, .int x4), (5, .int x5)] := hl
  have hS : va_S (AE G [83, 84] s.heap.size) s.heap s.heap [] := va_S.rf
  have n_m100000 : ((-100000) : Int32).toInt = -100000 := rfl
  have n_0 : (0 : Int32).toInt = 0 := rfl
  have n_1 : (1 : Int32).toInt = 1 := rfl
  have n_2 : (2 : Int32).toInt = 2 := rfl
  have bs1 := ty_fi (x := s1) (k := 1) es1 hT gw0 rg_0 rfl
  have bsz := ty_fi (x := sz) (k := 0) esz hT gbb rg_1 rfl
  have hapB : ∀ x y, x < 18 → y < 18 → x ≠ y → K.1.2 0 x ≠ K.1.2 0 y := x_apart hKT hts inX0 tyX0 tyX0_ok nmX0 rfl
  have vw_0 : vwC K s.heap bb = vwC K s.heap bb := rfl
  have v00 : vwC K s.heap bb 0 0 = sz.toInt := by rw [vwC_f (Or.inl rfl), ← esz]
  have f0_tf : TXF G s.heap s.heap := TXF.rf
  refine lv_aload_n hx hb dX9_tells_0 rfl (lv_at hl 0 rfl) ?_
  refine lv_iload hx hb dX9_tells_1 (lv_at hl 4 rfl) ?_
  refine x_V (As := [.int x4]) (rest := []) C (a_X9_barAt_v l K G s.heap (x4) (s1) hT ga0 gw0 ew0 gbq ebq es1 gbb ebb (by omega)) yo_X9_barAt wM_X9_78 ⟨⟨by decide, by decide⟩, by decide, by decide⟩ (x_rv C hT (ci := 9) rfl ga0 rg_68) rfl hl.1 rfl (Nat.le_of_ble_eq_true rfl) dX9_tells_3 hS (AE_sub (fun _ _ => rfl) (by decide) hS.1) (fun vH501 H501 locsH501 pH501 zH501 kH501 hSH501 => ?_)
  have hqH501 := pH501.1.symm
  subst hqH501
  have hvH501 := pH501.2
  subst hvH501
  refine W.eq (g2 := F0 m 6 ls [.ref bb]) rfl ?_
  refine lv_astore (lv' := [(6, .ref bb), (0, .ref a0), (1, .int x1), (2, .int x2), (3, .int x3), (4, .int x4), (5, .int x5)]) hx hb dX9_tells_6 hl (by decide) rfl (fun ls502 hl503 => ?_)
  refine lv_aload hx hb dX9_tells_8 (lv_at hl503 0 rfl) ?_
  refine lv_ifnull hx hb dX9_tells_10 ?_
  refine lv_aload hx hb dX9_tells_13 (lv_at hl503 0 rfl) ?_
  refine lv_iload hx hb dX9_tells_15 (lv_at hl503 6 rfl) ?_
  refine x_V (As := [.int x5]) (rest := []) C (a_X0_has_v l K G s.heap (x5) (sz) hT gbb esz) yo_X0_has wM_X9_82 ⟨⟨by decide, by decide⟩, by decide, by decide⟩ (x_rv C hT (ci := 0) rfl gbb rg_1) rfl hl503.1 rfl (Nat.le_of_ble_eq_true rfl) dX9_tells_17 hSH501 (AE_sub (fun _ _ => rfl) (by decide) hSH501.1) (fun vH504 H504 locsH504 pH504 zH504 kH504 hSH504 => ?_)
  obtain ⟨x505, hvH504, bx505, hrH504, hTH504⟩ := pH504
  subst hvH504
  have f506 : TXF G H504 s.heap := (fun q t hq h1 h2 => (x_lt hT kH504 hq (by first | omega | (intro z; simp only [List.mem_cons, List.not_mem_nil, or_false] at z <;> omega))).trans (f0_tf q t hq h1 h2))
  have m507 := (esmq).trans (fR_kept (x_lt hT kH504 ga0 (by decide))).symm
  have m508 := (ew0).trans (fR_kept (x_lt hT kH504 ga0 (by decide))).symm
  have m509 := (elawq).trans (fR_kept (x_lt hT kH504 gw0 (by decide))).symm
  have m510 := (etx).trans (fR_kept (x_lt hT kH504 glawq (by decide))).symm
  have m511 := (ebq).trans (fR_kept (x_lt hT kH504 gw0 (by decide))).symm
  have m512 := (ebb).trans (fR_kept (x_lt hT kH504 gbq (by decide))).symm
  have m513 := (ekq).trans (fR_kept (x_lt hT kH504 gbb (by decide))).symm
  have m514 := (egnq).trans (fR_kept (x_lt hT kH504 gbb (by decide))).symm
  have m515 := (ehvq).trans (fR_kept (x_lt hT kH504 gbb (by decide))).symm
  have m516 := (exq).trans (fR_kept (x_lt hT kH504 gbb (by decide))).symm
  have m517 := (es1).trans (fI_kept (x_lt hT kH504 gw0 (by decide))).symm
  have m518 := (esz).trans (fI_kept (x_lt hT kH504 gbb (by decide))).symm
  have vw519 : vwC K H504 bb = (vwC K s.heap bb) := (vw_frm hT gbb (fun q t hq h1 h2 => x_lt hT kH504 hq (by first | omega | (intro z; simp only [List.mem_cons, List.not_mem_nil, or_false] at z <;> omega)))).trans vw_0
  refine W.eq (g2 := F0 m 20 ls502 [.int x505]) rfl ?_
  refine lv_if_eq (tgt := 48) hx hb dX9_tells_20 (by decide) (fun c520 => ?_) (fun c520 => ?_)
  · have k521 := i_eq c520
    refine lv_ldc (v := (-100000)) hx hb hown (hts _ wK_X9_153) dX9_tells_48 ?_
    exact x_iret C hQ dX9_tells_50 hSH504 (by decide) (by decide) (⟨(-100000), rfl, (teV_no (by rw [v00]; omega) n_m100000), hTH504⟩)
  · have k521 := i_ne c520
    refine lv_iload_n hx hb dX9_tells_23 rfl (lv_at hl503 2 rfl) ?_
    refine lv_iconst (v := 0) hx hb dX9_tells_24 (by decide) ?_
    refine lv_iconst (v := 1) hx hb dX9_tells_25 (by decide) ?_
    refine x_S (As := [.int x1, .int 0, .int 1]) (rest := []) C (a_X9_within_v l K G H504 (x1) (0) (1) hTH504) yo_X9_within wM_X9_89 ⟨⟨by decide, by decide⟩, by decide, by decide⟩ rfl hl503.1 rfl (Nat.le_of_ble_eq_true rfl) dX9_tells_26 hSH504 (AE_sub (fun _ _ => rfl) (by decide) hSH504.1) (fun vH522 H522 locsH522 pH522 zH522 kH522 hSH522 => ?_)
    have hqH522 := pH522.1.symm
    subst hqH522
    rcases pH522.2 with ⟨hvH522, hcH522⟩ | ⟨hvH522, hcH522⟩
    · subst hvH522
      refine W.eq (g2 := F0 m 29 ls502 [.int 1]) rfl ?_
      refine lv_if_eq (tgt := 48) hx hb dX9_tells_29 (by decide) (fun c523 => ?_) (fun c523 => ?_)
      · have k524 := i_eq c523
        exfalso
        omega
      · have k524 := i_ne c523
        refine lv_iload_n hx hb dX9_tells_32 rfl (lv_at hl503 3 rfl) ?_
        refine lv_iconst (v := 0) hx hb dX9_tells_33 (by decide) ?_
        refine lv_iconst (v := 2) hx hb dX9_tells_34 (by decide) ?_
        refine x_S (As := [.int x2, .int 0, .int 2]) (rest := []) C (a_X9_within_v l K G H504 (x2) (0) (2) hTH504) yo_X9_within wM_X9_89 ⟨⟨by decide, by decide⟩, by decide, by decide⟩ rfl hl503.1 rfl (Nat.le_of_ble_eq_true rfl) dX9_tells_35 hSH522 (AE_sub (fun _ _ => rfl) (by decide) hSH522.1) (fun vH525 H525 locsH525 pH525 zH525 kH525 hSH525 => ?_)
        have hqH525 := pH525.1.symm
        subst hqH525
        rcases pH525.2 with ⟨hvH525, hcH525⟩ | ⟨hvH525, hcH525⟩
        · subst hvH525
          refine W.eq (g2 := F0 m 38 ls502 [.int 1]) rfl ?_
          refine lv_if_eq (tgt := 48) hx hb dX9_tells_38 (by decide) (fun c526 => ?_) (fun c526 => ?_)
          · have k527 := i_eq c526
            exfalso
            omega
          · have k527 := i_ne c526
            refine lv_iload_n hx hb dX9_tells_41 rfl (lv_at hl503 4 rfl) ?_
            refine x_S (As := [.int x3]) (rest := []) C (c_X9_isTone l K G H504 (x3) hTH504) yo_X9_isTone wM_X9_150 ⟨⟨by decide, by decide⟩, by decide, by decide⟩ rfl hl503.1 rfl (Nat.le_of_ble_eq_true rfl) dX9_tells_42 hSH525 (AE_sub (fun _ _ => rfl) (by decide) hSH525.1) (fun vH528 H528 locsH528 pH528 zH528 kH528 hSH528 => ?_)
            have hqH528 := pH528.1.symm
            subst hqH528
            rcases pH528.2 with ⟨hvH528, hcH528⟩ | ⟨hvH528, hcH528⟩
            · subst hvH528
              refine W.eq (g2 := F0 m 45 ls502 [.int 1]) rfl ?_
              refine lv_if_ne (tgt := 51) hx hb dX9_tells_45 (by decide) (fun c529 => ?_) (fun c529 => ?_)
              · have k530 := i_ne c529
                refine lv_aload_n hx hb dX9_tells_51 rfl (lv_at hl503 1 rfl) ?_
                refine x_gr C hTH504 (ci := 9) (k := 5) rfl inX9 (by decide) wF_X9_30 ga0 rg_68 rfl dX9_tells_52 (fun q531 eq531 gq531 => ?_)
                have uq531 : smq = q531 := (m507).trans eq531.symm
                subst uq531
                refine lv_aload hx hb dX9_tells_55 (lv_at hl503 0 rfl) ?_
                refine lv_iload hx hb dX9_tells_57 (lv_at hl503 6 rfl) ?_
                refine lv_aload hx hb dX9_tells_59 (lv_at hl503 0 rfl) ?_
                refine x_gr C hTH504 (ci := 0) (k := 1) rfl inX0 (by decide) wF_X9_93 gbb rg_1 rfl dX9_tells_61 (fun q532 eq532 gq532 => ?_)
                have uq532 : kq = q532 := (m513).trans eq532.symm
                subst uq532
                refine lv_iload hx hb dX9_tells_64 (lv_at hl503 6 rfl) ?_
                refine x_ai C hTH504 gkq rg_2 ⟨by omega, by show _ < ((16 : Nat) : Int); omega⟩ dX9_tells_66 (fun x533 ex533 bx533 => ?_)
                refine lv_aload hx hb dX9_tells_67 (lv_at hl503 0 rfl) ?_
                refine x_gr C hTH504 (ci := 0) (k := 2) rfl inX0 (by decide) wF_X9_96 gbb rg_1 rfl dX9_tells_69 (fun q534 eq534 gq534 => ?_)
                have uq534 : gnq = q534 := (m514).trans eq534.symm
                subst uq534
                refine lv_iload hx hb dX9_tells_72 (lv_at hl503 6 rfl) ?_
                refine x_ai C hTH504 ggnq rg_3 ⟨by omega, by show _ < ((16 : Nat) : Int); omega⟩ dX9_tells_74 (fun x535 ex535 bx535 => ?_)
                refine lv_aload hx hb dX9_tells_75 (lv_at hl503 0 rfl) ?_
                refine x_gr C hTH504 (ci := 0) (k := 4) rfl inX0 (by decide) wF_X9_102 gbb rg_1 rfl dX9_tells_77 (fun q536 eq536 gq536 => ?_)
                have uq536 : xq = q536 := (m516).trans eq536.symm
                subst uq536
                refine lv_iload hx hb dX9_tells_80 (lv_at hl503 6 rfl) ?_
                refine x_ai C hTH504 gxq rg_5 ⟨by omega, by show _ < ((16 : Nat) : Int); omega⟩ dX9_tells_82 (fun x537 ex537 bx537 => ?_)
                obtain ⟨q538, eq538⟩ : ∃ z : Nat, z = fR H504 smq (K.1.2 6 0) := ⟨_, rfl⟩
                have gq538 := ty_fr (q := q538) (k := 0) (u := 83) eq538 hTH504 gsmq rg_82 rfl
                refine x_V (As := [.ref bb, .int x5, .int x533, .int x535, .int x537]) (rest := []) C (a_X6_seeSlice_v l K G H504 (x5) (x533) (x535) (x537) (sz) hTH504 gsmq gbb (by omega) gq538 eq538 ghvq m515 m518) yo_X6_seeSlice wM_X9_154 ⟨⟨by decide, by decide⟩, by decide, by decide⟩ (x_rv C hTH504 (ci := 6) rfl gsmq rg_82) rfl hl503.1 rfl (Nat.le_of_ble_eq_true rfl) dX9_tells_83 hSH528 (AE_sub (fun _ _ => rfl) (by decide) hSH528.1) (fun vH539 H539 locsH539 pH539 zH539 kH539 hSH539 => ?_)
                obtain ⟨hvH539, m540, hTH539⟩ := pH539
                subst hvH539
                have f541 : TXF G H539 s.heap := (fun q t hq h1 h2 => (x_lt hTH504 kH539 hq (by first | omega | (intro z; simp only [List.mem_cons, List.not_mem_nil, or_false] at z <;> omega))).trans (f506 q t hq h1 h2))
                have m542 := (m507).trans (fR_kept (x_lt hTH504 kH539 ga0 (by decide))).symm
                have m543 := (m508).trans (fR_kept (x_lt hTH504 kH539 ga0 (by decide))).symm
                have m544 := (m509).trans (fR_kept (x_lt hTH504 kH539 gw0 (by decide))).symm
                have m545 := (m510).trans (fR_kept (x_lt hTH504 kH539 glawq (by decide))).symm
                have m546 := (m511).trans (fR_kept (x_lt hTH504 kH539 gw0 (by decide))).symm
                have m547 := (m512).trans (fR_kept (x_lt hTH504 kH539 gbq (by decide))).symm
                have m548 := (m513).trans (fR_kept (x_lt hTH504 kH539 gbb (by decide))).symm
                have m549 := (m514).trans (fR_kept (x_lt hTH504 kH539 gbb (by decide))).symm
                have m550 := (m515).trans (fR_kept (x_lt hTH504 kH539 gbb (by decide))).symm
                have m551 := (m516).trans (fR_kept (x_lt hTH504 kH539 gbb (by decide))).symm
                have m552 := (m517).trans (fI_kept (x_lt hTH504 kH539 gw0 (by decide))).symm
                have m553 := (m518).trans (fI_kept (x_lt hTH504 kH539 gbb (by decide))).symm
                have m554 := (ex533).trans (fI_kept (x_lt hTH504 kH539 gkq (by decide))).symm
                have m555 := (ex535).trans (fI_kept (x_lt hTH504 kH539 ggnq (by decide))).symm
                have m556 := (ex537).trans (fI_kept (x_lt hTH504 kH539 gxq (by decide))).symm
                have m557 := (eq538).trans (fR_kept (x_lt hTH504 kH539 gsmq (by decide))).symm
                have se558 : mkE 1 (eC (fun j => fI H539 q538 j)) = (seE ((vwC K s.heap bb) 0 0) x5.toInt ((vwC K s.heap bb) 1 x5.toNatClampNeg) ((vwC K s.heap bb) 2 x5.toNatClampNeg) ((vwC K s.heap bb) 3 x5.toNatClampNeg) ((vwC K s.heap bb) 4 x5.toNatClampNeg)) := by
                  have z := m540
                  rw [← v00, show (x533).toInt = vwC K s.heap bb 1 x5.toNatClampNeg from by rw [← vw519, vwC_a (k := 1) (by decide)]; show _ = (fI H504 (fR H504 bb (K.1.2 0 1)) x5.toNatClampNeg).toInt; rw [← m513]; exact congrArg Int32.toInt ex533, show (x535).toInt = vwC K s.heap bb 2 x5.toNatClampNeg from by rw [← vw519, vwC_a (k := 2) (by decide)]; show _ = (fI H504 (fR H504 bb (K.1.2 0 2)) x5.toNatClampNeg).toInt; rw [← m514]; exact congrArg Int32.toInt ex535, show (x537).toInt = vwC K s.heap bb 4 x5.toNatClampNeg from by rw [← vw519, vwC_a (k := 4) (by decide)]; show _ = (fI H504 (fR H504 bb (K.1.2 0 4)) x5.toNatClampNeg).toInt; rw [← m516]; exact congrArg Int32.toInt ex537, show (fI H504 hvq x5.toNatClampNeg).toInt = vwC K s.heap bb 3 x5.toNatClampNeg from by rw [← vw519, vwC_a (k := 3) (by decide)]; show _ = (fI H504 (fR H504 bb (K.1.2 0 3)) x5.toNatClampNeg).toInt; rw [← m515]] at z
                  exact se_cls z
                refine W.eq (g2 := F0 m 86 ls502 []) rfl ?_
                refine lv_aload_n hx hb dX9_tells_86 rfl (lv_at hl503 1 rfl) ?_
                refine x_gr C hTH539 (ci := 9) (k := 5) rfl inX9 (by decide) wF_X9_30 ga0 rg_68 rfl dX9_tells_87 (fun q559 eq559 gq559 => ?_)
                have uq559 : smq = q559 := (m542).trans eq559.symm
                subst uq559
                refine lv_aload_n hx hb dX9_tells_90 rfl (lv_at hl503 1 rfl) ?_
                refine x_gr C hTH539 (ci := 9) (k := 0) rfl inX9 (by decide) wF_X9_12 ga0 rg_68 rfl dX9_tells_91 (fun q560 eq560 gq560 => ?_)
                have uq560 : w0 = q560 := (m543).trans eq560.symm
                subst uq560
                refine x_gr C hTH539 (ci := 8) (k := 2) rfl inX8 (by decide) wF_X9_158 gw0 rg_0 rfl dX9_tells_94 (fun q561 eq561 gq561 => ?_)
                have uq561 : lawq = q561 := (m544).trans eq561.symm
                subst uq561
                refine lv_iload_n hx hb dX9_tells_97 rfl (lv_at hl503 2 rfl) ?_
                refine x_ar C hTH539 rfl rfl glawq rg_26 ⟨by omega, by show _ < ((2 : Nat) : Int); omega⟩ dX9_tells_98 (fun q562 eq562 gq562 => ?_)
                have uq562 : tx = q562 := (m545).trans eq562.symm
                subst uq562
                refine lv_iload_n hx hb dX9_tells_99 rfl (lv_at hl503 3 rfl) ?_
                refine lv_iload_n hx hb dX9_tells_100 rfl (lv_at hl503 4 rfl) ?_
                obtain ⟨q563, eq563⟩ : ∃ z : Nat, z = fR H539 smq (K.1.2 6 1) := ⟨_, rfl⟩
                have gq563 := ty_fr (q := q563) (k := 1) (u := 84) eq563 hTH539 gsmq rg_82 rfl
                obtain ⟨q564, eq564⟩ : ∃ z : Nat, z = fR H539 tx (K.1.2 7 8) := ⟨_, rfl⟩
                have gq564 := ty_fr (q := q564) (k := 8) (u := 24) eq564 hTH539 gtx rg_16 rfl
                obtain ⟨q565, eq565⟩ : ∃ z : Nat, z = fR H539 tx (K.1.2 7 1) := ⟨_, rfl⟩
                have gq565 := ty_fr (q := q565) (k := 1) (u := 17) eq565 hTH539 gtx rg_16 rfl
                obtain ⟨q566, eq566⟩ : ∃ z : Nat, z = fR H539 tx (K.1.2 7 2) := ⟨_, rfl⟩
                have gq566 := ty_fr (q := q566) (k := 2) (u := 18) eq566 hTH539 gtx rg_16 rfl
                obtain ⟨q567, eq567⟩ : ∃ z : Nat, z = fR H539 tx (K.1.2 7 5) := ⟨_, rfl⟩
                have gq567 := ty_fr (q := q567) (k := 5) (u := 21) eq567 hTH539 gtx rg_16 rfl
                obtain ⟨q568, eq568⟩ : ∃ z : Nat, z = fR H539 tx (K.1.2 7 6) := ⟨_, rfl⟩
                have gq568 := ty_fr (q := q568) (k := 6) (u := 22) eq568 hTH539 gtx rg_16 rfl
                obtain ⟨q569, eq569⟩ : ∃ z : Nat, z = fR H539 tx (K.1.2 7 7) := ⟨_, rfl⟩
                have gq569 := ty_fr (q := q569) (k := 7) (u := 23) eq569 hTH539 gtx rg_16 rfl
                obtain ⟨x570, ex570⟩ : ∃ z : Int32, z = fI H539 tx (K.1.2 7 0) := ⟨_, rfl⟩
                have bx570 := ty_fi (x := x570) (k := 0) ex570 hTH539 gtx rg_16 rfl
                refine x_V (As := [.ref tx, .int x2, .int x3]) (rest := []) C (a_X6_told_v l K G H539 (x2) (x3) (x570) ((fun l => fsE l (seE ((vwC K s.heap bb) 0 0) x5.toInt ((vwC K s.heap bb) 1 x5.toNatClampNeg) ((vwC K s.heap bb) 2 x5.toNatClampNeg) ((vwC K s.heap bb) 3 x5.toNatClampNeg) ((vwC K s.heap bb) 4 x5.toNatClampNeg)))) ((fun l => fwE l (seE ((vwC K s.heap bb) 0 0) x5.toInt ((vwC K s.heap bb) 1 x5.toNatClampNeg) ((vwC K s.heap bb) 2 x5.toNatClampNeg) ((vwC K s.heap bb) 3 x5.toNatClampNeg) ((vwC K s.heap bb) 4 x5.toNatClampNeg)))) hTH539 gsmq gtx gq538 m557 gq563 eq563 gq564 eq564 gq565 eq565 gq566 eq566 gq567 eq567 gq568 eq568 gq569 eq569 ex570 (by rw [eq564, eq567, eq568, eq569, ex570]; exact (TXC.frm hT gtx f541 hy0).1) (by rw [eq564, eq567, eq568, ex570]; exact fun l hl k => ((TXC.frm hT gtx f541 hy0).2.1 l hl _ k).trans (congrArg (fsE l) se558)) (by rw [eq564, eq568, eq569, ex570]; exact fun l hl hh k => ((TXC.frm hT gtx f541 hy0).2.2 l hl hh _ k).trans (congrArg (fwE l) se558))) yo_X6_told wM_X9_162 ⟨⟨by decide, by decide⟩, by decide, by decide⟩ (x_rv C hTH539 (ci := 6) rfl gsmq rg_82) rfl hl503.1 rfl (Nat.le_of_ble_eq_true rfl) dX9_tells_101 hSH539 (AE_sub (fun _ _ => rfl) (by decide) hSH539.1) (fun vH571 H571 locsH571 pH571 zH571 kH571 hSH571 => ?_)
                obtain ⟨x572, hvH571, m573, hTH571⟩ := pH571
                subst hvH571
                have f574 : TXF G H571 s.heap := (fun q t hq h1 h2 => (x_lt hTH539 kH571 hq (by first | omega | (intro z; simp only [List.mem_cons, List.not_mem_nil, or_false] at z <;> omega))).trans (f541 q t hq h1 h2))
                have m575 := (m542).trans (fR_kept (x_lt hTH539 kH571 ga0 (by decide))).symm
                have m576 := (m543).trans (fR_kept (x_lt hTH539 kH571 ga0 (by decide))).symm
                have m577 := (m544).trans (fR_kept (x_lt hTH539 kH571 gw0 (by decide))).symm
                have m578 := (m545).trans (fR_kept (x_lt hTH539 kH571 glawq (by decide))).symm
                have m579 := (m546).trans (fR_kept (x_lt hTH539 kH571 gw0 (by decide))).symm
                have m580 := (m547).trans (fR_kept (x_lt hTH539 kH571 gbq (by decide))).symm
                have m581 := (m548).trans (fR_kept (x_lt hTH539 kH571 gbb (by decide))).symm
                have m582 := (m549).trans (fR_kept (x_lt hTH539 kH571 gbb (by decide))).symm
                have m583 := (m550).trans (fR_kept (x_lt hTH539 kH571 gbb (by decide))).symm
                have m584 := (m551).trans (fR_kept (x_lt hTH539 kH571 gbb (by decide))).symm
                have m585 := (m552).trans (fI_kept (x_lt hTH539 kH571 gw0 (by decide))).symm
                have m586 := (m553).trans (fI_kept (x_lt hTH539 kH571 gbb (by decide))).symm
                have m587 := (m554).trans (fI_kept (x_lt hTH539 kH571 gkq (by decide))).symm
                have m588 := (m555).trans (fI_kept (x_lt hTH539 kH571 ggnq (by decide))).symm
                have m589 := (m556).trans (fI_kept (x_lt hTH539 kH571 gxq (by decide))).symm
                have m590 := (m557).trans (fR_kept (x_lt hTH539 kH571 gsmq (by decide))).symm
                have m591 := (eq563).trans (fR_kept (x_lt hTH539 kH571 gsmq (by decide))).symm
                have m592 := (eq564).trans (fR_kept (x_lt hTH539 kH571 gtx (by decide))).symm
                have m593 := (eq565).trans (fR_kept (x_lt hTH539 kH571 gtx (by decide))).symm
                have m594 := (eq566).trans (fR_kept (x_lt hTH539 kH571 gtx (by decide))).symm
                have m595 := (eq567).trans (fR_kept (x_lt hTH539 kH571 gtx (by decide))).symm
                have m596 := (eq568).trans (fR_kept (x_lt hTH539 kH571 gtx (by decide))).symm
                have m597 := (eq569).trans (fR_kept (x_lt hTH539 kH571 gtx (by decide))).symm
                have m598 := (ex570).trans (fI_kept (x_lt hTH539 kH571 gtx (by decide))).symm
                have td599 : x572.toInt = tlC K s.heap tx fsE fwE x2.toInt x3.toInt (seE ((vwC K s.heap bb) 0 0) x5.toInt ((vwC K s.heap bb) 1 x5.toNatClampNeg) ((vwC K s.heap bb) 2 x5.toNatClampNeg) ((vwC K s.heap bb) 3 x5.toNatClampNeg) ((vwC K s.heap bb) 4 x5.toNatClampNeg)) := by
                  rw [m573, eq565, eq566, eq568, eq569, ex570, ← tlC_frm hT gtx f541]
                  rfl
                refine W.eq (g2 := F0 m 104 ls502 [.int x572]) rfl ?_
                exact x_iret C hQ dX9_tells_104 hSH571 (by decide) (by decide) (⟨x572, rfl, (teV_at (by rw [v00]; omega) td599), hTH571⟩)
              · have k530 := i_eq c529
                exfalso
                omega
            · subst hvH528
              refine W.eq (g2 := F0 m 45 ls502 [.int 0]) rfl ?_
              refine lv_if_ne (tgt := 51) hx hb dX9_tells_45 (by decide) (fun c600 => ?_) (fun c600 => ?_)
              · have k601 := i_ne c600
                exfalso
                omega
              · have k601 := i_eq c600
                refine lv_ldc (v := (-100000)) hx hb hown (hts _ wK_X9_153) dX9_tells_48 ?_
                exact x_iret C hQ dX9_tells_50 hSH528 (by decide) (by decide) (⟨(-100000), rfl, (teV_no (by rw [v00]; omega) n_m100000), hTH504⟩)
        · subst hvH525
          refine W.eq (g2 := F0 m 38 ls502 [.int 0]) rfl ?_
          refine lv_if_eq (tgt := 48) hx hb dX9_tells_38 (by decide) (fun c602 => ?_) (fun c602 => ?_)
          · have k603 := i_eq c602
            refine lv_ldc (v := (-100000)) hx hb hown (hts _ wK_X9_153) dX9_tells_48 ?_
            exact x_iret C hQ dX9_tells_50 hSH525 (by decide) (by decide) (⟨(-100000), rfl, (teV_no (by rw [v00]; omega) n_m100000), hTH504⟩)
          · have k603 := i_ne c602
            exfalso
            omega
    · subst hvH522
      refine W.eq (g2 := F0 m 29 ls502 [.int 0]) rfl ?_
      exfalso
      omega

set_option maxHeartbeats 4000000 in
set_option maxRecDepth 100000 in
theorem a_X9_tells_n (l : Launch) (K : KE) (G : Nat → Option Nat) (H : Heap) {a0 : Nat} (x1 : Int32) (x2 : Int32) (x3 : Int32) (x4 : Int32) (x5 : Int32) {w0 : Nat} (s1 : Int32) (hT : TY K G H) (ga0 : G a0 = some 68) (gw0 : G w0 = some 0) (ew0 : w0 = fR H a0 (K.1.2 9 0)) (es1 : s1 = fI H w0 (K.1.2 8 1)) (hp0 : x4.toInt < 0 ∨ s1.toInt ≤ x4.toInt) : MX l K yX9_tells cX9_tells 7 (some .int) 2 43 0 0 [.ref a0, .int x1, .int x2, .int x3, .int x4, .int x5] H (AE G [] H.size) (fun v H1 => ∃ (r : Int32), v = some (.int r) ∧ ((-100000) ≤ r.toInt ∧ r.toInt ≤ (-100000)) ∧ TY K G H1) := by
  refine MX.of (by decide +kernel) (Nat.le_of_ble_eq_true rfl) ?_
  intro p e s m below meth c ls Q C hH hl hQ
  subst hH
  have C : CX p K s m _ meth c RX9 cX9_tells 7 (some .int) "tells" := C
  obtain ⟨hx, hb, hml, hown, hts, hKT, hr, hlocks, hnm⟩ := id C
  have hl : lv_has ls 7 [(0, .ref a0), (1, .int x1), (2, .int x2), (3, .int x3), (4, .int x4), (5, .int x5)] := hl
  have hS : va_S (AE G [] s.heap.size) s.heap s.heap [] := va_S.rf
  have n_m100000 : ((-100000) : Int32).toInt = -100000 := rfl
  have bs1 := ty_fi (x := s1) (k := 1) es1 hT gw0 rg_0 rfl
  refine lv_aload_n hx hb dX9_tells_0 rfl (lv_at hl 0 rfl) ?_
  refine lv_iload hx hb dX9_tells_1 (lv_at hl 4 rfl) ?_
  refine x_V (As := [.int x4]) (rest := []) C (a_X9_barAt_n l K G s.heap (x4) (s1) hT ga0 gw0 ew0 es1 (by omega)) yo_X9_barAt wM_X9_78 ⟨⟨by decide, by decide⟩, by decide, by decide⟩ (x_rv C hT (ci := 9) rfl ga0 rg_68) rfl hl.1 rfl (Nat.le_of_ble_eq_true rfl) dX9_tells_3 hS (AE_sub (fun _ _ => rfl) (by decide) hS.1) (fun vH113 H113 locsH113 pH113 zH113 kH113 hSH113 => ?_)
  have hqH113 := pH113.1.symm
  subst hqH113
  have hvH113 := pH113.2
  subst hvH113
  refine W.eq (g2 := F0 m 6 ls [.null]) rfl ?_
  refine lv_astoreN (lv' := [(6, .null), (0, .ref a0), (1, .int x1), (2, .int x2), (3, .int x3), (4, .int x4), (5, .int x5)]) hx hb dX9_tells_6 hl (by decide) rfl (fun ls114 hl115 => ?_)
  refine lv_aloadN hx hb dX9_tells_8 (lv_at hl115 0 rfl) ?_
  refine lv_ifnullN (tgt := 48) hx hb dX9_tells_10 (by decide) ?_
  refine lv_ldc (v := (-100000)) hx hb hown (hts _ wK_X9_153) dX9_tells_48 ?_
  exact x_iret C hQ dX9_tells_50 hSH113 (by decide) (by decide) (⟨(-100000), rfl, by decide, hT⟩)

set_option maxHeartbeats 4000000 in
set_option maxRecDepth 100000 in
theorem a_X9_tells_k (l : Launch) (K : KE) (G : Nat → Option Nat) (H : Heap) {a0 : Nat} (x1 : Int32) (x2 : Int32) (x3 : Int32) (x4 : Int32) (x5 : Int32) (hT : TY K G H) (ga0 : G a0 = some 68) (hp0 : x1.toInt < 0 ∨ 1 < x1.toInt) : MX l K yX9_tells cX9_tells 7 (some .int) 2 43 0 0 [.ref a0, .int x1, .int x2, .int x3, .int x4, .int x5] H (AE G [] H.size) (fun v H1 => ∃ (r : Int32), v = some (.int r) ∧ ((-100000) ≤ r.toInt ∧ r.toInt ≤ (-100000)) ∧ TY K G H1) := by
  refine MX.of (by decide +kernel) (Nat.le_of_ble_eq_true rfl) ?_
  intro p e s m below meth c ls Q C hH hl hQ
  subst hH
  have C : CX p K s m _ meth c RX9 cX9_tells 7 (some .int) "tells" := C
  obtain ⟨hx, hb, hml, hown, hts, hKT, hr, hlocks, hnm⟩ := id C
  have hl : lv_has ls 7 [(0, .ref a0), (1, .int x1), (2, .int x2), (3, .int x3), (4, .int x4), (5, .int x5)] := hl
  have hS : va_S (AE G [] s.heap.size) s.heap s.heap [] := va_S.rf
  have n_m100000 : ((-100000) : Int32).toInt = -100000 := rfl
  have n_0 : (0 : Int32).toInt = 0 := rfl
  have n_1 : (1 : Int32).toInt = 1 := rfl
  refine lv_aload_n hx hb dX9_tells_0 rfl (lv_at hl 0 rfl) ?_
  refine lv_iload hx hb dX9_tells_1 (lv_at hl 4 rfl) ?_
  refine x_V (As := [.int x4]) (rest := []) C (a_X9_barAt l K G s.heap (x4) hT ga0) yo_X9_barAt wM_X9_78 ⟨⟨by decide, by decide⟩, by decide, by decide⟩ (x_rv C hT (ci := 9) rfl ga0 rg_68) rfl hl.1 rfl (Nat.le_of_ble_eq_true rfl) dX9_tells_3 hS (AE_sub (fun _ _ => rfl) (by decide) hS.1) (fun vH165 H165 locsH165 pH165 zH165 kH165 hSH165 => ?_)
  have hTH165 := pH165.2
  rcases pH165.1 with hvH165 | ⟨q166, hvH165, gq166⟩
  · skip
    subst hvH165
    refine W.eq (g2 := F0 m 6 ls [.null]) rfl ?_
    refine lv_astoreN (lv' := [(6, .null), (0, .ref a0), (1, .int x1), (2, .int x2), (3, .int x3), (4, .int x4), (5, .int x5)]) hx hb dX9_tells_6 hl (by decide) rfl (fun ls167 hl168 => ?_)
    refine lv_aloadN hx hb dX9_tells_8 (lv_at hl168 0 rfl) ?_
    refine lv_ifnullN (tgt := 48) hx hb dX9_tells_10 (by decide) ?_
    refine lv_ldc (v := (-100000)) hx hb hown (hts _ wK_X9_153) dX9_tells_48 ?_
    exact x_iret C hQ dX9_tells_50 hSH165 (by decide) (by decide) (⟨(-100000), rfl, by decide, hTH165⟩)
  · skip
    subst hvH165
    refine W.eq (g2 := F0 m 6 ls [.ref q166]) rfl ?_
    refine lv_astore (lv' := [(6, .ref q166), (0, .ref a0), (1, .int x1), (2, .int x2), (3, .int x3), (4, .int x4), (5, .int x5)]) hx hb dX9_tells_6 hl (by decide) rfl (fun ls169 hl170 => ?_)
    refine lv_aload hx hb dX9_tells_8 (lv_at hl170 0 rfl) ?_
    refine lv_ifnull hx hb dX9_tells_10 ?_
    refine lv_aload hx hb dX9_tells_13 (lv_at hl170 0 rfl) ?_
    refine lv_iload hx hb dX9_tells_15 (lv_at hl170 6 rfl) ?_
    refine x_V (As := [.int x5]) (rest := []) C (a_X0_has l K G H165 (x5) hTH165 gq166) yo_X0_has wM_X9_82 ⟨⟨by decide, by decide⟩, by decide, by decide⟩ (x_rv C hTH165 (ci := 0) rfl gq166 rg_1) rfl hl170.1 rfl (Nat.le_of_ble_eq_true rfl) dX9_tells_17 hSH165 (AE_sub (fun _ _ => rfl) (by decide) hSH165.1) (fun vH171 H171 locsH171 pH171 zH171 kH171 hSH171 => ?_)
    have hqH171 := pH171.1.symm
    subst hqH171
    rcases pH171.2 with ⟨hvH171, hcH171⟩ | hvH171
    · subst hvH171
      refine W.eq (g2 := F0 m 20 ls169 [.int 1]) rfl ?_
      refine lv_if_eq (tgt := 48) hx hb dX9_tells_20 (by decide) (fun c172 => ?_) (fun c172 => ?_)
      · have k173 := i_eq c172
        exfalso
        omega
      · have k173 := i_ne c172
        refine lv_iload_n hx hb dX9_tells_23 rfl (lv_at hl170 2 rfl) ?_
        refine lv_iconst (v := 0) hx hb dX9_tells_24 (by decide) ?_
        refine lv_iconst (v := 1) hx hb dX9_tells_25 (by decide) ?_
        refine x_S (As := [.int x1, .int 0, .int 1]) (rest := []) C (a_X9_within_v l K G H165 (x1) (0) (1) hTH165) yo_X9_within wM_X9_89 ⟨⟨by decide, by decide⟩, by decide, by decide⟩ rfl hl170.1 rfl (Nat.le_of_ble_eq_true rfl) dX9_tells_26 hSH171 (AE_sub (fun _ _ => rfl) (by decide) hSH171.1) (fun vH174 H174 locsH174 pH174 zH174 kH174 hSH174 => ?_)
        have hqH174 := pH174.1.symm
        subst hqH174
        rcases pH174.2 with ⟨hvH174, hcH174⟩ | ⟨hvH174, hcH174⟩
        · subst hvH174
          refine W.eq (g2 := F0 m 29 ls169 [.int 1]) rfl ?_
          refine lv_if_eq (tgt := 48) hx hb dX9_tells_29 (by decide) (fun c175 => ?_) (fun c175 => ?_)
          · have k176 := i_eq c175
            exfalso
            omega
          · have k176 := i_ne c175
            exfalso
            omega
        · subst hvH174
          refine W.eq (g2 := F0 m 29 ls169 [.int 0]) rfl ?_
          refine lv_if_eq (tgt := 48) hx hb dX9_tells_29 (by decide) (fun c177 => ?_) (fun c177 => ?_)
          · have k178 := i_eq c177
            refine lv_ldc (v := (-100000)) hx hb hown (hts _ wK_X9_153) dX9_tells_48 ?_
            exact x_iret C hQ dX9_tells_50 hSH174 (by decide) (by decide) (⟨(-100000), rfl, by decide, hTH165⟩)
          · have k178 := i_ne c177
            exfalso
            omega
    · subst hvH171
      refine W.eq (g2 := F0 m 20 ls169 [.int 0]) rfl ?_
      refine lv_if_eq (tgt := 48) hx hb dX9_tells_20 (by decide) (fun c179 => ?_) (fun c179 => ?_)
      · have k180 := i_eq c179
        refine lv_ldc (v := (-100000)) hx hb hown (hts _ wK_X9_153) dX9_tells_48 ?_
        exact x_iret C hQ dX9_tells_50 hSH171 (by decide) (by decide) (⟨(-100000), rfl, by decide, hTH165⟩)
      · have k180 := i_ne c179
        exfalso
        omega
