/-- what text answers: the lines, or -1 -/
def RT (o : Option Nat) (r : Int32) : Prop := (o = none ∧ r.toInt = -1) ∨ ∃ n : Nat, o = some n ∧ r.toInt = (n : Int)
def TXA (b : Nat → Int) (L : Nat) (x1 x2 r : Int32) : Prop := (((x1.toInt = 0 ∧ 0 ≤ x2.toInt ∧ x2.toInt ≤ 1) ∨ (x1.toInt = 1 ∧ 0 ≤ x2.toInt ∧ x2.toInt ≤ 3)) ∧ RT (txS (kK b L) (vV b L) (if x1.toInt = 0 then 1 else 0) 18 0 0) r) ∨ ((x1.toInt ≠ 0 ∨ x2.toInt < 0 ∨ 1 < x2.toInt) ∧ (x1.toInt ≠ 1 ∨ x2.toInt < 0 ∨ 3 < x2.toInt) ∧ r.toInt = -1)
set_option maxHeartbeats 4000000 in
set_option maxRecDepth 100000 in
theorem a_X9_textAt_e (l : Launch) (K : KE) (G : Nat → Option Nat) (H : Heap) {a0 : Nat} (x1 x2 : Int32) (hT : TY K G H) (ga0 : G a0 = some 68) : MX l K yX9_textAt cX9_textAt 3 (some (.object "RingBars$Text")) 1 22 0 0 [.ref a0, .int x1, .int x2] H (AE G [] H.size) (fun v H1 => TY K G H1 ∧ ((v = some .null ∧ ((x1.toInt ≠ 0 ∨ x2.toInt < 0 ∨ 1 < x2.toInt) ∧ (x1.toInt ≠ 1 ∨ x2.toInt < 0 ∨ 3 < x2.toInt))) ∨ ∃ q : Nat, v = some (.ref q) ∧ G q = some 16 ∧ ((x1.toInt = 0 ∧ 0 ≤ x2.toInt ∧ x2.toInt ≤ 1) ∨ (x1.toInt = 1 ∧ 0 ≤ x2.toInt ∧ x2.toInt ≤ 3)))) := by
  refine MX.of (by decide +kernel) (Nat.le_of_ble_eq_true rfl) ?_
  intro p e s m below meth c ls Q C hH hl hQ
  subst hH
  have C : CX p K s m _ meth c RX9 cX9_textAt 3 (some (.object "RingBars$Text")) "textAt" := C
  obtain ⟨hx, hb, hml, hown, hts, hKT, hr, hlocks, hnm⟩ := id C
  have hl : lv_has ls 3 [(0, .ref a0), (1, .int x1), (2, .int x2)] := hl
  have hS : va_S (AE G [] s.heap.size) s.heap s.heap [] := va_S.rf
  have n_0 : (0 : Int32).toInt = 0 := rfl
  have n_1 : (1 : Int32).toInt = 1 := rfl
  have n_3 : (3 : Int32).toInt = 3 := rfl
  refine lv_iload_n hx hb dX9_textAt_0 rfl (lv_at hl 1 rfl) ?_
  refine lv_if_ne (tgt := 23) hx hb dX9_textAt_1 (by decide) (fun c101 => ?_) (fun c101 => ?_)
  · have k102 := i_ne c101
    refine lv_iload_n hx hb dX9_textAt_23 rfl (lv_at hl 1 rfl) ?_
    refine lv_iconst (v := 1) hx hb dX9_textAt_24 (by decide) ?_
    refine lv_icmp_ne (tgt := 49) hx hb dX9_textAt_25 (by decide) (fun c103 => ?_) (fun c103 => ?_)
    · have k104 := i_ne c103
      refine lv_null hx hb dX9_textAt_49 ?_
      exact x_aret C hQ (Or.inl rfl) dX9_textAt_50 hS (by decide) (by decide) (⟨hT, Or.inl ⟨rfl, by omega⟩⟩)
    · have k104 := i_eq c103
      refine lv_iload_n hx hb dX9_textAt_28 rfl (lv_at hl 2 rfl) ?_
      refine lv_iconst (v := 0) hx hb dX9_textAt_29 (by decide) ?_
      refine lv_iconst (v := 3) hx hb dX9_textAt_30 (by decide) ?_
      refine x_S (As := [.int x2, .int 0, .int 3]) (rest := []) C (c_X9_within l K G s.heap (x2) (0) (3) hT) yo_X9_within wM_X9_89 ⟨⟨by decide, by decide⟩, by decide, by decide⟩ rfl hl.1 rfl (Nat.le_of_ble_eq_true rfl) dX9_textAt_31 hS (AE_sub (fun _ _ => rfl) (by decide) hS.1) (fun vH105 H105 locsH105 pH105 zH105 kH105 hSH105 => ?_)
      have hqH105 := pH105.1.symm
      subst hqH105
      rcases pH105.2 with ⟨hvH105, hcH105⟩ | ⟨hvH105, hcH105⟩
      · subst hvH105
        refine W.eq (g2 := F0 m 34 ls [.int 1]) rfl ?_
        refine lv_if_eq (tgt := 49) hx hb dX9_textAt_34 (by decide) (fun c106 => ?_) (fun c106 => ?_)
        · have k107 := i_eq c106
          exfalso
          omega
        · have k107 := i_ne c106
          refine lv_aload_n hx hb dX9_textAt_37 rfl (lv_at hl 0 rfl) ?_
          refine x_gr C hT (ci := 9) (k := 0) rfl inX9 (by decide) wF_X9_12 ga0 rg_68 rfl dX9_textAt_38 (fun q108 eq108 gq108 => ?_)
          refine x_gr C hT (ci := 8) (k := 3) rfl inX8 (by decide) wF_X9_220 gq108 rg_0 rfl dX9_textAt_41 (fun q109 eq109 gq109 => ?_)
          refine lv_iload_n hx hb dX9_textAt_44 rfl (lv_at hl 2 rfl) ?_
          refine x_ar C hT rfl rfl gq109 rg_27 ⟨by omega, by show _ < ((4 : Nat) : Int); omega⟩ dX9_textAt_45 (fun q110 eq110 gq110 => ?_)
          refine lv_goto (tgt := 50) hx hb dX9_textAt_46 (by decide) ?_
          exact x_aret C hQ (Or.inr ⟨_, rfl⟩) dX9_textAt_50 hSH105 (by decide) (by decide) (⟨hT, Or.inr ⟨q110, rfl, gq110, by omega⟩⟩)
      · subst hvH105
        refine W.eq (g2 := F0 m 34 ls [.int 0]) rfl ?_
        refine lv_if_eq (tgt := 49) hx hb dX9_textAt_34 (by decide) (fun c111 => ?_) (fun c111 => ?_)
        · have k112 := i_eq c111
          refine lv_null hx hb dX9_textAt_49 ?_
          exact x_aret C hQ (Or.inl rfl) dX9_textAt_50 hSH105 (by decide) (by decide) (⟨hT, Or.inl ⟨rfl, by omega⟩⟩)
        · have k112 := i_ne c111
          exfalso
          omega
  · have k102 := i_eq c101
    refine lv_iload_n hx hb dX9_textAt_4 rfl (lv_at hl 2 rfl) ?_
    refine lv_iconst (v := 0) hx hb dX9_textAt_5 (by decide) ?_
    refine lv_iconst (v := 1) hx hb dX9_textAt_6 (by decide) ?_
    refine x_S (As := [.int x2, .int 0, .int 1]) (rest := []) C (c_X9_within l K G s.heap (x2) (0) (1) hT) yo_X9_within wM_X9_89 ⟨⟨by decide, by decide⟩, by decide, by decide⟩ rfl hl.1 rfl (Nat.le_of_ble_eq_true rfl) dX9_textAt_7 hS (AE_sub (fun _ _ => rfl) (by decide) hS.1) (fun vH113 H113 locsH113 pH113 zH113 kH113 hSH113 => ?_)
    have hqH113 := pH113.1.symm
    subst hqH113
    rcases pH113.2 with ⟨hvH113, hcH113⟩ | ⟨hvH113, hcH113⟩
    · subst hvH113
      refine W.eq (g2 := F0 m 10 ls [.int 1]) rfl ?_
      refine lv_if_eq (tgt := 23) hx hb dX9_textAt_10 (by decide) (fun c114 => ?_) (fun c114 => ?_)
      · have k115 := i_eq c114
        exfalso
        omega
      · have k115 := i_ne c114
        refine lv_aload_n hx hb dX9_textAt_13 rfl (lv_at hl 0 rfl) ?_
        refine x_gr C hT (ci := 9) (k := 0) rfl inX9 (by decide) wF_X9_12 ga0 rg_68 rfl dX9_textAt_14 (fun q116 eq116 gq116 => ?_)
        refine x_gr C hT (ci := 8) (k := 2) rfl inX8 (by decide) wF_X9_158 gq116 rg_0 rfl dX9_textAt_17 (fun q117 eq117 gq117 => ?_)
        refine lv_iload_n hx hb dX9_textAt_20 rfl (lv_at hl 2 rfl) ?_
        refine x_ar C hT rfl rfl gq117 rg_26 ⟨by omega, by show _ < ((2 : Nat) : Int); omega⟩ dX9_textAt_21 (fun q118 eq118 gq118 => ?_)
        exact x_aret C hQ (Or.inr ⟨_, rfl⟩) dX9_textAt_22 hSH113 (by decide) (by decide) (⟨hT, Or.inr ⟨q118, rfl, gq118, by omega⟩⟩)
    · subst hvH113
      refine W.eq (g2 := F0 m 10 ls [.int 0]) rfl ?_
      refine lv_if_eq (tgt := 23) hx hb dX9_textAt_10 (by decide) (fun c119 => ?_) (fun c119 => ?_)
      · have k120 := i_eq c119
        refine lv_iload_n hx hb dX9_textAt_23 rfl (lv_at hl 1 rfl) ?_
        refine lv_iconst (v := 1) hx hb dX9_textAt_24 (by decide) ?_
        refine lv_icmp_ne (tgt := 49) hx hb dX9_textAt_25 (by decide) (fun c121 => ?_) (fun c121 => ?_)
        · have k122 := i_ne c121
          refine lv_null hx hb dX9_textAt_49 ?_
          exact x_aret C hQ (Or.inl rfl) dX9_textAt_50 hSH113 (by decide) (by decide) (⟨hT, Or.inl ⟨rfl, by omega⟩⟩)
        · have k122 := i_eq c121
          exfalso
          omega
      · have k120 := i_ne c119
        exfalso
        omega

set_option maxHeartbeats 4000000 in
set_option maxRecDepth 100000 in
theorem a_X7_copyFrom_e (l : Launch) (K : KE) (G : Nat → Option Nat) (H : Heap) {a0 : Nat} {a1 : Nat} (lo : Int32) (lm : Int32) (hT : TY K G H) (ga0 : G a0 = some 16) (ga1 : G a1 = some 69) (elo : lo = fI H a0 (K.1.2 7 0)) (elm : lm = fI H a1 (K.1.2 7 0)) : MX l K yX7_copyFrom cX7_copyFrom 2 none 1 40 0 0 [.ref a0, .ref a1] H (AE G [16, 17, 18, 19, 20, 21, 22, 23, 24] H.size) (fun v H1 => ∃ (t0 : Int32), v = none ∧ t0 = fI H1 a0 (K.1.2 7 0) ∧ (t0.toInt = lm.toInt) ∧ TY K G H1) := by
  refine MX.of (by decide +kernel) (Nat.le_of_ble_eq_true rfl) ?_
  intro p e s m below meth c ls Q C hH hl hQ
  subst hH
  have C : CX p K s m _ meth c RX7 cX7_copyFrom 2 none "copyFrom" := C
  obtain ⟨hx, hb, hml, hown, hts, hKT, hr, hlocks, hnm⟩ := id C
  have hl : lv_has ls 2 [(0, .ref a0), (1, .ref a1)] := hl
  have hS : va_S (AE G [16, 17, 18, 19, 20, 21, 22, 23, 24] s.heap.size) s.heap s.heap [] := va_S.rf
  have n_0 : (0 : Int32).toInt = 0 := rfl
  have n_16 : (16 : Int32).toInt = 16 := rfl
  have blo := ty_fi (x := lo) (k := 0) elo hT ga0 rg_16 rfl
  have blm := ty_fi (x := lm) (k := 0) elm hT ga1 rg_69 rfl
  refine lv_aload_n hx hb dX7_copyFrom_0 rfl (lv_at hl 0 rfl) ?_
  refine lv_aload_n hx hb dX7_copyFrom_1 rfl (lv_at hl 1 rfl) ?_
  refine x_gi C hT (ci := 7) (k := 0) rfl inX7 (by decide) wF_X7_36 ga1 rg_69 rfl dX7_copyFrom_2 (fun x665 ex665 bx665 => ?_)
  have ux665 : lm = x665 := (elm).trans ex665.symm
  subst ux665
  refine x_put C hT hS (ci := 7) (k := 0) (v := .int lm) (ty0 := tyX7) rfl inX7 tyX7_ok nmX7 (by decide) rfl wF_X7_36 ga0 rg_16 rfl rfl (okI (by have := i_rng lm; omega) (by have := i_rng lm; omega)) rfl rfl (AE_in ga0 (by decide)) dX7_copyFrom_5 (fun H666 locsH666 hTH666 hSH666 wH666 => ?_)
  have m668 := elm.trans (Wr.neI wH666 (Or.inl (G_ne ga1 ga0 (by decide)))).symm
  have m669 := Wr.I wH666
  have m669 := m669.symm
  refine lv_aload_n hx hb dX7_copyFrom_8 rfl (lv_at hl 1 rfl) ?_
  refine x_gr C hTH666 (ci := 7) (k := 1) rfl inX7 (by decide) wF_X7_9 ga1 rg_69 rfl dX7_copyFrom_9 (fun q670 eq670 gq670 => ?_)
  refine lv_iconst (v := 0) hx hb dX7_copyFrom_12 (by decide) ?_
  refine lv_aload_n hx hb dX7_copyFrom_13 rfl (lv_at hl 0 rfl) ?_
  refine x_gr C hTH666 (ci := 7) (k := 1) rfl inX7 (by decide) wF_X7_9 ga0 rg_16 rfl dX7_copyFrom_14 (fun q671 eq671 gq671 => ?_)
  refine lv_iconst (v := 0) hx hb dX7_copyFrom_17 (by decide) ?_
  refine lv_bipush (v := 16) hx hb dX7_copyFrom_18 (by decide) ?_
  refine x_copy C hTH666 hSH666 wM_X7_44 wNT_arraycopy wST_arraycopy wIN_J10 gq670 gq671 rg_70 rg_17 (by decide) (by omega) (by omega) (by omega) (by show _ ≤ ((16 : Nat) : Int); omega) (by show _ ≤ ((16 : Nat) : Int); omega) (AE_in gq671 (by decide)) hl.1 (by decide) dX7_copyFrom_20 (fun H672 locsH672 hTH672 hSH672 zH672 oH672 vH672 wH672 => ?_)
  have m673 := (m668).trans (fI_kept (oH672 _ (G_ne ga1 gq671 (by decide)))).symm
  have m674 := (m669).trans (fI_kept (oH672 _ (G_ne ga0 gq671 (by decide)))).symm
  have m675 := (eq670).trans (fR_kept (oH672 _ (G_ne ga1 gq671 (by decide)))).symm
  have m676 := (eq671).trans (fR_kept (oH672 _ (G_ne ga0 gq671 (by decide)))).symm
  refine lv_aload_n hx hb dX7_copyFrom_23 rfl (lv_at hl 1 rfl) ?_
  refine x_gr C hTH672 (ci := 7) (k := 2) rfl inX7 (by decide) wF_X7_15 ga1 rg_69 rfl dX7_copyFrom_24 (fun q677 eq677 gq677 => ?_)
  refine lv_iconst (v := 0) hx hb dX7_copyFrom_27 (by decide) ?_
  refine lv_aload_n hx hb dX7_copyFrom_28 rfl (lv_at hl 0 rfl) ?_
  refine x_gr C hTH672 (ci := 7) (k := 2) rfl inX7 (by decide) wF_X7_15 ga0 rg_16 rfl dX7_copyFrom_29 (fun q678 eq678 gq678 => ?_)
  refine lv_iconst (v := 0) hx hb dX7_copyFrom_32 (by decide) ?_
  refine lv_bipush (v := 16) hx hb dX7_copyFrom_33 (by decide) ?_
  refine x_copy C hTH672 hSH672 wM_X7_44 wNT_arraycopy wST_arraycopy wIN_J10 gq677 gq678 rg_71 rg_18 (by decide) (by omega) (by omega) (by omega) (by show _ ≤ ((16 : Nat) : Int); omega) (by show _ ≤ ((16 : Nat) : Int); omega) (AE_in gq678 (by decide)) hl.1 (by decide) dX7_copyFrom_35 (fun H679 locsH679 hTH679 hSH679 zH679 oH679 vH679 wH679 => ?_)
  have m680 := (m673).trans (fI_kept (oH679 _ (G_ne ga1 gq678 (by decide)))).symm
  have m681 := (m674).trans (fI_kept (oH679 _ (G_ne ga0 gq678 (by decide)))).symm
  have m682 := (m675).trans (fR_kept (oH679 _ (G_ne ga1 gq678 (by decide)))).symm
  have m683 := (m676).trans (fR_kept (oH679 _ (G_ne ga0 gq678 (by decide)))).symm
  have m684 := (eq677).trans (fR_kept (oH679 _ (G_ne ga1 gq678 (by decide)))).symm
  have m685 := (eq678).trans (fR_kept (oH679 _ (G_ne ga0 gq678 (by decide)))).symm
  refine lv_aload_n hx hb dX7_copyFrom_38 rfl (lv_at hl 1 rfl) ?_
  refine x_gr C hTH679 (ci := 7) (k := 3) rfl inX7 (by decide) wF_X7_18 ga1 rg_69 rfl dX7_copyFrom_39 (fun q686 eq686 gq686 => ?_)
  refine lv_iconst (v := 0) hx hb dX7_copyFrom_42 (by decide) ?_
  refine lv_aload_n hx hb dX7_copyFrom_43 rfl (lv_at hl 0 rfl) ?_
  refine x_gr C hTH679 (ci := 7) (k := 3) rfl inX7 (by decide) wF_X7_18 ga0 rg_16 rfl dX7_copyFrom_44 (fun q687 eq687 gq687 => ?_)
  refine lv_iconst (v := 0) hx hb dX7_copyFrom_47 (by decide) ?_
  refine lv_bipush (v := 16) hx hb dX7_copyFrom_48 (by decide) ?_
  refine x_copy C hTH679 hSH679 wM_X7_44 wNT_arraycopy wST_arraycopy wIN_J10 gq686 gq687 rg_72 rg_19 (by decide) (by omega) (by omega) (by omega) (by show _ ≤ ((16 : Nat) : Int); omega) (by show _ ≤ ((16 : Nat) : Int); omega) (AE_in gq687 (by decide)) hl.1 (by decide) dX7_copyFrom_50 (fun H688 locsH688 hTH688 hSH688 zH688 oH688 vH688 wH688 => ?_)
  have m689 := (m680).trans (fI_kept (oH688 _ (G_ne ga1 gq687 (by decide)))).symm
  have m690 := (m681).trans (fI_kept (oH688 _ (G_ne ga0 gq687 (by decide)))).symm
  have m691 := (m682).trans (fR_kept (oH688 _ (G_ne ga1 gq687 (by decide)))).symm
  have m692 := (m683).trans (fR_kept (oH688 _ (G_ne ga0 gq687 (by decide)))).symm
  have m693 := (m684).trans (fR_kept (oH688 _ (G_ne ga1 gq687 (by decide)))).symm
  have m694 := (m685).trans (fR_kept (oH688 _ (G_ne ga0 gq687 (by decide)))).symm
  have m695 := (eq686).trans (fR_kept (oH688 _ (G_ne ga1 gq687 (by decide)))).symm
  have m696 := (eq687).trans (fR_kept (oH688 _ (G_ne ga0 gq687 (by decide)))).symm
  refine lv_aload_n hx hb dX7_copyFrom_53 rfl (lv_at hl 1 rfl) ?_
  refine x_gr C hTH688 (ci := 7) (k := 4) rfl inX7 (by decide) wF_X7_21 ga1 rg_69 rfl dX7_copyFrom_54 (fun q697 eq697 gq697 => ?_)
  refine lv_iconst (v := 0) hx hb dX7_copyFrom_57 (by decide) ?_
  refine lv_aload_n hx hb dX7_copyFrom_58 rfl (lv_at hl 0 rfl) ?_
  refine x_gr C hTH688 (ci := 7) (k := 4) rfl inX7 (by decide) wF_X7_21 ga0 rg_16 rfl dX7_copyFrom_59 (fun q698 eq698 gq698 => ?_)
  refine lv_iconst (v := 0) hx hb dX7_copyFrom_62 (by decide) ?_
  refine lv_bipush (v := 16) hx hb dX7_copyFrom_63 (by decide) ?_
  refine x_copy C hTH688 hSH688 wM_X7_44 wNT_arraycopy wST_arraycopy wIN_J10 gq697 gq698 rg_73 rg_20 (by decide) (by omega) (by omega) (by omega) (by show _ ≤ ((16 : Nat) : Int); omega) (by show _ ≤ ((16 : Nat) : Int); omega) (AE_in gq698 (by decide)) hl.1 (by decide) dX7_copyFrom_65 (fun H699 locsH699 hTH699 hSH699 zH699 oH699 vH699 wH699 => ?_)
  have m700 := (m689).trans (fI_kept (oH699 _ (G_ne ga1 gq698 (by decide)))).symm
  have m701 := (m690).trans (fI_kept (oH699 _ (G_ne ga0 gq698 (by decide)))).symm
  have m702 := (m691).trans (fR_kept (oH699 _ (G_ne ga1 gq698 (by decide)))).symm
  have m703 := (m692).trans (fR_kept (oH699 _ (G_ne ga0 gq698 (by decide)))).symm
  have m704 := (m693).trans (fR_kept (oH699 _ (G_ne ga1 gq698 (by decide)))).symm
  have m705 := (m694).trans (fR_kept (oH699 _ (G_ne ga0 gq698 (by decide)))).symm
  have m706 := (m695).trans (fR_kept (oH699 _ (G_ne ga1 gq698 (by decide)))).symm
  have m707 := (m696).trans (fR_kept (oH699 _ (G_ne ga0 gq698 (by decide)))).symm
  have m708 := (eq697).trans (fR_kept (oH699 _ (G_ne ga1 gq698 (by decide)))).symm
  have m709 := (eq698).trans (fR_kept (oH699 _ (G_ne ga0 gq698 (by decide)))).symm
  refine lv_aload_n hx hb dX7_copyFrom_68 rfl (lv_at hl 1 rfl) ?_
  refine x_gr C hTH699 (ci := 7) (k := 5) rfl inX7 (by decide) wF_X7_24 ga1 rg_69 rfl dX7_copyFrom_69 (fun q710 eq710 gq710 => ?_)
  refine lv_iconst (v := 0) hx hb dX7_copyFrom_72 (by decide) ?_
  refine lv_aload_n hx hb dX7_copyFrom_73 rfl (lv_at hl 0 rfl) ?_
  refine x_gr C hTH699 (ci := 7) (k := 5) rfl inX7 (by decide) wF_X7_24 ga0 rg_16 rfl dX7_copyFrom_74 (fun q711 eq711 gq711 => ?_)
  refine lv_iconst (v := 0) hx hb dX7_copyFrom_77 (by decide) ?_
  refine lv_bipush (v := 16) hx hb dX7_copyFrom_78 (by decide) ?_
  refine x_copy C hTH699 hSH699 wM_X7_44 wNT_arraycopy wST_arraycopy wIN_J10 gq710 gq711 rg_74 rg_21 (by decide) (by omega) (by omega) (by omega) (by show _ ≤ ((16 : Nat) : Int); omega) (by show _ ≤ ((16 : Nat) : Int); omega) (AE_in gq711 (by decide)) hl.1 (by decide) dX7_copyFrom_80 (fun H712 locsH712 hTH712 hSH712 zH712 oH712 vH712 wH712 => ?_)
  have m713 := (m700).trans (fI_kept (oH712 _ (G_ne ga1 gq711 (by decide)))).symm
  have m714 := (m701).trans (fI_kept (oH712 _ (G_ne ga0 gq711 (by decide)))).symm
  have m715 := (m702).trans (fR_kept (oH712 _ (G_ne ga1 gq711 (by decide)))).symm
  have m716 := (m703).trans (fR_kept (oH712 _ (G_ne ga0 gq711 (by decide)))).symm
  have m717 := (m704).trans (fR_kept (oH712 _ (G_ne ga1 gq711 (by decide)))).symm
  have m718 := (m705).trans (fR_kept (oH712 _ (G_ne ga0 gq711 (by decide)))).symm
  have m719 := (m706).trans (fR_kept (oH712 _ (G_ne ga1 gq711 (by decide)))).symm
  have m720 := (m707).trans (fR_kept (oH712 _ (G_ne ga0 gq711 (by decide)))).symm
  have m721 := (m708).trans (fR_kept (oH712 _ (G_ne ga1 gq711 (by decide)))).symm
  have m722 := (m709).trans (fR_kept (oH712 _ (G_ne ga0 gq711 (by decide)))).symm
  have m723 := (eq710).trans (fR_kept (oH712 _ (G_ne ga1 gq711 (by decide)))).symm
  have m724 := (eq711).trans (fR_kept (oH712 _ (G_ne ga0 gq711 (by decide)))).symm
  refine lv_aload_n hx hb dX7_copyFrom_83 rfl (lv_at hl 1 rfl) ?_
  refine x_gr C hTH712 (ci := 7) (k := 6) rfl inX7 (by decide) wF_X7_27 ga1 rg_69 rfl dX7_copyFrom_84 (fun q725 eq725 gq725 => ?_)
  refine lv_iconst (v := 0) hx hb dX7_copyFrom_87 (by decide) ?_
  refine lv_aload_n hx hb dX7_copyFrom_88 rfl (lv_at hl 0 rfl) ?_
  refine x_gr C hTH712 (ci := 7) (k := 6) rfl inX7 (by decide) wF_X7_27 ga0 rg_16 rfl dX7_copyFrom_89 (fun q726 eq726 gq726 => ?_)
  refine lv_iconst (v := 0) hx hb dX7_copyFrom_92 (by decide) ?_
  refine lv_bipush (v := 16) hx hb dX7_copyFrom_93 (by decide) ?_
  refine x_copy C hTH712 hSH712 wM_X7_44 wNT_arraycopy wST_arraycopy wIN_J10 gq725 gq726 rg_75 rg_22 (by decide) (by omega) (by omega) (by omega) (by show _ ≤ ((16 : Nat) : Int); omega) (by show _ ≤ ((16 : Nat) : Int); omega) (AE_in gq726 (by decide)) hl.1 (by decide) dX7_copyFrom_95 (fun H727 locsH727 hTH727 hSH727 zH727 oH727 vH727 wH727 => ?_)
  have m728 := (m713).trans (fI_kept (oH727 _ (G_ne ga1 gq726 (by decide)))).symm
  have m729 := (m714).trans (fI_kept (oH727 _ (G_ne ga0 gq726 (by decide)))).symm
  have m730 := (m715).trans (fR_kept (oH727 _ (G_ne ga1 gq726 (by decide)))).symm
  have m731 := (m716).trans (fR_kept (oH727 _ (G_ne ga0 gq726 (by decide)))).symm
  have m732 := (m717).trans (fR_kept (oH727 _ (G_ne ga1 gq726 (by decide)))).symm
  have m733 := (m718).trans (fR_kept (oH727 _ (G_ne ga0 gq726 (by decide)))).symm
  have m734 := (m719).trans (fR_kept (oH727 _ (G_ne ga1 gq726 (by decide)))).symm
  have m735 := (m720).trans (fR_kept (oH727 _ (G_ne ga0 gq726 (by decide)))).symm
  have m736 := (m721).trans (fR_kept (oH727 _ (G_ne ga1 gq726 (by decide)))).symm
  have m737 := (m722).trans (fR_kept (oH727 _ (G_ne ga0 gq726 (by decide)))).symm
  have m738 := (m723).trans (fR_kept (oH727 _ (G_ne ga1 gq726 (by decide)))).symm
  have m739 := (m724).trans (fR_kept (oH727 _ (G_ne ga0 gq726 (by decide)))).symm
  have m740 := (eq725).trans (fR_kept (oH727 _ (G_ne ga1 gq726 (by decide)))).symm
  have m741 := (eq726).trans (fR_kept (oH727 _ (G_ne ga0 gq726 (by decide)))).symm
  refine lv_aload_n hx hb dX7_copyFrom_98 rfl (lv_at hl 1 rfl) ?_
  refine x_gr C hTH727 (ci := 7) (k := 7) rfl inX7 (by decide) wF_X7_30 ga1 rg_69 rfl dX7_copyFrom_99 (fun q742 eq742 gq742 => ?_)
  refine lv_iconst (v := 0) hx hb dX7_copyFrom_102 (by decide) ?_
  refine lv_aload_n hx hb dX7_copyFrom_103 rfl (lv_at hl 0 rfl) ?_
  refine x_gr C hTH727 (ci := 7) (k := 7) rfl inX7 (by decide) wF_X7_30 ga0 rg_16 rfl dX7_copyFrom_104 (fun q743 eq743 gq743 => ?_)
  refine lv_iconst (v := 0) hx hb dX7_copyFrom_107 (by decide) ?_
  refine lv_bipush (v := 16) hx hb dX7_copyFrom_108 (by decide) ?_
  refine x_copy C hTH727 hSH727 wM_X7_44 wNT_arraycopy wST_arraycopy wIN_J10 gq742 gq743 rg_76 rg_23 (by decide) (by omega) (by omega) (by omega) (by show _ ≤ ((16 : Nat) : Int); omega) (by show _ ≤ ((16 : Nat) : Int); omega) (AE_in gq743 (by decide)) hl.1 (by decide) dX7_copyFrom_110 (fun H744 locsH744 hTH744 hSH744 zH744 oH744 vH744 wH744 => ?_)
  have m745 := (m728).trans (fI_kept (oH744 _ (G_ne ga1 gq743 (by decide)))).symm
  have m746 := (m729).trans (fI_kept (oH744 _ (G_ne ga0 gq743 (by decide)))).symm
  have m747 := (m730).trans (fR_kept (oH744 _ (G_ne ga1 gq743 (by decide)))).symm
  have m748 := (m731).trans (fR_kept (oH744 _ (G_ne ga0 gq743 (by decide)))).symm
  have m749 := (m732).trans (fR_kept (oH744 _ (G_ne ga1 gq743 (by decide)))).symm
  have m750 := (m733).trans (fR_kept (oH744 _ (G_ne ga0 gq743 (by decide)))).symm
  have m751 := (m734).trans (fR_kept (oH744 _ (G_ne ga1 gq743 (by decide)))).symm
  have m752 := (m735).trans (fR_kept (oH744 _ (G_ne ga0 gq743 (by decide)))).symm
  have m753 := (m736).trans (fR_kept (oH744 _ (G_ne ga1 gq743 (by decide)))).symm
  have m754 := (m737).trans (fR_kept (oH744 _ (G_ne ga0 gq743 (by decide)))).symm
  have m755 := (m738).trans (fR_kept (oH744 _ (G_ne ga1 gq743 (by decide)))).symm
  have m756 := (m739).trans (fR_kept (oH744 _ (G_ne ga0 gq743 (by decide)))).symm
  have m757 := (m740).trans (fR_kept (oH744 _ (G_ne ga1 gq743 (by decide)))).symm
  have m758 := (m741).trans (fR_kept (oH744 _ (G_ne ga0 gq743 (by decide)))).symm
  have m759 := (eq742).trans (fR_kept (oH744 _ (G_ne ga1 gq743 (by decide)))).symm
  have m760 := (eq743).trans (fR_kept (oH744 _ (G_ne ga0 gq743 (by decide)))).symm
  refine lv_aload_n hx hb dX7_copyFrom_113 rfl (lv_at hl 1 rfl) ?_
  refine x_gr C hTH744 (ci := 7) (k := 8) rfl inX7 (by decide) wF_X7_33 ga1 rg_69 rfl dX7_copyFrom_114 (fun q761 eq761 gq761 => ?_)
  refine lv_iconst (v := 0) hx hb dX7_copyFrom_117 (by decide) ?_
  refine lv_aload_n hx hb dX7_copyFrom_118 rfl (lv_at hl 0 rfl) ?_
  refine x_gr C hTH744 (ci := 7) (k := 8) rfl inX7 (by decide) wF_X7_33 ga0 rg_16 rfl dX7_copyFrom_119 (fun q762 eq762 gq762 => ?_)
  refine lv_iconst (v := 0) hx hb dX7_copyFrom_122 (by decide) ?_
  refine lv_aload_n hx hb dX7_copyFrom_123 rfl (lv_at hl 1 rfl) ?_
  refine x_gi C hTH744 (ci := 7) (k := 9) rfl inX7 (by decide) wF_X7_40 ga1 rg_69 rfl dX7_copyFrom_124 (fun x763 ex763 bx763 => ?_)
  refine x_copy C hTH744 hSH744 wM_X7_44 wNT_arraycopy wST_arraycopy wIN_J10 gq761 gq762 rg_77 rg_24 (by decide) (by omega) (by omega) (by omega) (by show _ ≤ ((500 : Nat) : Int); omega) (by show _ ≤ ((500 : Nat) : Int); omega) (AE_in gq762 (by decide)) hl.1 (by decide) dX7_copyFrom_127 (fun H764 locsH764 hTH764 hSH764 zH764 oH764 vH764 wH764 => ?_)
  have m765 := (m745).trans (fI_kept (oH764 _ (G_ne ga1 gq762 (by decide)))).symm
  have m766 := (m746).trans (fI_kept (oH764 _ (G_ne ga0 gq762 (by decide)))).symm
  have m767 := (m747).trans (fR_kept (oH764 _ (G_ne ga1 gq762 (by decide)))).symm
  have m768 := (m748).trans (fR_kept (oH764 _ (G_ne ga0 gq762 (by decide)))).symm
  have m769 := (m749).trans (fR_kept (oH764 _ (G_ne ga1 gq762 (by decide)))).symm
  have m770 := (m750).trans (fR_kept (oH764 _ (G_ne ga0 gq762 (by decide)))).symm
  have m771 := (m751).trans (fR_kept (oH764 _ (G_ne ga1 gq762 (by decide)))).symm
  have m772 := (m752).trans (fR_kept (oH764 _ (G_ne ga0 gq762 (by decide)))).symm
  have m773 := (m753).trans (fR_kept (oH764 _ (G_ne ga1 gq762 (by decide)))).symm
  have m774 := (m754).trans (fR_kept (oH764 _ (G_ne ga0 gq762 (by decide)))).symm
  have m775 := (m755).trans (fR_kept (oH764 _ (G_ne ga1 gq762 (by decide)))).symm
  have m776 := (m756).trans (fR_kept (oH764 _ (G_ne ga0 gq762 (by decide)))).symm
  have m777 := (m757).trans (fR_kept (oH764 _ (G_ne ga1 gq762 (by decide)))).symm
  have m778 := (m758).trans (fR_kept (oH764 _ (G_ne ga0 gq762 (by decide)))).symm
  have m779 := (m759).trans (fR_kept (oH764 _ (G_ne ga1 gq762 (by decide)))).symm
  have m780 := (m760).trans (fR_kept (oH764 _ (G_ne ga0 gq762 (by decide)))).symm
  have m781 := (eq761).trans (fR_kept (oH764 _ (G_ne ga1 gq762 (by decide)))).symm
  have m782 := (eq762).trans (fR_kept (oH764 _ (G_ne ga0 gq762 (by decide)))).symm
  have m783 := (ex763).trans (fI_kept (oH764 _ (G_ne ga1 gq762 (by decide)))).symm
  refine lv_aload_n hx hb dX7_copyFrom_130 rfl (lv_at hl 0 rfl) ?_
  refine lv_aload_n hx hb dX7_copyFrom_131 rfl (lv_at hl 1 rfl) ?_
  refine x_gi C hTH764 (ci := 7) (k := 9) rfl inX7 (by decide) wF_X7_40 ga1 rg_69 rfl dX7_copyFrom_132 (fun x784 ex784 bx784 => ?_)
  have ux784 : x763 = x784 := (m783).trans ex784.symm
  subst ux784
  refine x_put C hTH764 hSH764 (ci := 7) (k := 9) (v := .int x763) (ty0 := tyX7) rfl inX7 tyX7_ok nmX7 (by decide) rfl wF_X7_40 ga0 rg_16 rfl rfl (okI (by have := i_rng x763; omega) (by have := i_rng x763; omega)) rfl rfl (AE_in ga0 (by decide)) dX7_copyFrom_135 (fun H785 locsH785 hTH785 hSH785 wH785 => ?_)
  have m786 := m765.trans (Wr.neI wH785 (Or.inl (G_ne ga1 ga0 (by decide)))).symm
  have m787 := m766.trans (Wr.neI wH785 (Or.inr (x_apart hKT hts inX7 tyX7 tyX7_ok nmX7 rfl 0 9 (by decide) (by decide) (by decide)))).symm
  have m788 := m767.trans (Wr.neR wH785 (Or.inl (G_ne ga1 ga0 (by decide)))).symm
  have m789 := m768.trans (Wr.neR wH785 (Or.inr (x_apart hKT hts inX7 tyX7 tyX7_ok nmX7 rfl 1 9 (by decide) (by decide) (by decide)))).symm
  have m790 := m769.trans (Wr.neR wH785 (Or.inl (G_ne ga1 ga0 (by decide)))).symm
  have m791 := m770.trans (Wr.neR wH785 (Or.inr (x_apart hKT hts inX7 tyX7 tyX7_ok nmX7 rfl 2 9 (by decide) (by decide) (by decide)))).symm
  have m792 := m771.trans (Wr.neR wH785 (Or.inl (G_ne ga1 ga0 (by decide)))).symm
  have m793 := m772.trans (Wr.neR wH785 (Or.inr (x_apart hKT hts inX7 tyX7 tyX7_ok nmX7 rfl 3 9 (by decide) (by decide) (by decide)))).symm
  have m794 := m773.trans (Wr.neR wH785 (Or.inl (G_ne ga1 ga0 (by decide)))).symm
  have m795 := m774.trans (Wr.neR wH785 (Or.inr (x_apart hKT hts inX7 tyX7 tyX7_ok nmX7 rfl 4 9 (by decide) (by decide) (by decide)))).symm
  have m796 := m775.trans (Wr.neR wH785 (Or.inl (G_ne ga1 ga0 (by decide)))).symm
  have m797 := m776.trans (Wr.neR wH785 (Or.inr (x_apart hKT hts inX7 tyX7 tyX7_ok nmX7 rfl 5 9 (by decide) (by decide) (by decide)))).symm
  have m798 := m777.trans (Wr.neR wH785 (Or.inl (G_ne ga1 ga0 (by decide)))).symm
  have m799 := m778.trans (Wr.neR wH785 (Or.inr (x_apart hKT hts inX7 tyX7 tyX7_ok nmX7 rfl 6 9 (by decide) (by decide) (by decide)))).symm
  have m800 := m779.trans (Wr.neR wH785 (Or.inl (G_ne ga1 ga0 (by decide)))).symm
  have m801 := m780.trans (Wr.neR wH785 (Or.inr (x_apart hKT hts inX7 tyX7 tyX7_ok nmX7 rfl 7 9 (by decide) (by decide) (by decide)))).symm
  have m802 := m781.trans (Wr.neR wH785 (Or.inl (G_ne ga1 ga0 (by decide)))).symm
  have m803 := m782.trans (Wr.neR wH785 (Or.inr (x_apart hKT hts inX7 tyX7 tyX7_ok nmX7 rfl 8 9 (by decide) (by decide) (by decide)))).symm
  have m804 := m783.trans (Wr.neI wH785 (Or.inl (G_ne ga1 ga0 (by decide)))).symm
  have m805 := Wr.I wH785
  have m805 := m805.symm
  exact x_vret C hQ dX7_copyFrom_138 hSH785 (by decide) (by decide) (⟨lm, rfl, m787, by omega, hTH785⟩)

set_option maxHeartbeats 4000000 in
set_option maxRecDepth 100000 in
theorem a_X9_text_e (l : Launch) (K : KE) (G : Nat → Option Nat) (H : Heap) {a0 : Nat} (x1 : Int32) (x2 : Int32) {wq : Nat} {rq : Nat} {tq : Nat} {mq : Nat} {kq : Nat} {vq : Nat} (tp : Int32) (tat : Int32) (fa : Int32) (li : Int32) (lw : Int32) (s1 : Int32) (s4 : Int32) (s5 : Int32) (s10 : Int32) (s13 : Int32) (s16 : Int32) {kv : Value} (bt : Nat → Int) (hT : TY K G H) (ga0 : G a0 = some 68) (gwq : G wq = some 0) (ewq : wq = fR H a0 (K.1.2 9 0)) (grq : G rq = some 78) (erq : rq = fR H a0 (K.1.2 9 4)) (gtq : G tq = some 108) (etq : tq = fR H a0 (K.1.2 9 2)) (gmq : G mq = some 69) (emq : mq = fR H rq (K.1.2 4 0)) (gkq : G kq = some 79) (ekq : kq = fR H rq (K.1.2 4 3)) (gvq : G vq = some 80) (evq : vq = fR H rq (K.1.2 4 4)) (etp : tp = fI H a0 (K.1.2 9 3)) (etat : tat = fI H rq (K.1.2 4 7)) (efa : fa = fI H rq (K.1.2 4 1)) (eli : li = fI H mq (K.1.2 7 0)) (elw : lw = fI H rq (K.1.2 4 8)) (es1 : s1 = fI H wq (K.1.2 8 1)) (es4 : s4 = fI H wq (K.1.2 8 4)) (es5 : s5 = fI H wq (K.1.2 8 5)) (es10 : s10 = fI H wq (K.1.2 8 10)) (es13 : s13 = fI H wq (K.1.2 8 13)) (es16 : s16 = fI H wq (K.1.2 8 16)) (hkv : fV H a0 (K.1.2 9 1) = kv) (hv_bt : ∀ j : Nat, bt j = (fI H tq j).toInt) : MX l K yX9_text cX9_text 6 (some .int) 39 869 0 0 [.ref a0, .int x1, .int x2] H (AE G [68, 0, 78, 79, 80, 81, 69, 70, 71, 72, 73, 74, 75, 76, 77, 16, 17, 18, 19, 20, 21, 22, 23, 24] H.size) (fun v H1 => ∃ (r : Int32) (t0 : Int32) (t1 : Int32) (t2 : Int32) (t3 : Int32) (t4 : Int32), v = some (.int r) ∧ t0 = fI H1 a0 (K.1.2 9 3) ∧ t1 = fI H1 rq (K.1.2 4 7) ∧ t2 = fI H1 rq (K.1.2 4 1) ∧ t3 = fI H1 mq (K.1.2 7 0) ∧ t4 = fI H1 rq (K.1.2 4 8) ∧ (t0.toInt = 0) ∧ wq = fR H1 a0 (K.1.2 9 0) ∧ rq = fR H1 a0 (K.1.2 9 4) ∧ tq = fR H1 a0 (K.1.2 9 2) ∧ mq = fR H1 rq (K.1.2 4 0) ∧ kq = fR H1 rq (K.1.2 4 3) ∧ vq = fR H1 rq (K.1.2 4 4) ∧ s1 = fI H1 wq (K.1.2 8 1) ∧ s4 = fI H1 wq (K.1.2 8 4) ∧ s5 = fI H1 wq (K.1.2 8 5) ∧ s10 = fI H1 wq (K.1.2 8 10) ∧ s13 = fI H1 wq (K.1.2 8 13) ∧ s16 = fI H1 wq (K.1.2 8 16) ∧ (TXA bt tp.toNatClampNeg x1 x2 r) ∧ fV H1 a0 (K.1.2 9 1) = kv ∧ TY K G H1) := by
  refine MX.of (by decide +kernel) (Nat.le_of_ble_eq_true rfl) ?_
  intro p e s m below meth c ls Q C hH hl hQ
  subst hH
  have C : CX p K s m _ meth c RX9 cX9_text 6 (some .int) "text" := C
  obtain ⟨hx, hb, hml, hown, hts, hKT, hr, hlocks, hnm⟩ := id C
  have hl : lv_has ls 6 [(0, .ref a0), (1, .int x1), (2, .int x2)] := hl
  have hS : va_S (AE G [68, 0, 78, 79, 80, 81, 69, 70, 71, 72, 73, 74, 75, 76, 77, 16, 17, 18, 19, 20, 21, 22, 23, 24] s.heap.size) s.heap s.heap [] := va_S.rf
  have n_m1 : ((-1) : Int32).toInt = -1 := rfl
  have n_0 : (0 : Int32).toInt = 0 := rfl
  have n_1 : (1 : Int32).toInt = 1 := rfl
  have n_16 : (16 : Int32).toInt = 16 := rfl
  have n_26 : (26 : Int32).toInt = 26 := rfl
  have btp := ty_fi (x := tp) (k := 3) etp hT ga0 rg_68 rfl
  have btat := ty_fi (x := tat) (k := 7) etat hT grq rg_78 rfl
  have bfa := ty_fi (x := fa) (k := 1) efa hT grq rg_78 rfl
  have bli := ty_fi (x := li) (k := 0) eli hT gmq rg_69 rfl
  have blw := ty_fi (x := lw) (k := 8) elw hT grq rg_78 rfl
  have bs1 := ty_fi (x := s1) (k := 1) es1 hT gwq rg_0 rfl
  have bs4 := ty_fi (x := s4) (k := 4) es4 hT gwq rg_0 rfl
  have bs5 := ty_fi (x := s5) (k := 5) es5 hT gwq rg_0 rfl
  have bs10 := ty_fi (x := s10) (k := 10) es10 hT gwq rg_0 rfl
  have bs13 := ty_fi (x := s13) (k := 13) es13 hT gwq rg_0 rfl
  have bs16 := ty_fi (x := s16) (k := 16) es16 hT gwq rg_0 rfl
  have f0_bt := hv_bt
  have J65 : ∀ (nf : Nat) (F : Int32) (ls3679 : Array Slot) (H3678 : Heap) (locsH3678 : List Loc) (q3681 : Nat) (x3682 : Int32) (x3683 : Int32) (x3684 : Int32) (x3685 : Int32) (x3686 : Int32) (x3687 : Int32), lv_has ls3679 6 [(0, .ref a0), (4, .ref q3681), (5, .int x3682)] → TY K G H3678 → va_S (AE G [68, 0, 78, 79, 80, 81, 69, 70, 71, 72, 73, 74, 75, 76, 77, 16, 17, 18, 19, 20, 21, 22, 23, 24] s.heap.size) s.heap H3678 locsH3678 → (G q3681 = some 16) → (0 ≤ x3682.toInt ∧ x3682.toInt ≤ 17) → (0 ≤ x3683.toInt ∧ x3683.toInt ≤ 0) → (0 ≤ x3684.toInt ∧ x3684.toInt ≤ 500) → (0 ≤ x3686.toInt ∧ x3686.toInt ≤ 16) → (0 ≤ x3687.toInt ∧ x3687.toInt ≤ 1) → (x3683 = fI H3678 a0 (K.1.2 9 3)) → (x3684 = fI H3678 rq (K.1.2 4 7)) → (x3685 = fI H3678 rq (K.1.2 4 1)) → (x3686 = fI H3678 mq (K.1.2 7 0)) → (x3687 = fI H3678 rq (K.1.2 4 8)) → (wq = fR H3678 a0 (K.1.2 9 0)) → (rq = fR H3678 a0 (K.1.2 9 4)) → (tq = fR H3678 a0 (K.1.2 9 2)) → (mq = fR H3678 rq (K.1.2 4 0)) → (kq = fR H3678 rq (K.1.2 4 3)) → (vq = fR H3678 rq (K.1.2 4 4)) → (s1 = fI H3678 wq (K.1.2 8 1)) → (s4 = fI H3678 wq (K.1.2 8 4)) → (s5 = fI H3678 wq (K.1.2 8 5)) → (s10 = fI H3678 wq (K.1.2 8 10)) → (s13 = fI H3678 wq (K.1.2 8 13)) → (s16 = fI H3678 wq (K.1.2 8 16)) → (fV H3678 a0 (K.1.2 9 1) = kv) → (∀ j : Nat, bt j = (fI H3678 tq j).toInt) → (17 - x3682.toInt < (nf : Int)) → (x3683.toInt = 0 ∧ (x3685.toInt ≠ 0 ∨ x3682.toInt = x3686.toInt) ∧ ((x1.toInt = 0 ∧ x3687.toInt = 1) ∨ (x1.toInt ≠ 0 ∧ x3687.toInt = 0)) ∧ ((x1.toInt = 0 ∧ 0 ≤ x2.toInt ∧ x2.toInt ≤ 1) ∨ (x1.toInt = 1 ∧ 0 ≤ x2.toInt ∧ x2.toInt ≤ 3))) → (0 ≤ F.toInt ∧ F.toInt ≤ 500) → (x3684.toInt ≤ F.toInt) → (fI H3678 kq F.toNatClampNeg = 26) → (∀ j : Nat, j ≤ F.toNatClampNeg → (kK bt tp.toNatClampNeg) j = (fI H3678 kq j).toInt) → (∀ j : Nat, j ≤ F.toNatClampNeg → (vV bt tp.toNatClampNeg) j = (fI H3678 vq j).toInt) → (HD (x3685.toInt = 0 → txS (kK bt tp.toNatClampNeg) (vV bt tp.toNatClampNeg) (if x1.toInt = 0 then 1 else 0) 18 0 0 = txS (kK bt tp.toNatClampNeg) (vV bt tp.toNatClampNeg) (if x1.toInt = 0 then 1 else 0) (18 - x3682.toNatClampNeg) x3686.toNatClampNeg x3684.toNatClampNeg)) → (HD (x3685.toInt ≠ 0 → txS (kK bt tp.toNatClampNeg) (vV bt tp.toNatClampNeg) (if x1.toInt = 0 then 1 else 0) 18 0 0 = none)) → W p l e ({ frames := 39, cells := 0, slots := 0, locals := 869 } : Room) s m (([.ref a0, .int x1, .int x2] : List Value).toArray) below meth c H3678 locsH3678 0 0 Q (F0 m 65 ls3679 []) := by
    intro nf
    induction nf with
    | zero =>
      intro F ls3679 H3678 locsH3678 q3681 x3682 x3683 x3684 x3685 x3686 x3687 hl3680 hTH3678 hSH3678 gq3681 bx3682 bx3683 bx3684 bx3686 bx3687 ex3683 ex3684 ex3685 ex3686 ex3687 cy3688_0 cy3688_1 cy3688_2 cy3688_3 cy3688_4 cy3688_5 cy3688_6 cy3688_7 cy3688_8 cy3688_9 cy3688_10 cy3688_11 cy3688_12 fy3688_bt hm65 iv65 hF1 hF2 hF3 hF4 hF5 hF6 hF7
      have rx3685 := i_rng x3685
      exfalso
      omega
    | succ nf ih65 =>
      intro F ls3679 H3678 locsH3678 q3681 x3682 x3683 x3684 x3685 x3686 x3687 hl3680 hTH3678 hSH3678 gq3681 bx3682 bx3683 bx3684 bx3686 bx3687 ex3683 ex3684 ex3685 ex3686 ex3687 cy3688_0 cy3688_1 cy3688_2 cy3688_3 cy3688_4 cy3688_5 cy3688_6 cy3688_7 cy3688_8 cy3688_9 cy3688_10 cy3688_11 cy3688_12 fy3688_bt hm65 iv65 hF1 hF2 hF3 hF4 hF5 hF6 hF7
      have rx3685 := i_rng x3685
      refine lv_iload hx hb dX9_text_65 (lv_at hl3680 2 rfl) ?_
      refine lv_bipush (v := 16) hx hb dX9_text_67 (by decide) ?_
      refine lv_icmp_gt (tgt := 96) hx hb dX9_text_69 (by decide) (fun c3689 => ?_) (fun c3689 => ?_)
      · have k3690 := i_lt c3689
        refine lv_aload_n hx hb dX9_text_96 rfl (lv_at hl3680 0 rfl) ?_
        refine x_gr C hTH3678 (ci := 9) (k := 4) rfl inX9 (by decide) wF_X9_23 ga0 rg_68 rfl dX9_text_97 (fun q3691 eq3691 gq3691 => ?_)
        have uq3691 : rq = q3691 := (cy3688_1).trans eq3691.symm
        subst uq3691
        refine x_gi C hTH3678 (ci := 4) (k := 1) rfl inX4 (by decide) wF_X9_132 grq rg_78 rfl dX9_text_100 (fun x3692 ex3692 bx3692 => ?_)
        have ux3692 : x3685 = x3692 := (ex3685).trans ex3692.symm
        subst ux3692
        refine lv_if_eq (tgt := 136) hx hb dX9_text_103 (by decide) (fun c3693 => ?_) (fun c3693 => ?_)
        · have k3694 := i_eq c3693
          refine lv_aload hx hb dX9_text_136 (lv_at hl3680 1 rfl) ?_
          refine lv_aload_n hx hb dX9_text_138 rfl (lv_at hl3680 0 rfl) ?_
          refine x_gr C hTH3678 (ci := 9) (k := 4) rfl inX9 (by decide) wF_X9_23 ga0 rg_68 rfl dX9_text_139 (fun q3695 eq3695 gq3695 => ?_)
          have uq3695 : rq = q3695 := (cy3688_1).trans eq3695.symm
          subst uq3695
          refine x_gr C hTH3678 (ci := 4) (k := 0) rfl inX4 (by decide) wF_X9_134 grq rg_78 rfl dX9_text_142 (fun q3696 eq3696 gq3696 => ?_)
          have uq3696 : mq = q3696 := (cy3688_3).trans eq3696.symm
          subst uq3696
          obtain ⟨x3697, ex3697⟩ : ∃ z : Int32, z = fI H3678 q3681 (K.1.2 7 0) := ⟨_, rfl⟩
          have bx3697 := ty_fi (x := x3697) (k := 0) ex3697 hTH3678 gq3681 rg_16 rfl
          refine x_V (As := [.ref mq]) (rest := []) C (a_X7_copyFrom_e l K G H3678 (x3697) (x3686) hTH3678 gq3681 gmq ex3697 ex3686) yo_X7_copyFrom wM_X9_138 ⟨⟨by decide, by decide⟩, by decide, by decide⟩ (x_rv C hTH3678 (ci := 7) rfl gq3681 rg_16) rfl hl3680.1 rfl (Nat.le_of_ble_eq_true rfl) dX9_text_145 hSH3678 (AE_sub (fun _ _ => rfl) (by decide) hSH3678.1) (fun vH3698 H3698 locsH3698 pH3698 zH3698 kH3698 hSH3698 => ?_)
          obtain ⟨x3699, hvH3698, ex3699, hrH3698, hTH3698⟩ := pH3698
          subst hvH3698
          have f3700 : ∀ j : Nat, bt j = (fI H3698 tq j).toInt := fun j => (fy3688_bt j).trans (congrArg Int32.toInt (fI_kept (x_lt hTH3678 kH3698 gtq (by decide))).symm)
          have f3701 : ∀ j : Nat, j ≤ F.toNatClampNeg → (kK bt tp.toNatClampNeg) j = (fI H3698 kq j).toInt := fun j hj => (hF4 j hj).trans (congrArg Int32.toInt (fI_kept (x_lt hTH3678 kH3698 gkq (by decide))).symm)
          have f3702 : ∀ j : Nat, j ≤ F.toNatClampNeg → (vV bt tp.toNatClampNeg) j = (fI H3698 vq j).toInt := fun j hj => (hF5 j hj).trans (congrArg Int32.toInt (fI_kept (x_lt hTH3678 kH3698 gvq (by decide))).symm)
          have m3703 := (ex3683).trans (fI_kept (x_lt hTH3678 kH3698 ga0 (by decide))).symm
          have m3704 := (ex3684).trans (fI_kept (x_lt hTH3678 kH3698 grq (by decide))).symm
          have m3705 := (ex3685).trans (fI_kept (x_lt hTH3678 kH3698 grq (by decide))).symm
          have m3706 := (ex3686).trans (fI_kept (x_lt hTH3678 kH3698 gmq (by decide))).symm
          have m3707 := (ex3687).trans (fI_kept (x_lt hTH3678 kH3698 grq (by decide))).symm
          have m3708 := (cy3688_0).trans (fR_kept (x_lt hTH3678 kH3698 ga0 (by decide))).symm
          have m3709 := (cy3688_1).trans (fR_kept (x_lt hTH3678 kH3698 ga0 (by decide))).symm
          have m3710 := (cy3688_2).trans (fR_kept (x_lt hTH3678 kH3698 ga0 (by decide))).symm
          have m3711 := (cy3688_3).trans (fR_kept (x_lt hTH3678 kH3698 grq (by decide))).symm
          have m3712 := (cy3688_4).trans (fR_kept (x_lt hTH3678 kH3698 grq (by decide))).symm
          have m3713 := (cy3688_5).trans (fR_kept (x_lt hTH3678 kH3698 grq (by decide))).symm
          have m3714 := (cy3688_6).trans (fI_kept (x_lt hTH3678 kH3698 gwq (by decide))).symm
          have m3715 := (cy3688_7).trans (fI_kept (x_lt hTH3678 kH3698 gwq (by decide))).symm
          have m3716 := (cy3688_8).trans (fI_kept (x_lt hTH3678 kH3698 gwq (by decide))).symm
          have m3717 := (cy3688_9).trans (fI_kept (x_lt hTH3678 kH3698 gwq (by decide))).symm
          have m3718 := (cy3688_10).trans (fI_kept (x_lt hTH3678 kH3698 gwq (by decide))).symm
          have m3719 := (cy3688_11).trans (fI_kept (x_lt hTH3678 kH3698 gwq (by decide))).symm
          have m3720 := (fV_kept (x_lt hTH3678 kH3698 ga0 (by decide))).trans cy3688_12
          have m3721 := (fI_kept (x_lt hTH3678 kH3698 gkq (by decide))).trans hF3
          have bx3699 := ty_fi (x := x3699) (k := 0) ex3699 hTH3698 gq3681 rg_16 rfl
          refine W.eq (g2 := F0 m 148 ls3679 []) rfl ?_
          refine lv_aload hx hb dX9_text_148 (lv_at hl3680 1 rfl) ?_
          refine x_gi C hTH3698 (ci := 7) (k := 0) rfl inX7 (by decide) wF_X9_144 gq3681 rg_16 rfl dX9_text_150 (fun x3722 ex3722 bx3722 => ?_)
          have ux3722 : x3699 = x3722 := (ex3699).trans ex3722.symm
          subst ux3722
          have cn_x3686 := i_cl (x := x3686) (by omega)
          have cn_x3684 := i_cl (x := x3684) (by omega)
          have cn_x3682 := i_cl (x := x3682) (by omega)
          have cn_F := i_cl (x := F) (by omega)
          exact x_iret C hQ dX9_text_153 hSH3698 (by decide) (by decide) (⟨x3699, x3683, x3684, x3685, x3686, x3687, rfl, m3703, m3704, m3705, m3706, m3707, by omega, m3708, m3709, m3710, m3711, m3712, m3713, m3714, m3715, m3716, m3717, m3718, m3719, Or.inl ⟨by omega, Or.inr ⟨x3686.toNatClampNeg, (HD.get hF6 (by omega)).trans (tx_end (by omega) (by omega)), by omega⟩⟩, m3720, hTH3698⟩)
        · have k3694 := i_ne c3693
          refine lv_aload_n hx hb dX9_text_106 rfl (lv_at hl3680 0 rfl) ?_
          refine x_gr C hTH3678 (ci := 9) (k := 0) rfl inX9 (by decide) wF_X9_12 ga0 rg_68 rfl dX9_text_107 (fun q3723 eq3723 gq3723 => ?_)
          have uq3723 : wq = q3723 := (cy3688_0).trans eq3723.symm
          subst uq3723
          refine lv_aload_n hx hb dX9_text_110 rfl (lv_at hl3680 0 rfl) ?_
          refine x_gr C hTH3678 (ci := 9) (k := 4) rfl inX9 (by decide) wF_X9_23 ga0 rg_68 rfl dX9_text_111 (fun q3724 eq3724 gq3724 => ?_)
          have uq3724 : rq = q3724 := (cy3688_1).trans eq3724.symm
          subst uq3724
          refine x_gi C hTH3678 (ci := 4) (k := 1) rfl inX4 (by decide) wF_X9_132 grq rg_78 rfl dX9_text_114 (fun x3725 ex3725 bx3725 => ?_)
          have ux3725 : x3685 = x3725 := (ex3685).trans ex3725.symm
          subst ux3725
          refine x_put C hTH3678 hSH3678 (ci := 8) (k := 6) (v := .int x3685) (ty0 := tyX8) rfl inX8 tyX8_ok nmX8 (by decide) rfl wF_X9_111 gwq rg_0 rfl rfl (okI (by have := i_rng x3685; omega) (by have := i_rng x3685; omega)) rfl rfl (AE_in gwq (by decide)) dX9_text_117 (fun H3726 locsH3726 hTH3726 hSH3726 wH3726 => ?_)
          have f3727 : ∀ j : Nat, bt j = (fI H3726 tq j).toInt := fun j => (fy3688_bt j).trans (congrArg Int32.toInt (Wr.neI wH3726 (Or.inl (G_ne gtq gwq (by decide)))).symm)
          have f3728 : ∀ j : Nat, j ≤ F.toNatClampNeg → (kK bt tp.toNatClampNeg) j = (fI H3726 kq j).toInt := fun j hj => (hF4 j hj).trans (congrArg Int32.toInt (Wr.neI wH3726 (Or.inl (G_ne gkq gwq (by decide)))).symm)
          have f3729 : ∀ j : Nat, j ≤ F.toNatClampNeg → (vV bt tp.toNatClampNeg) j = (fI H3726 vq j).toInt := fun j hj => (hF5 j hj).trans (congrArg Int32.toInt (Wr.neI wH3726 (Or.inl (G_ne gvq gwq (by decide)))).symm)
          have m3730 := ex3683.trans (Wr.neI wH3726 (Or.inl (G_ne ga0 gwq (by decide)))).symm
          have m3731 := ex3684.trans (Wr.neI wH3726 (Or.inl (G_ne grq gwq (by decide)))).symm
          have m3732 := ex3685.trans (Wr.neI wH3726 (Or.inl (G_ne grq gwq (by decide)))).symm
          have m3733 := ex3686.trans (Wr.neI wH3726 (Or.inl (G_ne gmq gwq (by decide)))).symm
          have m3734 := ex3687.trans (Wr.neI wH3726 (Or.inl (G_ne grq gwq (by decide)))).symm
          have m3735 := cy3688_0.trans (Wr.neR wH3726 (Or.inl (G_ne ga0 gwq (by decide)))).symm
          have m3736 := cy3688_1.trans (Wr.neR wH3726 (Or.inl (G_ne ga0 gwq (by decide)))).symm
          have m3737 := cy3688_2.trans (Wr.neR wH3726 (Or.inl (G_ne ga0 gwq (by decide)))).symm
          have m3738 := cy3688_3.trans (Wr.neR wH3726 (Or.inl (G_ne grq gwq (by decide)))).symm
          have m3739 := cy3688_4.trans (Wr.neR wH3726 (Or.inl (G_ne grq gwq (by decide)))).symm
          have m3740 := cy3688_5.trans (Wr.neR wH3726 (Or.inl (G_ne grq gwq (by decide)))).symm
          have m3741 := cy3688_6.trans (Wr.neI wH3726 (Or.inr (x_apart hKT hts inX8 tyX8 tyX8_ok nmX8 rfl 1 6 (by decide) (by decide) (by decide)))).symm
          have m3742 := cy3688_7.trans (Wr.neI wH3726 (Or.inr (x_apart hKT hts inX8 tyX8 tyX8_ok nmX8 rfl 4 6 (by decide) (by decide) (by decide)))).symm
          have m3743 := cy3688_8.trans (Wr.neI wH3726 (Or.inr (x_apart hKT hts inX8 tyX8 tyX8_ok nmX8 rfl 5 6 (by decide) (by decide) (by decide)))).symm
          have m3744 := cy3688_9.trans (Wr.neI wH3726 (Or.inr (x_apart hKT hts inX8 tyX8 tyX8_ok nmX8 rfl 10 6 (by decide) (by decide) (by decide)))).symm
          have m3745 := cy3688_10.trans (Wr.neI wH3726 (Or.inr (x_apart hKT hts inX8 tyX8 tyX8_ok nmX8 rfl 13 6 (by decide) (by decide) (by decide)))).symm
          have m3746 := cy3688_11.trans (Wr.neI wH3726 (Or.inr (x_apart hKT hts inX8 tyX8 tyX8_ok nmX8 rfl 16 6 (by decide) (by decide) (by decide)))).symm
          have m3747 := (Wr.neV wH3726 (Or.inl (G_ne ga0 gwq (by decide)))).trans cy3688_12
          have m3748 := (Wr.neI wH3726 (Or.inl (G_ne gkq gwq (by decide)))).trans hF3
          have m3749 := Wr.I wH3726
          have m3749 := m3749.symm
          refine lv_aload_n hx hb dX9_text_120 rfl (lv_at hl3680 0 rfl) ?_
          refine x_gr C hTH3726 (ci := 9) (k := 0) rfl inX9 (by decide) wF_X9_12 ga0 rg_68 rfl dX9_text_121 (fun q3750 eq3750 gq3750 => ?_)
          have uq3750 : wq = q3750 := (m3735).trans eq3750.symm
          subst uq3750
          refine lv_aload_n hx hb dX9_text_124 rfl (lv_at hl3680 0 rfl) ?_
          refine x_gr C hTH3726 (ci := 9) (k := 4) rfl inX9 (by decide) wF_X9_23 ga0 rg_68 rfl dX9_text_125 (fun q3751 eq3751 gq3751 => ?_)
          have uq3751 : rq = q3751 := (m3736).trans eq3751.symm
          subst uq3751
          refine x_gi C hTH3726 (ci := 4) (k := 2) rfl inX4 (by decide) wF_X9_133 grq rg_78 rfl dX9_text_128 (fun x3752 ex3752 bx3752 => ?_)
          refine x_put C hTH3726 hSH3726 (ci := 8) (k := 7) (v := .int x3752) (ty0 := tyX8) rfl inX8 tyX8_ok nmX8 (by decide) rfl wF_X9_114 gwq rg_0 rfl rfl (okI (by have := i_rng x3752; omega) (by have := i_rng x3752; omega)) rfl rfl (AE_in gwq (by decide)) dX9_text_131 (fun H3753 locsH3753 hTH3753 hSH3753 wH3753 => ?_)
          have f3754 : ∀ j : Nat, bt j = (fI H3753 tq j).toInt := fun j => (f3727 j).trans (congrArg Int32.toInt (Wr.neI wH3753 (Or.inl (G_ne gtq gwq (by decide)))).symm)
          have f3755 : ∀ j : Nat, j ≤ F.toNatClampNeg → (kK bt tp.toNatClampNeg) j = (fI H3753 kq j).toInt := fun j hj => (f3728 j hj).trans (congrArg Int32.toInt (Wr.neI wH3753 (Or.inl (G_ne gkq gwq (by decide)))).symm)
          have f3756 : ∀ j : Nat, j ≤ F.toNatClampNeg → (vV bt tp.toNatClampNeg) j = (fI H3753 vq j).toInt := fun j hj => (f3729 j hj).trans (congrArg Int32.toInt (Wr.neI wH3753 (Or.inl (G_ne gvq gwq (by decide)))).symm)
          have m3757 := m3730.trans (Wr.neI wH3753 (Or.inl (G_ne ga0 gwq (by decide)))).symm
          have m3758 := m3731.trans (Wr.neI wH3753 (Or.inl (G_ne grq gwq (by decide)))).symm
          have m3759 := m3732.trans (Wr.neI wH3753 (Or.inl (G_ne grq gwq (by decide)))).symm
          have m3760 := m3733.trans (Wr.neI wH3753 (Or.inl (G_ne gmq gwq (by decide)))).symm
          have m3761 := m3734.trans (Wr.neI wH3753 (Or.inl (G_ne grq gwq (by decide)))).symm
          have m3762 := m3735.trans (Wr.neR wH3753 (Or.inl (G_ne ga0 gwq (by decide)))).symm
          have m3763 := m3736.trans (Wr.neR wH3753 (Or.inl (G_ne ga0 gwq (by decide)))).symm
          have m3764 := m3737.trans (Wr.neR wH3753 (Or.inl (G_ne ga0 gwq (by decide)))).symm
          have m3765 := m3738.trans (Wr.neR wH3753 (Or.inl (G_ne grq gwq (by decide)))).symm
          have m3766 := m3739.trans (Wr.neR wH3753 (Or.inl (G_ne grq gwq (by decide)))).symm
          have m3767 := m3740.trans (Wr.neR wH3753 (Or.inl (G_ne grq gwq (by decide)))).symm
          have m3768 := m3741.trans (Wr.neI wH3753 (Or.inr (x_apart hKT hts inX8 tyX8 tyX8_ok nmX8 rfl 1 7 (by decide) (by decide) (by decide)))).symm
          have m3769 := m3742.trans (Wr.neI wH3753 (Or.inr (x_apart hKT hts inX8 tyX8 tyX8_ok nmX8 rfl 4 7 (by decide) (by decide) (by decide)))).symm
          have m3770 := m3743.trans (Wr.neI wH3753 (Or.inr (x_apart hKT hts inX8 tyX8 tyX8_ok nmX8 rfl 5 7 (by decide) (by decide) (by decide)))).symm
          have m3771 := m3744.trans (Wr.neI wH3753 (Or.inr (x_apart hKT hts inX8 tyX8 tyX8_ok nmX8 rfl 10 7 (by decide) (by decide) (by decide)))).symm
          have m3772 := m3745.trans (Wr.neI wH3753 (Or.inr (x_apart hKT hts inX8 tyX8 tyX8_ok nmX8 rfl 13 7 (by decide) (by decide) (by decide)))).symm
          have m3773 := m3746.trans (Wr.neI wH3753 (Or.inr (x_apart hKT hts inX8 tyX8 tyX8_ok nmX8 rfl 16 7 (by decide) (by decide) (by decide)))).symm
          have m3774 := (Wr.neV wH3753 (Or.inl (G_ne ga0 gwq (by decide)))).trans m3747
          have m3775 := (Wr.neI wH3753 (Or.inl (G_ne gkq gwq (by decide)))).trans m3748
          have m3776 := m3749.trans (Wr.neI wH3753 (Or.inr (x_apart hKT hts inX8 tyX8 tyX8_ok nmX8 rfl 6 7 (by decide) (by decide) (by decide)))).symm
          have m3777 := ex3752.trans (Wr.neI wH3753 (Or.inl (G_ne grq gwq (by decide)))).symm
          have m3778 := Wr.I wH3753
          have m3778 := m3778.symm
          refine lv_iconst (v := (-1)) hx hb dX9_text_134 (by decide) ?_
          have cn_x3686 := i_cl (x := x3686) (by omega)
          have cn_x3684 := i_cl (x := x3684) (by omega)
          have cn_x3682 := i_cl (x := x3682) (by omega)
          have cn_F := i_cl (x := F) (by omega)
          exact x_iret C hQ dX9_text_135 hSH3753 (by decide) (by decide) (⟨(-1), x3683, x3684, x3685, x3686, x3687, rfl, m3757, m3758, m3759, m3760, m3761, by omega, m3762, m3763, m3764, m3765, m3766, m3767, m3768, m3769, m3770, m3771, m3772, m3773, Or.inl ⟨by omega, Or.inl ⟨HD.get hF7 (by omega), by omega⟩⟩, m3774, hTH3753⟩)
      · have k3690 := i_nlt c3689
        refine lv_aload_n hx hb dX9_text_72 rfl (lv_at hl3680 0 rfl) ?_
        refine x_gr C hTH3678 (ci := 9) (k := 4) rfl inX9 (by decide) wF_X9_23 ga0 rg_68 rfl dX9_text_73 (fun q3779 eq3779 gq3779 => ?_)
        have uq3779 : rq = q3779 := (cy3688_1).trans eq3779.symm
        subst uq3779
        refine x_V (As := []) (rest := []) C (a_X4_goesOn_e l K G H3678 (F) (x3684) (x3685) (kK bt tp.toNatClampNeg) (vV bt tp.toNatClampNeg) hTH3678 grq gmq cy3688_3 gkq cy3688_4 gvq cy3688_5 ex3684 ex3685 hF3 (by omega) (by omega) hF4 hF5) yo_X4_goesOn wM_X9_125 ⟨⟨by decide, by decide⟩, by decide, by decide⟩ (x_rv C hTH3678 (ci := 4) rfl grq rg_78) rfl hl3680.1 rfl (Nat.le_of_ble_eq_true rfl) dX9_text_76 hSH3678 (AE_sub (fun _ _ => rfl) (by decide) hSH3678.1) (fun vH3780 H3780 locsH3780 pH3780 zH3780 kH3780 hSH3780 => ?_)
        obtain ⟨x3781, hvH3780, bx3781, hrH3780, hTH3780⟩ := pH3780
        subst hvH3780
        have f3782 : ∀ j : Nat, bt j = (fI H3780 tq j).toInt := fun j => (fy3688_bt j).trans (congrArg Int32.toInt (fI_kept (x_lt hTH3678 kH3780 gtq (by decide))).symm)
        have f3783 : ∀ j : Nat, j ≤ F.toNatClampNeg → (kK bt tp.toNatClampNeg) j = (fI H3780 kq j).toInt := fun j hj => (hF4 j hj).trans (congrArg Int32.toInt (fI_kept (x_lt hTH3678 kH3780 gkq (by decide))).symm)
        have f3784 : ∀ j : Nat, j ≤ F.toNatClampNeg → (vV bt tp.toNatClampNeg) j = (fI H3780 vq j).toInt := fun j hj => (hF5 j hj).trans (congrArg Int32.toInt (fI_kept (x_lt hTH3678 kH3780 gvq (by decide))).symm)
        have m3785 := (ex3683).trans (fI_kept (x_lt hTH3678 kH3780 ga0 (by decide))).symm
        have m3786 := (ex3684).trans (fI_kept (x_lt hTH3678 kH3780 grq (by decide))).symm
        have m3787 := (ex3685).trans (fI_kept (x_lt hTH3678 kH3780 grq (by decide))).symm
        have m3788 := (ex3686).trans (fI_kept (x_lt hTH3678 kH3780 gmq (by decide))).symm
        have m3789 := (ex3687).trans (fI_kept (x_lt hTH3678 kH3780 grq (by decide))).symm
        have m3790 := (cy3688_0).trans (fR_kept (x_lt hTH3678 kH3780 ga0 (by decide))).symm
        have m3791 := (cy3688_1).trans (fR_kept (x_lt hTH3678 kH3780 ga0 (by decide))).symm
        have m3792 := (cy3688_2).trans (fR_kept (x_lt hTH3678 kH3780 ga0 (by decide))).symm
        have m3793 := (cy3688_3).trans (fR_kept (x_lt hTH3678 kH3780 grq (by decide))).symm
        have m3794 := (cy3688_4).trans (fR_kept (x_lt hTH3678 kH3780 grq (by decide))).symm
        have m3795 := (cy3688_5).trans (fR_kept (x_lt hTH3678 kH3780 grq (by decide))).symm
        have m3796 := (cy3688_6).trans (fI_kept (x_lt hTH3678 kH3780 gwq (by decide))).symm
        have m3797 := (cy3688_7).trans (fI_kept (x_lt hTH3678 kH3780 gwq (by decide))).symm
        have m3798 := (cy3688_8).trans (fI_kept (x_lt hTH3678 kH3780 gwq (by decide))).symm
        have m3799 := (cy3688_9).trans (fI_kept (x_lt hTH3678 kH3780 gwq (by decide))).symm
        have m3800 := (cy3688_10).trans (fI_kept (x_lt hTH3678 kH3780 gwq (by decide))).symm
        have m3801 := (cy3688_11).trans (fI_kept (x_lt hTH3678 kH3780 gwq (by decide))).symm
        have m3802 := (fV_kept (x_lt hTH3678 kH3780 ga0 (by decide))).trans cy3688_12
        have m3803 := (fI_kept (x_lt hTH3678 kH3780 gkq (by decide))).trans hF3
        refine W.eq (g2 := F0 m 79 ls3679 [.int x3781]) rfl ?_
        refine lv_if_eq (tgt := 96) hx hb dX9_text_79 (by decide) (fun c3804 => ?_) (fun c3804 => ?_)
        · have k3805 := i_eq c3804
          refine lv_aload_n hx hb dX9_text_96 rfl (lv_at hl3680 0 rfl) ?_
          refine x_gr C hTH3780 (ci := 9) (k := 4) rfl inX9 (by decide) wF_X9_23 ga0 rg_68 rfl dX9_text_97 (fun q3806 eq3806 gq3806 => ?_)
          have uq3806 : rq = q3806 := (m3791).trans eq3806.symm
          subst uq3806
          refine x_gi C hTH3780 (ci := 4) (k := 1) rfl inX4 (by decide) wF_X9_132 grq rg_78 rfl dX9_text_100 (fun x3807 ex3807 bx3807 => ?_)
          have ux3807 : x3685 = x3807 := (m3787).trans ex3807.symm
          subst ux3807
          refine lv_if_eq (tgt := 136) hx hb dX9_text_103 (by decide) (fun c3808 => ?_) (fun c3808 => ?_)
          · have k3809 := i_eq c3808
            refine lv_aload hx hb dX9_text_136 (lv_at hl3680 1 rfl) ?_
            refine lv_aload_n hx hb dX9_text_138 rfl (lv_at hl3680 0 rfl) ?_
            refine x_gr C hTH3780 (ci := 9) (k := 4) rfl inX9 (by decide) wF_X9_23 ga0 rg_68 rfl dX9_text_139 (fun q3810 eq3810 gq3810 => ?_)
            have uq3810 : rq = q3810 := (m3791).trans eq3810.symm
            subst uq3810
            refine x_gr C hTH3780 (ci := 4) (k := 0) rfl inX4 (by decide) wF_X9_134 grq rg_78 rfl dX9_text_142 (fun q3811 eq3811 gq3811 => ?_)
            have uq3811 : mq = q3811 := (m3793).trans eq3811.symm
            subst uq3811
            obtain ⟨x3812, ex3812⟩ : ∃ z : Int32, z = fI H3780 q3681 (K.1.2 7 0) := ⟨_, rfl⟩
            have bx3812 := ty_fi (x := x3812) (k := 0) ex3812 hTH3780 gq3681 rg_16 rfl
            refine x_V (As := [.ref mq]) (rest := []) C (a_X7_copyFrom_e l K G H3780 (x3812) (x3686) hTH3780 gq3681 gmq ex3812 m3788) yo_X7_copyFrom wM_X9_138 ⟨⟨by decide, by decide⟩, by decide, by decide⟩ (x_rv C hTH3780 (ci := 7) rfl gq3681 rg_16) rfl hl3680.1 rfl (Nat.le_of_ble_eq_true rfl) dX9_text_145 hSH3780 (AE_sub (fun _ _ => rfl) (by decide) hSH3780.1) (fun vH3813 H3813 locsH3813 pH3813 zH3813 kH3813 hSH3813 => ?_)
            obtain ⟨x3814, hvH3813, ex3814, hrH3813, hTH3813⟩ := pH3813
            subst hvH3813
            have f3815 : ∀ j : Nat, bt j = (fI H3813 tq j).toInt := fun j => (f3782 j).trans (congrArg Int32.toInt (fI_kept (x_lt hTH3780 kH3813 gtq (by decide))).symm)
            have f3816 : ∀ j : Nat, j ≤ F.toNatClampNeg → (kK bt tp.toNatClampNeg) j = (fI H3813 kq j).toInt := fun j hj => (f3783 j hj).trans (congrArg Int32.toInt (fI_kept (x_lt hTH3780 kH3813 gkq (by decide))).symm)
            have f3817 : ∀ j : Nat, j ≤ F.toNatClampNeg → (vV bt tp.toNatClampNeg) j = (fI H3813 vq j).toInt := fun j hj => (f3784 j hj).trans (congrArg Int32.toInt (fI_kept (x_lt hTH3780 kH3813 gvq (by decide))).symm)
            have m3818 := (m3785).trans (fI_kept (x_lt hTH3780 kH3813 ga0 (by decide))).symm
            have m3819 := (m3786).trans (fI_kept (x_lt hTH3780 kH3813 grq (by decide))).symm
            have m3820 := (m3787).trans (fI_kept (x_lt hTH3780 kH3813 grq (by decide))).symm
            have m3821 := (m3788).trans (fI_kept (x_lt hTH3780 kH3813 gmq (by decide))).symm
            have m3822 := (m3789).trans (fI_kept (x_lt hTH3780 kH3813 grq (by decide))).symm
            have m3823 := (m3790).trans (fR_kept (x_lt hTH3780 kH3813 ga0 (by decide))).symm
            have m3824 := (m3791).trans (fR_kept (x_lt hTH3780 kH3813 ga0 (by decide))).symm
            have m3825 := (m3792).trans (fR_kept (x_lt hTH3780 kH3813 ga0 (by decide))).symm
            have m3826 := (m3793).trans (fR_kept (x_lt hTH3780 kH3813 grq (by decide))).symm
            have m3827 := (m3794).trans (fR_kept (x_lt hTH3780 kH3813 grq (by decide))).symm
            have m3828 := (m3795).trans (fR_kept (x_lt hTH3780 kH3813 grq (by decide))).symm
            have m3829 := (m3796).trans (fI_kept (x_lt hTH3780 kH3813 gwq (by decide))).symm
            have m3830 := (m3797).trans (fI_kept (x_lt hTH3780 kH3813 gwq (by decide))).symm
            have m3831 := (m3798).trans (fI_kept (x_lt hTH3780 kH3813 gwq (by decide))).symm
            have m3832 := (m3799).trans (fI_kept (x_lt hTH3780 kH3813 gwq (by decide))).symm
            have m3833 := (m3800).trans (fI_kept (x_lt hTH3780 kH3813 gwq (by decide))).symm
            have m3834 := (m3801).trans (fI_kept (x_lt hTH3780 kH3813 gwq (by decide))).symm
            have m3835 := (fV_kept (x_lt hTH3780 kH3813 ga0 (by decide))).trans m3802
            have m3836 := (fI_kept (x_lt hTH3780 kH3813 gkq (by decide))).trans m3803
            have bx3814 := ty_fi (x := x3814) (k := 0) ex3814 hTH3813 gq3681 rg_16 rfl
            refine W.eq (g2 := F0 m 148 ls3679 []) rfl ?_
            refine lv_aload hx hb dX9_text_148 (lv_at hl3680 1 rfl) ?_
            refine x_gi C hTH3813 (ci := 7) (k := 0) rfl inX7 (by decide) wF_X9_144 gq3681 rg_16 rfl dX9_text_150 (fun x3837 ex3837 bx3837 => ?_)
            have ux3837 : x3814 = x3837 := (ex3814).trans ex3837.symm
            subst ux3837
            have cn_x3686 := i_cl (x := x3686) (by omega)
            have cn_x3684 := i_cl (x := x3684) (by omega)
            have cn_x3682 := i_cl (x := x3682) (by omega)
            have cn_F := i_cl (x := F) (by omega)
            exact x_iret C hQ dX9_text_153 hSH3813 (by decide) (by decide) (⟨x3814, x3683, x3684, x3685, x3686, x3687, rfl, m3818, m3819, m3820, m3821, m3822, by omega, m3823, m3824, m3825, m3826, m3827, m3828, m3829, m3830, m3831, m3832, m3833, m3834, Or.inl ⟨by omega, Or.inr ⟨x3686.toNatClampNeg, (HD.get hF6 (by omega)).trans (tx_end (by omega) (by omega)), by omega⟩⟩, m3835, hTH3813⟩)
          · have k3809 := i_ne c3808
            refine lv_aload_n hx hb dX9_text_106 rfl (lv_at hl3680 0 rfl) ?_
            refine x_gr C hTH3780 (ci := 9) (k := 0) rfl inX9 (by decide) wF_X9_12 ga0 rg_68 rfl dX9_text_107 (fun q3838 eq3838 gq3838 => ?_)
            have uq3838 : wq = q3838 := (m3790).trans eq3838.symm
            subst uq3838
            refine lv_aload_n hx hb dX9_text_110 rfl (lv_at hl3680 0 rfl) ?_
            refine x_gr C hTH3780 (ci := 9) (k := 4) rfl inX9 (by decide) wF_X9_23 ga0 rg_68 rfl dX9_text_111 (fun q3839 eq3839 gq3839 => ?_)
            have uq3839 : rq = q3839 := (m3791).trans eq3839.symm
            subst uq3839
            refine x_gi C hTH3780 (ci := 4) (k := 1) rfl inX4 (by decide) wF_X9_132 grq rg_78 rfl dX9_text_114 (fun x3840 ex3840 bx3840 => ?_)
            have ux3840 : x3685 = x3840 := (m3787).trans ex3840.symm
            subst ux3840
            refine x_put C hTH3780 hSH3780 (ci := 8) (k := 6) (v := .int x3685) (ty0 := tyX8) rfl inX8 tyX8_ok nmX8 (by decide) rfl wF_X9_111 gwq rg_0 rfl rfl (okI (by have := i_rng x3685; omega) (by have := i_rng x3685; omega)) rfl rfl (AE_in gwq (by decide)) dX9_text_117 (fun H3841 locsH3841 hTH3841 hSH3841 wH3841 => ?_)
            have f3842 : ∀ j : Nat, bt j = (fI H3841 tq j).toInt := fun j => (f3782 j).trans (congrArg Int32.toInt (Wr.neI wH3841 (Or.inl (G_ne gtq gwq (by decide)))).symm)
            have f3843 : ∀ j : Nat, j ≤ F.toNatClampNeg → (kK bt tp.toNatClampNeg) j = (fI H3841 kq j).toInt := fun j hj => (f3783 j hj).trans (congrArg Int32.toInt (Wr.neI wH3841 (Or.inl (G_ne gkq gwq (by decide)))).symm)
            have f3844 : ∀ j : Nat, j ≤ F.toNatClampNeg → (vV bt tp.toNatClampNeg) j = (fI H3841 vq j).toInt := fun j hj => (f3784 j hj).trans (congrArg Int32.toInt (Wr.neI wH3841 (Or.inl (G_ne gvq gwq (by decide)))).symm)
            have m3845 := m3785.trans (Wr.neI wH3841 (Or.inl (G_ne ga0 gwq (by decide)))).symm
            have m3846 := m3786.trans (Wr.neI wH3841 (Or.inl (G_ne grq gwq (by decide)))).symm
            have m3847 := m3787.trans (Wr.neI wH3841 (Or.inl (G_ne grq gwq (by decide)))).symm
            have m3848 := m3788.trans (Wr.neI wH3841 (Or.inl (G_ne gmq gwq (by decide)))).symm
            have m3849 := m3789.trans (Wr.neI wH3841 (Or.inl (G_ne grq gwq (by decide)))).symm
            have m3850 := m3790.trans (Wr.neR wH3841 (Or.inl (G_ne ga0 gwq (by decide)))).symm
            have m3851 := m3791.trans (Wr.neR wH3841 (Or.inl (G_ne ga0 gwq (by decide)))).symm
            have m3852 := m3792.trans (Wr.neR wH3841 (Or.inl (G_ne ga0 gwq (by decide)))).symm
            have m3853 := m3793.trans (Wr.neR wH3841 (Or.inl (G_ne grq gwq (by decide)))).symm
            have m3854 := m3794.trans (Wr.neR wH3841 (Or.inl (G_ne grq gwq (by decide)))).symm
            have m3855 := m3795.trans (Wr.neR wH3841 (Or.inl (G_ne grq gwq (by decide)))).symm
            have m3856 := m3796.trans (Wr.neI wH3841 (Or.inr (x_apart hKT hts inX8 tyX8 tyX8_ok nmX8 rfl 1 6 (by decide) (by decide) (by decide)))).symm
            have m3857 := m3797.trans (Wr.neI wH3841 (Or.inr (x_apart hKT hts inX8 tyX8 tyX8_ok nmX8 rfl 4 6 (by decide) (by decide) (by decide)))).symm
            have m3858 := m3798.trans (Wr.neI wH3841 (Or.inr (x_apart hKT hts inX8 tyX8 tyX8_ok nmX8 rfl 5 6 (by decide) (by decide) (by decide)))).symm
            have m3859 := m3799.trans (Wr.neI wH3841 (Or.inr (x_apart hKT hts inX8 tyX8 tyX8_ok nmX8 rfl 10 6 (by decide) (by decide) (by decide)))).symm
            have m3860 := m3800.trans (Wr.neI wH3841 (Or.inr (x_apart hKT hts inX8 tyX8 tyX8_ok nmX8 rfl 13 6 (by decide) (by decide) (by decide)))).symm
            have m3861 := m3801.trans (Wr.neI wH3841 (Or.inr (x_apart hKT hts inX8 tyX8 tyX8_ok nmX8 rfl 16 6 (by decide) (by decide) (by decide)))).symm
            have m3862 := (Wr.neV wH3841 (Or.inl (G_ne ga0 gwq (by decide)))).trans m3802
            have m3863 := (Wr.neI wH3841 (Or.inl (G_ne gkq gwq (by decide)))).trans m3803
            have m3864 := Wr.I wH3841
            have m3864 := m3864.symm
            refine lv_aload_n hx hb dX9_text_120 rfl (lv_at hl3680 0 rfl) ?_
            refine x_gr C hTH3841 (ci := 9) (k := 0) rfl inX9 (by decide) wF_X9_12 ga0 rg_68 rfl dX9_text_121 (fun q3865 eq3865 gq3865 => ?_)
            have uq3865 : wq = q3865 := (m3850).trans eq3865.symm
            subst uq3865
            refine lv_aload_n hx hb dX9_text_124 rfl (lv_at hl3680 0 rfl) ?_
            refine x_gr C hTH3841 (ci := 9) (k := 4) rfl inX9 (by decide) wF_X9_23 ga0 rg_68 rfl dX9_text_125 (fun q3866 eq3866 gq3866 => ?_)
            have uq3866 : rq = q3866 := (m3851).trans eq3866.symm
            subst uq3866
            refine x_gi C hTH3841 (ci := 4) (k := 2) rfl inX4 (by decide) wF_X9_133 grq rg_78 rfl dX9_text_128 (fun x3867 ex3867 bx3867 => ?_)
            refine x_put C hTH3841 hSH3841 (ci := 8) (k := 7) (v := .int x3867) (ty0 := tyX8) rfl inX8 tyX8_ok nmX8 (by decide) rfl wF_X9_114 gwq rg_0 rfl rfl (okI (by have := i_rng x3867; omega) (by have := i_rng x3867; omega)) rfl rfl (AE_in gwq (by decide)) dX9_text_131 (fun H3868 locsH3868 hTH3868 hSH3868 wH3868 => ?_)
            have f3869 : ∀ j : Nat, bt j = (fI H3868 tq j).toInt := fun j => (f3842 j).trans (congrArg Int32.toInt (Wr.neI wH3868 (Or.inl (G_ne gtq gwq (by decide)))).symm)
            have f3870 : ∀ j : Nat, j ≤ F.toNatClampNeg → (kK bt tp.toNatClampNeg) j = (fI H3868 kq j).toInt := fun j hj => (f3843 j hj).trans (congrArg Int32.toInt (Wr.neI wH3868 (Or.inl (G_ne gkq gwq (by decide)))).symm)
            have f3871 : ∀ j : Nat, j ≤ F.toNatClampNeg → (vV bt tp.toNatClampNeg) j = (fI H3868 vq j).toInt := fun j hj => (f3844 j hj).trans (congrArg Int32.toInt (Wr.neI wH3868 (Or.inl (G_ne gvq gwq (by decide)))).symm)
            have m3872 := m3845.trans (Wr.neI wH3868 (Or.inl (G_ne ga0 gwq (by decide)))).symm
            have m3873 := m3846.trans (Wr.neI wH3868 (Or.inl (G_ne grq gwq (by decide)))).symm
            have m3874 := m3847.trans (Wr.neI wH3868 (Or.inl (G_ne grq gwq (by decide)))).symm
            have m3875 := m3848.trans (Wr.neI wH3868 (Or.inl (G_ne gmq gwq (by decide)))).symm
            have m3876 := m3849.trans (Wr.neI wH3868 (Or.inl (G_ne grq gwq (by decide)))).symm
            have m3877 := m3850.trans (Wr.neR wH3868 (Or.inl (G_ne ga0 gwq (by decide)))).symm
            have m3878 := m3851.trans (Wr.neR wH3868 (Or.inl (G_ne ga0 gwq (by decide)))).symm
            have m3879 := m3852.trans (Wr.neR wH3868 (Or.inl (G_ne ga0 gwq (by decide)))).symm
            have m3880 := m3853.trans (Wr.neR wH3868 (Or.inl (G_ne grq gwq (by decide)))).symm
            have m3881 := m3854.trans (Wr.neR wH3868 (Or.inl (G_ne grq gwq (by decide)))).symm
            have m3882 := m3855.trans (Wr.neR wH3868 (Or.inl (G_ne grq gwq (by decide)))).symm
            have m3883 := m3856.trans (Wr.neI wH3868 (Or.inr (x_apart hKT hts inX8 tyX8 tyX8_ok nmX8 rfl 1 7 (by decide) (by decide) (by decide)))).symm
            have m3884 := m3857.trans (Wr.neI wH3868 (Or.inr (x_apart hKT hts inX8 tyX8 tyX8_ok nmX8 rfl 4 7 (by decide) (by decide) (by decide)))).symm
            have m3885 := m3858.trans (Wr.neI wH3868 (Or.inr (x_apart hKT hts inX8 tyX8 tyX8_ok nmX8 rfl 5 7 (by decide) (by decide) (by decide)))).symm
            have m3886 := m3859.trans (Wr.neI wH3868 (Or.inr (x_apart hKT hts inX8 tyX8 tyX8_ok nmX8 rfl 10 7 (by decide) (by decide) (by decide)))).symm
            have m3887 := m3860.trans (Wr.neI wH3868 (Or.inr (x_apart hKT hts inX8 tyX8 tyX8_ok nmX8 rfl 13 7 (by decide) (by decide) (by decide)))).symm
            have m3888 := m3861.trans (Wr.neI wH3868 (Or.inr (x_apart hKT hts inX8 tyX8 tyX8_ok nmX8 rfl 16 7 (by decide) (by decide) (by decide)))).symm
            have m3889 := (Wr.neV wH3868 (Or.inl (G_ne ga0 gwq (by decide)))).trans m3862
            have m3890 := (Wr.neI wH3868 (Or.inl (G_ne gkq gwq (by decide)))).trans m3863
            have m3891 := m3864.trans (Wr.neI wH3868 (Or.inr (x_apart hKT hts inX8 tyX8 tyX8_ok nmX8 rfl 6 7 (by decide) (by decide) (by decide)))).symm
            have m3892 := ex3867.trans (Wr.neI wH3868 (Or.inl (G_ne grq gwq (by decide)))).symm
            have m3893 := Wr.I wH3868
            have m3893 := m3893.symm
            refine lv_iconst (v := (-1)) hx hb dX9_text_134 (by decide) ?_
            have cn_x3686 := i_cl (x := x3686) (by omega)
            have cn_x3684 := i_cl (x := x3684) (by omega)
            have cn_x3682 := i_cl (x := x3682) (by omega)
            have cn_F := i_cl (x := F) (by omega)
            exact x_iret C hQ dX9_text_135 hSH3868 (by decide) (by decide) (⟨(-1), x3683, x3684, x3685, x3686, x3687, rfl, m3872, m3873, m3874, m3875, m3876, by omega, m3877, m3878, m3879, m3880, m3881, m3882, m3883, m3884, m3885, m3886, m3887, m3888, Or.inl ⟨by omega, Or.inl ⟨HD.get hF7 (by omega), by omega⟩⟩, m3889, hTH3868⟩)
        · have k3805 := i_ne c3804
          refine lv_aload_n hx hb dX9_text_82 rfl (lv_at hl3680 0 rfl) ?_
          refine x_gr C hTH3780 (ci := 9) (k := 4) rfl inX9 (by decide) wF_X9_23 ga0 rg_68 rfl dX9_text_83 (fun q3894 eq3894 gq3894 => ?_)
          have uq3894 : rq = q3894 := (m3791).trans eq3894.symm
          subst uq3894
          refine x_V (As := []) (rest := []) C (a_X4_line_e l K G H3780 (F) (x3684) (x3685) (x3686) (x3687) (kK bt tp.toNatClampNeg) (vV bt tp.toNatClampNeg) hTH3780 grq gmq m3793 gkq m3794 gvq m3795 m3786 m3787 m3788 m3789 m3803 (by omega) (by omega) f3783 f3784) yo_X4_line wM_X9_129 ⟨⟨by decide, by decide⟩, by decide, by decide⟩ (x_rv C hTH3780 (ci := 4) rfl grq rg_78) rfl hl3680.1 rfl (Nat.le_of_ble_eq_true rfl) dX9_text_86 hSH3780 (AE_sub (fun _ _ => rfl) (by decide) hSH3780.1) (fun vH3895 H3895 locsH3895 pH3895 zH3895 kH3895 hSH3895 => ?_)
          obtain ⟨x3896, x3897, x3898, x3899, hvH3895, bx3896, ex3897, ex3898, ex3899, hrH3895, m3900, m3901, m3902, m3903, m3904, hTH3895⟩ := pH3895
          subst hvH3895
          have f3905 : ∀ j : Nat, bt j = (fI H3895 tq j).toInt := fun j => (f3782 j).trans (congrArg Int32.toInt (fI_kept (x_lt hTH3780 kH3895 gtq (by decide))).symm)
          have f3906 : ∀ j : Nat, j ≤ F.toNatClampNeg → (kK bt tp.toNatClampNeg) j = (fI H3895 kq j).toInt := fun j hj => (f3783 j hj).trans (congrArg Int32.toInt (fI_kept (x_lt hTH3780 kH3895 gkq (by decide))).symm)
          have f3907 : ∀ j : Nat, j ≤ F.toNatClampNeg → (vV bt tp.toNatClampNeg) j = (fI H3895 vq j).toInt := fun j hj => (f3784 j hj).trans (congrArg Int32.toInt (fI_kept (x_lt hTH3780 kH3895 gvq (by decide))).symm)
          have m3908 := (m3785).trans (fI_kept (x_lt hTH3780 kH3895 ga0 (by decide))).symm
          have m3909 := (m3790).trans (fR_kept (x_lt hTH3780 kH3895 ga0 (by decide))).symm
          have m3910 := (m3791).trans (fR_kept (x_lt hTH3780 kH3895 ga0 (by decide))).symm
          have m3911 := (m3792).trans (fR_kept (x_lt hTH3780 kH3895 ga0 (by decide))).symm
          have m3912 := (m3796).trans (fI_kept (x_lt hTH3780 kH3895 gwq (by decide))).symm
          have m3913 := (m3797).trans (fI_kept (x_lt hTH3780 kH3895 gwq (by decide))).symm
          have m3914 := (m3798).trans (fI_kept (x_lt hTH3780 kH3895 gwq (by decide))).symm
          have m3915 := (m3799).trans (fI_kept (x_lt hTH3780 kH3895 gwq (by decide))).symm
          have m3916 := (m3800).trans (fI_kept (x_lt hTH3780 kH3895 gwq (by decide))).symm
          have m3917 := (m3801).trans (fI_kept (x_lt hTH3780 kH3895 gwq (by decide))).symm
          have m3918 := (fV_kept (x_lt hTH3780 kH3895 ga0 (by decide))).trans m3802
          have m3919 := (fI_kept (x_lt hTH3780 kH3895 gkq (by decide))).trans m3803
          have bx3897 := ty_fi (x := x3897) (k := 7) ex3897 hTH3895 grq rg_78 rfl
          have bx3898 := ty_fi (x := x3898) (k := 1) ex3898 hTH3895 grq rg_78 rfl
          have bx3899 := ty_fi (x := x3899) (k := 0) ex3899 hTH3895 gmq rg_69 rfl
          refine W.eq (g2 := F0 m 89 ls3679 [.int x3896]) rfl ?_
          refine lv_pop hx hb dX9_text_89 rfl ?_
          obtain ⟨x3920, ex3920⟩ : ∃ y : Int32, y = x3682 + 1 := ⟨_, rfl⟩
          have tx3920 := i_add ex3920 (by omega)
          refine lv_iinc (v := x3920) (lv' := [(5, .int x3920), (0, .ref a0), (4, .ref q3681)]) hx hb dX9_text_90 hl3680 (k := 2) rfl (by rw [ex3920]; rfl) (by decide) rfl (fun ls3921 hl3922 => ?_)
          refine lv_goto (tgt := 65) hx hb dX9_text_93 (by decide) ?_
          have cn_x3897 := i_cl (x := x3897) (by omega)
          have cn_x3899 := i_cl (x := x3899) (by omega)
          have cn_x3920 := i_cl (x := x3920) (by omega)
          have cn_F := i_cl (x := F) (by omega)
          have cn_x3686 := i_cl (x := x3686) (by omega)
          have cn_x3684 := i_cl (x := x3684) (by omega)
          have cn_x3682 := i_cl (x := x3682) (by omega)
          have ee_ := HD.get hF6 (by omega)
          have lq_ : (if x1.toInt = 0 then (1 : Int) else 0) = x3687.toInt := by split <;> omega
          rw [lq_] at ee_
          exact ih65 F ls3921 H3895 locsH3895 (q3681) (x3920) (x3683) (x3897) (x3898) (x3899) (x3687) (lv_sub hl3922 [1, 2, 0] rfl) hTH3895 hSH3895 gq3681 (by have := i_rng x3920; omega) (by have := i_rng x3683; omega) (by have := i_rng x3897; omega) (by have := i_rng x3899; omega) (by have := i_rng x3687; omega) m3908 ex3897 ex3898 ex3899 m3903 m3909 m3910 m3911 m3900 m3901 m3902 m3912 m3913 m3914 m3915 m3916 m3917 m3918 f3905 (by omega) (by omega) (by omega) (by omega) m3919 f3906 f3907 (HD.mk (fun h0 => by rw [lq_]; exact ee_.trans (tx_go (by omega) (by omega) (by omega) ((if_neg (by omega)).symm.trans (RQ.yes m3904 (by omega))) (by omega)))) (HD.mk (fun h0 => by rw [lq_]; exact ee_.trans (tx_no (by omega) (by by_cases h16 : 16 ≤ x3686.toNatClampNeg; exact Or.inl h16; exact Or.inr ((if_neg (by omega)).symm.trans (RQ.no m3904 (by omega)))))))
  refine lv_aload_n hx hb dX9_text_0 rfl (lv_at hl 0 rfl) ?_
  refine x_gi C hT (ci := 9) (k := 3) rfl inX9 (by decide) wF_X9_105 ga0 rg_68 rfl dX9_text_1 (fun x3923 ex3923 bx3923 => ?_)
  have ux3923 : tp = x3923 := (etp).trans ex3923.symm
  subst ux3923
  refine lv_istore_n (lv' := [(3, .int tp), (0, .ref a0), (1, .int x1), (2, .int x2)]) hx hb dX9_text_4 rfl hl (by decide) rfl (fun ls3924 hl3925 => ?_)
  refine lv_aload_n hx hb dX9_text_5 rfl (lv_at hl3925 1 rfl) ?_
  refine lv_iconst (v := 0) hx hb dX9_text_6 (by decide) ?_
  refine x_put C hT hS (ci := 9) (k := 3) (v := .int 0) (ty0 := tyX9) rfl inX9 tyX9_ok nmX9 (by decide) rfl wF_X9_105 ga0 rg_68 rfl rfl (okI (by have := i_rng (0 : Int32); omega) (by have := i_rng (0 : Int32); omega)) rfl rfl (AE_in ga0 (by decide)) dX9_text_7 (fun H3926 locsH3926 hTH3926 hSH3926 wH3926 => ?_)
  have f3927 : ∀ j : Nat, bt j = (fI H3926 tq j).toInt := fun j => (f0_bt j).trans (congrArg Int32.toInt (Wr.neI wH3926 (Or.inl (G_ne gtq ga0 (by decide)))).symm)
  have m3928 := ewq.trans (Wr.neR wH3926 (Or.inr (x_apart hKT hts inX9 tyX9 tyX9_ok nmX9 rfl 0 3 (by decide) (by decide) (by decide)))).symm
  have m3929 := erq.trans (Wr.neR wH3926 (Or.inr (x_apart hKT hts inX9 tyX9 tyX9_ok nmX9 rfl 4 3 (by decide) (by decide) (by decide)))).symm
  have m3930 := etq.trans (Wr.neR wH3926 (Or.inr (x_apart hKT hts inX9 tyX9 tyX9_ok nmX9 rfl 2 3 (by decide) (by decide) (by decide)))).symm
  have m3931 := emq.trans (Wr.neR wH3926 (Or.inl (G_ne grq ga0 (by decide)))).symm
  have m3932 := ekq.trans (Wr.neR wH3926 (Or.inl (G_ne grq ga0 (by decide)))).symm
  have m3933 := evq.trans (Wr.neR wH3926 (Or.inl (G_ne grq ga0 (by decide)))).symm
  have m3935 := etat.trans (Wr.neI wH3926 (Or.inl (G_ne grq ga0 (by decide)))).symm
  have m3936 := efa.trans (Wr.neI wH3926 (Or.inl (G_ne grq ga0 (by decide)))).symm
  have m3937 := eli.trans (Wr.neI wH3926 (Or.inl (G_ne gmq ga0 (by decide)))).symm
  have m3938 := elw.trans (Wr.neI wH3926 (Or.inl (G_ne grq ga0 (by decide)))).symm
  have m3939 := es1.trans (Wr.neI wH3926 (Or.inl (G_ne gwq ga0 (by decide)))).symm
  have m3940 := es4.trans (Wr.neI wH3926 (Or.inl (G_ne gwq ga0 (by decide)))).symm
  have m3941 := es5.trans (Wr.neI wH3926 (Or.inl (G_ne gwq ga0 (by decide)))).symm
  have m3942 := es10.trans (Wr.neI wH3926 (Or.inl (G_ne gwq ga0 (by decide)))).symm
  have m3943 := es13.trans (Wr.neI wH3926 (Or.inl (G_ne gwq ga0 (by decide)))).symm
  have m3944 := es16.trans (Wr.neI wH3926 (Or.inl (G_ne gwq ga0 (by decide)))).symm
  have m3945 := (Wr.neV wH3926 (Or.inr (x_apart hKT hts inX9 tyX9 tyX9_ok nmX9 rfl 1 3 (by decide) (by decide) (by decide)))).trans hkv
  have m3946 := Wr.I wH3926
  refine lv_aload_n hx hb dX9_text_10 rfl (lv_at hl3925 1 rfl) ?_
  refine x_gr C hTH3926 (ci := 9) (k := 0) rfl inX9 (by decide) wF_X9_12 ga0 rg_68 rfl dX9_text_11 (fun q3947 eq3947 gq3947 => ?_)
  have uq3947 : wq = q3947 := (m3928).trans eq3947.symm
  subst uq3947
  refine lv_iconst (v := 0) hx hb dX9_text_14 (by decide) ?_
  refine x_put C hTH3926 hSH3926 (ci := 8) (k := 6) (v := .int 0) (ty0 := tyX8) rfl inX8 tyX8_ok nmX8 (by decide) rfl wF_X9_111 gwq rg_0 rfl rfl (okI (by have := i_rng (0 : Int32); omega) (by have := i_rng (0 : Int32); omega)) rfl rfl (AE_in gwq (by decide)) dX9_text_15 (fun H3948 locsH3948 hTH3948 hSH3948 wH3948 => ?_)
  have f3949 : ∀ j : Nat, bt j = (fI H3948 tq j).toInt := fun j => (f3927 j).trans (congrArg Int32.toInt (Wr.neI wH3948 (Or.inl (G_ne gtq gwq (by decide)))).symm)
  have m3950 := m3928.trans (Wr.neR wH3948 (Or.inl (G_ne ga0 gwq (by decide)))).symm
  have m3951 := m3929.trans (Wr.neR wH3948 (Or.inl (G_ne ga0 gwq (by decide)))).symm
  have m3952 := m3930.trans (Wr.neR wH3948 (Or.inl (G_ne ga0 gwq (by decide)))).symm
  have m3953 := m3931.trans (Wr.neR wH3948 (Or.inl (G_ne grq gwq (by decide)))).symm
  have m3954 := m3932.trans (Wr.neR wH3948 (Or.inl (G_ne grq gwq (by decide)))).symm
  have m3955 := m3933.trans (Wr.neR wH3948 (Or.inl (G_ne grq gwq (by decide)))).symm
  have m3956 := m3935.trans (Wr.neI wH3948 (Or.inl (G_ne grq gwq (by decide)))).symm
  have m3957 := m3936.trans (Wr.neI wH3948 (Or.inl (G_ne grq gwq (by decide)))).symm
  have m3958 := m3937.trans (Wr.neI wH3948 (Or.inl (G_ne gmq gwq (by decide)))).symm
  have m3959 := m3938.trans (Wr.neI wH3948 (Or.inl (G_ne grq gwq (by decide)))).symm
  have m3960 := m3939.trans (Wr.neI wH3948 (Or.inr (x_apart hKT hts inX8 tyX8 tyX8_ok nmX8 rfl 1 6 (by decide) (by decide) (by decide)))).symm
  have m3961 := m3940.trans (Wr.neI wH3948 (Or.inr (x_apart hKT hts inX8 tyX8 tyX8_ok nmX8 rfl 4 6 (by decide) (by decide) (by decide)))).symm
  have m3962 := m3941.trans (Wr.neI wH3948 (Or.inr (x_apart hKT hts inX8 tyX8 tyX8_ok nmX8 rfl 5 6 (by decide) (by decide) (by decide)))).symm
  have m3963 := m3942.trans (Wr.neI wH3948 (Or.inr (x_apart hKT hts inX8 tyX8 tyX8_ok nmX8 rfl 10 6 (by decide) (by decide) (by decide)))).symm
  have m3964 := m3943.trans (Wr.neI wH3948 (Or.inr (x_apart hKT hts inX8 tyX8 tyX8_ok nmX8 rfl 13 6 (by decide) (by decide) (by decide)))).symm
  have m3965 := m3944.trans (Wr.neI wH3948 (Or.inr (x_apart hKT hts inX8 tyX8 tyX8_ok nmX8 rfl 16 6 (by decide) (by decide) (by decide)))).symm
  have m3966 := (Wr.neV wH3948 (Or.inl (G_ne ga0 gwq (by decide)))).trans m3945
  have m3967 := (Wr.neI wH3948 (Or.inl (G_ne ga0 gwq (by decide)))).trans m3946
  have m3968 := Wr.I wH3948
  refine lv_aload_n hx hb dX9_text_18 rfl (lv_at hl3925 1 rfl) ?_
  refine x_gr C hTH3948 (ci := 9) (k := 0) rfl inX9 (by decide) wF_X9_12 ga0 rg_68 rfl dX9_text_19 (fun q3969 eq3969 gq3969 => ?_)
  have uq3969 : wq = q3969 := (m3950).trans eq3969.symm
  subst uq3969
  refine lv_iconst (v := (-1)) hx hb dX9_text_22 (by decide) ?_
  refine x_put C hTH3948 hSH3948 (ci := 8) (k := 7) (v := .int (-1)) (ty0 := tyX8) rfl inX8 tyX8_ok nmX8 (by decide) rfl wF_X9_114 gwq rg_0 rfl rfl (okI (by have := i_rng ((-1) : Int32); omega) (by have := i_rng ((-1) : Int32); omega)) rfl rfl (AE_in gwq (by decide)) dX9_text_23 (fun H3970 locsH3970 hTH3970 hSH3970 wH3970 => ?_)
  have f3971 : ∀ j : Nat, bt j = (fI H3970 tq j).toInt := fun j => (f3949 j).trans (congrArg Int32.toInt (Wr.neI wH3970 (Or.inl (G_ne gtq gwq (by decide)))).symm)
  have m3972 := m3950.trans (Wr.neR wH3970 (Or.inl (G_ne ga0 gwq (by decide)))).symm
  have m3973 := m3951.trans (Wr.neR wH3970 (Or.inl (G_ne ga0 gwq (by decide)))).symm
  have m3974 := m3952.trans (Wr.neR wH3970 (Or.inl (G_ne ga0 gwq (by decide)))).symm
  have m3975 := m3953.trans (Wr.neR wH3970 (Or.inl (G_ne grq gwq (by decide)))).symm
  have m3976 := m3954.trans (Wr.neR wH3970 (Or.inl (G_ne grq gwq (by decide)))).symm
  have m3977 := m3955.trans (Wr.neR wH3970 (Or.inl (G_ne grq gwq (by decide)))).symm
  have m3978 := m3956.trans (Wr.neI wH3970 (Or.inl (G_ne grq gwq (by decide)))).symm
  have m3979 := m3957.trans (Wr.neI wH3970 (Or.inl (G_ne grq gwq (by decide)))).symm
  have m3980 := m3958.trans (Wr.neI wH3970 (Or.inl (G_ne gmq gwq (by decide)))).symm
  have m3981 := m3959.trans (Wr.neI wH3970 (Or.inl (G_ne grq gwq (by decide)))).symm
  have m3982 := m3960.trans (Wr.neI wH3970 (Or.inr (x_apart hKT hts inX8 tyX8 tyX8_ok nmX8 rfl 1 7 (by decide) (by decide) (by decide)))).symm
  have m3983 := m3961.trans (Wr.neI wH3970 (Or.inr (x_apart hKT hts inX8 tyX8 tyX8_ok nmX8 rfl 4 7 (by decide) (by decide) (by decide)))).symm
  have m3984 := m3962.trans (Wr.neI wH3970 (Or.inr (x_apart hKT hts inX8 tyX8 tyX8_ok nmX8 rfl 5 7 (by decide) (by decide) (by decide)))).symm
  have m3985 := m3963.trans (Wr.neI wH3970 (Or.inr (x_apart hKT hts inX8 tyX8 tyX8_ok nmX8 rfl 10 7 (by decide) (by decide) (by decide)))).symm
  have m3986 := m3964.trans (Wr.neI wH3970 (Or.inr (x_apart hKT hts inX8 tyX8 tyX8_ok nmX8 rfl 13 7 (by decide) (by decide) (by decide)))).symm
  have m3987 := m3965.trans (Wr.neI wH3970 (Or.inr (x_apart hKT hts inX8 tyX8 tyX8_ok nmX8 rfl 16 7 (by decide) (by decide) (by decide)))).symm
  have m3988 := (Wr.neV wH3970 (Or.inl (G_ne ga0 gwq (by decide)))).trans m3966
  have m3989 := (Wr.neI wH3970 (Or.inl (G_ne ga0 gwq (by decide)))).trans m3967
  have m3990 := (Wr.neI wH3970 (Or.inr (x_apart hKT hts inX8 tyX8 tyX8_ok nmX8 rfl 6 7 (by decide) (by decide) (by decide)))).trans m3968
  have m3991 := Wr.I wH3970
  refine lv_aload_n hx hb dX9_text_26 rfl (lv_at hl3925 1 rfl) ?_
  refine lv_iload_n hx hb dX9_text_27 rfl (lv_at hl3925 2 rfl) ?_
  refine lv_iload_n hx hb dX9_text_28 rfl (lv_at hl3925 3 rfl) ?_
  refine x_V (As := [.int x1, .int x2]) (rest := []) C (a_X9_textAt_e l K G H3970 (x1) (x2) hTH3970 ga0) yo_X9_textAt wM_X9_117 ⟨⟨by decide, by decide⟩, by decide, by decide⟩ (x_rv C hTH3970 (ci := 9) rfl ga0 rg_68) rfl hl3925.1 rfl (Nat.le_of_ble_eq_true rfl) dX9_text_29 hSH3970 (AE_sub (fun _ _ => rfl) (by decide) hSH3970.1) (fun vH3992 H3992 locsH3992 pH3992 zH3992 kH3992 hSH3992 => ?_)
  obtain ⟨hTH3992, pdH3992⟩ := pH3992
  have f3993 : ∀ j : Nat, bt j = (fI H3992 tq j).toInt := fun j => (f3971 j).trans (congrArg Int32.toInt (fI_kept (x_lt hTH3970 kH3992 gtq (by decide))).symm)
  have m3994 := (m3972).trans (fR_kept (x_lt hTH3970 kH3992 ga0 (by decide))).symm
  have m3995 := (m3973).trans (fR_kept (x_lt hTH3970 kH3992 ga0 (by decide))).symm
  have m3996 := (m3974).trans (fR_kept (x_lt hTH3970 kH3992 ga0 (by decide))).symm
  have m3997 := (m3975).trans (fR_kept (x_lt hTH3970 kH3992 grq (by decide))).symm
  have m3998 := (m3976).trans (fR_kept (x_lt hTH3970 kH3992 grq (by decide))).symm
  have m3999 := (m3977).trans (fR_kept (x_lt hTH3970 kH3992 grq (by decide))).symm
  have m4000 := (m3978).trans (fI_kept (x_lt hTH3970 kH3992 grq (by decide))).symm
  have m4001 := (m3979).trans (fI_kept (x_lt hTH3970 kH3992 grq (by decide))).symm
  have m4002 := (m3980).trans (fI_kept (x_lt hTH3970 kH3992 gmq (by decide))).symm
  have m4003 := (m3981).trans (fI_kept (x_lt hTH3970 kH3992 grq (by decide))).symm
  have m4004 := (m3982).trans (fI_kept (x_lt hTH3970 kH3992 gwq (by decide))).symm
  have m4005 := (m3983).trans (fI_kept (x_lt hTH3970 kH3992 gwq (by decide))).symm
  have m4006 := (m3984).trans (fI_kept (x_lt hTH3970 kH3992 gwq (by decide))).symm
  have m4007 := (m3985).trans (fI_kept (x_lt hTH3970 kH3992 gwq (by decide))).symm
  have m4008 := (m3986).trans (fI_kept (x_lt hTH3970 kH3992 gwq (by decide))).symm
  have m4009 := (m3987).trans (fI_kept (x_lt hTH3970 kH3992 gwq (by decide))).symm
  have m4010 := (fV_kept (x_lt hTH3970 kH3992 ga0 (by decide))).trans m3988
  have m4011 := (fI_kept (x_lt hTH3970 kH3992 ga0 (by decide))).trans m3989
  have m4012 := (fI_kept (x_lt hTH3970 kH3992 gwq (by decide))).trans m3990
  have m4013 := (fI_kept (x_lt hTH3970 kH3992 gwq (by decide))).trans m3991
  rcases pdH3992 with ⟨hvH3992, hcH3992⟩ | ⟨q4014, hvH3992, gq4014, hcH3992⟩
  · skip
    subst hvH3992
    refine W.eq (g2 := F0 m 32 ls3924 [.null]) rfl ?_
    refine lv_astoreN (lv' := [(4, .null), (3, .int tp), (0, .ref a0), (1, .int x1), (2, .int x2)]) hx hb dX9_text_32 hl3925 (by decide) rfl (fun ls4015 hl4016 => ?_)
    refine lv_aloadN hx hb dX9_text_34 (lv_at hl4016 0 rfl) ?_
    refine lv_ifnonnullN hx hb dX9_text_36 ?_
    refine lv_iconst (v := (-1)) hx hb dX9_text_39 (by decide) ?_
    exact x_iret C hQ dX9_text_40 hSH3992 (by decide) (by decide) (⟨(-1), 0, tat, fa, li, lw, rfl, (m4011).symm, m4000, m4001, m4002, m4003, by omega, m3994, m3995, m3996, m3997, m3998, m3999, m4004, m4005, m4006, m4007, m4008, m4009, Or.inr ⟨by omega, by omega, by omega⟩, m4010, hTH3992⟩)
  · skip
    subst hvH3992
    refine W.eq (g2 := F0 m 32 ls3924 [.ref q4014]) rfl ?_
    refine lv_astore (lv' := [(4, .ref q4014), (3, .int tp), (0, .ref a0), (1, .int x1), (2, .int x2)]) hx hb dX9_text_32 hl3925 (by decide) rfl (fun ls4017 hl4018 => ?_)
    refine lv_aload hx hb dX9_text_34 (lv_at hl4018 0 rfl) ?_
    refine lv_ifnonnull (tgt := 41) hx hb dX9_text_36 (by decide) ?_
    refine lv_aload_n hx hb dX9_text_41 rfl (lv_at hl4018 2 rfl) ?_
    refine x_gr C hTH3992 (ci := 9) (k := 4) rfl inX9 (by decide) wF_X9_23 ga0 rg_68 rfl dX9_text_42 (fun q4019 eq4019 gq4019 => ?_)
    have uq4019 : rq = q4019 := (m3995).trans eq4019.symm
    subst uq4019
    refine lv_aload_n hx hb dX9_text_45 rfl (lv_at hl4018 2 rfl) ?_
    refine x_gr C hTH3992 (ci := 9) (k := 2) rfl inX9 (by decide) wF_X9_16 ga0 rg_68 rfl dX9_text_46 (fun q4020 eq4020 gq4020 => ?_)
    have uq4020 : tq = q4020 := (m3996).trans eq4020.symm
    subst uq4020
    refine lv_iload_n hx hb dX9_text_49 rfl (lv_at hl4018 1 rfl) ?_
    refine lv_iload_n hx hb dX9_text_50 rfl (lv_at hl4018 3 rfl) ?_
    refine lv_if_ne (tgt := 58) hx hb dX9_text_51 (by decide) (fun c4021 => ?_) (fun c4021 => ?_)
    · have k4022 := i_ne c4021
      refine lv_iconst (v := 0) hx hb dX9_text_58 (by decide) ?_
      obtain ⟨x4023, ex4023⟩ : ∃ z : Int32, z = fI H3992 rq (K.1.2 4 6) := ⟨_, rfl⟩
      have bx4023 := ty_fi (x := x4023) (k := 6) ex4023 hTH3992 grq rg_78 rfl
      refine x_V (As := [.ref tq, .int tp, .int 0]) (rest := []) C (a_X4_start_e l K G H3992 (tp) (0) (tat) (x4023) (lw) (fa) (li) bt hTH3992 grq gtq (by omega) (by decide) gmq m3997 gkq m3998 gvq m3999 m4000 ex4023 m4003 m4001 m4002 f3993) yo_X4_start wM_X9_121 ⟨⟨by decide, by decide⟩, by decide, by decide⟩ (x_rv C hTH3992 (ci := 4) rfl grq rg_78) rfl hl4018.1 rfl (Nat.le_of_ble_eq_true rfl) dX9_text_59 hSH3992 (AE_sub (fun _ _ => rfl) (by decide) hSH3992.1) (fun vH4024 H4024 locsH4024 pH4024 zH4024 kH4024 hSH4024 => ?_)
      obtain ⟨x4025, x4026, x4027, x4028, x4029, hvH4024, ex4025, ex4026, ex4027, ex4028, ex4029, hrH4024, m4030, m4031, m4032, m4033, hTH4024⟩ := pH4024
      subst hvH4024
      have f4034 : ∀ j : Nat, bt j = (fI H4024 tq j).toInt := fun j => (f3993 j).trans (congrArg Int32.toInt (fI_kept (x_lt hTH3992 kH4024 gtq (by decide))).symm)
      have m4035 := (m3994).trans (fR_kept (x_lt hTH3992 kH4024 ga0 (by decide))).symm
      have m4036 := (m3995).trans (fR_kept (x_lt hTH3992 kH4024 ga0 (by decide))).symm
      have m4037 := (m3996).trans (fR_kept (x_lt hTH3992 kH4024 ga0 (by decide))).symm
      have m4038 := (m4004).trans (fI_kept (x_lt hTH3992 kH4024 gwq (by decide))).symm
      have m4039 := (m4005).trans (fI_kept (x_lt hTH3992 kH4024 gwq (by decide))).symm
      have m4040 := (m4006).trans (fI_kept (x_lt hTH3992 kH4024 gwq (by decide))).symm
      have m4041 := (m4007).trans (fI_kept (x_lt hTH3992 kH4024 gwq (by decide))).symm
      have m4042 := (m4008).trans (fI_kept (x_lt hTH3992 kH4024 gwq (by decide))).symm
      have m4043 := (m4009).trans (fI_kept (x_lt hTH3992 kH4024 gwq (by decide))).symm
      have m4044 := (fV_kept (x_lt hTH3992 kH4024 ga0 (by decide))).trans m4010
      have m4045 := (fI_kept (x_lt hTH3992 kH4024 ga0 (by decide))).trans m4011
      have m4046 := (fI_kept (x_lt hTH3992 kH4024 gwq (by decide))).trans m4012
      have m4047 := (fI_kept (x_lt hTH3992 kH4024 gwq (by decide))).trans m4013
      have bx4025 := ty_fi (x := x4025) (k := 7) ex4025 hTH4024 grq rg_78 rfl
      have bx4026 := ty_fi (x := x4026) (k := 6) ex4026 hTH4024 grq rg_78 rfl
      have bx4027 := ty_fi (x := x4027) (k := 8) ex4027 hTH4024 grq rg_78 rfl
      have bx4028 := ty_fi (x := x4028) (k := 1) ex4028 hTH4024 grq rg_78 rfl
      have bx4029 := ty_fi (x := x4029) (k := 0) ex4029 hTH4024 gmq rg_69 rfl
      obtain ⟨F4048, bF4048, mF4048, tkF4048⟩ := m4033
      have fkF4048 : ∀ j : Nat, j ≤ F4048.toNatClampNeg → (kK bt tp.toNatClampNeg) j = (fI H4024 kq j).toInt := fun j hj => ((tkF4048 j (by omega)).1).symm
      have fvF4048 : ∀ j : Nat, j ≤ F4048.toNatClampNeg → (vV bt tp.toNatClampNeg) j = (fI H4024 vq j).toInt := fun j hj => ((tkF4048 j (by omega)).2).symm
      refine W.eq (g2 := F0 m 62 ls4017 []) rfl ?_
      refine lv_iconst (v := 0) hx hb dX9_text_62 (by decide) ?_
      refine lv_istore (lv' := [(5, .int 0), (4, .ref q4014), (3, .int tp), (0, .ref a0), (1, .int x1), (2, .int x2)]) hx hb dX9_text_63 hl4018 (by decide) rfl (fun ls4049 hl4050 => ?_)
      have cn_x4025 := i_cl (x := x4025) (by omega)
      have cn_x4029 := i_cl (x := x4029) (by omega)
      have cn_F4048 := i_cl (x := F4048) (by omega)
      have z1_ : x4029.toNatClampNeg = 0 := by omega
      have z2_ : x4025.toNatClampNeg = 0 := by omega
      exact J65 ((17 - (0 : Int32).toInt).toNat + 1) F4048 ls4049 H4024 locsH4024 (q4014) (0) (0) (x4025) (x4028) (x4029) (x4027) (lv_sub hl4050 [3, 1, 0] rfl) hTH4024 hSH4024 gq4014 (by decide) (by decide) (by have := i_rng x4025; omega) (by have := i_rng x4029; omega) (by have := i_rng x4027; omega) (m4045).symm ex4025 ex4028 ex4029 ex4027 m4035 m4036 m4037 m4030 m4031 m4032 m4038 m4039 m4040 m4041 m4042 m4043 m4044 f4034 (by omega) (by omega) (by omega) (by omega) mF4048 fkF4048 fvF4048 (HD.mk (fun _ => by rw [z1_, z2_]; rfl)) (HD.mk (fun h => by exfalso; omega))
    · have k4022 := i_eq c4021
      refine lv_iconst (v := 1) hx hb dX9_text_54 (by decide) ?_
      refine lv_goto (tgt := 59) hx hb dX9_text_55 (by decide) ?_
      obtain ⟨x4051, ex4051⟩ : ∃ z : Int32, z = fI H3992 rq (K.1.2 4 6) := ⟨_, rfl⟩
      have bx4051 := ty_fi (x := x4051) (k := 6) ex4051 hTH3992 grq rg_78 rfl
      refine x_V (As := [.ref tq, .int tp, .int 1]) (rest := []) C (a_X4_start_e l K G H3992 (tp) (1) (tat) (x4051) (lw) (fa) (li) bt hTH3992 grq gtq (by omega) (by decide) gmq m3997 gkq m3998 gvq m3999 m4000 ex4051 m4003 m4001 m4002 f3993) yo_X4_start wM_X9_121 ⟨⟨by decide, by decide⟩, by decide, by decide⟩ (x_rv C hTH3992 (ci := 4) rfl grq rg_78) rfl hl4018.1 rfl (Nat.le_of_ble_eq_true rfl) dX9_text_59 hSH3992 (AE_sub (fun _ _ => rfl) (by decide) hSH3992.1) (fun vH4052 H4052 locsH4052 pH4052 zH4052 kH4052 hSH4052 => ?_)
      obtain ⟨x4053, x4054, x4055, x4056, x4057, hvH4052, ex4053, ex4054, ex4055, ex4056, ex4057, hrH4052, m4058, m4059, m4060, m4061, hTH4052⟩ := pH4052
      subst hvH4052
      have f4062 : ∀ j : Nat, bt j = (fI H4052 tq j).toInt := fun j => (f3993 j).trans (congrArg Int32.toInt (fI_kept (x_lt hTH3992 kH4052 gtq (by decide))).symm)
      have m4063 := (m3994).trans (fR_kept (x_lt hTH3992 kH4052 ga0 (by decide))).symm
      have m4064 := (m3995).trans (fR_kept (x_lt hTH3992 kH4052 ga0 (by decide))).symm
      have m4065 := (m3996).trans (fR_kept (x_lt hTH3992 kH4052 ga0 (by decide))).symm
      have m4066 := (m4004).trans (fI_kept (x_lt hTH3992 kH4052 gwq (by decide))).symm
      have m4067 := (m4005).trans (fI_kept (x_lt hTH3992 kH4052 gwq (by decide))).symm
      have m4068 := (m4006).trans (fI_kept (x_lt hTH3992 kH4052 gwq (by decide))).symm
      have m4069 := (m4007).trans (fI_kept (x_lt hTH3992 kH4052 gwq (by decide))).symm
      have m4070 := (m4008).trans (fI_kept (x_lt hTH3992 kH4052 gwq (by decide))).symm
      have m4071 := (m4009).trans (fI_kept (x_lt hTH3992 kH4052 gwq (by decide))).symm
      have m4072 := (fV_kept (x_lt hTH3992 kH4052 ga0 (by decide))).trans m4010
      have m4073 := (fI_kept (x_lt hTH3992 kH4052 ga0 (by decide))).trans m4011
      have m4074 := (fI_kept (x_lt hTH3992 kH4052 gwq (by decide))).trans m4012
      have m4075 := (fI_kept (x_lt hTH3992 kH4052 gwq (by decide))).trans m4013
      have bx4053 := ty_fi (x := x4053) (k := 7) ex4053 hTH4052 grq rg_78 rfl
      have bx4054 := ty_fi (x := x4054) (k := 6) ex4054 hTH4052 grq rg_78 rfl
      have bx4055 := ty_fi (x := x4055) (k := 8) ex4055 hTH4052 grq rg_78 rfl
      have bx4056 := ty_fi (x := x4056) (k := 1) ex4056 hTH4052 grq rg_78 rfl
      have bx4057 := ty_fi (x := x4057) (k := 0) ex4057 hTH4052 gmq rg_69 rfl
      obtain ⟨F4076, bF4076, mF4076, tkF4076⟩ := m4061
      have fkF4076 : ∀ j : Nat, j ≤ F4076.toNatClampNeg → (kK bt tp.toNatClampNeg) j = (fI H4052 kq j).toInt := fun j hj => ((tkF4076 j (by omega)).1).symm
      have fvF4076 : ∀ j : Nat, j ≤ F4076.toNatClampNeg → (vV bt tp.toNatClampNeg) j = (fI H4052 vq j).toInt := fun j hj => ((tkF4076 j (by omega)).2).symm
      refine W.eq (g2 := F0 m 62 ls4017 []) rfl ?_
      refine lv_iconst (v := 0) hx hb dX9_text_62 (by decide) ?_
      refine lv_istore (lv' := [(5, .int 0), (4, .ref q4014), (3, .int tp), (0, .ref a0), (1, .int x1), (2, .int x2)]) hx hb dX9_text_63 hl4018 (by decide) rfl (fun ls4077 hl4078 => ?_)
      have cn_x4053 := i_cl (x := x4053) (by omega)
      have cn_x4057 := i_cl (x := x4057) (by omega)
      have cn_F4076 := i_cl (x := F4076) (by omega)
      have z1_ : x4057.toNatClampNeg = 0 := by omega
      have z2_ : x4053.toNatClampNeg = 0 := by omega
      exact J65 ((17 - (0 : Int32).toInt).toNat + 1) F4076 ls4077 H4052 locsH4052 (q4014) (0) (0) (x4053) (x4056) (x4057) (x4055) (lv_sub hl4078 [3, 1, 0] rfl) hTH4052 hSH4052 gq4014 (by decide) (by decide) (by have := i_rng x4053; omega) (by have := i_rng x4057; omega) (by have := i_rng x4055; omega) (m4073).symm ex4053 ex4056 ex4057 ex4055 m4063 m4064 m4065 m4058 m4059 m4060 m4066 m4067 m4068 m4069 m4070 m4071 m4072 f4062 (by omega) (by omega) (by omega) (by omega) mF4076 fkF4076 fvF4076 (HD.mk (fun _ => by rw [z1_, z2_]; rfl)) (HD.mk (fun h => by exfalso; omega))
