set_option maxHeartbeats 4000000 in
set_option maxRecDepth 100000 in
theorem a_X7_copyFrom_n_m (l : Launch) (K : KE) (G : Nat → Option Nat) (H : Heap) {a0 : Nat} {a1 : Nat} (hT : TY K G H) (ga0 : G a0 = some 16) (ga1 : G a1 = some 69) : MX l K yX7_copyFrom cX7_copyFrom 2 none 1 40 0 0 [.ref a0, .ref a1] H (AE G [16, 17, 18, 19, 20, 21, 22, 23, 24] H.size) (fun v H1 => v = none ∧ TY K G H1) := by
  refine MX.of (by decide +kernel) (Nat.le_of_ble_eq_true rfl) ?_
  intro p e s m below meth c ls Q C hH hl hQ
  subst hH
  have C : CX p K s m _ meth c RX7 cX7_copyFrom 2 none "copyFrom" := C
  obtain ⟨hx, hb, hml, hown, hts, hKT, hr, hlocks, hnm⟩ := id C
  have hl : lv_has ls 2 [(0, .ref a0), (1, .ref a1)] := hl
  have hS : va_S (AE G [16, 17, 18, 19, 20, 21, 22, 23, 24] s.heap.size) s.heap s.heap [] := va_S.rf
  have n_0 : (0 : Int32).toInt = 0 := rfl
  have n_16 : (16 : Int32).toInt = 16 := rfl
  refine lv_aload_n hx hb dX7_copyFrom_0 rfl (lv_at hl 0 rfl) ?_
  refine lv_aload_n hx hb dX7_copyFrom_1 rfl (lv_at hl 1 rfl) ?_
  refine x_gi C hT (ci := 7) (k := 0) rfl inX7 (by decide) wF_X7_36 ga1 rg_69 rfl dX7_copyFrom_2 (fun x661 ex661 bx661 => ?_)
  refine x_put C hT hS (ci := 7) (k := 0) (v := .int x661) (ty0 := tyX7) rfl inX7 tyX7_ok nmX7 (by decide) rfl wF_X7_36 ga0 rg_16 rfl rfl (okI (by have := i_rng x661; omega) (by have := i_rng x661; omega)) rfl rfl (AE_in ga0 (by decide)) dX7_copyFrom_5 (fun H662 locsH662 hTH662 hSH662 wH662 => ?_)
  have m663 := ex661.trans (Wr.neI wH662 (Or.inl (G_ne ga1 ga0 (by decide)))).symm
  have m664 := Wr.I wH662
  have m664 := m664.symm
  refine lv_aload_n hx hb dX7_copyFrom_8 rfl (lv_at hl 1 rfl) ?_
  refine x_gr C hTH662 (ci := 7) (k := 1) rfl inX7 (by decide) wF_X7_9 ga1 rg_69 rfl dX7_copyFrom_9 (fun q665 eq665 gq665 => ?_)
  refine lv_iconst (v := 0) hx hb dX7_copyFrom_12 (by decide) ?_
  refine lv_aload_n hx hb dX7_copyFrom_13 rfl (lv_at hl 0 rfl) ?_
  refine x_gr C hTH662 (ci := 7) (k := 1) rfl inX7 (by decide) wF_X7_9 ga0 rg_16 rfl dX7_copyFrom_14 (fun q666 eq666 gq666 => ?_)
  refine lv_iconst (v := 0) hx hb dX7_copyFrom_17 (by decide) ?_
  refine lv_bipush (v := 16) hx hb dX7_copyFrom_18 (by decide) ?_
  refine x_copy C hTH662 hSH662 wM_X7_44 wNT_arraycopy wST_arraycopy wIN_J10 gq665 gq666 rg_70 rg_17 (by decide) (by omega) (by omega) (by omega) (by show _ ≤ ((16 : Nat) : Int); omega) (by show _ ≤ ((16 : Nat) : Int); omega) (AE_in gq666 (by decide)) hl.1 (by decide) dX7_copyFrom_20 (fun H667 locsH667 hTH667 hSH667 zH667 oH667 vH667 wH667 => ?_)
  have m668 := (m663).trans (fI_kept (oH667 _ (G_ne ga1 gq666 (by decide)))).symm
  have m669 := (m664).trans (fI_kept (oH667 _ (G_ne ga0 gq666 (by decide)))).symm
  have m670 := (eq665).trans (fR_kept (oH667 _ (G_ne ga1 gq666 (by decide)))).symm
  have m671 := (eq666).trans (fR_kept (oH667 _ (G_ne ga0 gq666 (by decide)))).symm
  refine lv_aload_n hx hb dX7_copyFrom_23 rfl (lv_at hl 1 rfl) ?_
  refine x_gr C hTH667 (ci := 7) (k := 2) rfl inX7 (by decide) wF_X7_15 ga1 rg_69 rfl dX7_copyFrom_24 (fun q672 eq672 gq672 => ?_)
  refine lv_iconst (v := 0) hx hb dX7_copyFrom_27 (by decide) ?_
  refine lv_aload_n hx hb dX7_copyFrom_28 rfl (lv_at hl 0 rfl) ?_
  refine x_gr C hTH667 (ci := 7) (k := 2) rfl inX7 (by decide) wF_X7_15 ga0 rg_16 rfl dX7_copyFrom_29 (fun q673 eq673 gq673 => ?_)
  refine lv_iconst (v := 0) hx hb dX7_copyFrom_32 (by decide) ?_
  refine lv_bipush (v := 16) hx hb dX7_copyFrom_33 (by decide) ?_
  refine x_copy C hTH667 hSH667 wM_X7_44 wNT_arraycopy wST_arraycopy wIN_J10 gq672 gq673 rg_71 rg_18 (by decide) (by omega) (by omega) (by omega) (by show _ ≤ ((16 : Nat) : Int); omega) (by show _ ≤ ((16 : Nat) : Int); omega) (AE_in gq673 (by decide)) hl.1 (by decide) dX7_copyFrom_35 (fun H674 locsH674 hTH674 hSH674 zH674 oH674 vH674 wH674 => ?_)
  have m675 := (m668).trans (fI_kept (oH674 _ (G_ne ga1 gq673 (by decide)))).symm
  have m676 := (m669).trans (fI_kept (oH674 _ (G_ne ga0 gq673 (by decide)))).symm
  have m677 := (m670).trans (fR_kept (oH674 _ (G_ne ga1 gq673 (by decide)))).symm
  have m678 := (m671).trans (fR_kept (oH674 _ (G_ne ga0 gq673 (by decide)))).symm
  have m679 := (eq672).trans (fR_kept (oH674 _ (G_ne ga1 gq673 (by decide)))).symm
  have m680 := (eq673).trans (fR_kept (oH674 _ (G_ne ga0 gq673 (by decide)))).symm
  refine lv_aload_n hx hb dX7_copyFrom_38 rfl (lv_at hl 1 rfl) ?_
  refine x_gr C hTH674 (ci := 7) (k := 3) rfl inX7 (by decide) wF_X7_18 ga1 rg_69 rfl dX7_copyFrom_39 (fun q681 eq681 gq681 => ?_)
  refine lv_iconst (v := 0) hx hb dX7_copyFrom_42 (by decide) ?_
  refine lv_aload_n hx hb dX7_copyFrom_43 rfl (lv_at hl 0 rfl) ?_
  refine x_gr C hTH674 (ci := 7) (k := 3) rfl inX7 (by decide) wF_X7_18 ga0 rg_16 rfl dX7_copyFrom_44 (fun q682 eq682 gq682 => ?_)
  refine lv_iconst (v := 0) hx hb dX7_copyFrom_47 (by decide) ?_
  refine lv_bipush (v := 16) hx hb dX7_copyFrom_48 (by decide) ?_
  refine x_copy C hTH674 hSH674 wM_X7_44 wNT_arraycopy wST_arraycopy wIN_J10 gq681 gq682 rg_72 rg_19 (by decide) (by omega) (by omega) (by omega) (by show _ ≤ ((16 : Nat) : Int); omega) (by show _ ≤ ((16 : Nat) : Int); omega) (AE_in gq682 (by decide)) hl.1 (by decide) dX7_copyFrom_50 (fun H683 locsH683 hTH683 hSH683 zH683 oH683 vH683 wH683 => ?_)
  have m684 := (m675).trans (fI_kept (oH683 _ (G_ne ga1 gq682 (by decide)))).symm
  have m685 := (m676).trans (fI_kept (oH683 _ (G_ne ga0 gq682 (by decide)))).symm
  have m686 := (m677).trans (fR_kept (oH683 _ (G_ne ga1 gq682 (by decide)))).symm
  have m687 := (m678).trans (fR_kept (oH683 _ (G_ne ga0 gq682 (by decide)))).symm
  have m688 := (m679).trans (fR_kept (oH683 _ (G_ne ga1 gq682 (by decide)))).symm
  have m689 := (m680).trans (fR_kept (oH683 _ (G_ne ga0 gq682 (by decide)))).symm
  have m690 := (eq681).trans (fR_kept (oH683 _ (G_ne ga1 gq682 (by decide)))).symm
  have m691 := (eq682).trans (fR_kept (oH683 _ (G_ne ga0 gq682 (by decide)))).symm
  refine lv_aload_n hx hb dX7_copyFrom_53 rfl (lv_at hl 1 rfl) ?_
  refine x_gr C hTH683 (ci := 7) (k := 4) rfl inX7 (by decide) wF_X7_21 ga1 rg_69 rfl dX7_copyFrom_54 (fun q692 eq692 gq692 => ?_)
  refine lv_iconst (v := 0) hx hb dX7_copyFrom_57 (by decide) ?_
  refine lv_aload_n hx hb dX7_copyFrom_58 rfl (lv_at hl 0 rfl) ?_
  refine x_gr C hTH683 (ci := 7) (k := 4) rfl inX7 (by decide) wF_X7_21 ga0 rg_16 rfl dX7_copyFrom_59 (fun q693 eq693 gq693 => ?_)
  refine lv_iconst (v := 0) hx hb dX7_copyFrom_62 (by decide) ?_
  refine lv_bipush (v := 16) hx hb dX7_copyFrom_63 (by decide) ?_
  refine x_copy C hTH683 hSH683 wM_X7_44 wNT_arraycopy wST_arraycopy wIN_J10 gq692 gq693 rg_73 rg_20 (by decide) (by omega) (by omega) (by omega) (by show _ ≤ ((16 : Nat) : Int); omega) (by show _ ≤ ((16 : Nat) : Int); omega) (AE_in gq693 (by decide)) hl.1 (by decide) dX7_copyFrom_65 (fun H694 locsH694 hTH694 hSH694 zH694 oH694 vH694 wH694 => ?_)
  have m695 := (m684).trans (fI_kept (oH694 _ (G_ne ga1 gq693 (by decide)))).symm
  have m696 := (m685).trans (fI_kept (oH694 _ (G_ne ga0 gq693 (by decide)))).symm
  have m697 := (m686).trans (fR_kept (oH694 _ (G_ne ga1 gq693 (by decide)))).symm
  have m698 := (m687).trans (fR_kept (oH694 _ (G_ne ga0 gq693 (by decide)))).symm
  have m699 := (m688).trans (fR_kept (oH694 _ (G_ne ga1 gq693 (by decide)))).symm
  have m700 := (m689).trans (fR_kept (oH694 _ (G_ne ga0 gq693 (by decide)))).symm
  have m701 := (m690).trans (fR_kept (oH694 _ (G_ne ga1 gq693 (by decide)))).symm
  have m702 := (m691).trans (fR_kept (oH694 _ (G_ne ga0 gq693 (by decide)))).symm
  have m703 := (eq692).trans (fR_kept (oH694 _ (G_ne ga1 gq693 (by decide)))).symm
  have m704 := (eq693).trans (fR_kept (oH694 _ (G_ne ga0 gq693 (by decide)))).symm
  refine lv_aload_n hx hb dX7_copyFrom_68 rfl (lv_at hl 1 rfl) ?_
  refine x_gr C hTH694 (ci := 7) (k := 5) rfl inX7 (by decide) wF_X7_24 ga1 rg_69 rfl dX7_copyFrom_69 (fun q705 eq705 gq705 => ?_)
  refine lv_iconst (v := 0) hx hb dX7_copyFrom_72 (by decide) ?_
  refine lv_aload_n hx hb dX7_copyFrom_73 rfl (lv_at hl 0 rfl) ?_
  refine x_gr C hTH694 (ci := 7) (k := 5) rfl inX7 (by decide) wF_X7_24 ga0 rg_16 rfl dX7_copyFrom_74 (fun q706 eq706 gq706 => ?_)
  refine lv_iconst (v := 0) hx hb dX7_copyFrom_77 (by decide) ?_
  refine lv_bipush (v := 16) hx hb dX7_copyFrom_78 (by decide) ?_
  refine x_copy C hTH694 hSH694 wM_X7_44 wNT_arraycopy wST_arraycopy wIN_J10 gq705 gq706 rg_74 rg_21 (by decide) (by omega) (by omega) (by omega) (by show _ ≤ ((16 : Nat) : Int); omega) (by show _ ≤ ((16 : Nat) : Int); omega) (AE_in gq706 (by decide)) hl.1 (by decide) dX7_copyFrom_80 (fun H707 locsH707 hTH707 hSH707 zH707 oH707 vH707 wH707 => ?_)
  have m708 := (m695).trans (fI_kept (oH707 _ (G_ne ga1 gq706 (by decide)))).symm
  have m709 := (m696).trans (fI_kept (oH707 _ (G_ne ga0 gq706 (by decide)))).symm
  have m710 := (m697).trans (fR_kept (oH707 _ (G_ne ga1 gq706 (by decide)))).symm
  have m711 := (m698).trans (fR_kept (oH707 _ (G_ne ga0 gq706 (by decide)))).symm
  have m712 := (m699).trans (fR_kept (oH707 _ (G_ne ga1 gq706 (by decide)))).symm
  have m713 := (m700).trans (fR_kept (oH707 _ (G_ne ga0 gq706 (by decide)))).symm
  have m714 := (m701).trans (fR_kept (oH707 _ (G_ne ga1 gq706 (by decide)))).symm
  have m715 := (m702).trans (fR_kept (oH707 _ (G_ne ga0 gq706 (by decide)))).symm
  have m716 := (m703).trans (fR_kept (oH707 _ (G_ne ga1 gq706 (by decide)))).symm
  have m717 := (m704).trans (fR_kept (oH707 _ (G_ne ga0 gq706 (by decide)))).symm
  have m718 := (eq705).trans (fR_kept (oH707 _ (G_ne ga1 gq706 (by decide)))).symm
  have m719 := (eq706).trans (fR_kept (oH707 _ (G_ne ga0 gq706 (by decide)))).symm
  refine lv_aload_n hx hb dX7_copyFrom_83 rfl (lv_at hl 1 rfl) ?_
  refine x_gr C hTH707 (ci := 7) (k := 6) rfl inX7 (by decide) wF_X7_27 ga1 rg_69 rfl dX7_copyFrom_84 (fun q720 eq720 gq720 => ?_)
  refine lv_iconst (v := 0) hx hb dX7_copyFrom_87 (by decide) ?_
  refine lv_aload_n hx hb dX7_copyFrom_88 rfl (lv_at hl 0 rfl) ?_
  refine x_gr C hTH707 (ci := 7) (k := 6) rfl inX7 (by decide) wF_X7_27 ga0 rg_16 rfl dX7_copyFrom_89 (fun q721 eq721 gq721 => ?_)
  refine lv_iconst (v := 0) hx hb dX7_copyFrom_92 (by decide) ?_
  refine lv_bipush (v := 16) hx hb dX7_copyFrom_93 (by decide) ?_
  refine x_copy C hTH707 hSH707 wM_X7_44 wNT_arraycopy wST_arraycopy wIN_J10 gq720 gq721 rg_75 rg_22 (by decide) (by omega) (by omega) (by omega) (by show _ ≤ ((16 : Nat) : Int); omega) (by show _ ≤ ((16 : Nat) : Int); omega) (AE_in gq721 (by decide)) hl.1 (by decide) dX7_copyFrom_95 (fun H722 locsH722 hTH722 hSH722 zH722 oH722 vH722 wH722 => ?_)
  have m723 := (m708).trans (fI_kept (oH722 _ (G_ne ga1 gq721 (by decide)))).symm
  have m724 := (m709).trans (fI_kept (oH722 _ (G_ne ga0 gq721 (by decide)))).symm
  have m725 := (m710).trans (fR_kept (oH722 _ (G_ne ga1 gq721 (by decide)))).symm
  have m726 := (m711).trans (fR_kept (oH722 _ (G_ne ga0 gq721 (by decide)))).symm
  have m727 := (m712).trans (fR_kept (oH722 _ (G_ne ga1 gq721 (by decide)))).symm
  have m728 := (m713).trans (fR_kept (oH722 _ (G_ne ga0 gq721 (by decide)))).symm
  have m729 := (m714).trans (fR_kept (oH722 _ (G_ne ga1 gq721 (by decide)))).symm
  have m730 := (m715).trans (fR_kept (oH722 _ (G_ne ga0 gq721 (by decide)))).symm
  have m731 := (m716).trans (fR_kept (oH722 _ (G_ne ga1 gq721 (by decide)))).symm
  have m732 := (m717).trans (fR_kept (oH722 _ (G_ne ga0 gq721 (by decide)))).symm
  have m733 := (m718).trans (fR_kept (oH722 _ (G_ne ga1 gq721 (by decide)))).symm
  have m734 := (m719).trans (fR_kept (oH722 _ (G_ne ga0 gq721 (by decide)))).symm
  have m735 := (eq720).trans (fR_kept (oH722 _ (G_ne ga1 gq721 (by decide)))).symm
  have m736 := (eq721).trans (fR_kept (oH722 _ (G_ne ga0 gq721 (by decide)))).symm
  refine lv_aload_n hx hb dX7_copyFrom_98 rfl (lv_at hl 1 rfl) ?_
  refine x_gr C hTH722 (ci := 7) (k := 7) rfl inX7 (by decide) wF_X7_30 ga1 rg_69 rfl dX7_copyFrom_99 (fun q737 eq737 gq737 => ?_)
  refine lv_iconst (v := 0) hx hb dX7_copyFrom_102 (by decide) ?_
  refine lv_aload_n hx hb dX7_copyFrom_103 rfl (lv_at hl 0 rfl) ?_
  refine x_gr C hTH722 (ci := 7) (k := 7) rfl inX7 (by decide) wF_X7_30 ga0 rg_16 rfl dX7_copyFrom_104 (fun q738 eq738 gq738 => ?_)
  refine lv_iconst (v := 0) hx hb dX7_copyFrom_107 (by decide) ?_
  refine lv_bipush (v := 16) hx hb dX7_copyFrom_108 (by decide) ?_
  refine x_copy C hTH722 hSH722 wM_X7_44 wNT_arraycopy wST_arraycopy wIN_J10 gq737 gq738 rg_76 rg_23 (by decide) (by omega) (by omega) (by omega) (by show _ ≤ ((16 : Nat) : Int); omega) (by show _ ≤ ((16 : Nat) : Int); omega) (AE_in gq738 (by decide)) hl.1 (by decide) dX7_copyFrom_110 (fun H739 locsH739 hTH739 hSH739 zH739 oH739 vH739 wH739 => ?_)
  have m740 := (m723).trans (fI_kept (oH739 _ (G_ne ga1 gq738 (by decide)))).symm
  have m741 := (m724).trans (fI_kept (oH739 _ (G_ne ga0 gq738 (by decide)))).symm
  have m742 := (m725).trans (fR_kept (oH739 _ (G_ne ga1 gq738 (by decide)))).symm
  have m743 := (m726).trans (fR_kept (oH739 _ (G_ne ga0 gq738 (by decide)))).symm
  have m744 := (m727).trans (fR_kept (oH739 _ (G_ne ga1 gq738 (by decide)))).symm
  have m745 := (m728).trans (fR_kept (oH739 _ (G_ne ga0 gq738 (by decide)))).symm
  have m746 := (m729).trans (fR_kept (oH739 _ (G_ne ga1 gq738 (by decide)))).symm
  have m747 := (m730).trans (fR_kept (oH739 _ (G_ne ga0 gq738 (by decide)))).symm
  have m748 := (m731).trans (fR_kept (oH739 _ (G_ne ga1 gq738 (by decide)))).symm
  have m749 := (m732).trans (fR_kept (oH739 _ (G_ne ga0 gq738 (by decide)))).symm
  have m750 := (m733).trans (fR_kept (oH739 _ (G_ne ga1 gq738 (by decide)))).symm
  have m751 := (m734).trans (fR_kept (oH739 _ (G_ne ga0 gq738 (by decide)))).symm
  have m752 := (m735).trans (fR_kept (oH739 _ (G_ne ga1 gq738 (by decide)))).symm
  have m753 := (m736).trans (fR_kept (oH739 _ (G_ne ga0 gq738 (by decide)))).symm
  have m754 := (eq737).trans (fR_kept (oH739 _ (G_ne ga1 gq738 (by decide)))).symm
  have m755 := (eq738).trans (fR_kept (oH739 _ (G_ne ga0 gq738 (by decide)))).symm
  refine lv_aload_n hx hb dX7_copyFrom_113 rfl (lv_at hl 1 rfl) ?_
  refine x_gr C hTH739 (ci := 7) (k := 8) rfl inX7 (by decide) wF_X7_33 ga1 rg_69 rfl dX7_copyFrom_114 (fun q756 eq756 gq756 => ?_)
  refine lv_iconst (v := 0) hx hb dX7_copyFrom_117 (by decide) ?_
  refine lv_aload_n hx hb dX7_copyFrom_118 rfl (lv_at hl 0 rfl) ?_
  refine x_gr C hTH739 (ci := 7) (k := 8) rfl inX7 (by decide) wF_X7_33 ga0 rg_16 rfl dX7_copyFrom_119 (fun q757 eq757 gq757 => ?_)
  refine lv_iconst (v := 0) hx hb dX7_copyFrom_122 (by decide) ?_
  refine lv_aload_n hx hb dX7_copyFrom_123 rfl (lv_at hl 1 rfl) ?_
  refine x_gi C hTH739 (ci := 7) (k := 9) rfl inX7 (by decide) wF_X7_40 ga1 rg_69 rfl dX7_copyFrom_124 (fun x758 ex758 bx758 => ?_)
  refine x_copy C hTH739 hSH739 wM_X7_44 wNT_arraycopy wST_arraycopy wIN_J10 gq756 gq757 rg_77 rg_24 (by decide) (by omega) (by omega) (by omega) (by show _ ≤ ((500 : Nat) : Int); omega) (by show _ ≤ ((500 : Nat) : Int); omega) (AE_in gq757 (by decide)) hl.1 (by decide) dX7_copyFrom_127 (fun H759 locsH759 hTH759 hSH759 zH759 oH759 vH759 wH759 => ?_)
  have m760 := (m740).trans (fI_kept (oH759 _ (G_ne ga1 gq757 (by decide)))).symm
  have m761 := (m741).trans (fI_kept (oH759 _ (G_ne ga0 gq757 (by decide)))).symm
  have m762 := (m742).trans (fR_kept (oH759 _ (G_ne ga1 gq757 (by decide)))).symm
  have m763 := (m743).trans (fR_kept (oH759 _ (G_ne ga0 gq757 (by decide)))).symm
  have m764 := (m744).trans (fR_kept (oH759 _ (G_ne ga1 gq757 (by decide)))).symm
  have m765 := (m745).trans (fR_kept (oH759 _ (G_ne ga0 gq757 (by decide)))).symm
  have m766 := (m746).trans (fR_kept (oH759 _ (G_ne ga1 gq757 (by decide)))).symm
  have m767 := (m747).trans (fR_kept (oH759 _ (G_ne ga0 gq757 (by decide)))).symm
  have m768 := (m748).trans (fR_kept (oH759 _ (G_ne ga1 gq757 (by decide)))).symm
  have m769 := (m749).trans (fR_kept (oH759 _ (G_ne ga0 gq757 (by decide)))).symm
  have m770 := (m750).trans (fR_kept (oH759 _ (G_ne ga1 gq757 (by decide)))).symm
  have m771 := (m751).trans (fR_kept (oH759 _ (G_ne ga0 gq757 (by decide)))).symm
  have m772 := (m752).trans (fR_kept (oH759 _ (G_ne ga1 gq757 (by decide)))).symm
  have m773 := (m753).trans (fR_kept (oH759 _ (G_ne ga0 gq757 (by decide)))).symm
  have m774 := (m754).trans (fR_kept (oH759 _ (G_ne ga1 gq757 (by decide)))).symm
  have m775 := (m755).trans (fR_kept (oH759 _ (G_ne ga0 gq757 (by decide)))).symm
  have m776 := (eq756).trans (fR_kept (oH759 _ (G_ne ga1 gq757 (by decide)))).symm
  have m777 := (eq757).trans (fR_kept (oH759 _ (G_ne ga0 gq757 (by decide)))).symm
  have m778 := (ex758).trans (fI_kept (oH759 _ (G_ne ga1 gq757 (by decide)))).symm
  refine lv_aload_n hx hb dX7_copyFrom_130 rfl (lv_at hl 0 rfl) ?_
  refine lv_aload_n hx hb dX7_copyFrom_131 rfl (lv_at hl 1 rfl) ?_
  refine x_gi C hTH759 (ci := 7) (k := 9) rfl inX7 (by decide) wF_X7_40 ga1 rg_69 rfl dX7_copyFrom_132 (fun x779 ex779 bx779 => ?_)
  have ux779 : x758 = x779 := (m778).trans ex779.symm
  subst ux779
  refine x_put C hTH759 hSH759 (ci := 7) (k := 9) (v := .int x758) (ty0 := tyX7) rfl inX7 tyX7_ok nmX7 (by decide) rfl wF_X7_40 ga0 rg_16 rfl rfl (okI (by have := i_rng x758; omega) (by have := i_rng x758; omega)) rfl rfl (AE_in ga0 (by decide)) dX7_copyFrom_135 (fun H780 locsH780 hTH780 hSH780 wH780 => ?_)
  have m781 := m760.trans (Wr.neI wH780 (Or.inl (G_ne ga1 ga0 (by decide)))).symm
  have m782 := m761.trans (Wr.neI wH780 (Or.inr (x_apart hKT hts inX7 tyX7 tyX7_ok nmX7 rfl 0 9 (by decide) (by decide) (by decide)))).symm
  have m783 := m762.trans (Wr.neR wH780 (Or.inl (G_ne ga1 ga0 (by decide)))).symm
  have m784 := m763.trans (Wr.neR wH780 (Or.inr (x_apart hKT hts inX7 tyX7 tyX7_ok nmX7 rfl 1 9 (by decide) (by decide) (by decide)))).symm
  have m785 := m764.trans (Wr.neR wH780 (Or.inl (G_ne ga1 ga0 (by decide)))).symm
  have m786 := m765.trans (Wr.neR wH780 (Or.inr (x_apart hKT hts inX7 tyX7 tyX7_ok nmX7 rfl 2 9 (by decide) (by decide) (by decide)))).symm
  have m787 := m766.trans (Wr.neR wH780 (Or.inl (G_ne ga1 ga0 (by decide)))).symm
  have m788 := m767.trans (Wr.neR wH780 (Or.inr (x_apart hKT hts inX7 tyX7 tyX7_ok nmX7 rfl 3 9 (by decide) (by decide) (by decide)))).symm
  have m789 := m768.trans (Wr.neR wH780 (Or.inl (G_ne ga1 ga0 (by decide)))).symm
  have m790 := m769.trans (Wr.neR wH780 (Or.inr (x_apart hKT hts inX7 tyX7 tyX7_ok nmX7 rfl 4 9 (by decide) (by decide) (by decide)))).symm
  have m791 := m770.trans (Wr.neR wH780 (Or.inl (G_ne ga1 ga0 (by decide)))).symm
  have m792 := m771.trans (Wr.neR wH780 (Or.inr (x_apart hKT hts inX7 tyX7 tyX7_ok nmX7 rfl 5 9 (by decide) (by decide) (by decide)))).symm
  have m793 := m772.trans (Wr.neR wH780 (Or.inl (G_ne ga1 ga0 (by decide)))).symm
  have m794 := m773.trans (Wr.neR wH780 (Or.inr (x_apart hKT hts inX7 tyX7 tyX7_ok nmX7 rfl 6 9 (by decide) (by decide) (by decide)))).symm
  have m795 := m774.trans (Wr.neR wH780 (Or.inl (G_ne ga1 ga0 (by decide)))).symm
  have m796 := m775.trans (Wr.neR wH780 (Or.inr (x_apart hKT hts inX7 tyX7 tyX7_ok nmX7 rfl 7 9 (by decide) (by decide) (by decide)))).symm
  have m797 := m776.trans (Wr.neR wH780 (Or.inl (G_ne ga1 ga0 (by decide)))).symm
  have m798 := m777.trans (Wr.neR wH780 (Or.inr (x_apart hKT hts inX7 tyX7 tyX7_ok nmX7 rfl 8 9 (by decide) (by decide) (by decide)))).symm
  have m799 := m778.trans (Wr.neI wH780 (Or.inl (G_ne ga1 ga0 (by decide)))).symm
  have m800 := Wr.I wH780
  have m800 := m800.symm
  exact x_vret C hQ dX7_copyFrom_138 hSH780 (by decide) (by decide) (⟨rfl, hTH780⟩)

set_option maxHeartbeats 4000000 in
set_option maxRecDepth 100000 in
theorem a_X7_copyFrom_k_n (l : Launch) (K : KE) (G : Nat → Option Nat) (H : Heap) {a0 : Nat} {a1 : Nat} (hT : TY K G H) (ga0 : G a0 = some 50) (ga1 : G a1 = some 16) : MX l K yX7_copyFrom cX7_copyFrom 2 none 1 40 0 0 [.ref a0, .ref a1] H (AE G [50, 51, 52, 53, 54, 55, 56, 57, 58] H.size) (fun v H1 => v = none ∧ TY K G H1) := by
  refine MX.of (by decide +kernel) (Nat.le_of_ble_eq_true rfl) ?_
  intro p e s m below meth c ls Q C hH hl hQ
  subst hH
  have C : CX p K s m _ meth c RX7 cX7_copyFrom 2 none "copyFrom" := C
  obtain ⟨hx, hb, hml, hown, hts, hKT, hr, hlocks, hnm⟩ := id C
  have hl : lv_has ls 2 [(0, .ref a0), (1, .ref a1)] := hl
  have hS : va_S (AE G [50, 51, 52, 53, 54, 55, 56, 57, 58] s.heap.size) s.heap s.heap [] := va_S.rf
  have n_0 : (0 : Int32).toInt = 0 := rfl
  have n_16 : (16 : Int32).toInt = 16 := rfl
  refine lv_aload_n hx hb dX7_copyFrom_0 rfl (lv_at hl 0 rfl) ?_
  refine lv_aload_n hx hb dX7_copyFrom_1 rfl (lv_at hl 1 rfl) ?_
  refine x_gi C hT (ci := 7) (k := 0) rfl inX7 (by decide) wF_X7_36 ga1 rg_16 rfl dX7_copyFrom_2 (fun x661 ex661 bx661 => ?_)
  refine x_put C hT hS (ci := 7) (k := 0) (v := .int x661) (ty0 := tyX7) rfl inX7 tyX7_ok nmX7 (by decide) rfl wF_X7_36 ga0 rg_50 rfl rfl (okI (by have := i_rng x661; omega) (by have := i_rng x661; omega)) rfl rfl (AE_in ga0 (by decide)) dX7_copyFrom_5 (fun H662 locsH662 hTH662 hSH662 wH662 => ?_)
  have m663 := ex661.trans (Wr.neI wH662 (Or.inl (G_ne ga1 ga0 (by decide)))).symm
  have m664 := Wr.I wH662
  have m664 := m664.symm
  refine lv_aload_n hx hb dX7_copyFrom_8 rfl (lv_at hl 1 rfl) ?_
  refine x_gr C hTH662 (ci := 7) (k := 1) rfl inX7 (by decide) wF_X7_9 ga1 rg_16 rfl dX7_copyFrom_9 (fun q665 eq665 gq665 => ?_)
  refine lv_iconst (v := 0) hx hb dX7_copyFrom_12 (by decide) ?_
  refine lv_aload_n hx hb dX7_copyFrom_13 rfl (lv_at hl 0 rfl) ?_
  refine x_gr C hTH662 (ci := 7) (k := 1) rfl inX7 (by decide) wF_X7_9 ga0 rg_50 rfl dX7_copyFrom_14 (fun q666 eq666 gq666 => ?_)
  refine lv_iconst (v := 0) hx hb dX7_copyFrom_17 (by decide) ?_
  refine lv_bipush (v := 16) hx hb dX7_copyFrom_18 (by decide) ?_
  refine x_copy C hTH662 hSH662 wM_X7_44 wNT_arraycopy wST_arraycopy wIN_J10 gq665 gq666 rg_17 rg_51 (by decide) (by omega) (by omega) (by omega) (by show _ ≤ ((16 : Nat) : Int); omega) (by show _ ≤ ((16 : Nat) : Int); omega) (AE_in gq666 (by decide)) hl.1 (by decide) dX7_copyFrom_20 (fun H667 locsH667 hTH667 hSH667 zH667 oH667 vH667 wH667 => ?_)
  have m668 := (m663).trans (fI_kept (oH667 _ (G_ne ga1 gq666 (by decide)))).symm
  have m669 := (m664).trans (fI_kept (oH667 _ (G_ne ga0 gq666 (by decide)))).symm
  have m670 := (eq665).trans (fR_kept (oH667 _ (G_ne ga1 gq666 (by decide)))).symm
  have m671 := (eq666).trans (fR_kept (oH667 _ (G_ne ga0 gq666 (by decide)))).symm
  refine lv_aload_n hx hb dX7_copyFrom_23 rfl (lv_at hl 1 rfl) ?_
  refine x_gr C hTH667 (ci := 7) (k := 2) rfl inX7 (by decide) wF_X7_15 ga1 rg_16 rfl dX7_copyFrom_24 (fun q672 eq672 gq672 => ?_)
  refine lv_iconst (v := 0) hx hb dX7_copyFrom_27 (by decide) ?_
  refine lv_aload_n hx hb dX7_copyFrom_28 rfl (lv_at hl 0 rfl) ?_
  refine x_gr C hTH667 (ci := 7) (k := 2) rfl inX7 (by decide) wF_X7_15 ga0 rg_50 rfl dX7_copyFrom_29 (fun q673 eq673 gq673 => ?_)
  refine lv_iconst (v := 0) hx hb dX7_copyFrom_32 (by decide) ?_
  refine lv_bipush (v := 16) hx hb dX7_copyFrom_33 (by decide) ?_
  refine x_copy C hTH667 hSH667 wM_X7_44 wNT_arraycopy wST_arraycopy wIN_J10 gq672 gq673 rg_18 rg_52 (by decide) (by omega) (by omega) (by omega) (by show _ ≤ ((16 : Nat) : Int); omega) (by show _ ≤ ((16 : Nat) : Int); omega) (AE_in gq673 (by decide)) hl.1 (by decide) dX7_copyFrom_35 (fun H674 locsH674 hTH674 hSH674 zH674 oH674 vH674 wH674 => ?_)
  have m675 := (m668).trans (fI_kept (oH674 _ (G_ne ga1 gq673 (by decide)))).symm
  have m676 := (m669).trans (fI_kept (oH674 _ (G_ne ga0 gq673 (by decide)))).symm
  have m677 := (m670).trans (fR_kept (oH674 _ (G_ne ga1 gq673 (by decide)))).symm
  have m678 := (m671).trans (fR_kept (oH674 _ (G_ne ga0 gq673 (by decide)))).symm
  have m679 := (eq672).trans (fR_kept (oH674 _ (G_ne ga1 gq673 (by decide)))).symm
  have m680 := (eq673).trans (fR_kept (oH674 _ (G_ne ga0 gq673 (by decide)))).symm
  refine lv_aload_n hx hb dX7_copyFrom_38 rfl (lv_at hl 1 rfl) ?_
  refine x_gr C hTH674 (ci := 7) (k := 3) rfl inX7 (by decide) wF_X7_18 ga1 rg_16 rfl dX7_copyFrom_39 (fun q681 eq681 gq681 => ?_)
  refine lv_iconst (v := 0) hx hb dX7_copyFrom_42 (by decide) ?_
  refine lv_aload_n hx hb dX7_copyFrom_43 rfl (lv_at hl 0 rfl) ?_
  refine x_gr C hTH674 (ci := 7) (k := 3) rfl inX7 (by decide) wF_X7_18 ga0 rg_50 rfl dX7_copyFrom_44 (fun q682 eq682 gq682 => ?_)
  refine lv_iconst (v := 0) hx hb dX7_copyFrom_47 (by decide) ?_
  refine lv_bipush (v := 16) hx hb dX7_copyFrom_48 (by decide) ?_
  refine x_copy C hTH674 hSH674 wM_X7_44 wNT_arraycopy wST_arraycopy wIN_J10 gq681 gq682 rg_19 rg_53 (by decide) (by omega) (by omega) (by omega) (by show _ ≤ ((16 : Nat) : Int); omega) (by show _ ≤ ((16 : Nat) : Int); omega) (AE_in gq682 (by decide)) hl.1 (by decide) dX7_copyFrom_50 (fun H683 locsH683 hTH683 hSH683 zH683 oH683 vH683 wH683 => ?_)
  have m684 := (m675).trans (fI_kept (oH683 _ (G_ne ga1 gq682 (by decide)))).symm
  have m685 := (m676).trans (fI_kept (oH683 _ (G_ne ga0 gq682 (by decide)))).symm
  have m686 := (m677).trans (fR_kept (oH683 _ (G_ne ga1 gq682 (by decide)))).symm
  have m687 := (m678).trans (fR_kept (oH683 _ (G_ne ga0 gq682 (by decide)))).symm
  have m688 := (m679).trans (fR_kept (oH683 _ (G_ne ga1 gq682 (by decide)))).symm
  have m689 := (m680).trans (fR_kept (oH683 _ (G_ne ga0 gq682 (by decide)))).symm
  have m690 := (eq681).trans (fR_kept (oH683 _ (G_ne ga1 gq682 (by decide)))).symm
  have m691 := (eq682).trans (fR_kept (oH683 _ (G_ne ga0 gq682 (by decide)))).symm
  refine lv_aload_n hx hb dX7_copyFrom_53 rfl (lv_at hl 1 rfl) ?_
  refine x_gr C hTH683 (ci := 7) (k := 4) rfl inX7 (by decide) wF_X7_21 ga1 rg_16 rfl dX7_copyFrom_54 (fun q692 eq692 gq692 => ?_)
  refine lv_iconst (v := 0) hx hb dX7_copyFrom_57 (by decide) ?_
  refine lv_aload_n hx hb dX7_copyFrom_58 rfl (lv_at hl 0 rfl) ?_
  refine x_gr C hTH683 (ci := 7) (k := 4) rfl inX7 (by decide) wF_X7_21 ga0 rg_50 rfl dX7_copyFrom_59 (fun q693 eq693 gq693 => ?_)
  refine lv_iconst (v := 0) hx hb dX7_copyFrom_62 (by decide) ?_
  refine lv_bipush (v := 16) hx hb dX7_copyFrom_63 (by decide) ?_
  refine x_copy C hTH683 hSH683 wM_X7_44 wNT_arraycopy wST_arraycopy wIN_J10 gq692 gq693 rg_20 rg_54 (by decide) (by omega) (by omega) (by omega) (by show _ ≤ ((16 : Nat) : Int); omega) (by show _ ≤ ((16 : Nat) : Int); omega) (AE_in gq693 (by decide)) hl.1 (by decide) dX7_copyFrom_65 (fun H694 locsH694 hTH694 hSH694 zH694 oH694 vH694 wH694 => ?_)
  have m695 := (m684).trans (fI_kept (oH694 _ (G_ne ga1 gq693 (by decide)))).symm
  have m696 := (m685).trans (fI_kept (oH694 _ (G_ne ga0 gq693 (by decide)))).symm
  have m697 := (m686).trans (fR_kept (oH694 _ (G_ne ga1 gq693 (by decide)))).symm
  have m698 := (m687).trans (fR_kept (oH694 _ (G_ne ga0 gq693 (by decide)))).symm
  have m699 := (m688).trans (fR_kept (oH694 _ (G_ne ga1 gq693 (by decide)))).symm
  have m700 := (m689).trans (fR_kept (oH694 _ (G_ne ga0 gq693 (by decide)))).symm
  have m701 := (m690).trans (fR_kept (oH694 _ (G_ne ga1 gq693 (by decide)))).symm
  have m702 := (m691).trans (fR_kept (oH694 _ (G_ne ga0 gq693 (by decide)))).symm
  have m703 := (eq692).trans (fR_kept (oH694 _ (G_ne ga1 gq693 (by decide)))).symm
  have m704 := (eq693).trans (fR_kept (oH694 _ (G_ne ga0 gq693 (by decide)))).symm
  refine lv_aload_n hx hb dX7_copyFrom_68 rfl (lv_at hl 1 rfl) ?_
  refine x_gr C hTH694 (ci := 7) (k := 5) rfl inX7 (by decide) wF_X7_24 ga1 rg_16 rfl dX7_copyFrom_69 (fun q705 eq705 gq705 => ?_)
  refine lv_iconst (v := 0) hx hb dX7_copyFrom_72 (by decide) ?_
  refine lv_aload_n hx hb dX7_copyFrom_73 rfl (lv_at hl 0 rfl) ?_
  refine x_gr C hTH694 (ci := 7) (k := 5) rfl inX7 (by decide) wF_X7_24 ga0 rg_50 rfl dX7_copyFrom_74 (fun q706 eq706 gq706 => ?_)
  refine lv_iconst (v := 0) hx hb dX7_copyFrom_77 (by decide) ?_
  refine lv_bipush (v := 16) hx hb dX7_copyFrom_78 (by decide) ?_
  refine x_copy C hTH694 hSH694 wM_X7_44 wNT_arraycopy wST_arraycopy wIN_J10 gq705 gq706 rg_21 rg_55 (by decide) (by omega) (by omega) (by omega) (by show _ ≤ ((16 : Nat) : Int); omega) (by show _ ≤ ((16 : Nat) : Int); omega) (AE_in gq706 (by decide)) hl.1 (by decide) dX7_copyFrom_80 (fun H707 locsH707 hTH707 hSH707 zH707 oH707 vH707 wH707 => ?_)
  have m708 := (m695).trans (fI_kept (oH707 _ (G_ne ga1 gq706 (by decide)))).symm
  have m709 := (m696).trans (fI_kept (oH707 _ (G_ne ga0 gq706 (by decide)))).symm
  have m710 := (m697).trans (fR_kept (oH707 _ (G_ne ga1 gq706 (by decide)))).symm
  have m711 := (m698).trans (fR_kept (oH707 _ (G_ne ga0 gq706 (by decide)))).symm
  have m712 := (m699).trans (fR_kept (oH707 _ (G_ne ga1 gq706 (by decide)))).symm
  have m713 := (m700).trans (fR_kept (oH707 _ (G_ne ga0 gq706 (by decide)))).symm
  have m714 := (m701).trans (fR_kept (oH707 _ (G_ne ga1 gq706 (by decide)))).symm
  have m715 := (m702).trans (fR_kept (oH707 _ (G_ne ga0 gq706 (by decide)))).symm
  have m716 := (m703).trans (fR_kept (oH707 _ (G_ne ga1 gq706 (by decide)))).symm
  have m717 := (m704).trans (fR_kept (oH707 _ (G_ne ga0 gq706 (by decide)))).symm
  have m718 := (eq705).trans (fR_kept (oH707 _ (G_ne ga1 gq706 (by decide)))).symm
  have m719 := (eq706).trans (fR_kept (oH707 _ (G_ne ga0 gq706 (by decide)))).symm
  refine lv_aload_n hx hb dX7_copyFrom_83 rfl (lv_at hl 1 rfl) ?_
  refine x_gr C hTH707 (ci := 7) (k := 6) rfl inX7 (by decide) wF_X7_27 ga1 rg_16 rfl dX7_copyFrom_84 (fun q720 eq720 gq720 => ?_)
  refine lv_iconst (v := 0) hx hb dX7_copyFrom_87 (by decide) ?_
  refine lv_aload_n hx hb dX7_copyFrom_88 rfl (lv_at hl 0 rfl) ?_
  refine x_gr C hTH707 (ci := 7) (k := 6) rfl inX7 (by decide) wF_X7_27 ga0 rg_50 rfl dX7_copyFrom_89 (fun q721 eq721 gq721 => ?_)
  refine lv_iconst (v := 0) hx hb dX7_copyFrom_92 (by decide) ?_
  refine lv_bipush (v := 16) hx hb dX7_copyFrom_93 (by decide) ?_
  refine x_copy C hTH707 hSH707 wM_X7_44 wNT_arraycopy wST_arraycopy wIN_J10 gq720 gq721 rg_22 rg_56 (by decide) (by omega) (by omega) (by omega) (by show _ ≤ ((16 : Nat) : Int); omega) (by show _ ≤ ((16 : Nat) : Int); omega) (AE_in gq721 (by decide)) hl.1 (by decide) dX7_copyFrom_95 (fun H722 locsH722 hTH722 hSH722 zH722 oH722 vH722 wH722 => ?_)
  have m723 := (m708).trans (fI_kept (oH722 _ (G_ne ga1 gq721 (by decide)))).symm
  have m724 := (m709).trans (fI_kept (oH722 _ (G_ne ga0 gq721 (by decide)))).symm
  have m725 := (m710).trans (fR_kept (oH722 _ (G_ne ga1 gq721 (by decide)))).symm
  have m726 := (m711).trans (fR_kept (oH722 _ (G_ne ga0 gq721 (by decide)))).symm
  have m727 := (m712).trans (fR_kept (oH722 _ (G_ne ga1 gq721 (by decide)))).symm
  have m728 := (m713).trans (fR_kept (oH722 _ (G_ne ga0 gq721 (by decide)))).symm
  have m729 := (m714).trans (fR_kept (oH722 _ (G_ne ga1 gq721 (by decide)))).symm
  have m730 := (m715).trans (fR_kept (oH722 _ (G_ne ga0 gq721 (by decide)))).symm
  have m731 := (m716).trans (fR_kept (oH722 _ (G_ne ga1 gq721 (by decide)))).symm
  have m732 := (m717).trans (fR_kept (oH722 _ (G_ne ga0 gq721 (by decide)))).symm
  have m733 := (m718).trans (fR_kept (oH722 _ (G_ne ga1 gq721 (by decide)))).symm
  have m734 := (m719).trans (fR_kept (oH722 _ (G_ne ga0 gq721 (by decide)))).symm
  have m735 := (eq720).trans (fR_kept (oH722 _ (G_ne ga1 gq721 (by decide)))).symm
  have m736 := (eq721).trans (fR_kept (oH722 _ (G_ne ga0 gq721 (by decide)))).symm
  refine lv_aload_n hx hb dX7_copyFrom_98 rfl (lv_at hl 1 rfl) ?_
  refine x_gr C hTH722 (ci := 7) (k := 7) rfl inX7 (by decide) wF_X7_30 ga1 rg_16 rfl dX7_copyFrom_99 (fun q737 eq737 gq737 => ?_)
  refine lv_iconst (v := 0) hx hb dX7_copyFrom_102 (by decide) ?_
  refine lv_aload_n hx hb dX7_copyFrom_103 rfl (lv_at hl 0 rfl) ?_
  refine x_gr C hTH722 (ci := 7) (k := 7) rfl inX7 (by decide) wF_X7_30 ga0 rg_50 rfl dX7_copyFrom_104 (fun q738 eq738 gq738 => ?_)
  refine lv_iconst (v := 0) hx hb dX7_copyFrom_107 (by decide) ?_
  refine lv_bipush (v := 16) hx hb dX7_copyFrom_108 (by decide) ?_
  refine x_copy C hTH722 hSH722 wM_X7_44 wNT_arraycopy wST_arraycopy wIN_J10 gq737 gq738 rg_23 rg_57 (by decide) (by omega) (by omega) (by omega) (by show _ ≤ ((16 : Nat) : Int); omega) (by show _ ≤ ((16 : Nat) : Int); omega) (AE_in gq738 (by decide)) hl.1 (by decide) dX7_copyFrom_110 (fun H739 locsH739 hTH739 hSH739 zH739 oH739 vH739 wH739 => ?_)
  have m740 := (m723).trans (fI_kept (oH739 _ (G_ne ga1 gq738 (by decide)))).symm
  have m741 := (m724).trans (fI_kept (oH739 _ (G_ne ga0 gq738 (by decide)))).symm
  have m742 := (m725).trans (fR_kept (oH739 _ (G_ne ga1 gq738 (by decide)))).symm
  have m743 := (m726).trans (fR_kept (oH739 _ (G_ne ga0 gq738 (by decide)))).symm
  have m744 := (m727).trans (fR_kept (oH739 _ (G_ne ga1 gq738 (by decide)))).symm
  have m745 := (m728).trans (fR_kept (oH739 _ (G_ne ga0 gq738 (by decide)))).symm
  have m746 := (m729).trans (fR_kept (oH739 _ (G_ne ga1 gq738 (by decide)))).symm
  have m747 := (m730).trans (fR_kept (oH739 _ (G_ne ga0 gq738 (by decide)))).symm
  have m748 := (m731).trans (fR_kept (oH739 _ (G_ne ga1 gq738 (by decide)))).symm
  have m749 := (m732).trans (fR_kept (oH739 _ (G_ne ga0 gq738 (by decide)))).symm
  have m750 := (m733).trans (fR_kept (oH739 _ (G_ne ga1 gq738 (by decide)))).symm
  have m751 := (m734).trans (fR_kept (oH739 _ (G_ne ga0 gq738 (by decide)))).symm
  have m752 := (m735).trans (fR_kept (oH739 _ (G_ne ga1 gq738 (by decide)))).symm
  have m753 := (m736).trans (fR_kept (oH739 _ (G_ne ga0 gq738 (by decide)))).symm
  have m754 := (eq737).trans (fR_kept (oH739 _ (G_ne ga1 gq738 (by decide)))).symm
  have m755 := (eq738).trans (fR_kept (oH739 _ (G_ne ga0 gq738 (by decide)))).symm
  refine lv_aload_n hx hb dX7_copyFrom_113 rfl (lv_at hl 1 rfl) ?_
  refine x_gr C hTH739 (ci := 7) (k := 8) rfl inX7 (by decide) wF_X7_33 ga1 rg_16 rfl dX7_copyFrom_114 (fun q756 eq756 gq756 => ?_)
  refine lv_iconst (v := 0) hx hb dX7_copyFrom_117 (by decide) ?_
  refine lv_aload_n hx hb dX7_copyFrom_118 rfl (lv_at hl 0 rfl) ?_
  refine x_gr C hTH739 (ci := 7) (k := 8) rfl inX7 (by decide) wF_X7_33 ga0 rg_50 rfl dX7_copyFrom_119 (fun q757 eq757 gq757 => ?_)
  refine lv_iconst (v := 0) hx hb dX7_copyFrom_122 (by decide) ?_
  refine lv_aload_n hx hb dX7_copyFrom_123 rfl (lv_at hl 1 rfl) ?_
  refine x_gi C hTH739 (ci := 7) (k := 9) rfl inX7 (by decide) wF_X7_40 ga1 rg_16 rfl dX7_copyFrom_124 (fun x758 ex758 bx758 => ?_)
  refine x_copy C hTH739 hSH739 wM_X7_44 wNT_arraycopy wST_arraycopy wIN_J10 gq756 gq757 rg_24 rg_58 (by decide) (by omega) (by omega) (by omega) (by show _ ≤ ((500 : Nat) : Int); omega) (by show _ ≤ ((500 : Nat) : Int); omega) (AE_in gq757 (by decide)) hl.1 (by decide) dX7_copyFrom_127 (fun H759 locsH759 hTH759 hSH759 zH759 oH759 vH759 wH759 => ?_)
  have m760 := (m740).trans (fI_kept (oH759 _ (G_ne ga1 gq757 (by decide)))).symm
  have m761 := (m741).trans (fI_kept (oH759 _ (G_ne ga0 gq757 (by decide)))).symm
  have m762 := (m742).trans (fR_kept (oH759 _ (G_ne ga1 gq757 (by decide)))).symm
  have m763 := (m743).trans (fR_kept (oH759 _ (G_ne ga0 gq757 (by decide)))).symm
  have m764 := (m744).trans (fR_kept (oH759 _ (G_ne ga1 gq757 (by decide)))).symm
  have m765 := (m745).trans (fR_kept (oH759 _ (G_ne ga0 gq757 (by decide)))).symm
  have m766 := (m746).trans (fR_kept (oH759 _ (G_ne ga1 gq757 (by decide)))).symm
  have m767 := (m747).trans (fR_kept (oH759 _ (G_ne ga0 gq757 (by decide)))).symm
  have m768 := (m748).trans (fR_kept (oH759 _ (G_ne ga1 gq757 (by decide)))).symm
  have m769 := (m749).trans (fR_kept (oH759 _ (G_ne ga0 gq757 (by decide)))).symm
  have m770 := (m750).trans (fR_kept (oH759 _ (G_ne ga1 gq757 (by decide)))).symm
  have m771 := (m751).trans (fR_kept (oH759 _ (G_ne ga0 gq757 (by decide)))).symm
  have m772 := (m752).trans (fR_kept (oH759 _ (G_ne ga1 gq757 (by decide)))).symm
  have m773 := (m753).trans (fR_kept (oH759 _ (G_ne ga0 gq757 (by decide)))).symm
  have m774 := (m754).trans (fR_kept (oH759 _ (G_ne ga1 gq757 (by decide)))).symm
  have m775 := (m755).trans (fR_kept (oH759 _ (G_ne ga0 gq757 (by decide)))).symm
  have m776 := (eq756).trans (fR_kept (oH759 _ (G_ne ga1 gq757 (by decide)))).symm
  have m777 := (eq757).trans (fR_kept (oH759 _ (G_ne ga0 gq757 (by decide)))).symm
  have m778 := (ex758).trans (fI_kept (oH759 _ (G_ne ga1 gq757 (by decide)))).symm
  refine lv_aload_n hx hb dX7_copyFrom_130 rfl (lv_at hl 0 rfl) ?_
  refine lv_aload_n hx hb dX7_copyFrom_131 rfl (lv_at hl 1 rfl) ?_
  refine x_gi C hTH759 (ci := 7) (k := 9) rfl inX7 (by decide) wF_X7_40 ga1 rg_16 rfl dX7_copyFrom_132 (fun x779 ex779 bx779 => ?_)
  have ux779 : x758 = x779 := (m778).trans ex779.symm
  subst ux779
  refine x_put C hTH759 hSH759 (ci := 7) (k := 9) (v := .int x758) (ty0 := tyX7) rfl inX7 tyX7_ok nmX7 (by decide) rfl wF_X7_40 ga0 rg_50 rfl rfl (okI (by have := i_rng x758; omega) (by have := i_rng x758; omega)) rfl rfl (AE_in ga0 (by decide)) dX7_copyFrom_135 (fun H780 locsH780 hTH780 hSH780 wH780 => ?_)
  have m781 := m760.trans (Wr.neI wH780 (Or.inl (G_ne ga1 ga0 (by decide)))).symm
  have m782 := m761.trans (Wr.neI wH780 (Or.inr (x_apart hKT hts inX7 tyX7 tyX7_ok nmX7 rfl 0 9 (by decide) (by decide) (by decide)))).symm
  have m783 := m762.trans (Wr.neR wH780 (Or.inl (G_ne ga1 ga0 (by decide)))).symm
  have m784 := m763.trans (Wr.neR wH780 (Or.inr (x_apart hKT hts inX7 tyX7 tyX7_ok nmX7 rfl 1 9 (by decide) (by decide) (by decide)))).symm
  have m785 := m764.trans (Wr.neR wH780 (Or.inl (G_ne ga1 ga0 (by decide)))).symm
  have m786 := m765.trans (Wr.neR wH780 (Or.inr (x_apart hKT hts inX7 tyX7 tyX7_ok nmX7 rfl 2 9 (by decide) (by decide) (by decide)))).symm
  have m787 := m766.trans (Wr.neR wH780 (Or.inl (G_ne ga1 ga0 (by decide)))).symm
  have m788 := m767.trans (Wr.neR wH780 (Or.inr (x_apart hKT hts inX7 tyX7 tyX7_ok nmX7 rfl 3 9 (by decide) (by decide) (by decide)))).symm
  have m789 := m768.trans (Wr.neR wH780 (Or.inl (G_ne ga1 ga0 (by decide)))).symm
  have m790 := m769.trans (Wr.neR wH780 (Or.inr (x_apart hKT hts inX7 tyX7 tyX7_ok nmX7 rfl 4 9 (by decide) (by decide) (by decide)))).symm
  have m791 := m770.trans (Wr.neR wH780 (Or.inl (G_ne ga1 ga0 (by decide)))).symm
  have m792 := m771.trans (Wr.neR wH780 (Or.inr (x_apart hKT hts inX7 tyX7 tyX7_ok nmX7 rfl 5 9 (by decide) (by decide) (by decide)))).symm
  have m793 := m772.trans (Wr.neR wH780 (Or.inl (G_ne ga1 ga0 (by decide)))).symm
  have m794 := m773.trans (Wr.neR wH780 (Or.inr (x_apart hKT hts inX7 tyX7 tyX7_ok nmX7 rfl 6 9 (by decide) (by decide) (by decide)))).symm
  have m795 := m774.trans (Wr.neR wH780 (Or.inl (G_ne ga1 ga0 (by decide)))).symm
  have m796 := m775.trans (Wr.neR wH780 (Or.inr (x_apart hKT hts inX7 tyX7 tyX7_ok nmX7 rfl 7 9 (by decide) (by decide) (by decide)))).symm
  have m797 := m776.trans (Wr.neR wH780 (Or.inl (G_ne ga1 ga0 (by decide)))).symm
  have m798 := m777.trans (Wr.neR wH780 (Or.inr (x_apart hKT hts inX7 tyX7 tyX7_ok nmX7 rfl 8 9 (by decide) (by decide) (by decide)))).symm
  have m799 := m778.trans (Wr.neI wH780 (Or.inl (G_ne ga1 ga0 (by decide)))).symm
  have m800 := Wr.I wH780
  have m800 := m800.symm
  exact x_vret C hQ dX7_copyFrom_138 hSH780 (by decide) (by decide) (⟨rfl, hTH780⟩)

set_option maxHeartbeats 4000000 in
set_option maxRecDepth 100000 in
theorem a_X7_copyFrom_n_k (l : Launch) (K : KE) (G : Nat → Option Nat) (H : Heap) {a0 : Nat} {a1 : Nat} (hT : TY K G H) (ga0 : G a0 = some 16) (ga1 : G a1 = some 50) : MX l K yX7_copyFrom cX7_copyFrom 2 none 1 40 0 0 [.ref a0, .ref a1] H (AE G [16, 17, 18, 19, 20, 21, 22, 23, 24] H.size) (fun v H1 => v = none ∧ TY K G H1) := by
  refine MX.of (by decide +kernel) (Nat.le_of_ble_eq_true rfl) ?_
  intro p e s m below meth c ls Q C hH hl hQ
  subst hH
  have C : CX p K s m _ meth c RX7 cX7_copyFrom 2 none "copyFrom" := C
  obtain ⟨hx, hb, hml, hown, hts, hKT, hr, hlocks, hnm⟩ := id C
  have hl : lv_has ls 2 [(0, .ref a0), (1, .ref a1)] := hl
  have hS : va_S (AE G [16, 17, 18, 19, 20, 21, 22, 23, 24] s.heap.size) s.heap s.heap [] := va_S.rf
  have n_0 : (0 : Int32).toInt = 0 := rfl
  have n_16 : (16 : Int32).toInt = 16 := rfl
  refine lv_aload_n hx hb dX7_copyFrom_0 rfl (lv_at hl 0 rfl) ?_
  refine lv_aload_n hx hb dX7_copyFrom_1 rfl (lv_at hl 1 rfl) ?_
  refine x_gi C hT (ci := 7) (k := 0) rfl inX7 (by decide) wF_X7_36 ga1 rg_50 rfl dX7_copyFrom_2 (fun x661 ex661 bx661 => ?_)
  refine x_put C hT hS (ci := 7) (k := 0) (v := .int x661) (ty0 := tyX7) rfl inX7 tyX7_ok nmX7 (by decide) rfl wF_X7_36 ga0 rg_16 rfl rfl (okI (by have := i_rng x661; omega) (by have := i_rng x661; omega)) rfl rfl (AE_in ga0 (by decide)) dX7_copyFrom_5 (fun H662 locsH662 hTH662 hSH662 wH662 => ?_)
  have m663 := ex661.trans (Wr.neI wH662 (Or.inl (G_ne ga1 ga0 (by decide)))).symm
  have m664 := Wr.I wH662
  have m664 := m664.symm
  refine lv_aload_n hx hb dX7_copyFrom_8 rfl (lv_at hl 1 rfl) ?_
  refine x_gr C hTH662 (ci := 7) (k := 1) rfl inX7 (by decide) wF_X7_9 ga1 rg_50 rfl dX7_copyFrom_9 (fun q665 eq665 gq665 => ?_)
  refine lv_iconst (v := 0) hx hb dX7_copyFrom_12 (by decide) ?_
  refine lv_aload_n hx hb dX7_copyFrom_13 rfl (lv_at hl 0 rfl) ?_
  refine x_gr C hTH662 (ci := 7) (k := 1) rfl inX7 (by decide) wF_X7_9 ga0 rg_16 rfl dX7_copyFrom_14 (fun q666 eq666 gq666 => ?_)
  refine lv_iconst (v := 0) hx hb dX7_copyFrom_17 (by decide) ?_
  refine lv_bipush (v := 16) hx hb dX7_copyFrom_18 (by decide) ?_
  refine x_copy C hTH662 hSH662 wM_X7_44 wNT_arraycopy wST_arraycopy wIN_J10 gq665 gq666 rg_51 rg_17 (by decide) (by omega) (by omega) (by omega) (by show _ ≤ ((16 : Nat) : Int); omega) (by show _ ≤ ((16 : Nat) : Int); omega) (AE_in gq666 (by decide)) hl.1 (by decide) dX7_copyFrom_20 (fun H667 locsH667 hTH667 hSH667 zH667 oH667 vH667 wH667 => ?_)
  have m668 := (m663).trans (fI_kept (oH667 _ (G_ne ga1 gq666 (by decide)))).symm
  have m669 := (m664).trans (fI_kept (oH667 _ (G_ne ga0 gq666 (by decide)))).symm
  have m670 := (eq665).trans (fR_kept (oH667 _ (G_ne ga1 gq666 (by decide)))).symm
  have m671 := (eq666).trans (fR_kept (oH667 _ (G_ne ga0 gq666 (by decide)))).symm
  refine lv_aload_n hx hb dX7_copyFrom_23 rfl (lv_at hl 1 rfl) ?_
  refine x_gr C hTH667 (ci := 7) (k := 2) rfl inX7 (by decide) wF_X7_15 ga1 rg_50 rfl dX7_copyFrom_24 (fun q672 eq672 gq672 => ?_)
  refine lv_iconst (v := 0) hx hb dX7_copyFrom_27 (by decide) ?_
  refine lv_aload_n hx hb dX7_copyFrom_28 rfl (lv_at hl 0 rfl) ?_
  refine x_gr C hTH667 (ci := 7) (k := 2) rfl inX7 (by decide) wF_X7_15 ga0 rg_16 rfl dX7_copyFrom_29 (fun q673 eq673 gq673 => ?_)
  refine lv_iconst (v := 0) hx hb dX7_copyFrom_32 (by decide) ?_
  refine lv_bipush (v := 16) hx hb dX7_copyFrom_33 (by decide) ?_
  refine x_copy C hTH667 hSH667 wM_X7_44 wNT_arraycopy wST_arraycopy wIN_J10 gq672 gq673 rg_52 rg_18 (by decide) (by omega) (by omega) (by omega) (by show _ ≤ ((16 : Nat) : Int); omega) (by show _ ≤ ((16 : Nat) : Int); omega) (AE_in gq673 (by decide)) hl.1 (by decide) dX7_copyFrom_35 (fun H674 locsH674 hTH674 hSH674 zH674 oH674 vH674 wH674 => ?_)
  have m675 := (m668).trans (fI_kept (oH674 _ (G_ne ga1 gq673 (by decide)))).symm
  have m676 := (m669).trans (fI_kept (oH674 _ (G_ne ga0 gq673 (by decide)))).symm
  have m677 := (m670).trans (fR_kept (oH674 _ (G_ne ga1 gq673 (by decide)))).symm
  have m678 := (m671).trans (fR_kept (oH674 _ (G_ne ga0 gq673 (by decide)))).symm
  have m679 := (eq672).trans (fR_kept (oH674 _ (G_ne ga1 gq673 (by decide)))).symm
  have m680 := (eq673).trans (fR_kept (oH674 _ (G_ne ga0 gq673 (by decide)))).symm
  refine lv_aload_n hx hb dX7_copyFrom_38 rfl (lv_at hl 1 rfl) ?_
  refine x_gr C hTH674 (ci := 7) (k := 3) rfl inX7 (by decide) wF_X7_18 ga1 rg_50 rfl dX7_copyFrom_39 (fun q681 eq681 gq681 => ?_)
  refine lv_iconst (v := 0) hx hb dX7_copyFrom_42 (by decide) ?_
  refine lv_aload_n hx hb dX7_copyFrom_43 rfl (lv_at hl 0 rfl) ?_
  refine x_gr C hTH674 (ci := 7) (k := 3) rfl inX7 (by decide) wF_X7_18 ga0 rg_16 rfl dX7_copyFrom_44 (fun q682 eq682 gq682 => ?_)
  refine lv_iconst (v := 0) hx hb dX7_copyFrom_47 (by decide) ?_
  refine lv_bipush (v := 16) hx hb dX7_copyFrom_48 (by decide) ?_
  refine x_copy C hTH674 hSH674 wM_X7_44 wNT_arraycopy wST_arraycopy wIN_J10 gq681 gq682 rg_53 rg_19 (by decide) (by omega) (by omega) (by omega) (by show _ ≤ ((16 : Nat) : Int); omega) (by show _ ≤ ((16 : Nat) : Int); omega) (AE_in gq682 (by decide)) hl.1 (by decide) dX7_copyFrom_50 (fun H683 locsH683 hTH683 hSH683 zH683 oH683 vH683 wH683 => ?_)
  have m684 := (m675).trans (fI_kept (oH683 _ (G_ne ga1 gq682 (by decide)))).symm
  have m685 := (m676).trans (fI_kept (oH683 _ (G_ne ga0 gq682 (by decide)))).symm
  have m686 := (m677).trans (fR_kept (oH683 _ (G_ne ga1 gq682 (by decide)))).symm
  have m687 := (m678).trans (fR_kept (oH683 _ (G_ne ga0 gq682 (by decide)))).symm
  have m688 := (m679).trans (fR_kept (oH683 _ (G_ne ga1 gq682 (by decide)))).symm
  have m689 := (m680).trans (fR_kept (oH683 _ (G_ne ga0 gq682 (by decide)))).symm
  have m690 := (eq681).trans (fR_kept (oH683 _ (G_ne ga1 gq682 (by decide)))).symm
  have m691 := (eq682).trans (fR_kept (oH683 _ (G_ne ga0 gq682 (by decide)))).symm
  refine lv_aload_n hx hb dX7_copyFrom_53 rfl (lv_at hl 1 rfl) ?_
  refine x_gr C hTH683 (ci := 7) (k := 4) rfl inX7 (by decide) wF_X7_21 ga1 rg_50 rfl dX7_copyFrom_54 (fun q692 eq692 gq692 => ?_)
  refine lv_iconst (v := 0) hx hb dX7_copyFrom_57 (by decide) ?_
  refine lv_aload_n hx hb dX7_copyFrom_58 rfl (lv_at hl 0 rfl) ?_
  refine x_gr C hTH683 (ci := 7) (k := 4) rfl inX7 (by decide) wF_X7_21 ga0 rg_16 rfl dX7_copyFrom_59 (fun q693 eq693 gq693 => ?_)
  refine lv_iconst (v := 0) hx hb dX7_copyFrom_62 (by decide) ?_
  refine lv_bipush (v := 16) hx hb dX7_copyFrom_63 (by decide) ?_
  refine x_copy C hTH683 hSH683 wM_X7_44 wNT_arraycopy wST_arraycopy wIN_J10 gq692 gq693 rg_54 rg_20 (by decide) (by omega) (by omega) (by omega) (by show _ ≤ ((16 : Nat) : Int); omega) (by show _ ≤ ((16 : Nat) : Int); omega) (AE_in gq693 (by decide)) hl.1 (by decide) dX7_copyFrom_65 (fun H694 locsH694 hTH694 hSH694 zH694 oH694 vH694 wH694 => ?_)
  have m695 := (m684).trans (fI_kept (oH694 _ (G_ne ga1 gq693 (by decide)))).symm
  have m696 := (m685).trans (fI_kept (oH694 _ (G_ne ga0 gq693 (by decide)))).symm
  have m697 := (m686).trans (fR_kept (oH694 _ (G_ne ga1 gq693 (by decide)))).symm
  have m698 := (m687).trans (fR_kept (oH694 _ (G_ne ga0 gq693 (by decide)))).symm
  have m699 := (m688).trans (fR_kept (oH694 _ (G_ne ga1 gq693 (by decide)))).symm
  have m700 := (m689).trans (fR_kept (oH694 _ (G_ne ga0 gq693 (by decide)))).symm
  have m701 := (m690).trans (fR_kept (oH694 _ (G_ne ga1 gq693 (by decide)))).symm
  have m702 := (m691).trans (fR_kept (oH694 _ (G_ne ga0 gq693 (by decide)))).symm
  have m703 := (eq692).trans (fR_kept (oH694 _ (G_ne ga1 gq693 (by decide)))).symm
  have m704 := (eq693).trans (fR_kept (oH694 _ (G_ne ga0 gq693 (by decide)))).symm
  refine lv_aload_n hx hb dX7_copyFrom_68 rfl (lv_at hl 1 rfl) ?_
  refine x_gr C hTH694 (ci := 7) (k := 5) rfl inX7 (by decide) wF_X7_24 ga1 rg_50 rfl dX7_copyFrom_69 (fun q705 eq705 gq705 => ?_)
  refine lv_iconst (v := 0) hx hb dX7_copyFrom_72 (by decide) ?_
  refine lv_aload_n hx hb dX7_copyFrom_73 rfl (lv_at hl 0 rfl) ?_
  refine x_gr C hTH694 (ci := 7) (k := 5) rfl inX7 (by decide) wF_X7_24 ga0 rg_16 rfl dX7_copyFrom_74 (fun q706 eq706 gq706 => ?_)
  refine lv_iconst (v := 0) hx hb dX7_copyFrom_77 (by decide) ?_
  refine lv_bipush (v := 16) hx hb dX7_copyFrom_78 (by decide) ?_
  refine x_copy C hTH694 hSH694 wM_X7_44 wNT_arraycopy wST_arraycopy wIN_J10 gq705 gq706 rg_55 rg_21 (by decide) (by omega) (by omega) (by omega) (by show _ ≤ ((16 : Nat) : Int); omega) (by show _ ≤ ((16 : Nat) : Int); omega) (AE_in gq706 (by decide)) hl.1 (by decide) dX7_copyFrom_80 (fun H707 locsH707 hTH707 hSH707 zH707 oH707 vH707 wH707 => ?_)
  have m708 := (m695).trans (fI_kept (oH707 _ (G_ne ga1 gq706 (by decide)))).symm
  have m709 := (m696).trans (fI_kept (oH707 _ (G_ne ga0 gq706 (by decide)))).symm
  have m710 := (m697).trans (fR_kept (oH707 _ (G_ne ga1 gq706 (by decide)))).symm
  have m711 := (m698).trans (fR_kept (oH707 _ (G_ne ga0 gq706 (by decide)))).symm
  have m712 := (m699).trans (fR_kept (oH707 _ (G_ne ga1 gq706 (by decide)))).symm
  have m713 := (m700).trans (fR_kept (oH707 _ (G_ne ga0 gq706 (by decide)))).symm
  have m714 := (m701).trans (fR_kept (oH707 _ (G_ne ga1 gq706 (by decide)))).symm
  have m715 := (m702).trans (fR_kept (oH707 _ (G_ne ga0 gq706 (by decide)))).symm
  have m716 := (m703).trans (fR_kept (oH707 _ (G_ne ga1 gq706 (by decide)))).symm
  have m717 := (m704).trans (fR_kept (oH707 _ (G_ne ga0 gq706 (by decide)))).symm
  have m718 := (eq705).trans (fR_kept (oH707 _ (G_ne ga1 gq706 (by decide)))).symm
  have m719 := (eq706).trans (fR_kept (oH707 _ (G_ne ga0 gq706 (by decide)))).symm
  refine lv_aload_n hx hb dX7_copyFrom_83 rfl (lv_at hl 1 rfl) ?_
  refine x_gr C hTH707 (ci := 7) (k := 6) rfl inX7 (by decide) wF_X7_27 ga1 rg_50 rfl dX7_copyFrom_84 (fun q720 eq720 gq720 => ?_)
  refine lv_iconst (v := 0) hx hb dX7_copyFrom_87 (by decide) ?_
  refine lv_aload_n hx hb dX7_copyFrom_88 rfl (lv_at hl 0 rfl) ?_
  refine x_gr C hTH707 (ci := 7) (k := 6) rfl inX7 (by decide) wF_X7_27 ga0 rg_16 rfl dX7_copyFrom_89 (fun q721 eq721 gq721 => ?_)
  refine lv_iconst (v := 0) hx hb dX7_copyFrom_92 (by decide) ?_
  refine lv_bipush (v := 16) hx hb dX7_copyFrom_93 (by decide) ?_
  refine x_copy C hTH707 hSH707 wM_X7_44 wNT_arraycopy wST_arraycopy wIN_J10 gq720 gq721 rg_56 rg_22 (by decide) (by omega) (by omega) (by omega) (by show _ ≤ ((16 : Nat) : Int); omega) (by show _ ≤ ((16 : Nat) : Int); omega) (AE_in gq721 (by decide)) hl.1 (by decide) dX7_copyFrom_95 (fun H722 locsH722 hTH722 hSH722 zH722 oH722 vH722 wH722 => ?_)
  have m723 := (m708).trans (fI_kept (oH722 _ (G_ne ga1 gq721 (by decide)))).symm
  have m724 := (m709).trans (fI_kept (oH722 _ (G_ne ga0 gq721 (by decide)))).symm
  have m725 := (m710).trans (fR_kept (oH722 _ (G_ne ga1 gq721 (by decide)))).symm
  have m726 := (m711).trans (fR_kept (oH722 _ (G_ne ga0 gq721 (by decide)))).symm
  have m727 := (m712).trans (fR_kept (oH722 _ (G_ne ga1 gq721 (by decide)))).symm
  have m728 := (m713).trans (fR_kept (oH722 _ (G_ne ga0 gq721 (by decide)))).symm
  have m729 := (m714).trans (fR_kept (oH722 _ (G_ne ga1 gq721 (by decide)))).symm
  have m730 := (m715).trans (fR_kept (oH722 _ (G_ne ga0 gq721 (by decide)))).symm
  have m731 := (m716).trans (fR_kept (oH722 _ (G_ne ga1 gq721 (by decide)))).symm
  have m732 := (m717).trans (fR_kept (oH722 _ (G_ne ga0 gq721 (by decide)))).symm
  have m733 := (m718).trans (fR_kept (oH722 _ (G_ne ga1 gq721 (by decide)))).symm
  have m734 := (m719).trans (fR_kept (oH722 _ (G_ne ga0 gq721 (by decide)))).symm
  have m735 := (eq720).trans (fR_kept (oH722 _ (G_ne ga1 gq721 (by decide)))).symm
  have m736 := (eq721).trans (fR_kept (oH722 _ (G_ne ga0 gq721 (by decide)))).symm
  refine lv_aload_n hx hb dX7_copyFrom_98 rfl (lv_at hl 1 rfl) ?_
  refine x_gr C hTH722 (ci := 7) (k := 7) rfl inX7 (by decide) wF_X7_30 ga1 rg_50 rfl dX7_copyFrom_99 (fun q737 eq737 gq737 => ?_)
  refine lv_iconst (v := 0) hx hb dX7_copyFrom_102 (by decide) ?_
  refine lv_aload_n hx hb dX7_copyFrom_103 rfl (lv_at hl 0 rfl) ?_
  refine x_gr C hTH722 (ci := 7) (k := 7) rfl inX7 (by decide) wF_X7_30 ga0 rg_16 rfl dX7_copyFrom_104 (fun q738 eq738 gq738 => ?_)
  refine lv_iconst (v := 0) hx hb dX7_copyFrom_107 (by decide) ?_
  refine lv_bipush (v := 16) hx hb dX7_copyFrom_108 (by decide) ?_
  refine x_copy C hTH722 hSH722 wM_X7_44 wNT_arraycopy wST_arraycopy wIN_J10 gq737 gq738 rg_57 rg_23 (by decide) (by omega) (by omega) (by omega) (by show _ ≤ ((16 : Nat) : Int); omega) (by show _ ≤ ((16 : Nat) : Int); omega) (AE_in gq738 (by decide)) hl.1 (by decide) dX7_copyFrom_110 (fun H739 locsH739 hTH739 hSH739 zH739 oH739 vH739 wH739 => ?_)
  have m740 := (m723).trans (fI_kept (oH739 _ (G_ne ga1 gq738 (by decide)))).symm
  have m741 := (m724).trans (fI_kept (oH739 _ (G_ne ga0 gq738 (by decide)))).symm
  have m742 := (m725).trans (fR_kept (oH739 _ (G_ne ga1 gq738 (by decide)))).symm
  have m743 := (m726).trans (fR_kept (oH739 _ (G_ne ga0 gq738 (by decide)))).symm
  have m744 := (m727).trans (fR_kept (oH739 _ (G_ne ga1 gq738 (by decide)))).symm
  have m745 := (m728).trans (fR_kept (oH739 _ (G_ne ga0 gq738 (by decide)))).symm
  have m746 := (m729).trans (fR_kept (oH739 _ (G_ne ga1 gq738 (by decide)))).symm
  have m747 := (m730).trans (fR_kept (oH739 _ (G_ne ga0 gq738 (by decide)))).symm
  have m748 := (m731).trans (fR_kept (oH739 _ (G_ne ga1 gq738 (by decide)))).symm
  have m749 := (m732).trans (fR_kept (oH739 _ (G_ne ga0 gq738 (by decide)))).symm
  have m750 := (m733).trans (fR_kept (oH739 _ (G_ne ga1 gq738 (by decide)))).symm
  have m751 := (m734).trans (fR_kept (oH739 _ (G_ne ga0 gq738 (by decide)))).symm
  have m752 := (m735).trans (fR_kept (oH739 _ (G_ne ga1 gq738 (by decide)))).symm
  have m753 := (m736).trans (fR_kept (oH739 _ (G_ne ga0 gq738 (by decide)))).symm
  have m754 := (eq737).trans (fR_kept (oH739 _ (G_ne ga1 gq738 (by decide)))).symm
  have m755 := (eq738).trans (fR_kept (oH739 _ (G_ne ga0 gq738 (by decide)))).symm
  refine lv_aload_n hx hb dX7_copyFrom_113 rfl (lv_at hl 1 rfl) ?_
  refine x_gr C hTH739 (ci := 7) (k := 8) rfl inX7 (by decide) wF_X7_33 ga1 rg_50 rfl dX7_copyFrom_114 (fun q756 eq756 gq756 => ?_)
  refine lv_iconst (v := 0) hx hb dX7_copyFrom_117 (by decide) ?_
  refine lv_aload_n hx hb dX7_copyFrom_118 rfl (lv_at hl 0 rfl) ?_
  refine x_gr C hTH739 (ci := 7) (k := 8) rfl inX7 (by decide) wF_X7_33 ga0 rg_16 rfl dX7_copyFrom_119 (fun q757 eq757 gq757 => ?_)
  refine lv_iconst (v := 0) hx hb dX7_copyFrom_122 (by decide) ?_
  refine lv_aload_n hx hb dX7_copyFrom_123 rfl (lv_at hl 1 rfl) ?_
  refine x_gi C hTH739 (ci := 7) (k := 9) rfl inX7 (by decide) wF_X7_40 ga1 rg_50 rfl dX7_copyFrom_124 (fun x758 ex758 bx758 => ?_)
  refine x_copy C hTH739 hSH739 wM_X7_44 wNT_arraycopy wST_arraycopy wIN_J10 gq756 gq757 rg_58 rg_24 (by decide) (by omega) (by omega) (by omega) (by show _ ≤ ((500 : Nat) : Int); omega) (by show _ ≤ ((500 : Nat) : Int); omega) (AE_in gq757 (by decide)) hl.1 (by decide) dX7_copyFrom_127 (fun H759 locsH759 hTH759 hSH759 zH759 oH759 vH759 wH759 => ?_)
  have m760 := (m740).trans (fI_kept (oH759 _ (G_ne ga1 gq757 (by decide)))).symm
  have m761 := (m741).trans (fI_kept (oH759 _ (G_ne ga0 gq757 (by decide)))).symm
  have m762 := (m742).trans (fR_kept (oH759 _ (G_ne ga1 gq757 (by decide)))).symm
  have m763 := (m743).trans (fR_kept (oH759 _ (G_ne ga0 gq757 (by decide)))).symm
  have m764 := (m744).trans (fR_kept (oH759 _ (G_ne ga1 gq757 (by decide)))).symm
  have m765 := (m745).trans (fR_kept (oH759 _ (G_ne ga0 gq757 (by decide)))).symm
  have m766 := (m746).trans (fR_kept (oH759 _ (G_ne ga1 gq757 (by decide)))).symm
  have m767 := (m747).trans (fR_kept (oH759 _ (G_ne ga0 gq757 (by decide)))).symm
  have m768 := (m748).trans (fR_kept (oH759 _ (G_ne ga1 gq757 (by decide)))).symm
  have m769 := (m749).trans (fR_kept (oH759 _ (G_ne ga0 gq757 (by decide)))).symm
  have m770 := (m750).trans (fR_kept (oH759 _ (G_ne ga1 gq757 (by decide)))).symm
  have m771 := (m751).trans (fR_kept (oH759 _ (G_ne ga0 gq757 (by decide)))).symm
  have m772 := (m752).trans (fR_kept (oH759 _ (G_ne ga1 gq757 (by decide)))).symm
  have m773 := (m753).trans (fR_kept (oH759 _ (G_ne ga0 gq757 (by decide)))).symm
  have m774 := (m754).trans (fR_kept (oH759 _ (G_ne ga1 gq757 (by decide)))).symm
  have m775 := (m755).trans (fR_kept (oH759 _ (G_ne ga0 gq757 (by decide)))).symm
  have m776 := (eq756).trans (fR_kept (oH759 _ (G_ne ga1 gq757 (by decide)))).symm
  have m777 := (eq757).trans (fR_kept (oH759 _ (G_ne ga0 gq757 (by decide)))).symm
  have m778 := (ex758).trans (fI_kept (oH759 _ (G_ne ga1 gq757 (by decide)))).symm
  refine lv_aload_n hx hb dX7_copyFrom_130 rfl (lv_at hl 0 rfl) ?_
  refine lv_aload_n hx hb dX7_copyFrom_131 rfl (lv_at hl 1 rfl) ?_
  refine x_gi C hTH759 (ci := 7) (k := 9) rfl inX7 (by decide) wF_X7_40 ga1 rg_50 rfl dX7_copyFrom_132 (fun x779 ex779 bx779 => ?_)
  have ux779 : x758 = x779 := (m778).trans ex779.symm
  subst ux779
  refine x_put C hTH759 hSH759 (ci := 7) (k := 9) (v := .int x758) (ty0 := tyX7) rfl inX7 tyX7_ok nmX7 (by decide) rfl wF_X7_40 ga0 rg_16 rfl rfl (okI (by have := i_rng x758; omega) (by have := i_rng x758; omega)) rfl rfl (AE_in ga0 (by decide)) dX7_copyFrom_135 (fun H780 locsH780 hTH780 hSH780 wH780 => ?_)
  have m781 := m760.trans (Wr.neI wH780 (Or.inl (G_ne ga1 ga0 (by decide)))).symm
  have m782 := m761.trans (Wr.neI wH780 (Or.inr (x_apart hKT hts inX7 tyX7 tyX7_ok nmX7 rfl 0 9 (by decide) (by decide) (by decide)))).symm
  have m783 := m762.trans (Wr.neR wH780 (Or.inl (G_ne ga1 ga0 (by decide)))).symm
  have m784 := m763.trans (Wr.neR wH780 (Or.inr (x_apart hKT hts inX7 tyX7 tyX7_ok nmX7 rfl 1 9 (by decide) (by decide) (by decide)))).symm
  have m785 := m764.trans (Wr.neR wH780 (Or.inl (G_ne ga1 ga0 (by decide)))).symm
  have m786 := m765.trans (Wr.neR wH780 (Or.inr (x_apart hKT hts inX7 tyX7 tyX7_ok nmX7 rfl 2 9 (by decide) (by decide) (by decide)))).symm
  have m787 := m766.trans (Wr.neR wH780 (Or.inl (G_ne ga1 ga0 (by decide)))).symm
  have m788 := m767.trans (Wr.neR wH780 (Or.inr (x_apart hKT hts inX7 tyX7 tyX7_ok nmX7 rfl 3 9 (by decide) (by decide) (by decide)))).symm
  have m789 := m768.trans (Wr.neR wH780 (Or.inl (G_ne ga1 ga0 (by decide)))).symm
  have m790 := m769.trans (Wr.neR wH780 (Or.inr (x_apart hKT hts inX7 tyX7 tyX7_ok nmX7 rfl 4 9 (by decide) (by decide) (by decide)))).symm
  have m791 := m770.trans (Wr.neR wH780 (Or.inl (G_ne ga1 ga0 (by decide)))).symm
  have m792 := m771.trans (Wr.neR wH780 (Or.inr (x_apart hKT hts inX7 tyX7 tyX7_ok nmX7 rfl 5 9 (by decide) (by decide) (by decide)))).symm
  have m793 := m772.trans (Wr.neR wH780 (Or.inl (G_ne ga1 ga0 (by decide)))).symm
  have m794 := m773.trans (Wr.neR wH780 (Or.inr (x_apart hKT hts inX7 tyX7 tyX7_ok nmX7 rfl 6 9 (by decide) (by decide) (by decide)))).symm
  have m795 := m774.trans (Wr.neR wH780 (Or.inl (G_ne ga1 ga0 (by decide)))).symm
  have m796 := m775.trans (Wr.neR wH780 (Or.inr (x_apart hKT hts inX7 tyX7 tyX7_ok nmX7 rfl 7 9 (by decide) (by decide) (by decide)))).symm
  have m797 := m776.trans (Wr.neR wH780 (Or.inl (G_ne ga1 ga0 (by decide)))).symm
  have m798 := m777.trans (Wr.neR wH780 (Or.inr (x_apart hKT hts inX7 tyX7 tyX7_ok nmX7 rfl 8 9 (by decide) (by decide) (by decide)))).symm
  have m799 := m778.trans (Wr.neI wH780 (Or.inl (G_ne ga1 ga0 (by decide)))).symm
  have m800 := Wr.I wH780
  have m800 := m800.symm
  exact x_vret C hQ dX7_copyFrom_138 hSH780 (by decide) (by decide) (⟨rfl, hTH780⟩)

set_option maxHeartbeats 4000000 in
set_option maxRecDepth 100000 in
theorem a_X0_copyFrom_k (l : Launch) (K : KE) (G : Nat → Option Nat) (H : Heap) {a0 : Nat} {a1 : Nat} (hT : TY K G H) (ga0 : G a0 = some 35) (ga1 : G a1 = some 1) : MX l K yX0_copyFrom cX0_copyFrom 3 none 1 40 0 0 [.ref a0, .ref a1] H (AE G [35, 36, 37, 38, 39, 40, 41, 42, 43, 44, 46, 48, 49] H.size) (fun v H1 => v = none ∧ TY K G H1) := by
  refine MX.of (by decide +kernel) (Nat.le_of_ble_eq_true rfl) ?_
  intro p e s m below meth c ls Q C hH hl hQ
  subst hH
  have C : CX p K s m _ meth c RX0 cX0_copyFrom 3 none "copyFrom" := C
  obtain ⟨hx, hb, hml, hown, hts, hKT, hr, hlocks, hnm⟩ := id C
  have hl : lv_has ls 3 [(0, .ref a0), (1, .ref a1)] := hl
  have hS : va_S (AE G [35, 36, 37, 38, 39, 40, 41, 42, 43, 44, 46, 48, 49] s.heap.size) s.heap s.heap [] := va_S.rf
  have n_0 : (0 : Int32).toInt = 0 := rfl
  have n_1 : (1 : Int32).toInt = 1 := rfl
  have n_2 : (2 : Int32).toInt = 2 := rfl
  have n_3 : (3 : Int32).toInt = 3 := rfl
  have n_12 : (12 : Int32).toInt = 12 := rfl
  have n_16 : (16 : Int32).toInt = 16 := rfl
  have n_200 : (200 : Int32).toInt = 200 := rfl
  have J162 : ∀ (nf : Nat) (ls1290 : Array Slot) (H1289 : Heap) (locsH1289 : List Loc) (x1292 : Int32), lv_has ls1290 3 [(0, .ref a0), (1, .ref a1), (2, .int x1292)] → TY K G H1289 → va_S (AE G [35, 36, 37, 38, 39, 40, 41, 42, 43, 44, 46, 48, 49] s.heap.size) s.heap H1289 locsH1289 → (0 ≤ x1292.toInt ∧ x1292.toInt ≤ 12) → (12 - x1292.toInt < (nf : Int)) → W p l e ({ frames := 1, cells := 0, slots := 0, locals := 40 } : Room) s m (([.ref a0, .ref a1] : List Value).toArray) below meth c H1289 locsH1289 0 0 Q (F0 m 162 ls1290 []) := by
    intro nf
    induction nf with
    | zero =>
      intro ls1290 H1289 locsH1289 x1292 hl1291 hTH1289 hSH1289 bx1292 hm162
      exfalso
      omega
    | succ nf ih162 =>
      intro ls1290 H1289 locsH1289 x1292 hl1291 hTH1289 hSH1289 bx1292 hm162
      refine lv_iload_n hx hb dX0_copyFrom_162 rfl (lv_at hl1291 2 rfl) ?_
      refine lv_bipush (v := 12) hx hb dX0_copyFrom_163 (by decide) ?_
      refine lv_icmp_ge (tgt := 212) hx hb dX0_copyFrom_165 (by decide) (fun c1294 => ?_) (fun c1294 => ?_)
      · have k1295 := i_le c1294
        refine lv_aload_n hx hb dX0_copyFrom_212 rfl (lv_at hl1291 0 rfl) ?_
        refine lv_aload_n hx hb dX0_copyFrom_213 rfl (lv_at hl1291 1 rfl) ?_
        refine x_gi C hTH1289 (ci := 0) (k := 14) rfl inX0 (by decide) wF_X0_66 ga1 rg_1 rfl dX0_copyFrom_214 (fun x1296 ex1296 bx1296 => ?_)
        refine x_put C hTH1289 hSH1289 (ci := 0) (k := 14) (v := .int x1296) (ty0 := tyX0) rfl inX0 tyX0_ok nmX0 (by decide) rfl wF_X0_66 ga0 rg_35 rfl rfl (okI (by have := i_rng x1296; omega) (by have := i_rng x1296; omega)) rfl rfl (AE_in ga0 (by decide)) dX0_copyFrom_217 (fun H1297 locsH1297 hTH1297 hSH1297 wH1297 => ?_)
        have m1298 := ex1296.trans (Wr.neI wH1297 (Or.inl (G_ne ga1 ga0 (by decide)))).symm
        have m1299 := Wr.I wH1297
        have m1299 := m1299.symm
        refine lv_aload_n hx hb dX0_copyFrom_220 rfl (lv_at hl1291 0 rfl) ?_
        refine lv_aload_n hx hb dX0_copyFrom_221 rfl (lv_at hl1291 1 rfl) ?_
        refine x_gi C hTH1297 (ci := 0) (k := 15) rfl inX0 (by decide) wF_X0_69 ga1 rg_1 rfl dX0_copyFrom_222 (fun x1300 ex1300 bx1300 => ?_)
        refine x_put C hTH1297 hSH1297 (ci := 0) (k := 15) (v := .int x1300) (ty0 := tyX0) rfl inX0 tyX0_ok nmX0 (by decide) rfl wF_X0_69 ga0 rg_35 rfl rfl (okI (by have := i_rng x1300; omega) (by have := i_rng x1300; omega)) rfl rfl (AE_in ga0 (by decide)) dX0_copyFrom_225 (fun H1301 locsH1301 hTH1301 hSH1301 wH1301 => ?_)
        have m1302 := m1298.trans (Wr.neI wH1301 (Or.inl (G_ne ga1 ga0 (by decide)))).symm
        have m1303 := m1299.trans (Wr.neI wH1301 (Or.inr (x_apart hKT hts inX0 tyX0 tyX0_ok nmX0 rfl 14 15 (by decide) (by decide) (by decide)))).symm
        have m1304 := ex1300.trans (Wr.neI wH1301 (Or.inl (G_ne ga1 ga0 (by decide)))).symm
        have m1305 := Wr.I wH1301
        have m1305 := m1305.symm
        refine lv_aload_n hx hb dX0_copyFrom_228 rfl (lv_at hl1291 0 rfl) ?_
        refine lv_aload_n hx hb dX0_copyFrom_229 rfl (lv_at hl1291 1 rfl) ?_
        refine x_gi C hTH1301 (ci := 0) (k := 16) rfl inX0 (by decide) wF_X0_72 ga1 rg_1 rfl dX0_copyFrom_230 (fun x1306 ex1306 bx1306 => ?_)
        refine x_put C hTH1301 hSH1301 (ci := 0) (k := 16) (v := .int x1306) (ty0 := tyX0) rfl inX0 tyX0_ok nmX0 (by decide) rfl wF_X0_72 ga0 rg_35 rfl rfl (okI (by have := i_rng x1306; omega) (by have := i_rng x1306; omega)) rfl rfl (AE_in ga0 (by decide)) dX0_copyFrom_233 (fun H1307 locsH1307 hTH1307 hSH1307 wH1307 => ?_)
        have m1308 := m1302.trans (Wr.neI wH1307 (Or.inl (G_ne ga1 ga0 (by decide)))).symm
        have m1309 := m1303.trans (Wr.neI wH1307 (Or.inr (x_apart hKT hts inX0 tyX0 tyX0_ok nmX0 rfl 14 16 (by decide) (by decide) (by decide)))).symm
        have m1310 := m1304.trans (Wr.neI wH1307 (Or.inl (G_ne ga1 ga0 (by decide)))).symm
        have m1311 := m1305.trans (Wr.neI wH1307 (Or.inr (x_apart hKT hts inX0 tyX0 tyX0_ok nmX0 rfl 15 16 (by decide) (by decide) (by decide)))).symm
        have m1312 := ex1306.trans (Wr.neI wH1307 (Or.inl (G_ne ga1 ga0 (by decide)))).symm
        have m1313 := Wr.I wH1307
        have m1313 := m1313.symm
        refine lv_aload_n hx hb dX0_copyFrom_236 rfl (lv_at hl1291 1 rfl) ?_
        refine x_gr C hTH1307 (ci := 0) (k := 17) rfl inX0 (by decide) wF_X0_47 ga1 rg_1 rfl dX0_copyFrom_237 (fun q1314 eq1314 gq1314 => ?_)
        refine lv_iconst (v := 0) hx hb dX0_copyFrom_240 (by decide) ?_
        refine lv_aload_n hx hb dX0_copyFrom_241 rfl (lv_at hl1291 0 rfl) ?_
        refine x_gr C hTH1307 (ci := 0) (k := 17) rfl inX0 (by decide) wF_X0_47 ga0 rg_35 rfl dX0_copyFrom_242 (fun q1315 eq1315 gq1315 => ?_)
        refine lv_iconst (v := 0) hx hb dX0_copyFrom_245 (by decide) ?_
        refine lv_iconst (v := 2) hx hb dX0_copyFrom_246 (by decide) ?_
        refine x_copy C hTH1307 hSH1307 wM_X0_75 wNT_arraycopy wST_arraycopy wIN_J10 gq1314 gq1315 rg_15 rg_49 (by decide) (by omega) (by omega) (by omega) (by show _ ≤ ((2 : Nat) : Int); omega) (by show _ ≤ ((2 : Nat) : Int); omega) (AE_in gq1315 (by decide)) hl1291.1 (by decide) dX0_copyFrom_247 (fun H1316 locsH1316 hTH1316 hSH1316 zH1316 oH1316 vH1316 wH1316 => ?_)
        have m1317 := (m1308).trans (fI_kept (oH1316 _ (G_ne ga1 gq1315 (by decide)))).symm
        have m1318 := (m1309).trans (fI_kept (oH1316 _ (G_ne ga0 gq1315 (by decide)))).symm
        have m1319 := (m1310).trans (fI_kept (oH1316 _ (G_ne ga1 gq1315 (by decide)))).symm
        have m1320 := (m1311).trans (fI_kept (oH1316 _ (G_ne ga0 gq1315 (by decide)))).symm
        have m1321 := (m1312).trans (fI_kept (oH1316 _ (G_ne ga1 gq1315 (by decide)))).symm
        have m1322 := (m1313).trans (fI_kept (oH1316 _ (G_ne ga0 gq1315 (by decide)))).symm
        have m1323 := (eq1314).trans (fR_kept (oH1316 _ (G_ne ga1 gq1315 (by decide)))).symm
        have m1324 := (eq1315).trans (fR_kept (oH1316 _ (G_ne ga0 gq1315 (by decide)))).symm
        exact x_vret C hQ dX0_copyFrom_250 hSH1316 (by decide) (by decide) (⟨rfl, hTH1316⟩)
      · have k1295 := i_nle c1294
        refine lv_aload_n hx hb dX0_copyFrom_168 rfl (lv_at hl1291 1 rfl) ?_
        refine x_gr C hTH1289 (ci := 0) (k := 12) rfl inX0 (by decide) wF_X0_41 ga1 rg_1 rfl dX0_copyFrom_169 (fun q1325 eq1325 gq1325 => ?_)
        refine lv_iload_n hx hb dX0_copyFrom_172 rfl (lv_at hl1291 2 rfl) ?_
        refine x_ar C hTH1289 rfl rfl gq1325 rg_11 ⟨by omega, by show _ < ((12 : Nat) : Int); omega⟩ dX0_copyFrom_173 (fun q1326 eq1326 gq1326 => ?_)
        refine lv_iconst (v := 0) hx hb dX0_copyFrom_174 (by decide) ?_
        refine lv_aload_n hx hb dX0_copyFrom_175 rfl (lv_at hl1291 0 rfl) ?_
        refine x_gr C hTH1289 (ci := 0) (k := 12) rfl inX0 (by decide) wF_X0_41 ga0 rg_35 rfl dX0_copyFrom_176 (fun q1327 eq1327 gq1327 => ?_)
        refine lv_iload_n hx hb dX0_copyFrom_179 rfl (lv_at hl1291 2 rfl) ?_
        refine x_ar C hTH1289 rfl rfl gq1327 rg_45 ⟨by omega, by show _ < ((12 : Nat) : Int); omega⟩ dX0_copyFrom_180 (fun q1328 eq1328 gq1328 => ?_)
        refine lv_iconst (v := 0) hx hb dX0_copyFrom_181 (by decide) ?_
        refine lv_bipush (v := 16) hx hb dX0_copyFrom_182 (by decide) ?_
        refine x_copy C hTH1289 hSH1289 wM_X0_75 wNT_arraycopy wST_arraycopy wIN_J10 gq1326 gq1328 rg_12 rg_46 (by decide) (by omega) (by omega) (by omega) (by show _ ≤ ((16 : Nat) : Int); omega) (by show _ ≤ ((16 : Nat) : Int); omega) (AE_in gq1328 (by decide)) hl1291.1 (by decide) dX0_copyFrom_184 (fun H1329 locsH1329 hTH1329 hSH1329 zH1329 oH1329 vH1329 wH1329 => ?_)
        have m1330 := (eq1325).trans (fR_kept (oH1329 _ (G_ne ga1 gq1328 (by decide)))).symm
        have m1331 := (eq1327).trans (fR_kept (oH1329 _ (G_ne ga0 gq1328 (by decide)))).symm
        refine lv_aload_n hx hb dX0_copyFrom_187 rfl (lv_at hl1291 1 rfl) ?_
        refine x_gr C hTH1329 (ci := 0) (k := 13) rfl inX0 (by decide) wF_X0_44 ga1 rg_1 rfl dX0_copyFrom_188 (fun q1332 eq1332 gq1332 => ?_)
        refine lv_iload_n hx hb dX0_copyFrom_191 rfl (lv_at hl1291 2 rfl) ?_
        refine x_ar C hTH1329 rfl rfl gq1332 rg_13 ⟨by omega, by show _ < ((12 : Nat) : Int); omega⟩ dX0_copyFrom_192 (fun q1333 eq1333 gq1333 => ?_)
        refine lv_iconst (v := 0) hx hb dX0_copyFrom_193 (by decide) ?_
        refine lv_aload_n hx hb dX0_copyFrom_194 rfl (lv_at hl1291 0 rfl) ?_
        refine x_gr C hTH1329 (ci := 0) (k := 13) rfl inX0 (by decide) wF_X0_44 ga0 rg_35 rfl dX0_copyFrom_195 (fun q1334 eq1334 gq1334 => ?_)
        refine lv_iload_n hx hb dX0_copyFrom_198 rfl (lv_at hl1291 2 rfl) ?_
        refine x_ar C hTH1329 rfl rfl gq1334 rg_47 ⟨by omega, by show _ < ((12 : Nat) : Int); omega⟩ dX0_copyFrom_199 (fun q1335 eq1335 gq1335 => ?_)
        refine lv_iconst (v := 0) hx hb dX0_copyFrom_200 (by decide) ?_
        refine lv_bipush (v := 16) hx hb dX0_copyFrom_201 (by decide) ?_
        refine x_copy C hTH1329 hSH1329 wM_X0_75 wNT_arraycopy wST_arraycopy wIN_J10 gq1333 gq1335 rg_14 rg_48 (by decide) (by omega) (by omega) (by omega) (by show _ ≤ ((16 : Nat) : Int); omega) (by show _ ≤ ((16 : Nat) : Int); omega) (AE_in gq1335 (by decide)) hl1291.1 (by decide) dX0_copyFrom_203 (fun H1336 locsH1336 hTH1336 hSH1336 zH1336 oH1336 vH1336 wH1336 => ?_)
        have m1337 := (m1330).trans (fR_kept (oH1336 _ (G_ne ga1 gq1335 (by decide)))).symm
        have m1338 := (m1331).trans (fR_kept (oH1336 _ (G_ne ga0 gq1335 (by decide)))).symm
        have m1339 := (eq1332).trans (fR_kept (oH1336 _ (G_ne ga1 gq1335 (by decide)))).symm
        have m1340 := (eq1334).trans (fR_kept (oH1336 _ (G_ne ga0 gq1335 (by decide)))).symm
        obtain ⟨x1341, ex1341⟩ : ∃ y : Int32, y = x1292 + 1 := ⟨_, rfl⟩
        have tx1341 := i_add ex1341 (by omega)
        refine lv_iinc (v := x1341) (lv' := [(2, .int x1341), (0, .ref a0), (1, .ref a1)]) hx hb dX0_copyFrom_206 hl1291 (k := 2) rfl (by rw [ex1341]; rfl) (by decide) rfl (fun ls1342 hl1343 => ?_)
        refine lv_goto (tgt := 162) hx hb dX0_copyFrom_209 (by decide) ?_
        exact ih162 ls1342 H1336 locsH1336 (x1341) (lv_sub hl1343 [1, 2, 0] rfl) hTH1336 hSH1336 (by have := i_rng x1341; omega) (by omega)
  refine lv_aload_n hx hb dX0_copyFrom_0 rfl (lv_at hl 0 rfl) ?_
  refine lv_aload_n hx hb dX0_copyFrom_1 rfl (lv_at hl 1 rfl) ?_
  refine x_gi C hT (ci := 0) (k := 0) rfl inX0 (by decide) wF_X0_50 ga1 rg_1 rfl dX0_copyFrom_2 (fun x1344 ex1344 bx1344 => ?_)
  refine x_put C hT hS (ci := 0) (k := 0) (v := .int x1344) (ty0 := tyX0) rfl inX0 tyX0_ok nmX0 (by decide) rfl wF_X0_50 ga0 rg_35 rfl rfl (okI (by have := i_rng x1344; omega) (by have := i_rng x1344; omega)) rfl rfl (AE_in ga0 (by decide)) dX0_copyFrom_5 (fun H1345 locsH1345 hTH1345 hSH1345 wH1345 => ?_)
  have m1346 := ex1344.trans (Wr.neI wH1345 (Or.inl (G_ne ga1 ga0 (by decide)))).symm
  have m1347 := Wr.I wH1345
  have m1347 := m1347.symm
  refine lv_aload_n hx hb dX0_copyFrom_8 rfl (lv_at hl 1 rfl) ?_
  refine x_gr C hTH1345 (ci := 0) (k := 1) rfl inX0 (by decide) wF_X0_9 ga1 rg_1 rfl dX0_copyFrom_9 (fun q1348 eq1348 gq1348 => ?_)
  refine lv_iconst (v := 0) hx hb dX0_copyFrom_12 (by decide) ?_
  refine lv_aload_n hx hb dX0_copyFrom_13 rfl (lv_at hl 0 rfl) ?_
  refine x_gr C hTH1345 (ci := 0) (k := 1) rfl inX0 (by decide) wF_X0_9 ga0 rg_35 rfl dX0_copyFrom_14 (fun q1349 eq1349 gq1349 => ?_)
  refine lv_iconst (v := 0) hx hb dX0_copyFrom_17 (by decide) ?_
  refine lv_bipush (v := 16) hx hb dX0_copyFrom_18 (by decide) ?_
  refine x_copy C hTH1345 hSH1345 wM_X0_75 wNT_arraycopy wST_arraycopy wIN_J10 gq1348 gq1349 rg_2 rg_36 (by decide) (by omega) (by omega) (by omega) (by show _ ≤ ((16 : Nat) : Int); omega) (by show _ ≤ ((16 : Nat) : Int); omega) (AE_in gq1349 (by decide)) hl.1 (by decide) dX0_copyFrom_20 (fun H1350 locsH1350 hTH1350 hSH1350 zH1350 oH1350 vH1350 wH1350 => ?_)
  have m1351 := (m1346).trans (fI_kept (oH1350 _ (G_ne ga1 gq1349 (by decide)))).symm
  have m1352 := (m1347).trans (fI_kept (oH1350 _ (G_ne ga0 gq1349 (by decide)))).symm
  have m1353 := (eq1348).trans (fR_kept (oH1350 _ (G_ne ga1 gq1349 (by decide)))).symm
  have m1354 := (eq1349).trans (fR_kept (oH1350 _ (G_ne ga0 gq1349 (by decide)))).symm
  refine lv_aload_n hx hb dX0_copyFrom_23 rfl (lv_at hl 1 rfl) ?_
  refine x_gr C hTH1350 (ci := 0) (k := 2) rfl inX0 (by decide) wF_X0_15 ga1 rg_1 rfl dX0_copyFrom_24 (fun q1355 eq1355 gq1355 => ?_)
  refine lv_iconst (v := 0) hx hb dX0_copyFrom_27 (by decide) ?_
  refine lv_aload_n hx hb dX0_copyFrom_28 rfl (lv_at hl 0 rfl) ?_
  refine x_gr C hTH1350 (ci := 0) (k := 2) rfl inX0 (by decide) wF_X0_15 ga0 rg_35 rfl dX0_copyFrom_29 (fun q1356 eq1356 gq1356 => ?_)
  refine lv_iconst (v := 0) hx hb dX0_copyFrom_32 (by decide) ?_
  refine lv_bipush (v := 16) hx hb dX0_copyFrom_33 (by decide) ?_
  refine x_copy C hTH1350 hSH1350 wM_X0_75 wNT_arraycopy wST_arraycopy wIN_J10 gq1355 gq1356 rg_3 rg_37 (by decide) (by omega) (by omega) (by omega) (by show _ ≤ ((16 : Nat) : Int); omega) (by show _ ≤ ((16 : Nat) : Int); omega) (AE_in gq1356 (by decide)) hl.1 (by decide) dX0_copyFrom_35 (fun H1357 locsH1357 hTH1357 hSH1357 zH1357 oH1357 vH1357 wH1357 => ?_)
  have m1358 := (m1351).trans (fI_kept (oH1357 _ (G_ne ga1 gq1356 (by decide)))).symm
  have m1359 := (m1352).trans (fI_kept (oH1357 _ (G_ne ga0 gq1356 (by decide)))).symm
  have m1360 := (m1353).trans (fR_kept (oH1357 _ (G_ne ga1 gq1356 (by decide)))).symm
  have m1361 := (m1354).trans (fR_kept (oH1357 _ (G_ne ga0 gq1356 (by decide)))).symm
  have m1362 := (eq1355).trans (fR_kept (oH1357 _ (G_ne ga1 gq1356 (by decide)))).symm
  have m1363 := (eq1356).trans (fR_kept (oH1357 _ (G_ne ga0 gq1356 (by decide)))).symm
  refine lv_aload_n hx hb dX0_copyFrom_38 rfl (lv_at hl 1 rfl) ?_
  refine x_gr C hTH1357 (ci := 0) (k := 3) rfl inX0 (by decide) wF_X0_18 ga1 rg_1 rfl dX0_copyFrom_39 (fun q1364 eq1364 gq1364 => ?_)
  refine lv_iconst (v := 0) hx hb dX0_copyFrom_42 (by decide) ?_
  refine lv_aload_n hx hb dX0_copyFrom_43 rfl (lv_at hl 0 rfl) ?_
  refine x_gr C hTH1357 (ci := 0) (k := 3) rfl inX0 (by decide) wF_X0_18 ga0 rg_35 rfl dX0_copyFrom_44 (fun q1365 eq1365 gq1365 => ?_)
  refine lv_iconst (v := 0) hx hb dX0_copyFrom_47 (by decide) ?_
  refine lv_bipush (v := 16) hx hb dX0_copyFrom_48 (by decide) ?_
  refine x_copy C hTH1357 hSH1357 wM_X0_75 wNT_arraycopy wST_arraycopy wIN_J10 gq1364 gq1365 rg_4 rg_38 (by decide) (by omega) (by omega) (by omega) (by show _ ≤ ((16 : Nat) : Int); omega) (by show _ ≤ ((16 : Nat) : Int); omega) (AE_in gq1365 (by decide)) hl.1 (by decide) dX0_copyFrom_50 (fun H1366 locsH1366 hTH1366 hSH1366 zH1366 oH1366 vH1366 wH1366 => ?_)
  have m1367 := (m1358).trans (fI_kept (oH1366 _ (G_ne ga1 gq1365 (by decide)))).symm
  have m1368 := (m1359).trans (fI_kept (oH1366 _ (G_ne ga0 gq1365 (by decide)))).symm
  have m1369 := (m1360).trans (fR_kept (oH1366 _ (G_ne ga1 gq1365 (by decide)))).symm
  have m1370 := (m1361).trans (fR_kept (oH1366 _ (G_ne ga0 gq1365 (by decide)))).symm
  have m1371 := (m1362).trans (fR_kept (oH1366 _ (G_ne ga1 gq1365 (by decide)))).symm
  have m1372 := (m1363).trans (fR_kept (oH1366 _ (G_ne ga0 gq1365 (by decide)))).symm
  have m1373 := (eq1364).trans (fR_kept (oH1366 _ (G_ne ga1 gq1365 (by decide)))).symm
  have m1374 := (eq1365).trans (fR_kept (oH1366 _ (G_ne ga0 gq1365 (by decide)))).symm
  refine lv_aload_n hx hb dX0_copyFrom_53 rfl (lv_at hl 1 rfl) ?_
  refine x_gr C hTH1366 (ci := 0) (k := 4) rfl inX0 (by decide) wF_X0_21 ga1 rg_1 rfl dX0_copyFrom_54 (fun q1375 eq1375 gq1375 => ?_)
  refine lv_iconst (v := 0) hx hb dX0_copyFrom_57 (by decide) ?_
  refine lv_aload_n hx hb dX0_copyFrom_58 rfl (lv_at hl 0 rfl) ?_
  refine x_gr C hTH1366 (ci := 0) (k := 4) rfl inX0 (by decide) wF_X0_21 ga0 rg_35 rfl dX0_copyFrom_59 (fun q1376 eq1376 gq1376 => ?_)
  refine lv_iconst (v := 0) hx hb dX0_copyFrom_62 (by decide) ?_
  refine lv_bipush (v := 16) hx hb dX0_copyFrom_63 (by decide) ?_
  refine x_copy C hTH1366 hSH1366 wM_X0_75 wNT_arraycopy wST_arraycopy wIN_J10 gq1375 gq1376 rg_5 rg_39 (by decide) (by omega) (by omega) (by omega) (by show _ ≤ ((16 : Nat) : Int); omega) (by show _ ≤ ((16 : Nat) : Int); omega) (AE_in gq1376 (by decide)) hl.1 (by decide) dX0_copyFrom_65 (fun H1377 locsH1377 hTH1377 hSH1377 zH1377 oH1377 vH1377 wH1377 => ?_)
  have m1378 := (m1367).trans (fI_kept (oH1377 _ (G_ne ga1 gq1376 (by decide)))).symm
  have m1379 := (m1368).trans (fI_kept (oH1377 _ (G_ne ga0 gq1376 (by decide)))).symm
  have m1380 := (m1369).trans (fR_kept (oH1377 _ (G_ne ga1 gq1376 (by decide)))).symm
  have m1381 := (m1370).trans (fR_kept (oH1377 _ (G_ne ga0 gq1376 (by decide)))).symm
  have m1382 := (m1371).trans (fR_kept (oH1377 _ (G_ne ga1 gq1376 (by decide)))).symm
  have m1383 := (m1372).trans (fR_kept (oH1377 _ (G_ne ga0 gq1376 (by decide)))).symm
  have m1384 := (m1373).trans (fR_kept (oH1377 _ (G_ne ga1 gq1376 (by decide)))).symm
  have m1385 := (m1374).trans (fR_kept (oH1377 _ (G_ne ga0 gq1376 (by decide)))).symm
  have m1386 := (eq1375).trans (fR_kept (oH1377 _ (G_ne ga1 gq1376 (by decide)))).symm
  have m1387 := (eq1376).trans (fR_kept (oH1377 _ (G_ne ga0 gq1376 (by decide)))).symm
  refine lv_aload_n hx hb dX0_copyFrom_68 rfl (lv_at hl 1 rfl) ?_
  refine x_gr C hTH1377 (ci := 0) (k := 5) rfl inX0 (by decide) wF_X0_24 ga1 rg_1 rfl dX0_copyFrom_69 (fun q1388 eq1388 gq1388 => ?_)
  refine lv_iconst (v := 0) hx hb dX0_copyFrom_72 (by decide) ?_
  refine lv_aload_n hx hb dX0_copyFrom_73 rfl (lv_at hl 0 rfl) ?_
  refine x_gr C hTH1377 (ci := 0) (k := 5) rfl inX0 (by decide) wF_X0_24 ga0 rg_35 rfl dX0_copyFrom_74 (fun q1389 eq1389 gq1389 => ?_)
  refine lv_iconst (v := 0) hx hb dX0_copyFrom_77 (by decide) ?_
  refine lv_iconst (v := 3) hx hb dX0_copyFrom_78 (by decide) ?_
  refine x_copy C hTH1377 hSH1377 wM_X0_75 wNT_arraycopy wST_arraycopy wIN_J10 gq1388 gq1389 rg_6 rg_40 (by decide) (by omega) (by omega) (by omega) (by show _ ≤ ((3 : Nat) : Int); omega) (by show _ ≤ ((3 : Nat) : Int); omega) (AE_in gq1389 (by decide)) hl.1 (by decide) dX0_copyFrom_79 (fun H1390 locsH1390 hTH1390 hSH1390 zH1390 oH1390 vH1390 wH1390 => ?_)
  have m1391 := (m1378).trans (fI_kept (oH1390 _ (G_ne ga1 gq1389 (by decide)))).symm
  have m1392 := (m1379).trans (fI_kept (oH1390 _ (G_ne ga0 gq1389 (by decide)))).symm
  have m1393 := (m1380).trans (fR_kept (oH1390 _ (G_ne ga1 gq1389 (by decide)))).symm
  have m1394 := (m1381).trans (fR_kept (oH1390 _ (G_ne ga0 gq1389 (by decide)))).symm
  have m1395 := (m1382).trans (fR_kept (oH1390 _ (G_ne ga1 gq1389 (by decide)))).symm
  have m1396 := (m1383).trans (fR_kept (oH1390 _ (G_ne ga0 gq1389 (by decide)))).symm
  have m1397 := (m1384).trans (fR_kept (oH1390 _ (G_ne ga1 gq1389 (by decide)))).symm
  have m1398 := (m1385).trans (fR_kept (oH1390 _ (G_ne ga0 gq1389 (by decide)))).symm
  have m1399 := (m1386).trans (fR_kept (oH1390 _ (G_ne ga1 gq1389 (by decide)))).symm
  have m1400 := (m1387).trans (fR_kept (oH1390 _ (G_ne ga0 gq1389 (by decide)))).symm
  have m1401 := (eq1388).trans (fR_kept (oH1390 _ (G_ne ga1 gq1389 (by decide)))).symm
  have m1402 := (eq1389).trans (fR_kept (oH1390 _ (G_ne ga0 gq1389 (by decide)))).symm
  refine lv_aload_n hx hb dX0_copyFrom_82 rfl (lv_at hl 1 rfl) ?_
  refine x_gr C hTH1390 (ci := 0) (k := 6) rfl inX0 (by decide) wF_X0_27 ga1 rg_1 rfl dX0_copyFrom_83 (fun q1403 eq1403 gq1403 => ?_)
  refine lv_iconst (v := 0) hx hb dX0_copyFrom_86 (by decide) ?_
  refine lv_aload_n hx hb dX0_copyFrom_87 rfl (lv_at hl 0 rfl) ?_
  refine x_gr C hTH1390 (ci := 0) (k := 6) rfl inX0 (by decide) wF_X0_27 ga0 rg_35 rfl dX0_copyFrom_88 (fun q1404 eq1404 gq1404 => ?_)
  refine lv_iconst (v := 0) hx hb dX0_copyFrom_91 (by decide) ?_
  refine lv_sipush (v := 200) hx hb dX0_copyFrom_92 (by decide) ?_
  refine x_copy C hTH1390 hSH1390 wM_X0_75 wNT_arraycopy wST_arraycopy wIN_J10 gq1403 gq1404 rg_7 rg_41 (by decide) (by omega) (by omega) (by omega) (by show _ ≤ ((200 : Nat) : Int); omega) (by show _ ≤ ((200 : Nat) : Int); omega) (AE_in gq1404 (by decide)) hl.1 (by decide) dX0_copyFrom_95 (fun H1405 locsH1405 hTH1405 hSH1405 zH1405 oH1405 vH1405 wH1405 => ?_)
  have m1406 := (m1391).trans (fI_kept (oH1405 _ (G_ne ga1 gq1404 (by decide)))).symm
  have m1407 := (m1392).trans (fI_kept (oH1405 _ (G_ne ga0 gq1404 (by decide)))).symm
  have m1408 := (m1393).trans (fR_kept (oH1405 _ (G_ne ga1 gq1404 (by decide)))).symm
  have m1409 := (m1394).trans (fR_kept (oH1405 _ (G_ne ga0 gq1404 (by decide)))).symm
  have m1410 := (m1395).trans (fR_kept (oH1405 _ (G_ne ga1 gq1404 (by decide)))).symm
  have m1411 := (m1396).trans (fR_kept (oH1405 _ (G_ne ga0 gq1404 (by decide)))).symm
  have m1412 := (m1397).trans (fR_kept (oH1405 _ (G_ne ga1 gq1404 (by decide)))).symm
  have m1413 := (m1398).trans (fR_kept (oH1405 _ (G_ne ga0 gq1404 (by decide)))).symm
  have m1414 := (m1399).trans (fR_kept (oH1405 _ (G_ne ga1 gq1404 (by decide)))).symm
  have m1415 := (m1400).trans (fR_kept (oH1405 _ (G_ne ga0 gq1404 (by decide)))).symm
  have m1416 := (m1401).trans (fR_kept (oH1405 _ (G_ne ga1 gq1404 (by decide)))).symm
  have m1417 := (m1402).trans (fR_kept (oH1405 _ (G_ne ga0 gq1404 (by decide)))).symm
  have m1418 := (eq1403).trans (fR_kept (oH1405 _ (G_ne ga1 gq1404 (by decide)))).symm
  have m1419 := (eq1404).trans (fR_kept (oH1405 _ (G_ne ga0 gq1404 (by decide)))).symm
  refine lv_aload_n hx hb dX0_copyFrom_98 rfl (lv_at hl 1 rfl) ?_
  refine x_gr C hTH1405 (ci := 0) (k := 7) rfl inX0 (by decide) wF_X0_30 ga1 rg_1 rfl dX0_copyFrom_99 (fun q1420 eq1420 gq1420 => ?_)
  refine lv_iconst (v := 0) hx hb dX0_copyFrom_102 (by decide) ?_
  refine lv_aload_n hx hb dX0_copyFrom_103 rfl (lv_at hl 0 rfl) ?_
  refine x_gr C hTH1405 (ci := 0) (k := 7) rfl inX0 (by decide) wF_X0_30 ga0 rg_35 rfl dX0_copyFrom_104 (fun q1421 eq1421 gq1421 => ?_)
  refine lv_iconst (v := 0) hx hb dX0_copyFrom_107 (by decide) ?_
  refine lv_sipush (v := 200) hx hb dX0_copyFrom_108 (by decide) ?_
  refine x_copy C hTH1405 hSH1405 wM_X0_75 wNT_arraycopy wST_arraycopy wIN_J10 gq1420 gq1421 rg_8 rg_42 (by decide) (by omega) (by omega) (by omega) (by show _ ≤ ((200 : Nat) : Int); omega) (by show _ ≤ ((200 : Nat) : Int); omega) (AE_in gq1421 (by decide)) hl.1 (by decide) dX0_copyFrom_111 (fun H1422 locsH1422 hTH1422 hSH1422 zH1422 oH1422 vH1422 wH1422 => ?_)
  have m1423 := (m1406).trans (fI_kept (oH1422 _ (G_ne ga1 gq1421 (by decide)))).symm
  have m1424 := (m1407).trans (fI_kept (oH1422 _ (G_ne ga0 gq1421 (by decide)))).symm
  have m1425 := (m1408).trans (fR_kept (oH1422 _ (G_ne ga1 gq1421 (by decide)))).symm
  have m1426 := (m1409).trans (fR_kept (oH1422 _ (G_ne ga0 gq1421 (by decide)))).symm
  have m1427 := (m1410).trans (fR_kept (oH1422 _ (G_ne ga1 gq1421 (by decide)))).symm
  have m1428 := (m1411).trans (fR_kept (oH1422 _ (G_ne ga0 gq1421 (by decide)))).symm
  have m1429 := (m1412).trans (fR_kept (oH1422 _ (G_ne ga1 gq1421 (by decide)))).symm
  have m1430 := (m1413).trans (fR_kept (oH1422 _ (G_ne ga0 gq1421 (by decide)))).symm
  have m1431 := (m1414).trans (fR_kept (oH1422 _ (G_ne ga1 gq1421 (by decide)))).symm
  have m1432 := (m1415).trans (fR_kept (oH1422 _ (G_ne ga0 gq1421 (by decide)))).symm
  have m1433 := (m1416).trans (fR_kept (oH1422 _ (G_ne ga1 gq1421 (by decide)))).symm
  have m1434 := (m1417).trans (fR_kept (oH1422 _ (G_ne ga0 gq1421 (by decide)))).symm
  have m1435 := (m1418).trans (fR_kept (oH1422 _ (G_ne ga1 gq1421 (by decide)))).symm
  have m1436 := (m1419).trans (fR_kept (oH1422 _ (G_ne ga0 gq1421 (by decide)))).symm
  have m1437 := (eq1420).trans (fR_kept (oH1422 _ (G_ne ga1 gq1421 (by decide)))).symm
  have m1438 := (eq1421).trans (fR_kept (oH1422 _ (G_ne ga0 gq1421 (by decide)))).symm
  refine lv_aload_n hx hb dX0_copyFrom_114 rfl (lv_at hl 0 rfl) ?_
  refine lv_aload_n hx hb dX0_copyFrom_115 rfl (lv_at hl 1 rfl) ?_
  refine x_gi C hTH1422 (ci := 0) (k := 8) rfl inX0 (by decide) wF_X0_60 ga1 rg_1 rfl dX0_copyFrom_116 (fun x1439 ex1439 bx1439 => ?_)
  refine x_put C hTH1422 hSH1422 (ci := 0) (k := 8) (v := .int x1439) (ty0 := tyX0) rfl inX0 tyX0_ok nmX0 (by decide) rfl wF_X0_60 ga0 rg_35 rfl rfl (okI (by have := i_rng x1439; omega) (by have := i_rng x1439; omega)) rfl rfl (AE_in ga0 (by decide)) dX0_copyFrom_119 (fun H1440 locsH1440 hTH1440 hSH1440 wH1440 => ?_)
  have m1441 := m1423.trans (Wr.neI wH1440 (Or.inl (G_ne ga1 ga0 (by decide)))).symm
  have m1442 := m1424.trans (Wr.neI wH1440 (Or.inr (x_apart hKT hts inX0 tyX0 tyX0_ok nmX0 rfl 0 8 (by decide) (by decide) (by decide)))).symm
  have m1443 := m1425.trans (Wr.neR wH1440 (Or.inl (G_ne ga1 ga0 (by decide)))).symm
  have m1444 := m1426.trans (Wr.neR wH1440 (Or.inr (x_apart hKT hts inX0 tyX0 tyX0_ok nmX0 rfl 1 8 (by decide) (by decide) (by decide)))).symm
  have m1445 := m1427.trans (Wr.neR wH1440 (Or.inl (G_ne ga1 ga0 (by decide)))).symm
  have m1446 := m1428.trans (Wr.neR wH1440 (Or.inr (x_apart hKT hts inX0 tyX0 tyX0_ok nmX0 rfl 2 8 (by decide) (by decide) (by decide)))).symm
  have m1447 := m1429.trans (Wr.neR wH1440 (Or.inl (G_ne ga1 ga0 (by decide)))).symm
  have m1448 := m1430.trans (Wr.neR wH1440 (Or.inr (x_apart hKT hts inX0 tyX0 tyX0_ok nmX0 rfl 3 8 (by decide) (by decide) (by decide)))).symm
  have m1449 := m1431.trans (Wr.neR wH1440 (Or.inl (G_ne ga1 ga0 (by decide)))).symm
  have m1450 := m1432.trans (Wr.neR wH1440 (Or.inr (x_apart hKT hts inX0 tyX0 tyX0_ok nmX0 rfl 4 8 (by decide) (by decide) (by decide)))).symm
  have m1451 := m1433.trans (Wr.neR wH1440 (Or.inl (G_ne ga1 ga0 (by decide)))).symm
  have m1452 := m1434.trans (Wr.neR wH1440 (Or.inr (x_apart hKT hts inX0 tyX0 tyX0_ok nmX0 rfl 5 8 (by decide) (by decide) (by decide)))).symm
  have m1453 := m1435.trans (Wr.neR wH1440 (Or.inl (G_ne ga1 ga0 (by decide)))).symm
  have m1454 := m1436.trans (Wr.neR wH1440 (Or.inr (x_apart hKT hts inX0 tyX0 tyX0_ok nmX0 rfl 6 8 (by decide) (by decide) (by decide)))).symm
  have m1455 := m1437.trans (Wr.neR wH1440 (Or.inl (G_ne ga1 ga0 (by decide)))).symm
  have m1456 := m1438.trans (Wr.neR wH1440 (Or.inr (x_apart hKT hts inX0 tyX0 tyX0_ok nmX0 rfl 7 8 (by decide) (by decide) (by decide)))).symm
  have m1457 := ex1439.trans (Wr.neI wH1440 (Or.inl (G_ne ga1 ga0 (by decide)))).symm
  have m1458 := Wr.I wH1440
  have m1458 := m1458.symm
  refine lv_aload_n hx hb dX0_copyFrom_122 rfl (lv_at hl 0 rfl) ?_
  refine lv_aload_n hx hb dX0_copyFrom_123 rfl (lv_at hl 1 rfl) ?_
  refine x_gi C hTH1440 (ci := 0) (k := 9) rfl inX0 (by decide) wF_X0_63 ga1 rg_1 rfl dX0_copyFrom_124 (fun x1459 ex1459 bx1459 => ?_)
  refine x_put C hTH1440 hSH1440 (ci := 0) (k := 9) (v := .int x1459) (ty0 := tyX0) rfl inX0 tyX0_ok nmX0 (by decide) rfl wF_X0_63 ga0 rg_35 rfl rfl (okI (by have := i_rng x1459; omega) (by have := i_rng x1459; omega)) rfl rfl (AE_in ga0 (by decide)) dX0_copyFrom_127 (fun H1460 locsH1460 hTH1460 hSH1460 wH1460 => ?_)
  have m1461 := m1441.trans (Wr.neI wH1460 (Or.inl (G_ne ga1 ga0 (by decide)))).symm
  have m1462 := m1442.trans (Wr.neI wH1460 (Or.inr (x_apart hKT hts inX0 tyX0 tyX0_ok nmX0 rfl 0 9 (by decide) (by decide) (by decide)))).symm
  have m1463 := m1443.trans (Wr.neR wH1460 (Or.inl (G_ne ga1 ga0 (by decide)))).symm
  have m1464 := m1444.trans (Wr.neR wH1460 (Or.inr (x_apart hKT hts inX0 tyX0 tyX0_ok nmX0 rfl 1 9 (by decide) (by decide) (by decide)))).symm
  have m1465 := m1445.trans (Wr.neR wH1460 (Or.inl (G_ne ga1 ga0 (by decide)))).symm
  have m1466 := m1446.trans (Wr.neR wH1460 (Or.inr (x_apart hKT hts inX0 tyX0 tyX0_ok nmX0 rfl 2 9 (by decide) (by decide) (by decide)))).symm
  have m1467 := m1447.trans (Wr.neR wH1460 (Or.inl (G_ne ga1 ga0 (by decide)))).symm
  have m1468 := m1448.trans (Wr.neR wH1460 (Or.inr (x_apart hKT hts inX0 tyX0 tyX0_ok nmX0 rfl 3 9 (by decide) (by decide) (by decide)))).symm
  have m1469 := m1449.trans (Wr.neR wH1460 (Or.inl (G_ne ga1 ga0 (by decide)))).symm
  have m1470 := m1450.trans (Wr.neR wH1460 (Or.inr (x_apart hKT hts inX0 tyX0 tyX0_ok nmX0 rfl 4 9 (by decide) (by decide) (by decide)))).symm
  have m1471 := m1451.trans (Wr.neR wH1460 (Or.inl (G_ne ga1 ga0 (by decide)))).symm
  have m1472 := m1452.trans (Wr.neR wH1460 (Or.inr (x_apart hKT hts inX0 tyX0 tyX0_ok nmX0 rfl 5 9 (by decide) (by decide) (by decide)))).symm
  have m1473 := m1453.trans (Wr.neR wH1460 (Or.inl (G_ne ga1 ga0 (by decide)))).symm
  have m1474 := m1454.trans (Wr.neR wH1460 (Or.inr (x_apart hKT hts inX0 tyX0 tyX0_ok nmX0 rfl 6 9 (by decide) (by decide) (by decide)))).symm
  have m1475 := m1455.trans (Wr.neR wH1460 (Or.inl (G_ne ga1 ga0 (by decide)))).symm
  have m1476 := m1456.trans (Wr.neR wH1460 (Or.inr (x_apart hKT hts inX0 tyX0 tyX0_ok nmX0 rfl 7 9 (by decide) (by decide) (by decide)))).symm
  have m1477 := m1457.trans (Wr.neI wH1460 (Or.inl (G_ne ga1 ga0 (by decide)))).symm
  have m1478 := m1458.trans (Wr.neI wH1460 (Or.inr (x_apart hKT hts inX0 tyX0 tyX0_ok nmX0 rfl 8 9 (by decide) (by decide) (by decide)))).symm
  have m1479 := ex1459.trans (Wr.neI wH1460 (Or.inl (G_ne ga1 ga0 (by decide)))).symm
  have m1480 := Wr.I wH1460
  have m1480 := m1480.symm
  refine lv_aload_n hx hb dX0_copyFrom_130 rfl (lv_at hl 1 rfl) ?_
  refine x_gr C hTH1460 (ci := 0) (k := 10) rfl inX0 (by decide) wF_X0_33 ga1 rg_1 rfl dX0_copyFrom_131 (fun q1481 eq1481 gq1481 => ?_)
  refine lv_iconst (v := 0) hx hb dX0_copyFrom_134 (by decide) ?_
  refine lv_aload_n hx hb dX0_copyFrom_135 rfl (lv_at hl 0 rfl) ?_
  refine x_gr C hTH1460 (ci := 0) (k := 10) rfl inX0 (by decide) wF_X0_33 ga0 rg_35 rfl dX0_copyFrom_136 (fun q1482 eq1482 gq1482 => ?_)
  refine lv_iconst (v := 0) hx hb dX0_copyFrom_139 (by decide) ?_
  refine lv_bipush (v := 12) hx hb dX0_copyFrom_140 (by decide) ?_
  refine x_copy C hTH1460 hSH1460 wM_X0_75 wNT_arraycopy wST_arraycopy wIN_J10 gq1481 gq1482 rg_9 rg_43 (by decide) (by omega) (by omega) (by omega) (by show _ ≤ ((12 : Nat) : Int); omega) (by show _ ≤ ((12 : Nat) : Int); omega) (AE_in gq1482 (by decide)) hl.1 (by decide) dX0_copyFrom_142 (fun H1483 locsH1483 hTH1483 hSH1483 zH1483 oH1483 vH1483 wH1483 => ?_)
  have m1484 := (m1461).trans (fI_kept (oH1483 _ (G_ne ga1 gq1482 (by decide)))).symm
  have m1485 := (m1462).trans (fI_kept (oH1483 _ (G_ne ga0 gq1482 (by decide)))).symm
  have m1486 := (m1463).trans (fR_kept (oH1483 _ (G_ne ga1 gq1482 (by decide)))).symm
  have m1487 := (m1464).trans (fR_kept (oH1483 _ (G_ne ga0 gq1482 (by decide)))).symm
  have m1488 := (m1465).trans (fR_kept (oH1483 _ (G_ne ga1 gq1482 (by decide)))).symm
  have m1489 := (m1466).trans (fR_kept (oH1483 _ (G_ne ga0 gq1482 (by decide)))).symm
  have m1490 := (m1467).trans (fR_kept (oH1483 _ (G_ne ga1 gq1482 (by decide)))).symm
  have m1491 := (m1468).trans (fR_kept (oH1483 _ (G_ne ga0 gq1482 (by decide)))).symm
  have m1492 := (m1469).trans (fR_kept (oH1483 _ (G_ne ga1 gq1482 (by decide)))).symm
  have m1493 := (m1470).trans (fR_kept (oH1483 _ (G_ne ga0 gq1482 (by decide)))).symm
  have m1494 := (m1471).trans (fR_kept (oH1483 _ (G_ne ga1 gq1482 (by decide)))).symm
  have m1495 := (m1472).trans (fR_kept (oH1483 _ (G_ne ga0 gq1482 (by decide)))).symm
  have m1496 := (m1473).trans (fR_kept (oH1483 _ (G_ne ga1 gq1482 (by decide)))).symm
  have m1497 := (m1474).trans (fR_kept (oH1483 _ (G_ne ga0 gq1482 (by decide)))).symm
  have m1498 := (m1475).trans (fR_kept (oH1483 _ (G_ne ga1 gq1482 (by decide)))).symm
  have m1499 := (m1476).trans (fR_kept (oH1483 _ (G_ne ga0 gq1482 (by decide)))).symm
  have m1500 := (m1477).trans (fI_kept (oH1483 _ (G_ne ga1 gq1482 (by decide)))).symm
  have m1501 := (m1478).trans (fI_kept (oH1483 _ (G_ne ga0 gq1482 (by decide)))).symm
  have m1502 := (m1479).trans (fI_kept (oH1483 _ (G_ne ga1 gq1482 (by decide)))).symm
  have m1503 := (m1480).trans (fI_kept (oH1483 _ (G_ne ga0 gq1482 (by decide)))).symm
  have m1504 := (eq1481).trans (fR_kept (oH1483 _ (G_ne ga1 gq1482 (by decide)))).symm
  have m1505 := (eq1482).trans (fR_kept (oH1483 _ (G_ne ga0 gq1482 (by decide)))).symm
  refine lv_aload_n hx hb dX0_copyFrom_145 rfl (lv_at hl 1 rfl) ?_
  refine x_gr C hTH1483 (ci := 0) (k := 11) rfl inX0 (by decide) wF_X0_36 ga1 rg_1 rfl dX0_copyFrom_146 (fun q1506 eq1506 gq1506 => ?_)
  refine lv_iconst (v := 0) hx hb dX0_copyFrom_149 (by decide) ?_
  refine lv_aload_n hx hb dX0_copyFrom_150 rfl (lv_at hl 0 rfl) ?_
  refine x_gr C hTH1483 (ci := 0) (k := 11) rfl inX0 (by decide) wF_X0_36 ga0 rg_35 rfl dX0_copyFrom_151 (fun q1507 eq1507 gq1507 => ?_)
  refine lv_iconst (v := 0) hx hb dX0_copyFrom_154 (by decide) ?_
  refine lv_bipush (v := 12) hx hb dX0_copyFrom_155 (by decide) ?_
  refine x_copy C hTH1483 hSH1483 wM_X0_75 wNT_arraycopy wST_arraycopy wIN_J10 gq1506 gq1507 rg_10 rg_44 (by decide) (by omega) (by omega) (by omega) (by show _ ≤ ((12 : Nat) : Int); omega) (by show _ ≤ ((12 : Nat) : Int); omega) (AE_in gq1507 (by decide)) hl.1 (by decide) dX0_copyFrom_157 (fun H1508 locsH1508 hTH1508 hSH1508 zH1508 oH1508 vH1508 wH1508 => ?_)
  have m1509 := (m1484).trans (fI_kept (oH1508 _ (G_ne ga1 gq1507 (by decide)))).symm
  have m1510 := (m1485).trans (fI_kept (oH1508 _ (G_ne ga0 gq1507 (by decide)))).symm
  have m1511 := (m1486).trans (fR_kept (oH1508 _ (G_ne ga1 gq1507 (by decide)))).symm
  have m1512 := (m1487).trans (fR_kept (oH1508 _ (G_ne ga0 gq1507 (by decide)))).symm
  have m1513 := (m1488).trans (fR_kept (oH1508 _ (G_ne ga1 gq1507 (by decide)))).symm
  have m1514 := (m1489).trans (fR_kept (oH1508 _ (G_ne ga0 gq1507 (by decide)))).symm
  have m1515 := (m1490).trans (fR_kept (oH1508 _ (G_ne ga1 gq1507 (by decide)))).symm
  have m1516 := (m1491).trans (fR_kept (oH1508 _ (G_ne ga0 gq1507 (by decide)))).symm
  have m1517 := (m1492).trans (fR_kept (oH1508 _ (G_ne ga1 gq1507 (by decide)))).symm
  have m1518 := (m1493).trans (fR_kept (oH1508 _ (G_ne ga0 gq1507 (by decide)))).symm
  have m1519 := (m1494).trans (fR_kept (oH1508 _ (G_ne ga1 gq1507 (by decide)))).symm
  have m1520 := (m1495).trans (fR_kept (oH1508 _ (G_ne ga0 gq1507 (by decide)))).symm
  have m1521 := (m1496).trans (fR_kept (oH1508 _ (G_ne ga1 gq1507 (by decide)))).symm
  have m1522 := (m1497).trans (fR_kept (oH1508 _ (G_ne ga0 gq1507 (by decide)))).symm
  have m1523 := (m1498).trans (fR_kept (oH1508 _ (G_ne ga1 gq1507 (by decide)))).symm
  have m1524 := (m1499).trans (fR_kept (oH1508 _ (G_ne ga0 gq1507 (by decide)))).symm
  have m1525 := (m1500).trans (fI_kept (oH1508 _ (G_ne ga1 gq1507 (by decide)))).symm
  have m1526 := (m1501).trans (fI_kept (oH1508 _ (G_ne ga0 gq1507 (by decide)))).symm
  have m1527 := (m1502).trans (fI_kept (oH1508 _ (G_ne ga1 gq1507 (by decide)))).symm
  have m1528 := (m1503).trans (fI_kept (oH1508 _ (G_ne ga0 gq1507 (by decide)))).symm
  have m1529 := (m1504).trans (fR_kept (oH1508 _ (G_ne ga1 gq1507 (by decide)))).symm
  have m1530 := (m1505).trans (fR_kept (oH1508 _ (G_ne ga0 gq1507 (by decide)))).symm
  have m1531 := (eq1506).trans (fR_kept (oH1508 _ (G_ne ga1 gq1507 (by decide)))).symm
  have m1532 := (eq1507).trans (fR_kept (oH1508 _ (G_ne ga0 gq1507 (by decide)))).symm
  refine lv_iconst (v := 0) hx hb dX0_copyFrom_160 (by decide) ?_
  refine lv_istore_n (lv' := [(2, .int 0), (0, .ref a0), (1, .ref a1)]) hx hb dX0_copyFrom_161 rfl hl (by decide) rfl (fun ls1533 hl1534 => ?_)
  exact J162 ((12 - (0 : Int32).toInt).toNat + 1) ls1533 H1508 locsH1508 (0) (lv_sub hl1534 [1, 2, 0] rfl) hTH1508 hSH1508 (by decide) (by omega)

set_option maxHeartbeats 4000000 in
set_option maxRecDepth 100000 in
theorem a_X0_copyFrom_n (l : Launch) (K : KE) (G : Nat → Option Nat) (H : Heap) {a0 : Nat} {a1 : Nat} (hT : TY K G H) (ga0 : G a0 = some 1) (ga1 : G a1 = some 35) : MX l K yX0_copyFrom cX0_copyFrom 3 none 1 40 0 0 [.ref a0, .ref a1] H (AE G [1, 2, 3, 4, 5, 6, 7, 8, 9, 10, 12, 14, 15] H.size) (fun v H1 => v = none ∧ TY K G H1) := by
  refine MX.of (by decide +kernel) (Nat.le_of_ble_eq_true rfl) ?_
  intro p e s m below meth c ls Q C hH hl hQ
  subst hH
  have C : CX p K s m _ meth c RX0 cX0_copyFrom 3 none "copyFrom" := C
  obtain ⟨hx, hb, hml, hown, hts, hKT, hr, hlocks, hnm⟩ := id C
  have hl : lv_has ls 3 [(0, .ref a0), (1, .ref a1)] := hl
  have hS : va_S (AE G [1, 2, 3, 4, 5, 6, 7, 8, 9, 10, 12, 14, 15] s.heap.size) s.heap s.heap [] := va_S.rf
  have n_0 : (0 : Int32).toInt = 0 := rfl
  have n_1 : (1 : Int32).toInt = 1 := rfl
  have n_2 : (2 : Int32).toInt = 2 := rfl
  have n_3 : (3 : Int32).toInt = 3 := rfl
  have n_12 : (12 : Int32).toInt = 12 := rfl
  have n_16 : (16 : Int32).toInt = 16 := rfl
  have n_200 : (200 : Int32).toInt = 200 := rfl
  have J162 : ∀ (nf : Nat) (ls1290 : Array Slot) (H1289 : Heap) (locsH1289 : List Loc) (x1292 : Int32), lv_has ls1290 3 [(0, .ref a0), (1, .ref a1), (2, .int x1292)] → TY K G H1289 → va_S (AE G [1, 2, 3, 4, 5, 6, 7, 8, 9, 10, 12, 14, 15] s.heap.size) s.heap H1289 locsH1289 → (0 ≤ x1292.toInt ∧ x1292.toInt ≤ 12) → (12 - x1292.toInt < (nf : Int)) → W p l e ({ frames := 1, cells := 0, slots := 0, locals := 40 } : Room) s m (([.ref a0, .ref a1] : List Value).toArray) below meth c H1289 locsH1289 0 0 Q (F0 m 162 ls1290 []) := by
    intro nf
    induction nf with
    | zero =>
      intro ls1290 H1289 locsH1289 x1292 hl1291 hTH1289 hSH1289 bx1292 hm162
      exfalso
      omega
    | succ nf ih162 =>
      intro ls1290 H1289 locsH1289 x1292 hl1291 hTH1289 hSH1289 bx1292 hm162
      refine lv_iload_n hx hb dX0_copyFrom_162 rfl (lv_at hl1291 2 rfl) ?_
      refine lv_bipush (v := 12) hx hb dX0_copyFrom_163 (by decide) ?_
      refine lv_icmp_ge (tgt := 212) hx hb dX0_copyFrom_165 (by decide) (fun c1294 => ?_) (fun c1294 => ?_)
      · have k1295 := i_le c1294
        refine lv_aload_n hx hb dX0_copyFrom_212 rfl (lv_at hl1291 0 rfl) ?_
        refine lv_aload_n hx hb dX0_copyFrom_213 rfl (lv_at hl1291 1 rfl) ?_
        refine x_gi C hTH1289 (ci := 0) (k := 14) rfl inX0 (by decide) wF_X0_66 ga1 rg_35 rfl dX0_copyFrom_214 (fun x1296 ex1296 bx1296 => ?_)
        refine x_put C hTH1289 hSH1289 (ci := 0) (k := 14) (v := .int x1296) (ty0 := tyX0) rfl inX0 tyX0_ok nmX0 (by decide) rfl wF_X0_66 ga0 rg_1 rfl rfl (okI (by have := i_rng x1296; omega) (by have := i_rng x1296; omega)) rfl rfl (AE_in ga0 (by decide)) dX0_copyFrom_217 (fun H1297 locsH1297 hTH1297 hSH1297 wH1297 => ?_)
        have m1298 := ex1296.trans (Wr.neI wH1297 (Or.inl (G_ne ga1 ga0 (by decide)))).symm
        have m1299 := Wr.I wH1297
        have m1299 := m1299.symm
        refine lv_aload_n hx hb dX0_copyFrom_220 rfl (lv_at hl1291 0 rfl) ?_
        refine lv_aload_n hx hb dX0_copyFrom_221 rfl (lv_at hl1291 1 rfl) ?_
        refine x_gi C hTH1297 (ci := 0) (k := 15) rfl inX0 (by decide) wF_X0_69 ga1 rg_35 rfl dX0_copyFrom_222 (fun x1300 ex1300 bx1300 => ?_)
        refine x_put C hTH1297 hSH1297 (ci := 0) (k := 15) (v := .int x1300) (ty0 := tyX0) rfl inX0 tyX0_ok nmX0 (by decide) rfl wF_X0_69 ga0 rg_1 rfl rfl (okI (by have := i_rng x1300; omega) (by have := i_rng x1300; omega)) rfl rfl (AE_in ga0 (by decide)) dX0_copyFrom_225 (fun H1301 locsH1301 hTH1301 hSH1301 wH1301 => ?_)
        have m1302 := m1298.trans (Wr.neI wH1301 (Or.inl (G_ne ga1 ga0 (by decide)))).symm
        have m1303 := m1299.trans (Wr.neI wH1301 (Or.inr (x_apart hKT hts inX0 tyX0 tyX0_ok nmX0 rfl 14 15 (by decide) (by decide) (by decide)))).symm
        have m1304 := ex1300.trans (Wr.neI wH1301 (Or.inl (G_ne ga1 ga0 (by decide)))).symm
        have m1305 := Wr.I wH1301
        have m1305 := m1305.symm
        refine lv_aload_n hx hb dX0_copyFrom_228 rfl (lv_at hl1291 0 rfl) ?_
        refine lv_aload_n hx hb dX0_copyFrom_229 rfl (lv_at hl1291 1 rfl) ?_
        refine x_gi C hTH1301 (ci := 0) (k := 16) rfl inX0 (by decide) wF_X0_72 ga1 rg_35 rfl dX0_copyFrom_230 (fun x1306 ex1306 bx1306 => ?_)
        refine x_put C hTH1301 hSH1301 (ci := 0) (k := 16) (v := .int x1306) (ty0 := tyX0) rfl inX0 tyX0_ok nmX0 (by decide) rfl wF_X0_72 ga0 rg_1 rfl rfl (okI (by have := i_rng x1306; omega) (by have := i_rng x1306; omega)) rfl rfl (AE_in ga0 (by decide)) dX0_copyFrom_233 (fun H1307 locsH1307 hTH1307 hSH1307 wH1307 => ?_)
        have m1308 := m1302.trans (Wr.neI wH1307 (Or.inl (G_ne ga1 ga0 (by decide)))).symm
        have m1309 := m1303.trans (Wr.neI wH1307 (Or.inr (x_apart hKT hts inX0 tyX0 tyX0_ok nmX0 rfl 14 16 (by decide) (by decide) (by decide)))).symm
        have m1310 := m1304.trans (Wr.neI wH1307 (Or.inl (G_ne ga1 ga0 (by decide)))).symm
        have m1311 := m1305.trans (Wr.neI wH1307 (Or.inr (x_apart hKT hts inX0 tyX0 tyX0_ok nmX0 rfl 15 16 (by decide) (by decide) (by decide)))).symm
        have m1312 := ex1306.trans (Wr.neI wH1307 (Or.inl (G_ne ga1 ga0 (by decide)))).symm
        have m1313 := Wr.I wH1307
        have m1313 := m1313.symm
        refine lv_aload_n hx hb dX0_copyFrom_236 rfl (lv_at hl1291 1 rfl) ?_
        refine x_gr C hTH1307 (ci := 0) (k := 17) rfl inX0 (by decide) wF_X0_47 ga1 rg_35 rfl dX0_copyFrom_237 (fun q1314 eq1314 gq1314 => ?_)
        refine lv_iconst (v := 0) hx hb dX0_copyFrom_240 (by decide) ?_
        refine lv_aload_n hx hb dX0_copyFrom_241 rfl (lv_at hl1291 0 rfl) ?_
        refine x_gr C hTH1307 (ci := 0) (k := 17) rfl inX0 (by decide) wF_X0_47 ga0 rg_1 rfl dX0_copyFrom_242 (fun q1315 eq1315 gq1315 => ?_)
        refine lv_iconst (v := 0) hx hb dX0_copyFrom_245 (by decide) ?_
        refine lv_iconst (v := 2) hx hb dX0_copyFrom_246 (by decide) ?_
        refine x_copy C hTH1307 hSH1307 wM_X0_75 wNT_arraycopy wST_arraycopy wIN_J10 gq1314 gq1315 rg_49 rg_15 (by decide) (by omega) (by omega) (by omega) (by show _ ≤ ((2 : Nat) : Int); omega) (by show _ ≤ ((2 : Nat) : Int); omega) (AE_in gq1315 (by decide)) hl1291.1 (by decide) dX0_copyFrom_247 (fun H1316 locsH1316 hTH1316 hSH1316 zH1316 oH1316 vH1316 wH1316 => ?_)
        have m1317 := (m1308).trans (fI_kept (oH1316 _ (G_ne ga1 gq1315 (by decide)))).symm
        have m1318 := (m1309).trans (fI_kept (oH1316 _ (G_ne ga0 gq1315 (by decide)))).symm
        have m1319 := (m1310).trans (fI_kept (oH1316 _ (G_ne ga1 gq1315 (by decide)))).symm
        have m1320 := (m1311).trans (fI_kept (oH1316 _ (G_ne ga0 gq1315 (by decide)))).symm
        have m1321 := (m1312).trans (fI_kept (oH1316 _ (G_ne ga1 gq1315 (by decide)))).symm
        have m1322 := (m1313).trans (fI_kept (oH1316 _ (G_ne ga0 gq1315 (by decide)))).symm
        have m1323 := (eq1314).trans (fR_kept (oH1316 _ (G_ne ga1 gq1315 (by decide)))).symm
        have m1324 := (eq1315).trans (fR_kept (oH1316 _ (G_ne ga0 gq1315 (by decide)))).symm
        exact x_vret C hQ dX0_copyFrom_250 hSH1316 (by decide) (by decide) (⟨rfl, hTH1316⟩)
      · have k1295 := i_nle c1294
        refine lv_aload_n hx hb dX0_copyFrom_168 rfl (lv_at hl1291 1 rfl) ?_
        refine x_gr C hTH1289 (ci := 0) (k := 12) rfl inX0 (by decide) wF_X0_41 ga1 rg_35 rfl dX0_copyFrom_169 (fun q1325 eq1325 gq1325 => ?_)
        refine lv_iload_n hx hb dX0_copyFrom_172 rfl (lv_at hl1291 2 rfl) ?_
        refine x_ar C hTH1289 rfl rfl gq1325 rg_45 ⟨by omega, by show _ < ((12 : Nat) : Int); omega⟩ dX0_copyFrom_173 (fun q1326 eq1326 gq1326 => ?_)
        refine lv_iconst (v := 0) hx hb dX0_copyFrom_174 (by decide) ?_
        refine lv_aload_n hx hb dX0_copyFrom_175 rfl (lv_at hl1291 0 rfl) ?_
        refine x_gr C hTH1289 (ci := 0) (k := 12) rfl inX0 (by decide) wF_X0_41 ga0 rg_1 rfl dX0_copyFrom_176 (fun q1327 eq1327 gq1327 => ?_)
        refine lv_iload_n hx hb dX0_copyFrom_179 rfl (lv_at hl1291 2 rfl) ?_
        refine x_ar C hTH1289 rfl rfl gq1327 rg_11 ⟨by omega, by show _ < ((12 : Nat) : Int); omega⟩ dX0_copyFrom_180 (fun q1328 eq1328 gq1328 => ?_)
        refine lv_iconst (v := 0) hx hb dX0_copyFrom_181 (by decide) ?_
        refine lv_bipush (v := 16) hx hb dX0_copyFrom_182 (by decide) ?_
        refine x_copy C hTH1289 hSH1289 wM_X0_75 wNT_arraycopy wST_arraycopy wIN_J10 gq1326 gq1328 rg_46 rg_12 (by decide) (by omega) (by omega) (by omega) (by show _ ≤ ((16 : Nat) : Int); omega) (by show _ ≤ ((16 : Nat) : Int); omega) (AE_in gq1328 (by decide)) hl1291.1 (by decide) dX0_copyFrom_184 (fun H1329 locsH1329 hTH1329 hSH1329 zH1329 oH1329 vH1329 wH1329 => ?_)
        have m1330 := (eq1325).trans (fR_kept (oH1329 _ (G_ne ga1 gq1328 (by decide)))).symm
        have m1331 := (eq1327).trans (fR_kept (oH1329 _ (G_ne ga0 gq1328 (by decide)))).symm
        refine lv_aload_n hx hb dX0_copyFrom_187 rfl (lv_at hl1291 1 rfl) ?_
        refine x_gr C hTH1329 (ci := 0) (k := 13) rfl inX0 (by decide) wF_X0_44 ga1 rg_35 rfl dX0_copyFrom_188 (fun q1332 eq1332 gq1332 => ?_)
        refine lv_iload_n hx hb dX0_copyFrom_191 rfl (lv_at hl1291 2 rfl) ?_
        refine x_ar C hTH1329 rfl rfl gq1332 rg_47 ⟨by omega, by show _ < ((12 : Nat) : Int); omega⟩ dX0_copyFrom_192 (fun q1333 eq1333 gq1333 => ?_)
        refine lv_iconst (v := 0) hx hb dX0_copyFrom_193 (by decide) ?_
        refine lv_aload_n hx hb dX0_copyFrom_194 rfl (lv_at hl1291 0 rfl) ?_
        refine x_gr C hTH1329 (ci := 0) (k := 13) rfl inX0 (by decide) wF_X0_44 ga0 rg_1 rfl dX0_copyFrom_195 (fun q1334 eq1334 gq1334 => ?_)
        refine lv_iload_n hx hb dX0_copyFrom_198 rfl (lv_at hl1291 2 rfl) ?_
        refine x_ar C hTH1329 rfl rfl gq1334 rg_13 ⟨by omega, by show _ < ((12 : Nat) : Int); omega⟩ dX0_copyFrom_199 (fun q1335 eq1335 gq1335 => ?_)
        refine lv_iconst (v := 0) hx hb dX0_copyFrom_200 (by decide) ?_
        refine lv_bipush (v := 16) hx hb dX0_copyFrom_201 (by decide) ?_
        refine x_copy C hTH1329 hSH1329 wM_X0_75 wNT_arraycopy wST_arraycopy wIN_J10 gq1333 gq1335 rg_48 rg_14 (by decide) (by omega) (by omega) (by omega) (by show _ ≤ ((16 : Nat) : Int); omega) (by show _ ≤ ((16 : Nat) : Int); omega) (AE_in gq1335 (by decide)) hl1291.1 (by decide) dX0_copyFrom_203 (fun H1336 locsH1336 hTH1336 hSH1336 zH1336 oH1336 vH1336 wH1336 => ?_)
        have m1337 := (m1330).trans (fR_kept (oH1336 _ (G_ne ga1 gq1335 (by decide)))).symm
        have m1338 := (m1331).trans (fR_kept (oH1336 _ (G_ne ga0 gq1335 (by decide)))).symm
        have m1339 := (eq1332).trans (fR_kept (oH1336 _ (G_ne ga1 gq1335 (by decide)))).symm
        have m1340 := (eq1334).trans (fR_kept (oH1336 _ (G_ne ga0 gq1335 (by decide)))).symm
        obtain ⟨x1341, ex1341⟩ : ∃ y : Int32, y = x1292 + 1 := ⟨_, rfl⟩
        have tx1341 := i_add ex1341 (by omega)
        refine lv_iinc (v := x1341) (lv' := [(2, .int x1341), (0, .ref a0), (1, .ref a1)]) hx hb dX0_copyFrom_206 hl1291 (k := 2) rfl (by rw [ex1341]; rfl) (by decide) rfl (fun ls1342 hl1343 => ?_)
        refine lv_goto (tgt := 162) hx hb dX0_copyFrom_209 (by decide) ?_
        exact ih162 ls1342 H1336 locsH1336 (x1341) (lv_sub hl1343 [1, 2, 0] rfl) hTH1336 hSH1336 (by have := i_rng x1341; omega) (by omega)
  refine lv_aload_n hx hb dX0_copyFrom_0 rfl (lv_at hl 0 rfl) ?_
  refine lv_aload_n hx hb dX0_copyFrom_1 rfl (lv_at hl 1 rfl) ?_
  refine x_gi C hT (ci := 0) (k := 0) rfl inX0 (by decide) wF_X0_50 ga1 rg_35 rfl dX0_copyFrom_2 (fun x1344 ex1344 bx1344 => ?_)
  refine x_put C hT hS (ci := 0) (k := 0) (v := .int x1344) (ty0 := tyX0) rfl inX0 tyX0_ok nmX0 (by decide) rfl wF_X0_50 ga0 rg_1 rfl rfl (okI (by have := i_rng x1344; omega) (by have := i_rng x1344; omega)) rfl rfl (AE_in ga0 (by decide)) dX0_copyFrom_5 (fun H1345 locsH1345 hTH1345 hSH1345 wH1345 => ?_)
  have m1346 := ex1344.trans (Wr.neI wH1345 (Or.inl (G_ne ga1 ga0 (by decide)))).symm
  have m1347 := Wr.I wH1345
  have m1347 := m1347.symm
  refine lv_aload_n hx hb dX0_copyFrom_8 rfl (lv_at hl 1 rfl) ?_
  refine x_gr C hTH1345 (ci := 0) (k := 1) rfl inX0 (by decide) wF_X0_9 ga1 rg_35 rfl dX0_copyFrom_9 (fun q1348 eq1348 gq1348 => ?_)
  refine lv_iconst (v := 0) hx hb dX0_copyFrom_12 (by decide) ?_
  refine lv_aload_n hx hb dX0_copyFrom_13 rfl (lv_at hl 0 rfl) ?_
  refine x_gr C hTH1345 (ci := 0) (k := 1) rfl inX0 (by decide) wF_X0_9 ga0 rg_1 rfl dX0_copyFrom_14 (fun q1349 eq1349 gq1349 => ?_)
  refine lv_iconst (v := 0) hx hb dX0_copyFrom_17 (by decide) ?_
  refine lv_bipush (v := 16) hx hb dX0_copyFrom_18 (by decide) ?_
  refine x_copy C hTH1345 hSH1345 wM_X0_75 wNT_arraycopy wST_arraycopy wIN_J10 gq1348 gq1349 rg_36 rg_2 (by decide) (by omega) (by omega) (by omega) (by show _ ≤ ((16 : Nat) : Int); omega) (by show _ ≤ ((16 : Nat) : Int); omega) (AE_in gq1349 (by decide)) hl.1 (by decide) dX0_copyFrom_20 (fun H1350 locsH1350 hTH1350 hSH1350 zH1350 oH1350 vH1350 wH1350 => ?_)
  have m1351 := (m1346).trans (fI_kept (oH1350 _ (G_ne ga1 gq1349 (by decide)))).symm
  have m1352 := (m1347).trans (fI_kept (oH1350 _ (G_ne ga0 gq1349 (by decide)))).symm
  have m1353 := (eq1348).trans (fR_kept (oH1350 _ (G_ne ga1 gq1349 (by decide)))).symm
  have m1354 := (eq1349).trans (fR_kept (oH1350 _ (G_ne ga0 gq1349 (by decide)))).symm
  refine lv_aload_n hx hb dX0_copyFrom_23 rfl (lv_at hl 1 rfl) ?_
  refine x_gr C hTH1350 (ci := 0) (k := 2) rfl inX0 (by decide) wF_X0_15 ga1 rg_35 rfl dX0_copyFrom_24 (fun q1355 eq1355 gq1355 => ?_)
  refine lv_iconst (v := 0) hx hb dX0_copyFrom_27 (by decide) ?_
  refine lv_aload_n hx hb dX0_copyFrom_28 rfl (lv_at hl 0 rfl) ?_
  refine x_gr C hTH1350 (ci := 0) (k := 2) rfl inX0 (by decide) wF_X0_15 ga0 rg_1 rfl dX0_copyFrom_29 (fun q1356 eq1356 gq1356 => ?_)
  refine lv_iconst (v := 0) hx hb dX0_copyFrom_32 (by decide) ?_
  refine lv_bipush (v := 16) hx hb dX0_copyFrom_33 (by decide) ?_
  refine x_copy C hTH1350 hSH1350 wM_X0_75 wNT_arraycopy wST_arraycopy wIN_J10 gq1355 gq1356 rg_37 rg_3 (by decide) (by omega) (by omega) (by omega) (by show _ ≤ ((16 : Nat) : Int); omega) (by show _ ≤ ((16 : Nat) : Int); omega) (AE_in gq1356 (by decide)) hl.1 (by decide) dX0_copyFrom_35 (fun H1357 locsH1357 hTH1357 hSH1357 zH1357 oH1357 vH1357 wH1357 => ?_)
  have m1358 := (m1351).trans (fI_kept (oH1357 _ (G_ne ga1 gq1356 (by decide)))).symm
  have m1359 := (m1352).trans (fI_kept (oH1357 _ (G_ne ga0 gq1356 (by decide)))).symm
  have m1360 := (m1353).trans (fR_kept (oH1357 _ (G_ne ga1 gq1356 (by decide)))).symm
  have m1361 := (m1354).trans (fR_kept (oH1357 _ (G_ne ga0 gq1356 (by decide)))).symm
  have m1362 := (eq1355).trans (fR_kept (oH1357 _ (G_ne ga1 gq1356 (by decide)))).symm
  have m1363 := (eq1356).trans (fR_kept (oH1357 _ (G_ne ga0 gq1356 (by decide)))).symm
  refine lv_aload_n hx hb dX0_copyFrom_38 rfl (lv_at hl 1 rfl) ?_
  refine x_gr C hTH1357 (ci := 0) (k := 3) rfl inX0 (by decide) wF_X0_18 ga1 rg_35 rfl dX0_copyFrom_39 (fun q1364 eq1364 gq1364 => ?_)
  refine lv_iconst (v := 0) hx hb dX0_copyFrom_42 (by decide) ?_
  refine lv_aload_n hx hb dX0_copyFrom_43 rfl (lv_at hl 0 rfl) ?_
  refine x_gr C hTH1357 (ci := 0) (k := 3) rfl inX0 (by decide) wF_X0_18 ga0 rg_1 rfl dX0_copyFrom_44 (fun q1365 eq1365 gq1365 => ?_)
  refine lv_iconst (v := 0) hx hb dX0_copyFrom_47 (by decide) ?_
  refine lv_bipush (v := 16) hx hb dX0_copyFrom_48 (by decide) ?_
  refine x_copy C hTH1357 hSH1357 wM_X0_75 wNT_arraycopy wST_arraycopy wIN_J10 gq1364 gq1365 rg_38 rg_4 (by decide) (by omega) (by omega) (by omega) (by show _ ≤ ((16 : Nat) : Int); omega) (by show _ ≤ ((16 : Nat) : Int); omega) (AE_in gq1365 (by decide)) hl.1 (by decide) dX0_copyFrom_50 (fun H1366 locsH1366 hTH1366 hSH1366 zH1366 oH1366 vH1366 wH1366 => ?_)
  have m1367 := (m1358).trans (fI_kept (oH1366 _ (G_ne ga1 gq1365 (by decide)))).symm
  have m1368 := (m1359).trans (fI_kept (oH1366 _ (G_ne ga0 gq1365 (by decide)))).symm
  have m1369 := (m1360).trans (fR_kept (oH1366 _ (G_ne ga1 gq1365 (by decide)))).symm
  have m1370 := (m1361).trans (fR_kept (oH1366 _ (G_ne ga0 gq1365 (by decide)))).symm
  have m1371 := (m1362).trans (fR_kept (oH1366 _ (G_ne ga1 gq1365 (by decide)))).symm
  have m1372 := (m1363).trans (fR_kept (oH1366 _ (G_ne ga0 gq1365 (by decide)))).symm
  have m1373 := (eq1364).trans (fR_kept (oH1366 _ (G_ne ga1 gq1365 (by decide)))).symm
  have m1374 := (eq1365).trans (fR_kept (oH1366 _ (G_ne ga0 gq1365 (by decide)))).symm
  refine lv_aload_n hx hb dX0_copyFrom_53 rfl (lv_at hl 1 rfl) ?_
  refine x_gr C hTH1366 (ci := 0) (k := 4) rfl inX0 (by decide) wF_X0_21 ga1 rg_35 rfl dX0_copyFrom_54 (fun q1375 eq1375 gq1375 => ?_)
  refine lv_iconst (v := 0) hx hb dX0_copyFrom_57 (by decide) ?_
  refine lv_aload_n hx hb dX0_copyFrom_58 rfl (lv_at hl 0 rfl) ?_
  refine x_gr C hTH1366 (ci := 0) (k := 4) rfl inX0 (by decide) wF_X0_21 ga0 rg_1 rfl dX0_copyFrom_59 (fun q1376 eq1376 gq1376 => ?_)
  refine lv_iconst (v := 0) hx hb dX0_copyFrom_62 (by decide) ?_
  refine lv_bipush (v := 16) hx hb dX0_copyFrom_63 (by decide) ?_
  refine x_copy C hTH1366 hSH1366 wM_X0_75 wNT_arraycopy wST_arraycopy wIN_J10 gq1375 gq1376 rg_39 rg_5 (by decide) (by omega) (by omega) (by omega) (by show _ ≤ ((16 : Nat) : Int); omega) (by show _ ≤ ((16 : Nat) : Int); omega) (AE_in gq1376 (by decide)) hl.1 (by decide) dX0_copyFrom_65 (fun H1377 locsH1377 hTH1377 hSH1377 zH1377 oH1377 vH1377 wH1377 => ?_)
  have m1378 := (m1367).trans (fI_kept (oH1377 _ (G_ne ga1 gq1376 (by decide)))).symm
  have m1379 := (m1368).trans (fI_kept (oH1377 _ (G_ne ga0 gq1376 (by decide)))).symm
  have m1380 := (m1369).trans (fR_kept (oH1377 _ (G_ne ga1 gq1376 (by decide)))).symm
  have m1381 := (m1370).trans (fR_kept (oH1377 _ (G_ne ga0 gq1376 (by decide)))).symm
  have m1382 := (m1371).trans (fR_kept (oH1377 _ (G_ne ga1 gq1376 (by decide)))).symm
  have m1383 := (m1372).trans (fR_kept (oH1377 _ (G_ne ga0 gq1376 (by decide)))).symm
  have m1384 := (m1373).trans (fR_kept (oH1377 _ (G_ne ga1 gq1376 (by decide)))).symm
  have m1385 := (m1374).trans (fR_kept (oH1377 _ (G_ne ga0 gq1376 (by decide)))).symm
  have m1386 := (eq1375).trans (fR_kept (oH1377 _ (G_ne ga1 gq1376 (by decide)))).symm
  have m1387 := (eq1376).trans (fR_kept (oH1377 _ (G_ne ga0 gq1376 (by decide)))).symm
  refine lv_aload_n hx hb dX0_copyFrom_68 rfl (lv_at hl 1 rfl) ?_
  refine x_gr C hTH1377 (ci := 0) (k := 5) rfl inX0 (by decide) wF_X0_24 ga1 rg_35 rfl dX0_copyFrom_69 (fun q1388 eq1388 gq1388 => ?_)
  refine lv_iconst (v := 0) hx hb dX0_copyFrom_72 (by decide) ?_
  refine lv_aload_n hx hb dX0_copyFrom_73 rfl (lv_at hl 0 rfl) ?_
  refine x_gr C hTH1377 (ci := 0) (k := 5) rfl inX0 (by decide) wF_X0_24 ga0 rg_1 rfl dX0_copyFrom_74 (fun q1389 eq1389 gq1389 => ?_)
  refine lv_iconst (v := 0) hx hb dX0_copyFrom_77 (by decide) ?_
  refine lv_iconst (v := 3) hx hb dX0_copyFrom_78 (by decide) ?_
  refine x_copy C hTH1377 hSH1377 wM_X0_75 wNT_arraycopy wST_arraycopy wIN_J10 gq1388 gq1389 rg_40 rg_6 (by decide) (by omega) (by omega) (by omega) (by show _ ≤ ((3 : Nat) : Int); omega) (by show _ ≤ ((3 : Nat) : Int); omega) (AE_in gq1389 (by decide)) hl.1 (by decide) dX0_copyFrom_79 (fun H1390 locsH1390 hTH1390 hSH1390 zH1390 oH1390 vH1390 wH1390 => ?_)
  have m1391 := (m1378).trans (fI_kept (oH1390 _ (G_ne ga1 gq1389 (by decide)))).symm
  have m1392 := (m1379).trans (fI_kept (oH1390 _ (G_ne ga0 gq1389 (by decide)))).symm
  have m1393 := (m1380).trans (fR_kept (oH1390 _ (G_ne ga1 gq1389 (by decide)))).symm
  have m1394 := (m1381).trans (fR_kept (oH1390 _ (G_ne ga0 gq1389 (by decide)))).symm
  have m1395 := (m1382).trans (fR_kept (oH1390 _ (G_ne ga1 gq1389 (by decide)))).symm
  have m1396 := (m1383).trans (fR_kept (oH1390 _ (G_ne ga0 gq1389 (by decide)))).symm
  have m1397 := (m1384).trans (fR_kept (oH1390 _ (G_ne ga1 gq1389 (by decide)))).symm
  have m1398 := (m1385).trans (fR_kept (oH1390 _ (G_ne ga0 gq1389 (by decide)))).symm
  have m1399 := (m1386).trans (fR_kept (oH1390 _ (G_ne ga1 gq1389 (by decide)))).symm
  have m1400 := (m1387).trans (fR_kept (oH1390 _ (G_ne ga0 gq1389 (by decide)))).symm
  have m1401 := (eq1388).trans (fR_kept (oH1390 _ (G_ne ga1 gq1389 (by decide)))).symm
  have m1402 := (eq1389).trans (fR_kept (oH1390 _ (G_ne ga0 gq1389 (by decide)))).symm
  refine lv_aload_n hx hb dX0_copyFrom_82 rfl (lv_at hl 1 rfl) ?_
  refine x_gr C hTH1390 (ci := 0) (k := 6) rfl inX0 (by decide) wF_X0_27 ga1 rg_35 rfl dX0_copyFrom_83 (fun q1403 eq1403 gq1403 => ?_)
  refine lv_iconst (v := 0) hx hb dX0_copyFrom_86 (by decide) ?_
  refine lv_aload_n hx hb dX0_copyFrom_87 rfl (lv_at hl 0 rfl) ?_
  refine x_gr C hTH1390 (ci := 0) (k := 6) rfl inX0 (by decide) wF_X0_27 ga0 rg_1 rfl dX0_copyFrom_88 (fun q1404 eq1404 gq1404 => ?_)
  refine lv_iconst (v := 0) hx hb dX0_copyFrom_91 (by decide) ?_
  refine lv_sipush (v := 200) hx hb dX0_copyFrom_92 (by decide) ?_
  refine x_copy C hTH1390 hSH1390 wM_X0_75 wNT_arraycopy wST_arraycopy wIN_J10 gq1403 gq1404 rg_41 rg_7 (by decide) (by omega) (by omega) (by omega) (by show _ ≤ ((200 : Nat) : Int); omega) (by show _ ≤ ((200 : Nat) : Int); omega) (AE_in gq1404 (by decide)) hl.1 (by decide) dX0_copyFrom_95 (fun H1405 locsH1405 hTH1405 hSH1405 zH1405 oH1405 vH1405 wH1405 => ?_)
  have m1406 := (m1391).trans (fI_kept (oH1405 _ (G_ne ga1 gq1404 (by decide)))).symm
  have m1407 := (m1392).trans (fI_kept (oH1405 _ (G_ne ga0 gq1404 (by decide)))).symm
  have m1408 := (m1393).trans (fR_kept (oH1405 _ (G_ne ga1 gq1404 (by decide)))).symm
  have m1409 := (m1394).trans (fR_kept (oH1405 _ (G_ne ga0 gq1404 (by decide)))).symm
  have m1410 := (m1395).trans (fR_kept (oH1405 _ (G_ne ga1 gq1404 (by decide)))).symm
  have m1411 := (m1396).trans (fR_kept (oH1405 _ (G_ne ga0 gq1404 (by decide)))).symm
  have m1412 := (m1397).trans (fR_kept (oH1405 _ (G_ne ga1 gq1404 (by decide)))).symm
  have m1413 := (m1398).trans (fR_kept (oH1405 _ (G_ne ga0 gq1404 (by decide)))).symm
  have m1414 := (m1399).trans (fR_kept (oH1405 _ (G_ne ga1 gq1404 (by decide)))).symm
  have m1415 := (m1400).trans (fR_kept (oH1405 _ (G_ne ga0 gq1404 (by decide)))).symm
  have m1416 := (m1401).trans (fR_kept (oH1405 _ (G_ne ga1 gq1404 (by decide)))).symm
  have m1417 := (m1402).trans (fR_kept (oH1405 _ (G_ne ga0 gq1404 (by decide)))).symm
  have m1418 := (eq1403).trans (fR_kept (oH1405 _ (G_ne ga1 gq1404 (by decide)))).symm
  have m1419 := (eq1404).trans (fR_kept (oH1405 _ (G_ne ga0 gq1404 (by decide)))).symm
  refine lv_aload_n hx hb dX0_copyFrom_98 rfl (lv_at hl 1 rfl) ?_
  refine x_gr C hTH1405 (ci := 0) (k := 7) rfl inX0 (by decide) wF_X0_30 ga1 rg_35 rfl dX0_copyFrom_99 (fun q1420 eq1420 gq1420 => ?_)
  refine lv_iconst (v := 0) hx hb dX0_copyFrom_102 (by decide) ?_
  refine lv_aload_n hx hb dX0_copyFrom_103 rfl (lv_at hl 0 rfl) ?_
  refine x_gr C hTH1405 (ci := 0) (k := 7) rfl inX0 (by decide) wF_X0_30 ga0 rg_1 rfl dX0_copyFrom_104 (fun q1421 eq1421 gq1421 => ?_)
  refine lv_iconst (v := 0) hx hb dX0_copyFrom_107 (by decide) ?_
  refine lv_sipush (v := 200) hx hb dX0_copyFrom_108 (by decide) ?_
  refine x_copy C hTH1405 hSH1405 wM_X0_75 wNT_arraycopy wST_arraycopy wIN_J10 gq1420 gq1421 rg_42 rg_8 (by decide) (by omega) (by omega) (by omega) (by show _ ≤ ((200 : Nat) : Int); omega) (by show _ ≤ ((200 : Nat) : Int); omega) (AE_in gq1421 (by decide)) hl.1 (by decide) dX0_copyFrom_111 (fun H1422 locsH1422 hTH1422 hSH1422 zH1422 oH1422 vH1422 wH1422 => ?_)
  have m1423 := (m1406).trans (fI_kept (oH1422 _ (G_ne ga1 gq1421 (by decide)))).symm
  have m1424 := (m1407).trans (fI_kept (oH1422 _ (G_ne ga0 gq1421 (by decide)))).symm
  have m1425 := (m1408).trans (fR_kept (oH1422 _ (G_ne ga1 gq1421 (by decide)))).symm
  have m1426 := (m1409).trans (fR_kept (oH1422 _ (G_ne ga0 gq1421 (by decide)))).symm
  have m1427 := (m1410).trans (fR_kept (oH1422 _ (G_ne ga1 gq1421 (by decide)))).symm
  have m1428 := (m1411).trans (fR_kept (oH1422 _ (G_ne ga0 gq1421 (by decide)))).symm
  have m1429 := (m1412).trans (fR_kept (oH1422 _ (G_ne ga1 gq1421 (by decide)))).symm
  have m1430 := (m1413).trans (fR_kept (oH1422 _ (G_ne ga0 gq1421 (by decide)))).symm
  have m1431 := (m1414).trans (fR_kept (oH1422 _ (G_ne ga1 gq1421 (by decide)))).symm
  have m1432 := (m1415).trans (fR_kept (oH1422 _ (G_ne ga0 gq1421 (by decide)))).symm
  have m1433 := (m1416).trans (fR_kept (oH1422 _ (G_ne ga1 gq1421 (by decide)))).symm
  have m1434 := (m1417).trans (fR_kept (oH1422 _ (G_ne ga0 gq1421 (by decide)))).symm
  have m1435 := (m1418).trans (fR_kept (oH1422 _ (G_ne ga1 gq1421 (by decide)))).symm
  have m1436 := (m1419).trans (fR_kept (oH1422 _ (G_ne ga0 gq1421 (by decide)))).symm
  have m1437 := (eq1420).trans (fR_kept (oH1422 _ (G_ne ga1 gq1421 (by decide)))).symm
  have m1438 := (eq1421).trans (fR_kept (oH1422 _ (G_ne ga0 gq1421 (by decide)))).symm
  refine lv_aload_n hx hb dX0_copyFrom_114 rfl (lv_at hl 0 rfl) ?_
  refine lv_aload_n hx hb dX0_copyFrom_115 rfl (lv_at hl 1 rfl) ?_
  refine x_gi C hTH1422 (ci := 0) (k := 8) rfl inX0 (by decide) wF_X0_60 ga1 rg_35 rfl dX0_copyFrom_116 (fun x1439 ex1439 bx1439 => ?_)
  refine x_put C hTH1422 hSH1422 (ci := 0) (k := 8) (v := .int x1439) (ty0 := tyX0) rfl inX0 tyX0_ok nmX0 (by decide) rfl wF_X0_60 ga0 rg_1 rfl rfl (okI (by have := i_rng x1439; omega) (by have := i_rng x1439; omega)) rfl rfl (AE_in ga0 (by decide)) dX0_copyFrom_119 (fun H1440 locsH1440 hTH1440 hSH1440 wH1440 => ?_)
  have m1441 := m1423.trans (Wr.neI wH1440 (Or.inl (G_ne ga1 ga0 (by decide)))).symm
  have m1442 := m1424.trans (Wr.neI wH1440 (Or.inr (x_apart hKT hts inX0 tyX0 tyX0_ok nmX0 rfl 0 8 (by decide) (by decide) (by decide)))).symm
  have m1443 := m1425.trans (Wr.neR wH1440 (Or.inl (G_ne ga1 ga0 (by decide)))).symm
  have m1444 := m1426.trans (Wr.neR wH1440 (Or.inr (x_apart hKT hts inX0 tyX0 tyX0_ok nmX0 rfl 1 8 (by decide) (by decide) (by decide)))).symm
  have m1445 := m1427.trans (Wr.neR wH1440 (Or.inl (G_ne ga1 ga0 (by decide)))).symm
  have m1446 := m1428.trans (Wr.neR wH1440 (Or.inr (x_apart hKT hts inX0 tyX0 tyX0_ok nmX0 rfl 2 8 (by decide) (by decide) (by decide)))).symm
  have m1447 := m1429.trans (Wr.neR wH1440 (Or.inl (G_ne ga1 ga0 (by decide)))).symm
  have m1448 := m1430.trans (Wr.neR wH1440 (Or.inr (x_apart hKT hts inX0 tyX0 tyX0_ok nmX0 rfl 3 8 (by decide) (by decide) (by decide)))).symm
  have m1449 := m1431.trans (Wr.neR wH1440 (Or.inl (G_ne ga1 ga0 (by decide)))).symm
  have m1450 := m1432.trans (Wr.neR wH1440 (Or.inr (x_apart hKT hts inX0 tyX0 tyX0_ok nmX0 rfl 4 8 (by decide) (by decide) (by decide)))).symm
  have m1451 := m1433.trans (Wr.neR wH1440 (Or.inl (G_ne ga1 ga0 (by decide)))).symm
  have m1452 := m1434.trans (Wr.neR wH1440 (Or.inr (x_apart hKT hts inX0 tyX0 tyX0_ok nmX0 rfl 5 8 (by decide) (by decide) (by decide)))).symm
  have m1453 := m1435.trans (Wr.neR wH1440 (Or.inl (G_ne ga1 ga0 (by decide)))).symm
  have m1454 := m1436.trans (Wr.neR wH1440 (Or.inr (x_apart hKT hts inX0 tyX0 tyX0_ok nmX0 rfl 6 8 (by decide) (by decide) (by decide)))).symm
  have m1455 := m1437.trans (Wr.neR wH1440 (Or.inl (G_ne ga1 ga0 (by decide)))).symm
  have m1456 := m1438.trans (Wr.neR wH1440 (Or.inr (x_apart hKT hts inX0 tyX0 tyX0_ok nmX0 rfl 7 8 (by decide) (by decide) (by decide)))).symm
  have m1457 := ex1439.trans (Wr.neI wH1440 (Or.inl (G_ne ga1 ga0 (by decide)))).symm
  have m1458 := Wr.I wH1440
  have m1458 := m1458.symm
  refine lv_aload_n hx hb dX0_copyFrom_122 rfl (lv_at hl 0 rfl) ?_
  refine lv_aload_n hx hb dX0_copyFrom_123 rfl (lv_at hl 1 rfl) ?_
  refine x_gi C hTH1440 (ci := 0) (k := 9) rfl inX0 (by decide) wF_X0_63 ga1 rg_35 rfl dX0_copyFrom_124 (fun x1459 ex1459 bx1459 => ?_)
  refine x_put C hTH1440 hSH1440 (ci := 0) (k := 9) (v := .int x1459) (ty0 := tyX0) rfl inX0 tyX0_ok nmX0 (by decide) rfl wF_X0_63 ga0 rg_1 rfl rfl (okI (by have := i_rng x1459; omega) (by have := i_rng x1459; omega)) rfl rfl (AE_in ga0 (by decide)) dX0_copyFrom_127 (fun H1460 locsH1460 hTH1460 hSH1460 wH1460 => ?_)
  have m1461 := m1441.trans (Wr.neI wH1460 (Or.inl (G_ne ga1 ga0 (by decide)))).symm
  have m1462 := m1442.trans (Wr.neI wH1460 (Or.inr (x_apart hKT hts inX0 tyX0 tyX0_ok nmX0 rfl 0 9 (by decide) (by decide) (by decide)))).symm
  have m1463 := m1443.trans (Wr.neR wH1460 (Or.inl (G_ne ga1 ga0 (by decide)))).symm
  have m1464 := m1444.trans (Wr.neR wH1460 (Or.inr (x_apart hKT hts inX0 tyX0 tyX0_ok nmX0 rfl 1 9 (by decide) (by decide) (by decide)))).symm
  have m1465 := m1445.trans (Wr.neR wH1460 (Or.inl (G_ne ga1 ga0 (by decide)))).symm
  have m1466 := m1446.trans (Wr.neR wH1460 (Or.inr (x_apart hKT hts inX0 tyX0 tyX0_ok nmX0 rfl 2 9 (by decide) (by decide) (by decide)))).symm
  have m1467 := m1447.trans (Wr.neR wH1460 (Or.inl (G_ne ga1 ga0 (by decide)))).symm
  have m1468 := m1448.trans (Wr.neR wH1460 (Or.inr (x_apart hKT hts inX0 tyX0 tyX0_ok nmX0 rfl 3 9 (by decide) (by decide) (by decide)))).symm
  have m1469 := m1449.trans (Wr.neR wH1460 (Or.inl (G_ne ga1 ga0 (by decide)))).symm
  have m1470 := m1450.trans (Wr.neR wH1460 (Or.inr (x_apart hKT hts inX0 tyX0 tyX0_ok nmX0 rfl 4 9 (by decide) (by decide) (by decide)))).symm
  have m1471 := m1451.trans (Wr.neR wH1460 (Or.inl (G_ne ga1 ga0 (by decide)))).symm
  have m1472 := m1452.trans (Wr.neR wH1460 (Or.inr (x_apart hKT hts inX0 tyX0 tyX0_ok nmX0 rfl 5 9 (by decide) (by decide) (by decide)))).symm
  have m1473 := m1453.trans (Wr.neR wH1460 (Or.inl (G_ne ga1 ga0 (by decide)))).symm
  have m1474 := m1454.trans (Wr.neR wH1460 (Or.inr (x_apart hKT hts inX0 tyX0 tyX0_ok nmX0 rfl 6 9 (by decide) (by decide) (by decide)))).symm
  have m1475 := m1455.trans (Wr.neR wH1460 (Or.inl (G_ne ga1 ga0 (by decide)))).symm
  have m1476 := m1456.trans (Wr.neR wH1460 (Or.inr (x_apart hKT hts inX0 tyX0 tyX0_ok nmX0 rfl 7 9 (by decide) (by decide) (by decide)))).symm
  have m1477 := m1457.trans (Wr.neI wH1460 (Or.inl (G_ne ga1 ga0 (by decide)))).symm
  have m1478 := m1458.trans (Wr.neI wH1460 (Or.inr (x_apart hKT hts inX0 tyX0 tyX0_ok nmX0 rfl 8 9 (by decide) (by decide) (by decide)))).symm
  have m1479 := ex1459.trans (Wr.neI wH1460 (Or.inl (G_ne ga1 ga0 (by decide)))).symm
  have m1480 := Wr.I wH1460
  have m1480 := m1480.symm
  refine lv_aload_n hx hb dX0_copyFrom_130 rfl (lv_at hl 1 rfl) ?_
  refine x_gr C hTH1460 (ci := 0) (k := 10) rfl inX0 (by decide) wF_X0_33 ga1 rg_35 rfl dX0_copyFrom_131 (fun q1481 eq1481 gq1481 => ?_)
  refine lv_iconst (v := 0) hx hb dX0_copyFrom_134 (by decide) ?_
  refine lv_aload_n hx hb dX0_copyFrom_135 rfl (lv_at hl 0 rfl) ?_
  refine x_gr C hTH1460 (ci := 0) (k := 10) rfl inX0 (by decide) wF_X0_33 ga0 rg_1 rfl dX0_copyFrom_136 (fun q1482 eq1482 gq1482 => ?_)
  refine lv_iconst (v := 0) hx hb dX0_copyFrom_139 (by decide) ?_
  refine lv_bipush (v := 12) hx hb dX0_copyFrom_140 (by decide) ?_
  refine x_copy C hTH1460 hSH1460 wM_X0_75 wNT_arraycopy wST_arraycopy wIN_J10 gq1481 gq1482 rg_43 rg_9 (by decide) (by omega) (by omega) (by omega) (by show _ ≤ ((12 : Nat) : Int); omega) (by show _ ≤ ((12 : Nat) : Int); omega) (AE_in gq1482 (by decide)) hl.1 (by decide) dX0_copyFrom_142 (fun H1483 locsH1483 hTH1483 hSH1483 zH1483 oH1483 vH1483 wH1483 => ?_)
  have m1484 := (m1461).trans (fI_kept (oH1483 _ (G_ne ga1 gq1482 (by decide)))).symm
  have m1485 := (m1462).trans (fI_kept (oH1483 _ (G_ne ga0 gq1482 (by decide)))).symm
  have m1486 := (m1463).trans (fR_kept (oH1483 _ (G_ne ga1 gq1482 (by decide)))).symm
  have m1487 := (m1464).trans (fR_kept (oH1483 _ (G_ne ga0 gq1482 (by decide)))).symm
  have m1488 := (m1465).trans (fR_kept (oH1483 _ (G_ne ga1 gq1482 (by decide)))).symm
  have m1489 := (m1466).trans (fR_kept (oH1483 _ (G_ne ga0 gq1482 (by decide)))).symm
  have m1490 := (m1467).trans (fR_kept (oH1483 _ (G_ne ga1 gq1482 (by decide)))).symm
  have m1491 := (m1468).trans (fR_kept (oH1483 _ (G_ne ga0 gq1482 (by decide)))).symm
  have m1492 := (m1469).trans (fR_kept (oH1483 _ (G_ne ga1 gq1482 (by decide)))).symm
  have m1493 := (m1470).trans (fR_kept (oH1483 _ (G_ne ga0 gq1482 (by decide)))).symm
  have m1494 := (m1471).trans (fR_kept (oH1483 _ (G_ne ga1 gq1482 (by decide)))).symm
  have m1495 := (m1472).trans (fR_kept (oH1483 _ (G_ne ga0 gq1482 (by decide)))).symm
  have m1496 := (m1473).trans (fR_kept (oH1483 _ (G_ne ga1 gq1482 (by decide)))).symm
  have m1497 := (m1474).trans (fR_kept (oH1483 _ (G_ne ga0 gq1482 (by decide)))).symm
  have m1498 := (m1475).trans (fR_kept (oH1483 _ (G_ne ga1 gq1482 (by decide)))).symm
  have m1499 := (m1476).trans (fR_kept (oH1483 _ (G_ne ga0 gq1482 (by decide)))).symm
  have m1500 := (m1477).trans (fI_kept (oH1483 _ (G_ne ga1 gq1482 (by decide)))).symm
  have m1501 := (m1478).trans (fI_kept (oH1483 _ (G_ne ga0 gq1482 (by decide)))).symm
  have m1502 := (m1479).trans (fI_kept (oH1483 _ (G_ne ga1 gq1482 (by decide)))).symm
  have m1503 := (m1480).trans (fI_kept (oH1483 _ (G_ne ga0 gq1482 (by decide)))).symm
  have m1504 := (eq1481).trans (fR_kept (oH1483 _ (G_ne ga1 gq1482 (by decide)))).symm
  have m1505 := (eq1482).trans (fR_kept (oH1483 _ (G_ne ga0 gq1482 (by decide)))).symm
  refine lv_aload_n hx hb dX0_copyFrom_145 rfl (lv_at hl 1 rfl) ?_
  refine x_gr C hTH1483 (ci := 0) (k := 11) rfl inX0 (by decide) wF_X0_36 ga1 rg_35 rfl dX0_copyFrom_146 (fun q1506 eq1506 gq1506 => ?_)
  refine lv_iconst (v := 0) hx hb dX0_copyFrom_149 (by decide) ?_
  refine lv_aload_n hx hb dX0_copyFrom_150 rfl (lv_at hl 0 rfl) ?_
  refine x_gr C hTH1483 (ci := 0) (k := 11) rfl inX0 (by decide) wF_X0_36 ga0 rg_1 rfl dX0_copyFrom_151 (fun q1507 eq1507 gq1507 => ?_)
  refine lv_iconst (v := 0) hx hb dX0_copyFrom_154 (by decide) ?_
  refine lv_bipush (v := 12) hx hb dX0_copyFrom_155 (by decide) ?_
  refine x_copy C hTH1483 hSH1483 wM_X0_75 wNT_arraycopy wST_arraycopy wIN_J10 gq1506 gq1507 rg_44 rg_10 (by decide) (by omega) (by omega) (by omega) (by show _ ≤ ((12 : Nat) : Int); omega) (by show _ ≤ ((12 : Nat) : Int); omega) (AE_in gq1507 (by decide)) hl.1 (by decide) dX0_copyFrom_157 (fun H1508 locsH1508 hTH1508 hSH1508 zH1508 oH1508 vH1508 wH1508 => ?_)
  have m1509 := (m1484).trans (fI_kept (oH1508 _ (G_ne ga1 gq1507 (by decide)))).symm
  have m1510 := (m1485).trans (fI_kept (oH1508 _ (G_ne ga0 gq1507 (by decide)))).symm
  have m1511 := (m1486).trans (fR_kept (oH1508 _ (G_ne ga1 gq1507 (by decide)))).symm
  have m1512 := (m1487).trans (fR_kept (oH1508 _ (G_ne ga0 gq1507 (by decide)))).symm
  have m1513 := (m1488).trans (fR_kept (oH1508 _ (G_ne ga1 gq1507 (by decide)))).symm
  have m1514 := (m1489).trans (fR_kept (oH1508 _ (G_ne ga0 gq1507 (by decide)))).symm
  have m1515 := (m1490).trans (fR_kept (oH1508 _ (G_ne ga1 gq1507 (by decide)))).symm
  have m1516 := (m1491).trans (fR_kept (oH1508 _ (G_ne ga0 gq1507 (by decide)))).symm
  have m1517 := (m1492).trans (fR_kept (oH1508 _ (G_ne ga1 gq1507 (by decide)))).symm
  have m1518 := (m1493).trans (fR_kept (oH1508 _ (G_ne ga0 gq1507 (by decide)))).symm
  have m1519 := (m1494).trans (fR_kept (oH1508 _ (G_ne ga1 gq1507 (by decide)))).symm
  have m1520 := (m1495).trans (fR_kept (oH1508 _ (G_ne ga0 gq1507 (by decide)))).symm
  have m1521 := (m1496).trans (fR_kept (oH1508 _ (G_ne ga1 gq1507 (by decide)))).symm
  have m1522 := (m1497).trans (fR_kept (oH1508 _ (G_ne ga0 gq1507 (by decide)))).symm
  have m1523 := (m1498).trans (fR_kept (oH1508 _ (G_ne ga1 gq1507 (by decide)))).symm
  have m1524 := (m1499).trans (fR_kept (oH1508 _ (G_ne ga0 gq1507 (by decide)))).symm
  have m1525 := (m1500).trans (fI_kept (oH1508 _ (G_ne ga1 gq1507 (by decide)))).symm
  have m1526 := (m1501).trans (fI_kept (oH1508 _ (G_ne ga0 gq1507 (by decide)))).symm
  have m1527 := (m1502).trans (fI_kept (oH1508 _ (G_ne ga1 gq1507 (by decide)))).symm
  have m1528 := (m1503).trans (fI_kept (oH1508 _ (G_ne ga0 gq1507 (by decide)))).symm
  have m1529 := (m1504).trans (fR_kept (oH1508 _ (G_ne ga1 gq1507 (by decide)))).symm
  have m1530 := (m1505).trans (fR_kept (oH1508 _ (G_ne ga0 gq1507 (by decide)))).symm
  have m1531 := (eq1506).trans (fR_kept (oH1508 _ (G_ne ga1 gq1507 (by decide)))).symm
  have m1532 := (eq1507).trans (fR_kept (oH1508 _ (G_ne ga0 gq1507 (by decide)))).symm
  refine lv_iconst (v := 0) hx hb dX0_copyFrom_160 (by decide) ?_
  refine lv_istore_n (lv' := [(2, .int 0), (0, .ref a0), (1, .ref a1)]) hx hb dX0_copyFrom_161 rfl hl (by decide) rfl (fun ls1533 hl1534 => ?_)
  exact J162 ((12 - (0 : Int32).toInt).toNat + 1) ls1533 H1508 locsH1508 (0) (lv_sub hl1534 [1, 2, 0] rfl) hTH1508 hSH1508 (by decide) (by omega)

set_option maxHeartbeats 4000000 in
set_option maxRecDepth 100000 in
theorem a_X0_begin (l : Launch) (K : KE) (G : Nat → Option Nat) (H : Heap) {a0 : Nat} (x1 : Int32) (hT : TY K G H) (ga0 : G a0 = some 1) (hx1 : 3 ≤ x1.toInt ∧ x1.toInt ≤ 16) : MX l K yX0_begin cX0_begin 2 none 1 23 0 0 [.ref a0, .int x1] H (AE G [1, 2, 3, 4, 5, 6, 15] H.size) (fun v H1 => v = none ∧ TY K G H1) := by
  refine MX.of (by decide +kernel) (Nat.le_of_ble_eq_true rfl) ?_
  intro p e s m below meth c ls Q C hH hl hQ
  subst hH
  have C : CX p K s m _ meth c RX0 cX0_begin 2 none "begin" := C
  obtain ⟨hx, hb, hml, hown, hts, hKT, hr, hlocks, hnm⟩ := id C
  have hl : lv_has ls 2 [(0, .ref a0), (1, .int x1)] := hl
  have hS : va_S (AE G [1, 2, 3, 4, 5, 6, 15] s.heap.size) s.heap s.heap [] := va_S.rf
  have n_m1 : ((-1) : Int32).toInt = -1 := rfl
  have n_0 : (0 : Int32).toInt = 0 := rfl
  have n_5 : (5 : Int32).toInt = 5 := rfl
  have n_20 : (20 : Int32).toInt = 20 := rfl
  have n_500 : (500 : Int32).toInt = 500 := rfl
  refine lv_aload_n hx hb dX0_begin_0 rfl (lv_at hl 0 rfl) ?_
  refine lv_iload_n hx hb dX0_begin_1 rfl (lv_at hl 1 rfl) ?_
  refine x_put C hT hS (ci := 0) (k := 0) (v := .int x1) (ty0 := tyX0) rfl inX0 tyX0_ok nmX0 (by decide) rfl wF_X0_50 ga0 rg_1 rfl rfl (okI (by have := i_rng x1; omega) (by have := i_rng x1; omega)) rfl rfl (AE_in ga0 (by decide)) dX0_begin_2 (fun H485 locsH485 hTH485 hSH485 wH485 => ?_)
  have m486 := Wr.I wH485
  have m486 := m486.symm
  refine lv_aload_n hx hb dX0_begin_5 rfl (lv_at hl 0 rfl) ?_
  refine x_gr C hTH485 (ci := 0) (k := 1) rfl inX0 (by decide) wF_X0_9 ga0 rg_1 rfl dX0_begin_6 (fun q487 eq487 gq487 => ?_)
  refine lv_bipush (v := 20) hx hb dX0_begin_9 (by decide) ?_
  refine x_S (As := [.ref q487, .int 20]) (rest := []) C (c_fill l K G H485 (20) hTH485 gq487 rg_2 (by decide) ⟨by have := i_rng (20 : Int32); omega, by have := i_rng (20 : Int32); omega⟩) yo_J7_fill_53178 wM_X0_54 ⟨⟨by decide, by decide⟩, by decide, by decide⟩ rfl hl.1 rfl (Nat.le_of_ble_eq_true rfl) dX0_begin_11 hSH485 (AE_sub (fun _ _ => rfl) (by decide) hSH485.1) (fun vH488 H488 locsH488 pH488 zH488 kH488 hSH488 => ?_)
  have hTH488 := pH488.2.1
  have hvH488 := pH488.1
  subst hvH488
  have m489 := (m486).trans (fI_kept (x_lt hTH485 kH488 ga0 (by decide))).symm
  have m490 := (eq487).trans (fR_kept (x_lt hTH485 kH488 ga0 (by decide))).symm
  refine W.eq (g2 := F0 m 14 ls []) rfl ?_
  refine lv_aload_n hx hb dX0_begin_14 rfl (lv_at hl 0 rfl) ?_
  refine x_gr C hTH488 (ci := 0) (k := 2) rfl inX0 (by decide) wF_X0_15 ga0 rg_1 rfl dX0_begin_15 (fun q491 eq491 gq491 => ?_)
  refine lv_iconst (v := 5) hx hb dX0_begin_18 (by decide) ?_
  refine x_S (As := [.ref q491, .int 5]) (rest := []) C (c_fill l K G H488 (5) hTH488 gq491 rg_3 (by decide) ⟨by have := i_rng (5 : Int32); omega, by have := i_rng (5 : Int32); omega⟩) yo_J7_fill_53178 wM_X0_54 ⟨⟨by decide, by decide⟩, by decide, by decide⟩ rfl hl.1 rfl (Nat.le_of_ble_eq_true rfl) dX0_begin_19 hSH488 (AE_sub (fun _ _ => rfl) (by decide) hSH488.1) (fun vH492 H492 locsH492 pH492 zH492 kH492 hSH492 => ?_)
  have hTH492 := pH492.2.1
  have hvH492 := pH492.1
  subst hvH492
  have m493 := (m489).trans (fI_kept (x_lt hTH488 kH492 ga0 (by decide))).symm
  have m494 := (m490).trans (fR_kept (x_lt hTH488 kH492 ga0 (by decide))).symm
  have m495 := (eq491).trans (fR_kept (x_lt hTH488 kH492 ga0 (by decide))).symm
  refine W.eq (g2 := F0 m 22 ls []) rfl ?_
  refine lv_aload_n hx hb dX0_begin_22 rfl (lv_at hl 0 rfl) ?_
  refine x_gr C hTH492 (ci := 0) (k := 3) rfl inX0 (by decide) wF_X0_18 ga0 rg_1 rfl dX0_begin_23 (fun q496 eq496 gq496 => ?_)
  refine lv_iconst (v := 5) hx hb dX0_begin_26 (by decide) ?_
  refine x_S (As := [.ref q496, .int 5]) (rest := []) C (c_fill l K G H492 (5) hTH492 gq496 rg_4 (by decide) ⟨by have := i_rng (5 : Int32); omega, by have := i_rng (5 : Int32); omega⟩) yo_J7_fill_53178 wM_X0_54 ⟨⟨by decide, by decide⟩, by decide, by decide⟩ rfl hl.1 rfl (Nat.le_of_ble_eq_true rfl) dX0_begin_27 hSH492 (AE_sub (fun _ _ => rfl) (by decide) hSH492.1) (fun vH497 H497 locsH497 pH497 zH497 kH497 hSH497 => ?_)
  have hTH497 := pH497.2.1
  have hvH497 := pH497.1
  subst hvH497
  have m498 := (m493).trans (fI_kept (x_lt hTH492 kH497 ga0 (by decide))).symm
  have m499 := (m494).trans (fR_kept (x_lt hTH492 kH497 ga0 (by decide))).symm
  have m500 := (m495).trans (fR_kept (x_lt hTH492 kH497 ga0 (by decide))).symm
  have m501 := (eq496).trans (fR_kept (x_lt hTH492 kH497 ga0 (by decide))).symm
  refine W.eq (g2 := F0 m 30 ls []) rfl ?_
  refine lv_aload_n hx hb dX0_begin_30 rfl (lv_at hl 0 rfl) ?_
  refine x_gr C hTH497 (ci := 0) (k := 4) rfl inX0 (by decide) wF_X0_21 ga0 rg_1 rfl dX0_begin_31 (fun q502 eq502 gq502 => ?_)
  refine lv_iconst (v := 0) hx hb dX0_begin_34 (by decide) ?_
  refine x_S (As := [.ref q502, .int 0]) (rest := []) C (c_fill l K G H497 (0) hTH497 gq502 rg_5 (by decide) ⟨by have := i_rng (0 : Int32); omega, by have := i_rng (0 : Int32); omega⟩) yo_J7_fill_53178 wM_X0_54 ⟨⟨by decide, by decide⟩, by decide, by decide⟩ rfl hl.1 rfl (Nat.le_of_ble_eq_true rfl) dX0_begin_35 hSH497 (AE_sub (fun _ _ => rfl) (by decide) hSH497.1) (fun vH503 H503 locsH503 pH503 zH503 kH503 hSH503 => ?_)
  have hTH503 := pH503.2.1
  have hvH503 := pH503.1
  subst hvH503
  have m504 := (m498).trans (fI_kept (x_lt hTH497 kH503 ga0 (by decide))).symm
  have m505 := (m499).trans (fR_kept (x_lt hTH497 kH503 ga0 (by decide))).symm
  have m506 := (m500).trans (fR_kept (x_lt hTH497 kH503 ga0 (by decide))).symm
  have m507 := (m501).trans (fR_kept (x_lt hTH497 kH503 ga0 (by decide))).symm
  have m508 := (eq502).trans (fR_kept (x_lt hTH497 kH503 ga0 (by decide))).symm
  refine W.eq (g2 := F0 m 38 ls []) rfl ?_
  refine lv_aload_n hx hb dX0_begin_38 rfl (lv_at hl 0 rfl) ?_
  refine x_gr C hTH503 (ci := 0) (k := 5) rfl inX0 (by decide) wF_X0_24 ga0 rg_1 rfl dX0_begin_39 (fun q509 eq509 gq509 => ?_)
  refine lv_iconst (v := 0) hx hb dX0_begin_42 (by decide) ?_
  refine x_S (As := [.ref q509, .int 0]) (rest := []) C (c_fill l K G H503 (0) hTH503 gq509 rg_6 (by decide) ⟨by have := i_rng (0 : Int32); omega, by have := i_rng (0 : Int32); omega⟩) yo_J7_fill_53178 wM_X0_54 ⟨⟨by decide, by decide⟩, by decide, by decide⟩ rfl hl.1 rfl (Nat.le_of_ble_eq_true rfl) dX0_begin_43 hSH503 (AE_sub (fun _ _ => rfl) (by decide) hSH503.1) (fun vH510 H510 locsH510 pH510 zH510 kH510 hSH510 => ?_)
  have hTH510 := pH510.2.1
  have hvH510 := pH510.1
  subst hvH510
  have m511 := (m504).trans (fI_kept (x_lt hTH503 kH510 ga0 (by decide))).symm
  have m512 := (m505).trans (fR_kept (x_lt hTH503 kH510 ga0 (by decide))).symm
  have m513 := (m506).trans (fR_kept (x_lt hTH503 kH510 ga0 (by decide))).symm
  have m514 := (m507).trans (fR_kept (x_lt hTH503 kH510 ga0 (by decide))).symm
  have m515 := (m508).trans (fR_kept (x_lt hTH503 kH510 ga0 (by decide))).symm
  have m516 := (eq509).trans (fR_kept (x_lt hTH503 kH510 ga0 (by decide))).symm
  refine W.eq (g2 := F0 m 46 ls []) rfl ?_
  refine lv_aload_n hx hb dX0_begin_46 rfl (lv_at hl 0 rfl) ?_
  refine x_gr C hTH510 (ci := 0) (k := 17) rfl inX0 (by decide) wF_X0_47 ga0 rg_1 rfl dX0_begin_47 (fun q517 eq517 gq517 => ?_)
  refine lv_sipush (v := 500) hx hb dX0_begin_50 (by decide) ?_
  refine x_S (As := [.ref q517, .int 500]) (rest := []) C (c_fill l K G H510 (500) hTH510 gq517 rg_15 (by decide) ⟨by have := i_rng (500 : Int32); omega, by have := i_rng (500 : Int32); omega⟩) yo_J7_fill_53178 wM_X0_54 ⟨⟨by decide, by decide⟩, by decide, by decide⟩ rfl hl.1 rfl (Nat.le_of_ble_eq_true rfl) dX0_begin_53 hSH510 (AE_sub (fun _ _ => rfl) (by decide) hSH510.1) (fun vH518 H518 locsH518 pH518 zH518 kH518 hSH518 => ?_)
  have hTH518 := pH518.2.1
  have hvH518 := pH518.1
  subst hvH518
  have m519 := (m511).trans (fI_kept (x_lt hTH510 kH518 ga0 (by decide))).symm
  have m520 := (m512).trans (fR_kept (x_lt hTH510 kH518 ga0 (by decide))).symm
  have m521 := (m513).trans (fR_kept (x_lt hTH510 kH518 ga0 (by decide))).symm
  have m522 := (m514).trans (fR_kept (x_lt hTH510 kH518 ga0 (by decide))).symm
  have m523 := (m515).trans (fR_kept (x_lt hTH510 kH518 ga0 (by decide))).symm
  have m524 := (m516).trans (fR_kept (x_lt hTH510 kH518 ga0 (by decide))).symm
  have m525 := (eq517).trans (fR_kept (x_lt hTH510 kH518 ga0 (by decide))).symm
  refine W.eq (g2 := F0 m 56 ls []) rfl ?_
  refine lv_aload_n hx hb dX0_begin_56 rfl (lv_at hl 0 rfl) ?_
  refine lv_iconst (v := 0) hx hb dX0_begin_57 (by decide) ?_
  refine x_put C hTH518 hSH518 (ci := 0) (k := 8) (v := .int 0) (ty0 := tyX0) rfl inX0 tyX0_ok nmX0 (by decide) rfl wF_X0_60 ga0 rg_1 rfl rfl (okI (by have := i_rng (0 : Int32); omega) (by have := i_rng (0 : Int32); omega)) rfl rfl (AE_in ga0 (by decide)) dX0_begin_58 (fun H526 locsH526 hTH526 hSH526 wH526 => ?_)
  have m527 := m519.trans (Wr.neI wH526 (Or.inr (x_apart hKT hts inX0 tyX0 tyX0_ok nmX0 rfl 0 8 (by decide) (by decide) (by decide)))).symm
  have m528 := m520.trans (Wr.neR wH526 (Or.inr (x_apart hKT hts inX0 tyX0 tyX0_ok nmX0 rfl 1 8 (by decide) (by decide) (by decide)))).symm
  have m529 := m521.trans (Wr.neR wH526 (Or.inr (x_apart hKT hts inX0 tyX0 tyX0_ok nmX0 rfl 2 8 (by decide) (by decide) (by decide)))).symm
  have m530 := m522.trans (Wr.neR wH526 (Or.inr (x_apart hKT hts inX0 tyX0 tyX0_ok nmX0 rfl 3 8 (by decide) (by decide) (by decide)))).symm
  have m531 := m523.trans (Wr.neR wH526 (Or.inr (x_apart hKT hts inX0 tyX0 tyX0_ok nmX0 rfl 4 8 (by decide) (by decide) (by decide)))).symm
  have m532 := m524.trans (Wr.neR wH526 (Or.inr (x_apart hKT hts inX0 tyX0 tyX0_ok nmX0 rfl 5 8 (by decide) (by decide) (by decide)))).symm
  have m533 := m525.trans (Wr.neR wH526 (Or.inr (x_apart hKT hts inX0 tyX0 tyX0_ok nmX0 rfl 17 8 (by decide) (by decide) (by decide)))).symm
  have m534 := Wr.I wH526
  refine lv_aload_n hx hb dX0_begin_61 rfl (lv_at hl 0 rfl) ?_
  refine lv_iconst (v := 0) hx hb dX0_begin_62 (by decide) ?_
  refine x_put C hTH526 hSH526 (ci := 0) (k := 9) (v := .int 0) (ty0 := tyX0) rfl inX0 tyX0_ok nmX0 (by decide) rfl wF_X0_63 ga0 rg_1 rfl rfl (okI (by have := i_rng (0 : Int32); omega) (by have := i_rng (0 : Int32); omega)) rfl rfl (AE_in ga0 (by decide)) dX0_begin_63 (fun H535 locsH535 hTH535 hSH535 wH535 => ?_)
  have m536 := m527.trans (Wr.neI wH535 (Or.inr (x_apart hKT hts inX0 tyX0 tyX0_ok nmX0 rfl 0 9 (by decide) (by decide) (by decide)))).symm
  have m537 := m528.trans (Wr.neR wH535 (Or.inr (x_apart hKT hts inX0 tyX0 tyX0_ok nmX0 rfl 1 9 (by decide) (by decide) (by decide)))).symm
  have m538 := m529.trans (Wr.neR wH535 (Or.inr (x_apart hKT hts inX0 tyX0 tyX0_ok nmX0 rfl 2 9 (by decide) (by decide) (by decide)))).symm
  have m539 := m530.trans (Wr.neR wH535 (Or.inr (x_apart hKT hts inX0 tyX0 tyX0_ok nmX0 rfl 3 9 (by decide) (by decide) (by decide)))).symm
  have m540 := m531.trans (Wr.neR wH535 (Or.inr (x_apart hKT hts inX0 tyX0 tyX0_ok nmX0 rfl 4 9 (by decide) (by decide) (by decide)))).symm
  have m541 := m532.trans (Wr.neR wH535 (Or.inr (x_apart hKT hts inX0 tyX0 tyX0_ok nmX0 rfl 5 9 (by decide) (by decide) (by decide)))).symm
  have m542 := m533.trans (Wr.neR wH535 (Or.inr (x_apart hKT hts inX0 tyX0 tyX0_ok nmX0 rfl 17 9 (by decide) (by decide) (by decide)))).symm
  have m543 := (Wr.neI wH535 (Or.inr (x_apart hKT hts inX0 tyX0 tyX0_ok nmX0 rfl 8 9 (by decide) (by decide) (by decide)))).trans m534
  have m544 := Wr.I wH535
  refine lv_aload_n hx hb dX0_begin_66 rfl (lv_at hl 0 rfl) ?_
  refine lv_iconst (v := 0) hx hb dX0_begin_67 (by decide) ?_
  refine x_put C hTH535 hSH535 (ci := 0) (k := 14) (v := .int 0) (ty0 := tyX0) rfl inX0 tyX0_ok nmX0 (by decide) rfl wF_X0_66 ga0 rg_1 rfl rfl (okI (by have := i_rng (0 : Int32); omega) (by have := i_rng (0 : Int32); omega)) rfl rfl (AE_in ga0 (by decide)) dX0_begin_68 (fun H545 locsH545 hTH545 hSH545 wH545 => ?_)
  have m546 := m536.trans (Wr.neI wH545 (Or.inr (x_apart hKT hts inX0 tyX0 tyX0_ok nmX0 rfl 0 14 (by decide) (by decide) (by decide)))).symm
  have m547 := m537.trans (Wr.neR wH545 (Or.inr (x_apart hKT hts inX0 tyX0 tyX0_ok nmX0 rfl 1 14 (by decide) (by decide) (by decide)))).symm
  have m548 := m538.trans (Wr.neR wH545 (Or.inr (x_apart hKT hts inX0 tyX0 tyX0_ok nmX0 rfl 2 14 (by decide) (by decide) (by decide)))).symm
  have m549 := m539.trans (Wr.neR wH545 (Or.inr (x_apart hKT hts inX0 tyX0 tyX0_ok nmX0 rfl 3 14 (by decide) (by decide) (by decide)))).symm
  have m550 := m540.trans (Wr.neR wH545 (Or.inr (x_apart hKT hts inX0 tyX0 tyX0_ok nmX0 rfl 4 14 (by decide) (by decide) (by decide)))).symm
  have m551 := m541.trans (Wr.neR wH545 (Or.inr (x_apart hKT hts inX0 tyX0 tyX0_ok nmX0 rfl 5 14 (by decide) (by decide) (by decide)))).symm
  have m552 := m542.trans (Wr.neR wH545 (Or.inr (x_apart hKT hts inX0 tyX0 tyX0_ok nmX0 rfl 17 14 (by decide) (by decide) (by decide)))).symm
  have m553 := (Wr.neI wH545 (Or.inr (x_apart hKT hts inX0 tyX0 tyX0_ok nmX0 rfl 8 14 (by decide) (by decide) (by decide)))).trans m543
  have m554 := (Wr.neI wH545 (Or.inr (x_apart hKT hts inX0 tyX0 tyX0_ok nmX0 rfl 9 14 (by decide) (by decide) (by decide)))).trans m544
  have m555 := Wr.I wH545
  refine lv_aload_n hx hb dX0_begin_71 rfl (lv_at hl 0 rfl) ?_
  refine lv_iconst (v := (-1)) hx hb dX0_begin_72 (by decide) ?_
  refine x_put C hTH545 hSH545 (ci := 0) (k := 15) (v := .int (-1)) (ty0 := tyX0) rfl inX0 tyX0_ok nmX0 (by decide) rfl wF_X0_69 ga0 rg_1 rfl rfl (okI (by have := i_rng ((-1) : Int32); omega) (by have := i_rng ((-1) : Int32); omega)) rfl rfl (AE_in ga0 (by decide)) dX0_begin_73 (fun H556 locsH556 hTH556 hSH556 wH556 => ?_)
  have m557 := m546.trans (Wr.neI wH556 (Or.inr (x_apart hKT hts inX0 tyX0 tyX0_ok nmX0 rfl 0 15 (by decide) (by decide) (by decide)))).symm
  have m558 := m547.trans (Wr.neR wH556 (Or.inr (x_apart hKT hts inX0 tyX0 tyX0_ok nmX0 rfl 1 15 (by decide) (by decide) (by decide)))).symm
  have m559 := m548.trans (Wr.neR wH556 (Or.inr (x_apart hKT hts inX0 tyX0 tyX0_ok nmX0 rfl 2 15 (by decide) (by decide) (by decide)))).symm
  have m560 := m549.trans (Wr.neR wH556 (Or.inr (x_apart hKT hts inX0 tyX0 tyX0_ok nmX0 rfl 3 15 (by decide) (by decide) (by decide)))).symm
  have m561 := m550.trans (Wr.neR wH556 (Or.inr (x_apart hKT hts inX0 tyX0 tyX0_ok nmX0 rfl 4 15 (by decide) (by decide) (by decide)))).symm
  have m562 := m551.trans (Wr.neR wH556 (Or.inr (x_apart hKT hts inX0 tyX0 tyX0_ok nmX0 rfl 5 15 (by decide) (by decide) (by decide)))).symm
  have m563 := m552.trans (Wr.neR wH556 (Or.inr (x_apart hKT hts inX0 tyX0 tyX0_ok nmX0 rfl 17 15 (by decide) (by decide) (by decide)))).symm
  have m564 := (Wr.neI wH556 (Or.inr (x_apart hKT hts inX0 tyX0 tyX0_ok nmX0 rfl 8 15 (by decide) (by decide) (by decide)))).trans m553
  have m565 := (Wr.neI wH556 (Or.inr (x_apart hKT hts inX0 tyX0 tyX0_ok nmX0 rfl 9 15 (by decide) (by decide) (by decide)))).trans m554
  have m566 := (Wr.neI wH556 (Or.inr (x_apart hKT hts inX0 tyX0 tyX0_ok nmX0 rfl 14 15 (by decide) (by decide) (by decide)))).trans m555
  have m567 := Wr.I wH556
  refine lv_aload_n hx hb dX0_begin_76 rfl (lv_at hl 0 rfl) ?_
  refine lv_iconst (v := (-1)) hx hb dX0_begin_77 (by decide) ?_
  refine x_put C hTH556 hSH556 (ci := 0) (k := 16) (v := .int (-1)) (ty0 := tyX0) rfl inX0 tyX0_ok nmX0 (by decide) rfl wF_X0_72 ga0 rg_1 rfl rfl (okI (by have := i_rng ((-1) : Int32); omega) (by have := i_rng ((-1) : Int32); omega)) rfl rfl (AE_in ga0 (by decide)) dX0_begin_78 (fun H568 locsH568 hTH568 hSH568 wH568 => ?_)
  have m569 := m557.trans (Wr.neI wH568 (Or.inr (x_apart hKT hts inX0 tyX0 tyX0_ok nmX0 rfl 0 16 (by decide) (by decide) (by decide)))).symm
  have m570 := m558.trans (Wr.neR wH568 (Or.inr (x_apart hKT hts inX0 tyX0 tyX0_ok nmX0 rfl 1 16 (by decide) (by decide) (by decide)))).symm
  have m571 := m559.trans (Wr.neR wH568 (Or.inr (x_apart hKT hts inX0 tyX0 tyX0_ok nmX0 rfl 2 16 (by decide) (by decide) (by decide)))).symm
  have m572 := m560.trans (Wr.neR wH568 (Or.inr (x_apart hKT hts inX0 tyX0 tyX0_ok nmX0 rfl 3 16 (by decide) (by decide) (by decide)))).symm
  have m573 := m561.trans (Wr.neR wH568 (Or.inr (x_apart hKT hts inX0 tyX0 tyX0_ok nmX0 rfl 4 16 (by decide) (by decide) (by decide)))).symm
  have m574 := m562.trans (Wr.neR wH568 (Or.inr (x_apart hKT hts inX0 tyX0 tyX0_ok nmX0 rfl 5 16 (by decide) (by decide) (by decide)))).symm
  have m575 := m563.trans (Wr.neR wH568 (Or.inr (x_apart hKT hts inX0 tyX0 tyX0_ok nmX0 rfl 17 16 (by decide) (by decide) (by decide)))).symm
  have m576 := (Wr.neI wH568 (Or.inr (x_apart hKT hts inX0 tyX0 tyX0_ok nmX0 rfl 8 16 (by decide) (by decide) (by decide)))).trans m564
  have m577 := (Wr.neI wH568 (Or.inr (x_apart hKT hts inX0 tyX0 tyX0_ok nmX0 rfl 9 16 (by decide) (by decide) (by decide)))).trans m565
  have m578 := (Wr.neI wH568 (Or.inr (x_apart hKT hts inX0 tyX0 tyX0_ok nmX0 rfl 14 16 (by decide) (by decide) (by decide)))).trans m566
  have m579 := (Wr.neI wH568 (Or.inr (x_apart hKT hts inX0 tyX0 tyX0_ok nmX0 rfl 15 16 (by decide) (by decide) (by decide)))).trans m567
  have m580 := Wr.I wH568
  exact x_vret C hQ dX0_begin_81 hSH568 (by decide) (by decide) (⟨rfl, hTH568⟩)

set_option maxHeartbeats 4000000 in
set_option maxRecDepth 100000 in
theorem a_X0_addTap (l : Launch) (K : KE) (G : Nat → Option Nat) (H : Heap) {a0 : Nat} (x1 : Int32) (x2 : Int32) (hT : TY K G H) (ga0 : G a0 = some 1) : MX l K yX0_addTap cX0_addTap 3 none 1 40 0 0 [.ref a0, .int x1, .int x2] H (AE G [1, 9, 10, 12, 14] H.size) (fun v H1 => v = none ∧ TY K G H1) := by
  refine MX.of (by decide +kernel) (Nat.le_of_ble_eq_true rfl) ?_
  intro p e s m below meth c ls Q C hH hl hQ
  subst hH
  have C : CX p K s m _ meth c RX0 cX0_addTap 3 none "addTap" := C
  obtain ⟨hx, hb, hml, hown, hts, hKT, hr, hlocks, hnm⟩ := id C
  have hl : lv_has ls 3 [(0, .ref a0), (1, .int x1), (2, .int x2)] := hl
  have hS : va_S (AE G [1, 9, 10, 12, 14] s.heap.size) s.heap s.heap [] := va_S.rf
  have n_0 : (0 : Int32).toInt = 0 := rfl
  have n_1 : (1 : Int32).toInt = 1 := rfl
  have n_12 : (12 : Int32).toInt = 12 := rfl
  have n_16 : (16 : Int32).toInt = 16 := rfl
  have J79 : ∀ (ls326 : Array Slot) (H325 : Heap) (locsH325 : List Loc) , lv_has ls326 3 [] → TY K G H325 → va_S (AE G [1, 9, 10, 12, 14] s.heap.size) s.heap H325 locsH325 → W p l e ({ frames := 1, cells := 0, slots := 0, locals := 40 } : Room) s m (([.ref a0, .int x1, .int x2] : List Value).toArray) below meth c H325 locsH325 0 0 Q (F0 m 79 ls326 []) := by
    intro ls326 H325 locsH325  hl327 hTH325 hSH325 
    exact x_vret C hQ dX0_addTap_79 hSH325 (by decide) (by decide) (⟨rfl, hTH325⟩)
  refine lv_aload_n hx hb dX0_addTap_0 rfl (lv_at hl 0 rfl) ?_
  refine x_gi C hT (ci := 0) (k := 14) rfl inX0 (by decide) wF_X0_66 ga0 rg_1 rfl dX0_addTap_1 (fun x329 ex329 bx329 => ?_)
  refine lv_bipush (v := 12) hx hb dX0_addTap_4 (by decide) ?_
  refine lv_icmp_ge (tgt := 79) hx hb dX0_addTap_6 (by decide) (fun c330 => ?_) (fun c330 => ?_)
  · have k331 := i_le c330
    exact J79 ls s.heap [] (lv_sub hl [] rfl) hT hS 
  · have k331 := i_nle c330
    refine lv_aload_n hx hb dX0_addTap_9 rfl (lv_at hl 0 rfl) ?_
    refine x_gr C hT (ci := 0) (k := 10) rfl inX0 (by decide) wF_X0_33 ga0 rg_1 rfl dX0_addTap_10 (fun q332 eq332 gq332 => ?_)
    refine lv_aload_n hx hb dX0_addTap_13 rfl (lv_at hl 0 rfl) ?_
    refine x_gi C hT (ci := 0) (k := 14) rfl inX0 (by decide) wF_X0_66 ga0 rg_1 rfl dX0_addTap_14 (fun x333 ex333 bx333 => ?_)
    have ux333 : x329 = x333 := (ex329).trans ex333.symm
    subst ux333
    refine lv_iload_n hx hb dX0_addTap_17 rfl (lv_at hl 1 rfl) ?_
    refine x_iast C hT hS gq332 rg_9 (by omega) (by show _ < ((12 : Nat) : Int); omega) ⟨by have := i_rng x1; omega, by have := i_rng x1; omega⟩ (AE_in gq332 (by decide)) dX0_addTap_18 (fun H334 locsH334 hTH334 hSH334 wH334 => ?_)
    have m335 := ex329.trans (Wr.neI wH334 (Or.inl (G_ne ga0 gq332 (by decide)))).symm
    have m336 := eq332.trans (Wr.neR wH334 (Or.inl (G_ne ga0 gq332 (by decide)))).symm
    have m337 := Wr.I wH334
    have m337 := m337.symm
    refine lv_aload_n hx hb dX0_addTap_19 rfl (lv_at hl 0 rfl) ?_
    refine x_gr C hTH334 (ci := 0) (k := 11) rfl inX0 (by decide) wF_X0_36 ga0 rg_1 rfl dX0_addTap_20 (fun q338 eq338 gq338 => ?_)
    refine lv_aload_n hx hb dX0_addTap_23 rfl (lv_at hl 0 rfl) ?_
    refine x_gi C hTH334 (ci := 0) (k := 14) rfl inX0 (by decide) wF_X0_66 ga0 rg_1 rfl dX0_addTap_24 (fun x339 ex339 bx339 => ?_)
    have ux339 : x329 = x339 := (m335).trans ex339.symm
    subst ux339
    refine lv_iload_n hx hb dX0_addTap_27 rfl (lv_at hl 2 rfl) ?_
    refine x_iast C hTH334 hSH334 gq338 rg_10 (by omega) (by show _ < ((12 : Nat) : Int); omega) ⟨by have := i_rng x2; omega, by have := i_rng x2; omega⟩ (AE_in gq338 (by decide)) dX0_addTap_28 (fun H340 locsH340 hTH340 hSH340 wH340 => ?_)
    have m341 := m335.trans (Wr.neI wH340 (Or.inl (G_ne ga0 gq338 (by decide)))).symm
    have m342 := m336.trans (Wr.neR wH340 (Or.inl (G_ne ga0 gq338 (by decide)))).symm
    have m343 := m337.trans (Wr.neI wH340 (Or.inl (G_ne gq332 gq338 (by decide)))).symm
    have m344 := eq338.trans (Wr.neR wH340 (Or.inl (G_ne ga0 gq338 (by decide)))).symm
    have m345 := Wr.I wH340
    have m345 := m345.symm
    refine lv_aload_n hx hb dX0_addTap_29 rfl (lv_at hl 0 rfl) ?_
    refine x_gr C hTH340 (ci := 0) (k := 1) rfl inX0 (by decide) wF_X0_9 ga0 rg_1 rfl dX0_addTap_30 (fun q346 eq346 gq346 => ?_)
    refine lv_iconst (v := 0) hx hb dX0_addTap_33 (by decide) ?_
    refine lv_aload_n hx hb dX0_addTap_34 rfl (lv_at hl 0 rfl) ?_
    refine x_gr C hTH340 (ci := 0) (k := 12) rfl inX0 (by decide) wF_X0_41 ga0 rg_1 rfl dX0_addTap_35 (fun q347 eq347 gq347 => ?_)
    refine lv_aload_n hx hb dX0_addTap_38 rfl (lv_at hl 0 rfl) ?_
    refine x_gi C hTH340 (ci := 0) (k := 14) rfl inX0 (by decide) wF_X0_66 ga0 rg_1 rfl dX0_addTap_39 (fun x348 ex348 bx348 => ?_)
    have ux348 : x329 = x348 := (m341).trans ex348.symm
    subst ux348
    refine x_ar C hTH340 rfl rfl gq347 rg_11 ⟨by omega, by show _ < ((12 : Nat) : Int); omega⟩ dX0_addTap_42 (fun q349 eq349 gq349 => ?_)
    refine lv_iconst (v := 0) hx hb dX0_addTap_43 (by decide) ?_
    refine lv_bipush (v := 16) hx hb dX0_addTap_44 (by decide) ?_
    refine x_copy C hTH340 hSH340 wM_X0_75 wNT_arraycopy wST_arraycopy wIN_J10 gq346 gq349 rg_2 rg_12 (by decide) (by omega) (by omega) (by omega) (by show _ ≤ ((16 : Nat) : Int); omega) (by show _ ≤ ((16 : Nat) : Int); omega) (AE_in gq349 (by decide)) hl.1 (by decide) dX0_addTap_46 (fun H350 locsH350 hTH350 hSH350 zH350 oH350 vH350 wH350 => ?_)
    have m351 := (m341).trans (fI_kept (oH350 _ (G_ne ga0 gq349 (by decide)))).symm
    have m352 := (m342).trans (fR_kept (oH350 _ (G_ne ga0 gq349 (by decide)))).symm
    have m353 := (m343).trans (fI_kept (oH350 _ (G_ne gq332 gq349 (by decide)))).symm
    have m354 := (m344).trans (fR_kept (oH350 _ (G_ne ga0 gq349 (by decide)))).symm
    have m355 := (m345).trans (fI_kept (oH350 _ (G_ne gq338 gq349 (by decide)))).symm
    have m356 := (eq346).trans (fR_kept (oH350 _ (G_ne ga0 gq349 (by decide)))).symm
    have m357 := (eq347).trans (fR_kept (oH350 _ (G_ne ga0 gq349 (by decide)))).symm
    refine lv_aload_n hx hb dX0_addTap_49 rfl (lv_at hl 0 rfl) ?_
    refine x_gr C hTH350 (ci := 0) (k := 4) rfl inX0 (by decide) wF_X0_21 ga0 rg_1 rfl dX0_addTap_50 (fun q358 eq358 gq358 => ?_)
    refine lv_iconst (v := 0) hx hb dX0_addTap_53 (by decide) ?_
    refine lv_aload_n hx hb dX0_addTap_54 rfl (lv_at hl 0 rfl) ?_
    refine x_gr C hTH350 (ci := 0) (k := 13) rfl inX0 (by decide) wF_X0_44 ga0 rg_1 rfl dX0_addTap_55 (fun q359 eq359 gq359 => ?_)
    refine lv_aload_n hx hb dX0_addTap_58 rfl (lv_at hl 0 rfl) ?_
    refine x_gi C hTH350 (ci := 0) (k := 14) rfl inX0 (by decide) wF_X0_66 ga0 rg_1 rfl dX0_addTap_59 (fun x360 ex360 bx360 => ?_)
    have ux360 : x329 = x360 := (m351).trans ex360.symm
    subst ux360
    refine x_ar C hTH350 rfl rfl gq359 rg_13 ⟨by omega, by show _ < ((12 : Nat) : Int); omega⟩ dX0_addTap_62 (fun q361 eq361 gq361 => ?_)
    refine lv_iconst (v := 0) hx hb dX0_addTap_63 (by decide) ?_
    refine lv_bipush (v := 16) hx hb dX0_addTap_64 (by decide) ?_
    refine x_copy C hTH350 hSH350 wM_X0_75 wNT_arraycopy wST_arraycopy wIN_J10 gq358 gq361 rg_5 rg_14 (by decide) (by omega) (by omega) (by omega) (by show _ ≤ ((16 : Nat) : Int); omega) (by show _ ≤ ((16 : Nat) : Int); omega) (AE_in gq361 (by decide)) hl.1 (by decide) dX0_addTap_66 (fun H362 locsH362 hTH362 hSH362 zH362 oH362 vH362 wH362 => ?_)
    have m363 := (m351).trans (fI_kept (oH362 _ (G_ne ga0 gq361 (by decide)))).symm
    have m364 := (m352).trans (fR_kept (oH362 _ (G_ne ga0 gq361 (by decide)))).symm
    have m365 := (m353).trans (fI_kept (oH362 _ (G_ne gq332 gq361 (by decide)))).symm
    have m366 := (m354).trans (fR_kept (oH362 _ (G_ne ga0 gq361 (by decide)))).symm
    have m367 := (m355).trans (fI_kept (oH362 _ (G_ne gq338 gq361 (by decide)))).symm
    have m368 := (m356).trans (fR_kept (oH362 _ (G_ne ga0 gq361 (by decide)))).symm
    have m369 := (m357).trans (fR_kept (oH362 _ (G_ne ga0 gq361 (by decide)))).symm
    have m370 := (eq358).trans (fR_kept (oH362 _ (G_ne ga0 gq361 (by decide)))).symm
    have m371 := (eq359).trans (fR_kept (oH362 _ (G_ne ga0 gq361 (by decide)))).symm
    refine lv_aload_n hx hb dX0_addTap_69 rfl (lv_at hl 0 rfl) ?_
    refine lv_dup hx hb dX0_addTap_70 rfl ?_
    refine x_gi C hTH362 (ci := 0) (k := 14) rfl inX0 (by decide) wF_X0_66 ga0 rg_1 rfl dX0_addTap_71 (fun x372 ex372 bx372 => ?_)
    have ux372 : x329 = x372 := (m363).trans ex372.symm
    subst ux372
    refine lv_iconst (v := 1) hx hb dX0_addTap_74 (by decide) ?_
    refine lv_iadd hx hb dX0_addTap_75 ?_
    refine lv_topi (fun x373 ex373 => ?_)
    have tx373 := i_add ex373 (by omega)
    refine x_put C hTH362 hSH362 (ci := 0) (k := 14) (v := .int x373) (ty0 := tyX0) rfl inX0 tyX0_ok nmX0 (by decide) rfl wF_X0_66 ga0 rg_1 rfl rfl (okI (by have := i_rng x373; omega) (by have := i_rng x373; omega)) rfl rfl (AE_in ga0 (by decide)) dX0_addTap_76 (fun H374 locsH374 hTH374 hSH374 wH374 => ?_)
    have m376 := m364.trans (Wr.neR wH374 (Or.inr (x_apart hKT hts inX0 tyX0 tyX0_ok nmX0 rfl 10 14 (by decide) (by decide) (by decide)))).symm
    have m377 := m365.trans (Wr.neI wH374 (Or.inl (G_ne gq332 ga0 (by decide)))).symm
    have m378 := m366.trans (Wr.neR wH374 (Or.inr (x_apart hKT hts inX0 tyX0 tyX0_ok nmX0 rfl 11 14 (by decide) (by decide) (by decide)))).symm
    have m379 := m367.trans (Wr.neI wH374 (Or.inl (G_ne gq338 ga0 (by decide)))).symm
    have m380 := m368.trans (Wr.neR wH374 (Or.inr (x_apart hKT hts inX0 tyX0 tyX0_ok nmX0 rfl 1 14 (by decide) (by decide) (by decide)))).symm
    have m381 := m369.trans (Wr.neR wH374 (Or.inr (x_apart hKT hts inX0 tyX0 tyX0_ok nmX0 rfl 12 14 (by decide) (by decide) (by decide)))).symm
    have m382 := m370.trans (Wr.neR wH374 (Or.inr (x_apart hKT hts inX0 tyX0 tyX0_ok nmX0 rfl 4 14 (by decide) (by decide) (by decide)))).symm
    have m383 := m371.trans (Wr.neR wH374 (Or.inr (x_apart hKT hts inX0 tyX0 tyX0_ok nmX0 rfl 13 14 (by decide) (by decide) (by decide)))).symm
    have m384 := Wr.I wH374
    have m384 := m384.symm
    exact J79 ls H374 locsH374 (lv_sub hl [] rfl) hTH374 hSH374 

set_option maxHeartbeats 4000000 in
set_option maxRecDepth 100000 in
theorem a_X6_toneOf_t (l : Launch) (K : KE) (G : Nat → Option Nat) (H : Heap) {a0 : Nat} {a1 : Nat} (x2 : Int32) {a3 : Nat} {a4 : Nat} {a5 : Nat} {a6 : Nat} (hT : TY K G H) (ga0 : G a0 = some 82) (ga1 : G a1 = some 16) (ga3 : G a3 = some 1) (ga4 : G a4 = some 111) (ga5 : G a5 = some 3) (ga6 : G a6 = some 5) : MX l K yX6_toneOf cX6_toneOf 10 (some .int) 3 75 0 0 [.ref a0, .ref a1, .int x2, .ref a3, .ref a4, .ref a5, .ref a6] H (AE G [83, 84] H.size) (fun v H1 => ∃ (r : Int32), v = some (.int r) ∧ TY K G H1) := by
  refine MX.of (by decide +kernel) (Nat.le_of_ble_eq_true rfl) ?_
  intro p e s m below meth c ls Q C hH hl hQ
  subst hH
  have C : CX p K s m _ meth c RX6 cX6_toneOf 10 (some .int) "toneOf" := C
  obtain ⟨hx, hb, hml, hown, hts, hKT, hr, hlocks, hnm⟩ := id C
  have hl : lv_has ls 10 [(0, .ref a0), (1, .ref a1), (2, .int x2), (3, .ref a3), (4, .ref a4), (5, .ref a5), (6, .ref a6)] := hl
  have hS : va_S (AE G [83, 84] s.heap.size) s.heap s.heap [] := va_S.rf
  have n_0 : (0 : Int32).toInt = 0 := rfl
  have n_1 : (1 : Int32).toInt = 1 := rfl
  have J9 : ∀ (nf : Nat) (ls734 : Array Slot) (H733 : Heap) (locsH733 : List Loc) (x736 : Int32) (x737 : Int32) (x738 : Int32), lv_has ls734 10 [(0, .ref a0), (1, .ref a1), (2, .int x2), (3, .ref a3), (4, .ref a4), (5, .ref a5), (6, .ref a6), (7, .int x736), (8, .int x737), (9, .int x738)] → TY K G H733 → va_S (AE G [83, 84] s.heap.size) s.heap H733 locsH733 → (0 ≤ x738.toInt ∧ x738.toInt ≤ 16) → (16 - x738.toInt < (nf : Int)) → W p l e ({ frames := 3, cells := 0, slots := 0, locals := 75 } : Room) s m (([.ref a0, .ref a1, .int x2, .ref a3, .ref a4, .ref a5, .ref a6] : List Value).toArray) below meth c H733 locsH733 0 0 Q (F0 m 9 ls734 []) := by
    intro nf
    induction nf with
    | zero =>
      intro ls734 H733 locsH733 x736 x737 x738 hl735 hTH733 hSH733 bx738 hm9
      have rx736 := i_rng x736
      have rx737 := i_rng x737
      exfalso
      omega
    | succ nf ih9 =>
      intro ls734 H733 locsH733 x736 x737 x738 hl735 hTH733 hSH733 bx738 hm9
      have rx736 := i_rng x736
      have rx737 := i_rng x737
      refine lv_iload hx hb dX6_toneOf_9 (lv_at hl735 9 rfl) ?_
      refine lv_aload_n hx hb dX6_toneOf_11 rfl (lv_at hl735 3 rfl) ?_
      refine x_gi C hTH733 (ci := 0) (k := 0) rfl inX0 (by decide) wF_X6_18 ga3 rg_1 rfl dX6_toneOf_12 (fun x740 ex740 bx740 => ?_)
      refine lv_icmp_ge (tgt := 70) hx hb dX6_toneOf_15 (by decide) (fun c741 => ?_) (fun c741 => ?_)
      · have k742 := i_le c741
        refine lv_iload hx hb dX6_toneOf_70 (lv_at hl735 7 rfl) ?_
        refine lv_iload hx hb dX6_toneOf_72 (lv_at hl735 8 rfl) ?_
        refine x_SN (As := [.int x736, .int x737]) (rest := []) C (a_X9_ratio l K G H733 (x736) (x737) hTH733 ) yo_X9_ratio wN_X6_82 ⟨⟨by decide, by decide⟩, by decide, by decide⟩ rfl hl735.1 rfl (Nat.le_of_ble_eq_true rfl) dX6_toneOf_74 hSH733 (AE_sub (fun _ _ => rfl) (by decide) hSH733.1) (fun vH743 H743 locsH743 pH743 zH743 kH743 hSH743 => ?_)
        obtain ⟨⟨x744, hvH743, bx744⟩, hTH743⟩ := pH743
        subst hvH743
        have m745 := (ex740).trans (fI_kept (x_lt hTH733 kH743 ga3 (by decide))).symm
        refine W.eq (g2 := F0 m 77 ls734 [.int x744]) rfl ?_
        exact x_iret C hQ dX6_toneOf_77 hSH743 (by decide) (by decide) (⟨x744, rfl, hTH743⟩)
      · have k742 := i_nle c741
        refine lv_aload_n hx hb dX6_toneOf_18 rfl (lv_at hl735 0 rfl) ?_
        refine lv_aload_n hx hb dX6_toneOf_19 rfl (lv_at hl735 3 rfl) ?_
        refine lv_iload hx hb dX6_toneOf_20 (lv_at hl735 9 rfl) ?_
        refine lv_aload hx hb dX6_toneOf_22 (lv_at hl735 4 rfl) ?_
        refine lv_iload hx hb dX6_toneOf_24 (lv_at hl735 9 rfl) ?_
        refine x_ai C hTH733 ga4 rg_111 ⟨by omega, by show _ < ((16 : Nat) : Int); omega⟩ dX6_toneOf_26 (fun x746 ex746 bx746 => ?_)
        refine lv_aload hx hb dX6_toneOf_27 (lv_at hl735 5 rfl) ?_
        refine lv_iload hx hb dX6_toneOf_29 (lv_at hl735 9 rfl) ?_
        refine x_ai C hTH733 ga5 rg_3 ⟨by omega, by show _ < ((16 : Nat) : Int); omega⟩ dX6_toneOf_31 (fun x747 ex747 bx747 => ?_)
        refine lv_aload hx hb dX6_toneOf_32 (lv_at hl735 6 rfl) ?_
        refine lv_iload hx hb dX6_toneOf_34 (lv_at hl735 9 rfl) ?_
        refine x_ai C hTH733 ga6 rg_5 ⟨by omega, by show _ < ((16 : Nat) : Int); omega⟩ dX6_toneOf_36 (fun x748 ex748 bx748 => ?_)
        refine x_V (As := [.ref a3, .int x738, .int x746, .int x747, .int x748]) (rest := []) C (a_X6_seeSlice l K G H733 (x738) (x746) (x747) (x748) hTH733 ga0 ga3 (by omega)) yo_X6_seeSlice wM_X6_75 ⟨⟨by decide, by decide⟩, by decide, by decide⟩ (x_rv C hTH733 (ci := 6) rfl ga0 rg_82) rfl hl735.1 rfl (Nat.le_of_ble_eq_true rfl) dX6_toneOf_37 hSH733 (AE_sub (fun _ _ => rfl) (by decide) hSH733.1) (fun vH749 H749 locsH749 pH749 zH749 kH749 hSH749 => ?_)
        obtain ⟨hvH749, hTH749⟩ := pH749
        subst hvH749
        have m750 := (ex740).trans (fI_kept (x_lt hTH733 kH749 ga3 (by decide))).symm
        have m751 := (ex746).trans (fI_kept (x_lt hTH733 kH749 ga4 (by decide))).symm
        have m752 := (ex747).trans (fI_kept (x_lt hTH733 kH749 ga5 (by decide))).symm
        have m753 := (ex748).trans (fI_kept (x_lt hTH733 kH749 ga6 (by decide))).symm
        refine W.eq (g2 := F0 m 40 ls734 []) rfl ?_
        refine lv_iload hx hb dX6_toneOf_40 (lv_at hl735 7 rfl) ?_
        refine lv_aload_n hx hb dX6_toneOf_42 rfl (lv_at hl735 0 rfl) ?_
        refine lv_aload_n hx hb dX6_toneOf_43 rfl (lv_at hl735 1 rfl) ?_
        refine lv_iconst (v := 0) hx hb dX6_toneOf_44 (by decide) ?_
        refine lv_iload_n hx hb dX6_toneOf_45 rfl (lv_at hl735 2 rfl) ?_
        refine x_V (As := [.ref a1, .int 0, .int x2]) (rest := [.int x736]) C (a_X6_told l K G H749 (0) (x2) hTH749 ga0 ga1) yo_X6_told wM_X6_79 ⟨⟨by decide, by decide⟩, by decide, by decide⟩ (x_rv C hTH749 (ci := 6) rfl ga0 rg_82) rfl hl735.1 rfl (Nat.le_of_ble_eq_true rfl) dX6_toneOf_46 hSH749 (AE_sub (fun _ _ => rfl) (by decide) hSH749.1) (fun vH754 H754 locsH754 pH754 zH754 kH754 hSH754 => ?_)
        obtain ⟨⟨x755, hvH754, bx755⟩, hTH754⟩ := pH754
        subst hvH754
        have m756 := (m750).trans (fI_kept (x_lt hTH749 kH754 ga3 (by decide))).symm
        have m757 := (m751).trans (fI_kept (x_lt hTH749 kH754 ga4 (by decide))).symm
        have m758 := (m752).trans (fI_kept (x_lt hTH749 kH754 ga5 (by decide))).symm
        have m759 := (m753).trans (fI_kept (x_lt hTH749 kH754 ga6 (by decide))).symm
        refine W.eq (g2 := F0 m 49 ls734 [.int x755, .int x736]) rfl ?_
        refine lv_iadd hx hb dX6_toneOf_49 ?_
        refine lv_topi (fun x760 ex760 => ?_)
        refine lv_istore (lv' := [(7, .int x760), (0, .ref a0), (1, .ref a1), (2, .int x2), (3, .ref a3), (4, .ref a4), (5, .ref a5), (6, .ref a6), (8, .int x737), (9, .int x738)]) hx hb dX6_toneOf_50 hl735 (by decide) rfl (fun ls761 hl762 => ?_)
        refine lv_iload hx hb dX6_toneOf_52 (lv_at hl762 8 rfl) ?_
        refine lv_aload_n hx hb dX6_toneOf_54 rfl (lv_at hl762 1 rfl) ?_
        refine lv_aload_n hx hb dX6_toneOf_55 rfl (lv_at hl762 2 rfl) ?_
        refine lv_iconst (v := 1) hx hb dX6_toneOf_56 (by decide) ?_
        refine lv_iload_n hx hb dX6_toneOf_57 rfl (lv_at hl762 3 rfl) ?_
        refine x_V (As := [.ref a1, .int 1, .int x2]) (rest := [.int x737]) C (a_X6_told l K G H754 (1) (x2) hTH754 ga0 ga1) yo_X6_told wM_X6_79 ⟨⟨by decide, by decide⟩, by decide, by decide⟩ (x_rv C hTH754 (ci := 6) rfl ga0 rg_82) rfl hl762.1 rfl (Nat.le_of_ble_eq_true rfl) dX6_toneOf_58 hSH754 (AE_sub (fun _ _ => rfl) (by decide) hSH754.1) (fun vH763 H763 locsH763 pH763 zH763 kH763 hSH763 => ?_)
        obtain ⟨⟨x764, hvH763, bx764⟩, hTH763⟩ := pH763
        subst hvH763
        have m765 := (m756).trans (fI_kept (x_lt hTH754 kH763 ga3 (by decide))).symm
        have m766 := (m757).trans (fI_kept (x_lt hTH754 kH763 ga4 (by decide))).symm
        have m767 := (m758).trans (fI_kept (x_lt hTH754 kH763 ga5 (by decide))).symm
        have m768 := (m759).trans (fI_kept (x_lt hTH754 kH763 ga6 (by decide))).symm
        refine W.eq (g2 := F0 m 61 ls761 [.int x764, .int x737]) rfl ?_
        refine lv_iadd hx hb dX6_toneOf_61 ?_
        refine lv_topi (fun x769 ex769 => ?_)
        refine lv_istore (lv' := [(8, .int x769), (7, .int x760), (0, .ref a0), (1, .ref a1), (2, .int x2), (3, .ref a3), (4, .ref a4), (5, .ref a5), (6, .ref a6), (9, .int x738)]) hx hb dX6_toneOf_62 hl762 (by decide) rfl (fun ls770 hl771 => ?_)
        obtain ⟨x772, ex772⟩ : ∃ y : Int32, y = x738 + 1 := ⟨_, rfl⟩
        have tx772 := i_add ex772 (by omega)
        refine lv_iinc (v := x772) (lv' := [(9, .int x772), (8, .int x769), (7, .int x760), (0, .ref a0), (1, .ref a1), (2, .int x2), (3, .ref a3), (4, .ref a4), (5, .ref a5), (6, .ref a6)]) hx hb dX6_toneOf_64 hl771 (k := 9) rfl (by rw [ex772]; rfl) (by decide) rfl (fun ls773 hl774 => ?_)
        refine lv_goto (tgt := 9) hx hb dX6_toneOf_67 (by decide) ?_
        exact ih9 ls773 H763 locsH763 (x760) (x769) (x772) (lv_sub hl774 [3, 4, 5, 6, 7, 8, 9, 2, 1, 0] rfl) hTH763 hSH763 (by have := i_rng x772; omega) (by omega)
  refine lv_iconst (v := 0) hx hb dX6_toneOf_0 (by decide) ?_
  refine lv_istore (lv' := [(7, .int 0), (0, .ref a0), (1, .ref a1), (2, .int x2), (3, .ref a3), (4, .ref a4), (5, .ref a5), (6, .ref a6)]) hx hb dX6_toneOf_1 hl (by decide) rfl (fun ls775 hl776 => ?_)
  refine lv_iconst (v := 0) hx hb dX6_toneOf_3 (by decide) ?_
  refine lv_istore (lv' := [(8, .int 0), (7, .int 0), (0, .ref a0), (1, .ref a1), (2, .int x2), (3, .ref a3), (4, .ref a4), (5, .ref a5), (6, .ref a6)]) hx hb dX6_toneOf_4 hl776 (by decide) rfl (fun ls777 hl778 => ?_)
  refine lv_iconst (v := 0) hx hb dX6_toneOf_6 (by decide) ?_
  refine lv_istore (lv' := [(9, .int 0), (8, .int 0), (7, .int 0), (0, .ref a0), (1, .ref a1), (2, .int x2), (3, .ref a3), (4, .ref a4), (5, .ref a5), (6, .ref a6)]) hx hb dX6_toneOf_7 hl778 (by decide) rfl (fun ls779 hl780 => ?_)
  exact J9 ((16 - (0 : Int32).toInt).toNat + 1) ls779 s.heap [] (0) (0) (0) (lv_sub hl780 [3, 4, 5, 6, 7, 8, 9, 2, 1, 0] rfl) hT hS (by decide) (by omega)

set_option maxHeartbeats 4000000 in
set_option maxRecDepth 100000 in
theorem a_X6_toneOf_p (l : Launch) (K : KE) (G : Nat → Option Nat) (H : Heap) {a0 : Nat} {a1 : Nat} (x2 : Int32) {a3 : Nat} {a4 : Nat} {a5 : Nat} {a6 : Nat} (hT : TY K G H) (ga0 : G a0 = some 82) (ga1 : G a1 = some 16) (ga3 : G a3 = some 1) (ga4 : G a4 = some 12) (ga5 : G a5 = some 3) (ga6 : G a6 = some 14) : MX l K yX6_toneOf cX6_toneOf 10 (some .int) 3 75 0 0 [.ref a0, .ref a1, .int x2, .ref a3, .ref a4, .ref a5, .ref a6] H (AE G [83, 84] H.size) (fun v H1 => ∃ (r : Int32), v = some (.int r) ∧ TY K G H1) := by
  refine MX.of (by decide +kernel) (Nat.le_of_ble_eq_true rfl) ?_
  intro p e s m below meth c ls Q C hH hl hQ
  subst hH
  have C : CX p K s m _ meth c RX6 cX6_toneOf 10 (some .int) "toneOf" := C
  obtain ⟨hx, hb, hml, hown, hts, hKT, hr, hlocks, hnm⟩ := id C
  have hl : lv_has ls 10 [(0, .ref a0), (1, .ref a1), (2, .int x2), (3, .ref a3), (4, .ref a4), (5, .ref a5), (6, .ref a6)] := hl
  have hS : va_S (AE G [83, 84] s.heap.size) s.heap s.heap [] := va_S.rf
  have n_0 : (0 : Int32).toInt = 0 := rfl
  have n_1 : (1 : Int32).toInt = 1 := rfl
  have J9 : ∀ (nf : Nat) (ls734 : Array Slot) (H733 : Heap) (locsH733 : List Loc) (x736 : Int32) (x737 : Int32) (x738 : Int32), lv_has ls734 10 [(0, .ref a0), (1, .ref a1), (2, .int x2), (3, .ref a3), (4, .ref a4), (5, .ref a5), (6, .ref a6), (7, .int x736), (8, .int x737), (9, .int x738)] → TY K G H733 → va_S (AE G [83, 84] s.heap.size) s.heap H733 locsH733 → (0 ≤ x738.toInt ∧ x738.toInt ≤ 16) → (16 - x738.toInt < (nf : Int)) → W p l e ({ frames := 3, cells := 0, slots := 0, locals := 75 } : Room) s m (([.ref a0, .ref a1, .int x2, .ref a3, .ref a4, .ref a5, .ref a6] : List Value).toArray) below meth c H733 locsH733 0 0 Q (F0 m 9 ls734 []) := by
    intro nf
    induction nf with
    | zero =>
      intro ls734 H733 locsH733 x736 x737 x738 hl735 hTH733 hSH733 bx738 hm9
      have rx736 := i_rng x736
      have rx737 := i_rng x737
      exfalso
      omega
    | succ nf ih9 =>
      intro ls734 H733 locsH733 x736 x737 x738 hl735 hTH733 hSH733 bx738 hm9
      have rx736 := i_rng x736
      have rx737 := i_rng x737
      refine lv_iload hx hb dX6_toneOf_9 (lv_at hl735 9 rfl) ?_
      refine lv_aload_n hx hb dX6_toneOf_11 rfl (lv_at hl735 3 rfl) ?_
      refine x_gi C hTH733 (ci := 0) (k := 0) rfl inX0 (by decide) wF_X6_18 ga3 rg_1 rfl dX6_toneOf_12 (fun x740 ex740 bx740 => ?_)
      refine lv_icmp_ge (tgt := 70) hx hb dX6_toneOf_15 (by decide) (fun c741 => ?_) (fun c741 => ?_)
      · have k742 := i_le c741
        refine lv_iload hx hb dX6_toneOf_70 (lv_at hl735 7 rfl) ?_
        refine lv_iload hx hb dX6_toneOf_72 (lv_at hl735 8 rfl) ?_
        refine x_SN (As := [.int x736, .int x737]) (rest := []) C (a_X9_ratio l K G H733 (x736) (x737) hTH733 ) yo_X9_ratio wN_X6_82 ⟨⟨by decide, by decide⟩, by decide, by decide⟩ rfl hl735.1 rfl (Nat.le_of_ble_eq_true rfl) dX6_toneOf_74 hSH733 (AE_sub (fun _ _ => rfl) (by decide) hSH733.1) (fun vH743 H743 locsH743 pH743 zH743 kH743 hSH743 => ?_)
        obtain ⟨⟨x744, hvH743, bx744⟩, hTH743⟩ := pH743
        subst hvH743
        have m745 := (ex740).trans (fI_kept (x_lt hTH733 kH743 ga3 (by decide))).symm
        refine W.eq (g2 := F0 m 77 ls734 [.int x744]) rfl ?_
        exact x_iret C hQ dX6_toneOf_77 hSH743 (by decide) (by decide) (⟨x744, rfl, hTH743⟩)
      · have k742 := i_nle c741
        refine lv_aload_n hx hb dX6_toneOf_18 rfl (lv_at hl735 0 rfl) ?_
        refine lv_aload_n hx hb dX6_toneOf_19 rfl (lv_at hl735 3 rfl) ?_
        refine lv_iload hx hb dX6_toneOf_20 (lv_at hl735 9 rfl) ?_
        refine lv_aload hx hb dX6_toneOf_22 (lv_at hl735 4 rfl) ?_
        refine lv_iload hx hb dX6_toneOf_24 (lv_at hl735 9 rfl) ?_
        refine x_ai C hTH733 ga4 rg_12 ⟨by omega, by show _ < ((16 : Nat) : Int); omega⟩ dX6_toneOf_26 (fun x746 ex746 bx746 => ?_)
        refine lv_aload hx hb dX6_toneOf_27 (lv_at hl735 5 rfl) ?_
        refine lv_iload hx hb dX6_toneOf_29 (lv_at hl735 9 rfl) ?_
        refine x_ai C hTH733 ga5 rg_3 ⟨by omega, by show _ < ((16 : Nat) : Int); omega⟩ dX6_toneOf_31 (fun x747 ex747 bx747 => ?_)
        refine lv_aload hx hb dX6_toneOf_32 (lv_at hl735 6 rfl) ?_
        refine lv_iload hx hb dX6_toneOf_34 (lv_at hl735 9 rfl) ?_
        refine x_ai C hTH733 ga6 rg_14 ⟨by omega, by show _ < ((16 : Nat) : Int); omega⟩ dX6_toneOf_36 (fun x748 ex748 bx748 => ?_)
        refine x_V (As := [.ref a3, .int x738, .int x746, .int x747, .int x748]) (rest := []) C (a_X6_seeSlice l K G H733 (x738) (x746) (x747) (x748) hTH733 ga0 ga3 (by omega)) yo_X6_seeSlice wM_X6_75 ⟨⟨by decide, by decide⟩, by decide, by decide⟩ (x_rv C hTH733 (ci := 6) rfl ga0 rg_82) rfl hl735.1 rfl (Nat.le_of_ble_eq_true rfl) dX6_toneOf_37 hSH733 (AE_sub (fun _ _ => rfl) (by decide) hSH733.1) (fun vH749 H749 locsH749 pH749 zH749 kH749 hSH749 => ?_)
        obtain ⟨hvH749, hTH749⟩ := pH749
        subst hvH749
        have m750 := (ex740).trans (fI_kept (x_lt hTH733 kH749 ga3 (by decide))).symm
        have m751 := (ex746).trans (fI_kept (x_lt hTH733 kH749 ga4 (by decide))).symm
        have m752 := (ex747).trans (fI_kept (x_lt hTH733 kH749 ga5 (by decide))).symm
        have m753 := (ex748).trans (fI_kept (x_lt hTH733 kH749 ga6 (by decide))).symm
        refine W.eq (g2 := F0 m 40 ls734 []) rfl ?_
        refine lv_iload hx hb dX6_toneOf_40 (lv_at hl735 7 rfl) ?_
        refine lv_aload_n hx hb dX6_toneOf_42 rfl (lv_at hl735 0 rfl) ?_
        refine lv_aload_n hx hb dX6_toneOf_43 rfl (lv_at hl735 1 rfl) ?_
        refine lv_iconst (v := 0) hx hb dX6_toneOf_44 (by decide) ?_
        refine lv_iload_n hx hb dX6_toneOf_45 rfl (lv_at hl735 2 rfl) ?_
        refine x_V (As := [.ref a1, .int 0, .int x2]) (rest := [.int x736]) C (a_X6_told l K G H749 (0) (x2) hTH749 ga0 ga1) yo_X6_told wM_X6_79 ⟨⟨by decide, by decide⟩, by decide, by decide⟩ (x_rv C hTH749 (ci := 6) rfl ga0 rg_82) rfl hl735.1 rfl (Nat.le_of_ble_eq_true rfl) dX6_toneOf_46 hSH749 (AE_sub (fun _ _ => rfl) (by decide) hSH749.1) (fun vH754 H754 locsH754 pH754 zH754 kH754 hSH754 => ?_)
        obtain ⟨⟨x755, hvH754, bx755⟩, hTH754⟩ := pH754
        subst hvH754
        have m756 := (m750).trans (fI_kept (x_lt hTH749 kH754 ga3 (by decide))).symm
        have m757 := (m751).trans (fI_kept (x_lt hTH749 kH754 ga4 (by decide))).symm
        have m758 := (m752).trans (fI_kept (x_lt hTH749 kH754 ga5 (by decide))).symm
        have m759 := (m753).trans (fI_kept (x_lt hTH749 kH754 ga6 (by decide))).symm
        refine W.eq (g2 := F0 m 49 ls734 [.int x755, .int x736]) rfl ?_
        refine lv_iadd hx hb dX6_toneOf_49 ?_
        refine lv_topi (fun x760 ex760 => ?_)
        refine lv_istore (lv' := [(7, .int x760), (0, .ref a0), (1, .ref a1), (2, .int x2), (3, .ref a3), (4, .ref a4), (5, .ref a5), (6, .ref a6), (8, .int x737), (9, .int x738)]) hx hb dX6_toneOf_50 hl735 (by decide) rfl (fun ls761 hl762 => ?_)
        refine lv_iload hx hb dX6_toneOf_52 (lv_at hl762 8 rfl) ?_
        refine lv_aload_n hx hb dX6_toneOf_54 rfl (lv_at hl762 1 rfl) ?_
        refine lv_aload_n hx hb dX6_toneOf_55 rfl (lv_at hl762 2 rfl) ?_
        refine lv_iconst (v := 1) hx hb dX6_toneOf_56 (by decide) ?_
        refine lv_iload_n hx hb dX6_toneOf_57 rfl (lv_at hl762 3 rfl) ?_
        refine x_V (As := [.ref a1, .int 1, .int x2]) (rest := [.int x737]) C (a_X6_told l K G H754 (1) (x2) hTH754 ga0 ga1) yo_X6_told wM_X6_79 ⟨⟨by decide, by decide⟩, by decide, by decide⟩ (x_rv C hTH754 (ci := 6) rfl ga0 rg_82) rfl hl762.1 rfl (Nat.le_of_ble_eq_true rfl) dX6_toneOf_58 hSH754 (AE_sub (fun _ _ => rfl) (by decide) hSH754.1) (fun vH763 H763 locsH763 pH763 zH763 kH763 hSH763 => ?_)
        obtain ⟨⟨x764, hvH763, bx764⟩, hTH763⟩ := pH763
        subst hvH763
        have m765 := (m756).trans (fI_kept (x_lt hTH754 kH763 ga3 (by decide))).symm
        have m766 := (m757).trans (fI_kept (x_lt hTH754 kH763 ga4 (by decide))).symm
        have m767 := (m758).trans (fI_kept (x_lt hTH754 kH763 ga5 (by decide))).symm
        have m768 := (m759).trans (fI_kept (x_lt hTH754 kH763 ga6 (by decide))).symm
        refine W.eq (g2 := F0 m 61 ls761 [.int x764, .int x737]) rfl ?_
        refine lv_iadd hx hb dX6_toneOf_61 ?_
        refine lv_topi (fun x769 ex769 => ?_)
        refine lv_istore (lv' := [(8, .int x769), (7, .int x760), (0, .ref a0), (1, .ref a1), (2, .int x2), (3, .ref a3), (4, .ref a4), (5, .ref a5), (6, .ref a6), (9, .int x738)]) hx hb dX6_toneOf_62 hl762 (by decide) rfl (fun ls770 hl771 => ?_)
        obtain ⟨x772, ex772⟩ : ∃ y : Int32, y = x738 + 1 := ⟨_, rfl⟩
        have tx772 := i_add ex772 (by omega)
        refine lv_iinc (v := x772) (lv' := [(9, .int x772), (8, .int x769), (7, .int x760), (0, .ref a0), (1, .ref a1), (2, .int x2), (3, .ref a3), (4, .ref a4), (5, .ref a5), (6, .ref a6)]) hx hb dX6_toneOf_64 hl771 (k := 9) rfl (by rw [ex772]; rfl) (by decide) rfl (fun ls773 hl774 => ?_)
        refine lv_goto (tgt := 9) hx hb dX6_toneOf_67 (by decide) ?_
        exact ih9 ls773 H763 locsH763 (x760) (x769) (x772) (lv_sub hl774 [3, 4, 5, 6, 7, 8, 9, 2, 1, 0] rfl) hTH763 hSH763 (by have := i_rng x772; omega) (by omega)
  refine lv_iconst (v := 0) hx hb dX6_toneOf_0 (by decide) ?_
  refine lv_istore (lv' := [(7, .int 0), (0, .ref a0), (1, .ref a1), (2, .int x2), (3, .ref a3), (4, .ref a4), (5, .ref a5), (6, .ref a6)]) hx hb dX6_toneOf_1 hl (by decide) rfl (fun ls775 hl776 => ?_)
  refine lv_iconst (v := 0) hx hb dX6_toneOf_3 (by decide) ?_
  refine lv_istore (lv' := [(8, .int 0), (7, .int 0), (0, .ref a0), (1, .ref a1), (2, .int x2), (3, .ref a3), (4, .ref a4), (5, .ref a5), (6, .ref a6)]) hx hb dX6_toneOf_4 hl776 (by decide) rfl (fun ls777 hl778 => ?_)
  refine lv_iconst (v := 0) hx hb dX6_toneOf_6 (by decide) ?_
  refine lv_istore (lv' := [(9, .int 0), (8, .int 0), (7, .int 0), (0, .ref a0), (1, .ref a1), (2, .int x2), (3, .ref a3), (4, .ref a4), (5, .ref a5), (6, .ref a6)]) hx hb dX6_toneOf_7 hl778 (by decide) rfl (fun ls779 hl780 => ?_)
  exact J9 ((16 - (0 : Int32).toInt).toNat + 1) ls779 s.heap [] (0) (0) (0) (lv_sub hl780 [3, 4, 5, 6, 7, 8, 9, 2, 1, 0] rfl) hT hS (by decide) (by omega)

set_option maxHeartbeats 4000000 in
set_option maxRecDepth 100000 in
theorem a_X9_offOf (l : Launch) (K : KE) (G : Nat → Option Nat) (H : Heap) {a0 : Nat} {a1 : Nat} (hT : TY K G H) (ga0 : G a0 = some 68) (ga1 : G a1 = some 16) : MX l K yX9_offOf cX9_offOf 8 (some .int) 4 104 0 0 [.ref a0, .ref a1] H (AE G [83, 84] H.size) (fun v H1 => ∃ (r : Int32), v = some (.int r) ∧ TY K G H1) := by
  refine MX.of (by decide +kernel) (Nat.le_of_ble_eq_true rfl) ?_
  intro p e s m below meth c ls Q C hH hl hQ
  subst hH
  have C : CX p K s m _ meth c RX9 cX9_offOf 8 (some .int) "offOf" := C
  obtain ⟨hx, hb, hml, hown, hts, hKT, hr, hlocks, hnm⟩ := id C
  have hl : lv_has ls 8 [(0, .ref a0), (1, .ref a1)] := hl
  have hS : va_S (AE G [83, 84] s.heap.size) s.heap s.heap [] := va_S.rf
  have n_0 : (0 : Int32).toInt = 0 := rfl
  have n_1 : (1 : Int32).toInt = 1 := rfl
  have l_0 : (0 : Int64).toInt = 0 := rfl
  have l_999999999 : (999999999 : Int64).toInt = 999999999 := rfl
  have J5 : ∀ (nf : Nat) (ls1138 : Array Slot) (H1137 : Heap) (locsH1137 : List Loc) (y1140 : Int64) (x1141 : Int32), lv_has ls1138 8 [(0, .ref a0), (1, .ref a1), (2, .long y1140), (4, .int x1141)] → TY K G H1137 → va_S (AE G [83, 84] s.heap.size) s.heap H1137 locsH1137 → (0 ≤ x1141.toInt ∧ x1141.toInt ≤ 10) → (10 - x1141.toInt < (nf : Int)) → W p l e ({ frames := 4, cells := 0, slots := 0, locals := 104 } : Room) s m (([.ref a0, .ref a1] : List Value).toArray) below meth c H1137 locsH1137 0 0 Q (F0 m 5 ls1138 []) := by
    intro nf
    induction nf with
    | zero =>
      intro ls1138 H1137 locsH1137 y1140 x1141 hl1139 hTH1137 hSH1137 bx1141 hm5
      exfalso
      omega
    | succ nf ih5 =>
      intro ls1138 H1137 locsH1137 y1140 x1141 hl1139 hTH1137 hSH1137 bx1141 hm5
      have J32 : ∀ (nf : Nat) (ls1144 : Array Slot) (H1143 : Heap) (locsH1143 : List Loc) (y1146 : Int64) (q1148 : Nat) (x1149 : Int32), lv_has ls1144 8 [(0, .ref a0), (1, .ref a1), (2, .long y1146), (4, .int x1141), (5, .ref q1148), (6, .int x1149)] → TY K G H1143 → va_S (AE G [83, 84] s.heap.size) s.heap H1143 locsH1143 → (0 ≤ x1141.toInt ∧ x1141.toInt ≤ 9) → (G q1148 = some 1) → (0 ≤ x1149.toInt ∧ x1149.toInt ≤ 12) → (12 - x1149.toInt < (nf : Int)) → W p l e ({ frames := 4, cells := 0, slots := 0, locals := 104 } : Room) s m (([.ref a0, .ref a1] : List Value).toArray) below meth c H1143 locsH1143 0 0 Q (F0 m 32 ls1144 []) := by
        intro nf
        induction nf with
        | zero =>
          intro ls1144 H1143 locsH1143 y1146 q1148 x1149 hl1145 hTH1143 hSH1143 b1147 gq1148 bx1149 hm32
          exfalso
          omega
        | succ nf ih32 =>
          intro ls1144 H1143 locsH1143 y1146 q1148 x1149 hl1145 hTH1143 hSH1143 b1147 gq1148 bx1149 hm32
          refine lv_iload hx hb dX9_offOf_32 (lv_at hl1145 5 rfl) ?_
          refine lv_aload hx hb dX9_offOf_34 (lv_at hl1145 4 rfl) ?_
          refine x_gi C hTH1143 (ci := 0) (k := 14) rfl inX0 (by decide) wF_X9_200 gq1148 rg_1 rfl dX9_offOf_36 (fun x1151 ex1151 bx1151 => ?_)
          refine lv_icmp_ge (tgt := 107) hx hb dX9_offOf_39 (by decide) (fun c1152 => ?_) (fun c1152 => ?_)
          · have k1153 := i_le c1152
            obtain ⟨x1154, ex1154⟩ : ∃ y : Int32, y = x1141 + 1 := ⟨_, rfl⟩
            have tx1154 := i_add ex1154 (by omega)
            refine lv_iinc (v := x1154) (lv' := [(4, .int x1154), (0, .ref a0), (1, .ref a1), (2, .long y1146), (5, .ref q1148), (6, .int x1149)]) hx hb dX9_offOf_107 hl1145 (k := 3) rfl (by rw [ex1154]; rfl) (by decide) rfl (fun ls1155 hl1156 => ?_)
            refine lv_goto (tgt := 5) hx hb dX9_offOf_110 (by decide) ?_
            exact ih5 ls1155 H1143 locsH1143 (y1146) (x1154) (lv_sub hl1156 [1, 2, 3, 0] rfl) hTH1143 hSH1143 (by have := i_rng x1154; omega) (by omega)
          · have k1153 := i_nle c1152
            refine lv_aload_n hx hb dX9_offOf_42 rfl (lv_at hl1145 0 rfl) ?_
            refine x_gr C hTH1143 (ci := 9) (k := 5) rfl inX9 (by decide) wF_X9_30 ga0 rg_68 rfl dX9_offOf_43 (fun q1157 eq1157 gq1157 => ?_)
            refine lv_aload_n hx hb dX9_offOf_46 rfl (lv_at hl1145 1 rfl) ?_
            refine lv_aload hx hb dX9_offOf_47 (lv_at hl1145 4 rfl) ?_
            refine x_gr C hTH1143 (ci := 0) (k := 10) rfl inX0 (by decide) wF_X9_398 gq1148 rg_1 rfl dX9_offOf_49 (fun q1158 eq1158 gq1158 => ?_)
            refine lv_iload hx hb dX9_offOf_52 (lv_at hl1145 5 rfl) ?_
            refine x_ai C hTH1143 gq1158 rg_9 ⟨by omega, by show _ < ((12 : Nat) : Int); omega⟩ dX9_offOf_54 (fun x1159 ex1159 bx1159 => ?_)
            refine lv_aload hx hb dX9_offOf_55 (lv_at hl1145 4 rfl) ?_
            refine lv_aload hx hb dX9_offOf_57 (lv_at hl1145 4 rfl) ?_
            refine x_gr C hTH1143 (ci := 0) (k := 12) rfl inX0 (by decide) wF_X9_401 gq1148 rg_1 rfl dX9_offOf_59 (fun q1160 eq1160 gq1160 => ?_)
            refine lv_iload hx hb dX9_offOf_62 (lv_at hl1145 5 rfl) ?_
            refine x_ar C hTH1143 rfl rfl gq1160 rg_11 ⟨by omega, by show _ < ((12 : Nat) : Int); omega⟩ dX9_offOf_64 (fun q1161 eq1161 gq1161 => ?_)
            refine lv_aload hx hb dX9_offOf_65 (lv_at hl1145 4 rfl) ?_
            refine x_gr C hTH1143 (ci := 0) (k := 2) rfl inX0 (by decide) wF_X9_96 gq1148 rg_1 rfl dX9_offOf_67 (fun q1162 eq1162 gq1162 => ?_)
            refine lv_aload hx hb dX9_offOf_70 (lv_at hl1145 4 rfl) ?_
            refine x_gr C hTH1143 (ci := 0) (k := 13) rfl inX0 (by decide) wF_X9_405 gq1148 rg_1 rfl dX9_offOf_72 (fun q1163 eq1163 gq1163 => ?_)
            refine lv_iload hx hb dX9_offOf_75 (lv_at hl1145 5 rfl) ?_
            refine x_ar C hTH1143 rfl rfl gq1163 rg_13 ⟨by omega, by show _ < ((12 : Nat) : Int); omega⟩ dX9_offOf_77 (fun q1164 eq1164 gq1164 => ?_)
            refine x_V (As := [.ref a1, .int x1159, .ref q1148, .ref q1161, .ref q1162, .ref q1164]) (rest := []) C (a_X6_toneOf_p l K G H1143 (x1159) hTH1143 gq1157 ga1 gq1148 gq1161 gq1162 gq1164) yo_X6_toneOf wM_X9_216 ⟨⟨by decide, by decide⟩, by decide, by decide⟩ (x_rv C hTH1143 (ci := 6) rfl gq1157 rg_82) rfl hl1145.1 rfl (Nat.le_of_ble_eq_true rfl) dX9_offOf_78 hSH1143 (AE_sub (fun _ _ => rfl) (by decide) hSH1143.1) (fun vH1165 H1165 locsH1165 pH1165 zH1165 kH1165 hSH1165 => ?_)
            obtain ⟨x1166, hvH1165, hTH1165⟩ := pH1165
            subst hvH1165
            have m1167 := (ex1151).trans (fI_kept (x_lt hTH1143 kH1165 gq1148 (by decide))).symm
            have m1168 := (eq1157).trans (fR_kept (x_lt hTH1143 kH1165 ga0 (by decide))).symm
            have m1169 := (eq1158).trans (fR_kept (x_lt hTH1143 kH1165 gq1148 (by decide))).symm
            have m1170 := (ex1159).trans (fI_kept (x_lt hTH1143 kH1165 gq1158 (by decide))).symm
            have m1171 := (eq1160).trans (fR_kept (x_lt hTH1143 kH1165 gq1148 (by decide))).symm
            have m1172 := (eq1162).trans (fR_kept (x_lt hTH1143 kH1165 gq1148 (by decide))).symm
            have m1173 := (eq1163).trans (fR_kept (x_lt hTH1143 kH1165 gq1148 (by decide))).symm
            refine W.eq (g2 := F0 m 81 ls1144 [.int x1166]) rfl ?_
            refine lv_istore (lv' := [(7, .int x1166), (0, .ref a0), (1, .ref a1), (2, .long y1146), (4, .int x1141), (5, .ref q1148), (6, .int x1149)]) hx hb dX9_offOf_81 hl1145 (by decide) rfl (fun ls1174 hl1175 => ?_)
            refine lv_lload_n hx hb dX9_offOf_83 rfl (lv_at hl1175 3 rfl) ?_
            refine lv_iload hx hb dX9_offOf_84 (lv_at hl1175 0 rfl) ?_
            refine lv_aload hx hb dX9_offOf_86 (lv_at hl1175 5 rfl) ?_
            refine x_gr C hTH1165 (ci := 0) (k := 11) rfl inX0 (by decide) wF_X9_408 gq1148 rg_1 rfl dX9_offOf_88 (fun q1176 eq1176 gq1176 => ?_)
            refine lv_iload hx hb dX9_offOf_91 (lv_at hl1175 6 rfl) ?_
            refine x_ai C hTH1165 gq1176 rg_10 ⟨by omega, by show _ < ((12 : Nat) : Int); omega⟩ dX9_offOf_93 (fun x1177 ex1177 bx1177 => ?_)
            refine lv_isub hx hb dX9_offOf_94 ?_
            refine lv_topi (fun x1178 ex1178 => ?_)
            refine va_mabs hx hb (hml.trans hl1175.1.symm) hown (hts _ wM_X9_362) (hts _ wST_J9_abs_0f7a4) (hts _ wIN_J9) (hts _ wCD_J9_abs_0f7a4) (by decide) (Nat.le_of_ble_eq_true rfl) (by decide) (by decide) dX9_offOf_95 ?_
            refine lv_topi (fun x1179 ex1179 => ?_)
            obtain ⟨y1180, ey1180⟩ : ∃ z : Int64, x1179.toInt64 = z := ⟨_, rfl⟩
            have ty1180 := j_i2l ey1180
            have ry1180 := i_rng x1179
            refine lv_i2l (v := y1180) hx hb dX9_offOf_98 ey1180 ?_
            refine lv_ladd hx hb dX9_offOf_99 ?_
            refine lv_topl (fun y1181 ey1181 => ?_)
            refine lv_lstore_n (lv' := [(2, .long y1181), (7, .int x1166), (0, .ref a0), (1, .ref a1), (4, .int x1141), (5, .ref q1148), (6, .int x1149)]) hx hb dX9_offOf_100 rfl hl1175 (by decide) rfl (fun ls1182 hl1183 => ?_)
            obtain ⟨x1184, ex1184⟩ : ∃ y : Int32, y = x1149 + 1 := ⟨_, rfl⟩
            have tx1184 := i_add ex1184 (by omega)
            refine lv_iinc (v := x1184) (lv' := [(6, .int x1184), (2, .long y1181), (7, .int x1166), (0, .ref a0), (1, .ref a1), (4, .int x1141), (5, .ref q1148)]) hx hb dX9_offOf_101 hl1183 (k := 6) rfl (by rw [ex1184]; rfl) (by decide) rfl (fun ls1185 hl1186 => ?_)
            refine lv_goto (tgt := 32) hx hb dX9_offOf_104 (by decide) ?_
            exact ih32 ls1185 H1165 locsH1165 (y1181) (q1148) (x1184) (lv_sub hl1186 [3, 4, 1, 5, 6, 0] rfl) hTH1165 hSH1165 (by have := i_rng x1141; omega) gq1148 (by have := i_rng x1184; omega) (by omega)
      refine lv_iload hx hb dX9_offOf_5 (lv_at hl1139 3 rfl) ?_
      refine lv_aload_n hx hb dX9_offOf_7 rfl (lv_at hl1139 0 rfl) ?_
      refine x_gr C hTH1137 (ci := 9) (k := 0) rfl inX9 (by decide) wF_X9_12 ga0 rg_68 rfl dX9_offOf_8 (fun q1187 eq1187 gq1187 => ?_)
      refine x_gi C hTH1137 (ci := 8) (k := 1) rfl inX8 (by decide) wF_X9_64 gq1187 rg_0 rfl dX9_offOf_11 (fun x1188 ex1188 bx1188 => ?_)
      refine lv_icmp_ge (tgt := 113) hx hb dX9_offOf_14 (by decide) (fun c1189 => ?_) (fun c1189 => ?_)
      · have k1190 := i_le c1189
        refine lv_lload_n hx hb dX9_offOf_113 rfl (lv_at hl1139 2 rfl) ?_
        refine lv_ldc2 (v := 999999999) hx hb hown (hts _ wK_X9_411) dX9_offOf_114 ?_
        refine va_mmin_long hx hb (hml.trans hl1139.1.symm) hown (hts _ wM_X9_413) (hts _ wST_J9_min_f86c9) (hts _ wIN_J9) (hts _ wCD_J9_min_f86c9) (by decide) (Nat.le_of_ble_eq_true rfl) (by decide) (by decide) dX9_offOf_117 ?_
        refine lv_topl (fun y1191 ey1191 => ?_)
        have ty1191 := j_min ey1191
        obtain ⟨x1192, ex1192⟩ : ∃ z : Int32, (y1191 : Int64).toInt32 = z := ⟨_, rfl⟩
        refine lv_l2i (v := x1192) hx hb dX9_offOf_120 ex1192 ?_
        exact x_iret C hQ dX9_offOf_121 hSH1137 (by decide) (by decide) (⟨x1192, rfl, hTH1137⟩)
      · have k1190 := i_nle c1189
        refine lv_aload_n hx hb dX9_offOf_17 rfl (lv_at hl1139 0 rfl) ?_
        refine x_gr C hTH1137 (ci := 9) (k := 0) rfl inX9 (by decide) wF_X9_12 ga0 rg_68 rfl dX9_offOf_18 (fun q1193 eq1193 gq1193 => ?_)
        have uq1193 : q1187 = q1193 := (eq1187).trans eq1193.symm
        subst uq1193
        refine x_gr C hTH1137 (ci := 8) (k := 0) rfl inX8 (by decide) wF_X9_68 gq1187 rg_0 rfl dX9_offOf_21 (fun q1194 eq1194 gq1194 => ?_)
        refine lv_iload hx hb dX9_offOf_24 (lv_at hl1139 3 rfl) ?_
        refine x_ar C hTH1137 rfl rfl gq1194 rg_25 ⟨by omega, by show _ < ((10 : Nat) : Int); omega⟩ dX9_offOf_26 (fun q1195 eq1195 gq1195 => ?_)
        refine lv_astore (lv' := [(5, .ref q1195), (0, .ref a0), (1, .ref a1), (2, .long y1140), (4, .int x1141)]) hx hb dX9_offOf_27 hl1139 (by decide) rfl (fun ls1196 hl1197 => ?_)
        refine lv_iconst (v := 0) hx hb dX9_offOf_29 (by decide) ?_
        refine lv_istore (lv' := [(6, .int 0), (5, .ref q1195), (0, .ref a0), (1, .ref a1), (2, .long y1140), (4, .int x1141)]) hx hb dX9_offOf_30 hl1197 (by decide) rfl (fun ls1198 hl1199 => ?_)
        exact J32 ((12 - (0 : Int32).toInt).toNat + 1) ls1198 H1137 locsH1137 (y1140) (q1195) (0) (lv_sub hl1199 [2, 3, 4, 5, 1, 0] rfl) hTH1137 hSH1137 (by have := i_rng x1141; omega) gq1195 (by decide) (by omega)
  refine lv_lconst (v := 0) hx hb dX9_offOf_0 (by decide) ?_
  refine lv_lstore_n (lv' := [(2, .long 0), (0, .ref a0), (1, .ref a1)]) hx hb dX9_offOf_1 rfl hl (by decide) rfl (fun ls1200 hl1201 => ?_)
  refine lv_iconst (v := 0) hx hb dX9_offOf_2 (by decide) ?_
  refine lv_istore (lv' := [(4, .int 0), (2, .long 0), (0, .ref a0), (1, .ref a1)]) hx hb dX9_offOf_3 hl1201 (by decide) rfl (fun ls1202 hl1203 => ?_)
  exact J5 ((10 - (0 : Int32).toInt).toNat + 1) ls1202 s.heap [] (0) (0) (lv_sub hl1203 [2, 3, 1, 0] rfl) hT hS (by decide) (by omega)

set_option maxHeartbeats 4000000 in
set_option maxRecDepth 100000 in
theorem a_X0_has_s (l : Launch) (K : KE) (G : Nat → Option Nat) (H : Heap) {a0 : Nat} (x1 : Int32) (sz : Int32) (hT : TY K G H) (ga0 : G a0 = some 1) (esz : sz = fI H a0 (K.1.2 0 0)) : MX l K yX0_has cX0_has 2 (some .boolean) 0 0 0 0 [.ref a0, .int x1] H (AE G [] H.size) (fun v H1 => ∃ (r : Int32), v = some (.int r) ∧ (0 ≤ r.toInt ∧ r.toInt ≤ 1) ∧ (r.toInt = 0 ∨ (0 ≤ x1.toInt ∧ x1.toInt < sz.toInt)) ∧ TY K G H1) := by
  refine MX.of (by decide +kernel) (Nat.le_of_ble_eq_true rfl) ?_
  intro p e s m below meth c ls Q C hH hl hQ
  subst hH
  have C : CX p K s m _ meth c RX0 cX0_has 2 (some .boolean) "has" := C
  obtain ⟨hx, hb, hml, hown, hts, hKT, hr, hlocks, hnm⟩ := id C
  have hl : lv_has ls 2 [(0, .ref a0), (1, .int x1)] := hl
  have hS : va_S (AE G [] s.heap.size) s.heap s.heap [] := va_S.rf
  have n_0 : (0 : Int32).toInt = 0 := rfl
  have n_1 : (1 : Int32).toInt = 1 := rfl
  have bsz := ty_fi (x := sz) (k := 0) esz hT ga0 rg_1 rfl
  refine lv_iload_n hx hb dX0_has_0 rfl (lv_at hl 1 rfl) ?_
  refine lv_if_lt (tgt := 16) hx hb dX0_has_1 (by decide) (fun c121 => ?_) (fun c121 => ?_)
  · have k122 := i_lt c121
    refine lv_iconst (v := 0) hx hb dX0_has_16 (by decide) ?_
    exact x_zret C hQ (Or.inl rfl) dX0_has_17 hS (by decide) (by decide) (⟨0, rfl, by decide, by omega, hT⟩)
  · have k122 := i_nlt c121
    refine lv_iload_n hx hb dX0_has_4 rfl (lv_at hl 1 rfl) ?_
    refine lv_aload_n hx hb dX0_has_5 rfl (lv_at hl 0 rfl) ?_
    refine x_gi C hT (ci := 0) (k := 0) rfl inX0 (by decide) wF_X0_50 ga0 rg_1 rfl dX0_has_6 (fun x123 ex123 bx123 => ?_)
    have ux123 : sz = x123 := (esz).trans ex123.symm
    subst ux123
    refine lv_icmp_ge (tgt := 16) hx hb dX0_has_9 (by decide) (fun c124 => ?_) (fun c124 => ?_)
    · have k125 := i_le c124
      refine lv_iconst (v := 0) hx hb dX0_has_16 (by decide) ?_
      exact x_zret C hQ (Or.inl rfl) dX0_has_17 hS (by decide) (by decide) (⟨0, rfl, by decide, by omega, hT⟩)
    · have k125 := i_nle c124
      refine lv_iconst (v := 1) hx hb dX0_has_12 (by decide) ?_
      refine lv_goto (tgt := 17) hx hb dX0_has_13 (by decide) ?_
      exact x_zret C hQ (Or.inr rfl) dX0_has_17 hS (by decide) (by decide) (⟨1, rfl, by decide, by omega, hT⟩)
