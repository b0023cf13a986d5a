set_option maxHeartbeats 4000000 in
set_option maxRecDepth 100000 in
theorem a_X4_part_e8 (l : Launch) (K : KE) (G : Nat → Option Nat) (H : Heap) {a0 : Nat} (x1 : Int32) {mq : Nat} {kq : Nat} {vq : Nat} (F : Int32) (tat : Int32) (fa : Int32) (lw : Int32) (li : Int32) (kk : Nat → Int) (vv : Nat → Int) (hT : TY K G H) (ga0 : G a0 = some 78) (hx1 : 8 ≤ x1.toInt ∧ x1.toInt ≤ 8) (gmq : G mq = some 69) (emq : mq = fR H a0 (K.1.2 4 0)) (gkq : G kq = some 79) (ekq : kq = fR H a0 (K.1.2 4 3)) (gvq : G vq = some 80) (evq : vq = fR H a0 (K.1.2 4 4)) (etat : tat = fI H a0 (K.1.2 4 7)) (efa : fa = fI H a0 (K.1.2 4 1)) (elw : lw = fI H a0 (K.1.2 4 8)) (eli : li = fI H mq (K.1.2 7 0)) (hel0 : fI H kq (F : Int32).toNatClampNeg = 26) (hp0 : tat.toInt ≤ F.toInt) (hp1 : F.toInt ≤ 500) (hv_kk : ∀ j : Nat, j ≤ F.toNatClampNeg → kk j = (fI H kq j).toInt) (hv_vv : ∀ j : Nat, j ≤ F.toNatClampNeg → vv j = (fI H vq j).toInt) : MX l K yX4_part cX4_part 4 (some .boolean) 3 68 0 0 [.ref a0, .int x1] H (AE G [78, 69, 77] H.size) (fun v H1 => ∃ (r : Int32) (t0 : Int32) (t1 : Int32), v = some (.int r) ∧ (0 ≤ r.toInt ∧ r.toInt ≤ 1) ∧ t0 = fI H1 a0 (K.1.2 4 7) ∧ t1 = fI H1 a0 (K.1.2 4 1) ∧ (t0.toInt ≤ F.toInt ∧ ((r.toInt = 1 ∧ t1.toInt = fa.toInt ∧ tat.toInt < t0.toInt) ∨ (r.toInt = 0 ∧ t1.toInt ≠ 0))) ∧ mq = fR H1 a0 (K.1.2 4 0) ∧ kq = fR H1 a0 (K.1.2 4 3) ∧ vq = fR H1 a0 (K.1.2 4 4) ∧ lw = fI H1 a0 (K.1.2 4 8) ∧ li = fI H1 mq (K.1.2 7 0) ∧ (RQ (paS kk vv lw.toInt (8 - x1.toNatClampNeg) tat.toNatClampNeg) r t0) ∧ TY K G H1) := by
  refine MX.of (by decide +kernel) (Nat.le_of_ble_eq_true rfl) ?_
  intro p e s m below meth c ls Q C hH hl hQ
  subst hH
  have C : CX p K s m _ meth c RX4 cX4_part 4 (some .boolean) "part" := C
  obtain ⟨hx, hb, hml, hown, hts, hKT, hr, hlocks, hnm⟩ := id C
  have hl : lv_has ls 4 [(0, .ref a0), (1, .int x1)] := hl
  have hS : va_S (AE G [78, 69, 77] s.heap.size) s.heap s.heap [] := va_S.rf
  have n_0 : (0 : Int32).toInt = 0 := rfl
  have n_1 : (1 : Int32).toInt = 1 := rfl
  have n_3 : (3 : Int32).toInt = 3 := rfl
  have n_8 : (8 : Int32).toInt = 8 := rfl
  have n_10 : (10 : Int32).toInt = 10 := rfl
  have n_26 : (26 : Int32).toInt = 26 := rfl
  have n_40 : (40 : Int32).toInt = 40 := rfl
  have n_60 : (60 : Int32).toInt = 60 := rfl
  have n_61 : (61 : Int32).toInt = 61 := rfl
  have n_62 : (62 : Int32).toInt = 62 := rfl
  have btat := ty_fi (x := tat) (k := 7) etat hT ga0 rg_78 rfl
  have bfa := ty_fi (x := fa) (k := 1) efa hT ga0 rg_78 rfl
  have blw := ty_fi (x := lw) (k := 8) elw hT ga0 rg_78 rfl
  have bli := ty_fi (x := li) (k := 0) eli hT gmq rg_69 rfl
  have hsp0 : paS kk vv lw.toInt (8 - x1.toNatClampNeg) tat.toNatClampNeg = paS kk vv lw.toInt (8 - x1.toNatClampNeg) tat.toNatClampNeg := rfl
  have f0_kk := hv_kk
  have f0_vv := hv_vv
  refine lv_aload_n hx hb dX4_part_0 rfl (lv_at hl 0 rfl) ?_
  refine x_gr C hT (ci := 4) (k := 3) rfl inX4 (by decide) wF_X4_18 ga0 rg_78 rfl dX4_part_1 (fun q997 eq997 gq997 => ?_)
  have uq997 : kq = q997 := (ekq).trans eq997.symm
  subst uq997
  refine lv_aload_n hx hb dX4_part_4 rfl (lv_at hl 0 rfl) ?_
  refine x_gi C hT (ci := 4) (k := 7) rfl inX4 (by decide) wF_X4_42 ga0 rg_78 rfl dX4_part_5 (fun x998 ex998 bx998 => ?_)
  have ux998 : tat = x998 := (etat).trans ex998.symm
  subst ux998
  refine x_ai C hT gkq rg_79 ⟨by omega, by show _ < ((501 : Nat) : Int); omega⟩ dX4_part_8 (fun x999 ex999 bx999 => ?_)
  have dx999 := el_hit ex999 hel0
  have qvx999 : kk tat.toNatClampNeg = x999.toInt := (f0_kk _ (by have h1 := i_cl (x := tat) (by omega); have h2 := i_cl (x := F) (by omega); omega)).trans (congrArg Int32.toInt ex999.symm)
  refine lv_istore_n (lv' := [(2, .int x999), (0, .ref a0), (1, .int x1)]) hx hb dX4_part_9 rfl hl (by decide) rfl (fun ls1000 hl1001 => ?_)
  refine lv_iload_n hx hb dX4_part_10 rfl (lv_at hl1001 0 rfl) ?_
  refine lv_bipush (v := 10) hx hb dX4_part_11 (by decide) ?_
  refine lv_icmp_eq (tgt := 22) hx hb dX4_part_13 (by decide) (fun c1002 => ?_) (fun c1002 => ?_)
  · have k1003 := i_eq c1002
    refine lv_iload_n hx hb dX4_part_22 rfl (lv_at hl1001 2 rfl) ?_
    refine lv_bipush (v := 8) hx hb dX4_part_23 (by decide) ?_
    refine lv_icmp_ge (tgt := 39) hx hb dX4_part_25 (by decide) (fun c1004 => ?_) (fun c1004 => ?_)
    · have k1005 := i_le c1004
      refine lv_aload_n hx hb dX4_part_39 rfl (lv_at hl1001 1 rfl) ?_
      refine lv_iconst (v := 3) hx hb dX4_part_40 (by decide) ?_
      refine x_V (As := [.int 3]) (rest := []) C (a_X4_refuse_e l K G s.heap (3) (tat) (fa) (lw) hT ga0 gmq emq gkq ekq gvq evq etat efa elw) yo_X4_refuse wM_X4_81 ⟨⟨by decide, by decide⟩, by decide, by decide⟩ (x_rv C hT (ci := 4) rfl ga0 rg_78) rfl hl1001.1 rfl (Nat.le_of_ble_eq_true rfl) dX4_part_41 hS (AE_sub (fun _ _ => rfl) (by decide) hS.1) (fun vH1006 H1006 locsH1006 pH1006 zH1006 kH1006 hSH1006 => ?_)
      obtain ⟨x1007, x1008, x1009, hvH1006, bx1007, ex1008, ex1009, hrH1006, m1010, m1011, m1012, m1013, hTH1006⟩ := pH1006
      subst hvH1006
      have f1014 : ∀ j : Nat, j ≤ F.toNatClampNeg → kk j = (fI H1006 kq j).toInt := fun j hj => (f0_kk j hj).trans (congrArg Int32.toInt (fI_kept (x_lt hT kH1006 gkq (by decide))).symm)
      have f1015 : ∀ j : Nat, j ≤ F.toNatClampNeg → vv j = (fI H1006 vq j).toInt := fun j hj => (f0_vv j hj).trans (congrArg Int32.toInt (fI_kept (x_lt hT kH1006 gvq (by decide))).symm)
      have m1016 := (eli).trans (fI_kept (x_lt hT kH1006 gmq (by decide))).symm
      have m1017 := (fI_kept (x_lt hT kH1006 gkq (by decide))).trans hel0
      have m1018 := (ex999).trans (fI_kept (x_lt hT kH1006 gkq (by decide))).symm
      have bx1008 := ty_fi (x := x1008) (k := 7) ex1008 hTH1006 ga0 rg_78 rfl
      have bx1009 := ty_fi (x := x1009) (k := 1) ex1009 hTH1006 ga0 rg_78 rfl
      refine W.eq (g2 := F0 m 44 ls1000 [.int x1007]) rfl ?_
      have cn_F := i_cl (x := F) (by omega)
      have cn_tat := i_cl (x := tat) (by omega)
      have cn_x1 := i_cl (x := x1) (by omega)
      exact x_zret C hQ (i_01 (by omega)) dX4_part_44 hSH1006 (by decide) (by decide) (⟨x1007, x1008, x1009, rfl, by omega, ex1008, ex1009, by omega, m1010, m1011, m1012, m1013, m1016, Or.inl ⟨pa_deep (by omega) (by rw [qvx999]; omega), by omega⟩, hTH1006⟩)
    · have k1005 := i_nle c1004
      exfalso
      omega
  · have k1003 := i_ne c1002
    refine lv_iload_n hx hb dX4_part_16 rfl (lv_at hl1001 0 rfl) ?_
    refine lv_bipush (v := 40) hx hb dX4_part_17 (by decide) ?_
    refine lv_icmp_ne (tgt := 45) hx hb dX4_part_19 (by decide) (fun c1019 => ?_) (fun c1019 => ?_)
    · have k1020 := i_ne c1019
      refine lv_aload_n hx hb dX4_part_45 rfl (lv_at hl1001 1 rfl) ?_
      refine x_V (As := []) (rest := []) C (a_X4_sum_e l K G s.heap (F) (tat) (fa) (lw) (li) kk vv hT ga0 gmq emq gkq ekq gvq evq etat efa elw eli hel0 (by omega) (by omega) f0_kk f0_vv) yo_X4_sum wM_X4_103 ⟨⟨by decide, by decide⟩, by decide, by decide⟩ (x_rv C hT (ci := 4) rfl ga0 rg_78) rfl hl1001.1 rfl (Nat.le_of_ble_eq_true rfl) dX4_part_46 hS (AE_sub (fun _ _ => rfl) (by decide) hS.1) (fun vH1021 H1021 locsH1021 pH1021 zH1021 kH1021 hSH1021 => ?_)
      obtain ⟨x1022, x1023, x1024, hvH1021, bx1022, ex1023, ex1024, hrH1021, m1025, m1026, m1027, m1028, m1029, m1030, hTH1021⟩ := pH1021
      subst hvH1021
      have f1031 : ∀ j : Nat, j ≤ F.toNatClampNeg → kk j = (fI H1021 kq j).toInt := fun j hj => (f0_kk j hj).trans (congrArg Int32.toInt (fI_kept (x_lt hT kH1021 gkq (by decide))).symm)
      have f1032 : ∀ j : Nat, j ≤ F.toNatClampNeg → vv j = (fI H1021 vq j).toInt := fun j hj => (f0_vv j hj).trans (congrArg Int32.toInt (fI_kept (x_lt hT kH1021 gvq (by decide))).symm)
      have m1033 := (fI_kept (x_lt hT kH1021 gkq (by decide))).trans hel0
      have m1034 := (ex999).trans (fI_kept (x_lt hT kH1021 gkq (by decide))).symm
      have bx1023 := ty_fi (x := x1023) (k := 7) ex1023 hTH1021 ga0 rg_78 rfl
      have bx1024 := ty_fi (x := x1024) (k := 1) ex1024 hTH1021 ga0 rg_78 rfl
      refine W.eq (g2 := F0 m 49 ls1000 [.int x1022]) rfl ?_
      refine lv_if_ne (tgt := 54) hx hb dX4_part_49 (by decide) (fun c1035 => ?_) (fun c1035 => ?_)
      · have k1036 := i_ne c1035
        refine lv_aload_n hx hb dX4_part_54 rfl (lv_at hl1001 1 rfl) ?_
        refine x_gr C hTH1021 (ci := 4) (k := 3) rfl inX4 (by decide) wF_X4_18 ga0 rg_78 rfl dX4_part_55 (fun q1037 eq1037 gq1037 => ?_)
        have uq1037 : kq = q1037 := (m1026).trans eq1037.symm
        subst uq1037
        refine lv_aload_n hx hb dX4_part_58 rfl (lv_at hl1001 1 rfl) ?_
        refine x_gi C hTH1021 (ci := 4) (k := 7) rfl inX4 (by decide) wF_X4_42 ga0 rg_78 rfl dX4_part_59 (fun x1038 ex1038 bx1038 => ?_)
        have ux1038 : x1023 = x1038 := (ex1023).trans ex1038.symm
        subst ux1038
        refine x_ai C hTH1021 gkq rg_79 ⟨by omega, by show _ < ((501 : Nat) : Int); omega⟩ dX4_part_62 (fun x1039 ex1039 bx1039 => ?_)
        have dx1039 := el_hit ex1039 m1033
        have qvx1039 : kk x1023.toNatClampNeg = x1039.toInt := (f1031 _ (by have h1 := i_cl (x := x1023) (by omega); have h2 := i_cl (x := F) (by omega); omega)).trans (congrArg Int32.toInt ex1039.symm)
        refine lv_istore_n (lv' := [(3, .int x1039), (2, .int x999), (0, .ref a0), (1, .int x1)]) hx hb dX4_part_63 rfl hl1001 (by decide) rfl (fun ls1040 hl1041 => ?_)
        refine lv_iload_n hx hb dX4_part_64 rfl (lv_at hl1041 0 rfl) ?_
        refine lv_bipush (v := 60) hx hb dX4_part_65 (by decide) ?_
        refine lv_icmp_eq (tgt := 88) hx hb dX4_part_67 (by decide) (fun c1042 => ?_) (fun c1042 => ?_)
        · have k1043 := i_eq c1042
          refine lv_aload_n hx hb dX4_part_88 rfl (lv_at hl1041 2 rfl) ?_
          refine lv_dup hx hb dX4_part_89 rfl ?_
          refine x_gi C hTH1021 (ci := 4) (k := 7) rfl inX4 (by decide) wF_X4_42 ga0 rg_78 rfl dX4_part_90 (fun x1044 ex1044 bx1044 => ?_)
          have ux1044 : x1023 = x1044 := (ex1023).trans ex1044.symm
          subst ux1044
          refine lv_iconst (v := 1) hx hb dX4_part_93 (by decide) ?_
          refine lv_iadd hx hb dX4_part_94 ?_
          refine lv_topi (fun x1045 ex1045 => ?_)
          have tx1045 := i_add ex1045 (by omega)
          have fz1047 : 0 ≤ x1045.toInt ∧ x1045.toInt ≤ 500 := by have := i_rng x1045; omega
          refine x_put C hTH1021 hSH1021 (ci := 4) (k := 7) (v := .int x1045) (ty0 := tyX4) rfl inX4 tyX4_ok nmX4 (by decide) rfl wF_X4_42 ga0 rg_78 rfl rfl (okI (by have := i_rng x1045; omega) (by have := i_rng x1045; omega)) rfl rfl (AE_in ga0 (by decide)) dX4_part_95 (fun H1046 locsH1046 hTH1046 hSH1046 wH1046 => ?_)
          have f1048 : ∀ j : Nat, j ≤ F.toNatClampNeg → kk j = (fI H1046 kq j).toInt := fun j hj => (f1031 j hj).trans (congrArg Int32.toInt (Wr.neI wH1046 (Or.inl (G_ne gkq ga0 (by decide)))).symm)
          have f1049 : ∀ j : Nat, j ≤ F.toNatClampNeg → vv j = (fI H1046 vq j).toInt := fun j hj => (f1032 j hj).trans (congrArg Int32.toInt (Wr.neI wH1046 (Or.inl (G_ne gvq ga0 (by decide)))).symm)
          have m1050 := (Wr.neI wH1046 (Or.inl (G_ne gkq ga0 (by decide)))).trans m1033
          have m1051 := m1034.trans (Wr.neI wH1046 (Or.inl (G_ne gkq ga0 (by decide)))).symm
          have m1052 := m1025.trans (Wr.neR wH1046 (Or.inr (x_apart hKT hts inX4 tyX4 tyX4_ok nmX4 rfl 0 7 (by decide) (by decide) (by decide)))).symm
          have m1053 := m1026.trans (Wr.neR wH1046 (Or.inr (x_apart hKT hts inX4 tyX4 tyX4_ok nmX4 rfl 3 7 (by decide) (by decide) (by decide)))).symm
          have m1054 := m1027.trans (Wr.neR wH1046 (Or.inr (x_apart hKT hts inX4 tyX4 tyX4_ok nmX4 rfl 4 7 (by decide) (by decide) (by decide)))).symm
          have m1055 := m1028.trans (Wr.neI wH1046 (Or.inr (x_apart hKT hts inX4 tyX4 tyX4_ok nmX4 rfl 8 7 (by decide) (by decide) (by decide)))).symm
          have m1056 := m1029.trans (Wr.neI wH1046 (Or.inl (G_ne gmq ga0 (by decide)))).symm
          have m1058 := ex1024.trans (Wr.neI wH1046 (Or.inr (x_apart hKT hts inX4 tyX4 tyX4_ok nmX4 rfl 1 7 (by decide) (by decide) (by decide)))).symm
          have m1059 := ex1039.trans (Wr.neI wH1046 (Or.inl (G_ne gkq ga0 (by decide)))).symm
          have m1060 := Wr.I wH1046
          have m1060 := m1060.symm
          refine lv_aload_n hx hb dX4_part_98 rfl (lv_at hl1041 2 rfl) ?_
          refine x_V (As := []) (rest := []) C (a_X4_sum_e l K G H1046 (F) (x1045) (x1024) (lw) (li) kk vv hTH1046 ga0 gmq m1052 gkq m1053 gvq m1054 m1060 m1058 m1055 m1056 m1050 (by omega) (by omega) f1048 f1049) yo_X4_sum wM_X4_103 ⟨⟨by decide, by decide⟩, by decide, by decide⟩ (x_rv C hTH1046 (ci := 4) rfl ga0 rg_78) rfl hl1041.1 rfl (Nat.le_of_ble_eq_true rfl) dX4_part_99 hSH1046 (AE_sub (fun _ _ => rfl) (by decide) hSH1046.1) (fun vH1061 H1061 locsH1061 pH1061 zH1061 kH1061 hSH1061 => ?_)
          obtain ⟨x1062, x1063, x1064, hvH1061, bx1062, ex1063, ex1064, hrH1061, m1065, m1066, m1067, m1068, m1069, m1070, hTH1061⟩ := pH1061
          subst hvH1061
          have f1071 : ∀ j : Nat, j ≤ F.toNatClampNeg → kk j = (fI H1061 kq j).toInt := fun j hj => (f1048 j hj).trans (congrArg Int32.toInt (fI_kept (x_lt hTH1046 kH1061 gkq (by decide))).symm)
          have f1072 : ∀ j : Nat, j ≤ F.toNatClampNeg → vv j = (fI H1061 vq j).toInt := fun j hj => (f1049 j hj).trans (congrArg Int32.toInt (fI_kept (x_lt hTH1046 kH1061 gvq (by decide))).symm)
          have m1073 := (fI_kept (x_lt hTH1046 kH1061 gkq (by decide))).trans m1050
          have m1074 := (m1051).trans (fI_kept (x_lt hTH1046 kH1061 gkq (by decide))).symm
          have m1075 := (m1059).trans (fI_kept (x_lt hTH1046 kH1061 gkq (by decide))).symm
          have bx1063 := ty_fi (x := x1063) (k := 7) ex1063 hTH1061 ga0 rg_78 rfl
          have bx1064 := ty_fi (x := x1064) (k := 1) ex1064 hTH1061 ga0 rg_78 rfl
          refine W.eq (g2 := F0 m 102 ls1040 [.int x1062]) rfl ?_
          refine lv_if_ne (tgt := 107) hx hb dX4_part_102 (by decide) (fun c1076 => ?_) (fun c1076 => ?_)
          · have k1077 := i_ne c1076
            refine lv_aload_n hx hb dX4_part_107 rfl (lv_at hl1041 2 rfl) ?_
            refine x_gr C hTH1061 (ci := 4) (k := 0) rfl inX4 (by decide) wF_X4_12 ga0 rg_78 rfl dX4_part_108 (fun q1078 eq1078 gq1078 => ?_)
            have uq1078 : mq = q1078 := (m1065).trans eq1078.symm
            subst uq1078
            refine lv_iload_n hx hb dX4_part_111 rfl (lv_at hl1041 0 rfl) ?_
            refine lv_iconst (v := 0) hx hb dX4_part_112 (by decide) ?_
            refine x_V (As := [.int x1039, .int 0]) (rest := []) C (a_X7_addStep_e l K G H1061 (x1039) (0) (li) hTH1061 gmq m1069) yo_X7_addStep wM_X4_131 ⟨⟨by decide, by decide⟩, by decide, by decide⟩ (x_rv C hTH1061 (ci := 7) rfl gmq rg_69) rfl hl1041.1 rfl (Nat.le_of_ble_eq_true rfl) dX4_part_113 hSH1061 (AE_sub (fun _ _ => rfl) (by decide) hSH1061.1) (fun vH1079 H1079 locsH1079 pH1079 zH1079 kH1079 hSH1079 => ?_)
            obtain ⟨hvH1079, m1080, hTH1079⟩ := pH1079
            subst hvH1079
            have f1081 : ∀ j : Nat, j ≤ F.toNatClampNeg → kk j = (fI H1079 kq j).toInt := fun j hj => (f1071 j hj).trans (congrArg Int32.toInt (fI_kept (x_lt hTH1061 kH1079 gkq (by decide))).symm)
            have f1082 : ∀ j : Nat, j ≤ F.toNatClampNeg → vv j = (fI H1079 vq j).toInt := fun j hj => (f1072 j hj).trans (congrArg Int32.toInt (fI_kept (x_lt hTH1061 kH1079 gvq (by decide))).symm)
            have m1083 := (fI_kept (x_lt hTH1061 kH1079 gkq (by decide))).trans m1073
            have m1084 := (m1074).trans (fI_kept (x_lt hTH1061 kH1079 gkq (by decide))).symm
            have m1085 := (m1075).trans (fI_kept (x_lt hTH1061 kH1079 gkq (by decide))).symm
            have m1086 := (m1065).trans (fR_kept (x_lt hTH1061 kH1079 ga0 (by decide))).symm
            have m1087 := (m1066).trans (fR_kept (x_lt hTH1061 kH1079 ga0 (by decide))).symm
            have m1088 := (m1067).trans (fR_kept (x_lt hTH1061 kH1079 ga0 (by decide))).symm
            have m1089 := (m1068).trans (fI_kept (x_lt hTH1061 kH1079 ga0 (by decide))).symm
            have m1090 := (ex1063).trans (fI_kept (x_lt hTH1061 kH1079 ga0 (by decide))).symm
            have m1091 := (ex1064).trans (fI_kept (x_lt hTH1061 kH1079 ga0 (by decide))).symm
            refine W.eq (g2 := F0 m 116 ls1040 []) rfl ?_
            refine lv_iconst (v := 1) hx hb dX4_part_116 (by decide) ?_
            have cn_F := i_cl (x := F) (by omega)
            have cn_tat := i_cl (x := tat) (by omega)
            have cn_x1 := i_cl (x := x1) (by omega)
            have cn_x1045 := i_cl (x := x1045) (by omega)
            have cn_x1023 := i_cl (x := x1023) (by omega)
            exact x_zret C hQ (Or.inr rfl) dX4_part_117 hSH1079 (by decide) (by decide) (⟨1, x1063, x1064, rfl, by decide, m1090, m1091, by omega, m1086, m1087, m1088, m1089, m1080, Or.inr ⟨(pa_cp (by rw [qvx999]; omega)).trans ((cp_go (RQ.yes m1030 (by omega)) (by rw [qvx1039]; omega) (show x1045.toNatClampNeg = _ + 1 by omega)).trans (RQ.yes m1070 (by omega))), by omega⟩, hTH1079⟩)
          · have k1077 := i_eq c1076
            refine lv_iconst (v := 0) hx hb dX4_part_105 (by decide) ?_
            have cn_F := i_cl (x := F) (by omega)
            have cn_tat := i_cl (x := tat) (by omega)
            have cn_x1 := i_cl (x := x1) (by omega)
            have cn_x1045 := i_cl (x := x1045) (by omega)
            have cn_x1023 := i_cl (x := x1023) (by omega)
            exact x_zret C hQ (Or.inl rfl) dX4_part_106 hSH1061 (by decide) (by decide) (⟨0, x1063, x1064, rfl, by decide, ex1063, ex1064, by omega, m1065, m1066, m1067, m1068, m1069, Or.inl ⟨(pa_cp (by rw [qvx999]; omega)).trans ((cp_go (RQ.yes m1030 (by omega)) (by rw [qvx1039]; omega) (show x1045.toNatClampNeg = _ + 1 by omega)).trans (RQ.no m1070 (by omega))), by omega⟩, hTH1061⟩)
        · have k1043 := i_ne c1042
          refine lv_iload_n hx hb dX4_part_70 rfl (lv_at hl1041 0 rfl) ?_
          refine lv_bipush (v := 61) hx hb dX4_part_71 (by decide) ?_
          refine lv_icmp_eq (tgt := 88) hx hb dX4_part_73 (by decide) (fun c1092 => ?_) (fun c1092 => ?_)
          · have k1093 := i_eq c1092
            refine lv_aload_n hx hb dX4_part_88 rfl (lv_at hl1041 2 rfl) ?_
            refine lv_dup hx hb dX4_part_89 rfl ?_
            refine x_gi C hTH1021 (ci := 4) (k := 7) rfl inX4 (by decide) wF_X4_42 ga0 rg_78 rfl dX4_part_90 (fun x1094 ex1094 bx1094 => ?_)
            have ux1094 : x1023 = x1094 := (ex1023).trans ex1094.symm
            subst ux1094
            refine lv_iconst (v := 1) hx hb dX4_part_93 (by decide) ?_
            refine lv_iadd hx hb dX4_part_94 ?_
            refine lv_topi (fun x1095 ex1095 => ?_)
            have tx1095 := i_add ex1095 (by omega)
            have fz1097 : 0 ≤ x1095.toInt ∧ x1095.toInt ≤ 500 := by have := i_rng x1095; omega
            refine x_put C hTH1021 hSH1021 (ci := 4) (k := 7) (v := .int x1095) (ty0 := tyX4) rfl inX4 tyX4_ok nmX4 (by decide) rfl wF_X4_42 ga0 rg_78 rfl rfl (okI (by have := i_rng x1095; omega) (by have := i_rng x1095; omega)) rfl rfl (AE_in ga0 (by decide)) dX4_part_95 (fun H1096 locsH1096 hTH1096 hSH1096 wH1096 => ?_)
            have f1098 : ∀ j : Nat, j ≤ F.toNatClampNeg → kk j = (fI H1096 kq j).toInt := fun j hj => (f1031 j hj).trans (congrArg Int32.toInt (Wr.neI wH1096 (Or.inl (G_ne gkq ga0 (by decide)))).symm)
            have f1099 : ∀ j : Nat, j ≤ F.toNatClampNeg → vv j = (fI H1096 vq j).toInt := fun j hj => (f1032 j hj).trans (congrArg Int32.toInt (Wr.neI wH1096 (Or.inl (G_ne gvq ga0 (by decide)))).symm)
            have m1100 := (Wr.neI wH1096 (Or.inl (G_ne gkq ga0 (by decide)))).trans m1033
            have m1101 := m1034.trans (Wr.neI wH1096 (Or.inl (G_ne gkq ga0 (by decide)))).symm
            have m1102 := m1025.trans (Wr.neR wH1096 (Or.inr (x_apart hKT hts inX4 tyX4 tyX4_ok nmX4 rfl 0 7 (by decide) (by decide) (by decide)))).symm
            have m1103 := m1026.trans (Wr.neR wH1096 (Or.inr (x_apart hKT hts inX4 tyX4 tyX4_ok nmX4 rfl 3 7 (by decide) (by decide) (by decide)))).symm
            have m1104 := m1027.trans (Wr.neR wH1096 (Or.inr (x_apart hKT hts inX4 tyX4 tyX4_ok nmX4 rfl 4 7 (by decide) (by decide) (by decide)))).symm
            have m1105 := m1028.trans (Wr.neI wH1096 (Or.inr (x_apart hKT hts inX4 tyX4 tyX4_ok nmX4 rfl 8 7 (by decide) (by decide) (by decide)))).symm
            have m1106 := m1029.trans (Wr.neI wH1096 (Or.inl (G_ne gmq ga0 (by decide)))).symm
            have m1108 := ex1024.trans (Wr.neI wH1096 (Or.inr (x_apart hKT hts inX4 tyX4 tyX4_ok nmX4 rfl 1 7 (by decide) (by decide) (by decide)))).symm
            have m1109 := ex1039.trans (Wr.neI wH1096 (Or.inl (G_ne gkq ga0 (by decide)))).symm
            have m1110 := Wr.I wH1096
            have m1110 := m1110.symm
            refine lv_aload_n hx hb dX4_part_98 rfl (lv_at hl1041 2 rfl) ?_
            refine x_V (As := []) (rest := []) C (a_X4_sum_e l K G H1096 (F) (x1095) (x1024) (lw) (li) kk vv hTH1096 ga0 gmq m1102 gkq m1103 gvq m1104 m1110 m1108 m1105 m1106 m1100 (by omega) (by omega) f1098 f1099) yo_X4_sum wM_X4_103 ⟨⟨by decide, by decide⟩, by decide, by decide⟩ (x_rv C hTH1096 (ci := 4) rfl ga0 rg_78) rfl hl1041.1 rfl (Nat.le_of_ble_eq_true rfl) dX4_part_99 hSH1096 (AE_sub (fun _ _ => rfl) (by decide) hSH1096.1) (fun vH1111 H1111 locsH1111 pH1111 zH1111 kH1111 hSH1111 => ?_)
            obtain ⟨x1112, x1113, x1114, hvH1111, bx1112, ex1113, ex1114, hrH1111, m1115, m1116, m1117, m1118, m1119, m1120, hTH1111⟩ := pH1111
            subst hvH1111
            have f1121 : ∀ j : Nat, j ≤ F.toNatClampNeg → kk j = (fI H1111 kq j).toInt := fun j hj => (f1098 j hj).trans (congrArg Int32.toInt (fI_kept (x_lt hTH1096 kH1111 gkq (by decide))).symm)
            have f1122 : ∀ j : Nat, j ≤ F.toNatClampNeg → vv j = (fI H1111 vq j).toInt := fun j hj => (f1099 j hj).trans (congrArg Int32.toInt (fI_kept (x_lt hTH1096 kH1111 gvq (by decide))).symm)
            have m1123 := (fI_kept (x_lt hTH1096 kH1111 gkq (by decide))).trans m1100
            have m1124 := (m1101).trans (fI_kept (x_lt hTH1096 kH1111 gkq (by decide))).symm
            have m1125 := (m1109).trans (fI_kept (x_lt hTH1096 kH1111 gkq (by decide))).symm
            have bx1113 := ty_fi (x := x1113) (k := 7) ex1113 hTH1111 ga0 rg_78 rfl
            have bx1114 := ty_fi (x := x1114) (k := 1) ex1114 hTH1111 ga0 rg_78 rfl
            refine W.eq (g2 := F0 m 102 ls1040 [.int x1112]) rfl ?_
            refine lv_if_ne (tgt := 107) hx hb dX4_part_102 (by decide) (fun c1126 => ?_) (fun c1126 => ?_)
            · have k1127 := i_ne c1126
              refine lv_aload_n hx hb dX4_part_107 rfl (lv_at hl1041 2 rfl) ?_
              refine x_gr C hTH1111 (ci := 4) (k := 0) rfl inX4 (by decide) wF_X4_12 ga0 rg_78 rfl dX4_part_108 (fun q1128 eq1128 gq1128 => ?_)
              have uq1128 : mq = q1128 := (m1115).trans eq1128.symm
              subst uq1128
              refine lv_iload_n hx hb dX4_part_111 rfl (lv_at hl1041 0 rfl) ?_
              refine lv_iconst (v := 0) hx hb dX4_part_112 (by decide) ?_
              refine x_V (As := [.int x1039, .int 0]) (rest := []) C (a_X7_addStep_e l K G H1111 (x1039) (0) (li) hTH1111 gmq m1119) yo_X7_addStep wM_X4_131 ⟨⟨by decide, by decide⟩, by decide, by decide⟩ (x_rv C hTH1111 (ci := 7) rfl gmq rg_69) rfl hl1041.1 rfl (Nat.le_of_ble_eq_true rfl) dX4_part_113 hSH1111 (AE_sub (fun _ _ => rfl) (by decide) hSH1111.1) (fun vH1129 H1129 locsH1129 pH1129 zH1129 kH1129 hSH1129 => ?_)
              obtain ⟨hvH1129, m1130, hTH1129⟩ := pH1129
              subst hvH1129
              have f1131 : ∀ j : Nat, j ≤ F.toNatClampNeg → kk j = (fI H1129 kq j).toInt := fun j hj => (f1121 j hj).trans (congrArg Int32.toInt (fI_kept (x_lt hTH1111 kH1129 gkq (by decide))).symm)
              have f1132 : ∀ j : Nat, j ≤ F.toNatClampNeg → vv j = (fI H1129 vq j).toInt := fun j hj => (f1122 j hj).trans (congrArg Int32.toInt (fI_kept (x_lt hTH1111 kH1129 gvq (by decide))).symm)
              have m1133 := (fI_kept (x_lt hTH1111 kH1129 gkq (by decide))).trans m1123
              have m1134 := (m1124).trans (fI_kept (x_lt hTH1111 kH1129 gkq (by decide))).symm
              have m1135 := (m1125).trans (fI_kept (x_lt hTH1111 kH1129 gkq (by decide))).symm
              have m1136 := (m1115).trans (fR_kept (x_lt hTH1111 kH1129 ga0 (by decide))).symm
              have m1137 := (m1116).trans (fR_kept (x_lt hTH1111 kH1129 ga0 (by decide))).symm
              have m1138 := (m1117).trans (fR_kept (x_lt hTH1111 kH1129 ga0 (by decide))).symm
              have m1139 := (m1118).trans (fI_kept (x_lt hTH1111 kH1129 ga0 (by decide))).symm
              have m1140 := (ex1113).trans (fI_kept (x_lt hTH1111 kH1129 ga0 (by decide))).symm
              have m1141 := (ex1114).trans (fI_kept (x_lt hTH1111 kH1129 ga0 (by decide))).symm
              refine W.eq (g2 := F0 m 116 ls1040 []) rfl ?_
              refine lv_iconst (v := 1) hx hb dX4_part_116 (by decide) ?_
              have cn_F := i_cl (x := F) (by omega)
              have cn_tat := i_cl (x := tat) (by omega)
              have cn_x1 := i_cl (x := x1) (by omega)
              have cn_x1095 := i_cl (x := x1095) (by omega)
              have cn_x1023 := i_cl (x := x1023) (by omega)
              exact x_zret C hQ (Or.inr rfl) dX4_part_117 hSH1129 (by decide) (by decide) (⟨1, x1113, x1114, rfl, by decide, m1140, m1141, by omega, m1136, m1137, m1138, m1139, m1130, Or.inr ⟨(pa_cp (by rw [qvx999]; omega)).trans ((cp_go (RQ.yes m1030 (by omega)) (by rw [qvx1039]; omega) (show x1095.toNatClampNeg = _ + 1 by omega)).trans (RQ.yes m1120 (by omega))), by omega⟩, hTH1129⟩)
            · have k1127 := i_eq c1126
              refine lv_iconst (v := 0) hx hb dX4_part_105 (by decide) ?_
              have cn_F := i_cl (x := F) (by omega)
              have cn_tat := i_cl (x := tat) (by omega)
              have cn_x1 := i_cl (x := x1) (by omega)
              have cn_x1095 := i_cl (x := x1095) (by omega)
              have cn_x1023 := i_cl (x := x1023) (by omega)
              exact x_zret C hQ (Or.inl rfl) dX4_part_106 hSH1111 (by decide) (by decide) (⟨0, x1113, x1114, rfl, by decide, ex1113, ex1114, by omega, m1115, m1116, m1117, m1118, m1119, Or.inl ⟨(pa_cp (by rw [qvx999]; omega)).trans ((cp_go (RQ.yes m1030 (by omega)) (by rw [qvx1039]; omega) (show x1095.toNatClampNeg = _ + 1 by omega)).trans (RQ.no m1120 (by omega))), by omega⟩, hTH1111⟩)
          · have k1093 := i_ne c1092
            refine lv_iload_n hx hb dX4_part_76 rfl (lv_at hl1041 0 rfl) ?_
            refine lv_bipush (v := 62) hx hb dX4_part_77 (by decide) ?_
            refine lv_icmp_eq (tgt := 88) hx hb dX4_part_79 (by decide) (fun c1142 => ?_) (fun c1142 => ?_)
            · have k1143 := i_eq c1142
              refine lv_aload_n hx hb dX4_part_88 rfl (lv_at hl1041 2 rfl) ?_
              refine lv_dup hx hb dX4_part_89 rfl ?_
              refine x_gi C hTH1021 (ci := 4) (k := 7) rfl inX4 (by decide) wF_X4_42 ga0 rg_78 rfl dX4_part_90 (fun x1144 ex1144 bx1144 => ?_)
              have ux1144 : x1023 = x1144 := (ex1023).trans ex1144.symm
              subst ux1144
              refine lv_iconst (v := 1) hx hb dX4_part_93 (by decide) ?_
              refine lv_iadd hx hb dX4_part_94 ?_
              refine lv_topi (fun x1145 ex1145 => ?_)
              have tx1145 := i_add ex1145 (by omega)
              have fz1147 : 0 ≤ x1145.toInt ∧ x1145.toInt ≤ 500 := by have := i_rng x1145; omega
              refine x_put C hTH1021 hSH1021 (ci := 4) (k := 7) (v := .int x1145) (ty0 := tyX4) rfl inX4 tyX4_ok nmX4 (by decide) rfl wF_X4_42 ga0 rg_78 rfl rfl (okI (by have := i_rng x1145; omega) (by have := i_rng x1145; omega)) rfl rfl (AE_in ga0 (by decide)) dX4_part_95 (fun H1146 locsH1146 hTH1146 hSH1146 wH1146 => ?_)
              have f1148 : ∀ j : Nat, j ≤ F.toNatClampNeg → kk j = (fI H1146 kq j).toInt := fun j hj => (f1031 j hj).trans (congrArg Int32.toInt (Wr.neI wH1146 (Or.inl (G_ne gkq ga0 (by decide)))).symm)
              have f1149 : ∀ j : Nat, j ≤ F.toNatClampNeg → vv j = (fI H1146 vq j).toInt := fun j hj => (f1032 j hj).trans (congrArg Int32.toInt (Wr.neI wH1146 (Or.inl (G_ne gvq ga0 (by decide)))).symm)
              have m1150 := (Wr.neI wH1146 (Or.inl (G_ne gkq ga0 (by decide)))).trans m1033
              have m1151 := m1034.trans (Wr.neI wH1146 (Or.inl (G_ne gkq ga0 (by decide)))).symm
              have m1152 := m1025.trans (Wr.neR wH1146 (Or.inr (x_apart hKT hts inX4 tyX4 tyX4_ok nmX4 rfl 0 7 (by decide) (by decide) (by decide)))).symm
              have m1153 := m1026.trans (Wr.neR wH1146 (Or.inr (x_apart hKT hts inX4 tyX4 tyX4_ok nmX4 rfl 3 7 (by decide) (by decide) (by decide)))).symm
              have m1154 := m1027.trans (Wr.neR wH1146 (Or.inr (x_apart hKT hts inX4 tyX4 tyX4_ok nmX4 rfl 4 7 (by decide) (by decide) (by decide)))).symm
              have m1155 := m1028.trans (Wr.neI wH1146 (Or.inr (x_apart hKT hts inX4 tyX4 tyX4_ok nmX4 rfl 8 7 (by decide) (by decide) (by decide)))).symm
              have m1156 := m1029.trans (Wr.neI wH1146 (Or.inl (G_ne gmq ga0 (by decide)))).symm
              have m1158 := ex1024.trans (Wr.neI wH1146 (Or.inr (x_apart hKT hts inX4 tyX4 tyX4_ok nmX4 rfl 1 7 (by decide) (by decide) (by decide)))).symm
              have m1159 := ex1039.trans (Wr.neI wH1146 (Or.inl (G_ne gkq ga0 (by decide)))).symm
              have m1160 := Wr.I wH1146
              have m1160 := m1160.symm
              refine lv_aload_n hx hb dX4_part_98 rfl (lv_at hl1041 2 rfl) ?_
              refine x_V (As := []) (rest := []) C (a_X4_sum_e l K G H1146 (F) (x1145) (x1024) (lw) (li) kk vv hTH1146 ga0 gmq m1152 gkq m1153 gvq m1154 m1160 m1158 m1155 m1156 m1150 (by omega) (by omega) f1148 f1149) yo_X4_sum wM_X4_103 ⟨⟨by decide, by decide⟩, by decide, by decide⟩ (x_rv C hTH1146 (ci := 4) rfl ga0 rg_78) rfl hl1041.1 rfl (Nat.le_of_ble_eq_true rfl) dX4_part_99 hSH1146 (AE_sub (fun _ _ => rfl) (by decide) hSH1146.1) (fun vH1161 H1161 locsH1161 pH1161 zH1161 kH1161 hSH1161 => ?_)
              obtain ⟨x1162, x1163, x1164, hvH1161, bx1162, ex1163, ex1164, hrH1161, m1165, m1166, m1167, m1168, m1169, m1170, hTH1161⟩ := pH1161
              subst hvH1161
              have f1171 : ∀ j : Nat, j ≤ F.toNatClampNeg → kk j = (fI H1161 kq j).toInt := fun j hj => (f1148 j hj).trans (congrArg Int32.toInt (fI_kept (x_lt hTH1146 kH1161 gkq (by decide))).symm)
              have f1172 : ∀ j : Nat, j ≤ F.toNatClampNeg → vv j = (fI H1161 vq j).toInt := fun j hj => (f1149 j hj).trans (congrArg Int32.toInt (fI_kept (x_lt hTH1146 kH1161 gvq (by decide))).symm)
              have m1173 := (fI_kept (x_lt hTH1146 kH1161 gkq (by decide))).trans m1150
              have m1174 := (m1151).trans (fI_kept (x_lt hTH1146 kH1161 gkq (by decide))).symm
              have m1175 := (m1159).trans (fI_kept (x_lt hTH1146 kH1161 gkq (by decide))).symm
              have bx1163 := ty_fi (x := x1163) (k := 7) ex1163 hTH1161 ga0 rg_78 rfl
              have bx1164 := ty_fi (x := x1164) (k := 1) ex1164 hTH1161 ga0 rg_78 rfl
              refine W.eq (g2 := F0 m 102 ls1040 [.int x1162]) rfl ?_
              refine lv_if_ne (tgt := 107) hx hb dX4_part_102 (by decide) (fun c1176 => ?_) (fun c1176 => ?_)
              · have k1177 := i_ne c1176
                refine lv_aload_n hx hb dX4_part_107 rfl (lv_at hl1041 2 rfl) ?_
                refine x_gr C hTH1161 (ci := 4) (k := 0) rfl inX4 (by decide) wF_X4_12 ga0 rg_78 rfl dX4_part_108 (fun q1178 eq1178 gq1178 => ?_)
                have uq1178 : mq = q1178 := (m1165).trans eq1178.symm
                subst uq1178
                refine lv_iload_n hx hb dX4_part_111 rfl (lv_at hl1041 0 rfl) ?_
                refine lv_iconst (v := 0) hx hb dX4_part_112 (by decide) ?_
                refine x_V (As := [.int x1039, .int 0]) (rest := []) C (a_X7_addStep_e l K G H1161 (x1039) (0) (li) hTH1161 gmq m1169) yo_X7_addStep wM_X4_131 ⟨⟨by decide, by decide⟩, by decide, by decide⟩ (x_rv C hTH1161 (ci := 7) rfl gmq rg_69) rfl hl1041.1 rfl (Nat.le_of_ble_eq_true rfl) dX4_part_113 hSH1161 (AE_sub (fun _ _ => rfl) (by decide) hSH1161.1) (fun vH1179 H1179 locsH1179 pH1179 zH1179 kH1179 hSH1179 => ?_)
                obtain ⟨hvH1179, m1180, hTH1179⟩ := pH1179
                subst hvH1179
                have f1181 : ∀ j : Nat, j ≤ F.toNatClampNeg → kk j = (fI H1179 kq j).toInt := fun j hj => (f1171 j hj).trans (congrArg Int32.toInt (fI_kept (x_lt hTH1161 kH1179 gkq (by decide))).symm)
                have f1182 : ∀ j : Nat, j ≤ F.toNatClampNeg → vv j = (fI H1179 vq j).toInt := fun j hj => (f1172 j hj).trans (congrArg Int32.toInt (fI_kept (x_lt hTH1161 kH1179 gvq (by decide))).symm)
                have m1183 := (fI_kept (x_lt hTH1161 kH1179 gkq (by decide))).trans m1173
                have m1184 := (m1174).trans (fI_kept (x_lt hTH1161 kH1179 gkq (by decide))).symm
                have m1185 := (m1175).trans (fI_kept (x_lt hTH1161 kH1179 gkq (by decide))).symm
                have m1186 := (m1165).trans (fR_kept (x_lt hTH1161 kH1179 ga0 (by decide))).symm
                have m1187 := (m1166).trans (fR_kept (x_lt hTH1161 kH1179 ga0 (by decide))).symm
                have m1188 := (m1167).trans (fR_kept (x_lt hTH1161 kH1179 ga0 (by decide))).symm
                have m1189 := (m1168).trans (fI_kept (x_lt hTH1161 kH1179 ga0 (by decide))).symm
                have m1190 := (ex1163).trans (fI_kept (x_lt hTH1161 kH1179 ga0 (by decide))).symm
                have m1191 := (ex1164).trans (fI_kept (x_lt hTH1161 kH1179 ga0 (by decide))).symm
                refine W.eq (g2 := F0 m 116 ls1040 []) rfl ?_
                refine lv_iconst (v := 1) hx hb dX4_part_116 (by decide) ?_
                have cn_F := i_cl (x := F) (by omega)
                have cn_tat := i_cl (x := tat) (by omega)
                have cn_x1 := i_cl (x := x1) (by omega)
                have cn_x1145 := i_cl (x := x1145) (by omega)
                have cn_x1023 := i_cl (x := x1023) (by omega)
                exact x_zret C hQ (Or.inr rfl) dX4_part_117 hSH1179 (by decide) (by decide) (⟨1, x1163, x1164, rfl, by decide, m1190, m1191, by omega, m1186, m1187, m1188, m1189, m1180, Or.inr ⟨(pa_cp (by rw [qvx999]; omega)).trans ((cp_go (RQ.yes m1030 (by omega)) (by rw [qvx1039]; omega) (show x1145.toNatClampNeg = _ + 1 by omega)).trans (RQ.yes m1170 (by omega))), by omega⟩, hTH1179⟩)
              · have k1177 := i_eq c1176
                refine lv_iconst (v := 0) hx hb dX4_part_105 (by decide) ?_
                have cn_F := i_cl (x := F) (by omega)
                have cn_tat := i_cl (x := tat) (by omega)
                have cn_x1 := i_cl (x := x1) (by omega)
                have cn_x1145 := i_cl (x := x1145) (by omega)
                have cn_x1023 := i_cl (x := x1023) (by omega)
                exact x_zret C hQ (Or.inl rfl) dX4_part_106 hSH1161 (by decide) (by decide) (⟨0, x1163, x1164, rfl, by decide, ex1163, ex1164, by omega, m1165, m1166, m1167, m1168, m1169, Or.inl ⟨(pa_cp (by rw [qvx999]; omega)).trans ((cp_go (RQ.yes m1030 (by omega)) (by rw [qvx1039]; omega) (show x1145.toNatClampNeg = _ + 1 by omega)).trans (RQ.no m1170 (by omega))), by omega⟩, hTH1161⟩)
            · have k1143 := i_ne c1142
              refine lv_aload_n hx hb dX4_part_82 rfl (lv_at hl1041 2 rfl) ?_
              refine lv_iconst (v := 1) hx hb dX4_part_83 (by decide) ?_
              refine x_V (As := [.int 1]) (rest := []) C (a_X4_refuse_e l K G H1021 (1) (x1023) (x1024) (lw) hTH1021 ga0 gmq m1025 gkq m1026 gvq m1027 ex1023 ex1024 m1028) yo_X4_refuse wM_X4_81 ⟨⟨by decide, by decide⟩, by decide, by decide⟩ (x_rv C hTH1021 (ci := 4) rfl ga0 rg_78) rfl hl1041.1 rfl (Nat.le_of_ble_eq_true rfl) dX4_part_84 hSH1021 (AE_sub (fun _ _ => rfl) (by decide) hSH1021.1) (fun vH1192 H1192 locsH1192 pH1192 zH1192 kH1192 hSH1192 => ?_)
              obtain ⟨x1193, x1194, x1195, hvH1192, bx1193, ex1194, ex1195, hrH1192, m1196, m1197, m1198, m1199, hTH1192⟩ := pH1192
              subst hvH1192
              have f1200 : ∀ j : Nat, j ≤ F.toNatClampNeg → kk j = (fI H1192 kq j).toInt := fun j hj => (f1031 j hj).trans (congrArg Int32.toInt (fI_kept (x_lt hTH1021 kH1192 gkq (by decide))).symm)
              have f1201 : ∀ j : Nat, j ≤ F.toNatClampNeg → vv j = (fI H1192 vq j).toInt := fun j hj => (f1032 j hj).trans (congrArg Int32.toInt (fI_kept (x_lt hTH1021 kH1192 gvq (by decide))).symm)
              have m1202 := (fI_kept (x_lt hTH1021 kH1192 gkq (by decide))).trans m1033
              have m1203 := (m1034).trans (fI_kept (x_lt hTH1021 kH1192 gkq (by decide))).symm
              have m1204 := (m1029).trans (fI_kept (x_lt hTH1021 kH1192 gmq (by decide))).symm
              have m1205 := (ex1039).trans (fI_kept (x_lt hTH1021 kH1192 gkq (by decide))).symm
              have bx1194 := ty_fi (x := x1194) (k := 7) ex1194 hTH1192 ga0 rg_78 rfl
              have bx1195 := ty_fi (x := x1195) (k := 1) ex1195 hTH1192 ga0 rg_78 rfl
              refine W.eq (g2 := F0 m 87 ls1040 [.int x1193]) rfl ?_
              have cn_F := i_cl (x := F) (by omega)
              have cn_tat := i_cl (x := tat) (by omega)
              have cn_x1 := i_cl (x := x1) (by omega)
              exact x_zret C hQ (i_01 (by omega)) dX4_part_87 hSH1192 (by decide) (by decide) (⟨x1193, x1194, x1195, rfl, by omega, ex1194, ex1195, by omega, m1196, m1197, m1198, m1199, m1204, Or.inl ⟨(pa_cp (by rw [qvx999]; omega)).trans (cp_no2 (RQ.yes m1030 (by omega)) (by rw [qvx1039]; omega)), by omega⟩, hTH1192⟩)
      · have k1036 := i_eq c1035
        refine lv_iconst (v := 0) hx hb dX4_part_52 (by decide) ?_
        have cn_F := i_cl (x := F) (by omega)
        have cn_tat := i_cl (x := tat) (by omega)
        have cn_x1 := i_cl (x := x1) (by omega)
        exact x_zret C hQ (Or.inl rfl) dX4_part_53 hSH1021 (by decide) (by decide) (⟨0, x1023, x1024, rfl, by decide, ex1023, ex1024, by omega, m1025, m1026, m1027, m1028, m1029, Or.inl ⟨(pa_cp (by rw [qvx999]; omega)).trans (cp_no1 (RQ.no m1030 (by omega))), by omega⟩, hTH1021⟩)
    · have k1020 := i_eq c1019
      refine lv_iload_n hx hb dX4_part_22 rfl (lv_at hl1001 2 rfl) ?_
      refine lv_bipush (v := 8) hx hb dX4_part_23 (by decide) ?_
      refine lv_icmp_ge (tgt := 39) hx hb dX4_part_25 (by decide) (fun c1206 => ?_) (fun c1206 => ?_)
      · have k1207 := i_le c1206
        refine lv_aload_n hx hb dX4_part_39 rfl (lv_at hl1001 1 rfl) ?_
        refine lv_iconst (v := 3) hx hb dX4_part_40 (by decide) ?_
        refine x_V (As := [.int 3]) (rest := []) C (a_X4_refuse_e l K G s.heap (3) (tat) (fa) (lw) hT ga0 gmq emq gkq ekq gvq evq etat efa elw) yo_X4_refuse wM_X4_81 ⟨⟨by decide, by decide⟩, by decide, by decide⟩ (x_rv C hT (ci := 4) rfl ga0 rg_78) rfl hl1001.1 rfl (Nat.le_of_ble_eq_true rfl) dX4_part_41 hS (AE_sub (fun _ _ => rfl) (by decide) hS.1) (fun vH1208 H1208 locsH1208 pH1208 zH1208 kH1208 hSH1208 => ?_)
        obtain ⟨x1209, x1210, x1211, hvH1208, bx1209, ex1210, ex1211, hrH1208, m1212, m1213, m1214, m1215, hTH1208⟩ := pH1208
        subst hvH1208
        have f1216 : ∀ j : Nat, j ≤ F.toNatClampNeg → kk j = (fI H1208 kq j).toInt := fun j hj => (f0_kk j hj).trans (congrArg Int32.toInt (fI_kept (x_lt hT kH1208 gkq (by decide))).symm)
        have f1217 : ∀ j : Nat, j ≤ F.toNatClampNeg → vv j = (fI H1208 vq j).toInt := fun j hj => (f0_vv j hj).trans (congrArg Int32.toInt (fI_kept (x_lt hT kH1208 gvq (by decide))).symm)
        have m1218 := (eli).trans (fI_kept (x_lt hT kH1208 gmq (by decide))).symm
        have m1219 := (fI_kept (x_lt hT kH1208 gkq (by decide))).trans hel0
        have m1220 := (ex999).trans (fI_kept (x_lt hT kH1208 gkq (by decide))).symm
        have bx1210 := ty_fi (x := x1210) (k := 7) ex1210 hTH1208 ga0 rg_78 rfl
        have bx1211 := ty_fi (x := x1211) (k := 1) ex1211 hTH1208 ga0 rg_78 rfl
        refine W.eq (g2 := F0 m 44 ls1000 [.int x1209]) rfl ?_
        have cn_F := i_cl (x := F) (by omega)
        have cn_tat := i_cl (x := tat) (by omega)
        have cn_x1 := i_cl (x := x1) (by omega)
        exact x_zret C hQ (i_01 (by omega)) dX4_part_44 hSH1208 (by decide) (by decide) (⟨x1209, x1210, x1211, rfl, by omega, ex1210, ex1211, by omega, m1212, m1213, m1214, m1215, m1218, Or.inl ⟨pa_deep (by omega) (by rw [qvx999]; omega), by omega⟩, hTH1208⟩)
      · have k1207 := i_nle c1206
        exfalso
        omega

set_option maxHeartbeats 4000000 in
set_option maxRecDepth 100000 in
theorem a_X4_both_e8 (l : Launch) (K : KE) (G : Nat → Option Nat) (H : Heap) {a0 : Nat} (x1 : Int32) {mq : Nat} {kq : Nat} {vq : Nat} (F : Int32) (tat : Int32) (fa : Int32) (lw : Int32) (li : Int32) (kk : Nat → Int) (vv : Nat → Int) (hT : TY K G H) (ga0 : G a0 = some 78) (hx1 : 8 ≤ x1.toInt ∧ x1.toInt ≤ 8) (gmq : G mq = some 69) (emq : mq = fR H a0 (K.1.2 4 0)) (gkq : G kq = some 79) (ekq : kq = fR H a0 (K.1.2 4 3)) (gvq : G vq = some 80) (evq : vq = fR H a0 (K.1.2 4 4)) (etat : tat = fI H a0 (K.1.2 4 7)) (efa : fa = fI H a0 (K.1.2 4 1)) (elw : lw = fI H a0 (K.1.2 4 8)) (eli : li = fI H mq (K.1.2 7 0)) (hel0 : fI H kq (F : Int32).toNatClampNeg = 26) (hp0 : tat.toInt ≤ F.toInt) (hp1 : F.toInt ≤ 500) (hv_kk : ∀ j : Nat, j ≤ F.toNatClampNeg → kk j = (fI H kq j).toInt) (hv_vv : ∀ j : Nat, j ≤ F.toNatClampNeg → vv j = (fI H vq j).toInt) : MX l K yX4_both cX4_both 3 (some .boolean) 4 91 0 0 [.ref a0, .int x1] H (AE G [78, 69, 77] H.size) (fun v H1 => ∃ (r : Int32) (t0 : Int32) (t1 : Int32), v = some (.int r) ∧ (0 ≤ r.toInt ∧ r.toInt ≤ 1) ∧ t0 = fI H1 a0 (K.1.2 4 7) ∧ t1 = fI H1 a0 (K.1.2 4 1) ∧ (t0.toInt ≤ F.toInt ∧ ((r.toInt = 1 ∧ t1.toInt = fa.toInt ∧ tat.toInt < t0.toInt) ∨ (r.toInt = 0 ∧ t1.toInt ≠ 0))) ∧ mq = fR H1 a0 (K.1.2 4 0) ∧ kq = fR H1 a0 (K.1.2 4 3) ∧ vq = fR H1 a0 (K.1.2 4 4) ∧ lw = fI H1 a0 (K.1.2 4 8) ∧ li = fI H1 mq (K.1.2 7 0) ∧ (RQ (lpI (paS kk vv lw.toInt (8 - x1.toNatClampNeg)) (cAN kk) tat.toNatClampNeg) r t0) ∧ TY K G H1) := by
  refine MX.of (by decide +kernel) (Nat.le_of_ble_eq_true rfl) ?_
  intro p e s m below meth c ls Q C hH hl hQ
  subst hH
  have C : CX p K s m _ meth c RX4 cX4_both 3 (some .boolean) "both" := C
  obtain ⟨hx, hb, hml, hown, hts, hKT, hr, hlocks, hnm⟩ := id C
  have hl : lv_has ls 3 [(0, .ref a0), (1, .int x1)] := hl
  have hS : va_S (AE G [78, 69, 77] s.heap.size) s.heap s.heap [] := va_S.rf
  have n_0 : (0 : Int32).toInt = 0 := rfl
  have n_1 : (1 : Int32).toInt = 1 := rfl
  have n_9 : (9 : Int32).toInt = 9 := rfl
  have n_26 : (26 : Int32).toInt = 26 := rfl
  have n_500 : (500 : Int32).toInt = 500 := rfl
  have btat := ty_fi (x := tat) (k := 7) etat hT ga0 rg_78 rfl
  have bfa := ty_fi (x := fa) (k := 1) efa hT ga0 rg_78 rfl
  have blw := ty_fi (x := lw) (k := 8) elw hT ga0 rg_78 rfl
  have bli := ty_fi (x := li) (k := 0) eli hT gmq rg_69 rfl
  have hsp0 : lpI (paS kk vv lw.toInt (8 - x1.toNatClampNeg)) (cAN kk) tat.toNatClampNeg = lpI (paS kk vv lw.toInt (8 - x1.toNatClampNeg)) (cAN kk) tat.toNatClampNeg := rfl
  have f0_kk := hv_kk
  have f0_vv := hv_vv
  have J12 : ∀ (nf : Nat)  (ls1562 : Array Slot) (H1561 : Heap) (locsH1561 : List Loc) (x1564 : Int32) (x1565 : Int32) (x1566 : Int32), lv_has ls1562 3 [(0, .ref a0), (1, .int x1), (2, .int x1564)] → TY K G H1561 → va_S (AE G [78, 69, 77] s.heap.size) s.heap H1561 locsH1561 → (0 ≤ x1564.toInt ∧ x1564.toInt ≤ 500) → (0 ≤ x1565.toInt ∧ x1565.toInt ≤ 500) → (x1565 = fI H1561 a0 (K.1.2 4 7)) → (x1566 = fI H1561 a0 (K.1.2 4 1)) → (mq = fR H1561 a0 (K.1.2 4 0)) → (kq = fR H1561 a0 (K.1.2 4 3)) → (vq = fR H1561 a0 (K.1.2 4 4)) → (lw = fI H1561 a0 (K.1.2 4 8)) → (li = fI H1561 mq (K.1.2 7 0)) → (fI H1561 kq (F : Int32).toNatClampNeg = 26) → (∀ j : Nat, j ≤ F.toNatClampNeg → kk j = (fI H1561 kq j).toInt) → (∀ j : Nat, j ≤ F.toNatClampNeg → vv j = (fI H1561 vq j).toInt) → (500 - x1564.toInt < (nf : Int)) → (2 * x1564.toInt ≤ x1565.toInt ∧ tat.toInt < x1565.toInt ∧ x1565.toInt ≤ F.toInt ∧ x1566.toInt = fa.toInt) → (lpI (paS kk vv lw.toInt (8 - x1.toNatClampNeg)) (cAN kk) tat.toNatClampNeg = (if cAN kk x1565.toNatClampNeg = true then lpI (paS kk vv lw.toInt (8 - x1.toNatClampNeg)) (cAN kk) (x1565.toNatClampNeg + 1) else some x1565.toNatClampNeg)) → W p l e ({ frames := 4, cells := 0, slots := 0, locals := 91 } : Room) s m (([.ref a0, .int x1] : List Value).toArray) below meth c H1561 locsH1561 0 0 Q (F0 m 12 ls1562 []) := by
    intro nf
    induction nf with
    | zero =>
      intro  ls1562 H1561 locsH1561 x1564 x1565 x1566 hl1563 hTH1561 hSH1561 bx1564 bx1565 ex1565 ex1566 cy1567_0 cy1567_1 cy1567_2 cy1567_3 cy1567_4 cy1567_5 fy1567_kk fy1567_vv hm12 iv12 hsp12
      have rx1566 := i_rng x1566
      exfalso
      omega
    | succ nf ih12 =>
      intro  ls1562 H1561 locsH1561 x1564 x1565 x1566 hl1563 hTH1561 hSH1561 bx1564 bx1565 ex1565 ex1566 cy1567_0 cy1567_1 cy1567_2 cy1567_3 cy1567_4 cy1567_5 fy1567_kk fy1567_vv hm12 iv12 hsp12
      have rx1566 := i_rng x1566
      refine lv_iload_n hx hb dX4_both_12 rfl (lv_at hl1563 2 rfl) ?_
      refine lv_sipush (v := 500) hx hb dX4_both_13 (by decide) ?_
      refine lv_icmp_ge (tgt := 69) hx hb dX4_both_16 (by decide) (fun c1568 => ?_) (fun c1568 => ?_)
      · have k1569 := i_le c1568
        refine lv_iconst (v := 1) hx hb dX4_both_69 (by decide) ?_
        have cn_F := i_cl (x := F) (by omega)
        have cn_x1 := i_cl (x := x1) (by omega)
        have cn_x1565 := i_cl (x := x1565) (by omega)
        exact x_zret C hQ (Or.inr rfl) dX4_both_70 hSH1561 (by decide) (by decide) (⟨1, x1565, x1566, rfl, by decide, ex1565, ex1566, by omega, cy1567_0, cy1567_1, cy1567_2, cy1567_3, cy1567_4, (by first | (exfalso; omega) | exact Or.inr ⟨hsp12.trans (if_n (show cAN kk _ = false from decide_eq_false (by omega))), by omega⟩), hTH1561⟩)
      · have k1569 := i_nle c1568
        refine lv_aload_n hx hb dX4_both_19 rfl (lv_at hl1563 0 rfl) ?_
        refine x_gr C hTH1561 (ci := 4) (k := 3) rfl inX4 (by decide) wF_X4_18 ga0 rg_78 rfl dX4_both_20 (fun q1570 eq1570 gq1570 => ?_)
        have uq1570 : kq = q1570 := (cy1567_1).trans eq1570.symm
        subst uq1570
        refine lv_aload_n hx hb dX4_both_23 rfl (lv_at hl1563 0 rfl) ?_
        refine x_gi C hTH1561 (ci := 4) (k := 7) rfl inX4 (by decide) wF_X4_42 ga0 rg_78 rfl dX4_both_24 (fun x1571 ex1571 bx1571 => ?_)
        have ux1571 : x1565 = x1571 := (ex1565).trans ex1571.symm
        subst ux1571
        refine x_ai C hTH1561 gkq rg_79 ⟨by omega, by show _ < ((501 : Nat) : Int); omega⟩ dX4_both_27 (fun x1572 ex1572 bx1572 => ?_)
        have dx1572 := el_hit ex1572 cy1567_5
        have qvx1572 : kk x1565.toNatClampNeg = x1572.toInt := (fy1567_kk _ (by have h1 := i_cl (x := x1565) (by omega); have h2 := i_cl (x := F) (by omega); omega)).trans (congrArg Int32.toInt ex1572.symm)
        refine lv_bipush (v := 9) hx hb dX4_both_28 (by decide) ?_
        refine lv_icmp_ne (tgt := 69) hx hb dX4_both_30 (by decide) (fun c1573 => ?_) (fun c1573 => ?_)
        · have k1574 := i_ne c1573
          refine lv_iconst (v := 1) hx hb dX4_both_69 (by decide) ?_
          have cn_F := i_cl (x := F) (by omega)
          have cn_x1 := i_cl (x := x1) (by omega)
          have cn_x1565 := i_cl (x := x1565) (by omega)
          exact x_zret C hQ (Or.inr rfl) dX4_both_70 hSH1561 (by decide) (by decide) (⟨1, x1565, x1566, rfl, by decide, ex1565, ex1566, by omega, cy1567_0, cy1567_1, cy1567_2, cy1567_3, cy1567_4, (by first | (exfalso; omega) | exact Or.inr ⟨hsp12.trans (if_n (show cAN kk _ = false from decide_eq_false (by omega))), by omega⟩), hTH1561⟩)
        · have k1574 := i_eq c1573
          refine lv_aload_n hx hb dX4_both_33 rfl (lv_at hl1563 0 rfl) ?_
          refine lv_dup hx hb dX4_both_34 rfl ?_
          refine x_gi C hTH1561 (ci := 4) (k := 7) rfl inX4 (by decide) wF_X4_42 ga0 rg_78 rfl dX4_both_35 (fun x1575 ex1575 bx1575 => ?_)
          have ux1575 : x1565 = x1575 := (ex1565).trans ex1575.symm
          subst ux1575
          refine lv_iconst (v := 1) hx hb dX4_both_38 (by decide) ?_
          refine lv_iadd hx hb dX4_both_39 ?_
          refine lv_topi (fun x1576 ex1576 => ?_)
          have tx1576 := i_add ex1576 (by omega)
          have fz1578 : 0 ≤ x1576.toInt ∧ x1576.toInt ≤ 500 := by have := i_rng x1576; omega
          refine x_put C hTH1561 hSH1561 (ci := 4) (k := 7) (v := .int x1576) (ty0 := tyX4) rfl inX4 tyX4_ok nmX4 (by decide) rfl wF_X4_42 ga0 rg_78 rfl rfl (okI (by have := i_rng x1576; omega) (by have := i_rng x1576; omega)) rfl rfl (AE_in ga0 (by decide)) dX4_both_40 (fun H1577 locsH1577 hTH1577 hSH1577 wH1577 => ?_)
          have f1579 : ∀ j : Nat, j ≤ F.toNatClampNeg → kk j = (fI H1577 kq j).toInt := fun j hj => (fy1567_kk j hj).trans (congrArg Int32.toInt (Wr.neI wH1577 (Or.inl (G_ne gkq ga0 (by decide)))).symm)
          have f1580 : ∀ j : Nat, j ≤ F.toNatClampNeg → vv j = (fI H1577 vq j).toInt := fun j hj => (fy1567_vv j hj).trans (congrArg Int32.toInt (Wr.neI wH1577 (Or.inl (G_ne gvq ga0 (by decide)))).symm)
          have m1582 := ex1566.trans (Wr.neI wH1577 (Or.inr (x_apart hKT hts inX4 tyX4 tyX4_ok nmX4 rfl 1 7 (by decide) (by decide) (by decide)))).symm
          have m1583 := cy1567_0.trans (Wr.neR wH1577 (Or.inr (x_apart hKT hts inX4 tyX4 tyX4_ok nmX4 rfl 0 7 (by decide) (by decide) (by decide)))).symm
          have m1584 := cy1567_1.trans (Wr.neR wH1577 (Or.inr (x_apart hKT hts inX4 tyX4 tyX4_ok nmX4 rfl 3 7 (by decide) (by decide) (by decide)))).symm
          have m1585 := cy1567_2.trans (Wr.neR wH1577 (Or.inr (x_apart hKT hts inX4 tyX4 tyX4_ok nmX4 rfl 4 7 (by decide) (by decide) (by decide)))).symm
          have m1586 := cy1567_3.trans (Wr.neI wH1577 (Or.inr (x_apart hKT hts inX4 tyX4 tyX4_ok nmX4 rfl 8 7 (by decide) (by decide) (by decide)))).symm
          have m1587 := cy1567_4.trans (Wr.neI wH1577 (Or.inl (G_ne gmq ga0 (by decide)))).symm
          have m1588 := (Wr.neI wH1577 (Or.inl (G_ne gkq ga0 (by decide)))).trans cy1567_5
          have m1589 := ex1572.trans (Wr.neI wH1577 (Or.inl (G_ne gkq ga0 (by decide)))).symm
          have m1590 := Wr.I wH1577
          have m1590 := m1590.symm
          refine lv_aload_n hx hb dX4_both_43 rfl (lv_at hl1563 0 rfl) ?_
          refine lv_iload_n hx hb dX4_both_44 rfl (lv_at hl1563 1 rfl) ?_
          refine x_V (As := [.int x1]) (rest := []) C (a_X4_part_e8 l K G H1577 (x1) (F) (x1576) (x1566) (lw) (li) kk vv hTH1577 ga0 (by omega) gmq m1583 gkq m1584 gvq m1585 m1590 m1582 m1586 m1587 m1588 (by omega) (by omega) f1579 f1580) yo_X4_part wM_X4_135 ⟨⟨by decide, by decide⟩, by decide, by decide⟩ (x_rv C hTH1577 (ci := 4) rfl ga0 rg_78) rfl hl1563.1 rfl (Nat.le_of_ble_eq_true rfl) dX4_both_45 hSH1577 (AE_sub (fun _ _ => rfl) (by decide) hSH1577.1) (fun vH1591 H1591 locsH1591 pH1591 zH1591 kH1591 hSH1591 => ?_)
          obtain ⟨x1592, x1593, x1594, hvH1591, bx1592, ex1593, ex1594, hrH1591, m1595, m1596, m1597, m1598, m1599, m1600, hTH1591⟩ := pH1591
          subst hvH1591
          have f1601 : ∀ j : Nat, j ≤ F.toNatClampNeg → kk j = (fI H1591 kq j).toInt := fun j hj => (f1579 j hj).trans (congrArg Int32.toInt (fI_kept (x_lt hTH1577 kH1591 gkq (by decide))).symm)
          have f1602 : ∀ j : Nat, j ≤ F.toNatClampNeg → vv j = (fI H1591 vq j).toInt := fun j hj => (f1580 j hj).trans (congrArg Int32.toInt (fI_kept (x_lt hTH1577 kH1591 gvq (by decide))).symm)
          have m1603 := (fI_kept (x_lt hTH1577 kH1591 gkq (by decide))).trans m1588
          have m1604 := (m1589).trans (fI_kept (x_lt hTH1577 kH1591 gkq (by decide))).symm
          have bx1593 := ty_fi (x := x1593) (k := 7) ex1593 hTH1591 ga0 rg_78 rfl
          have bx1594 := ty_fi (x := x1594) (k := 1) ex1594 hTH1591 ga0 rg_78 rfl
          refine W.eq (g2 := F0 m 48 ls1562 [.int x1592]) rfl ?_
          refine lv_if_ne (tgt := 53) hx hb dX4_both_48 (by decide) (fun c1605 => ?_) (fun c1605 => ?_)
          · have k1606 := i_ne c1605
            refine lv_aload_n hx hb dX4_both_53 rfl (lv_at hl1563 0 rfl) ?_
            refine x_gr C hTH1591 (ci := 4) (k := 0) rfl inX4 (by decide) wF_X4_12 ga0 rg_78 rfl dX4_both_54 (fun q1607 eq1607 gq1607 => ?_)
            have uq1607 : mq = q1607 := (m1595).trans eq1607.symm
            subst uq1607
            refine lv_bipush (v := 9) hx hb dX4_both_57 (by decide) ?_
            refine lv_iconst (v := 0) hx hb dX4_both_59 (by decide) ?_
            refine x_V (As := [.int 9, .int 0]) (rest := []) C (a_X7_addStep_e l K G H1591 (9) (0) (li) hTH1591 gmq m1599) yo_X7_addStep wM_X4_131 ⟨⟨by decide, by decide⟩, by decide, by decide⟩ (x_rv C hTH1591 (ci := 7) rfl gmq rg_69) rfl hl1563.1 rfl (Nat.le_of_ble_eq_true rfl) dX4_both_60 hSH1591 (AE_sub (fun _ _ => rfl) (by decide) hSH1591.1) (fun vH1608 H1608 locsH1608 pH1608 zH1608 kH1608 hSH1608 => ?_)
            obtain ⟨hvH1608, m1609, hTH1608⟩ := pH1608
            subst hvH1608
            have f1610 : ∀ j : Nat, j ≤ F.toNatClampNeg → kk j = (fI H1608 kq j).toInt := fun j hj => (f1601 j hj).trans (congrArg Int32.toInt (fI_kept (x_lt hTH1591 kH1608 gkq (by decide))).symm)
            have f1611 : ∀ j : Nat, j ≤ F.toNatClampNeg → vv j = (fI H1608 vq j).toInt := fun j hj => (f1602 j hj).trans (congrArg Int32.toInt (fI_kept (x_lt hTH1591 kH1608 gvq (by decide))).symm)
            have m1612 := (fI_kept (x_lt hTH1591 kH1608 gkq (by decide))).trans m1603
            have m1613 := (m1604).trans (fI_kept (x_lt hTH1591 kH1608 gkq (by decide))).symm
            have m1614 := (m1595).trans (fR_kept (x_lt hTH1591 kH1608 ga0 (by decide))).symm
            have m1615 := (m1596).trans (fR_kept (x_lt hTH1591 kH1608 ga0 (by decide))).symm
            have m1616 := (m1597).trans (fR_kept (x_lt hTH1591 kH1608 ga0 (by decide))).symm
            have m1617 := (m1598).trans (fI_kept (x_lt hTH1591 kH1608 ga0 (by decide))).symm
            have m1618 := (ex1593).trans (fI_kept (x_lt hTH1591 kH1608 ga0 (by decide))).symm
            have m1619 := (ex1594).trans (fI_kept (x_lt hTH1591 kH1608 ga0 (by decide))).symm
            refine W.eq (g2 := F0 m 63 ls1562 []) rfl ?_
            obtain ⟨x1620, ex1620⟩ : ∃ y : Int32, y = x1564 + 1 := ⟨_, rfl⟩
            have tx1620 := i_add ex1620 (by omega)
            refine lv_iinc (v := x1620) (lv' := [(2, .int x1620), (0, .ref a0), (1, .int x1)]) hx hb dX4_both_63 hl1563 (k := 2) rfl (by rw [ex1620]; rfl) (by decide) rfl (fun ls1621 hl1622 => ?_)
            refine lv_goto (tgt := 12) hx hb dX4_both_66 (by decide) ?_
            have cn_F := i_cl (x := F) (by omega)
            have cn_x1565 := i_cl (x := x1565) (by omega)
            have cn_x1576 := i_cl (x := x1576) (by omega)
            exact ih12  ls1621 H1608 locsH1608 (x1620) (x1593) (x1594) (lv_sub hl1622 [1, 2, 0] rfl) hTH1608 hSH1608 (by have := i_rng x1620; omega) (by have := i_rng x1593; omega) m1618 m1619 m1614 m1615 m1616 m1617 m1609 m1612 f1610 f1611 (by omega) (by omega) (hsp12.trans (by rw [if_y (show cAN kk _ = true from decide_eq_true (by omega)), show x1565.toNatClampNeg + 1 = x1576.toNatClampNeg by omega]; exact lp_if (paS_gp _) (RQ.yes m1600 (by omega))))
          · have k1606 := i_eq c1605
            refine lv_iconst (v := 0) hx hb dX4_both_51 (by decide) ?_
            have cn_F := i_cl (x := F) (by omega)
            have cn_x1 := i_cl (x := x1) (by omega)
            have cn_x1565 := i_cl (x := x1565) (by omega)
            have cn_x1576 := i_cl (x := x1576) (by omega)
            exact x_zret C hQ (Or.inl rfl) dX4_both_52 hSH1591 (by decide) (by decide) (⟨0, x1593, x1594, rfl, by decide, ex1593, ex1594, by omega, m1595, m1596, m1597, m1598, m1599, Or.inl ⟨hsp12.trans ((if_y (show cAN kk _ = true from decide_eq_true (by omega))).trans (by rw [show x1565.toNatClampNeg + 1 = x1576.toNatClampNeg by omega]; exact lp_none (paS_gp _) (RQ.no m1600 (by omega)))), by omega⟩, hTH1591⟩)
  refine lv_aload_n hx hb dX4_both_0 rfl (lv_at hl 0 rfl) ?_
  refine lv_iload_n hx hb dX4_both_1 rfl (lv_at hl 1 rfl) ?_
  refine x_V (As := [.int x1]) (rest := []) C (a_X4_part_e8 l K G s.heap (x1) (F) (tat) (fa) (lw) (li) kk vv hT ga0 (by omega) gmq emq gkq ekq gvq evq etat efa elw eli hel0 (by omega) (by omega) f0_kk f0_vv) yo_X4_part wM_X4_135 ⟨⟨by decide, by decide⟩, by decide, by decide⟩ (x_rv C hT (ci := 4) rfl ga0 rg_78) rfl hl.1 rfl (Nat.le_of_ble_eq_true rfl) dX4_both_2 hS (AE_sub (fun _ _ => rfl) (by decide) hS.1) (fun vH1623 H1623 locsH1623 pH1623 zH1623 kH1623 hSH1623 => ?_)
  obtain ⟨x1624, x1625, x1626, hvH1623, bx1624, ex1625, ex1626, hrH1623, m1627, m1628, m1629, m1630, m1631, m1632, hTH1623⟩ := pH1623
  subst hvH1623
  have f1633 : ∀ j : Nat, j ≤ F.toNatClampNeg → kk j = (fI H1623 kq j).toInt := fun j hj => (f0_kk j hj).trans (congrArg Int32.toInt (fI_kept (x_lt hT kH1623 gkq (by decide))).symm)
  have f1634 : ∀ j : Nat, j ≤ F.toNatClampNeg → vv j = (fI H1623 vq j).toInt := fun j hj => (f0_vv j hj).trans (congrArg Int32.toInt (fI_kept (x_lt hT kH1623 gvq (by decide))).symm)
  have m1635 := (fI_kept (x_lt hT kH1623 gkq (by decide))).trans hel0
  have bx1625 := ty_fi (x := x1625) (k := 7) ex1625 hTH1623 ga0 rg_78 rfl
  have bx1626 := ty_fi (x := x1626) (k := 1) ex1626 hTH1623 ga0 rg_78 rfl
  refine W.eq (g2 := F0 m 5 ls [.int x1624]) rfl ?_
  refine lv_if_ne (tgt := 10) hx hb dX4_both_5 (by decide) (fun c1636 => ?_) (fun c1636 => ?_)
  · have k1637 := i_ne c1636
    refine lv_iconst (v := 0) hx hb dX4_both_10 (by decide) ?_
    refine lv_istore_n (lv' := [(2, .int 0), (0, .ref a0), (1, .int x1)]) hx hb dX4_both_11 rfl hl (by decide) rfl (fun ls1638 hl1639 => ?_)
    have cn_F := i_cl (x := F) (by omega)
    exact J12 ((500 - (0 : Int32).toInt).toNat + 1)  ls1638 H1623 locsH1623 (0) (x1625) (x1626) (lv_sub hl1639 [1, 2, 0] rfl) hTH1623 hSH1623 (by decide) (by have := i_rng x1625; omega) ex1625 ex1626 m1627 m1628 m1629 m1630 m1631 m1635 f1633 f1634 (by omega) (by omega) (hsp0.trans (by exact lp_if (paS_gp _) (RQ.yes m1632 (by omega))))
  · have k1637 := i_eq c1636
    refine lv_iconst (v := 0) hx hb dX4_both_8 (by decide) ?_
    have cn_F := i_cl (x := F) (by omega)
    have cn_x1 := i_cl (x := x1) (by omega)
    exact x_zret C hQ (Or.inl rfl) dX4_both_9 hSH1623 (by decide) (by decide) (⟨0, x1625, x1626, rfl, by decide, ex1625, ex1626, by omega, m1627, m1628, m1629, m1630, m1631, Or.inl ⟨hsp0.trans (lp_none (paS_gp _) (RQ.no m1632 (by omega))), by omega⟩, hTH1623⟩)

set_option maxHeartbeats 4000000 in
set_option maxRecDepth 100000 in
theorem a_X4_either_e8 (l : Launch) (K : KE) (G : Nat → Option Nat) (H : Heap) {a0 : Nat} (x1 : Int32) {mq : Nat} {kq : Nat} {vq : Nat} (F : Int32) (tat : Int32) (fa : Int32) (lw : Int32) (li : Int32) (kk : Nat → Int) (vv : Nat → Int) (hT : TY K G H) (ga0 : G a0 = some 78) (hx1 : 8 ≤ x1.toInt ∧ x1.toInt ≤ 8) (gmq : G mq = some 69) (emq : mq = fR H a0 (K.1.2 4 0)) (gkq : G kq = some 79) (ekq : kq = fR H a0 (K.1.2 4 3)) (gvq : G vq = some 80) (evq : vq = fR H a0 (K.1.2 4 4)) (etat : tat = fI H a0 (K.1.2 4 7)) (efa : fa = fI H a0 (K.1.2 4 1)) (elw : lw = fI H a0 (K.1.2 4 8)) (eli : li = fI H mq (K.1.2 7 0)) (hel0 : fI H kq (F : Int32).toNatClampNeg = 26) (hp0 : tat.toInt ≤ F.toInt) (hp1 : F.toInt ≤ 500) (hv_kk : ∀ j : Nat, j ≤ F.toNatClampNeg → kk j = (fI H kq j).toInt) (hv_vv : ∀ j : Nat, j ≤ F.toNatClampNeg → vv j = (fI H vq j).toInt) : MX l K yX4_either cX4_either 3 (some .boolean) 5 113 0 0 [.ref a0, .int x1] H (AE G [78, 69, 77] H.size) (fun v H1 => ∃ (r : Int32) (t0 : Int32) (t1 : Int32), v = some (.int r) ∧ (0 ≤ r.toInt ∧ r.toInt ≤ 1) ∧ t0 = fI H1 a0 (K.1.2 4 7) ∧ t1 = fI H1 a0 (K.1.2 4 1) ∧ (t0.toInt ≤ F.toInt ∧ ((r.toInt = 1 ∧ t1.toInt = fa.toInt ∧ tat.toInt < t0.toInt) ∨ (r.toInt = 0 ∧ t1.toInt ≠ 0))) ∧ mq = fR H1 a0 (K.1.2 4 0) ∧ kq = fR H1 a0 (K.1.2 4 3) ∧ vq = fR H1 a0 (K.1.2 4 4) ∧ lw = fI H1 a0 (K.1.2 4 8) ∧ li = fI H1 mq (K.1.2 7 0) ∧ (RQ (lpI (paS kk vv lw.toInt (8 - x1.toNatClampNeg)) (cAO kk) tat.toNatClampNeg) r t0) ∧ TY K G H1) := by
  refine MX.of (by decide +kernel) (Nat.le_of_ble_eq_true rfl) ?_
  intro p e s m below meth c ls Q C hH hl hQ
  subst hH
  have C : CX p K s m _ meth c RX4 cX4_either 3 (some .boolean) "either" := C
  obtain ⟨hx, hb, hml, hown, hts, hKT, hr, hlocks, hnm⟩ := id C
  have hl : lv_has ls 3 [(0, .ref a0), (1, .int x1)] := hl
  have hS : va_S (AE G [78, 69, 77] s.heap.size) s.heap s.heap [] := va_S.rf
  have n_0 : (0 : Int32).toInt = 0 := rfl
  have n_1 : (1 : Int32).toInt = 1 := rfl
  have n_8 : (8 : Int32).toInt = 8 := rfl
  have n_26 : (26 : Int32).toInt = 26 := rfl
  have n_500 : (500 : Int32).toInt = 500 := rfl
  have btat := ty_fi (x := tat) (k := 7) etat hT ga0 rg_78 rfl
  have bfa := ty_fi (x := fa) (k := 1) efa hT ga0 rg_78 rfl
  have blw := ty_fi (x := lw) (k := 8) elw hT ga0 rg_78 rfl
  have bli := ty_fi (x := li) (k := 0) eli hT gmq rg_69 rfl
  have hsp0 : lpI (paS kk vv lw.toInt (8 - x1.toNatClampNeg)) (cAO kk) tat.toNatClampNeg = lpI (paS kk vv lw.toInt (8 - x1.toNatClampNeg)) (cAO kk) tat.toNatClampNeg := rfl
  have f0_kk := hv_kk
  have f0_vv := hv_vv
  have J12 : ∀ (nf : Nat)  (ls1562 : Array Slot) (H1561 : Heap) (locsH1561 : List Loc) (x1564 : Int32) (x1565 : Int32) (x1566 : Int32), lv_has ls1562 3 [(0, .ref a0), (1, .int x1), (2, .int x1564)] → TY K G H1561 → va_S (AE G [78, 69, 77] s.heap.size) s.heap H1561 locsH1561 → (0 ≤ x1564.toInt ∧ x1564.toInt ≤ 500) → (0 ≤ x1565.toInt ∧ x1565.toInt ≤ 500) → (x1565 = fI H1561 a0 (K.1.2 4 7)) → (x1566 = fI H1561 a0 (K.1.2 4 1)) → (mq = fR H1561 a0 (K.1.2 4 0)) → (kq = fR H1561 a0 (K.1.2 4 3)) → (vq = fR H1561 a0 (K.1.2 4 4)) → (lw = fI H1561 a0 (K.1.2 4 8)) → (li = fI H1561 mq (K.1.2 7 0)) → (fI H1561 kq (F : Int32).toNatClampNeg = 26) → (∀ j : Nat, j ≤ F.toNatClampNeg → kk j = (fI H1561 kq j).toInt) → (∀ j : Nat, j ≤ F.toNatClampNeg → vv j = (fI H1561 vq j).toInt) → (500 - x1564.toInt < (nf : Int)) → (2 * x1564.toInt ≤ x1565.toInt ∧ tat.toInt < x1565.toInt ∧ x1565.toInt ≤ F.toInt ∧ x1566.toInt = fa.toInt) → (lpI (paS kk vv lw.toInt (8 - x1.toNatClampNeg)) (cAO kk) tat.toNatClampNeg = (if cOR kk x1565.toNatClampNeg = true then lpI (paS kk vv lw.toInt (8 - x1.toNatClampNeg)) (cAO kk) (x1565.toNatClampNeg + 1) else some x1565.toNatClampNeg)) → W p l e ({ frames := 5, cells := 0, slots := 0, locals := 113 } : Room) s m (([.ref a0, .int x1] : List Value).toArray) below meth c H1561 locsH1561 0 0 Q (F0 m 12 ls1562 []) := by
    intro nf
    induction nf with
    | zero =>
      intro  ls1562 H1561 locsH1561 x1564 x1565 x1566 hl1563 hTH1561 hSH1561 bx1564 bx1565 ex1565 ex1566 cy1567_0 cy1567_1 cy1567_2 cy1567_3 cy1567_4 cy1567_5 fy1567_kk fy1567_vv hm12 iv12 hsp12
      have rx1566 := i_rng x1566
      exfalso
      omega
    | succ nf ih12 =>
      intro  ls1562 H1561 locsH1561 x1564 x1565 x1566 hl1563 hTH1561 hSH1561 bx1564 bx1565 ex1565 ex1566 cy1567_0 cy1567_1 cy1567_2 cy1567_3 cy1567_4 cy1567_5 fy1567_kk fy1567_vv hm12 iv12 hsp12
      have rx1566 := i_rng x1566
      refine lv_iload_n hx hb dX4_either_12 rfl (lv_at hl1563 2 rfl) ?_
      refine lv_sipush (v := 500) hx hb dX4_either_13 (by decide) ?_
      refine lv_icmp_ge (tgt := 69) hx hb dX4_either_16 (by decide) (fun c1568 => ?_) (fun c1568 => ?_)
      · have k1569 := i_le c1568
        refine lv_iconst (v := 1) hx hb dX4_either_69 (by decide) ?_
        have cn_F := i_cl (x := F) (by omega)
        have cn_x1 := i_cl (x := x1) (by omega)
        have cn_x1565 := i_cl (x := x1565) (by omega)
        exact x_zret C hQ (Or.inr rfl) dX4_either_70 hSH1561 (by decide) (by decide) (⟨1, x1565, x1566, rfl, by decide, ex1565, ex1566, by omega, cy1567_0, cy1567_1, cy1567_2, cy1567_3, cy1567_4, (by first | (exfalso; omega) | exact Or.inr ⟨hsp12.trans (if_n (show cOR kk _ = false from decide_eq_false (by omega))), by omega⟩), hTH1561⟩)
      · have k1569 := i_nle c1568
        refine lv_aload_n hx hb dX4_either_19 rfl (lv_at hl1563 0 rfl) ?_
        refine x_gr C hTH1561 (ci := 4) (k := 3) rfl inX4 (by decide) wF_X4_18 ga0 rg_78 rfl dX4_either_20 (fun q1570 eq1570 gq1570 => ?_)
        have uq1570 : kq = q1570 := (cy1567_1).trans eq1570.symm
        subst uq1570
        refine lv_aload_n hx hb dX4_either_23 rfl (lv_at hl1563 0 rfl) ?_
        refine x_gi C hTH1561 (ci := 4) (k := 7) rfl inX4 (by decide) wF_X4_42 ga0 rg_78 rfl dX4_either_24 (fun x1571 ex1571 bx1571 => ?_)
        have ux1571 : x1565 = x1571 := (ex1565).trans ex1571.symm
        subst ux1571
        refine x_ai C hTH1561 gkq rg_79 ⟨by omega, by show _ < ((501 : Nat) : Int); omega⟩ dX4_either_27 (fun x1572 ex1572 bx1572 => ?_)
        have dx1572 := el_hit ex1572 cy1567_5
        have qvx1572 : kk x1565.toNatClampNeg = x1572.toInt := (fy1567_kk _ (by have h1 := i_cl (x := x1565) (by omega); have h2 := i_cl (x := F) (by omega); omega)).trans (congrArg Int32.toInt ex1572.symm)
        refine lv_bipush (v := 8) hx hb dX4_either_28 (by decide) ?_
        refine lv_icmp_ne (tgt := 69) hx hb dX4_either_30 (by decide) (fun c1573 => ?_) (fun c1573 => ?_)
        · have k1574 := i_ne c1573
          refine lv_iconst (v := 1) hx hb dX4_either_69 (by decide) ?_
          have cn_F := i_cl (x := F) (by omega)
          have cn_x1 := i_cl (x := x1) (by omega)
          have cn_x1565 := i_cl (x := x1565) (by omega)
          exact x_zret C hQ (Or.inr rfl) dX4_either_70 hSH1561 (by decide) (by decide) (⟨1, x1565, x1566, rfl, by decide, ex1565, ex1566, by omega, cy1567_0, cy1567_1, cy1567_2, cy1567_3, cy1567_4, (by first | (exfalso; omega) | exact Or.inr ⟨hsp12.trans (if_n (show cOR kk _ = false from decide_eq_false (by omega))), by omega⟩), hTH1561⟩)
        · have k1574 := i_eq c1573
          refine lv_aload_n hx hb dX4_either_33 rfl (lv_at hl1563 0 rfl) ?_
          refine lv_dup hx hb dX4_either_34 rfl ?_
          refine x_gi C hTH1561 (ci := 4) (k := 7) rfl inX4 (by decide) wF_X4_42 ga0 rg_78 rfl dX4_either_35 (fun x1575 ex1575 bx1575 => ?_)
          have ux1575 : x1565 = x1575 := (ex1565).trans ex1575.symm
          subst ux1575
          refine lv_iconst (v := 1) hx hb dX4_either_38 (by decide) ?_
          refine lv_iadd hx hb dX4_either_39 ?_
          refine lv_topi (fun x1576 ex1576 => ?_)
          have tx1576 := i_add ex1576 (by omega)
          have fz1578 : 0 ≤ x1576.toInt ∧ x1576.toInt ≤ 500 := by have := i_rng x1576; omega
          refine x_put C hTH1561 hSH1561 (ci := 4) (k := 7) (v := .int x1576) (ty0 := tyX4) rfl inX4 tyX4_ok nmX4 (by decide) rfl wF_X4_42 ga0 rg_78 rfl rfl (okI (by have := i_rng x1576; omega) (by have := i_rng x1576; omega)) rfl rfl (AE_in ga0 (by decide)) dX4_either_40 (fun H1577 locsH1577 hTH1577 hSH1577 wH1577 => ?_)
          have f1579 : ∀ j : Nat, j ≤ F.toNatClampNeg → kk j = (fI H1577 kq j).toInt := fun j hj => (fy1567_kk j hj).trans (congrArg Int32.toInt (Wr.neI wH1577 (Or.inl (G_ne gkq ga0 (by decide)))).symm)
          have f1580 : ∀ j : Nat, j ≤ F.toNatClampNeg → vv j = (fI H1577 vq j).toInt := fun j hj => (fy1567_vv j hj).trans (congrArg Int32.toInt (Wr.neI wH1577 (Or.inl (G_ne gvq ga0 (by decide)))).symm)
          have m1582 := ex1566.trans (Wr.neI wH1577 (Or.inr (x_apart hKT hts inX4 tyX4 tyX4_ok nmX4 rfl 1 7 (by decide) (by decide) (by decide)))).symm
          have m1583 := cy1567_0.trans (Wr.neR wH1577 (Or.inr (x_apart hKT hts inX4 tyX4 tyX4_ok nmX4 rfl 0 7 (by decide) (by decide) (by decide)))).symm
          have m1584 := cy1567_1.trans (Wr.neR wH1577 (Or.inr (x_apart hKT hts inX4 tyX4 tyX4_ok nmX4 rfl 3 7 (by decide) (by decide) (by decide)))).symm
          have m1585 := cy1567_2.trans (Wr.neR wH1577 (Or.inr (x_apart hKT hts inX4 tyX4 tyX4_ok nmX4 rfl 4 7 (by decide) (by decide) (by decide)))).symm
          have m1586 := cy1567_3.trans (Wr.neI wH1577 (Or.inr (x_apart hKT hts inX4 tyX4 tyX4_ok nmX4 rfl 8 7 (by decide) (by decide) (by decide)))).symm
          have m1587 := cy1567_4.trans (Wr.neI wH1577 (Or.inl (G_ne gmq ga0 (by decide)))).symm
          have m1588 := (Wr.neI wH1577 (Or.inl (G_ne gkq ga0 (by decide)))).trans cy1567_5
          have m1589 := ex1572.trans (Wr.neI wH1577 (Or.inl (G_ne gkq ga0 (by decide)))).symm
          have m1590 := Wr.I wH1577
          have m1590 := m1590.symm
          refine lv_aload_n hx hb dX4_either_43 rfl (lv_at hl1563 0 rfl) ?_
          refine lv_iload_n hx hb dX4_either_44 rfl (lv_at hl1563 1 rfl) ?_
          refine x_V (As := [.int x1]) (rest := []) C (a_X4_both_e8 l K G H1577 (x1) (F) (x1576) (x1566) (lw) (li) kk vv hTH1577 ga0 (by omega) gmq m1583 gkq m1584 gvq m1585 m1590 m1582 m1586 m1587 m1588 (by omega) (by omega) f1579 f1580) yo_X4_both wM_X4_128 ⟨⟨by decide, by decide⟩, by decide, by decide⟩ (x_rv C hTH1577 (ci := 4) rfl ga0 rg_78) rfl hl1563.1 rfl (Nat.le_of_ble_eq_true rfl) dX4_either_45 hSH1577 (AE_sub (fun _ _ => rfl) (by decide) hSH1577.1) (fun vH1591 H1591 locsH1591 pH1591 zH1591 kH1591 hSH1591 => ?_)
          obtain ⟨x1592, x1593, x1594, hvH1591, bx1592, ex1593, ex1594, hrH1591, m1595, m1596, m1597, m1598, m1599, m1600, hTH1591⟩ := pH1591
          subst hvH1591
          have f1601 : ∀ j : Nat, j ≤ F.toNatClampNeg → kk j = (fI H1591 kq j).toInt := fun j hj => (f1579 j hj).trans (congrArg Int32.toInt (fI_kept (x_lt hTH1577 kH1591 gkq (by decide))).symm)
          have f1602 : ∀ j : Nat, j ≤ F.toNatClampNeg → vv j = (fI H1591 vq j).toInt := fun j hj => (f1580 j hj).trans (congrArg Int32.toInt (fI_kept (x_lt hTH1577 kH1591 gvq (by decide))).symm)
          have m1603 := (fI_kept (x_lt hTH1577 kH1591 gkq (by decide))).trans m1588
          have m1604 := (m1589).trans (fI_kept (x_lt hTH1577 kH1591 gkq (by decide))).symm
          have bx1593 := ty_fi (x := x1593) (k := 7) ex1593 hTH1591 ga0 rg_78 rfl
          have bx1594 := ty_fi (x := x1594) (k := 1) ex1594 hTH1591 ga0 rg_78 rfl
          refine W.eq (g2 := F0 m 48 ls1562 [.int x1592]) rfl ?_
          refine lv_if_ne (tgt := 53) hx hb dX4_either_48 (by decide) (fun c1605 => ?_) (fun c1605 => ?_)
          · have k1606 := i_ne c1605
            refine lv_aload_n hx hb dX4_either_53 rfl (lv_at hl1563 0 rfl) ?_
            refine x_gr C hTH1591 (ci := 4) (k := 0) rfl inX4 (by decide) wF_X4_12 ga0 rg_78 rfl dX4_either_54 (fun q1607 eq1607 gq1607 => ?_)
            have uq1607 : mq = q1607 := (m1595).trans eq1607.symm
            subst uq1607
            refine lv_bipush (v := 8) hx hb dX4_either_57 (by decide) ?_
            refine lv_iconst (v := 0) hx hb dX4_either_59 (by decide) ?_
            refine x_V (As := [.int 8, .int 0]) (rest := []) C (a_X7_addStep_e l K G H1591 (8) (0) (li) hTH1591 gmq m1599) yo_X7_addStep wM_X4_131 ⟨⟨by decide, by decide⟩, by decide, by decide⟩ (x_rv C hTH1591 (ci := 7) rfl gmq rg_69) rfl hl1563.1 rfl (Nat.le_of_ble_eq_true rfl) dX4_either_60 hSH1591 (AE_sub (fun _ _ => rfl) (by decide) hSH1591.1) (fun vH1608 H1608 locsH1608 pH1608 zH1608 kH1608 hSH1608 => ?_)
            obtain ⟨hvH1608, m1609, hTH1608⟩ := pH1608
            subst hvH1608
            have f1610 : ∀ j : Nat, j ≤ F.toNatClampNeg → kk j = (fI H1608 kq j).toInt := fun j hj => (f1601 j hj).trans (congrArg Int32.toInt (fI_kept (x_lt hTH1591 kH1608 gkq (by decide))).symm)
            have f1611 : ∀ j : Nat, j ≤ F.toNatClampNeg → vv j = (fI H1608 vq j).toInt := fun j hj => (f1602 j hj).trans (congrArg Int32.toInt (fI_kept (x_lt hTH1591 kH1608 gvq (by decide))).symm)
            have m1612 := (fI_kept (x_lt hTH1591 kH1608 gkq (by decide))).trans m1603
            have m1613 := (m1604).trans (fI_kept (x_lt hTH1591 kH1608 gkq (by decide))).symm
            have m1614 := (m1595).trans (fR_kept (x_lt hTH1591 kH1608 ga0 (by decide))).symm
            have m1615 := (m1596).trans (fR_kept (x_lt hTH1591 kH1608 ga0 (by decide))).symm
            have m1616 := (m1597).trans (fR_kept (x_lt hTH1591 kH1608 ga0 (by decide))).symm
            have m1617 := (m1598).trans (fI_kept (x_lt hTH1591 kH1608 ga0 (by decide))).symm
            have m1618 := (ex1593).trans (fI_kept (x_lt hTH1591 kH1608 ga0 (by decide))).symm
            have m1619 := (ex1594).trans (fI_kept (x_lt hTH1591 kH1608 ga0 (by decide))).symm
            refine W.eq (g2 := F0 m 63 ls1562 []) rfl ?_
            obtain ⟨x1620, ex1620⟩ : ∃ y : Int32, y = x1564 + 1 := ⟨_, rfl⟩
            have tx1620 := i_add ex1620 (by omega)
            refine lv_iinc (v := x1620) (lv' := [(2, .int x1620), (0, .ref a0), (1, .int x1)]) hx hb dX4_either_63 hl1563 (k := 2) rfl (by rw [ex1620]; rfl) (by decide) rfl (fun ls1621 hl1622 => ?_)
            refine lv_goto (tgt := 12) hx hb dX4_either_66 (by decide) ?_
            have cn_F := i_cl (x := F) (by omega)
            have cn_x1565 := i_cl (x := x1565) (by omega)
            have cn_x1576 := i_cl (x := x1576) (by omega)
            exact ih12  ls1621 H1608 locsH1608 (x1620) (x1593) (x1594) (lv_sub hl1622 [1, 2, 0] rfl) hTH1608 hSH1608 (by have := i_rng x1620; omega) (by have := i_rng x1593; omega) m1618 m1619 m1614 m1615 m1616 m1617 m1609 m1612 f1610 f1611 (by omega) (by omega) (hsp12.trans (by rw [if_y (show cOR kk _ = true from decide_eq_true (by omega)), show x1565.toNatClampNeg + 1 = x1576.toNatClampNeg by omega]; exact ao_if (paS_gp _) (RQ.yes m1600 (by omega))))
          · have k1606 := i_eq c1605
            refine lv_iconst (v := 0) hx hb dX4_either_51 (by decide) ?_
            have cn_F := i_cl (x := F) (by omega)
            have cn_x1 := i_cl (x := x1) (by omega)
            have cn_x1565 := i_cl (x := x1565) (by omega)
            have cn_x1576 := i_cl (x := x1576) (by omega)
            exact x_zret C hQ (Or.inl rfl) dX4_either_52 hSH1591 (by decide) (by decide) (⟨0, x1593, x1594, rfl, by decide, ex1593, ex1594, by omega, m1595, m1596, m1597, m1598, m1599, Or.inl ⟨hsp12.trans ((if_y (show cOR kk _ = true from decide_eq_true (by omega))).trans (by rw [show x1565.toNatClampNeg + 1 = x1576.toNatClampNeg by omega]; exact ao_none (paS_gp _) (RQ.no m1600 (by omega)))), by omega⟩, hTH1591⟩)
  refine lv_aload_n hx hb dX4_either_0 rfl (lv_at hl 0 rfl) ?_
  refine lv_iload_n hx hb dX4_either_1 rfl (lv_at hl 1 rfl) ?_
  refine x_V (As := [.int x1]) (rest := []) C (a_X4_both_e8 l K G s.heap (x1) (F) (tat) (fa) (lw) (li) kk vv hT ga0 (by omega) gmq emq gkq ekq gvq evq etat efa elw eli hel0 (by omega) (by omega) f0_kk f0_vv) yo_X4_both wM_X4_128 ⟨⟨by decide, by decide⟩, by decide, by decide⟩ (x_rv C hT (ci := 4) rfl ga0 rg_78) rfl hl.1 rfl (Nat.le_of_ble_eq_true rfl) dX4_either_2 hS (AE_sub (fun _ _ => rfl) (by decide) hS.1) (fun vH1623 H1623 locsH1623 pH1623 zH1623 kH1623 hSH1623 => ?_)
  obtain ⟨x1624, x1625, x1626, hvH1623, bx1624, ex1625, ex1626, hrH1623, m1627, m1628, m1629, m1630, m1631, m1632, hTH1623⟩ := pH1623
  subst hvH1623
  have f1633 : ∀ j : Nat, j ≤ F.toNatClampNeg → kk j = (fI H1623 kq j).toInt := fun j hj => (f0_kk j hj).trans (congrArg Int32.toInt (fI_kept (x_lt hT kH1623 gkq (by decide))).symm)
  have f1634 : ∀ j : Nat, j ≤ F.toNatClampNeg → vv j = (fI H1623 vq j).toInt := fun j hj => (f0_vv j hj).trans (congrArg Int32.toInt (fI_kept (x_lt hT kH1623 gvq (by decide))).symm)
  have m1635 := (fI_kept (x_lt hT kH1623 gkq (by decide))).trans hel0
  have bx1625 := ty_fi (x := x1625) (k := 7) ex1625 hTH1623 ga0 rg_78 rfl
  have bx1626 := ty_fi (x := x1626) (k := 1) ex1626 hTH1623 ga0 rg_78 rfl
  refine W.eq (g2 := F0 m 5 ls [.int x1624]) rfl ?_
  refine lv_if_ne (tgt := 10) hx hb dX4_either_5 (by decide) (fun c1636 => ?_) (fun c1636 => ?_)
  · have k1637 := i_ne c1636
    refine lv_iconst (v := 0) hx hb dX4_either_10 (by decide) ?_
    refine lv_istore_n (lv' := [(2, .int 0), (0, .ref a0), (1, .int x1)]) hx hb dX4_either_11 rfl hl (by decide) rfl (fun ls1638 hl1639 => ?_)
    have cn_F := i_cl (x := F) (by omega)
    exact J12 ((500 - (0 : Int32).toInt).toNat + 1)  ls1638 H1623 locsH1623 (0) (x1625) (x1626) (lv_sub hl1639 [1, 2, 0] rfl) hTH1623 hSH1623 (by decide) (by have := i_rng x1625; omega) ex1625 ex1626 m1627 m1628 m1629 m1630 m1631 m1635 f1633 f1634 (by omega) (by omega) (hsp0.trans (by exact ao_if (paS_gp _) (RQ.yes m1632 (by omega))))
  · have k1637 := i_eq c1636
    refine lv_iconst (v := 0) hx hb dX4_either_8 (by decide) ?_
    have cn_F := i_cl (x := F) (by omega)
    have cn_x1 := i_cl (x := x1) (by omega)
    exact x_zret C hQ (Or.inl rfl) dX4_either_9 hSH1623 (by decide) (by decide) (⟨0, x1625, x1626, rfl, by decide, ex1625, ex1626, by omega, m1627, m1628, m1629, m1630, m1631, Or.inl ⟨hsp0.trans (ao_none (paS_gp _) (RQ.no m1632 (by omega))), by omega⟩, hTH1623⟩)

set_option maxHeartbeats 4000000 in
set_option maxRecDepth 100000 in
theorem a_X4_opened_e8 (l : Launch) (K : KE) (G : Nat → Option Nat) (H : Heap) {a0 : Nat} (x1 : Int32) (x2 : Int32) {mq : Nat} {kq : Nat} {vq : Nat} (F : Int32) (tat : Int32) (fa : Int32) (lw : Int32) (li : Int32) (kk : Nat → Int) (vv : Nat → Int) (hT : TY K G H) (ga0 : G a0 = some 78) (hx2 : 8 ≤ x2.toInt ∧ x2.toInt ≤ 8) (gmq : G mq = some 69) (emq : mq = fR H a0 (K.1.2 4 0)) (gkq : G kq = some 79) (ekq : kq = fR H a0 (K.1.2 4 3)) (gvq : G vq = some 80) (evq : vq = fR H a0 (K.1.2 4 4)) (etat : tat = fI H a0 (K.1.2 4 7)) (efa : fa = fI H a0 (K.1.2 4 1)) (elw : lw = fI H a0 (K.1.2 4 8)) (eli : li = fI H mq (K.1.2 7 0)) (hel0 : fI H kq (F : Int32).toNatClampNeg = 26) (hp0 : tat.toInt ≤ F.toInt) (hp1 : F.toInt ≤ 500) (hp2 : tat.toInt < F.toInt) (hv_kk : ∀ j : Nat, j ≤ F.toNatClampNeg → kk j = (fI H kq j).toInt) (hv_vv : ∀ j : Nat, j ≤ F.toNatClampNeg → vv j = (fI H vq j).toInt) : MX l K yX4_opened cX4_opened 3 (some .boolean) 6 135 0 0 [.ref a0, .int x1, .int x2] H (AE G [78, 69, 77] H.size) (fun v H1 => ∃ (r : Int32) (t0 : Int32) (t1 : Int32), v = some (.int r) ∧ (0 ≤ r.toInt ∧ r.toInt ≤ 1) ∧ t0 = fI H1 a0 (K.1.2 4 7) ∧ t1 = fI H1 a0 (K.1.2 4 1) ∧ (t0.toInt ≤ F.toInt ∧ ((r.toInt = 1 ∧ t1.toInt = fa.toInt ∧ tat.toInt < t0.toInt) ∨ (r.toInt = 0 ∧ t1.toInt ≠ 0))) ∧ mq = fR H1 a0 (K.1.2 4 0) ∧ kq = fR H1 a0 (K.1.2 4 3) ∧ vq = fR H1 a0 (K.1.2 4 4) ∧ lw = fI H1 a0 (K.1.2 4 8) ∧ li = fI H1 mq (K.1.2 7 0) ∧ (RQ (opI kk vv lw.toInt (8 - x2.toNatClampNeg) x1.toInt tat.toNatClampNeg) r t0) ∧ TY K G H1) := by
  refine MX.of (by decide +kernel) (Nat.le_of_ble_eq_true rfl) ?_
  intro p e s m below meth c ls Q C hH hl hQ
  subst hH
  have C : CX p K s m _ meth c RX4 cX4_opened 3 (some .boolean) "opened" := C
  obtain ⟨hx, hb, hml, hown, hts, hKT, hr, hlocks, hnm⟩ := id C
  have hl : lv_has ls 3 [(0, .ref a0), (1, .int x1), (2, .int x2)] := hl
  have hS : va_S (AE G [78, 69, 77] s.heap.size) s.heap s.heap [] := va_S.rf
  have n_0 : (0 : Int32).toInt = 0 := rfl
  have n_1 : (1 : Int32).toInt = 1 := rfl
  have n_10 : (10 : Int32).toInt = 10 := rfl
  have n_26 : (26 : Int32).toInt = 26 := rfl
  have n_41 : (41 : Int32).toInt = 41 := rfl
  have btat := ty_fi (x := tat) (k := 7) etat hT ga0 rg_78 rfl
  have bfa := ty_fi (x := fa) (k := 1) efa hT ga0 rg_78 rfl
  have blw := ty_fi (x := lw) (k := 8) elw hT ga0 rg_78 rfl
  have bli := ty_fi (x := li) (k := 0) eli hT gmq rg_69 rfl
  have hsp0 : opI kk vv lw.toInt (8 - x2.toNatClampNeg) x1.toInt tat.toNatClampNeg = opI kk vv lw.toInt (8 - x2.toNatClampNeg) x1.toInt tat.toNatClampNeg := rfl
  have f0_kk := hv_kk
  have f0_vv := hv_vv
  refine lv_aload_n hx hb dX4_opened_0 rfl (lv_at hl 0 rfl) ?_
  refine lv_dup hx hb dX4_opened_1 rfl ?_
  refine x_gi C hT (ci := 4) (k := 7) rfl inX4 (by decide) wF_X4_42 ga0 rg_78 rfl dX4_opened_2 (fun x473 ex473 bx473 => ?_)
  have ux473 : tat = x473 := (etat).trans ex473.symm
  subst ux473
  refine lv_iconst (v := 1) hx hb dX4_opened_5 (by decide) ?_
  refine lv_iadd hx hb dX4_opened_6 ?_
  refine lv_topi (fun x474 ex474 => ?_)
  have tx474 := i_add ex474 (by omega)
  have fz476 : 0 ≤ x474.toInt ∧ x474.toInt ≤ 500 := by have := i_rng x474; omega
  refine x_put C hT hS (ci := 4) (k := 7) (v := .int x474) (ty0 := tyX4) rfl inX4 tyX4_ok nmX4 (by decide) rfl wF_X4_42 ga0 rg_78 rfl rfl (okI (by have := i_rng x474; omega) (by have := i_rng x474; omega)) rfl rfl (AE_in ga0 (by decide)) dX4_opened_7 (fun H475 locsH475 hTH475 hSH475 wH475 => ?_)
  have f477 : ∀ j : Nat, j ≤ F.toNatClampNeg → kk j = (fI H475 kq j).toInt := fun j hj => (f0_kk j hj).trans (congrArg Int32.toInt (Wr.neI wH475 (Or.inl (G_ne gkq ga0 (by decide)))).symm)
  have f478 : ∀ j : Nat, j ≤ F.toNatClampNeg → vv j = (fI H475 vq j).toInt := fun j hj => (f0_vv j hj).trans (congrArg Int32.toInt (Wr.neI wH475 (Or.inl (G_ne gvq ga0 (by decide)))).symm)
  have m479 := emq.trans (Wr.neR wH475 (Or.inr (x_apart hKT hts inX4 tyX4 tyX4_ok nmX4 rfl 0 7 (by decide) (by decide) (by decide)))).symm
  have m480 := ekq.trans (Wr.neR wH475 (Or.inr (x_apart hKT hts inX4 tyX4 tyX4_ok nmX4 rfl 3 7 (by decide) (by decide) (by decide)))).symm
  have m481 := evq.trans (Wr.neR wH475 (Or.inr (x_apart hKT hts inX4 tyX4 tyX4_ok nmX4 rfl 4 7 (by decide) (by decide) (by decide)))).symm
  have m483 := efa.trans (Wr.neI wH475 (Or.inr (x_apart hKT hts inX4 tyX4 tyX4_ok nmX4 rfl 1 7 (by decide) (by decide) (by decide)))).symm
  have m484 := elw.trans (Wr.neI wH475 (Or.inr (x_apart hKT hts inX4 tyX4 tyX4_ok nmX4 rfl 8 7 (by decide) (by decide) (by decide)))).symm
  have m485 := eli.trans (Wr.neI wH475 (Or.inl (G_ne gmq ga0 (by decide)))).symm
  have m486 := (Wr.neI wH475 (Or.inl (G_ne gkq ga0 (by decide)))).trans hel0
  have m487 := Wr.I wH475
  have m487 := m487.symm
  refine lv_iload_n hx hb dX4_opened_10 rfl (lv_at hl 1 rfl) ?_
  refine lv_bipush (v := 10) hx hb dX4_opened_11 (by decide) ?_
  refine lv_icmp_ne (tgt := 38) hx hb dX4_opened_13 (by decide) (fun c488 => ?_) (fun c488 => ?_)
  · have k489 := i_ne c488
    refine lv_aload_n hx hb dX4_opened_38 rfl (lv_at hl 0 rfl) ?_
    refine lv_iload_n hx hb dX4_opened_39 rfl (lv_at hl 2 rfl) ?_
    refine x_V (As := [.int x2]) (rest := []) C (a_X4_either_e8 l K G H475 (x2) (F) (x474) (fa) (lw) (li) kk vv hTH475 ga0 (by omega) gmq m479 gkq m480 gvq m481 m487 m483 m484 m485 m486 (by omega) (by omega) f477 f478) yo_X4_either wM_X4_113 ⟨⟨by decide, by decide⟩, by decide, by decide⟩ (x_rv C hTH475 (ci := 4) rfl ga0 rg_78) rfl hl.1 rfl (Nat.le_of_ble_eq_true rfl) dX4_opened_40 hSH475 (AE_sub (fun _ _ => rfl) (by decide) hSH475.1) (fun vH490 H490 locsH490 pH490 zH490 kH490 hSH490 => ?_)
    obtain ⟨x491, x492, x493, hvH490, bx491, ex492, ex493, hrH490, m494, m495, m496, m497, m498, m499, hTH490⟩ := pH490
    subst hvH490
    have f500 : ∀ j : Nat, j ≤ F.toNatClampNeg → kk j = (fI H490 kq j).toInt := fun j hj => (f477 j hj).trans (congrArg Int32.toInt (fI_kept (x_lt hTH475 kH490 gkq (by decide))).symm)
    have f501 : ∀ j : Nat, j ≤ F.toNatClampNeg → vv j = (fI H490 vq j).toInt := fun j hj => (f478 j hj).trans (congrArg Int32.toInt (fI_kept (x_lt hTH475 kH490 gvq (by decide))).symm)
    have m502 := (fI_kept (x_lt hTH475 kH490 gkq (by decide))).trans m486
    have bx492 := ty_fi (x := x492) (k := 7) ex492 hTH490 ga0 rg_78 rfl
    have bx493 := ty_fi (x := x493) (k := 1) ex493 hTH490 ga0 rg_78 rfl
    refine W.eq (g2 := F0 m 43 ls [.int x491]) rfl ?_
    refine lv_if_ne (tgt := 48) hx hb dX4_opened_43 (by decide) (fun c503 => ?_) (fun c503 => ?_)
    · have k504 := i_ne c503
      refine lv_aload_n hx hb dX4_opened_48 rfl (lv_at hl 0 rfl) ?_
      refine x_gr C hTH490 (ci := 4) (k := 3) rfl inX4 (by decide) wF_X4_18 ga0 rg_78 rfl dX4_opened_49 (fun q505 eq505 gq505 => ?_)
      have uq505 : kq = q505 := (m495).trans eq505.symm
      subst uq505
      refine lv_aload_n hx hb dX4_opened_52 rfl (lv_at hl 0 rfl) ?_
      refine x_gi C hTH490 (ci := 4) (k := 7) rfl inX4 (by decide) wF_X4_42 ga0 rg_78 rfl dX4_opened_53 (fun x506 ex506 bx506 => ?_)
      have ux506 : x492 = x506 := (ex492).trans ex506.symm
      subst ux506
      refine x_ai C hTH490 gkq rg_79 ⟨by omega, by show _ < ((501 : Nat) : Int); omega⟩ dX4_opened_56 (fun x507 ex507 bx507 => ?_)
      have dx507 := el_hit ex507 m502
      have qvx507 : kk x492.toNatClampNeg = x507.toInt := (f500 _ (by have h1 := i_cl (x := x492) (by omega); have h2 := i_cl (x := F) (by omega); omega)).trans (congrArg Int32.toInt ex507.symm)
      refine lv_bipush (v := 41) hx hb dX4_opened_57 (by decide) ?_
      refine lv_icmp_eq (tgt := 68) hx hb dX4_opened_59 (by decide) (fun c508 => ?_) (fun c508 => ?_)
      · have k509 := i_eq c508
        refine lv_aload_n hx hb dX4_opened_68 rfl (lv_at hl 0 rfl) ?_
        refine lv_dup hx hb dX4_opened_69 rfl ?_
        refine x_gi C hTH490 (ci := 4) (k := 7) rfl inX4 (by decide) wF_X4_42 ga0 rg_78 rfl dX4_opened_70 (fun x510 ex510 bx510 => ?_)
        have ux510 : x492 = x510 := (ex492).trans ex510.symm
        subst ux510
        refine lv_iconst (v := 1) hx hb dX4_opened_73 (by decide) ?_
        refine lv_iadd hx hb dX4_opened_74 ?_
        refine lv_topi (fun x511 ex511 => ?_)
        have tx511 := i_add ex511 (by omega)
        have fz513 : 0 ≤ x511.toInt ∧ x511.toInt ≤ 500 := by have := i_rng x511; omega
        refine x_put C hTH490 hSH490 (ci := 4) (k := 7) (v := .int x511) (ty0 := tyX4) rfl inX4 tyX4_ok nmX4 (by decide) rfl wF_X4_42 ga0 rg_78 rfl rfl (okI (by have := i_rng x511; omega) (by have := i_rng x511; omega)) rfl rfl (AE_in ga0 (by decide)) dX4_opened_75 (fun H512 locsH512 hTH512 hSH512 wH512 => ?_)
        have f514 : ∀ j : Nat, j ≤ F.toNatClampNeg → kk j = (fI H512 kq j).toInt := fun j hj => (f500 j hj).trans (congrArg Int32.toInt (Wr.neI wH512 (Or.inl (G_ne gkq ga0 (by decide)))).symm)
        have f515 : ∀ j : Nat, j ≤ F.toNatClampNeg → vv j = (fI H512 vq j).toInt := fun j hj => (f501 j hj).trans (congrArg Int32.toInt (Wr.neI wH512 (Or.inl (G_ne gvq ga0 (by decide)))).symm)
        have m516 := (Wr.neI wH512 (Or.inl (G_ne gkq ga0 (by decide)))).trans m502
        have m517 := m494.trans (Wr.neR wH512 (Or.inr (x_apart hKT hts inX4 tyX4 tyX4_ok nmX4 rfl 0 7 (by decide) (by decide) (by decide)))).symm
        have m518 := m495.trans (Wr.neR wH512 (Or.inr (x_apart hKT hts inX4 tyX4 tyX4_ok nmX4 rfl 3 7 (by decide) (by decide) (by decide)))).symm
        have m519 := m496.trans (Wr.neR wH512 (Or.inr (x_apart hKT hts inX4 tyX4 tyX4_ok nmX4 rfl 4 7 (by decide) (by decide) (by decide)))).symm
        have m520 := m497.trans (Wr.neI wH512 (Or.inr (x_apart hKT hts inX4 tyX4 tyX4_ok nmX4 rfl 8 7 (by decide) (by decide) (by decide)))).symm
        have m521 := m498.trans (Wr.neI wH512 (Or.inl (G_ne gmq ga0 (by decide)))).symm
        have m523 := ex493.trans (Wr.neI wH512 (Or.inr (x_apart hKT hts inX4 tyX4 tyX4_ok nmX4 rfl 1 7 (by decide) (by decide) (by decide)))).symm
        have m524 := ex507.trans (Wr.neI wH512 (Or.inl (G_ne gkq ga0 (by decide)))).symm
        have m525 := Wr.I wH512
        have m525 := m525.symm
        refine lv_iconst (v := 1) hx hb dX4_opened_78 (by decide) ?_
        have cn_F := i_cl (x := F) (by omega)
        have cn_tat := i_cl (x := tat) (by omega)
        have cn_x2 := i_cl (x := x2) (by omega)
        have cn_x474 := i_cl (x := x474) (by omega)
        have cn_x511 := i_cl (x := x511) (by omega)
        have cn_x492 := i_cl (x := x492) (by omega)
        exact x_zret C hQ (Or.inr rfl) dX4_opened_79 hSH512 (by decide) (by decide) (⟨1, x511, x493, rfl, by decide, m525, m523, by omega, m517, m518, m519, m520, m521, Or.inr ⟨op_ok (by omega) (show x474.toNatClampNeg = _ + 1 by omega) (RQ.yes m499 (by omega)) (by rw [qvx507]; omega) (show x511.toNatClampNeg = _ + 1 by omega), by omega⟩, hTH512⟩)
      · have k509 := i_ne c508
        refine lv_aload_n hx hb dX4_opened_62 rfl (lv_at hl 0 rfl) ?_
        refine lv_iconst (v := 1) hx hb dX4_opened_63 (by decide) ?_
        refine x_V (As := [.int 1]) (rest := []) C (a_X4_refuse_e l K G H490 (1) (x492) (x493) (lw) hTH490 ga0 gmq m494 gkq m495 gvq m496 ex492 ex493 m497) yo_X4_refuse wM_X4_81 ⟨⟨by decide, by decide⟩, by decide, by decide⟩ (x_rv C hTH490 (ci := 4) rfl ga0 rg_78) rfl hl.1 rfl (Nat.le_of_ble_eq_true rfl) dX4_opened_64 hSH490 (AE_sub (fun _ _ => rfl) (by decide) hSH490.1) (fun vH526 H526 locsH526 pH526 zH526 kH526 hSH526 => ?_)
        obtain ⟨x527, x528, x529, hvH526, bx527, ex528, ex529, hrH526, m530, m531, m532, m533, hTH526⟩ := pH526
        subst hvH526
        have f534 : ∀ j : Nat, j ≤ F.toNatClampNeg → kk j = (fI H526 kq j).toInt := fun j hj => (f500 j hj).trans (congrArg Int32.toInt (fI_kept (x_lt hTH490 kH526 gkq (by decide))).symm)
        have f535 : ∀ j : Nat, j ≤ F.toNatClampNeg → vv j = (fI H526 vq j).toInt := fun j hj => (f501 j hj).trans (congrArg Int32.toInt (fI_kept (x_lt hTH490 kH526 gvq (by decide))).symm)
        have m536 := (fI_kept (x_lt hTH490 kH526 gkq (by decide))).trans m502
        have m537 := (m498).trans (fI_kept (x_lt hTH490 kH526 gmq (by decide))).symm
        have m538 := (ex507).trans (fI_kept (x_lt hTH490 kH526 gkq (by decide))).symm
        have bx528 := ty_fi (x := x528) (k := 7) ex528 hTH526 ga0 rg_78 rfl
        have bx529 := ty_fi (x := x529) (k := 1) ex529 hTH526 ga0 rg_78 rfl
        refine W.eq (g2 := F0 m 67 ls [.int x527]) rfl ?_
        have cn_F := i_cl (x := F) (by omega)
        have cn_tat := i_cl (x := tat) (by omega)
        have cn_x2 := i_cl (x := x2) (by omega)
        have cn_x474 := i_cl (x := x474) (by omega)
        exact x_zret C hQ (i_01 (by omega)) dX4_opened_67 hSH526 (by decide) (by decide) (⟨x527, x528, x529, rfl, by omega, ex528, ex529, by omega, m530, m531, m532, m533, m537, Or.inl ⟨op_no2 (by omega) (show x474.toNatClampNeg = _ + 1 by omega) (RQ.yes m499 (by omega)) (by rw [qvx507]; omega), by omega⟩, hTH526⟩)
    · have k504 := i_eq c503
      refine lv_iconst (v := 0) hx hb dX4_opened_46 (by decide) ?_
      have cn_F := i_cl (x := F) (by omega)
      have cn_tat := i_cl (x := tat) (by omega)
      have cn_x2 := i_cl (x := x2) (by omega)
      have cn_x474 := i_cl (x := x474) (by omega)
      exact x_zret C hQ (Or.inl rfl) dX4_opened_47 hSH490 (by decide) (by decide) (⟨0, x492, x493, rfl, by decide, ex492, ex493, by omega, m494, m495, m496, m497, m498, Or.inl ⟨op_no1 (by omega) (show x474.toNatClampNeg = _ + 1 by omega) (RQ.no m499 (by omega)), by omega⟩, hTH490⟩)
  · have k489 := i_eq c488
    refine lv_aload_n hx hb dX4_opened_16 rfl (lv_at hl 0 rfl) ?_
    refine lv_iload_n hx hb dX4_opened_17 rfl (lv_at hl 2 rfl) ?_
    refine x_V (As := [.int x2]) (rest := []) C (a_X4_part_e8 l K G H475 (x2) (F) (x474) (fa) (lw) (li) kk vv hTH475 ga0 (by omega) gmq m479 gkq m480 gvq m481 m487 m483 m484 m485 m486 (by omega) (by omega) f477 f478) yo_X4_part wM_X4_135 ⟨⟨by decide, by decide⟩, by decide, by decide⟩ (x_rv C hTH475 (ci := 4) rfl ga0 rg_78) rfl hl.1 rfl (Nat.le_of_ble_eq_true rfl) dX4_opened_18 hSH475 (AE_sub (fun _ _ => rfl) (by decide) hSH475.1) (fun vH539 H539 locsH539 pH539 zH539 kH539 hSH539 => ?_)
    obtain ⟨x540, x541, x542, hvH539, bx540, ex541, ex542, hrH539, m543, m544, m545, m546, m547, m548, hTH539⟩ := pH539
    subst hvH539
    have f549 : ∀ j : Nat, j ≤ F.toNatClampNeg → kk j = (fI H539 kq j).toInt := fun j hj => (f477 j hj).trans (congrArg Int32.toInt (fI_kept (x_lt hTH475 kH539 gkq (by decide))).symm)
    have f550 : ∀ j : Nat, j ≤ F.toNatClampNeg → vv j = (fI H539 vq j).toInt := fun j hj => (f478 j hj).trans (congrArg Int32.toInt (fI_kept (x_lt hTH475 kH539 gvq (by decide))).symm)
    have m551 := (fI_kept (x_lt hTH475 kH539 gkq (by decide))).trans m486
    have bx541 := ty_fi (x := x541) (k := 7) ex541 hTH539 ga0 rg_78 rfl
    have bx542 := ty_fi (x := x542) (k := 1) ex542 hTH539 ga0 rg_78 rfl
    refine W.eq (g2 := F0 m 21 ls [.int x540]) rfl ?_
    refine lv_if_ne (tgt := 26) hx hb dX4_opened_21 (by decide) (fun c552 => ?_) (fun c552 => ?_)
    · have k553 := i_ne c552
      refine lv_aload_n hx hb dX4_opened_26 rfl (lv_at hl 0 rfl) ?_
      refine x_gr C hTH539 (ci := 4) (k := 0) rfl inX4 (by decide) wF_X4_12 ga0 rg_78 rfl dX4_opened_27 (fun q554 eq554 gq554 => ?_)
      have uq554 : mq = q554 := (m543).trans eq554.symm
      subst uq554
      refine lv_bipush (v := 10) hx hb dX4_opened_30 (by decide) ?_
      refine lv_iconst (v := 0) hx hb dX4_opened_32 (by decide) ?_
      refine x_V (As := [.int 10, .int 0]) (rest := []) C (a_X7_addStep_e l K G H539 (10) (0) (li) hTH539 gmq m547) yo_X7_addStep wM_X4_131 ⟨⟨by decide, by decide⟩, by decide, by decide⟩ (x_rv C hTH539 (ci := 7) rfl gmq rg_69) rfl hl.1 rfl (Nat.le_of_ble_eq_true rfl) dX4_opened_33 hSH539 (AE_sub (fun _ _ => rfl) (by decide) hSH539.1) (fun vH555 H555 locsH555 pH555 zH555 kH555 hSH555 => ?_)
      obtain ⟨hvH555, m556, hTH555⟩ := pH555
      subst hvH555
      have f557 : ∀ j : Nat, j ≤ F.toNatClampNeg → kk j = (fI H555 kq j).toInt := fun j hj => (f549 j hj).trans (congrArg Int32.toInt (fI_kept (x_lt hTH539 kH555 gkq (by decide))).symm)
      have f558 : ∀ j : Nat, j ≤ F.toNatClampNeg → vv j = (fI H555 vq j).toInt := fun j hj => (f550 j hj).trans (congrArg Int32.toInt (fI_kept (x_lt hTH539 kH555 gvq (by decide))).symm)
      have m559 := (fI_kept (x_lt hTH539 kH555 gkq (by decide))).trans m551
      have m560 := (m543).trans (fR_kept (x_lt hTH539 kH555 ga0 (by decide))).symm
      have m561 := (m544).trans (fR_kept (x_lt hTH539 kH555 ga0 (by decide))).symm
      have m562 := (m545).trans (fR_kept (x_lt hTH539 kH555 ga0 (by decide))).symm
      have m563 := (m546).trans (fI_kept (x_lt hTH539 kH555 ga0 (by decide))).symm
      have m564 := (ex541).trans (fI_kept (x_lt hTH539 kH555 ga0 (by decide))).symm
      have m565 := (ex542).trans (fI_kept (x_lt hTH539 kH555 ga0 (by decide))).symm
      refine W.eq (g2 := F0 m 36 ls []) rfl ?_
      refine lv_iconst (v := 1) hx hb dX4_opened_36 (by decide) ?_
      have cn_F := i_cl (x := F) (by omega)
      have cn_tat := i_cl (x := tat) (by omega)
      have cn_x2 := i_cl (x := x2) (by omega)
      have cn_x474 := i_cl (x := x474) (by omega)
      exact x_zret C hQ (Or.inr rfl) dX4_opened_37 hSH555 (by decide) (by decide) (⟨1, x541, x542, rfl, by decide, m564, m565, by omega, m560, m561, m562, m563, m556, Or.inr ⟨(op_not (by omega) (show x474.toNatClampNeg = _ + 1 by omega)).trans (RQ.yes m548 (by omega)), by omega⟩, hTH555⟩)
    · have k553 := i_eq c552
      refine lv_iconst (v := 0) hx hb dX4_opened_24 (by decide) ?_
      have cn_F := i_cl (x := F) (by omega)
      have cn_tat := i_cl (x := tat) (by omega)
      have cn_x2 := i_cl (x := x2) (by omega)
      have cn_x474 := i_cl (x := x474) (by omega)
      exact x_zret C hQ (Or.inl rfl) dX4_opened_25 hSH539 (by decide) (by decide) (⟨0, x541, x542, rfl, by decide, ex541, ex542, by omega, m543, m544, m545, m546, m547, Or.inl ⟨(op_not (by omega) (show x474.toNatClampNeg = _ + 1 by omega)).trans (RQ.no m548 (by omega)), by omega⟩, hTH539⟩)

set_option maxHeartbeats 4000000 in
set_option maxRecDepth 100000 in
theorem a_X4_part_e7 (l : Launch) (K : KE) (G : Nat → Option Nat) (H : Heap) {a0 : Nat} (x1 : Int32) {mq : Nat} {kq : Nat} {vq : Nat} (F : Int32) (tat : Int32) (fa : Int32) (lw : Int32) (li : Int32) (kk : Nat → Int) (vv : Nat → Int) (hT : TY K G H) (ga0 : G a0 = some 78) (hx1 : 7 ≤ x1.toInt ∧ x1.toInt ≤ 8) (gmq : G mq = some 69) (emq : mq = fR H a0 (K.1.2 4 0)) (gkq : G kq = some 79) (ekq : kq = fR H a0 (K.1.2 4 3)) (gvq : G vq = some 80) (evq : vq = fR H a0 (K.1.2 4 4)) (etat : tat = fI H a0 (K.1.2 4 7)) (efa : fa = fI H a0 (K.1.2 4 1)) (elw : lw = fI H a0 (K.1.2 4 8)) (eli : li = fI H mq (K.1.2 7 0)) (hel0 : fI H kq (F : Int32).toNatClampNeg = 26) (hp0 : tat.toInt ≤ F.toInt) (hp1 : F.toInt ≤ 500) (hv_kk : ∀ j : Nat, j ≤ F.toNatClampNeg → kk j = (fI H kq j).toInt) (hv_vv : ∀ j : Nat, j ≤ F.toNatClampNeg → vv j = (fI H vq j).toInt) : MX l K yX4_part cX4_part 4 (some .boolean) 7 157 0 0 [.ref a0, .int x1] H (AE G [78, 69, 77] H.size) (fun v H1 => ∃ (r : Int32) (t0 : Int32) (t1 : Int32), v = some (.int r) ∧ (0 ≤ r.toInt ∧ r.toInt ≤ 1) ∧ t0 = fI H1 a0 (K.1.2 4 7) ∧ t1 = fI H1 a0 (K.1.2 4 1) ∧ (t0.toInt ≤ F.toInt ∧ ((r.toInt = 1 ∧ t1.toInt = fa.toInt ∧ tat.toInt < t0.toInt) ∨ (r.toInt = 0 ∧ t1.toInt ≠ 0))) ∧ mq = fR H1 a0 (K.1.2 4 0) ∧ kq = fR H1 a0 (K.1.2 4 3) ∧ vq = fR H1 a0 (K.1.2 4 4) ∧ lw = fI H1 a0 (K.1.2 4 8) ∧ li = fI H1 mq (K.1.2 7 0) ∧ (RQ (paS kk vv lw.toInt (8 - x1.toNatClampNeg) tat.toNatClampNeg) r t0) ∧ TY K G H1) := by
  refine MX.of (by decide +kernel) (Nat.le_of_ble_eq_true rfl) ?_
  intro p e s m below meth c ls Q C hH hl hQ
  subst hH
  have C : CX p K s m _ meth c RX4 cX4_part 4 (some .boolean) "part" := C
  obtain ⟨hx, hb, hml, hown, hts, hKT, hr, hlocks, hnm⟩ := id C
  have hl : lv_has ls 4 [(0, .ref a0), (1, .int x1)] := hl
  have hS : va_S (AE G [78, 69, 77] s.heap.size) s.heap s.heap [] := va_S.rf
  have n_0 : (0 : Int32).toInt = 0 := rfl
  have n_1 : (1 : Int32).toInt = 1 := rfl
  have n_3 : (3 : Int32).toInt = 3 := rfl
  have n_8 : (8 : Int32).toInt = 8 := rfl
  have n_10 : (10 : Int32).toInt = 10 := rfl
  have n_26 : (26 : Int32).toInt = 26 := rfl
  have n_40 : (40 : Int32).toInt = 40 := rfl
  have n_60 : (60 : Int32).toInt = 60 := rfl
  have n_61 : (61 : Int32).toInt = 61 := rfl
  have n_62 : (62 : Int32).toInt = 62 := rfl
  have btat := ty_fi (x := tat) (k := 7) etat hT ga0 rg_78 rfl
  have bfa := ty_fi (x := fa) (k := 1) efa hT ga0 rg_78 rfl
  have blw := ty_fi (x := lw) (k := 8) elw hT ga0 rg_78 rfl
  have bli := ty_fi (x := li) (k := 0) eli hT gmq rg_69 rfl
  have hsp0 : paS kk vv lw.toInt (8 - x1.toNatClampNeg) tat.toNatClampNeg = paS kk vv lw.toInt (8 - x1.toNatClampNeg) tat.toNatClampNeg := rfl
  have f0_kk := hv_kk
  have f0_vv := hv_vv
  refine lv_aload_n hx hb dX4_part_0 rfl (lv_at hl 0 rfl) ?_
  refine x_gr C hT (ci := 4) (k := 3) rfl inX4 (by decide) wF_X4_18 ga0 rg_78 rfl dX4_part_1 (fun q1117 eq1117 gq1117 => ?_)
  have uq1117 : kq = q1117 := (ekq).trans eq1117.symm
  subst uq1117
  refine lv_aload_n hx hb dX4_part_4 rfl (lv_at hl 0 rfl) ?_
  refine x_gi C hT (ci := 4) (k := 7) rfl inX4 (by decide) wF_X4_42 ga0 rg_78 rfl dX4_part_5 (fun x1118 ex1118 bx1118 => ?_)
  have ux1118 : tat = x1118 := (etat).trans ex1118.symm
  subst ux1118
  refine x_ai C hT gkq rg_79 ⟨by omega, by show _ < ((501 : Nat) : Int); omega⟩ dX4_part_8 (fun x1119 ex1119 bx1119 => ?_)
  have dx1119 := el_hit ex1119 hel0
  have qvx1119 : kk tat.toNatClampNeg = x1119.toInt := (f0_kk _ (by have h1 := i_cl (x := tat) (by omega); have h2 := i_cl (x := F) (by omega); omega)).trans (congrArg Int32.toInt ex1119.symm)
  refine lv_istore_n (lv' := [(2, .int x1119), (0, .ref a0), (1, .int x1)]) hx hb dX4_part_9 rfl hl (by decide) rfl (fun ls1120 hl1121 => ?_)
  refine lv_iload_n hx hb dX4_part_10 rfl (lv_at hl1121 0 rfl) ?_
  refine lv_bipush (v := 10) hx hb dX4_part_11 (by decide) ?_
  refine lv_icmp_eq (tgt := 22) hx hb dX4_part_13 (by decide) (fun c1122 => ?_) (fun c1122 => ?_)
  · have k1123 := i_eq c1122
    refine lv_iload_n hx hb dX4_part_22 rfl (lv_at hl1121 2 rfl) ?_
    refine lv_bipush (v := 8) hx hb dX4_part_23 (by decide) ?_
    refine lv_icmp_ge (tgt := 39) hx hb dX4_part_25 (by decide) (fun c1124 => ?_) (fun c1124 => ?_)
    · have k1125 := i_le c1124
      refine lv_aload_n hx hb dX4_part_39 rfl (lv_at hl1121 1 rfl) ?_
      refine lv_iconst (v := 3) hx hb dX4_part_40 (by decide) ?_
      refine x_V (As := [.int 3]) (rest := []) C (a_X4_refuse_e l K G s.heap (3) (tat) (fa) (lw) hT ga0 gmq emq gkq ekq gvq evq etat efa elw) yo_X4_refuse wM_X4_81 ⟨⟨by decide, by decide⟩, by decide, by decide⟩ (x_rv C hT (ci := 4) rfl ga0 rg_78) rfl hl1121.1 rfl (Nat.le_of_ble_eq_true rfl) dX4_part_41 hS (AE_sub (fun _ _ => rfl) (by decide) hS.1) (fun vH1126 H1126 locsH1126 pH1126 zH1126 kH1126 hSH1126 => ?_)
      obtain ⟨x1127, x1128, x1129, hvH1126, bx1127, ex1128, ex1129, hrH1126, m1130, m1131, m1132, m1133, hTH1126⟩ := pH1126
      subst hvH1126
      have f1134 : ∀ j : Nat, j ≤ F.toNatClampNeg → kk j = (fI H1126 kq j).toInt := fun j hj => (f0_kk j hj).trans (congrArg Int32.toInt (fI_kept (x_lt hT kH1126 gkq (by decide))).symm)
      have f1135 : ∀ j : Nat, j ≤ F.toNatClampNeg → vv j = (fI H1126 vq j).toInt := fun j hj => (f0_vv j hj).trans (congrArg Int32.toInt (fI_kept (x_lt hT kH1126 gvq (by decide))).symm)
      have m1136 := (eli).trans (fI_kept (x_lt hT kH1126 gmq (by decide))).symm
      have m1137 := (fI_kept (x_lt hT kH1126 gkq (by decide))).trans hel0
      have m1138 := (ex1119).trans (fI_kept (x_lt hT kH1126 gkq (by decide))).symm
      have bx1128 := ty_fi (x := x1128) (k := 7) ex1128 hTH1126 ga0 rg_78 rfl
      have bx1129 := ty_fi (x := x1129) (k := 1) ex1129 hTH1126 ga0 rg_78 rfl
      refine W.eq (g2 := F0 m 44 ls1120 [.int x1127]) rfl ?_
      have cn_F := i_cl (x := F) (by omega)
      have cn_tat := i_cl (x := tat) (by omega)
      have cn_x1 := i_cl (x := x1) (by omega)
      exact x_zret C hQ (i_01 (by omega)) dX4_part_44 hSH1126 (by decide) (by decide) (⟨x1127, x1128, x1129, rfl, by omega, ex1128, ex1129, by omega, m1130, m1131, m1132, m1133, m1136, Or.inl ⟨pa_deep (by omega) (by rw [qvx1119]; omega), by omega⟩, hTH1126⟩)
    · have k1125 := i_nle c1124
      refine lv_aload_n hx hb dX4_part_28 rfl (lv_at hl1121 1 rfl) ?_
      refine lv_iload_n hx hb dX4_part_29 rfl (lv_at hl1121 0 rfl) ?_
      refine lv_iload_n hx hb dX4_part_30 rfl (lv_at hl1121 2 rfl) ?_
      refine lv_iconst (v := 1) hx hb dX4_part_31 (by decide) ?_
      refine lv_iadd hx hb dX4_part_32 ?_
      refine lv_topi (fun x1139 ex1139 => ?_)
      have tx1139 := i_add ex1139 (by omega)
      refine x_V (As := [.int x1119, .int x1139]) (rest := []) C (a_X4_opened_e8 l K G s.heap (x1119) (x1139) (F) (tat) (fa) (lw) (li) kk vv hT ga0 (by omega) gmq emq gkq ekq gvq evq etat efa elw eli hel0 (by omega) (by omega) (by omega) f0_kk f0_vv) yo_X4_opened wM_X4_138 ⟨⟨by decide, by decide⟩, by decide, by decide⟩ (x_rv C hT (ci := 4) rfl ga0 rg_78) rfl hl1121.1 rfl (Nat.le_of_ble_eq_true rfl) dX4_part_33 hS (AE_sub (fun _ _ => rfl) (by decide) hS.1) (fun vH1140 H1140 locsH1140 pH1140 zH1140 kH1140 hSH1140 => ?_)
      obtain ⟨x1141, x1142, x1143, hvH1140, bx1141, ex1142, ex1143, hrH1140, m1144, m1145, m1146, m1147, m1148, m1149, hTH1140⟩ := pH1140
      subst hvH1140
      have f1150 : ∀ j : Nat, j ≤ F.toNatClampNeg → kk j = (fI H1140 kq j).toInt := fun j hj => (f0_kk j hj).trans (congrArg Int32.toInt (fI_kept (x_lt hT kH1140 gkq (by decide))).symm)
      have f1151 : ∀ j : Nat, j ≤ F.toNatClampNeg → vv j = (fI H1140 vq j).toInt := fun j hj => (f0_vv j hj).trans (congrArg Int32.toInt (fI_kept (x_lt hT kH1140 gvq (by decide))).symm)
      have m1152 := (fI_kept (x_lt hT kH1140 gkq (by decide))).trans hel0
      have m1153 := (ex1119).trans (fI_kept (x_lt hT kH1140 gkq (by decide))).symm
      have bx1142 := ty_fi (x := x1142) (k := 7) ex1142 hTH1140 ga0 rg_78 rfl
      have bx1143 := ty_fi (x := x1143) (k := 1) ex1143 hTH1140 ga0 rg_78 rfl
      refine W.eq (g2 := F0 m 36 ls1120 [.int x1141]) rfl ?_
      refine lv_goto (tgt := 44) hx hb dX4_part_36 (by decide) ?_
      have cn_F := i_cl (x := F) (by omega)
      have cn_tat := i_cl (x := tat) (by omega)
      have cn_x1 := i_cl (x := x1) (by omega)
      have cn_x1139 := i_cl (x := x1139) (by omega)
      exact x_zret C hQ (i_01 (by omega)) dX4_part_44 hSH1140 (by decide) (by decide) (⟨x1141, x1142, x1143, rfl, by omega, ex1142, ex1143, by omega, m1144, m1145, m1146, m1147, m1148, RQ.tr m1149 (pa_op (by omega) (qvx1119).symm (by rw [qvx1119]; omega)), hTH1140⟩)
  · have k1123 := i_ne c1122
    refine lv_iload_n hx hb dX4_part_16 rfl (lv_at hl1121 0 rfl) ?_
    refine lv_bipush (v := 40) hx hb dX4_part_17 (by decide) ?_
    refine lv_icmp_ne (tgt := 45) hx hb dX4_part_19 (by decide) (fun c1154 => ?_) (fun c1154 => ?_)
    · have k1155 := i_ne c1154
      refine lv_aload_n hx hb dX4_part_45 rfl (lv_at hl1121 1 rfl) ?_
      refine x_V (As := []) (rest := []) C (a_X4_sum_e l K G s.heap (F) (tat) (fa) (lw) (li) kk vv hT ga0 gmq emq gkq ekq gvq evq etat efa elw eli hel0 (by omega) (by omega) f0_kk f0_vv) yo_X4_sum wM_X4_103 ⟨⟨by decide, by decide⟩, by decide, by decide⟩ (x_rv C hT (ci := 4) rfl ga0 rg_78) rfl hl1121.1 rfl (Nat.le_of_ble_eq_true rfl) dX4_part_46 hS (AE_sub (fun _ _ => rfl) (by decide) hS.1) (fun vH1156 H1156 locsH1156 pH1156 zH1156 kH1156 hSH1156 => ?_)
      obtain ⟨x1157, x1158, x1159, hvH1156, bx1157, ex1158, ex1159, hrH1156, m1160, m1161, m1162, m1163, m1164, m1165, hTH1156⟩ := pH1156
      subst hvH1156
      have f1166 : ∀ j : Nat, j ≤ F.toNatClampNeg → kk j = (fI H1156 kq j).toInt := fun j hj => (f0_kk j hj).trans (congrArg Int32.toInt (fI_kept (x_lt hT kH1156 gkq (by decide))).symm)
      have f1167 : ∀ j : Nat, j ≤ F.toNatClampNeg → vv j = (fI H1156 vq j).toInt := fun j hj => (f0_vv j hj).trans (congrArg Int32.toInt (fI_kept (x_lt hT kH1156 gvq (by decide))).symm)
      have m1168 := (fI_kept (x_lt hT kH1156 gkq (by decide))).trans hel0
      have m1169 := (ex1119).trans (fI_kept (x_lt hT kH1156 gkq (by decide))).symm
      have bx1158 := ty_fi (x := x1158) (k := 7) ex1158 hTH1156 ga0 rg_78 rfl
      have bx1159 := ty_fi (x := x1159) (k := 1) ex1159 hTH1156 ga0 rg_78 rfl
      refine W.eq (g2 := F0 m 49 ls1120 [.int x1157]) rfl ?_
      refine lv_if_ne (tgt := 54) hx hb dX4_part_49 (by decide) (fun c1170 => ?_) (fun c1170 => ?_)
      · have k1171 := i_ne c1170
        refine lv_aload_n hx hb dX4_part_54 rfl (lv_at hl1121 1 rfl) ?_
        refine x_gr C hTH1156 (ci := 4) (k := 3) rfl inX4 (by decide) wF_X4_18 ga0 rg_78 rfl dX4_part_55 (fun q1172 eq1172 gq1172 => ?_)
        have uq1172 : kq = q1172 := (m1161).trans eq1172.symm
        subst uq1172
        refine lv_aload_n hx hb dX4_part_58 rfl (lv_at hl1121 1 rfl) ?_
        refine x_gi C hTH1156 (ci := 4) (k := 7) rfl inX4 (by decide) wF_X4_42 ga0 rg_78 rfl dX4_part_59 (fun x1173 ex1173 bx1173 => ?_)
        have ux1173 : x1158 = x1173 := (ex1158).trans ex1173.symm
        subst ux1173
        refine x_ai C hTH1156 gkq rg_79 ⟨by omega, by show _ < ((501 : Nat) : Int); omega⟩ dX4_part_62 (fun x1174 ex1174 bx1174 => ?_)
        have dx1174 := el_hit ex1174 m1168
        have qvx1174 : kk x1158.toNatClampNeg = x1174.toInt := (f1166 _ (by have h1 := i_cl (x := x1158) (by omega); have h2 := i_cl (x := F) (by omega); omega)).trans (congrArg Int32.toInt ex1174.symm)
        refine lv_istore_n (lv' := [(3, .int x1174), (2, .int x1119), (0, .ref a0), (1, .int x1)]) hx hb dX4_part_63 rfl hl1121 (by decide) rfl (fun ls1175 hl1176 => ?_)
        refine lv_iload_n hx hb dX4_part_64 rfl (lv_at hl1176 0 rfl) ?_
        refine lv_bipush (v := 60) hx hb dX4_part_65 (by decide) ?_
        refine lv_icmp_eq (tgt := 88) hx hb dX4_part_67 (by decide) (fun c1177 => ?_) (fun c1177 => ?_)
        · have k1178 := i_eq c1177
          refine lv_aload_n hx hb dX4_part_88 rfl (lv_at hl1176 2 rfl) ?_
          refine lv_dup hx hb dX4_part_89 rfl ?_
          refine x_gi C hTH1156 (ci := 4) (k := 7) rfl inX4 (by decide) wF_X4_42 ga0 rg_78 rfl dX4_part_90 (fun x1179 ex1179 bx1179 => ?_)
          have ux1179 : x1158 = x1179 := (ex1158).trans ex1179.symm
          subst ux1179
          refine lv_iconst (v := 1) hx hb dX4_part_93 (by decide) ?_
          refine lv_iadd hx hb dX4_part_94 ?_
          refine lv_topi (fun x1180 ex1180 => ?_)
          have tx1180 := i_add ex1180 (by omega)
          have fz1182 : 0 ≤ x1180.toInt ∧ x1180.toInt ≤ 500 := by have := i_rng x1180; omega
          refine x_put C hTH1156 hSH1156 (ci := 4) (k := 7) (v := .int x1180) (ty0 := tyX4) rfl inX4 tyX4_ok nmX4 (by decide) rfl wF_X4_42 ga0 rg_78 rfl rfl (okI (by have := i_rng x1180; omega) (by have := i_rng x1180; omega)) rfl rfl (AE_in ga0 (by decide)) dX4_part_95 (fun H1181 locsH1181 hTH1181 hSH1181 wH1181 => ?_)
          have f1183 : ∀ j : Nat, j ≤ F.toNatClampNeg → kk j = (fI H1181 kq j).toInt := fun j hj => (f1166 j hj).trans (congrArg Int32.toInt (Wr.neI wH1181 (Or.inl (G_ne gkq ga0 (by decide)))).symm)
          have f1184 : ∀ j : Nat, j ≤ F.toNatClampNeg → vv j = (fI H1181 vq j).toInt := fun j hj => (f1167 j hj).trans (congrArg Int32.toInt (Wr.neI wH1181 (Or.inl (G_ne gvq ga0 (by decide)))).symm)
          have m1185 := (Wr.neI wH1181 (Or.inl (G_ne gkq ga0 (by decide)))).trans m1168
          have m1186 := m1169.trans (Wr.neI wH1181 (Or.inl (G_ne gkq ga0 (by decide)))).symm
          have m1187 := m1160.trans (Wr.neR wH1181 (Or.inr (x_apart hKT hts inX4 tyX4 tyX4_ok nmX4 rfl 0 7 (by decide) (by decide) (by decide)))).symm
          have m1188 := m1161.trans (Wr.neR wH1181 (Or.inr (x_apart hKT hts inX4 tyX4 tyX4_ok nmX4 rfl 3 7 (by decide) (by decide) (by decide)))).symm
          have m1189 := m1162.trans (Wr.neR wH1181 (Or.inr (x_apart hKT hts inX4 tyX4 tyX4_ok nmX4 rfl 4 7 (by decide) (by decide) (by decide)))).symm
          have m1190 := m1163.trans (Wr.neI wH1181 (Or.inr (x_apart hKT hts inX4 tyX4 tyX4_ok nmX4 rfl 8 7 (by decide) (by decide) (by decide)))).symm
          have m1191 := m1164.trans (Wr.neI wH1181 (Or.inl (G_ne gmq ga0 (by decide)))).symm
          have m1193 := ex1159.trans (Wr.neI wH1181 (Or.inr (x_apart hKT hts inX4 tyX4 tyX4_ok nmX4 rfl 1 7 (by decide) (by decide) (by decide)))).symm
          have m1194 := ex1174.trans (Wr.neI wH1181 (Or.inl (G_ne gkq ga0 (by decide)))).symm
          have m1195 := Wr.I wH1181
          have m1195 := m1195.symm
          refine lv_aload_n hx hb dX4_part_98 rfl (lv_at hl1176 2 rfl) ?_
          refine x_V (As := []) (rest := []) C (a_X4_sum_e l K G H1181 (F) (x1180) (x1159) (lw) (li) kk vv hTH1181 ga0 gmq m1187 gkq m1188 gvq m1189 m1195 m1193 m1190 m1191 m1185 (by omega) (by omega) f1183 f1184) yo_X4_sum wM_X4_103 ⟨⟨by decide, by decide⟩, by decide, by decide⟩ (x_rv C hTH1181 (ci := 4) rfl ga0 rg_78) rfl hl1176.1 rfl (Nat.le_of_ble_eq_true rfl) dX4_part_99 hSH1181 (AE_sub (fun _ _ => rfl) (by decide) hSH1181.1) (fun vH1196 H1196 locsH1196 pH1196 zH1196 kH1196 hSH1196 => ?_)
          obtain ⟨x1197, x1198, x1199, hvH1196, bx1197, ex1198, ex1199, hrH1196, m1200, m1201, m1202, m1203, m1204, m1205, hTH1196⟩ := pH1196
          subst hvH1196
          have f1206 : ∀ j : Nat, j ≤ F.toNatClampNeg → kk j = (fI H1196 kq j).toInt := fun j hj => (f1183 j hj).trans (congrArg Int32.toInt (fI_kept (x_lt hTH1181 kH1196 gkq (by decide))).symm)
          have f1207 : ∀ j : Nat, j ≤ F.toNatClampNeg → vv j = (fI H1196 vq j).toInt := fun j hj => (f1184 j hj).trans (congrArg Int32.toInt (fI_kept (x_lt hTH1181 kH1196 gvq (by decide))).symm)
          have m1208 := (fI_kept (x_lt hTH1181 kH1196 gkq (by decide))).trans m1185
          have m1209 := (m1186).trans (fI_kept (x_lt hTH1181 kH1196 gkq (by decide))).symm
          have m1210 := (m1194).trans (fI_kept (x_lt hTH1181 kH1196 gkq (by decide))).symm
          have bx1198 := ty_fi (x := x1198) (k := 7) ex1198 hTH1196 ga0 rg_78 rfl
          have bx1199 := ty_fi (x := x1199) (k := 1) ex1199 hTH1196 ga0 rg_78 rfl
          refine W.eq (g2 := F0 m 102 ls1175 [.int x1197]) rfl ?_
          refine lv_if_ne (tgt := 107) hx hb dX4_part_102 (by decide) (fun c1211 => ?_) (fun c1211 => ?_)
          · have k1212 := i_ne c1211
            refine lv_aload_n hx hb dX4_part_107 rfl (lv_at hl1176 2 rfl) ?_
            refine x_gr C hTH1196 (ci := 4) (k := 0) rfl inX4 (by decide) wF_X4_12 ga0 rg_78 rfl dX4_part_108 (fun q1213 eq1213 gq1213 => ?_)
            have uq1213 : mq = q1213 := (m1200).trans eq1213.symm
            subst uq1213
            refine lv_iload_n hx hb dX4_part_111 rfl (lv_at hl1176 0 rfl) ?_
            refine lv_iconst (v := 0) hx hb dX4_part_112 (by decide) ?_
            refine x_V (As := [.int x1174, .int 0]) (rest := []) C (a_X7_addStep_e l K G H1196 (x1174) (0) (li) hTH1196 gmq m1204) yo_X7_addStep wM_X4_131 ⟨⟨by decide, by decide⟩, by decide, by decide⟩ (x_rv C hTH1196 (ci := 7) rfl gmq rg_69) rfl hl1176.1 rfl (Nat.le_of_ble_eq_true rfl) dX4_part_113 hSH1196 (AE_sub (fun _ _ => rfl) (by decide) hSH1196.1) (fun vH1214 H1214 locsH1214 pH1214 zH1214 kH1214 hSH1214 => ?_)
            obtain ⟨hvH1214, m1215, hTH1214⟩ := pH1214
            subst hvH1214
            have f1216 : ∀ j : Nat, j ≤ F.toNatClampNeg → kk j = (fI H1214 kq j).toInt := fun j hj => (f1206 j hj).trans (congrArg Int32.toInt (fI_kept (x_lt hTH1196 kH1214 gkq (by decide))).symm)
            have f1217 : ∀ j : Nat, j ≤ F.toNatClampNeg → vv j = (fI H1214 vq j).toInt := fun j hj => (f1207 j hj).trans (congrArg Int32.toInt (fI_kept (x_lt hTH1196 kH1214 gvq (by decide))).symm)
            have m1218 := (fI_kept (x_lt hTH1196 kH1214 gkq (by decide))).trans m1208
            have m1219 := (m1209).trans (fI_kept (x_lt hTH1196 kH1214 gkq (by decide))).symm
            have m1220 := (m1210).trans (fI_kept (x_lt hTH1196 kH1214 gkq (by decide))).symm
            have m1221 := (m1200).trans (fR_kept (x_lt hTH1196 kH1214 ga0 (by decide))).symm
            have m1222 := (m1201).trans (fR_kept (x_lt hTH1196 kH1214 ga0 (by decide))).symm
            have m1223 := (m1202).trans (fR_kept (x_lt hTH1196 kH1214 ga0 (by decide))).symm
            have m1224 := (m1203).trans (fI_kept (x_lt hTH1196 kH1214 ga0 (by decide))).symm
            have m1225 := (ex1198).trans (fI_kept (x_lt hTH1196 kH1214 ga0 (by decide))).symm
            have m1226 := (ex1199).trans (fI_kept (x_lt hTH1196 kH1214 ga0 (by decide))).symm
            refine W.eq (g2 := F0 m 116 ls1175 []) rfl ?_
            refine lv_iconst (v := 1) hx hb dX4_part_116 (by decide) ?_
            have cn_F := i_cl (x := F) (by omega)
            have cn_tat := i_cl (x := tat) (by omega)
            have cn_x1 := i_cl (x := x1) (by omega)
            have cn_x1180 := i_cl (x := x1180) (by omega)
            have cn_x1158 := i_cl (x := x1158) (by omega)
            exact x_zret C hQ (Or.inr rfl) dX4_part_117 hSH1214 (by decide) (by decide) (⟨1, x1198, x1199, rfl, by decide, m1225, m1226, by omega, m1221, m1222, m1223, m1224, m1215, Or.inr ⟨(pa_cp (by rw [qvx1119]; omega)).trans ((cp_go (RQ.yes m1165 (by omega)) (by rw [qvx1174]; omega) (show x1180.toNatClampNeg = _ + 1 by omega)).trans (RQ.yes m1205 (by omega))), by omega⟩, hTH1214⟩)
          · have k1212 := i_eq c1211
            refine lv_iconst (v := 0) hx hb dX4_part_105 (by decide) ?_
            have cn_F := i_cl (x := F) (by omega)
            have cn_tat := i_cl (x := tat) (by omega)
            have cn_x1 := i_cl (x := x1) (by omega)
            have cn_x1180 := i_cl (x := x1180) (by omega)
            have cn_x1158 := i_cl (x := x1158) (by omega)
            exact x_zret C hQ (Or.inl rfl) dX4_part_106 hSH1196 (by decide) (by decide) (⟨0, x1198, x1199, rfl, by decide, ex1198, ex1199, by omega, m1200, m1201, m1202, m1203, m1204, Or.inl ⟨(pa_cp (by rw [qvx1119]; omega)).trans ((cp_go (RQ.yes m1165 (by omega)) (by rw [qvx1174]; omega) (show x1180.toNatClampNeg = _ + 1 by omega)).trans (RQ.no m1205 (by omega))), by omega⟩, hTH1196⟩)
        · have k1178 := i_ne c1177
          refine lv_iload_n hx hb dX4_part_70 rfl (lv_at hl1176 0 rfl) ?_
          refine lv_bipush (v := 61) hx hb dX4_part_71 (by decide) ?_
          refine lv_icmp_eq (tgt := 88) hx hb dX4_part_73 (by decide) (fun c1227 => ?_) (fun c1227 => ?_)
          · have k1228 := i_eq c1227
            refine lv_aload_n hx hb dX4_part_88 rfl (lv_at hl1176 2 rfl) ?_
            refine lv_dup hx hb dX4_part_89 rfl ?_
            refine x_gi C hTH1156 (ci := 4) (k := 7) rfl inX4 (by decide) wF_X4_42 ga0 rg_78 rfl dX4_part_90 (fun x1229 ex1229 bx1229 => ?_)
            have ux1229 : x1158 = x1229 := (ex1158).trans ex1229.symm
            subst ux1229
            refine lv_iconst (v := 1) hx hb dX4_part_93 (by decide) ?_
            refine lv_iadd hx hb dX4_part_94 ?_
            refine lv_topi (fun x1230 ex1230 => ?_)
            have tx1230 := i_add ex1230 (by omega)
            have fz1232 : 0 ≤ x1230.toInt ∧ x1230.toInt ≤ 500 := by have := i_rng x1230; omega
            refine x_put C hTH1156 hSH1156 (ci := 4) (k := 7) (v := .int x1230) (ty0 := tyX4) rfl inX4 tyX4_ok nmX4 (by decide) rfl wF_X4_42 ga0 rg_78 rfl rfl (okI (by have := i_rng x1230; omega) (by have := i_rng x1230; omega)) rfl rfl (AE_in ga0 (by decide)) dX4_part_95 (fun H1231 locsH1231 hTH1231 hSH1231 wH1231 => ?_)
            have f1233 : ∀ j : Nat, j ≤ F.toNatClampNeg → kk j = (fI H1231 kq j).toInt := fun j hj => (f1166 j hj).trans (congrArg Int32.toInt (Wr.neI wH1231 (Or.inl (G_ne gkq ga0 (by decide)))).symm)
            have f1234 : ∀ j : Nat, j ≤ F.toNatClampNeg → vv j = (fI H1231 vq j).toInt := fun j hj => (f1167 j hj).trans (congrArg Int32.toInt (Wr.neI wH1231 (Or.inl (G_ne gvq ga0 (by decide)))).symm)
            have m1235 := (Wr.neI wH1231 (Or.inl (G_ne gkq ga0 (by decide)))).trans m1168
            have m1236 := m1169.trans (Wr.neI wH1231 (Or.inl (G_ne gkq ga0 (by decide)))).symm
            have m1237 := m1160.trans (Wr.neR wH1231 (Or.inr (x_apart hKT hts inX4 tyX4 tyX4_ok nmX4 rfl 0 7 (by decide) (by decide) (by decide)))).symm
            have m1238 := m1161.trans (Wr.neR wH1231 (Or.inr (x_apart hKT hts inX4 tyX4 tyX4_ok nmX4 rfl 3 7 (by decide) (by decide) (by decide)))).symm
            have m1239 := m1162.trans (Wr.neR wH1231 (Or.inr (x_apart hKT hts inX4 tyX4 tyX4_ok nmX4 rfl 4 7 (by decide) (by decide) (by decide)))).symm
            have m1240 := m1163.trans (Wr.neI wH1231 (Or.inr (x_apart hKT hts inX4 tyX4 tyX4_ok nmX4 rfl 8 7 (by decide) (by decide) (by decide)))).symm
            have m1241 := m1164.trans (Wr.neI wH1231 (Or.inl (G_ne gmq ga0 (by decide)))).symm
            have m1243 := ex1159.trans (Wr.neI wH1231 (Or.inr (x_apart hKT hts inX4 tyX4 tyX4_ok nmX4 rfl 1 7 (by decide) (by decide) (by decide)))).symm
            have m1244 := ex1174.trans (Wr.neI wH1231 (Or.inl (G_ne gkq ga0 (by decide)))).symm
            have m1245 := Wr.I wH1231
            have m1245 := m1245.symm
            refine lv_aload_n hx hb dX4_part_98 rfl (lv_at hl1176 2 rfl) ?_
            refine x_V (As := []) (rest := []) C (a_X4_sum_e l K G H1231 (F) (x1230) (x1159) (lw) (li) kk vv hTH1231 ga0 gmq m1237 gkq m1238 gvq m1239 m1245 m1243 m1240 m1241 m1235 (by omega) (by omega) f1233 f1234) yo_X4_sum wM_X4_103 ⟨⟨by decide, by decide⟩, by decide, by decide⟩ (x_rv C hTH1231 (ci := 4) rfl ga0 rg_78) rfl hl1176.1 rfl (Nat.le_of_ble_eq_true rfl) dX4_part_99 hSH1231 (AE_sub (fun _ _ => rfl) (by decide) hSH1231.1) (fun vH1246 H1246 locsH1246 pH1246 zH1246 kH1246 hSH1246 => ?_)
            obtain ⟨x1247, x1248, x1249, hvH1246, bx1247, ex1248, ex1249, hrH1246, m1250, m1251, m1252, m1253, m1254, m1255, hTH1246⟩ := pH1246
            subst hvH1246
            have f1256 : ∀ j : Nat, j ≤ F.toNatClampNeg → kk j = (fI H1246 kq j).toInt := fun j hj => (f1233 j hj).trans (congrArg Int32.toInt (fI_kept (x_lt hTH1231 kH1246 gkq (by decide))).symm)
            have f1257 : ∀ j : Nat, j ≤ F.toNatClampNeg → vv j = (fI H1246 vq j).toInt := fun j hj => (f1234 j hj).trans (congrArg Int32.toInt (fI_kept (x_lt hTH1231 kH1246 gvq (by decide))).symm)
            have m1258 := (fI_kept (x_lt hTH1231 kH1246 gkq (by decide))).trans m1235
            have m1259 := (m1236).trans (fI_kept (x_lt hTH1231 kH1246 gkq (by decide))).symm
            have m1260 := (m1244).trans (fI_kept (x_lt hTH1231 kH1246 gkq (by decide))).symm
            have bx1248 := ty_fi (x := x1248) (k := 7) ex1248 hTH1246 ga0 rg_78 rfl
            have bx1249 := ty_fi (x := x1249) (k := 1) ex1249 hTH1246 ga0 rg_78 rfl
            refine W.eq (g2 := F0 m 102 ls1175 [.int x1247]) rfl ?_
            refine lv_if_ne (tgt := 107) hx hb dX4_part_102 (by decide) (fun c1261 => ?_) (fun c1261 => ?_)
            · have k1262 := i_ne c1261
              refine lv_aload_n hx hb dX4_part_107 rfl (lv_at hl1176 2 rfl) ?_
              refine x_gr C hTH1246 (ci := 4) (k := 0) rfl inX4 (by decide) wF_X4_12 ga0 rg_78 rfl dX4_part_108 (fun q1263 eq1263 gq1263 => ?_)
              have uq1263 : mq = q1263 := (m1250).trans eq1263.symm
              subst uq1263
              refine lv_iload_n hx hb dX4_part_111 rfl (lv_at hl1176 0 rfl) ?_
              refine lv_iconst (v := 0) hx hb dX4_part_112 (by decide) ?_
              refine x_V (As := [.int x1174, .int 0]) (rest := []) C (a_X7_addStep_e l K G H1246 (x1174) (0) (li) hTH1246 gmq m1254) yo_X7_addStep wM_X4_131 ⟨⟨by decide, by decide⟩, by decide, by decide⟩ (x_rv C hTH1246 (ci := 7) rfl gmq rg_69) rfl hl1176.1 rfl (Nat.le_of_ble_eq_true rfl) dX4_part_113 hSH1246 (AE_sub (fun _ _ => rfl) (by decide) hSH1246.1) (fun vH1264 H1264 locsH1264 pH1264 zH1264 kH1264 hSH1264 => ?_)
              obtain ⟨hvH1264, m1265, hTH1264⟩ := pH1264
              subst hvH1264
              have f1266 : ∀ j : Nat, j ≤ F.toNatClampNeg → kk j = (fI H1264 kq j).toInt := fun j hj => (f1256 j hj).trans (congrArg Int32.toInt (fI_kept (x_lt hTH1246 kH1264 gkq (by decide))).symm)
              have f1267 : ∀ j : Nat, j ≤ F.toNatClampNeg → vv j = (fI H1264 vq j).toInt := fun j hj => (f1257 j hj).trans (congrArg Int32.toInt (fI_kept (x_lt hTH1246 kH1264 gvq (by decide))).symm)
              have m1268 := (fI_kept (x_lt hTH1246 kH1264 gkq (by decide))).trans m1258
              have m1269 := (m1259).trans (fI_kept (x_lt hTH1246 kH1264 gkq (by decide))).symm
              have m1270 := (m1260).trans (fI_kept (x_lt hTH1246 kH1264 gkq (by decide))).symm
              have m1271 := (m1250).trans (fR_kept (x_lt hTH1246 kH1264 ga0 (by decide))).symm
              have m1272 := (m1251).trans (fR_kept (x_lt hTH1246 kH1264 ga0 (by decide))).symm
              have m1273 := (m1252).trans (fR_kept (x_lt hTH1246 kH1264 ga0 (by decide))).symm
              have m1274 := (m1253).trans (fI_kept (x_lt hTH1246 kH1264 ga0 (by decide))).symm
              have m1275 := (ex1248).trans (fI_kept (x_lt hTH1246 kH1264 ga0 (by decide))).symm
              have m1276 := (ex1249).trans (fI_kept (x_lt hTH1246 kH1264 ga0 (by decide))).symm
              refine W.eq (g2 := F0 m 116 ls1175 []) rfl ?_
              refine lv_iconst (v := 1) hx hb dX4_part_116 (by decide) ?_
              have cn_F := i_cl (x := F) (by omega)
              have cn_tat := i_cl (x := tat) (by omega)
              have cn_x1 := i_cl (x := x1) (by omega)
              have cn_x1230 := i_cl (x := x1230) (by omega)
              have cn_x1158 := i_cl (x := x1158) (by omega)
              exact x_zret C hQ (Or.inr rfl) dX4_part_117 hSH1264 (by decide) (by decide) (⟨1, x1248, x1249, rfl, by decide, m1275, m1276, by omega, m1271, m1272, m1273, m1274, m1265, Or.inr ⟨(pa_cp (by rw [qvx1119]; omega)).trans ((cp_go (RQ.yes m1165 (by omega)) (by rw [qvx1174]; omega) (show x1230.toNatClampNeg = _ + 1 by omega)).trans (RQ.yes m1255 (by omega))), by omega⟩, hTH1264⟩)
            · have k1262 := i_eq c1261
              refine lv_iconst (v := 0) hx hb dX4_part_105 (by decide) ?_
              have cn_F := i_cl (x := F) (by omega)
              have cn_tat := i_cl (x := tat) (by omega)
              have cn_x1 := i_cl (x := x1) (by omega)
              have cn_x1230 := i_cl (x := x1230) (by omega)
              have cn_x1158 := i_cl (x := x1158) (by omega)
              exact x_zret C hQ (Or.inl rfl) dX4_part_106 hSH1246 (by decide) (by decide) (⟨0, x1248, x1249, rfl, by decide, ex1248, ex1249, by omega, m1250, m1251, m1252, m1253, m1254, Or.inl ⟨(pa_cp (by rw [qvx1119]; omega)).trans ((cp_go (RQ.yes m1165 (by omega)) (by rw [qvx1174]; omega) (show x1230.toNatClampNeg = _ + 1 by omega)).trans (RQ.no m1255 (by omega))), by omega⟩, hTH1246⟩)
          · have k1228 := i_ne c1227
            refine lv_iload_n hx hb dX4_part_76 rfl (lv_at hl1176 0 rfl) ?_
            refine lv_bipush (v := 62) hx hb dX4_part_77 (by decide) ?_
            refine lv_icmp_eq (tgt := 88) hx hb dX4_part_79 (by decide) (fun c1277 => ?_) (fun c1277 => ?_)
            · have k1278 := i_eq c1277
              refine lv_aload_n hx hb dX4_part_88 rfl (lv_at hl1176 2 rfl) ?_
              refine lv_dup hx hb dX4_part_89 rfl ?_
              refine x_gi C hTH1156 (ci := 4) (k := 7) rfl inX4 (by decide) wF_X4_42 ga0 rg_78 rfl dX4_part_90 (fun x1279 ex1279 bx1279 => ?_)
              have ux1279 : x1158 = x1279 := (ex1158).trans ex1279.symm
              subst ux1279
              refine lv_iconst (v := 1) hx hb dX4_part_93 (by decide) ?_
              refine lv_iadd hx hb dX4_part_94 ?_
              refine lv_topi (fun x1280 ex1280 => ?_)
              have tx1280 := i_add ex1280 (by omega)
              have fz1282 : 0 ≤ x1280.toInt ∧ x1280.toInt ≤ 500 := by have := i_rng x1280; omega
              refine x_put C hTH1156 hSH1156 (ci := 4) (k := 7) (v := .int x1280) (ty0 := tyX4) rfl inX4 tyX4_ok nmX4 (by decide) rfl wF_X4_42 ga0 rg_78 rfl rfl (okI (by have := i_rng x1280; omega) (by have := i_rng x1280; omega)) rfl rfl (AE_in ga0 (by decide)) dX4_part_95 (fun H1281 locsH1281 hTH1281 hSH1281 wH1281 => ?_)
              have f1283 : ∀ j : Nat, j ≤ F.toNatClampNeg → kk j = (fI H1281 kq j).toInt := fun j hj => (f1166 j hj).trans (congrArg Int32.toInt (Wr.neI wH1281 (Or.inl (G_ne gkq ga0 (by decide)))).symm)
              have f1284 : ∀ j : Nat, j ≤ F.toNatClampNeg → vv j = (fI H1281 vq j).toInt := fun j hj => (f1167 j hj).trans (congrArg Int32.toInt (Wr.neI wH1281 (Or.inl (G_ne gvq ga0 (by decide)))).symm)
              have m1285 := (Wr.neI wH1281 (Or.inl (G_ne gkq ga0 (by decide)))).trans m1168
              have m1286 := m1169.trans (Wr.neI wH1281 (Or.inl (G_ne gkq ga0 (by decide)))).symm
              have m1287 := m1160.trans (Wr.neR wH1281 (Or.inr (x_apart hKT hts inX4 tyX4 tyX4_ok nmX4 rfl 0 7 (by decide) (by decide) (by decide)))).symm
              have m1288 := m1161.trans (Wr.neR wH1281 (Or.inr (x_apart hKT hts inX4 tyX4 tyX4_ok nmX4 rfl 3 7 (by decide) (by decide) (by decide)))).symm
              have m1289 := m1162.trans (Wr.neR wH1281 (Or.inr (x_apart hKT hts inX4 tyX4 tyX4_ok nmX4 rfl 4 7 (by decide) (by decide) (by decide)))).symm
              have m1290 := m1163.trans (Wr.neI wH1281 (Or.inr (x_apart hKT hts inX4 tyX4 tyX4_ok nmX4 rfl 8 7 (by decide) (by decide) (by decide)))).symm
              have m1291 := m1164.trans (Wr.neI wH1281 (Or.inl (G_ne gmq ga0 (by decide)))).symm
              have m1293 := ex1159.trans (Wr.neI wH1281 (Or.inr (x_apart hKT hts inX4 tyX4 tyX4_ok nmX4 rfl 1 7 (by decide) (by decide) (by decide)))).symm
              have m1294 := ex1174.trans (Wr.neI wH1281 (Or.inl (G_ne gkq ga0 (by decide)))).symm
              have m1295 := Wr.I wH1281
              have m1295 := m1295.symm
              refine lv_aload_n hx hb dX4_part_98 rfl (lv_at hl1176 2 rfl) ?_
              refine x_V (As := []) (rest := []) C (a_X4_sum_e l K G H1281 (F) (x1280) (x1159) (lw) (li) kk vv hTH1281 ga0 gmq m1287 gkq m1288 gvq m1289 m1295 m1293 m1290 m1291 m1285 (by omega) (by omega) f1283 f1284) yo_X4_sum wM_X4_103 ⟨⟨by decide, by decide⟩, by decide, by decide⟩ (x_rv C hTH1281 (ci := 4) rfl ga0 rg_78) rfl hl1176.1 rfl (Nat.le_of_ble_eq_true rfl) dX4_part_99 hSH1281 (AE_sub (fun _ _ => rfl) (by decide) hSH1281.1) (fun vH1296 H1296 locsH1296 pH1296 zH1296 kH1296 hSH1296 => ?_)
              obtain ⟨x1297, x1298, x1299, hvH1296, bx1297, ex1298, ex1299, hrH1296, m1300, m1301, m1302, m1303, m1304, m1305, hTH1296⟩ := pH1296
              subst hvH1296
              have f1306 : ∀ j : Nat, j ≤ F.toNatClampNeg → kk j = (fI H1296 kq j).toInt := fun j hj => (f1283 j hj).trans (congrArg Int32.toInt (fI_kept (x_lt hTH1281 kH1296 gkq (by decide))).symm)
              have f1307 : ∀ j : Nat, j ≤ F.toNatClampNeg → vv j = (fI H1296 vq j).toInt := fun j hj => (f1284 j hj).trans (congrArg Int32.toInt (fI_kept (x_lt hTH1281 kH1296 gvq (by decide))).symm)
              have m1308 := (fI_kept (x_lt hTH1281 kH1296 gkq (by decide))).trans m1285
              have m1309 := (m1286).trans (fI_kept (x_lt hTH1281 kH1296 gkq (by decide))).symm
              have m1310 := (m1294).trans (fI_kept (x_lt hTH1281 kH1296 gkq (by decide))).symm
              have bx1298 := ty_fi (x := x1298) (k := 7) ex1298 hTH1296 ga0 rg_78 rfl
              have bx1299 := ty_fi (x := x1299) (k := 1) ex1299 hTH1296 ga0 rg_78 rfl
              refine W.eq (g2 := F0 m 102 ls1175 [.int x1297]) rfl ?_
              refine lv_if_ne (tgt := 107) hx hb dX4_part_102 (by decide) (fun c1311 => ?_) (fun c1311 => ?_)
              · have k1312 := i_ne c1311
                refine lv_aload_n hx hb dX4_part_107 rfl (lv_at hl1176 2 rfl) ?_
                refine x_gr C hTH1296 (ci := 4) (k := 0) rfl inX4 (by decide) wF_X4_12 ga0 rg_78 rfl dX4_part_108 (fun q1313 eq1313 gq1313 => ?_)
                have uq1313 : mq = q1313 := (m1300).trans eq1313.symm
                subst uq1313
                refine lv_iload_n hx hb dX4_part_111 rfl (lv_at hl1176 0 rfl) ?_
                refine lv_iconst (v := 0) hx hb dX4_part_112 (by decide) ?_
                refine x_V (As := [.int x1174, .int 0]) (rest := []) C (a_X7_addStep_e l K G H1296 (x1174) (0) (li) hTH1296 gmq m1304) yo_X7_addStep wM_X4_131 ⟨⟨by decide, by decide⟩, by decide, by decide⟩ (x_rv C hTH1296 (ci := 7) rfl gmq rg_69) rfl hl1176.1 rfl (Nat.le_of_ble_eq_true rfl) dX4_part_113 hSH1296 (AE_sub (fun _ _ => rfl) (by decide) hSH1296.1) (fun vH1314 H1314 locsH1314 pH1314 zH1314 kH1314 hSH1314 => ?_)
                obtain ⟨hvH1314, m1315, hTH1314⟩ := pH1314
                subst hvH1314
                have f1316 : ∀ j : Nat, j ≤ F.toNatClampNeg → kk j = (fI H1314 kq j).toInt := fun j hj => (f1306 j hj).trans (congrArg Int32.toInt (fI_kept (x_lt hTH1296 kH1314 gkq (by decide))).symm)
                have f1317 : ∀ j : Nat, j ≤ F.toNatClampNeg → vv j = (fI H1314 vq j).toInt := fun j hj => (f1307 j hj).trans (congrArg Int32.toInt (fI_kept (x_lt hTH1296 kH1314 gvq (by decide))).symm)
                have m1318 := (fI_kept (x_lt hTH1296 kH1314 gkq (by decide))).trans m1308
                have m1319 := (m1309).trans (fI_kept (x_lt hTH1296 kH1314 gkq (by decide))).symm
                have m1320 := (m1310).trans (fI_kept (x_lt hTH1296 kH1314 gkq (by decide))).symm
                have m1321 := (m1300).trans (fR_kept (x_lt hTH1296 kH1314 ga0 (by decide))).symm
                have m1322 := (m1301).trans (fR_kept (x_lt hTH1296 kH1314 ga0 (by decide))).symm
                have m1323 := (m1302).trans (fR_kept (x_lt hTH1296 kH1314 ga0 (by decide))).symm
                have m1324 := (m1303).trans (fI_kept (x_lt hTH1296 kH1314 ga0 (by decide))).symm
                have m1325 := (ex1298).trans (fI_kept (x_lt hTH1296 kH1314 ga0 (by decide))).symm
                have m1326 := (ex1299).trans (fI_kept (x_lt hTH1296 kH1314 ga0 (by decide))).symm
                refine W.eq (g2 := F0 m 116 ls1175 []) rfl ?_
                refine lv_iconst (v := 1) hx hb dX4_part_116 (by decide) ?_
                have cn_F := i_cl (x := F) (by omega)
                have cn_tat := i_cl (x := tat) (by omega)
                have cn_x1 := i_cl (x := x1) (by omega)
                have cn_x1280 := i_cl (x := x1280) (by omega)
                have cn_x1158 := i_cl (x := x1158) (by omega)
                exact x_zret C hQ (Or.inr rfl) dX4_part_117 hSH1314 (by decide) (by decide) (⟨1, x1298, x1299, rfl, by decide, m1325, m1326, by omega, m1321, m1322, m1323, m1324, m1315, Or.inr ⟨(pa_cp (by rw [qvx1119]; omega)).trans ((cp_go (RQ.yes m1165 (by omega)) (by rw [qvx1174]; omega) (show x1280.toNatClampNeg = _ + 1 by omega)).trans (RQ.yes m1305 (by omega))), by omega⟩, hTH1314⟩)
              · have k1312 := i_eq c1311
                refine lv_iconst (v := 0) hx hb dX4_part_105 (by decide) ?_
                have cn_F := i_cl (x := F) (by omega)
                have cn_tat := i_cl (x := tat) (by omega)
                have cn_x1 := i_cl (x := x1) (by omega)
                have cn_x1280 := i_cl (x := x1280) (by omega)
                have cn_x1158 := i_cl (x := x1158) (by omega)
                exact x_zret C hQ (Or.inl rfl) dX4_part_106 hSH1296 (by decide) (by decide) (⟨0, x1298, x1299, rfl, by decide, ex1298, ex1299, by omega, m1300, m1301, m1302, m1303, m1304, Or.inl ⟨(pa_cp (by rw [qvx1119]; omega)).trans ((cp_go (RQ.yes m1165 (by omega)) (by rw [qvx1174]; omega) (show x1280.toNatClampNeg = _ + 1 by omega)).trans (RQ.no m1305 (by omega))), by omega⟩, hTH1296⟩)
            · have k1278 := i_ne c1277
              refine lv_aload_n hx hb dX4_part_82 rfl (lv_at hl1176 2 rfl) ?_
              refine lv_iconst (v := 1) hx hb dX4_part_83 (by decide) ?_
              refine x_V (As := [.int 1]) (rest := []) C (a_X4_refuse_e l K G H1156 (1) (x1158) (x1159) (lw) hTH1156 ga0 gmq m1160 gkq m1161 gvq m1162 ex1158 ex1159 m1163) yo_X4_refuse wM_X4_81 ⟨⟨by decide, by decide⟩, by decide, by decide⟩ (x_rv C hTH1156 (ci := 4) rfl ga0 rg_78) rfl hl1176.1 rfl (Nat.le_of_ble_eq_true rfl) dX4_part_84 hSH1156 (AE_sub (fun _ _ => rfl) (by decide) hSH1156.1) (fun vH1327 H1327 locsH1327 pH1327 zH1327 kH1327 hSH1327 => ?_)
              obtain ⟨x1328, x1329, x1330, hvH1327, bx1328, ex1329, ex1330, hrH1327, m1331, m1332, m1333, m1334, hTH1327⟩ := pH1327
              subst hvH1327
              have f1335 : ∀ j : Nat, j ≤ F.toNatClampNeg → kk j = (fI H1327 kq j).toInt := fun j hj => (f1166 j hj).trans (congrArg Int32.toInt (fI_kept (x_lt hTH1156 kH1327 gkq (by decide))).symm)
              have f1336 : ∀ j : Nat, j ≤ F.toNatClampNeg → vv j = (fI H1327 vq j).toInt := fun j hj => (f1167 j hj).trans (congrArg Int32.toInt (fI_kept (x_lt hTH1156 kH1327 gvq (by decide))).symm)
              have m1337 := (fI_kept (x_lt hTH1156 kH1327 gkq (by decide))).trans m1168
              have m1338 := (m1169).trans (fI_kept (x_lt hTH1156 kH1327 gkq (by decide))).symm
              have m1339 := (m1164).trans (fI_kept (x_lt hTH1156 kH1327 gmq (by decide))).symm
              have m1340 := (ex1174).trans (fI_kept (x_lt hTH1156 kH1327 gkq (by decide))).symm
              have bx1329 := ty_fi (x := x1329) (k := 7) ex1329 hTH1327 ga0 rg_78 rfl
              have bx1330 := ty_fi (x := x1330) (k := 1) ex1330 hTH1327 ga0 rg_78 rfl
              refine W.eq (g2 := F0 m 87 ls1175 [.int x1328]) rfl ?_
              have cn_F := i_cl (x := F) (by omega)
              have cn_tat := i_cl (x := tat) (by omega)
              have cn_x1 := i_cl (x := x1) (by omega)
              exact x_zret C hQ (i_01 (by omega)) dX4_part_87 hSH1327 (by decide) (by decide) (⟨x1328, x1329, x1330, rfl, by omega, ex1329, ex1330, by omega, m1331, m1332, m1333, m1334, m1339, Or.inl ⟨(pa_cp (by rw [qvx1119]; omega)).trans (cp_no2 (RQ.yes m1165 (by omega)) (by rw [qvx1174]; omega)), by omega⟩, hTH1327⟩)
      · have k1171 := i_eq c1170
        refine lv_iconst (v := 0) hx hb dX4_part_52 (by decide) ?_
        have cn_F := i_cl (x := F) (by omega)
        have cn_tat := i_cl (x := tat) (by omega)
        have cn_x1 := i_cl (x := x1) (by omega)
        exact x_zret C hQ (Or.inl rfl) dX4_part_53 hSH1156 (by decide) (by decide) (⟨0, x1158, x1159, rfl, by decide, ex1158, ex1159, by omega, m1160, m1161, m1162, m1163, m1164, Or.inl ⟨(pa_cp (by rw [qvx1119]; omega)).trans (cp_no1 (RQ.no m1165 (by omega))), by omega⟩, hTH1156⟩)
    · have k1155 := i_eq c1154
      refine lv_iload_n hx hb dX4_part_22 rfl (lv_at hl1121 2 rfl) ?_
      refine lv_bipush (v := 8) hx hb dX4_part_23 (by decide) ?_
      refine lv_icmp_ge (tgt := 39) hx hb dX4_part_25 (by decide) (fun c1341 => ?_) (fun c1341 => ?_)
      · have k1342 := i_le c1341
        refine lv_aload_n hx hb dX4_part_39 rfl (lv_at hl1121 1 rfl) ?_
        refine lv_iconst (v := 3) hx hb dX4_part_40 (by decide) ?_
        refine x_V (As := [.int 3]) (rest := []) C (a_X4_refuse_e l K G s.heap (3) (tat) (fa) (lw) hT ga0 gmq emq gkq ekq gvq evq etat efa elw) yo_X4_refuse wM_X4_81 ⟨⟨by decide, by decide⟩, by decide, by decide⟩ (x_rv C hT (ci := 4) rfl ga0 rg_78) rfl hl1121.1 rfl (Nat.le_of_ble_eq_true rfl) dX4_part_41 hS (AE_sub (fun _ _ => rfl) (by decide) hS.1) (fun vH1343 H1343 locsH1343 pH1343 zH1343 kH1343 hSH1343 => ?_)
        obtain ⟨x1344, x1345, x1346, hvH1343, bx1344, ex1345, ex1346, hrH1343, m1347, m1348, m1349, m1350, hTH1343⟩ := pH1343
        subst hvH1343
        have f1351 : ∀ j : Nat, j ≤ F.toNatClampNeg → kk j = (fI H1343 kq j).toInt := fun j hj => (f0_kk j hj).trans (congrArg Int32.toInt (fI_kept (x_lt hT kH1343 gkq (by decide))).symm)
        have f1352 : ∀ j : Nat, j ≤ F.toNatClampNeg → vv j = (fI H1343 vq j).toInt := fun j hj => (f0_vv j hj).trans (congrArg Int32.toInt (fI_kept (x_lt hT kH1343 gvq (by decide))).symm)
        have m1353 := (eli).trans (fI_kept (x_lt hT kH1343 gmq (by decide))).symm
        have m1354 := (fI_kept (x_lt hT kH1343 gkq (by decide))).trans hel0
        have m1355 := (ex1119).trans (fI_kept (x_lt hT kH1343 gkq (by decide))).symm
        have bx1345 := ty_fi (x := x1345) (k := 7) ex1345 hTH1343 ga0 rg_78 rfl
        have bx1346 := ty_fi (x := x1346) (k := 1) ex1346 hTH1343 ga0 rg_78 rfl
        refine W.eq (g2 := F0 m 44 ls1120 [.int x1344]) rfl ?_
        have cn_F := i_cl (x := F) (by omega)
        have cn_tat := i_cl (x := tat) (by omega)
        have cn_x1 := i_cl (x := x1) (by omega)
        exact x_zret C hQ (i_01 (by omega)) dX4_part_44 hSH1343 (by decide) (by decide) (⟨x1344, x1345, x1346, rfl, by omega, ex1345, ex1346, by omega, m1347, m1348, m1349, m1350, m1353, Or.inl ⟨pa_deep (by omega) (by rw [qvx1119]; omega), by omega⟩, hTH1343⟩)
      · have k1342 := i_nle c1341
        refine lv_aload_n hx hb dX4_part_28 rfl (lv_at hl1121 1 rfl) ?_
        refine lv_iload_n hx hb dX4_part_29 rfl (lv_at hl1121 0 rfl) ?_
        refine lv_iload_n hx hb dX4_part_30 rfl (lv_at hl1121 2 rfl) ?_
        refine lv_iconst (v := 1) hx hb dX4_part_31 (by decide) ?_
        refine lv_iadd hx hb dX4_part_32 ?_
        refine lv_topi (fun x1356 ex1356 => ?_)
        have tx1356 := i_add ex1356 (by omega)
        refine x_V (As := [.int x1119, .int x1356]) (rest := []) C (a_X4_opened_e8 l K G s.heap (x1119) (x1356) (F) (tat) (fa) (lw) (li) kk vv hT ga0 (by omega) gmq emq gkq ekq gvq evq etat efa elw eli hel0 (by omega) (by omega) (by omega) f0_kk f0_vv) yo_X4_opened wM_X4_138 ⟨⟨by decide, by decide⟩, by decide, by decide⟩ (x_rv C hT (ci := 4) rfl ga0 rg_78) rfl hl1121.1 rfl (Nat.le_of_ble_eq_true rfl) dX4_part_33 hS (AE_sub (fun _ _ => rfl) (by decide) hS.1) (fun vH1357 H1357 locsH1357 pH1357 zH1357 kH1357 hSH1357 => ?_)
        obtain ⟨x1358, x1359, x1360, hvH1357, bx1358, ex1359, ex1360, hrH1357, m1361, m1362, m1363, m1364, m1365, m1366, hTH1357⟩ := pH1357
        subst hvH1357
        have f1367 : ∀ j : Nat, j ≤ F.toNatClampNeg → kk j = (fI H1357 kq j).toInt := fun j hj => (f0_kk j hj).trans (congrArg Int32.toInt (fI_kept (x_lt hT kH1357 gkq (by decide))).symm)
        have f1368 : ∀ j : Nat, j ≤ F.toNatClampNeg → vv j = (fI H1357 vq j).toInt := fun j hj => (f0_vv j hj).trans (congrArg Int32.toInt (fI_kept (x_lt hT kH1357 gvq (by decide))).symm)
        have m1369 := (fI_kept (x_lt hT kH1357 gkq (by decide))).trans hel0
        have m1370 := (ex1119).trans (fI_kept (x_lt hT kH1357 gkq (by decide))).symm
        have bx1359 := ty_fi (x := x1359) (k := 7) ex1359 hTH1357 ga0 rg_78 rfl
        have bx1360 := ty_fi (x := x1360) (k := 1) ex1360 hTH1357 ga0 rg_78 rfl
        refine W.eq (g2 := F0 m 36 ls1120 [.int x1358]) rfl ?_
        refine lv_goto (tgt := 44) hx hb dX4_part_36 (by decide) ?_
        have cn_F := i_cl (x := F) (by omega)
        have cn_tat := i_cl (x := tat) (by omega)
        have cn_x1 := i_cl (x := x1) (by omega)
        have cn_x1356 := i_cl (x := x1356) (by omega)
        exact x_zret C hQ (i_01 (by omega)) dX4_part_44 hSH1357 (by decide) (by decide) (⟨x1358, x1359, x1360, rfl, by omega, ex1359, ex1360, by omega, m1361, m1362, m1363, m1364, m1365, RQ.tr m1366 (pa_op (by omega) (qvx1119).symm (by rw [qvx1119]; omega)), hTH1357⟩)

set_option maxHeartbeats 4000000 in
set_option maxRecDepth 100000 in
theorem a_X4_both_e7 (l : Launch) (K : KE) (G : Nat → Option Nat) (H : Heap) {a0 : Nat} (x1 : Int32) {mq : Nat} {kq : Nat} {vq : Nat} (F : Int32) (tat : Int32) (fa : Int32) (lw : Int32) (li : Int32) (kk : Nat → Int) (vv : Nat → Int) (hT : TY K G H) (ga0 : G a0 = some 78) (hx1 : 7 ≤ x1.toInt ∧ x1.toInt ≤ 8) (gmq : G mq = some 69) (emq : mq = fR H a0 (K.1.2 4 0)) (gkq : G kq = some 79) (ekq : kq = fR H a0 (K.1.2 4 3)) (gvq : G vq = some 80) (evq : vq = fR H a0 (K.1.2 4 4)) (etat : tat = fI H a0 (K.1.2 4 7)) (efa : fa = fI H a0 (K.1.2 4 1)) (elw : lw = fI H a0 (K.1.2 4 8)) (eli : li = fI H mq (K.1.2 7 0)) (hel0 : fI H kq (F : Int32).toNatClampNeg = 26) (hp0 : tat.toInt ≤ F.toInt) (hp1 : F.toInt ≤ 500) (hv_kk : ∀ j : Nat, j ≤ F.toNatClampNeg → kk j = (fI H kq j).toInt) (hv_vv : ∀ j : Nat, j ≤ F.toNatClampNeg → vv j = (fI H vq j).toInt) : MX l K yX4_both cX4_both 3 (some .boolean) 8 180 0 0 [.ref a0, .int x1] H (AE G [78, 69, 77] H.size) (fun v H1 => ∃ (r : Int32) (t0 : Int32) (t1 : Int32), v = some (.int r) ∧ (0 ≤ r.toInt ∧ r.toInt ≤ 1) ∧ t0 = fI H1 a0 (K.1.2 4 7) ∧ t1 = fI H1 a0 (K.1.2 4 1) ∧ (t0.toInt ≤ F.toInt ∧ ((r.toInt = 1 ∧ t1.toInt = fa.toInt ∧ tat.toInt < t0.toInt) ∨ (r.toInt = 0 ∧ t1.toInt ≠ 0))) ∧ mq = fR H1 a0 (K.1.2 4 0) ∧ kq = fR H1 a0 (K.1.2 4 3) ∧ vq = fR H1 a0 (K.1.2 4 4) ∧ lw = fI H1 a0 (K.1.2 4 8) ∧ li = fI H1 mq (K.1.2 7 0) ∧ (RQ (lpI (paS kk vv lw.toInt (8 - x1.toNatClampNeg)) (cAN kk) tat.toNatClampNeg) r t0) ∧ TY K G H1) := by
  refine MX.of (by decide +kernel) (Nat.le_of_ble_eq_true rfl) ?_
  intro p e s m below meth c ls Q C hH hl hQ
  subst hH
  have C : CX p K s m _ meth c RX4 cX4_both 3 (some .boolean) "both" := C
  obtain ⟨hx, hb, hml, hown, hts, hKT, hr, hlocks, hnm⟩ := id C
  have hl : lv_has ls 3 [(0, .ref a0), (1, .int x1)] := hl
  have hS : va_S (AE G [78, 69, 77] s.heap.size) s.heap s.heap [] := va_S.rf
  have n_0 : (0 : Int32).toInt = 0 := rfl
  have n_1 : (1 : Int32).toInt = 1 := rfl
  have n_9 : (9 : Int32).toInt = 9 := rfl
  have n_26 : (26 : Int32).toInt = 26 := rfl
  have n_500 : (500 : Int32).toInt = 500 := rfl
  have btat := ty_fi (x := tat) (k := 7) etat hT ga0 rg_78 rfl
  have bfa := ty_fi (x := fa) (k := 1) efa hT ga0 rg_78 rfl
  have blw := ty_fi (x := lw) (k := 8) elw hT ga0 rg_78 rfl
  have bli := ty_fi (x := li) (k := 0) eli hT gmq rg_69 rfl
  have hsp0 : lpI (paS kk vv lw.toInt (8 - x1.toNatClampNeg)) (cAN kk) tat.toNatClampNeg = lpI (paS kk vv lw.toInt (8 - x1.toNatClampNeg)) (cAN kk) tat.toNatClampNeg := rfl
  have f0_kk := hv_kk
  have f0_vv := hv_vv
  have J12 : ∀ (nf : Nat)  (ls1562 : Array Slot) (H1561 : Heap) (locsH1561 : List Loc) (x1564 : Int32) (x1565 : Int32) (x1566 : Int32), lv_has ls1562 3 [(0, .ref a0), (1, .int x1), (2, .int x1564)] → TY K G H1561 → va_S (AE G [78, 69, 77] s.heap.size) s.heap H1561 locsH1561 → (0 ≤ x1564.toInt ∧ x1564.toInt ≤ 500) → (0 ≤ x1565.toInt ∧ x1565.toInt ≤ 500) → (x1565 = fI H1561 a0 (K.1.2 4 7)) → (x1566 = fI H1561 a0 (K.1.2 4 1)) → (mq = fR H1561 a0 (K.1.2 4 0)) → (kq = fR H1561 a0 (K.1.2 4 3)) → (vq = fR H1561 a0 (K.1.2 4 4)) → (lw = fI H1561 a0 (K.1.2 4 8)) → (li = fI H1561 mq (K.1.2 7 0)) → (fI H1561 kq (F : Int32).toNatClampNeg = 26) → (∀ j : Nat, j ≤ F.toNatClampNeg → kk j = (fI H1561 kq j).toInt) → (∀ j : Nat, j ≤ F.toNatClampNeg → vv j = (fI H1561 vq j).toInt) → (500 - x1564.toInt < (nf : Int)) → (2 * x1564.toInt ≤ x1565.toInt ∧ tat.toInt < x1565.toInt ∧ x1565.toInt ≤ F.toInt ∧ x1566.toInt = fa.toInt) → (lpI (paS kk vv lw.toInt (8 - x1.toNatClampNeg)) (cAN kk) tat.toNatClampNeg = (if cAN kk x1565.toNatClampNeg = true then lpI (paS kk vv lw.toInt (8 - x1.toNatClampNeg)) (cAN kk) (x1565.toNatClampNeg + 1) else some x1565.toNatClampNeg)) → W p l e ({ frames := 8, cells := 0, slots := 0, locals := 180 } : Room) s m (([.ref a0, .int x1] : List Value).toArray) below meth c H1561 locsH1561 0 0 Q (F0 m 12 ls1562 []) := by
    intro nf
    induction nf with
    | zero =>
      intro  ls1562 H1561 locsH1561 x1564 x1565 x1566 hl1563 hTH1561 hSH1561 bx1564 bx1565 ex1565 ex1566 cy1567_0 cy1567_1 cy1567_2 cy1567_3 cy1567_4 cy1567_5 fy1567_kk fy1567_vv hm12 iv12 hsp12
      have rx1566 := i_rng x1566
      exfalso
      omega
    | succ nf ih12 =>
      intro  ls1562 H1561 locsH1561 x1564 x1565 x1566 hl1563 hTH1561 hSH1561 bx1564 bx1565 ex1565 ex1566 cy1567_0 cy1567_1 cy1567_2 cy1567_3 cy1567_4 cy1567_5 fy1567_kk fy1567_vv hm12 iv12 hsp12
      have rx1566 := i_rng x1566
      refine lv_iload_n hx hb dX4_both_12 rfl (lv_at hl1563 2 rfl) ?_
      refine lv_sipush (v := 500) hx hb dX4_both_13 (by decide) ?_
      refine lv_icmp_ge (tgt := 69) hx hb dX4_both_16 (by decide) (fun c1568 => ?_) (fun c1568 => ?_)
      · have k1569 := i_le c1568
        refine lv_iconst (v := 1) hx hb dX4_both_69 (by decide) ?_
        have cn_F := i_cl (x := F) (by omega)
        have cn_x1 := i_cl (x := x1) (by omega)
        have cn_x1565 := i_cl (x := x1565) (by omega)
        exact x_zret C hQ (Or.inr rfl) dX4_both_70 hSH1561 (by decide) (by decide) (⟨1, x1565, x1566, rfl, by decide, ex1565, ex1566, by omega, cy1567_0, cy1567_1, cy1567_2, cy1567_3, cy1567_4, (by first | (exfalso; omega) | exact Or.inr ⟨hsp12.trans (if_n (show cAN kk _ = false from decide_eq_false (by omega))), by omega⟩), hTH1561⟩)
      · have k1569 := i_nle c1568
        refine lv_aload_n hx hb dX4_both_19 rfl (lv_at hl1563 0 rfl) ?_
        refine x_gr C hTH1561 (ci := 4) (k := 3) rfl inX4 (by decide) wF_X4_18 ga0 rg_78 rfl dX4_both_20 (fun q1570 eq1570 gq1570 => ?_)
        have uq1570 : kq = q1570 := (cy1567_1).trans eq1570.symm
        subst uq1570
        refine lv_aload_n hx hb dX4_both_23 rfl (lv_at hl1563 0 rfl) ?_
        refine x_gi C hTH1561 (ci := 4) (k := 7) rfl inX4 (by decide) wF_X4_42 ga0 rg_78 rfl dX4_both_24 (fun x1571 ex1571 bx1571 => ?_)
        have ux1571 : x1565 = x1571 := (ex1565).trans ex1571.symm
        subst ux1571
        refine x_ai C hTH1561 gkq rg_79 ⟨by omega, by show _ < ((501 : Nat) : Int); omega⟩ dX4_both_27 (fun x1572 ex1572 bx1572 => ?_)
        have dx1572 := el_hit ex1572 cy1567_5
        have qvx1572 : kk x1565.toNatClampNeg = x1572.toInt := (fy1567_kk _ (by have h1 := i_cl (x := x1565) (by omega); have h2 := i_cl (x := F) (by omega); omega)).trans (congrArg Int32.toInt ex1572.symm)
        refine lv_bipush (v := 9) hx hb dX4_both_28 (by decide) ?_
        refine lv_icmp_ne (tgt := 69) hx hb dX4_both_30 (by decide) (fun c1573 => ?_) (fun c1573 => ?_)
        · have k1574 := i_ne c1573
          refine lv_iconst (v := 1) hx hb dX4_both_69 (by decide) ?_
          have cn_F := i_cl (x := F) (by omega)
          have cn_x1 := i_cl (x := x1) (by omega)
          have cn_x1565 := i_cl (x := x1565) (by omega)
          exact x_zret C hQ (Or.inr rfl) dX4_both_70 hSH1561 (by decide) (by decide) (⟨1, x1565, x1566, rfl, by decide, ex1565, ex1566, by omega, cy1567_0, cy1567_1, cy1567_2, cy1567_3, cy1567_4, (by first | (exfalso; omega) | exact Or.inr ⟨hsp12.trans (if_n (show cAN kk _ = false from decide_eq_false (by omega))), by omega⟩), hTH1561⟩)
        · have k1574 := i_eq c1573
          refine lv_aload_n hx hb dX4_both_33 rfl (lv_at hl1563 0 rfl) ?_
          refine lv_dup hx hb dX4_both_34 rfl ?_
          refine x_gi C hTH1561 (ci := 4) (k := 7) rfl inX4 (by decide) wF_X4_42 ga0 rg_78 rfl dX4_both_35 (fun x1575 ex1575 bx1575 => ?_)
          have ux1575 : x1565 = x1575 := (ex1565).trans ex1575.symm
          subst ux1575
          refine lv_iconst (v := 1) hx hb dX4_both_38 (by decide) ?_
          refine lv_iadd hx hb dX4_both_39 ?_
          refine lv_topi (fun x1576 ex1576 => ?_)
          have tx1576 := i_add ex1576 (by omega)
          have fz1578 : 0 ≤ x1576.toInt ∧ x1576.toInt ≤ 500 := by have := i_rng x1576; omega
          refine x_put C hTH1561 hSH1561 (ci := 4) (k := 7) (v := .int x1576) (ty0 := tyX4) rfl inX4 tyX4_ok nmX4 (by decide) rfl wF_X4_42 ga0 rg_78 rfl rfl (okI (by have := i_rng x1576; omega) (by have := i_rng x1576; omega)) rfl rfl (AE_in ga0 (by decide)) dX4_both_40 (fun H1577 locsH1577 hTH1577 hSH1577 wH1577 => ?_)
          have f1579 : ∀ j : Nat, j ≤ F.toNatClampNeg → kk j = (fI H1577 kq j).toInt := fun j hj => (fy1567_kk j hj).trans (congrArg Int32.toInt (Wr.neI wH1577 (Or.inl (G_ne gkq ga0 (by decide)))).symm)
          have f1580 : ∀ j : Nat, j ≤ F.toNatClampNeg → vv j = (fI H1577 vq j).toInt := fun j hj => (fy1567_vv j hj).trans (congrArg Int32.toInt (Wr.neI wH1577 (Or.inl (G_ne gvq ga0 (by decide)))).symm)
          have m1582 := ex1566.trans (Wr.neI wH1577 (Or.inr (x_apart hKT hts inX4 tyX4 tyX4_ok nmX4 rfl 1 7 (by decide) (by decide) (by decide)))).symm
          have m1583 := cy1567_0.trans (Wr.neR wH1577 (Or.inr (x_apart hKT hts inX4 tyX4 tyX4_ok nmX4 rfl 0 7 (by decide) (by decide) (by decide)))).symm
          have m1584 := cy1567_1.trans (Wr.neR wH1577 (Or.inr (x_apart hKT hts inX4 tyX4 tyX4_ok nmX4 rfl 3 7 (by decide) (by decide) (by decide)))).symm
          have m1585 := cy1567_2.trans (Wr.neR wH1577 (Or.inr (x_apart hKT hts inX4 tyX4 tyX4_ok nmX4 rfl 4 7 (by decide) (by decide) (by decide)))).symm
          have m1586 := cy1567_3.trans (Wr.neI wH1577 (Or.inr (x_apart hKT hts inX4 tyX4 tyX4_ok nmX4 rfl 8 7 (by decide) (by decide) (by decide)))).symm
          have m1587 := cy1567_4.trans (Wr.neI wH1577 (Or.inl (G_ne gmq ga0 (by decide)))).symm
          have m1588 := (Wr.neI wH1577 (Or.inl (G_ne gkq ga0 (by decide)))).trans cy1567_5
          have m1589 := ex1572.trans (Wr.neI wH1577 (Or.inl (G_ne gkq ga0 (by decide)))).symm
          have m1590 := Wr.I wH1577
          have m1590 := m1590.symm
          refine lv_aload_n hx hb dX4_both_43 rfl (lv_at hl1563 0 rfl) ?_
          refine lv_iload_n hx hb dX4_both_44 rfl (lv_at hl1563 1 rfl) ?_
          refine x_V (As := [.int x1]) (rest := []) C (a_X4_part_e7 l K G H1577 (x1) (F) (x1576) (x1566) (lw) (li) kk vv hTH1577 ga0 (by omega) gmq m1583 gkq m1584 gvq m1585 m1590 m1582 m1586 m1587 m1588 (by omega) (by omega) f1579 f1580) yo_X4_part wM_X4_135 ⟨⟨by decide, by decide⟩, by decide, by decide⟩ (x_rv C hTH1577 (ci := 4) rfl ga0 rg_78) rfl hl1563.1 rfl (Nat.le_of_ble_eq_true rfl) dX4_both_45 hSH1577 (AE_sub (fun _ _ => rfl) (by decide) hSH1577.1) (fun vH1591 H1591 locsH1591 pH1591 zH1591 kH1591 hSH1591 => ?_)
          obtain ⟨x1592, x1593, x1594, hvH1591, bx1592, ex1593, ex1594, hrH1591, m1595, m1596, m1597, m1598, m1599, m1600, hTH1591⟩ := pH1591
          subst hvH1591
          have f1601 : ∀ j : Nat, j ≤ F.toNatClampNeg → kk j = (fI H1591 kq j).toInt := fun j hj => (f1579 j hj).trans (congrArg Int32.toInt (fI_kept (x_lt hTH1577 kH1591 gkq (by decide))).symm)
          have f1602 : ∀ j : Nat, j ≤ F.toNatClampNeg → vv j = (fI H1591 vq j).toInt := fun j hj => (f1580 j hj).trans (congrArg Int32.toInt (fI_kept (x_lt hTH1577 kH1591 gvq (by decide))).symm)
          have m1603 := (fI_kept (x_lt hTH1577 kH1591 gkq (by decide))).trans m1588
          have m1604 := (m1589).trans (fI_kept (x_lt hTH1577 kH1591 gkq (by decide))).symm
          have bx1593 := ty_fi (x := x1593) (k := 7) ex1593 hTH1591 ga0 rg_78 rfl
          have bx1594 := ty_fi (x := x1594) (k := 1) ex1594 hTH1591 ga0 rg_78 rfl
          refine W.eq (g2 := F0 m 48 ls1562 [.int x1592]) rfl ?_
          refine lv_if_ne (tgt := 53) hx hb dX4_both_48 (by decide) (fun c1605 => ?_) (fun c1605 => ?_)
          · have k1606 := i_ne c1605
            refine lv_aload_n hx hb dX4_both_53 rfl (lv_at hl1563 0 rfl) ?_
            refine x_gr C hTH1591 (ci := 4) (k := 0) rfl inX4 (by decide) wF_X4_12 ga0 rg_78 rfl dX4_both_54 (fun q1607 eq1607 gq1607 => ?_)
            have uq1607 : mq = q1607 := (m1595).trans eq1607.symm
            subst uq1607
            refine lv_bipush (v := 9) hx hb dX4_both_57 (by decide) ?_
            refine lv_iconst (v := 0) hx hb dX4_both_59 (by decide) ?_
            refine x_V (As := [.int 9, .int 0]) (rest := []) C (a_X7_addStep_e l K G H1591 (9) (0) (li) hTH1591 gmq m1599) yo_X7_addStep wM_X4_131 ⟨⟨by decide, by decide⟩, by decide, by decide⟩ (x_rv C hTH1591 (ci := 7) rfl gmq rg_69) rfl hl1563.1 rfl (Nat.le_of_ble_eq_true rfl) dX4_both_60 hSH1591 (AE_sub (fun _ _ => rfl) (by decide) hSH1591.1) (fun vH1608 H1608 locsH1608 pH1608 zH1608 kH1608 hSH1608 => ?_)
            obtain ⟨hvH1608, m1609, hTH1608⟩ := pH1608
            subst hvH1608
            have f1610 : ∀ j : Nat, j ≤ F.toNatClampNeg → kk j = (fI H1608 kq j).toInt := fun j hj => (f1601 j hj).trans (congrArg Int32.toInt (fI_kept (x_lt hTH1591 kH1608 gkq (by decide))).symm)
            have f1611 : ∀ j : Nat, j ≤ F.toNatClampNeg → vv j = (fI H1608 vq j).toInt := fun j hj => (f1602 j hj).trans (congrArg Int32.toInt (fI_kept (x_lt hTH1591 kH1608 gvq (by decide))).symm)
            have m1612 := (fI_kept (x_lt hTH1591 kH1608 gkq (by decide))).trans m1603
            have m1613 := (m1604).trans (fI_kept (x_lt hTH1591 kH1608 gkq (by decide))).symm
            have m1614 := (m1595).trans (fR_kept (x_lt hTH1591 kH1608 ga0 (by decide))).symm
            have m1615 := (m1596).trans (fR_kept (x_lt hTH1591 kH1608 ga0 (by decide))).symm
            have m1616 := (m1597).trans (fR_kept (x_lt hTH1591 kH1608 ga0 (by decide))).symm
            have m1617 := (m1598).trans (fI_kept (x_lt hTH1591 kH1608 ga0 (by decide))).symm
            have m1618 := (ex1593).trans (fI_kept (x_lt hTH1591 kH1608 ga0 (by decide))).symm
            have m1619 := (ex1594).trans (fI_kept (x_lt hTH1591 kH1608 ga0 (by decide))).symm
            refine W.eq (g2 := F0 m 63 ls1562 []) rfl ?_
            obtain ⟨x1620, ex1620⟩ : ∃ y : Int32, y = x1564 + 1 := ⟨_, rfl⟩
            have tx1620 := i_add ex1620 (by omega)
            refine lv_iinc (v := x1620) (lv' := [(2, .int x1620), (0, .ref a0), (1, .int x1)]) hx hb dX4_both_63 hl1563 (k := 2) rfl (by rw [ex1620]; rfl) (by decide) rfl (fun ls1621 hl1622 => ?_)
            refine lv_goto (tgt := 12) hx hb dX4_both_66 (by decide) ?_
            have cn_F := i_cl (x := F) (by omega)
            have cn_x1565 := i_cl (x := x1565) (by omega)
            have cn_x1576 := i_cl (x := x1576) (by omega)
            exact ih12  ls1621 H1608 locsH1608 (x1620) (x1593) (x1594) (lv_sub hl1622 [1, 2, 0] rfl) hTH1608 hSH1608 (by have := i_rng x1620; omega) (by have := i_rng x1593; omega) m1618 m1619 m1614 m1615 m1616 m1617 m1609 m1612 f1610 f1611 (by omega) (by omega) (hsp12.trans (by rw [if_y (show cAN kk _ = true from decide_eq_true (by omega)), show x1565.toNatClampNeg + 1 = x1576.toNatClampNeg by omega]; exact lp_if (paS_gp _) (RQ.yes m1600 (by omega))))
          · have k1606 := i_eq c1605
            refine lv_iconst (v := 0) hx hb dX4_both_51 (by decide) ?_
            have cn_F := i_cl (x := F) (by omega)
            have cn_x1 := i_cl (x := x1) (by omega)
            have cn_x1565 := i_cl (x := x1565) (by omega)
            have cn_x1576 := i_cl (x := x1576) (by omega)
            exact x_zret C hQ (Or.inl rfl) dX4_both_52 hSH1591 (by decide) (by decide) (⟨0, x1593, x1594, rfl, by decide, ex1593, ex1594, by omega, m1595, m1596, m1597, m1598, m1599, Or.inl ⟨hsp12.trans ((if_y (show cAN kk _ = true from decide_eq_true (by omega))).trans (by rw [show x1565.toNatClampNeg + 1 = x1576.toNatClampNeg by omega]; exact lp_none (paS_gp _) (RQ.no m1600 (by omega)))), by omega⟩, hTH1591⟩)
  refine lv_aload_n hx hb dX4_both_0 rfl (lv_at hl 0 rfl) ?_
  refine lv_iload_n hx hb dX4_both_1 rfl (lv_at hl 1 rfl) ?_
  refine x_V (As := [.int x1]) (rest := []) C (a_X4_part_e7 l K G s.heap (x1) (F) (tat) (fa) (lw) (li) kk vv hT ga0 (by omega) gmq emq gkq ekq gvq evq etat efa elw eli hel0 (by omega) (by omega) f0_kk f0_vv) yo_X4_part wM_X4_135 ⟨⟨by decide, by decide⟩, by decide, by decide⟩ (x_rv C hT (ci := 4) rfl ga0 rg_78) rfl hl.1 rfl (Nat.le_of_ble_eq_true rfl) dX4_both_2 hS (AE_sub (fun _ _ => rfl) (by decide) hS.1) (fun vH1623 H1623 locsH1623 pH1623 zH1623 kH1623 hSH1623 => ?_)
  obtain ⟨x1624, x1625, x1626, hvH1623, bx1624, ex1625, ex1626, hrH1623, m1627, m1628, m1629, m1630, m1631, m1632, hTH1623⟩ := pH1623
  subst hvH1623
  have f1633 : ∀ j : Nat, j ≤ F.toNatClampNeg → kk j = (fI H1623 kq j).toInt := fun j hj => (f0_kk j hj).trans (congrArg Int32.toInt (fI_kept (x_lt hT kH1623 gkq (by decide))).symm)
  have f1634 : ∀ j : Nat, j ≤ F.toNatClampNeg → vv j = (fI H1623 vq j).toInt := fun j hj => (f0_vv j hj).trans (congrArg Int32.toInt (fI_kept (x_lt hT kH1623 gvq (by decide))).symm)
  have m1635 := (fI_kept (x_lt hT kH1623 gkq (by decide))).trans hel0
  have bx1625 := ty_fi (x := x1625) (k := 7) ex1625 hTH1623 ga0 rg_78 rfl
  have bx1626 := ty_fi (x := x1626) (k := 1) ex1626 hTH1623 ga0 rg_78 rfl
  refine W.eq (g2 := F0 m 5 ls [.int x1624]) rfl ?_
  refine lv_if_ne (tgt := 10) hx hb dX4_both_5 (by decide) (fun c1636 => ?_) (fun c1636 => ?_)
  · have k1637 := i_ne c1636
    refine lv_iconst (v := 0) hx hb dX4_both_10 (by decide) ?_
    refine lv_istore_n (lv' := [(2, .int 0), (0, .ref a0), (1, .int x1)]) hx hb dX4_both_11 rfl hl (by decide) rfl (fun ls1638 hl1639 => ?_)
    have cn_F := i_cl (x := F) (by omega)
    exact J12 ((500 - (0 : Int32).toInt).toNat + 1)  ls1638 H1623 locsH1623 (0) (x1625) (x1626) (lv_sub hl1639 [1, 2, 0] rfl) hTH1623 hSH1623 (by decide) (by have := i_rng x1625; omega) ex1625 ex1626 m1627 m1628 m1629 m1630 m1631 m1635 f1633 f1634 (by omega) (by omega) (hsp0.trans (by exact lp_if (paS_gp _) (RQ.yes m1632 (by omega))))
  · have k1637 := i_eq c1636
    refine lv_iconst (v := 0) hx hb dX4_both_8 (by decide) ?_
    have cn_F := i_cl (x := F) (by omega)
    have cn_x1 := i_cl (x := x1) (by omega)
    exact x_zret C hQ (Or.inl rfl) dX4_both_9 hSH1623 (by decide) (by decide) (⟨0, x1625, x1626, rfl, by decide, ex1625, ex1626, by omega, m1627, m1628, m1629, m1630, m1631, Or.inl ⟨hsp0.trans (lp_none (paS_gp _) (RQ.no m1632 (by omega))), by omega⟩, hTH1623⟩)

set_option maxHeartbeats 4000000 in
set_option maxRecDepth 100000 in
theorem a_X4_either_e7 (l : Launch) (K : KE) (G : Nat → Option Nat) (H : Heap) {a0 : Nat} (x1 : Int32) {mq : Nat} {kq : Nat} {vq : Nat} (F : Int32) (tat : Int32) (fa : Int32) (lw : Int32) (li : Int32) (kk : Nat → Int) (vv : Nat → Int) (hT : TY K G H) (ga0 : G a0 = some 78) (hx1 : 7 ≤ x1.toInt ∧ x1.toInt ≤ 8) (gmq : G mq = some 69) (emq : mq = fR H a0 (K.1.2 4 0)) (gkq : G kq = some 79) (ekq : kq = fR H a0 (K.1.2 4 3)) (gvq : G vq = some 80) (evq : vq = fR H a0 (K.1.2 4 4)) (etat : tat = fI H a0 (K.1.2 4 7)) (efa : fa = fI H a0 (K.1.2 4 1)) (elw : lw = fI H a0 (K.1.2 4 8)) (eli : li = fI H mq (K.1.2 7 0)) (hel0 : fI H kq (F : Int32).toNatClampNeg = 26) (hp0 : tat.toInt ≤ F.toInt) (hp1 : F.toInt ≤ 500) (hv_kk : ∀ j : Nat, j ≤ F.toNatClampNeg → kk j = (fI H kq j).toInt) (hv_vv : ∀ j : Nat, j ≤ F.toNatClampNeg → vv j = (fI H vq j).toInt) : MX l K yX4_either cX4_either 3 (some .boolean) 9 202 0 0 [.ref a0, .int x1] H (AE G [78, 69, 77] H.size) (fun v H1 => ∃ (r : Int32) (t0 : Int32) (t1 : Int32), v = some (.int r) ∧ (0 ≤ r.toInt ∧ r.toInt ≤ 1) ∧ t0 = fI H1 a0 (K.1.2 4 7) ∧ t1 = fI H1 a0 (K.1.2 4 1) ∧ (t0.toInt ≤ F.toInt ∧ ((r.toInt = 1 ∧ t1.toInt = fa.toInt ∧ tat.toInt < t0.toInt) ∨ (r.toInt = 0 ∧ t1.toInt ≠ 0))) ∧ mq = fR H1 a0 (K.1.2 4 0) ∧ kq = fR H1 a0 (K.1.2 4 3) ∧ vq = fR H1 a0 (K.1.2 4 4) ∧ lw = fI H1 a0 (K.1.2 4 8) ∧ li = fI H1 mq (K.1.2 7 0) ∧ (RQ (lpI (paS kk vv lw.toInt (8 - x1.toNatClampNeg)) (cAO kk) tat.toNatClampNeg) r t0) ∧ TY K G H1) := by
  refine MX.of (by decide +kernel) (Nat.le_of_ble_eq_true rfl) ?_
  intro p e s m below meth c ls Q C hH hl hQ
  subst hH
  have C : CX p K s m _ meth c RX4 cX4_either 3 (some .boolean) "either" := C
  obtain ⟨hx, hb, hml, hown, hts, hKT, hr, hlocks, hnm⟩ := id C
  have hl : lv_has ls 3 [(0, .ref a0), (1, .int x1)] := hl
  have hS : va_S (AE G [78, 69, 77] s.heap.size) s.heap s.heap [] := va_S.rf
  have n_0 : (0 : Int32).toInt = 0 := rfl
  have n_1 : (1 : Int32).toInt = 1 := rfl
  have n_8 : (8 : Int32).toInt = 8 := rfl
  have n_26 : (26 : Int32).toInt = 26 := rfl
  have n_500 : (500 : Int32).toInt = 500 := rfl
  have btat := ty_fi (x := tat) (k := 7) etat hT ga0 rg_78 rfl
  have bfa := ty_fi (x := fa) (k := 1) efa hT ga0 rg_78 rfl
  have blw := ty_fi (x := lw) (k := 8) elw hT ga0 rg_78 rfl
  have bli := ty_fi (x := li) (k := 0) eli hT gmq rg_69 rfl
  have hsp0 : lpI (paS kk vv lw.toInt (8 - x1.toNatClampNeg)) (cAO kk) tat.toNatClampNeg = lpI (paS kk vv lw.toInt (8 - x1.toNatClampNeg)) (cAO kk) tat.toNatClampNeg := rfl
  have f0_kk := hv_kk
  have f0_vv := hv_vv
  have J12 : ∀ (nf : Nat)  (ls1562 : Array Slot) (H1561 : Heap) (locsH1561 : List Loc) (x1564 : Int32) (x1565 : Int32) (x1566 : Int32), lv_has ls1562 3 [(0, .ref a0), (1, .int x1), (2, .int x1564)] → TY K G H1561 → va_S (AE G [78, 69, 77] s.heap.size) s.heap H1561 locsH1561 → (0 ≤ x1564.toInt ∧ x1564.toInt ≤ 500) → (0 ≤ x1565.toInt ∧ x1565.toInt ≤ 500) → (x1565 = fI H1561 a0 (K.1.2 4 7)) → (x1566 = fI H1561 a0 (K.1.2 4 1)) → (mq = fR H1561 a0 (K.1.2 4 0)) → (kq = fR H1561 a0 (K.1.2 4 3)) → (vq = fR H1561 a0 (K.1.2 4 4)) → (lw = fI H1561 a0 (K.1.2 4 8)) → (li = fI H1561 mq (K.1.2 7 0)) → (fI H1561 kq (F : Int32).toNatClampNeg = 26) → (∀ j : Nat, j ≤ F.toNatClampNeg → kk j = (fI H1561 kq j).toInt) → (∀ j : Nat, j ≤ F.toNatClampNeg → vv j = (fI H1561 vq j).toInt) → (500 - x1564.toInt < (nf : Int)) → (2 * x1564.toInt ≤ x1565.toInt ∧ tat.toInt < x1565.toInt ∧ x1565.toInt ≤ F.toInt ∧ x1566.toInt = fa.toInt) → (lpI (paS kk vv lw.toInt (8 - x1.toNatClampNeg)) (cAO kk) tat.toNatClampNeg = (if cOR kk x1565.toNatClampNeg = true then lpI (paS kk vv lw.toInt (8 - x1.toNatClampNeg)) (cAO kk) (x1565.toNatClampNeg + 1) else some x1565.toNatClampNeg)) → W p l e ({ frames := 9, cells := 0, slots := 0, locals := 202 } : Room) s m (([.ref a0, .int x1] : List Value).toArray) below meth c H1561 locsH1561 0 0 Q (F0 m 12 ls1562 []) := by
    intro nf
    induction nf with
    | zero =>
      intro  ls1562 H1561 locsH1561 x1564 x1565 x1566 hl1563 hTH1561 hSH1561 bx1564 bx1565 ex1565 ex1566 cy1567_0 cy1567_1 cy1567_2 cy1567_3 cy1567_4 cy1567_5 fy1567_kk fy1567_vv hm12 iv12 hsp12
      have rx1566 := i_rng x1566
      exfalso
      omega
    | succ nf ih12 =>
      intro  ls1562 H1561 locsH1561 x1564 x1565 x1566 hl1563 hTH1561 hSH1561 bx1564 bx1565 ex1565 ex1566 cy1567_0 cy1567_1 cy1567_2 cy1567_3 cy1567_4 cy1567_5 fy1567_kk fy1567_vv hm12 iv12 hsp12
      have rx1566 := i_rng x1566
      refine lv_iload_n hx hb dX4_either_12 rfl (lv_at hl1563 2 rfl) ?_
      refine lv_sipush (v := 500) hx hb dX4_either_13 (by decide) ?_
      refine lv_icmp_ge (tgt := 69) hx hb dX4_either_16 (by decide) (fun c1568 => ?_) (fun c1568 => ?_)
      · have k1569 := i_le c1568
        refine lv_iconst (v := 1) hx hb dX4_either_69 (by decide) ?_
        have cn_F := i_cl (x := F) (by omega)
        have cn_x1 := i_cl (x := x1) (by omega)
        have cn_x1565 := i_cl (x := x1565) (by omega)
        exact x_zret C hQ (Or.inr rfl) dX4_either_70 hSH1561 (by decide) (by decide) (⟨1, x1565, x1566, rfl, by decide, ex1565, ex1566, by omega, cy1567_0, cy1567_1, cy1567_2, cy1567_3, cy1567_4, (by first | (exfalso; omega) | exact Or.inr ⟨hsp12.trans (if_n (show cOR kk _ = false from decide_eq_false (by omega))), by omega⟩), hTH1561⟩)
      · have k1569 := i_nle c1568
        refine lv_aload_n hx hb dX4_either_19 rfl (lv_at hl1563 0 rfl) ?_
        refine x_gr C hTH1561 (ci := 4) (k := 3) rfl inX4 (by decide) wF_X4_18 ga0 rg_78 rfl dX4_either_20 (fun q1570 eq1570 gq1570 => ?_)
        have uq1570 : kq = q1570 := (cy1567_1).trans eq1570.symm
        subst uq1570
        refine lv_aload_n hx hb dX4_either_23 rfl (lv_at hl1563 0 rfl) ?_
        refine x_gi C hTH1561 (ci := 4) (k := 7) rfl inX4 (by decide) wF_X4_42 ga0 rg_78 rfl dX4_either_24 (fun x1571 ex1571 bx1571 => ?_)
        have ux1571 : x1565 = x1571 := (ex1565).trans ex1571.symm
        subst ux1571
        refine x_ai C hTH1561 gkq rg_79 ⟨by omega, by show _ < ((501 : Nat) : Int); omega⟩ dX4_either_27 (fun x1572 ex1572 bx1572 => ?_)
        have dx1572 := el_hit ex1572 cy1567_5
        have qvx1572 : kk x1565.toNatClampNeg = x1572.toInt := (fy1567_kk _ (by have h1 := i_cl (x := x1565) (by omega); have h2 := i_cl (x := F) (by omega); omega)).trans (congrArg Int32.toInt ex1572.symm)
        refine lv_bipush (v := 8) hx hb dX4_either_28 (by decide) ?_
        refine lv_icmp_ne (tgt := 69) hx hb dX4_either_30 (by decide) (fun c1573 => ?_) (fun c1573 => ?_)
        · have k1574 := i_ne c1573
          refine lv_iconst (v := 1) hx hb dX4_either_69 (by decide) ?_
          have cn_F := i_cl (x := F) (by omega)
          have cn_x1 := i_cl (x := x1) (by omega)
          have cn_x1565 := i_cl (x := x1565) (by omega)
          exact x_zret C hQ (Or.inr rfl) dX4_either_70 hSH1561 (by decide) (by decide) (⟨1, x1565, x1566, rfl, by decide, ex1565, ex1566, by omega, cy1567_0, cy1567_1, cy1567_2, cy1567_3, cy1567_4, (by first | (exfalso; omega) | exact Or.inr ⟨hsp12.trans (if_n (show cOR kk _ = false from decide_eq_false (by omega))), by omega⟩), hTH1561⟩)
        · have k1574 := i_eq c1573
          refine lv_aload_n hx hb dX4_either_33 rfl (lv_at hl1563 0 rfl) ?_
          refine lv_dup hx hb dX4_either_34 rfl ?_
          refine x_gi C hTH1561 (ci := 4) (k := 7) rfl inX4 (by decide) wF_X4_42 ga0 rg_78 rfl dX4_either_35 (fun x1575 ex1575 bx1575 => ?_)
          have ux1575 : x1565 = x1575 := (ex1565).trans ex1575.symm
          subst ux1575
          refine lv_iconst (v := 1) hx hb dX4_either_38 (by decide) ?_
          refine lv_iadd hx hb dX4_either_39 ?_
          refine lv_topi (fun x1576 ex1576 => ?_)
          have tx1576 := i_add ex1576 (by omega)
          have fz1578 : 0 ≤ x1576.toInt ∧ x1576.toInt ≤ 500 := by have := i_rng x1576; omega
          refine x_put C hTH1561 hSH1561 (ci := 4) (k := 7) (v := .int x1576) (ty0 := tyX4) rfl inX4 tyX4_ok nmX4 (by decide) rfl wF_X4_42 ga0 rg_78 rfl rfl (okI (by have := i_rng x1576; omega) (by have := i_rng x1576; omega)) rfl rfl (AE_in ga0 (by decide)) dX4_either_40 (fun H1577 locsH1577 hTH1577 hSH1577 wH1577 => ?_)
          have f1579 : ∀ j : Nat, j ≤ F.toNatClampNeg → kk j = (fI H1577 kq j).toInt := fun j hj => (fy1567_kk j hj).trans (congrArg Int32.toInt (Wr.neI wH1577 (Or.inl (G_ne gkq ga0 (by decide)))).symm)
          have f1580 : ∀ j : Nat, j ≤ F.toNatClampNeg → vv j = (fI H1577 vq j).toInt := fun j hj => (fy1567_vv j hj).trans (congrArg Int32.toInt (Wr.neI wH1577 (Or.inl (G_ne gvq ga0 (by decide)))).symm)
          have m1582 := ex1566.trans (Wr.neI wH1577 (Or.inr (x_apart hKT hts inX4 tyX4 tyX4_ok nmX4 rfl 1 7 (by decide) (by decide) (by decide)))).symm
          have m1583 := cy1567_0.trans (Wr.neR wH1577 (Or.inr (x_apart hKT hts inX4 tyX4 tyX4_ok nmX4 rfl 0 7 (by decide) (by decide) (by decide)))).symm
          have m1584 := cy1567_1.trans (Wr.neR wH1577 (Or.inr (x_apart hKT hts inX4 tyX4 tyX4_ok nmX4 rfl 3 7 (by decide) (by decide) (by decide)))).symm
          have m1585 := cy1567_2.trans (Wr.neR wH1577 (Or.inr (x_apart hKT hts inX4 tyX4 tyX4_ok nmX4 rfl 4 7 (by decide) (by decide) (by decide)))).symm
          have m1586 := cy1567_3.trans (Wr.neI wH1577 (Or.inr (x_apart hKT hts inX4 tyX4 tyX4_ok nmX4 rfl 8 7 (by decide) (by decide) (by decide)))).symm
          have m1587 := cy1567_4.trans (Wr.neI wH1577 (Or.inl (G_ne gmq ga0 (by decide)))).symm
          have m1588 := (Wr.neI wH1577 (Or.inl (G_ne gkq ga0 (by decide)))).trans cy1567_5
          have m1589 := ex1572.trans (Wr.neI wH1577 (Or.inl (G_ne gkq ga0 (by decide)))).symm
          have m1590 := Wr.I wH1577
          have m1590 := m1590.symm
          refine lv_aload_n hx hb dX4_either_43 rfl (lv_at hl1563 0 rfl) ?_
          refine lv_iload_n hx hb dX4_either_44 rfl (lv_at hl1563 1 rfl) ?_
          refine x_V (As := [.int x1]) (rest := []) C (a_X4_both_e7 l K G H1577 (x1) (F) (x1576) (x1566) (lw) (li) kk vv hTH1577 ga0 (by omega) gmq m1583 gkq m1584 gvq m1585 m1590 m1582 m1586 m1587 m1588 (by omega) (by omega) f1579 f1580) yo_X4_both wM_X4_128 ⟨⟨by decide, by decide⟩, by decide, by decide⟩ (x_rv C hTH1577 (ci := 4) rfl ga0 rg_78) rfl hl1563.1 rfl (Nat.le_of_ble_eq_true rfl) dX4_either_45 hSH1577 (AE_sub (fun _ _ => rfl) (by decide) hSH1577.1) (fun vH1591 H1591 locsH1591 pH1591 zH1591 kH1591 hSH1591 => ?_)
          obtain ⟨x1592, x1593, x1594, hvH1591, bx1592, ex1593, ex1594, hrH1591, m1595, m1596, m1597, m1598, m1599, m1600, hTH1591⟩ := pH1591
          subst hvH1591
          have f1601 : ∀ j : Nat, j ≤ F.toNatClampNeg → kk j = (fI H1591 kq j).toInt := fun j hj => (f1579 j hj).trans (congrArg Int32.toInt (fI_kept (x_lt hTH1577 kH1591 gkq (by decide))).symm)
          have f1602 : ∀ j : Nat, j ≤ F.toNatClampNeg → vv j = (fI H1591 vq j).toInt := fun j hj => (f1580 j hj).trans (congrArg Int32.toInt (fI_kept (x_lt hTH1577 kH1591 gvq (by decide))).symm)
          have m1603 := (fI_kept (x_lt hTH1577 kH1591 gkq (by decide))).trans m1588
          have m1604 := (m1589).trans (fI_kept (x_lt hTH1577 kH1591 gkq (by decide))).symm
          have bx1593 := ty_fi (x := x1593) (k := 7) ex1593 hTH1591 ga0 rg_78 rfl
          have bx1594 := ty_fi (x := x1594) (k := 1) ex1594 hTH1591 ga0 rg_78 rfl
          refine W.eq (g2 := F0 m 48 ls1562 [.int x1592]) rfl ?_
          refine lv_if_ne (tgt := 53) hx hb dX4_either_48 (by decide) (fun c1605 => ?_) (fun c1605 => ?_)
          · have k1606 := i_ne c1605
            refine lv_aload_n hx hb dX4_either_53 rfl (lv_at hl1563 0 rfl) ?_
            refine x_gr C hTH1591 (ci := 4) (k := 0) rfl inX4 (by decide) wF_X4_12 ga0 rg_78 rfl dX4_either_54 (fun q1607 eq1607 gq1607 => ?_)
            have uq1607 : mq = q1607 := (m1595).trans eq1607.symm
            subst uq1607
            refine lv_bipush (v := 8) hx hb dX4_either_57 (by decide) ?_
            refine lv_iconst (v := 0) hx hb dX4_either_59 (by decide) ?_
            refine x_V (As := [.int 8, .int 0]) (rest := []) C (a_X7_addStep_e l K G H1591 (8) (0) (li) hTH1591 gmq m1599) yo_X7_addStep wM_X4_131 ⟨⟨by decide, by decide⟩, by decide, by decide⟩ (x_rv C hTH1591 (ci := 7) rfl gmq rg_69) rfl hl1563.1 rfl (Nat.le_of_ble_eq_true rfl) dX4_either_60 hSH1591 (AE_sub (fun _ _ => rfl) (by decide) hSH1591.1) (fun vH1608 H1608 locsH1608 pH1608 zH1608 kH1608 hSH1608 => ?_)
            obtain ⟨hvH1608, m1609, hTH1608⟩ := pH1608
            subst hvH1608
            have f1610 : ∀ j : Nat, j ≤ F.toNatClampNeg → kk j = (fI H1608 kq j).toInt := fun j hj => (f1601 j hj).trans (congrArg Int32.toInt (fI_kept (x_lt hTH1591 kH1608 gkq (by decide))).symm)
            have f1611 : ∀ j : Nat, j ≤ F.toNatClampNeg → vv j = (fI H1608 vq j).toInt := fun j hj => (f1602 j hj).trans (congrArg Int32.toInt (fI_kept (x_lt hTH1591 kH1608 gvq (by decide))).symm)
            have m1612 := (fI_kept (x_lt hTH1591 kH1608 gkq (by decide))).trans m1603
            have m1613 := (m1604).trans (fI_kept (x_lt hTH1591 kH1608 gkq (by decide))).symm
            have m1614 := (m1595).trans (fR_kept (x_lt hTH1591 kH1608 ga0 (by decide))).symm
            have m1615 := (m1596).trans (fR_kept (x_lt hTH1591 kH1608 ga0 (by decide))).symm
            have m1616 := (m1597).trans (fR_kept (x_lt hTH1591 kH1608 ga0 (by decide))).symm
            have m1617 := (m1598).trans (fI_kept (x_lt hTH1591 kH1608 ga0 (by decide))).symm
            have m1618 := (ex1593).trans (fI_kept (x_lt hTH1591 kH1608 ga0 (by decide))).symm
            have m1619 := (ex1594).trans (fI_kept (x_lt hTH1591 kH1608 ga0 (by decide))).symm
            refine W.eq (g2 := F0 m 63 ls1562 []) rfl ?_
            obtain ⟨x1620, ex1620⟩ : ∃ y : Int32, y = x1564 + 1 := ⟨_, rfl⟩
            have tx1620 := i_add ex1620 (by omega)
            refine lv_iinc (v := x1620) (lv' := [(2, .int x1620), (0, .ref a0), (1, .int x1)]) hx hb dX4_either_63 hl1563 (k := 2) rfl (by rw [ex1620]; rfl) (by decide) rfl (fun ls1621 hl1622 => ?_)
            refine lv_goto (tgt := 12) hx hb dX4_either_66 (by decide) ?_
            have cn_F := i_cl (x := F) (by omega)
            have cn_x1565 := i_cl (x := x1565) (by omega)
            have cn_x1576 := i_cl (x := x1576) (by omega)
            exact ih12  ls1621 H1608 locsH1608 (x1620) (x1593) (x1594) (lv_sub hl1622 [1, 2, 0] rfl) hTH1608 hSH1608 (by have := i_rng x1620; omega) (by have := i_rng x1593; omega) m1618 m1619 m1614 m1615 m1616 m1617 m1609 m1612 f1610 f1611 (by omega) (by omega) (hsp12.trans (by rw [if_y (show cOR kk _ = true from decide_eq_true (by omega)), show x1565.toNatClampNeg + 1 = x1576.toNatClampNeg by omega]; exact ao_if (paS_gp _) (RQ.yes m1600 (by omega))))
          · have k1606 := i_eq c1605
            refine lv_iconst (v := 0) hx hb dX4_either_51 (by decide) ?_
            have cn_F := i_cl (x := F) (by omega)
            have cn_x1 := i_cl (x := x1) (by omega)
            have cn_x1565 := i_cl (x := x1565) (by omega)
            have cn_x1576 := i_cl (x := x1576) (by omega)
            exact x_zret C hQ (Or.inl rfl) dX4_either_52 hSH1591 (by decide) (by decide) (⟨0, x1593, x1594, rfl, by decide, ex1593, ex1594, by omega, m1595, m1596, m1597, m1598, m1599, Or.inl ⟨hsp12.trans ((if_y (show cOR kk _ = true from decide_eq_true (by omega))).trans (by rw [show x1565.toNatClampNeg + 1 = x1576.toNatClampNeg by omega]; exact ao_none (paS_gp _) (RQ.no m1600 (by omega)))), by omega⟩, hTH1591⟩)
  refine lv_aload_n hx hb dX4_either_0 rfl (lv_at hl 0 rfl) ?_
  refine lv_iload_n hx hb dX4_either_1 rfl (lv_at hl 1 rfl) ?_
  refine x_V (As := [.int x1]) (rest := []) C (a_X4_both_e7 l K G s.heap (x1) (F) (tat) (fa) (lw) (li) kk vv hT ga0 (by omega) gmq emq gkq ekq gvq evq etat efa elw eli hel0 (by omega) (by omega) f0_kk f0_vv) yo_X4_both wM_X4_128 ⟨⟨by decide, by decide⟩, by decide, by decide⟩ (x_rv C hT (ci := 4) rfl ga0 rg_78) rfl hl.1 rfl (Nat.le_of_ble_eq_true rfl) dX4_either_2 hS (AE_sub (fun _ _ => rfl) (by decide) hS.1) (fun vH1623 H1623 locsH1623 pH1623 zH1623 kH1623 hSH1623 => ?_)
  obtain ⟨x1624, x1625, x1626, hvH1623, bx1624, ex1625, ex1626, hrH1623, m1627, m1628, m1629, m1630, m1631, m1632, hTH1623⟩ := pH1623
  subst hvH1623
  have f1633 : ∀ j : Nat, j ≤ F.toNatClampNeg → kk j = (fI H1623 kq j).toInt := fun j hj => (f0_kk j hj).trans (congrArg Int32.toInt (fI_kept (x_lt hT kH1623 gkq (by decide))).symm)
  have f1634 : ∀ j : Nat, j ≤ F.toNatClampNeg → vv j = (fI H1623 vq j).toInt := fun j hj => (f0_vv j hj).trans (congrArg Int32.toInt (fI_kept (x_lt hT kH1623 gvq (by decide))).symm)
  have m1635 := (fI_kept (x_lt hT kH1623 gkq (by decide))).trans hel0
  have bx1625 := ty_fi (x := x1625) (k := 7) ex1625 hTH1623 ga0 rg_78 rfl
  have bx1626 := ty_fi (x := x1626) (k := 1) ex1626 hTH1623 ga0 rg_78 rfl
  refine W.eq (g2 := F0 m 5 ls [.int x1624]) rfl ?_
  refine lv_if_ne (tgt := 10) hx hb dX4_either_5 (by decide) (fun c1636 => ?_) (fun c1636 => ?_)
  · have k1637 := i_ne c1636
    refine lv_iconst (v := 0) hx hb dX4_either_10 (by decide) ?_
    refine lv_istore_n (lv' := [(2, .int 0), (0, .ref a0), (1, .int x1)]) hx hb dX4_either_11 rfl hl (by decide) rfl (fun ls1638 hl1639 => ?_)
    have cn_F := i_cl (x := F) (by omega)
    exact J12 ((500 - (0 : Int32).toInt).toNat + 1)  ls1638 H1623 locsH1623 (0) (x1625) (x1626) (lv_sub hl1639 [1, 2, 0] rfl) hTH1623 hSH1623 (by decide) (by have := i_rng x1625; omega) ex1625 ex1626 m1627 m1628 m1629 m1630 m1631 m1635 f1633 f1634 (by omega) (by omega) (hsp0.trans (by exact ao_if (paS_gp _) (RQ.yes m1632 (by omega))))
  · have k1637 := i_eq c1636
    refine lv_iconst (v := 0) hx hb dX4_either_8 (by decide) ?_
    have cn_F := i_cl (x := F) (by omega)
    have cn_x1 := i_cl (x := x1) (by omega)
    exact x_zret C hQ (Or.inl rfl) dX4_either_9 hSH1623 (by decide) (by decide) (⟨0, x1625, x1626, rfl, by decide, ex1625, ex1626, by omega, m1627, m1628, m1629, m1630, m1631, Or.inl ⟨hsp0.trans (ao_none (paS_gp _) (RQ.no m1632 (by omega))), by omega⟩, hTH1623⟩)

set_option maxHeartbeats 4000000 in
set_option maxRecDepth 100000 in
theorem a_X4_opened_e7 (l : Launch) (K : KE) (G : Nat → Option Nat) (H : Heap) {a0 : Nat} (x1 : Int32) (x2 : Int32) {mq : Nat} {kq : Nat} {vq : Nat} (F : Int32) (tat : Int32) (fa : Int32) (lw : Int32) (li : Int32) (kk : Nat → Int) (vv : Nat → Int) (hT : TY K G H) (ga0 : G a0 = some 78) (hx2 : 7 ≤ x2.toInt ∧ x2.toInt ≤ 8) (gmq : G mq = some 69) (emq : mq = fR H a0 (K.1.2 4 0)) (gkq : G kq = some 79) (ekq : kq = fR H a0 (K.1.2 4 3)) (gvq : G vq = some 80) (evq : vq = fR H a0 (K.1.2 4 4)) (etat : tat = fI H a0 (K.1.2 4 7)) (efa : fa = fI H a0 (K.1.2 4 1)) (elw : lw = fI H a0 (K.1.2 4 8)) (eli : li = fI H mq (K.1.2 7 0)) (hel0 : fI H kq (F : Int32).toNatClampNeg = 26) (hp0 : tat.toInt ≤ F.toInt) (hp1 : F.toInt ≤ 500) (hp2 : tat.toInt < F.toInt) (hv_kk : ∀ j : Nat, j ≤ F.toNatClampNeg → kk j = (fI H kq j).toInt) (hv_vv : ∀ j : Nat, j ≤ F.toNatClampNeg → vv j = (fI H vq j).toInt) : MX l K yX4_opened cX4_opened 3 (some .boolean) 10 224 0 0 [.ref a0, .int x1, .int x2] H (AE G [78, 69, 77] H.size) (fun v H1 => ∃ (r : Int32) (t0 : Int32) (t1 : Int32), v = some (.int r) ∧ (0 ≤ r.toInt ∧ r.toInt ≤ 1) ∧ t0 = fI H1 a0 (K.1.2 4 7) ∧ t1 = fI H1 a0 (K.1.2 4 1) ∧ (t0.toInt ≤ F.toInt ∧ ((r.toInt = 1 ∧ t1.toInt = fa.toInt ∧ tat.toInt < t0.toInt) ∨ (r.toInt = 0 ∧ t1.toInt ≠ 0))) ∧ mq = fR H1 a0 (K.1.2 4 0) ∧ kq = fR H1 a0 (K.1.2 4 3) ∧ vq = fR H1 a0 (K.1.2 4 4) ∧ lw = fI H1 a0 (K.1.2 4 8) ∧ li = fI H1 mq (K.1.2 7 0) ∧ (RQ (opI kk vv lw.toInt (8 - x2.toNatClampNeg) x1.toInt tat.toNatClampNeg) r t0) ∧ TY K G H1) := by
  refine MX.of (by decide +kernel) (Nat.le_of_ble_eq_true rfl) ?_
  intro p e s m below meth c ls Q C hH hl hQ
  subst hH
  have C : CX p K s m _ meth c RX4 cX4_opened 3 (some .boolean) "opened" := C
  obtain ⟨hx, hb, hml, hown, hts, hKT, hr, hlocks, hnm⟩ := id C
  have hl : lv_has ls 3 [(0, .ref a0), (1, .int x1), (2, .int x2)] := hl
  have hS : va_S (AE G [78, 69, 77] s.heap.size) s.heap s.heap [] := va_S.rf
  have n_0 : (0 : Int32).toInt = 0 := rfl
  have n_1 : (1 : Int32).toInt = 1 := rfl
  have n_10 : (10 : Int32).toInt = 10 := rfl
  have n_26 : (26 : Int32).toInt = 26 := rfl
  have n_41 : (41 : Int32).toInt = 41 := rfl
  have btat := ty_fi (x := tat) (k := 7) etat hT ga0 rg_78 rfl
  have bfa := ty_fi (x := fa) (k := 1) efa hT ga0 rg_78 rfl
  have blw := ty_fi (x := lw) (k := 8) elw hT ga0 rg_78 rfl
  have bli := ty_fi (x := li) (k := 0) eli hT gmq rg_69 rfl
  have hsp0 : opI kk vv lw.toInt (8 - x2.toNatClampNeg) x1.toInt tat.toNatClampNeg = opI kk vv lw.toInt (8 - x2.toNatClampNeg) x1.toInt tat.toNatClampNeg := rfl
  have f0_kk := hv_kk
  have f0_vv := hv_vv
  refine lv_aload_n hx hb dX4_opened_0 rfl (lv_at hl 0 rfl) ?_
  refine lv_dup hx hb dX4_opened_1 rfl ?_
  refine x_gi C hT (ci := 4) (k := 7) rfl inX4 (by decide) wF_X4_42 ga0 rg_78 rfl dX4_opened_2 (fun x473 ex473 bx473 => ?_)
  have ux473 : tat = x473 := (etat).trans ex473.symm
  subst ux473
  refine lv_iconst (v := 1) hx hb dX4_opened_5 (by decide) ?_
  refine lv_iadd hx hb dX4_opened_6 ?_
  refine lv_topi (fun x474 ex474 => ?_)
  have tx474 := i_add ex474 (by omega)
  have fz476 : 0 ≤ x474.toInt ∧ x474.toInt ≤ 500 := by have := i_rng x474; omega
  refine x_put C hT hS (ci := 4) (k := 7) (v := .int x474) (ty0 := tyX4) rfl inX4 tyX4_ok nmX4 (by decide) rfl wF_X4_42 ga0 rg_78 rfl rfl (okI (by have := i_rng x474; omega) (by have := i_rng x474; omega)) rfl rfl (AE_in ga0 (by decide)) dX4_opened_7 (fun H475 locsH475 hTH475 hSH475 wH475 => ?_)
  have f477 : ∀ j : Nat, j ≤ F.toNatClampNeg → kk j = (fI H475 kq j).toInt := fun j hj => (f0_kk j hj).trans (congrArg Int32.toInt (Wr.neI wH475 (Or.inl (G_ne gkq ga0 (by decide)))).symm)
  have f478 : ∀ j : Nat, j ≤ F.toNatClampNeg → vv j = (fI H475 vq j).toInt := fun j hj => (f0_vv j hj).trans (congrArg Int32.toInt (Wr.neI wH475 (Or.inl (G_ne gvq ga0 (by decide)))).symm)
  have m479 := emq.trans (Wr.neR wH475 (Or.inr (x_apart hKT hts inX4 tyX4 tyX4_ok nmX4 rfl 0 7 (by decide) (by decide) (by decide)))).symm
  have m480 := ekq.trans (Wr.neR wH475 (Or.inr (x_apart hKT hts inX4 tyX4 tyX4_ok nmX4 rfl 3 7 (by decide) (by decide) (by decide)))).symm
  have m481 := evq.trans (Wr.neR wH475 (Or.inr (x_apart hKT hts inX4 tyX4 tyX4_ok nmX4 rfl 4 7 (by decide) (by decide) (by decide)))).symm
  have m483 := efa.trans (Wr.neI wH475 (Or.inr (x_apart hKT hts inX4 tyX4 tyX4_ok nmX4 rfl 1 7 (by decide) (by decide) (by decide)))).symm
  have m484 := elw.trans (Wr.neI wH475 (Or.inr (x_apart hKT hts inX4 tyX4 tyX4_ok nmX4 rfl 8 7 (by decide) (by decide) (by decide)))).symm
  have m485 := eli.trans (Wr.neI wH475 (Or.inl (G_ne gmq ga0 (by decide)))).symm
  have m486 := (Wr.neI wH475 (Or.inl (G_ne gkq ga0 (by decide)))).trans hel0
  have m487 := Wr.I wH475
  have m487 := m487.symm
  refine lv_iload_n hx hb dX4_opened_10 rfl (lv_at hl 1 rfl) ?_
  refine lv_bipush (v := 10) hx hb dX4_opened_11 (by decide) ?_
  refine lv_icmp_ne (tgt := 38) hx hb dX4_opened_13 (by decide) (fun c488 => ?_) (fun c488 => ?_)
  · have k489 := i_ne c488
    refine lv_aload_n hx hb dX4_opened_38 rfl (lv_at hl 0 rfl) ?_
    refine lv_iload_n hx hb dX4_opened_39 rfl (lv_at hl 2 rfl) ?_
    refine x_V (As := [.int x2]) (rest := []) C (a_X4_either_e7 l K G H475 (x2) (F) (x474) (fa) (lw) (li) kk vv hTH475 ga0 (by omega) gmq m479 gkq m480 gvq m481 m487 m483 m484 m485 m486 (by omega) (by omega) f477 f478) yo_X4_either wM_X4_113 ⟨⟨by decide, by decide⟩, by decide, by decide⟩ (x_rv C hTH475 (ci := 4) rfl ga0 rg_78) rfl hl.1 rfl (Nat.le_of_ble_eq_true rfl) dX4_opened_40 hSH475 (AE_sub (fun _ _ => rfl) (by decide) hSH475.1) (fun vH490 H490 locsH490 pH490 zH490 kH490 hSH490 => ?_)
    obtain ⟨x491, x492, x493, hvH490, bx491, ex492, ex493, hrH490, m494, m495, m496, m497, m498, m499, hTH490⟩ := pH490
    subst hvH490
    have f500 : ∀ j : Nat, j ≤ F.toNatClampNeg → kk j = (fI H490 kq j).toInt := fun j hj => (f477 j hj).trans (congrArg Int32.toInt (fI_kept (x_lt hTH475 kH490 gkq (by decide))).symm)
    have f501 : ∀ j : Nat, j ≤ F.toNatClampNeg → vv j = (fI H490 vq j).toInt := fun j hj => (f478 j hj).trans (congrArg Int32.toInt (fI_kept (x_lt hTH475 kH490 gvq (by decide))).symm)
    have m502 := (fI_kept (x_lt hTH475 kH490 gkq (by decide))).trans m486
    have bx492 := ty_fi (x := x492) (k := 7) ex492 hTH490 ga0 rg_78 rfl
    have bx493 := ty_fi (x := x493) (k := 1) ex493 hTH490 ga0 rg_78 rfl
    refine W.eq (g2 := F0 m 43 ls [.int x491]) rfl ?_
    refine lv_if_ne (tgt := 48) hx hb dX4_opened_43 (by decide) (fun c503 => ?_) (fun c503 => ?_)
    · have k504 := i_ne c503
      refine lv_aload_n hx hb dX4_opened_48 rfl (lv_at hl 0 rfl) ?_
      refine x_gr C hTH490 (ci := 4) (k := 3) rfl inX4 (by decide) wF_X4_18 ga0 rg_78 rfl dX4_opened_49 (fun q505 eq505 gq505 => ?_)
      have uq505 : kq = q505 := (m495).trans eq505.symm
      subst uq505
      refine lv_aload_n hx hb dX4_opened_52 rfl (lv_at hl 0 rfl) ?_
      refine x_gi C hTH490 (ci := 4) (k := 7) rfl inX4 (by decide) wF_X4_42 ga0 rg_78 rfl dX4_opened_53 (fun x506 ex506 bx506 => ?_)
      have ux506 : x492 = x506 := (ex492).trans ex506.symm
      subst ux506
      refine x_ai C hTH490 gkq rg_79 ⟨by omega, by show _ < ((501 : Nat) : Int); omega⟩ dX4_opened_56 (fun x507 ex507 bx507 => ?_)
      have dx507 := el_hit ex507 m502
      have qvx507 : kk x492.toNatClampNeg = x507.toInt := (f500 _ (by have h1 := i_cl (x := x492) (by omega); have h2 := i_cl (x := F) (by omega); omega)).trans (congrArg Int32.toInt ex507.symm)
      refine lv_bipush (v := 41) hx hb dX4_opened_57 (by decide) ?_
      refine lv_icmp_eq (tgt := 68) hx hb dX4_opened_59 (by decide) (fun c508 => ?_) (fun c508 => ?_)
      · have k509 := i_eq c508
        refine lv_aload_n hx hb dX4_opened_68 rfl (lv_at hl 0 rfl) ?_
        refine lv_dup hx hb dX4_opened_69 rfl ?_
        refine x_gi C hTH490 (ci := 4) (k := 7) rfl inX4 (by decide) wF_X4_42 ga0 rg_78 rfl dX4_opened_70 (fun x510 ex510 bx510 => ?_)
        have ux510 : x492 = x510 := (ex492).trans ex510.symm
        subst ux510
        refine lv_iconst (v := 1) hx hb dX4_opened_73 (by decide) ?_
        refine lv_iadd hx hb dX4_opened_74 ?_
        refine lv_topi (fun x511 ex511 => ?_)
        have tx511 := i_add ex511 (by omega)
        have fz513 : 0 ≤ x511.toInt ∧ x511.toInt ≤ 500 := by have := i_rng x511; omega
        refine x_put C hTH490 hSH490 (ci := 4) (k := 7) (v := .int x511) (ty0 := tyX4) rfl inX4 tyX4_ok nmX4 (by decide) rfl wF_X4_42 ga0 rg_78 rfl rfl (okI (by have := i_rng x511; omega) (by have := i_rng x511; omega)) rfl rfl (AE_in ga0 (by decide)) dX4_opened_75 (fun H512 locsH512 hTH512 hSH512 wH512 => ?_)
        have f514 : ∀ j : Nat, j ≤ F.toNatClampNeg → kk j = (fI H512 kq j).toInt := fun j hj => (f500 j hj).trans (congrArg Int32.toInt (Wr.neI wH512 (Or.inl (G_ne gkq ga0 (by decide)))).symm)
        have f515 : ∀ j : Nat, j ≤ F.toNatClampNeg → vv j = (fI H512 vq j).toInt := fun j hj => (f501 j hj).trans (congrArg Int32.toInt (Wr.neI wH512 (Or.inl (G_ne gvq ga0 (by decide)))).symm)
        have m516 := (Wr.neI wH512 (Or.inl (G_ne gkq ga0 (by decide)))).trans m502
        have m517 := m494.trans (Wr.neR wH512 (Or.inr (x_apart hKT hts inX4 tyX4 tyX4_ok nmX4 rfl 0 7 (by decide) (by decide) (by decide)))).symm
        have m518 := m495.trans (Wr.neR wH512 (Or.inr (x_apart hKT hts inX4 tyX4 tyX4_ok nmX4 rfl 3 7 (by decide) (by decide) (by decide)))).symm
        have m519 := m496.trans (Wr.neR wH512 (Or.inr (x_apart hKT hts inX4 tyX4 tyX4_ok nmX4 rfl 4 7 (by decide) (by decide) (by decide)))).symm
        have m520 := m497.trans (Wr.neI wH512 (Or.inr (x_apart hKT hts inX4 tyX4 tyX4_ok nmX4 rfl 8 7 (by decide) (by decide) (by decide)))).symm
        have m521 := m498.trans (Wr.neI wH512 (Or.inl (G_ne gmq ga0 (by decide)))).symm
        have m523 := ex493.trans (Wr.neI wH512 (Or.inr (x_apart hKT hts inX4 tyX4 tyX4_ok nmX4 rfl 1 7 (by decide) (by decide) (by decide)))).symm
        have m524 := ex507.trans (Wr.neI wH512 (Or.inl (G_ne gkq ga0 (by decide)))).symm
        have m525 := Wr.I wH512
        have m525 := m525.symm
        refine lv_iconst (v := 1) hx hb dX4_opened_78 (by decide) ?_
        have cn_F := i_cl (x := F) (by omega)
        have cn_tat := i_cl (x := tat) (by omega)
        have cn_x2 := i_cl (x := x2) (by omega)
        have cn_x474 := i_cl (x := x474) (by omega)
        have cn_x511 := i_cl (x := x511) (by omega)
        have cn_x492 := i_cl (x := x492) (by omega)
        exact x_zret C hQ (Or.inr rfl) dX4_opened_79 hSH512 (by decide) (by decide) (⟨1, x511, x493, rfl, by decide, m525, m523, by omega, m517, m518, m519, m520, m521, Or.inr ⟨op_ok (by omega) (show x474.toNatClampNeg = _ + 1 by omega) (RQ.yes m499 (by omega)) (by rw [qvx507]; omega) (show x511.toNatClampNeg = _ + 1 by omega), by omega⟩, hTH512⟩)
      · have k509 := i_ne c508
        refine lv_aload_n hx hb dX4_opened_62 rfl (lv_at hl 0 rfl) ?_
        refine lv_iconst (v := 1) hx hb dX4_opened_63 (by decide) ?_
        refine x_V (As := [.int 1]) (rest := []) C (a_X4_refuse_e l K G H490 (1) (x492) (x493) (lw) hTH490 ga0 gmq m494 gkq m495 gvq m496 ex492 ex493 m497) yo_X4_refuse wM_X4_81 ⟨⟨by decide, by decide⟩, by decide, by decide⟩ (x_rv C hTH490 (ci := 4) rfl ga0 rg_78) rfl hl.1 rfl (Nat.le_of_ble_eq_true rfl) dX4_opened_64 hSH490 (AE_sub (fun _ _ => rfl) (by decide) hSH490.1) (fun vH526 H526 locsH526 pH526 zH526 kH526 hSH526 => ?_)
        obtain ⟨x527, x528, x529, hvH526, bx527, ex528, ex529, hrH526, m530, m531, m532, m533, hTH526⟩ := pH526
        subst hvH526
        have f534 : ∀ j : Nat, j ≤ F.toNatClampNeg → kk j = (fI H526 kq j).toInt := fun j hj => (f500 j hj).trans (congrArg Int32.toInt (fI_kept (x_lt hTH490 kH526 gkq (by decide))).symm)
        have f535 : ∀ j : Nat, j ≤ F.toNatClampNeg → vv j = (fI H526 vq j).toInt := fun j hj => (f501 j hj).trans (congrArg Int32.toInt (fI_kept (x_lt hTH490 kH526 gvq (by decide))).symm)
        have m536 := (fI_kept (x_lt hTH490 kH526 gkq (by decide))).trans m502
        have m537 := (m498).trans (fI_kept (x_lt hTH490 kH526 gmq (by decide))).symm
        have m538 := (ex507).trans (fI_kept (x_lt hTH490 kH526 gkq (by decide))).symm
        have bx528 := ty_fi (x := x528) (k := 7) ex528 hTH526 ga0 rg_78 rfl
        have bx529 := ty_fi (x := x529) (k := 1) ex529 hTH526 ga0 rg_78 rfl
        refine W.eq (g2 := F0 m 67 ls [.int x527]) rfl ?_
        have cn_F := i_cl (x := F) (by omega)
        have cn_tat := i_cl (x := tat) (by omega)
        have cn_x2 := i_cl (x := x2) (by omega)
        have cn_x474 := i_cl (x := x474) (by omega)
        exact x_zret C hQ (i_01 (by omega)) dX4_opened_67 hSH526 (by decide) (by decide) (⟨x527, x528, x529, rfl, by omega, ex528, ex529, by omega, m530, m531, m532, m533, m537, Or.inl ⟨op_no2 (by omega) (show x474.toNatClampNeg = _ + 1 by omega) (RQ.yes m499 (by omega)) (by rw [qvx507]; omega), by omega⟩, hTH526⟩)
    · have k504 := i_eq c503
      refine lv_iconst (v := 0) hx hb dX4_opened_46 (by decide) ?_
      have cn_F := i_cl (x := F) (by omega)
      have cn_tat := i_cl (x := tat) (by omega)
      have cn_x2 := i_cl (x := x2) (by omega)
      have cn_x474 := i_cl (x := x474) (by omega)
      exact x_zret C hQ (Or.inl rfl) dX4_opened_47 hSH490 (by decide) (by decide) (⟨0, x492, x493, rfl, by decide, ex492, ex493, by omega, m494, m495, m496, m497, m498, Or.inl ⟨op_no1 (by omega) (show x474.toNatClampNeg = _ + 1 by omega) (RQ.no m499 (by omega)), by omega⟩, hTH490⟩)
  · have k489 := i_eq c488
    refine lv_aload_n hx hb dX4_opened_16 rfl (lv_at hl 0 rfl) ?_
    refine lv_iload_n hx hb dX4_opened_17 rfl (lv_at hl 2 rfl) ?_
    refine x_V (As := [.int x2]) (rest := []) C (a_X4_part_e7 l K G H475 (x2) (F) (x474) (fa) (lw) (li) kk vv hTH475 ga0 (by omega) gmq m479 gkq m480 gvq m481 m487 m483 m484 m485 m486 (by omega) (by omega) f477 f478) yo_X4_part wM_X4_135 ⟨⟨by decide, by decide⟩, by decide, by decide⟩ (x_rv C hTH475 (ci := 4) rfl ga0 rg_78) rfl hl.1 rfl (Nat.le_of_ble_eq_true rfl) dX4_opened_18 hSH475 (AE_sub (fun _ _ => rfl) (by decide) hSH475.1) (fun vH539 H539 locsH539 pH539 zH539 kH539 hSH539 => ?_)
    obtain ⟨x540, x541, x542, hvH539, bx540, ex541, ex542, hrH539, m543, m544, m545, m546, m547, m548, hTH539⟩ := pH539
    subst hvH539
    have f549 : ∀ j : Nat, j ≤ F.toNatClampNeg → kk j = (fI H539 kq j).toInt := fun j hj => (f477 j hj).trans (congrArg Int32.toInt (fI_kept (x_lt hTH475 kH539 gkq (by decide))).symm)
    have f550 : ∀ j : Nat, j ≤ F.toNatClampNeg → vv j = (fI H539 vq j).toInt := fun j hj => (f478 j hj).trans (congrArg Int32.toInt (fI_kept (x_lt hTH475 kH539 gvq (by decide))).symm)
    have m551 := (fI_kept (x_lt hTH475 kH539 gkq (by decide))).trans m486
    have bx541 := ty_fi (x := x541) (k := 7) ex541 hTH539 ga0 rg_78 rfl
    have bx542 := ty_fi (x := x542) (k := 1) ex542 hTH539 ga0 rg_78 rfl
    refine W.eq (g2 := F0 m 21 ls [.int x540]) rfl ?_
    refine lv_if_ne (tgt := 26) hx hb dX4_opened_21 (by decide) (fun c552 => ?_) (fun c552 => ?_)
    · have k553 := i_ne c552
      refine lv_aload_n hx hb dX4_opened_26 rfl (lv_at hl 0 rfl) ?_
      refine x_gr C hTH539 (ci := 4) (k := 0) rfl inX4 (by decide) wF_X4_12 ga0 rg_78 rfl dX4_opened_27 (fun q554 eq554 gq554 => ?_)
      have uq554 : mq = q554 := (m543).trans eq554.symm
      subst uq554
      refine lv_bipush (v := 10) hx hb dX4_opened_30 (by decide) ?_
      refine lv_iconst (v := 0) hx hb dX4_opened_32 (by decide) ?_
      refine x_V (As := [.int 10, .int 0]) (rest := []) C (a_X7_addStep_e l K G H539 (10) (0) (li) hTH539 gmq m547) yo_X7_addStep wM_X4_131 ⟨⟨by decide, by decide⟩, by decide, by decide⟩ (x_rv C hTH539 (ci := 7) rfl gmq rg_69) rfl hl.1 rfl (Nat.le_of_ble_eq_true rfl) dX4_opened_33 hSH539 (AE_sub (fun _ _ => rfl) (by decide) hSH539.1) (fun vH555 H555 locsH555 pH555 zH555 kH555 hSH555 => ?_)
      obtain ⟨hvH555, m556, hTH555⟩ := pH555
      subst hvH555
      have f557 : ∀ j : Nat, j ≤ F.toNatClampNeg → kk j = (fI H555 kq j).toInt := fun j hj => (f549 j hj).trans (congrArg Int32.toInt (fI_kept (x_lt hTH539 kH555 gkq (by decide))).symm)
      have f558 : ∀ j : Nat, j ≤ F.toNatClampNeg → vv j = (fI H555 vq j).toInt := fun j hj => (f550 j hj).trans (congrArg Int32.toInt (fI_kept (x_lt hTH539 kH555 gvq (by decide))).symm)
      have m559 := (fI_kept (x_lt hTH539 kH555 gkq (by decide))).trans m551
      have m560 := (m543).trans (fR_kept (x_lt hTH539 kH555 ga0 (by decide))).symm
      have m561 := (m544).trans (fR_kept (x_lt hTH539 kH555 ga0 (by decide))).symm
      have m562 := (m545).trans (fR_kept (x_lt hTH539 kH555 ga0 (by decide))).symm
      have m563 := (m546).trans (fI_kept (x_lt hTH539 kH555 ga0 (by decide))).symm
      have m564 := (ex541).trans (fI_kept (x_lt hTH539 kH555 ga0 (by decide))).symm
      have m565 := (ex542).trans (fI_kept (x_lt hTH539 kH555 ga0 (by decide))).symm
      refine W.eq (g2 := F0 m 36 ls []) rfl ?_
      refine lv_iconst (v := 1) hx hb dX4_opened_36 (by decide) ?_
      have cn_F := i_cl (x := F) (by omega)
      have cn_tat := i_cl (x := tat) (by omega)
      have cn_x2 := i_cl (x := x2) (by omega)
      have cn_x474 := i_cl (x := x474) (by omega)
      exact x_zret C hQ (Or.inr rfl) dX4_opened_37 hSH555 (by decide) (by decide) (⟨1, x541, x542, rfl, by decide, m564, m565, by omega, m560, m561, m562, m563, m556, Or.inr ⟨(op_not (by omega) (show x474.toNatClampNeg = _ + 1 by omega)).trans (RQ.yes m548 (by omega)), by omega⟩, hTH555⟩)
    · have k553 := i_eq c552
      refine lv_iconst (v := 0) hx hb dX4_opened_24 (by decide) ?_
      have cn_F := i_cl (x := F) (by omega)
      have cn_tat := i_cl (x := tat) (by omega)
      have cn_x2 := i_cl (x := x2) (by omega)
      have cn_x474 := i_cl (x := x474) (by omega)
      exact x_zret C hQ (Or.inl rfl) dX4_opened_25 hSH539 (by decide) (by decide) (⟨0, x541, x542, rfl, by decide, ex541, ex542, by omega, m543, m544, m545, m546, m547, Or.inl ⟨(op_not (by omega) (show x474.toNatClampNeg = _ + 1 by omega)).trans (RQ.no m548 (by omega)), by omega⟩, hTH539⟩)

set_option maxHeartbeats 4000000 in
set_option maxRecDepth 100000 in
theorem a_X4_part_e6 (l : Launch) (K : KE) (G : Nat → Option Nat) (H : Heap) {a0 : Nat} (x1 : Int32) {mq : Nat} {kq : Nat} {vq : Nat} (F : Int32) (tat : Int32) (fa : Int32) (lw : Int32) (li : Int32) (kk : Nat → Int) (vv : Nat → Int) (hT : TY K G H) (ga0 : G a0 = some 78) (hx1 : 6 ≤ x1.toInt ∧ x1.toInt ≤ 8) (gmq : G mq = some 69) (emq : mq = fR H a0 (K.1.2 4 0)) (gkq : G kq = some 79) (ekq : kq = fR H a0 (K.1.2 4 3)) (gvq : G vq = some 80) (evq : vq = fR H a0 (K.1.2 4 4)) (etat : tat = fI H a0 (K.1.2 4 7)) (efa : fa = fI H a0 (K.1.2 4 1)) (elw : lw = fI H a0 (K.1.2 4 8)) (eli : li = fI H mq (K.1.2 7 0)) (hel0 : fI H kq (F : Int32).toNatClampNeg = 26) (hp0 : tat.toInt ≤ F.toInt) (hp1 : F.toInt ≤ 500) (hv_kk : ∀ j : Nat, j ≤ F.toNatClampNeg → kk j = (fI H kq j).toInt) (hv_vv : ∀ j : Nat, j ≤ F.toNatClampNeg → vv j = (fI H vq j).toInt) : MX l K yX4_part cX4_part 4 (some .boolean) 11 246 0 0 [.ref a0, .int x1] H (AE G [78, 69, 77] H.size) (fun v H1 => ∃ (r : Int32) (t0 : Int32) (t1 : Int32), v = some (.int r) ∧ (0 ≤ r.toInt ∧ r.toInt ≤ 1) ∧ t0 = fI H1 a0 (K.1.2 4 7) ∧ t1 = fI H1 a0 (K.1.2 4 1) ∧ (t0.toInt ≤ F.toInt ∧ ((r.toInt = 1 ∧ t1.toInt = fa.toInt ∧ tat.toInt < t0.toInt) ∨ (r.toInt = 0 ∧ t1.toInt ≠ 0))) ∧ mq = fR H1 a0 (K.1.2 4 0) ∧ kq = fR H1 a0 (K.1.2 4 3) ∧ vq = fR H1 a0 (K.1.2 4 4) ∧ lw = fI H1 a0 (K.1.2 4 8) ∧ li = fI H1 mq (K.1.2 7 0) ∧ (RQ (paS kk vv lw.toInt (8 - x1.toNatClampNeg) tat.toNatClampNeg) r t0) ∧ TY K G H1) := by
  refine MX.of (by decide +kernel) (Nat.le_of_ble_eq_true rfl) ?_
  intro p e s m below meth c ls Q C hH hl hQ
  subst hH
  have C : CX p K s m _ meth c RX4 cX4_part 4 (some .boolean) "part" := C
  obtain ⟨hx, hb, hml, hown, hts, hKT, hr, hlocks, hnm⟩ := id C
  have hl : lv_has ls 4 [(0, .ref a0), (1, .int x1)] := hl
  have hS : va_S (AE G [78, 69, 77] s.heap.size) s.heap s.heap [] := va_S.rf
  have n_0 : (0 : Int32).toInt = 0 := rfl
  have n_1 : (1 : Int32).toInt = 1 := rfl
  have n_3 : (3 : Int32).toInt = 3 := rfl
  have n_8 : (8 : Int32).toInt = 8 := rfl
  have n_10 : (10 : Int32).toInt = 10 := rfl
  have n_26 : (26 : Int32).toInt = 26 := rfl
  have n_40 : (40 : Int32).toInt = 40 := rfl
  have n_60 : (60 : Int32).toInt = 60 := rfl
  have n_61 : (61 : Int32).toInt = 61 := rfl
  have n_62 : (62 : Int32).toInt = 62 := rfl
  have btat := ty_fi (x := tat) (k := 7) etat hT ga0 rg_78 rfl
  have bfa := ty_fi (x := fa) (k := 1) efa hT ga0 rg_78 rfl
  have blw := ty_fi (x := lw) (k := 8) elw hT ga0 rg_78 rfl
  have bli := ty_fi (x := li) (k := 0) eli hT gmq rg_69 rfl
  have hsp0 : paS kk vv lw.toInt (8 - x1.toNatClampNeg) tat.toNatClampNeg = paS kk vv lw.toInt (8 - x1.toNatClampNeg) tat.toNatClampNeg := rfl
  have f0_kk := hv_kk
  have f0_vv := hv_vv
  refine lv_aload_n hx hb dX4_part_0 rfl (lv_at hl 0 rfl) ?_
  refine x_gr C hT (ci := 4) (k := 3) rfl inX4 (by decide) wF_X4_18 ga0 rg_78 rfl dX4_part_1 (fun q1117 eq1117 gq1117 => ?_)
  have uq1117 : kq = q1117 := (ekq).trans eq1117.symm
  subst uq1117
  refine lv_aload_n hx hb dX4_part_4 rfl (lv_at hl 0 rfl) ?_
  refine x_gi C hT (ci := 4) (k := 7) rfl inX4 (by decide) wF_X4_42 ga0 rg_78 rfl dX4_part_5 (fun x1118 ex1118 bx1118 => ?_)
  have ux1118 : tat = x1118 := (etat).trans ex1118.symm
  subst ux1118
  refine x_ai C hT gkq rg_79 ⟨by omega, by show _ < ((501 : Nat) : Int); omega⟩ dX4_part_8 (fun x1119 ex1119 bx1119 => ?_)
  have dx1119 := el_hit ex1119 hel0
  have qvx1119 : kk tat.toNatClampNeg = x1119.toInt := (f0_kk _ (by have h1 := i_cl (x := tat) (by omega); have h2 := i_cl (x := F) (by omega); omega)).trans (congrArg Int32.toInt ex1119.symm)
  refine lv_istore_n (lv' := [(2, .int x1119), (0, .ref a0), (1, .int x1)]) hx hb dX4_part_9 rfl hl (by decide) rfl (fun ls1120 hl1121 => ?_)
  refine lv_iload_n hx hb dX4_part_10 rfl (lv_at hl1121 0 rfl) ?_
  refine lv_bipush (v := 10) hx hb dX4_part_11 (by decide) ?_
  refine lv_icmp_eq (tgt := 22) hx hb dX4_part_13 (by decide) (fun c1122 => ?_) (fun c1122 => ?_)
  · have k1123 := i_eq c1122
    refine lv_iload_n hx hb dX4_part_22 rfl (lv_at hl1121 2 rfl) ?_
    refine lv_bipush (v := 8) hx hb dX4_part_23 (by decide) ?_
    refine lv_icmp_ge (tgt := 39) hx hb dX4_part_25 (by decide) (fun c1124 => ?_) (fun c1124 => ?_)
    · have k1125 := i_le c1124
      refine lv_aload_n hx hb dX4_part_39 rfl (lv_at hl1121 1 rfl) ?_
      refine lv_iconst (v := 3) hx hb dX4_part_40 (by decide) ?_
      refine x_V (As := [.int 3]) (rest := []) C (a_X4_refuse_e l K G s.heap (3) (tat) (fa) (lw) hT ga0 gmq emq gkq ekq gvq evq etat efa elw) yo_X4_refuse wM_X4_81 ⟨⟨by decide, by decide⟩, by decide, by decide⟩ (x_rv C hT (ci := 4) rfl ga0 rg_78) rfl hl1121.1 rfl (Nat.le_of_ble_eq_true rfl) dX4_part_41 hS (AE_sub (fun _ _ => rfl) (by decide) hS.1) (fun vH1126 H1126 locsH1126 pH1126 zH1126 kH1126 hSH1126 => ?_)
      obtain ⟨x1127, x1128, x1129, hvH1126, bx1127, ex1128, ex1129, hrH1126, m1130, m1131, m1132, m1133, hTH1126⟩ := pH1126
      subst hvH1126
      have f1134 : ∀ j : Nat, j ≤ F.toNatClampNeg → kk j = (fI H1126 kq j).toInt := fun j hj => (f0_kk j hj).trans (congrArg Int32.toInt (fI_kept (x_lt hT kH1126 gkq (by decide))).symm)
      have f1135 : ∀ j : Nat, j ≤ F.toNatClampNeg → vv j = (fI H1126 vq j).toInt := fun j hj => (f0_vv j hj).trans (congrArg Int32.toInt (fI_kept (x_lt hT kH1126 gvq (by decide))).symm)
      have m1136 := (eli).trans (fI_kept (x_lt hT kH1126 gmq (by decide))).symm
      have m1137 := (fI_kept (x_lt hT kH1126 gkq (by decide))).trans hel0
      have m1138 := (ex1119).trans (fI_kept (x_lt hT kH1126 gkq (by decide))).symm
      have bx1128 := ty_fi (x := x1128) (k := 7) ex1128 hTH1126 ga0 rg_78 rfl
      have bx1129 := ty_fi (x := x1129) (k := 1) ex1129 hTH1126 ga0 rg_78 rfl
      refine W.eq (g2 := F0 m 44 ls1120 [.int x1127]) rfl ?_
      have cn_F := i_cl (x := F) (by omega)
      have cn_tat := i_cl (x := tat) (by omega)
      have cn_x1 := i_cl (x := x1) (by omega)
      exact x_zret C hQ (i_01 (by omega)) dX4_part_44 hSH1126 (by decide) (by decide) (⟨x1127, x1128, x1129, rfl, by omega, ex1128, ex1129, by omega, m1130, m1131, m1132, m1133, m1136, Or.inl ⟨pa_deep (by omega) (by rw [qvx1119]; omega), by omega⟩, hTH1126⟩)
    · have k1125 := i_nle c1124
      refine lv_aload_n hx hb dX4_part_28 rfl (lv_at hl1121 1 rfl) ?_
      refine lv_iload_n hx hb dX4_part_29 rfl (lv_at hl1121 0 rfl) ?_
      refine lv_iload_n hx hb dX4_part_30 rfl (lv_at hl1121 2 rfl) ?_
      refine lv_iconst (v := 1) hx hb dX4_part_31 (by decide) ?_
      refine lv_iadd hx hb dX4_part_32 ?_
      refine lv_topi (fun x1139 ex1139 => ?_)
      have tx1139 := i_add ex1139 (by omega)
      refine x_V (As := [.int x1119, .int x1139]) (rest := []) C (a_X4_opened_e7 l K G s.heap (x1119) (x1139) (F) (tat) (fa) (lw) (li) kk vv hT ga0 (by omega) gmq emq gkq ekq gvq evq etat efa elw eli hel0 (by omega) (by omega) (by omega) f0_kk f0_vv) yo_X4_opened wM_X4_138 ⟨⟨by decide, by decide⟩, by decide, by decide⟩ (x_rv C hT (ci := 4) rfl ga0 rg_78) rfl hl1121.1 rfl (Nat.le_of_ble_eq_true rfl) dX4_part_33 hS (AE_sub (fun _ _ => rfl) (by decide) hS.1) (fun vH1140 H1140 locsH1140 pH1140 zH1140 kH1140 hSH1140 => ?_)
      obtain ⟨x1141, x1142, x1143, hvH1140, bx1141, ex1142, ex1143, hrH1140, m1144, m1145, m1146, m1147, m1148, m1149, hTH1140⟩ := pH1140
      subst hvH1140
      have f1150 : ∀ j : Nat, j ≤ F.toNatClampNeg → kk j = (fI H1140 kq j).toInt := fun j hj => (f0_kk j hj).trans (congrArg Int32.toInt (fI_kept (x_lt hT kH1140 gkq (by decide))).symm)
      have f1151 : ∀ j : Nat, j ≤ F.toNatClampNeg → vv j = (fI H1140 vq j).toInt := fun j hj => (f0_vv j hj).trans (congrArg Int32.toInt (fI_kept (x_lt hT kH1140 gvq (by decide))).symm)
      have m1152 := (fI_kept (x_lt hT kH1140 gkq (by decide))).trans hel0
      have m1153 := (ex1119).trans (fI_kept (x_lt hT kH1140 gkq (by decide))).symm
      have bx1142 := ty_fi (x := x1142) (k := 7) ex1142 hTH1140 ga0 rg_78 rfl
      have bx1143 := ty_fi (x := x1143) (k := 1) ex1143 hTH1140 ga0 rg_78 rfl
      refine W.eq (g2 := F0 m 36 ls1120 [.int x1141]) rfl ?_
      refine lv_goto (tgt := 44) hx hb dX4_part_36 (by decide) ?_
      have cn_F := i_cl (x := F) (by omega)
      have cn_tat := i_cl (x := tat) (by omega)
      have cn_x1 := i_cl (x := x1) (by omega)
      have cn_x1139 := i_cl (x := x1139) (by omega)
      exact x_zret C hQ (i_01 (by omega)) dX4_part_44 hSH1140 (by decide) (by decide) (⟨x1141, x1142, x1143, rfl, by omega, ex1142, ex1143, by omega, m1144, m1145, m1146, m1147, m1148, RQ.tr m1149 (pa_op (by omega) (qvx1119).symm (by rw [qvx1119]; omega)), hTH1140⟩)
  · have k1123 := i_ne c1122
    refine lv_iload_n hx hb dX4_part_16 rfl (lv_at hl1121 0 rfl) ?_
    refine lv_bipush (v := 40) hx hb dX4_part_17 (by decide) ?_
    refine lv_icmp_ne (tgt := 45) hx hb dX4_part_19 (by decide) (fun c1154 => ?_) (fun c1154 => ?_)
    · have k1155 := i_ne c1154
      refine lv_aload_n hx hb dX4_part_45 rfl (lv_at hl1121 1 rfl) ?_
      refine x_V (As := []) (rest := []) C (a_X4_sum_e l K G s.heap (F) (tat) (fa) (lw) (li) kk vv hT ga0 gmq emq gkq ekq gvq evq etat efa elw eli hel0 (by omega) (by omega) f0_kk f0_vv) yo_X4_sum wM_X4_103 ⟨⟨by decide, by decide⟩, by decide, by decide⟩ (x_rv C hT (ci := 4) rfl ga0 rg_78) rfl hl1121.1 rfl (Nat.le_of_ble_eq_true rfl) dX4_part_46 hS (AE_sub (fun _ _ => rfl) (by decide) hS.1) (fun vH1156 H1156 locsH1156 pH1156 zH1156 kH1156 hSH1156 => ?_)
      obtain ⟨x1157, x1158, x1159, hvH1156, bx1157, ex1158, ex1159, hrH1156, m1160, m1161, m1162, m1163, m1164, m1165, hTH1156⟩ := pH1156
      subst hvH1156
      have f1166 : ∀ j : Nat, j ≤ F.toNatClampNeg → kk j = (fI H1156 kq j).toInt := fun j hj => (f0_kk j hj).trans (congrArg Int32.toInt (fI_kept (x_lt hT kH1156 gkq (by decide))).symm)
      have f1167 : ∀ j : Nat, j ≤ F.toNatClampNeg → vv j = (fI H1156 vq j).toInt := fun j hj => (f0_vv j hj).trans (congrArg Int32.toInt (fI_kept (x_lt hT kH1156 gvq (by decide))).symm)
      have m1168 := (fI_kept (x_lt hT kH1156 gkq (by decide))).trans hel0
      have m1169 := (ex1119).trans (fI_kept (x_lt hT kH1156 gkq (by decide))).symm
      have bx1158 := ty_fi (x := x1158) (k := 7) ex1158 hTH1156 ga0 rg_78 rfl
      have bx1159 := ty_fi (x := x1159) (k := 1) ex1159 hTH1156 ga0 rg_78 rfl
      refine W.eq (g2 := F0 m 49 ls1120 [.int x1157]) rfl ?_
      refine lv_if_ne (tgt := 54) hx hb dX4_part_49 (by decide) (fun c1170 => ?_) (fun c1170 => ?_)
      · have k1171 := i_ne c1170
        refine lv_aload_n hx hb dX4_part_54 rfl (lv_at hl1121 1 rfl) ?_
        refine x_gr C hTH1156 (ci := 4) (k := 3) rfl inX4 (by decide) wF_X4_18 ga0 rg_78 rfl dX4_part_55 (fun q1172 eq1172 gq1172 => ?_)
        have uq1172 : kq = q1172 := (m1161).trans eq1172.symm
        subst uq1172
        refine lv_aload_n hx hb dX4_part_58 rfl (lv_at hl1121 1 rfl) ?_
        refine x_gi C hTH1156 (ci := 4) (k := 7) rfl inX4 (by decide) wF_X4_42 ga0 rg_78 rfl dX4_part_59 (fun x1173 ex1173 bx1173 => ?_)
        have ux1173 : x1158 = x1173 := (ex1158).trans ex1173.symm
        subst ux1173
        refine x_ai C hTH1156 gkq rg_79 ⟨by omega, by show _ < ((501 : Nat) : Int); omega⟩ dX4_part_62 (fun x1174 ex1174 bx1174 => ?_)
        have dx1174 := el_hit ex1174 m1168
        have qvx1174 : kk x1158.toNatClampNeg = x1174.toInt := (f1166 _ (by have h1 := i_cl (x := x1158) (by omega); have h2 := i_cl (x := F) (by omega); omega)).trans (congrArg Int32.toInt ex1174.symm)
        refine lv_istore_n (lv' := [(3, .int x1174), (2, .int x1119), (0, .ref a0), (1, .int x1)]) hx hb dX4_part_63 rfl hl1121 (by decide) rfl (fun ls1175 hl1176 => ?_)
        refine lv_iload_n hx hb dX4_part_64 rfl (lv_at hl1176 0 rfl) ?_
        refine lv_bipush (v := 60) hx hb dX4_part_65 (by decide) ?_
        refine lv_icmp_eq (tgt := 88) hx hb dX4_part_67 (by decide) (fun c1177 => ?_) (fun c1177 => ?_)
        · have k1178 := i_eq c1177
          refine lv_aload_n hx hb dX4_part_88 rfl (lv_at hl1176 2 rfl) ?_
          refine lv_dup hx hb dX4_part_89 rfl ?_
          refine x_gi C hTH1156 (ci := 4) (k := 7) rfl inX4 (by decide) wF_X4_42 ga0 rg_78 rfl dX4_part_90 (fun x1179 ex1179 bx1179 => ?_)
          have ux1179 : x1158 = x1179 := (ex1158).trans ex1179.symm
          subst ux1179
          refine lv_iconst (v := 1) hx hb dX4_part_93 (by decide) ?_
          refine lv_iadd hx hb dX4_part_94 ?_
          refine lv_topi (fun x1180 ex1180 => ?_)
          have tx1180 := i_add ex1180 (by omega)
          have fz1182 : 0 ≤ x1180.toInt ∧ x1180.toInt ≤ 500 := by have := i_rng x1180; omega
          refine x_put C hTH1156 hSH1156 (ci := 4) (k := 7) (v := .int x1180) (ty0 := tyX4) rfl inX4 tyX4_ok nmX4 (by decide) rfl wF_X4_42 ga0 rg_78 rfl rfl (okI (by have := i_rng x1180; omega) (by have := i_rng x1180; omega)) rfl rfl (AE_in ga0 (by decide)) dX4_part_95 (fun H1181 locsH1181 hTH1181 hSH1181 wH1181 => ?_)
          have f1183 : ∀ j : Nat, j ≤ F.toNatClampNeg → kk j = (fI H1181 kq j).toInt := fun j hj => (f1166 j hj).trans (congrArg Int32.toInt (Wr.neI wH1181 (Or.inl (G_ne gkq ga0 (by decide)))).symm)
          have f1184 : ∀ j : Nat, j ≤ F.toNatClampNeg → vv j = (fI H1181 vq j).toInt := fun j hj => (f1167 j hj).trans (congrArg Int32.toInt (Wr.neI wH1181 (Or.inl (G_ne gvq ga0 (by decide)))).symm)
          have m1185 := (Wr.neI wH1181 (Or.inl (G_ne gkq ga0 (by decide)))).trans m1168
          have m1186 := m1169.trans (Wr.neI wH1181 (Or.inl (G_ne gkq ga0 (by decide)))).symm
          have m1187 := m1160.trans (Wr.neR wH1181 (Or.inr (x_apart hKT hts inX4 tyX4 tyX4_ok nmX4 rfl 0 7 (by decide) (by decide) (by decide)))).symm
          have m1188 := m1161.trans (Wr.neR wH1181 (Or.inr (x_apart hKT hts inX4 tyX4 tyX4_ok nmX4 rfl 3 7 (by decide) (by decide) (by decide)))).symm
          have m1189 := m1162.trans (Wr.neR wH1181 (Or.inr (x_apart hKT hts inX4 tyX4 tyX4_ok nmX4 rfl 4 7 (by decide) (by decide) (by decide)))).symm
          have m1190 := m1163.trans (Wr.neI wH1181 (Or.inr (x_apart hKT hts inX4 tyX4 tyX4_ok nmX4 rfl 8 7 (by decide) (by decide) (by decide)))).symm
          have m1191 := m1164.trans (Wr.neI wH1181 (Or.inl (G_ne gmq ga0 (by decide)))).symm
          have m1193 := ex1159.trans (Wr.neI wH1181 (Or.inr (x_apart hKT hts inX4 tyX4 tyX4_ok nmX4 rfl 1 7 (by decide) (by decide) (by decide)))).symm
          have m1194 := ex1174.trans (Wr.neI wH1181 (Or.inl (G_ne gkq ga0 (by decide)))).symm
          have m1195 := Wr.I wH1181
          have m1195 := m1195.symm
          refine lv_aload_n hx hb dX4_part_98 rfl (lv_at hl1176 2 rfl) ?_
          refine x_V (As := []) (rest := []) C (a_X4_sum_e l K G H1181 (F) (x1180) (x1159) (lw) (li) kk vv hTH1181 ga0 gmq m1187 gkq m1188 gvq m1189 m1195 m1193 m1190 m1191 m1185 (by omega) (by omega) f1183 f1184) yo_X4_sum wM_X4_103 ⟨⟨by decide, by decide⟩, by decide, by decide⟩ (x_rv C hTH1181 (ci := 4) rfl ga0 rg_78) rfl hl1176.1 rfl (Nat.le_of_ble_eq_true rfl) dX4_part_99 hSH1181 (AE_sub (fun _ _ => rfl) (by decide) hSH1181.1) (fun vH1196 H1196 locsH1196 pH1196 zH1196 kH1196 hSH1196 => ?_)
          obtain ⟨x1197, x1198, x1199, hvH1196, bx1197, ex1198, ex1199, hrH1196, m1200, m1201, m1202, m1203, m1204, m1205, hTH1196⟩ := pH1196
          subst hvH1196
          have f1206 : ∀ j : Nat, j ≤ F.toNatClampNeg → kk j = (fI H1196 kq j).toInt := fun j hj => (f1183 j hj).trans (congrArg Int32.toInt (fI_kept (x_lt hTH1181 kH1196 gkq (by decide))).symm)
          have f1207 : ∀ j : Nat, j ≤ F.toNatClampNeg → vv j = (fI H1196 vq j).toInt := fun j hj => (f1184 j hj).trans (congrArg Int32.toInt (fI_kept (x_lt hTH1181 kH1196 gvq (by decide))).symm)
          have m1208 := (fI_kept (x_lt hTH1181 kH1196 gkq (by decide))).trans m1185
          have m1209 := (m1186).trans (fI_kept (x_lt hTH1181 kH1196 gkq (by decide))).symm
          have m1210 := (m1194).trans (fI_kept (x_lt hTH1181 kH1196 gkq (by decide))).symm
          have bx1198 := ty_fi (x := x1198) (k := 7) ex1198 hTH1196 ga0 rg_78 rfl
          have bx1199 := ty_fi (x := x1199) (k := 1) ex1199 hTH1196 ga0 rg_78 rfl
          refine W.eq (g2 := F0 m 102 ls1175 [.int x1197]) rfl ?_
          refine lv_if_ne (tgt := 107) hx hb dX4_part_102 (by decide) (fun c1211 => ?_) (fun c1211 => ?_)
          · have k1212 := i_ne c1211
            refine lv_aload_n hx hb dX4_part_107 rfl (lv_at hl1176 2 rfl) ?_
            refine x_gr C hTH1196 (ci := 4) (k := 0) rfl inX4 (by decide) wF_X4_12 ga0 rg_78 rfl dX4_part_108 (fun q1213 eq1213 gq1213 => ?_)
            have uq1213 : mq = q1213 := (m1200).trans eq1213.symm
            subst uq1213
            refine lv_iload_n hx hb dX4_part_111 rfl (lv_at hl1176 0 rfl) ?_
            refine lv_iconst (v := 0) hx hb dX4_part_112 (by decide) ?_
            refine x_V (As := [.int x1174, .int 0]) (rest := []) C (a_X7_addStep_e l K G H1196 (x1174) (0) (li) hTH1196 gmq m1204) yo_X7_addStep wM_X4_131 ⟨⟨by decide, by decide⟩, by decide, by decide⟩ (x_rv C hTH1196 (ci := 7) rfl gmq rg_69) rfl hl1176.1 rfl (Nat.le_of_ble_eq_true rfl) dX4_part_113 hSH1196 (AE_sub (fun _ _ => rfl) (by decide) hSH1196.1) (fun vH1214 H1214 locsH1214 pH1214 zH1214 kH1214 hSH1214 => ?_)
            obtain ⟨hvH1214, m1215, hTH1214⟩ := pH1214
            subst hvH1214
            have f1216 : ∀ j : Nat, j ≤ F.toNatClampNeg → kk j = (fI H1214 kq j).toInt := fun j hj => (f1206 j hj).trans (congrArg Int32.toInt (fI_kept (x_lt hTH1196 kH1214 gkq (by decide))).symm)
            have f1217 : ∀ j : Nat, j ≤ F.toNatClampNeg → vv j = (fI H1214 vq j).toInt := fun j hj => (f1207 j hj).trans (congrArg Int32.toInt (fI_kept (x_lt hTH1196 kH1214 gvq (by decide))).symm)
            have m1218 := (fI_kept (x_lt hTH1196 kH1214 gkq (by decide))).trans m1208
            have m1219 := (m1209).trans (fI_kept (x_lt hTH1196 kH1214 gkq (by decide))).symm
            have m1220 := (m1210).trans (fI_kept (x_lt hTH1196 kH1214 gkq (by decide))).symm
            have m1221 := (m1200).trans (fR_kept (x_lt hTH1196 kH1214 ga0 (by decide))).symm
            have m1222 := (m1201).trans (fR_kept (x_lt hTH1196 kH1214 ga0 (by decide))).symm
            have m1223 := (m1202).trans (fR_kept (x_lt hTH1196 kH1214 ga0 (by decide))).symm
            have m1224 := (m1203).trans (fI_kept (x_lt hTH1196 kH1214 ga0 (by decide))).symm
            have m1225 := (ex1198).trans (fI_kept (x_lt hTH1196 kH1214 ga0 (by decide))).symm
            have m1226 := (ex1199).trans (fI_kept (x_lt hTH1196 kH1214 ga0 (by decide))).symm
            refine W.eq (g2 := F0 m 116 ls1175 []) rfl ?_
            refine lv_iconst (v := 1) hx hb dX4_part_116 (by decide) ?_
            have cn_F := i_cl (x := F) (by omega)
            have cn_tat := i_cl (x := tat) (by omega)
            have cn_x1 := i_cl (x := x1) (by omega)
            have cn_x1180 := i_cl (x := x1180) (by omega)
            have cn_x1158 := i_cl (x := x1158) (by omega)
            exact x_zret C hQ (Or.inr rfl) dX4_part_117 hSH1214 (by decide) (by decide) (⟨1, x1198, x1199, rfl, by decide, m1225, m1226, by omega, m1221, m1222, m1223, m1224, m1215, Or.inr ⟨(pa_cp (by rw [qvx1119]; omega)).trans ((cp_go (RQ.yes m1165 (by omega)) (by rw [qvx1174]; omega) (show x1180.toNatClampNeg = _ + 1 by omega)).trans (RQ.yes m1205 (by omega))), by omega⟩, hTH1214⟩)
          · have k1212 := i_eq c1211
            refine lv_iconst (v := 0) hx hb dX4_part_105 (by decide) ?_
            have cn_F := i_cl (x := F) (by omega)
            have cn_tat := i_cl (x := tat) (by omega)
            have cn_x1 := i_cl (x := x1) (by omega)
            have cn_x1180 := i_cl (x := x1180) (by omega)
            have cn_x1158 := i_cl (x := x1158) (by omega)
            exact x_zret C hQ (Or.inl rfl) dX4_part_106 hSH1196 (by decide) (by decide) (⟨0, x1198, x1199, rfl, by decide, ex1198, ex1199, by omega, m1200, m1201, m1202, m1203, m1204, Or.inl ⟨(pa_cp (by rw [qvx1119]; omega)).trans ((cp_go (RQ.yes m1165 (by omega)) (by rw [qvx1174]; omega) (show x1180.toNatClampNeg = _ + 1 by omega)).trans (RQ.no m1205 (by omega))), by omega⟩, hTH1196⟩)
        · have k1178 := i_ne c1177
          refine lv_iload_n hx hb dX4_part_70 rfl (lv_at hl1176 0 rfl) ?_
          refine lv_bipush (v := 61) hx hb dX4_part_71 (by decide) ?_
          refine lv_icmp_eq (tgt := 88) hx hb dX4_part_73 (by decide) (fun c1227 => ?_) (fun c1227 => ?_)
          · have k1228 := i_eq c1227
            refine lv_aload_n hx hb dX4_part_88 rfl (lv_at hl1176 2 rfl) ?_
            refine lv_dup hx hb dX4_part_89 rfl ?_
            refine x_gi C hTH1156 (ci := 4) (k := 7) rfl inX4 (by decide) wF_X4_42 ga0 rg_78 rfl dX4_part_90 (fun x1229 ex1229 bx1229 => ?_)
            have ux1229 : x1158 = x1229 := (ex1158).trans ex1229.symm
            subst ux1229
            refine lv_iconst (v := 1) hx hb dX4_part_93 (by decide) ?_
            refine lv_iadd hx hb dX4_part_94 ?_
            refine lv_topi (fun x1230 ex1230 => ?_)
            have tx1230 := i_add ex1230 (by omega)
            have fz1232 : 0 ≤ x1230.toInt ∧ x1230.toInt ≤ 500 := by have := i_rng x1230; omega
            refine x_put C hTH1156 hSH1156 (ci := 4) (k := 7) (v := .int x1230) (ty0 := tyX4) rfl inX4 tyX4_ok nmX4 (by decide) rfl wF_X4_42 ga0 rg_78 rfl rfl (okI (by have := i_rng x1230; omega) (by have := i_rng x1230; omega)) rfl rfl (AE_in ga0 (by decide)) dX4_part_95 (fun H1231 locsH1231 hTH1231 hSH1231 wH1231 => ?_)
            have f1233 : ∀ j : Nat, j ≤ F.toNatClampNeg → kk j = (fI H1231 kq j).toInt := fun j hj => (f1166 j hj).trans (congrArg Int32.toInt (Wr.neI wH1231 (Or.inl (G_ne gkq ga0 (by decide)))).symm)
            have f1234 : ∀ j : Nat, j ≤ F.toNatClampNeg → vv j = (fI H1231 vq j).toInt := fun j hj => (f1167 j hj).trans (congrArg Int32.toInt (Wr.neI wH1231 (Or.inl (G_ne gvq ga0 (by decide)))).symm)
            have m1235 := (Wr.neI wH1231 (Or.inl (G_ne gkq ga0 (by decide)))).trans m1168
            have m1236 := m1169.trans (Wr.neI wH1231 (Or.inl (G_ne gkq ga0 (by decide)))).symm
            have m1237 := m1160.trans (Wr.neR wH1231 (Or.inr (x_apart hKT hts inX4 tyX4 tyX4_ok nmX4 rfl 0 7 (by decide) (by decide) (by decide)))).symm
            have m1238 := m1161.trans (Wr.neR wH1231 (Or.inr (x_apart hKT hts inX4 tyX4 tyX4_ok nmX4 rfl 3 7 (by decide) (by decide) (by decide)))).symm
            have m1239 := m1162.trans (Wr.neR wH1231 (Or.inr (x_apart hKT hts inX4 tyX4 tyX4_ok nmX4 rfl 4 7 (by decide) (by decide) (by decide)))).symm
            have m1240 := m1163.trans (Wr.neI wH1231 (Or.inr (x_apart hKT hts inX4 tyX4 tyX4_ok nmX4 rfl 8 7 (by decide) (by decide) (by decide)))).symm
            have m1241 := m1164.trans (Wr.neI wH1231 (Or.inl (G_ne gmq ga0 (by decide)))).symm
            have m1243 := ex1159.trans (Wr.neI wH1231 (Or.inr (x_apart hKT hts inX4 tyX4 tyX4_ok nmX4 rfl 1 7 (by decide) (by decide) (by decide)))).symm
            have m1244 := ex1174.trans (Wr.neI wH1231 (Or.inl (G_ne gkq ga0 (by decide)))).symm
            have m1245 := Wr.I wH1231
            have m1245 := m1245.symm
            refine lv_aload_n hx hb dX4_part_98 rfl (lv_at hl1176 2 rfl) ?_
            refine x_V (As := []) (rest := []) C (a_X4_sum_e l K G H1231 (F) (x1230) (x1159) (lw) (li) kk vv hTH1231 ga0 gmq m1237 gkq m1238 gvq m1239 m1245 m1243 m1240 m1241 m1235 (by omega) (by omega) f1233 f1234) yo_X4_sum wM_X4_103 ⟨⟨by decide, by decide⟩, by decide, by decide⟩ (x_rv C hTH1231 (ci := 4) rfl ga0 rg_78) rfl hl1176.1 rfl (Nat.le_of_ble_eq_true rfl) dX4_part_99 hSH1231 (AE_sub (fun _ _ => rfl) (by decide) hSH1231.1) (fun vH1246 H1246 locsH1246 pH1246 zH1246 kH1246 hSH1246 => ?_)
            obtain ⟨x1247, x1248, x1249, hvH1246, bx1247, ex1248, ex1249, hrH1246, m1250, m1251, m1252, m1253, m1254, m1255, hTH1246⟩ := pH1246
            subst hvH1246
            have f1256 : ∀ j : Nat, j ≤ F.toNatClampNeg → kk j = (fI H1246 kq j).toInt := fun j hj => (f1233 j hj).trans (congrArg Int32.toInt (fI_kept (x_lt hTH1231 kH1246 gkq (by decide))).symm)
            have f1257 : ∀ j : Nat, j ≤ F.toNatClampNeg → vv j = (fI H1246 vq j).toInt := fun j hj => (f1234 j hj).trans (congrArg Int32.toInt (fI_kept (x_lt hTH1231 kH1246 gvq (by decide))).symm)
            have m1258 := (fI_kept (x_lt hTH1231 kH1246 gkq (by decide))).trans m1235
            have m1259 := (m1236).trans (fI_kept (x_lt hTH1231 kH1246 gkq (by decide))).symm
            have m1260 := (m1244).trans (fI_kept (x_lt hTH1231 kH1246 gkq (by decide))).symm
            have bx1248 := ty_fi (x := x1248) (k := 7) ex1248 hTH1246 ga0 rg_78 rfl
            have bx1249 := ty_fi (x := x1249) (k := 1) ex1249 hTH1246 ga0 rg_78 rfl
            refine W.eq (g2 := F0 m 102 ls1175 [.int x1247]) rfl ?_
            refine lv_if_ne (tgt := 107) hx hb dX4_part_102 (by decide) (fun c1261 => ?_) (fun c1261 => ?_)
            · have k1262 := i_ne c1261
              refine lv_aload_n hx hb dX4_part_107 rfl (lv_at hl1176 2 rfl) ?_
              refine x_gr C hTH1246 (ci := 4) (k := 0) rfl inX4 (by decide) wF_X4_12 ga0 rg_78 rfl dX4_part_108 (fun q1263 eq1263 gq1263 => ?_)
              have uq1263 : mq = q1263 := (m1250).trans eq1263.symm
              subst uq1263
              refine lv_iload_n hx hb dX4_part_111 rfl (lv_at hl1176 0 rfl) ?_
              refine lv_iconst (v := 0) hx hb dX4_part_112 (by decide) ?_
              refine x_V (As := [.int x1174, .int 0]) (rest := []) C (a_X7_addStep_e l K G H1246 (x1174) (0) (li) hTH1246 gmq m1254) yo_X7_addStep wM_X4_131 ⟨⟨by decide, by decide⟩, by decide, by decide⟩ (x_rv C hTH1246 (ci := 7) rfl gmq rg_69) rfl hl1176.1 rfl (Nat.le_of_ble_eq_true rfl) dX4_part_113 hSH1246 (AE_sub (fun _ _ => rfl) (by decide) hSH1246.1) (fun vH1264 H1264 locsH1264 pH1264 zH1264 kH1264 hSH1264 => ?_)
              obtain ⟨hvH1264, m1265, hTH1264⟩ := pH1264
              subst hvH1264
              have f1266 : ∀ j : Nat, j ≤ F.toNatClampNeg → kk j = (fI H1264 kq j).toInt := fun j hj => (f1256 j hj).trans (congrArg Int32.toInt (fI_kept (x_lt hTH1246 kH1264 gkq (by decide))).symm)
              have f1267 : ∀ j : Nat, j ≤ F.toNatClampNeg → vv j = (fI H1264 vq j).toInt := fun j hj => (f1257 j hj).trans (congrArg Int32.toInt (fI_kept (x_lt hTH1246 kH1264 gvq (by decide))).symm)
              have m1268 := (fI_kept (x_lt hTH1246 kH1264 gkq (by decide))).trans m1258
              have m1269 := (m1259).trans (fI_kept (x_lt hTH1246 kH1264 gkq (by decide))).symm
              have m1270 := (m1260).trans (fI_kept (x_lt hTH1246 kH1264 gkq (by decide))).symm
              have m1271 := (m1250).trans (fR_kept (x_lt hTH1246 kH1264 ga0 (by decide))).symm
              have m1272 := (m1251).trans (fR_kept (x_lt hTH1246 kH1264 ga0 (by decide))).symm
              have m1273 := (m1252).trans (fR_kept (x_lt hTH1246 kH1264 ga0 (by decide))).symm
              have m1274 := (m1253).trans (fI_kept (x_lt hTH1246 kH1264 ga0 (by decide))).symm
              have m1275 := (ex1248).trans (fI_kept (x_lt hTH1246 kH1264 ga0 (by decide))).symm
              have m1276 := (ex1249).trans (fI_kept (x_lt hTH1246 kH1264 ga0 (by decide))).symm
              refine W.eq (g2 := F0 m 116 ls1175 []) rfl ?_
              refine lv_iconst (v := 1) hx hb dX4_part_116 (by decide) ?_
              have cn_F := i_cl (x := F) (by omega)
              have cn_tat := i_cl (x := tat) (by omega)
              have cn_x1 := i_cl (x := x1) (by omega)
              have cn_x1230 := i_cl (x := x1230) (by omega)
              have cn_x1158 := i_cl (x := x1158) (by omega)
              exact x_zret C hQ (Or.inr rfl) dX4_part_117 hSH1264 (by decide) (by decide) (⟨1, x1248, x1249, rfl, by decide, m1275, m1276, by omega, m1271, m1272, m1273, m1274, m1265, Or.inr ⟨(pa_cp (by rw [qvx1119]; omega)).trans ((cp_go (RQ.yes m1165 (by omega)) (by rw [qvx1174]; omega) (show x1230.toNatClampNeg = _ + 1 by omega)).trans (RQ.yes m1255 (by omega))), by omega⟩, hTH1264⟩)
            · have k1262 := i_eq c1261
              refine lv_iconst (v := 0) hx hb dX4_part_105 (by decide) ?_
              have cn_F := i_cl (x := F) (by omega)
              have cn_tat := i_cl (x := tat) (by omega)
              have cn_x1 := i_cl (x := x1) (by omega)
              have cn_x1230 := i_cl (x := x1230) (by omega)
              have cn_x1158 := i_cl (x := x1158) (by omega)
              exact x_zret C hQ (Or.inl rfl) dX4_part_106 hSH1246 (by decide) (by decide) (⟨0, x1248, x1249, rfl, by decide, ex1248, ex1249, by omega, m1250, m1251, m1252, m1253, m1254, Or.inl ⟨(pa_cp (by rw [qvx1119]; omega)).trans ((cp_go (RQ.yes m1165 (by omega)) (by rw [qvx1174]; omega) (show x1230.toNatClampNeg = _ + 1 by omega)).trans (RQ.no m1255 (by omega))), by omega⟩, hTH1246⟩)
          · have k1228 := i_ne c1227
            refine lv_iload_n hx hb dX4_part_76 rfl (lv_at hl1176 0 rfl) ?_
            refine lv_bipush (v := 62) hx hb dX4_part_77 (by decide) ?_
            refine lv_icmp_eq (tgt := 88) hx hb dX4_part_79 (by decide) (fun c1277 => ?_) (fun c1277 => ?_)
            · have k1278 := i_eq c1277
              refine lv_aload_n hx hb dX4_part_88 rfl (lv_at hl1176 2 rfl) ?_
              refine lv_dup hx hb dX4_part_89 rfl ?_
              refine x_gi C hTH1156 (ci := 4) (k := 7) rfl inX4 (by decide) wF_X4_42 ga0 rg_78 rfl dX4_part_90 (fun x1279 ex1279 bx1279 => ?_)
              have ux1279 : x1158 = x1279 := (ex1158).trans ex1279.symm
              subst ux1279
              refine lv_iconst (v := 1) hx hb dX4_part_93 (by decide) ?_
              refine lv_iadd hx hb dX4_part_94 ?_
              refine lv_topi (fun x1280 ex1280 => ?_)
              have tx1280 := i_add ex1280 (by omega)
              have fz1282 : 0 ≤ x1280.toInt ∧ x1280.toInt ≤ 500 := by have := i_rng x1280; omega
              refine x_put C hTH1156 hSH1156 (ci := 4) (k := 7) (v := .int x1280) (ty0 := tyX4) rfl inX4 tyX4_ok nmX4 (by decide) rfl wF_X4_42 ga0 rg_78 rfl rfl (okI (by have := i_rng x1280; omega) (by have := i_rng x1280; omega)) rfl rfl (AE_in ga0 (by decide)) dX4_part_95 (fun H1281 locsH1281 hTH1281 hSH1281 wH1281 => ?_)
              have f1283 : ∀ j : Nat, j ≤ F.toNatClampNeg → kk j = (fI H1281 kq j).toInt := fun j hj => (f1166 j hj).trans (congrArg Int32.toInt (Wr.neI wH1281 (Or.inl (G_ne gkq ga0 (by decide)))).symm)
              have f1284 : ∀ j : Nat, j ≤ F.toNatClampNeg → vv j = (fI H1281 vq j).toInt := fun j hj => (f1167 j hj).trans (congrArg Int32.toInt (Wr.neI wH1281 (Or.inl (G_ne gvq ga0 (by decide)))).symm)
              have m1285 := (Wr.neI wH1281 (Or.inl (G_ne gkq ga0 (by decide)))).trans m1168
              have m1286 := m1169.trans (Wr.neI wH1281 (Or.inl (G_ne gkq ga0 (by decide)))).symm
              have m1287 := m1160.trans (Wr.neR wH1281 (Or.inr (x_apart hKT hts inX4 tyX4 tyX4_ok nmX4 rfl 0 7 (by decide) (by decide) (by decide)))).symm
              have m1288 := m1161.trans (Wr.neR wH1281 (Or.inr (x_apart hKT hts inX4 tyX4 tyX4_ok nmX4 rfl 3 7 (by decide) (by decide) (by decide)))).symm
              have m1289 := m1162.trans (Wr.neR wH1281 (Or.inr (x_apart hKT hts inX4 tyX4 tyX4_ok nmX4 rfl 4 7 (by decide) (by decide) (by decide)))).symm
              have m1290 := m1163.trans (Wr.neI wH1281 (Or.inr (x_apart hKT hts inX4 tyX4 tyX4_ok nmX4 rfl 8 7 (by decide) (by decide) (by decide)))).symm
              have m1291 := m1164.trans (Wr.neI wH1281 (Or.inl (G_ne gmq ga0 (by decide)))).symm
              have m1293 := ex1159.trans (Wr.neI wH1281 (Or.inr (x_apart hKT hts inX4 tyX4 tyX4_ok nmX4 rfl 1 7 (by decide) (by decide) (by decide)))).symm
              have m1294 := ex1174.trans (Wr.neI wH1281 (Or.inl (G_ne gkq ga0 (by decide)))).symm
              have m1295 := Wr.I wH1281
              have m1295 := m1295.symm
              refine lv_aload_n hx hb dX4_part_98 rfl (lv_at hl1176 2 rfl) ?_
              refine x_V (As := []) (rest := []) C (a_X4_sum_e l K G H1281 (F) (x1280) (x1159) (lw) (li) kk vv hTH1281 ga0 gmq m1287 gkq m1288 gvq m1289 m1295 m1293 m1290 m1291 m1285 (by omega) (by omega) f1283 f1284) yo_X4_sum wM_X4_103 ⟨⟨by decide, by decide⟩, by decide, by decide⟩ (x_rv C hTH1281 (ci := 4) rfl ga0 rg_78) rfl hl1176.1 rfl (Nat.le_of_ble_eq_true rfl) dX4_part_99 hSH1281 (AE_sub (fun _ _ => rfl) (by decide) hSH1281.1) (fun vH1296 H1296 locsH1296 pH1296 zH1296 kH1296 hSH1296 => ?_)
              obtain ⟨x1297, x1298, x1299, hvH1296, bx1297, ex1298, ex1299, hrH1296, m1300, m1301, m1302, m1303, m1304, m1305, hTH1296⟩ := pH1296
              subst hvH1296
              have f1306 : ∀ j : Nat, j ≤ F.toNatClampNeg → kk j = (fI H1296 kq j).toInt := fun j hj => (f1283 j hj).trans (congrArg Int32.toInt (fI_kept (x_lt hTH1281 kH1296 gkq (by decide))).symm)
              have f1307 : ∀ j : Nat, j ≤ F.toNatClampNeg → vv j = (fI H1296 vq j).toInt := fun j hj => (f1284 j hj).trans (congrArg Int32.toInt (fI_kept (x_lt hTH1281 kH1296 gvq (by decide))).symm)
              have m1308 := (fI_kept (x_lt hTH1281 kH1296 gkq (by decide))).trans m1285
              have m1309 := (m1286).trans (fI_kept (x_lt hTH1281 kH1296 gkq (by decide))).symm
              have m1310 := (m1294).trans (fI_kept (x_lt hTH1281 kH1296 gkq (by decide))).symm
              have bx1298 := ty_fi (x := x1298) (k := 7) ex1298 hTH1296 ga0 rg_78 rfl
              have bx1299 := ty_fi (x := x1299) (k := 1) ex1299 hTH1296 ga0 rg_78 rfl
              refine W.eq (g2 := F0 m 102 ls1175 [.int x1297]) rfl ?_
              refine lv_if_ne (tgt := 107) hx hb dX4_part_102 (by decide) (fun c1311 => ?_) (fun c1311 => ?_)
              · have k1312 := i_ne c1311
                refine lv_aload_n hx hb dX4_part_107 rfl (lv_at hl1176 2 rfl) ?_
                refine x_gr C hTH1296 (ci := 4) (k := 0) rfl inX4 (by decide) wF_X4_12 ga0 rg_78 rfl dX4_part_108 (fun q1313 eq1313 gq1313 => ?_)
                have uq1313 : mq = q1313 := (m1300).trans eq1313.symm
                subst uq1313
                refine lv_iload_n hx hb dX4_part_111 rfl (lv_at hl1176 0 rfl) ?_
                refine lv_iconst (v := 0) hx hb dX4_part_112 (by decide) ?_
                refine x_V (As := [.int x1174, .int 0]) (rest := []) C (a_X7_addStep_e l K G H1296 (x1174) (0) (li) hTH1296 gmq m1304) yo_X7_addStep wM_X4_131 ⟨⟨by decide, by decide⟩, by decide, by decide⟩ (x_rv C hTH1296 (ci := 7) rfl gmq rg_69) rfl hl1176.1 rfl (Nat.le_of_ble_eq_true rfl) dX4_part_113 hSH1296 (AE_sub (fun _ _ => rfl) (by decide) hSH1296.1) (fun vH1314 H1314 locsH1314 pH1314 zH1314 kH1314 hSH1314 => ?_)
                obtain ⟨hvH1314, m1315, hTH1314⟩ := pH1314
                subst hvH1314
                have f1316 : ∀ j : Nat, j ≤ F.toNatClampNeg → kk j = (fI H1314 kq j).toInt := fun j hj => (f1306 j hj).trans (congrArg Int32.toInt (fI_kept (x_lt hTH1296 kH1314 gkq (by decide))).symm)
                have f1317 : ∀ j : Nat, j ≤ F.toNatClampNeg → vv j = (fI H1314 vq j).toInt := fun j hj => (f1307 j hj).trans (congrArg Int32.toInt (fI_kept (x_lt hTH1296 kH1314 gvq (by decide))).symm)
                have m1318 := (fI_kept (x_lt hTH1296 kH1314 gkq (by decide))).trans m1308
                have m1319 := (m1309).trans (fI_kept (x_lt hTH1296 kH1314 gkq (by decide))).symm
                have m1320 := (m1310).trans (fI_kept (x_lt hTH1296 kH1314 gkq (by decide))).symm
                have m1321 := (m1300).trans (fR_kept (x_lt hTH1296 kH1314 ga0 (by decide))).symm
                have m1322 := (m1301).trans (fR_kept (x_lt hTH1296 kH1314 ga0 (by decide))).symm
                have m1323 := (m1302).trans (fR_kept (x_lt hTH1296 kH1314 ga0 (by decide))).symm
                have m1324 := (m1303).trans (fI_kept (x_lt hTH1296 kH1314 ga0 (by decide))).symm
                have m1325 := (ex1298).trans (fI_kept (x_lt hTH1296 kH1314 ga0 (by decide))).symm
                have m1326 := (ex1299).trans (fI_kept (x_lt hTH1296 kH1314 ga0 (by decide))).symm
                refine W.eq (g2 := F0 m 116 ls1175 []) rfl ?_
                refine lv_iconst (v := 1) hx hb dX4_part_116 (by decide) ?_
                have cn_F := i_cl (x := F) (by omega)
                have cn_tat := i_cl (x := tat) (by omega)
                have cn_x1 := i_cl (x := x1) (by omega)
                have cn_x1280 := i_cl (x := x1280) (by omega)
                have cn_x1158 := i_cl (x := x1158) (by omega)
                exact x_zret C hQ (Or.inr rfl) dX4_part_117 hSH1314 (by decide) (by decide) (⟨1, x1298, x1299, rfl, by decide, m1325, m1326, by omega, m1321, m1322, m1323, m1324, m1315, Or.inr ⟨(pa_cp (by rw [qvx1119]; omega)).trans ((cp_go (RQ.yes m1165 (by omega)) (by rw [qvx1174]; omega) (show x1280.toNatClampNeg = _ + 1 by omega)).trans (RQ.yes m1305 (by omega))), by omega⟩, hTH1314⟩)
              · have k1312 := i_eq c1311
                refine lv_iconst (v := 0) hx hb dX4_part_105 (by decide) ?_
                have cn_F := i_cl (x := F) (by omega)
                have cn_tat := i_cl (x := tat) (by omega)
                have cn_x1 := i_cl (x := x1) (by omega)
                have cn_x1280 := i_cl (x := x1280) (by omega)
                have cn_x1158 := i_cl (x := x1158) (by omega)
                exact x_zret C hQ (Or.inl rfl) dX4_part_106 hSH1296 (by decide) (by decide) (⟨0, x1298, x1299, rfl, by decide, ex1298, ex1299, by omega, m1300, m1301, m1302, m1303, m1304, Or.inl ⟨(pa_cp (by rw [qvx1119]; omega)).trans ((cp_go (RQ.yes m1165 (by omega)) (by rw [qvx1174]; omega) (show x1280.toNatClampNeg = _ + 1 by omega)).trans (RQ.no m1305 (by omega))), by omega⟩, hTH1296⟩)
            · have k1278 := i_ne c1277
              refine lv_aload_n hx hb dX4_part_82 rfl (lv_at hl1176 2 rfl) ?_
              refine lv_iconst (v := 1) hx hb dX4_part_83 (by decide) ?_
              refine x_V (As := [.int 1]) (rest := []) C (a_X4_refuse_e l K G H1156 (1) (x1158) (x1159) (lw) hTH1156 ga0 gmq m1160 gkq m1161 gvq m1162 ex1158 ex1159 m1163) yo_X4_refuse wM_X4_81 ⟨⟨by decide, by decide⟩, by decide, by decide⟩ (x_rv C hTH1156 (ci := 4) rfl ga0 rg_78) rfl hl1176.1 rfl (Nat.le_of_ble_eq_true rfl) dX4_part_84 hSH1156 (AE_sub (fun _ _ => rfl) (by decide) hSH1156.1) (fun vH1327 H1327 locsH1327 pH1327 zH1327 kH1327 hSH1327 => ?_)
              obtain ⟨x1328, x1329, x1330, hvH1327, bx1328, ex1329, ex1330, hrH1327, m1331, m1332, m1333, m1334, hTH1327⟩ := pH1327
              subst hvH1327
              have f1335 : ∀ j : Nat, j ≤ F.toNatClampNeg → kk j = (fI H1327 kq j).toInt := fun j hj => (f1166 j hj).trans (congrArg Int32.toInt (fI_kept (x_lt hTH1156 kH1327 gkq (by decide))).symm)
              have f1336 : ∀ j : Nat, j ≤ F.toNatClampNeg → vv j = (fI H1327 vq j).toInt := fun j hj => (f1167 j hj).trans (congrArg Int32.toInt (fI_kept (x_lt hTH1156 kH1327 gvq (by decide))).symm)
              have m1337 := (fI_kept (x_lt hTH1156 kH1327 gkq (by decide))).trans m1168
              have m1338 := (m1169).trans (fI_kept (x_lt hTH1156 kH1327 gkq (by decide))).symm
              have m1339 := (m1164).trans (fI_kept (x_lt hTH1156 kH1327 gmq (by decide))).symm
              have m1340 := (ex1174).trans (fI_kept (x_lt hTH1156 kH1327 gkq (by decide))).symm
              have bx1329 := ty_fi (x := x1329) (k := 7) ex1329 hTH1327 ga0 rg_78 rfl
              have bx1330 := ty_fi (x := x1330) (k := 1) ex1330 hTH1327 ga0 rg_78 rfl
              refine W.eq (g2 := F0 m 87 ls1175 [.int x1328]) rfl ?_
              have cn_F := i_cl (x := F) (by omega)
              have cn_tat := i_cl (x := tat) (by omega)
              have cn_x1 := i_cl (x := x1) (by omega)
              exact x_zret C hQ (i_01 (by omega)) dX4_part_87 hSH1327 (by decide) (by decide) (⟨x1328, x1329, x1330, rfl, by omega, ex1329, ex1330, by omega, m1331, m1332, m1333, m1334, m1339, Or.inl ⟨(pa_cp (by rw [qvx1119]; omega)).trans (cp_no2 (RQ.yes m1165 (by omega)) (by rw [qvx1174]; omega)), by omega⟩, hTH1327⟩)
      · have k1171 := i_eq c1170
        refine lv_iconst (v := 0) hx hb dX4_part_52 (by decide) ?_
        have cn_F := i_cl (x := F) (by omega)
        have cn_tat := i_cl (x := tat) (by omega)
        have cn_x1 := i_cl (x := x1) (by omega)
        exact x_zret C hQ (Or.inl rfl) dX4_part_53 hSH1156 (by decide) (by decide) (⟨0, x1158, x1159, rfl, by decide, ex1158, ex1159, by omega, m1160, m1161, m1162, m1163, m1164, Or.inl ⟨(pa_cp (by rw [qvx1119]; omega)).trans (cp_no1 (RQ.no m1165 (by omega))), by omega⟩, hTH1156⟩)
    · have k1155 := i_eq c1154
      refine lv_iload_n hx hb dX4_part_22 rfl (lv_at hl1121 2 rfl) ?_
      refine lv_bipush (v := 8) hx hb dX4_part_23 (by decide) ?_
      refine lv_icmp_ge (tgt := 39) hx hb dX4_part_25 (by decide) (fun c1341 => ?_) (fun c1341 => ?_)
      · have k1342 := i_le c1341
        refine lv_aload_n hx hb dX4_part_39 rfl (lv_at hl1121 1 rfl) ?_
        refine lv_iconst (v := 3) hx hb dX4_part_40 (by decide) ?_
        refine x_V (As := [.int 3]) (rest := []) C (a_X4_refuse_e l K G s.heap (3) (tat) (fa) (lw) hT ga0 gmq emq gkq ekq gvq evq etat efa elw) yo_X4_refuse wM_X4_81 ⟨⟨by decide, by decide⟩, by decide, by decide⟩ (x_rv C hT (ci := 4) rfl ga0 rg_78) rfl hl1121.1 rfl (Nat.le_of_ble_eq_true rfl) dX4_part_41 hS (AE_sub (fun _ _ => rfl) (by decide) hS.1) (fun vH1343 H1343 locsH1343 pH1343 zH1343 kH1343 hSH1343 => ?_)
        obtain ⟨x1344, x1345, x1346, hvH1343, bx1344, ex1345, ex1346, hrH1343, m1347, m1348, m1349, m1350, hTH1343⟩ := pH1343
        subst hvH1343
        have f1351 : ∀ j : Nat, j ≤ F.toNatClampNeg → kk j = (fI H1343 kq j).toInt := fun j hj => (f0_kk j hj).trans (congrArg Int32.toInt (fI_kept (x_lt hT kH1343 gkq (by decide))).symm)
        have f1352 : ∀ j : Nat, j ≤ F.toNatClampNeg → vv j = (fI H1343 vq j).toInt := fun j hj => (f0_vv j hj).trans (congrArg Int32.toInt (fI_kept (x_lt hT kH1343 gvq (by decide))).symm)
        have m1353 := (eli).trans (fI_kept (x_lt hT kH1343 gmq (by decide))).symm
        have m1354 := (fI_kept (x_lt hT kH1343 gkq (by decide))).trans hel0
        have m1355 := (ex1119).trans (fI_kept (x_lt hT kH1343 gkq (by decide))).symm
        have bx1345 := ty_fi (x := x1345) (k := 7) ex1345 hTH1343 ga0 rg_78 rfl
        have bx1346 := ty_fi (x := x1346) (k := 1) ex1346 hTH1343 ga0 rg_78 rfl
        refine W.eq (g2 := F0 m 44 ls1120 [.int x1344]) rfl ?_
        have cn_F := i_cl (x := F) (by omega)
        have cn_tat := i_cl (x := tat) (by omega)
        have cn_x1 := i_cl (x := x1) (by omega)
        exact x_zret C hQ (i_01 (by omega)) dX4_part_44 hSH1343 (by decide) (by decide) (⟨x1344, x1345, x1346, rfl, by omega, ex1345, ex1346, by omega, m1347, m1348, m1349, m1350, m1353, Or.inl ⟨pa_deep (by omega) (by rw [qvx1119]; omega), by omega⟩, hTH1343⟩)
      · have k1342 := i_nle c1341
        refine lv_aload_n hx hb dX4_part_28 rfl (lv_at hl1121 1 rfl) ?_
        refine lv_iload_n hx hb dX4_part_29 rfl (lv_at hl1121 0 rfl) ?_
        refine lv_iload_n hx hb dX4_part_30 rfl (lv_at hl1121 2 rfl) ?_
        refine lv_iconst (v := 1) hx hb dX4_part_31 (by decide) ?_
        refine lv_iadd hx hb dX4_part_32 ?_
        refine lv_topi (fun x1356 ex1356 => ?_)
        have tx1356 := i_add ex1356 (by omega)
        refine x_V (As := [.int x1119, .int x1356]) (rest := []) C (a_X4_opened_e7 l K G s.heap (x1119) (x1356) (F) (tat) (fa) (lw) (li) kk vv hT ga0 (by omega) gmq emq gkq ekq gvq evq etat efa elw eli hel0 (by omega) (by omega) (by omega) f0_kk f0_vv) yo_X4_opened wM_X4_138 ⟨⟨by decide, by decide⟩, by decide, by decide⟩ (x_rv C hT (ci := 4) rfl ga0 rg_78) rfl hl1121.1 rfl (Nat.le_of_ble_eq_true rfl) dX4_part_33 hS (AE_sub (fun _ _ => rfl) (by decide) hS.1) (fun vH1357 H1357 locsH1357 pH1357 zH1357 kH1357 hSH1357 => ?_)
        obtain ⟨x1358, x1359, x1360, hvH1357, bx1358, ex1359, ex1360, hrH1357, m1361, m1362, m1363, m1364, m1365, m1366, hTH1357⟩ := pH1357
        subst hvH1357
        have f1367 : ∀ j : Nat, j ≤ F.toNatClampNeg → kk j = (fI H1357 kq j).toInt := fun j hj => (f0_kk j hj).trans (congrArg Int32.toInt (fI_kept (x_lt hT kH1357 gkq (by decide))).symm)
        have f1368 : ∀ j : Nat, j ≤ F.toNatClampNeg → vv j = (fI H1357 vq j).toInt := fun j hj => (f0_vv j hj).trans (congrArg Int32.toInt (fI_kept (x_lt hT kH1357 gvq (by decide))).symm)
        have m1369 := (fI_kept (x_lt hT kH1357 gkq (by decide))).trans hel0
        have m1370 := (ex1119).trans (fI_kept (x_lt hT kH1357 gkq (by decide))).symm
        have bx1359 := ty_fi (x := x1359) (k := 7) ex1359 hTH1357 ga0 rg_78 rfl
        have bx1360 := ty_fi (x := x1360) (k := 1) ex1360 hTH1357 ga0 rg_78 rfl
        refine W.eq (g2 := F0 m 36 ls1120 [.int x1358]) rfl ?_
        refine lv_goto (tgt := 44) hx hb dX4_part_36 (by decide) ?_
        have cn_F := i_cl (x := F) (by omega)
        have cn_tat := i_cl (x := tat) (by omega)
        have cn_x1 := i_cl (x := x1) (by omega)
        have cn_x1356 := i_cl (x := x1356) (by omega)
        exact x_zret C hQ (i_01 (by omega)) dX4_part_44 hSH1357 (by decide) (by decide) (⟨x1358, x1359, x1360, rfl, by omega, ex1359, ex1360, by omega, m1361, m1362, m1363, m1364, m1365, RQ.tr m1366 (pa_op (by omega) (qvx1119).symm (by rw [qvx1119]; omega)), hTH1357⟩)

set_option maxHeartbeats 4000000 in
set_option maxRecDepth 100000 in
theorem a_X4_both_e6 (l : Launch) (K : KE) (G : Nat → Option Nat) (H : Heap) {a0 : Nat} (x1 : Int32) {mq : Nat} {kq : Nat} {vq : Nat} (F : Int32) (tat : Int32) (fa : Int32) (lw : Int32) (li : Int32) (kk : Nat → Int) (vv : Nat → Int) (hT : TY K G H) (ga0 : G a0 = some 78) (hx1 : 6 ≤ x1.toInt ∧ x1.toInt ≤ 8) (gmq : G mq = some 69) (emq : mq = fR H a0 (K.1.2 4 0)) (gkq : G kq = some 79) (ekq : kq = fR H a0 (K.1.2 4 3)) (gvq : G vq = some 80) (evq : vq = fR H a0 (K.1.2 4 4)) (etat : tat = fI H a0 (K.1.2 4 7)) (efa : fa = fI H a0 (K.1.2 4 1)) (elw : lw = fI H a0 (K.1.2 4 8)) (eli : li = fI H mq (K.1.2 7 0)) (hel0 : fI H kq (F : Int32).toNatClampNeg = 26) (hp0 : tat.toInt ≤ F.toInt) (hp1 : F.toInt ≤ 500) (hv_kk : ∀ j : Nat, j ≤ F.toNatClampNeg → kk j = (fI H kq j).toInt) (hv_vv : ∀ j : Nat, j ≤ F.toNatClampNeg → vv j = (fI H vq j).toInt) : MX l K yX4_both cX4_both 3 (some .boolean) 12 269 0 0 [.ref a0, .int x1] H (AE G [78, 69, 77] H.size) (fun v H1 => ∃ (r : Int32) (t0 : Int32) (t1 : Int32), v = some (.int r) ∧ (0 ≤ r.toInt ∧ r.toInt ≤ 1) ∧ t0 = fI H1 a0 (K.1.2 4 7) ∧ t1 = fI H1 a0 (K.1.2 4 1) ∧ (t0.toInt ≤ F.toInt ∧ ((r.toInt = 1 ∧ t1.toInt = fa.toInt ∧ tat.toInt < t0.toInt) ∨ (r.toInt = 0 ∧ t1.toInt ≠ 0))) ∧ mq = fR H1 a0 (K.1.2 4 0) ∧ kq = fR H1 a0 (K.1.2 4 3) ∧ vq = fR H1 a0 (K.1.2 4 4) ∧ lw = fI H1 a0 (K.1.2 4 8) ∧ li = fI H1 mq (K.1.2 7 0) ∧ (RQ (lpI (paS kk vv lw.toInt (8 - x1.toNatClampNeg)) (cAN kk) tat.toNatClampNeg) r t0) ∧ TY K G H1) := by
  refine MX.of (by decide +kernel) (Nat.le_of_ble_eq_true rfl) ?_
  intro p e s m below meth c ls Q C hH hl hQ
  subst hH
  have C : CX p K s m _ meth c RX4 cX4_both 3 (some .boolean) "both" := C
  obtain ⟨hx, hb, hml, hown, hts, hKT, hr, hlocks, hnm⟩ := id C
  have hl : lv_has ls 3 [(0, .ref a0), (1, .int x1)] := hl
  have hS : va_S (AE G [78, 69, 77] s.heap.size) s.heap s.heap [] := va_S.rf
  have n_0 : (0 : Int32).toInt = 0 := rfl
  have n_1 : (1 : Int32).toInt = 1 := rfl
  have n_9 : (9 : Int32).toInt = 9 := rfl
  have n_26 : (26 : Int32).toInt = 26 := rfl
  have n_500 : (500 : Int32).toInt = 500 := rfl
  have btat := ty_fi (x := tat) (k := 7) etat hT ga0 rg_78 rfl
  have bfa := ty_fi (x := fa) (k := 1) efa hT ga0 rg_78 rfl
  have blw := ty_fi (x := lw) (k := 8) elw hT ga0 rg_78 rfl
  have bli := ty_fi (x := li) (k := 0) eli hT gmq rg_69 rfl
  have hsp0 : lpI (paS kk vv lw.toInt (8 - x1.toNatClampNeg)) (cAN kk) tat.toNatClampNeg = lpI (paS kk vv lw.toInt (8 - x1.toNatClampNeg)) (cAN kk) tat.toNatClampNeg := rfl
  have f0_kk := hv_kk
  have f0_vv := hv_vv
  have J12 : ∀ (nf : Nat)  (ls1620 : Array Slot) (H1619 : Heap) (locsH1619 : List Loc) (x1622 : Int32) (x1623 : Int32) (x1624 : Int32), lv_has ls1620 3 [(0, .ref a0), (1, .int x1), (2, .int x1622)] → TY K G H1619 → va_S (AE G [78, 69, 77] s.heap.size) s.heap H1619 locsH1619 → (0 ≤ x1622.toInt ∧ x1622.toInt ≤ 500) → (0 ≤ x1623.toInt ∧ x1623.toInt ≤ 500) → (x1623 = fI H1619 a0 (K.1.2 4 7)) → (x1624 = fI H1619 a0 (K.1.2 4 1)) → (mq = fR H1619 a0 (K.1.2 4 0)) → (kq = fR H1619 a0 (K.1.2 4 3)) → (vq = fR H1619 a0 (K.1.2 4 4)) → (lw = fI H1619 a0 (K.1.2 4 8)) → (li = fI H1619 mq (K.1.2 7 0)) → (fI H1619 kq (F : Int32).toNatClampNeg = 26) → (∀ j : Nat, j ≤ F.toNatClampNeg → kk j = (fI H1619 kq j).toInt) → (∀ j : Nat, j ≤ F.toNatClampNeg → vv j = (fI H1619 vq j).toInt) → (500 - x1622.toInt < (nf : Int)) → (2 * x1622.toInt ≤ x1623.toInt ∧ tat.toInt < x1623.toInt ∧ x1623.toInt ≤ F.toInt ∧ x1624.toInt = fa.toInt) → (lpI (paS kk vv lw.toInt (8 - x1.toNatClampNeg)) (cAN kk) tat.toNatClampNeg = (if cAN kk x1623.toNatClampNeg = true then lpI (paS kk vv lw.toInt (8 - x1.toNatClampNeg)) (cAN kk) (x1623.toNatClampNeg + 1) else some x1623.toNatClampNeg)) → W p l e ({ frames := 12, cells := 0, slots := 0, locals := 269 } : Room) s m (([.ref a0, .int x1] : List Value).toArray) below meth c H1619 locsH1619 0 0 Q (F0 m 12 ls1620 []) := by
    intro nf
    induction nf with
    | zero =>
      intro  ls1620 H1619 locsH1619 x1622 x1623 x1624 hl1621 hTH1619 hSH1619 bx1622 bx1623 ex1623 ex1624 cy1625_0 cy1625_1 cy1625_2 cy1625_3 cy1625_4 cy1625_5 fy1625_kk fy1625_vv hm12 iv12 hsp12
      have rx1624 := i_rng x1624
      exfalso
      omega
    | succ nf ih12 =>
      intro  ls1620 H1619 locsH1619 x1622 x1623 x1624 hl1621 hTH1619 hSH1619 bx1622 bx1623 ex1623 ex1624 cy1625_0 cy1625_1 cy1625_2 cy1625_3 cy1625_4 cy1625_5 fy1625_kk fy1625_vv hm12 iv12 hsp12
      have rx1624 := i_rng x1624
      refine lv_iload_n hx hb dX4_both_12 rfl (lv_at hl1621 2 rfl) ?_
      refine lv_sipush (v := 500) hx hb dX4_both_13 (by decide) ?_
      refine lv_icmp_ge (tgt := 69) hx hb dX4_both_16 (by decide) (fun c1626 => ?_) (fun c1626 => ?_)
      · have k1627 := i_le c1626
        refine lv_iconst (v := 1) hx hb dX4_both_69 (by decide) ?_
        have cn_F := i_cl (x := F) (by omega)
        have cn_x1 := i_cl (x := x1) (by omega)
        have cn_x1623 := i_cl (x := x1623) (by omega)
        exact x_zret C hQ (Or.inr rfl) dX4_both_70 hSH1619 (by decide) (by decide) (⟨1, x1623, x1624, rfl, by decide, ex1623, ex1624, by omega, cy1625_0, cy1625_1, cy1625_2, cy1625_3, cy1625_4, (by first | (exfalso; omega) | exact Or.inr ⟨hsp12.trans (if_n (show cAN kk _ = false from decide_eq_false (by omega))), by omega⟩), hTH1619⟩)
      · have k1627 := i_nle c1626
        refine lv_aload_n hx hb dX4_both_19 rfl (lv_at hl1621 0 rfl) ?_
        refine x_gr C hTH1619 (ci := 4) (k := 3) rfl inX4 (by decide) wF_X4_18 ga0 rg_78 rfl dX4_both_20 (fun q1628 eq1628 gq1628 => ?_)
        have uq1628 : kq = q1628 := (cy1625_1).trans eq1628.symm
        subst uq1628
        refine lv_aload_n hx hb dX4_both_23 rfl (lv_at hl1621 0 rfl) ?_
        refine x_gi C hTH1619 (ci := 4) (k := 7) rfl inX4 (by decide) wF_X4_42 ga0 rg_78 rfl dX4_both_24 (fun x1629 ex1629 bx1629 => ?_)
        have ux1629 : x1623 = x1629 := (ex1623).trans ex1629.symm
        subst ux1629
        refine x_ai C hTH1619 gkq rg_79 ⟨by omega, by show _ < ((501 : Nat) : Int); omega⟩ dX4_both_27 (fun x1630 ex1630 bx1630 => ?_)
        have dx1630 := el_hit ex1630 cy1625_5
        have qvx1630 : kk x1623.toNatClampNeg = x1630.toInt := (fy1625_kk _ (by have h1 := i_cl (x := x1623) (by omega); have h2 := i_cl (x := F) (by omega); omega)).trans (congrArg Int32.toInt ex1630.symm)
        refine lv_bipush (v := 9) hx hb dX4_both_28 (by decide) ?_
        refine lv_icmp_ne (tgt := 69) hx hb dX4_both_30 (by decide) (fun c1631 => ?_) (fun c1631 => ?_)
        · have k1632 := i_ne c1631
          refine lv_iconst (v := 1) hx hb dX4_both_69 (by decide) ?_
          have cn_F := i_cl (x := F) (by omega)
          have cn_x1 := i_cl (x := x1) (by omega)
          have cn_x1623 := i_cl (x := x1623) (by omega)
          exact x_zret C hQ (Or.inr rfl) dX4_both_70 hSH1619 (by decide) (by decide) (⟨1, x1623, x1624, rfl, by decide, ex1623, ex1624, by omega, cy1625_0, cy1625_1, cy1625_2, cy1625_3, cy1625_4, (by first | (exfalso; omega) | exact Or.inr ⟨hsp12.trans (if_n (show cAN kk _ = false from decide_eq_false (by omega))), by omega⟩), hTH1619⟩)
        · have k1632 := i_eq c1631
          refine lv_aload_n hx hb dX4_both_33 rfl (lv_at hl1621 0 rfl) ?_
          refine lv_dup hx hb dX4_both_34 rfl ?_
          refine x_gi C hTH1619 (ci := 4) (k := 7) rfl inX4 (by decide) wF_X4_42 ga0 rg_78 rfl dX4_both_35 (fun x1633 ex1633 bx1633 => ?_)
          have ux1633 : x1623 = x1633 := (ex1623).trans ex1633.symm
          subst ux1633
          refine lv_iconst (v := 1) hx hb dX4_both_38 (by decide) ?_
          refine lv_iadd hx hb dX4_both_39 ?_
          refine lv_topi (fun x1634 ex1634 => ?_)
          have tx1634 := i_add ex1634 (by omega)
          have fz1636 : 0 ≤ x1634.toInt ∧ x1634.toInt ≤ 500 := by have := i_rng x1634; omega
          refine x_put C hTH1619 hSH1619 (ci := 4) (k := 7) (v := .int x1634) (ty0 := tyX4) rfl inX4 tyX4_ok nmX4 (by decide) rfl wF_X4_42 ga0 rg_78 rfl rfl (okI (by have := i_rng x1634; omega) (by have := i_rng x1634; omega)) rfl rfl (AE_in ga0 (by decide)) dX4_both_40 (fun H1635 locsH1635 hTH1635 hSH1635 wH1635 => ?_)
          have f1637 : ∀ j : Nat, j ≤ F.toNatClampNeg → kk j = (fI H1635 kq j).toInt := fun j hj => (fy1625_kk j hj).trans (congrArg Int32.toInt (Wr.neI wH1635 (Or.inl (G_ne gkq ga0 (by decide)))).symm)
          have f1638 : ∀ j : Nat, j ≤ F.toNatClampNeg → vv j = (fI H1635 vq j).toInt := fun j hj => (fy1625_vv j hj).trans (congrArg Int32.toInt (Wr.neI wH1635 (Or.inl (G_ne gvq ga0 (by decide)))).symm)
          have m1640 := ex1624.trans (Wr.neI wH1635 (Or.inr (x_apart hKT hts inX4 tyX4 tyX4_ok nmX4 rfl 1 7 (by decide) (by decide) (by decide)))).symm
          have m1641 := cy1625_0.trans (Wr.neR wH1635 (Or.inr (x_apart hKT hts inX4 tyX4 tyX4_ok nmX4 rfl 0 7 (by decide) (by decide) (by decide)))).symm
          have m1642 := cy1625_1.trans (Wr.neR wH1635 (Or.inr (x_apart hKT hts inX4 tyX4 tyX4_ok nmX4 rfl 3 7 (by decide) (by decide) (by decide)))).symm
          have m1643 := cy1625_2.trans (Wr.neR wH1635 (Or.inr (x_apart hKT hts inX4 tyX4 tyX4_ok nmX4 rfl 4 7 (by decide) (by decide) (by decide)))).symm
          have m1644 := cy1625_3.trans (Wr.neI wH1635 (Or.inr (x_apart hKT hts inX4 tyX4 tyX4_ok nmX4 rfl 8 7 (by decide) (by decide) (by decide)))).symm
          have m1645 := cy1625_4.trans (Wr.neI wH1635 (Or.inl (G_ne gmq ga0 (by decide)))).symm
          have m1646 := (Wr.neI wH1635 (Or.inl (G_ne gkq ga0 (by decide)))).trans cy1625_5
          have m1647 := ex1630.trans (Wr.neI wH1635 (Or.inl (G_ne gkq ga0 (by decide)))).symm
          have m1648 := Wr.I wH1635
          have m1648 := m1648.symm
          refine lv_aload_n hx hb dX4_both_43 rfl (lv_at hl1621 0 rfl) ?_
          refine lv_iload_n hx hb dX4_both_44 rfl (lv_at hl1621 1 rfl) ?_
          refine x_V (As := [.int x1]) (rest := []) C (a_X4_part_e6 l K G H1635 (x1) (F) (x1634) (x1624) (lw) (li) kk vv hTH1635 ga0 (by omega) gmq m1641 gkq m1642 gvq m1643 m1648 m1640 m1644 m1645 m1646 (by omega) (by omega) f1637 f1638) yo_X4_part wM_X4_135 ⟨⟨by decide, by decide⟩, by decide, by decide⟩ (x_rv C hTH1635 (ci := 4) rfl ga0 rg_78) rfl hl1621.1 rfl (Nat.le_of_ble_eq_true rfl) dX4_both_45 hSH1635 (AE_sub (fun _ _ => rfl) (by decide) hSH1635.1) (fun vH1649 H1649 locsH1649 pH1649 zH1649 kH1649 hSH1649 => ?_)
          obtain ⟨x1650, x1651, x1652, hvH1649, bx1650, ex1651, ex1652, hrH1649, m1653, m1654, m1655, m1656, m1657, m1658, hTH1649⟩ := pH1649
          subst hvH1649
          have f1659 : ∀ j : Nat, j ≤ F.toNatClampNeg → kk j = (fI H1649 kq j).toInt := fun j hj => (f1637 j hj).trans (congrArg Int32.toInt (fI_kept (x_lt hTH1635 kH1649 gkq (by decide))).symm)
          have f1660 : ∀ j : Nat, j ≤ F.toNatClampNeg → vv j = (fI H1649 vq j).toInt := fun j hj => (f1638 j hj).trans (congrArg Int32.toInt (fI_kept (x_lt hTH1635 kH1649 gvq (by decide))).symm)
          have m1661 := (fI_kept (x_lt hTH1635 kH1649 gkq (by decide))).trans m1646
          have m1662 := (m1647).trans (fI_kept (x_lt hTH1635 kH1649 gkq (by decide))).symm
          have bx1651 := ty_fi (x := x1651) (k := 7) ex1651 hTH1649 ga0 rg_78 rfl
          have bx1652 := ty_fi (x := x1652) (k := 1) ex1652 hTH1649 ga0 rg_78 rfl
          refine W.eq (g2 := F0 m 48 ls1620 [.int x1650]) rfl ?_
          refine lv_if_ne (tgt := 53) hx hb dX4_both_48 (by decide) (fun c1663 => ?_) (fun c1663 => ?_)
          · have k1664 := i_ne c1663
            refine lv_aload_n hx hb dX4_both_53 rfl (lv_at hl1621 0 rfl) ?_
            refine x_gr C hTH1649 (ci := 4) (k := 0) rfl inX4 (by decide) wF_X4_12 ga0 rg_78 rfl dX4_both_54 (fun q1665 eq1665 gq1665 => ?_)
            have uq1665 : mq = q1665 := (m1653).trans eq1665.symm
            subst uq1665
            refine lv_bipush (v := 9) hx hb dX4_both_57 (by decide) ?_
            refine lv_iconst (v := 0) hx hb dX4_both_59 (by decide) ?_
            refine x_V (As := [.int 9, .int 0]) (rest := []) C (a_X7_addStep_e l K G H1649 (9) (0) (li) hTH1649 gmq m1657) yo_X7_addStep wM_X4_131 ⟨⟨by decide, by decide⟩, by decide, by decide⟩ (x_rv C hTH1649 (ci := 7) rfl gmq rg_69) rfl hl1621.1 rfl (Nat.le_of_ble_eq_true rfl) dX4_both_60 hSH1649 (AE_sub (fun _ _ => rfl) (by decide) hSH1649.1) (fun vH1666 H1666 locsH1666 pH1666 zH1666 kH1666 hSH1666 => ?_)
            obtain ⟨hvH1666, m1667, hTH1666⟩ := pH1666
            subst hvH1666
            have f1668 : ∀ j : Nat, j ≤ F.toNatClampNeg → kk j = (fI H1666 kq j).toInt := fun j hj => (f1659 j hj).trans (congrArg Int32.toInt (fI_kept (x_lt hTH1649 kH1666 gkq (by decide))).symm)
            have f1669 : ∀ j : Nat, j ≤ F.toNatClampNeg → vv j = (fI H1666 vq j).toInt := fun j hj => (f1660 j hj).trans (congrArg Int32.toInt (fI_kept (x_lt hTH1649 kH1666 gvq (by decide))).symm)
            have m1670 := (fI_kept (x_lt hTH1649 kH1666 gkq (by decide))).trans m1661
            have m1671 := (m1662).trans (fI_kept (x_lt hTH1649 kH1666 gkq (by decide))).symm
            have m1672 := (m1653).trans (fR_kept (x_lt hTH1649 kH1666 ga0 (by decide))).symm
            have m1673 := (m1654).trans (fR_kept (x_lt hTH1649 kH1666 ga0 (by decide))).symm
            have m1674 := (m1655).trans (fR_kept (x_lt hTH1649 kH1666 ga0 (by decide))).symm
            have m1675 := (m1656).trans (fI_kept (x_lt hTH1649 kH1666 ga0 (by decide))).symm
            have m1676 := (ex1651).trans (fI_kept (x_lt hTH1649 kH1666 ga0 (by decide))).symm
            have m1677 := (ex1652).trans (fI_kept (x_lt hTH1649 kH1666 ga0 (by decide))).symm
            refine W.eq (g2 := F0 m 63 ls1620 []) rfl ?_
            obtain ⟨x1678, ex1678⟩ : ∃ y : Int32, y = x1622 + 1 := ⟨_, rfl⟩
            have tx1678 := i_add ex1678 (by omega)
            refine lv_iinc (v := x1678) (lv' := [(2, .int x1678), (0, .ref a0), (1, .int x1)]) hx hb dX4_both_63 hl1621 (k := 2) rfl (by rw [ex1678]; rfl) (by decide) rfl (fun ls1679 hl1680 => ?_)
            refine lv_goto (tgt := 12) hx hb dX4_both_66 (by decide) ?_
            have cn_F := i_cl (x := F) (by omega)
            have cn_x1623 := i_cl (x := x1623) (by omega)
            have cn_x1634 := i_cl (x := x1634) (by omega)
            exact ih12  ls1679 H1666 locsH1666 (x1678) (x1651) (x1652) (lv_sub hl1680 [1, 2, 0] rfl) hTH1666 hSH1666 (by have := i_rng x1678; omega) (by have := i_rng x1651; omega) m1676 m1677 m1672 m1673 m1674 m1675 m1667 m1670 f1668 f1669 (by omega) (by omega) (hsp12.trans (by rw [if_y (show cAN kk _ = true from decide_eq_true (by omega)), show x1623.toNatClampNeg + 1 = x1634.toNatClampNeg by omega]; exact lp_if (paS_gp _) (RQ.yes m1658 (by omega))))
          · have k1664 := i_eq c1663
            refine lv_iconst (v := 0) hx hb dX4_both_51 (by decide) ?_
            have cn_F := i_cl (x := F) (by omega)
            have cn_x1 := i_cl (x := x1) (by omega)
            have cn_x1623 := i_cl (x := x1623) (by omega)
            have cn_x1634 := i_cl (x := x1634) (by omega)
            exact x_zret C hQ (Or.inl rfl) dX4_both_52 hSH1649 (by decide) (by decide) (⟨0, x1651, x1652, rfl, by decide, ex1651, ex1652, by omega, m1653, m1654, m1655, m1656, m1657, Or.inl ⟨hsp12.trans ((if_y (show cAN kk _ = true from decide_eq_true (by omega))).trans (by rw [show x1623.toNatClampNeg + 1 = x1634.toNatClampNeg by omega]; exact lp_none (paS_gp _) (RQ.no m1658 (by omega)))), by omega⟩, hTH1649⟩)
  refine lv_aload_n hx hb dX4_both_0 rfl (lv_at hl 0 rfl) ?_
  refine lv_iload_n hx hb dX4_both_1 rfl (lv_at hl 1 rfl) ?_
  refine x_V (As := [.int x1]) (rest := []) C (a_X4_part_e6 l K G s.heap (x1) (F) (tat) (fa) (lw) (li) kk vv hT ga0 (by omega) gmq emq gkq ekq gvq evq etat efa elw eli hel0 (by omega) (by omega) f0_kk f0_vv) yo_X4_part wM_X4_135 ⟨⟨by decide, by decide⟩, by decide, by decide⟩ (x_rv C hT (ci := 4) rfl ga0 rg_78) rfl hl.1 rfl (Nat.le_of_ble_eq_true rfl) dX4_both_2 hS (AE_sub (fun _ _ => rfl) (by decide) hS.1) (fun vH1681 H1681 locsH1681 pH1681 zH1681 kH1681 hSH1681 => ?_)
  obtain ⟨x1682, x1683, x1684, hvH1681, bx1682, ex1683, ex1684, hrH1681, m1685, m1686, m1687, m1688, m1689, m1690, hTH1681⟩ := pH1681
  subst hvH1681
  have f1691 : ∀ j : Nat, j ≤ F.toNatClampNeg → kk j = (fI H1681 kq j).toInt := fun j hj => (f0_kk j hj).trans (congrArg Int32.toInt (fI_kept (x_lt hT kH1681 gkq (by decide))).symm)
  have f1692 : ∀ j : Nat, j ≤ F.toNatClampNeg → vv j = (fI H1681 vq j).toInt := fun j hj => (f0_vv j hj).trans (congrArg Int32.toInt (fI_kept (x_lt hT kH1681 gvq (by decide))).symm)
  have m1693 := (fI_kept (x_lt hT kH1681 gkq (by decide))).trans hel0
  have bx1683 := ty_fi (x := x1683) (k := 7) ex1683 hTH1681 ga0 rg_78 rfl
  have bx1684 := ty_fi (x := x1684) (k := 1) ex1684 hTH1681 ga0 rg_78 rfl
  refine W.eq (g2 := F0 m 5 ls [.int x1682]) rfl ?_
  refine lv_if_ne (tgt := 10) hx hb dX4_both_5 (by decide) (fun c1694 => ?_) (fun c1694 => ?_)
  · have k1695 := i_ne c1694
    refine lv_iconst (v := 0) hx hb dX4_both_10 (by decide) ?_
    refine lv_istore_n (lv' := [(2, .int 0), (0, .ref a0), (1, .int x1)]) hx hb dX4_both_11 rfl hl (by decide) rfl (fun ls1696 hl1697 => ?_)
    have cn_F := i_cl (x := F) (by omega)
    exact J12 ((500 - (0 : Int32).toInt).toNat + 1)  ls1696 H1681 locsH1681 (0) (x1683) (x1684) (lv_sub hl1697 [1, 2, 0] rfl) hTH1681 hSH1681 (by decide) (by have := i_rng x1683; omega) ex1683 ex1684 m1685 m1686 m1687 m1688 m1689 m1693 f1691 f1692 (by omega) (by omega) (hsp0.trans (by exact lp_if (paS_gp _) (RQ.yes m1690 (by omega))))
  · have k1695 := i_eq c1694
    refine lv_iconst (v := 0) hx hb dX4_both_8 (by decide) ?_
    have cn_F := i_cl (x := F) (by omega)
    have cn_x1 := i_cl (x := x1) (by omega)
    exact x_zret C hQ (Or.inl rfl) dX4_both_9 hSH1681 (by decide) (by decide) (⟨0, x1683, x1684, rfl, by decide, ex1683, ex1684, by omega, m1685, m1686, m1687, m1688, m1689, Or.inl ⟨hsp0.trans (lp_none (paS_gp _) (RQ.no m1690 (by omega))), by omega⟩, hTH1681⟩)

set_option maxHeartbeats 4000000 in
set_option maxRecDepth 100000 in
theorem a_X4_either_e6 (l : Launch) (K : KE) (G : Nat → Option Nat) (H : Heap) {a0 : Nat} (x1 : Int32) {mq : Nat} {kq : Nat} {vq : Nat} (F : Int32) (tat : Int32) (fa : Int32) (lw : Int32) (li : Int32) (kk : Nat → Int) (vv : Nat → Int) (hT : TY K G H) (ga0 : G a0 = some 78) (hx1 : 6 ≤ x1.toInt ∧ x1.toInt ≤ 8) (gmq : G mq = some 69) (emq : mq = fR H a0 (K.1.2 4 0)) (gkq : G kq = some 79) (ekq : kq = fR H a0 (K.1.2 4 3)) (gvq : G vq = some 80) (evq : vq = fR H a0 (K.1.2 4 4)) (etat : tat = fI H a0 (K.1.2 4 7)) (efa : fa = fI H a0 (K.1.2 4 1)) (elw : lw = fI H a0 (K.1.2 4 8)) (eli : li = fI H mq (K.1.2 7 0)) (hel0 : fI H kq (F : Int32).toNatClampNeg = 26) (hp0 : tat.toInt ≤ F.toInt) (hp1 : F.toInt ≤ 500) (hv_kk : ∀ j : Nat, j ≤ F.toNatClampNeg → kk j = (fI H kq j).toInt) (hv_vv : ∀ j : Nat, j ≤ F.toNatClampNeg → vv j = (fI H vq j).toInt) : MX l K yX4_either cX4_either 3 (some .boolean) 13 291 0 0 [.ref a0, .int x1] H (AE G [78, 69, 77] H.size) (fun v H1 => ∃ (r : Int32) (t0 : Int32) (t1 : Int32), v = some (.int r) ∧ (0 ≤ r.toInt ∧ r.toInt ≤ 1) ∧ t0 = fI H1 a0 (K.1.2 4 7) ∧ t1 = fI H1 a0 (K.1.2 4 1) ∧ (t0.toInt ≤ F.toInt ∧ ((r.toInt = 1 ∧ t1.toInt = fa.toInt ∧ tat.toInt < t0.toInt) ∨ (r.toInt = 0 ∧ t1.toInt ≠ 0))) ∧ mq = fR H1 a0 (K.1.2 4 0) ∧ kq = fR H1 a0 (K.1.2 4 3) ∧ vq = fR H1 a0 (K.1.2 4 4) ∧ lw = fI H1 a0 (K.1.2 4 8) ∧ li = fI H1 mq (K.1.2 7 0) ∧ (RQ (lpI (paS kk vv lw.toInt (8 - x1.toNatClampNeg)) (cAO kk) tat.toNatClampNeg) r t0) ∧ TY K G H1) := by
  refine MX.of (by decide +kernel) (Nat.le_of_ble_eq_true rfl) ?_
  intro p e s m below meth c ls Q C hH hl hQ
  subst hH
  have C : CX p K s m _ meth c RX4 cX4_either 3 (some .boolean) "either" := C
  obtain ⟨hx, hb, hml, hown, hts, hKT, hr, hlocks, hnm⟩ := id C
  have hl : lv_has ls 3 [(0, .ref a0), (1, .int x1)] := hl
  have hS : va_S (AE G [78, 69, 77] s.heap.size) s.heap s.heap [] := va_S.rf
  have n_0 : (0 : Int32).toInt = 0 := rfl
  have n_1 : (1 : Int32).toInt = 1 := rfl
  have n_8 : (8 : Int32).toInt = 8 := rfl
  have n_26 : (26 : Int32).toInt = 26 := rfl
  have n_500 : (500 : Int32).toInt = 500 := rfl
  have btat := ty_fi (x := tat) (k := 7) etat hT ga0 rg_78 rfl
  have bfa := ty_fi (x := fa) (k := 1) efa hT ga0 rg_78 rfl
  have blw := ty_fi (x := lw) (k := 8) elw hT ga0 rg_78 rfl
  have bli := ty_fi (x := li) (k := 0) eli hT gmq rg_69 rfl
  have hsp0 : lpI (paS kk vv lw.toInt (8 - x1.toNatClampNeg)) (cAO kk) tat.toNatClampNeg = lpI (paS kk vv lw.toInt (8 - x1.toNatClampNeg)) (cAO kk) tat.toNatClampNeg := rfl
  have f0_kk := hv_kk
  have f0_vv := hv_vv
  have J12 : ∀ (nf : Nat)  (ls1620 : Array Slot) (H1619 : Heap) (locsH1619 : List Loc) (x1622 : Int32) (x1623 : Int32) (x1624 : Int32), lv_has ls1620 3 [(0, .ref a0), (1, .int x1), (2, .int x1622)] → TY K G H1619 → va_S (AE G [78, 69, 77] s.heap.size) s.heap H1619 locsH1619 → (0 ≤ x1622.toInt ∧ x1622.toInt ≤ 500) → (0 ≤ x1623.toInt ∧ x1623.toInt ≤ 500) → (x1623 = fI H1619 a0 (K.1.2 4 7)) → (x1624 = fI H1619 a0 (K.1.2 4 1)) → (mq = fR H1619 a0 (K.1.2 4 0)) → (kq = fR H1619 a0 (K.1.2 4 3)) → (vq = fR H1619 a0 (K.1.2 4 4)) → (lw = fI H1619 a0 (K.1.2 4 8)) → (li = fI H1619 mq (K.1.2 7 0)) → (fI H1619 kq (F : Int32).toNatClampNeg = 26) → (∀ j : Nat, j ≤ F.toNatClampNeg → kk j = (fI H1619 kq j).toInt) → (∀ j : Nat, j ≤ F.toNatClampNeg → vv j = (fI H1619 vq j).toInt) → (500 - x1622.toInt < (nf : Int)) → (2 * x1622.toInt ≤ x1623.toInt ∧ tat.toInt < x1623.toInt ∧ x1623.toInt ≤ F.toInt ∧ x1624.toInt = fa.toInt) → (lpI (paS kk vv lw.toInt (8 - x1.toNatClampNeg)) (cAO kk) tat.toNatClampNeg = (if cOR kk x1623.toNatClampNeg = true then lpI (paS kk vv lw.toInt (8 - x1.toNatClampNeg)) (cAO kk) (x1623.toNatClampNeg + 1) else some x1623.toNatClampNeg)) → W p l e ({ frames := 13, cells := 0, slots := 0, locals := 291 } : Room) s m (([.ref a0, .int x1] : List Value).toArray) below meth c H1619 locsH1619 0 0 Q (F0 m 12 ls1620 []) := by
    intro nf
    induction nf with
    | zero =>
      intro  ls1620 H1619 locsH1619 x1622 x1623 x1624 hl1621 hTH1619 hSH1619 bx1622 bx1623 ex1623 ex1624 cy1625_0 cy1625_1 cy1625_2 cy1625_3 cy1625_4 cy1625_5 fy1625_kk fy1625_vv hm12 iv12 hsp12
      have rx1624 := i_rng x1624
      exfalso
      omega
    | succ nf ih12 =>
      intro  ls1620 H1619 locsH1619 x1622 x1623 x1624 hl1621 hTH1619 hSH1619 bx1622 bx1623 ex1623 ex1624 cy1625_0 cy1625_1 cy1625_2 cy1625_3 cy1625_4 cy1625_5 fy1625_kk fy1625_vv hm12 iv12 hsp12
      have rx1624 := i_rng x1624
      refine lv_iload_n hx hb dX4_either_12 rfl (lv_at hl1621 2 rfl) ?_
      refine lv_sipush (v := 500) hx hb dX4_either_13 (by decide) ?_
      refine lv_icmp_ge (tgt := 69) hx hb dX4_either_16 (by decide) (fun c1626 => ?_) (fun c1626 => ?_)
      · have k1627 := i_le c1626
        refine lv_iconst (v := 1) hx hb dX4_either_69 (by decide) ?_
        have cn_F := i_cl (x := F) (by omega)
        have cn_x1 := i_cl (x := x1) (by omega)
        have cn_x1623 := i_cl (x := x1623) (by omega)
        exact x_zret C hQ (Or.inr rfl) dX4_either_70 hSH1619 (by decide) (by decide) (⟨1, x1623, x1624, rfl, by decide, ex1623, ex1624, by omega, cy1625_0, cy1625_1, cy1625_2, cy1625_3, cy1625_4, (by first | (exfalso; omega) | exact Or.inr ⟨hsp12.trans (if_n (show cOR kk _ = false from decide_eq_false (by omega))), by omega⟩), hTH1619⟩)
      · have k1627 := i_nle c1626
        refine lv_aload_n hx hb dX4_either_19 rfl (lv_at hl1621 0 rfl) ?_
        refine x_gr C hTH1619 (ci := 4) (k := 3) rfl inX4 (by decide) wF_X4_18 ga0 rg_78 rfl dX4_either_20 (fun q1628 eq1628 gq1628 => ?_)
        have uq1628 : kq = q1628 := (cy1625_1).trans eq1628.symm
        subst uq1628
        refine lv_aload_n hx hb dX4_either_23 rfl (lv_at hl1621 0 rfl) ?_
        refine x_gi C hTH1619 (ci := 4) (k := 7) rfl inX4 (by decide) wF_X4_42 ga0 rg_78 rfl dX4_either_24 (fun x1629 ex1629 bx1629 => ?_)
        have ux1629 : x1623 = x1629 := (ex1623).trans ex1629.symm
        subst ux1629
        refine x_ai C hTH1619 gkq rg_79 ⟨by omega, by show _ < ((501 : Nat) : Int); omega⟩ dX4_either_27 (fun x1630 ex1630 bx1630 => ?_)
        have dx1630 := el_hit ex1630 cy1625_5
        have qvx1630 : kk x1623.toNatClampNeg = x1630.toInt := (fy1625_kk _ (by have h1 := i_cl (x := x1623) (by omega); have h2 := i_cl (x := F) (by omega); omega)).trans (congrArg Int32.toInt ex1630.symm)
        refine lv_bipush (v := 8) hx hb dX4_either_28 (by decide) ?_
        refine lv_icmp_ne (tgt := 69) hx hb dX4_either_30 (by decide) (fun c1631 => ?_) (fun c1631 => ?_)
        · have k1632 := i_ne c1631
          refine lv_iconst (v := 1) hx hb dX4_either_69 (by decide) ?_
          have cn_F := i_cl (x := F) (by omega)
          have cn_x1 := i_cl (x := x1) (by omega)
          have cn_x1623 := i_cl (x := x1623) (by omega)
          exact x_zret C hQ (Or.inr rfl) dX4_either_70 hSH1619 (by decide) (by decide) (⟨1, x1623, x1624, rfl, by decide, ex1623, ex1624, by omega, cy1625_0, cy1625_1, cy1625_2, cy1625_3, cy1625_4, (by first | (exfalso; omega) | exact Or.inr ⟨hsp12.trans (if_n (show cOR kk _ = false from decide_eq_false (by omega))), by omega⟩), hTH1619⟩)
        · have k1632 := i_eq c1631
          refine lv_aload_n hx hb dX4_either_33 rfl (lv_at hl1621 0 rfl) ?_
          refine lv_dup hx hb dX4_either_34 rfl ?_
          refine x_gi C hTH1619 (ci := 4) (k := 7) rfl inX4 (by decide) wF_X4_42 ga0 rg_78 rfl dX4_either_35 (fun x1633 ex1633 bx1633 => ?_)
          have ux1633 : x1623 = x1633 := (ex1623).trans ex1633.symm
          subst ux1633
          refine lv_iconst (v := 1) hx hb dX4_either_38 (by decide) ?_
          refine lv_iadd hx hb dX4_either_39 ?_
          refine lv_topi (fun x1634 ex1634 => ?_)
          have tx1634 := i_add ex1634 (by omega)
          have fz1636 : 0 ≤ x1634.toInt ∧ x1634.toInt ≤ 500 := by have := i_rng x1634; omega
          refine x_put C hTH1619 hSH1619 (ci := 4) (k := 7) (v := .int x1634) (ty0 := tyX4) rfl inX4 tyX4_ok nmX4 (by decide) rfl wF_X4_42 ga0 rg_78 rfl rfl (okI (by have := i_rng x1634; omega) (by have := i_rng x1634; omega)) rfl rfl (AE_in ga0 (by decide)) dX4_either_40 (fun H1635 locsH1635 hTH1635 hSH1635 wH1635 => ?_)
          have f1637 : ∀ j : Nat, j ≤ F.toNatClampNeg → kk j = (fI H1635 kq j).toInt := fun j hj => (fy1625_kk j hj).trans (congrArg Int32.toInt (Wr.neI wH1635 (Or.inl (G_ne gkq ga0 (by decide)))).symm)
          have f1638 : ∀ j : Nat, j ≤ F.toNatClampNeg → vv j = (fI H1635 vq j).toInt := fun j hj => (fy1625_vv j hj).trans (congrArg Int32.toInt (Wr.neI wH1635 (Or.inl (G_ne gvq ga0 (by decide)))).symm)
          have m1640 := ex1624.trans (Wr.neI wH1635 (Or.inr (x_apart hKT hts inX4 tyX4 tyX4_ok nmX4 rfl 1 7 (by decide) (by decide) (by decide)))).symm
          have m1641 := cy1625_0.trans (Wr.neR wH1635 (Or.inr (x_apart hKT hts inX4 tyX4 tyX4_ok nmX4 rfl 0 7 (by decide) (by decide) (by decide)))).symm
          have m1642 := cy1625_1.trans (Wr.neR wH1635 (Or.inr (x_apart hKT hts inX4 tyX4 tyX4_ok nmX4 rfl 3 7 (by decide) (by decide) (by decide)))).symm
          have m1643 := cy1625_2.trans (Wr.neR wH1635 (Or.inr (x_apart hKT hts inX4 tyX4 tyX4_ok nmX4 rfl 4 7 (by decide) (by decide) (by decide)))).symm
          have m1644 := cy1625_3.trans (Wr.neI wH1635 (Or.inr (x_apart hKT hts inX4 tyX4 tyX4_ok nmX4 rfl 8 7 (by decide) (by decide) (by decide)))).symm
          have m1645 := cy1625_4.trans (Wr.neI wH1635 (Or.inl (G_ne gmq ga0 (by decide)))).symm
          have m1646 := (Wr.neI wH1635 (Or.inl (G_ne gkq ga0 (by decide)))).trans cy1625_5
          have m1647 := ex1630.trans (Wr.neI wH1635 (Or.inl (G_ne gkq ga0 (by decide)))).symm
          have m1648 := Wr.I wH1635
          have m1648 := m1648.symm
          refine lv_aload_n hx hb dX4_either_43 rfl (lv_at hl1621 0 rfl) ?_
          refine lv_iload_n hx hb dX4_either_44 rfl (lv_at hl1621 1 rfl) ?_
          refine x_V (As := [.int x1]) (rest := []) C (a_X4_both_e6 l K G H1635 (x1) (F) (x1634) (x1624) (lw) (li) kk vv hTH1635 ga0 (by omega) gmq m1641 gkq m1642 gvq m1643 m1648 m1640 m1644 m1645 m1646 (by omega) (by omega) f1637 f1638) yo_X4_both wM_X4_128 ⟨⟨by decide, by decide⟩, by decide, by decide⟩ (x_rv C hTH1635 (ci := 4) rfl ga0 rg_78) rfl hl1621.1 rfl (Nat.le_of_ble_eq_true rfl) dX4_either_45 hSH1635 (AE_sub (fun _ _ => rfl) (by decide) hSH1635.1) (fun vH1649 H1649 locsH1649 pH1649 zH1649 kH1649 hSH1649 => ?_)
          obtain ⟨x1650, x1651, x1652, hvH1649, bx1650, ex1651, ex1652, hrH1649, m1653, m1654, m1655, m1656, m1657, m1658, hTH1649⟩ := pH1649
          subst hvH1649
          have f1659 : ∀ j : Nat, j ≤ F.toNatClampNeg → kk j = (fI H1649 kq j).toInt := fun j hj => (f1637 j hj).trans (congrArg Int32.toInt (fI_kept (x_lt hTH1635 kH1649 gkq (by decide))).symm)
          have f1660 : ∀ j : Nat, j ≤ F.toNatClampNeg → vv j = (fI H1649 vq j).toInt := fun j hj => (f1638 j hj).trans (congrArg Int32.toInt (fI_kept (x_lt hTH1635 kH1649 gvq (by decide))).symm)
          have m1661 := (fI_kept (x_lt hTH1635 kH1649 gkq (by decide))).trans m1646
          have m1662 := (m1647).trans (fI_kept (x_lt hTH1635 kH1649 gkq (by decide))).symm
          have bx1651 := ty_fi (x := x1651) (k := 7) ex1651 hTH1649 ga0 rg_78 rfl
          have bx1652 := ty_fi (x := x1652) (k := 1) ex1652 hTH1649 ga0 rg_78 rfl
          refine W.eq (g2 := F0 m 48 ls1620 [.int x1650]) rfl ?_
          refine lv_if_ne (tgt := 53) hx hb dX4_either_48 (by decide) (fun c1663 => ?_) (fun c1663 => ?_)
          · have k1664 := i_ne c1663
            refine lv_aload_n hx hb dX4_either_53 rfl (lv_at hl1621 0 rfl) ?_
            refine x_gr C hTH1649 (ci := 4) (k := 0) rfl inX4 (by decide) wF_X4_12 ga0 rg_78 rfl dX4_either_54 (fun q1665 eq1665 gq1665 => ?_)
            have uq1665 : mq = q1665 := (m1653).trans eq1665.symm
            subst uq1665
            refine lv_bipush (v := 8) hx hb dX4_either_57 (by decide) ?_
            refine lv_iconst (v := 0) hx hb dX4_either_59 (by decide) ?_
            refine x_V (As := [.int 8, .int 0]) (rest := []) C (a_X7_addStep_e l K G H1649 (8) (0) (li) hTH1649 gmq m1657) yo_X7_addStep wM_X4_131 ⟨⟨by decide, by decide⟩, by decide, by decide⟩ (x_rv C hTH1649 (ci := 7) rfl gmq rg_69) rfl hl1621.1 rfl (Nat.le_of_ble_eq_true rfl) dX4_either_60 hSH1649 (AE_sub (fun _ _ => rfl) (by decide) hSH1649.1) (fun vH1666 H1666 locsH1666 pH1666 zH1666 kH1666 hSH1666 => ?_)
            obtain ⟨hvH1666, m1667, hTH1666⟩ := pH1666
            subst hvH1666
            have f1668 : ∀ j : Nat, j ≤ F.toNatClampNeg → kk j = (fI H1666 kq j).toInt := fun j hj => (f1659 j hj).trans (congrArg Int32.toInt (fI_kept (x_lt hTH1649 kH1666 gkq (by decide))).symm)
            have f1669 : ∀ j : Nat, j ≤ F.toNatClampNeg → vv j = (fI H1666 vq j).toInt := fun j hj => (f1660 j hj).trans (congrArg Int32.toInt (fI_kept (x_lt hTH1649 kH1666 gvq (by decide))).symm)
            have m1670 := (fI_kept (x_lt hTH1649 kH1666 gkq (by decide))).trans m1661
            have m1671 := (m1662).trans (fI_kept (x_lt hTH1649 kH1666 gkq (by decide))).symm
            have m1672 := (m1653).trans (fR_kept (x_lt hTH1649 kH1666 ga0 (by decide))).symm
            have m1673 := (m1654).trans (fR_kept (x_lt hTH1649 kH1666 ga0 (by decide))).symm
            have m1674 := (m1655).trans (fR_kept (x_lt hTH1649 kH1666 ga0 (by decide))).symm
            have m1675 := (m1656).trans (fI_kept (x_lt hTH1649 kH1666 ga0 (by decide))).symm
            have m1676 := (ex1651).trans (fI_kept (x_lt hTH1649 kH1666 ga0 (by decide))).symm
            have m1677 := (ex1652).trans (fI_kept (x_lt hTH1649 kH1666 ga0 (by decide))).symm
            refine W.eq (g2 := F0 m 63 ls1620 []) rfl ?_
            obtain ⟨x1678, ex1678⟩ : ∃ y : Int32, y = x1622 + 1 := ⟨_, rfl⟩
            have tx1678 := i_add ex1678 (by omega)
            refine lv_iinc (v := x1678) (lv' := [(2, .int x1678), (0, .ref a0), (1, .int x1)]) hx hb dX4_either_63 hl1621 (k := 2) rfl (by rw [ex1678]; rfl) (by decide) rfl (fun ls1679 hl1680 => ?_)
            refine lv_goto (tgt := 12) hx hb dX4_either_66 (by decide) ?_
            have cn_F := i_cl (x := F) (by omega)
            have cn_x1623 := i_cl (x := x1623) (by omega)
            have cn_x1634 := i_cl (x := x1634) (by omega)
            exact ih12  ls1679 H1666 locsH1666 (x1678) (x1651) (x1652) (lv_sub hl1680 [1, 2, 0] rfl) hTH1666 hSH1666 (by have := i_rng x1678; omega) (by have := i_rng x1651; omega) m1676 m1677 m1672 m1673 m1674 m1675 m1667 m1670 f1668 f1669 (by omega) (by omega) (hsp12.trans (by rw [if_y (show cOR kk _ = true from decide_eq_true (by omega)), show x1623.toNatClampNeg + 1 = x1634.toNatClampNeg by omega]; exact ao_if (paS_gp _) (RQ.yes m1658 (by omega))))
          · have k1664 := i_eq c1663
            refine lv_iconst (v := 0) hx hb dX4_either_51 (by decide) ?_
            have cn_F := i_cl (x := F) (by omega)
            have cn_x1 := i_cl (x := x1) (by omega)
            have cn_x1623 := i_cl (x := x1623) (by omega)
            have cn_x1634 := i_cl (x := x1634) (by omega)
            exact x_zret C hQ (Or.inl rfl) dX4_either_52 hSH1649 (by decide) (by decide) (⟨0, x1651, x1652, rfl, by decide, ex1651, ex1652, by omega, m1653, m1654, m1655, m1656, m1657, Or.inl ⟨hsp12.trans ((if_y (show cOR kk _ = true from decide_eq_true (by omega))).trans (by rw [show x1623.toNatClampNeg + 1 = x1634.toNatClampNeg by omega]; exact ao_none (paS_gp _) (RQ.no m1658 (by omega)))), by omega⟩, hTH1649⟩)
  refine lv_aload_n hx hb dX4_either_0 rfl (lv_at hl 0 rfl) ?_
  refine lv_iload_n hx hb dX4_either_1 rfl (lv_at hl 1 rfl) ?_
  refine x_V (As := [.int x1]) (rest := []) C (a_X4_both_e6 l K G s.heap (x1) (F) (tat) (fa) (lw) (li) kk vv hT ga0 (by omega) gmq emq gkq ekq gvq evq etat efa elw eli hel0 (by omega) (by omega) f0_kk f0_vv) yo_X4_both wM_X4_128 ⟨⟨by decide, by decide⟩, by decide, by decide⟩ (x_rv C hT (ci := 4) rfl ga0 rg_78) rfl hl.1 rfl (Nat.le_of_ble_eq_true rfl) dX4_either_2 hS (AE_sub (fun _ _ => rfl) (by decide) hS.1) (fun vH1681 H1681 locsH1681 pH1681 zH1681 kH1681 hSH1681 => ?_)
  obtain ⟨x1682, x1683, x1684, hvH1681, bx1682, ex1683, ex1684, hrH1681, m1685, m1686, m1687, m1688, m1689, m1690, hTH1681⟩ := pH1681
  subst hvH1681
  have f1691 : ∀ j : Nat, j ≤ F.toNatClampNeg → kk j = (fI H1681 kq j).toInt := fun j hj => (f0_kk j hj).trans (congrArg Int32.toInt (fI_kept (x_lt hT kH1681 gkq (by decide))).symm)
  have f1692 : ∀ j : Nat, j ≤ F.toNatClampNeg → vv j = (fI H1681 vq j).toInt := fun j hj => (f0_vv j hj).trans (congrArg Int32.toInt (fI_kept (x_lt hT kH1681 gvq (by decide))).symm)
  have m1693 := (fI_kept (x_lt hT kH1681 gkq (by decide))).trans hel0
  have bx1683 := ty_fi (x := x1683) (k := 7) ex1683 hTH1681 ga0 rg_78 rfl
  have bx1684 := ty_fi (x := x1684) (k := 1) ex1684 hTH1681 ga0 rg_78 rfl
  refine W.eq (g2 := F0 m 5 ls [.int x1682]) rfl ?_
  refine lv_if_ne (tgt := 10) hx hb dX4_either_5 (by decide) (fun c1694 => ?_) (fun c1694 => ?_)
  · have k1695 := i_ne c1694
    refine lv_iconst (v := 0) hx hb dX4_either_10 (by decide) ?_
    refine lv_istore_n (lv' := [(2, .int 0), (0, .ref a0), (1, .int x1)]) hx hb dX4_either_11 rfl hl (by decide) rfl (fun ls1696 hl1697 => ?_)
    have cn_F := i_cl (x := F) (by omega)
    exact J12 ((500 - (0 : Int32).toInt).toNat + 1)  ls1696 H1681 locsH1681 (0) (x1683) (x1684) (lv_sub hl1697 [1, 2, 0] rfl) hTH1681 hSH1681 (by decide) (by have := i_rng x1683; omega) ex1683 ex1684 m1685 m1686 m1687 m1688 m1689 m1693 f1691 f1692 (by omega) (by omega) (hsp0.trans (by exact ao_if (paS_gp _) (RQ.yes m1690 (by omega))))
  · have k1695 := i_eq c1694
    refine lv_iconst (v := 0) hx hb dX4_either_8 (by decide) ?_
    have cn_F := i_cl (x := F) (by omega)
    have cn_x1 := i_cl (x := x1) (by omega)
    exact x_zret C hQ (Or.inl rfl) dX4_either_9 hSH1681 (by decide) (by decide) (⟨0, x1683, x1684, rfl, by decide, ex1683, ex1684, by omega, m1685, m1686, m1687, m1688, m1689, Or.inl ⟨hsp0.trans (ao_none (paS_gp _) (RQ.no m1690 (by omega))), by omega⟩, hTH1681⟩)

set_option maxHeartbeats 4000000 in
set_option maxRecDepth 100000 in
theorem a_X4_opened_e6 (l : Launch) (K : KE) (G : Nat → Option Nat) (H : Heap) {a0 : Nat} (x1 : Int32) (x2 : Int32) {mq : Nat} {kq : Nat} {vq : Nat} (F : Int32) (tat : Int32) (fa : Int32) (lw : Int32) (li : Int32) (kk : Nat → Int) (vv : Nat → Int) (hT : TY K G H) (ga0 : G a0 = some 78) (hx2 : 6 ≤ x2.toInt ∧ x2.toInt ≤ 8) (gmq : G mq = some 69) (emq : mq = fR H a0 (K.1.2 4 0)) (gkq : G kq = some 79) (ekq : kq = fR H a0 (K.1.2 4 3)) (gvq : G vq = some 80) (evq : vq = fR H a0 (K.1.2 4 4)) (etat : tat = fI H a0 (K.1.2 4 7)) (efa : fa = fI H a0 (K.1.2 4 1)) (elw : lw = fI H a0 (K.1.2 4 8)) (eli : li = fI H mq (K.1.2 7 0)) (hel0 : fI H kq (F : Int32).toNatClampNeg = 26) (hp0 : tat.toInt ≤ F.toInt) (hp1 : F.toInt ≤ 500) (hp2 : tat.toInt < F.toInt) (hv_kk : ∀ j : Nat, j ≤ F.toNatClampNeg → kk j = (fI H kq j).toInt) (hv_vv : ∀ j : Nat, j ≤ F.toNatClampNeg → vv j = (fI H vq j).toInt) : MX l K yX4_opened cX4_opened 3 (some .boolean) 14 313 0 0 [.ref a0, .int x1, .int x2] H (AE G [78, 69, 77] H.size) (fun v H1 => ∃ (r : Int32) (t0 : Int32) (t1 : Int32), v = some (.int r) ∧ (0 ≤ r.toInt ∧ r.toInt ≤ 1) ∧ t0 = fI H1 a0 (K.1.2 4 7) ∧ t1 = fI H1 a0 (K.1.2 4 1) ∧ (t0.toInt ≤ F.toInt ∧ ((r.toInt = 1 ∧ t1.toInt = fa.toInt ∧ tat.toInt < t0.toInt) ∨ (r.toInt = 0 ∧ t1.toInt ≠ 0))) ∧ mq = fR H1 a0 (K.1.2 4 0) ∧ kq = fR H1 a0 (K.1.2 4 3) ∧ vq = fR H1 a0 (K.1.2 4 4) ∧ lw = fI H1 a0 (K.1.2 4 8) ∧ li = fI H1 mq (K.1.2 7 0) ∧ (RQ (opI kk vv lw.toInt (8 - x2.toNatClampNeg) x1.toInt tat.toNatClampNeg) r t0) ∧ TY K G H1) := by
  refine MX.of (by decide +kernel) (Nat.le_of_ble_eq_true rfl) ?_
  intro p e s m below meth c ls Q C hH hl hQ
  subst hH
  have C : CX p K s m _ meth c RX4 cX4_opened 3 (some .boolean) "opened" := C
  obtain ⟨hx, hb, hml, hown, hts, hKT, hr, hlocks, hnm⟩ := id C
  have hl : lv_has ls 3 [(0, .ref a0), (1, .int x1), (2, .int x2)] := hl
  have hS : va_S (AE G [78, 69, 77] s.heap.size) s.heap s.heap [] := va_S.rf
  have n_0 : (0 : Int32).toInt = 0 := rfl
  have n_1 : (1 : Int32).toInt = 1 := rfl
  have n_10 : (10 : Int32).toInt = 10 := rfl
  have n_26 : (26 : Int32).toInt = 26 := rfl
  have n_41 : (41 : Int32).toInt = 41 := rfl
  have btat := ty_fi (x := tat) (k := 7) etat hT ga0 rg_78 rfl
  have bfa := ty_fi (x := fa) (k := 1) efa hT ga0 rg_78 rfl
  have blw := ty_fi (x := lw) (k := 8) elw hT ga0 rg_78 rfl
  have bli := ty_fi (x := li) (k := 0) eli hT gmq rg_69 rfl
  have hsp0 : opI kk vv lw.toInt (8 - x2.toNatClampNeg) x1.toInt tat.toNatClampNeg = opI kk vv lw.toInt (8 - x2.toNatClampNeg) x1.toInt tat.toNatClampNeg := rfl
  have f0_kk := hv_kk
  have f0_vv := hv_vv
  refine lv_aload_n hx hb dX4_opened_0 rfl (lv_at hl 0 rfl) ?_
  refine lv_dup hx hb dX4_opened_1 rfl ?_
  refine x_gi C hT (ci := 4) (k := 7) rfl inX4 (by decide) wF_X4_42 ga0 rg_78 rfl dX4_opened_2 (fun x473 ex473 bx473 => ?_)
  have ux473 : tat = x473 := (etat).trans ex473.symm
  subst ux473
  refine lv_iconst (v := 1) hx hb dX4_opened_5 (by decide) ?_
  refine lv_iadd hx hb dX4_opened_6 ?_
  refine lv_topi (fun x474 ex474 => ?_)
  have tx474 := i_add ex474 (by omega)
  have fz476 : 0 ≤ x474.toInt ∧ x474.toInt ≤ 500 := by have := i_rng x474; omega
  refine x_put C hT hS (ci := 4) (k := 7) (v := .int x474) (ty0 := tyX4) rfl inX4 tyX4_ok nmX4 (by decide) rfl wF_X4_42 ga0 rg_78 rfl rfl (okI (by have := i_rng x474; omega) (by have := i_rng x474; omega)) rfl rfl (AE_in ga0 (by decide)) dX4_opened_7 (fun H475 locsH475 hTH475 hSH475 wH475 => ?_)
  have f477 : ∀ j : Nat, j ≤ F.toNatClampNeg → kk j = (fI H475 kq j).toInt := fun j hj => (f0_kk j hj).trans (congrArg Int32.toInt (Wr.neI wH475 (Or.inl (G_ne gkq ga0 (by decide)))).symm)
  have f478 : ∀ j : Nat, j ≤ F.toNatClampNeg → vv j = (fI H475 vq j).toInt := fun j hj => (f0_vv j hj).trans (congrArg Int32.toInt (Wr.neI wH475 (Or.inl (G_ne gvq ga0 (by decide)))).symm)
  have m479 := emq.trans (Wr.neR wH475 (Or.inr (x_apart hKT hts inX4 tyX4 tyX4_ok nmX4 rfl 0 7 (by decide) (by decide) (by decide)))).symm
  have m480 := ekq.trans (Wr.neR wH475 (Or.inr (x_apart hKT hts inX4 tyX4 tyX4_ok nmX4 rfl 3 7 (by decide) (by decide) (by decide)))).symm
  have m481 := evq.trans (Wr.neR wH475 (Or.inr (x_apart hKT hts inX4 tyX4 tyX4_ok nmX4 rfl 4 7 (by decide) (by decide) (by decide)))).symm
  have m483 := efa.trans (Wr.neI wH475 (Or.inr (x_apart hKT hts inX4 tyX4 tyX4_ok nmX4 rfl 1 7 (by decide) (by decide) (by decide)))).symm
  have m484 := elw.trans (Wr.neI wH475 (Or.inr (x_apart hKT hts inX4 tyX4 tyX4_ok nmX4 rfl 8 7 (by decide) (by decide) (by decide)))).symm
  have m485 := eli.trans (Wr.neI wH475 (Or.inl (G_ne gmq ga0 (by decide)))).symm
  have m486 := (Wr.neI wH475 (Or.inl (G_ne gkq ga0 (by decide)))).trans hel0
  have m487 := Wr.I wH475
  have m487 := m487.symm
  refine lv_iload_n hx hb dX4_opened_10 rfl (lv_at hl 1 rfl) ?_
  refine lv_bipush (v := 10) hx hb dX4_opened_11 (by decide) ?_
  refine lv_icmp_ne (tgt := 38) hx hb dX4_opened_13 (by decide) (fun c488 => ?_) (fun c488 => ?_)
  · have k489 := i_ne c488
    refine lv_aload_n hx hb dX4_opened_38 rfl (lv_at hl 0 rfl) ?_
    refine lv_iload_n hx hb dX4_opened_39 rfl (lv_at hl 2 rfl) ?_
    refine x_V (As := [.int x2]) (rest := []) C (a_X4_either_e6 l K G H475 (x2) (F) (x474) (fa) (lw) (li) kk vv hTH475 ga0 (by omega) gmq m479 gkq m480 gvq m481 m487 m483 m484 m485 m486 (by omega) (by omega) f477 f478) yo_X4_either wM_X4_113 ⟨⟨by decide, by decide⟩, by decide, by decide⟩ (x_rv C hTH475 (ci := 4) rfl ga0 rg_78) rfl hl.1 rfl (Nat.le_of_ble_eq_true rfl) dX4_opened_40 hSH475 (AE_sub (fun _ _ => rfl) (by decide) hSH475.1) (fun vH490 H490 locsH490 pH490 zH490 kH490 hSH490 => ?_)
    obtain ⟨x491, x492, x493, hvH490, bx491, ex492, ex493, hrH490, m494, m495, m496, m497, m498, m499, hTH490⟩ := pH490
    subst hvH490
    have f500 : ∀ j : Nat, j ≤ F.toNatClampNeg → kk j = (fI H490 kq j).toInt := fun j hj => (f477 j hj).trans (congrArg Int32.toInt (fI_kept (x_lt hTH475 kH490 gkq (by decide))).symm)
    have f501 : ∀ j : Nat, j ≤ F.toNatClampNeg → vv j = (fI H490 vq j).toInt := fun j hj => (f478 j hj).trans (congrArg Int32.toInt (fI_kept (x_lt hTH475 kH490 gvq (by decide))).symm)
    have m502 := (fI_kept (x_lt hTH475 kH490 gkq (by decide))).trans m486
    have bx492 := ty_fi (x := x492) (k := 7) ex492 hTH490 ga0 rg_78 rfl
    have bx493 := ty_fi (x := x493) (k := 1) ex493 hTH490 ga0 rg_78 rfl
    refine W.eq (g2 := F0 m 43 ls [.int x491]) rfl ?_
    refine lv_if_ne (tgt := 48) hx hb dX4_opened_43 (by decide) (fun c503 => ?_) (fun c503 => ?_)
    · have k504 := i_ne c503
      refine lv_aload_n hx hb dX4_opened_48 rfl (lv_at hl 0 rfl) ?_
      refine x_gr C hTH490 (ci := 4) (k := 3) rfl inX4 (by decide) wF_X4_18 ga0 rg_78 rfl dX4_opened_49 (fun q505 eq505 gq505 => ?_)
      have uq505 : kq = q505 := (m495).trans eq505.symm
      subst uq505
      refine lv_aload_n hx hb dX4_opened_52 rfl (lv_at hl 0 rfl) ?_
      refine x_gi C hTH490 (ci := 4) (k := 7) rfl inX4 (by decide) wF_X4_42 ga0 rg_78 rfl dX4_opened_53 (fun x506 ex506 bx506 => ?_)
      have ux506 : x492 = x506 := (ex492).trans ex506.symm
      subst ux506
      refine x_ai C hTH490 gkq rg_79 ⟨by omega, by show _ < ((501 : Nat) : Int); omega⟩ dX4_opened_56 (fun x507 ex507 bx507 => ?_)
      have dx507 := el_hit ex507 m502
      have qvx507 : kk x492.toNatClampNeg = x507.toInt := (f500 _ (by have h1 := i_cl (x := x492) (by omega); have h2 := i_cl (x := F) (by omega); omega)).trans (congrArg Int32.toInt ex507.symm)
      refine lv_bipush (v := 41) hx hb dX4_opened_57 (by decide) ?_
      refine lv_icmp_eq (tgt := 68) hx hb dX4_opened_59 (by decide) (fun c508 => ?_) (fun c508 => ?_)
      · have k509 := i_eq c508
        refine lv_aload_n hx hb dX4_opened_68 rfl (lv_at hl 0 rfl) ?_
        refine lv_dup hx hb dX4_opened_69 rfl ?_
        refine x_gi C hTH490 (ci := 4) (k := 7) rfl inX4 (by decide) wF_X4_42 ga0 rg_78 rfl dX4_opened_70 (fun x510 ex510 bx510 => ?_)
        have ux510 : x492 = x510 := (ex492).trans ex510.symm
        subst ux510
        refine lv_iconst (v := 1) hx hb dX4_opened_73 (by decide) ?_
        refine lv_iadd hx hb dX4_opened_74 ?_
        refine lv_topi (fun x511 ex511 => ?_)
        have tx511 := i_add ex511 (by omega)
        have fz513 : 0 ≤ x511.toInt ∧ x511.toInt ≤ 500 := by have := i_rng x511; omega
        refine x_put C hTH490 hSH490 (ci := 4) (k := 7) (v := .int x511) (ty0 := tyX4) rfl inX4 tyX4_ok nmX4 (by decide) rfl wF_X4_42 ga0 rg_78 rfl rfl (okI (by have := i_rng x511; omega) (by have := i_rng x511; omega)) rfl rfl (AE_in ga0 (by decide)) dX4_opened_75 (fun H512 locsH512 hTH512 hSH512 wH512 => ?_)
        have f514 : ∀ j : Nat, j ≤ F.toNatClampNeg → kk j = (fI H512 kq j).toInt := fun j hj => (f500 j hj).trans (congrArg Int32.toInt (Wr.neI wH512 (Or.inl (G_ne gkq ga0 (by decide)))).symm)
        have f515 : ∀ j : Nat, j ≤ F.toNatClampNeg → vv j = (fI H512 vq j).toInt := fun j hj => (f501 j hj).trans (congrArg Int32.toInt (Wr.neI wH512 (Or.inl (G_ne gvq ga0 (by decide)))).symm)
        have m516 := (Wr.neI wH512 (Or.inl (G_ne gkq ga0 (by decide)))).trans m502
        have m517 := m494.trans (Wr.neR wH512 (Or.inr (x_apart hKT hts inX4 tyX4 tyX4_ok nmX4 rfl 0 7 (by decide) (by decide) (by decide)))).symm
        have m518 := m495.trans (Wr.neR wH512 (Or.inr (x_apart hKT hts inX4 tyX4 tyX4_ok nmX4 rfl 3 7 (by decide) (by decide) (by decide)))).symm
        have m519 := m496.trans (Wr.neR wH512 (Or.inr (x_apart hKT hts inX4 tyX4 tyX4_ok nmX4 rfl 4 7 (by decide) (by decide) (by decide)))).symm
        have m520 := m497.trans (Wr.neI wH512 (Or.inr (x_apart hKT hts inX4 tyX4 tyX4_ok nmX4 rfl 8 7 (by decide) (by decide) (by decide)))).symm
        have m521 := m498.trans (Wr.neI wH512 (Or.inl (G_ne gmq ga0 (by decide)))).symm
        have m523 := ex493.trans (Wr.neI wH512 (Or.inr (x_apart hKT hts inX4 tyX4 tyX4_ok nmX4 rfl 1 7 (by decide) (by decide) (by decide)))).symm
        have m524 := ex507.trans (Wr.neI wH512 (Or.inl (G_ne gkq ga0 (by decide)))).symm
        have m525 := Wr.I wH512
        have m525 := m525.symm
        refine lv_iconst (v := 1) hx hb dX4_opened_78 (by decide) ?_
        have cn_F := i_cl (x := F) (by omega)
        have cn_tat := i_cl (x := tat) (by omega)
        have cn_x2 := i_cl (x := x2) (by omega)
        have cn_x474 := i_cl (x := x474) (by omega)
        have cn_x511 := i_cl (x := x511) (by omega)
        have cn_x492 := i_cl (x := x492) (by omega)
        exact x_zret C hQ (Or.inr rfl) dX4_opened_79 hSH512 (by decide) (by decide) (⟨1, x511, x493, rfl, by decide, m525, m523, by omega, m517, m518, m519, m520, m521, Or.inr ⟨op_ok (by omega) (show x474.toNatClampNeg = _ + 1 by omega) (RQ.yes m499 (by omega)) (by rw [qvx507]; omega) (show x511.toNatClampNeg = _ + 1 by omega), by omega⟩, hTH512⟩)
      · have k509 := i_ne c508
        refine lv_aload_n hx hb dX4_opened_62 rfl (lv_at hl 0 rfl) ?_
        refine lv_iconst (v := 1) hx hb dX4_opened_63 (by decide) ?_
        refine x_V (As := [.int 1]) (rest := []) C (a_X4_refuse_e l K G H490 (1) (x492) (x493) (lw) hTH490 ga0 gmq m494 gkq m495 gvq m496 ex492 ex493 m497) yo_X4_refuse wM_X4_81 ⟨⟨by decide, by decide⟩, by decide, by decide⟩ (x_rv C hTH490 (ci := 4) rfl ga0 rg_78) rfl hl.1 rfl (Nat.le_of_ble_eq_true rfl) dX4_opened_64 hSH490 (AE_sub (fun _ _ => rfl) (by decide) hSH490.1) (fun vH526 H526 locsH526 pH526 zH526 kH526 hSH526 => ?_)
        obtain ⟨x527, x528, x529, hvH526, bx527, ex528, ex529, hrH526, m530, m531, m532, m533, hTH526⟩ := pH526
        subst hvH526
        have f534 : ∀ j : Nat, j ≤ F.toNatClampNeg → kk j = (fI H526 kq j).toInt := fun j hj => (f500 j hj).trans (congrArg Int32.toInt (fI_kept (x_lt hTH490 kH526 gkq (by decide))).symm)
        have f535 : ∀ j : Nat, j ≤ F.toNatClampNeg → vv j = (fI H526 vq j).toInt := fun j hj => (f501 j hj).trans (congrArg Int32.toInt (fI_kept (x_lt hTH490 kH526 gvq (by decide))).symm)
        have m536 := (fI_kept (x_lt hTH490 kH526 gkq (by decide))).trans m502
        have m537 := (m498).trans (fI_kept (x_lt hTH490 kH526 gmq (by decide))).symm
        have m538 := (ex507).trans (fI_kept (x_lt hTH490 kH526 gkq (by decide))).symm
        have bx528 := ty_fi (x := x528) (k := 7) ex528 hTH526 ga0 rg_78 rfl
        have bx529 := ty_fi (x := x529) (k := 1) ex529 hTH526 ga0 rg_78 rfl
        refine W.eq (g2 := F0 m 67 ls [.int x527]) rfl ?_
        have cn_F := i_cl (x := F) (by omega)
        have cn_tat := i_cl (x := tat) (by omega)
        have cn_x2 := i_cl (x := x2) (by omega)
        have cn_x474 := i_cl (x := x474) (by omega)
        exact x_zret C hQ (i_01 (by omega)) dX4_opened_67 hSH526 (by decide) (by decide) (⟨x527, x528, x529, rfl, by omega, ex528, ex529, by omega, m530, m531, m532, m533, m537, Or.inl ⟨op_no2 (by omega) (show x474.toNatClampNeg = _ + 1 by omega) (RQ.yes m499 (by omega)) (by rw [qvx507]; omega), by omega⟩, hTH526⟩)
    · have k504 := i_eq c503
      refine lv_iconst (v := 0) hx hb dX4_opened_46 (by decide) ?_
      have cn_F := i_cl (x := F) (by omega)
      have cn_tat := i_cl (x := tat) (by omega)
      have cn_x2 := i_cl (x := x2) (by omega)
      have cn_x474 := i_cl (x := x474) (by omega)
      exact x_zret C hQ (Or.inl rfl) dX4_opened_47 hSH490 (by decide) (by decide) (⟨0, x492, x493, rfl, by decide, ex492, ex493, by omega, m494, m495, m496, m497, m498, Or.inl ⟨op_no1 (by omega) (show x474.toNatClampNeg = _ + 1 by omega) (RQ.no m499 (by omega)), by omega⟩, hTH490⟩)
  · have k489 := i_eq c488
    refine lv_aload_n hx hb dX4_opened_16 rfl (lv_at hl 0 rfl) ?_
    refine lv_iload_n hx hb dX4_opened_17 rfl (lv_at hl 2 rfl) ?_
    refine x_V (As := [.int x2]) (rest := []) C (a_X4_part_e6 l K G H475 (x2) (F) (x474) (fa) (lw) (li) kk vv hTH475 ga0 (by omega) gmq m479 gkq m480 gvq m481 m487 m483 m484 m485 m486 (by omega) (by omega) f477 f478) yo_X4_part wM_X4_135 ⟨⟨by decide, by decide⟩, by decide, by decide⟩ (x_rv C hTH475 (ci := 4) rfl ga0 rg_78) rfl hl.1 rfl (Nat.le_of_ble_eq_true rfl) dX4_opened_18 hSH475 (AE_sub (fun _ _ => rfl) (by decide) hSH475.1) (fun vH539 H539 locsH539 pH539 zH539 kH539 hSH539 => ?_)
    obtain ⟨x540, x541, x542, hvH539, bx540, ex541, ex542, hrH539, m543, m544, m545, m546, m547, m548, hTH539⟩ := pH539
    subst hvH539
    have f549 : ∀ j : Nat, j ≤ F.toNatClampNeg → kk j = (fI H539 kq j).toInt := fun j hj => (f477 j hj).trans (congrArg Int32.toInt (fI_kept (x_lt hTH475 kH539 gkq (by decide))).symm)
    have f550 : ∀ j : Nat, j ≤ F.toNatClampNeg → vv j = (fI H539 vq j).toInt := fun j hj => (f478 j hj).trans (congrArg Int32.toInt (fI_kept (x_lt hTH475 kH539 gvq (by decide))).symm)
    have m551 := (fI_kept (x_lt hTH475 kH539 gkq (by decide))).trans m486
    have bx541 := ty_fi (x := x541) (k := 7) ex541 hTH539 ga0 rg_78 rfl
    have bx542 := ty_fi (x := x542) (k := 1) ex542 hTH539 ga0 rg_78 rfl
    refine W.eq (g2 := F0 m 21 ls [.int x540]) rfl ?_
    refine lv_if_ne (tgt := 26) hx hb dX4_opened_21 (by decide) (fun c552 => ?_) (fun c552 => ?_)
    · have k553 := i_ne c552
      refine lv_aload_n hx hb dX4_opened_26 rfl (lv_at hl 0 rfl) ?_
      refine x_gr C hTH539 (ci := 4) (k := 0) rfl inX4 (by decide) wF_X4_12 ga0 rg_78 rfl dX4_opened_27 (fun q554 eq554 gq554 => ?_)
      have uq554 : mq = q554 := (m543).trans eq554.symm
      subst uq554
      refine lv_bipush (v := 10) hx hb dX4_opened_30 (by decide) ?_
      refine lv_iconst (v := 0) hx hb dX4_opened_32 (by decide) ?_
      refine x_V (As := [.int 10, .int 0]) (rest := []) C (a_X7_addStep_e l K G H539 (10) (0) (li) hTH539 gmq m547) yo_X7_addStep wM_X4_131 ⟨⟨by decide, by decide⟩, by decide, by decide⟩ (x_rv C hTH539 (ci := 7) rfl gmq rg_69) rfl hl.1 rfl (Nat.le_of_ble_eq_true rfl) dX4_opened_33 hSH539 (AE_sub (fun _ _ => rfl) (by decide) hSH539.1) (fun vH555 H555 locsH555 pH555 zH555 kH555 hSH555 => ?_)
      obtain ⟨hvH555, m556, hTH555⟩ := pH555
      subst hvH555
      have f557 : ∀ j : Nat, j ≤ F.toNatClampNeg → kk j = (fI H555 kq j).toInt := fun j hj => (f549 j hj).trans (congrArg Int32.toInt (fI_kept (x_lt hTH539 kH555 gkq (by decide))).symm)
      have f558 : ∀ j : Nat, j ≤ F.toNatClampNeg → vv j = (fI H555 vq j).toInt := fun j hj => (f550 j hj).trans (congrArg Int32.toInt (fI_kept (x_lt hTH539 kH555 gvq (by decide))).symm)
      have m559 := (fI_kept (x_lt hTH539 kH555 gkq (by decide))).trans m551
      have m560 := (m543).trans (fR_kept (x_lt hTH539 kH555 ga0 (by decide))).symm
      have m561 := (m544).trans (fR_kept (x_lt hTH539 kH555 ga0 (by decide))).symm
      have m562 := (m545).trans (fR_kept (x_lt hTH539 kH555 ga0 (by decide))).symm
      have m563 := (m546).trans (fI_kept (x_lt hTH539 kH555 ga0 (by decide))).symm
      have m564 := (ex541).trans (fI_kept (x_lt hTH539 kH555 ga0 (by decide))).symm
      have m565 := (ex542).trans (fI_kept (x_lt hTH539 kH555 ga0 (by decide))).symm
      refine W.eq (g2 := F0 m 36 ls []) rfl ?_
      refine lv_iconst (v := 1) hx hb dX4_opened_36 (by decide) ?_
      have cn_F := i_cl (x := F) (by omega)
      have cn_tat := i_cl (x := tat) (by omega)
      have cn_x2 := i_cl (x := x2) (by omega)
      have cn_x474 := i_cl (x := x474) (by omega)
      exact x_zret C hQ (Or.inr rfl) dX4_opened_37 hSH555 (by decide) (by decide) (⟨1, x541, x542, rfl, by decide, m564, m565, by omega, m560, m561, m562, m563, m556, Or.inr ⟨(op_not (by omega) (show x474.toNatClampNeg = _ + 1 by omega)).trans (RQ.yes m548 (by omega)), by omega⟩, hTH555⟩)
    · have k553 := i_eq c552
      refine lv_iconst (v := 0) hx hb dX4_opened_24 (by decide) ?_
      have cn_F := i_cl (x := F) (by omega)
      have cn_tat := i_cl (x := tat) (by omega)
      have cn_x2 := i_cl (x := x2) (by omega)
      have cn_x474 := i_cl (x := x474) (by omega)
      exact x_zret C hQ (Or.inl rfl) dX4_opened_25 hSH539 (by decide) (by decide) (⟨0, x541, x542, rfl, by decide, ex541, ex542, by omega, m543, m544, m545, m546, m547, Or.inl ⟨(op_not (by omega) (show x474.toNatClampNeg = _ + 1 by omega)).trans (RQ.no m548 (by omega)), by omega⟩, hTH539⟩)
