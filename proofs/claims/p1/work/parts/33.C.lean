set_option maxHeartbeats 4000000 in
set_option maxRecDepth 100000 in
theorem f_X9_offOf (l : Launch) (K : KE) (G : Nat → Option Nat) (H : Heap) {a w : Nat} {q : Nat}  (hT : TY K G H) (ga : G a = some 68) (gw : G w = some 0) (fx : FX K H a w) (gq : G q = some 16) : MX l K yX9_offOf cX9_offOf 8 (some .int) 1 15 0 0 [.ref a, .ref q] H (AE G [] H.size) (fun v H1 => H1 = H ∧ ∃ r : Int32, v = some (.int r) ∧ (r.toInt = 0)) := by
  refine MX.of (by decide +kernel) (Nat.le_of_ble_eq_true rfl) ?_
  intro p e s m below meth c ls Q C hH hl hQ
  subst hH
  have C : CX p K s m _ meth c RX9 cX9_offOf 8 (some .int) "offOf" := C
  obtain ⟨hx, hb, hml, hown, hts, hKT, hr, hlocks, hnm⟩ := id C
  have hl : lv_has ls 8 [(0, .ref a), (1, .ref q)] := hl
  have hS : va_S (AE G [] s.heap.size) s.heap s.heap [] := va_S.rf
  have n_0 : (0 : Int32).toInt = 0 := rfl
  have l_0 : (0 : Int64).toInt = 0 := rfl
  have l_999999999 : (999999999 : Int64).toInt = 999999999 := rfl
  obtain ⟨f0, f1, f2, f3, f4, f5, f6, f7, f8, f9, f10⟩ := fx
  refine lv_lconst (v := 0) hx hb dX9_offOf_0 (by decide) ?_
  refine lv_lstore_n (lv' := [(2, .long 0), (0, .ref a), (1, .ref q)]) hx hb dX9_offOf_1 rfl hl (by decide) rfl (fun ls101 hl102 => ?_)
  refine lv_iconst (v := 0) hx hb dX9_offOf_2 (by decide) ?_
  refine lv_istore (lv' := [(4, .int 0), (2, .long 0), (0, .ref a), (1, .ref q)]) hx hb dX9_offOf_3 hl102 (by decide) rfl (fun ls103 hl104 => ?_)
  refine lv_iload hx hb dX9_offOf_5 (lv_at hl104 0 rfl) ?_
  refine lv_aload_n hx hb dX9_offOf_7 rfl (lv_at hl104 2 rfl) ?_
  refine x_gr C hT (ci := 9) (k := 0) rfl inX9 (by decide) wF_X9_12 ga rg_68 rfl dX9_offOf_8 (fun q105 eq105 gq105 => ?_)
  have uq105 : w = q105 := (f0).trans eq105.symm
  subst uq105
  refine x_gi C hT (ci := 8) (k := 1) rfl inX8 (by decide) wF_X9_64 gw rg_0 rfl dX9_offOf_11 (fun x106 ex106 bx106 => ?_)
  have ux106 : x106 = 0 := ex106.trans f3
  subst ux106
  refine lv_icmp_ge (tgt := 113) hx hb dX9_offOf_14 (by decide) (fun c107 => ?_) (fun c107 => ?_)
  · have k108 := i_le c107
    refine lv_lload_n hx hb dX9_offOf_113 rfl (lv_at hl104 1 rfl) ?_
    refine lv_ldc2 (v := 999999999) hx hb hown (hts _ wK_X9_411) dX9_offOf_114 ?_
    refine va_mmin_long hx hb (hml.trans hl104.1.symm) hown (hts _ wM_X9_413) (hts _ wST_J9_min_f86c9) (hts _ wIN_J9) (hts _ wCD_J9_min_f86c9) (by decide) (by decide) (by decide) (by decide) dX9_offOf_117 ?_
    refine lv_topl (fun y109 ey109 => ?_)
    have ty109 := j_min ey109
    obtain ⟨x110, ex110⟩ : ∃ z : Int32, (y109 : Int64).toInt32 = z := ⟨_, rfl⟩
    refine lv_l2i (v := x110) hx hb dX9_offOf_120 ex110 ?_
    have tx110 := j_l2i ex110 (by omega)
    exact x_iret C hQ dX9_offOf_121 hS (by decide) (by decide) (⟨rfl, x110, rfl, by omega⟩)
  · have k108 := i_nle c107
    exfalso
    omega

set_option maxHeartbeats 4000000 in
set_option maxRecDepth 100000 in
theorem f_X9_apart (l : Launch) (K : KE) (G : Nat → Option Nat) (H : Heap) {a w : Nat}  (hT : TY K G H) (ga : G a = some 68) (gw : G w = some 0) (fx : FX K H a w) : MX l K yX9_apart cX9_apart 3 (some .int) 0 0 0 0 [.ref a] H (AE G [] H.size) (fun v H1 => H1 = H ∧ ∃ r : Int32, v = some (.int r) ∧ (r.toInt = 0)) := by
  refine MX.of (by decide +kernel) (Nat.le_of_ble_eq_true rfl) ?_
  intro p e s m below meth c ls Q C hH hl hQ
  subst hH
  have C : CX p K s m _ meth c RX9 cX9_apart 3 (some .int) "apart" := C
  obtain ⟨hx, hb, hml, hown, hts, hKT, hr, hlocks, hnm⟩ := id C
  have hl : lv_has ls 3 [(0, .ref a)] := hl
  have hS : va_S (AE G [] s.heap.size) s.heap s.heap [] := va_S.rf
  have n_0 : (0 : Int32).toInt = 0 := rfl
  obtain ⟨f0, f1, f2, f3, f4, f5, f6, f7, f8, f9, f10⟩ := fx
  refine lv_iconst (v := 0) hx hb dX9_apart_0 (by decide) ?_
  refine lv_istore_n (lv' := [(1, .int 0), (0, .ref a)]) hx hb dX9_apart_1 rfl hl (by decide) rfl (fun ls101 hl102 => ?_)
  refine lv_iconst (v := 0) hx hb dX9_apart_2 (by decide) ?_
  refine lv_istore_n (lv' := [(2, .int 0), (1, .int 0), (0, .ref a)]) hx hb dX9_apart_3 rfl hl102 (by decide) rfl (fun ls103 hl104 => ?_)
  refine lv_iload_n hx hb dX9_apart_4 rfl (lv_at hl104 0 rfl) ?_
  refine lv_aload_n hx hb dX9_apart_5 rfl (lv_at hl104 2 rfl) ?_
  refine x_gr C hT (ci := 9) (k := 0) rfl inX9 (by decide) wF_X9_12 ga rg_68 rfl dX9_apart_6 (fun q105 eq105 gq105 => ?_)
  have uq105 : w = q105 := (f0).trans eq105.symm
  subst uq105
  refine x_gi C hT (ci := 8) (k := 10) rfl inX8 (by decide) wF_X9_293 gw rg_0 rfl dX9_apart_9 (fun x106 ex106 bx106 => ?_)
  have ux106 : x106 = 0 := ex106.trans f8
  subst ux106
  refine lv_icmp_ge (tgt := 29) hx hb dX9_apart_12 (by decide) (fun c107 => ?_) (fun c107 => ?_)
  · have k108 := i_le c107
    refine lv_iload_n hx hb dX9_apart_29 rfl (lv_at hl104 1 rfl) ?_
    exact x_iret C hQ dX9_apart_30 hS (by decide) (by decide) (⟨rfl, 0, rfl, by omega⟩)
  · have k108 := i_nle c107
    exfalso
    omega

set_option maxHeartbeats 4000000 in
set_option maxRecDepth 100000 in
theorem f_X9_countLost (l : Launch) (K : KE) (G : Nat → Option Nat) (H : Heap) {a w : Nat}  (hT : TY K G H) (ga : G a = some 68) (gw : G w = some 0) (fx : FX K H a w) : MX l K yX9_countLost cX9_countLost 3 (some .int) 0 0 0 0 [.ref a] H (AE G [] H.size) (fun v H1 => H1 = H ∧ ∃ r : Int32, v = some (.int r) ∧ (r.toInt = 0)) := by
  refine MX.of (by decide +kernel) (Nat.le_of_ble_eq_true rfl) ?_
  intro p e s m below meth c ls Q C hH hl hQ
  subst hH
  have C : CX p K s m _ meth c RX9 cX9_countLost 3 (some .int) "countLost" := C
  obtain ⟨hx, hb, hml, hown, hts, hKT, hr, hlocks, hnm⟩ := id C
  have hl : lv_has ls 3 [(0, .ref a)] := hl
  have hS : va_S (AE G [] s.heap.size) s.heap s.heap [] := va_S.rf
  have n_0 : (0 : Int32).toInt = 0 := rfl
  obtain ⟨f0, f1, f2, f3, f4, f5, f6, f7, f8, f9, f10⟩ := fx
  refine lv_iconst (v := 0) hx hb dX9_countLost_0 (by decide) ?_
  refine lv_istore_n (lv' := [(1, .int 0), (0, .ref a)]) hx hb dX9_countLost_1 rfl hl (by decide) rfl (fun ls101 hl102 => ?_)
  refine lv_iconst (v := 0) hx hb dX9_countLost_2 (by decide) ?_
  refine lv_istore_n (lv' := [(2, .int 0), (1, .int 0), (0, .ref a)]) hx hb dX9_countLost_3 rfl hl102 (by decide) rfl (fun ls103 hl104 => ?_)
  refine lv_iload_n hx hb dX9_countLost_4 rfl (lv_at hl104 0 rfl) ?_
  refine lv_aload_n hx hb dX9_countLost_5 rfl (lv_at hl104 2 rfl) ?_
  refine x_gr C hT (ci := 9) (k := 0) rfl inX9 (by decide) wF_X9_12 ga rg_68 rfl dX9_countLost_6 (fun q105 eq105 gq105 => ?_)
  have uq105 : w = q105 := (f0).trans eq105.symm
  subst uq105
  refine x_gi C hT (ci := 8) (k := 1) rfl inX8 (by decide) wF_X9_64 gw rg_0 rfl dX9_countLost_9 (fun x106 ex106 bx106 => ?_)
  have ux106 : x106 = 0 := ex106.trans f3
  subst ux106
  refine lv_icmp_ge (tgt := 45) hx hb dX9_countLost_12 (by decide) (fun c107 => ?_) (fun c107 => ?_)
  · have k108 := i_le c107
    refine lv_iload_n hx hb dX9_countLost_45 rfl (lv_at hl104 1 rfl) ?_
    exact x_iret C hQ dX9_countLost_46 hS (by decide) (by decide) (⟨rfl, 0, rfl, by omega⟩)
  · have k108 := i_nle c107
    exfalso
    omega

set_option maxHeartbeats 4000000 in
set_option maxRecDepth 100000 in
theorem f_X9_countTrue (l : Launch) (K : KE) (G : Nat → Option Nat) (H : Heap) {a w : Nat}  (hT : TY K G H) (ga : G a = some 68) (gw : G w = some 0) (fx : FX K H a w) : MX l K yX9_countTrue cX9_countTrue 3 (some .int) 0 0 0 0 [.ref a] H (AE G [] H.size) (fun v H1 => H1 = H ∧ ∃ r : Int32, v = some (.int r) ∧ (r.toInt = 0)) := by
  refine MX.of (by decide +kernel) (Nat.le_of_ble_eq_true rfl) ?_
  intro p e s m below meth c ls Q C hH hl hQ
  subst hH
  have C : CX p K s m _ meth c RX9 cX9_countTrue 3 (some .int) "countTrue" := C
  obtain ⟨hx, hb, hml, hown, hts, hKT, hr, hlocks, hnm⟩ := id C
  have hl : lv_has ls 3 [(0, .ref a)] := hl
  have hS : va_S (AE G [] s.heap.size) s.heap s.heap [] := va_S.rf
  have n_0 : (0 : Int32).toInt = 0 := rfl
  obtain ⟨f0, f1, f2, f3, f4, f5, f6, f7, f8, f9, f10⟩ := fx
  refine lv_iconst (v := 0) hx hb dX9_countTrue_0 (by decide) ?_
  refine lv_istore_n (lv' := [(1, .int 0), (0, .ref a)]) hx hb dX9_countTrue_1 rfl hl (by decide) rfl (fun ls101 hl102 => ?_)
  refine lv_iconst (v := 0) hx hb dX9_countTrue_2 (by decide) ?_
  refine lv_istore_n (lv' := [(2, .int 0), (1, .int 0), (0, .ref a)]) hx hb dX9_countTrue_3 rfl hl102 (by decide) rfl (fun ls103 hl104 => ?_)
  refine lv_iload_n hx hb dX9_countTrue_4 rfl (lv_at hl104 0 rfl) ?_
  refine lv_aload_n hx hb dX9_countTrue_5 rfl (lv_at hl104 2 rfl) ?_
  refine x_gr C hT (ci := 9) (k := 0) rfl inX9 (by decide) wF_X9_12 ga rg_68 rfl dX9_countTrue_6 (fun q105 eq105 gq105 => ?_)
  have uq105 : w = q105 := (f0).trans eq105.symm
  subst uq105
  refine x_gi C hT (ci := 8) (k := 1) rfl inX8 (by decide) wF_X9_64 gw rg_0 rfl dX9_countTrue_9 (fun x106 ex106 bx106 => ?_)
  have ux106 : x106 = 0 := ex106.trans f3
  subst ux106
  refine lv_icmp_ge (tgt := 45) hx hb dX9_countTrue_12 (by decide) (fun c107 => ?_) (fun c107 => ?_)
  · have k108 := i_le c107
    refine lv_iload_n hx hb dX9_countTrue_45 rfl (lv_at hl104 1 rfl) ?_
    exact x_iret C hQ dX9_countTrue_46 hS (by decide) (by decide) (⟨rfl, 0, rfl, by omega⟩)
  · have k108 := i_nle c107
    exfalso
    omega

set_option maxHeartbeats 4000000 in
set_option maxRecDepth 100000 in
theorem f_X9_fillLowTones (l : Launch) (K : KE) (G : Nat → Option Nat) (H : Heap) {a w : Nat} (hT : TY K G H) (ga : G a = some 68) (gw : G w = some 0) (fx : FX K H a w) : MX l K yX9_fillLowTones cX9_fillLowTones 2 none 0 0 0 0 [.ref a] H (AE G [] H.size) (fun v H1 => H1 = H ∧ v = none) := by
  refine MX.of (by decide +kernel) (Nat.le_of_ble_eq_true rfl) ?_
  intro p e s m below meth c ls Q C hH hl hQ
  subst hH
  have C : CX p K s m _ meth c RX9 cX9_fillLowTones 2 none "fillLowTones" := C
  obtain ⟨hx, hb, hml, hown, hts, hKT, hr, hlocks, hnm⟩ := id C
  have hl : lv_has ls 2 [(0, .ref a)] := hl
  have hS : va_S (AE G [] s.heap.size) s.heap s.heap [] := va_S.rf
  have n_0 : (0 : Int32).toInt = 0 := rfl
  obtain ⟨f0, f1, f2, f3, f4, f5, f6, f7, f8, f9, f10⟩ := fx
  refine lv_iconst (v := 0) hx hb dX9_fillLowTones_0 (by decide) ?_
  refine lv_istore_n (lv' := [(1, .int 0), (0, .ref a)]) hx hb dX9_fillLowTones_1 rfl hl (by decide) rfl (fun ls101 hl102 => ?_)
  refine lv_iload_n hx hb dX9_fillLowTones_2 rfl (lv_at hl102 0 rfl) ?_
  refine lv_aload_n hx hb dX9_fillLowTones_3 rfl (lv_at hl102 1 rfl) ?_
  refine x_gr C hT (ci := 9) (k := 0) rfl inX9 (by decide) wF_X9_12 ga rg_68 rfl dX9_fillLowTones_4 (fun q103 eq103 gq103 => ?_)
  have uq103 : w = q103 := (f0).trans eq103.symm
  subst uq103
  refine x_gi C hT (ci := 8) (k := 1) rfl inX8 (by decide) wF_X9_64 gw rg_0 rfl dX9_fillLowTones_7 (fun x104 ex104 bx104 => ?_)
  have ux104 : x104 = 0 := ex104.trans f3
  subst ux104
  refine lv_icmp_ge (tgt := 39) hx hb dX9_fillLowTones_10 (by decide) (fun c105 => ?_) (fun c105 => ?_)
  · have k106 := i_le c105
    exact x_vret C hQ dX9_fillLowTones_39 hS (by decide) (by decide) (⟨rfl, rfl⟩)
  · have k106 := i_nle c105
    exfalso
    omega

set_option maxHeartbeats 4000000 in
set_option maxRecDepth 100000 in
theorem f_X9_off (l : Launch) (K : KE) (G : Nat → Option Nat) (H : Heap) {a w : Nat} (x0 : Int32) (hT : TY K G H) (ga : G a = some 68) (gw : G w = some 0) (fx : FX K H a w) : MX l K yX9_off cX9_off 2 (some .int) 2 42 0 0 [.ref a, .int x0] H (AE G [] H.size) (fun v H1 => (∃ r : Int32, v = some (.int r) ∧ ((-1 ≤ x0.toInt ∧ x0.toInt ≤ 1 ∧ r.toInt = 0) ∨ (¬ (-1 ≤ x0.toInt ∧ x0.toInt ≤ 1) ∧ r.toInt = -1))) ∧ ∃ G1 : Nat → Option Nat, (∀ q, q < H.size → G1 q = G q) ∧ TY K G1 H1) := by
  refine MX.of (by decide +kernel) (Nat.le_of_ble_eq_true rfl) ?_
  intro p e s m below meth c ls Q C hH hl hQ
  subst hH
  have C : CX p K s m _ meth c RX9 cX9_off 2 (some .int) "off" := C
  obtain ⟨hx, hb, hml, hown, hts, hKT, hr, hlocks, hnm⟩ := id C
  have hl : lv_has ls 2 [(0, .ref a), (1, .int x0)] := hl
  have hS : va_S (AE G [] s.heap.size) s.heap s.heap [] := va_S.rf
  have n_m1 : ((-1) : Int32).toInt = -1 := rfl
  have n_0 : (0 : Int32).toInt = 0 := rfl
  have n_1 : (1 : Int32).toInt = 1 := rfl
  obtain ⟨f0, f1, f2, f3, f4, f5, f6, f7, f8, f9, f10⟩ := fx
  refine lv_iload_n hx hb dX9_off_0 rfl (lv_at hl 1 rfl) ?_
  refine lv_iconst (v := (-1)) hx hb dX9_off_1 (by decide) ?_
  refine lv_icmp_ne (tgt := 40) hx hb dX9_off_2 (by decide) (fun c101 => ?_) (fun c101 => ?_)
  · have k102 := i_ne c101
    refine lv_iload_n hx hb dX9_off_40 rfl (lv_at hl 1 rfl) ?_
    refine lv_iconst (v := 0) hx hb dX9_off_41 (by decide) ?_
    refine lv_iconst (v := 1) hx hb dX9_off_42 (by decide) ?_
    refine x_S (As := [.int x0, .int 0, .int 1]) (rest := []) C (c_X9_within l K G s.heap (x0) (0) (1) hT) yo_X9_within wM_X9_89 ⟨⟨by decide, by decide⟩, by decide, by decide⟩ rfl hl.1 rfl (Nat.le_of_ble_eq_true rfl) dX9_off_43 hS (AE_sub (fun _ _ => rfl) (by decide) hS.1) (fun vH103 H103 locsH103 pH103 zH103 kH103 hSH103 => ?_)
    have hqH103 := pH103.1.symm
    subst hqH103
    rcases pH103.2 with ⟨hvH103, hcH103⟩ | ⟨hvH103, hcH103⟩
    · subst hvH103
      refine W.eq (g2 := F0 m 46 ls [.int 1]) rfl ?_
      refine lv_if_eq (tgt := 65) hx hb dX9_off_46 (by decide) (fun c104 => ?_) (fun c104 => ?_)
      · have k105 := i_eq c104
        exfalso
        omega
      · have k105 := i_ne c104
        refine lv_aload_n hx hb dX9_off_49 rfl (lv_at hl 0 rfl) ?_
        refine lv_aload_n hx hb dX9_off_50 rfl (lv_at hl 0 rfl) ?_
        refine x_gr C hT (ci := 9) (k := 0) rfl inX9 (by decide) wF_X9_12 ga rg_68 rfl dX9_off_51 (fun q106 eq106 gq106 => ?_)
        have uq106 : w = q106 := (f0).trans eq106.symm
        subst uq106
        refine x_gr C hT (ci := 8) (k := 2) rfl inX8 (by decide) wF_X9_158 gw rg_0 rfl dX9_off_54 (fun q107 eq107 gq107 => ?_)
        refine lv_iload_n hx hb dX9_off_57 rfl (lv_at hl 1 rfl) ?_
        refine x_ar C hT rfl rfl gq107 rg_26 ⟨by omega, by show _ < ((2 : Nat) : Int); omega⟩ dX9_off_58 (fun q108 eq108 gq108 => ?_)
        refine x_V (As := [.ref q108]) (rest := []) C (f_X9_offOf l K G s.heap  hT ga gw ⟨f0, f1, f2, f3, f4, f5, f6, f7, f8, f9, f10⟩ gq108) yo_X9_offOf wM_X9_259 ⟨⟨by decide, by decide⟩, by decide, by decide⟩ (x_rv C hT (ci := 9) rfl ga rg_68) rfl hl.1 rfl (Nat.le_of_ble_eq_true rfl) dX9_off_59 hSH103 (AE_sub (fun _ _ => rfl) (by decide) hSH103.1) (fun vH109 H109 locsH109 pH109 zH109 kH109 hSH109 => ?_)
        have hqH109 := pH109.1.symm
        subst hqH109
        obtain ⟨x110, hvH109, tx110⟩ := pH109.2
        subst hvH109
        refine W.eq (g2 := F0 m 62 ls [.int x110]) rfl ?_
        refine lv_goto (tgt := 66) hx hb dX9_off_62 (by decide) ?_
        exact x_iret C hQ dX9_off_66 hSH109 (by decide) (by decide) (⟨⟨x110, rfl, by omega⟩, G, fun _ _ => rfl, hT⟩)
    · subst hvH103
      refine W.eq (g2 := F0 m 46 ls [.int 0]) rfl ?_
      refine lv_if_eq (tgt := 65) hx hb dX9_off_46 (by decide) (fun c111 => ?_) (fun c111 => ?_)
      · have k112 := i_eq c111
        refine lv_iconst (v := (-1)) hx hb dX9_off_65 (by decide) ?_
        exact x_iret C hQ dX9_off_66 hSH103 (by decide) (by decide) (⟨⟨(-1), rfl, by omega⟩, G, fun _ _ => rfl, hT⟩)
      · have k112 := i_ne c111
        exfalso
        omega
  · have k102 := i_eq c101
    refine lv_aload_n hx hb dX9_off_5 rfl (lv_at hl 0 rfl) ?_
    refine lv_aload_n hx hb dX9_off_6 rfl (lv_at hl 0 rfl) ?_
    refine x_gr C hT (ci := 9) (k := 0) rfl inX9 (by decide) wF_X9_12 ga rg_68 rfl dX9_off_7 (fun q113 eq113 gq113 => ?_)
    have uq113 : w = q113 := (f0).trans eq113.symm
    subst uq113
    refine x_gr C hT (ci := 8) (k := 2) rfl inX8 (by decide) wF_X9_158 gw rg_0 rfl dX9_off_10 (fun q114 eq114 gq114 => ?_)
    refine lv_iconst (v := 1) hx hb dX9_off_13 (by decide) ?_
    refine x_ar C hT rfl rfl gq114 rg_26 (by decide) dX9_off_14 (fun q115 eq115 gq115 => ?_)
    refine x_V (As := [.ref q115]) (rest := []) C (f_X9_offOf l K G s.heap  hT ga gw ⟨f0, f1, f2, f3, f4, f5, f6, f7, f8, f9, f10⟩ gq115) yo_X9_offOf wM_X9_259 ⟨⟨by decide, by decide⟩, by decide, by decide⟩ (x_rv C hT (ci := 9) rfl ga rg_68) rfl hl.1 rfl (Nat.le_of_ble_eq_true rfl) dX9_off_15 hS (AE_sub (fun _ _ => rfl) (by decide) hS.1) (fun vH116 H116 locsH116 pH116 zH116 kH116 hSH116 => ?_)
    have hqH116 := pH116.1.symm
    subst hqH116
    obtain ⟨x117, hvH116, tx117⟩ := pH116.2
    subst hvH116
    refine W.eq (g2 := F0 m 18 ls [.int x117]) rfl ?_
    refine lv_aload_n hx hb dX9_off_18 rfl (lv_at hl 0 rfl) ?_
    refine lv_aload_n hx hb dX9_off_19 rfl (lv_at hl 0 rfl) ?_
    refine x_gr C hT (ci := 9) (k := 0) rfl inX9 (by decide) wF_X9_12 ga rg_68 rfl dX9_off_20 (fun q118 eq118 gq118 => ?_)
    have uq118 : w = q118 := (f0).trans eq118.symm
    subst uq118
    refine x_gr C hT (ci := 8) (k := 2) rfl inX8 (by decide) wF_X9_158 gw rg_0 rfl dX9_off_23 (fun q119 eq119 gq119 => ?_)
    have uq119 : q114 = q119 := (eq114).trans eq119.symm
    subst uq119
    refine lv_iconst (v := 0) hx hb dX9_off_26 (by decide) ?_
    refine x_ar C hT rfl rfl gq114 rg_26 (by decide) dX9_off_27 (fun q120 eq120 gq120 => ?_)
    refine x_V (As := [.ref q120]) (rest := [.int x117]) C (f_X9_offOf l K G s.heap  hT ga gw ⟨f0, f1, f2, f3, f4, f5, f6, f7, f8, f9, f10⟩ gq120) yo_X9_offOf wM_X9_259 ⟨⟨by decide, by decide⟩, by decide, by decide⟩ (x_rv C hT (ci := 9) rfl ga rg_68) rfl hl.1 rfl (Nat.le_of_ble_eq_true rfl) dX9_off_28 hSH116 (AE_sub (fun _ _ => rfl) (by decide) hSH116.1) (fun vH121 H121 locsH121 pH121 zH121 kH121 hSH121 => ?_)
    have hqH121 := pH121.1.symm
    subst hqH121
    obtain ⟨x122, hvH121, tx122⟩ := pH121.2
    subst hvH121
    refine W.eq (g2 := F0 m 31 ls [.int x122, .int x117]) rfl ?_
    refine lv_icmp_ge (tgt := 38) hx hb dX9_off_31 (by decide) (fun c123 => ?_) (fun c123 => ?_)
    · have k124 := i_le c123
      refine lv_iconst (v := 0) hx hb dX9_off_38 (by decide) ?_
      exact x_iret C hQ dX9_off_39 hSH121 (by decide) (by decide) (⟨⟨0, rfl, by omega⟩, G, fun _ _ => rfl, hT⟩)
    · have k124 := i_nle c123
      exfalso
      omega

set_option maxHeartbeats 4000000 in
set_option maxRecDepth 100000 in
theorem f_X9_nights (l : Launch) (K : KE) (G : Nat → Option Nat) (H : Heap) {a w : Nat} (x0 : Int32) (x1 : Int32) (hT : TY K G H) (ga : G a = some 68) (gw : G w = some 0) (fx : FX K H a w) : MX l K yX9_nights cX9_nights 3 (some .int) 1 22 0 0 [.ref a, .int x0, .int x1] H (AE G [] H.size) (fun v H1 => (∃ r : Int32, v = some (.int r) ∧ ((x0.toInt = -1 ∧ r.toInt = 0) ∨ (x0.toInt ≠ -1 ∧ r.toInt = -2))) ∧ ∃ G1 : Nat → Option Nat, (∀ q, q < H.size → G1 q = G q) ∧ TY K G1 H1) := by
  refine MX.of (by decide +kernel) (Nat.le_of_ble_eq_true rfl) ?_
  intro p e s m below meth c ls Q C hH hl hQ
  subst hH
  have C : CX p K s m _ meth c RX9 cX9_nights 3 (some .int) "nights" := C
  obtain ⟨hx, hb, hml, hown, hts, hKT, hr, hlocks, hnm⟩ := id C
  have hl : lv_has ls 3 [(0, .ref a), (1, .int x0), (2, .int x1)] := hl
  have hS : va_S (AE G [] s.heap.size) s.heap s.heap [] := va_S.rf
  have n_m2 : ((-2) : Int32).toInt = -2 := rfl
  have n_m1 : ((-1) : Int32).toInt = -1 := rfl
  have n_0 : (0 : Int32).toInt = 0 := rfl
  have n_1 : (1 : Int32).toInt = 1 := rfl
  obtain ⟨f0, f1, f2, f3, f4, f5, f6, f7, f8, f9, f10⟩ := fx
  refine lv_iload_n hx hb dX9_nights_0 rfl (lv_at hl 1 rfl) ?_
  refine lv_iconst (v := (-1)) hx hb dX9_nights_1 (by decide) ?_
  refine lv_icmp_eq (tgt := 34) hx hb dX9_nights_2 (by decide) (fun c101 => ?_) (fun c101 => ?_)
  · have k102 := i_eq c101
    refine lv_aload_n hx hb dX9_nights_34 rfl (lv_at hl 0 rfl) ?_
    refine x_V (As := []) (rest := []) C (f_X9_fillLowTones l K G s.heap hT ga gw ⟨f0, f1, f2, f3, f4, f5, f6, f7, f8, f9, f10⟩) yo_X9_fillLowTones wM_X9_302 ⟨⟨by decide, by decide⟩, by decide, by decide⟩ (x_rv C hT (ci := 9) rfl ga rg_68) rfl hl.1 rfl (Nat.le_of_ble_eq_true rfl) dX9_nights_35 hS (AE_sub (fun _ _ => rfl) (by decide) hS.1) (fun vH103 H103 locsH103 pH103 zH103 kH103 hSH103 => ?_)
    have hqH103 := pH103.1.symm
    subst hqH103
    have hvH103 := pH103.2
    subst hvH103
    refine W.eq (g2 := F0 m 38 ls []) rfl ?_
    refine lv_iload_n hx hb dX9_nights_38 rfl (lv_at hl 1 rfl) ?_
    refine lv_iconst (v := (-1)) hx hb dX9_nights_39 (by decide) ?_
    refine lv_icmp_ne (tgt := 48) hx hb dX9_nights_40 (by decide) (fun c104 => ?_) (fun c104 => ?_)
    · have k105 := i_ne c104
      exfalso
      omega
    · have k105 := i_eq c104
      refine lv_aload_n hx hb dX9_nights_43 rfl (lv_at hl 0 rfl) ?_
      refine x_V (As := []) (rest := []) C (f_X9_apart l K G s.heap  hT ga gw ⟨f0, f1, f2, f3, f4, f5, f6, f7, f8, f9, f10⟩ ) yo_X9_apart wM_X9_305 ⟨⟨by decide, by decide⟩, by decide, by decide⟩ (x_rv C hT (ci := 9) rfl ga rg_68) rfl hl.1 rfl (Nat.le_of_ble_eq_true rfl) dX9_nights_44 hSH103 (AE_sub (fun _ _ => rfl) (by decide) hSH103.1) (fun vH106 H106 locsH106 pH106 zH106 kH106 hSH106 => ?_)
      have hqH106 := pH106.1.symm
      subst hqH106
      obtain ⟨x107, hvH106, tx107⟩ := pH106.2
      subst hvH106
      refine W.eq (g2 := F0 m 47 ls [.int x107]) rfl ?_
      exact x_iret C hQ dX9_nights_47 hSH106 (by decide) (by decide) (⟨⟨x107, rfl, by omega⟩, G, fun _ _ => rfl, hT⟩)
  · have k102 := i_ne c101
    refine lv_iload_n hx hb dX9_nights_5 rfl (lv_at hl 1 rfl) ?_
    refine lv_iconst (v := 0) hx hb dX9_nights_6 (by decide) ?_
    refine lv_aload_n hx hb dX9_nights_7 rfl (lv_at hl 0 rfl) ?_
    refine x_gr C hT (ci := 9) (k := 0) rfl inX9 (by decide) wF_X9_12 ga rg_68 rfl dX9_nights_8 (fun q108 eq108 gq108 => ?_)
    have uq108 : w = q108 := (f0).trans eq108.symm
    subst uq108
    refine x_gi C hT (ci := 8) (k := 10) rfl inX8 (by decide) wF_X9_293 gw rg_0 rfl dX9_nights_11 (fun x109 ex109 bx109 => ?_)
    have ux109 : x109 = 0 := ex109.trans f8
    subst ux109
    refine lv_iconst (v := 1) hx hb dX9_nights_14 (by decide) ?_
    refine lv_isub hx hb dX9_nights_15 ?_
    refine lv_topi (fun x110 ex110 => ?_)
    have tx110 : x110 = (-1) := by rw [ex110]; rfl
    rw [tx110] at ex110 ⊢
    clear tx110 ex110
    refine x_S (As := [.int x0, .int 0, .int (-1)]) (rest := []) C (c_X9_within l K G s.heap (x0) (0) ((-1)) hT) yo_X9_within wM_X9_89 ⟨⟨by decide, by decide⟩, by decide, by decide⟩ rfl hl.1 rfl (Nat.le_of_ble_eq_true rfl) dX9_nights_16 hS (AE_sub (fun _ _ => rfl) (by decide) hS.1) (fun vH111 H111 locsH111 pH111 zH111 kH111 hSH111 => ?_)
    have hqH111 := pH111.1.symm
    subst hqH111
    rcases pH111.2 with ⟨hvH111, hcH111⟩ | ⟨hvH111, hcH111⟩
    · subst hvH111
      refine W.eq (g2 := F0 m 19 ls [.int 1]) rfl ?_
      exfalso
      omega
    · subst hvH111
      refine W.eq (g2 := F0 m 19 ls [.int 0]) rfl ?_
      refine lv_if_eq (tgt := 31) hx hb dX9_nights_19 (by decide) (fun c112 => ?_) (fun c112 => ?_)
      · have k113 := i_eq c112
        refine lv_bipush (v := (-2)) hx hb dX9_nights_31 (by decide) ?_
        exact x_iret C hQ dX9_nights_33 hSH111 (by decide) (by decide) (⟨⟨(-2), rfl, by omega⟩, G, fun _ _ => rfl, hT⟩)
      · have k113 := i_ne c112
        exfalso
        omega

set_option maxHeartbeats 4000000 in
set_option maxRecDepth 100000 in
theorem f_X9_look (l : Launch) (K : KE) (G : Nat → Option Nat) (H : Heap) {a w : Nat} (x0 : Int32) (hT : TY K G H) (ga : G a = some 68) (gw : G w = some 0) (fx : FX K H a w) : MX l K yX9_look cX9_look 2 (some .int) 1 22 0 0 [.ref a, .int x0] H (AE G [] H.size) (fun v H1 => (∃ r : Int32, v = some (.int r) ∧ (((0 ≤ x0.toInt ∧ x0.toInt ≤ 3 ∨ 5 ≤ x0.toInt ∧ x0.toInt ≤ 7) ∧ r.toInt = 0) ∨ (x0.toInt = 4 ∧ r.toInt = 10) ∨ (¬ (0 ≤ x0.toInt ∧ x0.toInt ≤ 7) ∧ r.toInt = -1))) ∧ ∃ G1 : Nat → Option Nat, (∀ q, q < H.size → G1 q = G q) ∧ TY K G1 H1) := by
  refine MX.of (by decide +kernel) (Nat.le_of_ble_eq_true rfl) ?_
  intro p e s m below meth c ls Q C hH hl hQ
  subst hH
  have C : CX p K s m _ meth c RX9 cX9_look 2 (some .int) "look" := C
  obtain ⟨hx, hb, hml, hown, hts, hKT, hr, hlocks, hnm⟩ := id C
  have hl : lv_has ls 2 [(0, .ref a), (1, .int x0)] := hl
  have hS : va_S (AE G [] s.heap.size) s.heap s.heap [] := va_S.rf
  have n_m1 : ((-1) : Int32).toInt = -1 := rfl
  have n_0 : (0 : Int32).toInt = 0 := rfl
  have n_1 : (1 : Int32).toInt = 1 := rfl
  have n_2 : (2 : Int32).toInt = 2 := rfl
  have n_3 : (3 : Int32).toInt = 3 := rfl
  have n_4 : (4 : Int32).toInt = 4 := rfl
  have n_5 : (5 : Int32).toInt = 5 := rfl
  have n_6 : (6 : Int32).toInt = 6 := rfl
  have n_7 : (7 : Int32).toInt = 7 := rfl
  have n_10 : (10 : Int32).toInt = 10 := rfl
  obtain ⟨f0, f1, f2, f3, f4, f5, f6, f7, f8, f9, f10⟩ := fx
  refine lv_iload_n hx hb dX9_look_0 rfl (lv_at hl 1 rfl) ?_
  by_cases c101 : x0 = 0
  · have kc101 := i_eq c101
    refine lv_tableIn (tgt := 48) hx hb dX9_look_1 (by omega) (by omega) (off := 47) (by rw [c101]; rfl) (by decide) ?_
    refine lv_aload_n hx hb dX9_look_48 rfl (lv_at hl 0 rfl) ?_
    refine x_gr C hT (ci := 9) (k := 0) rfl inX9 (by decide) wF_X9_12 ga rg_68 rfl dX9_look_49 (fun q102 eq102 gq102 => ?_)
    have uq102 : w = q102 := (f0).trans eq102.symm
    subst uq102
    refine x_gi C hT (ci := 8) (k := 1) rfl inX8 (by decide) wF_X9_64 gw rg_0 rfl dX9_look_52 (fun x103 ex103 bx103 => ?_)
    have ux103 : x103 = 0 := ex103.trans f3
    subst ux103
    exact x_iret C hQ dX9_look_55 hS (by decide) (by decide) (⟨⟨0, rfl, by omega⟩, G, fun _ _ => rfl, hT⟩)
  have kc101 := i_ne c101
  by_cases c104 : x0 = 1
  · have kc104 := i_eq c104
    refine lv_tableIn (tgt := 56) hx hb dX9_look_1 (by omega) (by omega) (off := 55) (by rw [c104]; rfl) (by decide) ?_
    refine lv_aload_n hx hb dX9_look_56 rfl (lv_at hl 0 rfl) ?_
    refine x_gr C hT (ci := 9) (k := 0) rfl inX9 (by decide) wF_X9_12 ga rg_68 rfl dX9_look_57 (fun q105 eq105 gq105 => ?_)
    have uq105 : w = q105 := (f0).trans eq105.symm
    subst uq105
    refine x_gi C hT (ci := 8) (k := 10) rfl inX8 (by decide) wF_X9_293 gw rg_0 rfl dX9_look_60 (fun x106 ex106 bx106 => ?_)
    have ux106 : x106 = 0 := ex106.trans f8
    subst ux106
    exact x_iret C hQ dX9_look_63 hS (by decide) (by decide) (⟨⟨0, rfl, by omega⟩, G, fun _ _ => rfl, hT⟩)
  have kc104 := i_ne c104
  by_cases c107 : x0 = 2
  · have kc107 := i_eq c107
    refine lv_tableIn (tgt := 64) hx hb dX9_look_1 (by omega) (by omega) (off := 63) (by rw [c107]; rfl) (by decide) ?_
    refine lv_aload_n hx hb dX9_look_64 rfl (lv_at hl 0 rfl) ?_
    refine x_gr C hT (ci := 9) (k := 0) rfl inX9 (by decide) wF_X9_12 ga rg_68 rfl dX9_look_65 (fun q108 eq108 gq108 => ?_)
    have uq108 : w = q108 := (f0).trans eq108.symm
    subst uq108
    refine x_gi C hT (ci := 8) (k := 13) rfl inX8 (by decide) wF_X9_317 gw rg_0 rfl dX9_look_68 (fun x109 ex109 bx109 => ?_)
    have ux109 : x109 = 0 := ex109.trans f9
    subst ux109
    exact x_iret C hQ dX9_look_71 hS (by decide) (by decide) (⟨⟨0, rfl, by omega⟩, G, fun _ _ => rfl, hT⟩)
  have kc107 := i_ne c107
  by_cases c110 : x0 = 3
  · have kc110 := i_eq c110
    refine lv_tableIn (tgt := 72) hx hb dX9_look_1 (by omega) (by omega) (off := 71) (by rw [c110]; rfl) (by decide) ?_
    refine lv_aload_n hx hb dX9_look_72 rfl (lv_at hl 0 rfl) ?_
    refine x_gr C hT (ci := 9) (k := 0) rfl inX9 (by decide) wF_X9_12 ga rg_68 rfl dX9_look_73 (fun q111 eq111 gq111 => ?_)
    have uq111 : w = q111 := (f0).trans eq111.symm
    subst uq111
    refine x_gi C hT (ci := 8) (k := 16) rfl inX8 (by decide) wF_X9_326 gw rg_0 rfl dX9_look_76 (fun x112 ex112 bx112 => ?_)
    have ux112 : x112 = 0 := ex112.trans f10
    subst ux112
    exact x_iret C hQ dX9_look_79 hS (by decide) (by decide) (⟨⟨0, rfl, by omega⟩, G, fun _ _ => rfl, hT⟩)
  have kc110 := i_ne c110
  by_cases c113 : x0 = 4
  · have kc113 := i_eq c113
    refine lv_tableIn (tgt := 80) hx hb dX9_look_1 (by omega) (by omega) (off := 79) (by rw [c113]; rfl) (by decide) ?_
    refine lv_aload_n hx hb dX9_look_80 rfl (lv_at hl 0 rfl) ?_
    refine x_gr C hT (ci := 9) (k := 0) rfl inX9 (by decide) wF_X9_12 ga rg_68 rfl dX9_look_81 (fun q114 eq114 gq114 => ?_)
    have uq114 : w = q114 := (f0).trans eq114.symm
    subst uq114
    refine x_gi C hT (ci := 8) (k := 5) rfl inX8 (by decide) wF_X9_184 gw rg_0 rfl dX9_look_84 (fun x115 ex115 bx115 => ?_)
    have ux115 : x115 = 10 := ex115.trans f5
    subst ux115
    exact x_iret C hQ dX9_look_87 hS (by decide) (by decide) (⟨⟨10, rfl, by omega⟩, G, fun _ _ => rfl, hT⟩)
  have kc113 := i_ne c113
  by_cases c116 : x0 = 5
  · have kc116 := i_eq c116
    refine lv_tableIn (tgt := 88) hx hb dX9_look_1 (by omega) (by omega) (off := 87) (by rw [c116]; rfl) (by decide) ?_
    refine lv_aload_n hx hb dX9_look_88 rfl (lv_at hl 0 rfl) ?_
    refine x_gr C hT (ci := 9) (k := 0) rfl inX9 (by decide) wF_X9_12 ga rg_68 rfl dX9_look_89 (fun q117 eq117 gq117 => ?_)
    have uq117 : w = q117 := (f0).trans eq117.symm
    subst uq117
    refine x_gi C hT (ci := 8) (k := 4) rfl inX8 (by decide) wF_X9_147 gw rg_0 rfl dX9_look_92 (fun x118 ex118 bx118 => ?_)
    have ux118 : x118 = 0 := ex118.trans f4
    subst ux118
    exact x_iret C hQ dX9_look_95 hS (by decide) (by decide) (⟨⟨0, rfl, by omega⟩, G, fun _ _ => rfl, hT⟩)
  have kc116 := i_ne c116
  by_cases c119 : x0 = 6
  · have kc119 := i_eq c119
    refine lv_tableIn (tgt := 96) hx hb dX9_look_1 (by omega) (by omega) (off := 95) (by rw [c119]; rfl) (by decide) ?_
    refine lv_aload_n hx hb dX9_look_96 rfl (lv_at hl 0 rfl) ?_
    refine x_V (As := []) (rest := []) C (f_X9_countLost l K G s.heap  hT ga gw ⟨f0, f1, f2, f3, f4, f5, f6, f7, f8, f9, f10⟩ ) yo_X9_countLost wM_X9_354 ⟨⟨by decide, by decide⟩, by decide, by decide⟩ (x_rv C hT (ci := 9) rfl ga rg_68) rfl hl.1 rfl (Nat.le_of_ble_eq_true rfl) dX9_look_97 hS (AE_sub (fun _ _ => rfl) (by decide) hS.1) (fun vH120 H120 locsH120 pH120 zH120 kH120 hSH120 => ?_)
    have hqH120 := pH120.1.symm
    subst hqH120
    obtain ⟨x121, hvH120, tx121⟩ := pH120.2
    subst hvH120
    refine W.eq (g2 := F0 m 100 ls [.int x121]) rfl ?_
    exact x_iret C hQ dX9_look_100 hSH120 (by decide) (by decide) (⟨⟨x121, rfl, by omega⟩, G, fun _ _ => rfl, hT⟩)
  have kc119 := i_ne c119
  by_cases c122 : x0 = 7
  · have kc122 := i_eq c122
    refine lv_tableIn (tgt := 101) hx hb dX9_look_1 (by omega) (by omega) (off := 100) (by rw [c122]; rfl) (by decide) ?_
    refine lv_aload_n hx hb dX9_look_101 rfl (lv_at hl 0 rfl) ?_
    refine x_V (As := []) (rest := []) C (f_X9_countTrue l K G s.heap  hT ga gw ⟨f0, f1, f2, f3, f4, f5, f6, f7, f8, f9, f10⟩ ) yo_X9_countTrue wM_X9_357 ⟨⟨by decide, by decide⟩, by decide, by decide⟩ (x_rv C hT (ci := 9) rfl ga rg_68) rfl hl.1 rfl (Nat.le_of_ble_eq_true rfl) dX9_look_102 hS (AE_sub (fun _ _ => rfl) (by decide) hS.1) (fun vH123 H123 locsH123 pH123 zH123 kH123 hSH123 => ?_)
    have hqH123 := pH123.1.symm
    subst hqH123
    obtain ⟨x124, hvH123, tx124⟩ := pH123.2
    subst hvH123
    refine W.eq (g2 := F0 m 105 ls [.int x124]) rfl ?_
    exact x_iret C hQ dX9_look_105 hSH123 (by decide) (by decide) (⟨⟨x124, rfl, by omega⟩, G, fun _ _ => rfl, hT⟩)
  have kc122 := i_ne c122
  refine lv_tableOut (tgt := 106) hx hb dX9_look_1 (by omega) (by decide) ?_
  refine lv_iconst (v := (-1)) hx hb dX9_look_106 (by decide) ?_
  exact x_iret C hQ dX9_look_107 hS (by decide) (by decide) (⟨⟨(-1), rfl, by omega⟩, G, fun _ _ => rfl, hT⟩)

set_option maxHeartbeats 4000000 in
set_option maxRecDepth 100000 in
theorem f_X10_offOf (l : Launch) (K : KE) (G : Nat → Option Nat) (H : Heap) {b : Nat} (x0 : Int32) (hT : TY K G H) (gb : G b = some 112) (fx : FM K H b) : MX l K yX10_offOf cX10_offOf 6 (some .int) 0 0 0 0 [.ref b, .int x0] H (AE G [] H.size) (fun v H1 => H1 = H ∧ ∃ r : Int32, v = some (.int r) ∧ (r.toInt = 0)) := by
  refine MX.of (by decide +kernel) (Nat.le_of_ble_eq_true rfl) ?_
  intro p e s m below meth c ls Q C hH hl hQ
  subst hH
  have C : CX p K s m _ meth c RX10 cX10_offOf 6 (some .int) "offOf" := C
  obtain ⟨hx, hb, hml, hown, hts, hKT, hr, hlocks, hnm⟩ := id C
  have hl : lv_has ls 6 [(0, .ref b), (1, .int x0)] := hl
  have hS : va_S (AE G [] s.heap.size) s.heap s.heap [] := va_S.rf
  have n_0 : (0 : Int32).toInt = 0 := rfl
  have l_0 : (0 : Int64).toInt = 0 := rfl
  have l_999999999 : (999999999 : Int64).toInt = 999999999 := rfl
  obtain ⟨f1, f2, f3, f4, f5, f6, f7, f8, f9, f10⟩ := fx
  refine lv_lconst (v := 0) hx hb dX10_offOf_0 (by decide) ?_
  refine lv_lstore_n (lv' := [(2, .long 0), (0, .ref b), (1, .int x0)]) hx hb dX10_offOf_1 rfl hl (by decide) rfl (fun ls101 hl102 => ?_)
  refine lv_iconst (v := 0) hx hb dX10_offOf_2 (by decide) ?_
  refine lv_istore (lv' := [(4, .int 0), (2, .long 0), (0, .ref b), (1, .int x0)]) hx hb dX10_offOf_3 hl102 (by decide) rfl (fun ls103 hl104 => ?_)
  refine lv_iload hx hb dX10_offOf_5 (lv_at hl104 0 rfl) ?_
  refine lv_aload_n hx hb dX10_offOf_7 rfl (lv_at hl104 2 rfl) ?_
  refine x_gi C hT (ci := 10) (k := 1) rfl inX10 (by decide) wF_X10_170 gb rg_112 rfl dX10_offOf_8 (fun x105 ex105 bx105 => ?_)
  have ux105 : x105 = 0 := ex105.trans f1
  subst ux105
  refine lv_icmp_ge (tgt := 76) hx hb dX10_offOf_11 (by decide) (fun c106 => ?_) (fun c106 => ?_)
  · have k107 := i_le c106
    refine lv_lload_n hx hb dX10_offOf_76 rfl (lv_at hl104 1 rfl) ?_
    refine lv_ldc2 (v := 999999999) hx hb hown (hts _ wK_X10_396) dX10_offOf_77 ?_
    refine W.lcmp hx hb dX10_offOf_80 ?_
    refine lv_topi (fun x108 ex108 => ?_)
    have tx108 := j_cmp ex108
    refine lv_if_le (tgt := 90) hx hb dX10_offOf_81 (by decide) (fun c109 => ?_) (fun c109 => ?_)
    · have k110 := i_le c109
      refine lv_lload_n hx hb dX10_offOf_90 rfl (lv_at hl104 1 rfl) ?_
      obtain ⟨x111, ex111⟩ : ∃ z : Int32, (0 : Int64).toInt32 = z := ⟨_, rfl⟩
      refine lv_l2i (v := x111) hx hb dX10_offOf_91 ex111 ?_
      have tx111 := j_l2i ex111 (by omega)
      exact x_iret C hQ dX10_offOf_92 hS (by decide) (by decide) (⟨rfl, x111, rfl, by omega⟩)
    · have k110 := i_nle c109
      exfalso
      omega
  · have k107 := i_nle c106
    exfalso
    omega

set_option maxHeartbeats 4000000 in
set_option maxRecDepth 100000 in
theorem f_X10_barsThat (l : Launch) (K : KE) (G : Nat → Option Nat) (H : Heap) {b : Nat} (x0 : Int32) (hT : TY K G H) (gb : G b = some 112) (fx : FM K H b) : MX l K yX10_barsThat cX10_barsThat 4 (some .int) 0 0 0 0 [.ref b, .int x0] H (AE G [] H.size) (fun v H1 => H1 = H ∧ ∃ r : Int32, v = some (.int r) ∧ (r.toInt = 0)) := by
  refine MX.of (by decide +kernel) (Nat.le_of_ble_eq_true rfl) ?_
  intro p e s m below meth c ls Q C hH hl hQ
  subst hH
  have C : CX p K s m _ meth c RX10 cX10_barsThat 4 (some .int) "barsThat" := C
  obtain ⟨hx, hb, hml, hown, hts, hKT, hr, hlocks, hnm⟩ := id C
  have hl : lv_has ls 4 [(0, .ref b), (1, .int x0)] := hl
  have hS : va_S (AE G [] s.heap.size) s.heap s.heap [] := va_S.rf
  have n_0 : (0 : Int32).toInt = 0 := rfl
  obtain ⟨f1, f2, f3, f4, f5, f6, f7, f8, f9, f10⟩ := fx
  refine lv_iconst (v := 0) hx hb dX10_barsThat_0 (by decide) ?_
  refine lv_istore_n (lv' := [(2, .int 0), (0, .ref b), (1, .int x0)]) hx hb dX10_barsThat_1 rfl hl (by decide) rfl (fun ls101 hl102 => ?_)
  refine lv_iconst (v := 0) hx hb dX10_barsThat_2 (by decide) ?_
  refine lv_istore_n (lv' := [(3, .int 0), (2, .int 0), (0, .ref b), (1, .int x0)]) hx hb dX10_barsThat_3 rfl hl102 (by decide) rfl (fun ls103 hl104 => ?_)
  refine lv_iload_n hx hb dX10_barsThat_4 rfl (lv_at hl104 0 rfl) ?_
  refine lv_aload_n hx hb dX10_barsThat_5 rfl (lv_at hl104 2 rfl) ?_
  refine x_gi C hT (ci := 10) (k := 1) rfl inX10 (by decide) wF_X10_170 gb rg_112 rfl dX10_barsThat_6 (fun x105 ex105 bx105 => ?_)
  have ux105 : x105 = 0 := ex105.trans f1
  subst ux105
  refine lv_icmp_ge (tgt := 45) hx hb dX10_barsThat_9 (by decide) (fun c106 => ?_) (fun c106 => ?_)
  · have k107 := i_le c106
    refine lv_iload_n hx hb dX10_barsThat_45 rfl (lv_at hl104 1 rfl) ?_
    exact x_iret C hQ dX10_barsThat_46 hS (by decide) (by decide) (⟨rfl, 0, rfl, by omega⟩)
  · have k107 := i_nle c106
    exfalso
    omega

set_option maxHeartbeats 4000000 in
set_option maxRecDepth 100000 in
theorem f_X10_off (l : Launch) (K : KE) (G : Nat → Option Nat) (H : Heap) {b : Nat} (x0 : Int32) (hT : TY K G H) (gb : G b = some 112) (fx : FM K H b) : MX l K yX10_off cX10_off 2 (some .int) 1 25 0 0 [.ref b, .int x0] H (AE G [112] H.size) (fun v H1 => (∃ r : Int32, v = some (.int r) ∧ ((-1 ≤ x0.toInt ∧ x0.toInt ≤ 1 ∧ r.toInt = 0) ∨ (¬ (-1 ≤ x0.toInt ∧ x0.toInt ≤ 1) ∧ r.toInt = -1))) ∧ ∃ G1 : Nat → Option Nat, (∀ q, q < H.size → G1 q = G q) ∧ TY K G1 H1) := by
  refine MX.of (by decide +kernel) (Nat.le_of_ble_eq_true rfl) ?_
  intro p e s m below meth c ls Q C hH hl hQ
  subst hH
  have C : CX p K s m _ meth c RX10 cX10_off 2 (some .int) "off" := C
  obtain ⟨hx, hb, hml, hown, hts, hKT, hr, hlocks, hnm⟩ := id C
  have hl : lv_has ls 2 [(0, .ref b), (1, .int x0)] := hl
  have hS : va_S (AE G [112] s.heap.size) s.heap s.heap [] := va_S.rf
  have n_m1 : ((-1) : Int32).toInt = -1 := rfl
  have n_0 : (0 : Int32).toInt = 0 := rfl
  have n_1 : (1 : Int32).toInt = 1 := rfl
  obtain ⟨f1, f2, f3, f4, f5, f6, f7, f8, f9, f10⟩ := fx
  refine lv_aload_n hx hb dX10_off_0 rfl (lv_at hl 0 rfl) ?_
  refine lv_iconst (v := 0) hx hb dX10_off_1 (by decide) ?_
  refine x_put C hT hS (ci := 10) (k := 0) (v := .int 0) (ty0 := tyX10) rfl inX10 tyX10_ok nmX10 (by decide) rfl wF_X10_167 gb rg_112 rfl rfl (okI (by have := i_rng (0 : Int32); omega) (by have := i_rng (0 : Int32); omega)) rfl rfl (AE_in gb (by decide)) dX10_off_2 (fun H101 locsH101 hTH101 hSH101 wH101 => ?_)
  have m102 := (Wr.neI wH101 (Or.inr (x_apart hKT hts inX10 tyX10 tyX10_ok nmX10 rfl 1 0 (by decide) (by decide) (by decide)))).trans f1
  have m103 := (Wr.neI wH101 (Or.inr (x_apart hKT hts inX10 tyX10 tyX10_ok nmX10 rfl 2 0 (by decide) (by decide) (by decide)))).trans f2
  have m104 := (Wr.neI wH101 (Or.inr (x_apart hKT hts inX10 tyX10 tyX10_ok nmX10 rfl 3 0 (by decide) (by decide) (by decide)))).trans f3
  have m105 := (Wr.neI wH101 (Or.inr (x_apart hKT hts inX10 tyX10 tyX10_ok nmX10 rfl 18 0 (by decide) (by decide) (by decide)))).trans f4
  have m106 := (Wr.neI wH101 (Or.inr (x_apart hKT hts inX10 tyX10 tyX10_ok nmX10 rfl 41 0 (by decide) (by decide) (by decide)))).trans f5
  have m107 := (Wr.neI wH101 (Or.inr (x_apart hKT hts inX10 tyX10 tyX10_ok nmX10 rfl 42 0 (by decide) (by decide) (by decide)))).trans f6
  have m108 := (Wr.neI wH101 (Or.inr (x_apart hKT hts inX10 tyX10 tyX10_ok nmX10 rfl 59 0 (by decide) (by decide) (by decide)))).trans f7
  have m109 := (Wr.neI wH101 (Or.inr (x_apart hKT hts inX10 tyX10 tyX10_ok nmX10 rfl 62 0 (by decide) (by decide) (by decide)))).trans f8
  have m110 := (Wr.neI wH101 (Or.inr (x_apart hKT hts inX10 tyX10 tyX10_ok nmX10 rfl 65 0 (by decide) (by decide) (by decide)))).trans f9
  have m111 := (Wr.neI wH101 (Or.inr (x_apart hKT hts inX10 tyX10 tyX10_ok nmX10 rfl 70 0 (by decide) (by decide) (by decide)))).trans f10
  have m112 := Wr.I wH101
  refine lv_iload_n hx hb dX10_off_5 rfl (lv_at hl 1 rfl) ?_
  refine lv_iconst (v := (-1)) hx hb dX10_off_6 (by decide) ?_
  refine lv_icmp_ne (tgt := 29) hx hb dX10_off_7 (by decide) (fun c113 => ?_) (fun c113 => ?_)
  · have k114 := i_ne c113
    refine lv_aload_n hx hb dX10_off_29 rfl (lv_at hl 0 rfl) ?_
    refine lv_iload_n hx hb dX10_off_30 rfl (lv_at hl 1 rfl) ?_
    refine x_V (As := [.int x0]) (rest := []) C (c_X10_isLaw l K G H101 (x0) hTH101 gb) yo_X10_isLaw wM_X10_328 ⟨⟨by decide, by decide⟩, by decide, by decide⟩ (x_rv C hTH101 (ci := 10) rfl gb rg_112) rfl hl.1 rfl (Nat.le_of_ble_eq_true rfl) dX10_off_31 hSH101 (AE_sub (fun _ _ => rfl) (by decide) hSH101.1) (fun vH115 H115 locsH115 pH115 zH115 kH115 hSH115 => ?_)
    have hqH115 := pH115.1.symm
    subst hqH115
    rcases pH115.2 with ⟨hvH115, hcH115⟩ | ⟨hvH115, hcH115⟩
    · subst hvH115
      refine W.eq (g2 := F0 m 34 ls [.int 1]) rfl ?_
      refine lv_if_eq (tgt := 45) hx hb dX10_off_34 (by decide) (fun c116 => ?_) (fun c116 => ?_)
      · have k117 := i_eq c116
        exfalso
        omega
      · have k117 := i_ne c116
        refine lv_aload_n hx hb dX10_off_37 rfl (lv_at hl 0 rfl) ?_
        refine lv_iload_n hx hb dX10_off_38 rfl (lv_at hl 1 rfl) ?_
        refine x_V (As := [.int x0]) (rest := []) C (f_X10_offOf l K G H101 (x0) hTH101 gb ⟨m102, m103, m104, m105, m106, m107, m108, m109, m110, m111⟩ ) yo_X10_offOf wM_X10_399 ⟨⟨by decide, by decide⟩, by decide, by decide⟩ (x_rv C hTH101 (ci := 10) rfl gb rg_112) rfl hl.1 rfl (Nat.le_of_ble_eq_true rfl) dX10_off_39 hSH115 (AE_sub (fun _ _ => rfl) (by decide) hSH115.1) (fun vH118 H118 locsH118 pH118 zH118 kH118 hSH118 => ?_)
        have hqH118 := pH118.1.symm
        subst hqH118
        obtain ⟨x119, hvH118, tx119⟩ := pH118.2
        subst hvH118
        refine W.eq (g2 := F0 m 42 ls [.int x119]) rfl ?_
        refine lv_goto (tgt := 46) hx hb dX10_off_42 (by decide) ?_
        exact x_iret C hQ dX10_off_46 hSH118 (by decide) (by decide) (⟨⟨x119, rfl, by omega⟩, G, fun _ _ => rfl, hTH101⟩)
    · subst hvH115
      refine W.eq (g2 := F0 m 34 ls [.int 0]) rfl ?_
      refine lv_if_eq (tgt := 45) hx hb dX10_off_34 (by decide) (fun c120 => ?_) (fun c120 => ?_)
      · have k121 := i_eq c120
        refine lv_iconst (v := (-1)) hx hb dX10_off_45 (by decide) ?_
        exact x_iret C hQ dX10_off_46 hSH115 (by decide) (by decide) (⟨⟨(-1), rfl, by omega⟩, G, fun _ _ => rfl, hTH101⟩)
      · have k121 := i_ne c120
        exfalso
        omega
  · have k114 := i_eq c113
    refine lv_aload_n hx hb dX10_off_10 rfl (lv_at hl 0 rfl) ?_
    refine lv_iconst (v := 1) hx hb dX10_off_11 (by decide) ?_
    refine x_V (As := [.int 1]) (rest := []) C (f_X10_offOf l K G H101 (1) hTH101 gb ⟨m102, m103, m104, m105, m106, m107, m108, m109, m110, m111⟩ ) yo_X10_offOf wM_X10_399 ⟨⟨by decide, by decide⟩, by decide, by decide⟩ (x_rv C hTH101 (ci := 10) rfl gb rg_112) rfl hl.1 rfl (Nat.le_of_ble_eq_true rfl) dX10_off_12 hSH101 (AE_sub (fun _ _ => rfl) (by decide) hSH101.1) (fun vH122 H122 locsH122 pH122 zH122 kH122 hSH122 => ?_)
    have hqH122 := pH122.1.symm
    subst hqH122
    obtain ⟨x123, hvH122, tx123⟩ := pH122.2
    subst hvH122
    refine W.eq (g2 := F0 m 15 ls [.int x123]) rfl ?_
    refine lv_aload_n hx hb dX10_off_15 rfl (lv_at hl 0 rfl) ?_
    refine lv_iconst (v := 0) hx hb dX10_off_16 (by decide) ?_
    refine x_V (As := [.int 0]) (rest := [.int x123]) C (f_X10_offOf l K G H101 (0) hTH101 gb ⟨m102, m103, m104, m105, m106, m107, m108, m109, m110, m111⟩ ) yo_X10_offOf wM_X10_399 ⟨⟨by decide, by decide⟩, by decide, by decide⟩ (x_rv C hTH101 (ci := 10) rfl gb rg_112) rfl hl.1 rfl (Nat.le_of_ble_eq_true rfl) dX10_off_17 hSH122 (AE_sub (fun _ _ => rfl) (by decide) hSH122.1) (fun vH124 H124 locsH124 pH124 zH124 kH124 hSH124 => ?_)
    have hqH124 := pH124.1.symm
    subst hqH124
    obtain ⟨x125, hvH124, tx125⟩ := pH124.2
    subst hvH124
    refine W.eq (g2 := F0 m 20 ls [.int x125, .int x123]) rfl ?_
    refine lv_icmp_ge (tgt := 27) hx hb dX10_off_20 (by decide) (fun c126 => ?_) (fun c126 => ?_)
    · have k127 := i_le c126
      refine lv_iconst (v := 0) hx hb dX10_off_27 (by decide) ?_
      exact x_iret C hQ dX10_off_28 hSH124 (by decide) (by decide) (⟨⟨0, rfl, by omega⟩, G, fun _ _ => rfl, hTH101⟩)
    · have k127 := i_nle c126
      exfalso
      omega

set_option maxHeartbeats 4000000 in
set_option maxRecDepth 100000 in
theorem f_X10_nights (l : Launch) (K : KE) (G : Nat → Option Nat) (H : Heap) {b : Nat} (x0 : Int32) (x1 : Int32) (hT : TY K G H) (gb : G b = some 112) (fx : FM K H b) : MX l K yX10_nights cX10_nights 5 (some .int) 1 23 0 0 [.ref b, .int x0, .int x1] H (AE G [112] H.size) (fun v H1 => (∃ r : Int32, v = some (.int r) ∧ ((x0.toInt = -1 ∧ r.toInt = 0) ∨ (x0.toInt ≠ -1 ∧ r.toInt = -2))) ∧ ∃ G1 : Nat → Option Nat, (∀ q, q < H.size → G1 q = G q) ∧ TY K G1 H1) := by
  refine MX.of (by decide +kernel) (Nat.le_of_ble_eq_true rfl) ?_
  intro p e s m below meth c ls Q C hH hl hQ
  subst hH
  have C : CX p K s m _ meth c RX10 cX10_nights 5 (some .int) "nights" := C
  obtain ⟨hx, hb, hml, hown, hts, hKT, hr, hlocks, hnm⟩ := id C
  have hl : lv_has ls 5 [(0, .ref b), (1, .int x0), (2, .int x1)] := hl
  have hS : va_S (AE G [112] s.heap.size) s.heap s.heap [] := va_S.rf
  have n_m2 : ((-2) : Int32).toInt = -2 := rfl
  have n_m1 : ((-1) : Int32).toInt = -1 := rfl
  have n_0 : (0 : Int32).toInt = 0 := rfl
  have n_1 : (1 : Int32).toInt = 1 := rfl
  obtain ⟨f1, f2, f3, f4, f5, f6, f7, f8, f9, f10⟩ := fx
  refine lv_aload_n hx hb dX10_nights_0 rfl (lv_at hl 0 rfl) ?_
  refine lv_iconst (v := 0) hx hb dX10_nights_1 (by decide) ?_
  refine x_put C hT hS (ci := 10) (k := 0) (v := .int 0) (ty0 := tyX10) rfl inX10 tyX10_ok nmX10 (by decide) rfl wF_X10_167 gb rg_112 rfl rfl (okI (by have := i_rng (0 : Int32); omega) (by have := i_rng (0 : Int32); omega)) rfl rfl (AE_in gb (by decide)) dX10_nights_2 (fun H101 locsH101 hTH101 hSH101 wH101 => ?_)
  have m102 := (Wr.neI wH101 (Or.inr (x_apart hKT hts inX10 tyX10 tyX10_ok nmX10 rfl 1 0 (by decide) (by decide) (by decide)))).trans f1
  have m103 := (Wr.neI wH101 (Or.inr (x_apart hKT hts inX10 tyX10 tyX10_ok nmX10 rfl 2 0 (by decide) (by decide) (by decide)))).trans f2
  have m104 := (Wr.neI wH101 (Or.inr (x_apart hKT hts inX10 tyX10 tyX10_ok nmX10 rfl 3 0 (by decide) (by decide) (by decide)))).trans f3
  have m105 := (Wr.neI wH101 (Or.inr (x_apart hKT hts inX10 tyX10 tyX10_ok nmX10 rfl 18 0 (by decide) (by decide) (by decide)))).trans f4
  have m106 := (Wr.neI wH101 (Or.inr (x_apart hKT hts inX10 tyX10 tyX10_ok nmX10 rfl 41 0 (by decide) (by decide) (by decide)))).trans f5
  have m107 := (Wr.neI wH101 (Or.inr (x_apart hKT hts inX10 tyX10 tyX10_ok nmX10 rfl 42 0 (by decide) (by decide) (by decide)))).trans f6
  have m108 := (Wr.neI wH101 (Or.inr (x_apart hKT hts inX10 tyX10 tyX10_ok nmX10 rfl 59 0 (by decide) (by decide) (by decide)))).trans f7
  have m109 := (Wr.neI wH101 (Or.inr (x_apart hKT hts inX10 tyX10 tyX10_ok nmX10 rfl 62 0 (by decide) (by decide) (by decide)))).trans f8
  have m110 := (Wr.neI wH101 (Or.inr (x_apart hKT hts inX10 tyX10 tyX10_ok nmX10 rfl 65 0 (by decide) (by decide) (by decide)))).trans f9
  have m111 := (Wr.neI wH101 (Or.inr (x_apart hKT hts inX10 tyX10 tyX10_ok nmX10 rfl 70 0 (by decide) (by decide) (by decide)))).trans f10
  have m112 := Wr.I wH101
  refine lv_iload_n hx hb dX10_nights_5 rfl (lv_at hl 1 rfl) ?_
  refine lv_iconst (v := (-1)) hx hb dX10_nights_6 (by decide) ?_
  refine lv_icmp_ne (tgt := 41) hx hb dX10_nights_7 (by decide) (fun c113 => ?_) (fun c113 => ?_)
  · have k114 := i_ne c113
    refine lv_aload_n hx hb dX10_nights_41 rfl (lv_at hl 0 rfl) ?_
    refine lv_iload_n hx hb dX10_nights_42 rfl (lv_at hl 1 rfl) ?_
    refine lv_iconst (v := 0) hx hb dX10_nights_43 (by decide) ?_
    refine lv_aload_n hx hb dX10_nights_44 rfl (lv_at hl 0 rfl) ?_
    refine x_gi C hTH101 (ci := 10) (k := 59) rfl inX10 (by decide) wF_X10_438 gb rg_112 rfl dX10_nights_45 (fun x115 ex115 bx115 => ?_)
    have ux115 : x115 = 0 := ex115.trans m108
    subst ux115
    refine lv_iconst (v := 1) hx hb dX10_nights_48 (by decide) ?_
    refine lv_isub hx hb dX10_nights_49 ?_
    refine lv_topi (fun x116 ex116 => ?_)
    have tx116 : x116 = (-1) := by rw [ex116]; rfl
    rw [tx116] at ex116 ⊢
    clear tx116 ex116
    refine x_V (As := [.int x0, .int 0, .int (-1)]) (rest := []) C (c_X10_isIn l K G H101 (x0) (0) ((-1)) hTH101 gb) yo_X10_isIn wM_X10_177 ⟨⟨by decide, by decide⟩, by decide, by decide⟩ (x_rv C hTH101 (ci := 10) rfl gb rg_112) rfl hl.1 rfl (Nat.le_of_ble_eq_true rfl) dX10_nights_50 hSH101 (AE_sub (fun _ _ => rfl) (by decide) hSH101.1) (fun vH117 H117 locsH117 pH117 zH117 kH117 hSH117 => ?_)
    have hqH117 := pH117.1.symm
    subst hqH117
    rcases pH117.2 with ⟨hvH117, hcH117⟩ | ⟨hvH117, hcH117⟩
    · subst hvH117
      refine W.eq (g2 := F0 m 53 ls [.int 1]) rfl ?_
      exfalso
      omega
    · subst hvH117
      refine W.eq (g2 := F0 m 53 ls [.int 0]) rfl ?_
      refine lv_if_ne (tgt := 59) hx hb dX10_nights_53 (by decide) (fun c118 => ?_) (fun c118 => ?_)
      · have k119 := i_ne c118
        exfalso
        omega
      · have k119 := i_eq c118
        refine lv_bipush (v := (-2)) hx hb dX10_nights_56 (by decide) ?_
        exact x_iret C hQ dX10_nights_58 hSH117 (by decide) (by decide) (⟨⟨(-2), rfl, by omega⟩, G, fun _ _ => rfl, hTH101⟩)
  · have k114 := i_eq c113
    refine lv_iconst (v := 0) hx hb dX10_nights_10 (by decide) ?_
    refine lv_istore_n (lv' := [(3, .int 0), (0, .ref b), (1, .int x0), (2, .int x1)]) hx hb dX10_nights_11 rfl hl (by decide) rfl (fun ls120 hl121 => ?_)
    refine lv_iconst (v := 0) hx hb dX10_nights_12 (by decide) ?_
    refine lv_istore (lv' := [(4, .int 0), (3, .int 0), (0, .ref b), (1, .int x0), (2, .int x1)]) hx hb dX10_nights_13 hl121 (by decide) rfl (fun ls122 hl123 => ?_)
    refine lv_iload hx hb dX10_nights_15 (lv_at hl123 0 rfl) ?_
    refine lv_aload_n hx hb dX10_nights_17 rfl (lv_at hl123 2 rfl) ?_
    refine x_gi C hTH101 (ci := 10) (k := 59) rfl inX10 (by decide) wF_X10_438 gb rg_112 rfl dX10_nights_18 (fun x124 ex124 bx124 => ?_)
    have ux124 : x124 = 0 := ex124.trans m108
    subst ux124
    refine lv_icmp_ge (tgt := 39) hx hb dX10_nights_21 (by decide) (fun c125 => ?_) (fun c125 => ?_)
    · have k126 := i_le c125
      refine lv_iload_n hx hb dX10_nights_39 rfl (lv_at hl123 1 rfl) ?_
      exact x_iret C hQ dX10_nights_40 hSH101 (by decide) (by decide) (⟨⟨0, rfl, by omega⟩, G, fun _ _ => rfl, hTH101⟩)
    · have k126 := i_nle c125
      exfalso
      omega

set_option maxHeartbeats 4000000 in
set_option maxRecDepth 100000 in
theorem f_X10_look (l : Launch) (K : KE) (G : Nat → Option Nat) (H : Heap) {b : Nat} (x0 : Int32) (hT : TY K G H) (gb : G b = some 112) (fx : FM K H b) : MX l K yX10_look cX10_look 2 (some .int) 1 23 0 0 [.ref b, .int x0] H (AE G [112] H.size) (fun v H1 => (∃ r : Int32, v = some (.int r) ∧ (((0 ≤ x0.toInt ∧ x0.toInt ≤ 3 ∨ 5 ≤ x0.toInt ∧ x0.toInt ≤ 7) ∧ r.toInt = 0) ∨ (x0.toInt = 4 ∧ r.toInt = 10) ∨ (¬ (0 ≤ x0.toInt ∧ x0.toInt ≤ 7) ∧ r.toInt = -1))) ∧ ∃ G1 : Nat → Option Nat, (∀ q, q < H.size → G1 q = G q) ∧ TY K G1 H1) := by
  refine MX.of (by decide +kernel) (Nat.le_of_ble_eq_true rfl) ?_
  intro p e s m below meth c ls Q C hH hl hQ
  subst hH
  have C : CX p K s m _ meth c RX10 cX10_look 2 (some .int) "look" := C
  obtain ⟨hx, hb, hml, hown, hts, hKT, hr, hlocks, hnm⟩ := id C
  have hl : lv_has ls 2 [(0, .ref b), (1, .int x0)] := hl
  have hS : va_S (AE G [112] s.heap.size) s.heap s.heap [] := va_S.rf
  have n_m1 : ((-1) : Int32).toInt = -1 := rfl
  have n_0 : (0 : Int32).toInt = 0 := rfl
  have n_1 : (1 : Int32).toInt = 1 := rfl
  have n_2 : (2 : Int32).toInt = 2 := rfl
  have n_3 : (3 : Int32).toInt = 3 := rfl
  have n_4 : (4 : Int32).toInt = 4 := rfl
  have n_5 : (5 : Int32).toInt = 5 := rfl
  have n_6 : (6 : Int32).toInt = 6 := rfl
  have n_7 : (7 : Int32).toInt = 7 := rfl
  have n_10 : (10 : Int32).toInt = 10 := rfl
  obtain ⟨f1, f2, f3, f4, f5, f6, f7, f8, f9, f10⟩ := fx
  refine lv_aload_n hx hb dX10_look_0 rfl (lv_at hl 0 rfl) ?_
  refine lv_iconst (v := 0) hx hb dX10_look_1 (by decide) ?_
  refine x_put C hT hS (ci := 10) (k := 0) (v := .int 0) (ty0 := tyX10) rfl inX10 tyX10_ok nmX10 (by decide) rfl wF_X10_167 gb rg_112 rfl rfl (okI (by have := i_rng (0 : Int32); omega) (by have := i_rng (0 : Int32); omega)) rfl rfl (AE_in gb (by decide)) dX10_look_2 (fun H101 locsH101 hTH101 hSH101 wH101 => ?_)
  have m102 := (Wr.neI wH101 (Or.inr (x_apart hKT hts inX10 tyX10 tyX10_ok nmX10 rfl 1 0 (by decide) (by decide) (by decide)))).trans f1
  have m103 := (Wr.neI wH101 (Or.inr (x_apart hKT hts inX10 tyX10 tyX10_ok nmX10 rfl 2 0 (by decide) (by decide) (by decide)))).trans f2
  have m104 := (Wr.neI wH101 (Or.inr (x_apart hKT hts inX10 tyX10 tyX10_ok nmX10 rfl 3 0 (by decide) (by decide) (by decide)))).trans f3
  have m105 := (Wr.neI wH101 (Or.inr (x_apart hKT hts inX10 tyX10 tyX10_ok nmX10 rfl 18 0 (by decide) (by decide) (by decide)))).trans f4
  have m106 := (Wr.neI wH101 (Or.inr (x_apart hKT hts inX10 tyX10 tyX10_ok nmX10 rfl 41 0 (by decide) (by decide) (by decide)))).trans f5
  have m107 := (Wr.neI wH101 (Or.inr (x_apart hKT hts inX10 tyX10 tyX10_ok nmX10 rfl 42 0 (by decide) (by decide) (by decide)))).trans f6
  have m108 := (Wr.neI wH101 (Or.inr (x_apart hKT hts inX10 tyX10 tyX10_ok nmX10 rfl 59 0 (by decide) (by decide) (by decide)))).trans f7
  have m109 := (Wr.neI wH101 (Or.inr (x_apart hKT hts inX10 tyX10 tyX10_ok nmX10 rfl 62 0 (by decide) (by decide) (by decide)))).trans f8
  have m110 := (Wr.neI wH101 (Or.inr (x_apart hKT hts inX10 tyX10 tyX10_ok nmX10 rfl 65 0 (by decide) (by decide) (by decide)))).trans f9
  have m111 := (Wr.neI wH101 (Or.inr (x_apart hKT hts inX10 tyX10 tyX10_ok nmX10 rfl 70 0 (by decide) (by decide) (by decide)))).trans f10
  have m112 := Wr.I wH101
  refine lv_iload_n hx hb dX10_look_5 rfl (lv_at hl 1 rfl) ?_
  refine lv_if_ne (tgt := 14) hx hb dX10_look_6 (by decide) (fun c113 => ?_) (fun c113 => ?_)
  · have k114 := i_ne c113
    refine lv_iload_n hx hb dX10_look_14 rfl (lv_at hl 1 rfl) ?_
    refine lv_iconst (v := 1) hx hb dX10_look_15 (by decide) ?_
    refine lv_icmp_ne (tgt := 24) hx hb dX10_look_16 (by decide) (fun c115 => ?_) (fun c115 => ?_)
    · have k116 := i_ne c115
      refine lv_iload_n hx hb dX10_look_24 rfl (lv_at hl 1 rfl) ?_
      refine lv_iconst (v := 2) hx hb dX10_look_25 (by decide) ?_
      refine lv_icmp_ne (tgt := 34) hx hb dX10_look_26 (by decide) (fun c117 => ?_) (fun c117 => ?_)
      · have k118 := i_ne c117
        refine lv_iload_n hx hb dX10_look_34 rfl (lv_at hl 1 rfl) ?_
        refine lv_iconst (v := 3) hx hb dX10_look_35 (by decide) ?_
        refine lv_icmp_ne (tgt := 44) hx hb dX10_look_36 (by decide) (fun c119 => ?_) (fun c119 => ?_)
        · have k120 := i_ne c119
          refine lv_iload_n hx hb dX10_look_44 rfl (lv_at hl 1 rfl) ?_
          refine lv_iconst (v := 4) hx hb dX10_look_45 (by decide) ?_
          refine lv_icmp_ne (tgt := 54) hx hb dX10_look_46 (by decide) (fun c121 => ?_) (fun c121 => ?_)
          · have k122 := i_ne c121
            refine lv_iload_n hx hb dX10_look_54 rfl (lv_at hl 1 rfl) ?_
            refine lv_iconst (v := 5) hx hb dX10_look_55 (by decide) ?_
            refine lv_icmp_ne (tgt := 64) hx hb dX10_look_56 (by decide) (fun c123 => ?_) (fun c123 => ?_)
            · have k124 := i_ne c123
              refine lv_iload_n hx hb dX10_look_64 rfl (lv_at hl 1 rfl) ?_
              refine lv_bipush (v := 6) hx hb dX10_look_65 (by decide) ?_
              refine lv_icmp_eq (tgt := 76) hx hb dX10_look_67 (by decide) (fun c125 => ?_) (fun c125 => ?_)
              · have k126 := i_eq c125
                refine lv_aload_n hx hb dX10_look_76 rfl (lv_at hl 0 rfl) ?_
                refine lv_iload_n hx hb dX10_look_77 rfl (lv_at hl 1 rfl) ?_
                refine lv_bipush (v := 6) hx hb dX10_look_78 (by decide) ?_
                refine lv_icmp_ne (tgt := 87) hx hb dX10_look_80 (by decide) (fun c127 => ?_) (fun c127 => ?_)
                · have k128 := i_ne c127
                  exfalso
                  omega
                · have k128 := i_eq c127
                  refine lv_iconst (v := 1) hx hb dX10_look_83 (by decide) ?_
                  refine lv_goto (tgt := 88) hx hb dX10_look_84 (by decide) ?_
                  refine x_V (As := [.int 1]) (rest := []) C (f_X10_barsThat l K G H101 (1) hTH101 gb ⟨m102, m103, m104, m105, m106, m107, m108, m109, m110, m111⟩ ) yo_X10_barsThat wM_X10_488 ⟨⟨by decide, by decide⟩, by decide, by decide⟩ (x_rv C hTH101 (ci := 10) rfl gb rg_112) rfl hl.1 rfl (Nat.le_of_ble_eq_true rfl) dX10_look_88 hSH101 (AE_sub (fun _ _ => rfl) (by decide) hSH101.1) (fun vH129 H129 locsH129 pH129 zH129 kH129 hSH129 => ?_)
                  have hqH129 := pH129.1.symm
                  subst hqH129
                  obtain ⟨x130, hvH129, tx130⟩ := pH129.2
                  subst hvH129
                  refine W.eq (g2 := F0 m 91 ls [.int x130]) rfl ?_
                  refine lv_goto (tgt := 95) hx hb dX10_look_91 (by decide) ?_
                  exact x_iret C hQ dX10_look_95 hSH129 (by decide) (by decide) (⟨⟨x130, rfl, by omega⟩, G, fun _ _ => rfl, hTH101⟩)
              · have k126 := i_ne c125
                refine lv_iload_n hx hb dX10_look_70 rfl (lv_at hl 1 rfl) ?_
                refine lv_bipush (v := 7) hx hb dX10_look_71 (by decide) ?_
                refine lv_icmp_ne (tgt := 94) hx hb dX10_look_73 (by decide) (fun c131 => ?_) (fun c131 => ?_)
                · have k132 := i_ne c131
                  refine lv_iconst (v := (-1)) hx hb dX10_look_94 (by decide) ?_
                  exact x_iret C hQ dX10_look_95 hSH101 (by decide) (by decide) (⟨⟨(-1), rfl, by omega⟩, G, fun _ _ => rfl, hTH101⟩)
                · have k132 := i_eq c131
                  refine lv_aload_n hx hb dX10_look_76 rfl (lv_at hl 0 rfl) ?_
                  refine lv_iload_n hx hb dX10_look_77 rfl (lv_at hl 1 rfl) ?_
                  refine lv_bipush (v := 6) hx hb dX10_look_78 (by decide) ?_
                  refine lv_icmp_ne (tgt := 87) hx hb dX10_look_80 (by decide) (fun c133 => ?_) (fun c133 => ?_)
                  · have k134 := i_ne c133
                    refine lv_iconst (v := 0) hx hb dX10_look_87 (by decide) ?_
                    refine x_V (As := [.int 0]) (rest := []) C (f_X10_barsThat l K G H101 (0) hTH101 gb ⟨m102, m103, m104, m105, m106, m107, m108, m109, m110, m111⟩ ) yo_X10_barsThat wM_X10_488 ⟨⟨by decide, by decide⟩, by decide, by decide⟩ (x_rv C hTH101 (ci := 10) rfl gb rg_112) rfl hl.1 rfl (Nat.le_of_ble_eq_true rfl) dX10_look_88 hSH101 (AE_sub (fun _ _ => rfl) (by decide) hSH101.1) (fun vH135 H135 locsH135 pH135 zH135 kH135 hSH135 => ?_)
                    have hqH135 := pH135.1.symm
                    subst hqH135
                    obtain ⟨x136, hvH135, tx136⟩ := pH135.2
                    subst hvH135
                    refine W.eq (g2 := F0 m 91 ls [.int x136]) rfl ?_
                    refine lv_goto (tgt := 95) hx hb dX10_look_91 (by decide) ?_
                    exact x_iret C hQ dX10_look_95 hSH135 (by decide) (by decide) (⟨⟨x136, rfl, by omega⟩, G, fun _ _ => rfl, hTH101⟩)
                  · have k134 := i_eq c133
                    exfalso
                    omega
            · have k124 := i_eq c123
              refine lv_aload_n hx hb dX10_look_59 rfl (lv_at hl 0 rfl) ?_
              refine x_gi C hTH101 (ci := 10) (k := 2) rfl inX10 (by decide) wF_X10_322 gb rg_112 rfl dX10_look_60 (fun x137 ex137 bx137 => ?_)
              have ux137 : x137 = 0 := ex137.trans m103
              subst ux137
              exact x_iret C hQ dX10_look_63 hSH101 (by decide) (by decide) (⟨⟨0, rfl, by omega⟩, G, fun _ _ => rfl, hTH101⟩)
          · have k122 := i_eq c121
            refine lv_aload_n hx hb dX10_look_49 rfl (lv_at hl 0 rfl) ?_
            refine x_gi C hTH101 (ci := 10) (k := 3) rfl inX10 (by decide) wF_X10_7 gb rg_112 rfl dX10_look_50 (fun x138 ex138 bx138 => ?_)
            have ux138 : x138 = 10 := ex138.trans m104
            subst ux138
            exact x_iret C hQ dX10_look_53 hSH101 (by decide) (by decide) (⟨⟨10, rfl, by omega⟩, G, fun _ _ => rfl, hTH101⟩)
        · have k120 := i_eq c119
          refine lv_aload_n hx hb dX10_look_39 rfl (lv_at hl 0 rfl) ?_
          refine x_gi C hTH101 (ci := 10) (k := 65) rfl inX10 (by decide) wF_X10_458 gb rg_112 rfl dX10_look_40 (fun x139 ex139 bx139 => ?_)
          have ux139 : x139 = 0 := ex139.trans m110
          subst ux139
          exact x_iret C hQ dX10_look_43 hSH101 (by decide) (by decide) (⟨⟨0, rfl, by omega⟩, G, fun _ _ => rfl, hTH101⟩)
      · have k118 := i_eq c117
        refine lv_aload_n hx hb dX10_look_29 rfl (lv_at hl 0 rfl) ?_
        refine x_gi C hTH101 (ci := 10) (k := 62) rfl inX10 (by decide) wF_X10_455 gb rg_112 rfl dX10_look_30 (fun x140 ex140 bx140 => ?_)
        have ux140 : x140 = 0 := ex140.trans m109
        subst ux140
        exact x_iret C hQ dX10_look_33 hSH101 (by decide) (by decide) (⟨⟨0, rfl, by omega⟩, G, fun _ _ => rfl, hTH101⟩)
    · have k116 := i_eq c115
      refine lv_aload_n hx hb dX10_look_19 rfl (lv_at hl 0 rfl) ?_
      refine x_gi C hTH101 (ci := 10) (k := 59) rfl inX10 (by decide) wF_X10_438 gb rg_112 rfl dX10_look_20 (fun x141 ex141 bx141 => ?_)
      have ux141 : x141 = 0 := ex141.trans m108
      subst ux141
      exact x_iret C hQ dX10_look_23 hSH101 (by decide) (by decide) (⟨⟨0, rfl, by omega⟩, G, fun _ _ => rfl, hTH101⟩)
  · have k114 := i_eq c113
    refine lv_aload_n hx hb dX10_look_9 rfl (lv_at hl 0 rfl) ?_
    refine x_gi C hTH101 (ci := 10) (k := 1) rfl inX10 (by decide) wF_X10_170 gb rg_112 rfl dX10_look_10 (fun x142 ex142 bx142 => ?_)
    have ux142 : x142 = 0 := ex142.trans m102
    subst ux142
    exact x_iret C hQ dX10_look_13 hSH101 (by decide) (by decide) (⟨⟨0, rfl, by omega⟩, G, fun _ _ => rfl, hTH101⟩)

set_option maxHeartbeats 4000000 in
set_option maxRecDepth 100000 in
theorem f_X5_goOn (l : Launch) (K : KE) (G : Nat → Option Nat) (H : Heap) {a w : Nat} (hT : TY K G H) (ga : G a = some 104) (gw : G w = some 0) (h1 : fI H w (K.1.2 8 13) = 0) (h2 : fI H a (K.1.2 5 3) = -1) : MX l K yX5_goOn cX5_goOn 8 none 1 40 0 0 [.ref a, .ref w, .int 0, .int 0, .int 0] H (AE G [104, 105] H.size) (fun v H1 => v = none ∧ TY K G H1 ∧ fI H1 a (K.1.2 5 3) = 0) := by
  refine MX.of (by decide +kernel) (Nat.le_of_ble_eq_true rfl) ?_
  intro p e s m below meth c ls Q C hH hl hQ
  subst hH
  have C : CX p K s m _ meth c RX5 cX5_goOn 8 none "goOn" := C
  obtain ⟨hx, hb, hml, hown, hts, hKT, hr, hlocks, hnm⟩ := id C
  have hl : lv_has ls 8 [(0, .ref a), (1, .ref w), (2, .int 0), (3, .int 0), (4, .int 0)] := hl
  have hS : va_S (AE G [104, 105] s.heap.size) s.heap s.heap [] := va_S.rf
  have n_m1 : ((-1) : Int32).toInt = -1 := rfl
  have n_0 : (0 : Int32).toInt = 0 := rfl
  have n_8 : (8 : Int32).toInt = 8 := rfl
  refine lv_iload_n hx hb dX5_goOn_0 rfl (lv_at hl 2 rfl) ?_
  refine lv_aload_n hx hb dX5_goOn_1 rfl (lv_at hl 1 rfl) ?_
  refine x_gi C hT (ci := 8) (k := 13) rfl inX8 (by decide) wF_X5_38 gw rg_0 rfl dX5_goOn_2 (fun x101 ex101 bx101 => ?_)
  have ux101 : x101 = 0 := ex101.trans h1
  subst ux101
  refine lv_icmp_ge (tgt := 14) hx hb dX5_goOn_5 (by decide) (fun c102 => ?_) (fun c102 => ?_)
  · have k103 := i_le c102
    refine lv_aload_n hx hb dX5_goOn_14 rfl (lv_at hl 0 rfl) ?_
    refine x_gi C hT (ci := 5) (k := 3) rfl inX5 (by decide) wF_X5_27 ga rg_104 rfl dX5_goOn_15 (fun x104 ex104 bx104 => ?_)
    have ux104 : x104 = (-1) := ex104.trans h2
    subst ux104
    refine lv_iconst (v := (-1)) hx hb dX5_goOn_18 (by decide) ?_
    refine lv_icmp_eq (tgt := 31) hx hb dX5_goOn_19 (by decide) (fun c105 => ?_) (fun c105 => ?_)
    · have k106 := i_eq c105
      refine lv_aload_n hx hb dX5_goOn_31 rfl (lv_at hl 0 rfl) ?_
      refine lv_iload hx hb dX5_goOn_32 (lv_at hl 4 rfl) ?_
      refine x_put C hT hS (ci := 5) (k := 3) (v := .int 0) (ty0 := tyX5) rfl inX5 tyX5_ok nmX5 (by decide) rfl wF_X5_27 ga rg_104 rfl rfl (okI (by have := i_rng (0 : Int32); omega) (by have := i_rng (0 : Int32); omega)) rfl rfl (AE_in ga (by decide)) dX5_goOn_34 (fun H107 locsH107 hTH107 hSH107 wH107 => ?_)
      have m108 := (Wr.neI wH107 (Or.inl (G_ne gw ga (by decide)))).trans h1
      have m110 := Wr.I wH107
      refine lv_aload_n hx hb dX5_goOn_37 rfl (lv_at hl 0 rfl) ?_
      refine x_gr C hTH107 (ci := 5) (k := 1) rfl inX5 (by decide) wF_X5_15 ga rg_104 rfl dX5_goOn_38 (fun q111 eq111 gq111 => ?_)
      refine lv_iconst (v := 0) hx hb dX5_goOn_41 (by decide) ?_
      refine lv_aload_n hx hb dX5_goOn_42 rfl (lv_at hl 0 rfl) ?_
      refine x_gr C hTH107 (ci := 5) (k := 0) rfl inX5 (by decide) wF_X5_9 ga rg_104 rfl dX5_goOn_43 (fun q112 eq112 gq112 => ?_)
      refine lv_iconst (v := 0) hx hb dX5_goOn_46 (by decide) ?_
      refine lv_bipush (v := 8) hx hb dX5_goOn_47 (by decide) ?_
      refine x_copy C hTH107 hSH107 wM_X5_43 wNT_arraycopy wST_arraycopy wIN_J10 gq111 gq112 rg_106 rg_105 (by decide) (by omega) (by omega) (by omega) (by show _ ≤ ((8 : Nat) : Int); omega) (by show _ ≤ ((8 : Nat) : Int); omega) (AE_in gq112 (by decide)) hl.1 (by decide) dX5_goOn_49 (fun H113 locsH113 hTH113 hSH113 zH113 oH113 vH113 wH113 => ?_)
      have m114 := (fI_kept (oH113 _ (G_ne gw gq112 (by decide)))).trans m108
      have m115 := (fI_kept (oH113 _ (G_ne ga gq112 (by decide)))).trans m110
      have m116 := (eq111).trans (fR_kept (oH113 _ (G_ne ga gq112 (by decide)))).symm
      have m117 := (eq112).trans (fR_kept (oH113 _ (G_ne ga gq112 (by decide)))).symm
      exact x_vret C hQ dX5_goOn_52 hSH113 (by decide) (by decide) (⟨rfl, hTH113, m115⟩)
    · have k106 := i_ne c105
      exfalso
      omega
  · have k103 := i_nle c102
    exfalso
    omega

set_option maxHeartbeats 4000000 in
set_option maxRecDepth 100000 in
theorem f_X5_find (l : Launch) (K : KE) (G : Nat → Option Nat) (H : Heap) {a w : Nat} (x2 : Int32) (hT : TY K G H) (ga : G a = some 104) (gw : G w = some 0) (h1 : fI H w (K.1.2 8 13) = 0) : MX l K yX5_find cX5_find 3 (some .int) 2 67 0 0 [.ref a, .ref w, .int x2] H (AE G [104, 105, 107] H.size) (fun v H1 => v = some (.int 0) ∧ TY K G H1) := by
  refine MX.of (by decide +kernel) (Nat.le_of_ble_eq_true rfl) ?_
  intro p e s m below meth c ls Q C hH hl hQ
  subst hH
  have C : CX p K s m _ meth c RX5 cX5_find 3 (some .int) "find" := C
  obtain ⟨hx, hb, hml, hown, hts, hKT, hr, hlocks, hnm⟩ := id C
  have hl : lv_has ls 3 [(0, .ref a), (1, .ref w), (2, .int x2)] := hl
  have hS : va_S (AE G [104, 105, 107] s.heap.size) s.heap s.heap [] := va_S.rf
  have n_m1 : ((-1) : Int32).toInt = -1 := rfl
  have n_0 : (0 : Int32).toInt = 0 := rfl
  refine lv_aload_n hx hb dX5_find_0 rfl (lv_at hl 0 rfl) ?_
  refine x_gr C hT (ci := 5) (k := 2) rfl inX5 (by decide) wF_X5_18 ga rg_104 rfl dX5_find_1 (fun q101 eq101 gq101 => ?_)
  refine lv_iconst (v := 0) hx hb dX5_find_4 (by decide) ?_
  refine x_S (As := [.ref q101, .int 0]) (rest := []) C (c_fill l K G s.heap (0) hT gq101 rg_107 (by decide) ⟨by have := i_rng (0 : Int32); omega, by have := i_rng (0 : Int32); omega⟩) yo_J7_fill_53178 wM_X5_21 ⟨⟨by decide, by decide⟩, by decide, by decide⟩ rfl hl.1 rfl (Nat.le_of_ble_eq_true rfl) dX5_find_5 hS (AE_sub (fun _ _ => rfl) (by decide) hS.1) (fun vH102 H102 locsH102 pH102 zH102 kH102 hSH102 => ?_)
  have hTH102 := pH102.2.1
  have hvH102 := pH102.1
  subst hvH102
  have m103 := (fI_kept (x_lt hT kH102 gw (by decide))).trans h1
  have m104 := (eq101).trans (fR_kept (x_lt hT kH102 ga (by decide))).symm
  refine W.eq (g2 := F0 m 8 ls []) rfl ?_
  refine lv_aload_n hx hb dX5_find_8 rfl (lv_at hl 0 rfl) ?_
  refine lv_iconst (v := (-1)) hx hb dX5_find_9 (by decide) ?_
  refine x_put C hTH102 hSH102 (ci := 5) (k := 3) (v := .int (-1)) (ty0 := tyX5) rfl inX5 tyX5_ok nmX5 (by decide) rfl wF_X5_27 ga rg_104 rfl rfl (okI (by have := i_rng ((-1) : Int32); omega) (by have := i_rng ((-1) : Int32); omega)) rfl rfl (AE_in ga (by decide)) dX5_find_10 (fun H105 locsH105 hTH105 hSH105 wH105 => ?_)
  have m106 := (Wr.neI wH105 (Or.inl (G_ne gw ga (by decide)))).trans m103
  have m107 := m104.trans (Wr.neR wH105 (Or.inr (x_apart hKT hts inX5 tyX5 tyX5_ok nmX5 rfl 2 3 (by decide) (by decide) (by decide)))).symm
  have m108 := Wr.I wH105
  refine lv_aload_n hx hb dX5_find_13 rfl (lv_at hl 0 rfl) ?_
  refine lv_iload_n hx hb dX5_find_14 rfl (lv_at hl 2 rfl) ?_
  refine x_put C hTH105 hSH105 (ci := 5) (k := 4) (v := .int x2) (ty0 := tyX5) rfl inX5 tyX5_ok nmX5 (by decide) rfl wF_X5_31 ga rg_104 rfl rfl (okI (by have := i_rng x2; omega) (by have := i_rng x2; omega)) rfl rfl (AE_in ga (by decide)) dX5_find_15 (fun H109 locsH109 hTH109 hSH109 wH109 => ?_)
  have m110 := (Wr.neI wH109 (Or.inl (G_ne gw ga (by decide)))).trans m106
  have m111 := m107.trans (Wr.neR wH109 (Or.inr (x_apart hKT hts inX5 tyX5 tyX5_ok nmX5 rfl 2 4 (by decide) (by decide) (by decide)))).symm
  have m112 := (Wr.neI wH109 (Or.inr (x_apart hKT hts inX5 tyX5 tyX5_ok nmX5 rfl 3 4 (by decide) (by decide) (by decide)))).trans m108
  have m113 := Wr.I wH109
  have m113 := m113.symm
  refine lv_aload_n hx hb dX5_find_18 rfl (lv_at hl 0 rfl) ?_
  refine lv_aload_n hx hb dX5_find_19 rfl (lv_at hl 1 rfl) ?_
  refine lv_iconst (v := 0) hx hb dX5_find_20 (by decide) ?_
  refine lv_iconst (v := 0) hx hb dX5_find_21 (by decide) ?_
  refine lv_iconst (v := 0) hx hb dX5_find_22 (by decide) ?_
  refine x_V (As := [.ref w, .int 0, .int 0, .int 0]) (rest := []) C (f_X5_goOn l K G H109 hTH109 ga gw m110 m112) yo_X5_goOn wM_X5_34 ⟨⟨by decide, by decide⟩, by decide, by decide⟩ (x_rv C hTH109 (ci := 5) rfl ga rg_104) rfl hl.1 rfl (Nat.le_of_ble_eq_true rfl) dX5_find_23 hSH109 (AE_sub (fun _ _ => rfl) (by decide) hSH109.1) (fun vH114 H114 locsH114 pH114 zH114 kH114 hSH114 => ?_)
  have hTH114 := pH114.2.1
  have hvH114 := pH114.1
  subst hvH114
  have hkH114 := pH114.2.2
  have m115 := (fI_kept (x_lt hTH109 kH114 gw (by decide))).trans m110
  refine W.eq (g2 := F0 m 26 ls []) rfl ?_
  refine lv_aload_n hx hb dX5_find_26 rfl (lv_at hl 0 rfl) ?_
  refine x_gi C hTH114 (ci := 5) (k := 3) rfl inX5 (by decide) wF_X5_27 ga rg_104 rfl dX5_find_27 (fun x116 ex116 bx116 => ?_)
  have ux116 : x116 = 0 := ex116.trans hkH114
  subst ux116
  exact x_iret C hQ dX5_find_30 hSH114 (by decide) (by decide) (⟨rfl, hTH114⟩)

set_option maxHeartbeats 4000000 in
set_option maxRecDepth 100000 in
theorem f_X9_set (l : Launch) (K : KE) (G : Nat → Option Nat) (H : Heap) {a w : Nat} (x0 : Int32) (x1 : Int32) (hT : TY K G H) (ga : G a = some 68) (gw : G w = some 0) (fx : FX K H a w) : MX l K yX9_set cX9_set 4 (some .int) 3 89 0 0 [.ref a, .int x0, .int x1] H (AE G [104, 105, 107] H.size) (fun v H1 => (∃ r : Int32, v = some (.int r) ∧ (((0 ≤ x0.toInt ∧ x0.toInt ≤ 99 ∧ x1.toInt = 0) ∧ r.toInt = 0) ∨ (¬ (0 ≤ x0.toInt ∧ x0.toInt ≤ 99 ∧ x1.toInt = 0) ∧ r.toInt = -1))) ∧ ∃ G1 : Nat → Option Nat, (∀ q, q < H.size → G1 q = G q) ∧ TY K G1 H1) := by
  refine MX.of (by decide +kernel) (Nat.le_of_ble_eq_true rfl) ?_
  intro p e s m below meth c ls Q C hH hl hQ
  subst hH
  have C : CX p K s m _ meth c RX9 cX9_set 4 (some .int) "set" := C
  obtain ⟨hx, hb, hml, hown, hts, hKT, hr, hlocks, hnm⟩ := id C
  have hl : lv_has ls 4 [(0, .ref a), (1, .int x0), (2, .int x1)] := hl
  have hS : va_S (AE G [104, 105, 107] s.heap.size) s.heap s.heap [] := va_S.rf
  have n_m1 : ((-1) : Int32).toInt = -1 := rfl
  have n_0 : (0 : Int32).toInt = 0 := rfl
  have n_1 : (1 : Int32).toInt = 1 := rfl
  have n_99 : (99 : Int32).toInt = 99 := rfl
  obtain ⟨f0, f1, f2, f3, f4, f5, f6, f7, f8, f9, f10⟩ := fx
  refine lv_iload_n hx hb dX9_set_0 rfl (lv_at hl 1 rfl) ?_
  refine lv_iconst (v := 0) hx hb dX9_set_1 (by decide) ?_
  refine lv_bipush (v := 99) hx hb dX9_set_2 (by decide) ?_
  refine x_S (As := [.int x0, .int 0, .int 99]) (rest := []) C (c_X9_within l K G s.heap (x0) (0) (99) hT) yo_X9_within wM_X9_89 ⟨⟨by decide, by decide⟩, by decide, by decide⟩ rfl hl.1 rfl (Nat.le_of_ble_eq_true rfl) dX9_set_4 hS (AE_sub (fun _ _ => rfl) (by decide) hS.1) (fun vH101 H101 locsH101 pH101 zH101 kH101 hSH101 => ?_)
  have hqH101 := pH101.1.symm
  subst hqH101
  rcases pH101.2 with ⟨hvH101, hcH101⟩ | ⟨hvH101, hcH101⟩
  · subst hvH101
    refine W.eq (g2 := F0 m 7 ls [.int 1]) rfl ?_
    refine lv_if_eq (tgt := 25) hx hb dX9_set_7 (by decide) (fun c102 => ?_) (fun c102 => ?_)
    · have k103 := i_eq c102
      exfalso
      omega
    · have k103 := i_ne c102
      refine lv_iload_n hx hb dX9_set_10 rfl (lv_at hl 2 rfl) ?_
      refine lv_iconst (v := 0) hx hb dX9_set_11 (by decide) ?_
      refine lv_aload_n hx hb dX9_set_12 rfl (lv_at hl 0 rfl) ?_
      refine x_gr C hT (ci := 9) (k := 0) rfl inX9 (by decide) wF_X9_12 ga rg_68 rfl dX9_set_13 (fun q104 eq104 gq104 => ?_)
      have uq104 : w = q104 := (f0).trans eq104.symm
      subst uq104
      refine x_gi C hT (ci := 8) (k := 13) rfl inX8 (by decide) wF_X9_317 gw rg_0 rfl dX9_set_16 (fun x105 ex105 bx105 => ?_)
      have ux105 : x105 = 0 := ex105.trans f9
      subst ux105
      refine x_S (As := [.int x1, .int 0, .int 0]) (rest := []) C (c_X9_within l K G s.heap (x1) (0) (0) hT) yo_X9_within wM_X9_89 ⟨⟨by decide, by decide⟩, by decide, by decide⟩ rfl hl.1 rfl (Nat.le_of_ble_eq_true rfl) dX9_set_19 hSH101 (AE_sub (fun _ _ => rfl) (by decide) hSH101.1) (fun vH106 H106 locsH106 pH106 zH106 kH106 hSH106 => ?_)
      have hqH106 := pH106.1.symm
      subst hqH106
      rcases pH106.2 with ⟨hvH106, hcH106⟩ | ⟨hvH106, hcH106⟩
      · subst hvH106
        refine W.eq (g2 := F0 m 22 ls [.int 1]) rfl ?_
        refine lv_if_ne (tgt := 27) hx hb dX9_set_22 (by decide) (fun c107 => ?_) (fun c107 => ?_)
        · have k108 := i_ne c107
          refine lv_aload_n hx hb dX9_set_27 rfl (lv_at hl 0 rfl) ?_
          refine x_gr C hT (ci := 9) (k := 8) rfl inX9 (by decide) wF_X9_51 ga rg_68 rfl dX9_set_28 (fun q109 eq109 gq109 => ?_)
          refine lv_aload_n hx hb dX9_set_31 rfl (lv_at hl 0 rfl) ?_
          refine x_gr C hT (ci := 9) (k := 0) rfl inX9 (by decide) wF_X9_12 ga rg_68 rfl dX9_set_32 (fun q110 eq110 gq110 => ?_)
          have uq110 : w = q110 := (f0).trans eq110.symm
          subst uq110
          refine lv_iload_n hx hb dX9_set_35 rfl (lv_at hl 1 rfl) ?_
          refine x_V (As := [.ref w, .int x0]) (rest := []) C (f_X5_find l K G s.heap (x0) hT gq109 gw f9) yo_X5_find wM_X9_335 ⟨⟨by decide, by decide⟩, by decide, by decide⟩ (x_rv C hT (ci := 5) rfl gq109 rg_104) rfl hl.1 rfl (Nat.le_of_ble_eq_true rfl) dX9_set_36 hSH106 (AE_sub (fun _ _ => rfl) (by decide) hSH106.1) (fun vH111 H111 locsH111 pH111 zH111 kH111 hSH111 => ?_)
          have hTH111 := pH111.2
          have hvH111 := pH111.1
          subst hvH111
          have m112 := (f0).trans (fR_kept (x_lt hT kH111 ga (by decide))).symm
          have m113 := (fV_kept (x_lt hT kH111 ga (by decide))).trans f1
          have m114 := (fI_kept (x_lt hT kH111 ga (by decide))).trans f2
          have m115 := (fI_kept (x_lt hT kH111 gw (by decide))).trans f3
          have m116 := (fI_kept (x_lt hT kH111 gw (by decide))).trans f4
          have m117 := (fI_kept (x_lt hT kH111 gw (by decide))).trans f5
          have m118 := (fI_kept (x_lt hT kH111 gw (by decide))).trans f6
          have m119 := (fI_kept (x_lt hT kH111 gw (by decide))).trans f7
          have m120 := (fI_kept (x_lt hT kH111 gw (by decide))).trans f8
          have m121 := (fI_kept (x_lt hT kH111 gw (by decide))).trans f9
          have m122 := (fI_kept (x_lt hT kH111 gw (by decide))).trans f10
          have m123 := (eq109).trans (fR_kept (x_lt hT kH111 ga (by decide))).symm
          refine W.eq (g2 := F0 m 39 ls [.int 0]) rfl ?_
          refine lv_istore_n (lv' := [(3, .int 0), (0, .ref a), (1, .int x0), (2, .int x1)]) hx hb dX9_set_39 rfl hl (by decide) rfl (fun ls124 hl125 => ?_)
          refine lv_iload_n hx hb dX9_set_40 rfl (lv_at hl125 3 rfl) ?_
          refine lv_if_eq (tgt := 49) hx hb dX9_set_41 (by decide) (fun c126 => ?_) (fun c126 => ?_)
          · have k127 := i_eq c126
            refine lv_iload_n hx hb dX9_set_49 rfl (lv_at hl125 0 rfl) ?_
            exact x_iret C hQ dX9_set_50 hSH111 (by decide) (by decide) (⟨⟨0, rfl, by omega⟩, G, fun _ _ => rfl, hTH111⟩)
          · have k127 := i_ne c126
            exfalso
            omega
        · have k108 := i_eq c107
          exfalso
          omega
      · subst hvH106
        refine W.eq (g2 := F0 m 22 ls [.int 0]) rfl ?_
        refine lv_if_ne (tgt := 27) hx hb dX9_set_22 (by decide) (fun c128 => ?_) (fun c128 => ?_)
        · have k129 := i_ne c128
          exfalso
          omega
        · have k129 := i_eq c128
          refine lv_iconst (v := (-1)) hx hb dX9_set_25 (by decide) ?_
          exact x_iret C hQ dX9_set_26 hSH106 (by decide) (by decide) (⟨⟨(-1), rfl, by omega⟩, G, fun _ _ => rfl, hT⟩)
  · subst hvH101
    refine W.eq (g2 := F0 m 7 ls [.int 0]) rfl ?_
    refine lv_if_eq (tgt := 25) hx hb dX9_set_7 (by decide) (fun c130 => ?_) (fun c130 => ?_)
    · have k131 := i_eq c130
      refine lv_iconst (v := (-1)) hx hb dX9_set_25 (by decide) ?_
      exact x_iret C hQ dX9_set_26 hSH101 (by decide) (by decide) (⟨⟨(-1), rfl, by omega⟩, G, fun _ _ => rfl, hT⟩)
    · have k131 := i_ne c130
      exfalso
      omega

set_option maxHeartbeats 4000000 in
set_option maxRecDepth 100000 in
theorem f_X10_leastWaste (l : Launch) (K : KE) (G : Nat → Option Nat) (H : Heap) {b : Nat} (x1 : Int32) (hT : TY K G H) (gb : G b = some 112) (fx : FM K H b) : MX l K yX10_leastWaste cX10_leastWaste 6 (some .int) 0 0 0 0 [.ref b, .int x1] H (AE G [160] H.size) (fun v H1 => v = some (.int 0) ∧ TY K G H1) := by
  refine MX.of (by decide +kernel) (Nat.le_of_ble_eq_true rfl) ?_
  intro p e s m below meth c ls Q C hH hl hQ
  subst hH
  have C : CX p K s m _ meth c RX10 cX10_leastWaste 6 (some .int) "leastWaste" := C
  obtain ⟨hx, hb, hml, hown, hts, hKT, hr, hlocks, hnm⟩ := id C
  have hl : lv_has ls 6 [(0, .ref b), (1, .int x1)] := hl
  have hS : va_S (AE G [160] s.heap.size) s.heap s.heap [] := va_S.rf
  have n_m1 : ((-1) : Int32).toInt = -1 := rfl
  have n_0 : (0 : Int32).toInt = 0 := rfl
  have n_1 : (1 : Int32).toInt = 1 := rfl
  have n_2 : (2 : Int32).toInt = 2 := rfl
  have n_3 : (3 : Int32).toInt = 3 := rfl
  have n_4 : (4 : Int32).toInt = 4 := rfl
  have n_5 : (5 : Int32).toInt = 5 := rfl
  have n_6 : (6 : Int32).toInt = 6 := rfl
  have n_7 : (7 : Int32).toInt = 7 := rfl
  have n_8 : (8 : Int32).toInt = 8 := rfl
  obtain ⟨f1, f2, f3, f4, f5, f6, f7, f8, f9, f10⟩ := fx
  refine lv_iconst (v := (-1)) hx hb dX10_leastWaste_0 (by decide) ?_
  refine lv_istore_n (lv' := [(2, .int (-1)), (0, .ref b), (1, .int x1)]) hx hb dX10_leastWaste_1 rfl hl (by decide) rfl (fun ls101 hl102 => ?_)
  refine lv_iconst (v := 0) hx hb dX10_leastWaste_2 (by decide) ?_
  refine lv_istore_n (lv' := [(3, .int 0), (2, .int (-1)), (0, .ref b), (1, .int x1)]) hx hb dX10_leastWaste_3 rfl hl102 (by decide) rfl (fun ls103 hl104 => ?_)
  refine lv_iconst (v := 0) hx hb dX10_leastWaste_4 (by decide) ?_
  refine lv_istore (lv' := [(4, .int 0), (3, .int 0), (2, .int (-1)), (0, .ref b), (1, .int x1)]) hx hb dX10_leastWaste_5 hl104 (by decide) rfl (fun ls105 hl106 => ?_)
  refine lv_iload hx hb dX10_leastWaste_7 (lv_at hl106 0 rfl) ?_
  refine lv_bipush (v := 8) hx hb dX10_leastWaste_9 (by decide) ?_
  refine lv_icmp_ge (tgt := 28) hx hb dX10_leastWaste_11 (by decide) (fun c107 => ?_) (fun c107 => ?_)
  · have k108 := i_le c107
    exfalso
    omega
  · have k108 := i_nle c107
    refine lv_aload_n hx hb dX10_leastWaste_14 rfl (lv_at hl106 3 rfl) ?_
    refine x_gr C hT (ci := 10) (k := 68) rfl inX10 (by decide) wF_X10_158 gb rg_112 rfl dX10_leastWaste_15 (fun q109 eq109 gq109 => ?_)
    refine lv_iload hx hb dX10_leastWaste_18 (lv_at hl106 0 rfl) ?_
    refine lv_iconst (v := (-1)) hx hb dX10_leastWaste_20 (by decide) ?_
    refine x_iast C hT hS gq109 rg_160 (by decide) (by decide) (by decide) (AE_in gq109 (by decide)) dX10_leastWaste_21 (fun H110 locsH110 hTH110 hSH110 wH110 => ?_)
    have m111 := (Wr.neI wH110 (Or.inl (G_ne gb gq109 (by decide)))).trans f1
    have m112 := (Wr.neI wH110 (Or.inl (G_ne gb gq109 (by decide)))).trans f2
    have m113 := (Wr.neI wH110 (Or.inl (G_ne gb gq109 (by decide)))).trans f3
    have m114 := (Wr.neI wH110 (Or.inl (G_ne gb gq109 (by decide)))).trans f4
    have m115 := (Wr.neI wH110 (Or.inl (G_ne gb gq109 (by decide)))).trans f5
    have m116 := (Wr.neI wH110 (Or.inl (G_ne gb gq109 (by decide)))).trans f6
    have m117 := (Wr.neI wH110 (Or.inl (G_ne gb gq109 (by decide)))).trans f7
    have m118 := (Wr.neI wH110 (Or.inl (G_ne gb gq109 (by decide)))).trans f8
    have m119 := (Wr.neI wH110 (Or.inl (G_ne gb gq109 (by decide)))).trans f9
    have m120 := (Wr.neI wH110 (Or.inl (G_ne gb gq109 (by decide)))).trans f10
    have m121 := eq109.trans (Wr.neR wH110 (Or.inl (G_ne gb gq109 (by decide)))).symm
    have m122 := Wr.I wH110
    refine lv_iinc (v := 1) (lv' := [(4, .int 1), (3, .int 0), (2, .int (-1)), (0, .ref b), (1, .int x1)]) hx hb dX10_leastWaste_22 hl106 (k := 0) rfl (by decide) (by decide) rfl (fun ls124 hl125 => ?_)
    refine lv_goto (tgt := 7) hx hb dX10_leastWaste_25 (by decide) ?_
    refine lv_iload hx hb dX10_leastWaste_7 (lv_at hl125 0 rfl) ?_
    refine lv_bipush (v := 8) hx hb dX10_leastWaste_9 (by decide) ?_
    refine lv_icmp_ge (tgt := 28) hx hb dX10_leastWaste_11 (by decide) (fun c126 => ?_) (fun c126 => ?_)
    · have k127 := i_le c126
      exfalso
      omega
    · have k127 := i_nle c126
      refine lv_aload_n hx hb dX10_leastWaste_14 rfl (lv_at hl125 3 rfl) ?_
      refine x_gr C hTH110 (ci := 10) (k := 68) rfl inX10 (by decide) wF_X10_158 gb rg_112 rfl dX10_leastWaste_15 (fun q128 eq128 gq128 => ?_)
      have uq128 : q109 = q128 := (m121).trans eq128.symm
      subst uq128
      refine lv_iload hx hb dX10_leastWaste_18 (lv_at hl125 0 rfl) ?_
      refine lv_iconst (v := (-1)) hx hb dX10_leastWaste_20 (by decide) ?_
      refine x_iast C hTH110 hSH110 gq109 rg_160 (by decide) (by decide) (by decide) (AE_in gq109 (by decide)) dX10_leastWaste_21 (fun H129 locsH129 hTH129 hSH129 wH129 => ?_)
      have m130 := (Wr.neI wH129 (Or.inl (G_ne gb gq109 (by decide)))).trans m111
      have m131 := (Wr.neI wH129 (Or.inl (G_ne gb gq109 (by decide)))).trans m112
      have m132 := (Wr.neI wH129 (Or.inl (G_ne gb gq109 (by decide)))).trans m113
      have m133 := (Wr.neI wH129 (Or.inl (G_ne gb gq109 (by decide)))).trans m114
      have m134 := (Wr.neI wH129 (Or.inl (G_ne gb gq109 (by decide)))).trans m115
      have m135 := (Wr.neI wH129 (Or.inl (G_ne gb gq109 (by decide)))).trans m116
      have m136 := (Wr.neI wH129 (Or.inl (G_ne gb gq109 (by decide)))).trans m117
      have m137 := (Wr.neI wH129 (Or.inl (G_ne gb gq109 (by decide)))).trans m118
      have m138 := (Wr.neI wH129 (Or.inl (G_ne gb gq109 (by decide)))).trans m119
      have m139 := (Wr.neI wH129 (Or.inl (G_ne gb gq109 (by decide)))).trans m120
      have m140 := m121.trans (Wr.neR wH129 (Or.inl (G_ne gb gq109 (by decide)))).symm
      have m141 := (Wr.neI wH129 (Or.inr (by decide))).trans m122
      have m142 := Wr.I wH129
      refine lv_iinc (v := 2) (lv' := [(4, .int 2), (3, .int 0), (2, .int (-1)), (0, .ref b), (1, .int x1)]) hx hb dX10_leastWaste_22 hl125 (k := 0) rfl (by decide) (by decide) rfl (fun ls144 hl145 => ?_)
      refine lv_goto (tgt := 7) hx hb dX10_leastWaste_25 (by decide) ?_
      refine lv_iload hx hb dX10_leastWaste_7 (lv_at hl145 0 rfl) ?_
      refine lv_bipush (v := 8) hx hb dX10_leastWaste_9 (by decide) ?_
      refine lv_icmp_ge (tgt := 28) hx hb dX10_leastWaste_11 (by decide) (fun c146 => ?_) (fun c146 => ?_)
      · have k147 := i_le c146
        exfalso
        omega
      · have k147 := i_nle c146
        refine lv_aload_n hx hb dX10_leastWaste_14 rfl (lv_at hl145 3 rfl) ?_
        refine x_gr C hTH129 (ci := 10) (k := 68) rfl inX10 (by decide) wF_X10_158 gb rg_112 rfl dX10_leastWaste_15 (fun q148 eq148 gq148 => ?_)
        have uq148 : q109 = q148 := (m140).trans eq148.symm
        subst uq148
        refine lv_iload hx hb dX10_leastWaste_18 (lv_at hl145 0 rfl) ?_
        refine lv_iconst (v := (-1)) hx hb dX10_leastWaste_20 (by decide) ?_
        refine x_iast C hTH129 hSH129 gq109 rg_160 (by decide) (by decide) (by decide) (AE_in gq109 (by decide)) dX10_leastWaste_21 (fun H149 locsH149 hTH149 hSH149 wH149 => ?_)
        have m150 := (Wr.neI wH149 (Or.inl (G_ne gb gq109 (by decide)))).trans m130
        have m151 := (Wr.neI wH149 (Or.inl (G_ne gb gq109 (by decide)))).trans m131
        have m152 := (Wr.neI wH149 (Or.inl (G_ne gb gq109 (by decide)))).trans m132
        have m153 := (Wr.neI wH149 (Or.inl (G_ne gb gq109 (by decide)))).trans m133
        have m154 := (Wr.neI wH149 (Or.inl (G_ne gb gq109 (by decide)))).trans m134
        have m155 := (Wr.neI wH149 (Or.inl (G_ne gb gq109 (by decide)))).trans m135
        have m156 := (Wr.neI wH149 (Or.inl (G_ne gb gq109 (by decide)))).trans m136
        have m157 := (Wr.neI wH149 (Or.inl (G_ne gb gq109 (by decide)))).trans m137
        have m158 := (Wr.neI wH149 (Or.inl (G_ne gb gq109 (by decide)))).trans m138
        have m159 := (Wr.neI wH149 (Or.inl (G_ne gb gq109 (by decide)))).trans m139
        have m160 := m140.trans (Wr.neR wH149 (Or.inl (G_ne gb gq109 (by decide)))).symm
        have m161 := (Wr.neI wH149 (Or.inr (by decide))).trans m141
        have m162 := (Wr.neI wH149 (Or.inr (by decide))).trans m142
        have m163 := Wr.I wH149
        refine lv_iinc (v := 3) (lv' := [(4, .int 3), (3, .int 0), (2, .int (-1)), (0, .ref b), (1, .int x1)]) hx hb dX10_leastWaste_22 hl145 (k := 0) rfl (by decide) (by decide) rfl (fun ls165 hl166 => ?_)
        refine lv_goto (tgt := 7) hx hb dX10_leastWaste_25 (by decide) ?_
        refine lv_iload hx hb dX10_leastWaste_7 (lv_at hl166 0 rfl) ?_
        refine lv_bipush (v := 8) hx hb dX10_leastWaste_9 (by decide) ?_
        refine lv_icmp_ge (tgt := 28) hx hb dX10_leastWaste_11 (by decide) (fun c167 => ?_) (fun c167 => ?_)
        · have k168 := i_le c167
          exfalso
          omega
        · have k168 := i_nle c167
          refine lv_aload_n hx hb dX10_leastWaste_14 rfl (lv_at hl166 3 rfl) ?_
          refine x_gr C hTH149 (ci := 10) (k := 68) rfl inX10 (by decide) wF_X10_158 gb rg_112 rfl dX10_leastWaste_15 (fun q169 eq169 gq169 => ?_)
          have uq169 : q109 = q169 := (m160).trans eq169.symm
          subst uq169
          refine lv_iload hx hb dX10_leastWaste_18 (lv_at hl166 0 rfl) ?_
          refine lv_iconst (v := (-1)) hx hb dX10_leastWaste_20 (by decide) ?_
          refine x_iast C hTH149 hSH149 gq109 rg_160 (by decide) (by decide) (by decide) (AE_in gq109 (by decide)) dX10_leastWaste_21 (fun H170 locsH170 hTH170 hSH170 wH170 => ?_)
          have m171 := (Wr.neI wH170 (Or.inl (G_ne gb gq109 (by decide)))).trans m150
          have m172 := (Wr.neI wH170 (Or.inl (G_ne gb gq109 (by decide)))).trans m151
          have m173 := (Wr.neI wH170 (Or.inl (G_ne gb gq109 (by decide)))).trans m152
          have m174 := (Wr.neI wH170 (Or.inl (G_ne gb gq109 (by decide)))).trans m153
          have m175 := (Wr.neI wH170 (Or.inl (G_ne gb gq109 (by decide)))).trans m154
          have m176 := (Wr.neI wH170 (Or.inl (G_ne gb gq109 (by decide)))).trans m155
          have m177 := (Wr.neI wH170 (Or.inl (G_ne gb gq109 (by decide)))).trans m156
          have m178 := (Wr.neI wH170 (Or.inl (G_ne gb gq109 (by decide)))).trans m157
          have m179 := (Wr.neI wH170 (Or.inl (G_ne gb gq109 (by decide)))).trans m158
          have m180 := (Wr.neI wH170 (Or.inl (G_ne gb gq109 (by decide)))).trans m159
          have m181 := m160.trans (Wr.neR wH170 (Or.inl (G_ne gb gq109 (by decide)))).symm
          have m182 := (Wr.neI wH170 (Or.inr (by decide))).trans m161
          have m183 := (Wr.neI wH170 (Or.inr (by decide))).trans m162
          have m184 := (Wr.neI wH170 (Or.inr (by decide))).trans m163
          have m185 := Wr.I wH170
          refine lv_iinc (v := 4) (lv' := [(4, .int 4), (3, .int 0), (2, .int (-1)), (0, .ref b), (1, .int x1)]) hx hb dX10_leastWaste_22 hl166 (k := 0) rfl (by decide) (by decide) rfl (fun ls187 hl188 => ?_)
          refine lv_goto (tgt := 7) hx hb dX10_leastWaste_25 (by decide) ?_
          refine lv_iload hx hb dX10_leastWaste_7 (lv_at hl188 0 rfl) ?_
          refine lv_bipush (v := 8) hx hb dX10_leastWaste_9 (by decide) ?_
          refine lv_icmp_ge (tgt := 28) hx hb dX10_leastWaste_11 (by decide) (fun c189 => ?_) (fun c189 => ?_)
          · have k190 := i_le c189
            exfalso
            omega
          · have k190 := i_nle c189
            refine lv_aload_n hx hb dX10_leastWaste_14 rfl (lv_at hl188 3 rfl) ?_
            refine x_gr C hTH170 (ci := 10) (k := 68) rfl inX10 (by decide) wF_X10_158 gb rg_112 rfl dX10_leastWaste_15 (fun q191 eq191 gq191 => ?_)
            have uq191 : q109 = q191 := (m181).trans eq191.symm
            subst uq191
            refine lv_iload hx hb dX10_leastWaste_18 (lv_at hl188 0 rfl) ?_
            refine lv_iconst (v := (-1)) hx hb dX10_leastWaste_20 (by decide) ?_
            refine x_iast C hTH170 hSH170 gq109 rg_160 (by decide) (by decide) (by decide) (AE_in gq109 (by decide)) dX10_leastWaste_21 (fun H192 locsH192 hTH192 hSH192 wH192 => ?_)
            have m193 := (Wr.neI wH192 (Or.inl (G_ne gb gq109 (by decide)))).trans m171
            have m194 := (Wr.neI wH192 (Or.inl (G_ne gb gq109 (by decide)))).trans m172
            have m195 := (Wr.neI wH192 (Or.inl (G_ne gb gq109 (by decide)))).trans m173
            have m196 := (Wr.neI wH192 (Or.inl (G_ne gb gq109 (by decide)))).trans m174
            have m197 := (Wr.neI wH192 (Or.inl (G_ne gb gq109 (by decide)))).trans m175
            have m198 := (Wr.neI wH192 (Or.inl (G_ne gb gq109 (by decide)))).trans m176
            have m199 := (Wr.neI wH192 (Or.inl (G_ne gb gq109 (by decide)))).trans m177
            have m200 := (Wr.neI wH192 (Or.inl (G_ne gb gq109 (by decide)))).trans m178
            have m201 := (Wr.neI wH192 (Or.inl (G_ne gb gq109 (by decide)))).trans m179
            have m202 := (Wr.neI wH192 (Or.inl (G_ne gb gq109 (by decide)))).trans m180
            have m203 := m181.trans (Wr.neR wH192 (Or.inl (G_ne gb gq109 (by decide)))).symm
            have m204 := (Wr.neI wH192 (Or.inr (by decide))).trans m182
            have m205 := (Wr.neI wH192 (Or.inr (by decide))).trans m183
            have m206 := (Wr.neI wH192 (Or.inr (by decide))).trans m184
            have m207 := (Wr.neI wH192 (Or.inr (by decide))).trans m185
            have m208 := Wr.I wH192
            refine lv_iinc (v := 5) (lv' := [(4, .int 5), (3, .int 0), (2, .int (-1)), (0, .ref b), (1, .int x1)]) hx hb dX10_leastWaste_22 hl188 (k := 0) rfl (by decide) (by decide) rfl (fun ls210 hl211 => ?_)
            refine lv_goto (tgt := 7) hx hb dX10_leastWaste_25 (by decide) ?_
            refine lv_iload hx hb dX10_leastWaste_7 (lv_at hl211 0 rfl) ?_
            refine lv_bipush (v := 8) hx hb dX10_leastWaste_9 (by decide) ?_
            refine lv_icmp_ge (tgt := 28) hx hb dX10_leastWaste_11 (by decide) (fun c212 => ?_) (fun c212 => ?_)
            · have k213 := i_le c212
              exfalso
              omega
            · have k213 := i_nle c212
              refine lv_aload_n hx hb dX10_leastWaste_14 rfl (lv_at hl211 3 rfl) ?_
              refine x_gr C hTH192 (ci := 10) (k := 68) rfl inX10 (by decide) wF_X10_158 gb rg_112 rfl dX10_leastWaste_15 (fun q214 eq214 gq214 => ?_)
              have uq214 : q109 = q214 := (m203).trans eq214.symm
              subst uq214
              refine lv_iload hx hb dX10_leastWaste_18 (lv_at hl211 0 rfl) ?_
              refine lv_iconst (v := (-1)) hx hb dX10_leastWaste_20 (by decide) ?_
              refine x_iast C hTH192 hSH192 gq109 rg_160 (by decide) (by decide) (by decide) (AE_in gq109 (by decide)) dX10_leastWaste_21 (fun H215 locsH215 hTH215 hSH215 wH215 => ?_)
              have m216 := (Wr.neI wH215 (Or.inl (G_ne gb gq109 (by decide)))).trans m193
              have m217 := (Wr.neI wH215 (Or.inl (G_ne gb gq109 (by decide)))).trans m194
              have m218 := (Wr.neI wH215 (Or.inl (G_ne gb gq109 (by decide)))).trans m195
              have m219 := (Wr.neI wH215 (Or.inl (G_ne gb gq109 (by decide)))).trans m196
              have m220 := (Wr.neI wH215 (Or.inl (G_ne gb gq109 (by decide)))).trans m197
              have m221 := (Wr.neI wH215 (Or.inl (G_ne gb gq109 (by decide)))).trans m198
              have m222 := (Wr.neI wH215 (Or.inl (G_ne gb gq109 (by decide)))).trans m199
              have m223 := (Wr.neI wH215 (Or.inl (G_ne gb gq109 (by decide)))).trans m200
              have m224 := (Wr.neI wH215 (Or.inl (G_ne gb gq109 (by decide)))).trans m201
              have m225 := (Wr.neI wH215 (Or.inl (G_ne gb gq109 (by decide)))).trans m202
              have m226 := m203.trans (Wr.neR wH215 (Or.inl (G_ne gb gq109 (by decide)))).symm
              have m227 := (Wr.neI wH215 (Or.inr (by decide))).trans m204
              have m228 := (Wr.neI wH215 (Or.inr (by decide))).trans m205
              have m229 := (Wr.neI wH215 (Or.inr (by decide))).trans m206
              have m230 := (Wr.neI wH215 (Or.inr (by decide))).trans m207
              have m231 := (Wr.neI wH215 (Or.inr (by decide))).trans m208
              have m232 := Wr.I wH215
              refine lv_iinc (v := 6) (lv' := [(4, .int 6), (3, .int 0), (2, .int (-1)), (0, .ref b), (1, .int x1)]) hx hb dX10_leastWaste_22 hl211 (k := 0) rfl (by decide) (by decide) rfl (fun ls234 hl235 => ?_)
              refine lv_goto (tgt := 7) hx hb dX10_leastWaste_25 (by decide) ?_
              refine lv_iload hx hb dX10_leastWaste_7 (lv_at hl235 0 rfl) ?_
              refine lv_bipush (v := 8) hx hb dX10_leastWaste_9 (by decide) ?_
              refine lv_icmp_ge (tgt := 28) hx hb dX10_leastWaste_11 (by decide) (fun c236 => ?_) (fun c236 => ?_)
              · have k237 := i_le c236
                exfalso
                omega
              · have k237 := i_nle c236
                refine lv_aload_n hx hb dX10_leastWaste_14 rfl (lv_at hl235 3 rfl) ?_
                refine x_gr C hTH215 (ci := 10) (k := 68) rfl inX10 (by decide) wF_X10_158 gb rg_112 rfl dX10_leastWaste_15 (fun q238 eq238 gq238 => ?_)
                have uq238 : q109 = q238 := (m226).trans eq238.symm
                subst uq238
                refine lv_iload hx hb dX10_leastWaste_18 (lv_at hl235 0 rfl) ?_
                refine lv_iconst (v := (-1)) hx hb dX10_leastWaste_20 (by decide) ?_
                refine x_iast C hTH215 hSH215 gq109 rg_160 (by decide) (by decide) (by decide) (AE_in gq109 (by decide)) dX10_leastWaste_21 (fun H239 locsH239 hTH239 hSH239 wH239 => ?_)
                have m240 := (Wr.neI wH239 (Or.inl (G_ne gb gq109 (by decide)))).trans m216
                have m241 := (Wr.neI wH239 (Or.inl (G_ne gb gq109 (by decide)))).trans m217
                have m242 := (Wr.neI wH239 (Or.inl (G_ne gb gq109 (by decide)))).trans m218
                have m243 := (Wr.neI wH239 (Or.inl (G_ne gb gq109 (by decide)))).trans m219
                have m244 := (Wr.neI wH239 (Or.inl (G_ne gb gq109 (by decide)))).trans m220
                have m245 := (Wr.neI wH239 (Or.inl (G_ne gb gq109 (by decide)))).trans m221
                have m246 := (Wr.neI wH239 (Or.inl (G_ne gb gq109 (by decide)))).trans m222
                have m247 := (Wr.neI wH239 (Or.inl (G_ne gb gq109 (by decide)))).trans m223
                have m248 := (Wr.neI wH239 (Or.inl (G_ne gb gq109 (by decide)))).trans m224
                have m249 := (Wr.neI wH239 (Or.inl (G_ne gb gq109 (by decide)))).trans m225
                have m250 := m226.trans (Wr.neR wH239 (Or.inl (G_ne gb gq109 (by decide)))).symm
                have m251 := (Wr.neI wH239 (Or.inr (by decide))).trans m227
                have m252 := (Wr.neI wH239 (Or.inr (by decide))).trans m228
                have m253 := (Wr.neI wH239 (Or.inr (by decide))).trans m229
                have m254 := (Wr.neI wH239 (Or.inr (by decide))).trans m230
                have m255 := (Wr.neI wH239 (Or.inr (by decide))).trans m231
                have m256 := (Wr.neI wH239 (Or.inr (by decide))).trans m232
                have m257 := Wr.I wH239
                refine lv_iinc (v := 7) (lv' := [(4, .int 7), (3, .int 0), (2, .int (-1)), (0, .ref b), (1, .int x1)]) hx hb dX10_leastWaste_22 hl235 (k := 0) rfl (by decide) (by decide) rfl (fun ls259 hl260 => ?_)
                refine lv_goto (tgt := 7) hx hb dX10_leastWaste_25 (by decide) ?_
                refine lv_iload hx hb dX10_leastWaste_7 (lv_at hl260 0 rfl) ?_
                refine lv_bipush (v := 8) hx hb dX10_leastWaste_9 (by decide) ?_
                refine lv_icmp_ge (tgt := 28) hx hb dX10_leastWaste_11 (by decide) (fun c261 => ?_) (fun c261 => ?_)
                · have k262 := i_le c261
                  exfalso
                  omega
                · have k262 := i_nle c261
                  refine lv_aload_n hx hb dX10_leastWaste_14 rfl (lv_at hl260 3 rfl) ?_
                  refine x_gr C hTH239 (ci := 10) (k := 68) rfl inX10 (by decide) wF_X10_158 gb rg_112 rfl dX10_leastWaste_15 (fun q263 eq263 gq263 => ?_)
                  have uq263 : q109 = q263 := (m250).trans eq263.symm
                  subst uq263
                  refine lv_iload hx hb dX10_leastWaste_18 (lv_at hl260 0 rfl) ?_
                  refine lv_iconst (v := (-1)) hx hb dX10_leastWaste_20 (by decide) ?_
                  refine x_iast C hTH239 hSH239 gq109 rg_160 (by decide) (by decide) (by decide) (AE_in gq109 (by decide)) dX10_leastWaste_21 (fun H264 locsH264 hTH264 hSH264 wH264 => ?_)
                  have m265 := (Wr.neI wH264 (Or.inl (G_ne gb gq109 (by decide)))).trans m240
                  have m266 := (Wr.neI wH264 (Or.inl (G_ne gb gq109 (by decide)))).trans m241
                  have m267 := (Wr.neI wH264 (Or.inl (G_ne gb gq109 (by decide)))).trans m242
                  have m268 := (Wr.neI wH264 (Or.inl (G_ne gb gq109 (by decide)))).trans m243
                  have m269 := (Wr.neI wH264 (Or.inl (G_ne gb gq109 (by decide)))).trans m244
                  have m270 := (Wr.neI wH264 (Or.inl (G_ne gb gq109 (by decide)))).trans m245
                  have m271 := (Wr.neI wH264 (Or.inl (G_ne gb gq109 (by decide)))).trans m246
                  have m272 := (Wr.neI wH264 (Or.inl (G_ne gb gq109 (by decide)))).trans m247
                  have m273 := (Wr.neI wH264 (Or.inl (G_ne gb gq109 (by decide)))).trans m248
                  have m274 := (Wr.neI wH264 (Or.inl (G_ne gb gq109 (by decide)))).trans m249
                  have m275 := m250.trans (Wr.neR wH264 (Or.inl (G_ne gb gq109 (by decide)))).symm
                  have m276 := (Wr.neI wH264 (Or.inr (by decide))).trans m251
                  have m277 := (Wr.neI wH264 (Or.inr (by decide))).trans m252
                  have m278 := (Wr.neI wH264 (Or.inr (by decide))).trans m253
                  have m279 := (Wr.neI wH264 (Or.inr (by decide))).trans m254
                  have m280 := (Wr.neI wH264 (Or.inr (by decide))).trans m255
                  have m281 := (Wr.neI wH264 (Or.inr (by decide))).trans m256
                  have m282 := (Wr.neI wH264 (Or.inr (by decide))).trans m257
                  have m283 := Wr.I wH264
                  refine lv_iinc (v := 8) (lv' := [(4, .int 8), (3, .int 0), (2, .int (-1)), (0, .ref b), (1, .int x1)]) hx hb dX10_leastWaste_22 hl260 (k := 0) rfl (by decide) (by decide) rfl (fun ls285 hl286 => ?_)
                  refine lv_goto (tgt := 7) hx hb dX10_leastWaste_25 (by decide) ?_
                  refine lv_iload hx hb dX10_leastWaste_7 (lv_at hl286 0 rfl) ?_
                  refine lv_bipush (v := 8) hx hb dX10_leastWaste_9 (by decide) ?_
                  refine lv_icmp_ge (tgt := 28) hx hb dX10_leastWaste_11 (by decide) (fun c287 => ?_) (fun c287 => ?_)
                  · have k288 := i_le c287
                    refine lv_aload_n hx hb dX10_leastWaste_28 rfl (lv_at hl286 3 rfl) ?_
                    refine x_gi C hTH264 (ci := 10) (k := 62) rfl inX10 (by decide) wF_X10_455 gb rg_112 rfl dX10_leastWaste_29 (fun x289 ex289 bx289 => ?_)
                    have ux289 : x289 = 0 := ex289.trans m272
                    subst ux289
                    refine lv_if_ne (tgt := 37) hx hb dX10_leastWaste_32 (by decide) (fun c290 => ?_) (fun c290 => ?_)
                    · have k291 := i_ne c290
                      exfalso
                      omega
                    · have k291 := i_eq c290
                      refine lv_iconst (v := 0) hx hb dX10_leastWaste_35 (by decide) ?_
                      exact x_iret C hQ dX10_leastWaste_36 hSH264 (by decide) (by decide) (⟨rfl, hTH264⟩)
                  · have k288 := i_nle c287
                    exfalso
                    omega

set_option maxHeartbeats 4000000 in
set_option maxRecDepth 100000 in
theorem f_X10_set (l : Launch) (K : KE) (G : Nat → Option Nat) (H : Heap) {b : Nat} (x0 : Int32) (x1 : Int32) (hT : TY K G H) (gb : G b = some 112) (fx : FM K H b) : MX l K yX10_set cX10_set 4 (some .int) 1 25 0 0 [.ref b, .int x0, .int x1] H (AE G [112, 160] H.size) (fun v H1 => (∃ r : Int32, v = some (.int r) ∧ (((0 ≤ x0.toInt ∧ x0.toInt ≤ 99 ∧ x1.toInt = 0) ∧ r.toInt = 0) ∨ (¬ (0 ≤ x0.toInt ∧ x0.toInt ≤ 99 ∧ x1.toInt = 0) ∧ r.toInt = -1))) ∧ ∃ G1 : Nat → Option Nat, (∀ q, q < H.size → G1 q = G q) ∧ TY K G1 H1) := by
  refine MX.of (by decide +kernel) (Nat.le_of_ble_eq_true rfl) ?_
  intro p e s m below meth c ls Q C hH hl hQ
  subst hH
  have C : CX p K s m _ meth c RX10 cX10_set 4 (some .int) "set" := C
  obtain ⟨hx, hb, hml, hown, hts, hKT, hr, hlocks, hnm⟩ := id C
  have hl : lv_has ls 4 [(0, .ref b), (1, .int x0), (2, .int x1)] := hl
  have hS : va_S (AE G [112, 160] s.heap.size) s.heap s.heap [] := va_S.rf
  have n_m1 : ((-1) : Int32).toInt = -1 := rfl
  have n_0 : (0 : Int32).toInt = 0 := rfl
  have n_1 : (1 : Int32).toInt = 1 := rfl
  have n_99 : (99 : Int32).toInt = 99 := rfl
  obtain ⟨f1, f2, f3, f4, f5, f6, f7, f8, f9, f10⟩ := fx
  refine lv_aload_n hx hb dX10_set_0 rfl (lv_at hl 0 rfl) ?_
  refine lv_iconst (v := 0) hx hb dX10_set_1 (by decide) ?_
  refine x_put C hT hS (ci := 10) (k := 0) (v := .int 0) (ty0 := tyX10) rfl inX10 tyX10_ok nmX10 (by decide) rfl wF_X10_167 gb rg_112 rfl rfl (okI (by have := i_rng (0 : Int32); omega) (by have := i_rng (0 : Int32); omega)) rfl rfl (AE_in gb (by decide)) dX10_set_2 (fun H101 locsH101 hTH101 hSH101 wH101 => ?_)
  have m102 := (Wr.neI wH101 (Or.inr (x_apart hKT hts inX10 tyX10 tyX10_ok nmX10 rfl 1 0 (by decide) (by decide) (by decide)))).trans f1
  have m103 := (Wr.neI wH101 (Or.inr (x_apart hKT hts inX10 tyX10 tyX10_ok nmX10 rfl 2 0 (by decide) (by decide) (by decide)))).trans f2
  have m104 := (Wr.neI wH101 (Or.inr (x_apart hKT hts inX10 tyX10 tyX10_ok nmX10 rfl 3 0 (by decide) (by decide) (by decide)))).trans f3
  have m105 := (Wr.neI wH101 (Or.inr (x_apart hKT hts inX10 tyX10 tyX10_ok nmX10 rfl 18 0 (by decide) (by decide) (by decide)))).trans f4
  have m106 := (Wr.neI wH101 (Or.inr (x_apart hKT hts inX10 tyX10 tyX10_ok nmX10 rfl 41 0 (by decide) (by decide) (by decide)))).trans f5
  have m107 := (Wr.neI wH101 (Or.inr (x_apart hKT hts inX10 tyX10 tyX10_ok nmX10 rfl 42 0 (by decide) (by decide) (by decide)))).trans f6
  have m108 := (Wr.neI wH101 (Or.inr (x_apart hKT hts inX10 tyX10 tyX10_ok nmX10 rfl 59 0 (by decide) (by decide) (by decide)))).trans f7
  have m109 := (Wr.neI wH101 (Or.inr (x_apart hKT hts inX10 tyX10 tyX10_ok nmX10 rfl 62 0 (by decide) (by decide) (by decide)))).trans f8
  have m110 := (Wr.neI wH101 (Or.inr (x_apart hKT hts inX10 tyX10 tyX10_ok nmX10 rfl 65 0 (by decide) (by decide) (by decide)))).trans f9
  have m111 := (Wr.neI wH101 (Or.inr (x_apart hKT hts inX10 tyX10 tyX10_ok nmX10 rfl 70 0 (by decide) (by decide) (by decide)))).trans f10
  have m112 := Wr.I wH101
  refine lv_aload_n hx hb dX10_set_5 rfl (lv_at hl 0 rfl) ?_
  refine lv_iload_n hx hb dX10_set_6 rfl (lv_at hl 1 rfl) ?_
  refine lv_iconst (v := 0) hx hb dX10_set_7 (by decide) ?_
  refine lv_bipush (v := 99) hx hb dX10_set_8 (by decide) ?_
  refine x_V (As := [.int x0, .int 0, .int 99]) (rest := []) C (c_X10_isIn l K G H101 (x0) (0) (99) hTH101 gb) yo_X10_isIn wM_X10_177 ⟨⟨by decide, by decide⟩, by decide, by decide⟩ (x_rv C hTH101 (ci := 10) rfl gb rg_112) rfl hl.1 rfl (Nat.le_of_ble_eq_true rfl) dX10_set_10 hSH101 (AE_sub (fun _ _ => rfl) (by decide) hSH101.1) (fun vH113 H113 locsH113 pH113 zH113 kH113 hSH113 => ?_)
  have hqH113 := pH113.1.symm
  subst hqH113
  rcases pH113.2 with ⟨hvH113, hcH113⟩ | ⟨hvH113, hcH113⟩
  · subst hvH113
    refine W.eq (g2 := F0 m 13 ls [.int 1]) rfl ?_
    refine lv_if_eq (tgt := 29) hx hb dX10_set_13 (by decide) (fun c114 => ?_) (fun c114 => ?_)
    · have k115 := i_eq c114
      exfalso
      omega
    · have k115 := i_ne c114
      refine lv_aload_n hx hb dX10_set_16 rfl (lv_at hl 0 rfl) ?_
      refine lv_iload_n hx hb dX10_set_17 rfl (lv_at hl 2 rfl) ?_
      refine lv_iconst (v := 0) hx hb dX10_set_18 (by decide) ?_
      refine lv_aload_n hx hb dX10_set_19 rfl (lv_at hl 0 rfl) ?_
      refine x_gi C hTH101 (ci := 10) (k := 62) rfl inX10 (by decide) wF_X10_455 gb rg_112 rfl dX10_set_20 (fun x116 ex116 bx116 => ?_)
      have ux116 : x116 = 0 := ex116.trans m109
      subst ux116
      refine x_V (As := [.int x1, .int 0, .int 0]) (rest := []) C (c_X10_isIn l K G H101 (x1) (0) (0) hTH101 gb) yo_X10_isIn wM_X10_177 ⟨⟨by decide, by decide⟩, by decide, by decide⟩ (x_rv C hTH101 (ci := 10) rfl gb rg_112) rfl hl.1 rfl (Nat.le_of_ble_eq_true rfl) dX10_set_23 hSH113 (AE_sub (fun _ _ => rfl) (by decide) hSH113.1) (fun vH117 H117 locsH117 pH117 zH117 kH117 hSH117 => ?_)
      have hqH117 := pH117.1.symm
      subst hqH117
      rcases pH117.2 with ⟨hvH117, hcH117⟩ | ⟨hvH117, hcH117⟩
      · subst hvH117
        refine W.eq (g2 := F0 m 26 ls [.int 1]) rfl ?_
        refine lv_if_ne (tgt := 31) hx hb dX10_set_26 (by decide) (fun c118 => ?_) (fun c118 => ?_)
        · have k119 := i_ne c118
          refine lv_aload_n hx hb dX10_set_31 rfl (lv_at hl 0 rfl) ?_
          refine lv_iload_n hx hb dX10_set_32 rfl (lv_at hl 1 rfl) ?_
          refine x_V (As := [.int x0]) (rest := []) C (f_X10_leastWaste l K G H101 (x0) hTH101 gb ⟨m102, m103, m104, m105, m106, m107, m108, m109, m110, m111⟩) yo_X10_leastWaste wM_X10_464 ⟨⟨by decide, by decide⟩, by decide, by decide⟩ (x_rv C hTH101 (ci := 10) rfl gb rg_112) rfl hl.1 rfl (Nat.le_of_ble_eq_true rfl) dX10_set_33 hSH117 (AE_sub (fun _ _ => rfl) (by decide) hSH117.1) (fun vH120 H120 locsH120 pH120 zH120 kH120 hSH120 => ?_)
          have hTH120 := pH120.2
          have hvH120 := pH120.1
          subst hvH120
          have m121 := (fI_kept (x_lt hTH101 kH120 gb (by decide))).trans m102
          have m122 := (fI_kept (x_lt hTH101 kH120 gb (by decide))).trans m103
          have m123 := (fI_kept (x_lt hTH101 kH120 gb (by decide))).trans m104
          have m124 := (fI_kept (x_lt hTH101 kH120 gb (by decide))).trans m105
          have m125 := (fI_kept (x_lt hTH101 kH120 gb (by decide))).trans m106
          have m126 := (fI_kept (x_lt hTH101 kH120 gb (by decide))).trans m107
          have m127 := (fI_kept (x_lt hTH101 kH120 gb (by decide))).trans m108
          have m128 := (fI_kept (x_lt hTH101 kH120 gb (by decide))).trans m109
          have m129 := (fI_kept (x_lt hTH101 kH120 gb (by decide))).trans m110
          have m130 := (fI_kept (x_lt hTH101 kH120 gb (by decide))).trans m111
          have m131 := (fI_kept (x_lt hTH101 kH120 gb (by decide))).trans m112
          refine W.eq (g2 := F0 m 36 ls [.int 0]) rfl ?_
          refine lv_istore_n (lv' := [(3, .int 0), (0, .ref b), (1, .int x0), (2, .int x1)]) hx hb dX10_set_36 rfl hl (by decide) rfl (fun ls132 hl133 => ?_)
          refine lv_iload_n hx hb dX10_set_37 rfl (lv_at hl133 3 rfl) ?_
          refine lv_if_eq (tgt := 46) hx hb dX10_set_38 (by decide) (fun c134 => ?_) (fun c134 => ?_)
          · have k135 := i_eq c134
            refine lv_iload_n hx hb dX10_set_46 rfl (lv_at hl133 0 rfl) ?_
            refine lv_goto (tgt := 58) hx hb dX10_set_47 (by decide) ?_
            exact x_iret C hQ dX10_set_58 hSH120 (by decide) (by decide) (⟨⟨0, rfl, by omega⟩, G, fun _ _ => rfl, hTH120⟩)
          · have k135 := i_ne c134
            exfalso
            omega
        · have k119 := i_eq c118
          exfalso
          omega
      · subst hvH117
        refine W.eq (g2 := F0 m 26 ls [.int 0]) rfl ?_
        refine lv_if_ne (tgt := 31) hx hb dX10_set_26 (by decide) (fun c136 => ?_) (fun c136 => ?_)
        · have k137 := i_ne c136
          exfalso
          omega
        · have k137 := i_eq c136
          refine lv_iconst (v := (-1)) hx hb dX10_set_29 (by decide) ?_
          exact x_iret C hQ dX10_set_30 hSH117 (by decide) (by decide) (⟨⟨(-1), rfl, by omega⟩, G, fun _ _ => rfl, hTH101⟩)
  · subst hvH113
    refine W.eq (g2 := F0 m 13 ls [.int 0]) rfl ?_
    refine lv_if_eq (tgt := 29) hx hb dX10_set_13 (by decide) (fun c138 => ?_) (fun c138 => ?_)
    · have k139 := i_eq c138
      refine lv_iconst (v := (-1)) hx hb dX10_set_29 (by decide) ?_
      exact x_iret C hQ dX10_set_30 hSH113 (by decide) (by decide) (⟨⟨(-1), rfl, by omega⟩, G, fun _ _ => rfl, hTH101⟩)
    · have k139 := i_ne c138
      exfalso
      omega

set_option maxHeartbeats 4000000 in
set_option maxRecDepth 100000 in
theorem f_X10_bar (l : Launch) (K : KE) (G : Nat → Option Nat) (H : Heap) {b : Nat} (x0 : Int32) (hT : TY K G H) (gb : G b = some 112) (fx : FM K H b) : MX l K yX10_bar cX10_bar 3 (some .int) 1 23 0 0 [.ref b, .int x0] H (AE G [112, 113, 114, 115, 116, 117, 125] H.size) (fun v H1 => (∃ r : Int32, v = some (.int r) ∧ ((3 ≤ x0.toInt ∧ x0.toInt ≤ 16 ∧ r.toInt = 0) ∨ (¬ (3 ≤ x0.toInt ∧ x0.toInt ≤ 16) ∧ r.toInt = -1))) ∧ ∃ G1 : Nat → Option Nat, (∀ q, q < H.size → G1 q = G q) ∧ TY K G1 H1) := by
  refine MX.of (by decide +kernel) (Nat.le_of_ble_eq_true rfl) ?_
  intro p e s m below meth c ls Q C hH hl hQ
  subst hH
  have C : CX p K s m _ meth c RX10 cX10_bar 3 (some .int) "bar" := C
  obtain ⟨hx, hb, hml, hown, hts, hKT, hr, hlocks, hnm⟩ := id C
  have hl : lv_has ls 3 [(0, .ref b), (1, .int x0)] := hl
  have hS : va_S (AE G [112, 113, 114, 115, 116, 117, 125] s.heap.size) s.heap s.heap [] := va_S.rf
  have n_m1 : ((-1) : Int32).toInt = -1 := rfl
  have n_0 : (0 : Int32).toInt = 0 := rfl
  have n_1 : (1 : Int32).toInt = 1 := rfl
  have n_2 : (2 : Int32).toInt = 2 := rfl
  have n_3 : (3 : Int32).toInt = 3 := rfl
  have n_5 : (5 : Int32).toInt = 5 := rfl
  have n_10 : (10 : Int32).toInt = 10 := rfl
  have n_16 : (16 : Int32).toInt = 16 := rfl
  have n_20 : (20 : Int32).toInt = 20 := rfl
  have n_500 : (500 : Int32).toInt = 500 := rfl
  obtain ⟨f1, f2, f3, f4, f5, f6, f7, f8, f9, f10⟩ := fx
  refine lv_aload_n hx hb dX10_bar_0 rfl (lv_at hl 0 rfl) ?_
  refine lv_iconst (v := 0) hx hb dX10_bar_1 (by decide) ?_
  refine x_put C hT hS (ci := 10) (k := 0) (v := .int 0) (ty0 := tyX10) rfl inX10 tyX10_ok nmX10 (by decide) rfl wF_X10_167 gb rg_112 rfl rfl (okI (by have := i_rng (0 : Int32); omega) (by have := i_rng (0 : Int32); omega)) rfl rfl (AE_in gb (by decide)) dX10_bar_2 (fun H101 locsH101 hTH101 hSH101 wH101 => ?_)
  have m102 := (Wr.neI wH101 (Or.inr (x_apart hKT hts inX10 tyX10 tyX10_ok nmX10 rfl 1 0 (by decide) (by decide) (by decide)))).trans f1
  have m103 := (Wr.neI wH101 (Or.inr (x_apart hKT hts inX10 tyX10 tyX10_ok nmX10 rfl 2 0 (by decide) (by decide) (by decide)))).trans f2
  have m104 := (Wr.neI wH101 (Or.inr (x_apart hKT hts inX10 tyX10 tyX10_ok nmX10 rfl 3 0 (by decide) (by decide) (by decide)))).trans f3
  have m105 := (Wr.neI wH101 (Or.inr (x_apart hKT hts inX10 tyX10 tyX10_ok nmX10 rfl 18 0 (by decide) (by decide) (by decide)))).trans f4
  have m106 := (Wr.neI wH101 (Or.inr (x_apart hKT hts inX10 tyX10 tyX10_ok nmX10 rfl 41 0 (by decide) (by decide) (by decide)))).trans f5
  have m107 := (Wr.neI wH101 (Or.inr (x_apart hKT hts inX10 tyX10 tyX10_ok nmX10 rfl 42 0 (by decide) (by decide) (by decide)))).trans f6
  have m108 := (Wr.neI wH101 (Or.inr (x_apart hKT hts inX10 tyX10 tyX10_ok nmX10 rfl 59 0 (by decide) (by decide) (by decide)))).trans f7
  have m109 := (Wr.neI wH101 (Or.inr (x_apart hKT hts inX10 tyX10 tyX10_ok nmX10 rfl 62 0 (by decide) (by decide) (by decide)))).trans f8
  have m110 := (Wr.neI wH101 (Or.inr (x_apart hKT hts inX10 tyX10 tyX10_ok nmX10 rfl 65 0 (by decide) (by decide) (by decide)))).trans f9
  have m111 := (Wr.neI wH101 (Or.inr (x_apart hKT hts inX10 tyX10 tyX10_ok nmX10 rfl 70 0 (by decide) (by decide) (by decide)))).trans f10
  have m112 := Wr.I wH101
  refine lv_aload_n hx hb dX10_bar_5 rfl (lv_at hl 0 rfl) ?_
  refine lv_iload_n hx hb dX10_bar_6 rfl (lv_at hl 1 rfl) ?_
  refine lv_iconst (v := 3) hx hb dX10_bar_7 (by decide) ?_
  refine lv_bipush (v := 16) hx hb dX10_bar_8 (by decide) ?_
  refine x_V (As := [.int x0, .int 3, .int 16]) (rest := []) C (c_X10_isIn l K G H101 (x0) (3) (16) hTH101 gb) yo_X10_isIn wM_X10_177 ⟨⟨by decide, by decide⟩, by decide, by decide⟩ (x_rv C hTH101 (ci := 10) rfl gb rg_112) rfl hl.1 rfl (Nat.le_of_ble_eq_true rfl) dX10_bar_10 hSH101 (AE_sub (fun _ _ => rfl) (by decide) hSH101.1) (fun vH113 H113 locsH113 pH113 zH113 kH113 hSH113 => ?_)
  have hqH113 := pH113.1.symm
  subst hqH113
  rcases pH113.2 with ⟨hvH113, hcH113⟩ | ⟨hvH113, hcH113⟩
  · subst hvH113
    refine W.eq (g2 := F0 m 13 ls [.int 1]) rfl ?_
    refine lv_if_eq (tgt := 25) hx hb dX10_bar_13 (by decide) (fun c114 => ?_) (fun c114 => ?_)
    · have k115 := i_eq c114
      exfalso
      omega
    · have k115 := i_ne c114
      refine lv_aload_n hx hb dX10_bar_16 rfl (lv_at hl 0 rfl) ?_
      refine x_gi C hTH101 (ci := 10) (k := 1) rfl inX10 (by decide) wF_X10_170 gb rg_112 rfl dX10_bar_17 (fun x116 ex116 bx116 => ?_)
      have ux116 : x116 = 0 := ex116.trans m102
      subst ux116
      refine lv_bipush (v := 10) hx hb dX10_bar_20 (by decide) ?_
      refine lv_icmp_ne (tgt := 27) hx hb dX10_bar_22 (by decide) (fun c117 => ?_) (fun c117 => ?_)
      · have k118 := i_ne c117
        refine lv_aload_n hx hb dX10_bar_27 rfl (lv_at hl 0 rfl) ?_
        refine x_gr C hTH101 (ci := 10) (k := 4) rfl inX10 (by decide) wF_X10_13 gb rg_112 rfl dX10_bar_28 (fun q119 eq119 gq119 => ?_)
        refine lv_aload_n hx hb dX10_bar_31 rfl (lv_at hl 0 rfl) ?_
        refine x_gi C hTH101 (ci := 10) (k := 1) rfl inX10 (by decide) wF_X10_170 gb rg_112 rfl dX10_bar_32 (fun x120 ex120 bx120 => ?_)
        have ux120 : x120 = 0 := ex120.trans m102
        subst ux120
        refine lv_iload_n hx hb dX10_bar_35 rfl (lv_at hl 1 rfl) ?_
        refine x_iast C hTH101 hSH113 gq119 rg_113 (by decide) (by decide) ⟨by have := i_rng x0; omega, by have := i_rng x0; omega⟩ (AE_in gq119 (by decide)) dX10_bar_36 (fun H121 locsH121 hTH121 hSH121 wH121 => ?_)
        have m122 := (Wr.neI wH121 (Or.inl (G_ne gb gq119 (by decide)))).trans m102
        have m123 := (Wr.neI wH121 (Or.inl (G_ne gb gq119 (by decide)))).trans m103
        have m124 := (Wr.neI wH121 (Or.inl (G_ne gb gq119 (by decide)))).trans m104
        have m125 := (Wr.neI wH121 (Or.inl (G_ne gb gq119 (by decide)))).trans m105
        have m126 := (Wr.neI wH121 (Or.inl (G_ne gb gq119 (by decide)))).trans m106
        have m127 := (Wr.neI wH121 (Or.inl (G_ne gb gq119 (by decide)))).trans m107
        have m128 := (Wr.neI wH121 (Or.inl (G_ne gb gq119 (by decide)))).trans m108
        have m129 := (Wr.neI wH121 (Or.inl (G_ne gb gq119 (by decide)))).trans m109
        have m130 := (Wr.neI wH121 (Or.inl (G_ne gb gq119 (by decide)))).trans m110
        have m131 := (Wr.neI wH121 (Or.inl (G_ne gb gq119 (by decide)))).trans m111
        have m132 := (Wr.neI wH121 (Or.inl (G_ne gb gq119 (by decide)))).trans m112
        have m133 := eq119.trans (Wr.neR wH121 (Or.inl (G_ne gb gq119 (by decide)))).symm
        have m134 := Wr.I wH121
        have m134 := m134.symm
        refine lv_bipush (v := 16) hx hb dX10_bar_37 (by decide) ?_
        refine lv_aload_n hx hb dX10_bar_39 rfl (lv_at hl 0 rfl) ?_
        refine x_gi C hTH121 (ci := 10) (k := 1) rfl inX10 (by decide) wF_X10_170 gb rg_112 rfl dX10_bar_40 (fun x135 ex135 bx135 => ?_)
        have ux135 : x135 = 0 := ex135.trans m122
        subst ux135
        refine lv_imul hx hb dX10_bar_43 ?_
        refine lv_topi (fun x136 ex136 => ?_)
        have tx136 : x136 = 0 := by rw [ex136]; rfl
        rw [tx136] at ex136 ⊢
        clear tx136 ex136
        refine lv_istore_n (lv' := [(2, .int 0), (0, .ref b), (1, .int x0)]) hx hb dX10_bar_44 rfl hl (by decide) rfl (fun ls137 hl138 => ?_)
        have Lp139 : ∀ (nf : Nat) (ls142 : Array Slot) (H141 : Heap) (locsH141 : List Loc) (x140 : Int32), lv_has ls142 3 [(2, .int x140), (0, .ref b), (1, .int x0)] → TY K G H141 → va_S (AE G [112, 113, 114, 115, 116, 117, 125] s.heap.size) s.heap H141 locsH141 → (0 ≤ x140.toInt ∧ x140.toInt ≤ 16) → (fI H141 b (K.1.2 10 1) = 0) → (16 - x140.toInt < (nf : Int)) → W p l e ({ frames := 1, cells := 0, slots := 0, locals := 23 } : Room) s m (([.ref b, .int x0] : List Value).toArray) below meth c H141 locsH141 (0 + 0) (0 + 0) Q (F0 m 45 ls142 []) := by
          intro nf
          induction nf with
          | zero =>
            intro ls142 H141 locsH141 x140 hl143 hTH141 hSH141 bx140 i144 hmLp139
            exfalso
            omega
          | succ nf ihLp139 =>
            intro ls142 H141 locsH141 x140 hl143 hTH141 hSH141 bx140 i144 hmLp139
            refine lv_iload_n hx hb dX10_bar_45 rfl (lv_at hl143 0 rfl) ?_
            refine lv_bipush (v := 16) hx hb dX10_bar_46 (by decide) ?_
            refine lv_aload_n hx hb dX10_bar_48 rfl (lv_at hl143 1 rfl) ?_
            refine x_gi C hTH141 (ci := 10) (k := 1) rfl inX10 (by decide) wF_X10_170 gb rg_112 rfl dX10_bar_49 (fun x145 ex145 bx145 => ?_)
            have ux145 : x145 = 0 := ex145.trans i144
            subst ux145
            refine lv_imul hx hb dX10_bar_52 ?_
            refine lv_topi (fun x146 ex146 => ?_)
            have tx146 : x146 = 0 := by rw [ex146]; rfl
            rw [tx146] at ex146 ⊢
            clear tx146 ex146
            refine lv_bipush (v := 16) hx hb dX10_bar_53 (by decide) ?_
            refine lv_iadd hx hb dX10_bar_55 ?_
            refine lv_topi (fun x147 ex147 => ?_)
            have tx147 : x147 = 16 := by rw [ex147]; rfl
            rw [tx147] at ex147 ⊢
            clear tx147 ex147
            refine lv_icmp_ge (tgt := 94) hx hb dX10_bar_56 (by decide) (fun c148 => ?_) (fun c148 => ?_)
            · have k149 := i_le c148
              refine lv_aload_n hx hb dX10_bar_94 rfl (lv_at hl143 1 rfl) ?_
              refine x_gr C hTH141 (ci := 10) (k := 16) rfl inX10 (by decide) wF_X10_50 gb rg_112 rfl dX10_bar_95 (fun q150 eq150 gq150 => ?_)
              refine lv_iconst (v := 2) hx hb dX10_bar_98 (by decide) ?_
              refine lv_aload_n hx hb dX10_bar_99 rfl (lv_at hl143 1 rfl) ?_
              refine x_gi C hTH141 (ci := 10) (k := 1) rfl inX10 (by decide) wF_X10_170 gb rg_112 rfl dX10_bar_100 (fun x151 ex151 bx151 => ?_)
              have ux151 : x151 = 0 := ex151.trans i144
              subst ux151
              refine lv_imul hx hb dX10_bar_103 ?_
              refine lv_topi (fun x152 ex152 => ?_)
              have tx152 : x152 = 0 := by rw [ex152]; rfl
              rw [tx152] at ex152 ⊢
              clear tx152 ex152
              refine lv_sipush (v := 500) hx hb dX10_bar_104 (by decide) ?_
              refine x_iast C hTH141 hSH141 gq150 rg_125 (by decide) (by decide) (by decide) (AE_in gq150 (by decide)) dX10_bar_107 (fun H153 locsH153 hTH153 hSH153 wH153 => ?_)
              have m154 := (Wr.neI wH153 (Or.inl (G_ne gb gq150 (by decide)))).trans i144
              have m155 := eq150.trans (Wr.neR wH153 (Or.inl (G_ne gb gq150 (by decide)))).symm
              have m156 := Wr.I wH153
              refine lv_aload_n hx hb dX10_bar_108 rfl (lv_at hl143 1 rfl) ?_
              refine x_gr C hTH153 (ci := 10) (k := 16) rfl inX10 (by decide) wF_X10_50 gb rg_112 rfl dX10_bar_109 (fun q157 eq157 gq157 => ?_)
              have uq157 : q150 = q157 := (m155).trans eq157.symm
              subst uq157
              refine lv_iconst (v := 2) hx hb dX10_bar_112 (by decide) ?_
              refine lv_aload_n hx hb dX10_bar_113 rfl (lv_at hl143 1 rfl) ?_
              refine x_gi C hTH153 (ci := 10) (k := 1) rfl inX10 (by decide) wF_X10_170 gb rg_112 rfl dX10_bar_114 (fun x158 ex158 bx158 => ?_)
              have ux158 : x158 = 0 := ex158.trans m154
              subst ux158
              refine lv_imul hx hb dX10_bar_117 ?_
              refine lv_topi (fun x159 ex159 => ?_)
              have tx159 : x159 = 0 := by rw [ex159]; rfl
              rw [tx159] at ex159 ⊢
              clear tx159 ex159
              refine lv_iconst (v := 1) hx hb dX10_bar_118 (by decide) ?_
              refine lv_iadd hx hb dX10_bar_119 ?_
              refine lv_topi (fun x160 ex160 => ?_)
              have tx160 : x160 = 1 := by rw [ex160]; rfl
              rw [tx160] at ex160 ⊢
              clear tx160 ex160
              refine lv_sipush (v := 500) hx hb dX10_bar_120 (by decide) ?_
              refine x_iast C hTH153 hSH153 gq150 rg_125 (by decide) (by decide) (by decide) (AE_in gq150 (by decide)) dX10_bar_123 (fun H161 locsH161 hTH161 hSH161 wH161 => ?_)
              have m162 := (Wr.neI wH161 (Or.inl (G_ne gb gq150 (by decide)))).trans m154
              have m163 := m155.trans (Wr.neR wH161 (Or.inl (G_ne gb gq150 (by decide)))).symm
              have m164 := (Wr.neI wH161 (Or.inr (by decide))).trans m156
              have m165 := Wr.I wH161
              refine lv_aload_n hx hb dX10_bar_124 rfl (lv_at hl143 1 rfl) ?_
              refine lv_aload_n hx hb dX10_bar_125 rfl (lv_at hl143 1 rfl) ?_
              refine x_gi C hTH161 (ci := 10) (k := 1) rfl inX10 (by decide) wF_X10_170 gb rg_112 rfl dX10_bar_126 (fun x166 ex166 bx166 => ?_)
              have ux166 : x166 = 0 := ex166.trans m162
              subst ux166
              refine lv_iconst (v := 1) hx hb dX10_bar_129 (by decide) ?_
              refine lv_iadd hx hb dX10_bar_130 ?_
              refine lv_topi (fun x167 ex167 => ?_)
              have tx167 : x167 = 1 := by rw [ex167]; rfl
              rw [tx167] at ex167 ⊢
              clear tx167 ex167
              refine x_put C hTH161 hSH161 (ci := 10) (k := 1) (v := .int 1) (ty0 := tyX10) rfl inX10 tyX10_ok nmX10 (by decide) rfl wF_X10_170 gb rg_112 rfl rfl (okI (by have := i_rng (1 : Int32); omega) (by have := i_rng (1 : Int32); omega)) rfl rfl (AE_in gb (by decide)) dX10_bar_131 (fun H168 locsH168 hTH168 hSH168 wH168 => ?_)
              have m170 := m163.trans (Wr.neR wH168 (Or.inr (x_apart hKT hts inX10 tyX10 tyX10_ok nmX10 rfl 16 1 (by decide) (by decide) (by decide)))).symm
              have m171 := (Wr.neI wH168 (Or.inl (G_ne gq150 gb (by decide)))).trans m164
              have m172 := (Wr.neI wH168 (Or.inl (G_ne gq150 gb (by decide)))).trans m165
              have m173 := Wr.I wH168
              refine lv_aload_n hx hb dX10_bar_134 rfl (lv_at hl143 1 rfl) ?_
              refine x_gi C hTH168 (ci := 10) (k := 1) rfl inX10 (by decide) wF_X10_170 gb rg_112 rfl dX10_bar_135 (fun x174 ex174 bx174 => ?_)
              have ux174 : x174 = 1 := ex174.trans m173
              subst ux174
              refine lv_iconst (v := 1) hx hb dX10_bar_138 (by decide) ?_
              refine lv_isub hx hb dX10_bar_139 ?_
              refine lv_topi (fun x175 ex175 => ?_)
              have tx175 : x175 = 0 := by rw [ex175]; rfl
              rw [tx175] at ex175 ⊢
              clear tx175 ex175
              exact x_iret C hQ dX10_bar_140 hSH168 (by decide) (by decide) (⟨⟨0, rfl, by omega⟩, G, fun _ _ => rfl, hTH168⟩)
            · have k149 := i_nle c148
              refine lv_aload_n hx hb dX10_bar_59 rfl (lv_at hl143 1 rfl) ?_
              refine x_gr C hTH141 (ci := 10) (k := 5) rfl inX10 (by decide) wF_X10_17 gb rg_112 rfl dX10_bar_60 (fun q176 eq176 gq176 => ?_)
              refine lv_iload_n hx hb dX10_bar_63 rfl (lv_at hl143 0 rfl) ?_
              refine lv_bipush (v := 20) hx hb dX10_bar_64 (by decide) ?_
              refine x_iast C hTH141 hSH141 gq176 rg_114 (by omega) (by show _ < ((160 : Nat) : Int); omega) (by decide) (AE_in gq176 (by decide)) dX10_bar_66 (fun H177 locsH177 hTH177 hSH177 wH177 => ?_)
              have m178 := (Wr.neI wH177 (Or.inl (G_ne gb gq176 (by decide)))).trans i144
              have m179 := eq176.trans (Wr.neR wH177 (Or.inl (G_ne gb gq176 (by decide)))).symm
              refine lv_aload_n hx hb dX10_bar_67 rfl (lv_at hl143 1 rfl) ?_
              refine x_gr C hTH177 (ci := 10) (k := 6) rfl inX10 (by decide) wF_X10_20 gb rg_112 rfl dX10_bar_68 (fun q180 eq180 gq180 => ?_)
              refine lv_iload_n hx hb dX10_bar_71 rfl (lv_at hl143 0 rfl) ?_
              refine lv_iconst (v := 5) hx hb dX10_bar_72 (by decide) ?_
              refine x_iast C hTH177 hSH177 gq180 rg_115 (by omega) (by show _ < ((160 : Nat) : Int); omega) (by decide) (AE_in gq180 (by decide)) dX10_bar_73 (fun H181 locsH181 hTH181 hSH181 wH181 => ?_)
              have m182 := (Wr.neI wH181 (Or.inl (G_ne gb gq180 (by decide)))).trans m178
              have m183 := m179.trans (Wr.neR wH181 (Or.inl (G_ne gb gq180 (by decide)))).symm
              have m184 := eq180.trans (Wr.neR wH181 (Or.inl (G_ne gb gq180 (by decide)))).symm
              refine lv_aload_n hx hb dX10_bar_74 rfl (lv_at hl143 1 rfl) ?_
              refine x_gr C hTH181 (ci := 10) (k := 7) rfl inX10 (by decide) wF_X10_23 gb rg_112 rfl dX10_bar_75 (fun q185 eq185 gq185 => ?_)
              refine lv_iload_n hx hb dX10_bar_78 rfl (lv_at hl143 0 rfl) ?_
              refine lv_iconst (v := 5) hx hb dX10_bar_79 (by decide) ?_
              refine x_iast C hTH181 hSH181 gq185 rg_116 (by omega) (by show _ < ((160 : Nat) : Int); omega) (by decide) (AE_in gq185 (by decide)) dX10_bar_80 (fun H186 locsH186 hTH186 hSH186 wH186 => ?_)
              have m187 := (Wr.neI wH186 (Or.inl (G_ne gb gq185 (by decide)))).trans m182
              have m188 := m183.trans (Wr.neR wH186 (Or.inl (G_ne gb gq185 (by decide)))).symm
              have m189 := m184.trans (Wr.neR wH186 (Or.inl (G_ne gb gq185 (by decide)))).symm
              have m190 := eq185.trans (Wr.neR wH186 (Or.inl (G_ne gb gq185 (by decide)))).symm
              refine lv_aload_n hx hb dX10_bar_81 rfl (lv_at hl143 1 rfl) ?_
              refine x_gr C hTH186 (ci := 10) (k := 8) rfl inX10 (by decide) wF_X10_26 gb rg_112 rfl dX10_bar_82 (fun q191 eq191 gq191 => ?_)
              refine lv_iload_n hx hb dX10_bar_85 rfl (lv_at hl143 0 rfl) ?_
              refine lv_iconst (v := 0) hx hb dX10_bar_86 (by decide) ?_
              refine x_iast C hTH186 hSH186 gq191 rg_117 (by omega) (by show _ < ((160 : Nat) : Int); omega) (by decide) (AE_in gq191 (by decide)) dX10_bar_87 (fun H192 locsH192 hTH192 hSH192 wH192 => ?_)
              have m193 := (Wr.neI wH192 (Or.inl (G_ne gb gq191 (by decide)))).trans m187
              have m194 := m188.trans (Wr.neR wH192 (Or.inl (G_ne gb gq191 (by decide)))).symm
              have m195 := m189.trans (Wr.neR wH192 (Or.inl (G_ne gb gq191 (by decide)))).symm
              have m196 := m190.trans (Wr.neR wH192 (Or.inl (G_ne gb gq191 (by decide)))).symm
              have m197 := eq191.trans (Wr.neR wH192 (Or.inl (G_ne gb gq191 (by decide)))).symm
              obtain ⟨x198, ex198⟩ : ∃ y : Int32, y = x140 + 1 := ⟨_, rfl⟩
              have tx198 := i_add ex198 (by omega)
              refine lv_iinc (v := x198) (lv' := [(2, .int x198), (0, .ref b), (1, .int x0)]) hx hb dX10_bar_88 hl143 (k := 0) rfl (by rw [ex198]; rfl) (by decide) rfl (fun ls199 hl200 => ?_)
              refine lv_goto (tgt := 45) hx hb dX10_bar_91 (by decide) ?_
              exact ihLp139 ls199 H192 locsH192 (x198) (lv_sub hl200 [0, 1, 2] rfl) hTH192 hSH192 (by omega) m193 (by omega)
        exact Lp139 ((16 - (0 : Int32).toInt).toNat + 1) ls137 H121 locsH121 (0) (lv_sub hl138 [0, 1, 2] rfl) hTH121 hSH121 (by omega) m122 (by omega)
      · have k118 := i_eq c117
        exfalso
        omega
  · subst hvH113
    refine W.eq (g2 := F0 m 13 ls [.int 0]) rfl ?_
    refine lv_if_eq (tgt := 25) hx hb dX10_bar_13 (by decide) (fun c201 => ?_) (fun c201 => ?_)
    · have k202 := i_eq c201
      refine lv_iconst (v := (-1)) hx hb dX10_bar_25 (by decide) ?_
      exact x_iret C hQ dX10_bar_26 hSH113 (by decide) (by decide) (⟨⟨(-1), rfl, by omega⟩, G, fun _ _ => rfl, hTH101⟩)
    · have k202 := i_ne c201
      exfalso
      omega
