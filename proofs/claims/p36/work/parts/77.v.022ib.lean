set_option maxHeartbeats 4000000 in
set_option maxRecDepth 100000 in
theorem a_X9_barAt_n (l : Launch) (K : KE) (G : Nat → Option Nat) (H : Heap) {a0 w0 : Nat} (x1 s1 : Int32) (hT : TY K G H) (ga0 : G a0 = some 68) (gw0 : G w0 = some 0) (ew0 : w0 = fR H a0 (K.1.2 9 0)) (es1 : s1 = fI H w0 (K.1.2 8 1)) (hr : x1.toInt < 0 ∨ s1.toInt ≤ x1.toInt) : MX l K yX9_barAt cX9_barAt 2 (some (.object "RingBars$Bar")) 1 22 0 0 [.ref a0, .int x1] H (AE G [] H.size) (fun v H1 => H1 = H ∧ v = some .null) := by
  refine MX.of (by decide +kernel) (Nat.le_of_ble_eq_true rfl) ?_
  intro p e s m below meth c ls Q C hH hl hQ
  subst hH
  have C : CX p K s m _ meth c RX9 cX9_barAt 2 (some (.object "RingBars$Bar")) "barAt" := C
  obtain ⟨hx, hb, hml, hown, hts, hKT, hr, hlocks, hnm⟩ := id C
  have hl : lv_has ls 2 [(0, .ref a0), (1, .int x1)] := hl
  have hS : va_S (AE G [] s.heap.size) s.heap s.heap [] := va_S.rf
  have n_0 : (0 : Int32).toInt = 0 := rfl
  have n_1 : (1 : Int32).toInt = 1 := rfl
  have bs1 := ty_fi (x := s1) (k := 1) es1 hT gw0 rg_0 rfl
  refine lv_iload_n hx hb dX9_barAt_0 rfl (lv_at hl 1 rfl) ?_
  refine lv_iconst (v := 0) hx hb dX9_barAt_1 (by decide) ?_
  refine lv_aload_n hx hb dX9_barAt_2 rfl (lv_at hl 0 rfl) ?_
  refine x_gr C hT (ci := 9) (k := 0) rfl inX9 (by decide) wF_X9_12 ga0 rg_68 rfl dX9_barAt_3 (fun q101 eq101 gq101 => ?_)
  have uq101 : w0 = q101 := (ew0).trans eq101.symm
  subst uq101
  refine x_gi C hT (ci := 8) (k := 1) rfl inX8 (by decide) wF_X9_64 gw0 rg_0 rfl dX9_barAt_6 (fun x102 ex102 bx102 => ?_)
  have ux102 : s1 = x102 := (es1).trans ex102.symm
  subst ux102
  refine lv_iconst (v := 1) hx hb dX9_barAt_9 (by decide) ?_
  refine lv_isub hx hb dX9_barAt_10 ?_
  refine lv_topi (fun x103 ex103 => ?_)
  have tx103 := i_sub ex103 (by omega)
  refine x_S (As := [.int x1, .int 0, .int x103]) (rest := []) C (a_X9_within_v l K G s.heap (x1) (0) (x103) hT) yo_X9_within wM_X9_89 ⟨⟨by decide, by decide⟩, by decide, by decide⟩ rfl hl.1 rfl (Nat.le_of_ble_eq_true rfl) dX9_barAt_11 hS (AE_sub (fun _ _ => rfl) (by decide) hS.1) (fun vH104 H104 locsH104 pH104 zH104 kH104 hSH104 => ?_)
  have hqH104 := pH104.1.symm
  subst hqH104
  rcases pH104.2 with ⟨hvH104, hcH104⟩ | ⟨hvH104, hcH104⟩
  · subst hvH104
    refine W.eq (g2 := F0 m 14 ls [.int 1]) rfl ?_
    refine lv_if_eq (tgt := 29) hx hb dX9_barAt_14 (by decide) (fun c105 => ?_) (fun c105 => ?_)
    · have k106 := i_eq c105
      exfalso
      omega
    · have k106 := i_ne c105
      refine lv_aload_n hx hb dX9_barAt_17 rfl (lv_at hl 0 rfl) ?_
      refine x_gr C hT (ci := 9) (k := 0) rfl inX9 (by decide) wF_X9_12 ga0 rg_68 rfl dX9_barAt_18 (fun q107 eq107 gq107 => ?_)
      have uq107 : w0 = q107 := (ew0).trans eq107.symm
      subst uq107
      refine x_gr C hT (ci := 8) (k := 0) rfl inX8 (by decide) wF_X9_68 gw0 rg_0 rfl dX9_barAt_21 (fun q108 eq108 gq108 => ?_)
      refine lv_iload_n hx hb dX9_barAt_24 rfl (lv_at hl 1 rfl) ?_
      refine x_ar C hT rfl rfl gq108 rg_25 ⟨by omega, by show _ < ((10 : Nat) : Int); omega⟩ dX9_barAt_25 (fun q109 eq109 gq109 => ?_)
      refine lv_goto (tgt := 30) hx hb dX9_barAt_26 (by decide) ?_
      exact x_aret C hQ (Or.inr ⟨_, rfl⟩) dX9_barAt_30 hSH104 (by decide) (by decide) ((by exfalso; omega))
  · subst hvH104
    refine W.eq (g2 := F0 m 14 ls [.int 0]) rfl ?_
    refine lv_if_eq (tgt := 29) hx hb dX9_barAt_14 (by decide) (fun c110 => ?_) (fun c110 => ?_)
    · have k111 := i_eq c110
      refine lv_null hx hb dX9_barAt_29 ?_
      exact x_aret C hQ (Or.inl rfl) dX9_barAt_30 hSH104 (by decide) (by decide) (⟨rfl, rfl⟩)
    · have k111 := i_ne c110
      exfalso
      omega

set_option maxHeartbeats 4000000 in
set_option maxRecDepth 100000 in
theorem a_X9_slice_n (l : Launch) (K : KE) (G : Nat → Option Nat) (H : Heap) {a0 : Nat} (x1 : Int32) (x2 : Int32) (x3 : Int32) (x4 : Int32) (x5 : Int32) {w0 : Nat} (s1 : Int32) (hT : TY K G H) (ga0 : G a0 = some 68) (gw0 : G w0 = some 0) (ew0 : w0 = fR H a0 (K.1.2 9 0)) (es1 : s1 = fI H w0 (K.1.2 8 1)) (hp0 : x1.toInt < 0 ∨ s1.toInt ≤ x1.toInt) : MX l K yX9_slice cX9_slice 7 (some .boolean) 2 43 0 0 [.ref a0, .int x1, .int x2, .int x3, .int x4, .int x5] H (AE G [] H.size) (fun v H1 => ∃ (r : Int32), v = some (.int r) ∧ (0 ≤ r.toInt ∧ r.toInt ≤ 0) ∧ TY K G H1) := by
  refine MX.of (by decide +kernel) (Nat.le_of_ble_eq_true rfl) ?_
  intro p e s m below meth c ls Q C hH hl hQ
  subst hH
  have C : CX p K s m _ meth c RX9 cX9_slice 7 (some .boolean) "slice" := C
  obtain ⟨hx, hb, hml, hown, hts, hKT, hr, hlocks, hnm⟩ := id C
  have hl : lv_has ls 7 [(0, .ref a0), (1, .int x1), (2, .int x2), (3, .int x3), (4, .int x4), (5, .int x5)] := hl
  have hS : va_S (AE G [] s.heap.size) s.heap s.heap [] := va_S.rf
  have n_0 : (0 : Int32).toInt = 0 := rfl
  have bs1 := ty_fi (x := s1) (k := 1) es1 hT gw0 rg_0 rfl
  refine lv_aload_n hx hb dX9_slice_0 rfl (lv_at hl 0 rfl) ?_
  refine lv_iload_n hx hb dX9_slice_1 rfl (lv_at hl 1 rfl) ?_
  refine x_V (As := [.int x1]) (rest := []) C (a_X9_barAt_n l K G s.heap (x1) (s1) hT ga0 gw0 ew0 es1 (by omega)) yo_X9_barAt wM_X9_78 ⟨⟨by decide, by decide⟩, by decide, by decide⟩ (x_rv C hT (ci := 9) rfl ga0 rg_68) rfl hl.1 rfl (Nat.le_of_ble_eq_true rfl) dX9_slice_2 hS (AE_sub (fun _ _ => rfl) (by decide) hS.1) (fun vH113 H113 locsH113 pH113 zH113 kH113 hSH113 => ?_)
  have hqH113 := pH113.1.symm
  subst hqH113
  have hvH113 := pH113.2
  subst hvH113
  refine W.eq (g2 := F0 m 5 ls [.null]) rfl ?_
  refine lv_astoreN (lv' := [(6, .null), (0, .ref a0), (1, .int x1), (2, .int x2), (3, .int x3), (4, .int x4), (5, .int x5)]) hx hb dX9_slice_5 hl (by decide) rfl (fun ls114 hl115 => ?_)
  refine lv_aloadN hx hb dX9_slice_7 (lv_at hl115 0 rfl) ?_
  refine lv_ifnullN (tgt := 61) hx hb dX9_slice_9 (by decide) ?_
  refine lv_iconst (v := 0) hx hb dX9_slice_61 (by decide) ?_
  exact x_zret C hQ (Or.inl rfl) dX9_slice_62 hSH113 (by decide) (by decide) (⟨0, rfl, by decide, hT⟩)

set_option maxHeartbeats 4000000 in
set_option maxRecDepth 100000 in
theorem a_X9_wax_n (l : Launch) (K : KE) (G : Nat → Option Nat) (H : Heap) {a0 : Nat} (x1 : Int32) (x2 : Int32) (x3 : Int32) {w0 : Nat} (s1 : Int32) (hT : TY K G H) (ga0 : G a0 = some 68) (gw0 : G w0 = some 0) (ew0 : w0 = fR H a0 (K.1.2 9 0)) (es1 : s1 = fI H w0 (K.1.2 8 1)) (hp0 : x1.toInt < 0 ∨ s1.toInt ≤ x1.toInt) : MX l K yX9_wax cX9_wax 5 (some .boolean) 2 43 0 0 [.ref a0, .int x1, .int x2, .int x3] H (AE G [] H.size) (fun v H1 => ∃ (r : Int32), v = some (.int r) ∧ (0 ≤ r.toInt ∧ r.toInt ≤ 0) ∧ TY K G H1) := by
  refine MX.of (by decide +kernel) (Nat.le_of_ble_eq_true rfl) ?_
  intro p e s m below meth c ls Q C hH hl hQ
  subst hH
  have C : CX p K s m _ meth c RX9 cX9_wax 5 (some .boolean) "wax" := C
  obtain ⟨hx, hb, hml, hown, hts, hKT, hr, hlocks, hnm⟩ := id C
  have hl : lv_has ls 5 [(0, .ref a0), (1, .int x1), (2, .int x2), (3, .int x3)] := hl
  have hS : va_S (AE G [] s.heap.size) s.heap s.heap [] := va_S.rf
  have n_0 : (0 : Int32).toInt = 0 := rfl
  have bs1 := ty_fi (x := s1) (k := 1) es1 hT gw0 rg_0 rfl
  refine lv_aload_n hx hb dX9_wax_0 rfl (lv_at hl 0 rfl) ?_
  refine lv_iload_n hx hb dX9_wax_1 rfl (lv_at hl 1 rfl) ?_
  refine x_V (As := [.int x1]) (rest := []) C (a_X9_barAt_n l K G s.heap (x1) (s1) hT ga0 gw0 ew0 es1 (by omega)) yo_X9_barAt wM_X9_78 ⟨⟨by decide, by decide⟩, by decide, by decide⟩ (x_rv C hT (ci := 9) rfl ga0 rg_68) rfl hl.1 rfl (Nat.le_of_ble_eq_true rfl) dX9_wax_2 hS (AE_sub (fun _ _ => rfl) (by decide) hS.1) (fun vH113 H113 locsH113 pH113 zH113 kH113 hSH113 => ?_)
  have hqH113 := pH113.1.symm
  subst hqH113
  have hvH113 := pH113.2
  subst hvH113
  refine W.eq (g2 := F0 m 5 ls [.null]) rfl ?_
  refine lv_astoreN (lv' := [(4, .null), (0, .ref a0), (1, .int x1), (2, .int x2), (3, .int x3)]) hx hb dX9_wax_5 hl (by decide) rfl (fun ls114 hl115 => ?_)
  refine lv_aloadN hx hb dX9_wax_7 (lv_at hl115 0 rfl) ?_
  refine lv_ifnullN (tgt := 31) hx hb dX9_wax_9 (by decide) ?_
  refine lv_iconst (v := 0) hx hb dX9_wax_31 (by decide) ?_
  exact x_zret C hQ (Or.inl rfl) dX9_wax_32 hSH113 (by decide) (by decide) (⟨0, rfl, by decide, hT⟩)

set_option maxHeartbeats 4000000 in
set_option maxRecDepth 100000 in
theorem a_X9_goal_n (l : Launch) (K : KE) (G : Nat → Option Nat) (H : Heap) {a0 : Nat} (x1 : Int32) (x2 : Int32) (x3 : Int32) {w0 : Nat} (s1 : Int32) (hT : TY K G H) (ga0 : G a0 = some 68) (gw0 : G w0 = some 0) (ew0 : w0 = fR H a0 (K.1.2 9 0)) (es1 : s1 = fI H w0 (K.1.2 8 1)) (hp0 : x1.toInt < 0 ∨ s1.toInt ≤ x1.toInt) : MX l K yX9_goal cX9_goal 5 (some .boolean) 2 43 0 0 [.ref a0, .int x1, .int x2, .int x3] H (AE G [] H.size) (fun v H1 => ∃ (r : Int32), v = some (.int r) ∧ (0 ≤ r.toInt ∧ r.toInt ≤ 0) ∧ TY K G H1) := by
  refine MX.of (by decide +kernel) (Nat.le_of_ble_eq_true rfl) ?_
  intro p e s m below meth c ls Q C hH hl hQ
  subst hH
  have C : CX p K s m _ meth c RX9 cX9_goal 5 (some .boolean) "goal" := C
  obtain ⟨hx, hb, hml, hown, hts, hKT, hr, hlocks, hnm⟩ := id C
  have hl : lv_has ls 5 [(0, .ref a0), (1, .int x1), (2, .int x2), (3, .int x3)] := hl
  have hS : va_S (AE G [] s.heap.size) s.heap s.heap [] := va_S.rf
  have n_0 : (0 : Int32).toInt = 0 := rfl
  have bs1 := ty_fi (x := s1) (k := 1) es1 hT gw0 rg_0 rfl
  refine lv_aload_n hx hb dX9_goal_0 rfl (lv_at hl 0 rfl) ?_
  refine lv_iload_n hx hb dX9_goal_1 rfl (lv_at hl 1 rfl) ?_
  refine x_V (As := [.int x1]) (rest := []) C (a_X9_barAt_n l K G s.heap (x1) (s1) hT ga0 gw0 ew0 es1 (by omega)) yo_X9_barAt wM_X9_78 ⟨⟨by decide, by decide⟩, by decide, by decide⟩ (x_rv C hT (ci := 9) rfl ga0 rg_68) rfl hl.1 rfl (Nat.le_of_ble_eq_true rfl) dX9_goal_2 hS (AE_sub (fun _ _ => rfl) (by decide) hS.1) (fun vH113 H113 locsH113 pH113 zH113 kH113 hSH113 => ?_)
  have hqH113 := pH113.1.symm
  subst hqH113
  have hvH113 := pH113.2
  subst hvH113
  refine W.eq (g2 := F0 m 5 ls [.null]) rfl ?_
  refine lv_astoreN (lv' := [(4, .null), (0, .ref a0), (1, .int x1), (2, .int x2), (3, .int x3)]) hx hb dX9_goal_5 hl (by decide) rfl (fun ls114 hl115 => ?_)
  refine lv_aloadN hx hb dX9_goal_7 (lv_at hl115 0 rfl) ?_
  refine lv_ifnullN (tgt := 29) hx hb dX9_goal_9 (by decide) ?_
  refine lv_iconst (v := 0) hx hb dX9_goal_29 (by decide) ?_
  exact x_zret C hQ (Or.inl rfl) dX9_goal_30 hSH113 (by decide) (by decide) (⟨0, rfl, by decide, hT⟩)

set_option maxHeartbeats 4000000 in
set_option maxRecDepth 100000 in
theorem a_X9_shave_n (l : Launch) (K : KE) (G : Nat → Option Nat) (H : Heap) {a0 : Nat} (x1 : Int32) (x2 : Int32) (x3 : Int32) {w0 : Nat} (s1 : Int32) (hT : TY K G H) (ga0 : G a0 = some 68) (gw0 : G w0 = some 0) (ew0 : w0 = fR H a0 (K.1.2 9 0)) (es1 : s1 = fI H w0 (K.1.2 8 1)) (hp0 : x1.toInt < 0 ∨ s1.toInt ≤ x1.toInt) : MX l K yX9_shave cX9_shave 5 (some .int) 2 43 0 0 [.ref a0, .int x1, .int x2, .int x3] H (AE G [] H.size) (fun v H1 => ∃ (r : Int32), v = some (.int r) ∧ ((-1) ≤ r.toInt ∧ r.toInt ≤ (-1)) ∧ TY K G H1) := by
  refine MX.of (by decide +kernel) (Nat.le_of_ble_eq_true rfl) ?_
  intro p e s m below meth c ls Q C hH hl hQ
  subst hH
  have C : CX p K s m _ meth c RX9 cX9_shave 5 (some .int) "shave" := C
  obtain ⟨hx, hb, hml, hown, hts, hKT, hr, hlocks, hnm⟩ := id C
  have hl : lv_has ls 5 [(0, .ref a0), (1, .int x1), (2, .int x2), (3, .int x3)] := hl
  have hS : va_S (AE G [] s.heap.size) s.heap s.heap [] := va_S.rf
  have n_m1 : ((-1) : Int32).toInt = -1 := rfl
  have bs1 := ty_fi (x := s1) (k := 1) es1 hT gw0 rg_0 rfl
  refine lv_aload_n hx hb dX9_shave_0 rfl (lv_at hl 0 rfl) ?_
  refine lv_iload_n hx hb dX9_shave_1 rfl (lv_at hl 1 rfl) ?_
  refine x_V (As := [.int x1]) (rest := []) C (a_X9_barAt_n l K G s.heap (x1) (s1) hT ga0 gw0 ew0 es1 (by omega)) yo_X9_barAt wM_X9_78 ⟨⟨by decide, by decide⟩, by decide, by decide⟩ (x_rv C hT (ci := 9) rfl ga0 rg_68) rfl hl.1 rfl (Nat.le_of_ble_eq_true rfl) dX9_shave_2 hS (AE_sub (fun _ _ => rfl) (by decide) hS.1) (fun vH113 H113 locsH113 pH113 zH113 kH113 hSH113 => ?_)
  have hqH113 := pH113.1.symm
  subst hqH113
  have hvH113 := pH113.2
  subst hvH113
  refine W.eq (g2 := F0 m 5 ls [.null]) rfl ?_
  refine lv_astoreN (lv' := [(4, .null), (0, .ref a0), (1, .int x1), (2, .int x2), (3, .int x3)]) hx hb dX9_shave_5 hl (by decide) rfl (fun ls114 hl115 => ?_)
  refine lv_aloadN hx hb dX9_shave_7 (lv_at hl115 0 rfl) ?_
  refine lv_ifnonnullN hx hb dX9_shave_9 ?_
  refine lv_iconst (v := (-1)) hx hb dX9_shave_12 (by decide) ?_
  exact x_iret C hQ dX9_shave_13 hSH113 (by decide) (by decide) (⟨(-1), rfl, by decide, hT⟩)

set_option maxHeartbeats 4000000 in
set_option maxRecDepth 100000 in
theorem a_X9_job_n (l : Launch) (K : KE) (G : Nat → Option Nat) (H : Heap) {a0 : Nat} (x1 : Int32) (x2 : Int32) {w0 : Nat} (s1 : Int32) (hT : TY K G H) (ga0 : G a0 = some 68) (gw0 : G w0 = some 0) (ew0 : w0 = fR H a0 (K.1.2 9 0)) (es1 : s1 = fI H w0 (K.1.2 8 1)) (hp0 : x2.toInt < 0 ∨ s1.toInt ≤ x2.toInt) : MX l K yX9_job cX9_job 7 (some .int) 2 43 0 0 [.ref a0, .int x1, .int x2] H (AE G [] H.size) (fun v H1 => ∃ (r : Int32), v = some (.int r) ∧ ((-1) ≤ r.toInt ∧ r.toInt ≤ (-1)) ∧ TY K G H1) := by
  refine MX.of (by decide +kernel) (Nat.le_of_ble_eq_true rfl) ?_
  intro p e s m below meth c ls Q C hH hl hQ
  subst hH
  have C : CX p K s m _ meth c RX9 cX9_job 7 (some .int) "job" := C
  obtain ⟨hx, hb, hml, hown, hts, hKT, hr, hlocks, hnm⟩ := id C
  have hl : lv_has ls 7 [(0, .ref a0), (1, .int x1), (2, .int x2)] := hl
  have hS : va_S (AE G [] s.heap.size) s.heap s.heap [] := va_S.rf
  have n_m1 : ((-1) : Int32).toInt = -1 := rfl
  have bs1 := ty_fi (x := s1) (k := 1) es1 hT gw0 rg_0 rfl
  refine lv_aload_n hx hb dX9_job_0 rfl (lv_at hl 0 rfl) ?_
  refine lv_iload_n hx hb dX9_job_1 rfl (lv_at hl 2 rfl) ?_
  refine x_V (As := [.int x2]) (rest := []) C (a_X9_barAt_n l K G s.heap (x2) (s1) hT ga0 gw0 ew0 es1 (by omega)) yo_X9_barAt wM_X9_78 ⟨⟨by decide, by decide⟩, by decide, by decide⟩ (x_rv C hT (ci := 9) rfl ga0 rg_68) rfl hl.1 rfl (Nat.le_of_ble_eq_true rfl) dX9_job_2 hS (AE_sub (fun _ _ => rfl) (by decide) hS.1) (fun vH113 H113 locsH113 pH113 zH113 kH113 hSH113 => ?_)
  have hqH113 := pH113.1.symm
  subst hqH113
  have hvH113 := pH113.2
  subst hvH113
  refine W.eq (g2 := F0 m 5 ls [.null]) rfl ?_
  refine lv_astore_nN (lv' := [(3, .null), (0, .ref a0), (1, .int x1), (2, .int x2)]) hx hb dX9_job_5 rfl hl (by decide) rfl (fun ls114 hl115 => ?_)
  refine lv_aload_nN hx hb dX9_job_6 rfl (lv_at hl115 0 rfl) ?_
  refine lv_ifnullN (tgt := 19) hx hb dX9_job_7 (by decide) ?_
  refine lv_iconst (v := (-1)) hx hb dX9_job_19 (by decide) ?_
  exact x_iret C hQ dX9_job_20 hSH113 (by decide) (by decide) (⟨(-1), rfl, by decide, hT⟩)

set_option maxHeartbeats 4000000 in
set_option maxRecDepth 100000 in
theorem a_X9_slice_v (l : Launch) (K : KE) (G : Nat → Option Nat) (H : Heap) {a0 : Nat} (x1 : Int32) (x2 : Int32) (x3 : Int32) (x4 : Int32) (x5 : Int32) {w0 : Nat} {bq : Nat} {bb : Nat} {kq : Nat} {gnq : Nat} {hvq : Nat} (s1 : Int32) (sz : Int32) (pcn : Int32) (hT : TY K G H) (ga0 : G a0 = some 68) (hx1 : 0 ≤ x1.toInt ∧ x1.toInt ≤ 9) (gw0 : G w0 = some 0) (ew0 : w0 = fR H a0 (K.1.2 9 0)) (gbq : G bq = some 25) (ebq : bq = fR H w0 (K.1.2 8 0)) (gbb : G bb = some 1) (ebb : bb = fR H bq (x1 : Int32).toNatClampNeg) (gkq : G kq = some 2) (ekq : kq = fR H bb (K.1.2 0 1)) (ggnq : G gnq = some 3) (egnq : gnq = fR H bb (K.1.2 0 2)) (ghvq : G hvq = some 4) (ehvq : hvq = fR H bb (K.1.2 0 3)) (es1 : s1 = fI H w0 (K.1.2 8 1)) (esz : sz = fI H bb (K.1.2 0 0)) (epcn : pcn = fI H bb (K.1.2 0 8)) (hp0 : x1.toInt < s1.toInt) : MX l K yX9_slice cX9_slice 7 (some .boolean) 2 43 0 0 [.ref a0, .int x1, .int x2, .int x3, .int x4, .int x5] H (AE G [2, 3, 4] H.size) (fun v H1 => ∃ (r : Int32), v = some (.int r) ∧ (0 ≤ r.toInt ∧ r.toInt ≤ 1) ∧ ((r.toInt = 1 ∧ slK (vwC K H bb) x2.toInt x3.toInt x4.toInt x5.toInt ∧ vwC K H1 bb = slV (vwC K H bb) x2.toInt x3.toInt x4.toInt x5.toInt) ∨ (r.toInt = 0 ∧ ¬ slK (vwC K H bb) x2.toInt x3.toInt x4.toInt x5.toInt ∧ vwC K H1 bb = vwC K H bb)) ∧ (∀ q t : Nat, G q = some t → q ≠ kq → q ≠ gnq → q ≠ hvq → H1[q]? = H[q]?) ∧ TY K G H1) := by
  refine MX.of (by decide +kernel) (Nat.le_of_ble_eq_true rfl) ?_
  intro p e s m below meth c ls Q C hH hl hQ
  subst hH
  have C : CX p K s m _ meth c RX9 cX9_slice 7 (some .boolean) "slice" := C
  obtain ⟨hx, hb, hml, hown, hts, hKT, hr, hlocks, hnm⟩ := id C
  have hl : lv_has ls 7 [(0, .ref a0), (1, .int x1), (2, .int x2), (3, .int x3), (4, .int x4), (5, .int x5)] := hl
  have hS : va_S (AE G [2, 3, 4] s.heap.size) s.heap s.heap [] := va_S.rf
  have n_0 : (0 : Int32).toInt = 0 := rfl
  have n_1 : (1 : Int32).toInt = 1 := rfl
  have n_9 : (9 : Int32).toInt = 9 := rfl
  have n_99 : (99 : Int32).toInt = 99 := rfl
  have bs1 := ty_fi (x := s1) (k := 1) es1 hT gw0 rg_0 rfl
  have bsz := ty_fi (x := sz) (k := 0) esz hT gbb rg_1 rfl
  have bpcn := ty_fi (x := pcn) (k := 8) epcn hT gbb rg_1 rfl
  have hapB : ∀ x y, x < 18 → y < 18 → x ≠ y → K.1.2 0 x ≠ K.1.2 0 y := x_apart hKT hts inX0 tyX0 tyX0_ok nmX0 rfl
  have vw_0 : vwC K s.heap bb = vwC K s.heap bb := rfl
  have v00 : vwC K s.heap bb 0 0 = sz.toInt := by rw [vwC_f (Or.inl rfl), ← esz]
  have v80 : vwC K s.heap bb 8 0 = pcn.toInt := by rw [vwC_f (Or.inr (Or.inl rfl)), ← epcn]
  have f0_fx : ∀ q t : Nat, G q = some t → q ≠ kq → q ≠ gnq → q ≠ hvq → s.heap[q]? = s.heap[q]? := fun _ _ _ _ _ _ => rfl
  refine lv_aload_n hx hb dX9_slice_0 rfl (lv_at hl 0 rfl) ?_
  refine lv_iload_n hx hb dX9_slice_1 rfl (lv_at hl 1 rfl) ?_
  refine x_V (As := [.int x1]) (rest := []) C (a_X9_barAt_v l K G s.heap (x1) (s1) hT ga0 gw0 ew0 gbq ebq es1 gbb ebb (by omega)) yo_X9_barAt wM_X9_78 ⟨⟨by decide, by decide⟩, by decide, by decide⟩ (x_rv C hT (ci := 9) rfl ga0 rg_68) rfl hl.1 rfl (Nat.le_of_ble_eq_true rfl) dX9_slice_2 hS (AE_sub (fun _ _ => rfl) (by decide) hS.1) (fun vH409 H409 locsH409 pH409 zH409 kH409 hSH409 => ?_)
  have hqH409 := pH409.1.symm
  subst hqH409
  have hvH409 := pH409.2
  subst hvH409
  refine W.eq (g2 := F0 m 5 ls [.ref bb]) rfl ?_
  refine lv_astore (lv' := [(6, .ref bb), (0, .ref a0), (1, .int x1), (2, .int x2), (3, .int x3), (4, .int x4), (5, .int x5)]) hx hb dX9_slice_5 hl (by decide) rfl (fun ls410 hl411 => ?_)
  refine lv_aload hx hb dX9_slice_7 (lv_at hl411 0 rfl) ?_
  refine lv_ifnull hx hb dX9_slice_9 ?_
  refine lv_aload hx hb dX9_slice_12 (lv_at hl411 0 rfl) ?_
  refine lv_iload_n hx hb dX9_slice_14 rfl (lv_at hl411 3 rfl) ?_
  refine x_V (As := [.int x2]) (rest := []) C (a_X0_has_v l K G s.heap (x2) (sz) hT gbb esz) yo_X0_has wM_X9_82 ⟨⟨by decide, by decide⟩, by decide, by decide⟩ (x_rv C hT (ci := 0) rfl gbb rg_1) rfl hl411.1 rfl (Nat.le_of_ble_eq_true rfl) dX9_slice_15 hSH409 (AE_sub (fun _ _ => rfl) (by decide) hSH409.1) (fun vH412 H412 locsH412 pH412 zH412 kH412 hSH412 => ?_)
  obtain ⟨x413, hvH412, bx413, hrH412, hTH412⟩ := pH412
  subst hvH412
  have f414 : ∀ q t : Nat, G q = some t → q ≠ kq → q ≠ gnq → q ≠ hvq → H412[q]? = s.heap[q]? := (fun q t hq  n1 n2 n3 => (x_lt hT kH412 hq (by first | omega | (intro z; simp only [List.mem_cons, List.not_mem_nil, or_false] at z <;> omega))).trans (f0_fx q t hq  n1 n2 n3))
  have m415 := (ew0).trans (fR_kept (x_lt hT kH412 ga0 (by decide))).symm
  have m416 := (ebq).trans (fR_kept (x_lt hT kH412 gw0 (by decide))).symm
  have m417 := (ebb).trans (fR_kept (x_lt hT kH412 gbq (by decide))).symm
  have m418 := (ekq).trans (fR_kept (x_lt hT kH412 gbb (by decide))).symm
  have m419 := (egnq).trans (fR_kept (x_lt hT kH412 gbb (by decide))).symm
  have m420 := (ehvq).trans (fR_kept (x_lt hT kH412 gbb (by decide))).symm
  have m421 := (es1).trans (fI_kept (x_lt hT kH412 gw0 (by decide))).symm
  have m422 := (esz).trans (fI_kept (x_lt hT kH412 gbb (by decide))).symm
  have m423 := (epcn).trans (fI_kept (x_lt hT kH412 gbb (by decide))).symm
  have vw424 : vwC K H412 bb = (vwC K s.heap bb) := (vw_frm hT gbb (fun q t hq h1 h2 => x_lt hT kH412 hq (by first | omega | (intro z; simp only [List.mem_cons, List.not_mem_nil, or_false] at z <;> omega)))).trans vw_0
  refine W.eq (g2 := F0 m 18 ls410 [.int x413]) rfl ?_
  refine lv_if_eq (tgt := 61) hx hb dX9_slice_18 (by decide) (fun c425 => ?_) (fun c425 => ?_)
  · have k426 := i_eq c425
    refine lv_iconst (v := 0) hx hb dX9_slice_61 (by decide) ?_
    exact x_zret C hQ (Or.inl rfl) dX9_slice_62 hSH412 (by decide) (by decide) (⟨0, rfl, by decide, (Or.inr ⟨rfl, (fun z => by unfold slK at z; rw [v00, v80] at z; omega), vw424⟩), f414, hTH412⟩)
  · have k426 := i_ne c425
    refine lv_aload hx hb dX9_slice_21 (lv_at hl411 0 rfl) ?_
    refine x_gi C hTH412 (ci := 0) (k := 8) rfl inX0 (by decide) wF_X9_86 gbb rg_1 rfl dX9_slice_23 (fun x427 ex427 bx427 => ?_)
    have ux427 : pcn = x427 := (m423).trans ex427.symm
    subst ux427
    refine lv_if_gt (tgt := 61) hx hb dX9_slice_26 (by decide) (fun c428 => ?_) (fun c428 => ?_)
    · have k429 := i_lt c428
      refine lv_iconst (v := 0) hx hb dX9_slice_61 (by decide) ?_
      exact x_zret C hQ (Or.inl rfl) dX9_slice_62 hSH412 (by decide) (by decide) (⟨0, rfl, by decide, (Or.inr ⟨rfl, (fun z => by unfold slK at z; rw [v00, v80] at z; omega), vw424⟩), f414, hTH412⟩)
    · have k429 := i_nlt c428
      refine lv_iload_n hx hb dX9_slice_29 rfl (lv_at hl411 4 rfl) ?_
      refine lv_iconst (v := 1) hx hb dX9_slice_30 (by decide) ?_
      refine lv_bipush (v := 99) hx hb dX9_slice_31 (by decide) ?_
      refine x_S (As := [.int x3, .int 1, .int 99]) (rest := []) C (a_X9_within_v l K G H412 (x3) (1) (99) hTH412) yo_X9_within wM_X9_89 ⟨⟨by decide, by decide⟩, by decide, by decide⟩ rfl hl411.1 rfl (Nat.le_of_ble_eq_true rfl) dX9_slice_33 hSH412 (AE_sub (fun _ _ => rfl) (by decide) hSH412.1) (fun vH430 H430 locsH430 pH430 zH430 kH430 hSH430 => ?_)
      have hqH430 := pH430.1.symm
      subst hqH430
      rcases pH430.2 with ⟨hvH430, hcH430⟩ | ⟨hvH430, hcH430⟩
      · subst hvH430
        refine W.eq (g2 := F0 m 36 ls410 [.int 1]) rfl ?_
        refine lv_if_eq (tgt := 61) hx hb dX9_slice_36 (by decide) (fun c431 => ?_) (fun c431 => ?_)
        · have k432 := i_eq c431
          exfalso
          omega
        · have k432 := i_ne c431
          refine lv_iload hx hb dX9_slice_39 (lv_at hl411 5 rfl) ?_
          refine lv_iconst (v := 1) hx hb dX9_slice_41 (by decide) ?_
          refine lv_bipush (v := 9) hx hb dX9_slice_42 (by decide) ?_
          refine x_S (As := [.int x4, .int 1, .int 9]) (rest := []) C (a_X9_within_v l K G H412 (x4) (1) (9) hTH412) yo_X9_within wM_X9_89 ⟨⟨by decide, by decide⟩, by decide, by decide⟩ rfl hl411.1 rfl (Nat.le_of_ble_eq_true rfl) dX9_slice_44 hSH430 (AE_sub (fun _ _ => rfl) (by decide) hSH430.1) (fun vH433 H433 locsH433 pH433 zH433 kH433 hSH433 => ?_)
          have hqH433 := pH433.1.symm
          subst hqH433
          rcases pH433.2 with ⟨hvH433, hcH433⟩ | ⟨hvH433, hcH433⟩
          · subst hvH433
            refine W.eq (g2 := F0 m 47 ls410 [.int 1]) rfl ?_
            refine lv_if_eq (tgt := 61) hx hb dX9_slice_47 (by decide) (fun c434 => ?_) (fun c434 => ?_)
            · have k435 := i_eq c434
              exfalso
              omega
            · have k435 := i_ne c434
              refine lv_iload hx hb dX9_slice_50 (lv_at hl411 6 rfl) ?_
              refine lv_iconst (v := 1) hx hb dX9_slice_52 (by decide) ?_
              refine lv_bipush (v := 9) hx hb dX9_slice_53 (by decide) ?_
              refine x_S (As := [.int x5, .int 1, .int 9]) (rest := []) C (a_X9_within_v l K G H412 (x5) (1) (9) hTH412) yo_X9_within wM_X9_89 ⟨⟨by decide, by decide⟩, by decide, by decide⟩ rfl hl411.1 rfl (Nat.le_of_ble_eq_true rfl) dX9_slice_55 hSH433 (AE_sub (fun _ _ => rfl) (by decide) hSH433.1) (fun vH436 H436 locsH436 pH436 zH436 kH436 hSH436 => ?_)
              have hqH436 := pH436.1.symm
              subst hqH436
              rcases pH436.2 with ⟨hvH436, hcH436⟩ | ⟨hvH436, hcH436⟩
              · subst hvH436
                refine W.eq (g2 := F0 m 58 ls410 [.int 1]) rfl ?_
                refine lv_if_ne (tgt := 63) hx hb dX9_slice_58 (by decide) (fun c437 => ?_) (fun c437 => ?_)
                · have k438 := i_ne c437
                  refine lv_aload hx hb dX9_slice_63 (lv_at hl411 0 rfl) ?_
                  refine x_gr C hTH412 (ci := 0) (k := 1) rfl inX0 (by decide) wF_X9_93 gbb rg_1 rfl dX9_slice_65 (fun q439 eq439 gq439 => ?_)
                  have uq439 : kq = q439 := (m418).trans eq439.symm
                  subst uq439
                  refine lv_iload_n hx hb dX9_slice_68 rfl (lv_at hl411 3 rfl) ?_
                  refine lv_iload_n hx hb dX9_slice_69 rfl (lv_at hl411 4 rfl) ?_
                  refine x_iast C hTH412 hSH436 gkq rg_2 (by omega) (by show _ < ((16 : Nat) : Int); omega) ⟨by have := i_rng x3; omega, by have := i_rng x3; omega⟩ (AE_in gkq (by decide)) dX9_slice_70 (fun H440 locsH440 hTH440 hSH440 wH440 => ?_)
                  have f441 : ∀ q t : Nat, G q = some t → q ≠ kq → q ≠ gnq → q ≠ hvq → H440[q]? = s.heap[q]? := (fun q t hq  n1 n2 n3 => (wH440.off n1).trans (f414 q t hq  n1 n2 n3))
                  have m442 := m415.trans (Wr.neR wH440 (Or.inl (G_ne ga0 gkq (by decide)))).symm
                  have m443 := m416.trans (Wr.neR wH440 (Or.inl (G_ne gw0 gkq (by decide)))).symm
                  have m444 := m417.trans (Wr.neR wH440 (Or.inl (G_ne gbq gkq (by decide)))).symm
                  have m445 := m418.trans (Wr.neR wH440 (Or.inl (G_ne gbb gkq (by decide)))).symm
                  have m446 := m419.trans (Wr.neR wH440 (Or.inl (G_ne gbb gkq (by decide)))).symm
                  have m447 := m420.trans (Wr.neR wH440 (Or.inl (G_ne gbb gkq (by decide)))).symm
                  have m448 := m421.trans (Wr.neI wH440 (Or.inl (G_ne gw0 gkq (by decide)))).symm
                  have m449 := m422.trans (Wr.neI wH440 (Or.inl (G_ne gbb gkq (by decide)))).symm
                  have m450 := m423.trans (Wr.neI wH440 (Or.inl (G_ne gbb gkq (by decide)))).symm
                  have m451 := Wr.I wH440
                  have m451 := m451.symm
                  have vw452 : vwC K H440 bb = (upV (vwC K s.heap bb) 1 x2.toNatClampNeg x3.toInt) := by rw [vw_arr hTH412 gbb wH440 m418 (by decide) rfl, vw424]
                  refine lv_aload hx hb dX9_slice_71 (lv_at hl411 0 rfl) ?_
                  refine x_gr C hTH440 (ci := 0) (k := 2) rfl inX0 (by decide) wF_X9_96 gbb rg_1 rfl dX9_slice_73 (fun q453 eq453 gq453 => ?_)
                  have uq453 : gnq = q453 := (m446).trans eq453.symm
                  subst uq453
                  refine lv_iload_n hx hb dX9_slice_76 rfl (lv_at hl411 3 rfl) ?_
                  refine lv_iload hx hb dX9_slice_77 (lv_at hl411 5 rfl) ?_
                  refine x_iast C hTH440 hSH440 ggnq rg_3 (by omega) (by show _ < ((16 : Nat) : Int); omega) ⟨by have := i_rng x4; omega, by have := i_rng x4; omega⟩ (AE_in ggnq (by decide)) dX9_slice_79 (fun H454 locsH454 hTH454 hSH454 wH454 => ?_)
                  have f455 : ∀ q t : Nat, G q = some t → q ≠ kq → q ≠ gnq → q ≠ hvq → H454[q]? = s.heap[q]? := (fun q t hq  n1 n2 n3 => (wH454.off n2).trans (f441 q t hq  n1 n2 n3))
                  have m456 := m442.trans (Wr.neR wH454 (Or.inl (G_ne ga0 ggnq (by decide)))).symm
                  have m457 := m443.trans (Wr.neR wH454 (Or.inl (G_ne gw0 ggnq (by decide)))).symm
                  have m458 := m444.trans (Wr.neR wH454 (Or.inl (G_ne gbq ggnq (by decide)))).symm
                  have m459 := m445.trans (Wr.neR wH454 (Or.inl (G_ne gbb ggnq (by decide)))).symm
                  have m460 := m446.trans (Wr.neR wH454 (Or.inl (G_ne gbb ggnq (by decide)))).symm
                  have m461 := m447.trans (Wr.neR wH454 (Or.inl (G_ne gbb ggnq (by decide)))).symm
                  have m462 := m448.trans (Wr.neI wH454 (Or.inl (G_ne gw0 ggnq (by decide)))).symm
                  have m463 := m449.trans (Wr.neI wH454 (Or.inl (G_ne gbb ggnq (by decide)))).symm
                  have m464 := m450.trans (Wr.neI wH454 (Or.inl (G_ne gbb ggnq (by decide)))).symm
                  have m465 := m451.trans (Wr.neI wH454 (Or.inl (G_ne gkq ggnq (by decide)))).symm
                  have m466 := Wr.I wH454
                  have m466 := m466.symm
                  have vw467 : vwC K H454 bb = (upV (upV (vwC K s.heap bb) 1 x2.toNatClampNeg x3.toInt) 2 x2.toNatClampNeg x4.toInt) := by rw [vw_arr hTH440 gbb wH454 m446 (by decide) rfl, vw452]
                  refine lv_aload hx hb dX9_slice_80 (lv_at hl411 0 rfl) ?_
                  refine x_gr C hTH454 (ci := 0) (k := 3) rfl inX0 (by decide) wF_X9_99 gbb rg_1 rfl dX9_slice_82 (fun q468 eq468 gq468 => ?_)
                  have uq468 : hvq = q468 := (m461).trans eq468.symm
                  subst uq468
                  refine lv_iload_n hx hb dX9_slice_85 rfl (lv_at hl411 3 rfl) ?_
                  refine lv_iload hx hb dX9_slice_86 (lv_at hl411 6 rfl) ?_
                  refine x_iast C hTH454 hSH454 ghvq rg_4 (by omega) (by show _ < ((16 : Nat) : Int); omega) ⟨by have := i_rng x5; omega, by have := i_rng x5; omega⟩ (AE_in ghvq (by decide)) dX9_slice_88 (fun H469 locsH469 hTH469 hSH469 wH469 => ?_)
                  have f470 : ∀ q t : Nat, G q = some t → q ≠ kq → q ≠ gnq → q ≠ hvq → H469[q]? = s.heap[q]? := (fun q t hq  n1 n2 n3 => (wH469.off n3).trans (f455 q t hq  n1 n2 n3))
                  have m471 := m456.trans (Wr.neR wH469 (Or.inl (G_ne ga0 ghvq (by decide)))).symm
                  have m472 := m457.trans (Wr.neR wH469 (Or.inl (G_ne gw0 ghvq (by decide)))).symm
                  have m473 := m458.trans (Wr.neR wH469 (Or.inl (G_ne gbq ghvq (by decide)))).symm
                  have m474 := m459.trans (Wr.neR wH469 (Or.inl (G_ne gbb ghvq (by decide)))).symm
                  have m475 := m460.trans (Wr.neR wH469 (Or.inl (G_ne gbb ghvq (by decide)))).symm
                  have m476 := m461.trans (Wr.neR wH469 (Or.inl (G_ne gbb ghvq (by decide)))).symm
                  have m477 := m462.trans (Wr.neI wH469 (Or.inl (G_ne gw0 ghvq (by decide)))).symm
                  have m478 := m463.trans (Wr.neI wH469 (Or.inl (G_ne gbb ghvq (by decide)))).symm
                  have m479 := m464.trans (Wr.neI wH469 (Or.inl (G_ne gbb ghvq (by decide)))).symm
                  have m480 := m465.trans (Wr.neI wH469 (Or.inl (G_ne gkq ghvq (by decide)))).symm
                  have m481 := m466.trans (Wr.neI wH469 (Or.inl (G_ne ggnq ghvq (by decide)))).symm
                  have m482 := Wr.I wH469
                  have m482 := m482.symm
                  have vw483 : vwC K H469 bb = (upV (upV (upV (vwC K s.heap bb) 1 x2.toNatClampNeg x3.toInt) 2 x2.toNatClampNeg x4.toInt) 3 x2.toNatClampNeg x5.toInt) := by rw [vw_arr hTH454 gbb wH469 m461 (by decide) rfl, vw467]
                  refine lv_iconst (v := 1) hx hb dX9_slice_89 (by decide) ?_
                  exact x_zret C hQ (Or.inr rfl) dX9_slice_90 hSH469 (by decide) (by decide) (⟨1, rfl, by decide, (Or.inl ⟨rfl, (by unfold slK; rw [v00, v80]; omega), vw483⟩), f470, hTH469⟩)
                · have k438 := i_eq c437
                  exfalso
                  omega
              · subst hvH436
                refine W.eq (g2 := F0 m 58 ls410 [.int 0]) rfl ?_
                refine lv_if_ne (tgt := 63) hx hb dX9_slice_58 (by decide) (fun c484 => ?_) (fun c484 => ?_)
                · have k485 := i_ne c484
                  exfalso
                  omega
                · have k485 := i_eq c484
                  refine lv_iconst (v := 0) hx hb dX9_slice_61 (by decide) ?_
                  exact x_zret C hQ (Or.inl rfl) dX9_slice_62 hSH436 (by decide) (by decide) (⟨0, rfl, by decide, (Or.inr ⟨rfl, (fun z => by unfold slK at z; rw [v00, v80] at z; omega), vw424⟩), f414, hTH412⟩)
          · subst hvH433
            refine W.eq (g2 := F0 m 47 ls410 [.int 0]) rfl ?_
            refine lv_if_eq (tgt := 61) hx hb dX9_slice_47 (by decide) (fun c486 => ?_) (fun c486 => ?_)
            · have k487 := i_eq c486
              refine lv_iconst (v := 0) hx hb dX9_slice_61 (by decide) ?_
              exact x_zret C hQ (Or.inl rfl) dX9_slice_62 hSH433 (by decide) (by decide) (⟨0, rfl, by decide, (Or.inr ⟨rfl, (fun z => by unfold slK at z; rw [v00, v80] at z; omega), vw424⟩), f414, hTH412⟩)
            · have k487 := i_ne c486
              exfalso
              omega
      · subst hvH430
        refine W.eq (g2 := F0 m 36 ls410 [.int 0]) rfl ?_
        refine lv_if_eq (tgt := 61) hx hb dX9_slice_36 (by decide) (fun c488 => ?_) (fun c488 => ?_)
        · have k489 := i_eq c488
          refine lv_iconst (v := 0) hx hb dX9_slice_61 (by decide) ?_
          exact x_zret C hQ (Or.inl rfl) dX9_slice_62 hSH430 (by decide) (by decide) (⟨0, rfl, by decide, (Or.inr ⟨rfl, (fun z => by unfold slK at z; rw [v00, v80] at z; omega), vw424⟩), f414, hTH412⟩)
        · have k489 := i_ne c488
          exfalso
          omega

set_option maxHeartbeats 4000000 in
set_option maxRecDepth 100000 in
theorem a_X9_wax_v (l : Launch) (K : KE) (G : Nat → Option Nat) (H : Heap) {a0 : Nat} (x1 : Int32) (x2 : Int32) (x3 : Int32) {w0 : Nat} {bq : Nat} {bb : Nat} {xq : Nat} (s1 : Int32) (sz : Int32) (hT : TY K G H) (ga0 : G a0 = some 68) (hx1 : 0 ≤ x1.toInt ∧ x1.toInt ≤ 9) (gw0 : G w0 = some 0) (ew0 : w0 = fR H a0 (K.1.2 9 0)) (gbq : G bq = some 25) (ebq : bq = fR H w0 (K.1.2 8 0)) (gbb : G bb = some 1) (ebb : bb = fR H bq (x1 : Int32).toNatClampNeg) (gxq : G xq = some 5) (exq : xq = fR H bb (K.1.2 0 4)) (es1 : s1 = fI H w0 (K.1.2 8 1)) (esz : sz = fI H bb (K.1.2 0 0)) (hp0 : x1.toInt < s1.toInt) : MX l K yX9_wax cX9_wax 5 (some .boolean) 2 43 0 0 [.ref a0, .int x1, .int x2, .int x3] H (AE G [5] H.size) (fun v H1 => ∃ (r : Int32), v = some (.int r) ∧ (0 ≤ r.toInt ∧ r.toInt ≤ 1) ∧ ((r.toInt = 1 ∧ wxK (vwC K H bb) x2.toInt x3.toInt ∧ vwC K H1 bb = wxV (vwC K H bb) x2.toInt x3.toInt) ∨ (r.toInt = 0 ∧ ¬ wxK (vwC K H bb) x2.toInt x3.toInt ∧ vwC K H1 bb = vwC K H bb)) ∧ (∀ q t : Nat, G q = some t → q ≠ xq → H1[q]? = H[q]?) ∧ TY K G H1) := by
  refine MX.of (by decide +kernel) (Nat.le_of_ble_eq_true rfl) ?_
  intro p e s m below meth c ls Q C hH hl hQ
  subst hH
  have C : CX p K s m _ meth c RX9 cX9_wax 5 (some .boolean) "wax" := C
  obtain ⟨hx, hb, hml, hown, hts, hKT, hr, hlocks, hnm⟩ := id C
  have hl : lv_has ls 5 [(0, .ref a0), (1, .int x1), (2, .int x2), (3, .int x3)] := hl
  have hS : va_S (AE G [5] s.heap.size) s.heap s.heap [] := va_S.rf
  have n_0 : (0 : Int32).toInt = 0 := rfl
  have n_1 : (1 : Int32).toInt = 1 := rfl
  have n_99 : (99 : Int32).toInt = 99 := rfl
  have bs1 := ty_fi (x := s1) (k := 1) es1 hT gw0 rg_0 rfl
  have bsz := ty_fi (x := sz) (k := 0) esz hT gbb rg_1 rfl
  have hapB : ∀ x y, x < 18 → y < 18 → x ≠ y → K.1.2 0 x ≠ K.1.2 0 y := x_apart hKT hts inX0 tyX0 tyX0_ok nmX0 rfl
  have vw_0 : vwC K s.heap bb = vwC K s.heap bb := rfl
  have v00 : vwC K s.heap bb 0 0 = sz.toInt := by rw [vwC_f (Or.inl rfl), ← esz]
  have f0_fx : ∀ q t : Nat, G q = some t → q ≠ xq → s.heap[q]? = s.heap[q]? := fun _ _ _ _ => rfl
  refine lv_aload_n hx hb dX9_wax_0 rfl (lv_at hl 0 rfl) ?_
  refine lv_iload_n hx hb dX9_wax_1 rfl (lv_at hl 1 rfl) ?_
  refine x_V (As := [.int x1]) (rest := []) C (a_X9_barAt_v l K G s.heap (x1) (s1) hT ga0 gw0 ew0 gbq ebq es1 gbb ebb (by omega)) yo_X9_barAt wM_X9_78 ⟨⟨by decide, by decide⟩, by decide, by decide⟩ (x_rv C hT (ci := 9) rfl ga0 rg_68) rfl hl.1 rfl (Nat.le_of_ble_eq_true rfl) dX9_wax_2 hS (AE_sub (fun _ _ => rfl) (by decide) hS.1) (fun vH217 H217 locsH217 pH217 zH217 kH217 hSH217 => ?_)
  have hqH217 := pH217.1.symm
  subst hqH217
  have hvH217 := pH217.2
  subst hvH217
  refine W.eq (g2 := F0 m 5 ls [.ref bb]) rfl ?_
  refine lv_astore (lv' := [(4, .ref bb), (0, .ref a0), (1, .int x1), (2, .int x2), (3, .int x3)]) hx hb dX9_wax_5 hl (by decide) rfl (fun ls218 hl219 => ?_)
  refine lv_aload hx hb dX9_wax_7 (lv_at hl219 0 rfl) ?_
  refine lv_ifnull hx hb dX9_wax_9 ?_
  refine lv_aload hx hb dX9_wax_12 (lv_at hl219 0 rfl) ?_
  refine lv_iload_n hx hb dX9_wax_14 rfl (lv_at hl219 3 rfl) ?_
  refine x_V (As := [.int x2]) (rest := []) C (a_X0_has_v l K G s.heap (x2) (sz) hT gbb esz) yo_X0_has wM_X9_82 ⟨⟨by decide, by decide⟩, by decide, by decide⟩ (x_rv C hT (ci := 0) rfl gbb rg_1) rfl hl219.1 rfl (Nat.le_of_ble_eq_true rfl) dX9_wax_15 hSH217 (AE_sub (fun _ _ => rfl) (by decide) hSH217.1) (fun vH220 H220 locsH220 pH220 zH220 kH220 hSH220 => ?_)
  obtain ⟨x221, hvH220, bx221, hrH220, hTH220⟩ := pH220
  subst hvH220
  have f222 : ∀ q t : Nat, G q = some t → q ≠ xq → H220[q]? = s.heap[q]? := (fun q t hq  n1 => (x_lt hT kH220 hq (by first | omega | (intro z; simp only [List.mem_cons, List.not_mem_nil, or_false] at z <;> omega))).trans (f0_fx q t hq  n1))
  have m223 := (ew0).trans (fR_kept (x_lt hT kH220 ga0 (by decide))).symm
  have m224 := (ebq).trans (fR_kept (x_lt hT kH220 gw0 (by decide))).symm
  have m225 := (ebb).trans (fR_kept (x_lt hT kH220 gbq (by decide))).symm
  have m226 := (exq).trans (fR_kept (x_lt hT kH220 gbb (by decide))).symm
  have m227 := (es1).trans (fI_kept (x_lt hT kH220 gw0 (by decide))).symm
  have m228 := (esz).trans (fI_kept (x_lt hT kH220 gbb (by decide))).symm
  have vw229 : vwC K H220 bb = (vwC K s.heap bb) := (vw_frm hT gbb (fun q t hq h1 h2 => x_lt hT kH220 hq (by first | omega | (intro z; simp only [List.mem_cons, List.not_mem_nil, or_false] at z <;> omega)))).trans vw_0
  refine W.eq (g2 := F0 m 18 ls218 [.int x221]) rfl ?_
  refine lv_if_eq (tgt := 31) hx hb dX9_wax_18 (by decide) (fun c230 => ?_) (fun c230 => ?_)
  · have k231 := i_eq c230
    refine lv_iconst (v := 0) hx hb dX9_wax_31 (by decide) ?_
    exact x_zret C hQ (Or.inl rfl) dX9_wax_32 hSH220 (by decide) (by decide) (⟨0, rfl, by decide, (Or.inr ⟨rfl, (fun z => by unfold wxK at z; rw [v00] at z; omega), vw229⟩), f222, hTH220⟩)
  · have k231 := i_ne c230
    refine lv_iload_n hx hb dX9_wax_21 rfl (lv_at hl219 4 rfl) ?_
    refine lv_iconst (v := 0) hx hb dX9_wax_22 (by decide) ?_
    refine lv_bipush (v := 99) hx hb dX9_wax_23 (by decide) ?_
    refine x_S (As := [.int x3, .int 0, .int 99]) (rest := []) C (a_X9_within_v l K G H220 (x3) (0) (99) hTH220) yo_X9_within wM_X9_89 ⟨⟨by decide, by decide⟩, by decide, by decide⟩ rfl hl219.1 rfl (Nat.le_of_ble_eq_true rfl) dX9_wax_25 hSH220 (AE_sub (fun _ _ => rfl) (by decide) hSH220.1) (fun vH232 H232 locsH232 pH232 zH232 kH232 hSH232 => ?_)
    have hqH232 := pH232.1.symm
    subst hqH232
    rcases pH232.2 with ⟨hvH232, hcH232⟩ | ⟨hvH232, hcH232⟩
    · subst hvH232
      refine W.eq (g2 := F0 m 28 ls218 [.int 1]) rfl ?_
      refine lv_if_ne (tgt := 33) hx hb dX9_wax_28 (by decide) (fun c233 => ?_) (fun c233 => ?_)
      · have k234 := i_ne c233
        refine lv_aload hx hb dX9_wax_33 (lv_at hl219 0 rfl) ?_
        refine x_gr C hTH220 (ci := 0) (k := 4) rfl inX0 (by decide) wF_X9_102 gbb rg_1 rfl dX9_wax_35 (fun q235 eq235 gq235 => ?_)
        have uq235 : xq = q235 := (m226).trans eq235.symm
        subst uq235
        refine lv_iload_n hx hb dX9_wax_38 rfl (lv_at hl219 3 rfl) ?_
        refine lv_iload_n hx hb dX9_wax_39 rfl (lv_at hl219 4 rfl) ?_
        refine x_iast C hTH220 hSH232 gxq rg_5 (by omega) (by show _ < ((16 : Nat) : Int); omega) ⟨by have := i_rng x3; omega, by have := i_rng x3; omega⟩ (AE_in gxq (by decide)) dX9_wax_40 (fun H236 locsH236 hTH236 hSH236 wH236 => ?_)
        have f237 : ∀ q t : Nat, G q = some t → q ≠ xq → H236[q]? = s.heap[q]? := (fun q t hq  n1 => (wH236.off n1).trans (f222 q t hq  n1))
        have m238 := m223.trans (Wr.neR wH236 (Or.inl (G_ne ga0 gxq (by decide)))).symm
        have m239 := m224.trans (Wr.neR wH236 (Or.inl (G_ne gw0 gxq (by decide)))).symm
        have m240 := m225.trans (Wr.neR wH236 (Or.inl (G_ne gbq gxq (by decide)))).symm
        have m241 := m226.trans (Wr.neR wH236 (Or.inl (G_ne gbb gxq (by decide)))).symm
        have m242 := m227.trans (Wr.neI wH236 (Or.inl (G_ne gw0 gxq (by decide)))).symm
        have m243 := m228.trans (Wr.neI wH236 (Or.inl (G_ne gbb gxq (by decide)))).symm
        have m244 := Wr.I wH236
        have m244 := m244.symm
        have vw245 : vwC K H236 bb = (upV (vwC K s.heap bb) 4 x2.toNatClampNeg x3.toInt) := by rw [vw_arr hTH220 gbb wH236 m226 (by decide) rfl, vw229]
        refine lv_iconst (v := 1) hx hb dX9_wax_41 (by decide) ?_
        exact x_zret C hQ (Or.inr rfl) dX9_wax_42 hSH236 (by decide) (by decide) (⟨1, rfl, by decide, (Or.inl ⟨rfl, (by unfold wxK; rw [v00]; omega), vw245⟩), f237, hTH236⟩)
      · have k234 := i_eq c233
        exfalso
        omega
    · subst hvH232
      refine W.eq (g2 := F0 m 28 ls218 [.int 0]) rfl ?_
      refine lv_if_ne (tgt := 33) hx hb dX9_wax_28 (by decide) (fun c246 => ?_) (fun c246 => ?_)
      · have k247 := i_ne c246
        exfalso
        omega
      · have k247 := i_eq c246
        refine lv_iconst (v := 0) hx hb dX9_wax_31 (by decide) ?_
        exact x_zret C hQ (Or.inl rfl) dX9_wax_32 hSH232 (by decide) (by decide) (⟨0, rfl, by decide, (Or.inr ⟨rfl, (fun z => by unfold wxK at z; rw [v00] at z; omega), vw229⟩), f222, hTH220⟩)

set_option maxHeartbeats 4000000 in
set_option maxRecDepth 100000 in
theorem a_X9_goal_v (l : Launch) (K : KE) (G : Nat → Option Nat) (H : Heap) {a0 : Nat} (x1 : Int32) (x2 : Int32) (x3 : Int32) {w0 : Nat} {bq : Nat} {bb : Nat} {gq : Nat} (s1 : Int32) (sz : Int32) (hT : TY K G H) (ga0 : G a0 = some 68) (hx1 : 0 ≤ x1.toInt ∧ x1.toInt ≤ 9) (gw0 : G w0 = some 0) (ew0 : w0 = fR H a0 (K.1.2 9 0)) (gbq : G bq = some 25) (ebq : bq = fR H w0 (K.1.2 8 0)) (gbb : G bb = some 1) (ebb : bb = fR H bq (x1 : Int32).toNatClampNeg) (ggq : G gq = some 6) (egq : gq = fR H bb (K.1.2 0 5)) (es1 : s1 = fI H w0 (K.1.2 8 1)) (esz : sz = fI H bb (K.1.2 0 0)) (hp0 : x1.toInt < s1.toInt) : MX l K yX9_goal cX9_goal 5 (some .boolean) 2 43 0 0 [.ref a0, .int x1, .int x2, .int x3] H (AE G [6] H.size) (fun v H1 => ∃ (r : Int32), v = some (.int r) ∧ (0 ≤ r.toInt ∧ r.toInt ≤ 1) ∧ ((r.toInt = 1 ∧ glK x2.toInt x3.toInt ∧ vwC K H1 bb = glV (vwC K H bb) x2.toInt x3.toInt) ∨ (r.toInt = 0 ∧ ¬ glK x2.toInt x3.toInt ∧ vwC K H1 bb = vwC K H bb)) ∧ (∀ q t : Nat, G q = some t → q ≠ gq → H1[q]? = H[q]?) ∧ TY K G H1) := by
  refine MX.of (by decide +kernel) (Nat.le_of_ble_eq_true rfl) ?_
  intro p e s m below meth c ls Q C hH hl hQ
  subst hH
  have C : CX p K s m _ meth c RX9 cX9_goal 5 (some .boolean) "goal" := C
  obtain ⟨hx, hb, hml, hown, hts, hKT, hr, hlocks, hnm⟩ := id C
  have hl : lv_has ls 5 [(0, .ref a0), (1, .int x1), (2, .int x2), (3, .int x3)] := hl
  have hS : va_S (AE G [6] s.heap.size) s.heap s.heap [] := va_S.rf
  have n_0 : (0 : Int32).toInt = 0 := rfl
  have n_1 : (1 : Int32).toInt = 1 := rfl
  have n_999999 : (999999 : Int32).toInt = 999999 := rfl
  have bs1 := ty_fi (x := s1) (k := 1) es1 hT gw0 rg_0 rfl
  have bsz := ty_fi (x := sz) (k := 0) esz hT gbb rg_1 rfl
  have hapB : ∀ x y, x < 18 → y < 18 → x ≠ y → K.1.2 0 x ≠ K.1.2 0 y := x_apart hKT hts inX0 tyX0 tyX0_ok nmX0 rfl
  have vw_0 : vwC K s.heap bb = vwC K s.heap bb := rfl
  have v00 : vwC K s.heap bb 0 0 = sz.toInt := by rw [vwC_f (Or.inl rfl), ← esz]
  have f0_fx : ∀ q t : Nat, G q = some t → q ≠ gq → s.heap[q]? = s.heap[q]? := fun _ _ _ _ => rfl
  refine lv_aload_n hx hb dX9_goal_0 rfl (lv_at hl 0 rfl) ?_
  refine lv_iload_n hx hb dX9_goal_1 rfl (lv_at hl 1 rfl) ?_
  refine x_V (As := [.int x1]) (rest := []) C (a_X9_barAt_v l K G s.heap (x1) (s1) hT ga0 gw0 ew0 gbq ebq es1 gbb ebb (by omega)) yo_X9_barAt wM_X9_78 ⟨⟨by decide, by decide⟩, by decide, by decide⟩ (x_rv C hT (ci := 9) rfl ga0 rg_68) rfl hl.1 rfl (Nat.le_of_ble_eq_true rfl) dX9_goal_2 hS (AE_sub (fun _ _ => rfl) (by decide) hS.1) (fun vH193 H193 locsH193 pH193 zH193 kH193 hSH193 => ?_)
  have hqH193 := pH193.1.symm
  subst hqH193
  have hvH193 := pH193.2
  subst hvH193
  refine W.eq (g2 := F0 m 5 ls [.ref bb]) rfl ?_
  refine lv_astore (lv' := [(4, .ref bb), (0, .ref a0), (1, .int x1), (2, .int x2), (3, .int x3)]) hx hb dX9_goal_5 hl (by decide) rfl (fun ls194 hl195 => ?_)
  refine lv_aload hx hb dX9_goal_7 (lv_at hl195 0 rfl) ?_
  refine lv_ifnull hx hb dX9_goal_9 ?_
  refine lv_iload_n hx hb dX9_goal_12 rfl (lv_at hl195 3 rfl) ?_
  refine x_S (As := [.int x2]) (rest := []) C (c_X9_isTone l K G s.heap (x2) hT) yo_X9_isTone wM_X9_150 ⟨⟨by decide, by decide⟩, by decide, by decide⟩ rfl hl195.1 rfl (Nat.le_of_ble_eq_true rfl) dX9_goal_13 hSH193 (AE_sub (fun _ _ => rfl) (by decide) hSH193.1) (fun vH196 H196 locsH196 pH196 zH196 kH196 hSH196 => ?_)
  have hqH196 := pH196.1.symm
  subst hqH196
  rcases pH196.2 with ⟨hvH196, hcH196⟩ | ⟨hvH196, hcH196⟩
  · subst hvH196
    refine W.eq (g2 := F0 m 16 ls194 [.int 1]) rfl ?_
    refine lv_if_eq (tgt := 29) hx hb dX9_goal_16 (by decide) (fun c197 => ?_) (fun c197 => ?_)
    · have k198 := i_eq c197
      exfalso
      omega
    · have k198 := i_ne c197
      refine lv_iload_n hx hb dX9_goal_19 rfl (lv_at hl195 4 rfl) ?_
      refine lv_iconst (v := 0) hx hb dX9_goal_20 (by decide) ?_
      refine lv_ldc (v := 999999) hx hb hown (hts _ wK_X9_180) dX9_goal_21 ?_
      refine x_S (As := [.int x3, .int 0, .int 999999]) (rest := []) C (a_X9_within_v l K G s.heap (x3) (0) (999999) hT) yo_X9_within wM_X9_89 ⟨⟨by decide, by decide⟩, by decide, by decide⟩ rfl hl195.1 rfl (Nat.le_of_ble_eq_true rfl) dX9_goal_23 hSH196 (AE_sub (fun _ _ => rfl) (by decide) hSH196.1) (fun vH199 H199 locsH199 pH199 zH199 kH199 hSH199 => ?_)
      have hqH199 := pH199.1.symm
      subst hqH199
      rcases pH199.2 with ⟨hvH199, hcH199⟩ | ⟨hvH199, hcH199⟩
      · subst hvH199
        refine W.eq (g2 := F0 m 26 ls194 [.int 1]) rfl ?_
        refine lv_if_ne (tgt := 31) hx hb dX9_goal_26 (by decide) (fun c200 => ?_) (fun c200 => ?_)
        · have k201 := i_ne c200
          refine lv_aload hx hb dX9_goal_31 (lv_at hl195 0 rfl) ?_
          refine x_gr C hT (ci := 0) (k := 5) rfl inX0 (by decide) wF_X9_181 gbb rg_1 rfl dX9_goal_33 (fun q202 eq202 gq202 => ?_)
          have uq202 : gq = q202 := (egq).trans eq202.symm
          subst uq202
          refine lv_iload_n hx hb dX9_goal_36 rfl (lv_at hl195 3 rfl) ?_
          refine lv_iload_n hx hb dX9_goal_37 rfl (lv_at hl195 4 rfl) ?_
          refine x_iast C hT hSH199 ggq rg_6 (by omega) (by show _ < ((3 : Nat) : Int); omega) ⟨by have := i_rng x3; omega, by have := i_rng x3; omega⟩ (AE_in ggq (by decide)) dX9_goal_38 (fun H203 locsH203 hTH203 hSH203 wH203 => ?_)
          have f204 : ∀ q t : Nat, G q = some t → q ≠ gq → H203[q]? = s.heap[q]? := (fun q t hq  n1 => (wH203.off n1).trans (f0_fx q t hq  n1))
          have m205 := ew0.trans (Wr.neR wH203 (Or.inl (G_ne ga0 ggq (by decide)))).symm
          have m206 := ebq.trans (Wr.neR wH203 (Or.inl (G_ne gw0 ggq (by decide)))).symm
          have m207 := ebb.trans (Wr.neR wH203 (Or.inl (G_ne gbq ggq (by decide)))).symm
          have m208 := egq.trans (Wr.neR wH203 (Or.inl (G_ne gbb ggq (by decide)))).symm
          have m209 := es1.trans (Wr.neI wH203 (Or.inl (G_ne gw0 ggq (by decide)))).symm
          have m210 := esz.trans (Wr.neI wH203 (Or.inl (G_ne gbb ggq (by decide)))).symm
          have m211 := Wr.I wH203
          have m211 := m211.symm
          have vw212 : vwC K H203 bb = (upV (vwC K s.heap bb) 5 x2.toNatClampNeg x3.toInt) := by rw [vw_arr hT gbb wH203 egq (by decide) rfl, vw_0]
          refine lv_iconst (v := 1) hx hb dX9_goal_39 (by decide) ?_
          exact x_zret C hQ (Or.inr rfl) dX9_goal_40 hSH203 (by decide) (by decide) (⟨1, rfl, by decide, (Or.inl ⟨rfl, (by unfold glK; omega), vw212⟩), f204, hTH203⟩)
        · have k201 := i_eq c200
          exfalso
          omega
      · subst hvH199
        refine W.eq (g2 := F0 m 26 ls194 [.int 0]) rfl ?_
        refine lv_if_ne (tgt := 31) hx hb dX9_goal_26 (by decide) (fun c213 => ?_) (fun c213 => ?_)
        · have k214 := i_ne c213
          exfalso
          omega
        · have k214 := i_eq c213
          refine lv_iconst (v := 0) hx hb dX9_goal_29 (by decide) ?_
          exact x_zret C hQ (Or.inl rfl) dX9_goal_30 hSH199 (by decide) (by decide) (⟨0, rfl, by decide, (Or.inr ⟨rfl, (fun z => by unfold glK at z; omega), vw_0⟩), f0_fx, hT⟩)
  · subst hvH196
    refine W.eq (g2 := F0 m 16 ls194 [.int 0]) rfl ?_
    refine lv_if_eq (tgt := 29) hx hb dX9_goal_16 (by decide) (fun c215 => ?_) (fun c215 => ?_)
    · have k216 := i_eq c215
      refine lv_iconst (v := 0) hx hb dX9_goal_29 (by decide) ?_
      exact x_zret C hQ (Or.inl rfl) dX9_goal_30 hSH196 (by decide) (by decide) (⟨0, rfl, by decide, (Or.inr ⟨rfl, (fun z => by unfold glK at z; omega), vw_0⟩), f0_fx, hT⟩)
    · have k216 := i_ne c215
      exfalso
      omega

set_option maxHeartbeats 4000000 in
set_option maxRecDepth 100000 in
theorem a_X9_shave_v (l : Launch) (K : KE) (G : Nat → Option Nat) (H : Heap) {a0 : Nat} (x1 : Int32) (x2 : Int32) (x3 : Int32) {smq : Nat} {w0 : Nat} {lawq : Nat} {tx : Nat} {bq : Nat} {bb : Nat} {kq : Nat} {xq : Nat} {gq : Nat} {psq : Nat} {pdq : Nat} (pcn : Int32) (lb : Int32) (s1 : Int32) (fo : Int32) (sl : Int32) (sz : Int32) (fsE : Nat → EF) (fwE : Nat → EF) (hT : TY K G H) (ga0 : G a0 = some 68) (hx1 : 0 ≤ x1.toInt ∧ x1.toInt ≤ 9) (gsmq : G smq = some 82) (esmq : smq = fR H a0 (K.1.2 9 5)) (gw0 : G w0 = some 0) (ew0 : w0 = fR H a0 (K.1.2 9 0)) (glawq : G lawq = some 26) (elawq : lawq = fR H w0 (K.1.2 8 2)) (gtx : G tx = some 16) (etx : tx = fR H lawq (fo : Int32).toNatClampNeg) (gbq : G bq = some 25) (ebq : bq = fR H w0 (K.1.2 8 0)) (gbb : G bb = some 1) (ebb : bb = fR H bq (x1 : Int32).toNatClampNeg) (gkq : G kq = some 2) (ekq : kq = fR H bb (K.1.2 0 1)) (gxq : G xq = some 5) (exq : xq = fR H bb (K.1.2 0 4)) (ggq : G gq = some 6) (egq : gq = fR H bb (K.1.2 0 5)) (gpsq : G psq = some 7) (epsq : psq = fR H bb (K.1.2 0 6)) (gpdq : G pdq = some 8) (epdq : pdq = fR H bb (K.1.2 0 7)) (epcn : pcn = fI H bb (K.1.2 0 8)) (elb : lb = fI H bb (K.1.2 0 9)) (es1 : s1 = fI H w0 (K.1.2 8 1)) (efo : fo = fI H w0 (K.1.2 8 4)) (esl : sl = fI H w0 (K.1.2 8 5)) (esz : sz = fI H bb (K.1.2 0 0)) (hp0 : 0 ≤ sl.toInt ∧ sl.toInt ≤ 9999) (hp1 : x1.toInt < s1.toInt) (hy0 : TXC K H tx 1 fsE fwE) (hy1 : ∀ j : Nat, j < 3 → 0 ≤ (fI H gq j).toInt ∧ (fI H gq j).toInt ≤ 999999) : MX l K yX9_shave cX9_shave 5 (some .int) 6 149 0 0 [.ref a0, .int x1, .int x2, .int x3] H (AE G [1, 2, 7, 8, 83, 84] H.size) (fun v H1 => ∃ (r : Int32) (t0 : Int32) (t1 : Int32), v = some (.int r) ∧ t0 = fI H1 bb (K.1.2 0 8) ∧ t1 = fI H1 bb (K.1.2 0 9) ∧ kq = fR H1 bb (K.1.2 0 1) ∧ xq = fR H1 bb (K.1.2 0 4) ∧ gq = fR H1 bb (K.1.2 0 5) ∧ psq = fR H1 bb (K.1.2 0 6) ∧ pdq = fR H1 bb (K.1.2 0 7) ∧ sz = fI H1 bb (K.1.2 0 0) ∧ (vwC K H1 bb = paV (tlC K H tx fsE fwE) sl.toInt (vwC K H bb) x2.toInt x3.toInt) ∧ (r.toInt = paR (vwC K H bb) x2.toInt x3.toInt) ∧ (∀ q t : Nat, G q = some t → t ≠ 83 → t ≠ 84 → q ≠ bb → q ≠ kq → q ≠ psq → q ≠ pdq → H1[q]? = H[q]?) ∧ (RFB K H1 H bb) ∧ TY K G H1) := by
  refine MX.of (by decide +kernel) (Nat.le_of_ble_eq_true rfl) ?_
  intro p e s m below meth c ls Q C hH hl hQ
  subst hH
  have C : CX p K s m _ meth c RX9 cX9_shave 5 (some .int) "shave" := C
  obtain ⟨hx, hb, hml, hown, hts, hKT, hr, hlocks, hnm⟩ := id C
  have hl : lv_has ls 5 [(0, .ref a0), (1, .int x1), (2, .int x2), (3, .int x3)] := hl
  have hS : va_S (AE G [1, 2, 7, 8, 83, 84] s.heap.size) s.heap s.heap [] := va_S.rf
  skip
  have bpcn := ty_fi (x := pcn) (k := 8) epcn hT gbb rg_1 rfl
  have blb := ty_fi (x := lb) (k := 9) elb hT gbb rg_1 rfl
  have bs1 := ty_fi (x := s1) (k := 1) es1 hT gw0 rg_0 rfl
  have bfo := ty_fi (x := fo) (k := 4) efo hT gw0 rg_0 rfl
  have bsl := ty_fi (x := sl) (k := 5) esl hT gw0 rg_0 rfl
  have bsz := ty_fi (x := sz) (k := 0) esz hT gbb rg_1 rfl
  refine lv_aload_n hx hb dX9_shave_0 rfl (lv_at hl 0 rfl) ?_
  refine lv_iload_n hx hb dX9_shave_1 rfl (lv_at hl 1 rfl) ?_
  refine x_V (As := [.int x1]) (rest := []) C (a_X9_barAt_v l K G s.heap (x1) (s1) hT ga0 gw0 ew0 gbq ebq es1 gbb ebb (by omega)) yo_X9_barAt wM_X9_78 ⟨⟨by decide, by decide⟩, by decide, by decide⟩ (x_rv C hT (ci := 9) rfl ga0 rg_68) rfl hl.1 rfl (Nat.le_of_ble_eq_true rfl) dX9_shave_2 hS (AE_sub (fun _ _ => rfl) (by decide) hS.1) (fun vH205 H205 locsH205 pH205 zH205 kH205 hSH205 => ?_)
  have hqH205 := pH205.1.symm
  subst hqH205
  have hvH205 := pH205.2
  subst hvH205
  refine W.eq (g2 := F0 m 5 ls [.ref bb]) rfl ?_
  refine lv_astore (lv' := [(4, .ref bb), (0, .ref a0), (1, .int x1), (2, .int x2), (3, .int x3)]) hx hb dX9_shave_5 hl (by decide) rfl (fun ls206 hl207 => ?_)
  refine lv_aload hx hb dX9_shave_7 (lv_at hl207 0 rfl) ?_
  refine lv_ifnonnull (tgt := 14) hx hb dX9_shave_9 (by decide) ?_
  refine lv_aload_n hx hb dX9_shave_14 rfl (lv_at hl207 1 rfl) ?_
  refine lv_aload hx hb dX9_shave_15 (lv_at hl207 0 rfl) ?_
  refine lv_iload_n hx hb dX9_shave_17 rfl (lv_at hl207 3 rfl) ?_
  refine lv_iload_n hx hb dX9_shave_18 rfl (lv_at hl207 4 rfl) ?_
  refine x_V (As := [.ref bb, .int x2, .int x3]) (rest := []) C (a_X9_takeOff_v l K G s.heap (x2) (x3) (pcn) (lb) (fo) (sl) (sz) (fsE) (fwE) hT ga0 gbb gsmq esmq gw0 ew0 glawq elawq gtx etx gkq ekq gxq exq ggq egq gpsq epsq gpdq epdq epcn elb efo esl esz (by omega) (hy0) (hy1)) yo_X9_takeOff wM_X9_170 ⟨⟨by decide, by decide⟩, by decide, by decide⟩ (x_rv C hT (ci := 9) rfl ga0 rg_68) rfl hl207.1 rfl (Nat.le_of_ble_eq_true rfl) dX9_shave_19 hSH205 (AE_sub (fun _ _ => rfl) (by decide) hSH205.1) (fun vH208 H208 locsH208 pH208 zH208 kH208 hSH208 => ?_)
  obtain ⟨x209, x210, x211, hvH208, ex210, ex211, m212, m213, m214, m215, m216, m217, m218, m219, m220, m221, hTH208⟩ := pH208
  subst hvH208
  have m222 := (esmq).trans (fR_kept (x_lt hT kH208 ga0 (by decide))).symm
  have m223 := (ew0).trans (fR_kept (x_lt hT kH208 ga0 (by decide))).symm
  have m224 := (elawq).trans (fR_kept (x_lt hT kH208 gw0 (by decide))).symm
  have m225 := (etx).trans (fR_kept (x_lt hT kH208 glawq (by decide))).symm
  have m226 := (ebq).trans (fR_kept (x_lt hT kH208 gw0 (by decide))).symm
  have m227 := (ebb).trans (fR_kept (x_lt hT kH208 gbq (by decide))).symm
  have m228 := (es1).trans (fI_kept (x_lt hT kH208 gw0 (by decide))).symm
  have m229 := (efo).trans (fI_kept (x_lt hT kH208 gw0 (by decide))).symm
  have m230 := (esl).trans (fI_kept (x_lt hT kH208 gw0 (by decide))).symm
  have bx210 := ty_fi (x := x210) (k := 8) ex210 hTH208 gbb rg_1 rfl
  have bx211 := ty_fi (x := x211) (k := 9) ex211 hTH208 gbb rg_1 rfl
  refine W.eq (g2 := F0 m 22 ls206 [.int x209]) rfl ?_
  exact x_iret C hQ dX9_shave_22 hSH208 (by decide) (by decide) (⟨x209, x210, x211, rfl, ex210, ex211, m212, m213, m214, m215, m216, m217, m218, m219, m220, m221, hTH208⟩)
