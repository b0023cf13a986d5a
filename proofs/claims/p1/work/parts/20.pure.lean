theorem i_01 {x : Int32} (h : x.toInt = 0 ∨ x.toInt = 1) : x = 0 ∨ x = 1 := by
  rcases h with h | h
  · exact Or.inl (Int32.toInt_inj.mp (by rw [h]; rfl))
  · exact Or.inr (Int32.toInt_inj.mp (by rw [h]; rfl))
theorem okI {G : Nat → Option Nat} {lo hi : Int} {x : Int32} (h1 : lo ≤ x.toInt) (h2 : x.toInt ≤ hi) : OkV G (0, lo, hi) (.int x) := ⟨x, rfl, h1, h2⟩
theorem i_nn {x y : Int32} (h : ¬ ¬ x = y) : x.toInt = y.toInt := by rw [Classical.not_not.mp h]

set_option maxHeartbeats 4000000 in
set_option maxRecDepth 100000 in
theorem c_X9_within (l : Launch) (K : KE) (G : Nat → Option Nat) (H : Heap) (x0 : Int32) (x1 : Int32) (x2 : Int32)  (hT : TY K G H)  : MX l K yX9_within cX9_within 3 (some .boolean) 0 0 0 0 [.int x0, .int x1, .int x2] H (AE G [] H.size) (fun v H1 => H1 = H ∧ ((v = some (.int 1) ∧ (x1.toInt ≤ x0.toInt ∧ x0.toInt ≤ x2.toInt)) ∨ (v = some (.int 0) ∧ ¬ (x1.toInt ≤ x0.toInt ∧ x0.toInt ≤ x2.toInt)))) := by
  refine MX.of (by decide +kernel) (Nat.le_of_ble_eq_true rfl) ?_
  intro p e s m below meth c ls Q C hH hl hQ
  subst hH
  have C : CX p K s m _ meth c RX9 cX9_within 3 (some .boolean) "within" := C
  obtain ⟨hx, hb, hml, hown, hts, hKT, hr, hlocks, hnm⟩ := id C
  have hl : lv_has ls 3 [(0, .int x0), (1, .int x1), (2, .int x2)] := hl
  have hS : va_S (AE G [] s.heap.size) s.heap s.heap [] := va_S.rf
  have n_0 : (0 : Int32).toInt = 0 := rfl
  have n_1 : (1 : Int32).toInt = 1 := rfl
  refine lv_iload_n hx hb dX9_within_0 rfl (lv_at hl 0 rfl) ?_
  refine lv_iload_n hx hb dX9_within_1 rfl (lv_at hl 1 rfl) ?_
  refine lv_icmp_lt (tgt := 14) hx hb dX9_within_2 (by decide) (fun c1 => ?_) (fun c1 => ?_)
  · have k2 := i_lt c1
    refine lv_iconst (v := 0) hx hb dX9_within_14 (by decide) ?_
    exact x_zret C hQ (Or.inl rfl) dX9_within_15 hS (by decide) (by decide) (⟨rfl, Or.inr ⟨rfl, by omega⟩⟩)
  · have k2 := i_nlt c1
    refine lv_iload_n hx hb dX9_within_5 rfl (lv_at hl 0 rfl) ?_
    refine lv_iload_n hx hb dX9_within_6 rfl (lv_at hl 2 rfl) ?_
    refine lv_icmp_gt (tgt := 14) hx hb dX9_within_7 (by decide) (fun c3 => ?_) (fun c3 => ?_)
    · have k4 := i_lt c3
      refine lv_iconst (v := 0) hx hb dX9_within_14 (by decide) ?_
      exact x_zret C hQ (Or.inl rfl) dX9_within_15 hS (by decide) (by decide) (⟨rfl, Or.inr ⟨rfl, by omega⟩⟩)
    · have k4 := i_nlt c3
      refine lv_iconst (v := 1) hx hb dX9_within_10 (by decide) ?_
      refine lv_goto (tgt := 15) hx hb dX9_within_11 (by decide) ?_
      exact x_zret C hQ (Or.inr rfl) dX9_within_15 hS (by decide) (by decide) (⟨rfl, Or.inl ⟨rfl, by omega⟩⟩)

set_option maxHeartbeats 4000000 in
set_option maxRecDepth 100000 in
theorem c_X9_isTone (l : Launch) (K : KE) (G : Nat → Option Nat) (H : Heap) (x0 : Int32)  (hT : TY K G H)  : MX l K yX9_isTone cX9_isTone 1 (some .boolean) 1 22 0 0 [.int x0] H (AE G [] H.size) (fun v H1 => H1 = H ∧ ((v = some (.int 1) ∧ (0 ≤ x0.toInt ∧ x0.toInt ≤ 2)) ∨ (v = some (.int 0) ∧ ¬ (0 ≤ x0.toInt ∧ x0.toInt ≤ 2)))) := by
  refine MX.of (by decide +kernel) (Nat.le_of_ble_eq_true rfl) ?_
  intro p e s m below meth c ls Q C hH hl hQ
  subst hH
  have C : CX p K s m _ meth c RX9 cX9_isTone 1 (some .boolean) "isTone" := C
  obtain ⟨hx, hb, hml, hown, hts, hKT, hr, hlocks, hnm⟩ := id C
  have hl : lv_has ls 1 [(0, .int x0)] := hl
  have hS : va_S (AE G [] s.heap.size) s.heap s.heap [] := va_S.rf
  have n_0 : (0 : Int32).toInt = 0 := rfl
  have n_1 : (1 : Int32).toInt = 1 := rfl
  have n_2 : (2 : Int32).toInt = 2 := rfl
  refine lv_iload_n hx hb dX9_isTone_0 rfl (lv_at hl 0 rfl) ?_
  refine lv_iconst (v := 0) hx hb dX9_isTone_1 (by decide) ?_
  refine lv_iconst (v := 2) hx hb dX9_isTone_2 (by decide) ?_
  refine x_S (As := [.int x0, .int 0, .int 2]) (rest := []) C (c_X9_within l K G s.heap (x0) (0) (2) hT) yo_X9_within wM_X9_89 ⟨⟨by decide, by decide⟩, by decide, by decide⟩ rfl hl.1 rfl (Nat.le_of_ble_eq_true rfl) dX9_isTone_3 hS (AE_sub (fun _ _ => rfl) (by decide) hS.1) (fun vH1 H1 locsH1 pH1 zH1 kH1 hSH1 => ?_)
  have hqH1 := pH1.1.symm
  subst hqH1
  rcases pH1.2 with ⟨hvH1, hcH1⟩ | ⟨hvH1, hcH1⟩
  · subst hvH1
    refine W.eq (g2 := F0 m 6 ls [.int 1]) rfl ?_
    exact x_zret C hQ (Or.inr rfl) dX9_isTone_6 hSH1 (by decide) (by decide) (⟨rfl, Or.inl ⟨rfl, by omega⟩⟩)
  · subst hvH1
    refine W.eq (g2 := F0 m 6 ls [.int 0]) rfl ?_
    exact x_zret C hQ (Or.inl rfl) dX9_isTone_6 hSH1 (by decide) (by decide) (⟨rfl, Or.inr ⟨rfl, by omega⟩⟩)

set_option maxHeartbeats 4000000 in
set_option maxRecDepth 100000 in
theorem c_X9_isAir (l : Launch) (K : KE) (G : Nat → Option Nat) (H : Heap) (x0 : Int32) (x1 : Int32)  (hT : TY K G H)  : MX l K yX9_isAir cX9_isAir 2 (some .boolean) 1 22 0 0 [.int x0, .int x1] H (AE G [] H.size) (fun v H1 => H1 = H ∧ ((v = some (.int 1) ∧ ((-20 ≤ x0.toInt ∧ x0.toInt ≤ 50) ∧ 0 ≤ x1.toInt ∧ x1.toInt ≤ 99)) ∨ (v = some (.int 0) ∧ ¬ ((-20 ≤ x0.toInt ∧ x0.toInt ≤ 50) ∧ 0 ≤ x1.toInt ∧ x1.toInt ≤ 99)))) := by
  refine MX.of (by decide +kernel) (Nat.le_of_ble_eq_true rfl) ?_
  intro p e s m below meth c ls Q C hH hl hQ
  subst hH
  have C : CX p K s m _ meth c RX9 cX9_isAir 2 (some .boolean) "isAir" := C
  obtain ⟨hx, hb, hml, hown, hts, hKT, hr, hlocks, hnm⟩ := id C
  have hl : lv_has ls 2 [(0, .int x0), (1, .int x1)] := hl
  have hS : va_S (AE G [] s.heap.size) s.heap s.heap [] := va_S.rf
  have n_m20 : ((-20) : Int32).toInt = -20 := rfl
  have n_0 : (0 : Int32).toInt = 0 := rfl
  have n_1 : (1 : Int32).toInt = 1 := rfl
  have n_50 : (50 : Int32).toInt = 50 := rfl
  have n_99 : (99 : Int32).toInt = 99 := rfl
  refine lv_iload_n hx hb dX9_isAir_0 rfl (lv_at hl 0 rfl) ?_
  refine lv_bipush (v := (-20)) hx hb dX9_isAir_1 (by decide) ?_
  refine lv_bipush (v := 50) hx hb dX9_isAir_3 (by decide) ?_
  refine x_S (As := [.int x0, .int (-20), .int 50]) (rest := []) C (c_X9_within l K G s.heap (x0) ((-20)) (50) hT) yo_X9_within wM_X9_89 ⟨⟨by decide, by decide⟩, by decide, by decide⟩ rfl hl.1 rfl (Nat.le_of_ble_eq_true rfl) dX9_isAir_5 hS (AE_sub (fun _ _ => rfl) (by decide) hS.1) (fun vH1 H1 locsH1 pH1 zH1 kH1 hSH1 => ?_)
  have hqH1 := pH1.1.symm
  subst hqH1
  rcases pH1.2 with ⟨hvH1, hcH1⟩ | ⟨hvH1, hcH1⟩
  · subst hvH1
    refine W.eq (g2 := F0 m 8 ls [.int 1]) rfl ?_
    refine lv_if_eq (tgt := 25) hx hb dX9_isAir_8 (by decide) (fun c2 => ?_) (fun c2 => ?_)
    · have k3 := i_eq c2
      exfalso
      omega
    · have k3 := i_ne c2
      refine lv_iload_n hx hb dX9_isAir_11 rfl (lv_at hl 1 rfl) ?_
      refine lv_iconst (v := 0) hx hb dX9_isAir_12 (by decide) ?_
      refine lv_bipush (v := 99) hx hb dX9_isAir_13 (by decide) ?_
      refine x_S (As := [.int x1, .int 0, .int 99]) (rest := []) C (c_X9_within l K G s.heap (x1) (0) (99) hT) yo_X9_within wM_X9_89 ⟨⟨by decide, by decide⟩, by decide, by decide⟩ rfl hl.1 rfl (Nat.le_of_ble_eq_true rfl) dX9_isAir_15 hSH1 (AE_sub (fun _ _ => rfl) (by decide) hSH1.1) (fun vH4 H4 locsH4 pH4 zH4 kH4 hSH4 => ?_)
      have hqH4 := pH4.1.symm
      subst hqH4
      rcases pH4.2 with ⟨hvH4, hcH4⟩ | ⟨hvH4, hcH4⟩
      · subst hvH4
        refine W.eq (g2 := F0 m 18 ls [.int 1]) rfl ?_
        refine lv_if_eq (tgt := 25) hx hb dX9_isAir_18 (by decide) (fun c5 => ?_) (fun c5 => ?_)
        · have k6 := i_eq c5
          exfalso
          omega
        · have k6 := i_ne c5
          refine lv_iconst (v := 1) hx hb dX9_isAir_21 (by decide) ?_
          refine lv_goto (tgt := 26) hx hb dX9_isAir_22 (by decide) ?_
          exact x_zret C hQ (Or.inr rfl) dX9_isAir_26 hSH4 (by decide) (by decide) (⟨rfl, Or.inl ⟨rfl, by omega⟩⟩)
      · subst hvH4
        refine W.eq (g2 := F0 m 18 ls [.int 0]) rfl ?_
        refine lv_if_eq (tgt := 25) hx hb dX9_isAir_18 (by decide) (fun c7 => ?_) (fun c7 => ?_)
        · have k8 := i_eq c7
          refine lv_iconst (v := 0) hx hb dX9_isAir_25 (by decide) ?_
          exact x_zret C hQ (Or.inl rfl) dX9_isAir_26 hSH4 (by decide) (by decide) (⟨rfl, Or.inr ⟨rfl, by omega⟩⟩)
        · have k8 := i_ne c7
          exfalso
          omega
  · subst hvH1
    refine W.eq (g2 := F0 m 8 ls [.int 0]) rfl ?_
    refine lv_if_eq (tgt := 25) hx hb dX9_isAir_8 (by decide) (fun c9 => ?_) (fun c9 => ?_)
    · have k10 := i_eq c9
      refine lv_iconst (v := 0) hx hb dX9_isAir_25 (by decide) ?_
      exact x_zret C hQ (Or.inl rfl) dX9_isAir_26 hSH1 (by decide) (by decide) (⟨rfl, Or.inr ⟨rfl, by omega⟩⟩)
    · have k10 := i_ne c9
      exfalso
      omega

set_option maxHeartbeats 4000000 in
set_option maxRecDepth 100000 in
theorem c_X10_isIn (l : Launch) (K : KE) (G : Nat → Option Nat) (H : Heap) {a : Nat} (x0 : Int32) (x1 : Int32) (x2 : Int32)  (hT : TY K G H) (ga : G a = some 112)  : MX l K yX10_isIn cX10_isIn 4 (some .boolean) 0 0 0 0 [.ref a, .int x0, .int x1, .int x2] H (AE G [] H.size) (fun v H1 => H1 = H ∧ ((v = some (.int 1) ∧ (x1.toInt ≤ x0.toInt ∧ x0.toInt ≤ x2.toInt)) ∨ (v = some (.int 0) ∧ ¬ (x1.toInt ≤ x0.toInt ∧ x0.toInt ≤ x2.toInt)))) := by
  refine MX.of (by decide +kernel) (Nat.le_of_ble_eq_true rfl) ?_
  intro p e s m below meth c ls Q C hH hl hQ
  subst hH
  have C : CX p K s m _ meth c RX10 cX10_isIn 4 (some .boolean) "isIn" := C
  obtain ⟨hx, hb, hml, hown, hts, hKT, hr, hlocks, hnm⟩ := id C
  have hl : lv_has ls 4 [(0, .ref a), (1, .int x0), (2, .int x1), (3, .int x2)] := hl
  have hS : va_S (AE G [] s.heap.size) s.heap s.heap [] := va_S.rf
  have n_0 : (0 : Int32).toInt = 0 := rfl
  have n_1 : (1 : Int32).toInt = 1 := rfl
  refine lv_iload_n hx hb dX10_isIn_0 rfl (lv_at hl 1 rfl) ?_
  refine lv_iload_n hx hb dX10_isIn_1 rfl (lv_at hl 2 rfl) ?_
  refine lv_icmp_lt (tgt := 14) hx hb dX10_isIn_2 (by decide) (fun c1 => ?_) (fun c1 => ?_)
  · have k2 := i_lt c1
    refine lv_iconst (v := 0) hx hb dX10_isIn_14 (by decide) ?_
    exact x_zret C hQ (Or.inl rfl) dX10_isIn_15 hS (by decide) (by decide) (⟨rfl, Or.inr ⟨rfl, by omega⟩⟩)
  · have k2 := i_nlt c1
    refine lv_iload_n hx hb dX10_isIn_5 rfl (lv_at hl 1 rfl) ?_
    refine lv_iload_n hx hb dX10_isIn_6 rfl (lv_at hl 3 rfl) ?_
    refine lv_icmp_gt (tgt := 14) hx hb dX10_isIn_7 (by decide) (fun c3 => ?_) (fun c3 => ?_)
    · have k4 := i_lt c3
      refine lv_iconst (v := 0) hx hb dX10_isIn_14 (by decide) ?_
      exact x_zret C hQ (Or.inl rfl) dX10_isIn_15 hS (by decide) (by decide) (⟨rfl, Or.inr ⟨rfl, by omega⟩⟩)
    · have k4 := i_nlt c3
      refine lv_iconst (v := 1) hx hb dX10_isIn_10 (by decide) ?_
      refine lv_goto (tgt := 15) hx hb dX10_isIn_11 (by decide) ?_
      exact x_zret C hQ (Or.inr rfl) dX10_isIn_15 hS (by decide) (by decide) (⟨rfl, Or.inl ⟨rfl, by omega⟩⟩)

set_option maxHeartbeats 4000000 in
set_option maxRecDepth 100000 in
theorem c_X10_isTone (l : Launch) (K : KE) (G : Nat → Option Nat) (H : Heap) {a : Nat} (x0 : Int32)  (hT : TY K G H) (ga : G a = some 112)  : MX l K yX10_isTone cX10_isTone 2 (some .boolean) 1 23 0 0 [.ref a, .int x0] H (AE G [] H.size) (fun v H1 => H1 = H ∧ ((v = some (.int 1) ∧ (0 ≤ x0.toInt ∧ x0.toInt ≤ 2)) ∨ (v = some (.int 0) ∧ ¬ (0 ≤ x0.toInt ∧ x0.toInt ≤ 2)))) := by
  refine MX.of (by decide +kernel) (Nat.le_of_ble_eq_true rfl) ?_
  intro p e s m below meth c ls Q C hH hl hQ
  subst hH
  have C : CX p K s m _ meth c RX10 cX10_isTone 2 (some .boolean) "isTone" := C
  obtain ⟨hx, hb, hml, hown, hts, hKT, hr, hlocks, hnm⟩ := id C
  have hl : lv_has ls 2 [(0, .ref a), (1, .int x0)] := hl
  have hS : va_S (AE G [] s.heap.size) s.heap s.heap [] := va_S.rf
  have n_0 : (0 : Int32).toInt = 0 := rfl
  have n_1 : (1 : Int32).toInt = 1 := rfl
  have n_2 : (2 : Int32).toInt = 2 := rfl
  refine lv_aload_n hx hb dX10_isTone_0 rfl (lv_at hl 0 rfl) ?_
  refine lv_iload_n hx hb dX10_isTone_1 rfl (lv_at hl 1 rfl) ?_
  refine lv_iconst (v := 0) hx hb dX10_isTone_2 (by decide) ?_
  refine lv_iconst (v := 2) hx hb dX10_isTone_3 (by decide) ?_
  refine x_V (As := [.int x0, .int 0, .int 2]) (rest := []) C (c_X10_isIn l K G s.heap (x0) (0) (2) hT ga) yo_X10_isIn wM_X10_177 ⟨⟨by decide, by decide⟩, by decide, by decide⟩ (x_rv C hT (ci := 10) rfl ga rg_112) rfl hl.1 rfl (Nat.le_of_ble_eq_true rfl) dX10_isTone_4 hS (AE_sub (fun _ _ => rfl) (by decide) hS.1) (fun vH1 H1 locsH1 pH1 zH1 kH1 hSH1 => ?_)
  have hqH1 := pH1.1.symm
  subst hqH1
  rcases pH1.2 with ⟨hvH1, hcH1⟩ | ⟨hvH1, hcH1⟩
  · subst hvH1
    refine W.eq (g2 := F0 m 7 ls [.int 1]) rfl ?_
    exact x_zret C hQ (Or.inr rfl) dX10_isTone_7 hSH1 (by decide) (by decide) (⟨rfl, Or.inl ⟨rfl, by omega⟩⟩)
  · subst hvH1
    refine W.eq (g2 := F0 m 7 ls [.int 0]) rfl ?_
    exact x_zret C hQ (Or.inl rfl) dX10_isTone_7 hSH1 (by decide) (by decide) (⟨rfl, Or.inr ⟨rfl, by omega⟩⟩)

set_option maxHeartbeats 4000000 in
set_option maxRecDepth 100000 in
theorem c_X10_isHeat (l : Launch) (K : KE) (G : Nat → Option Nat) (H : Heap) {a : Nat} (x0 : Int32)  (hT : TY K G H) (ga : G a = some 112)  : MX l K yX10_isHeat cX10_isHeat 2 (some .boolean) 1 23 0 0 [.ref a, .int x0] H (AE G [] H.size) (fun v H1 => H1 = H ∧ ((v = some (.int 1) ∧ (-20 ≤ x0.toInt ∧ x0.toInt ≤ 50)) ∨ (v = some (.int 0) ∧ ¬ (-20 ≤ x0.toInt ∧ x0.toInt ≤ 50)))) := by
  refine MX.of (by decide +kernel) (Nat.le_of_ble_eq_true rfl) ?_
  intro p e s m below meth c ls Q C hH hl hQ
  subst hH
  have C : CX p K s m _ meth c RX10 cX10_isHeat 2 (some .boolean) "isHeat" := C
  obtain ⟨hx, hb, hml, hown, hts, hKT, hr, hlocks, hnm⟩ := id C
  have hl : lv_has ls 2 [(0, .ref a), (1, .int x0)] := hl
  have hS : va_S (AE G [] s.heap.size) s.heap s.heap [] := va_S.rf
  have n_m20 : ((-20) : Int32).toInt = -20 := rfl
  have n_0 : (0 : Int32).toInt = 0 := rfl
  have n_1 : (1 : Int32).toInt = 1 := rfl
  have n_50 : (50 : Int32).toInt = 50 := rfl
  refine lv_aload_n hx hb dX10_isHeat_0 rfl (lv_at hl 0 rfl) ?_
  refine lv_iload_n hx hb dX10_isHeat_1 rfl (lv_at hl 1 rfl) ?_
  refine lv_bipush (v := (-20)) hx hb dX10_isHeat_2 (by decide) ?_
  refine lv_bipush (v := 50) hx hb dX10_isHeat_4 (by decide) ?_
  refine x_V (As := [.int x0, .int (-20), .int 50]) (rest := []) C (c_X10_isIn l K G s.heap (x0) ((-20)) (50) hT ga) yo_X10_isIn wM_X10_177 ⟨⟨by decide, by decide⟩, by decide, by decide⟩ (x_rv C hT (ci := 10) rfl ga rg_112) rfl hl.1 rfl (Nat.le_of_ble_eq_true rfl) dX10_isHeat_6 hS (AE_sub (fun _ _ => rfl) (by decide) hS.1) (fun vH1 H1 locsH1 pH1 zH1 kH1 hSH1 => ?_)
  have hqH1 := pH1.1.symm
  subst hqH1
  rcases pH1.2 with ⟨hvH1, hcH1⟩ | ⟨hvH1, hcH1⟩
  · subst hvH1
    refine W.eq (g2 := F0 m 9 ls [.int 1]) rfl ?_
    exact x_zret C hQ (Or.inr rfl) dX10_isHeat_9 hSH1 (by decide) (by decide) (⟨rfl, Or.inl ⟨rfl, by omega⟩⟩)
  · subst hvH1
    refine W.eq (g2 := F0 m 9 ls [.int 0]) rfl ?_
    exact x_zret C hQ (Or.inl rfl) dX10_isHeat_9 hSH1 (by decide) (by decide) (⟨rfl, Or.inr ⟨rfl, by omega⟩⟩)

set_option maxHeartbeats 4000000 in
set_option maxRecDepth 100000 in
theorem c_X10_isWet (l : Launch) (K : KE) (G : Nat → Option Nat) (H : Heap) {a : Nat} (x0 : Int32)  (hT : TY K G H) (ga : G a = some 112)  : MX l K yX10_isWet cX10_isWet 2 (some .boolean) 1 23 0 0 [.ref a, .int x0] H (AE G [] H.size) (fun v H1 => H1 = H ∧ ((v = some (.int 1) ∧ (0 ≤ x0.toInt ∧ x0.toInt ≤ 99)) ∨ (v = some (.int 0) ∧ ¬ (0 ≤ x0.toInt ∧ x0.toInt ≤ 99)))) := by
  refine MX.of (by decide +kernel) (Nat.le_of_ble_eq_true rfl) ?_
  intro p e s m below meth c ls Q C hH hl hQ
  subst hH
  have C : CX p K s m _ meth c RX10 cX10_isWet 2 (some .boolean) "isWet" := C
  obtain ⟨hx, hb, hml, hown, hts, hKT, hr, hlocks, hnm⟩ := id C
  have hl : lv_has ls 2 [(0, .ref a), (1, .int x0)] := hl
  have hS : va_S (AE G [] s.heap.size) s.heap s.heap [] := va_S.rf
  have n_0 : (0 : Int32).toInt = 0 := rfl
  have n_1 : (1 : Int32).toInt = 1 := rfl
  have n_99 : (99 : Int32).toInt = 99 := rfl
  refine lv_aload_n hx hb dX10_isWet_0 rfl (lv_at hl 0 rfl) ?_
  refine lv_iload_n hx hb dX10_isWet_1 rfl (lv_at hl 1 rfl) ?_
  refine lv_iconst (v := 0) hx hb dX10_isWet_2 (by decide) ?_
  refine lv_bipush (v := 99) hx hb dX10_isWet_3 (by decide) ?_
  refine x_V (As := [.int x0, .int 0, .int 99]) (rest := []) C (c_X10_isIn l K G s.heap (x0) (0) (99) hT ga) yo_X10_isIn wM_X10_177 ⟨⟨by decide, by decide⟩, by decide, by decide⟩ (x_rv C hT (ci := 10) rfl ga rg_112) rfl hl.1 rfl (Nat.le_of_ble_eq_true rfl) dX10_isWet_5 hS (AE_sub (fun _ _ => rfl) (by decide) hS.1) (fun vH1 H1 locsH1 pH1 zH1 kH1 hSH1 => ?_)
  have hqH1 := pH1.1.symm
  subst hqH1
  rcases pH1.2 with ⟨hvH1, hcH1⟩ | ⟨hvH1, hcH1⟩
  · subst hvH1
    refine W.eq (g2 := F0 m 8 ls [.int 1]) rfl ?_
    exact x_zret C hQ (Or.inr rfl) dX10_isWet_8 hSH1 (by decide) (by decide) (⟨rfl, Or.inl ⟨rfl, by omega⟩⟩)
  · subst hvH1
    refine W.eq (g2 := F0 m 8 ls [.int 0]) rfl ?_
    exact x_zret C hQ (Or.inl rfl) dX10_isWet_8 hSH1 (by decide) (by decide) (⟨rfl, Or.inr ⟨rfl, by omega⟩⟩)

set_option maxHeartbeats 4000000 in
set_option maxRecDepth 100000 in
theorem c_X10_isLaw (l : Launch) (K : KE) (G : Nat → Option Nat) (H : Heap) {a : Nat} (x0 : Int32)  (hT : TY K G H) (ga : G a = some 112)  : MX l K yX10_isLaw cX10_isLaw 2 (some .boolean) 0 0 0 0 [.ref a, .int x0] H (AE G [] H.size) (fun v H1 => H1 = H ∧ ((v = some (.int 1) ∧ (0 ≤ x0.toInt ∧ x0.toInt ≤ 1)) ∨ (v = some (.int 0) ∧ ¬ (0 ≤ x0.toInt ∧ x0.toInt ≤ 1)))) := by
  refine MX.of (by decide +kernel) (Nat.le_of_ble_eq_true rfl) ?_
  intro p e s m below meth c ls Q C hH hl hQ
  subst hH
  have C : CX p K s m _ meth c RX10 cX10_isLaw 2 (some .boolean) "isLaw" := C
  obtain ⟨hx, hb, hml, hown, hts, hKT, hr, hlocks, hnm⟩ := id C
  have hl : lv_has ls 2 [(0, .ref a), (1, .int x0)] := hl
  have hS : va_S (AE G [] s.heap.size) s.heap s.heap [] := va_S.rf
  have n_0 : (0 : Int32).toInt = 0 := rfl
  have n_1 : (1 : Int32).toInt = 1 := rfl
  refine lv_iload_n hx hb dX10_isLaw_0 rfl (lv_at hl 1 rfl) ?_
  refine lv_if_eq (tgt := 9) hx hb dX10_isLaw_1 (by decide) (fun c1 => ?_) (fun c1 => ?_)
  · have k2 := i_eq c1
    refine lv_iconst (v := 1) hx hb dX10_isLaw_9 (by decide) ?_
    refine lv_goto (tgt := 14) hx hb dX10_isLaw_10 (by decide) ?_
    exact x_zret C hQ (Or.inr rfl) dX10_isLaw_14 hS (by decide) (by decide) (⟨rfl, Or.inl ⟨rfl, by omega⟩⟩)
  · have k2 := i_ne c1
    refine lv_iload_n hx hb dX10_isLaw_4 rfl (lv_at hl 1 rfl) ?_
    refine lv_iconst (v := 1) hx hb dX10_isLaw_5 (by decide) ?_
    refine lv_icmp_ne (tgt := 13) hx hb dX10_isLaw_6 (by decide) (fun c3 => ?_) (fun c3 => ?_)
    · have k4 := i_ne c3
      refine lv_iconst (v := 0) hx hb dX10_isLaw_13 (by decide) ?_
      exact x_zret C hQ (Or.inl rfl) dX10_isLaw_14 hS (by decide) (by decide) (⟨rfl, Or.inr ⟨rfl, by omega⟩⟩)
    · have k4 := i_eq c3
      refine lv_iconst (v := 1) hx hb dX10_isLaw_9 (by decide) ?_
      refine lv_goto (tgt := 14) hx hb dX10_isLaw_10 (by decide) ?_
      exact x_zret C hQ (Or.inr rfl) dX10_isLaw_14 hS (by decide) (by decide) (⟨rfl, Or.inl ⟨rfl, by omega⟩⟩)
