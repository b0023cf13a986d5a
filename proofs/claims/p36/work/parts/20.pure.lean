theorem i_01 {x : Int32} (h : x.toInt = 0 ∨ x.toInt = 1) : x = 0 ∨ x = 1 := by
  rcases h with h | h
  · exact Or.inl (Int32.toInt_inj.mp (by rw [h]; rfl))
  · exact Or.inr (Int32.toInt_inj.mp (by rw [h]; rfl))
theorem okI {G : Nat → Option Nat} {lo hi : Int} {x : Int32} (h1 : lo ≤ x.toInt) (h2 : x.toInt ≤ hi) : OkV G (0, lo, hi) (.int x) := ⟨x, rfl, h1, h2⟩
theorem j_i2l {x : Int32} {z : Int64} (e : x.toInt64 = z) : z.toInt = x.toInt := by rw [← e]; exact Int32.toInt_toInt64 x
theorem j_l2i {x : Int64} {z : Int32} (e : x.toInt32 = z) (h : -2147483648 ≤ x.toInt ∧ x.toInt ≤ 2147483647) : z.toInt = x.toInt := by
  rw [← e, Int64.toInt_toInt32]
  exact i_bm h.1 h.2
theorem j_cmp {x y : Int64} {z : Int32} (e : z = lg_cmp x y) : (x.toInt < y.toInt ∧ z.toInt = -1) ∨ (x.toInt = y.toInt ∧ z.toInt = 0) ∨ (y.toInt < x.toInt ∧ z.toInt = 1) := by
  subst e
  unfold lg_cmp
  by_cases h : x > y
  · rw [if_pos h]
    exact Or.inr (Or.inr ⟨Int64.lt_iff_toInt_lt.mp h, rfl⟩)
  · rw [if_neg h]
    by_cases h2 : x = y
    · rw [if_pos h2]
      exact Or.inr (Or.inl ⟨by rw [h2], rfl⟩)
    · rw [if_neg h2]
      have h1 : ¬ y.toInt < x.toInt := fun q => h (Int64.lt_iff_toInt_lt.mpr q)
      have h3 : x.toInt ≠ y.toInt := fun q => h2 (Int64.toInt_inj.mp q)
      exact Or.inl ⟨by omega, rfl⟩
theorem i_min {x y z : Int32} (e : z = if y < x then y else x) : (x.toInt ≤ y.toInt ∧ z.toInt = x.toInt) ∨ (y.toInt ≤ x.toInt ∧ z.toInt = y.toInt) := by
  by_cases h : y < x
  · rw [e, if_pos h]; have := i_lt h; omega
  · rw [e, if_neg h]; have := i_nlt h; omega
theorem i_max {x y z : Int32} (e : z = if x < y then y else x) : (y.toInt ≤ x.toInt ∧ z.toInt = x.toInt) ∨ (x.toInt ≤ y.toInt ∧ z.toInt = y.toInt) := by
  by_cases h : x < y
  · rw [e, if_pos h]; have := i_lt h; omega
  · rw [e, if_neg h]; have := i_nlt h; omega
theorem i_abs {x z : Int32} (e : z = if 0 ≤ x then x else 0 - x) (hx : x.toInt ≠ -2147483648) : (0 ≤ x.toInt ∧ z.toInt = x.toInt) ∨ (x.toInt < 0 ∧ z.toInt = -x.toInt) := by
  have e0 : (0 : Int32).toInt = 0 := rfl
  have hr := i_rng x
  by_cases h : 0 ≤ x
  · rw [e, if_pos h]; have := i_le h; omega
  · rw [e, if_neg h]; have h1 := i_nle h; have := i_sub (x := 0) (y := x) rfl (by omega); omega
theorem j_min {x y z : Int64} (e : z = if y < x then y else x) : (x.toInt ≤ y.toInt ∧ z.toInt = x.toInt) ∨ (y.toInt ≤ x.toInt ∧ z.toInt = y.toInt) := by
  by_cases h : y < x
  · rw [e, if_pos h]; have := Int64.lt_iff_toInt_lt.mp h; omega
  · rw [e, if_neg h]; have h1 : ¬ y.toInt < x.toInt := fun q => h (Int64.lt_iff_toInt_lt.mpr q); omega
theorem i_and255 {x z : Int32} (e : z = x &&& 255) : 0 ≤ z.toInt ∧ z.toInt ≤ 255 := by
  obtain ⟨j, hj, e2⟩ := pk_andE x (m := 255) 8 (by decide)
  rw [e, e2, nI_toInt (by omega)]
  omega
theorem i_and63 {x z : Int32} (e : z = x &&& 63) : 0 ≤ z.toInt ∧ z.toInt ≤ 63 := by
  obtain ⟨j, hj, e2⟩ := pk_andE x (m := 63) 6 (by decide)
  rw [e, e2, nI_toInt (by omega)]
  omega
theorem i_div {x y z : Int32} (e : z = x / y) (h : 0 ≤ x.toInt) (h2 : 0 < y.toInt) : 0 ≤ z.toInt ∧ z.toInt ≤ x.toInt := by
  have hx := i_rng x
  have hy := i_rng y
  obtain ⟨a, ha⟩ : ∃ a : Nat, x.toInt = a := ⟨x.toInt.toNat, by omega⟩
  obtain ⟨b, hb⟩ : ∃ b : Nat, y.toInt = b := ⟨y.toInt.toNat, by omega⟩
  have ex : x = nI a := i_of (by rw [nI_toInt (by omega)]; exact ha)
  have ey : y = nI b := i_of (by rw [nI_toInt (by omega)]; exact hb)
  have hle : a / b ≤ a := Nat.div_le_self _ _
  rw [e, ha, ex, ey, pk_div (by omega) (by omega) (by omega), nI_toInt (by omega)]
  generalize a / b = q at hle ⊢
  omega

set_option maxHeartbeats 4000000 in
set_option maxRecDepth 100000 in
theorem c_X9_within (l : Launch) (K : KE) (G : Nat → Option Nat) (H : Heap) (x0 : Int32) (x1 : Int32) (x2 : Int32)  (hT : TY K G H)  : MX l K yX9_within cX9_within 3 (some .boolean) 0 0 0 0 [.int x0, .int x1, .int x2] H (AE G [] H.size) (fun v H1 => H1 = H ∧ ((v = some (.int 1) ∧ (x1.toInt ≤ x0.toInt ∧ x0.toInt ≤ x2.toInt)) ∨ (v = some (.int 0) ∧ ¬ (x1.toInt ≤ x0.toInt ∧ x0.toInt ≤ x2.toInt)))) := by
  refine MX.of (by decide +kernel) (Nat.le_of_ble_eq_true rfl) ?_
  intro p e s m below meth c ls Q C hH hl hQ
  subst hH
  have C : CX p K s m _ meth c RX9 cX9_within 3 (some .boolean) "within" := C
  obtain ⟨hx, hb, hml, hown, hts, hKT, hr, hlocks, hnm⟩ := id C
  have hl : lv_has ls 3 [(0, .int x0), (1, .int x1), (2, .int x2)] := hl
  have hS : va_S (AE G [] s.heap.size) s.heap s.heap [] := va_S.rf
  have n_0 : (0 : Int32).toInt = 0 := rfl
  have n_1 : (1 : Int32).toInt = 1 := rfl
  refine lv_iload_n hx hb dX9_within_0 rfl (lv_at hl 0 rfl) ?_
  refine lv_iload_n hx hb dX9_within_1 rfl (lv_at hl 1 rfl) ?_
  refine lv_icmp_lt (tgt := 14) hx hb dX9_within_2 (by decide) (fun c101 => ?_) (fun c101 => ?_)
  · have k102 := i_lt c101
    refine lv_iconst (v := 0) hx hb dX9_within_14 (by decide) ?_
    exact x_zret C hQ (Or.inl rfl) dX9_within_15 hS (by decide) (by decide) (⟨rfl, Or.inr ⟨rfl, by omega⟩⟩)
  · have k102 := i_nlt c101
    refine lv_iload_n hx hb dX9_within_5 rfl (lv_at hl 0 rfl) ?_
    refine lv_iload_n hx hb dX9_within_6 rfl (lv_at hl 2 rfl) ?_
    refine lv_icmp_gt (tgt := 14) hx hb dX9_within_7 (by decide) (fun c103 => ?_) (fun c103 => ?_)
    · have k104 := i_lt c103
      refine lv_iconst (v := 0) hx hb dX9_within_14 (by decide) ?_
      exact x_zret C hQ (Or.inl rfl) dX9_within_15 hS (by decide) (by decide) (⟨rfl, Or.inr ⟨rfl, by omega⟩⟩)
    · have k104 := i_nlt c103
      refine lv_iconst (v := 1) hx hb dX9_within_10 (by decide) ?_
      refine lv_goto (tgt := 15) hx hb dX9_within_11 (by decide) ?_
      exact x_zret C hQ (Or.inr rfl) dX9_within_15 hS (by decide) (by decide) (⟨rfl, Or.inl ⟨rfl, by omega⟩⟩)

set_option maxHeartbeats 4000000 in
set_option maxRecDepth 100000 in
theorem c_X9_isTone (l : Launch) (K : KE) (G : Nat → Option Nat) (H : Heap) (x0 : Int32)  (hT : TY K G H)  : MX l K yX9_isTone cX9_isTone 1 (some .boolean) 1 22 0 0 [.int x0] H (AE G [] H.size) (fun v H1 => H1 = H ∧ ((v = some (.int 1) ∧ (0 ≤ x0.toInt ∧ x0.toInt ≤ 2)) ∨ (v = some (.int 0) ∧ ¬ (0 ≤ x0.toInt ∧ x0.toInt ≤ 2)))) := by
  refine MX.of (by decide +kernel) (Nat.le_of_ble_eq_true rfl) ?_
  intro p e s m below meth c ls Q C hH hl hQ
  subst hH
  have C : CX p K s m _ meth c RX9 cX9_isTone 1 (some .boolean) "isTone" := C
  obtain ⟨hx, hb, hml, hown, hts, hKT, hr, hlocks, hnm⟩ := id C
  have hl : lv_has ls 1 [(0, .int x0)] := hl
  have hS : va_S (AE G [] s.heap.size) s.heap s.heap [] := va_S.rf
  have n_0 : (0 : Int32).toInt = 0 := rfl
  have n_1 : (1 : Int32).toInt = 1 := rfl
  have n_2 : (2 : Int32).toInt = 2 := rfl
  refine lv_iload_n hx hb dX9_isTone_0 rfl (lv_at hl 0 rfl) ?_
  refine lv_iconst (v := 0) hx hb dX9_isTone_1 (by decide) ?_
  refine lv_iconst (v := 2) hx hb dX9_isTone_2 (by decide) ?_
  refine x_S (As := [.int x0, .int 0, .int 2]) (rest := []) C (c_X9_within l K G s.heap (x0) (0) (2) hT) yo_X9_within wM_X9_89 ⟨⟨by decide, by decide⟩, by decide, by decide⟩ rfl hl.1 rfl (Nat.le_of_ble_eq_true rfl) dX9_isTone_3 hS (AE_sub (fun _ _ => rfl) (by decide) hS.1) (fun vH101 H101 locsH101 pH101 zH101 kH101 hSH101 => ?_)
  have hqH101 := pH101.1.symm
  subst hqH101
  rcases pH101.2 with ⟨hvH101, hcH101⟩ | ⟨hvH101, hcH101⟩
  · subst hvH101
    refine W.eq (g2 := F0 m 6 ls [.int 1]) rfl ?_
    exact x_zret C hQ (Or.inr rfl) dX9_isTone_6 hSH101 (by decide) (by decide) (⟨rfl, Or.inl ⟨rfl, by omega⟩⟩)
  · subst hvH101
    refine W.eq (g2 := F0 m 6 ls [.int 0]) rfl ?_
    exact x_zret C hQ (Or.inl rfl) dX9_isTone_6 hSH101 (by decide) (by decide) (⟨rfl, Or.inr ⟨rfl, by omega⟩⟩)

set_option maxHeartbeats 4000000 in
set_option maxRecDepth 100000 in
theorem c_X9_isAir (l : Launch) (K : KE) (G : Nat → Option Nat) (H : Heap) (x0 : Int32) (x1 : Int32)  (hT : TY K G H)  : MX l K yX9_isAir cX9_isAir 2 (some .boolean) 1 22 0 0 [.int x0, .int x1] H (AE G [] H.size) (fun v H1 => H1 = H ∧ ((v = some (.int 1) ∧ ((-20 ≤ x0.toInt ∧ x0.toInt ≤ 50) ∧ 0 ≤ x1.toInt ∧ x1.toInt ≤ 99)) ∨ (v = some (.int 0) ∧ ¬ ((-20 ≤ x0.toInt ∧ x0.toInt ≤ 50) ∧ 0 ≤ x1.toInt ∧ x1.toInt ≤ 99)))) := by
  refine MX.of (by decide +kernel) (Nat.le_of_ble_eq_true rfl) ?_
  intro p e s m below meth c ls Q C hH hl hQ
  subst hH
  have C : CX p K s m _ meth c RX9 cX9_isAir 2 (some .boolean) "isAir" := C
  obtain ⟨hx, hb, hml, hown, hts, hKT, hr, hlocks, hnm⟩ := id C
  have hl : lv_has ls 2 [(0, .int x0), (1, .int x1)] := hl
  have hS : va_S (AE G [] s.heap.size) s.heap s.heap [] := va_S.rf
  have n_m20 : ((-20) : Int32).toInt = -20 := rfl
  have n_0 : (0 : Int32).toInt = 0 := rfl
  have n_1 : (1 : Int32).toInt = 1 := rfl
  have n_50 : (50 : Int32).toInt = 50 := rfl
  have n_99 : (99 : Int32).toInt = 99 := rfl
  refine lv_iload_n hx hb dX9_isAir_0 rfl (lv_at hl 0 rfl) ?_
  refine lv_bipush (v := (-20)) hx hb dX9_isAir_1 (by decide) ?_
  refine lv_bipush (v := 50) hx hb dX9_isAir_3 (by decide) ?_
  refine x_S (As := [.int x0, .int (-20), .int 50]) (rest := []) C (c_X9_within l K G s.heap (x0) ((-20)) (50) hT) yo_X9_within wM_X9_89 ⟨⟨by decide, by decide⟩, by decide, by decide⟩ rfl hl.1 rfl (Nat.le_of_ble_eq_true rfl) dX9_isAir_5 hS (AE_sub (fun _ _ => rfl) (by decide) hS.1) (fun vH101 H101 locsH101 pH101 zH101 kH101 hSH101 => ?_)
  have hqH101 := pH101.1.symm
  subst hqH101
  rcases pH101.2 with ⟨hvH101, hcH101⟩ | ⟨hvH101, hcH101⟩
  · subst hvH101
    refine W.eq (g2 := F0 m 8 ls [.int 1]) rfl ?_
    refine lv_if_eq (tgt := 25) hx hb dX9_isAir_8 (by decide) (fun c102 => ?_) (fun c102 => ?_)
    · have k103 := i_eq c102
      exfalso
      omega
    · have k103 := i_ne c102
      refine lv_iload_n hx hb dX9_isAir_11 rfl (lv_at hl 1 rfl) ?_
      refine lv_iconst (v := 0) hx hb dX9_isAir_12 (by decide) ?_
      refine lv_bipush (v := 99) hx hb dX9_isAir_13 (by decide) ?_
      refine x_S (As := [.int x1, .int 0, .int 99]) (rest := []) C (c_X9_within l K G s.heap (x1) (0) (99) hT) yo_X9_within wM_X9_89 ⟨⟨by decide, by decide⟩, by decide, by decide⟩ rfl hl.1 rfl (Nat.le_of_ble_eq_true rfl) dX9_isAir_15 hSH101 (AE_sub (fun _ _ => rfl) (by decide) hSH101.1) (fun vH104 H104 locsH104 pH104 zH104 kH104 hSH104 => ?_)
      have hqH104 := pH104.1.symm
      subst hqH104
      rcases pH104.2 with ⟨hvH104, hcH104⟩ | ⟨hvH104, hcH104⟩
      · subst hvH104
        refine W.eq (g2 := F0 m 18 ls [.int 1]) rfl ?_
        refine lv_if_eq (tgt := 25) hx hb dX9_isAir_18 (by decide) (fun c105 => ?_) (fun c105 => ?_)
        · have k106 := i_eq c105
          exfalso
          omega
        · have k106 := i_ne c105
          refine lv_iconst (v := 1) hx hb dX9_isAir_21 (by decide) ?_
          refine lv_goto (tgt := 26) hx hb dX9_isAir_22 (by decide) ?_
          exact x_zret C hQ (Or.inr rfl) dX9_isAir_26 hSH104 (by decide) (by decide) (⟨rfl, Or.inl ⟨rfl, by omega⟩⟩)
      · subst hvH104
        refine W.eq (g2 := F0 m 18 ls [.int 0]) rfl ?_
        refine lv_if_eq (tgt := 25) hx hb dX9_isAir_18 (by decide) (fun c107 => ?_) (fun c107 => ?_)
        · have k108 := i_eq c107
          refine lv_iconst (v := 0) hx hb dX9_isAir_25 (by decide) ?_
          exact x_zret C hQ (Or.inl rfl) dX9_isAir_26 hSH104 (by decide) (by decide) (⟨rfl, Or.inr ⟨rfl, by omega⟩⟩)
        · have k108 := i_ne c107
          exfalso
          omega
  · subst hvH101
    refine W.eq (g2 := F0 m 8 ls [.int 0]) rfl ?_
    refine lv_if_eq (tgt := 25) hx hb dX9_isAir_8 (by decide) (fun c109 => ?_) (fun c109 => ?_)
    · have k110 := i_eq c109
      refine lv_iconst (v := 0) hx hb dX9_isAir_25 (by decide) ?_
      exact x_zret C hQ (Or.inl rfl) dX9_isAir_26 hSH101 (by decide) (by decide) (⟨rfl, Or.inr ⟨rfl, by omega⟩⟩)
    · have k110 := i_ne c109
      exfalso
      omega

set_option maxHeartbeats 4000000 in
set_option maxRecDepth 100000 in
theorem c_X10_isIn (l : Launch) (K : KE) (G : Nat → Option Nat) (H : Heap) {a : Nat} (x0 : Int32) (x1 : Int32) (x2 : Int32)  (hT : TY K G H) (ga : G a = some 112)  : MX l K yX10_isIn cX10_isIn 4 (some .boolean) 0 0 0 0 [.ref a, .int x0, .int x1, .int x2] H (AE G [] H.size) (fun v H1 => H1 = H ∧ ((v = some (.int 1) ∧ (x1.toInt ≤ x0.toInt ∧ x0.toInt ≤ x2.toInt)) ∨ (v = some (.int 0) ∧ ¬ (x1.toInt ≤ x0.toInt ∧ x0.toInt ≤ x2.toInt)))) := by
  refine MX.of (by decide +kernel) (Nat.le_of_ble_eq_true rfl) ?_
  intro p e s m below meth c ls Q C hH hl hQ
  subst hH
  have C : CX p K s m _ meth c RX10 cX10_isIn 4 (some .boolean) "isIn" := C
  obtain ⟨hx, hb, hml, hown, hts, hKT, hr, hlocks, hnm⟩ := id C
  have hl : lv_has ls 4 [(0, .ref a), (1, .int x0), (2, .int x1), (3, .int x2)] := hl
  have hS : va_S (AE G [] s.heap.size) s.heap s.heap [] := va_S.rf
  have n_0 : (0 : Int32).toInt = 0 := rfl
  have n_1 : (1 : Int32).toInt = 1 := rfl
  refine lv_iload_n hx hb dX10_isIn_0 rfl (lv_at hl 1 rfl) ?_
  refine lv_iload_n hx hb dX10_isIn_1 rfl (lv_at hl 2 rfl) ?_
  refine lv_icmp_lt (tgt := 14) hx hb dX10_isIn_2 (by decide) (fun c101 => ?_) (fun c101 => ?_)
  · have k102 := i_lt c101
    refine lv_iconst (v := 0) hx hb dX10_isIn_14 (by decide) ?_
    exact x_zret C hQ (Or.inl rfl) dX10_isIn_15 hS (by decide) (by decide) (⟨rfl, Or.inr ⟨rfl, by omega⟩⟩)
  · have k102 := i_nlt c101
    refine lv_iload_n hx hb dX10_isIn_5 rfl (lv_at hl 1 rfl) ?_
    refine lv_iload_n hx hb dX10_isIn_6 rfl (lv_at hl 3 rfl) ?_
    refine lv_icmp_gt (tgt := 14) hx hb dX10_isIn_7 (by decide) (fun c103 => ?_) (fun c103 => ?_)
    · have k104 := i_lt c103
      refine lv_iconst (v := 0) hx hb dX10_isIn_14 (by decide) ?_
      exact x_zret C hQ (Or.inl rfl) dX10_isIn_15 hS (by decide) (by decide) (⟨rfl, Or.inr ⟨rfl, by omega⟩⟩)
    · have k104 := i_nlt c103
      refine lv_iconst (v := 1) hx hb dX10_isIn_10 (by decide) ?_
      refine lv_goto (tgt := 15) hx hb dX10_isIn_11 (by decide) ?_
      exact x_zret C hQ (Or.inr rfl) dX10_isIn_15 hS (by decide) (by decide) (⟨rfl, Or.inl ⟨rfl, by omega⟩⟩)

set_option maxHeartbeats 4000000 in
set_option maxRecDepth 100000 in
theorem c_X10_isTone (l : Launch) (K : KE) (G : Nat → Option Nat) (H : Heap) {a : Nat} (x0 : Int32)  (hT : TY K G H) (ga : G a = some 112)  : MX l K yX10_isTone cX10_isTone 2 (some .boolean) 1 23 0 0 [.ref a, .int x0] H (AE G [] H.size) (fun v H1 => H1 = H ∧ ((v = some (.int 1) ∧ (0 ≤ x0.toInt ∧ x0.toInt ≤ 2)) ∨ (v = some (.int 0) ∧ ¬ (0 ≤ x0.toInt ∧ x0.toInt ≤ 2)))) := by
  refine MX.of (by decide +kernel) (Nat.le_of_ble_eq_true rfl) ?_
  intro p e s m below meth c ls Q C hH hl hQ
  subst hH
  have C : CX p K s m _ meth c RX10 cX10_isTone 2 (some .boolean) "isTone" := C
  obtain ⟨hx, hb, hml, hown, hts, hKT, hr, hlocks, hnm⟩ := id C
  have hl : lv_has ls 2 [(0, .ref a), (1, .int x0)] := hl
  have hS : va_S (AE G [] s.heap.size) s.heap s.heap [] := va_S.rf
  have n_0 : (0 : Int32).toInt = 0 := rfl
  have n_1 : (1 : Int32).toInt = 1 := rfl
  have n_2 : (2 : Int32).toInt = 2 := rfl
  refine lv_aload_n hx hb dX10_isTone_0 rfl (lv_at hl 0 rfl) ?_
  refine lv_iload_n hx hb dX10_isTone_1 rfl (lv_at hl 1 rfl) ?_
  refine lv_iconst (v := 0) hx hb dX10_isTone_2 (by decide) ?_
  refine lv_iconst (v := 2) hx hb dX10_isTone_3 (by decide) ?_
  refine x_V (As := [.int x0, .int 0, .int 2]) (rest := []) C (c_X10_isIn l K G s.heap (x0) (0) (2) hT ga) yo_X10_isIn wM_X10_177 ⟨⟨by decide, by decide⟩, by decide, by decide⟩ (x_rv C hT (ci := 10) rfl ga rg_112) rfl hl.1 rfl (Nat.le_of_ble_eq_true rfl) dX10_isTone_4 hS (AE_sub (fun _ _ => rfl) (by decide) hS.1) (fun vH101 H101 locsH101 pH101 zH101 kH101 hSH101 => ?_)
  have hqH101 := pH101.1.symm
  subst hqH101
  rcases pH101.2 with ⟨hvH101, hcH101⟩ | ⟨hvH101, hcH101⟩
  · subst hvH101
    refine W.eq (g2 := F0 m 7 ls [.int 1]) rfl ?_
    exact x_zret C hQ (Or.inr rfl) dX10_isTone_7 hSH101 (by decide) (by decide) (⟨rfl, Or.inl ⟨rfl, by omega⟩⟩)
  · subst hvH101
    refine W.eq (g2 := F0 m 7 ls [.int 0]) rfl ?_
    exact x_zret C hQ (Or.inl rfl) dX10_isTone_7 hSH101 (by decide) (by decide) (⟨rfl, Or.inr ⟨rfl, by omega⟩⟩)

set_option maxHeartbeats 4000000 in
set_option maxRecDepth 100000 in
theorem c_X10_isHeat (l : Launch) (K : KE) (G : Nat → Option Nat) (H : Heap) {a : Nat} (x0 : Int32)  (hT : TY K G H) (ga : G a = some 112)  : MX l K yX10_isHeat cX10_isHeat 2 (some .boolean) 1 23 0 0 [.ref a, .int x0] H (AE G [] H.size) (fun v H1 => H1 = H ∧ ((v = some (.int 1) ∧ (-20 ≤ x0.toInt ∧ x0.toInt ≤ 50)) ∨ (v = some (.int 0) ∧ ¬ (-20 ≤ x0.toInt ∧ x0.toInt ≤ 50)))) := by
  refine MX.of (by decide +kernel) (Nat.le_of_ble_eq_true rfl) ?_
  intro p e s m below meth c ls Q C hH hl hQ
  subst hH
  have C : CX p K s m _ meth c RX10 cX10_isHeat 2 (some .boolean) "isHeat" := C
  obtain ⟨hx, hb, hml, hown, hts, hKT, hr, hlocks, hnm⟩ := id C
  have hl : lv_has ls 2 [(0, .ref a), (1, .int x0)] := hl
  have hS : va_S (AE G [] s.heap.size) s.heap s.heap [] := va_S.rf
  have n_m20 : ((-20) : Int32).toInt = -20 := rfl
  have n_0 : (0 : Int32).toInt = 0 := rfl
  have n_1 : (1 : Int32).toInt = 1 := rfl
  have n_50 : (50 : Int32).toInt = 50 := rfl
  refine lv_aload_n hx hb dX10_isHeat_0 rfl (lv_at hl 0 rfl) ?_
  refine lv_iload_n hx hb dX10_isHeat_1 rfl (lv_at hl 1 rfl) ?_
  refine lv_bipush (v := (-20)) hx hb dX10_isHeat_2 (by decide) ?_
  refine lv_bipush (v := 50) hx hb dX10_isHeat_4 (by decide) ?_
  refine x_V (As := [.int x0, .int (-20), .int 50]) (rest := []) C (c_X10_isIn l K G s.heap (x0) ((-20)) (50) hT ga) yo_X10_isIn wM_X10_177 ⟨⟨by decide, by decide⟩, by decide, by decide⟩ (x_rv C hT (ci := 10) rfl ga rg_112) rfl hl.1 rfl (Nat.le_of_ble_eq_true rfl) dX10_isHeat_6 hS (AE_sub (fun _ _ => rfl) (by decide) hS.1) (fun vH101 H101 locsH101 pH101 zH101 kH101 hSH101 => ?_)
  have hqH101 := pH101.1.symm
  subst hqH101
  rcases pH101.2 with ⟨hvH101, hcH101⟩ | ⟨hvH101, hcH101⟩
  · subst hvH101
    refine W.eq (g2 := F0 m 9 ls [.int 1]) rfl ?_
    exact x_zret C hQ (Or.inr rfl) dX10_isHeat_9 hSH101 (by decide) (by decide) (⟨rfl, Or.inl ⟨rfl, by omega⟩⟩)
  · subst hvH101
    refine W.eq (g2 := F0 m 9 ls [.int 0]) rfl ?_
    exact x_zret C hQ (Or.inl rfl) dX10_isHeat_9 hSH101 (by decide) (by decide) (⟨rfl, Or.inr ⟨rfl, by omega⟩⟩)

set_option maxHeartbeats 4000000 in
set_option maxRecDepth 100000 in
theorem c_X10_isWet (l : Launch) (K : KE) (G : Nat → Option Nat) (H : Heap) {a : Nat} (x0 : Int32)  (hT : TY K G H) (ga : G a = some 112)  : MX l K yX10_isWet cX10_isWet 2 (some .boolean) 1 23 0 0 [.ref a, .int x0] H (AE G [] H.size) (fun v H1 => H1 = H ∧ ((v = some (.int 1) ∧ (0 ≤ x0.toInt ∧ x0.toInt ≤ 99)) ∨ (v = some (.int 0) ∧ ¬ (0 ≤ x0.toInt ∧ x0.toInt ≤ 99)))) := by
  refine MX.of (by decide +kernel) (Nat.le_of_ble_eq_true rfl) ?_
  intro p e s m below meth c ls Q C hH hl hQ
  subst hH
  have C : CX p K s m _ meth c RX10 cX10_isWet 2 (some .boolean) "isWet" := C
  obtain ⟨hx, hb, hml, hown, hts, hKT, hr, hlocks, hnm⟩ := id C
  have hl : lv_has ls 2 [(0, .ref a), (1, .int x0)] := hl
  have hS : va_S (AE G [] s.heap.size) s.heap s.heap [] := va_S.rf
  have n_0 : (0 : Int32).toInt = 0 := rfl
  have n_1 : (1 : Int32).toInt = 1 := rfl
  have n_99 : (99 : Int32).toInt = 99 := rfl
  refine lv_aload_n hx hb dX10_isWet_0 rfl (lv_at hl 0 rfl) ?_
  refine lv_iload_n hx hb dX10_isWet_1 rfl (lv_at hl 1 rfl) ?_
  refine lv_iconst (v := 0) hx hb dX10_isWet_2 (by decide) ?_
  refine lv_bipush (v := 99) hx hb dX10_isWet_3 (by decide) ?_
  refine x_V (As := [.int x0, .int 0, .int 99]) (rest := []) C (c_X10_isIn l K G s.heap (x0) (0) (99) hT ga) yo_X10_isIn wM_X10_177 ⟨⟨by decide, by decide⟩, by decide, by decide⟩ (x_rv C hT (ci := 10) rfl ga rg_112) rfl hl.1 rfl (Nat.le_of_ble_eq_true rfl) dX10_isWet_5 hS (AE_sub (fun _ _ => rfl) (by decide) hS.1) (fun vH101 H101 locsH101 pH101 zH101 kH101 hSH101 => ?_)
  have hqH101 := pH101.1.symm
  subst hqH101
  rcases pH101.2 with ⟨hvH101, hcH101⟩ | ⟨hvH101, hcH101⟩
  · subst hvH101
    refine W.eq (g2 := F0 m 8 ls [.int 1]) rfl ?_
    exact x_zret C hQ (Or.inr rfl) dX10_isWet_8 hSH101 (by decide) (by decide) (⟨rfl, Or.inl ⟨rfl, by omega⟩⟩)
  · subst hvH101
    refine W.eq (g2 := F0 m 8 ls [.int 0]) rfl ?_
    exact x_zret C hQ (Or.inl rfl) dX10_isWet_8 hSH101 (by decide) (by decide) (⟨rfl, Or.inr ⟨rfl, by omega⟩⟩)

set_option maxHeartbeats 4000000 in
set_option maxRecDepth 100000 in
theorem c_X10_isLaw (l : Launch) (K : KE) (G : Nat → Option Nat) (H : Heap) {a : Nat} (x0 : Int32)  (hT : TY K G H) (ga : G a = some 112)  : MX l K yX10_isLaw cX10_isLaw 2 (some .boolean) 0 0 0 0 [.ref a, .int x0] H (AE G [] H.size) (fun v H1 => H1 = H ∧ ((v = some (.int 1) ∧ (0 ≤ x0.toInt ∧ x0.toInt ≤ 1)) ∨ (v = some (.int 0) ∧ ¬ (0 ≤ x0.toInt ∧ x0.toInt ≤ 1)))) := by
  refine MX.of (by decide +kernel) (Nat.le_of_ble_eq_true rfl) ?_
  intro p e s m below meth c ls Q C hH hl hQ
  subst hH
  have C : CX p K s m _ meth c RX10 cX10_isLaw 2 (some .boolean) "isLaw" := C
  obtain ⟨hx, hb, hml, hown, hts, hKT, hr, hlocks, hnm⟩ := id C
  have hl : lv_has ls 2 [(0, .ref a), (1, .int x0)] := hl
  have hS : va_S (AE G [] s.heap.size) s.heap s.heap [] := va_S.rf
  have n_0 : (0 : Int32).toInt = 0 := rfl
  have n_1 : (1 : Int32).toInt = 1 := rfl
  refine lv_iload_n hx hb dX10_isLaw_0 rfl (lv_at hl 1 rfl) ?_
  refine lv_if_eq (tgt := 9) hx hb dX10_isLaw_1 (by decide) (fun c101 => ?_) (fun c101 => ?_)
  · have k102 := i_eq c101
    refine lv_iconst (v := 1) hx hb dX10_isLaw_9 (by decide) ?_
    refine lv_goto (tgt := 14) hx hb dX10_isLaw_10 (by decide) ?_
    exact x_zret C hQ (Or.inr rfl) dX10_isLaw_14 hS (by decide) (by decide) (⟨rfl, Or.inl ⟨rfl, by omega⟩⟩)
  · have k102 := i_ne c101
    refine lv_iload_n hx hb dX10_isLaw_4 rfl (lv_at hl 1 rfl) ?_
    refine lv_iconst (v := 1) hx hb dX10_isLaw_5 (by decide) ?_
    refine lv_icmp_ne (tgt := 13) hx hb dX10_isLaw_6 (by decide) (fun c103 => ?_) (fun c103 => ?_)
    · have k104 := i_ne c103
      refine lv_iconst (v := 0) hx hb dX10_isLaw_13 (by decide) ?_
      exact x_zret C hQ (Or.inl rfl) dX10_isLaw_14 hS (by decide) (by decide) (⟨rfl, Or.inr ⟨rfl, by omega⟩⟩)
    · have k104 := i_eq c103
      refine lv_iconst (v := 1) hx hb dX10_isLaw_9 (by decide) ?_
      refine lv_goto (tgt := 14) hx hb dX10_isLaw_10 (by decide) ?_
      exact x_zret C hQ (Or.inr rfl) dX10_isLaw_14 hS (by decide) (by decide) (⟨rfl, Or.inl ⟨rfl, by omega⟩⟩)
