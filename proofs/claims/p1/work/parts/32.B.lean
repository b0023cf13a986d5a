set_option maxHeartbeats 4000000 in
set_option maxRecDepth 100000 in
/-- Arrays.fill(int[], int) of a typed array -/
theorem c_fill (l : Launch) (K : KE) (G : Nat → Option Nat) (H : Heap) {a t N : Nat} {lo hi : Int} (x1 : Int32) (hT : TY K G H) (ga : G a = some t) (hs : rgT[t]? = some (.inr (0, N, (0, lo, hi)))) (hN : N ≤ 100000) (hv : lo ≤ x1.toInt ∧ x1.toInt ≤ hi) : MX l K yJ7_fill_53178 cJ7_fill_53178 4 none 0 0 0 0 [.ref a, .int x1] H (AE G [t] H.size) (fun v H1 => v = none ∧ TY K G H1 ∧ ∀ j : Nat, j < N → fI H1 a j = x1) := by
  refine MX.of (by decide +kernel) (Nat.le_of_ble_eq_true rfl) ?_
  intro p e s m below meth c ls Q C hH hl hQ
  subst hH
  have C : CX p K s m _ meth c RJ7 cJ7_fill_53178 4 none "fill" := C
  obtain ⟨hx, hb, hml, hown, hts, hKT, hr, hlocks, hnm⟩ := id C
  have hl : lv_has ls 4 [(0, .ref a), (1, .int x1)] := hl
  have hS : va_S (AE G [t] s.heap.size) s.heap s.heap [] := va_S.rf
  have n_0 : (0 : Int32).toInt = 0 := rfl
  have n_1 : (1 : Int32).toInt = 1 := rfl
  refine lv_iconst (v := 0) hx hb dJ7_fill_53178_0 (by decide) ?_
  refine lv_istore_n (lv' := [(2, .int 0), (0, .ref a), (1, .int x1)]) hx hb dJ7_fill_53178_1 rfl hl (by decide) rfl (fun ls2 hl2 => ?_)
  refine lv_aload_n hx hb dJ7_fill_53178_2 rfl (lv_at hl2 1 rfl) ?_
  refine x_alen C hT rfl ga hs rfl dJ7_fill_53178_3 ?_
  have eN : (Int32.ofNat N).toInt = N := nI_toInt (n := N) (by omega)
  refine lv_topi (fun x3 e3 => ?_)
  rw [← e3] at eN
  refine lv_istore_n (lv' := [(3, .int x3), (2, .int 0), (0, .ref a), (1, .int x1)]) hx hb dJ7_fill_53178_4 rfl hl2 (by decide) rfl (fun ls3 hl3 => ?_)
  have Lp : ∀ (nf : Nat) (ls : Array Slot) (H : Heap) (locs : List Loc) (x2 : Int32), lv_has ls 4 [(3, .int x3), (2, .int x2), (0, .ref a), (1, .int x1)] → TY K G H → va_S (AE G [t] s.heap.size) s.heap H locs → (0 ≤ x2.toInt ∧ x2.toInt ≤ N) → (∀ j : Nat, (j : Int) < x2.toInt → fI H a j = x1) → (N - x2.toInt < (nf : Int)) → W p l e ({ frames := 0, cells := 0, slots := 0, locals := 0 } : Room) s m (([.ref a, .int x1] : List Value).toArray) below meth c H locs 0 0 Q (F0 m 5 ls []) := by
    intro nf
    induction nf with
    | zero => intro ls H locs x2 hl hT hS b2 hi hm; exfalso; omega
    | succ nf ih =>
      intro ls H locs x2 hl hT hS b2 hi hm
      refine lv_iload_n hx hb dJ7_fill_53178_5 rfl (lv_at hl 1 rfl) ?_
      refine lv_iload_n hx hb dJ7_fill_53178_6 rfl (lv_at hl 0 rfl) ?_
      refine lv_icmp_ge (tgt := 20) hx hb dJ7_fill_53178_7 (by decide) (fun c1 => ?_) (fun c1 => ?_)
      · have k1 := i_le c1
        exact x_vret C hQ dJ7_fill_53178_20 hS (by decide) (by decide) ⟨rfl, hT, fun j hj => hi j (by omega)⟩
      · have k1 := i_nle c1
        refine lv_aload_n hx hb dJ7_fill_53178_10 rfl (lv_at hl 2 rfl) ?_
        refine lv_iload_n hx hb dJ7_fill_53178_11 rfl (lv_at hl 1 rfl) ?_
        refine lv_iload_n hx hb dJ7_fill_53178_12 rfl (lv_at hl 3 rfl) ?_
        refine x_iast C hT hS ga hs (by omega) (by omega) hv (AE_in ga (by simp)) dJ7_fill_53178_13 (fun H1 locs1 hT1 hS1 w1 => ?_)
        obtain ⟨x9, e9⟩ : ∃ y : Int32, y = x2 + 1 := ⟨_, rfl⟩
        have t9 := i_add e9 (by omega)
        refine lv_iinc (v := x9) (lv' := [(2, .int x9), (3, .int x3), (0, .ref a), (1, .int x1)]) hx hb dJ7_fill_53178_14 hl (k := 1) rfl (by rw [e9]; rfl) (by decide) rfl (fun ls4 hl4 => ?_)
        refine lv_goto (tgt := 5) hx hb dJ7_fill_53178_17 (by decide) ?_
        refine ih ls4 H1 locs1 x9 (lv_sub hl4 [1, 0, 2, 3] rfl) hT1 hS1 (by omega) (fun j hj => ?_) (by omega)
        have ec := i_cl b2.1
        by_cases ej : j = x2.toNatClampNeg
        · subst ej
          exact w1.I
        · rw [w1.neI (Or.inr ej)]
          exact hi j (by omega)
  exact Lp ((N - (0 : Int32).toInt).toNat + 1) ls3 s.heap [] 0 hl3 hT hS (by omega) (fun j hj => by omega) (by omega)

set_option maxHeartbeats 4000000 in
set_option maxRecDepth 100000 in
theorem c_X0_begin (l : Launch) (K : KE) (G : Nat → Option Nat) (H : Heap) {a : Nat} (x1 : Int32) (hT : TY K G H) (ga : G a = some 1) (h1 : 0 ≤ x1.toInt ∧ x1.toInt ≤ 16) : MX l K yX0_begin cX0_begin 2 none 1 23 0 0 [.ref a, .int x1] H (AE G [1, 2, 3, 4, 5, 6, 15] H.size) (fun v H1 => v = none ∧ TY K G H1) := by
  refine MX.of (by decide +kernel) (Nat.le_of_ble_eq_true rfl) ?_
  intro p e s m below meth c ls Q C hH hl hQ
  subst hH
  have C : CX p K s m _ meth c RX0 cX0_begin 2 none "begin" := C
  obtain ⟨hx, hb, hml, hown, hts, hKT, hr, hlocks, hnm⟩ := id C
  have hl : lv_has ls 2 [(0, .ref a), (1, .int x1)] := hl
  have hS : va_S (AE G [1, 2, 3, 4, 5, 6, 15] s.heap.size) s.heap s.heap [] := va_S.rf
  have n_m1 : ((-1) : Int32).toInt = -1 := rfl
  have n_0 : (0 : Int32).toInt = 0 := rfl
  have n_5 : (5 : Int32).toInt = 5 := rfl
  have n_20 : (20 : Int32).toInt = 20 := rfl
  have n_500 : (500 : Int32).toInt = 500 := rfl
  refine lv_aload_n hx hb dX0_begin_0 rfl (lv_at hl 0 rfl) ?_
  refine lv_iload_n hx hb dX0_begin_1 rfl (lv_at hl 1 rfl) ?_
  refine x_put C hT hS (ci := 0) (k := 0) (v := .int x1) (ty0 := tyX0) rfl inX0 tyX0_ok nmX0 (by decide) rfl wF_X0_50 ga rg_1 rfl rfl (okI (by have := i_rng x1; omega) (by have := i_rng x1; omega)) rfl rfl (AE_in ga (by decide)) dX0_begin_2 (fun H101 locsH101 hTH101 hSH101 wH101 => ?_)
  have m102 := Wr.I wH101
  have m102 := m102.symm
  refine lv_aload_n hx hb dX0_begin_5 rfl (lv_at hl 0 rfl) ?_
  refine x_gr C hTH101 (ci := 0) (k := 1) rfl inX0 (by decide) wF_X0_9 ga rg_1 rfl dX0_begin_6 (fun q103 eq103 gq103 => ?_)
  refine lv_bipush (v := 20) hx hb dX0_begin_9 (by decide) ?_
  refine x_S (As := [.ref q103, .int 20]) (rest := []) C (c_fill l K G H101 (20) hTH101 gq103 rg_2 (by decide) ⟨by have := i_rng (20 : Int32); omega, by have := i_rng (20 : Int32); omega⟩) yo_J7_fill_53178 wM_X0_54 ⟨⟨by decide, by decide⟩, by decide, by decide⟩ rfl hl.1 rfl (Nat.le_of_ble_eq_true rfl) dX0_begin_11 hSH101 (AE_sub (fun _ _ => rfl) (by decide) hSH101.1) (fun vH104 H104 locsH104 pH104 zH104 kH104 hSH104 => ?_)
  have hTH104 := pH104.2.1
  have hvH104 := pH104.1
  subst hvH104
  have m105 := (m102).trans (fI_kept (x_lt hTH101 kH104 ga (by decide))).symm
  have m106 := (eq103).trans (fR_kept (x_lt hTH101 kH104 ga (by decide))).symm
  refine W.eq (g2 := F0 m 14 ls []) rfl ?_
  refine lv_aload_n hx hb dX0_begin_14 rfl (lv_at hl 0 rfl) ?_
  refine x_gr C hTH104 (ci := 0) (k := 2) rfl inX0 (by decide) wF_X0_15 ga rg_1 rfl dX0_begin_15 (fun q107 eq107 gq107 => ?_)
  refine lv_iconst (v := 5) hx hb dX0_begin_18 (by decide) ?_
  refine x_S (As := [.ref q107, .int 5]) (rest := []) C (c_fill l K G H104 (5) hTH104 gq107 rg_3 (by decide) ⟨by have := i_rng (5 : Int32); omega, by have := i_rng (5 : Int32); omega⟩) yo_J7_fill_53178 wM_X0_54 ⟨⟨by decide, by decide⟩, by decide, by decide⟩ rfl hl.1 rfl (Nat.le_of_ble_eq_true rfl) dX0_begin_19 hSH104 (AE_sub (fun _ _ => rfl) (by decide) hSH104.1) (fun vH108 H108 locsH108 pH108 zH108 kH108 hSH108 => ?_)
  have hTH108 := pH108.2.1
  have hvH108 := pH108.1
  subst hvH108
  have m109 := (m105).trans (fI_kept (x_lt hTH104 kH108 ga (by decide))).symm
  have m110 := (m106).trans (fR_kept (x_lt hTH104 kH108 ga (by decide))).symm
  have m111 := (eq107).trans (fR_kept (x_lt hTH104 kH108 ga (by decide))).symm
  refine W.eq (g2 := F0 m 22 ls []) rfl ?_
  refine lv_aload_n hx hb dX0_begin_22 rfl (lv_at hl 0 rfl) ?_
  refine x_gr C hTH108 (ci := 0) (k := 3) rfl inX0 (by decide) wF_X0_18 ga rg_1 rfl dX0_begin_23 (fun q112 eq112 gq112 => ?_)
  refine lv_iconst (v := 5) hx hb dX0_begin_26 (by decide) ?_
  refine x_S (As := [.ref q112, .int 5]) (rest := []) C (c_fill l K G H108 (5) hTH108 gq112 rg_4 (by decide) ⟨by have := i_rng (5 : Int32); omega, by have := i_rng (5 : Int32); omega⟩) yo_J7_fill_53178 wM_X0_54 ⟨⟨by decide, by decide⟩, by decide, by decide⟩ rfl hl.1 rfl (Nat.le_of_ble_eq_true rfl) dX0_begin_27 hSH108 (AE_sub (fun _ _ => rfl) (by decide) hSH108.1) (fun vH113 H113 locsH113 pH113 zH113 kH113 hSH113 => ?_)
  have hTH113 := pH113.2.1
  have hvH113 := pH113.1
  subst hvH113
  have m114 := (m109).trans (fI_kept (x_lt hTH108 kH113 ga (by decide))).symm
  have m115 := (m110).trans (fR_kept (x_lt hTH108 kH113 ga (by decide))).symm
  have m116 := (m111).trans (fR_kept (x_lt hTH108 kH113 ga (by decide))).symm
  have m117 := (eq112).trans (fR_kept (x_lt hTH108 kH113 ga (by decide))).symm
  refine W.eq (g2 := F0 m 30 ls []) rfl ?_
  refine lv_aload_n hx hb dX0_begin_30 rfl (lv_at hl 0 rfl) ?_
  refine x_gr C hTH113 (ci := 0) (k := 4) rfl inX0 (by decide) wF_X0_21 ga rg_1 rfl dX0_begin_31 (fun q118 eq118 gq118 => ?_)
  refine lv_iconst (v := 0) hx hb dX0_begin_34 (by decide) ?_
  refine x_S (As := [.ref q118, .int 0]) (rest := []) C (c_fill l K G H113 (0) hTH113 gq118 rg_5 (by decide) ⟨by have := i_rng (0 : Int32); omega, by have := i_rng (0 : Int32); omega⟩) yo_J7_fill_53178 wM_X0_54 ⟨⟨by decide, by decide⟩, by decide, by decide⟩ rfl hl.1 rfl (Nat.le_of_ble_eq_true rfl) dX0_begin_35 hSH113 (AE_sub (fun _ _ => rfl) (by decide) hSH113.1) (fun vH119 H119 locsH119 pH119 zH119 kH119 hSH119 => ?_)
  have hTH119 := pH119.2.1
  have hvH119 := pH119.1
  subst hvH119
  have m120 := (m114).trans (fI_kept (x_lt hTH113 kH119 ga (by decide))).symm
  have m121 := (m115).trans (fR_kept (x_lt hTH113 kH119 ga (by decide))).symm
  have m122 := (m116).trans (fR_kept (x_lt hTH113 kH119 ga (by decide))).symm
  have m123 := (m117).trans (fR_kept (x_lt hTH113 kH119 ga (by decide))).symm
  have m124 := (eq118).trans (fR_kept (x_lt hTH113 kH119 ga (by decide))).symm
  refine W.eq (g2 := F0 m 38 ls []) rfl ?_
  refine lv_aload_n hx hb dX0_begin_38 rfl (lv_at hl 0 rfl) ?_
  refine x_gr C hTH119 (ci := 0) (k := 5) rfl inX0 (by decide) wF_X0_24 ga rg_1 rfl dX0_begin_39 (fun q125 eq125 gq125 => ?_)
  refine lv_iconst (v := 0) hx hb dX0_begin_42 (by decide) ?_
  refine x_S (As := [.ref q125, .int 0]) (rest := []) C (c_fill l K G H119 (0) hTH119 gq125 rg_6 (by decide) ⟨by have := i_rng (0 : Int32); omega, by have := i_rng (0 : Int32); omega⟩) yo_J7_fill_53178 wM_X0_54 ⟨⟨by decide, by decide⟩, by decide, by decide⟩ rfl hl.1 rfl (Nat.le_of_ble_eq_true rfl) dX0_begin_43 hSH119 (AE_sub (fun _ _ => rfl) (by decide) hSH119.1) (fun vH126 H126 locsH126 pH126 zH126 kH126 hSH126 => ?_)
  have hTH126 := pH126.2.1
  have hvH126 := pH126.1
  subst hvH126
  have m127 := (m120).trans (fI_kept (x_lt hTH119 kH126 ga (by decide))).symm
  have m128 := (m121).trans (fR_kept (x_lt hTH119 kH126 ga (by decide))).symm
  have m129 := (m122).trans (fR_kept (x_lt hTH119 kH126 ga (by decide))).symm
  have m130 := (m123).trans (fR_kept (x_lt hTH119 kH126 ga (by decide))).symm
  have m131 := (m124).trans (fR_kept (x_lt hTH119 kH126 ga (by decide))).symm
  have m132 := (eq125).trans (fR_kept (x_lt hTH119 kH126 ga (by decide))).symm
  refine W.eq (g2 := F0 m 46 ls []) rfl ?_
  refine lv_aload_n hx hb dX0_begin_46 rfl (lv_at hl 0 rfl) ?_
  refine x_gr C hTH126 (ci := 0) (k := 17) rfl inX0 (by decide) wF_X0_47 ga rg_1 rfl dX0_begin_47 (fun q133 eq133 gq133 => ?_)
  refine lv_sipush (v := 500) hx hb dX0_begin_50 (by decide) ?_
  refine x_S (As := [.ref q133, .int 500]) (rest := []) C (c_fill l K G H126 (500) hTH126 gq133 rg_15 (by decide) ⟨by have := i_rng (500 : Int32); omega, by have := i_rng (500 : Int32); omega⟩) yo_J7_fill_53178 wM_X0_54 ⟨⟨by decide, by decide⟩, by decide, by decide⟩ rfl hl.1 rfl (Nat.le_of_ble_eq_true rfl) dX0_begin_53 hSH126 (AE_sub (fun _ _ => rfl) (by decide) hSH126.1) (fun vH134 H134 locsH134 pH134 zH134 kH134 hSH134 => ?_)
  have hTH134 := pH134.2.1
  have hvH134 := pH134.1
  subst hvH134
  have m135 := (m127).trans (fI_kept (x_lt hTH126 kH134 ga (by decide))).symm
  have m136 := (m128).trans (fR_kept (x_lt hTH126 kH134 ga (by decide))).symm
  have m137 := (m129).trans (fR_kept (x_lt hTH126 kH134 ga (by decide))).symm
  have m138 := (m130).trans (fR_kept (x_lt hTH126 kH134 ga (by decide))).symm
  have m139 := (m131).trans (fR_kept (x_lt hTH126 kH134 ga (by decide))).symm
  have m140 := (m132).trans (fR_kept (x_lt hTH126 kH134 ga (by decide))).symm
  have m141 := (eq133).trans (fR_kept (x_lt hTH126 kH134 ga (by decide))).symm
  refine W.eq (g2 := F0 m 56 ls []) rfl ?_
  refine lv_aload_n hx hb dX0_begin_56 rfl (lv_at hl 0 rfl) ?_
  refine lv_iconst (v := 0) hx hb dX0_begin_57 (by decide) ?_
  refine x_put C hTH134 hSH134 (ci := 0) (k := 8) (v := .int 0) (ty0 := tyX0) rfl inX0 tyX0_ok nmX0 (by decide) rfl wF_X0_60 ga rg_1 rfl rfl (okI (by have := i_rng (0 : Int32); omega) (by have := i_rng (0 : Int32); omega)) rfl rfl (AE_in ga (by decide)) dX0_begin_58 (fun H142 locsH142 hTH142 hSH142 wH142 => ?_)
  have m143 := m135.trans (Wr.neI wH142 (Or.inr (x_apart hKT hts inX0 tyX0 tyX0_ok nmX0 rfl 0 8 (by decide) (by decide) (by decide)))).symm
  have m144 := m136.trans (Wr.neR wH142 (Or.inr (x_apart hKT hts inX0 tyX0 tyX0_ok nmX0 rfl 1 8 (by decide) (by decide) (by decide)))).symm
  have m145 := m137.trans (Wr.neR wH142 (Or.inr (x_apart hKT hts inX0 tyX0 tyX0_ok nmX0 rfl 2 8 (by decide) (by decide) (by decide)))).symm
  have m146 := m138.trans (Wr.neR wH142 (Or.inr (x_apart hKT hts inX0 tyX0 tyX0_ok nmX0 rfl 3 8 (by decide) (by decide) (by decide)))).symm
  have m147 := m139.trans (Wr.neR wH142 (Or.inr (x_apart hKT hts inX0 tyX0 tyX0_ok nmX0 rfl 4 8 (by decide) (by decide) (by decide)))).symm
  have m148 := m140.trans (Wr.neR wH142 (Or.inr (x_apart hKT hts inX0 tyX0 tyX0_ok nmX0 rfl 5 8 (by decide) (by decide) (by decide)))).symm
  have m149 := m141.trans (Wr.neR wH142 (Or.inr (x_apart hKT hts inX0 tyX0 tyX0_ok nmX0 rfl 17 8 (by decide) (by decide) (by decide)))).symm
  have m150 := Wr.I wH142
  refine lv_aload_n hx hb dX0_begin_61 rfl (lv_at hl 0 rfl) ?_
  refine lv_iconst (v := 0) hx hb dX0_begin_62 (by decide) ?_
  refine x_put C hTH142 hSH142 (ci := 0) (k := 9) (v := .int 0) (ty0 := tyX0) rfl inX0 tyX0_ok nmX0 (by decide) rfl wF_X0_63 ga rg_1 rfl rfl (okI (by have := i_rng (0 : Int32); omega) (by have := i_rng (0 : Int32); omega)) rfl rfl (AE_in ga (by decide)) dX0_begin_63 (fun H151 locsH151 hTH151 hSH151 wH151 => ?_)
  have m152 := m143.trans (Wr.neI wH151 (Or.inr (x_apart hKT hts inX0 tyX0 tyX0_ok nmX0 rfl 0 9 (by decide) (by decide) (by decide)))).symm
  have m153 := m144.trans (Wr.neR wH151 (Or.inr (x_apart hKT hts inX0 tyX0 tyX0_ok nmX0 rfl 1 9 (by decide) (by decide) (by decide)))).symm
  have m154 := m145.trans (Wr.neR wH151 (Or.inr (x_apart hKT hts inX0 tyX0 tyX0_ok nmX0 rfl 2 9 (by decide) (by decide) (by decide)))).symm
  have m155 := m146.trans (Wr.neR wH151 (Or.inr (x_apart hKT hts inX0 tyX0 tyX0_ok nmX0 rfl 3 9 (by decide) (by decide) (by decide)))).symm
  have m156 := m147.trans (Wr.neR wH151 (Or.inr (x_apart hKT hts inX0 tyX0 tyX0_ok nmX0 rfl 4 9 (by decide) (by decide) (by decide)))).symm
  have m157 := m148.trans (Wr.neR wH151 (Or.inr (x_apart hKT hts inX0 tyX0 tyX0_ok nmX0 rfl 5 9 (by decide) (by decide) (by decide)))).symm
  have m158 := m149.trans (Wr.neR wH151 (Or.inr (x_apart hKT hts inX0 tyX0 tyX0_ok nmX0 rfl 17 9 (by decide) (by decide) (by decide)))).symm
  have m159 := (Wr.neI wH151 (Or.inr (x_apart hKT hts inX0 tyX0 tyX0_ok nmX0 rfl 8 9 (by decide) (by decide) (by decide)))).trans m150
  have m160 := Wr.I wH151
  refine lv_aload_n hx hb dX0_begin_66 rfl (lv_at hl 0 rfl) ?_
  refine lv_iconst (v := 0) hx hb dX0_begin_67 (by decide) ?_
  refine x_put C hTH151 hSH151 (ci := 0) (k := 14) (v := .int 0) (ty0 := tyX0) rfl inX0 tyX0_ok nmX0 (by decide) rfl wF_X0_66 ga rg_1 rfl rfl (okI (by have := i_rng (0 : Int32); omega) (by have := i_rng (0 : Int32); omega)) rfl rfl (AE_in ga (by decide)) dX0_begin_68 (fun H161 locsH161 hTH161 hSH161 wH161 => ?_)
  have m162 := m152.trans (Wr.neI wH161 (Or.inr (x_apart hKT hts inX0 tyX0 tyX0_ok nmX0 rfl 0 14 (by decide) (by decide) (by decide)))).symm
  have m163 := m153.trans (Wr.neR wH161 (Or.inr (x_apart hKT hts inX0 tyX0 tyX0_ok nmX0 rfl 1 14 (by decide) (by decide) (by decide)))).symm
  have m164 := m154.trans (Wr.neR wH161 (Or.inr (x_apart hKT hts inX0 tyX0 tyX0_ok nmX0 rfl 2 14 (by decide) (by decide) (by decide)))).symm
  have m165 := m155.trans (Wr.neR wH161 (Or.inr (x_apart hKT hts inX0 tyX0 tyX0_ok nmX0 rfl 3 14 (by decide) (by decide) (by decide)))).symm
  have m166 := m156.trans (Wr.neR wH161 (Or.inr (x_apart hKT hts inX0 tyX0 tyX0_ok nmX0 rfl 4 14 (by decide) (by decide) (by decide)))).symm
  have m167 := m157.trans (Wr.neR wH161 (Or.inr (x_apart hKT hts inX0 tyX0 tyX0_ok nmX0 rfl 5 14 (by decide) (by decide) (by decide)))).symm
  have m168 := m158.trans (Wr.neR wH161 (Or.inr (x_apart hKT hts inX0 tyX0 tyX0_ok nmX0 rfl 17 14 (by decide) (by decide) (by decide)))).symm
  have m169 := (Wr.neI wH161 (Or.inr (x_apart hKT hts inX0 tyX0 tyX0_ok nmX0 rfl 8 14 (by decide) (by decide) (by decide)))).trans m159
  have m170 := (Wr.neI wH161 (Or.inr (x_apart hKT hts inX0 tyX0 tyX0_ok nmX0 rfl 9 14 (by decide) (by decide) (by decide)))).trans m160
  have m171 := Wr.I wH161
  refine lv_aload_n hx hb dX0_begin_71 rfl (lv_at hl 0 rfl) ?_
  refine lv_iconst (v := (-1)) hx hb dX0_begin_72 (by decide) ?_
  refine x_put C hTH161 hSH161 (ci := 0) (k := 15) (v := .int (-1)) (ty0 := tyX0) rfl inX0 tyX0_ok nmX0 (by decide) rfl wF_X0_69 ga rg_1 rfl rfl (okI (by have := i_rng ((-1) : Int32); omega) (by have := i_rng ((-1) : Int32); omega)) rfl rfl (AE_in ga (by decide)) dX0_begin_73 (fun H172 locsH172 hTH172 hSH172 wH172 => ?_)
  have m173 := m162.trans (Wr.neI wH172 (Or.inr (x_apart hKT hts inX0 tyX0 tyX0_ok nmX0 rfl 0 15 (by decide) (by decide) (by decide)))).symm
  have m174 := m163.trans (Wr.neR wH172 (Or.inr (x_apart hKT hts inX0 tyX0 tyX0_ok nmX0 rfl 1 15 (by decide) (by decide) (by decide)))).symm
  have m175 := m164.trans (Wr.neR wH172 (Or.inr (x_apart hKT hts inX0 tyX0 tyX0_ok nmX0 rfl 2 15 (by decide) (by decide) (by decide)))).symm
  have m176 := m165.trans (Wr.neR wH172 (Or.inr (x_apart hKT hts inX0 tyX0 tyX0_ok nmX0 rfl 3 15 (by decide) (by decide) (by decide)))).symm
  have m177 := m166.trans (Wr.neR wH172 (Or.inr (x_apart hKT hts inX0 tyX0 tyX0_ok nmX0 rfl 4 15 (by decide) (by decide) (by decide)))).symm
  have m178 := m167.trans (Wr.neR wH172 (Or.inr (x_apart hKT hts inX0 tyX0 tyX0_ok nmX0 rfl 5 15 (by decide) (by decide) (by decide)))).symm
  have m179 := m168.trans (Wr.neR wH172 (Or.inr (x_apart hKT hts inX0 tyX0 tyX0_ok nmX0 rfl 17 15 (by decide) (by decide) (by decide)))).symm
  have m180 := (Wr.neI wH172 (Or.inr (x_apart hKT hts inX0 tyX0 tyX0_ok nmX0 rfl 8 15 (by decide) (by decide) (by decide)))).trans m169
  have m181 := (Wr.neI wH172 (Or.inr (x_apart hKT hts inX0 tyX0 tyX0_ok nmX0 rfl 9 15 (by decide) (by decide) (by decide)))).trans m170
  have m182 := (Wr.neI wH172 (Or.inr (x_apart hKT hts inX0 tyX0 tyX0_ok nmX0 rfl 14 15 (by decide) (by decide) (by decide)))).trans m171
  have m183 := Wr.I wH172
  refine lv_aload_n hx hb dX0_begin_76 rfl (lv_at hl 0 rfl) ?_
  refine lv_iconst (v := (-1)) hx hb dX0_begin_77 (by decide) ?_
  refine x_put C hTH172 hSH172 (ci := 0) (k := 16) (v := .int (-1)) (ty0 := tyX0) rfl inX0 tyX0_ok nmX0 (by decide) rfl wF_X0_72 ga rg_1 rfl rfl (okI (by have := i_rng ((-1) : Int32); omega) (by have := i_rng ((-1) : Int32); omega)) rfl rfl (AE_in ga (by decide)) dX0_begin_78 (fun H184 locsH184 hTH184 hSH184 wH184 => ?_)
  have m185 := m173.trans (Wr.neI wH184 (Or.inr (x_apart hKT hts inX0 tyX0 tyX0_ok nmX0 rfl 0 16 (by decide) (by decide) (by decide)))).symm
  have m186 := m174.trans (Wr.neR wH184 (Or.inr (x_apart hKT hts inX0 tyX0 tyX0_ok nmX0 rfl 1 16 (by decide) (by decide) (by decide)))).symm
  have m187 := m175.trans (Wr.neR wH184 (Or.inr (x_apart hKT hts inX0 tyX0 tyX0_ok nmX0 rfl 2 16 (by decide) (by decide) (by decide)))).symm
  have m188 := m176.trans (Wr.neR wH184 (Or.inr (x_apart hKT hts inX0 tyX0 tyX0_ok nmX0 rfl 3 16 (by decide) (by decide) (by decide)))).symm
  have m189 := m177.trans (Wr.neR wH184 (Or.inr (x_apart hKT hts inX0 tyX0 tyX0_ok nmX0 rfl 4 16 (by decide) (by decide) (by decide)))).symm
  have m190 := m178.trans (Wr.neR wH184 (Or.inr (x_apart hKT hts inX0 tyX0 tyX0_ok nmX0 rfl 5 16 (by decide) (by decide) (by decide)))).symm
  have m191 := m179.trans (Wr.neR wH184 (Or.inr (x_apart hKT hts inX0 tyX0 tyX0_ok nmX0 rfl 17 16 (by decide) (by decide) (by decide)))).symm
  have m192 := (Wr.neI wH184 (Or.inr (x_apart hKT hts inX0 tyX0 tyX0_ok nmX0 rfl 8 16 (by decide) (by decide) (by decide)))).trans m180
  have m193 := (Wr.neI wH184 (Or.inr (x_apart hKT hts inX0 tyX0 tyX0_ok nmX0 rfl 9 16 (by decide) (by decide) (by decide)))).trans m181
  have m194 := (Wr.neI wH184 (Or.inr (x_apart hKT hts inX0 tyX0 tyX0_ok nmX0 rfl 14 16 (by decide) (by decide) (by decide)))).trans m182
  have m195 := (Wr.neI wH184 (Or.inr (x_apart hKT hts inX0 tyX0 tyX0_ok nmX0 rfl 15 16 (by decide) (by decide) (by decide)))).trans m183
  have m196 := Wr.I wH184
  exact x_vret C hQ dX0_begin_81 hSH184 (by decide) (by decide) (⟨rfl, hTH184⟩)

set_option maxHeartbeats 4000000 in
set_option maxRecDepth 100000 in
theorem f_X9_bar (l : Launch) (K : KE) (G : Nat → Option Nat) (H : Heap) {a w : Nat} (x0 : Int32) (hT : TY K G H) (ga : G a = some 68) (gw : G w = some 0) (fx : FX K H a w) : MX l K yX9_bar cX9_bar 2 (some .int) 2 44 0 0 [.ref a, .int x0] H (AE G [0, 1, 2, 3, 4, 5, 6, 15] H.size) (fun v H1 => (∃ r : Int32, v = some (.int r) ∧ ((3 ≤ x0.toInt ∧ x0.toInt ≤ 16 ∧ r.toInt = 0) ∨ (¬ (3 ≤ x0.toInt ∧ x0.toInt ≤ 16) ∧ r.toInt = -1))) ∧ ∃ G1 : Nat → Option Nat, (∀ q, q < H.size → G1 q = G q) ∧ TY K G1 H1) := by
  refine MX.of (by decide +kernel) (Nat.le_of_ble_eq_true rfl) ?_
  intro p e s m below meth c ls Q C hH hl hQ
  subst hH
  have C : CX p K s m _ meth c RX9 cX9_bar 2 (some .int) "bar" := C
  obtain ⟨hx, hb, hml, hown, hts, hKT, hr, hlocks, hnm⟩ := id C
  have hl : lv_has ls 2 [(0, .ref a), (1, .int x0)] := hl
  have hS : va_S (AE G [0, 1, 2, 3, 4, 5, 6, 15] s.heap.size) s.heap s.heap [] := va_S.rf
  have n_m1 : ((-1) : Int32).toInt = -1 := rfl
  have n_0 : (0 : Int32).toInt = 0 := rfl
  have n_1 : (1 : Int32).toInt = 1 := rfl
  have n_3 : (3 : Int32).toInt = 3 := rfl
  have n_10 : (10 : Int32).toInt = 10 := rfl
  have n_16 : (16 : Int32).toInt = 16 := rfl
  obtain ⟨f0, f1, f2, f3, f4, f5, f6, f7, f8, f9, f10⟩ := fx
  refine lv_iload_n hx hb dX9_bar_0 rfl (lv_at hl 1 rfl) ?_
  refine lv_iconst (v := 3) hx hb dX9_bar_1 (by decide) ?_
  refine lv_icmp_lt (tgt := 23) hx hb dX9_bar_2 (by decide) (fun c101 => ?_) (fun c101 => ?_)
  · have k102 := i_lt c101
    refine lv_iconst (v := (-1)) hx hb dX9_bar_23 (by decide) ?_
    exact x_iret C hQ dX9_bar_24 hS (by decide) (by decide) (⟨⟨(-1), rfl, by omega⟩, G, fun _ _ => rfl, hT⟩)
  · have k102 := i_nlt c101
    refine lv_iload_n hx hb dX9_bar_5 rfl (lv_at hl 1 rfl) ?_
    refine lv_bipush (v := 16) hx hb dX9_bar_6 (by decide) ?_
    refine lv_icmp_gt (tgt := 23) hx hb dX9_bar_8 (by decide) (fun c103 => ?_) (fun c103 => ?_)
    · have k104 := i_lt c103
      refine lv_iconst (v := (-1)) hx hb dX9_bar_23 (by decide) ?_
      exact x_iret C hQ dX9_bar_24 hS (by decide) (by decide) (⟨⟨(-1), rfl, by omega⟩, G, fun _ _ => rfl, hT⟩)
    · have k104 := i_nlt c103
      refine lv_aload_n hx hb dX9_bar_11 rfl (lv_at hl 0 rfl) ?_
      refine x_gr C hT (ci := 9) (k := 0) rfl inX9 (by decide) wF_X9_12 ga rg_68 rfl dX9_bar_12 (fun q105 eq105 gq105 => ?_)
      have uq105 : w = q105 := (f0).trans eq105.symm
      subst uq105
      refine x_gi C hT (ci := 8) (k := 1) rfl inX8 (by decide) wF_X9_64 gw rg_0 rfl dX9_bar_15 (fun x106 ex106 bx106 => ?_)
      have ux106 : x106 = 0 := ex106.trans f3
      subst ux106
      refine lv_bipush (v := 10) hx hb dX9_bar_18 (by decide) ?_
      refine lv_icmp_lt (tgt := 25) hx hb dX9_bar_20 (by decide) (fun c107 => ?_) (fun c107 => ?_)
      · have k108 := i_lt c107
        refine lv_aload_n hx hb dX9_bar_25 rfl (lv_at hl 0 rfl) ?_
        refine x_gr C hT (ci := 9) (k := 0) rfl inX9 (by decide) wF_X9_12 ga rg_68 rfl dX9_bar_26 (fun q109 eq109 gq109 => ?_)
        have uq109 : w = q109 := (f0).trans eq109.symm
        subst uq109
        refine x_gr C hT (ci := 8) (k := 0) rfl inX8 (by decide) wF_X9_68 gw rg_0 rfl dX9_bar_29 (fun q110 eq110 gq110 => ?_)
        refine lv_aload_n hx hb dX9_bar_32 rfl (lv_at hl 0 rfl) ?_
        refine x_gr C hT (ci := 9) (k := 0) rfl inX9 (by decide) wF_X9_12 ga rg_68 rfl dX9_bar_33 (fun q111 eq111 gq111 => ?_)
        have uq111 : w = q111 := (f0).trans eq111.symm
        subst uq111
        refine x_gi C hT (ci := 8) (k := 1) rfl inX8 (by decide) wF_X9_64 gw rg_0 rfl dX9_bar_36 (fun x112 ex112 bx112 => ?_)
        have ux112 : x112 = 0 := ex112.trans f3
        subst ux112
        refine x_ar C hT rfl rfl gq110 rg_25 (by decide) dX9_bar_39 (fun q113 eq113 gq113 => ?_)
        refine lv_iload_n hx hb dX9_bar_40 rfl (lv_at hl 1 rfl) ?_
        refine x_V (As := [.int x0]) (rest := []) C (c_X0_begin l K G s.heap (x0) hT gq113 (by omega)) yo_X0_begin wM_X9_72 ⟨⟨by decide, by decide⟩, by decide, by decide⟩ (x_rv C hT (ci := 0) rfl gq113 rg_1) rfl hl.1 rfl (Nat.le_of_ble_eq_true rfl) dX9_bar_41 hS (AE_sub (fun _ _ => rfl) (by decide) hS.1) (fun vH114 H114 locsH114 pH114 zH114 kH114 hSH114 => ?_)
        have hTH114 := pH114.2
        have hvH114 := pH114.1
        subst hvH114
        have m115 := (f0).trans (fR_kept (x_lt hT kH114 ga (by decide))).symm
        have m116 := (fV_kept (x_lt hT kH114 ga (by decide))).trans f1
        have m117 := (fI_kept (x_lt hT kH114 ga (by decide))).trans f2
        have m118 := (fI_kept (x_lt hT kH114 gw (by decide))).trans f3
        have m119 := (fI_kept (x_lt hT kH114 gw (by decide))).trans f4
        have m120 := (fI_kept (x_lt hT kH114 gw (by decide))).trans f5
        have m121 := (fI_kept (x_lt hT kH114 gw (by decide))).trans f6
        have m122 := (fI_kept (x_lt hT kH114 gw (by decide))).trans f7
        have m123 := (fI_kept (x_lt hT kH114 gw (by decide))).trans f8
        have m124 := (fI_kept (x_lt hT kH114 gw (by decide))).trans f9
        have m125 := (fI_kept (x_lt hT kH114 gw (by decide))).trans f10
        have m126 := (eq110).trans (fR_kept (x_lt hT kH114 gw (by decide))).symm
        refine W.eq (g2 := F0 m 44 ls []) rfl ?_
        refine lv_aload_n hx hb dX9_bar_44 rfl (lv_at hl 0 rfl) ?_
        refine x_gr C hTH114 (ci := 9) (k := 0) rfl inX9 (by decide) wF_X9_12 ga rg_68 rfl dX9_bar_45 (fun q127 eq127 gq127 => ?_)
        have uq127 : w = q127 := (m115).trans eq127.symm
        subst uq127
        refine lv_dup hx hb dX9_bar_48 rfl ?_
        refine x_gi C hTH114 (ci := 8) (k := 1) rfl inX8 (by decide) wF_X9_64 gw rg_0 rfl dX9_bar_49 (fun x128 ex128 bx128 => ?_)
        have ux128 : x128 = 0 := ex128.trans m118
        subst ux128
        refine lv_iconst (v := 1) hx hb dX9_bar_52 (by decide) ?_
        refine lv_iadd hx hb dX9_bar_53 ?_
        refine lv_topi (fun x129 ex129 => ?_)
        have tx129 : x129 = 1 := by rw [ex129]; rfl
        rw [tx129] at ex129 ⊢
        clear tx129 ex129
        refine x_put C hTH114 hSH114 (ci := 8) (k := 1) (v := .int 1) (ty0 := tyX8) rfl inX8 tyX8_ok nmX8 (by decide) rfl wF_X9_64 gw rg_0 rfl rfl (okI (by have := i_rng (1 : Int32); omega) (by have := i_rng (1 : Int32); omega)) rfl rfl (AE_in gw (by decide)) dX9_bar_54 (fun H130 locsH130 hTH130 hSH130 wH130 => ?_)
        have m131 := m115.trans (Wr.neR wH130 (Or.inl (G_ne ga gw (by decide)))).symm
        have m132 := (Wr.neV wH130 (Or.inl (G_ne ga gw (by decide)))).trans m116
        have m133 := (Wr.neI wH130 (Or.inl (G_ne ga gw (by decide)))).trans m117
        have m135 := (Wr.neI wH130 (Or.inr (x_apart hKT hts inX8 tyX8 tyX8_ok nmX8 rfl 4 1 (by decide) (by decide) (by decide)))).trans m119
        have m136 := (Wr.neI wH130 (Or.inr (x_apart hKT hts inX8 tyX8 tyX8_ok nmX8 rfl 5 1 (by decide) (by decide) (by decide)))).trans m120
        have m137 := (Wr.neI wH130 (Or.inr (x_apart hKT hts inX8 tyX8 tyX8_ok nmX8 rfl 6 1 (by decide) (by decide) (by decide)))).trans m121
        have m138 := (Wr.neI wH130 (Or.inr (x_apart hKT hts inX8 tyX8 tyX8_ok nmX8 rfl 7 1 (by decide) (by decide) (by decide)))).trans m122
        have m139 := (Wr.neI wH130 (Or.inr (x_apart hKT hts inX8 tyX8 tyX8_ok nmX8 rfl 10 1 (by decide) (by decide) (by decide)))).trans m123
        have m140 := (Wr.neI wH130 (Or.inr (x_apart hKT hts inX8 tyX8 tyX8_ok nmX8 rfl 13 1 (by decide) (by decide) (by decide)))).trans m124
        have m141 := (Wr.neI wH130 (Or.inr (x_apart hKT hts inX8 tyX8 tyX8_ok nmX8 rfl 16 1 (by decide) (by decide) (by decide)))).trans m125
        have m142 := m126.trans (Wr.neR wH130 (Or.inr (x_apart hKT hts inX8 tyX8 tyX8_ok nmX8 rfl 0 1 (by decide) (by decide) (by decide)))).symm
        have m143 := Wr.I wH130
        refine lv_aload_n hx hb dX9_bar_57 rfl (lv_at hl 0 rfl) ?_
        refine x_gr C hTH130 (ci := 9) (k := 0) rfl inX9 (by decide) wF_X9_12 ga rg_68 rfl dX9_bar_58 (fun q144 eq144 gq144 => ?_)
        have uq144 : w = q144 := (m131).trans eq144.symm
        subst uq144
        refine x_gi C hTH130 (ci := 8) (k := 1) rfl inX8 (by decide) wF_X9_64 gw rg_0 rfl dX9_bar_61 (fun x145 ex145 bx145 => ?_)
        have ux145 : x145 = 1 := ex145.trans m143
        subst ux145
        refine lv_iconst (v := 1) hx hb dX9_bar_64 (by decide) ?_
        refine lv_isub hx hb dX9_bar_65 ?_
        refine lv_topi (fun x146 ex146 => ?_)
        have tx146 : x146 = 0 := by rw [ex146]; rfl
        rw [tx146] at ex146 ⊢
        clear tx146 ex146
        exact x_iret C hQ dX9_bar_66 hSH130 (by decide) (by decide) (⟨⟨0, rfl, by omega⟩, G, fun _ _ => rfl, hTH130⟩)
      · have k108 := i_nlt c107
        exfalso
        omega

set_option maxHeartbeats 4000000 in
set_option maxRecDepth 100000 in
theorem c_X9_addBytes (l : Launch) (K : KE) (G : Nat → Option Nat) (H : Heap) {a : Nat} (x1 T : Int32) (hT : TY K G H) (ga : G a = some 68) (hk : T = fI H a (K.1.2 9 3)) (h1 : 0 ≤ T.toInt ∧ T.toInt ≤ 496) : MX l K yX9_addBytes cX9_addBytes 3 none 0 0 0 0 [.ref a, .int x1] H (AE G [68, 108] H.size) (fun v H1 => v = none ∧ TY K G H1 ∧ ∃ T2 : Int32, T2.toInt = T.toInt + 4 ∧ fI H1 a (K.1.2 9 3) = T2) := by
  refine MX.of (by decide +kernel) (Nat.le_of_ble_eq_true rfl) ?_
  intro p e s m below meth c ls Q C hH hl hQ
  subst hH
  have C : CX p K s m _ meth c RX9 cX9_addBytes 3 none "addBytes" := C
  obtain ⟨hx, hb, hml, hown, hts, hKT, hr, hlocks, hnm⟩ := id C
  have hl : lv_has ls 3 [(0, .ref a), (1, .int x1)] := hl
  have hS : va_S (AE G [68, 108] s.heap.size) s.heap s.heap [] := va_S.rf
  have n_m8 : ((-8) : Int32).toInt = -8 := rfl
  have n_0 : (0 : Int32).toInt = 0 := rfl
  have n_1 : (1 : Int32).toInt = 1 := rfl
  have n_8 : (8 : Int32).toInt = 8 := rfl
  have n_16 : (16 : Int32).toInt = 16 := rfl
  have n_24 : (24 : Int32).toInt = 24 := rfl
  have n_255 : (255 : Int32).toInt = 255 := rfl
  have n_500 : (500 : Int32).toInt = 500 := rfl
  refine lv_bipush (v := 24) hx hb dX9_addBytes_0 (by decide) ?_
  refine lv_istore_n (lv' := [(2, .int 24), (0, .ref a), (1, .int x1)]) hx hb dX9_addBytes_2 rfl hl (by decide) rfl (fun ls101 hl102 => ?_)
  refine lv_iload_n hx hb dX9_addBytes_3 rfl (lv_at hl102 0 rfl) ?_
  refine lv_if_lt (tgt := 49) hx hb dX9_addBytes_4 (by decide) (fun c103 => ?_) (fun c103 => ?_)
  · have k104 := i_lt c103
    exfalso
    omega
  · have k104 := i_nlt c103
    refine lv_aload_n hx hb dX9_addBytes_7 rfl (lv_at hl102 1 rfl) ?_
    refine x_gi C hT (ci := 9) (k := 3) rfl inX9 (by decide) wF_X9_105 ga rg_68 rfl dX9_addBytes_8 (fun x105 ex105 bx105 => ?_)
    have ux105 : T = x105 := (hk).trans ex105.symm
    subst ux105
    refine lv_sipush (v := 500) hx hb dX9_addBytes_11 (by decide) ?_
    refine lv_icmp_ge (tgt := 49) hx hb dX9_addBytes_14 (by decide) (fun c106 => ?_) (fun c106 => ?_)
    · have k107 := i_le c106
      exfalso
      omega
    · have k107 := i_nle c106
      refine lv_aload_n hx hb dX9_addBytes_17 rfl (lv_at hl102 1 rfl) ?_
      refine x_gr C hT (ci := 9) (k := 2) rfl inX9 (by decide) wF_X9_16 ga rg_68 rfl dX9_addBytes_18 (fun q108 eq108 gq108 => ?_)
      refine lv_aload_n hx hb dX9_addBytes_21 rfl (lv_at hl102 1 rfl) ?_
      refine x_gi C hT (ci := 9) (k := 3) rfl inX9 (by decide) wF_X9_105 ga rg_68 rfl dX9_addBytes_22 (fun x109 ex109 bx109 => ?_)
      have ux109 : T = x109 := (hk).trans ex109.symm
      subst ux109
      refine lv_iload_n hx hb dX9_addBytes_25 rfl (lv_at hl102 2 rfl) ?_
      refine lv_iload_n hx hb dX9_addBytes_26 rfl (lv_at hl102 0 rfl) ?_
      obtain ⟨x110, ex110⟩ : ∃ z : Int32, ((x1 : Int32).toUInt32 >>> ((24 : Int32).toUInt32 &&& Int32.toUInt32 31)).toInt32 = z := ⟨_, rfl⟩
      refine lv_iushr (v := x110) hx hb dX9_addBytes_27 ex110 ?_
      refine lv_sipush (v := 255) hx hb dX9_addBytes_28 (by decide) ?_
      refine lv_iand hx hb dX9_addBytes_31 ?_
      refine lv_topi (fun x111 ex111 => ?_)
      have tx111 := i_and255 ex111
      refine x_iast C hT hS gq108 rg_108 (by omega) (by show _ < ((500 : Nat) : Int); omega) ⟨by have := i_rng x111; omega, by have := i_rng x111; omega⟩ (AE_in gq108 (by decide)) dX9_addBytes_32 (fun H112 locsH112 hTH112 hSH112 wH112 => ?_)
      have m113 := hk.trans (Wr.neI wH112 (Or.inl (G_ne ga gq108 (by decide)))).symm
      have m114 := eq108.trans (Wr.neR wH112 (Or.inl (G_ne ga gq108 (by decide)))).symm
      refine lv_aload_n hx hb dX9_addBytes_33 rfl (lv_at hl102 1 rfl) ?_
      refine lv_dup hx hb dX9_addBytes_34 rfl ?_
      refine x_gi C hTH112 (ci := 9) (k := 3) rfl inX9 (by decide) wF_X9_105 ga rg_68 rfl dX9_addBytes_35 (fun x115 ex115 bx115 => ?_)
      have ux115 : T = x115 := (m113).trans ex115.symm
      subst ux115
      refine lv_iconst (v := 1) hx hb dX9_addBytes_38 (by decide) ?_
      refine lv_iadd hx hb dX9_addBytes_39 ?_
      refine lv_topi (fun x116 ex116 => ?_)
      have tx116 := i_add ex116 (by omega)
      refine x_put C hTH112 hSH112 (ci := 9) (k := 3) (v := .int x116) (ty0 := tyX9) rfl inX9 tyX9_ok nmX9 (by decide) rfl wF_X9_105 ga rg_68 rfl rfl (okI (by have := i_rng x116; omega) (by have := i_rng x116; omega)) rfl rfl (AE_in ga (by decide)) dX9_addBytes_40 (fun H117 locsH117 hTH117 hSH117 wH117 => ?_)
      have m119 := m114.trans (Wr.neR wH117 (Or.inr (x_apart hKT hts inX9 tyX9 tyX9_ok nmX9 rfl 2 3 (by decide) (by decide) (by decide)))).symm
      have m120 := Wr.I wH117
      have m120 := m120.symm
      refine lv_iinc (v := 16) (lv' := [(2, .int 16), (0, .ref a), (1, .int x1)]) hx hb dX9_addBytes_43 hl102 (k := 0) rfl (by decide) (by decide) rfl (fun ls122 hl123 => ?_)
      refine lv_goto (tgt := 3) hx hb dX9_addBytes_46 (by decide) ?_
      refine lv_iload_n hx hb dX9_addBytes_3 rfl (lv_at hl123 0 rfl) ?_
      refine lv_if_lt (tgt := 49) hx hb dX9_addBytes_4 (by decide) (fun c124 => ?_) (fun c124 => ?_)
      · have k125 := i_lt c124
        exfalso
        omega
      · have k125 := i_nlt c124
        refine lv_aload_n hx hb dX9_addBytes_7 rfl (lv_at hl123 1 rfl) ?_
        refine x_gi C hTH117 (ci := 9) (k := 3) rfl inX9 (by decide) wF_X9_105 ga rg_68 rfl dX9_addBytes_8 (fun x126 ex126 bx126 => ?_)
        have ux126 : x116 = x126 := (m120).trans ex126.symm
        subst ux126
        refine lv_sipush (v := 500) hx hb dX9_addBytes_11 (by decide) ?_
        refine lv_icmp_ge (tgt := 49) hx hb dX9_addBytes_14 (by decide) (fun c127 => ?_) (fun c127 => ?_)
        · have k128 := i_le c127
          exfalso
          omega
        · have k128 := i_nle c127
          refine lv_aload_n hx hb dX9_addBytes_17 rfl (lv_at hl123 1 rfl) ?_
          refine x_gr C hTH117 (ci := 9) (k := 2) rfl inX9 (by decide) wF_X9_16 ga rg_68 rfl dX9_addBytes_18 (fun q129 eq129 gq129 => ?_)
          have uq129 : q108 = q129 := (m119).trans eq129.symm
          subst uq129
          refine lv_aload_n hx hb dX9_addBytes_21 rfl (lv_at hl123 1 rfl) ?_
          refine x_gi C hTH117 (ci := 9) (k := 3) rfl inX9 (by decide) wF_X9_105 ga rg_68 rfl dX9_addBytes_22 (fun x130 ex130 bx130 => ?_)
          have ux130 : x116 = x130 := (m120).trans ex130.symm
          subst ux130
          refine lv_iload_n hx hb dX9_addBytes_25 rfl (lv_at hl123 2 rfl) ?_
          refine lv_iload_n hx hb dX9_addBytes_26 rfl (lv_at hl123 0 rfl) ?_
          obtain ⟨x131, ex131⟩ : ∃ z : Int32, ((x1 : Int32).toUInt32 >>> ((16 : Int32).toUInt32 &&& Int32.toUInt32 31)).toInt32 = z := ⟨_, rfl⟩
          refine lv_iushr (v := x131) hx hb dX9_addBytes_27 ex131 ?_
          refine lv_sipush (v := 255) hx hb dX9_addBytes_28 (by decide) ?_
          refine lv_iand hx hb dX9_addBytes_31 ?_
          refine lv_topi (fun x132 ex132 => ?_)
          have tx132 := i_and255 ex132
          refine x_iast C hTH117 hSH117 gq108 rg_108 (by omega) (by show _ < ((500 : Nat) : Int); omega) ⟨by have := i_rng x132; omega, by have := i_rng x132; omega⟩ (AE_in gq108 (by decide)) dX9_addBytes_32 (fun H133 locsH133 hTH133 hSH133 wH133 => ?_)
          have m134 := m119.trans (Wr.neR wH133 (Or.inl (G_ne ga gq108 (by decide)))).symm
          have m135 := m120.trans (Wr.neI wH133 (Or.inl (G_ne ga gq108 (by decide)))).symm
          refine lv_aload_n hx hb dX9_addBytes_33 rfl (lv_at hl123 1 rfl) ?_
          refine lv_dup hx hb dX9_addBytes_34 rfl ?_
          refine x_gi C hTH133 (ci := 9) (k := 3) rfl inX9 (by decide) wF_X9_105 ga rg_68 rfl dX9_addBytes_35 (fun x136 ex136 bx136 => ?_)
          have ux136 : x116 = x136 := (m135).trans ex136.symm
          subst ux136
          refine lv_iconst (v := 1) hx hb dX9_addBytes_38 (by decide) ?_
          refine lv_iadd hx hb dX9_addBytes_39 ?_
          refine lv_topi (fun x137 ex137 => ?_)
          have tx137 := i_add ex137 (by omega)
          refine x_put C hTH133 hSH133 (ci := 9) (k := 3) (v := .int x137) (ty0 := tyX9) rfl inX9 tyX9_ok nmX9 (by decide) rfl wF_X9_105 ga rg_68 rfl rfl (okI (by have := i_rng x137; omega) (by have := i_rng x137; omega)) rfl rfl (AE_in ga (by decide)) dX9_addBytes_40 (fun H138 locsH138 hTH138 hSH138 wH138 => ?_)
          have m139 := m134.trans (Wr.neR wH138 (Or.inr (x_apart hKT hts inX9 tyX9 tyX9_ok nmX9 rfl 2 3 (by decide) (by decide) (by decide)))).symm
          have m141 := Wr.I wH138
          have m141 := m141.symm
          refine lv_iinc (v := 8) (lv' := [(2, .int 8), (0, .ref a), (1, .int x1)]) hx hb dX9_addBytes_43 hl123 (k := 0) rfl (by decide) (by decide) rfl (fun ls143 hl144 => ?_)
          refine lv_goto (tgt := 3) hx hb dX9_addBytes_46 (by decide) ?_
          refine lv_iload_n hx hb dX9_addBytes_3 rfl (lv_at hl144 0 rfl) ?_
          refine lv_if_lt (tgt := 49) hx hb dX9_addBytes_4 (by decide) (fun c145 => ?_) (fun c145 => ?_)
          · have k146 := i_lt c145
            exfalso
            omega
          · have k146 := i_nlt c145
            refine lv_aload_n hx hb dX9_addBytes_7 rfl (lv_at hl144 1 rfl) ?_
            refine x_gi C hTH138 (ci := 9) (k := 3) rfl inX9 (by decide) wF_X9_105 ga rg_68 rfl dX9_addBytes_8 (fun x147 ex147 bx147 => ?_)
            have ux147 : x137 = x147 := (m141).trans ex147.symm
            subst ux147
            refine lv_sipush (v := 500) hx hb dX9_addBytes_11 (by decide) ?_
            refine lv_icmp_ge (tgt := 49) hx hb dX9_addBytes_14 (by decide) (fun c148 => ?_) (fun c148 => ?_)
            · have k149 := i_le c148
              exfalso
              omega
            · have k149 := i_nle c148
              refine lv_aload_n hx hb dX9_addBytes_17 rfl (lv_at hl144 1 rfl) ?_
              refine x_gr C hTH138 (ci := 9) (k := 2) rfl inX9 (by decide) wF_X9_16 ga rg_68 rfl dX9_addBytes_18 (fun q150 eq150 gq150 => ?_)
              have uq150 : q108 = q150 := (m139).trans eq150.symm
              subst uq150
              refine lv_aload_n hx hb dX9_addBytes_21 rfl (lv_at hl144 1 rfl) ?_
              refine x_gi C hTH138 (ci := 9) (k := 3) rfl inX9 (by decide) wF_X9_105 ga rg_68 rfl dX9_addBytes_22 (fun x151 ex151 bx151 => ?_)
              have ux151 : x137 = x151 := (m141).trans ex151.symm
              subst ux151
              refine lv_iload_n hx hb dX9_addBytes_25 rfl (lv_at hl144 2 rfl) ?_
              refine lv_iload_n hx hb dX9_addBytes_26 rfl (lv_at hl144 0 rfl) ?_
              obtain ⟨x152, ex152⟩ : ∃ z : Int32, ((x1 : Int32).toUInt32 >>> ((8 : Int32).toUInt32 &&& Int32.toUInt32 31)).toInt32 = z := ⟨_, rfl⟩
              refine lv_iushr (v := x152) hx hb dX9_addBytes_27 ex152 ?_
              refine lv_sipush (v := 255) hx hb dX9_addBytes_28 (by decide) ?_
              refine lv_iand hx hb dX9_addBytes_31 ?_
              refine lv_topi (fun x153 ex153 => ?_)
              have tx153 := i_and255 ex153
              refine x_iast C hTH138 hSH138 gq108 rg_108 (by omega) (by show _ < ((500 : Nat) : Int); omega) ⟨by have := i_rng x153; omega, by have := i_rng x153; omega⟩ (AE_in gq108 (by decide)) dX9_addBytes_32 (fun H154 locsH154 hTH154 hSH154 wH154 => ?_)
              have m155 := m139.trans (Wr.neR wH154 (Or.inl (G_ne ga gq108 (by decide)))).symm
              have m156 := m141.trans (Wr.neI wH154 (Or.inl (G_ne ga gq108 (by decide)))).symm
              refine lv_aload_n hx hb dX9_addBytes_33 rfl (lv_at hl144 1 rfl) ?_
              refine lv_dup hx hb dX9_addBytes_34 rfl ?_
              refine x_gi C hTH154 (ci := 9) (k := 3) rfl inX9 (by decide) wF_X9_105 ga rg_68 rfl dX9_addBytes_35 (fun x157 ex157 bx157 => ?_)
              have ux157 : x137 = x157 := (m156).trans ex157.symm
              subst ux157
              refine lv_iconst (v := 1) hx hb dX9_addBytes_38 (by decide) ?_
              refine lv_iadd hx hb dX9_addBytes_39 ?_
              refine lv_topi (fun x158 ex158 => ?_)
              have tx158 := i_add ex158 (by omega)
              refine x_put C hTH154 hSH154 (ci := 9) (k := 3) (v := .int x158) (ty0 := tyX9) rfl inX9 tyX9_ok nmX9 (by decide) rfl wF_X9_105 ga rg_68 rfl rfl (okI (by have := i_rng x158; omega) (by have := i_rng x158; omega)) rfl rfl (AE_in ga (by decide)) dX9_addBytes_40 (fun H159 locsH159 hTH159 hSH159 wH159 => ?_)
              have m160 := m155.trans (Wr.neR wH159 (Or.inr (x_apart hKT hts inX9 tyX9 tyX9_ok nmX9 rfl 2 3 (by decide) (by decide) (by decide)))).symm
              have m162 := Wr.I wH159
              have m162 := m162.symm
              refine lv_iinc (v := 0) (lv' := [(2, .int 0), (0, .ref a), (1, .int x1)]) hx hb dX9_addBytes_43 hl144 (k := 0) rfl (by decide) (by decide) rfl (fun ls164 hl165 => ?_)
              refine lv_goto (tgt := 3) hx hb dX9_addBytes_46 (by decide) ?_
              refine lv_iload_n hx hb dX9_addBytes_3 rfl (lv_at hl165 0 rfl) ?_
              refine lv_if_lt (tgt := 49) hx hb dX9_addBytes_4 (by decide) (fun c166 => ?_) (fun c166 => ?_)
              · have k167 := i_lt c166
                exfalso
                omega
              · have k167 := i_nlt c166
                refine lv_aload_n hx hb dX9_addBytes_7 rfl (lv_at hl165 1 rfl) ?_
                refine x_gi C hTH159 (ci := 9) (k := 3) rfl inX9 (by decide) wF_X9_105 ga rg_68 rfl dX9_addBytes_8 (fun x168 ex168 bx168 => ?_)
                have ux168 : x158 = x168 := (m162).trans ex168.symm
                subst ux168
                refine lv_sipush (v := 500) hx hb dX9_addBytes_11 (by decide) ?_
                refine lv_icmp_ge (tgt := 49) hx hb dX9_addBytes_14 (by decide) (fun c169 => ?_) (fun c169 => ?_)
                · have k170 := i_le c169
                  exfalso
                  omega
                · have k170 := i_nle c169
                  refine lv_aload_n hx hb dX9_addBytes_17 rfl (lv_at hl165 1 rfl) ?_
                  refine x_gr C hTH159 (ci := 9) (k := 2) rfl inX9 (by decide) wF_X9_16 ga rg_68 rfl dX9_addBytes_18 (fun q171 eq171 gq171 => ?_)
                  have uq171 : q108 = q171 := (m160).trans eq171.symm
                  subst uq171
                  refine lv_aload_n hx hb dX9_addBytes_21 rfl (lv_at hl165 1 rfl) ?_
                  refine x_gi C hTH159 (ci := 9) (k := 3) rfl inX9 (by decide) wF_X9_105 ga rg_68 rfl dX9_addBytes_22 (fun x172 ex172 bx172 => ?_)
                  have ux172 : x158 = x172 := (m162).trans ex172.symm
                  subst ux172
                  refine lv_iload_n hx hb dX9_addBytes_25 rfl (lv_at hl165 2 rfl) ?_
                  refine lv_iload_n hx hb dX9_addBytes_26 rfl (lv_at hl165 0 rfl) ?_
                  obtain ⟨x173, ex173⟩ : ∃ z : Int32, ((x1 : Int32).toUInt32 >>> ((0 : Int32).toUInt32 &&& Int32.toUInt32 31)).toInt32 = z := ⟨_, rfl⟩
                  refine lv_iushr (v := x173) hx hb dX9_addBytes_27 ex173 ?_
                  refine lv_sipush (v := 255) hx hb dX9_addBytes_28 (by decide) ?_
                  refine lv_iand hx hb dX9_addBytes_31 ?_
                  refine lv_topi (fun x174 ex174 => ?_)
                  have tx174 := i_and255 ex174
                  refine x_iast C hTH159 hSH159 gq108 rg_108 (by omega) (by show _ < ((500 : Nat) : Int); omega) ⟨by have := i_rng x174; omega, by have := i_rng x174; omega⟩ (AE_in gq108 (by decide)) dX9_addBytes_32 (fun H175 locsH175 hTH175 hSH175 wH175 => ?_)
                  have m176 := m160.trans (Wr.neR wH175 (Or.inl (G_ne ga gq108 (by decide)))).symm
                  have m177 := m162.trans (Wr.neI wH175 (Or.inl (G_ne ga gq108 (by decide)))).symm
                  refine lv_aload_n hx hb dX9_addBytes_33 rfl (lv_at hl165 1 rfl) ?_
                  refine lv_dup hx hb dX9_addBytes_34 rfl ?_
                  refine x_gi C hTH175 (ci := 9) (k := 3) rfl inX9 (by decide) wF_X9_105 ga rg_68 rfl dX9_addBytes_35 (fun x178 ex178 bx178 => ?_)
                  have ux178 : x158 = x178 := (m177).trans ex178.symm
                  subst ux178
                  refine lv_iconst (v := 1) hx hb dX9_addBytes_38 (by decide) ?_
                  refine lv_iadd hx hb dX9_addBytes_39 ?_
                  refine lv_topi (fun x179 ex179 => ?_)
                  have tx179 := i_add ex179 (by omega)
                  refine x_put C hTH175 hSH175 (ci := 9) (k := 3) (v := .int x179) (ty0 := tyX9) rfl inX9 tyX9_ok nmX9 (by decide) rfl wF_X9_105 ga rg_68 rfl rfl (okI (by have := i_rng x179; omega) (by have := i_rng x179; omega)) rfl rfl (AE_in ga (by decide)) dX9_addBytes_40 (fun H180 locsH180 hTH180 hSH180 wH180 => ?_)
                  have m181 := m176.trans (Wr.neR wH180 (Or.inr (x_apart hKT hts inX9 tyX9 tyX9_ok nmX9 rfl 2 3 (by decide) (by decide) (by decide)))).symm
                  have m183 := Wr.I wH180
                  have m183 := m183.symm
                  refine lv_iinc (v := (-8)) (lv' := [(2, .int (-8)), (0, .ref a), (1, .int x1)]) hx hb dX9_addBytes_43 hl165 (k := 0) rfl (by decide) (by decide) rfl (fun ls185 hl186 => ?_)
                  refine lv_goto (tgt := 3) hx hb dX9_addBytes_46 (by decide) ?_
                  refine lv_iload_n hx hb dX9_addBytes_3 rfl (lv_at hl186 0 rfl) ?_
                  refine lv_if_lt (tgt := 49) hx hb dX9_addBytes_4 (by decide) (fun c187 => ?_) (fun c187 => ?_)
                  · have k188 := i_lt c187
                    exact x_vret C hQ dX9_addBytes_49 hSH180 (by decide) (by decide) (⟨rfl, hTH180, x179, by omega, m183.symm⟩)
                  · have k188 := i_nlt c187
                    exfalso
                    omega

set_option maxHeartbeats 4000000 in
set_option maxRecDepth 100000 in
theorem c_X10_puts (l : Launch) (K : KE) (G : Nat → Option Nat) (H : Heap) {b : Nat} (x1 T : Int32) (hT : TY K G H) (gb : G b = some 112) (hk : T = fI H b (K.1.2 10 18)) (h1 : 0 ≤ T.toInt ∧ T.toInt ≤ 496) : MX l K yX10_puts cX10_puts 3 none 0 0 0 0 [.ref b, .int x1] H (AE G [112, 126] H.size) (fun v H1 => v = none ∧ TY K G H1 ∧ ∃ T2 : Int32, T2.toInt = T.toInt + 4 ∧ fI H1 b (K.1.2 10 18) = T2) := by
  refine MX.of (by decide +kernel) (Nat.le_of_ble_eq_true rfl) ?_
  intro p e s m below meth c ls Q C hH hl hQ
  subst hH
  have C : CX p K s m _ meth c RX10 cX10_puts 3 none "puts" := C
  obtain ⟨hx, hb, hml, hown, hts, hKT, hr, hlocks, hnm⟩ := id C
  have hl : lv_has ls 3 [(0, .ref b), (1, .int x1)] := hl
  have hS : va_S (AE G [112, 126] s.heap.size) s.heap s.heap [] := va_S.rf
  have n_m8 : ((-8) : Int32).toInt = -8 := rfl
  have n_0 : (0 : Int32).toInt = 0 := rfl
  have n_1 : (1 : Int32).toInt = 1 := rfl
  have n_8 : (8 : Int32).toInt = 8 := rfl
  have n_16 : (16 : Int32).toInt = 16 := rfl
  have n_24 : (24 : Int32).toInt = 24 := rfl
  have n_255 : (255 : Int32).toInt = 255 := rfl
  refine lv_bipush (v := 24) hx hb dX10_puts_0 (by decide) ?_
  refine lv_istore_n (lv' := [(2, .int 24), (0, .ref b), (1, .int x1)]) hx hb dX10_puts_2 rfl hl (by decide) rfl (fun ls101 hl102 => ?_)
  refine lv_iload_n hx hb dX10_puts_3 rfl (lv_at hl102 0 rfl) ?_
  refine lv_if_lt (tgt := 39) hx hb dX10_puts_4 (by decide) (fun c103 => ?_) (fun c103 => ?_)
  · have k104 := i_lt c103
    exfalso
    omega
  · have k104 := i_nlt c103
    refine lv_aload_n hx hb dX10_puts_7 rfl (lv_at hl102 1 rfl) ?_
    refine x_gr C hT (ci := 10) (k := 17) rfl inX10 (by decide) wF_X10_53 gb rg_112 rfl dX10_puts_8 (fun q105 eq105 gq105 => ?_)
    refine lv_aload_n hx hb dX10_puts_11 rfl (lv_at hl102 1 rfl) ?_
    refine x_gi C hT (ci := 10) (k := 18) rfl inX10 (by decide) wF_X10_185 gb rg_112 rfl dX10_puts_12 (fun x106 ex106 bx106 => ?_)
    have ux106 : T = x106 := (hk).trans ex106.symm
    subst ux106
    refine lv_iload_n hx hb dX10_puts_15 rfl (lv_at hl102 2 rfl) ?_
    refine lv_iload_n hx hb dX10_puts_16 rfl (lv_at hl102 0 rfl) ?_
    refine lv_ishr hx hb dX10_puts_17 ?_
    refine lv_topi (fun x107 ex107 => ?_)
    refine lv_sipush (v := 255) hx hb dX10_puts_18 (by decide) ?_
    refine lv_iand hx hb dX10_puts_21 ?_
    refine lv_topi (fun x108 ex108 => ?_)
    have tx108 := i_and255 ex108
    refine x_iast C hT hS gq105 rg_126 (by omega) (by show _ < ((500 : Nat) : Int); omega) ⟨by have := i_rng x108; omega, by have := i_rng x108; omega⟩ (AE_in gq105 (by decide)) dX10_puts_22 (fun H109 locsH109 hTH109 hSH109 wH109 => ?_)
    have m110 := hk.trans (Wr.neI wH109 (Or.inl (G_ne gb gq105 (by decide)))).symm
    have m111 := eq105.trans (Wr.neR wH109 (Or.inl (G_ne gb gq105 (by decide)))).symm
    refine lv_aload_n hx hb dX10_puts_23 rfl (lv_at hl102 1 rfl) ?_
    refine lv_aload_n hx hb dX10_puts_24 rfl (lv_at hl102 1 rfl) ?_
    refine x_gi C hTH109 (ci := 10) (k := 18) rfl inX10 (by decide) wF_X10_185 gb rg_112 rfl dX10_puts_25 (fun x112 ex112 bx112 => ?_)
    have ux112 : T = x112 := (m110).trans ex112.symm
    subst ux112
    refine lv_iconst (v := 1) hx hb dX10_puts_28 (by decide) ?_
    refine lv_iadd hx hb dX10_puts_29 ?_
    refine lv_topi (fun x113 ex113 => ?_)
    have tx113 := i_add ex113 (by omega)
    refine x_put C hTH109 hSH109 (ci := 10) (k := 18) (v := .int x113) (ty0 := tyX10) rfl inX10 tyX10_ok nmX10 (by decide) rfl wF_X10_185 gb rg_112 rfl rfl (okI (by have := i_rng x113; omega) (by have := i_rng x113; omega)) rfl rfl (AE_in gb (by decide)) dX10_puts_30 (fun H114 locsH114 hTH114 hSH114 wH114 => ?_)
    have m116 := m111.trans (Wr.neR wH114 (Or.inr (x_apart hKT hts inX10 tyX10 tyX10_ok nmX10 rfl 17 18 (by decide) (by decide) (by decide)))).symm
    have m117 := Wr.I wH114
    have m117 := m117.symm
    refine lv_iinc (v := 16) (lv' := [(2, .int 16), (0, .ref b), (1, .int x1)]) hx hb dX10_puts_33 hl102 (k := 0) rfl (by decide) (by decide) rfl (fun ls119 hl120 => ?_)
    refine lv_goto (tgt := 3) hx hb dX10_puts_36 (by decide) ?_
    refine lv_iload_n hx hb dX10_puts_3 rfl (lv_at hl120 0 rfl) ?_
    refine lv_if_lt (tgt := 39) hx hb dX10_puts_4 (by decide) (fun c121 => ?_) (fun c121 => ?_)
    · have k122 := i_lt c121
      exfalso
      omega
    · have k122 := i_nlt c121
      refine lv_aload_n hx hb dX10_puts_7 rfl (lv_at hl120 1 rfl) ?_
      refine x_gr C hTH114 (ci := 10) (k := 17) rfl inX10 (by decide) wF_X10_53 gb rg_112 rfl dX10_puts_8 (fun q123 eq123 gq123 => ?_)
      have uq123 : q105 = q123 := (m116).trans eq123.symm
      subst uq123
      refine lv_aload_n hx hb dX10_puts_11 rfl (lv_at hl120 1 rfl) ?_
      refine x_gi C hTH114 (ci := 10) (k := 18) rfl inX10 (by decide) wF_X10_185 gb rg_112 rfl dX10_puts_12 (fun x124 ex124 bx124 => ?_)
      have ux124 : x113 = x124 := (m117).trans ex124.symm
      subst ux124
      refine lv_iload_n hx hb dX10_puts_15 rfl (lv_at hl120 2 rfl) ?_
      refine lv_iload_n hx hb dX10_puts_16 rfl (lv_at hl120 0 rfl) ?_
      refine lv_ishr hx hb dX10_puts_17 ?_
      refine lv_topi (fun x125 ex125 => ?_)
      refine lv_sipush (v := 255) hx hb dX10_puts_18 (by decide) ?_
      refine lv_iand hx hb dX10_puts_21 ?_
      refine lv_topi (fun x126 ex126 => ?_)
      have tx126 := i_and255 ex126
      refine x_iast C hTH114 hSH114 gq105 rg_126 (by omega) (by show _ < ((500 : Nat) : Int); omega) ⟨by have := i_rng x126; omega, by have := i_rng x126; omega⟩ (AE_in gq105 (by decide)) dX10_puts_22 (fun H127 locsH127 hTH127 hSH127 wH127 => ?_)
      have m128 := m116.trans (Wr.neR wH127 (Or.inl (G_ne gb gq105 (by decide)))).symm
      have m129 := m117.trans (Wr.neI wH127 (Or.inl (G_ne gb gq105 (by decide)))).symm
      refine lv_aload_n hx hb dX10_puts_23 rfl (lv_at hl120 1 rfl) ?_
      refine lv_aload_n hx hb dX10_puts_24 rfl (lv_at hl120 1 rfl) ?_
      refine x_gi C hTH127 (ci := 10) (k := 18) rfl inX10 (by decide) wF_X10_185 gb rg_112 rfl dX10_puts_25 (fun x130 ex130 bx130 => ?_)
      have ux130 : x113 = x130 := (m129).trans ex130.symm
      subst ux130
      refine lv_iconst (v := 1) hx hb dX10_puts_28 (by decide) ?_
      refine lv_iadd hx hb dX10_puts_29 ?_
      refine lv_topi (fun x131 ex131 => ?_)
      have tx131 := i_add ex131 (by omega)
      refine x_put C hTH127 hSH127 (ci := 10) (k := 18) (v := .int x131) (ty0 := tyX10) rfl inX10 tyX10_ok nmX10 (by decide) rfl wF_X10_185 gb rg_112 rfl rfl (okI (by have := i_rng x131; omega) (by have := i_rng x131; omega)) rfl rfl (AE_in gb (by decide)) dX10_puts_30 (fun H132 locsH132 hTH132 hSH132 wH132 => ?_)
      have m133 := m128.trans (Wr.neR wH132 (Or.inr (x_apart hKT hts inX10 tyX10 tyX10_ok nmX10 rfl 17 18 (by decide) (by decide) (by decide)))).symm
      have m135 := Wr.I wH132
      have m135 := m135.symm
      refine lv_iinc (v := 8) (lv' := [(2, .int 8), (0, .ref b), (1, .int x1)]) hx hb dX10_puts_33 hl120 (k := 0) rfl (by decide) (by decide) rfl (fun ls137 hl138 => ?_)
      refine lv_goto (tgt := 3) hx hb dX10_puts_36 (by decide) ?_
      refine lv_iload_n hx hb dX10_puts_3 rfl (lv_at hl138 0 rfl) ?_
      refine lv_if_lt (tgt := 39) hx hb dX10_puts_4 (by decide) (fun c139 => ?_) (fun c139 => ?_)
      · have k140 := i_lt c139
        exfalso
        omega
      · have k140 := i_nlt c139
        refine lv_aload_n hx hb dX10_puts_7 rfl (lv_at hl138 1 rfl) ?_
        refine x_gr C hTH132 (ci := 10) (k := 17) rfl inX10 (by decide) wF_X10_53 gb rg_112 rfl dX10_puts_8 (fun q141 eq141 gq141 => ?_)
        have uq141 : q105 = q141 := (m133).trans eq141.symm
        subst uq141
        refine lv_aload_n hx hb dX10_puts_11 rfl (lv_at hl138 1 rfl) ?_
        refine x_gi C hTH132 (ci := 10) (k := 18) rfl inX10 (by decide) wF_X10_185 gb rg_112 rfl dX10_puts_12 (fun x142 ex142 bx142 => ?_)
        have ux142 : x131 = x142 := (m135).trans ex142.symm
        subst ux142
        refine lv_iload_n hx hb dX10_puts_15 rfl (lv_at hl138 2 rfl) ?_
        refine lv_iload_n hx hb dX10_puts_16 rfl (lv_at hl138 0 rfl) ?_
        refine lv_ishr hx hb dX10_puts_17 ?_
        refine lv_topi (fun x143 ex143 => ?_)
        refine lv_sipush (v := 255) hx hb dX10_puts_18 (by decide) ?_
        refine lv_iand hx hb dX10_puts_21 ?_
        refine lv_topi (fun x144 ex144 => ?_)
        have tx144 := i_and255 ex144
        refine x_iast C hTH132 hSH132 gq105 rg_126 (by omega) (by show _ < ((500 : Nat) : Int); omega) ⟨by have := i_rng x144; omega, by have := i_rng x144; omega⟩ (AE_in gq105 (by decide)) dX10_puts_22 (fun H145 locsH145 hTH145 hSH145 wH145 => ?_)
        have m146 := m133.trans (Wr.neR wH145 (Or.inl (G_ne gb gq105 (by decide)))).symm
        have m147 := m135.trans (Wr.neI wH145 (Or.inl (G_ne gb gq105 (by decide)))).symm
        refine lv_aload_n hx hb dX10_puts_23 rfl (lv_at hl138 1 rfl) ?_
        refine lv_aload_n hx hb dX10_puts_24 rfl (lv_at hl138 1 rfl) ?_
        refine x_gi C hTH145 (ci := 10) (k := 18) rfl inX10 (by decide) wF_X10_185 gb rg_112 rfl dX10_puts_25 (fun x148 ex148 bx148 => ?_)
        have ux148 : x131 = x148 := (m147).trans ex148.symm
        subst ux148
        refine lv_iconst (v := 1) hx hb dX10_puts_28 (by decide) ?_
        refine lv_iadd hx hb dX10_puts_29 ?_
        refine lv_topi (fun x149 ex149 => ?_)
        have tx149 := i_add ex149 (by omega)
        refine x_put C hTH145 hSH145 (ci := 10) (k := 18) (v := .int x149) (ty0 := tyX10) rfl inX10 tyX10_ok nmX10 (by decide) rfl wF_X10_185 gb rg_112 rfl rfl (okI (by have := i_rng x149; omega) (by have := i_rng x149; omega)) rfl rfl (AE_in gb (by decide)) dX10_puts_30 (fun H150 locsH150 hTH150 hSH150 wH150 => ?_)
        have m151 := m146.trans (Wr.neR wH150 (Or.inr (x_apart hKT hts inX10 tyX10 tyX10_ok nmX10 rfl 17 18 (by decide) (by decide) (by decide)))).symm
        have m153 := Wr.I wH150
        have m153 := m153.symm
        refine lv_iinc (v := 0) (lv' := [(2, .int 0), (0, .ref b), (1, .int x1)]) hx hb dX10_puts_33 hl138 (k := 0) rfl (by decide) (by decide) rfl (fun ls155 hl156 => ?_)
        refine lv_goto (tgt := 3) hx hb dX10_puts_36 (by decide) ?_
        refine lv_iload_n hx hb dX10_puts_3 rfl (lv_at hl156 0 rfl) ?_
        refine lv_if_lt (tgt := 39) hx hb dX10_puts_4 (by decide) (fun c157 => ?_) (fun c157 => ?_)
        · have k158 := i_lt c157
          exfalso
          omega
        · have k158 := i_nlt c157
          refine lv_aload_n hx hb dX10_puts_7 rfl (lv_at hl156 1 rfl) ?_
          refine x_gr C hTH150 (ci := 10) (k := 17) rfl inX10 (by decide) wF_X10_53 gb rg_112 rfl dX10_puts_8 (fun q159 eq159 gq159 => ?_)
          have uq159 : q105 = q159 := (m151).trans eq159.symm
          subst uq159
          refine lv_aload_n hx hb dX10_puts_11 rfl (lv_at hl156 1 rfl) ?_
          refine x_gi C hTH150 (ci := 10) (k := 18) rfl inX10 (by decide) wF_X10_185 gb rg_112 rfl dX10_puts_12 (fun x160 ex160 bx160 => ?_)
          have ux160 : x149 = x160 := (m153).trans ex160.symm
          subst ux160
          refine lv_iload_n hx hb dX10_puts_15 rfl (lv_at hl156 2 rfl) ?_
          refine lv_iload_n hx hb dX10_puts_16 rfl (lv_at hl156 0 rfl) ?_
          refine lv_ishr hx hb dX10_puts_17 ?_
          refine lv_topi (fun x161 ex161 => ?_)
          refine lv_sipush (v := 255) hx hb dX10_puts_18 (by decide) ?_
          refine lv_iand hx hb dX10_puts_21 ?_
          refine lv_topi (fun x162 ex162 => ?_)
          have tx162 := i_and255 ex162
          refine x_iast C hTH150 hSH150 gq105 rg_126 (by omega) (by show _ < ((500 : Nat) : Int); omega) ⟨by have := i_rng x162; omega, by have := i_rng x162; omega⟩ (AE_in gq105 (by decide)) dX10_puts_22 (fun H163 locsH163 hTH163 hSH163 wH163 => ?_)
          have m164 := m151.trans (Wr.neR wH163 (Or.inl (G_ne gb gq105 (by decide)))).symm
          have m165 := m153.trans (Wr.neI wH163 (Or.inl (G_ne gb gq105 (by decide)))).symm
          refine lv_aload_n hx hb dX10_puts_23 rfl (lv_at hl156 1 rfl) ?_
          refine lv_aload_n hx hb dX10_puts_24 rfl (lv_at hl156 1 rfl) ?_
          refine x_gi C hTH163 (ci := 10) (k := 18) rfl inX10 (by decide) wF_X10_185 gb rg_112 rfl dX10_puts_25 (fun x166 ex166 bx166 => ?_)
          have ux166 : x149 = x166 := (m165).trans ex166.symm
          subst ux166
          refine lv_iconst (v := 1) hx hb dX10_puts_28 (by decide) ?_
          refine lv_iadd hx hb dX10_puts_29 ?_
          refine lv_topi (fun x167 ex167 => ?_)
          have tx167 := i_add ex167 (by omega)
          refine x_put C hTH163 hSH163 (ci := 10) (k := 18) (v := .int x167) (ty0 := tyX10) rfl inX10 tyX10_ok nmX10 (by decide) rfl wF_X10_185 gb rg_112 rfl rfl (okI (by have := i_rng x167; omega) (by have := i_rng x167; omega)) rfl rfl (AE_in gb (by decide)) dX10_puts_30 (fun H168 locsH168 hTH168 hSH168 wH168 => ?_)
          have m169 := m164.trans (Wr.neR wH168 (Or.inr (x_apart hKT hts inX10 tyX10 tyX10_ok nmX10 rfl 17 18 (by decide) (by decide) (by decide)))).symm
          have m171 := Wr.I wH168
          have m171 := m171.symm
          refine lv_iinc (v := (-8)) (lv' := [(2, .int (-8)), (0, .ref b), (1, .int x1)]) hx hb dX10_puts_33 hl156 (k := 0) rfl (by decide) (by decide) rfl (fun ls173 hl174 => ?_)
          refine lv_goto (tgt := 3) hx hb dX10_puts_36 (by decide) ?_
          refine lv_iload_n hx hb dX10_puts_3 rfl (lv_at hl174 0 rfl) ?_
          refine lv_if_lt (tgt := 39) hx hb dX10_puts_4 (by decide) (fun c175 => ?_) (fun c175 => ?_)
          · have k176 := i_lt c175
            exact x_vret C hQ dX10_puts_39 hSH168 (by decide) (by decide) (⟨rfl, hTH168, x167, by omega, m171.symm⟩)
          · have k176 := i_nlt c175
            exfalso
            omega

set_option maxHeartbeats 4000000 in
set_option maxRecDepth 100000 in
theorem f_X9_feed (l : Launch) (K : KE) (G : Nat → Option Nat) (H : Heap) {a w : Nat} (x0 : Int32) (x1 : Int32) (x2 : Int32) (x3 : Int32) (x4 : Int32) (hT : TY K G H) (ga : G a = some 68) (gw : G w = some 0) (fx : FX K H a w) : MX l K yX9_feed cX9_feed 6 (some .int) 1 22 0 0 [.ref a, .int x0, .int x1, .int x2, .int x3, .int x4] H (AE G [68, 108] H.size) (fun v H1 => (∃ r : Int32, v = some (.int r) ∧ (r.toInt = 20)) ∧ ∃ G1 : Nat → Option Nat, (∀ q, q < H.size → G1 q = G q) ∧ TY K G1 H1) := by
  refine MX.of (by decide +kernel) (Nat.le_of_ble_eq_true rfl) ?_
  intro p e s m below meth c ls Q C hH hl hQ
  subst hH
  have C : CX p K s m _ meth c RX9 cX9_feed 6 (some .int) "feed" := C
  obtain ⟨hx, hb, hml, hown, hts, hKT, hr, hlocks, hnm⟩ := id C
  have hl : lv_has ls 6 [(0, .ref a), (1, .int x0), (2, .int x1), (3, .int x2), (4, .int x3), (5, .int x4)] := hl
  have hS : va_S (AE G [68, 108] s.heap.size) s.heap s.heap [] := va_S.rf
  have n_0 : (0 : Int32).toInt = 0 := rfl
  have n_20 : (20 : Int32).toInt = 20 := rfl
  have n_500 : (500 : Int32).toInt = 500 := rfl
  obtain ⟨f0, f1, f2, f3, f4, f5, f6, f7, f8, f9, f10⟩ := fx
  refine lv_aload_n hx hb dX9_feed_0 rfl (lv_at hl 0 rfl) ?_
  refine x_gi C hT (ci := 9) (k := 3) rfl inX9 (by decide) wF_X9_105 ga rg_68 rfl dX9_feed_1 (fun x101 ex101 bx101 => ?_)
  have ux101 : x101 = 0 := ex101.trans f2
  subst ux101
  refine lv_bipush (v := 20) hx hb dX9_feed_4 (by decide) ?_
  refine lv_iadd hx hb dX9_feed_6 ?_
  refine lv_topi (fun x102 ex102 => ?_)
  have tx102 : x102 = 20 := by rw [ex102]; rfl
  rw [tx102] at ex102 ⊢
  clear tx102 ex102
  refine lv_sipush (v := 500) hx hb dX9_feed_7 (by decide) ?_
  refine lv_icmp_le (tgt := 15) hx hb dX9_feed_10 (by decide) (fun c103 => ?_) (fun c103 => ?_)
  · have k104 := i_le c103
    refine lv_aload_n hx hb dX9_feed_15 rfl (lv_at hl 0 rfl) ?_
    refine lv_iload_n hx hb dX9_feed_16 rfl (lv_at hl 1 rfl) ?_
    refine x_V (As := [.int x0]) (rest := []) C (c_X9_addBytes l K G s.heap (x0) (0) hT ga f2.symm (by omega)) yo_X9_addBytes wM_X9_108 ⟨⟨by decide, by decide⟩, by decide, by decide⟩ (x_rv C hT (ci := 9) rfl ga rg_68) rfl hl.1 rfl (Nat.le_of_ble_eq_true rfl) dX9_feed_17 hS (AE_sub (fun _ _ => rfl) (by decide) hS.1) (fun vH105 H105 locsH105 pH105 zH105 kH105 hSH105 => ?_)
    have hTH105 := pH105.2.1
    have hvH105 := pH105.1
    subst hvH105
    obtain ⟨x106, tx106, ex106⟩ := pH105.2.2
    have ex106 := ex106.symm
    have m107 := (fI_kept (x_lt hT kH105 gw (by decide))).trans f3
    have m108 := (fI_kept (x_lt hT kH105 gw (by decide))).trans f4
    have m109 := (fI_kept (x_lt hT kH105 gw (by decide))).trans f5
    have m110 := (fI_kept (x_lt hT kH105 gw (by decide))).trans f6
    have m111 := (fI_kept (x_lt hT kH105 gw (by decide))).trans f7
    have m112 := (fI_kept (x_lt hT kH105 gw (by decide))).trans f8
    have m113 := (fI_kept (x_lt hT kH105 gw (by decide))).trans f9
    have m114 := (fI_kept (x_lt hT kH105 gw (by decide))).trans f10
    refine W.eq (g2 := F0 m 20 ls []) rfl ?_
    refine lv_aload_n hx hb dX9_feed_20 rfl (lv_at hl 0 rfl) ?_
    refine lv_iload_n hx hb dX9_feed_21 rfl (lv_at hl 2 rfl) ?_
    refine x_V (As := [.int x1]) (rest := []) C (c_X9_addBytes l K G H105 (x1) (x106) hTH105 ga ex106 (by omega)) yo_X9_addBytes wM_X9_108 ⟨⟨by decide, by decide⟩, by decide, by decide⟩ (x_rv C hTH105 (ci := 9) rfl ga rg_68) rfl hl.1 rfl (Nat.le_of_ble_eq_true rfl) dX9_feed_22 hSH105 (AE_sub (fun _ _ => rfl) (by decide) hSH105.1) (fun vH115 H115 locsH115 pH115 zH115 kH115 hSH115 => ?_)
    have hTH115 := pH115.2.1
    have hvH115 := pH115.1
    subst hvH115
    obtain ⟨x116, tx116, ex116⟩ := pH115.2.2
    have ex116 := ex116.symm
    have m117 := (fI_kept (x_lt hTH105 kH115 gw (by decide))).trans m107
    have m118 := (fI_kept (x_lt hTH105 kH115 gw (by decide))).trans m108
    have m119 := (fI_kept (x_lt hTH105 kH115 gw (by decide))).trans m109
    have m120 := (fI_kept (x_lt hTH105 kH115 gw (by decide))).trans m110
    have m121 := (fI_kept (x_lt hTH105 kH115 gw (by decide))).trans m111
    have m122 := (fI_kept (x_lt hTH105 kH115 gw (by decide))).trans m112
    have m123 := (fI_kept (x_lt hTH105 kH115 gw (by decide))).trans m113
    have m124 := (fI_kept (x_lt hTH105 kH115 gw (by decide))).trans m114
    refine W.eq (g2 := F0 m 25 ls []) rfl ?_
    refine lv_aload_n hx hb dX9_feed_25 rfl (lv_at hl 0 rfl) ?_
    refine lv_iload_n hx hb dX9_feed_26 rfl (lv_at hl 3 rfl) ?_
    refine x_V (As := [.int x2]) (rest := []) C (c_X9_addBytes l K G H115 (x2) (x116) hTH115 ga ex116 (by omega)) yo_X9_addBytes wM_X9_108 ⟨⟨by decide, by decide⟩, by decide, by decide⟩ (x_rv C hTH115 (ci := 9) rfl ga rg_68) rfl hl.1 rfl (Nat.le_of_ble_eq_true rfl) dX9_feed_27 hSH115 (AE_sub (fun _ _ => rfl) (by decide) hSH115.1) (fun vH125 H125 locsH125 pH125 zH125 kH125 hSH125 => ?_)
    have hTH125 := pH125.2.1
    have hvH125 := pH125.1
    subst hvH125
    obtain ⟨x126, tx126, ex126⟩ := pH125.2.2
    have ex126 := ex126.symm
    have m127 := (fI_kept (x_lt hTH115 kH125 gw (by decide))).trans m117
    have m128 := (fI_kept (x_lt hTH115 kH125 gw (by decide))).trans m118
    have m129 := (fI_kept (x_lt hTH115 kH125 gw (by decide))).trans m119
    have m130 := (fI_kept (x_lt hTH115 kH125 gw (by decide))).trans m120
    have m131 := (fI_kept (x_lt hTH115 kH125 gw (by decide))).trans m121
    have m132 := (fI_kept (x_lt hTH115 kH125 gw (by decide))).trans m122
    have m133 := (fI_kept (x_lt hTH115 kH125 gw (by decide))).trans m123
    have m134 := (fI_kept (x_lt hTH115 kH125 gw (by decide))).trans m124
    refine W.eq (g2 := F0 m 30 ls []) rfl ?_
    refine lv_aload_n hx hb dX9_feed_30 rfl (lv_at hl 0 rfl) ?_
    refine lv_iload hx hb dX9_feed_31 (lv_at hl 4 rfl) ?_
    refine x_V (As := [.int x3]) (rest := []) C (c_X9_addBytes l K G H125 (x3) (x126) hTH125 ga ex126 (by omega)) yo_X9_addBytes wM_X9_108 ⟨⟨by decide, by decide⟩, by decide, by decide⟩ (x_rv C hTH125 (ci := 9) rfl ga rg_68) rfl hl.1 rfl (Nat.le_of_ble_eq_true rfl) dX9_feed_33 hSH125 (AE_sub (fun _ _ => rfl) (by decide) hSH125.1) (fun vH135 H135 locsH135 pH135 zH135 kH135 hSH135 => ?_)
    have hTH135 := pH135.2.1
    have hvH135 := pH135.1
    subst hvH135
    obtain ⟨x136, tx136, ex136⟩ := pH135.2.2
    have ex136 := ex136.symm
    have m137 := (fI_kept (x_lt hTH125 kH135 gw (by decide))).trans m127
    have m138 := (fI_kept (x_lt hTH125 kH135 gw (by decide))).trans m128
    have m139 := (fI_kept (x_lt hTH125 kH135 gw (by decide))).trans m129
    have m140 := (fI_kept (x_lt hTH125 kH135 gw (by decide))).trans m130
    have m141 := (fI_kept (x_lt hTH125 kH135 gw (by decide))).trans m131
    have m142 := (fI_kept (x_lt hTH125 kH135 gw (by decide))).trans m132
    have m143 := (fI_kept (x_lt hTH125 kH135 gw (by decide))).trans m133
    have m144 := (fI_kept (x_lt hTH125 kH135 gw (by decide))).trans m134
    refine W.eq (g2 := F0 m 36 ls []) rfl ?_
    refine lv_aload_n hx hb dX9_feed_36 rfl (lv_at hl 0 rfl) ?_
    refine lv_iload hx hb dX9_feed_37 (lv_at hl 5 rfl) ?_
    refine x_V (As := [.int x4]) (rest := []) C (c_X9_addBytes l K G H135 (x4) (x136) hTH135 ga ex136 (by omega)) yo_X9_addBytes wM_X9_108 ⟨⟨by decide, by decide⟩, by decide, by decide⟩ (x_rv C hTH135 (ci := 9) rfl ga rg_68) rfl hl.1 rfl (Nat.le_of_ble_eq_true rfl) dX9_feed_39 hSH135 (AE_sub (fun _ _ => rfl) (by decide) hSH135.1) (fun vH145 H145 locsH145 pH145 zH145 kH145 hSH145 => ?_)
    have hTH145 := pH145.2.1
    have hvH145 := pH145.1
    subst hvH145
    obtain ⟨x146, tx146, ex146⟩ := pH145.2.2
    have ex146 := ex146.symm
    have m147 := (fI_kept (x_lt hTH135 kH145 gw (by decide))).trans m137
    have m148 := (fI_kept (x_lt hTH135 kH145 gw (by decide))).trans m138
    have m149 := (fI_kept (x_lt hTH135 kH145 gw (by decide))).trans m139
    have m150 := (fI_kept (x_lt hTH135 kH145 gw (by decide))).trans m140
    have m151 := (fI_kept (x_lt hTH135 kH145 gw (by decide))).trans m141
    have m152 := (fI_kept (x_lt hTH135 kH145 gw (by decide))).trans m142
    have m153 := (fI_kept (x_lt hTH135 kH145 gw (by decide))).trans m143
    have m154 := (fI_kept (x_lt hTH135 kH145 gw (by decide))).trans m144
    refine W.eq (g2 := F0 m 42 ls []) rfl ?_
    refine lv_aload_n hx hb dX9_feed_42 rfl (lv_at hl 0 rfl) ?_
    refine x_gi C hTH145 (ci := 9) (k := 3) rfl inX9 (by decide) wF_X9_105 ga rg_68 rfl dX9_feed_43 (fun x155 ex155 bx155 => ?_)
    have ux155 : x146 = x155 := (ex146).trans ex155.symm
    subst ux155
    exact x_iret C hQ dX9_feed_46 hSH145 (by decide) (by decide) (⟨⟨x146, rfl, by omega⟩, G, fun _ _ => rfl, hTH145⟩)
  · have k104 := i_nle c103
    exfalso
    omega

set_option maxHeartbeats 4000000 in
set_option maxRecDepth 100000 in
theorem f_X10_feed (l : Launch) (K : KE) (G : Nat → Option Nat) (H : Heap) {b : Nat} (x0 : Int32) (x1 : Int32) (x2 : Int32) (x3 : Int32) (x4 : Int32) (hT : TY K G H) (gb : G b = some 112) (fx : FM K H b) : MX l K yX10_feed cX10_feed 6 (some .int) 1 22 0 0 [.ref b, .int x0, .int x1, .int x2, .int x3, .int x4] H (AE G [112, 126] H.size) (fun v H1 => (∃ r : Int32, v = some (.int r) ∧ (r.toInt = 20)) ∧ ∃ G1 : Nat → Option Nat, (∀ q, q < H.size → G1 q = G q) ∧ TY K G1 H1) := by
  refine MX.of (by decide +kernel) (Nat.le_of_ble_eq_true rfl) ?_
  intro p e s m below meth c ls Q C hH hl hQ
  subst hH
  have C : CX p K s m _ meth c RX10 cX10_feed 6 (some .int) "feed" := C
  obtain ⟨hx, hb, hml, hown, hts, hKT, hr, hlocks, hnm⟩ := id C
  have hl : lv_has ls 6 [(0, .ref b), (1, .int x0), (2, .int x1), (3, .int x2), (4, .int x3), (5, .int x4)] := hl
  have hS : va_S (AE G [112, 126] s.heap.size) s.heap s.heap [] := va_S.rf
  have n_0 : (0 : Int32).toInt = 0 := rfl
  have n_480 : (480 : Int32).toInt = 480 := rfl
  obtain ⟨f1, f2, f3, f4, f5, f6, f7, f8, f9, f10⟩ := fx
  refine lv_aload_n hx hb dX10_feed_0 rfl (lv_at hl 0 rfl) ?_
  refine lv_iconst (v := 0) hx hb dX10_feed_1 (by decide) ?_
  refine x_put C hT hS (ci := 10) (k := 0) (v := .int 0) (ty0 := tyX10) rfl inX10 tyX10_ok nmX10 (by decide) rfl wF_X10_167 gb rg_112 rfl rfl (okI (by have := i_rng (0 : Int32); omega) (by have := i_rng (0 : Int32); omega)) rfl rfl (AE_in gb (by decide)) dX10_feed_2 (fun H101 locsH101 hTH101 hSH101 wH101 => ?_)
  have m102 := (Wr.neI wH101 (Or.inr (x_apart hKT hts inX10 tyX10 tyX10_ok nmX10 rfl 1 0 (by decide) (by decide) (by decide)))).trans f1
  have m103 := (Wr.neI wH101 (Or.inr (x_apart hKT hts inX10 tyX10 tyX10_ok nmX10 rfl 2 0 (by decide) (by decide) (by decide)))).trans f2
  have m104 := (Wr.neI wH101 (Or.inr (x_apart hKT hts inX10 tyX10 tyX10_ok nmX10 rfl 3 0 (by decide) (by decide) (by decide)))).trans f3
  have m105 := (Wr.neI wH101 (Or.inr (x_apart hKT hts inX10 tyX10 tyX10_ok nmX10 rfl 18 0 (by decide) (by decide) (by decide)))).trans f4
  have m106 := (Wr.neI wH101 (Or.inr (x_apart hKT hts inX10 tyX10 tyX10_ok nmX10 rfl 41 0 (by decide) (by decide) (by decide)))).trans f5
  have m107 := (Wr.neI wH101 (Or.inr (x_apart hKT hts inX10 tyX10 tyX10_ok nmX10 rfl 42 0 (by decide) (by decide) (by decide)))).trans f6
  have m108 := (Wr.neI wH101 (Or.inr (x_apart hKT hts inX10 tyX10 tyX10_ok nmX10 rfl 59 0 (by decide) (by decide) (by decide)))).trans f7
  have m109 := (Wr.neI wH101 (Or.inr (x_apart hKT hts inX10 tyX10 tyX10_ok nmX10 rfl 62 0 (by decide) (by decide) (by decide)))).trans f8
  have m110 := (Wr.neI wH101 (Or.inr (x_apart hKT hts inX10 tyX10 tyX10_ok nmX10 rfl 65 0 (by decide) (by decide) (by decide)))).trans f9
  have m111 := (Wr.neI wH101 (Or.inr (x_apart hKT hts inX10 tyX10 tyX10_ok nmX10 rfl 70 0 (by decide) (by decide) (by decide)))).trans f10
  have m112 := Wr.I wH101
  refine lv_aload_n hx hb dX10_feed_5 rfl (lv_at hl 0 rfl) ?_
  refine x_gi C hTH101 (ci := 10) (k := 18) rfl inX10 (by decide) wF_X10_185 gb rg_112 rfl dX10_feed_6 (fun x113 ex113 bx113 => ?_)
  have ux113 : x113 = 0 := ex113.trans m105
  subst ux113
  refine lv_sipush (v := 480) hx hb dX10_feed_9 (by decide) ?_
  refine lv_icmp_le (tgt := 17) hx hb dX10_feed_12 (by decide) (fun c114 => ?_) (fun c114 => ?_)
  · have k115 := i_le c114
    refine lv_aload_n hx hb dX10_feed_17 rfl (lv_at hl 0 rfl) ?_
    refine lv_iload_n hx hb dX10_feed_18 rfl (lv_at hl 1 rfl) ?_
    refine x_V (As := [.int x0]) (rest := []) C (c_X10_puts l K G H101 (x0) (0) hTH101 gb m105.symm (by omega)) yo_X10_puts wM_X10_188 ⟨⟨by decide, by decide⟩, by decide, by decide⟩ (x_rv C hTH101 (ci := 10) rfl gb rg_112) rfl hl.1 rfl (Nat.le_of_ble_eq_true rfl) dX10_feed_19 hSH101 (AE_sub (fun _ _ => rfl) (by decide) hSH101.1) (fun vH116 H116 locsH116 pH116 zH116 kH116 hSH116 => ?_)
    have hTH116 := pH116.2.1
    have hvH116 := pH116.1
    subst hvH116
    obtain ⟨x117, tx117, ex117⟩ := pH116.2.2
    have ex117 := ex117.symm
    refine W.eq (g2 := F0 m 22 ls []) rfl ?_
    refine lv_aload_n hx hb dX10_feed_22 rfl (lv_at hl 0 rfl) ?_
    refine lv_iload_n hx hb dX10_feed_23 rfl (lv_at hl 2 rfl) ?_
    refine x_V (As := [.int x1]) (rest := []) C (c_X10_puts l K G H116 (x1) (x117) hTH116 gb ex117 (by omega)) yo_X10_puts wM_X10_188 ⟨⟨by decide, by decide⟩, by decide, by decide⟩ (x_rv C hTH116 (ci := 10) rfl gb rg_112) rfl hl.1 rfl (Nat.le_of_ble_eq_true rfl) dX10_feed_24 hSH116 (AE_sub (fun _ _ => rfl) (by decide) hSH116.1) (fun vH118 H118 locsH118 pH118 zH118 kH118 hSH118 => ?_)
    have hTH118 := pH118.2.1
    have hvH118 := pH118.1
    subst hvH118
    obtain ⟨x119, tx119, ex119⟩ := pH118.2.2
    have ex119 := ex119.symm
    refine W.eq (g2 := F0 m 27 ls []) rfl ?_
    refine lv_aload_n hx hb dX10_feed_27 rfl (lv_at hl 0 rfl) ?_
    refine lv_iload_n hx hb dX10_feed_28 rfl (lv_at hl 3 rfl) ?_
    refine x_V (As := [.int x2]) (rest := []) C (c_X10_puts l K G H118 (x2) (x119) hTH118 gb ex119 (by omega)) yo_X10_puts wM_X10_188 ⟨⟨by decide, by decide⟩, by decide, by decide⟩ (x_rv C hTH118 (ci := 10) rfl gb rg_112) rfl hl.1 rfl (Nat.le_of_ble_eq_true rfl) dX10_feed_29 hSH118 (AE_sub (fun _ _ => rfl) (by decide) hSH118.1) (fun vH120 H120 locsH120 pH120 zH120 kH120 hSH120 => ?_)
    have hTH120 := pH120.2.1
    have hvH120 := pH120.1
    subst hvH120
    obtain ⟨x121, tx121, ex121⟩ := pH120.2.2
    have ex121 := ex121.symm
    refine W.eq (g2 := F0 m 32 ls []) rfl ?_
    refine lv_aload_n hx hb dX10_feed_32 rfl (lv_at hl 0 rfl) ?_
    refine lv_iload hx hb dX10_feed_33 (lv_at hl 4 rfl) ?_
    refine x_V (As := [.int x3]) (rest := []) C (c_X10_puts l K G H120 (x3) (x121) hTH120 gb ex121 (by omega)) yo_X10_puts wM_X10_188 ⟨⟨by decide, by decide⟩, by decide, by decide⟩ (x_rv C hTH120 (ci := 10) rfl gb rg_112) rfl hl.1 rfl (Nat.le_of_ble_eq_true rfl) dX10_feed_35 hSH120 (AE_sub (fun _ _ => rfl) (by decide) hSH120.1) (fun vH122 H122 locsH122 pH122 zH122 kH122 hSH122 => ?_)
    have hTH122 := pH122.2.1
    have hvH122 := pH122.1
    subst hvH122
    obtain ⟨x123, tx123, ex123⟩ := pH122.2.2
    have ex123 := ex123.symm
    refine W.eq (g2 := F0 m 38 ls []) rfl ?_
    refine lv_aload_n hx hb dX10_feed_38 rfl (lv_at hl 0 rfl) ?_
    refine lv_iload hx hb dX10_feed_39 (lv_at hl 5 rfl) ?_
    refine x_V (As := [.int x4]) (rest := []) C (c_X10_puts l K G H122 (x4) (x123) hTH122 gb ex123 (by omega)) yo_X10_puts wM_X10_188 ⟨⟨by decide, by decide⟩, by decide, by decide⟩ (x_rv C hTH122 (ci := 10) rfl gb rg_112) rfl hl.1 rfl (Nat.le_of_ble_eq_true rfl) dX10_feed_41 hSH122 (AE_sub (fun _ _ => rfl) (by decide) hSH122.1) (fun vH124 H124 locsH124 pH124 zH124 kH124 hSH124 => ?_)
    have hTH124 := pH124.2.1
    have hvH124 := pH124.1
    subst hvH124
    obtain ⟨x125, tx125, ex125⟩ := pH124.2.2
    have ex125 := ex125.symm
    refine W.eq (g2 := F0 m 44 ls []) rfl ?_
    refine lv_aload_n hx hb dX10_feed_44 rfl (lv_at hl 0 rfl) ?_
    refine x_gi C hTH124 (ci := 10) (k := 18) rfl inX10 (by decide) wF_X10_185 gb rg_112 rfl dX10_feed_45 (fun x126 ex126 bx126 => ?_)
    have ux126 : x125 = x126 := (ex125).trans ex126.symm
    subst ux126
    exact x_iret C hQ dX10_feed_48 hSH124 (by decide) (by decide) (⟨⟨x125, rfl, by omega⟩, G, fun _ _ => rfl, hTH124⟩)
  · have k115 := i_nle c114
    exfalso
    omega
