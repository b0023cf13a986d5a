set_option maxHeartbeats 4000000 in
set_option maxRecDepth 100000 in
theorem f_X10_kept (l : Launch) (K : KE) (G : Nat → Option Nat) (H : Heap) {b : Nat} (x1 T : Int32) (hT : TY K G H) (gb : G b = some 112) (h1 : fI H b (K.1.2 10 71) = 1) (hk : T = fI H b (K.1.2 10 72)) (h2 : 0 ≤ T.toInt ∧ T.toInt ≤ 16399) : MX l K yX10_kept cX10_kept 2 (some .int) 0 0 0 0 [.ref b, .int x1] H (AE G [112, 162] H.size) (fun v H1 => v = some (.int x1) ∧ TY K G H1 ∧ fI H1 b (K.1.2 10 71) = 1 ∧ ∃ T2 : Int32, T2.toInt = T.toInt + 1 ∧ T2 = fI H1 b (K.1.2 10 72)) := by
  refine MX.of (by decide +kernel) (Nat.le_of_ble_eq_true rfl) ?_
  intro p e s m below meth c ls Q C hH hl hQ
  subst hH
  have C : CX p K s m _ meth c RX10 cX10_kept 2 (some .int) "kept" := C
  obtain ⟨hx, hb, hml, hown, hts, hKT, hr, hlocks, hnm⟩ := id C
  have hl : lv_has ls 2 [(0, .ref b), (1, .int x1)] := hl
  have hS : va_S (AE G [112, 162] s.heap.size) s.heap s.heap [] := va_S.rf
  have n_0 : (0 : Int32).toInt = 0 := rfl
  have n_1 : (1 : Int32).toInt = 1 := rfl
  refine lv_aload_n hx hb dX10_kept_0 rfl (lv_at hl 0 rfl) ?_
  refine lv_aload_n hx hb dX10_kept_1 rfl (lv_at hl 0 rfl) ?_
  refine x_gi C hT (ci := 10) (k := 72) rfl inX10 (by decide) wF_X10_467 gb rg_112 rfl dX10_kept_2 (fun x101 ex101 bx101 => ?_)
  have ux101 : T = x101 := (hk).trans ex101.symm
  subst ux101
  refine lv_iconst (v := 1) hx hb dX10_kept_5 (by decide) ?_
  refine lv_iadd hx hb dX10_kept_6 ?_
  refine lv_topi (fun x102 ex102 => ?_)
  have tx102 := i_add ex102 (by omega)
  refine x_put C hT hS (ci := 10) (k := 72) (v := .int x102) (ty0 := tyX10) rfl inX10 tyX10_ok nmX10 (by decide) rfl wF_X10_467 gb rg_112 rfl rfl (okI (by have := i_rng x102; omega) (by have := i_rng x102; omega)) rfl rfl (AE_in gb (by decide)) dX10_kept_7 (fun H103 locsH103 hTH103 hSH103 wH103 => ?_)
  have m104 := (Wr.neI wH103 (Or.inr (x_apart hKT hts inX10 tyX10 tyX10_ok nmX10 rfl 71 72 (by decide) (by decide) (by decide)))).trans h1
  have m106 := Wr.I wH103
  have m106 := m106.symm
  refine lv_aload_n hx hb dX10_kept_10 rfl (lv_at hl 0 rfl) ?_
  refine x_gi C hTH103 (ci := 10) (k := 71) rfl inX10 (by decide) wF_X10_470 gb rg_112 rfl dX10_kept_11 (fun x107 ex107 bx107 => ?_)
  have ux107 : x107 = 1 := ex107.trans m104
  subst ux107
  refine lv_if_ne (tgt := 29) hx hb dX10_kept_14 (by decide) (fun c108 => ?_) (fun c108 => ?_)
  · have k109 := i_ne c108
    refine lv_aload_n hx hb dX10_kept_29 rfl (lv_at hl 0 rfl) ?_
    refine x_gr C hTH103 (ci := 10) (k := 73) rfl inX10 (by decide) wF_X10_164 gb rg_112 rfl dX10_kept_30 (fun q110 eq110 gq110 => ?_)
    refine lv_aload_n hx hb dX10_kept_33 rfl (lv_at hl 0 rfl) ?_
    refine x_gi C hTH103 (ci := 10) (k := 72) rfl inX10 (by decide) wF_X10_467 gb rg_112 rfl dX10_kept_34 (fun x111 ex111 bx111 => ?_)
    have ux111 : x102 = x111 := (m106).trans ex111.symm
    subst ux111
    refine lv_iconst (v := 1) hx hb dX10_kept_37 (by decide) ?_
    refine lv_isub hx hb dX10_kept_38 ?_
    refine lv_topi (fun x112 ex112 => ?_)
    have tx112 := i_sub ex112 (by omega)
    refine lv_iload_n hx hb dX10_kept_39 rfl (lv_at hl 1 rfl) ?_
    refine x_iast C hTH103 hSH103 gq110 rg_162 (by omega) (by show _ < ((16400 : Nat) : Int); omega) ⟨by have := i_rng x1; omega, by have := i_rng x1; omega⟩ (AE_in gq110 (by decide)) dX10_kept_40 (fun H113 locsH113 hTH113 hSH113 wH113 => ?_)
    have m114 := (Wr.neI wH113 (Or.inl (G_ne gb gq110 (by decide)))).trans m104
    have m115 := m106.trans (Wr.neI wH113 (Or.inl (G_ne gb gq110 (by decide)))).symm
    have m116 := eq110.trans (Wr.neR wH113 (Or.inl (G_ne gb gq110 (by decide)))).symm
    refine lv_iload_n hx hb dX10_kept_41 rfl (lv_at hl 1 rfl) ?_
    exact x_iret C hQ dX10_kept_42 hSH113 (by decide) (by decide) (⟨rfl, hTH113, m114, x102, by omega, m115⟩)
  · have k109 := i_eq c108
    exfalso
    omega

set_option maxHeartbeats 4000000 in
set_option maxRecDepth 100000 in
theorem f_X10_keepsBars (l : Launch) (K : KE) (G : Nat → Option Nat) (H : Heap) {b : Nat} (T : Int32) (hT : TY K G H) (gb : G b = some 112) (h1 : fI H b (K.1.2 10 71) = 1) (hk : T = fI H b (K.1.2 10 72)) (h2 : T.toInt = 6) : MX l K yX10_keepsBars cX10_keepsBars 2 none 1 21 0 0 [.ref b] H (AE G [112, 162, 113, 119, 122, 123, 124, 146, 114, 115, 116, 117, 118, 125, 154, 155, 120, 121] H.size) (fun v H1 => v = none ∧ TY K G H1 ∧ fI H1 b (K.1.2 10 71) = 1 ∧ ∃ T2 : Int32, T2.toInt = 4796 ∧ T2 = fI H1 b (K.1.2 10 72)) := by
  refine MX.of (by decide +kernel) (Nat.le_of_ble_eq_true rfl) ?_
  intro p e s m below meth c ls Q C hH hl hQ
  subst hH
  have C : CX p K s m _ meth c RX10 cX10_keepsBars 2 none "keepsBars" := C
  obtain ⟨hx, hb, hml, hown, hts, hKT, hr, hlocks, hnm⟩ := id C
  have hl : lv_has ls 2 [(0, .ref b)] := hl
  have hS : va_S (AE G [112, 162, 113, 119, 122, 123, 124, 146, 114, 115, 116, 117, 118, 125, 154, 155, 120, 121] s.heap.size) s.heap s.heap [] := va_S.rf
  have n_0 : (0 : Int32).toInt = 0 := rfl
  have n_1 : (1 : Int32).toInt = 1 := rfl
  have n_10 : (10 : Int32).toInt = 10 := rfl
  have n_20 : (20 : Int32).toInt = 20 := rfl
  have n_30 : (30 : Int32).toInt = 30 := rfl
  have n_160 : (160 : Int32).toInt = 160 := rfl
  have n_2000 : (2000 : Int32).toInt = 2000 := rfl
  refine lv_iconst (v := 0) hx hb dX10_keepsBars_0 (by decide) ?_
  refine lv_istore_n (lv' := [(1, .int 0), (0, .ref b)]) hx hb dX10_keepsBars_1 rfl hl (by decide) rfl (fun ls101 hl102 => ?_)
  have Lp103 : ∀ (nf : Nat) (ls106 : Array Slot) (H105 : Heap) (locsH105 : List Loc) (x104 : Int32) (x109 : Int32), lv_has ls106 2 [(1, .int x104), (0, .ref b)] → TY K G H105 → va_S (AE G [112, 162, 113, 119, 122, 123, 124, 146, 114, 115, 116, 117, 118, 125, 154, 155, 120, 121] s.heap.size) s.heap H105 locsH105 → (0 ≤ x104.toInt ∧ x104.toInt ≤ 10) → (fI H105 b (K.1.2 10 71) = 1) → (x109 = fI H105 b (K.1.2 10 72)) → (x109.toInt = 6 + 6 * x104.toInt) → (10 - x104.toInt < (nf : Int)) → W p l e ({ frames := 1, cells := 0, slots := 0, locals := 21 } : Room) s m (([.ref b] : List Value).toArray) below meth c H105 locsH105 0 0 Q (F0 m 2 ls106 []) := by
    intro nf
    induction nf with
    | zero =>
      intro ls106 H105 locsH105 x104 x109 hl107 hTH105 hSH105 bx104 i108 ex109 tx109 hmLp103
      exfalso
      omega
    | succ nf ihLp103 =>
      intro ls106 H105 locsH105 x104 x109 hl107 hTH105 hSH105 bx104 i108 ex109 tx109 hmLp103
      refine lv_iload_n hx hb dX10_keepsBars_2 rfl (lv_at hl107 0 rfl) ?_
      refine lv_bipush (v := 10) hx hb dX10_keepsBars_3 (by decide) ?_
      refine lv_icmp_ge (tgt := 110) hx hb dX10_keepsBars_5 (by decide) (fun c110 => ?_) (fun c110 => ?_)
      · have k111 := i_le c110
        refine lv_iconst (v := 0) hx hb dX10_keepsBars_110 (by decide) ?_
        refine lv_istore_n (lv' := [(1, .int 0), (0, .ref b)]) hx hb dX10_keepsBars_111 rfl hl107 (by decide) rfl (fun ls112 hl113 => ?_)
        have Lp114 : ∀ (nf : Nat) (ls117 : Array Slot) (H116 : Heap) (locsH116 : List Loc) (x115 : Int32) (x120 : Int32), lv_has ls117 2 [(1, .int x115), (0, .ref b)] → TY K G H116 → va_S (AE G [112, 162, 113, 119, 122, 123, 124, 146, 114, 115, 116, 117, 118, 125, 154, 155, 120, 121] s.heap.size) s.heap H116 locsH116 → (0 ≤ x115.toInt ∧ x115.toInt ≤ 160) → (fI H116 b (K.1.2 10 71) = 1) → (x120 = fI H116 b (K.1.2 10 72)) → (x120.toInt = 66 + 4 * x115.toInt) → (160 - x115.toInt < (nf : Int)) → W p l e ({ frames := 1, cells := 0, slots := 0, locals := 21 } : Room) s m (([.ref b] : List Value).toArray) below meth c H116 locsH116 0 0 Q (F0 m 112 ls117 []) := by
          intro nf
          induction nf with
          | zero =>
            intro ls117 H116 locsH116 x115 x120 hl118 hTH116 hSH116 bx115 i119 ex120 tx120 hmLp114
            exfalso
            omega
          | succ nf ihLp114 =>
            intro ls117 H116 locsH116 x115 x120 hl118 hTH116 hSH116 bx115 i119 ex120 tx120 hmLp114
            refine lv_iload_n hx hb dX10_keepsBars_112 rfl (lv_at hl118 0 rfl) ?_
            refine lv_sipush (v := 160) hx hb dX10_keepsBars_113 (by decide) ?_
            refine lv_icmp_ge (tgt := 189) hx hb dX10_keepsBars_116 (by decide) (fun c121 => ?_) (fun c121 => ?_)
            · have k122 := i_le c121
              refine lv_iconst (v := 0) hx hb dX10_keepsBars_189 (by decide) ?_
              refine lv_istore_n (lv' := [(1, .int 0), (0, .ref b)]) hx hb dX10_keepsBars_190 rfl hl118 (by decide) rfl (fun ls123 hl124 => ?_)
              have Lp125 : ∀ (nf : Nat) (ls128 : Array Slot) (H127 : Heap) (locsH127 : List Loc) (x126 : Int32) (x131 : Int32), lv_has ls128 2 [(1, .int x126), (0, .ref b)] → TY K G H127 → va_S (AE G [112, 162, 113, 119, 122, 123, 124, 146, 114, 115, 116, 117, 118, 125, 154, 155, 120, 121] s.heap.size) s.heap H127 locsH127 → (0 ≤ x126.toInt ∧ x126.toInt ≤ 30) → (fI H127 b (K.1.2 10 71) = 1) → (x131 = fI H127 b (K.1.2 10 72)) → (x131.toInt = 706 + 1 * x126.toInt) → (30 - x126.toInt < (nf : Int)) → W p l e ({ frames := 1, cells := 0, slots := 0, locals := 21 } : Room) s m (([.ref b] : List Value).toArray) below meth c H127 locsH127 0 0 Q (F0 m 191 ls128 []) := by
                intro nf
                induction nf with
                | zero =>
                  intro ls128 H127 locsH127 x126 x131 hl129 hTH127 hSH127 bx126 i130 ex131 tx131 hmLp125
                  exfalso
                  omega
                | succ nf ihLp125 =>
                  intro ls128 H127 locsH127 x126 x131 hl129 hTH127 hSH127 bx126 i130 ex131 tx131 hmLp125
                  refine lv_iload_n hx hb dX10_keepsBars_191 rfl (lv_at hl129 0 rfl) ?_
                  refine lv_bipush (v := 30) hx hb dX10_keepsBars_192 (by decide) ?_
                  refine lv_icmp_ge (tgt := 219) hx hb dX10_keepsBars_194 (by decide) (fun c132 => ?_) (fun c132 => ?_)
                  · have k133 := i_le c132
                    refine lv_iconst (v := 0) hx hb dX10_keepsBars_219 (by decide) ?_
                    refine lv_istore_n (lv' := [(1, .int 0), (0, .ref b)]) hx hb dX10_keepsBars_220 rfl hl129 (by decide) rfl (fun ls134 hl135 => ?_)
                    have Lp136 : ∀ (nf : Nat) (ls139 : Array Slot) (H138 : Heap) (locsH138 : List Loc) (x137 : Int32) (x142 : Int32), lv_has ls139 2 [(1, .int x137), (0, .ref b)] → TY K G H138 → va_S (AE G [112, 162, 113, 119, 122, 123, 124, 146, 114, 115, 116, 117, 118, 125, 154, 155, 120, 121] s.heap.size) s.heap H138 locsH138 → (0 ≤ x137.toInt ∧ x137.toInt ≤ 20) → (fI H138 b (K.1.2 10 71) = 1) → (x142 = fI H138 b (K.1.2 10 72)) → (x142.toInt = 736 + 3 * x137.toInt) → (20 - x137.toInt < (nf : Int)) → W p l e ({ frames := 1, cells := 0, slots := 0, locals := 21 } : Room) s m (([.ref b] : List Value).toArray) below meth c H138 locsH138 0 0 Q (F0 m 221 ls139 []) := by
                      intro nf
                      induction nf with
                      | zero =>
                        intro ls139 H138 locsH138 x137 x142 hl140 hTH138 hSH138 bx137 i141 ex142 tx142 hmLp136
                        exfalso
                        omega
                      | succ nf ihLp136 =>
                        intro ls139 H138 locsH138 x137 x142 hl140 hTH138 hSH138 bx137 i141 ex142 tx142 hmLp136
                        refine lv_iload_n hx hb dX10_keepsBars_221 rfl (lv_at hl140 0 rfl) ?_
                        refine lv_bipush (v := 20) hx hb dX10_keepsBars_222 (by decide) ?_
                        refine lv_icmp_ge (tgt := 281) hx hb dX10_keepsBars_224 (by decide) (fun c143 => ?_) (fun c143 => ?_)
                        · have k144 := i_le c143
                          refine lv_iconst (v := 0) hx hb dX10_keepsBars_281 (by decide) ?_
                          refine lv_istore_n (lv' := [(1, .int 0), (0, .ref b)]) hx hb dX10_keepsBars_282 rfl hl140 (by decide) rfl (fun ls145 hl146 => ?_)
                          have Lp147 : ∀ (nf : Nat) (ls150 : Array Slot) (H149 : Heap) (locsH149 : List Loc) (x148 : Int32) (x153 : Int32), lv_has ls150 2 [(1, .int x148), (0, .ref b)] → TY K G H149 → va_S (AE G [112, 162, 113, 119, 122, 123, 124, 146, 114, 115, 116, 117, 118, 125, 154, 155, 120, 121] s.heap.size) s.heap H149 locsH149 → (0 ≤ x148.toInt ∧ x148.toInt ≤ 2000) → (fI H149 b (K.1.2 10 71) = 1) → (x153 = fI H149 b (K.1.2 10 72)) → (x153.toInt = 796 + 2 * x148.toInt) → (2000 - x148.toInt < (nf : Int)) → W p l e ({ frames := 1, cells := 0, slots := 0, locals := 21 } : Room) s m (([.ref b] : List Value).toArray) below meth c H149 locsH149 0 0 Q (F0 m 283 ls150 []) := by
                            intro nf
                            induction nf with
                            | zero =>
                              intro ls150 H149 locsH149 x148 x153 hl151 hTH149 hSH149 bx148 i152 ex153 tx153 hmLp147
                              exfalso
                              omega
                            | succ nf ihLp147 =>
                              intro ls150 H149 locsH149 x148 x153 hl151 hTH149 hSH149 bx148 i152 ex153 tx153 hmLp147
                              refine lv_iload_n hx hb dX10_keepsBars_283 rfl (lv_at hl151 0 rfl) ?_
                              refine lv_sipush (v := 2000) hx hb dX10_keepsBars_284 (by decide) ?_
                              refine lv_icmp_ge (tgt := 328) hx hb dX10_keepsBars_287 (by decide) (fun c154 => ?_) (fun c154 => ?_)
                              · have k155 := i_le c154
                                exact x_vret C hQ dX10_keepsBars_328 hSH149 (by decide) (by decide) (⟨rfl, hTH149, i152, x153, by omega, ex153⟩)
                              · have k155 := i_nle c154
                                refine lv_aload_n hx hb dX10_keepsBars_290 rfl (lv_at hl151 1 rfl) ?_
                                refine x_gr C hTH149 (ci := 10) (k := 11) rfl inX10 (by decide) wF_X10_35 gb rg_112 rfl dX10_keepsBars_291 (fun q156 eq156 gq156 => ?_)
                                refine lv_iload_n hx hb dX10_keepsBars_294 rfl (lv_at hl151 0 rfl) ?_
                                refine lv_aload_n hx hb dX10_keepsBars_295 rfl (lv_at hl151 1 rfl) ?_
                                refine lv_aload_n hx hb dX10_keepsBars_296 rfl (lv_at hl151 1 rfl) ?_
                                refine x_gr C hTH149 (ci := 10) (k := 11) rfl inX10 (by decide) wF_X10_35 gb rg_112 rfl dX10_keepsBars_297 (fun q157 eq157 gq157 => ?_)
                                have uq157 : q156 = q157 := (eq156).trans eq157.symm
                                subst uq157
                                refine lv_iload_n hx hb dX10_keepsBars_300 rfl (lv_at hl151 0 rfl) ?_
                                refine x_ai C hTH149 gq156 rg_120 ⟨by omega, by show _ < ((2000 : Nat) : Int); omega⟩ dX10_keepsBars_301 (fun x158 ex158 bx158 => ?_)
                                refine x_V (As := [.int x158]) (rest := [.int x148, .ref q156]) C (f_X10_kept l K G H149 (x158) (x153) hTH149 gb i152 ex153 (by omega)) yo_X10_kept wM_X10_473 ⟨⟨by decide, by decide⟩, by decide, by decide⟩ (x_rv C hTH149 (ci := 10) rfl gb rg_112) rfl hl151.1 rfl (Nat.le_of_ble_eq_true rfl) dX10_keepsBars_302 hSH149 (AE_sub (fun _ _ => rfl) (by decide) hSH149.1) (fun vH159 H159 locsH159 pH159 zH159 kH159 hSH159 => ?_)
                                obtain ⟨hvH159, hTH159, iH159, x160, tx160, ex160⟩ := pH159
                                subst hvH159
                                refine W.eq (g2 := F0 m 305 ls150 [.int x158, .int x148, .ref q156]) rfl ?_
                                refine x_iast C hTH159 hSH159 gq156 rg_120 (by omega) (by show _ < ((2000 : Nat) : Int); omega) ⟨by have := i_rng x158; omega, by have := i_rng x158; omega⟩ (AE_in gq156 (by decide)) dX10_keepsBars_305 (fun H161 locsH161 hTH161 hSH161 wH161 => ?_)
                                have m162 := ex160.trans (Wr.neI wH161 (Or.inl (G_ne gb gq156 (by decide)))).symm
                                have m163 := (Wr.neI wH161 (Or.inl (G_ne gb gq156 (by decide)))).trans iH159
                                refine lv_aload_n hx hb dX10_keepsBars_306 rfl (lv_at hl151 1 rfl) ?_
                                refine x_gr C hTH161 (ci := 10) (k := 12) rfl inX10 (by decide) wF_X10_38 gb rg_112 rfl dX10_keepsBars_307 (fun q164 eq164 gq164 => ?_)
                                refine lv_iload_n hx hb dX10_keepsBars_310 rfl (lv_at hl151 0 rfl) ?_
                                refine lv_aload_n hx hb dX10_keepsBars_311 rfl (lv_at hl151 1 rfl) ?_
                                refine lv_aload_n hx hb dX10_keepsBars_312 rfl (lv_at hl151 1 rfl) ?_
                                refine x_gr C hTH161 (ci := 10) (k := 12) rfl inX10 (by decide) wF_X10_38 gb rg_112 rfl dX10_keepsBars_313 (fun q165 eq165 gq165 => ?_)
                                have uq165 : q164 = q165 := (eq164).trans eq165.symm
                                subst uq165
                                refine lv_iload_n hx hb dX10_keepsBars_316 rfl (lv_at hl151 0 rfl) ?_
                                refine x_ai C hTH161 gq164 rg_121 ⟨by omega, by show _ < ((2000 : Nat) : Int); omega⟩ dX10_keepsBars_317 (fun x166 ex166 bx166 => ?_)
                                refine x_V (As := [.int x166]) (rest := [.int x148, .ref q164]) C (f_X10_kept l K G H161 (x166) (x160) hTH161 gb m163 m162 (by omega)) yo_X10_kept wM_X10_473 ⟨⟨by decide, by decide⟩, by decide, by decide⟩ (x_rv C hTH161 (ci := 10) rfl gb rg_112) rfl hl151.1 rfl (Nat.le_of_ble_eq_true rfl) dX10_keepsBars_318 hSH161 (AE_sub (fun _ _ => rfl) (by decide) hSH161.1) (fun vH167 H167 locsH167 pH167 zH167 kH167 hSH167 => ?_)
                                obtain ⟨hvH167, hTH167, iH167, x168, tx168, ex168⟩ := pH167
                                subst hvH167
                                refine W.eq (g2 := F0 m 321 ls150 [.int x166, .int x148, .ref q164]) rfl ?_
                                refine x_iast C hTH167 hSH167 gq164 rg_121 (by omega) (by show _ < ((2000 : Nat) : Int); omega) ⟨by have := i_rng x166; omega, by have := i_rng x166; omega⟩ (AE_in gq164 (by decide)) dX10_keepsBars_321 (fun H169 locsH169 hTH169 hSH169 wH169 => ?_)
                                have m170 := ex168.trans (Wr.neI wH169 (Or.inl (G_ne gb gq164 (by decide)))).symm
                                have m171 := (Wr.neI wH169 (Or.inl (G_ne gb gq164 (by decide)))).trans iH167
                                obtain ⟨x172, ex172⟩ : ∃ y : Int32, y = x148 + 1 := ⟨_, rfl⟩
                                have tx172 := i_add ex172 (by omega)
                                refine lv_iinc (v := x172) (lv' := [(1, .int x172), (0, .ref b)]) hx hb dX10_keepsBars_322 hl151 (k := 0) rfl (by rw [ex172]; rfl) (by decide) rfl (fun ls173 hl174 => ?_)
                                refine lv_goto (tgt := 283) hx hb dX10_keepsBars_325 (by decide) ?_
                                exact ihLp147 ls173 H169 locsH169 (x172) (x168) (lv_sub hl174 [0, 1] rfl) hTH169 hSH169 (by omega) m171 m170 (by omega) (by omega)
                          exact Lp147 ((2000 - (0 : Int32).toInt).toNat + 1) ls145 H138 locsH138 (0) (x142) (lv_sub hl146 [0, 1] rfl) hTH138 hSH138 (by omega) i141 ex142 (by omega) (by omega)
                        · have k144 := i_nle c143
                          refine lv_aload_n hx hb dX10_keepsBars_227 rfl (lv_at hl140 1 rfl) ?_
                          refine x_gr C hTH138 (ci := 10) (k := 16) rfl inX10 (by decide) wF_X10_50 gb rg_112 rfl dX10_keepsBars_228 (fun q175 eq175 gq175 => ?_)
                          refine lv_iload_n hx hb dX10_keepsBars_231 rfl (lv_at hl140 0 rfl) ?_
                          refine lv_aload_n hx hb dX10_keepsBars_232 rfl (lv_at hl140 1 rfl) ?_
                          refine lv_aload_n hx hb dX10_keepsBars_233 rfl (lv_at hl140 1 rfl) ?_
                          refine x_gr C hTH138 (ci := 10) (k := 16) rfl inX10 (by decide) wF_X10_50 gb rg_112 rfl dX10_keepsBars_234 (fun q176 eq176 gq176 => ?_)
                          have uq176 : q175 = q176 := (eq175).trans eq176.symm
                          subst uq176
                          refine lv_iload_n hx hb dX10_keepsBars_237 rfl (lv_at hl140 0 rfl) ?_
                          refine x_ai C hTH138 gq175 rg_125 ⟨by omega, by show _ < ((20 : Nat) : Int); omega⟩ dX10_keepsBars_238 (fun x177 ex177 bx177 => ?_)
                          refine x_V (As := [.int x177]) (rest := [.int x137, .ref q175]) C (f_X10_kept l K G H138 (x177) (x142) hTH138 gb i141 ex142 (by omega)) yo_X10_kept wM_X10_473 ⟨⟨by decide, by decide⟩, by decide, by decide⟩ (x_rv C hTH138 (ci := 10) rfl gb rg_112) rfl hl140.1 rfl (Nat.le_of_ble_eq_true rfl) dX10_keepsBars_239 hSH138 (AE_sub (fun _ _ => rfl) (by decide) hSH138.1) (fun vH178 H178 locsH178 pH178 zH178 kH178 hSH178 => ?_)
                          obtain ⟨hvH178, hTH178, iH178, x179, tx179, ex179⟩ := pH178
                          subst hvH178
                          refine W.eq (g2 := F0 m 242 ls139 [.int x177, .int x137, .ref q175]) rfl ?_
                          refine x_iast C hTH178 hSH178 gq175 rg_125 (by omega) (by show _ < ((20 : Nat) : Int); omega) ⟨by have := i_rng x177; omega, by have := i_rng x177; omega⟩ (AE_in gq175 (by decide)) dX10_keepsBars_242 (fun H180 locsH180 hTH180 hSH180 wH180 => ?_)
                          have m181 := ex179.trans (Wr.neI wH180 (Or.inl (G_ne gb gq175 (by decide)))).symm
                          have m182 := (Wr.neI wH180 (Or.inl (G_ne gb gq175 (by decide)))).trans iH178
                          refine lv_aload_n hx hb dX10_keepsBars_243 rfl (lv_at hl140 1 rfl) ?_
                          refine x_gr C hTH180 (ci := 10) (k := 60) rfl inX10 (by decide) wF_X10_140 gb rg_112 rfl dX10_keepsBars_244 (fun q183 eq183 gq183 => ?_)
                          refine lv_iload_n hx hb dX10_keepsBars_247 rfl (lv_at hl140 0 rfl) ?_
                          refine lv_aload_n hx hb dX10_keepsBars_248 rfl (lv_at hl140 1 rfl) ?_
                          refine lv_aload_n hx hb dX10_keepsBars_249 rfl (lv_at hl140 1 rfl) ?_
                          refine x_gr C hTH180 (ci := 10) (k := 60) rfl inX10 (by decide) wF_X10_140 gb rg_112 rfl dX10_keepsBars_250 (fun q184 eq184 gq184 => ?_)
                          have uq184 : q183 = q184 := (eq183).trans eq184.symm
                          subst uq184
                          refine lv_iload_n hx hb dX10_keepsBars_253 rfl (lv_at hl140 0 rfl) ?_
                          refine x_ai C hTH180 gq183 rg_154 ⟨by omega, by show _ < ((20 : Nat) : Int); omega⟩ dX10_keepsBars_254 (fun x185 ex185 bx185 => ?_)
                          refine x_V (As := [.int x185]) (rest := [.int x137, .ref q183]) C (f_X10_kept l K G H180 (x185) (x179) hTH180 gb m182 m181 (by omega)) yo_X10_kept wM_X10_473 ⟨⟨by decide, by decide⟩, by decide, by decide⟩ (x_rv C hTH180 (ci := 10) rfl gb rg_112) rfl hl140.1 rfl (Nat.le_of_ble_eq_true rfl) dX10_keepsBars_255 hSH180 (AE_sub (fun _ _ => rfl) (by decide) hSH180.1) (fun vH186 H186 locsH186 pH186 zH186 kH186 hSH186 => ?_)
                          obtain ⟨hvH186, hTH186, iH186, x187, tx187, ex187⟩ := pH186
                          subst hvH186
                          refine W.eq (g2 := F0 m 258 ls139 [.int x185, .int x137, .ref q183]) rfl ?_
                          refine x_iast C hTH186 hSH186 gq183 rg_154 (by omega) (by show _ < ((20 : Nat) : Int); omega) ⟨by have := i_rng x185; omega, by have := i_rng x185; omega⟩ (AE_in gq183 (by decide)) dX10_keepsBars_258 (fun H188 locsH188 hTH188 hSH188 wH188 => ?_)
                          have m189 := ex187.trans (Wr.neI wH188 (Or.inl (G_ne gb gq183 (by decide)))).symm
                          have m190 := (Wr.neI wH188 (Or.inl (G_ne gb gq183 (by decide)))).trans iH186
                          refine lv_aload_n hx hb dX10_keepsBars_259 rfl (lv_at hl140 1 rfl) ?_
                          refine x_gr C hTH188 (ci := 10) (k := 61) rfl inX10 (by decide) wF_X10_143 gb rg_112 rfl dX10_keepsBars_260 (fun q191 eq191 gq191 => ?_)
                          refine lv_iload_n hx hb dX10_keepsBars_263 rfl (lv_at hl140 0 rfl) ?_
                          refine lv_aload_n hx hb dX10_keepsBars_264 rfl (lv_at hl140 1 rfl) ?_
                          refine lv_aload_n hx hb dX10_keepsBars_265 rfl (lv_at hl140 1 rfl) ?_
                          refine x_gr C hTH188 (ci := 10) (k := 61) rfl inX10 (by decide) wF_X10_143 gb rg_112 rfl dX10_keepsBars_266 (fun q192 eq192 gq192 => ?_)
                          have uq192 : q191 = q192 := (eq191).trans eq192.symm
                          subst uq192
                          refine lv_iload_n hx hb dX10_keepsBars_269 rfl (lv_at hl140 0 rfl) ?_
                          refine x_ai C hTH188 gq191 rg_155 ⟨by omega, by show _ < ((20 : Nat) : Int); omega⟩ dX10_keepsBars_270 (fun x193 ex193 bx193 => ?_)
                          refine x_V (As := [.int x193]) (rest := [.int x137, .ref q191]) C (f_X10_kept l K G H188 (x193) (x187) hTH188 gb m190 m189 (by omega)) yo_X10_kept wM_X10_473 ⟨⟨by decide, by decide⟩, by decide, by decide⟩ (x_rv C hTH188 (ci := 10) rfl gb rg_112) rfl hl140.1 rfl (Nat.le_of_ble_eq_true rfl) dX10_keepsBars_271 hSH188 (AE_sub (fun _ _ => rfl) (by decide) hSH188.1) (fun vH194 H194 locsH194 pH194 zH194 kH194 hSH194 => ?_)
                          obtain ⟨hvH194, hTH194, iH194, x195, tx195, ex195⟩ := pH194
                          subst hvH194
                          refine W.eq (g2 := F0 m 274 ls139 [.int x193, .int x137, .ref q191]) rfl ?_
                          refine x_iast C hTH194 hSH194 gq191 rg_155 (by omega) (by show _ < ((20 : Nat) : Int); omega) ⟨by have := i_rng x193; omega, by have := i_rng x193; omega⟩ (AE_in gq191 (by decide)) dX10_keepsBars_274 (fun H196 locsH196 hTH196 hSH196 wH196 => ?_)
                          have m197 := ex195.trans (Wr.neI wH196 (Or.inl (G_ne gb gq191 (by decide)))).symm
                          have m198 := (Wr.neI wH196 (Or.inl (G_ne gb gq191 (by decide)))).trans iH194
                          obtain ⟨x199, ex199⟩ : ∃ y : Int32, y = x137 + 1 := ⟨_, rfl⟩
                          have tx199 := i_add ex199 (by omega)
                          refine lv_iinc (v := x199) (lv' := [(1, .int x199), (0, .ref b)]) hx hb dX10_keepsBars_275 hl140 (k := 0) rfl (by rw [ex199]; rfl) (by decide) rfl (fun ls200 hl201 => ?_)
                          refine lv_goto (tgt := 221) hx hb dX10_keepsBars_278 (by decide) ?_
                          exact ihLp136 ls200 H196 locsH196 (x199) (x195) (lv_sub hl201 [0, 1] rfl) hTH196 hSH196 (by omega) m198 m197 (by omega) (by omega)
                    exact Lp136 ((20 - (0 : Int32).toInt).toNat + 1) ls134 H127 locsH127 (0) (x131) (lv_sub hl135 [0, 1] rfl) hTH127 hSH127 (by omega) i130 ex131 (by omega) (by omega)
                  · have k133 := i_nle c132
                    refine lv_aload_n hx hb dX10_keepsBars_197 rfl (lv_at hl129 1 rfl) ?_
                    refine x_gr C hTH127 (ci := 10) (k := 9) rfl inX10 (by decide) wF_X10_29 gb rg_112 rfl dX10_keepsBars_198 (fun q202 eq202 gq202 => ?_)
                    refine lv_iload_n hx hb dX10_keepsBars_201 rfl (lv_at hl129 0 rfl) ?_
                    refine lv_aload_n hx hb dX10_keepsBars_202 rfl (lv_at hl129 1 rfl) ?_
                    refine lv_aload_n hx hb dX10_keepsBars_203 rfl (lv_at hl129 1 rfl) ?_
                    refine x_gr C hTH127 (ci := 10) (k := 9) rfl inX10 (by decide) wF_X10_29 gb rg_112 rfl dX10_keepsBars_204 (fun q203 eq203 gq203 => ?_)
                    have uq203 : q202 = q203 := (eq202).trans eq203.symm
                    subst uq203
                    refine lv_iload_n hx hb dX10_keepsBars_207 rfl (lv_at hl129 0 rfl) ?_
                    refine x_ai C hTH127 gq202 rg_118 ⟨by omega, by show _ < ((30 : Nat) : Int); omega⟩ dX10_keepsBars_208 (fun x204 ex204 bx204 => ?_)
                    refine x_V (As := [.int x204]) (rest := [.int x126, .ref q202]) C (f_X10_kept l K G H127 (x204) (x131) hTH127 gb i130 ex131 (by omega)) yo_X10_kept wM_X10_473 ⟨⟨by decide, by decide⟩, by decide, by decide⟩ (x_rv C hTH127 (ci := 10) rfl gb rg_112) rfl hl129.1 rfl (Nat.le_of_ble_eq_true rfl) dX10_keepsBars_209 hSH127 (AE_sub (fun _ _ => rfl) (by decide) hSH127.1) (fun vH205 H205 locsH205 pH205 zH205 kH205 hSH205 => ?_)
                    obtain ⟨hvH205, hTH205, iH205, x206, tx206, ex206⟩ := pH205
                    subst hvH205
                    refine W.eq (g2 := F0 m 212 ls128 [.int x204, .int x126, .ref q202]) rfl ?_
                    refine x_iast C hTH205 hSH205 gq202 rg_118 (by omega) (by show _ < ((30 : Nat) : Int); omega) ⟨by have := i_rng x204; omega, by have := i_rng x204; omega⟩ (AE_in gq202 (by decide)) dX10_keepsBars_212 (fun H207 locsH207 hTH207 hSH207 wH207 => ?_)
                    have m208 := ex206.trans (Wr.neI wH207 (Or.inl (G_ne gb gq202 (by decide)))).symm
                    have m209 := (Wr.neI wH207 (Or.inl (G_ne gb gq202 (by decide)))).trans iH205
                    obtain ⟨x210, ex210⟩ : ∃ y : Int32, y = x126 + 1 := ⟨_, rfl⟩
                    have tx210 := i_add ex210 (by omega)
                    refine lv_iinc (v := x210) (lv' := [(1, .int x210), (0, .ref b)]) hx hb dX10_keepsBars_213 hl129 (k := 0) rfl (by rw [ex210]; rfl) (by decide) rfl (fun ls211 hl212 => ?_)
                    refine lv_goto (tgt := 191) hx hb dX10_keepsBars_216 (by decide) ?_
                    exact ihLp125 ls211 H207 locsH207 (x210) (x206) (lv_sub hl212 [0, 1] rfl) hTH207 hSH207 (by omega) m209 m208 (by omega) (by omega)
              exact Lp125 ((30 - (0 : Int32).toInt).toNat + 1) ls123 H116 locsH116 (0) (x120) (lv_sub hl124 [0, 1] rfl) hTH116 hSH116 (by omega) i119 ex120 (by omega) (by omega)
            · have k122 := i_nle c121
              refine lv_aload_n hx hb dX10_keepsBars_119 rfl (lv_at hl118 1 rfl) ?_
              refine x_gr C hTH116 (ci := 10) (k := 5) rfl inX10 (by decide) wF_X10_17 gb rg_112 rfl dX10_keepsBars_120 (fun q213 eq213 gq213 => ?_)
              refine lv_iload_n hx hb dX10_keepsBars_123 rfl (lv_at hl118 0 rfl) ?_
              refine lv_aload_n hx hb dX10_keepsBars_124 rfl (lv_at hl118 1 rfl) ?_
              refine lv_aload_n hx hb dX10_keepsBars_125 rfl (lv_at hl118 1 rfl) ?_
              refine x_gr C hTH116 (ci := 10) (k := 5) rfl inX10 (by decide) wF_X10_17 gb rg_112 rfl dX10_keepsBars_126 (fun q214 eq214 gq214 => ?_)
              have uq214 : q213 = q214 := (eq213).trans eq214.symm
              subst uq214
              refine lv_iload_n hx hb dX10_keepsBars_129 rfl (lv_at hl118 0 rfl) ?_
              refine x_ai C hTH116 gq213 rg_114 ⟨by omega, by show _ < ((160 : Nat) : Int); omega⟩ dX10_keepsBars_130 (fun x215 ex215 bx215 => ?_)
              refine x_V (As := [.int x215]) (rest := [.int x115, .ref q213]) C (f_X10_kept l K G H116 (x215) (x120) hTH116 gb i119 ex120 (by omega)) yo_X10_kept wM_X10_473 ⟨⟨by decide, by decide⟩, by decide, by decide⟩ (x_rv C hTH116 (ci := 10) rfl gb rg_112) rfl hl118.1 rfl (Nat.le_of_ble_eq_true rfl) dX10_keepsBars_131 hSH116 (AE_sub (fun _ _ => rfl) (by decide) hSH116.1) (fun vH216 H216 locsH216 pH216 zH216 kH216 hSH216 => ?_)
              obtain ⟨hvH216, hTH216, iH216, x217, tx217, ex217⟩ := pH216
              subst hvH216
              refine W.eq (g2 := F0 m 134 ls117 [.int x215, .int x115, .ref q213]) rfl ?_
              refine x_iast C hTH216 hSH216 gq213 rg_114 (by omega) (by show _ < ((160 : Nat) : Int); omega) ⟨by have := i_rng x215; omega, by have := i_rng x215; omega⟩ (AE_in gq213 (by decide)) dX10_keepsBars_134 (fun H218 locsH218 hTH218 hSH218 wH218 => ?_)
              have m219 := ex217.trans (Wr.neI wH218 (Or.inl (G_ne gb gq213 (by decide)))).symm
              have m220 := (Wr.neI wH218 (Or.inl (G_ne gb gq213 (by decide)))).trans iH216
              refine lv_aload_n hx hb dX10_keepsBars_135 rfl (lv_at hl118 1 rfl) ?_
              refine x_gr C hTH218 (ci := 10) (k := 6) rfl inX10 (by decide) wF_X10_20 gb rg_112 rfl dX10_keepsBars_136 (fun q221 eq221 gq221 => ?_)
              refine lv_iload_n hx hb dX10_keepsBars_139 rfl (lv_at hl118 0 rfl) ?_
              refine lv_aload_n hx hb dX10_keepsBars_140 rfl (lv_at hl118 1 rfl) ?_
              refine lv_aload_n hx hb dX10_keepsBars_141 rfl (lv_at hl118 1 rfl) ?_
              refine x_gr C hTH218 (ci := 10) (k := 6) rfl inX10 (by decide) wF_X10_20 gb rg_112 rfl dX10_keepsBars_142 (fun q222 eq222 gq222 => ?_)
              have uq222 : q221 = q222 := (eq221).trans eq222.symm
              subst uq222
              refine lv_iload_n hx hb dX10_keepsBars_145 rfl (lv_at hl118 0 rfl) ?_
              refine x_ai C hTH218 gq221 rg_115 ⟨by omega, by show _ < ((160 : Nat) : Int); omega⟩ dX10_keepsBars_146 (fun x223 ex223 bx223 => ?_)
              refine x_V (As := [.int x223]) (rest := [.int x115, .ref q221]) C (f_X10_kept l K G H218 (x223) (x217) hTH218 gb m220 m219 (by omega)) yo_X10_kept wM_X10_473 ⟨⟨by decide, by decide⟩, by decide, by decide⟩ (x_rv C hTH218 (ci := 10) rfl gb rg_112) rfl hl118.1 rfl (Nat.le_of_ble_eq_true rfl) dX10_keepsBars_147 hSH218 (AE_sub (fun _ _ => rfl) (by decide) hSH218.1) (fun vH224 H224 locsH224 pH224 zH224 kH224 hSH224 => ?_)
              obtain ⟨hvH224, hTH224, iH224, x225, tx225, ex225⟩ := pH224
              subst hvH224
              refine W.eq (g2 := F0 m 150 ls117 [.int x223, .int x115, .ref q221]) rfl ?_
              refine x_iast C hTH224 hSH224 gq221 rg_115 (by omega) (by show _ < ((160 : Nat) : Int); omega) ⟨by have := i_rng x223; omega, by have := i_rng x223; omega⟩ (AE_in gq221 (by decide)) dX10_keepsBars_150 (fun H226 locsH226 hTH226 hSH226 wH226 => ?_)
              have m227 := ex225.trans (Wr.neI wH226 (Or.inl (G_ne gb gq221 (by decide)))).symm
              have m228 := (Wr.neI wH226 (Or.inl (G_ne gb gq221 (by decide)))).trans iH224
              refine lv_aload_n hx hb dX10_keepsBars_151 rfl (lv_at hl118 1 rfl) ?_
              refine x_gr C hTH226 (ci := 10) (k := 7) rfl inX10 (by decide) wF_X10_23 gb rg_112 rfl dX10_keepsBars_152 (fun q229 eq229 gq229 => ?_)
              refine lv_iload_n hx hb dX10_keepsBars_155 rfl (lv_at hl118 0 rfl) ?_
              refine lv_aload_n hx hb dX10_keepsBars_156 rfl (lv_at hl118 1 rfl) ?_
              refine lv_aload_n hx hb dX10_keepsBars_157 rfl (lv_at hl118 1 rfl) ?_
              refine x_gr C hTH226 (ci := 10) (k := 7) rfl inX10 (by decide) wF_X10_23 gb rg_112 rfl dX10_keepsBars_158 (fun q230 eq230 gq230 => ?_)
              have uq230 : q229 = q230 := (eq229).trans eq230.symm
              subst uq230
              refine lv_iload_n hx hb dX10_keepsBars_161 rfl (lv_at hl118 0 rfl) ?_
              refine x_ai C hTH226 gq229 rg_116 ⟨by omega, by show _ < ((160 : Nat) : Int); omega⟩ dX10_keepsBars_162 (fun x231 ex231 bx231 => ?_)
              refine x_V (As := [.int x231]) (rest := [.int x115, .ref q229]) C (f_X10_kept l K G H226 (x231) (x225) hTH226 gb m228 m227 (by omega)) yo_X10_kept wM_X10_473 ⟨⟨by decide, by decide⟩, by decide, by decide⟩ (x_rv C hTH226 (ci := 10) rfl gb rg_112) rfl hl118.1 rfl (Nat.le_of_ble_eq_true rfl) dX10_keepsBars_163 hSH226 (AE_sub (fun _ _ => rfl) (by decide) hSH226.1) (fun vH232 H232 locsH232 pH232 zH232 kH232 hSH232 => ?_)
              obtain ⟨hvH232, hTH232, iH232, x233, tx233, ex233⟩ := pH232
              subst hvH232
              refine W.eq (g2 := F0 m 166 ls117 [.int x231, .int x115, .ref q229]) rfl ?_
              refine x_iast C hTH232 hSH232 gq229 rg_116 (by omega) (by show _ < ((160 : Nat) : Int); omega) ⟨by have := i_rng x231; omega, by have := i_rng x231; omega⟩ (AE_in gq229 (by decide)) dX10_keepsBars_166 (fun H234 locsH234 hTH234 hSH234 wH234 => ?_)
              have m235 := ex233.trans (Wr.neI wH234 (Or.inl (G_ne gb gq229 (by decide)))).symm
              have m236 := (Wr.neI wH234 (Or.inl (G_ne gb gq229 (by decide)))).trans iH232
              refine lv_aload_n hx hb dX10_keepsBars_167 rfl (lv_at hl118 1 rfl) ?_
              refine x_gr C hTH234 (ci := 10) (k := 8) rfl inX10 (by decide) wF_X10_26 gb rg_112 rfl dX10_keepsBars_168 (fun q237 eq237 gq237 => ?_)
              refine lv_iload_n hx hb dX10_keepsBars_171 rfl (lv_at hl118 0 rfl) ?_
              refine lv_aload_n hx hb dX10_keepsBars_172 rfl (lv_at hl118 1 rfl) ?_
              refine lv_aload_n hx hb dX10_keepsBars_173 rfl (lv_at hl118 1 rfl) ?_
              refine x_gr C hTH234 (ci := 10) (k := 8) rfl inX10 (by decide) wF_X10_26 gb rg_112 rfl dX10_keepsBars_174 (fun q238 eq238 gq238 => ?_)
              have uq238 : q237 = q238 := (eq237).trans eq238.symm
              subst uq238
              refine lv_iload_n hx hb dX10_keepsBars_177 rfl (lv_at hl118 0 rfl) ?_
              refine x_ai C hTH234 gq237 rg_117 ⟨by omega, by show _ < ((160 : Nat) : Int); omega⟩ dX10_keepsBars_178 (fun x239 ex239 bx239 => ?_)
              refine x_V (As := [.int x239]) (rest := [.int x115, .ref q237]) C (f_X10_kept l K G H234 (x239) (x233) hTH234 gb m236 m235 (by omega)) yo_X10_kept wM_X10_473 ⟨⟨by decide, by decide⟩, by decide, by decide⟩ (x_rv C hTH234 (ci := 10) rfl gb rg_112) rfl hl118.1 rfl (Nat.le_of_ble_eq_true rfl) dX10_keepsBars_179 hSH234 (AE_sub (fun _ _ => rfl) (by decide) hSH234.1) (fun vH240 H240 locsH240 pH240 zH240 kH240 hSH240 => ?_)
              obtain ⟨hvH240, hTH240, iH240, x241, tx241, ex241⟩ := pH240
              subst hvH240
              refine W.eq (g2 := F0 m 182 ls117 [.int x239, .int x115, .ref q237]) rfl ?_
              refine x_iast C hTH240 hSH240 gq237 rg_117 (by omega) (by show _ < ((160 : Nat) : Int); omega) ⟨by have := i_rng x239; omega, by have := i_rng x239; omega⟩ (AE_in gq237 (by decide)) dX10_keepsBars_182 (fun H242 locsH242 hTH242 hSH242 wH242 => ?_)
              have m243 := ex241.trans (Wr.neI wH242 (Or.inl (G_ne gb gq237 (by decide)))).symm
              have m244 := (Wr.neI wH242 (Or.inl (G_ne gb gq237 (by decide)))).trans iH240
              obtain ⟨x245, ex245⟩ : ∃ y : Int32, y = x115 + 1 := ⟨_, rfl⟩
              have tx245 := i_add ex245 (by omega)
              refine lv_iinc (v := x245) (lv' := [(1, .int x245), (0, .ref b)]) hx hb dX10_keepsBars_183 hl118 (k := 0) rfl (by rw [ex245]; rfl) (by decide) rfl (fun ls246 hl247 => ?_)
              refine lv_goto (tgt := 112) hx hb dX10_keepsBars_186 (by decide) ?_
              exact ihLp114 ls246 H242 locsH242 (x245) (x241) (lv_sub hl247 [0, 1] rfl) hTH242 hSH242 (by omega) m244 m243 (by omega) (by omega)
        exact Lp114 ((160 - (0 : Int32).toInt).toNat + 1) ls112 H105 locsH105 (0) (x109) (lv_sub hl113 [0, 1] rfl) hTH105 hSH105 (by omega) i108 ex109 (by omega) (by omega)
      · have k111 := i_nle c110
        refine lv_aload_n hx hb dX10_keepsBars_8 rfl (lv_at hl107 1 rfl) ?_
        refine x_gr C hTH105 (ci := 10) (k := 4) rfl inX10 (by decide) wF_X10_13 gb rg_112 rfl dX10_keepsBars_9 (fun q248 eq248 gq248 => ?_)
        refine lv_iload_n hx hb dX10_keepsBars_12 rfl (lv_at hl107 0 rfl) ?_
        refine lv_aload_n hx hb dX10_keepsBars_13 rfl (lv_at hl107 1 rfl) ?_
        refine lv_aload_n hx hb dX10_keepsBars_14 rfl (lv_at hl107 1 rfl) ?_
        refine x_gr C hTH105 (ci := 10) (k := 4) rfl inX10 (by decide) wF_X10_13 gb rg_112 rfl dX10_keepsBars_15 (fun q249 eq249 gq249 => ?_)
        have uq249 : q248 = q249 := (eq248).trans eq249.symm
        subst uq249
        refine lv_iload_n hx hb dX10_keepsBars_18 rfl (lv_at hl107 0 rfl) ?_
        refine x_ai C hTH105 gq248 rg_113 ⟨by omega, by show _ < ((10 : Nat) : Int); omega⟩ dX10_keepsBars_19 (fun x250 ex250 bx250 => ?_)
        refine x_V (As := [.int x250]) (rest := [.int x104, .ref q248]) C (f_X10_kept l K G H105 (x250) (x109) hTH105 gb i108 ex109 (by omega)) yo_X10_kept wM_X10_473 ⟨⟨by decide, by decide⟩, by decide, by decide⟩ (x_rv C hTH105 (ci := 10) rfl gb rg_112) rfl hl107.1 rfl (Nat.le_of_ble_eq_true rfl) dX10_keepsBars_20 hSH105 (AE_sub (fun _ _ => rfl) (by decide) hSH105.1) (fun vH251 H251 locsH251 pH251 zH251 kH251 hSH251 => ?_)
        obtain ⟨hvH251, hTH251, iH251, x252, tx252, ex252⟩ := pH251
        subst hvH251
        refine W.eq (g2 := F0 m 23 ls106 [.int x250, .int x104, .ref q248]) rfl ?_
        refine x_iast C hTH251 hSH251 gq248 rg_113 (by omega) (by show _ < ((10 : Nat) : Int); omega) ⟨by have := i_rng x250; omega, by have := i_rng x250; omega⟩ (AE_in gq248 (by decide)) dX10_keepsBars_23 (fun H253 locsH253 hTH253 hSH253 wH253 => ?_)
        have m254 := ex252.trans (Wr.neI wH253 (Or.inl (G_ne gb gq248 (by decide)))).symm
        have m255 := (Wr.neI wH253 (Or.inl (G_ne gb gq248 (by decide)))).trans iH251
        refine lv_aload_n hx hb dX10_keepsBars_24 rfl (lv_at hl107 1 rfl) ?_
        refine x_gr C hTH253 (ci := 10) (k := 10) rfl inX10 (by decide) wF_X10_32 gb rg_112 rfl dX10_keepsBars_25 (fun q256 eq256 gq256 => ?_)
        refine lv_iload_n hx hb dX10_keepsBars_28 rfl (lv_at hl107 0 rfl) ?_
        refine lv_aload_n hx hb dX10_keepsBars_29 rfl (lv_at hl107 1 rfl) ?_
        refine lv_aload_n hx hb dX10_keepsBars_30 rfl (lv_at hl107 1 rfl) ?_
        refine x_gr C hTH253 (ci := 10) (k := 10) rfl inX10 (by decide) wF_X10_32 gb rg_112 rfl dX10_keepsBars_31 (fun q257 eq257 gq257 => ?_)
        have uq257 : q256 = q257 := (eq256).trans eq257.symm
        subst uq257
        refine lv_iload_n hx hb dX10_keepsBars_34 rfl (lv_at hl107 0 rfl) ?_
        refine x_ai C hTH253 gq256 rg_119 ⟨by omega, by show _ < ((10 : Nat) : Int); omega⟩ dX10_keepsBars_35 (fun x258 ex258 bx258 => ?_)
        refine x_V (As := [.int x258]) (rest := [.int x104, .ref q256]) C (f_X10_kept l K G H253 (x258) (x252) hTH253 gb m255 m254 (by omega)) yo_X10_kept wM_X10_473 ⟨⟨by decide, by decide⟩, by decide, by decide⟩ (x_rv C hTH253 (ci := 10) rfl gb rg_112) rfl hl107.1 rfl (Nat.le_of_ble_eq_true rfl) dX10_keepsBars_36 hSH253 (AE_sub (fun _ _ => rfl) (by decide) hSH253.1) (fun vH259 H259 locsH259 pH259 zH259 kH259 hSH259 => ?_)
        obtain ⟨hvH259, hTH259, iH259, x260, tx260, ex260⟩ := pH259
        subst hvH259
        refine W.eq (g2 := F0 m 39 ls106 [.int x258, .int x104, .ref q256]) rfl ?_
        refine x_iast C hTH259 hSH259 gq256 rg_119 (by omega) (by show _ < ((10 : Nat) : Int); omega) ⟨by have := i_rng x258; omega, by have := i_rng x258; omega⟩ (AE_in gq256 (by decide)) dX10_keepsBars_39 (fun H261 locsH261 hTH261 hSH261 wH261 => ?_)
        have m262 := ex260.trans (Wr.neI wH261 (Or.inl (G_ne gb gq256 (by decide)))).symm
        have m263 := (Wr.neI wH261 (Or.inl (G_ne gb gq256 (by decide)))).trans iH259
        refine lv_aload_n hx hb dX10_keepsBars_40 rfl (lv_at hl107 1 rfl) ?_
        refine x_gr C hTH261 (ci := 10) (k := 13) rfl inX10 (by decide) wF_X10_41 gb rg_112 rfl dX10_keepsBars_41 (fun q264 eq264 gq264 => ?_)
        refine lv_iload_n hx hb dX10_keepsBars_44 rfl (lv_at hl107 0 rfl) ?_
        refine lv_aload_n hx hb dX10_keepsBars_45 rfl (lv_at hl107 1 rfl) ?_
        refine lv_aload_n hx hb dX10_keepsBars_46 rfl (lv_at hl107 1 rfl) ?_
        refine x_gr C hTH261 (ci := 10) (k := 13) rfl inX10 (by decide) wF_X10_41 gb rg_112 rfl dX10_keepsBars_47 (fun q265 eq265 gq265 => ?_)
        have uq265 : q264 = q265 := (eq264).trans eq265.symm
        subst uq265
        refine lv_iload_n hx hb dX10_keepsBars_50 rfl (lv_at hl107 0 rfl) ?_
        refine x_ai C hTH261 gq264 rg_122 ⟨by omega, by show _ < ((10 : Nat) : Int); omega⟩ dX10_keepsBars_51 (fun x266 ex266 bx266 => ?_)
        refine x_V (As := [.int x266]) (rest := [.int x104, .ref q264]) C (f_X10_kept l K G H261 (x266) (x260) hTH261 gb m263 m262 (by omega)) yo_X10_kept wM_X10_473 ⟨⟨by decide, by decide⟩, by decide, by decide⟩ (x_rv C hTH261 (ci := 10) rfl gb rg_112) rfl hl107.1 rfl (Nat.le_of_ble_eq_true rfl) dX10_keepsBars_52 hSH261 (AE_sub (fun _ _ => rfl) (by decide) hSH261.1) (fun vH267 H267 locsH267 pH267 zH267 kH267 hSH267 => ?_)
        obtain ⟨hvH267, hTH267, iH267, x268, tx268, ex268⟩ := pH267
        subst hvH267
        refine W.eq (g2 := F0 m 55 ls106 [.int x266, .int x104, .ref q264]) rfl ?_
        refine x_iast C hTH267 hSH267 gq264 rg_122 (by omega) (by show _ < ((10 : Nat) : Int); omega) ⟨by have := i_rng x266; omega, by have := i_rng x266; omega⟩ (AE_in gq264 (by decide)) dX10_keepsBars_55 (fun H269 locsH269 hTH269 hSH269 wH269 => ?_)
        have m270 := ex268.trans (Wr.neI wH269 (Or.inl (G_ne gb gq264 (by decide)))).symm
        have m271 := (Wr.neI wH269 (Or.inl (G_ne gb gq264 (by decide)))).trans iH267
        refine lv_aload_n hx hb dX10_keepsBars_56 rfl (lv_at hl107 1 rfl) ?_
        refine x_gr C hTH269 (ci := 10) (k := 14) rfl inX10 (by decide) wF_X10_44 gb rg_112 rfl dX10_keepsBars_57 (fun q272 eq272 gq272 => ?_)
        refine lv_iload_n hx hb dX10_keepsBars_60 rfl (lv_at hl107 0 rfl) ?_
        refine lv_aload_n hx hb dX10_keepsBars_61 rfl (lv_at hl107 1 rfl) ?_
        refine lv_aload_n hx hb dX10_keepsBars_62 rfl (lv_at hl107 1 rfl) ?_
        refine x_gr C hTH269 (ci := 10) (k := 14) rfl inX10 (by decide) wF_X10_44 gb rg_112 rfl dX10_keepsBars_63 (fun q273 eq273 gq273 => ?_)
        have uq273 : q272 = q273 := (eq272).trans eq273.symm
        subst uq273
        refine lv_iload_n hx hb dX10_keepsBars_66 rfl (lv_at hl107 0 rfl) ?_
        refine x_ai C hTH269 gq272 rg_123 ⟨by omega, by show _ < ((10 : Nat) : Int); omega⟩ dX10_keepsBars_67 (fun x274 ex274 bx274 => ?_)
        refine x_V (As := [.int x274]) (rest := [.int x104, .ref q272]) C (f_X10_kept l K G H269 (x274) (x268) hTH269 gb m271 m270 (by omega)) yo_X10_kept wM_X10_473 ⟨⟨by decide, by decide⟩, by decide, by decide⟩ (x_rv C hTH269 (ci := 10) rfl gb rg_112) rfl hl107.1 rfl (Nat.le_of_ble_eq_true rfl) dX10_keepsBars_68 hSH269 (AE_sub (fun _ _ => rfl) (by decide) hSH269.1) (fun vH275 H275 locsH275 pH275 zH275 kH275 hSH275 => ?_)
        obtain ⟨hvH275, hTH275, iH275, x276, tx276, ex276⟩ := pH275
        subst hvH275
        refine W.eq (g2 := F0 m 71 ls106 [.int x274, .int x104, .ref q272]) rfl ?_
        refine x_iast C hTH275 hSH275 gq272 rg_123 (by omega) (by show _ < ((10 : Nat) : Int); omega) ⟨by have := i_rng x274; omega, by have := i_rng x274; omega⟩ (AE_in gq272 (by decide)) dX10_keepsBars_71 (fun H277 locsH277 hTH277 hSH277 wH277 => ?_)
        have m278 := ex276.trans (Wr.neI wH277 (Or.inl (G_ne gb gq272 (by decide)))).symm
        have m279 := (Wr.neI wH277 (Or.inl (G_ne gb gq272 (by decide)))).trans iH275
        refine lv_aload_n hx hb dX10_keepsBars_72 rfl (lv_at hl107 1 rfl) ?_
        refine x_gr C hTH277 (ci := 10) (k := 15) rfl inX10 (by decide) wF_X10_47 gb rg_112 rfl dX10_keepsBars_73 (fun q280 eq280 gq280 => ?_)
        refine lv_iload_n hx hb dX10_keepsBars_76 rfl (lv_at hl107 0 rfl) ?_
        refine lv_aload_n hx hb dX10_keepsBars_77 rfl (lv_at hl107 1 rfl) ?_
        refine lv_aload_n hx hb dX10_keepsBars_78 rfl (lv_at hl107 1 rfl) ?_
        refine x_gr C hTH277 (ci := 10) (k := 15) rfl inX10 (by decide) wF_X10_47 gb rg_112 rfl dX10_keepsBars_79 (fun q281 eq281 gq281 => ?_)
        have uq281 : q280 = q281 := (eq280).trans eq281.symm
        subst uq281
        refine lv_iload_n hx hb dX10_keepsBars_82 rfl (lv_at hl107 0 rfl) ?_
        refine x_ai C hTH277 gq280 rg_124 ⟨by omega, by show _ < ((10 : Nat) : Int); omega⟩ dX10_keepsBars_83 (fun x282 ex282 bx282 => ?_)
        refine x_V (As := [.int x282]) (rest := [.int x104, .ref q280]) C (f_X10_kept l K G H277 (x282) (x276) hTH277 gb m279 m278 (by omega)) yo_X10_kept wM_X10_473 ⟨⟨by decide, by decide⟩, by decide, by decide⟩ (x_rv C hTH277 (ci := 10) rfl gb rg_112) rfl hl107.1 rfl (Nat.le_of_ble_eq_true rfl) dX10_keepsBars_84 hSH277 (AE_sub (fun _ _ => rfl) (by decide) hSH277.1) (fun vH283 H283 locsH283 pH283 zH283 kH283 hSH283 => ?_)
        obtain ⟨hvH283, hTH283, iH283, x284, tx284, ex284⟩ := pH283
        subst hvH283
        refine W.eq (g2 := F0 m 87 ls106 [.int x282, .int x104, .ref q280]) rfl ?_
        refine x_iast C hTH283 hSH283 gq280 rg_124 (by omega) (by show _ < ((10 : Nat) : Int); omega) ⟨by have := i_rng x282; omega, by have := i_rng x282; omega⟩ (AE_in gq280 (by decide)) dX10_keepsBars_87 (fun H285 locsH285 hTH285 hSH285 wH285 => ?_)
        have m286 := ex284.trans (Wr.neI wH285 (Or.inl (G_ne gb gq280 (by decide)))).symm
        have m287 := (Wr.neI wH285 (Or.inl (G_ne gb gq280 (by decide)))).trans iH283
        refine lv_aload_n hx hb dX10_keepsBars_88 rfl (lv_at hl107 1 rfl) ?_
        refine x_gr C hTH285 (ci := 10) (k := 50) rfl inX10 (by decide) wF_X10_116 gb rg_112 rfl dX10_keepsBars_89 (fun q288 eq288 gq288 => ?_)
        refine lv_iload_n hx hb dX10_keepsBars_92 rfl (lv_at hl107 0 rfl) ?_
        refine lv_aload_n hx hb dX10_keepsBars_93 rfl (lv_at hl107 1 rfl) ?_
        refine lv_aload_n hx hb dX10_keepsBars_94 rfl (lv_at hl107 1 rfl) ?_
        refine x_gr C hTH285 (ci := 10) (k := 50) rfl inX10 (by decide) wF_X10_116 gb rg_112 rfl dX10_keepsBars_95 (fun q289 eq289 gq289 => ?_)
        have uq289 : q288 = q289 := (eq288).trans eq289.symm
        subst uq289
        refine lv_iload_n hx hb dX10_keepsBars_98 rfl (lv_at hl107 0 rfl) ?_
        refine x_ai C hTH285 gq288 rg_146 ⟨by omega, by show _ < ((10 : Nat) : Int); omega⟩ dX10_keepsBars_99 (fun x290 ex290 bx290 => ?_)
        refine x_V (As := [.int x290]) (rest := [.int x104, .ref q288]) C (f_X10_kept l K G H285 (x290) (x284) hTH285 gb m287 m286 (by omega)) yo_X10_kept wM_X10_473 ⟨⟨by decide, by decide⟩, by decide, by decide⟩ (x_rv C hTH285 (ci := 10) rfl gb rg_112) rfl hl107.1 rfl (Nat.le_of_ble_eq_true rfl) dX10_keepsBars_100 hSH285 (AE_sub (fun _ _ => rfl) (by decide) hSH285.1) (fun vH291 H291 locsH291 pH291 zH291 kH291 hSH291 => ?_)
        obtain ⟨hvH291, hTH291, iH291, x292, tx292, ex292⟩ := pH291
        subst hvH291
        refine W.eq (g2 := F0 m 103 ls106 [.int x290, .int x104, .ref q288]) rfl ?_
        refine x_iast C hTH291 hSH291 gq288 rg_146 (by omega) (by show _ < ((10 : Nat) : Int); omega) ⟨by have := i_rng x290; omega, by have := i_rng x290; omega⟩ (AE_in gq288 (by decide)) dX10_keepsBars_103 (fun H293 locsH293 hTH293 hSH293 wH293 => ?_)
        have m294 := ex292.trans (Wr.neI wH293 (Or.inl (G_ne gb gq288 (by decide)))).symm
        have m295 := (Wr.neI wH293 (Or.inl (G_ne gb gq288 (by decide)))).trans iH291
        obtain ⟨x296, ex296⟩ : ∃ y : Int32, y = x104 + 1 := ⟨_, rfl⟩
        have tx296 := i_add ex296 (by omega)
        refine lv_iinc (v := x296) (lv' := [(1, .int x296), (0, .ref b)]) hx hb dX10_keepsBars_104 hl107 (k := 0) rfl (by rw [ex296]; rfl) (by decide) rfl (fun ls297 hl298 => ?_)
        refine lv_goto (tgt := 2) hx hb dX10_keepsBars_107 (by decide) ?_
        exact ihLp103 ls297 H293 locsH293 (x296) (x292) (lv_sub hl298 [0, 1] rfl) hTH293 hSH293 (by omega) m295 m294 (by omega) (by omega)
  exact Lp103 ((10 - (0 : Int32).toInt).toNat + 1) ls101 s.heap [] (0) (T) (lv_sub hl102 [0, 1] rfl) hT hS (by omega) h1 hk (by omega) (by omega)

set_option maxHeartbeats 4000000 in
set_option maxRecDepth 100000 in
theorem f_X10_keepsTaps (l : Launch) (K : KE) (G : Nat → Option Nat) (H : Heap) {b : Nat} (T : Int32) (hT : TY K G H) (gb : G b = some 112) (h1 : fI H b (K.1.2 10 71) = 1) (hk : T = fI H b (K.1.2 10 72)) (h2 : T.toInt = 4796) : MX l K yX10_keepsTaps cX10_keepsTaps 2 none 1 21 0 0 [.ref b] H (AE G [112, 162, 147, 148, 149, 150, 156, 157, 158, 159] H.size) (fun v H1 => v = none ∧ TY K G H1 ∧ fI H1 b (K.1.2 10 71) = 1 ∧ ∃ T2 : Int32, T2.toInt = 8908 ∧ T2 = fI H1 b (K.1.2 10 72)) := by
  refine MX.of (by decide +kernel) (Nat.le_of_ble_eq_true rfl) ?_
  intro p e s m below meth c ls Q C hH hl hQ
  subst hH
  have C : CX p K s m _ meth c RX10 cX10_keepsTaps 2 none "keepsTaps" := C
  obtain ⟨hx, hb, hml, hown, hts, hKT, hr, hlocks, hnm⟩ := id C
  have hl : lv_has ls 2 [(0, .ref b)] := hl
  have hS : va_S (AE G [112, 162, 147, 148, 149, 150, 156, 157, 158, 159] s.heap.size) s.heap s.heap [] := va_S.rf
  have n_0 : (0 : Int32).toInt = 0 := rfl
  have n_1 : (1 : Int32).toInt = 1 := rfl
  have n_8 : (8 : Int32).toInt = 8 := rfl
  have n_120 : (120 : Int32).toInt = 120 := rfl
  have n_1920 : (1920 : Int32).toInt = 1920 := rfl
  refine lv_iconst (v := 0) hx hb dX10_keepsTaps_0 (by decide) ?_
  refine lv_istore_n (lv' := [(1, .int 0), (0, .ref b)]) hx hb dX10_keepsTaps_1 rfl hl (by decide) rfl (fun ls101 hl102 => ?_)
  have Lp103 : ∀ (nf : Nat) (ls106 : Array Slot) (H105 : Heap) (locsH105 : List Loc) (x104 : Int32) (x109 : Int32), lv_has ls106 2 [(1, .int x104), (0, .ref b)] → TY K G H105 → va_S (AE G [112, 162, 147, 148, 149, 150, 156, 157, 158, 159] s.heap.size) s.heap H105 locsH105 → (0 ≤ x104.toInt ∧ x104.toInt ≤ 120) → (fI H105 b (K.1.2 10 71) = 1) → (x109 = fI H105 b (K.1.2 10 72)) → (x109.toInt = 4796 + 2 * x104.toInt) → (120 - x104.toInt < (nf : Int)) → W p l e ({ frames := 1, cells := 0, slots := 0, locals := 21 } : Room) s m (([.ref b] : List Value).toArray) below meth c H105 locsH105 0 0 Q (F0 m 2 ls106 []) := by
    intro nf
    induction nf with
    | zero =>
      intro ls106 H105 locsH105 x104 x109 hl107 hTH105 hSH105 bx104 i108 ex109 tx109 hmLp103
      exfalso
      omega
    | succ nf ihLp103 =>
      intro ls106 H105 locsH105 x104 x109 hl107 hTH105 hSH105 bx104 i108 ex109 tx109 hmLp103
      refine lv_iload_n hx hb dX10_keepsTaps_2 rfl (lv_at hl107 0 rfl) ?_
      refine lv_bipush (v := 120) hx hb dX10_keepsTaps_3 (by decide) ?_
      refine lv_icmp_ge (tgt := 46) hx hb dX10_keepsTaps_5 (by decide) (fun c110 => ?_) (fun c110 => ?_)
      · have k111 := i_le c110
        refine lv_iconst (v := 0) hx hb dX10_keepsTaps_46 (by decide) ?_
        refine lv_istore_n (lv' := [(1, .int 0), (0, .ref b)]) hx hb dX10_keepsTaps_47 rfl hl107 (by decide) rfl (fun ls112 hl113 => ?_)
        have Lp114 : ∀ (nf : Nat) (ls117 : Array Slot) (H116 : Heap) (locsH116 : List Loc) (x115 : Int32) (x120 : Int32), lv_has ls117 2 [(1, .int x115), (0, .ref b)] → TY K G H116 → va_S (AE G [112, 162, 147, 148, 149, 150, 156, 157, 158, 159] s.heap.size) s.heap H116 locsH116 → (0 ≤ x115.toInt ∧ x115.toInt ≤ 1920) → (fI H116 b (K.1.2 10 71) = 1) → (x120 = fI H116 b (K.1.2 10 72)) → (x120.toInt = 5036 + 2 * x115.toInt) → (1920 - x115.toInt < (nf : Int)) → W p l e ({ frames := 1, cells := 0, slots := 0, locals := 21 } : Room) s m (([.ref b] : List Value).toArray) below meth c H116 locsH116 0 0 Q (F0 m 48 ls117 []) := by
          intro nf
          induction nf with
          | zero =>
            intro ls117 H116 locsH116 x115 x120 hl118 hTH116 hSH116 bx115 i119 ex120 tx120 hmLp114
            exfalso
            omega
          | succ nf ihLp114 =>
            intro ls117 H116 locsH116 x115 x120 hl118 hTH116 hSH116 bx115 i119 ex120 tx120 hmLp114
            refine lv_iload_n hx hb dX10_keepsTaps_48 rfl (lv_at hl118 0 rfl) ?_
            refine lv_sipush (v := 1920) hx hb dX10_keepsTaps_49 (by decide) ?_
            refine lv_icmp_ge (tgt := 93) hx hb dX10_keepsTaps_52 (by decide) (fun c121 => ?_) (fun c121 => ?_)
            · have k122 := i_le c121
              refine lv_iconst (v := 0) hx hb dX10_keepsTaps_93 (by decide) ?_
              refine lv_istore_n (lv' := [(1, .int 0), (0, .ref b)]) hx hb dX10_keepsTaps_94 rfl hl118 (by decide) rfl (fun ls123 hl124 => ?_)
              have Lp125 : ∀ (nf : Nat) (ls128 : Array Slot) (H127 : Heap) (locsH127 : List Loc) (x126 : Int32) (x131 : Int32), lv_has ls128 2 [(1, .int x126), (0, .ref b)] → TY K G H127 → va_S (AE G [112, 162, 147, 148, 149, 150, 156, 157, 158, 159] s.heap.size) s.heap H127 locsH127 → (0 ≤ x126.toInt ∧ x126.toInt ≤ 8) → (fI H127 b (K.1.2 10 71) = 1) → (x131 = fI H127 b (K.1.2 10 72)) → (x131.toInt = 8876 + 4 * x126.toInt) → (8 - x126.toInt < (nf : Int)) → W p l e ({ frames := 1, cells := 0, slots := 0, locals := 21 } : Room) s m (([.ref b] : List Value).toArray) below meth c H127 locsH127 0 0 Q (F0 m 95 ls128 []) := by
                intro nf
                induction nf with
                | zero =>
                  intro ls128 H127 locsH127 x126 x131 hl129 hTH127 hSH127 bx126 i130 ex131 tx131 hmLp125
                  exfalso
                  omega
                | succ nf ihLp125 =>
                  intro ls128 H127 locsH127 x126 x131 hl129 hTH127 hSH127 bx126 i130 ex131 tx131 hmLp125
                  refine lv_iload_n hx hb dX10_keepsTaps_95 rfl (lv_at hl129 0 rfl) ?_
                  refine lv_bipush (v := 8) hx hb dX10_keepsTaps_96 (by decide) ?_
                  refine lv_icmp_ge (tgt := 171) hx hb dX10_keepsTaps_98 (by decide) (fun c132 => ?_) (fun c132 => ?_)
                  · have k133 := i_le c132
                    exact x_vret C hQ dX10_keepsTaps_171 hSH127 (by decide) (by decide) (⟨rfl, hTH127, i130, x131, by omega, ex131⟩)
                  · have k133 := i_nle c132
                    refine lv_aload_n hx hb dX10_keepsTaps_101 rfl (lv_at hl129 1 rfl) ?_
                    refine x_gr C hTH127 (ci := 10) (k := 63) rfl inX10 (by decide) wF_X10_146 gb rg_112 rfl dX10_keepsTaps_102 (fun q134 eq134 gq134 => ?_)
                    refine lv_iload_n hx hb dX10_keepsTaps_105 rfl (lv_at hl129 0 rfl) ?_
                    refine lv_aload_n hx hb dX10_keepsTaps_106 rfl (lv_at hl129 1 rfl) ?_
                    refine lv_aload_n hx hb dX10_keepsTaps_107 rfl (lv_at hl129 1 rfl) ?_
                    refine x_gr C hTH127 (ci := 10) (k := 63) rfl inX10 (by decide) wF_X10_146 gb rg_112 rfl dX10_keepsTaps_108 (fun q135 eq135 gq135 => ?_)
                    have uq135 : q134 = q135 := (eq134).trans eq135.symm
                    subst uq135
                    refine lv_iload_n hx hb dX10_keepsTaps_111 rfl (lv_at hl129 0 rfl) ?_
                    refine x_ai C hTH127 gq134 rg_156 ⟨by omega, by show _ < ((8 : Nat) : Int); omega⟩ dX10_keepsTaps_112 (fun x136 ex136 bx136 => ?_)
                    refine x_V (As := [.int x136]) (rest := [.int x126, .ref q134]) C (f_X10_kept l K G H127 (x136) (x131) hTH127 gb i130 ex131 (by omega)) yo_X10_kept wM_X10_473 ⟨⟨by decide, by decide⟩, by decide, by decide⟩ (x_rv C hTH127 (ci := 10) rfl gb rg_112) rfl hl129.1 rfl (Nat.le_of_ble_eq_true rfl) dX10_keepsTaps_113 hSH127 (AE_sub (fun _ _ => rfl) (by decide) hSH127.1) (fun vH137 H137 locsH137 pH137 zH137 kH137 hSH137 => ?_)
                    obtain ⟨hvH137, hTH137, iH137, x138, tx138, ex138⟩ := pH137
                    subst hvH137
                    refine W.eq (g2 := F0 m 116 ls128 [.int x136, .int x126, .ref q134]) rfl ?_
                    refine x_iast C hTH137 hSH137 gq134 rg_156 (by omega) (by show _ < ((8 : Nat) : Int); omega) ⟨by have := i_rng x136; omega, by have := i_rng x136; omega⟩ (AE_in gq134 (by decide)) dX10_keepsTaps_116 (fun H139 locsH139 hTH139 hSH139 wH139 => ?_)
                    have m140 := ex138.trans (Wr.neI wH139 (Or.inl (G_ne gb gq134 (by decide)))).symm
                    have m141 := (Wr.neI wH139 (Or.inl (G_ne gb gq134 (by decide)))).trans iH137
                    refine lv_aload_n hx hb dX10_keepsTaps_117 rfl (lv_at hl129 1 rfl) ?_
                    refine x_gr C hTH139 (ci := 10) (k := 64) rfl inX10 (by decide) wF_X10_149 gb rg_112 rfl dX10_keepsTaps_118 (fun q142 eq142 gq142 => ?_)
                    refine lv_iload_n hx hb dX10_keepsTaps_121 rfl (lv_at hl129 0 rfl) ?_
                    refine lv_aload_n hx hb dX10_keepsTaps_122 rfl (lv_at hl129 1 rfl) ?_
                    refine lv_aload_n hx hb dX10_keepsTaps_123 rfl (lv_at hl129 1 rfl) ?_
                    refine x_gr C hTH139 (ci := 10) (k := 64) rfl inX10 (by decide) wF_X10_149 gb rg_112 rfl dX10_keepsTaps_124 (fun q143 eq143 gq143 => ?_)
                    have uq143 : q142 = q143 := (eq142).trans eq143.symm
                    subst uq143
                    refine lv_iload_n hx hb dX10_keepsTaps_127 rfl (lv_at hl129 0 rfl) ?_
                    refine x_ai C hTH139 gq142 rg_157 ⟨by omega, by show _ < ((8 : Nat) : Int); omega⟩ dX10_keepsTaps_128 (fun x144 ex144 bx144 => ?_)
                    refine x_V (As := [.int x144]) (rest := [.int x126, .ref q142]) C (f_X10_kept l K G H139 (x144) (x138) hTH139 gb m141 m140 (by omega)) yo_X10_kept wM_X10_473 ⟨⟨by decide, by decide⟩, by decide, by decide⟩ (x_rv C hTH139 (ci := 10) rfl gb rg_112) rfl hl129.1 rfl (Nat.le_of_ble_eq_true rfl) dX10_keepsTaps_129 hSH139 (AE_sub (fun _ _ => rfl) (by decide) hSH139.1) (fun vH145 H145 locsH145 pH145 zH145 kH145 hSH145 => ?_)
                    obtain ⟨hvH145, hTH145, iH145, x146, tx146, ex146⟩ := pH145
                    subst hvH145
                    refine W.eq (g2 := F0 m 132 ls128 [.int x144, .int x126, .ref q142]) rfl ?_
                    refine x_iast C hTH145 hSH145 gq142 rg_157 (by omega) (by show _ < ((8 : Nat) : Int); omega) ⟨by have := i_rng x144; omega, by have := i_rng x144; omega⟩ (AE_in gq142 (by decide)) dX10_keepsTaps_132 (fun H147 locsH147 hTH147 hSH147 wH147 => ?_)
                    have m148 := ex146.trans (Wr.neI wH147 (Or.inl (G_ne gb gq142 (by decide)))).symm
                    have m149 := (Wr.neI wH147 (Or.inl (G_ne gb gq142 (by decide)))).trans iH145
                    refine lv_aload_n hx hb dX10_keepsTaps_133 rfl (lv_at hl129 1 rfl) ?_
                    refine x_gr C hTH147 (ci := 10) (k := 66) rfl inX10 (by decide) wF_X10_152 gb rg_112 rfl dX10_keepsTaps_134 (fun q150 eq150 gq150 => ?_)
                    refine lv_iload_n hx hb dX10_keepsTaps_137 rfl (lv_at hl129 0 rfl) ?_
                    refine lv_aload_n hx hb dX10_keepsTaps_138 rfl (lv_at hl129 1 rfl) ?_
                    refine lv_aload_n hx hb dX10_keepsTaps_139 rfl (lv_at hl129 1 rfl) ?_
                    refine x_gr C hTH147 (ci := 10) (k := 66) rfl inX10 (by decide) wF_X10_152 gb rg_112 rfl dX10_keepsTaps_140 (fun q151 eq151 gq151 => ?_)
                    have uq151 : q150 = q151 := (eq150).trans eq151.symm
                    subst uq151
                    refine lv_iload_n hx hb dX10_keepsTaps_143 rfl (lv_at hl129 0 rfl) ?_
                    refine x_ai C hTH147 gq150 rg_158 ⟨by omega, by show _ < ((8 : Nat) : Int); omega⟩ dX10_keepsTaps_144 (fun x152 ex152 bx152 => ?_)
                    refine x_V (As := [.int x152]) (rest := [.int x126, .ref q150]) C (f_X10_kept l K G H147 (x152) (x146) hTH147 gb m149 m148 (by omega)) yo_X10_kept wM_X10_473 ⟨⟨by decide, by decide⟩, by decide, by decide⟩ (x_rv C hTH147 (ci := 10) rfl gb rg_112) rfl hl129.1 rfl (Nat.le_of_ble_eq_true rfl) dX10_keepsTaps_145 hSH147 (AE_sub (fun _ _ => rfl) (by decide) hSH147.1) (fun vH153 H153 locsH153 pH153 zH153 kH153 hSH153 => ?_)
                    obtain ⟨hvH153, hTH153, iH153, x154, tx154, ex154⟩ := pH153
                    subst hvH153
                    refine W.eq (g2 := F0 m 148 ls128 [.int x152, .int x126, .ref q150]) rfl ?_
                    refine x_iast C hTH153 hSH153 gq150 rg_158 (by omega) (by show _ < ((8 : Nat) : Int); omega) ⟨by have := i_rng x152; omega, by have := i_rng x152; omega⟩ (AE_in gq150 (by decide)) dX10_keepsTaps_148 (fun H155 locsH155 hTH155 hSH155 wH155 => ?_)
                    have m156 := ex154.trans (Wr.neI wH155 (Or.inl (G_ne gb gq150 (by decide)))).symm
                    have m157 := (Wr.neI wH155 (Or.inl (G_ne gb gq150 (by decide)))).trans iH153
                    refine lv_aload_n hx hb dX10_keepsTaps_149 rfl (lv_at hl129 1 rfl) ?_
                    refine x_gr C hTH155 (ci := 10) (k := 67) rfl inX10 (by decide) wF_X10_155 gb rg_112 rfl dX10_keepsTaps_150 (fun q158 eq158 gq158 => ?_)
                    refine lv_iload_n hx hb dX10_keepsTaps_153 rfl (lv_at hl129 0 rfl) ?_
                    refine lv_aload_n hx hb dX10_keepsTaps_154 rfl (lv_at hl129 1 rfl) ?_
                    refine lv_aload_n hx hb dX10_keepsTaps_155 rfl (lv_at hl129 1 rfl) ?_
                    refine x_gr C hTH155 (ci := 10) (k := 67) rfl inX10 (by decide) wF_X10_155 gb rg_112 rfl dX10_keepsTaps_156 (fun q159 eq159 gq159 => ?_)
                    have uq159 : q158 = q159 := (eq158).trans eq159.symm
                    subst uq159
                    refine lv_iload_n hx hb dX10_keepsTaps_159 rfl (lv_at hl129 0 rfl) ?_
                    refine x_ai C hTH155 gq158 rg_159 ⟨by omega, by show _ < ((8 : Nat) : Int); omega⟩ dX10_keepsTaps_160 (fun x160 ex160 bx160 => ?_)
                    refine x_V (As := [.int x160]) (rest := [.int x126, .ref q158]) C (f_X10_kept l K G H155 (x160) (x154) hTH155 gb m157 m156 (by omega)) yo_X10_kept wM_X10_473 ⟨⟨by decide, by decide⟩, by decide, by decide⟩ (x_rv C hTH155 (ci := 10) rfl gb rg_112) rfl hl129.1 rfl (Nat.le_of_ble_eq_true rfl) dX10_keepsTaps_161 hSH155 (AE_sub (fun _ _ => rfl) (by decide) hSH155.1) (fun vH161 H161 locsH161 pH161 zH161 kH161 hSH161 => ?_)
                    obtain ⟨hvH161, hTH161, iH161, x162, tx162, ex162⟩ := pH161
                    subst hvH161
                    refine W.eq (g2 := F0 m 164 ls128 [.int x160, .int x126, .ref q158]) rfl ?_
                    refine x_iast C hTH161 hSH161 gq158 rg_159 (by omega) (by show _ < ((8 : Nat) : Int); omega) ⟨by have := i_rng x160; omega, by have := i_rng x160; omega⟩ (AE_in gq158 (by decide)) dX10_keepsTaps_164 (fun H163 locsH163 hTH163 hSH163 wH163 => ?_)
                    have m164 := ex162.trans (Wr.neI wH163 (Or.inl (G_ne gb gq158 (by decide)))).symm
                    have m165 := (Wr.neI wH163 (Or.inl (G_ne gb gq158 (by decide)))).trans iH161
                    obtain ⟨x166, ex166⟩ : ∃ y : Int32, y = x126 + 1 := ⟨_, rfl⟩
                    have tx166 := i_add ex166 (by omega)
                    refine lv_iinc (v := x166) (lv' := [(1, .int x166), (0, .ref b)]) hx hb dX10_keepsTaps_165 hl129 (k := 0) rfl (by rw [ex166]; rfl) (by decide) rfl (fun ls167 hl168 => ?_)
                    refine lv_goto (tgt := 95) hx hb dX10_keepsTaps_168 (by decide) ?_
                    exact ihLp125 ls167 H163 locsH163 (x166) (x162) (lv_sub hl168 [0, 1] rfl) hTH163 hSH163 (by omega) m165 m164 (by omega) (by omega)
              exact Lp125 ((8 - (0 : Int32).toInt).toNat + 1) ls123 H116 locsH116 (0) (x120) (lv_sub hl124 [0, 1] rfl) hTH116 hSH116 (by omega) i119 ex120 (by omega) (by omega)
            · have k122 := i_nle c121
              refine lv_aload_n hx hb dX10_keepsTaps_55 rfl (lv_at hl118 1 rfl) ?_
              refine x_gr C hTH116 (ci := 10) (k := 53) rfl inX10 (by decide) wF_X10_125 gb rg_112 rfl dX10_keepsTaps_56 (fun q169 eq169 gq169 => ?_)
              refine lv_iload_n hx hb dX10_keepsTaps_59 rfl (lv_at hl118 0 rfl) ?_
              refine lv_aload_n hx hb dX10_keepsTaps_60 rfl (lv_at hl118 1 rfl) ?_
              refine lv_aload_n hx hb dX10_keepsTaps_61 rfl (lv_at hl118 1 rfl) ?_
              refine x_gr C hTH116 (ci := 10) (k := 53) rfl inX10 (by decide) wF_X10_125 gb rg_112 rfl dX10_keepsTaps_62 (fun q170 eq170 gq170 => ?_)
              have uq170 : q169 = q170 := (eq169).trans eq170.symm
              subst uq170
              refine lv_iload_n hx hb dX10_keepsTaps_65 rfl (lv_at hl118 0 rfl) ?_
              refine x_ai C hTH116 gq169 rg_149 ⟨by omega, by show _ < ((1920 : Nat) : Int); omega⟩ dX10_keepsTaps_66 (fun x171 ex171 bx171 => ?_)
              refine x_V (As := [.int x171]) (rest := [.int x115, .ref q169]) C (f_X10_kept l K G H116 (x171) (x120) hTH116 gb i119 ex120 (by omega)) yo_X10_kept wM_X10_473 ⟨⟨by decide, by decide⟩, by decide, by decide⟩ (x_rv C hTH116 (ci := 10) rfl gb rg_112) rfl hl118.1 rfl (Nat.le_of_ble_eq_true rfl) dX10_keepsTaps_67 hSH116 (AE_sub (fun _ _ => rfl) (by decide) hSH116.1) (fun vH172 H172 locsH172 pH172 zH172 kH172 hSH172 => ?_)
              obtain ⟨hvH172, hTH172, iH172, x173, tx173, ex173⟩ := pH172
              subst hvH172
              refine W.eq (g2 := F0 m 70 ls117 [.int x171, .int x115, .ref q169]) rfl ?_
              refine x_iast C hTH172 hSH172 gq169 rg_149 (by omega) (by show _ < ((1920 : Nat) : Int); omega) ⟨by have := i_rng x171; omega, by have := i_rng x171; omega⟩ (AE_in gq169 (by decide)) dX10_keepsTaps_70 (fun H174 locsH174 hTH174 hSH174 wH174 => ?_)
              have m175 := ex173.trans (Wr.neI wH174 (Or.inl (G_ne gb gq169 (by decide)))).symm
              have m176 := (Wr.neI wH174 (Or.inl (G_ne gb gq169 (by decide)))).trans iH172
              refine lv_aload_n hx hb dX10_keepsTaps_71 rfl (lv_at hl118 1 rfl) ?_
              refine x_gr C hTH174 (ci := 10) (k := 54) rfl inX10 (by decide) wF_X10_128 gb rg_112 rfl dX10_keepsTaps_72 (fun q177 eq177 gq177 => ?_)
              refine lv_iload_n hx hb dX10_keepsTaps_75 rfl (lv_at hl118 0 rfl) ?_
              refine lv_aload_n hx hb dX10_keepsTaps_76 rfl (lv_at hl118 1 rfl) ?_
              refine lv_aload_n hx hb dX10_keepsTaps_77 rfl (lv_at hl118 1 rfl) ?_
              refine x_gr C hTH174 (ci := 10) (k := 54) rfl inX10 (by decide) wF_X10_128 gb rg_112 rfl dX10_keepsTaps_78 (fun q178 eq178 gq178 => ?_)
              have uq178 : q177 = q178 := (eq177).trans eq178.symm
              subst uq178
              refine lv_iload_n hx hb dX10_keepsTaps_81 rfl (lv_at hl118 0 rfl) ?_
              refine x_ai C hTH174 gq177 rg_150 ⟨by omega, by show _ < ((1920 : Nat) : Int); omega⟩ dX10_keepsTaps_82 (fun x179 ex179 bx179 => ?_)
              refine x_V (As := [.int x179]) (rest := [.int x115, .ref q177]) C (f_X10_kept l K G H174 (x179) (x173) hTH174 gb m176 m175 (by omega)) yo_X10_kept wM_X10_473 ⟨⟨by decide, by decide⟩, by decide, by decide⟩ (x_rv C hTH174 (ci := 10) rfl gb rg_112) rfl hl118.1 rfl (Nat.le_of_ble_eq_true rfl) dX10_keepsTaps_83 hSH174 (AE_sub (fun _ _ => rfl) (by decide) hSH174.1) (fun vH180 H180 locsH180 pH180 zH180 kH180 hSH180 => ?_)
              obtain ⟨hvH180, hTH180, iH180, x181, tx181, ex181⟩ := pH180
              subst hvH180
              refine W.eq (g2 := F0 m 86 ls117 [.int x179, .int x115, .ref q177]) rfl ?_
              refine x_iast C hTH180 hSH180 gq177 rg_150 (by omega) (by show _ < ((1920 : Nat) : Int); omega) ⟨by have := i_rng x179; omega, by have := i_rng x179; omega⟩ (AE_in gq177 (by decide)) dX10_keepsTaps_86 (fun H182 locsH182 hTH182 hSH182 wH182 => ?_)
              have m183 := ex181.trans (Wr.neI wH182 (Or.inl (G_ne gb gq177 (by decide)))).symm
              have m184 := (Wr.neI wH182 (Or.inl (G_ne gb gq177 (by decide)))).trans iH180
              obtain ⟨x185, ex185⟩ : ∃ y : Int32, y = x115 + 1 := ⟨_, rfl⟩
              have tx185 := i_add ex185 (by omega)
              refine lv_iinc (v := x185) (lv' := [(1, .int x185), (0, .ref b)]) hx hb dX10_keepsTaps_87 hl118 (k := 0) rfl (by rw [ex185]; rfl) (by decide) rfl (fun ls186 hl187 => ?_)
              refine lv_goto (tgt := 48) hx hb dX10_keepsTaps_90 (by decide) ?_
              exact ihLp114 ls186 H182 locsH182 (x185) (x181) (lv_sub hl187 [0, 1] rfl) hTH182 hSH182 (by omega) m184 m183 (by omega) (by omega)
        exact Lp114 ((1920 - (0 : Int32).toInt).toNat + 1) ls112 H105 locsH105 (0) (x109) (lv_sub hl113 [0, 1] rfl) hTH105 hSH105 (by omega) i108 ex109 (by omega) (by omega)
      · have k111 := i_nle c110
        refine lv_aload_n hx hb dX10_keepsTaps_8 rfl (lv_at hl107 1 rfl) ?_
        refine x_gr C hTH105 (ci := 10) (k := 51) rfl inX10 (by decide) wF_X10_119 gb rg_112 rfl dX10_keepsTaps_9 (fun q188 eq188 gq188 => ?_)
        refine lv_iload_n hx hb dX10_keepsTaps_12 rfl (lv_at hl107 0 rfl) ?_
        refine lv_aload_n hx hb dX10_keepsTaps_13 rfl (lv_at hl107 1 rfl) ?_
        refine lv_aload_n hx hb dX10_keepsTaps_14 rfl (lv_at hl107 1 rfl) ?_
        refine x_gr C hTH105 (ci := 10) (k := 51) rfl inX10 (by decide) wF_X10_119 gb rg_112 rfl dX10_keepsTaps_15 (fun q189 eq189 gq189 => ?_)
        have uq189 : q188 = q189 := (eq188).trans eq189.symm
        subst uq189
        refine lv_iload_n hx hb dX10_keepsTaps_18 rfl (lv_at hl107 0 rfl) ?_
        refine x_ai C hTH105 gq188 rg_147 ⟨by omega, by show _ < ((120 : Nat) : Int); omega⟩ dX10_keepsTaps_19 (fun x190 ex190 bx190 => ?_)
        refine x_V (As := [.int x190]) (rest := [.int x104, .ref q188]) C (f_X10_kept l K G H105 (x190) (x109) hTH105 gb i108 ex109 (by omega)) yo_X10_kept wM_X10_473 ⟨⟨by decide, by decide⟩, by decide, by decide⟩ (x_rv C hTH105 (ci := 10) rfl gb rg_112) rfl hl107.1 rfl (Nat.le_of_ble_eq_true rfl) dX10_keepsTaps_20 hSH105 (AE_sub (fun _ _ => rfl) (by decide) hSH105.1) (fun vH191 H191 locsH191 pH191 zH191 kH191 hSH191 => ?_)
        obtain ⟨hvH191, hTH191, iH191, x192, tx192, ex192⟩ := pH191
        subst hvH191
        refine W.eq (g2 := F0 m 23 ls106 [.int x190, .int x104, .ref q188]) rfl ?_
        refine x_iast C hTH191 hSH191 gq188 rg_147 (by omega) (by show _ < ((120 : Nat) : Int); omega) ⟨by have := i_rng x190; omega, by have := i_rng x190; omega⟩ (AE_in gq188 (by decide)) dX10_keepsTaps_23 (fun H193 locsH193 hTH193 hSH193 wH193 => ?_)
        have m194 := ex192.trans (Wr.neI wH193 (Or.inl (G_ne gb gq188 (by decide)))).symm
        have m195 := (Wr.neI wH193 (Or.inl (G_ne gb gq188 (by decide)))).trans iH191
        refine lv_aload_n hx hb dX10_keepsTaps_24 rfl (lv_at hl107 1 rfl) ?_
        refine x_gr C hTH193 (ci := 10) (k := 52) rfl inX10 (by decide) wF_X10_122 gb rg_112 rfl dX10_keepsTaps_25 (fun q196 eq196 gq196 => ?_)
        refine lv_iload_n hx hb dX10_keepsTaps_28 rfl (lv_at hl107 0 rfl) ?_
        refine lv_aload_n hx hb dX10_keepsTaps_29 rfl (lv_at hl107 1 rfl) ?_
        refine lv_aload_n hx hb dX10_keepsTaps_30 rfl (lv_at hl107 1 rfl) ?_
        refine x_gr C hTH193 (ci := 10) (k := 52) rfl inX10 (by decide) wF_X10_122 gb rg_112 rfl dX10_keepsTaps_31 (fun q197 eq197 gq197 => ?_)
        have uq197 : q196 = q197 := (eq196).trans eq197.symm
        subst uq197
        refine lv_iload_n hx hb dX10_keepsTaps_34 rfl (lv_at hl107 0 rfl) ?_
        refine x_ai C hTH193 gq196 rg_148 ⟨by omega, by show _ < ((120 : Nat) : Int); omega⟩ dX10_keepsTaps_35 (fun x198 ex198 bx198 => ?_)
        refine x_V (As := [.int x198]) (rest := [.int x104, .ref q196]) C (f_X10_kept l K G H193 (x198) (x192) hTH193 gb m195 m194 (by omega)) yo_X10_kept wM_X10_473 ⟨⟨by decide, by decide⟩, by decide, by decide⟩ (x_rv C hTH193 (ci := 10) rfl gb rg_112) rfl hl107.1 rfl (Nat.le_of_ble_eq_true rfl) dX10_keepsTaps_36 hSH193 (AE_sub (fun _ _ => rfl) (by decide) hSH193.1) (fun vH199 H199 locsH199 pH199 zH199 kH199 hSH199 => ?_)
        obtain ⟨hvH199, hTH199, iH199, x200, tx200, ex200⟩ := pH199
        subst hvH199
        refine W.eq (g2 := F0 m 39 ls106 [.int x198, .int x104, .ref q196]) rfl ?_
        refine x_iast C hTH199 hSH199 gq196 rg_148 (by omega) (by show _ < ((120 : Nat) : Int); omega) ⟨by have := i_rng x198; omega, by have := i_rng x198; omega⟩ (AE_in gq196 (by decide)) dX10_keepsTaps_39 (fun H201 locsH201 hTH201 hSH201 wH201 => ?_)
        have m202 := ex200.trans (Wr.neI wH201 (Or.inl (G_ne gb gq196 (by decide)))).symm
        have m203 := (Wr.neI wH201 (Or.inl (G_ne gb gq196 (by decide)))).trans iH199
        obtain ⟨x204, ex204⟩ : ∃ y : Int32, y = x104 + 1 := ⟨_, rfl⟩
        have tx204 := i_add ex204 (by omega)
        refine lv_iinc (v := x204) (lv' := [(1, .int x204), (0, .ref b)]) hx hb dX10_keepsTaps_40 hl107 (k := 0) rfl (by rw [ex204]; rfl) (by decide) rfl (fun ls205 hl206 => ?_)
        refine lv_goto (tgt := 2) hx hb dX10_keepsTaps_43 (by decide) ?_
        exact ihLp103 ls205 H201 locsH201 (x204) (x200) (lv_sub hl206 [0, 1] rfl) hTH201 hSH201 (by omega) m203 m202 (by omega) (by omega)
  exact Lp103 ((120 - (0 : Int32).toInt).toNat + 1) ls101 s.heap [] (0) (T) (lv_sub hl102 [0, 1] rfl) hT hS (by omega) h1 hk (by omega) (by omega)

set_option maxHeartbeats 4000000 in
set_option maxRecDepth 100000 in
theorem f_X10_keepsTexts (l : Launch) (K : KE) (G : Nat → Option Nat) (H : Heap) {b : Nat} (T : Int32) (hT : TY K G H) (gb : G b = some 112) (h1 : fI H b (K.1.2 10 71) = 1) (hk : T = fI H b (K.1.2 10 72)) (h2 : T.toInt = 8908) : MX l K yX10_keepsTexts cX10_keepsTexts 2 none 1 21 0 0 [.ref b] H (AE G [112, 162, 128, 129, 130, 131, 132, 133, 134, 135, 136, 137] H.size) (fun v H1 => v = none ∧ TY K G H1 ∧ fI H1 b (K.1.2 10 71) = 1 ∧ ∃ T2 : Int32, T2.toInt = 15586 ∧ T2 = fI H1 b (K.1.2 10 72)) := by
  refine MX.of (by decide +kernel) (Nat.le_of_ble_eq_true rfl) ?_
  intro p e s m below meth c ls Q C hH hl hQ
  subst hH
  have C : CX p K s m _ meth c RX10 cX10_keepsTexts 2 none "keepsTexts" := C
  obtain ⟨hx, hb, hml, hown, hts, hKT, hr, hlocks, hnm⟩ := id C
  have hl : lv_has ls 2 [(0, .ref b)] := hl
  have hS : va_S (AE G [112, 162, 128, 129, 130, 131, 132, 133, 134, 135, 136, 137] s.heap.size) s.heap s.heap [] := va_S.rf
  have n_0 : (0 : Int32).toInt = 0 := rfl
  have n_1 : (1 : Int32).toInt = 1 := rfl
  have n_6 : (6 : Int32).toInt = 6 := rfl
  have n_96 : (96 : Int32).toInt = 96 := rfl
  have n_3000 : (3000 : Int32).toInt = 3000 := rfl
  refine lv_iconst (v := 0) hx hb dX10_keepsTexts_0 (by decide) ?_
  refine lv_istore_n (lv' := [(1, .int 0), (0, .ref b)]) hx hb dX10_keepsTexts_1 rfl hl (by decide) rfl (fun ls101 hl102 => ?_)
  have Lp103 : ∀ (nf : Nat) (ls106 : Array Slot) (H105 : Heap) (locsH105 : List Loc) (x104 : Int32) (x109 : Int32), lv_has ls106 2 [(1, .int x104), (0, .ref b)] → TY K G H105 → va_S (AE G [112, 162, 128, 129, 130, 131, 132, 133, 134, 135, 136, 137] s.heap.size) s.heap H105 locsH105 → (0 ≤ x104.toInt ∧ x104.toInt ≤ 6) → (fI H105 b (K.1.2 10 71) = 1) → (x109 = fI H105 b (K.1.2 10 72)) → (x109.toInt = 8908 + 1 * x104.toInt) → (6 - x104.toInt < (nf : Int)) → W p l e ({ frames := 1, cells := 0, slots := 0, locals := 21 } : Room) s m (([.ref b] : List Value).toArray) below meth c H105 locsH105 0 0 Q (F0 m 2 ls106 []) := by
    intro nf
    induction nf with
    | zero =>
      intro ls106 H105 locsH105 x104 x109 hl107 hTH105 hSH105 bx104 i108 ex109 tx109 hmLp103
      exfalso
      omega
    | succ nf ihLp103 =>
      intro ls106 H105 locsH105 x104 x109 hl107 hTH105 hSH105 bx104 i108 ex109 tx109 hmLp103
      refine lv_iload_n hx hb dX10_keepsTexts_2 rfl (lv_at hl107 0 rfl) ?_
      refine lv_bipush (v := 6) hx hb dX10_keepsTexts_3 (by decide) ?_
      refine lv_icmp_ge (tgt := 30) hx hb dX10_keepsTexts_5 (by decide) (fun c110 => ?_) (fun c110 => ?_)
      · have k111 := i_le c110
        refine lv_iconst (v := 0) hx hb dX10_keepsTexts_30 (by decide) ?_
        refine lv_istore_n (lv' := [(1, .int 0), (0, .ref b)]) hx hb dX10_keepsTexts_31 rfl hl107 (by decide) rfl (fun ls112 hl113 => ?_)
        have Lp114 : ∀ (nf : Nat) (ls117 : Array Slot) (H116 : Heap) (locsH116 : List Loc) (x115 : Int32) (x120 : Int32), lv_has ls117 2 [(1, .int x115), (0, .ref b)] → TY K G H116 → va_S (AE G [112, 162, 128, 129, 130, 131, 132, 133, 134, 135, 136, 137] s.heap.size) s.heap H116 locsH116 → (0 ≤ x115.toInt ∧ x115.toInt ≤ 96) → (fI H116 b (K.1.2 10 71) = 1) → (x120 = fI H116 b (K.1.2 10 72)) → (x120.toInt = 8914 + 7 * x115.toInt) → (96 - x115.toInt < (nf : Int)) → W p l e ({ frames := 1, cells := 0, slots := 0, locals := 21 } : Room) s m (([.ref b] : List Value).toArray) below meth c H116 locsH116 0 0 Q (F0 m 32 ls117 []) := by
          intro nf
          induction nf with
          | zero =>
            intro ls117 H116 locsH116 x115 x120 hl118 hTH116 hSH116 bx115 i119 ex120 tx120 hmLp114
            exfalso
            omega
          | succ nf ihLp114 =>
            intro ls117 H116 locsH116 x115 x120 hl118 hTH116 hSH116 bx115 i119 ex120 tx120 hmLp114
            refine lv_iload_n hx hb dX10_keepsTexts_32 rfl (lv_at hl118 0 rfl) ?_
            refine lv_bipush (v := 96) hx hb dX10_keepsTexts_33 (by decide) ?_
            refine lv_icmp_ge (tgt := 156) hx hb dX10_keepsTexts_35 (by decide) (fun c121 => ?_) (fun c121 => ?_)
            · have k122 := i_le c121
              refine lv_iconst (v := 0) hx hb dX10_keepsTexts_156 (by decide) ?_
              refine lv_istore_n (lv' := [(1, .int 0), (0, .ref b)]) hx hb dX10_keepsTexts_157 rfl hl118 (by decide) rfl (fun ls123 hl124 => ?_)
              have Lp125 : ∀ (nf : Nat) (ls128 : Array Slot) (H127 : Heap) (locsH127 : List Loc) (x126 : Int32) (x131 : Int32), lv_has ls128 2 [(1, .int x126), (0, .ref b)] → TY K G H127 → va_S (AE G [112, 162, 128, 129, 130, 131, 132, 133, 134, 135, 136, 137] s.heap.size) s.heap H127 locsH127 → (0 ≤ x126.toInt ∧ x126.toInt ≤ 3000) → (fI H127 b (K.1.2 10 71) = 1) → (x131 = fI H127 b (K.1.2 10 72)) → (x131.toInt = 9586 + 2 * x126.toInt) → (3000 - x126.toInt < (nf : Int)) → W p l e ({ frames := 1, cells := 0, slots := 0, locals := 21 } : Room) s m (([.ref b] : List Value).toArray) below meth c H127 locsH127 0 0 Q (F0 m 158 ls128 []) := by
                intro nf
                induction nf with
                | zero =>
                  intro ls128 H127 locsH127 x126 x131 hl129 hTH127 hSH127 bx126 i130 ex131 tx131 hmLp125
                  exfalso
                  omega
                | succ nf ihLp125 =>
                  intro ls128 H127 locsH127 x126 x131 hl129 hTH127 hSH127 bx126 i130 ex131 tx131 hmLp125
                  refine lv_iload_n hx hb dX10_keepsTexts_158 rfl (lv_at hl129 0 rfl) ?_
                  refine lv_sipush (v := 3000) hx hb dX10_keepsTexts_159 (by decide) ?_
                  refine lv_icmp_ge (tgt := 203) hx hb dX10_keepsTexts_162 (by decide) (fun c132 => ?_) (fun c132 => ?_)
                  · have k133 := i_le c132
                    exact x_vret C hQ dX10_keepsTexts_203 hSH127 (by decide) (by decide) (⟨rfl, hTH127, i130, x131, by omega, ex131⟩)
                  · have k133 := i_nle c132
                    refine lv_aload_n hx hb dX10_keepsTexts_165 rfl (lv_at hl129 1 rfl) ?_
                    refine x_gr C hTH127 (ci := 10) (k := 32) rfl inX10 (by decide) wF_X10_83 gb rg_112 rfl dX10_keepsTexts_166 (fun q134 eq134 gq134 => ?_)
                    refine lv_iload_n hx hb dX10_keepsTexts_169 rfl (lv_at hl129 0 rfl) ?_
                    refine lv_aload_n hx hb dX10_keepsTexts_170 rfl (lv_at hl129 1 rfl) ?_
                    refine lv_aload_n hx hb dX10_keepsTexts_171 rfl (lv_at hl129 1 rfl) ?_
                    refine x_gr C hTH127 (ci := 10) (k := 32) rfl inX10 (by decide) wF_X10_83 gb rg_112 rfl dX10_keepsTexts_172 (fun q135 eq135 gq135 => ?_)
                    have uq135 : q134 = q135 := (eq134).trans eq135.symm
                    subst uq135
                    refine lv_iload_n hx hb dX10_keepsTexts_175 rfl (lv_at hl129 0 rfl) ?_
                    refine x_ai C hTH127 gq134 rg_136 ⟨by omega, by show _ < ((3500 : Nat) : Int); omega⟩ dX10_keepsTexts_176 (fun x136 ex136 bx136 => ?_)
                    refine x_V (As := [.int x136]) (rest := [.int x126, .ref q134]) C (f_X10_kept l K G H127 (x136) (x131) hTH127 gb i130 ex131 (by omega)) yo_X10_kept wM_X10_473 ⟨⟨by decide, by decide⟩, by decide, by decide⟩ (x_rv C hTH127 (ci := 10) rfl gb rg_112) rfl hl129.1 rfl (Nat.le_of_ble_eq_true rfl) dX10_keepsTexts_177 hSH127 (AE_sub (fun _ _ => rfl) (by decide) hSH127.1) (fun vH137 H137 locsH137 pH137 zH137 kH137 hSH137 => ?_)
                    obtain ⟨hvH137, hTH137, iH137, x138, tx138, ex138⟩ := pH137
                    subst hvH137
                    refine W.eq (g2 := F0 m 180 ls128 [.int x136, .int x126, .ref q134]) rfl ?_
                    refine x_iast C hTH137 hSH137 gq134 rg_136 (by omega) (by show _ < ((3500 : Nat) : Int); omega) ⟨by have := i_rng x136; omega, by have := i_rng x136; omega⟩ (AE_in gq134 (by decide)) dX10_keepsTexts_180 (fun H139 locsH139 hTH139 hSH139 wH139 => ?_)
                    have m140 := ex138.trans (Wr.neI wH139 (Or.inl (G_ne gb gq134 (by decide)))).symm
                    have m141 := (Wr.neI wH139 (Or.inl (G_ne gb gq134 (by decide)))).trans iH137
                    refine lv_aload_n hx hb dX10_keepsTexts_181 rfl (lv_at hl129 1 rfl) ?_
                    refine x_gr C hTH139 (ci := 10) (k := 33) rfl inX10 (by decide) wF_X10_86 gb rg_112 rfl dX10_keepsTexts_182 (fun q142 eq142 gq142 => ?_)
                    refine lv_iload_n hx hb dX10_keepsTexts_185 rfl (lv_at hl129 0 rfl) ?_
                    refine lv_aload_n hx hb dX10_keepsTexts_186 rfl (lv_at hl129 1 rfl) ?_
                    refine lv_aload_n hx hb dX10_keepsTexts_187 rfl (lv_at hl129 1 rfl) ?_
                    refine x_gr C hTH139 (ci := 10) (k := 33) rfl inX10 (by decide) wF_X10_86 gb rg_112 rfl dX10_keepsTexts_188 (fun q143 eq143 gq143 => ?_)
                    have uq143 : q142 = q143 := (eq142).trans eq143.symm
                    subst uq143
                    refine lv_iload_n hx hb dX10_keepsTexts_191 rfl (lv_at hl129 0 rfl) ?_
                    refine x_ai C hTH139 gq142 rg_137 ⟨by omega, by show _ < ((3500 : Nat) : Int); omega⟩ dX10_keepsTexts_192 (fun x144 ex144 bx144 => ?_)
                    refine x_V (As := [.int x144]) (rest := [.int x126, .ref q142]) C (f_X10_kept l K G H139 (x144) (x138) hTH139 gb m141 m140 (by omega)) yo_X10_kept wM_X10_473 ⟨⟨by decide, by decide⟩, by decide, by decide⟩ (x_rv C hTH139 (ci := 10) rfl gb rg_112) rfl hl129.1 rfl (Nat.le_of_ble_eq_true rfl) dX10_keepsTexts_193 hSH139 (AE_sub (fun _ _ => rfl) (by decide) hSH139.1) (fun vH145 H145 locsH145 pH145 zH145 kH145 hSH145 => ?_)
                    obtain ⟨hvH145, hTH145, iH145, x146, tx146, ex146⟩ := pH145
                    subst hvH145
                    refine W.eq (g2 := F0 m 196 ls128 [.int x144, .int x126, .ref q142]) rfl ?_
                    refine x_iast C hTH145 hSH145 gq142 rg_137 (by omega) (by show _ < ((3500 : Nat) : Int); omega) ⟨by have := i_rng x144; omega, by have := i_rng x144; omega⟩ (AE_in gq142 (by decide)) dX10_keepsTexts_196 (fun H147 locsH147 hTH147 hSH147 wH147 => ?_)
                    have m148 := ex146.trans (Wr.neI wH147 (Or.inl (G_ne gb gq142 (by decide)))).symm
                    have m149 := (Wr.neI wH147 (Or.inl (G_ne gb gq142 (by decide)))).trans iH145
                    obtain ⟨x150, ex150⟩ : ∃ y : Int32, y = x126 + 1 := ⟨_, rfl⟩
                    have tx150 := i_add ex150 (by omega)
                    refine lv_iinc (v := x150) (lv' := [(1, .int x150), (0, .ref b)]) hx hb dX10_keepsTexts_197 hl129 (k := 0) rfl (by rw [ex150]; rfl) (by decide) rfl (fun ls151 hl152 => ?_)
                    refine lv_goto (tgt := 158) hx hb dX10_keepsTexts_200 (by decide) ?_
                    exact ihLp125 ls151 H147 locsH147 (x150) (x146) (lv_sub hl152 [0, 1] rfl) hTH147 hSH147 (by omega) m149 m148 (by omega) (by omega)
              exact Lp125 ((3000 - (0 : Int32).toInt).toNat + 1) ls123 H116 locsH116 (0) (x120) (lv_sub hl124 [0, 1] rfl) hTH116 hSH116 (by omega) i119 ex120 (by omega) (by omega)
            · have k122 := i_nle c121
              refine lv_aload_n hx hb dX10_keepsTexts_38 rfl (lv_at hl118 1 rfl) ?_
              refine x_gr C hTH116 (ci := 10) (k := 25) rfl inX10 (by decide) wF_X10_62 gb rg_112 rfl dX10_keepsTexts_39 (fun q153 eq153 gq153 => ?_)
              refine lv_iload_n hx hb dX10_keepsTexts_42 rfl (lv_at hl118 0 rfl) ?_
              refine lv_aload_n hx hb dX10_keepsTexts_43 rfl (lv_at hl118 1 rfl) ?_
              refine lv_aload_n hx hb dX10_keepsTexts_44 rfl (lv_at hl118 1 rfl) ?_
              refine x_gr C hTH116 (ci := 10) (k := 25) rfl inX10 (by decide) wF_X10_62 gb rg_112 rfl dX10_keepsTexts_45 (fun q154 eq154 gq154 => ?_)
              have uq154 : q153 = q154 := (eq153).trans eq154.symm
              subst uq154
              refine lv_iload_n hx hb dX10_keepsTexts_48 rfl (lv_at hl118 0 rfl) ?_
              refine x_ai C hTH116 gq153 rg_129 ⟨by omega, by show _ < ((112 : Nat) : Int); omega⟩ dX10_keepsTexts_49 (fun x155 ex155 bx155 => ?_)
              refine x_V (As := [.int x155]) (rest := [.int x115, .ref q153]) C (f_X10_kept l K G H116 (x155) (x120) hTH116 gb i119 ex120 (by omega)) yo_X10_kept wM_X10_473 ⟨⟨by decide, by decide⟩, by decide, by decide⟩ (x_rv C hTH116 (ci := 10) rfl gb rg_112) rfl hl118.1 rfl (Nat.le_of_ble_eq_true rfl) dX10_keepsTexts_50 hSH116 (AE_sub (fun _ _ => rfl) (by decide) hSH116.1) (fun vH156 H156 locsH156 pH156 zH156 kH156 hSH156 => ?_)
              obtain ⟨hvH156, hTH156, iH156, x157, tx157, ex157⟩ := pH156
              subst hvH156
              refine W.eq (g2 := F0 m 53 ls117 [.int x155, .int x115, .ref q153]) rfl ?_
              refine x_iast C hTH156 hSH156 gq153 rg_129 (by omega) (by show _ < ((112 : Nat) : Int); omega) ⟨by have := i_rng x155; omega, by have := i_rng x155; omega⟩ (AE_in gq153 (by decide)) dX10_keepsTexts_53 (fun H158 locsH158 hTH158 hSH158 wH158 => ?_)
              have m159 := ex157.trans (Wr.neI wH158 (Or.inl (G_ne gb gq153 (by decide)))).symm
              have m160 := (Wr.neI wH158 (Or.inl (G_ne gb gq153 (by decide)))).trans iH156
              refine lv_aload_n hx hb dX10_keepsTexts_54 rfl (lv_at hl118 1 rfl) ?_
              refine x_gr C hTH158 (ci := 10) (k := 26) rfl inX10 (by decide) wF_X10_65 gb rg_112 rfl dX10_keepsTexts_55 (fun q161 eq161 gq161 => ?_)
              refine lv_iload_n hx hb dX10_keepsTexts_58 rfl (lv_at hl118 0 rfl) ?_
              refine lv_aload_n hx hb dX10_keepsTexts_59 rfl (lv_at hl118 1 rfl) ?_
              refine lv_aload_n hx hb dX10_keepsTexts_60 rfl (lv_at hl118 1 rfl) ?_
              refine x_gr C hTH158 (ci := 10) (k := 26) rfl inX10 (by decide) wF_X10_65 gb rg_112 rfl dX10_keepsTexts_61 (fun q162 eq162 gq162 => ?_)
              have uq162 : q161 = q162 := (eq161).trans eq162.symm
              subst uq162
              refine lv_iload_n hx hb dX10_keepsTexts_64 rfl (lv_at hl118 0 rfl) ?_
              refine x_ai C hTH158 gq161 rg_130 ⟨by omega, by show _ < ((112 : Nat) : Int); omega⟩ dX10_keepsTexts_65 (fun x163 ex163 bx163 => ?_)
              refine x_V (As := [.int x163]) (rest := [.int x115, .ref q161]) C (f_X10_kept l K G H158 (x163) (x157) hTH158 gb m160 m159 (by omega)) yo_X10_kept wM_X10_473 ⟨⟨by decide, by decide⟩, by decide, by decide⟩ (x_rv C hTH158 (ci := 10) rfl gb rg_112) rfl hl118.1 rfl (Nat.le_of_ble_eq_true rfl) dX10_keepsTexts_66 hSH158 (AE_sub (fun _ _ => rfl) (by decide) hSH158.1) (fun vH164 H164 locsH164 pH164 zH164 kH164 hSH164 => ?_)
              obtain ⟨hvH164, hTH164, iH164, x165, tx165, ex165⟩ := pH164
              subst hvH164
              refine W.eq (g2 := F0 m 69 ls117 [.int x163, .int x115, .ref q161]) rfl ?_
              refine x_iast C hTH164 hSH164 gq161 rg_130 (by omega) (by show _ < ((112 : Nat) : Int); omega) ⟨by have := i_rng x163; omega, by have := i_rng x163; omega⟩ (AE_in gq161 (by decide)) dX10_keepsTexts_69 (fun H166 locsH166 hTH166 hSH166 wH166 => ?_)
              have m167 := ex165.trans (Wr.neI wH166 (Or.inl (G_ne gb gq161 (by decide)))).symm
              have m168 := (Wr.neI wH166 (Or.inl (G_ne gb gq161 (by decide)))).trans iH164
              refine lv_aload_n hx hb dX10_keepsTexts_70 rfl (lv_at hl118 1 rfl) ?_
              refine x_gr C hTH166 (ci := 10) (k := 27) rfl inX10 (by decide) wF_X10_68 gb rg_112 rfl dX10_keepsTexts_71 (fun q169 eq169 gq169 => ?_)
              refine lv_iload_n hx hb dX10_keepsTexts_74 rfl (lv_at hl118 0 rfl) ?_
              refine lv_aload_n hx hb dX10_keepsTexts_75 rfl (lv_at hl118 1 rfl) ?_
              refine lv_aload_n hx hb dX10_keepsTexts_76 rfl (lv_at hl118 1 rfl) ?_
              refine x_gr C hTH166 (ci := 10) (k := 27) rfl inX10 (by decide) wF_X10_68 gb rg_112 rfl dX10_keepsTexts_77 (fun q170 eq170 gq170 => ?_)
              have uq170 : q169 = q170 := (eq169).trans eq170.symm
              subst uq170
              refine lv_iload_n hx hb dX10_keepsTexts_80 rfl (lv_at hl118 0 rfl) ?_
              refine x_ai C hTH166 gq169 rg_131 ⟨by omega, by show _ < ((112 : Nat) : Int); omega⟩ dX10_keepsTexts_81 (fun x171 ex171 bx171 => ?_)
              refine x_V (As := [.int x171]) (rest := [.int x115, .ref q169]) C (f_X10_kept l K G H166 (x171) (x165) hTH166 gb m168 m167 (by omega)) yo_X10_kept wM_X10_473 ⟨⟨by decide, by decide⟩, by decide, by decide⟩ (x_rv C hTH166 (ci := 10) rfl gb rg_112) rfl hl118.1 rfl (Nat.le_of_ble_eq_true rfl) dX10_keepsTexts_82 hSH166 (AE_sub (fun _ _ => rfl) (by decide) hSH166.1) (fun vH172 H172 locsH172 pH172 zH172 kH172 hSH172 => ?_)
              obtain ⟨hvH172, hTH172, iH172, x173, tx173, ex173⟩ := pH172
              subst hvH172
              refine W.eq (g2 := F0 m 85 ls117 [.int x171, .int x115, .ref q169]) rfl ?_
              refine x_iast C hTH172 hSH172 gq169 rg_131 (by omega) (by show _ < ((112 : Nat) : Int); omega) ⟨by have := i_rng x171; omega, by have := i_rng x171; omega⟩ (AE_in gq169 (by decide)) dX10_keepsTexts_85 (fun H174 locsH174 hTH174 hSH174 wH174 => ?_)
              have m175 := ex173.trans (Wr.neI wH174 (Or.inl (G_ne gb gq169 (by decide)))).symm
              have m176 := (Wr.neI wH174 (Or.inl (G_ne gb gq169 (by decide)))).trans iH172
              refine lv_aload_n hx hb dX10_keepsTexts_86 rfl (lv_at hl118 1 rfl) ?_
              refine x_gr C hTH174 (ci := 10) (k := 28) rfl inX10 (by decide) wF_X10_71 gb rg_112 rfl dX10_keepsTexts_87 (fun q177 eq177 gq177 => ?_)
              refine lv_iload_n hx hb dX10_keepsTexts_90 rfl (lv_at hl118 0 rfl) ?_
              refine lv_aload_n hx hb dX10_keepsTexts_91 rfl (lv_at hl118 1 rfl) ?_
              refine lv_aload_n hx hb dX10_keepsTexts_92 rfl (lv_at hl118 1 rfl) ?_
              refine x_gr C hTH174 (ci := 10) (k := 28) rfl inX10 (by decide) wF_X10_71 gb rg_112 rfl dX10_keepsTexts_93 (fun q178 eq178 gq178 => ?_)
              have uq178 : q177 = q178 := (eq177).trans eq178.symm
              subst uq178
              refine lv_iload_n hx hb dX10_keepsTexts_96 rfl (lv_at hl118 0 rfl) ?_
              refine x_ai C hTH174 gq177 rg_132 ⟨by omega, by show _ < ((112 : Nat) : Int); omega⟩ dX10_keepsTexts_97 (fun x179 ex179 bx179 => ?_)
              refine x_V (As := [.int x179]) (rest := [.int x115, .ref q177]) C (f_X10_kept l K G H174 (x179) (x173) hTH174 gb m176 m175 (by omega)) yo_X10_kept wM_X10_473 ⟨⟨by decide, by decide⟩, by decide, by decide⟩ (x_rv C hTH174 (ci := 10) rfl gb rg_112) rfl hl118.1 rfl (Nat.le_of_ble_eq_true rfl) dX10_keepsTexts_98 hSH174 (AE_sub (fun _ _ => rfl) (by decide) hSH174.1) (fun vH180 H180 locsH180 pH180 zH180 kH180 hSH180 => ?_)
              obtain ⟨hvH180, hTH180, iH180, x181, tx181, ex181⟩ := pH180
              subst hvH180
              refine W.eq (g2 := F0 m 101 ls117 [.int x179, .int x115, .ref q177]) rfl ?_
              refine x_iast C hTH180 hSH180 gq177 rg_132 (by omega) (by show _ < ((112 : Nat) : Int); omega) ⟨by have := i_rng x179; omega, by have := i_rng x179; omega⟩ (AE_in gq177 (by decide)) dX10_keepsTexts_101 (fun H182 locsH182 hTH182 hSH182 wH182 => ?_)
              have m183 := ex181.trans (Wr.neI wH182 (Or.inl (G_ne gb gq177 (by decide)))).symm
              have m184 := (Wr.neI wH182 (Or.inl (G_ne gb gq177 (by decide)))).trans iH180
              refine lv_aload_n hx hb dX10_keepsTexts_102 rfl (lv_at hl118 1 rfl) ?_
              refine x_gr C hTH182 (ci := 10) (k := 29) rfl inX10 (by decide) wF_X10_74 gb rg_112 rfl dX10_keepsTexts_103 (fun q185 eq185 gq185 => ?_)
              refine lv_iload_n hx hb dX10_keepsTexts_106 rfl (lv_at hl118 0 rfl) ?_
              refine lv_aload_n hx hb dX10_keepsTexts_107 rfl (lv_at hl118 1 rfl) ?_
              refine lv_aload_n hx hb dX10_keepsTexts_108 rfl (lv_at hl118 1 rfl) ?_
              refine x_gr C hTH182 (ci := 10) (k := 29) rfl inX10 (by decide) wF_X10_74 gb rg_112 rfl dX10_keepsTexts_109 (fun q186 eq186 gq186 => ?_)
              have uq186 : q185 = q186 := (eq185).trans eq186.symm
              subst uq186
              refine lv_iload_n hx hb dX10_keepsTexts_112 rfl (lv_at hl118 0 rfl) ?_
              refine x_ai C hTH182 gq185 rg_133 ⟨by omega, by show _ < ((112 : Nat) : Int); omega⟩ dX10_keepsTexts_113 (fun x187 ex187 bx187 => ?_)
              refine x_V (As := [.int x187]) (rest := [.int x115, .ref q185]) C (f_X10_kept l K G H182 (x187) (x181) hTH182 gb m184 m183 (by omega)) yo_X10_kept wM_X10_473 ⟨⟨by decide, by decide⟩, by decide, by decide⟩ (x_rv C hTH182 (ci := 10) rfl gb rg_112) rfl hl118.1 rfl (Nat.le_of_ble_eq_true rfl) dX10_keepsTexts_114 hSH182 (AE_sub (fun _ _ => rfl) (by decide) hSH182.1) (fun vH188 H188 locsH188 pH188 zH188 kH188 hSH188 => ?_)
              obtain ⟨hvH188, hTH188, iH188, x189, tx189, ex189⟩ := pH188
              subst hvH188
              refine W.eq (g2 := F0 m 117 ls117 [.int x187, .int x115, .ref q185]) rfl ?_
              refine x_iast C hTH188 hSH188 gq185 rg_133 (by omega) (by show _ < ((112 : Nat) : Int); omega) ⟨by have := i_rng x187; omega, by have := i_rng x187; omega⟩ (AE_in gq185 (by decide)) dX10_keepsTexts_117 (fun H190 locsH190 hTH190 hSH190 wH190 => ?_)
              have m191 := ex189.trans (Wr.neI wH190 (Or.inl (G_ne gb gq185 (by decide)))).symm
              have m192 := (Wr.neI wH190 (Or.inl (G_ne gb gq185 (by decide)))).trans iH188
              refine lv_aload_n hx hb dX10_keepsTexts_118 rfl (lv_at hl118 1 rfl) ?_
              refine x_gr C hTH190 (ci := 10) (k := 30) rfl inX10 (by decide) wF_X10_77 gb rg_112 rfl dX10_keepsTexts_119 (fun q193 eq193 gq193 => ?_)
              refine lv_iload_n hx hb dX10_keepsTexts_122 rfl (lv_at hl118 0 rfl) ?_
              refine lv_aload_n hx hb dX10_keepsTexts_123 rfl (lv_at hl118 1 rfl) ?_
              refine lv_aload_n hx hb dX10_keepsTexts_124 rfl (lv_at hl118 1 rfl) ?_
              refine x_gr C hTH190 (ci := 10) (k := 30) rfl inX10 (by decide) wF_X10_77 gb rg_112 rfl dX10_keepsTexts_125 (fun q194 eq194 gq194 => ?_)
              have uq194 : q193 = q194 := (eq193).trans eq194.symm
              subst uq194
              refine lv_iload_n hx hb dX10_keepsTexts_128 rfl (lv_at hl118 0 rfl) ?_
              refine x_ai C hTH190 gq193 rg_134 ⟨by omega, by show _ < ((112 : Nat) : Int); omega⟩ dX10_keepsTexts_129 (fun x195 ex195 bx195 => ?_)
              refine x_V (As := [.int x195]) (rest := [.int x115, .ref q193]) C (f_X10_kept l K G H190 (x195) (x189) hTH190 gb m192 m191 (by omega)) yo_X10_kept wM_X10_473 ⟨⟨by decide, by decide⟩, by decide, by decide⟩ (x_rv C hTH190 (ci := 10) rfl gb rg_112) rfl hl118.1 rfl (Nat.le_of_ble_eq_true rfl) dX10_keepsTexts_130 hSH190 (AE_sub (fun _ _ => rfl) (by decide) hSH190.1) (fun vH196 H196 locsH196 pH196 zH196 kH196 hSH196 => ?_)
              obtain ⟨hvH196, hTH196, iH196, x197, tx197, ex197⟩ := pH196
              subst hvH196
              refine W.eq (g2 := F0 m 133 ls117 [.int x195, .int x115, .ref q193]) rfl ?_
              refine x_iast C hTH196 hSH196 gq193 rg_134 (by omega) (by show _ < ((112 : Nat) : Int); omega) ⟨by have := i_rng x195; omega, by have := i_rng x195; omega⟩ (AE_in gq193 (by decide)) dX10_keepsTexts_133 (fun H198 locsH198 hTH198 hSH198 wH198 => ?_)
              have m199 := ex197.trans (Wr.neI wH198 (Or.inl (G_ne gb gq193 (by decide)))).symm
              have m200 := (Wr.neI wH198 (Or.inl (G_ne gb gq193 (by decide)))).trans iH196
              refine lv_aload_n hx hb dX10_keepsTexts_134 rfl (lv_at hl118 1 rfl) ?_
              refine x_gr C hTH198 (ci := 10) (k := 31) rfl inX10 (by decide) wF_X10_80 gb rg_112 rfl dX10_keepsTexts_135 (fun q201 eq201 gq201 => ?_)
              refine lv_iload_n hx hb dX10_keepsTexts_138 rfl (lv_at hl118 0 rfl) ?_
              refine lv_aload_n hx hb dX10_keepsTexts_139 rfl (lv_at hl118 1 rfl) ?_
              refine lv_aload_n hx hb dX10_keepsTexts_140 rfl (lv_at hl118 1 rfl) ?_
              refine x_gr C hTH198 (ci := 10) (k := 31) rfl inX10 (by decide) wF_X10_80 gb rg_112 rfl dX10_keepsTexts_141 (fun q202 eq202 gq202 => ?_)
              have uq202 : q201 = q202 := (eq201).trans eq202.symm
              subst uq202
              refine lv_iload_n hx hb dX10_keepsTexts_144 rfl (lv_at hl118 0 rfl) ?_
              refine x_ai C hTH198 gq201 rg_135 ⟨by omega, by show _ < ((112 : Nat) : Int); omega⟩ dX10_keepsTexts_145 (fun x203 ex203 bx203 => ?_)
              refine x_V (As := [.int x203]) (rest := [.int x115, .ref q201]) C (f_X10_kept l K G H198 (x203) (x197) hTH198 gb m200 m199 (by omega)) yo_X10_kept wM_X10_473 ⟨⟨by decide, by decide⟩, by decide, by decide⟩ (x_rv C hTH198 (ci := 10) rfl gb rg_112) rfl hl118.1 rfl (Nat.le_of_ble_eq_true rfl) dX10_keepsTexts_146 hSH198 (AE_sub (fun _ _ => rfl) (by decide) hSH198.1) (fun vH204 H204 locsH204 pH204 zH204 kH204 hSH204 => ?_)
              obtain ⟨hvH204, hTH204, iH204, x205, tx205, ex205⟩ := pH204
              subst hvH204
              refine W.eq (g2 := F0 m 149 ls117 [.int x203, .int x115, .ref q201]) rfl ?_
              refine x_iast C hTH204 hSH204 gq201 rg_135 (by omega) (by show _ < ((112 : Nat) : Int); omega) ⟨by have := i_rng x203; omega, by have := i_rng x203; omega⟩ (AE_in gq201 (by decide)) dX10_keepsTexts_149 (fun H206 locsH206 hTH206 hSH206 wH206 => ?_)
              have m207 := ex205.trans (Wr.neI wH206 (Or.inl (G_ne gb gq201 (by decide)))).symm
              have m208 := (Wr.neI wH206 (Or.inl (G_ne gb gq201 (by decide)))).trans iH204
              obtain ⟨x209, ex209⟩ : ∃ y : Int32, y = x115 + 1 := ⟨_, rfl⟩
              have tx209 := i_add ex209 (by omega)
              refine lv_iinc (v := x209) (lv' := [(1, .int x209), (0, .ref b)]) hx hb dX10_keepsTexts_150 hl118 (k := 0) rfl (by rw [ex209]; rfl) (by decide) rfl (fun ls210 hl211 => ?_)
              refine lv_goto (tgt := 32) hx hb dX10_keepsTexts_153 (by decide) ?_
              exact ihLp114 ls210 H206 locsH206 (x209) (x205) (lv_sub hl211 [0, 1] rfl) hTH206 hSH206 (by omega) m208 m207 (by omega) (by omega)
        exact Lp114 ((96 - (0 : Int32).toInt).toNat + 1) ls112 H105 locsH105 (0) (x109) (lv_sub hl113 [0, 1] rfl) hTH105 hSH105 (by omega) i108 ex109 (by omega) (by omega)
      · have k111 := i_nle c110
        refine lv_aload_n hx hb dX10_keepsTexts_8 rfl (lv_at hl107 1 rfl) ?_
        refine x_gr C hTH105 (ci := 10) (k := 24) rfl inX10 (by decide) wF_X10_59 gb rg_112 rfl dX10_keepsTexts_9 (fun q212 eq212 gq212 => ?_)
        refine lv_iload_n hx hb dX10_keepsTexts_12 rfl (lv_at hl107 0 rfl) ?_
        refine lv_aload_n hx hb dX10_keepsTexts_13 rfl (lv_at hl107 1 rfl) ?_
        refine lv_aload_n hx hb dX10_keepsTexts_14 rfl (lv_at hl107 1 rfl) ?_
        refine x_gr C hTH105 (ci := 10) (k := 24) rfl inX10 (by decide) wF_X10_59 gb rg_112 rfl dX10_keepsTexts_15 (fun q213 eq213 gq213 => ?_)
        have uq213 : q212 = q213 := (eq212).trans eq213.symm
        subst uq213
        refine lv_iload_n hx hb dX10_keepsTexts_18 rfl (lv_at hl107 0 rfl) ?_
        refine x_ai C hTH105 gq212 rg_128 ⟨by omega, by show _ < ((7 : Nat) : Int); omega⟩ dX10_keepsTexts_19 (fun x214 ex214 bx214 => ?_)
        refine x_V (As := [.int x214]) (rest := [.int x104, .ref q212]) C (f_X10_kept l K G H105 (x214) (x109) hTH105 gb i108 ex109 (by omega)) yo_X10_kept wM_X10_473 ⟨⟨by decide, by decide⟩, by decide, by decide⟩ (x_rv C hTH105 (ci := 10) rfl gb rg_112) rfl hl107.1 rfl (Nat.le_of_ble_eq_true rfl) dX10_keepsTexts_20 hSH105 (AE_sub (fun _ _ => rfl) (by decide) hSH105.1) (fun vH215 H215 locsH215 pH215 zH215 kH215 hSH215 => ?_)
        obtain ⟨hvH215, hTH215, iH215, x216, tx216, ex216⟩ := pH215
        subst hvH215
        refine W.eq (g2 := F0 m 23 ls106 [.int x214, .int x104, .ref q212]) rfl ?_
        refine x_iast C hTH215 hSH215 gq212 rg_128 (by omega) (by show _ < ((7 : Nat) : Int); omega) ⟨by have := i_rng x214; omega, by have := i_rng x214; omega⟩ (AE_in gq212 (by decide)) dX10_keepsTexts_23 (fun H217 locsH217 hTH217 hSH217 wH217 => ?_)
        have m218 := ex216.trans (Wr.neI wH217 (Or.inl (G_ne gb gq212 (by decide)))).symm
        have m219 := (Wr.neI wH217 (Or.inl (G_ne gb gq212 (by decide)))).trans iH215
        obtain ⟨x220, ex220⟩ : ∃ y : Int32, y = x104 + 1 := ⟨_, rfl⟩
        have tx220 := i_add ex220 (by omega)
        refine lv_iinc (v := x220) (lv' := [(1, .int x220), (0, .ref b)]) hx hb dX10_keepsTexts_24 hl107 (k := 0) rfl (by rw [ex220]; rfl) (by decide) rfl (fun ls221 hl222 => ?_)
        refine lv_goto (tgt := 2) hx hb dX10_keepsTexts_27 (by decide) ?_
        exact ihLp103 ls221 H217 locsH217 (x220) (x216) (lv_sub hl222 [0, 1] rfl) hTH217 hSH217 (by omega) m219 m218 (by omega) (by omega)
  exact Lp103 ((6 - (0 : Int32).toInt).toNat + 1) ls101 s.heap [] (0) (T) (lv_sub hl102 [0, 1] rfl) hT hS (by omega) h1 hk (by omega) (by omega)

set_option maxHeartbeats 4000000 in
set_option maxRecDepth 100000 in
theorem f_X10_image_0 (l : Launch) (K : KE) (G : Nat → Option Nat) (H : Heap) {b : Nat} (hT : TY K G H) (gb : G b = some 112) (fx : FM K H b) : MX l K yX10_image cX10_image 2 (some .boolean) 0 0 0 0 [.ref b, .int 0] H (AE G [112] H.size) (fun v H1 => (∃ r : Int32, v = some (.int r) ∧ (r.toInt = 0)) ∧ ∃ G1 : Nat → Option Nat, (∀ q, q < H.size → G1 q = G q) ∧ TY K G1 H1) := by
  refine MX.of (by decide +kernel) (Nat.le_of_ble_eq_true rfl) ?_
  intro p e s m below meth c ls Q C hH hl hQ
  subst hH
  have C : CX p K s m _ meth c RX10 cX10_image 2 (some .boolean) "image" := C
  obtain ⟨hx, hb, hml, hown, hts, hKT, hr, hlocks, hnm⟩ := id C
  have hl : lv_has ls 2 [(0, .ref b), (1, .int 0)] := hl
  have hS : va_S (AE G [112] s.heap.size) s.heap s.heap [] := va_S.rf
  have n_0 : (0 : Int32).toInt = 0 := rfl
  obtain ⟨f1, f2, f3, f4, f5, f6, f7, f8, f9, f10⟩ := fx
  refine lv_aload_n hx hb dX10_image_0 rfl (lv_at hl 0 rfl) ?_
  refine lv_iconst (v := 0) hx hb dX10_image_1 (by decide) ?_
  refine x_put C hT hS (ci := 10) (k := 0) (v := .int 0) (ty0 := tyX10) rfl inX10 tyX10_ok nmX10 (by decide) rfl wF_X10_167 gb rg_112 rfl rfl (okI (by have := i_rng (0 : Int32); omega) (by have := i_rng (0 : Int32); omega)) rfl rfl (AE_in gb (by decide)) dX10_image_2 (fun H101 locsH101 hTH101 hSH101 wH101 => ?_)
  have m102 := (Wr.neI wH101 (Or.inr (x_apart hKT hts inX10 tyX10 tyX10_ok nmX10 rfl 1 0 (by decide) (by decide) (by decide)))).trans f1
  have m103 := (Wr.neI wH101 (Or.inr (x_apart hKT hts inX10 tyX10 tyX10_ok nmX10 rfl 2 0 (by decide) (by decide) (by decide)))).trans f2
  have m104 := (Wr.neI wH101 (Or.inr (x_apart hKT hts inX10 tyX10 tyX10_ok nmX10 rfl 3 0 (by decide) (by decide) (by decide)))).trans f3
  have m105 := (Wr.neI wH101 (Or.inr (x_apart hKT hts inX10 tyX10 tyX10_ok nmX10 rfl 18 0 (by decide) (by decide) (by decide)))).trans f4
  have m106 := (Wr.neI wH101 (Or.inr (x_apart hKT hts inX10 tyX10 tyX10_ok nmX10 rfl 41 0 (by decide) (by decide) (by decide)))).trans f5
  have m107 := (Wr.neI wH101 (Or.inr (x_apart hKT hts inX10 tyX10 tyX10_ok nmX10 rfl 42 0 (by decide) (by decide) (by decide)))).trans f6
  have m108 := (Wr.neI wH101 (Or.inr (x_apart hKT hts inX10 tyX10 tyX10_ok nmX10 rfl 59 0 (by decide) (by decide) (by decide)))).trans f7
  have m109 := (Wr.neI wH101 (Or.inr (x_apart hKT hts inX10 tyX10 tyX10_ok nmX10 rfl 62 0 (by decide) (by decide) (by decide)))).trans f8
  have m110 := (Wr.neI wH101 (Or.inr (x_apart hKT hts inX10 tyX10 tyX10_ok nmX10 rfl 65 0 (by decide) (by decide) (by decide)))).trans f9
  have m111 := (Wr.neI wH101 (Or.inr (x_apart hKT hts inX10 tyX10 tyX10_ok nmX10 rfl 70 0 (by decide) (by decide) (by decide)))).trans f10
  have m112 := Wr.I wH101
  refine lv_iload_n hx hb dX10_image_5 rfl (lv_at hl 1 rfl) ?_
  refine lv_if_ne (tgt := 18) hx hb dX10_image_6 (by decide) (fun c113 => ?_) (fun c113 => ?_)
  · have k114 := i_ne c113
    exfalso
    omega
  · have k114 := i_eq c113
    refine lv_aload_n hx hb dX10_image_9 rfl (lv_at hl 0 rfl) ?_
    refine x_gi C hTH101 (ci := 10) (k := 70) rfl inX10 (by decide) wF_X10_476 gb rg_112 rfl dX10_image_10 (fun x115 ex115 bx115 => ?_)
    have ux115 : x115 = 0 := ex115.trans m111
    subst ux115
    refine lv_if_ne (tgt := 18) hx hb dX10_image_13 (by decide) (fun c116 => ?_) (fun c116 => ?_)
    · have k117 := i_ne c116
      exfalso
      omega
    · have k117 := i_eq c116
      refine lv_iconst (v := 0) hx hb dX10_image_16 (by decide) ?_
      exact x_zret C hQ (Or.inl rfl) dX10_image_17 hSH101 (by decide) (by decide) (⟨⟨0, rfl, by omega⟩, G, fun _ _ => rfl, hTH101⟩)

set_option maxHeartbeats 4000000 in
set_option maxRecDepth 100000 in
theorem f_X10_image_1 (l : Launch) (K : KE) (G : Nat → Option Nat) (H : Heap) {b : Nat} (hT : TY K G H) (gb : G b = some 112) (fx : FM K H b) : MX l K yX10_image cX10_image 2 (some .boolean) 2 42 0 0 [.ref b, .int 1] H (AE G [112, 162, 113, 119, 122, 123, 124, 146, 114, 115, 116, 117, 118, 125, 154, 155, 120, 121, 147, 148, 149, 150, 156, 157, 158, 159, 128, 129, 130, 131, 132, 133, 134, 135, 136, 137] H.size) (fun v H1 => (∃ r : Int32, v = some (.int r) ∧ (r.toInt = 1)) ∧ ∃ G1 : Nat → Option Nat, (∀ q, q < H.size → G1 q = G q) ∧ TY K G1 H1) := by
  refine MX.of (by decide +kernel) (Nat.le_of_ble_eq_true rfl) ?_
  intro p e s m below meth c ls Q C hH hl hQ
  subst hH
  have C : CX p K s m _ meth c RX10 cX10_image 2 (some .boolean) "image" := C
  obtain ⟨hx, hb, hml, hown, hts, hKT, hr, hlocks, hnm⟩ := id C
  have hl : lv_has ls 2 [(0, .ref b), (1, .int 1)] := hl
  have hS : va_S (AE G [112, 162, 113, 119, 122, 123, 124, 146, 114, 115, 116, 117, 118, 125, 154, 155, 120, 121, 147, 148, 149, 150, 156, 157, 158, 159, 128, 129, 130, 131, 132, 133, 134, 135, 136, 137] s.heap.size) s.heap s.heap [] := va_S.rf
  have n_0 : (0 : Int32).toInt = 0 := rfl
  have n_1 : (1 : Int32).toInt = 1 := rfl
  obtain ⟨f1, f2, f3, f4, f5, f6, f7, f8, f9, f10⟩ := fx
  refine lv_aload_n hx hb dX10_image_0 rfl (lv_at hl 0 rfl) ?_
  refine lv_iconst (v := 0) hx hb dX10_image_1 (by decide) ?_
  refine x_put C hT hS (ci := 10) (k := 0) (v := .int 0) (ty0 := tyX10) rfl inX10 tyX10_ok nmX10 (by decide) rfl wF_X10_167 gb rg_112 rfl rfl (okI (by have := i_rng (0 : Int32); omega) (by have := i_rng (0 : Int32); omega)) rfl rfl (AE_in gb (by decide)) dX10_image_2 (fun H101 locsH101 hTH101 hSH101 wH101 => ?_)
  have m102 := (Wr.neI wH101 (Or.inr (x_apart hKT hts inX10 tyX10 tyX10_ok nmX10 rfl 1 0 (by decide) (by decide) (by decide)))).trans f1
  have m103 := (Wr.neI wH101 (Or.inr (x_apart hKT hts inX10 tyX10 tyX10_ok nmX10 rfl 2 0 (by decide) (by decide) (by decide)))).trans f2
  have m104 := (Wr.neI wH101 (Or.inr (x_apart hKT hts inX10 tyX10 tyX10_ok nmX10 rfl 3 0 (by decide) (by decide) (by decide)))).trans f3
  have m105 := (Wr.neI wH101 (Or.inr (x_apart hKT hts inX10 tyX10 tyX10_ok nmX10 rfl 18 0 (by decide) (by decide) (by decide)))).trans f4
  have m106 := (Wr.neI wH101 (Or.inr (x_apart hKT hts inX10 tyX10 tyX10_ok nmX10 rfl 41 0 (by decide) (by decide) (by decide)))).trans f5
  have m107 := (Wr.neI wH101 (Or.inr (x_apart hKT hts inX10 tyX10 tyX10_ok nmX10 rfl 42 0 (by decide) (by decide) (by decide)))).trans f6
  have m108 := (Wr.neI wH101 (Or.inr (x_apart hKT hts inX10 tyX10 tyX10_ok nmX10 rfl 59 0 (by decide) (by decide) (by decide)))).trans f7
  have m109 := (Wr.neI wH101 (Or.inr (x_apart hKT hts inX10 tyX10 tyX10_ok nmX10 rfl 62 0 (by decide) (by decide) (by decide)))).trans f8
  have m110 := (Wr.neI wH101 (Or.inr (x_apart hKT hts inX10 tyX10 tyX10_ok nmX10 rfl 65 0 (by decide) (by decide) (by decide)))).trans f9
  have m111 := (Wr.neI wH101 (Or.inr (x_apart hKT hts inX10 tyX10 tyX10_ok nmX10 rfl 70 0 (by decide) (by decide) (by decide)))).trans f10
  have m112 := Wr.I wH101
  refine lv_iload_n hx hb dX10_image_5 rfl (lv_at hl 1 rfl) ?_
  refine lv_if_ne (tgt := 18) hx hb dX10_image_6 (by decide) (fun c113 => ?_) (fun c113 => ?_)
  · have k114 := i_ne c113
    refine lv_aload_n hx hb dX10_image_18 rfl (lv_at hl 0 rfl) ?_
    refine lv_iload_n hx hb dX10_image_19 rfl (lv_at hl 1 rfl) ?_
    refine x_put C hTH101 hSH101 (ci := 10) (k := 71) (v := .int 1) (ty0 := tyX10) rfl inX10 tyX10_ok nmX10 (by decide) rfl wF_X10_470 gb rg_112 rfl rfl (okI (by have := i_rng (1 : Int32); omega) (by have := i_rng (1 : Int32); omega)) rfl rfl (AE_in gb (by decide)) dX10_image_20 (fun H115 locsH115 hTH115 hSH115 wH115 => ?_)
    have m116 := (Wr.neI wH115 (Or.inr (x_apart hKT hts inX10 tyX10 tyX10_ok nmX10 rfl 1 71 (by decide) (by decide) (by decide)))).trans m102
    have m117 := (Wr.neI wH115 (Or.inr (x_apart hKT hts inX10 tyX10 tyX10_ok nmX10 rfl 2 71 (by decide) (by decide) (by decide)))).trans m103
    have m118 := (Wr.neI wH115 (Or.inr (x_apart hKT hts inX10 tyX10 tyX10_ok nmX10 rfl 3 71 (by decide) (by decide) (by decide)))).trans m104
    have m119 := (Wr.neI wH115 (Or.inr (x_apart hKT hts inX10 tyX10 tyX10_ok nmX10 rfl 18 71 (by decide) (by decide) (by decide)))).trans m105
    have m120 := (Wr.neI wH115 (Or.inr (x_apart hKT hts inX10 tyX10 tyX10_ok nmX10 rfl 41 71 (by decide) (by decide) (by decide)))).trans m106
    have m121 := (Wr.neI wH115 (Or.inr (x_apart hKT hts inX10 tyX10 tyX10_ok nmX10 rfl 42 71 (by decide) (by decide) (by decide)))).trans m107
    have m122 := (Wr.neI wH115 (Or.inr (x_apart hKT hts inX10 tyX10 tyX10_ok nmX10 rfl 59 71 (by decide) (by decide) (by decide)))).trans m108
    have m123 := (Wr.neI wH115 (Or.inr (x_apart hKT hts inX10 tyX10 tyX10_ok nmX10 rfl 62 71 (by decide) (by decide) (by decide)))).trans m109
    have m124 := (Wr.neI wH115 (Or.inr (x_apart hKT hts inX10 tyX10 tyX10_ok nmX10 rfl 65 71 (by decide) (by decide) (by decide)))).trans m110
    have m125 := (Wr.neI wH115 (Or.inr (x_apart hKT hts inX10 tyX10 tyX10_ok nmX10 rfl 70 71 (by decide) (by decide) (by decide)))).trans m111
    have m126 := (Wr.neI wH115 (Or.inr (x_apart hKT hts inX10 tyX10 tyX10_ok nmX10 rfl 0 71 (by decide) (by decide) (by decide)))).trans m112
    have m127 := Wr.I wH115
    refine lv_aload_n hx hb dX10_image_23 rfl (lv_at hl 0 rfl) ?_
    refine lv_iconst (v := 1) hx hb dX10_image_24 (by decide) ?_
    refine x_put C hTH115 hSH115 (ci := 10) (k := 70) (v := .int 1) (ty0 := tyX10) rfl inX10 tyX10_ok nmX10 (by decide) rfl wF_X10_476 gb rg_112 rfl rfl (okI (by have := i_rng (1 : Int32); omega) (by have := i_rng (1 : Int32); omega)) rfl rfl (AE_in gb (by decide)) dX10_image_25 (fun H128 locsH128 hTH128 hSH128 wH128 => ?_)
    have m129 := (Wr.neI wH128 (Or.inr (x_apart hKT hts inX10 tyX10 tyX10_ok nmX10 rfl 1 70 (by decide) (by decide) (by decide)))).trans m116
    have m130 := (Wr.neI wH128 (Or.inr (x_apart hKT hts inX10 tyX10 tyX10_ok nmX10 rfl 2 70 (by decide) (by decide) (by decide)))).trans m117
    have m131 := (Wr.neI wH128 (Or.inr (x_apart hKT hts inX10 tyX10 tyX10_ok nmX10 rfl 3 70 (by decide) (by decide) (by decide)))).trans m118
    have m132 := (Wr.neI wH128 (Or.inr (x_apart hKT hts inX10 tyX10 tyX10_ok nmX10 rfl 18 70 (by decide) (by decide) (by decide)))).trans m119
    have m133 := (Wr.neI wH128 (Or.inr (x_apart hKT hts inX10 tyX10 tyX10_ok nmX10 rfl 41 70 (by decide) (by decide) (by decide)))).trans m120
    have m134 := (Wr.neI wH128 (Or.inr (x_apart hKT hts inX10 tyX10 tyX10_ok nmX10 rfl 42 70 (by decide) (by decide) (by decide)))).trans m121
    have m135 := (Wr.neI wH128 (Or.inr (x_apart hKT hts inX10 tyX10 tyX10_ok nmX10 rfl 59 70 (by decide) (by decide) (by decide)))).trans m122
    have m136 := (Wr.neI wH128 (Or.inr (x_apart hKT hts inX10 tyX10 tyX10_ok nmX10 rfl 62 70 (by decide) (by decide) (by decide)))).trans m123
    have m137 := (Wr.neI wH128 (Or.inr (x_apart hKT hts inX10 tyX10 tyX10_ok nmX10 rfl 65 70 (by decide) (by decide) (by decide)))).trans m124
    have m139 := (Wr.neI wH128 (Or.inr (x_apart hKT hts inX10 tyX10 tyX10_ok nmX10 rfl 0 70 (by decide) (by decide) (by decide)))).trans m126
    have m140 := (Wr.neI wH128 (Or.inr (x_apart hKT hts inX10 tyX10 tyX10_ok nmX10 rfl 71 70 (by decide) (by decide) (by decide)))).trans m127
    have m141 := Wr.I wH128
    refine lv_aload_n hx hb dX10_image_28 rfl (lv_at hl 0 rfl) ?_
    refine lv_iconst (v := 0) hx hb dX10_image_29 (by decide) ?_
    refine x_put C hTH128 hSH128 (ci := 10) (k := 72) (v := .int 0) (ty0 := tyX10) rfl inX10 tyX10_ok nmX10 (by decide) rfl wF_X10_467 gb rg_112 rfl rfl (okI (by have := i_rng (0 : Int32); omega) (by have := i_rng (0 : Int32); omega)) rfl rfl (AE_in gb (by decide)) dX10_image_30 (fun H142 locsH142 hTH142 hSH142 wH142 => ?_)
    have m143 := (Wr.neI wH142 (Or.inr (x_apart hKT hts inX10 tyX10 tyX10_ok nmX10 rfl 1 72 (by decide) (by decide) (by decide)))).trans m129
    have m144 := (Wr.neI wH142 (Or.inr (x_apart hKT hts inX10 tyX10 tyX10_ok nmX10 rfl 2 72 (by decide) (by decide) (by decide)))).trans m130
    have m145 := (Wr.neI wH142 (Or.inr (x_apart hKT hts inX10 tyX10 tyX10_ok nmX10 rfl 3 72 (by decide) (by decide) (by decide)))).trans m131
    have m146 := (Wr.neI wH142 (Or.inr (x_apart hKT hts inX10 tyX10 tyX10_ok nmX10 rfl 18 72 (by decide) (by decide) (by decide)))).trans m132
    have m147 := (Wr.neI wH142 (Or.inr (x_apart hKT hts inX10 tyX10 tyX10_ok nmX10 rfl 41 72 (by decide) (by decide) (by decide)))).trans m133
    have m148 := (Wr.neI wH142 (Or.inr (x_apart hKT hts inX10 tyX10 tyX10_ok nmX10 rfl 42 72 (by decide) (by decide) (by decide)))).trans m134
    have m149 := (Wr.neI wH142 (Or.inr (x_apart hKT hts inX10 tyX10 tyX10_ok nmX10 rfl 59 72 (by decide) (by decide) (by decide)))).trans m135
    have m150 := (Wr.neI wH142 (Or.inr (x_apart hKT hts inX10 tyX10 tyX10_ok nmX10 rfl 62 72 (by decide) (by decide) (by decide)))).trans m136
    have m151 := (Wr.neI wH142 (Or.inr (x_apart hKT hts inX10 tyX10 tyX10_ok nmX10 rfl 65 72 (by decide) (by decide) (by decide)))).trans m137
    have m152 := (Wr.neI wH142 (Or.inr (x_apart hKT hts inX10 tyX10 tyX10_ok nmX10 rfl 0 72 (by decide) (by decide) (by decide)))).trans m139
    have m153 := (Wr.neI wH142 (Or.inr (x_apart hKT hts inX10 tyX10 tyX10_ok nmX10 rfl 71 72 (by decide) (by decide) (by decide)))).trans m140
    have m154 := (Wr.neI wH142 (Or.inr (x_apart hKT hts inX10 tyX10 tyX10_ok nmX10 rfl 70 72 (by decide) (by decide) (by decide)))).trans m141
    have m155 := Wr.I wH142
    refine lv_aload_n hx hb dX10_image_33 rfl (lv_at hl 0 rfl) ?_
    refine lv_aload_n hx hb dX10_image_34 rfl (lv_at hl 0 rfl) ?_
    refine lv_aload_n hx hb dX10_image_35 rfl (lv_at hl 0 rfl) ?_
    refine x_gi C hTH142 (ci := 10) (k := 1) rfl inX10 (by decide) wF_X10_170 gb rg_112 rfl dX10_image_36 (fun x156 ex156 bx156 => ?_)
    have ux156 : x156 = 0 := ex156.trans m143
    subst ux156
    refine x_V (As := [.int 0]) (rest := [.ref b]) C (f_X10_kept l K G H142 (0) (0) hTH142 gb m153 (m155).symm (by omega)) yo_X10_kept wM_X10_473 ⟨⟨by decide, by decide⟩, by decide, by decide⟩ (x_rv C hTH142 (ci := 10) rfl gb rg_112) rfl hl.1 rfl (Nat.le_of_ble_eq_true rfl) dX10_image_39 hSH142 (AE_sub (fun _ _ => rfl) (by decide) hSH142.1) (fun vH157 H157 locsH157 pH157 zH157 kH157 hSH157 => ?_)
    obtain ⟨hvH157, hTH157, iH157, x158, tx158, ex158⟩ := pH157
    subst hvH157
    refine W.eq (g2 := F0 m 42 ls [.int 0, .ref b]) rfl ?_
    refine x_put C hTH157 hSH157 (ci := 10) (k := 1) (v := .int 0) (ty0 := tyX10) rfl inX10 tyX10_ok nmX10 (by decide) rfl wF_X10_170 gb rg_112 rfl rfl (okI (by have := i_rng (0 : Int32); omega) (by have := i_rng (0 : Int32); omega)) rfl rfl (AE_in gb (by decide)) dX10_image_42 (fun H159 locsH159 hTH159 hSH159 wH159 => ?_)
    have m160 := ex158.trans (Wr.neI wH159 (Or.inr (x_apart hKT hts inX10 tyX10 tyX10_ok nmX10 rfl 72 1 (by decide) (by decide) (by decide)))).symm
    have m161 := (Wr.neI wH159 (Or.inr (x_apart hKT hts inX10 tyX10 tyX10_ok nmX10 rfl 71 1 (by decide) (by decide) (by decide)))).trans iH157
    have m162 := Wr.I wH159
    refine lv_aload_n hx hb dX10_image_45 rfl (lv_at hl 0 rfl) ?_
    refine lv_aload_n hx hb dX10_image_46 rfl (lv_at hl 0 rfl) ?_
    refine lv_aload_n hx hb dX10_image_47 rfl (lv_at hl 0 rfl) ?_
    refine x_gi C hTH159 (ci := 10) (k := 2) rfl inX10 (by decide) wF_X10_322 gb rg_112 rfl dX10_image_48 (fun x163 ex163 bx163 => ?_)
    refine x_V (As := [.int x163]) (rest := [.ref b]) C (f_X10_kept l K G H159 (x163) (x158) hTH159 gb m161 m160 (by omega)) yo_X10_kept wM_X10_473 ⟨⟨by decide, by decide⟩, by decide, by decide⟩ (x_rv C hTH159 (ci := 10) rfl gb rg_112) rfl hl.1 rfl (Nat.le_of_ble_eq_true rfl) dX10_image_51 hSH159 (AE_sub (fun _ _ => rfl) (by decide) hSH159.1) (fun vH164 H164 locsH164 pH164 zH164 kH164 hSH164 => ?_)
    obtain ⟨hvH164, hTH164, iH164, x165, tx165, ex165⟩ := pH164
    subst hvH164
    refine W.eq (g2 := F0 m 54 ls [.int x163, .ref b]) rfl ?_
    refine x_put C hTH164 hSH164 (ci := 10) (k := 2) (v := .int x163) (ty0 := tyX10) rfl inX10 tyX10_ok nmX10 (by decide) rfl wF_X10_322 gb rg_112 rfl rfl (okI (by have := i_rng x163; omega) (by have := i_rng x163; omega)) rfl rfl (AE_in gb (by decide)) dX10_image_54 (fun H166 locsH166 hTH166 hSH166 wH166 => ?_)
    have m167 := ex165.trans (Wr.neI wH166 (Or.inr (x_apart hKT hts inX10 tyX10 tyX10_ok nmX10 rfl 72 2 (by decide) (by decide) (by decide)))).symm
    have m168 := (Wr.neI wH166 (Or.inr (x_apart hKT hts inX10 tyX10 tyX10_ok nmX10 rfl 71 2 (by decide) (by decide) (by decide)))).trans iH164
    have m169 := Wr.I wH166
    have m169 := m169.symm
    refine lv_aload_n hx hb dX10_image_57 rfl (lv_at hl 0 rfl) ?_
    refine lv_aload_n hx hb dX10_image_58 rfl (lv_at hl 0 rfl) ?_
    refine lv_aload_n hx hb dX10_image_59 rfl (lv_at hl 0 rfl) ?_
    refine x_gi C hTH166 (ci := 10) (k := 3) rfl inX10 (by decide) wF_X10_7 gb rg_112 rfl dX10_image_60 (fun x170 ex170 bx170 => ?_)
    refine x_V (As := [.int x170]) (rest := [.ref b]) C (f_X10_kept l K G H166 (x170) (x165) hTH166 gb m168 m167 (by omega)) yo_X10_kept wM_X10_473 ⟨⟨by decide, by decide⟩, by decide, by decide⟩ (x_rv C hTH166 (ci := 10) rfl gb rg_112) rfl hl.1 rfl (Nat.le_of_ble_eq_true rfl) dX10_image_63 hSH166 (AE_sub (fun _ _ => rfl) (by decide) hSH166.1) (fun vH171 H171 locsH171 pH171 zH171 kH171 hSH171 => ?_)
    obtain ⟨hvH171, hTH171, iH171, x172, tx172, ex172⟩ := pH171
    subst hvH171
    refine W.eq (g2 := F0 m 66 ls [.int x170, .ref b]) rfl ?_
    refine x_put C hTH171 hSH171 (ci := 10) (k := 3) (v := .int x170) (ty0 := tyX10) rfl inX10 tyX10_ok nmX10 (by decide) rfl wF_X10_7 gb rg_112 rfl rfl (okI (by have := i_rng x170; omega) (by have := i_rng x170; omega)) rfl rfl (AE_in gb (by decide)) dX10_image_66 (fun H173 locsH173 hTH173 hSH173 wH173 => ?_)
    have m174 := ex172.trans (Wr.neI wH173 (Or.inr (x_apart hKT hts inX10 tyX10 tyX10_ok nmX10 rfl 72 3 (by decide) (by decide) (by decide)))).symm
    have m175 := (Wr.neI wH173 (Or.inr (x_apart hKT hts inX10 tyX10 tyX10_ok nmX10 rfl 71 3 (by decide) (by decide) (by decide)))).trans iH171
    have m176 := Wr.I wH173
    have m176 := m176.symm
    refine lv_aload_n hx hb dX10_image_69 rfl (lv_at hl 0 rfl) ?_
    refine lv_aload_n hx hb dX10_image_70 rfl (lv_at hl 0 rfl) ?_
    refine lv_aload_n hx hb dX10_image_71 rfl (lv_at hl 0 rfl) ?_
    refine x_gi C hTH173 (ci := 10) (k := 59) rfl inX10 (by decide) wF_X10_438 gb rg_112 rfl dX10_image_72 (fun x177 ex177 bx177 => ?_)
    refine x_V (As := [.int x177]) (rest := [.ref b]) C (f_X10_kept l K G H173 (x177) (x172) hTH173 gb m175 m174 (by omega)) yo_X10_kept wM_X10_473 ⟨⟨by decide, by decide⟩, by decide, by decide⟩ (x_rv C hTH173 (ci := 10) rfl gb rg_112) rfl hl.1 rfl (Nat.le_of_ble_eq_true rfl) dX10_image_75 hSH173 (AE_sub (fun _ _ => rfl) (by decide) hSH173.1) (fun vH178 H178 locsH178 pH178 zH178 kH178 hSH178 => ?_)
    obtain ⟨hvH178, hTH178, iH178, x179, tx179, ex179⟩ := pH178
    subst hvH178
    refine W.eq (g2 := F0 m 78 ls [.int x177, .ref b]) rfl ?_
    refine x_put C hTH178 hSH178 (ci := 10) (k := 59) (v := .int x177) (ty0 := tyX10) rfl inX10 tyX10_ok nmX10 (by decide) rfl wF_X10_438 gb rg_112 rfl rfl (okI (by have := i_rng x177; omega) (by have := i_rng x177; omega)) rfl rfl (AE_in gb (by decide)) dX10_image_78 (fun H180 locsH180 hTH180 hSH180 wH180 => ?_)
    have m181 := ex179.trans (Wr.neI wH180 (Or.inr (x_apart hKT hts inX10 tyX10 tyX10_ok nmX10 rfl 72 59 (by decide) (by decide) (by decide)))).symm
    have m182 := (Wr.neI wH180 (Or.inr (x_apart hKT hts inX10 tyX10 tyX10_ok nmX10 rfl 71 59 (by decide) (by decide) (by decide)))).trans iH178
    have m183 := Wr.I wH180
    have m183 := m183.symm
    refine lv_aload_n hx hb dX10_image_81 rfl (lv_at hl 0 rfl) ?_
    refine lv_aload_n hx hb dX10_image_82 rfl (lv_at hl 0 rfl) ?_
    refine lv_aload_n hx hb dX10_image_83 rfl (lv_at hl 0 rfl) ?_
    refine x_gi C hTH180 (ci := 10) (k := 62) rfl inX10 (by decide) wF_X10_455 gb rg_112 rfl dX10_image_84 (fun x184 ex184 bx184 => ?_)
    refine x_V (As := [.int x184]) (rest := [.ref b]) C (f_X10_kept l K G H180 (x184) (x179) hTH180 gb m182 m181 (by omega)) yo_X10_kept wM_X10_473 ⟨⟨by decide, by decide⟩, by decide, by decide⟩ (x_rv C hTH180 (ci := 10) rfl gb rg_112) rfl hl.1 rfl (Nat.le_of_ble_eq_true rfl) dX10_image_87 hSH180 (AE_sub (fun _ _ => rfl) (by decide) hSH180.1) (fun vH185 H185 locsH185 pH185 zH185 kH185 hSH185 => ?_)
    obtain ⟨hvH185, hTH185, iH185, x186, tx186, ex186⟩ := pH185
    subst hvH185
    refine W.eq (g2 := F0 m 90 ls [.int x184, .ref b]) rfl ?_
    refine x_put C hTH185 hSH185 (ci := 10) (k := 62) (v := .int x184) (ty0 := tyX10) rfl inX10 tyX10_ok nmX10 (by decide) rfl wF_X10_455 gb rg_112 rfl rfl (okI (by have := i_rng x184; omega) (by have := i_rng x184; omega)) rfl rfl (AE_in gb (by decide)) dX10_image_90 (fun H187 locsH187 hTH187 hSH187 wH187 => ?_)
    have m188 := ex186.trans (Wr.neI wH187 (Or.inr (x_apart hKT hts inX10 tyX10 tyX10_ok nmX10 rfl 72 62 (by decide) (by decide) (by decide)))).symm
    have m189 := (Wr.neI wH187 (Or.inr (x_apart hKT hts inX10 tyX10 tyX10_ok nmX10 rfl 71 62 (by decide) (by decide) (by decide)))).trans iH185
    have m190 := Wr.I wH187
    have m190 := m190.symm
    refine lv_aload_n hx hb dX10_image_93 rfl (lv_at hl 0 rfl) ?_
    refine lv_aload_n hx hb dX10_image_94 rfl (lv_at hl 0 rfl) ?_
    refine lv_aload_n hx hb dX10_image_95 rfl (lv_at hl 0 rfl) ?_
    refine x_gi C hTH187 (ci := 10) (k := 65) rfl inX10 (by decide) wF_X10_458 gb rg_112 rfl dX10_image_96 (fun x191 ex191 bx191 => ?_)
    refine x_V (As := [.int x191]) (rest := [.ref b]) C (f_X10_kept l K G H187 (x191) (x186) hTH187 gb m189 m188 (by omega)) yo_X10_kept wM_X10_473 ⟨⟨by decide, by decide⟩, by decide, by decide⟩ (x_rv C hTH187 (ci := 10) rfl gb rg_112) rfl hl.1 rfl (Nat.le_of_ble_eq_true rfl) dX10_image_99 hSH187 (AE_sub (fun _ _ => rfl) (by decide) hSH187.1) (fun vH192 H192 locsH192 pH192 zH192 kH192 hSH192 => ?_)
    obtain ⟨hvH192, hTH192, iH192, x193, tx193, ex193⟩ := pH192
    subst hvH192
    refine W.eq (g2 := F0 m 102 ls [.int x191, .ref b]) rfl ?_
    refine x_put C hTH192 hSH192 (ci := 10) (k := 65) (v := .int x191) (ty0 := tyX10) rfl inX10 tyX10_ok nmX10 (by decide) rfl wF_X10_458 gb rg_112 rfl rfl (okI (by have := i_rng x191; omega) (by have := i_rng x191; omega)) rfl rfl (AE_in gb (by decide)) dX10_image_102 (fun H194 locsH194 hTH194 hSH194 wH194 => ?_)
    have m195 := ex193.trans (Wr.neI wH194 (Or.inr (x_apart hKT hts inX10 tyX10 tyX10_ok nmX10 rfl 72 65 (by decide) (by decide) (by decide)))).symm
    have m196 := (Wr.neI wH194 (Or.inr (x_apart hKT hts inX10 tyX10 tyX10_ok nmX10 rfl 71 65 (by decide) (by decide) (by decide)))).trans iH192
    have m197 := Wr.I wH194
    have m197 := m197.symm
    refine lv_aload_n hx hb dX10_image_105 rfl (lv_at hl 0 rfl) ?_
    refine x_V (As := []) (rest := []) C (f_X10_keepsBars l K G H194 (x193) hTH194 gb m196 m195 (by omega)) yo_X10_keepsBars wM_X10_479 ⟨⟨by decide, by decide⟩, by decide, by decide⟩ (x_rv C hTH194 (ci := 10) rfl gb rg_112) rfl hl.1 rfl (Nat.le_of_ble_eq_true rfl) dX10_image_106 hSH194 (AE_sub (fun _ _ => rfl) (by decide) hSH194.1) (fun vH198 H198 locsH198 pH198 zH198 kH198 hSH198 => ?_)
    obtain ⟨hvH198, hTH198, iH198, x199, tx199, ex199⟩ := pH198
    subst hvH198
    refine W.eq (g2 := F0 m 109 ls []) rfl ?_
    refine lv_aload_n hx hb dX10_image_109 rfl (lv_at hl 0 rfl) ?_
    refine x_V (As := []) (rest := []) C (f_X10_keepsTaps l K G H198 (x199) hTH198 gb iH198 ex199 (by omega)) yo_X10_keepsTaps wM_X10_482 ⟨⟨by decide, by decide⟩, by decide, by decide⟩ (x_rv C hTH198 (ci := 10) rfl gb rg_112) rfl hl.1 rfl (Nat.le_of_ble_eq_true rfl) dX10_image_110 hSH198 (AE_sub (fun _ _ => rfl) (by decide) hSH198.1) (fun vH200 H200 locsH200 pH200 zH200 kH200 hSH200 => ?_)
    obtain ⟨hvH200, hTH200, iH200, x201, tx201, ex201⟩ := pH200
    subst hvH200
    refine W.eq (g2 := F0 m 113 ls []) rfl ?_
    refine lv_aload_n hx hb dX10_image_113 rfl (lv_at hl 0 rfl) ?_
    refine x_V (As := []) (rest := []) C (f_X10_keepsTexts l K G H200 (x201) hTH200 gb iH200 ex201 (by omega)) yo_X10_keepsTexts wM_X10_485 ⟨⟨by decide, by decide⟩, by decide, by decide⟩ (x_rv C hTH200 (ci := 10) rfl gb rg_112) rfl hl.1 rfl (Nat.le_of_ble_eq_true rfl) dX10_image_114 hSH200 (AE_sub (fun _ _ => rfl) (by decide) hSH200.1) (fun vH202 H202 locsH202 pH202 zH202 kH202 hSH202 => ?_)
    obtain ⟨hvH202, hTH202, iH202, x203, tx203, ex203⟩ := pH202
    subst hvH202
    refine W.eq (g2 := F0 m 117 ls []) rfl ?_
    refine lv_iconst (v := 1) hx hb dX10_image_117 (by decide) ?_
    exact x_zret C hQ (Or.inr rfl) dX10_image_118 hSH202 (by decide) (by decide) (⟨⟨1, rfl, by omega⟩, G, fun _ _ => rfl, hTH202⟩)
  · have k114 := i_eq c113
    exfalso
    omega
