set_option maxHeartbeats 4000000 in
set_option maxRecDepth 100000 in
theorem a_X10_findsFits_k (l : Launch) (K : KE) (G : Nat → Option Nat) (H : Heap) {a0 : Nat} (x1 : Int32) (x2 : Int32) (x3 : Int32) {slq : Nat} {rq : Nat} {gnq : Nat} {gkp : Nat} (fm : Int32) (sz : Int32) (hT : TY K G H) (ga0 : G a0 = some 112) (hx1 : 0 ≤ x1.toInt ∧ x1.toInt ≤ 9) (hx2 : 1 ≤ x2.toInt ∧ x2.toInt ≤ 4) (gslq : G slq = some 113) (eslq : @Eq Ad slq (fR H a0 (K.1.2 10 4))) (grq : G rq = some 141) (erq : @Eq Ad rq (fR H a0 (K.1.2 10 45))) (ggnq : G gnq = some 115) (egnq : @Eq Ad gnq (fR H a0 (K.1.2 10 6))) (ggkp : G gkp = some 151) (egkp : @Eq Ad gkp (fR H a0 (K.1.2 10 55))) (efm : fm = fI H a0 (K.1.2 10 56)) (esz : sz = fI H slq (x1 : Int32).toNatClampNeg) (hg_CG : CG (avw K H a0)) (hg_TU : TU (avw K H a0) (svw K H a0)) (hg_WD : WD (avw K H a0)) (hg_IM : IM (avw K H a0)) (hp0 : sz.toInt ≤ 5) (hp1 : 1 ≤ sz.toInt) : MX l K yX10_findsFits cX10_findsFits 7 none 6 146 0 0 [.ref a0, .int x1, .int x2, .int x3] H (AE G [112, 151, 141, 115, 152, 140, 139] H.size) (fun v H1 => ∃ (t0 : Int32), v = none ∧ t0 = fI H1 a0 (K.1.2 10 56) ∧ @Eq Ad slq (fR H1 a0 (K.1.2 10 4)) ∧ @Eq Ad rq (fR H1 a0 (K.1.2 10 45)) ∧ @Eq Ad gnq (fR H1 a0 (K.1.2 10 6)) ∧ @Eq Ad gkp (fR H1 a0 (K.1.2 10 55)) ∧ (CG (avw K H1 a0)) ∧ (TU (avw K H1 a0) (svw K H1 a0)) ∧ (WD (avw K H1 a0)) ∧ (IM (avw K H1 a0)) ∧ MF K H H1 a0 [56] ∧ (∀ j : Nat, fI H1 gnq j = fI H gnq j) ∧ (∀ i : Nat, i < sz.toNatClampNeg → fI H1 gkp i = fI H1 gnq (16 * x1.toNatClampNeg + i)) ∧ TY K G H1) := by
  refine MX.of (by decide +kernel) (Nat.le_of_ble_eq_true rfl) ?_
  intro p e s m below meth c ls Q C hH hl hQ
  subst hH
  have C : CX p K s m _ meth c RX10 cX10_findsFits 7 none "findsFits" := C
  obtain ⟨hx, hb, hml, hown, hts, hKT, hr, hlocks, hnm⟩ := id C
  have hl : lv_has ls 7 [(0, .ref a0), (1, .int x1), (2, .int x2), (3, .int x3)] := hl
  have hS : va_S (AE G [112, 151, 141, 115, 152, 140, 139] s.heap.size) s.heap s.heap [] := va_S.rf
  have n_0 : (0 : Int32).toInt = 0 := rfl
  have n_1 : (1 : Int32).toInt = 1 := rfl
  have n_5 : (5 : Int32).toInt = 5 := rfl
  have n_16 : (16 : Int32).toInt = 16 := rfl
  have bfm := ty_fi (x := fm) (k := 56) efm hT ga0 rg_112 rfl
  have bsz := ty_ai (x := sz) esz hT gslq rg_113 (by omega)
  have hap : ∀ x y, x < 74 → y < 74 → x ≠ y → K.1.2 10 x ≠ K.1.2 10 y := x_apart hKT hts inX10 tyX10 tyX10_ok nmX10 rfl
  have mf0 : MF K s.heap s.heap a0 [56] := fun _ _ _ => rfl
  have hx2n := i_cl (x := x2) (by omega)
  have ro0_gnq : ∀ j : Nat, fI s.heap gnq j = fI s.heap gnq j := fun _ => rfl
  have J11 : ∀ (nf : Nat)  (ls6113 : Array Slot) (H6112 : Heap) (locsH6112 : List Loc) (x6115 : Int32) (x6116 : Int32) (x6117 : Int32), lv_has ls6113 7 [(0, .ref a0), (1, .int x1), (2, .int x2), (3, .int x3), (4, .int x6115), (5, .int x6116)] → TY K G H6112 → va_S (AE G [112, 151, 141, 115, 152, 140, 139] s.heap.size) s.heap H6112 locsH6112 → (1 ≤ x6115.toInt ∧ x6115.toInt ≤ 5) → (0 ≤ x6116.toInt ∧ x6116.toInt ≤ 5) → (0 ≤ x6117.toInt ∧ x6117.toInt ≤ 1024) → (x6117 = fI H6112 a0 (K.1.2 10 56)) → (@Eq Ad slq (fR H6112 a0 (K.1.2 10 4))) → (@Eq Ad rq (fR H6112 a0 (K.1.2 10 45))) → (@Eq Ad gnq (fR H6112 a0 (K.1.2 10 6))) → (@Eq Ad gkp (fR H6112 a0 (K.1.2 10 55))) → (sz = fI H6112 slq (x1 : Int32).toNatClampNeg) → (AB H6112 rq (x6116.toNatClampNeg) (0) (0)) → (MF K s.heap H6112 a0 [56]) → (CG (avw K H6112 a0)) → (TU (avw K H6112 a0) (svw K H6112 a0)) → (WD (avw K H6112 a0)) → (IM (avw K H6112 a0)) → (5 - x6116.toInt < (nf : Int)) → (∀ j : Nat, fI H6112 gnq j = fI s.heap gnq j) → (∀ i : Nat, i < x6116.toNatClampNeg → fI H6112 gkp i = fI s.heap gnq (16 * x1.toNatClampNeg + i)) → (x6115.toInt = sz.toInt) → W p l e ({ frames := 6, cells := 0, slots := 0, locals := 146 } : Room) s m (([.ref a0, .int x1, .int x2, .int x3] : List Value).toArray) below meth c H6112 locsH6112 0 0 Q (F0 m 11 ls6113 []) := by
    intro nf
    induction nf with
    | zero =>
      intro  ls6113 H6112 locsH6112 x6115 x6116 x6117 hl6114 hTH6112 hSH6112 bx6115 bx6116 bx6117 ex6117 cy6118_0 cy6118_1 cy6118_2 cy6118_3 cy6118_4 by6118_rw mfy6118 gy6118_CG gy6118_TU gy6118_WD gy6118_IM hm11 hro11_gnq hrv11_g hrv11_e
      exfalso
      omega
    | succ nf ih11 =>
      intro  ls6113 H6112 locsH6112 x6115 x6116 x6117 hl6114 hTH6112 hSH6112 bx6115 bx6116 bx6117 ex6117 cy6118_0 cy6118_1 cy6118_2 cy6118_3 cy6118_4 by6118_rw mfy6118 gy6118_CG gy6118_TU gy6118_WD gy6118_IM hm11 hro11_gnq hrv11_g hrv11_e
      have J59 : ∀ (nf : Nat) (V : Nat) (ls6120 : Array Slot) (H6119 : Heap) (locsH6119 : List Loc) (x6122 : Int32) (x6123 : Int32), lv_has ls6120 7 [(0, .ref a0), (1, .int x1), (2, .int x2), (3, .int x3), (4, .int x6115), (5, .int x6122)] → TY K G H6119 → va_S (AE G [112, 151, 141, 115, 152, 140, 139] s.heap.size) s.heap H6119 locsH6119 → (0 ≤ x6122.toInt ∧ x6122.toInt ≤ 1) → (0 ≤ x6123.toInt ∧ x6123.toInt ≤ 1024) → (x6123 = fI H6119 a0 (K.1.2 10 56)) → (@Eq Ad slq (fR H6119 a0 (K.1.2 10 4))) → (@Eq Ad rq (fR H6119 a0 (K.1.2 10 45))) → (@Eq Ad gnq (fR H6119 a0 (K.1.2 10 6))) → (@Eq Ad gkp (fR H6119 a0 (K.1.2 10 55))) → (sz = fI H6119 slq (x1 : Int32).toNatClampNeg) → (AB H6119 rq (x6115.toNatClampNeg) (0) (x2.toInt - 1)) → (MF K s.heap H6119 a0 [56]) → (CG (avw K H6119 a0)) → (TU (avw K H6119 a0) (svw K H6119 a0)) → (WD (avw K H6119 a0)) → (IM (avw K H6119 a0)) → (((x2.toNatClampNeg ^ x6115.toNatClampNeg : Nat) : Int) - (V : Int) + x6122.toInt < (nf : Int)) → (x6122.toInt = 0 ∨ dval (fun j => fI H6119 rq j) x2.toNatClampNeg x6115.toNatClampNeg = V) → (V ≤ x2.toNatClampNeg ^ x6115.toNatClampNeg) → (x6123.toInt ≤ (V : Int) ∨ x6122.toInt = 0) → (∀ j : Nat, (j < 16 * x1.toNatClampNeg ∨ 16 * x1.toNatClampNeg + x6115.toNatClampNeg ≤ j) → fI H6119 gnq j = fI s.heap gnq j) → (∀ i : Nat, i < x6115.toNatClampNeg → fI H6119 gkp i = fI s.heap gnq (16 * x1.toNatClampNeg + i)) → (x6115.toInt = sz.toInt) → W p l e ({ frames := 6, cells := 0, slots := 0, locals := 146 } : Room) s m (([.ref a0, .int x1, .int x2, .int x3] : List Value).toArray) below meth c H6119 locsH6119 0 0 Q (F0 m 59 ls6120 []) := by
        intro nf
        induction nf with
        | zero =>
          intro V ls6120 H6119 locsH6119 x6122 x6123 hl6121 hTH6119 hSH6119 bx6122 bx6123 ex6123 cy6124_0 cy6124_1 cy6124_2 cy6124_3 cy6124_4 by6124_rw mfy6124 gy6124_CG gy6124_TU gy6124_WD gy6124_IM hm59 hV1 hV2 hV3 hro59_gnq hrv59_g hrv59_e
          exfalso
          omega
        | succ nf ih59 =>
          intro V ls6120 H6119 locsH6119 x6122 x6123 hl6121 hTH6119 hSH6119 bx6122 bx6123 ex6123 cy6124_0 cy6124_1 cy6124_2 cy6124_3 cy6124_4 by6124_rw mfy6124 gy6124_CG gy6124_TU gy6124_WD gy6124_IM hm59 hV1 hV2 hV3 hro59_gnq hrv59_g hrv59_e
          have cn0 := i_cl (x := x6115) (Int.le_trans (by decide) bx6115.1)
          have hP : x2.toNatClampNeg ^ x6115.toNatClampNeg ≤ 1024 := pw_le (by have := i_cl (x := x2) (by omega); omega) (by have := i_cl (x := x6115) (by omega); omega)
          have J174 : ∀ (nf : Nat)  (ls6126 : Array Slot) (H6125 : Heap) (locsH6125 : List Loc) (x6128 : Int32) (x6129 : Int32), lv_has ls6126 7 [(0, .ref a0), (1, .int x1), (4, .int x6115), (6, .int x6128)] → TY K G H6125 → va_S (AE G [112, 151, 141, 115, 152, 140, 139] s.heap.size) s.heap H6125 locsH6125 → (0 ≤ x6128.toInt ∧ x6128.toInt ≤ 5) → (0 ≤ x6129.toInt ∧ x6129.toInt ≤ 1024) → (x6129 = fI H6125 a0 (K.1.2 10 56)) → (@Eq Ad slq (fR H6125 a0 (K.1.2 10 4))) → (@Eq Ad rq (fR H6125 a0 (K.1.2 10 45))) → (@Eq Ad gnq (fR H6125 a0 (K.1.2 10 6))) → (@Eq Ad gkp (fR H6125 a0 (K.1.2 10 55))) → (sz = fI H6125 slq (x1 : Int32).toNatClampNeg) → (MF K s.heap H6125 a0 [56]) → (CG (avw K H6125 a0)) → (TU (avw K H6125 a0) (svw K H6125 a0)) → (WD (avw K H6125 a0)) → (IM (avw K H6125 a0)) → (5 - x6128.toInt < (nf : Int)) → (∀ j : Nat, (j < 16 * x1.toNatClampNeg ∨ 16 * x1.toNatClampNeg + x6115.toNatClampNeg ≤ j) → fI H6125 gnq j = fI s.heap gnq j) → (∀ i : Nat, i < x6115.toNatClampNeg → fI H6125 gkp i = fI s.heap gnq (16 * x1.toNatClampNeg + i)) → (x6115.toInt = sz.toInt) → (∀ i : Nat, i < x6128.toNatClampNeg → fI H6125 gnq (16 * x1.toNatClampNeg + i) = fI s.heap gnq (16 * x1.toNatClampNeg + i)) → W p l e ({ frames := 6, cells := 0, slots := 0, locals := 146 } : Room) s m (([.ref a0, .int x1, .int x2, .int x3] : List Value).toArray) below meth c H6125 locsH6125 0 0 Q (F0 m 174 ls6126 []) := by
            intro nf
            induction nf with
            | zero =>
              intro  ls6126 H6125 locsH6125 x6128 x6129 hl6127 hTH6125 hSH6125 bx6128 bx6129 ex6129 cy6130_0 cy6130_1 cy6130_2 cy6130_3 cy6130_4 mfy6130 gy6130_CG gy6130_TU gy6130_WD gy6130_IM hm174 hro174_gnq hrv174_g hrv174_e hrv174_b
              exfalso
              omega
            | succ nf ih174 =>
              intro  ls6126 H6125 locsH6125 x6128 x6129 hl6127 hTH6125 hSH6125 bx6128 bx6129 ex6129 cy6130_0 cy6130_1 cy6130_2 cy6130_3 cy6130_4 mfy6130 gy6130_CG gy6130_TU gy6130_WD gy6130_IM hm174 hro174_gnq hrv174_g hrv174_e hrv174_b
              refine lv_iload hx hb dX10_findsFits_174 (lv_at hl6127 3 rfl) ?_
              refine lv_iload hx hb dX10_findsFits_176 (lv_at hl6127 2 rfl) ?_
              refine lv_icmp_ge (tgt := 206) hx hb dX10_findsFits_178 (by decide) (fun c6131 => ?_) (fun c6131 => ?_)
              · have k6132 := i_le c6131
                have cn_x1 := i_cl (x := x1) (by omega)
                have cn_x6115 := i_cl (x := x6115) (Int.le_trans (by decide) bx6115.1)
                have cn_x6128 := i_cl (x := x6128) bx6128.1
                have fu6133 : ∀ j : Nat, fI H6125 gnq j = fI s.heap gnq j := fun j => if hj : j < 16 * x1.toNatClampNeg ∨ 16 * x1.toNatClampNeg + x6115.toNatClampNeg ≤ j then hro174_gnq j hj else (by have zb := hrv174_b (j - 16 * x1.toNatClampNeg) (by omega); rwa [show 16 * x1.toNatClampNeg + (j - 16 * x1.toNatClampNeg) = j by omega] at zb)
                have cn_sz := i_cl (x := sz) (by omega)
                have cn_x6115 := i_cl (x := x6115) (Int.le_trans (by decide) bx6115.1)
                exact x_vret C hQ dX10_findsFits_206 hSH6125 (by decide) (by decide) (⟨x6129, rfl, ex6129, cy6130_0, cy6130_1, cy6130_2, cy6130_3, gy6130_CG, gy6130_TU, gy6130_WD, gy6130_IM, mfy6130, fu6133, (fun i hi => (hrv174_g i (by omega)).trans (fu6133 _).symm), hTH6125⟩)
              · have k6132 := i_nle c6131
                refine lv_aload_n hx hb dX10_findsFits_181 rfl (lv_at hl6127 0 rfl) ?_
                refine x_gr C hTH6125 (ci := 10) (k := 6) rfl inX10 (by decide) wF_X10_20 ga0 rg_112 rfl dX10_findsFits_182 (fun q6134 eq6134 gq6134 => ?_)
                have uq6134 : gnq = q6134 := (cy6130_2).trans eq6134.symm
                subst uq6134
                refine lv_bipush (v := 16) hx hb dX10_findsFits_185 (by decide) ?_
                refine lv_iload_n hx hb dX10_findsFits_187 rfl (lv_at hl6127 1 rfl) ?_
                refine lv_imul hx hb dX10_findsFits_188 ?_
                refine lv_topi (fun x6135 ex6135 => ?_)
                have tx6135 := i_mul ex6135 (by rw [n_16]; omega)
                rw [n_16] at tx6135
                refine lv_iload hx hb dX10_findsFits_189 (lv_at hl6127 3 rfl) ?_
                refine lv_iadd hx hb dX10_findsFits_191 ?_
                refine lv_topi (fun x6136 ex6136 => ?_)
                have tx6136 := i_add ex6136 (by omega)
                refine lv_aload_n hx hb dX10_findsFits_192 rfl (lv_at hl6127 0 rfl) ?_
                refine x_gr C hTH6125 (ci := 10) (k := 55) rfl inX10 (by decide) wF_X10_131 ga0 rg_112 rfl dX10_findsFits_193 (fun q6137 eq6137 gq6137 => ?_)
                have uq6137 : gkp = q6137 := (cy6130_3).trans eq6137.symm
                subst uq6137
                refine lv_iload hx hb dX10_findsFits_196 (lv_at hl6127 3 rfl) ?_
                refine x_ai C hTH6125 ggkp rg_151 ⟨bx6128.1, by show _ < ((5 : Nat) : Int); omega⟩ dX10_findsFits_198 (fun x6138 ex6138 bx6138 => ?_)
                refine x_iast C hTH6125 hSH6125 ggnq rg_115 (by omega) (by show _ < ((160 : Nat) : Int); omega) (i_rng x6138) (AE_in ggnq (by decide)) dX10_findsFits_199 (fun H6139 locsH6139 hTH6139 hSH6139 wH6139 => ?_)
                have mf6140 : MF K s.heap H6139 a0 [56] := MF.arr wH6139 (G_ne ga0 ggnq (by decide)) mfy6130
                have g6141 : CG (avw K H6139 a0) := CG.congr (fun k hk j => av_arr hTH6125 ga0 wH6139 ggnq (by decide) (CG_ok 115 (by decide) k hk)) gy6130_CG
                have g6142 : TU (avw K H6139 a0) (svw K H6139 a0) := TU.congr (fun k hk j => av_arr hTH6125 ga0 wH6139 ggnq (by decide) (TU_ok 115 (by decide) k hk)) (fun k hk => sv_arr ga0 wH6139 ggnq (by decide)) gy6130_TU
                have g6143 : WD (avw K H6139 a0) := WD.congr (fun k hk j => av_arr hTH6125 ga0 wH6139 ggnq (by decide) (WD_ok 115 (by decide) k hk)) gy6130_WD
                have g6144 : IM (avw K H6139 a0) := IM.congr (fun k hk j => av_arr hTH6125 ga0 wH6139 ggnq (by decide) (IM_ok 115 (by decide) k hk)) gy6130_IM
                have m6145 := ex6129.trans (Wr.neI wH6139 (Or.inl (G_ne ga0 ggnq (by decide)))).symm
                have m6146 := cy6130_0.trans (Wr.neR wH6139 (Or.inl (G_ne ga0 ggnq (by decide)))).symm
                have m6147 := cy6130_1.trans (Wr.neR wH6139 (Or.inl (G_ne ga0 ggnq (by decide)))).symm
                have m6148 := cy6130_2.trans (Wr.neR wH6139 (Or.inl (G_ne ga0 ggnq (by decide)))).symm
                have m6149 := cy6130_3.trans (Wr.neR wH6139 (Or.inl (G_ne ga0 ggnq (by decide)))).symm
                have m6150 := cy6130_4.trans (Wr.neI wH6139 (Or.inl (G_ne gslq ggnq (by decide)))).symm
                have m6151 := ex6138.trans (Wr.neI wH6139 (Or.inl (G_ne ggkp ggnq (by decide)))).symm
                have m6152 := Wr.I wH6139
                have m6152 := m6152.symm
                have cn_x1 := i_cl (x := x1) (by omega)
                have cn_x6115 := i_cl (x := x6115) (Int.le_trans (by decide) bx6115.1)
                have cn_x6136 := i_cl (x := x6136) (by omega)
                have ro6153 : ∀ j : Nat, (j < 16 * x1.toNatClampNeg ∨ 16 * x1.toNatClampNeg + x6115.toNatClampNeg ≤ j) → fI H6139 gnq j = fI s.heap gnq j := fun j hj => (Wr.neI wH6139 (Or.inr (by omega))).trans (hro174_gnq j hj)
                have rv6154 : ∀ i : Nat, i < x6115.toNatClampNeg → fI H6139 gkp i = fI s.heap gnq (16 * x1.toNatClampNeg + i) := (fun i hi => (Wr.neI wH6139 (Or.inl (G_ne ggkp ggnq (by decide)))).trans (hrv174_g i hi))
                have rv6155 : x6115.toInt = sz.toInt := hrv174_e
                have cn_x6128 := i_cl (x := x6128) bx6128.1
                have cn_x6115 := i_cl (x := x6115) (Int.le_trans (by decide) bx6115.1)
                have cn_x6128 := i_cl (x := x6128) bx6128.1
                have rg6156 : x6138 = fI s.heap gnq (16 * x1.toNatClampNeg + x6128.toNatClampNeg) := ex6138.trans (hrv174_g _ (by omega))
                have cn_x6128 := i_cl (x := x6128) bx6128.1
                have rv6157 : ∀ i : Nat, i < x6128.toNatClampNeg + 1 → fI H6139 gnq (16 * x1.toNatClampNeg + i) = fI s.heap gnq (16 * x1.toNatClampNeg + i) := fun i hi => if hj : i = x6128.toNatClampNeg then (by subst hj; rw [← (show x6136.toNatClampNeg = 16 * x1.toNatClampNeg + x6128.toNatClampNeg by omega)]; rw [Wr.I wH6139, show x6136.toNatClampNeg = 16 * x1.toNatClampNeg + x6128.toNatClampNeg by omega]; exact rg6156) else (Wr.neI wH6139 (Or.inr (by omega))).trans (hrv174_b i (by omega))
                obtain ⟨x6158, ex6158⟩ : ∃ y : Int32, y = x6128 + 1 := ⟨_, rfl⟩
                have tx6158 := i_add ex6158 (by omega)
                refine lv_iinc (v := x6158) (lv' := [(6, .int x6158), (0, .ref a0), (1, .int x1), (4, .int x6115)]) hx hb dX10_findsFits_200 hl6127 (k := 3) rfl (by rw [ex6158]; rfl) (by decide) rfl (fun ls6159 hl6160 => ?_)
                refine lv_goto (tgt := 174) hx hb dX10_findsFits_203 (by decide) ?_
                have cn_x6115 := i_cl (x := x6115) (Int.le_trans (by decide) bx6115.1)
                have cn_sz := i_cl (x := sz) (by omega)
                have cn_x6128 := i_cl (x := x6128) bx6128.1
                have cn_x6158 := i_cl (x := x6158) (by omega)
                exact ih174  ls6159 H6139 locsH6139 (x6158) (x6129) (lv_sub hl6160 [1, 2, 3, 0] rfl) hTH6139 hSH6139 (by have := i_rng x6158; omega) bx6129 m6145 m6146 m6147 m6148 m6149 m6150 mf6140 g6141 g6142 g6143 g6144 (by omega) ro6153 (fun i hi => rv6154 i (by omega)) rv6155 (fun i hi => rv6157 i (by omega))
          have J67 : ∀ (nf : Nat)  (ls6162 : Array Slot) (H6161 : Heap) (locsH6161 : List Loc) (x6164 : Int32) (x6165 : Int32), lv_has ls6162 7 [(0, .ref a0), (1, .int x1), (2, .int x2), (3, .int x3), (4, .int x6115), (6, .int x6164)] → TY K G H6161 → va_S (AE G [112, 151, 141, 115, 152, 140, 139] s.heap.size) s.heap H6161 locsH6161 → (0 ≤ x6164.toInt ∧ x6164.toInt ≤ 5) → (0 ≤ x6165.toInt ∧ x6165.toInt ≤ 1024) → (x6165 = fI H6161 a0 (K.1.2 10 56)) → (@Eq Ad slq (fR H6161 a0 (K.1.2 10 4))) → (@Eq Ad rq (fR H6161 a0 (K.1.2 10 45))) → (@Eq Ad gnq (fR H6161 a0 (K.1.2 10 6))) → (@Eq Ad gkp (fR H6161 a0 (K.1.2 10 55))) → (sz = fI H6161 slq (x1 : Int32).toNatClampNeg) → (AB H6161 rq (x6115.toNatClampNeg) (0) (x2.toInt - 1)) → (dval (fun j => fI H6161 rq j) (x2.toNatClampNeg) (x6115.toNatClampNeg) = V) → (MF K s.heap H6161 a0 [56]) → (CG (avw K H6161 a0)) → (TU (avw K H6161 a0) (svw K H6161 a0)) → (WD (avw K H6161 a0)) → (IM (avw K H6161 a0)) → (5 - x6164.toInt < (nf : Int)) → (x6165.toInt ≤ (V : Int) ∧ V ≤ 1023 ∧ 1 ≤ x6122.toInt) → (∀ j : Nat, (j < 16 * x1.toNatClampNeg ∨ 16 * x1.toNatClampNeg + x6115.toNatClampNeg ≤ j) → fI H6161 gnq j = fI s.heap gnq j) → (∀ i : Nat, i < x6115.toNatClampNeg → fI H6161 gkp i = fI s.heap gnq (16 * x1.toNatClampNeg + i)) → (x6115.toInt = sz.toInt) → W p l e ({ frames := 6, cells := 0, slots := 0, locals := 146 } : Room) s m (([.ref a0, .int x1, .int x2, .int x3] : List Value).toArray) below meth c H6161 locsH6161 0 0 Q (F0 m 67 ls6162 []) := by
            intro nf
            induction nf with
            | zero =>
              intro  ls6162 H6161 locsH6161 x6164 x6165 hl6163 hTH6161 hSH6161 bx6164 bx6165 ex6165 cy6166_0 cy6166_1 cy6166_2 cy6166_3 cy6166_4 by6166_rw by6166_dv mfy6166 gy6166_CG gy6166_TU gy6166_WD gy6166_IM hm67 iv67 hro67_gnq hrv67_g hrv67_e
              exfalso
              omega
            | succ nf ih67 =>
              intro  ls6162 H6161 locsH6161 x6164 x6165 hl6163 hTH6161 hSH6161 bx6164 bx6165 ex6165 cy6166_0 cy6166_1 cy6166_2 cy6166_3 cy6166_4 by6166_rw by6166_dv mfy6166 gy6166_CG gy6166_TU gy6166_WD gy6166_IM hm67 iv67 hro67_gnq hrv67_g hrv67_e
              have J159 : ∀  (ls6168 : Array Slot) (H6167 : Heap) (locsH6167 : List Loc) (x6170 : Int32), lv_has ls6168 7 [(0, .ref a0), (1, .int x1), (2, .int x2), (3, .int x3), (4, .int x6115)] → TY K G H6167 → va_S (AE G [112, 151, 141, 115, 152, 140, 139] s.heap.size) s.heap H6167 locsH6167 → (0 ≤ x6170.toInt ∧ x6170.toInt ≤ 1024) → (x6170 = fI H6167 a0 (K.1.2 10 56)) → (@Eq Ad slq (fR H6167 a0 (K.1.2 10 4))) → (@Eq Ad rq (fR H6167 a0 (K.1.2 10 45))) → (@Eq Ad gnq (fR H6167 a0 (K.1.2 10 6))) → (@Eq Ad gkp (fR H6167 a0 (K.1.2 10 55))) → (sz = fI H6167 slq (x1 : Int32).toNatClampNeg) → (AB H6167 rq (x6115.toNatClampNeg) (0) (x2.toInt - 1)) → (dval (fun j => fI H6167 rq j) (x2.toNatClampNeg) (x6115.toNatClampNeg) = V) → (MF K s.heap H6167 a0 [56]) → (CG (avw K H6167 a0)) → (TU (avw K H6167 a0) (svw K H6167 a0)) → (WD (avw K H6167 a0)) → (IM (avw K H6167 a0)) → (x6170.toInt ≤ (V : Int) + 1) → (∀ j : Nat, (j < 16 * x1.toNatClampNeg ∨ 16 * x1.toNatClampNeg + x6115.toNatClampNeg ≤ j) → fI H6167 gnq j = fI s.heap gnq j) → (∀ i : Nat, i < x6115.toNatClampNeg → fI H6167 gkp i = fI s.heap gnq (16 * x1.toNatClampNeg + i)) → (x6115.toInt = sz.toInt) → W p l e ({ frames := 6, cells := 0, slots := 0, locals := 146 } : Room) s m (([.ref a0, .int x1, .int x2, .int x3] : List Value).toArray) below meth c H6167 locsH6167 0 0 Q (F0 m 159 ls6168 []) := by
                intro  ls6168 H6167 locsH6167 x6170 hl6169 hTH6167 hSH6167 bx6170 ex6170 cy6171_0 cy6171_1 cy6171_2 cy6171_3 cy6171_4 by6171_rw by6171_dv mfy6171 gy6171_CG gy6171_TU gy6171_WD gy6171_IM iv159 hro159_gnq hrv159_g hrv159_e
                refine lv_aload_n hx hb dX10_findsFits_159 rfl (lv_at hl6169 0 rfl) ?_
                refine lv_iload hx hb dX10_findsFits_160 (lv_at hl6169 4 rfl) ?_
                refine lv_iload_n hx hb dX10_findsFits_162 rfl (lv_at hl6169 2 rfl) ?_
                refine x_V (As := [.int x6115, .int x2]) (rest := []) C (a_X10_goesOn l K G H6167 (x6115) (x2) hTH6167 ga0 (by omega) (by omega) grq cy6171_1 (AB.weak by6171_rw (by omega) (by omega) (by omega))) yo_X10_goesOn wM_X10_368 ⟨⟨by decide, by decide⟩, by decide, by decide⟩ (x_rv C hTH6167 (ci := 10) rfl ga0 rg_112) rfl hl6169.1 rfl (Nat.le_of_ble_eq_true rfl) dX10_findsFits_163 hSH6167 (AE_sub (fun _ _ => rfl) (by decide) hSH6167.1) (fun vH6172 H6172 locsH6172 pH6172 zH6172 kH6172 hSH6172 => ?_)
                obtain ⟨x6173, hvH6172, bx6173, b6174, m6175, hTH6172⟩ := pH6172
                subst hvH6172
                have mf6176 : MF K s.heap H6172 a0 [56] := MF.eff (x_lt hTH6167 kH6172 ga0 (by decide)) mfy6171
                have g6177 : CG (avw K H6172 a0) := CG.congr (fun k hk j => av_eff hTH6167 kH6172 ga0 (by decide) (CG_eff [141] (by decide) k hk)) gy6171_CG
                have g6178 : TU (avw K H6172 a0) (svw K H6172 a0) := TU.congr (fun k hk j => av_eff hTH6167 kH6172 ga0 (by decide) (TU_eff [141] (by decide) k hk)) (fun k hk => sv_eff hTH6167 kH6172 ga0 (by decide)) gy6171_TU
                have g6179 : WD (avw K H6172 a0) := WD.congr (fun k hk j => av_eff hTH6167 kH6172 ga0 (by decide) (WD_eff [141] (by decide) k hk)) gy6171_WD
                have g6180 : IM (avw K H6172 a0) := IM.congr (fun k hk j => av_eff hTH6167 kH6172 ga0 (by decide) (IM_eff [141] (by decide) k hk)) gy6171_IM
                have m6181 := (ex6170).trans (fI_kept (x_lt hTH6167 kH6172 ga0 (by decide))).symm
                have m6182 := (cy6171_0).trans (fR_kept (x_lt hTH6167 kH6172 ga0 (by decide))).symm
                have m6183 := (cy6171_1).trans (fR_kept (x_lt hTH6167 kH6172 ga0 (by decide))).symm
                have m6184 := (cy6171_2).trans (fR_kept (x_lt hTH6167 kH6172 ga0 (by decide))).symm
                have m6185 := (cy6171_3).trans (fR_kept (x_lt hTH6167 kH6172 ga0 (by decide))).symm
                have m6186 := (cy6171_4).trans (fI_kept (x_lt hTH6167 kH6172 gslq (by decide))).symm
                have ro6187 : ∀ j : Nat, (j < 16 * x1.toNatClampNeg ∨ 16 * x1.toNatClampNeg + x6115.toNatClampNeg ≤ j) → fI H6172 gnq j = fI s.heap gnq j := fun j hj => (fI_kept (x_lt hTH6167 kH6172 ggnq (by decide))).trans (hro159_gnq j hj)
                have rv6188 : ∀ i : Nat, i < x6115.toNatClampNeg → fI H6172 gkp i = fI s.heap gnq (16 * x1.toNatClampNeg + i) := (fun i hi => (fI_kept (x_lt hTH6167 kH6172 ggkp (by decide))).trans (hrv159_g i hi))
                have rv6189 : x6115.toInt = sz.toInt := hrv159_e
                refine W.eq (g2 := F0 m 166 ls6168 [.int x6173]) rfl ?_
                refine lv_istore (lv' := [(5, .int x6173), (0, .ref a0), (1, .int x1), (2, .int x2), (3, .int x3), (4, .int x6115)]) hx hb dX10_findsFits_166 hl6169 (by decide) rfl (fun ls6190 hl6191 => ?_)
                refine lv_goto (tgt := 59) hx hb dX10_findsFits_168 (by decide) ?_
                have cl_x6115 := cn0
                have cg := i_cl (x := x6173) bx6173.1
                have hlt := dval_lt (m := x2.toNatClampNeg) b6174 (by omega)
                have hgo := m6175
                have hdv := by6171_dv
                have cn_x1 := i_cl (x := x1) (by omega)
                have cn_x6115 := i_cl (x := x6115) (Int.le_trans (by decide) bx6115.1)
                have cn_sz := i_cl (x := sz) (by omega)
                exact ih59 (V + x6173.toNatClampNeg) ls6190 H6172 locsH6172 (x6173) (x6170) (lv_sub hl6191 [1, 2, 3, 4, 5, 0] rfl) hTH6172 hSH6172 bx6173 bx6170 m6181 m6182 m6183 m6184 m6185 m6186 (AB.weak b6174 (by omega) (by omega) (by omega)) mf6176 g6177 g6178 g6179 g6180 (by omega) (by omega) (by omega) (by omega) ro6187 (fun i hi => rv6188 i (by omega)) rv6189
              have J113 : ∀ (nf : Nat)  (ls6193 : Array Slot) (H6192 : Heap) (locsH6192 : List Loc) (x6195 : Int32) (x6196 : Int32), lv_has ls6193 7 [(0, .ref a0), (1, .int x1), (2, .int x2), (3, .int x3), (4, .int x6115), (6, .int x6195)] → TY K G H6192 → va_S (AE G [112, 151, 141, 115, 152, 140, 139] s.heap.size) s.heap H6192 locsH6192 → (0 ≤ x6195.toInt ∧ x6195.toInt ≤ 5) → (0 ≤ x6196.toInt ∧ x6196.toInt ≤ 1024) → (x6196 = fI H6192 a0 (K.1.2 10 56)) → (@Eq Ad slq (fR H6192 a0 (K.1.2 10 4))) → (@Eq Ad rq (fR H6192 a0 (K.1.2 10 45))) → (@Eq Ad gnq (fR H6192 a0 (K.1.2 10 6))) → (@Eq Ad gkp (fR H6192 a0 (K.1.2 10 55))) → (sz = fI H6192 slq (x1 : Int32).toNatClampNeg) → (AB H6192 rq (x6115.toNatClampNeg) (0) (x2.toInt - 1)) → (dval (fun j => fI H6192 rq j) (x2.toNatClampNeg) (x6115.toNatClampNeg) = V) → (MF K s.heap H6192 a0 [56]) → (CG (avw K H6192 a0)) → (TU (avw K H6192 a0) (svw K H6192 a0)) → (WD (avw K H6192 a0)) → (IM (avw K H6192 a0)) → (5 - x6195.toInt < (nf : Int)) → (x6196.toInt ≤ (V : Int) ∧ V ≤ 1023) → (∀ j : Nat, (j < 16 * x1.toNatClampNeg ∨ 16 * x1.toNatClampNeg + x6115.toNatClampNeg ≤ j) → fI H6192 gnq j = fI s.heap gnq j) → (∀ i : Nat, i < x6115.toNatClampNeg → fI H6192 gkp i = fI s.heap gnq (16 * x1.toNatClampNeg + i)) → (x6115.toInt = sz.toInt) → W p l e ({ frames := 6, cells := 0, slots := 0, locals := 146 } : Room) s m (([.ref a0, .int x1, .int x2, .int x3] : List Value).toArray) below meth c H6192 locsH6192 0 0 Q (F0 m 113 ls6193 []) := by
                intro nf
                induction nf with
                | zero =>
                  intro  ls6193 H6192 locsH6192 x6195 x6196 hl6194 hTH6192 hSH6192 bx6195 bx6196 ex6196 cy6197_0 cy6197_1 cy6197_2 cy6197_3 cy6197_4 by6197_rw by6197_dv mfy6197 gy6197_CG gy6197_TU gy6197_WD gy6197_IM hm113 iv113 hro113_gnq hrv113_g hrv113_e
                  exfalso
                  omega
                | succ nf ih113 =>
                  intro  ls6193 H6192 locsH6192 x6195 x6196 hl6194 hTH6192 hSH6192 bx6195 bx6196 ex6196 cy6197_0 cy6197_1 cy6197_2 cy6197_3 cy6197_4 by6197_rw by6197_dv mfy6197 gy6197_CG gy6197_TU gy6197_WD gy6197_IM hm113 iv113 hro113_gnq hrv113_g hrv113_e
                  refine lv_iload hx hb dX10_findsFits_113 (lv_at hl6194 5 rfl) ?_
                  refine lv_iload hx hb dX10_findsFits_115 (lv_at hl6194 4 rfl) ?_
                  refine lv_icmp_ge (tgt := 149) hx hb dX10_findsFits_117 (by decide) (fun c6198 => ?_) (fun c6198 => ?_)
                  · have k6199 := i_le c6198
                    refine lv_aload_n hx hb dX10_findsFits_149 rfl (lv_at hl6194 0 rfl) ?_
                    refine lv_aload_n hx hb dX10_findsFits_150 rfl (lv_at hl6194 0 rfl) ?_
                    refine x_gi C hTH6192 (ci := 10) (k := 56) rfl inX10 (by decide) wF_X10_378 ga0 rg_112 rfl dX10_findsFits_151 (fun x6200 ex6200 bx6200 => ?_)
                    have ux6200 : x6196 = x6200 := (ex6196).trans ex6200.symm
                    subst ux6200
                    refine lv_iconst (v := 1) hx hb dX10_findsFits_154 (by decide) ?_
                    refine lv_iadd hx hb dX10_findsFits_155 ?_
                    refine lv_topi (fun x6201 ex6201 => ?_)
                    have tx6201 := i_add ex6201 (by omega)
                    have fz6203 : 0 ≤ x6201.toInt ∧ x6201.toInt ≤ 1024 := by have := i_rng x6201; omega
                    refine x_put C hTH6192 hSH6192 (ci := 10) (k := 56) (v := .int x6201) (ty0 := tyX10) rfl inX10 tyX10_ok nmX10 (by decide) rfl wF_X10_378 ga0 rg_112 rfl rfl (okI fz6203.1 fz6203.2) rfl rfl (AE_in ga0 (by decide)) dX10_findsFits_156 (fun H6202 locsH6202 hTH6202 hSH6202 wH6202 => ?_)
                    have mf6204 : MF K s.heap H6202 a0 [56] := MF.fld hap wH6202 (by decide) (by decide) mfy6197
                    have g6205 : CG (avw K H6202 a0) := CG.congr (fun k hk j => av_fld hTH6192 ga0 hap wH6202 (by decide) (CG_ok 112 (by decide) k hk) (CG_ne 56 (by decide) k hk)) gy6197_CG
                    have g6206 : TU (avw K H6202 a0) (svw K H6202 a0) := TU.congr (fun k hk j => av_fld hTH6192 ga0 hap wH6202 (by decide) (TU_ok 112 (by decide) k hk) (TU_ne 56 (by decide) k hk)) (fun k hk => sv_fld hap wH6202 (by decide) (TU_slt k hk) (TU_sne 56 (by decide) k hk)) gy6197_TU
                    have g6207 : WD (avw K H6202 a0) := WD.congr (fun k hk j => av_fld hTH6192 ga0 hap wH6202 (by decide) (WD_ok 112 (by decide) k hk) (WD_ne 56 (by decide) k hk)) gy6197_WD
                    have g6208 : IM (avw K H6202 a0) := IM.congr (fun k hk j => av_fld hTH6192 ga0 hap wH6202 (by decide) (IM_ok 112 (by decide) k hk) (IM_ne 56 (by decide) k hk)) gy6197_IM
                    have b6209 : AB H6202 rq (x6115.toNatClampNeg) (0) (x2.toInt - 1) := AB.kept (fun j => Wr.neI wH6202 (Or.inl (G_ne grq ga0 (by decide)))) by6197_rw
                    have b6210 : dval (fun j => fI H6202 rq j) (x2.toNatClampNeg) (x6115.toNatClampNeg) = V := (dval_congr (fun j => Wr.neI wH6202 (Or.inl (G_ne grq ga0 (by decide))))).trans by6197_dv
                    have m6212 := cy6197_0.trans (Wr.neR wH6202 (Or.inr (x_apart hKT hts inX10 tyX10 tyX10_ok nmX10 rfl 4 56 (by decide) (by decide) (by decide)))).symm
                    have m6213 := cy6197_1.trans (Wr.neR wH6202 (Or.inr (x_apart hKT hts inX10 tyX10 tyX10_ok nmX10 rfl 45 56 (by decide) (by decide) (by decide)))).symm
                    have m6214 := cy6197_2.trans (Wr.neR wH6202 (Or.inr (x_apart hKT hts inX10 tyX10 tyX10_ok nmX10 rfl 6 56 (by decide) (by decide) (by decide)))).symm
                    have m6215 := cy6197_3.trans (Wr.neR wH6202 (Or.inr (x_apart hKT hts inX10 tyX10 tyX10_ok nmX10 rfl 55 56 (by decide) (by decide) (by decide)))).symm
                    have m6216 := cy6197_4.trans (Wr.neI wH6202 (Or.inl (G_ne gslq ga0 (by decide)))).symm
                    have m6217 := Wr.I wH6202
                    have m6217 := m6217.symm
                    have ro6218 : ∀ j : Nat, (j < 16 * x1.toNatClampNeg ∨ 16 * x1.toNatClampNeg + x6115.toNatClampNeg ≤ j) → fI H6202 gnq j = fI s.heap gnq j := fun j hj => (Wr.neI wH6202 (Or.inl (G_ne ggnq ga0 (by decide)))).trans (hro113_gnq j hj)
                    have rv6219 : ∀ i : Nat, i < x6115.toNatClampNeg → fI H6202 gkp i = fI s.heap gnq (16 * x1.toNatClampNeg + i) := (fun i hi => (Wr.neI wH6202 (Or.inl (G_ne ggkp ga0 (by decide)))).trans (hrv113_g i hi))
                    have rv6220 : x6115.toInt = sz.toInt := hrv113_e
                    have cl_x6115 := cn0
                    have cl_x2 := hx2n
                    have cl_x6115 := cn0
                    have cn_x1 := i_cl (x := x1) (by omega)
                    have cn_x6115 := i_cl (x := x6115) (Int.le_trans (by decide) bx6115.1)
                    have cn_sz := i_cl (x := sz) (by omega)
                    exact J159  ls6193 H6202 locsH6202 (x6201) (lv_sub hl6194 [0, 1, 2, 3, 4] rfl) hTH6202 hSH6202 (by have := i_rng x6201; omega) m6217 m6212 m6213 m6214 m6215 m6216 (AB.weak b6209 (by omega) (by omega) (by omega)) (b6210.trans (by omega)) mf6204 g6205 g6206 g6207 g6208 (by omega) ro6218 (fun i hi => rv6219 i (by omega)) rv6220
                  · have k6199 := i_nle c6198
                    refine lv_aload_n hx hb dX10_findsFits_120 rfl (lv_at hl6194 0 rfl) ?_
                    refine x_gr C hTH6192 (ci := 10) (k := 57) rfl inX10 (by decide) wF_X10_134 ga0 rg_112 rfl dX10_findsFits_121 (fun q6221 eq6221 gq6221 => ?_)
                    replace eq6221 : @Eq Ad q6221 (fR H6192 a0 (K.1.2 10 57)) := eq6221
                    refine lv_iconst (v := 5) hx hb dX10_findsFits_124 (by decide) ?_
                    refine lv_aload_n hx hb dX10_findsFits_125 rfl (lv_at hl6194 0 rfl) ?_
                    refine x_gi C hTH6192 (ci := 10) (k := 56) rfl inX10 (by decide) wF_X10_378 ga0 rg_112 rfl dX10_findsFits_126 (fun x6222 ex6222 bx6222 => ?_)
                    have ux6222 : x6196 = x6222 := (ex6196).trans ex6222.symm
                    subst ux6222
                    refine lv_imul hx hb dX10_findsFits_129 ?_
                    refine lv_topi (fun x6223 ex6223 => ?_)
                    have tx6223 := i_mul ex6223 (by rw [n_5]; omega)
                    rw [n_5] at tx6223
                    refine lv_iload hx hb dX10_findsFits_130 (lv_at hl6194 5 rfl) ?_
                    refine lv_iadd hx hb dX10_findsFits_132 ?_
                    refine lv_topi (fun x6224 ex6224 => ?_)
                    have tx6224 := i_add ex6224 (by omega)
                    refine lv_aload_n hx hb dX10_findsFits_133 rfl (lv_at hl6194 0 rfl) ?_
                    refine x_gr C hTH6192 (ci := 10) (k := 45) rfl inX10 (by decide) wF_X10_101 ga0 rg_112 rfl dX10_findsFits_134 (fun q6225 eq6225 gq6225 => ?_)
                    have uq6225 : rq = q6225 := (cy6197_1).trans eq6225.symm
                    subst uq6225
                    refine lv_iload hx hb dX10_findsFits_137 (lv_at hl6194 5 rfl) ?_
                    refine x_ai C hTH6192 grq rg_141 ⟨bx6195.1, by show _ < ((5 : Nat) : Int); omega⟩ dX10_findsFits_139 (fun x6226 ex6226 bx6226 => ?_)
                    have clx6226 := i_cl (x := x6195) bx6195.1
                    have abx6226 := (by6197_rw).at ex6226 (by omega)
                    refine lv_iconst (v := 1) hx hb dX10_findsFits_140 (by decide) ?_
                    refine lv_iadd hx hb dX10_findsFits_141 ?_
                    refine lv_topi (fun x6227 ex6227 => ?_)
                    have tx6227 := i_add ex6227 (by omega)
                    refine x_iast C hTH6192 hSH6192 gq6221 rg_152 (by omega) (by show _ < ((5120 : Nat) : Int); omega) (i_rng x6227) (AE_in gq6221 (by decide)) dX10_findsFits_142 (fun H6228 locsH6228 hTH6228 hSH6228 wH6228 => ?_)
                    have mf6229 : MF K s.heap H6228 a0 [56] := MF.arr wH6228 (G_ne ga0 gq6221 (by decide)) mfy6197
                    have g6230 : CG (avw K H6228 a0) := CG.congr (fun k hk j => av_arr hTH6192 ga0 wH6228 gq6221 (by decide) (CG_ok 152 (by decide) k hk)) gy6197_CG
                    have g6231 : TU (avw K H6228 a0) (svw K H6228 a0) := TU.congr (fun k hk j => av_arr hTH6192 ga0 wH6228 gq6221 (by decide) (TU_ok 152 (by decide) k hk)) (fun k hk => sv_arr ga0 wH6228 gq6221 (by decide)) gy6197_TU
                    have g6232 : WD (avw K H6228 a0) := WD.congr (fun k hk j => av_arr hTH6192 ga0 wH6228 gq6221 (by decide) (WD_ok 152 (by decide) k hk)) gy6197_WD
                    have g6233 : IM (avw K H6228 a0) := IM.congr (fun k hk j => av_arr hTH6192 ga0 wH6228 gq6221 (by decide) (IM_ok 152 (by decide) k hk)) gy6197_IM
                    have b6234 : AB H6228 rq (x6115.toNatClampNeg) (0) (x2.toInt - 1) := AB.kept (fun j => Wr.neI wH6228 (Or.inl (G_ne grq gq6221 (by decide)))) by6197_rw
                    have b6235 : dval (fun j => fI H6228 rq j) (x2.toNatClampNeg) (x6115.toNatClampNeg) = V := (dval_congr (fun j => Wr.neI wH6228 (Or.inl (G_ne grq gq6221 (by decide))))).trans by6197_dv
                    have m6236 := ex6196.trans (Wr.neI wH6228 (Or.inl (G_ne ga0 gq6221 (by decide)))).symm
                    have m6237 := cy6197_0.trans (Wr.neR wH6228 (Or.inl (G_ne ga0 gq6221 (by decide)))).symm
                    have m6238 := cy6197_1.trans (Wr.neR wH6228 (Or.inl (G_ne ga0 gq6221 (by decide)))).symm
                    have m6239 := cy6197_2.trans (Wr.neR wH6228 (Or.inl (G_ne ga0 gq6221 (by decide)))).symm
                    have m6240 := cy6197_3.trans (Wr.neR wH6228 (Or.inl (G_ne ga0 gq6221 (by decide)))).symm
                    have m6241 := cy6197_4.trans (Wr.neI wH6228 (Or.inl (G_ne gslq gq6221 (by decide)))).symm
                    have m6242 := eq6221.trans (Wr.neR wH6228 (Or.inl (G_ne ga0 gq6221 (by decide)))).symm
                    have m6243 := ex6226.trans (Wr.neI wH6228 (Or.inl (G_ne grq gq6221 (by decide)))).symm
                    have m6244 := Wr.I wH6228
                    have m6244 := m6244.symm
                    have ro6245 : ∀ j : Nat, (j < 16 * x1.toNatClampNeg ∨ 16 * x1.toNatClampNeg + x6115.toNatClampNeg ≤ j) → fI H6228 gnq j = fI s.heap gnq j := fun j hj => (Wr.neI wH6228 (Or.inl (G_ne ggnq gq6221 (by decide)))).trans (hro113_gnq j hj)
                    have rv6246 : ∀ i : Nat, i < x6115.toNatClampNeg → fI H6228 gkp i = fI s.heap gnq (16 * x1.toNatClampNeg + i) := (fun i hi => (Wr.neI wH6228 (Or.inl (G_ne ggkp gq6221 (by decide)))).trans (hrv113_g i hi))
                    have rv6247 : x6115.toInt = sz.toInt := hrv113_e
                    obtain ⟨x6248, ex6248⟩ : ∃ y : Int32, y = x6195 + 1 := ⟨_, rfl⟩
                    have tx6248 := i_add ex6248 (by omega)
                    refine lv_iinc (v := x6248) (lv' := [(6, .int x6248), (0, .ref a0), (1, .int x1), (2, .int x2), (3, .int x3), (4, .int x6115)]) hx hb dX10_findsFits_143 hl6194 (k := 5) rfl (by rw [ex6248]; rfl) (by decide) rfl (fun ls6249 hl6250 => ?_)
                    refine lv_goto (tgt := 113) hx hb dX10_findsFits_146 (by decide) ?_
                    have cl_x6115 := cn0
                    have cl_x2 := hx2n
                    have cl_x6115 := cn0
                    have cn_x1 := i_cl (x := x1) (by omega)
                    have cn_x6115 := i_cl (x := x6115) (Int.le_trans (by decide) bx6115.1)
                    have cn_sz := i_cl (x := sz) (by omega)
                    exact ih113  ls6249 H6228 locsH6228 (x6248) (x6196) (lv_sub hl6250 [1, 2, 3, 4, 5, 0] rfl) hTH6228 hSH6228 (by have := i_rng x6248; omega) bx6196 m6236 m6237 m6238 m6239 m6240 m6241 (AB.weak b6234 (by omega) (by omega) (by omega)) (b6235.trans (by omega)) mf6229 g6230 g6231 g6232 g6233 (by omega) (by omega) ro6245 (fun i hi => rv6246 i (by omega)) rv6247
              refine lv_iload hx hb dX10_findsFits_67 (lv_at hl6163 5 rfl) ?_
              refine lv_iload hx hb dX10_findsFits_69 (lv_at hl6163 4 rfl) ?_
              refine lv_icmp_ge (tgt := 101) hx hb dX10_findsFits_71 (by decide) (fun c6251 => ?_) (fun c6251 => ?_)
              · have k6252 := i_le c6251
                refine lv_aload_n hx hb dX10_findsFits_101 rfl (lv_at hl6163 0 rfl) ?_
                refine lv_iload_n hx hb dX10_findsFits_102 rfl (lv_at hl6163 1 rfl) ?_
                refine lv_iload_n hx hb dX10_findsFits_103 rfl (lv_at hl6163 3 rfl) ?_
                refine x_V (As := [.int x1, .int x3]) (rest := []) C (a_X10_fitsAll l K G H6161 (x1) (x3) hTH6161 ga0 (by omega) gy6166_CG) yo_X10_fitsAll wM_X10_381 ⟨⟨by decide, by decide⟩, by decide, by decide⟩ (x_rv C hTH6161 (ci := 10) rfl ga0 rg_112) rfl hl6163.1 rfl (Nat.le_of_ble_eq_true rfl) dX10_findsFits_104 hSH6161 (AE_sub (fun _ _ => rfl) (by decide) hSH6161.1) (fun vH6253 H6253 locsH6253 pH6253 zH6253 kH6253 hSH6253 => ?_)
                obtain ⟨x6254, hvH6253, bx6254, hTH6253⟩ := pH6253
                subst hvH6253
                have mf6255 : MF K s.heap H6253 a0 [56] := MF.eff (x_lt hTH6161 kH6253 ga0 (by decide)) mfy6166
                have b6256 : AB H6253 rq (x6115.toNatClampNeg) (0) (x2.toInt - 1) := AB.kept (fun j => fI_kept (x_lt hTH6161 kH6253 grq (by decide))) by6166_rw
                have b6257 : dval (fun j => fI H6253 rq j) (x2.toNatClampNeg) (x6115.toNatClampNeg) = V := (dval_congr (fun j => fI_kept (x_lt hTH6161 kH6253 grq (by decide)))).trans by6166_dv
                have g6258 : CG (avw K H6253 a0) := CG.congr (fun k hk j => av_eff hTH6161 kH6253 ga0 (by decide) (CG_eff [140, 139] (by decide) k hk)) gy6166_CG
                have g6259 : TU (avw K H6253 a0) (svw K H6253 a0) := TU.congr (fun k hk j => av_eff hTH6161 kH6253 ga0 (by decide) (TU_eff [140, 139] (by decide) k hk)) (fun k hk => sv_eff hTH6161 kH6253 ga0 (by decide)) gy6166_TU
                have g6260 : WD (avw K H6253 a0) := WD.congr (fun k hk j => av_eff hTH6161 kH6253 ga0 (by decide) (WD_eff [140, 139] (by decide) k hk)) gy6166_WD
                have g6261 : IM (avw K H6253 a0) := IM.congr (fun k hk j => av_eff hTH6161 kH6253 ga0 (by decide) (IM_eff [140, 139] (by decide) k hk)) gy6166_IM
                have m6262 := (ex6165).trans (fI_kept (x_lt hTH6161 kH6253 ga0 (by decide))).symm
                have m6263 := (cy6166_0).trans (fR_kept (x_lt hTH6161 kH6253 ga0 (by decide))).symm
                have m6264 := (cy6166_1).trans (fR_kept (x_lt hTH6161 kH6253 ga0 (by decide))).symm
                have m6265 := (cy6166_2).trans (fR_kept (x_lt hTH6161 kH6253 ga0 (by decide))).symm
                have m6266 := (cy6166_3).trans (fR_kept (x_lt hTH6161 kH6253 ga0 (by decide))).symm
                have m6267 := (cy6166_4).trans (fI_kept (x_lt hTH6161 kH6253 gslq (by decide))).symm
                have ro6268 : ∀ j : Nat, (j < 16 * x1.toNatClampNeg ∨ 16 * x1.toNatClampNeg + x6115.toNatClampNeg ≤ j) → fI H6253 gnq j = fI s.heap gnq j := fun j hj => (fI_kept (x_lt hTH6161 kH6253 ggnq (by decide))).trans (hro67_gnq j hj)
                have rv6269 : ∀ i : Nat, i < x6115.toNatClampNeg → fI H6253 gkp i = fI s.heap gnq (16 * x1.toNatClampNeg + i) := (fun i hi => (fI_kept (x_lt hTH6161 kH6253 ggkp (by decide))).trans (hrv67_g i hi))
                have rv6270 : x6115.toInt = sz.toInt := hrv67_e
                refine W.eq (g2 := F0 m 107 ls6162 [.int x6254]) rfl ?_
                refine lv_if_eq (tgt := 159) hx hb dX10_findsFits_107 (by decide) (fun c6271 => ?_) (fun c6271 => ?_)
                · have k6272 := i_eq c6271
                  have cl_x6115 := cn0
                  have cl_x2 := hx2n
                  have cl_x6115 := cn0
                  have cn_x1 := i_cl (x := x1) (by omega)
                  have cn_x6115 := i_cl (x := x6115) (Int.le_trans (by decide) bx6115.1)
                  have cn_sz := i_cl (x := sz) (by omega)
                  exact J159  ls6162 H6253 locsH6253 (x6165) (lv_sub hl6163 [0, 1, 2, 3, 4] rfl) hTH6253 hSH6253 bx6165 m6262 m6263 m6264 m6265 m6266 m6267 (AB.weak b6256 (by omega) (by omega) (by omega)) (b6257.trans (by omega)) mf6255 g6258 g6259 g6260 g6261 (by omega) ro6268 (fun i hi => rv6269 i (by omega)) rv6270
                · have k6272 := i_ne c6271
                  refine lv_iconst (v := 0) hx hb dX10_findsFits_110 (by decide) ?_
                  refine lv_istore (lv' := [(6, .int 0), (0, .ref a0), (1, .int x1), (2, .int x2), (3, .int x3), (4, .int x6115)]) hx hb dX10_findsFits_111 hl6163 (by decide) rfl (fun ls6273 hl6274 => ?_)
                  have cl_x6115 := cn0
                  have cl_x2 := hx2n
                  have cl_x6115 := cn0
                  have cn_x1 := i_cl (x := x1) (by omega)
                  have cn_x6115 := i_cl (x := x6115) (Int.le_trans (by decide) bx6115.1)
                  have cn_sz := i_cl (x := sz) (by omega)
                  exact J113 ((5 - (0 : Int32).toInt).toNat + 1)  ls6273 H6253 locsH6253 (0) (x6165) (lv_sub hl6274 [1, 2, 3, 4, 5, 0] rfl) hTH6253 hSH6253 (by decide) bx6165 m6262 m6263 m6264 m6265 m6266 m6267 (AB.weak b6256 (by omega) (by omega) (by omega)) (b6257.trans (by omega)) mf6255 g6258 g6259 g6260 g6261 (by omega) (by omega) ro6268 (fun i hi => rv6269 i (by omega)) rv6270
              · have k6252 := i_nle c6251
                refine lv_aload_n hx hb dX10_findsFits_74 rfl (lv_at hl6163 0 rfl) ?_
                refine x_gr C hTH6161 (ci := 10) (k := 6) rfl inX10 (by decide) wF_X10_20 ga0 rg_112 rfl dX10_findsFits_75 (fun q6275 eq6275 gq6275 => ?_)
                have uq6275 : gnq = q6275 := (cy6166_2).trans eq6275.symm
                subst uq6275
                refine lv_bipush (v := 16) hx hb dX10_findsFits_78 (by decide) ?_
                refine lv_iload_n hx hb dX10_findsFits_80 rfl (lv_at hl6163 1 rfl) ?_
                refine lv_imul hx hb dX10_findsFits_81 ?_
                refine lv_topi (fun x6276 ex6276 => ?_)
                have tx6276 := i_mul ex6276 (by rw [n_16]; omega)
                rw [n_16] at tx6276
                refine lv_iload hx hb dX10_findsFits_82 (lv_at hl6163 5 rfl) ?_
                refine lv_iadd hx hb dX10_findsFits_84 ?_
                refine lv_topi (fun x6277 ex6277 => ?_)
                have tx6277 := i_add ex6277 (by omega)
                refine lv_aload_n hx hb dX10_findsFits_85 rfl (lv_at hl6163 0 rfl) ?_
                refine x_gr C hTH6161 (ci := 10) (k := 45) rfl inX10 (by decide) wF_X10_101 ga0 rg_112 rfl dX10_findsFits_86 (fun q6278 eq6278 gq6278 => ?_)
                have uq6278 : rq = q6278 := (cy6166_1).trans eq6278.symm
                subst uq6278
                refine lv_iload hx hb dX10_findsFits_89 (lv_at hl6163 5 rfl) ?_
                refine x_ai C hTH6161 grq rg_141 ⟨bx6164.1, by show _ < ((5 : Nat) : Int); omega⟩ dX10_findsFits_91 (fun x6279 ex6279 bx6279 => ?_)
                have clx6279 := i_cl (x := x6164) bx6164.1
                have abx6279 := (by6166_rw).at ex6279 (by omega)
                refine lv_iconst (v := 1) hx hb dX10_findsFits_92 (by decide) ?_
                refine lv_iadd hx hb dX10_findsFits_93 ?_
                refine lv_topi (fun x6280 ex6280 => ?_)
                have tx6280 := i_add ex6280 (by omega)
                refine x_iast C hTH6161 hSH6161 ggnq rg_115 (by omega) (by show _ < ((160 : Nat) : Int); omega) (i_rng x6280) (AE_in ggnq (by decide)) dX10_findsFits_94 (fun H6281 locsH6281 hTH6281 hSH6281 wH6281 => ?_)
                have mf6282 : MF K s.heap H6281 a0 [56] := MF.arr wH6281 (G_ne ga0 ggnq (by decide)) mfy6166
                have g6283 : CG (avw K H6281 a0) := CG.congr (fun k hk j => av_arr hTH6161 ga0 wH6281 ggnq (by decide) (CG_ok 115 (by decide) k hk)) gy6166_CG
                have g6284 : TU (avw K H6281 a0) (svw K H6281 a0) := TU.congr (fun k hk j => av_arr hTH6161 ga0 wH6281 ggnq (by decide) (TU_ok 115 (by decide) k hk)) (fun k hk => sv_arr ga0 wH6281 ggnq (by decide)) gy6166_TU
                have g6285 : WD (avw K H6281 a0) := WD.congr (fun k hk j => av_arr hTH6161 ga0 wH6281 ggnq (by decide) (WD_ok 115 (by decide) k hk)) gy6166_WD
                have g6286 : IM (avw K H6281 a0) := IM.congr (fun k hk j => av_arr hTH6161 ga0 wH6281 ggnq (by decide) (IM_ok 115 (by decide) k hk)) gy6166_IM
                have b6287 : AB H6281 rq (x6115.toNatClampNeg) (0) (x2.toInt - 1) := AB.kept (fun j => Wr.neI wH6281 (Or.inl (G_ne grq ggnq (by decide)))) by6166_rw
                have b6288 : dval (fun j => fI H6281 rq j) (x2.toNatClampNeg) (x6115.toNatClampNeg) = V := (dval_congr (fun j => Wr.neI wH6281 (Or.inl (G_ne grq ggnq (by decide))))).trans by6166_dv
                have m6289 := ex6165.trans (Wr.neI wH6281 (Or.inl (G_ne ga0 ggnq (by decide)))).symm
                have m6290 := cy6166_0.trans (Wr.neR wH6281 (Or.inl (G_ne ga0 ggnq (by decide)))).symm
                have m6291 := cy6166_1.trans (Wr.neR wH6281 (Or.inl (G_ne ga0 ggnq (by decide)))).symm
                have m6292 := cy6166_2.trans (Wr.neR wH6281 (Or.inl (G_ne ga0 ggnq (by decide)))).symm
                have m6293 := cy6166_3.trans (Wr.neR wH6281 (Or.inl (G_ne ga0 ggnq (by decide)))).symm
                have m6294 := cy6166_4.trans (Wr.neI wH6281 (Or.inl (G_ne gslq ggnq (by decide)))).symm
                have m6295 := ex6279.trans (Wr.neI wH6281 (Or.inl (G_ne grq ggnq (by decide)))).symm
                have m6296 := Wr.I wH6281
                have m6296 := m6296.symm
                have cn_x1 := i_cl (x := x1) (by omega)
                have cn_x6115 := i_cl (x := x6115) (Int.le_trans (by decide) bx6115.1)
                have cn_x6277 := i_cl (x := x6277) (by omega)
                have ro6297 : ∀ j : Nat, (j < 16 * x1.toNatClampNeg ∨ 16 * x1.toNatClampNeg + x6115.toNatClampNeg ≤ j) → fI H6281 gnq j = fI s.heap gnq j := fun j hj => (Wr.neI wH6281 (Or.inr (by omega))).trans (hro67_gnq j hj)
                have rv6298 : ∀ i : Nat, i < x6115.toNatClampNeg → fI H6281 gkp i = fI s.heap gnq (16 * x1.toNatClampNeg + i) := (fun i hi => (Wr.neI wH6281 (Or.inl (G_ne ggkp ggnq (by decide)))).trans (hrv67_g i hi))
                have rv6299 : x6115.toInt = sz.toInt := hrv67_e
                obtain ⟨x6300, ex6300⟩ : ∃ y : Int32, y = x6164 + 1 := ⟨_, rfl⟩
                have tx6300 := i_add ex6300 (by omega)
                refine lv_iinc (v := x6300) (lv' := [(6, .int x6300), (0, .ref a0), (1, .int x1), (2, .int x2), (3, .int x3), (4, .int x6115)]) hx hb dX10_findsFits_95 hl6163 (k := 5) rfl (by rw [ex6300]; rfl) (by decide) rfl (fun ls6301 hl6302 => ?_)
                refine lv_goto (tgt := 67) hx hb dX10_findsFits_98 (by decide) ?_
                have cl_x6115 := cn_x6115
                have cl_x2 := hx2n
                have cl_x6115 := cn_x6115
                have cn_x6115 := i_cl (x := x6115) (Int.le_trans (by decide) bx6115.1)
                have cn_sz := i_cl (x := sz) (by omega)
                exact ih67  ls6301 H6281 locsH6281 (x6300) (x6165) (lv_sub hl6302 [1, 2, 3, 4, 5, 0] rfl) hTH6281 hSH6281 (by have := i_rng x6300; omega) bx6165 m6289 m6290 m6291 m6292 m6293 m6294 (AB.weak b6287 (by omega) (by omega) (by omega)) (b6288.trans (by omega)) mf6282 g6283 g6284 g6285 g6286 (by omega) (by omega) ro6297 (fun i hi => rv6298 i (by omega)) rv6299
          refine lv_iload hx hb dX10_findsFits_59 (lv_at hl6121 5 rfl) ?_
          refine lv_if_eq (tgt := 171) hx hb dX10_findsFits_61 (by decide) (fun c6303 => ?_) (fun c6303 => ?_)
          · have k6304 := i_eq c6303
            refine lv_iconst (v := 0) hx hb dX10_findsFits_171 (by decide) ?_
            refine lv_istore (lv' := [(6, .int 0), (0, .ref a0), (1, .int x1), (2, .int x2), (3, .int x3), (4, .int x6115), (5, .int x6122)]) hx hb dX10_findsFits_172 hl6121 (by decide) rfl (fun ls6305 hl6306 => ?_)
            have cn_x1 := i_cl (x := x1) (by omega)
            have cn_x6115 := i_cl (x := x6115) (Int.le_trans (by decide) bx6115.1)
            have cn_sz := i_cl (x := sz) (by omega)
            exact J174 ((5 - (0 : Int32).toInt).toNat + 1)  ls6305 H6119 locsH6119 (0) (x6123) (lv_sub hl6306 [1, 2, 5, 0] rfl) hTH6119 hSH6119 (by decide) bx6123 ex6123 cy6124_0 cy6124_1 cy6124_2 cy6124_3 cy6124_4 mfy6124 gy6124_CG gy6124_TU gy6124_WD gy6124_IM (by omega) hro59_gnq (fun i hi => hrv59_g i (by omega)) hrv59_e (fun i hi => by have z : (0 : Int32).toNatClampNeg = 0 := rfl; omega)
          · have k6304 := i_ne c6303
            have hv : dval (fun j => fI H6119 rq j) x2.toNatClampNeg x6115.toNatClampNeg = V := by omega
            have cm0 := hx2n
            have hVP := dval_lt (m := x2.toNatClampNeg) by6124_rw (by omega)
            refine lv_iconst (v := 0) hx hb dX10_findsFits_64 (by decide) ?_
            refine lv_istore (lv' := [(6, .int 0), (0, .ref a0), (1, .int x1), (2, .int x2), (3, .int x3), (4, .int x6115), (5, .int x6122)]) hx hb dX10_findsFits_65 hl6121 (by decide) rfl (fun ls6307 hl6308 => ?_)
            have cl_x6115 := cn0
            have cl_x2 := hx2n
            have cl_x6115 := cn0
            have cn_x1 := i_cl (x := x1) (by omega)
            have cn_x6115 := i_cl (x := x6115) (Int.le_trans (by decide) bx6115.1)
            have cn_sz := i_cl (x := sz) (by omega)
            exact J67 ((5 - (0 : Int32).toInt).toNat + 1)  ls6307 H6119 locsH6119 (0) (x6123) (lv_sub hl6308 [1, 2, 3, 4, 5, 0] rfl) hTH6119 hSH6119 (by decide) bx6123 ex6123 cy6124_0 cy6124_1 cy6124_2 cy6124_3 cy6124_4 (AB.weak by6124_rw (by omega) (by omega) (by omega)) (hv.trans (by omega)) mfy6124 gy6124_CG gy6124_TU gy6124_WD gy6124_IM (by omega) (by omega) hro59_gnq (fun i hi => hrv59_g i (by omega)) hrv59_e
      refine lv_iload hx hb dX10_findsFits_11 (lv_at hl6114 5 rfl) ?_
      refine lv_iload hx hb dX10_findsFits_13 (lv_at hl6114 4 rfl) ?_
      refine lv_icmp_ge (tgt := 51) hx hb dX10_findsFits_15 (by decide) (fun c6309 => ?_) (fun c6309 => ?_)
      · have k6310 := i_le c6309
        refine lv_aload_n hx hb dX10_findsFits_51 rfl (lv_at hl6114 0 rfl) ?_
        refine lv_iconst (v := 0) hx hb dX10_findsFits_52 (by decide) ?_
        refine x_put C hTH6112 hSH6112 (ci := 10) (k := 56) (v := .int 0) (ty0 := tyX10) rfl inX10 tyX10_ok nmX10 (by decide) rfl wF_X10_378 ga0 rg_112 rfl rfl (okI (by have := i_rng (0 : Int32); omega) (by have := i_rng (0 : Int32); omega)) rfl rfl (AE_in ga0 (by decide)) dX10_findsFits_53 (fun H6311 locsH6311 hTH6311 hSH6311 wH6311 => ?_)
        have mf6312 : MF K s.heap H6311 a0 [56] := MF.fld hap wH6311 (by decide) (by decide) mfy6118
        have g6313 : CG (avw K H6311 a0) := CG.congr (fun k hk j => av_fld hTH6112 ga0 hap wH6311 (by decide) (CG_ok 112 (by decide) k hk) (CG_ne 56 (by decide) k hk)) gy6118_CG
        have g6314 : TU (avw K H6311 a0) (svw K H6311 a0) := TU.congr (fun k hk j => av_fld hTH6112 ga0 hap wH6311 (by decide) (TU_ok 112 (by decide) k hk) (TU_ne 56 (by decide) k hk)) (fun k hk => sv_fld hap wH6311 (by decide) (TU_slt k hk) (TU_sne 56 (by decide) k hk)) gy6118_TU
        have g6315 : WD (avw K H6311 a0) := WD.congr (fun k hk j => av_fld hTH6112 ga0 hap wH6311 (by decide) (WD_ok 112 (by decide) k hk) (WD_ne 56 (by decide) k hk)) gy6118_WD
        have g6316 : IM (avw K H6311 a0) := IM.congr (fun k hk j => av_fld hTH6112 ga0 hap wH6311 (by decide) (IM_ok 112 (by decide) k hk) (IM_ne 56 (by decide) k hk)) gy6118_IM
        have b6317 : AB H6311 rq (x6116.toNatClampNeg) (0) (0) := AB.kept (fun j => Wr.neI wH6311 (Or.inl (G_ne grq ga0 (by decide)))) by6118_rw
        have m6319 := cy6118_0.trans (Wr.neR wH6311 (Or.inr (x_apart hKT hts inX10 tyX10 tyX10_ok nmX10 rfl 4 56 (by decide) (by decide) (by decide)))).symm
        have m6320 := cy6118_1.trans (Wr.neR wH6311 (Or.inr (x_apart hKT hts inX10 tyX10 tyX10_ok nmX10 rfl 45 56 (by decide) (by decide) (by decide)))).symm
        have m6321 := cy6118_2.trans (Wr.neR wH6311 (Or.inr (x_apart hKT hts inX10 tyX10 tyX10_ok nmX10 rfl 6 56 (by decide) (by decide) (by decide)))).symm
        have m6322 := cy6118_3.trans (Wr.neR wH6311 (Or.inr (x_apart hKT hts inX10 tyX10 tyX10_ok nmX10 rfl 55 56 (by decide) (by decide) (by decide)))).symm
        have m6323 := cy6118_4.trans (Wr.neI wH6311 (Or.inl (G_ne gslq ga0 (by decide)))).symm
        have m6324 := Wr.I wH6311
        have ro6325 : ∀ j : Nat, fI H6311 gnq j = fI s.heap gnq j := fun j => (Wr.neI wH6311 (Or.inl (G_ne ggnq ga0 (by decide)))).trans (hro11_gnq j)
        have rv6326 : ∀ i : Nat, i < x6116.toNatClampNeg → fI H6311 gkp i = fI s.heap gnq (16 * x1.toNatClampNeg + i) := (fun i hi => (Wr.neI wH6311 (Or.inl (G_ne ggkp ga0 (by decide)))).trans (hrv11_g i hi))
        have rv6327 : x6115.toInt = sz.toInt := hrv11_e
        refine lv_iconst (v := 1) hx hb dX10_findsFits_56 (by decide) ?_
        refine lv_istore (lv' := [(5, .int 1), (0, .ref a0), (1, .int x1), (2, .int x2), (3, .int x3), (4, .int x6115)]) hx hb dX10_findsFits_57 hl6114 (by decide) rfl (fun ls6328 hl6329 => ?_)
        have cl_x6115 := i_cl (x := x6115) (Int.le_trans (by decide) bx6115.1)
        have cl_x6116 := i_cl (x := x6116) bx6116.1
        have cn_x1 := i_cl (x := x1) (by omega)
        have cn_x6115 := i_cl (x := x6115) (Int.le_trans (by decide) bx6115.1)
        have cn_x6116 := i_cl (x := x6116) bx6116.1
        have cn_sz := i_cl (x := sz) (by omega)
        exact J59 ((((x2.toNatClampNeg ^ x6115.toNatClampNeg : Nat) : Int) - ((0 : Nat) : Int) + (1 : Int32).toInt).toNat + 1) (0 : Nat) ls6328 H6311 locsH6311 (1) (0) (lv_sub hl6329 [1, 2, 3, 4, 5, 0] rfl) hTH6311 hSH6311 (by decide) (by decide) (m6324).symm m6319 m6320 m6321 m6322 m6323 (AB.weak b6317 (by omega) (by omega) (by omega)) mf6312 g6313 g6314 g6315 g6316 (by omega) (Or.inr (dval_zero (AB.weak b6317 (by omega) (by omega) (by omega)))) (Nat.zero_le _) (Or.inl (by show (0 : Int32).toInt ≤ 0; decide)) (fun j _ => ro6325 j) (fun i hi => rv6326 i (by omega)) rv6327
      · have k6310 := i_nle c6309
        refine lv_aload_n hx hb dX10_findsFits_18 rfl (lv_at hl6114 0 rfl) ?_
        refine x_gr C hTH6112 (ci := 10) (k := 55) rfl inX10 (by decide) wF_X10_131 ga0 rg_112 rfl dX10_findsFits_19 (fun q6330 eq6330 gq6330 => ?_)
        have uq6330 : gkp = q6330 := (cy6118_3).trans eq6330.symm
        subst uq6330
        refine lv_iload hx hb dX10_findsFits_22 (lv_at hl6114 5 rfl) ?_
        refine lv_aload_n hx hb dX10_findsFits_24 rfl (lv_at hl6114 0 rfl) ?_
        refine x_gr C hTH6112 (ci := 10) (k := 6) rfl inX10 (by decide) wF_X10_20 ga0 rg_112 rfl dX10_findsFits_25 (fun q6331 eq6331 gq6331 => ?_)
        have uq6331 : gnq = q6331 := (cy6118_2).trans eq6331.symm
        subst uq6331
        refine lv_bipush (v := 16) hx hb dX10_findsFits_28 (by decide) ?_
        refine lv_iload_n hx hb dX10_findsFits_30 rfl (lv_at hl6114 1 rfl) ?_
        refine lv_imul hx hb dX10_findsFits_31 ?_
        refine lv_topi (fun x6332 ex6332 => ?_)
        have tx6332 := i_mul ex6332 (by rw [n_16]; omega)
        rw [n_16] at tx6332
        refine lv_iload hx hb dX10_findsFits_32 (lv_at hl6114 5 rfl) ?_
        refine lv_iadd hx hb dX10_findsFits_34 ?_
        refine lv_topi (fun x6333 ex6333 => ?_)
        have tx6333 := i_add ex6333 (by omega)
        refine x_ai C hTH6112 ggnq rg_115 ⟨by omega, by show _ < ((160 : Nat) : Int); omega⟩ dX10_findsFits_35 (fun x6334 ex6334 bx6334 => ?_)
        refine x_iast C hTH6112 hSH6112 ggkp rg_151 bx6116.1 (by show _ < ((5 : Nat) : Int); omega) (i_rng x6334) (AE_in ggkp (by decide)) dX10_findsFits_36 (fun H6335 locsH6335 hTH6335 hSH6335 wH6335 => ?_)
        have mf6336 : MF K s.heap H6335 a0 [56] := MF.arr wH6335 (G_ne ga0 ggkp (by decide)) mfy6118
        have g6337 : CG (avw K H6335 a0) := CG.congr (fun k hk j => av_arr hTH6112 ga0 wH6335 ggkp (by decide) (CG_ok 151 (by decide) k hk)) gy6118_CG
        have g6338 : TU (avw K H6335 a0) (svw K H6335 a0) := TU.congr (fun k hk j => av_arr hTH6112 ga0 wH6335 ggkp (by decide) (TU_ok 151 (by decide) k hk)) (fun k hk => sv_arr ga0 wH6335 ggkp (by decide)) gy6118_TU
        have g6339 : WD (avw K H6335 a0) := WD.congr (fun k hk j => av_arr hTH6112 ga0 wH6335 ggkp (by decide) (WD_ok 151 (by decide) k hk)) gy6118_WD
        have g6340 : IM (avw K H6335 a0) := IM.congr (fun k hk j => av_arr hTH6112 ga0 wH6335 ggkp (by decide) (IM_ok 151 (by decide) k hk)) gy6118_IM
        have b6341 : AB H6335 rq (x6116.toNatClampNeg) (0) (0) := AB.kept (fun j => Wr.neI wH6335 (Or.inl (G_ne grq ggkp (by decide)))) by6118_rw
        have m6342 := ex6117.trans (Wr.neI wH6335 (Or.inl (G_ne ga0 ggkp (by decide)))).symm
        have m6343 := cy6118_0.trans (Wr.neR wH6335 (Or.inl (G_ne ga0 ggkp (by decide)))).symm
        have m6344 := cy6118_1.trans (Wr.neR wH6335 (Or.inl (G_ne ga0 ggkp (by decide)))).symm
        have m6345 := cy6118_2.trans (Wr.neR wH6335 (Or.inl (G_ne ga0 ggkp (by decide)))).symm
        have m6346 := cy6118_3.trans (Wr.neR wH6335 (Or.inl (G_ne ga0 ggkp (by decide)))).symm
        have m6347 := cy6118_4.trans (Wr.neI wH6335 (Or.inl (G_ne gslq ggkp (by decide)))).symm
        have m6348 := ex6334.trans (Wr.neI wH6335 (Or.inl (G_ne ggnq ggkp (by decide)))).symm
        have m6349 := Wr.I wH6335
        have m6349 := m6349.symm
        have ro6350 : ∀ j : Nat, fI H6335 gnq j = fI s.heap gnq j := fun j => (Wr.neI wH6335 (Or.inl (G_ne ggnq ggkp (by decide)))).trans (hro11_gnq j)
        have rv6351 : x6115.toInt = sz.toInt := hrv11_e
        have cn_x1 := i_cl (x := x1) (by omega)
        have cn_x6116 := i_cl (x := x6116) bx6116.1
        have cn_x6333 := i_cl (x := x6333) (by omega)
        have rx6352 : x6334 = fI s.heap gnq (16 * x1.toNatClampNeg + x6116.toNatClampNeg) := ex6334.trans ((hro11_gnq _).trans (by rw [show x6333.toNatClampNeg = (16 * x1.toNatClampNeg + x6116.toNatClampNeg) by omega]))
        have cn_x6116 := i_cl (x := x6116) bx6116.1
        have cn_x6116 := i_cl (x := x6116) bx6116.1
        have rv6353 : ∀ i : Nat, i < x6116.toNatClampNeg + 1 → fI H6335 gkp i = fI s.heap gnq (16 * x1.toNatClampNeg + i) := fun i hi => if hj : i = x6116.toNatClampNeg then (by subst hj; exact (Wr.I wH6335).trans rx6352) else (Wr.neI wH6335 (Or.inr (by omega))).trans (hrv11_g i (by omega))
        refine lv_aload_n hx hb dX10_findsFits_37 rfl (lv_at hl6114 0 rfl) ?_
        refine x_gr C hTH6335 (ci := 10) (k := 45) rfl inX10 (by decide) wF_X10_101 ga0 rg_112 rfl dX10_findsFits_38 (fun q6354 eq6354 gq6354 => ?_)
        have uq6354 : rq = q6354 := (m6344).trans eq6354.symm
        subst uq6354
        refine lv_iload hx hb dX10_findsFits_41 (lv_at hl6114 5 rfl) ?_
        refine lv_iconst (v := 0) hx hb dX10_findsFits_43 (by decide) ?_
        refine x_iast C hTH6335 hSH6335 grq rg_141 bx6116.1 (by show _ < ((5 : Nat) : Int); omega) (by decide) (AE_in grq (by decide)) dX10_findsFits_44 (fun H6355 locsH6355 hTH6355 hSH6355 wH6355 => ?_)
        have mf6356 : MF K s.heap H6355 a0 [56] := MF.arr wH6355 (G_ne ga0 grq (by decide)) mf6336
        have g6357 : CG (avw K H6355 a0) := CG.congr (fun k hk j => av_arr hTH6335 ga0 wH6355 grq (by decide) (CG_ok 141 (by decide) k hk)) g6337
        have g6358 : TU (avw K H6355 a0) (svw K H6355 a0) := TU.congr (fun k hk j => av_arr hTH6335 ga0 wH6355 grq (by decide) (TU_ok 141 (by decide) k hk)) (fun k hk => sv_arr ga0 wH6355 grq (by decide)) g6338
        have g6359 : WD (avw K H6355 a0) := WD.congr (fun k hk j => av_arr hTH6335 ga0 wH6355 grq (by decide) (WD_ok 141 (by decide) k hk)) g6339
        have g6360 : IM (avw K H6355 a0) := IM.congr (fun k hk j => av_arr hTH6335 ga0 wH6355 grq (by decide) (IM_ok 141 (by decide) k hk)) g6340
        have b6361 : AB H6355 rq (x6116.toNatClampNeg + 1) (0) (0) := (AB.ext wH6355 (by decide) b6341 (by omega) rfl)
        have m6362 := m6342.trans (Wr.neI wH6355 (Or.inl (G_ne ga0 grq (by decide)))).symm
        have m6363 := m6343.trans (Wr.neR wH6355 (Or.inl (G_ne ga0 grq (by decide)))).symm
        have m6364 := m6344.trans (Wr.neR wH6355 (Or.inl (G_ne ga0 grq (by decide)))).symm
        have m6365 := m6345.trans (Wr.neR wH6355 (Or.inl (G_ne ga0 grq (by decide)))).symm
        have m6366 := m6346.trans (Wr.neR wH6355 (Or.inl (G_ne ga0 grq (by decide)))).symm
        have m6367 := m6347.trans (Wr.neI wH6355 (Or.inl (G_ne gslq grq (by decide)))).symm
        have m6368 := m6348.trans (Wr.neI wH6355 (Or.inl (G_ne ggnq grq (by decide)))).symm
        have m6369 := m6349.trans (Wr.neI wH6355 (Or.inl (G_ne ggkp grq (by decide)))).symm
        have m6370 := Wr.I wH6355
        have ro6371 : ∀ j : Nat, fI H6355 gnq j = fI s.heap gnq j := fun j => (Wr.neI wH6355 (Or.inl (G_ne ggnq grq (by decide)))).trans (ro6350 j)
        have rv6372 : x6115.toInt = sz.toInt := rv6351
        have rv6373 : ∀ i : Nat, i < x6116.toNatClampNeg + 1 → fI H6355 gkp i = fI s.heap gnq (16 * x1.toNatClampNeg + i) := (fun i hi => (Wr.neI wH6355 (Or.inl (G_ne ggkp grq (by decide)))).trans (rv6353 i hi))
        obtain ⟨x6374, ex6374⟩ : ∃ y : Int32, y = x6116 + 1 := ⟨_, rfl⟩
        have tx6374 := i_add ex6374 (by omega)
        refine lv_iinc (v := x6374) (lv' := [(5, .int x6374), (0, .ref a0), (1, .int x1), (2, .int x2), (3, .int x3), (4, .int x6115)]) hx hb dX10_findsFits_45 hl6114 (k := 5) rfl (by rw [ex6374]; rfl) (by decide) rfl (fun ls6375 hl6376 => ?_)
        refine lv_goto (tgt := 11) hx hb dX10_findsFits_48 (by decide) ?_
        have cl_x6116 := cn_x6116
        have cl_x6374 := i_cl (x := x6374) (by omega)
        have cn_x6116 := i_cl (x := x6116) bx6116.1
        have cn_sz := i_cl (x := sz) (by omega)
        exact ih11  ls6375 H6355 locsH6355 (x6115) (x6374) (x6117) (lv_sub hl6376 [1, 2, 3, 4, 5, 0] rfl) hTH6355 hSH6355 bx6115 (by have := i_rng x6374; omega) bx6117 m6362 m6363 m6364 m6365 m6366 m6367 (AB.weak b6361 (by omega) (by omega) (by omega)) mf6356 g6357 g6358 g6359 g6360 (by omega) ro6371 (fun i hi => rv6373 i (by omega)) rv6372
  refine lv_aload_n hx hb dX10_findsFits_0 rfl (lv_at hl 0 rfl) ?_
  refine x_gr C hT (ci := 10) (k := 4) rfl inX10 (by decide) wF_X10_13 ga0 rg_112 rfl dX10_findsFits_1 (fun q6377 eq6377 gq6377 => ?_)
  have uq6377 : slq = q6377 := (eslq).trans eq6377.symm
  subst uq6377
  refine lv_iload_n hx hb dX10_findsFits_4 rfl (lv_at hl 1 rfl) ?_
  refine x_ai C hT gslq rg_113 ⟨by omega, by show _ < ((10 : Nat) : Int); omega⟩ dX10_findsFits_5 (fun x6378 ex6378 bx6378 => ?_)
  have ux6378 : sz = x6378 := (esz).trans ex6378.symm
  subst ux6378
  refine lv_istore (lv' := [(4, .int sz), (0, .ref a0), (1, .int x1), (2, .int x2), (3, .int x3)]) hx hb dX10_findsFits_6 hl (by decide) rfl (fun ls6379 hl6380 => ?_)
  refine lv_iconst (v := 0) hx hb dX10_findsFits_8 (by decide) ?_
  refine lv_istore (lv' := [(5, .int 0), (4, .int sz), (0, .ref a0), (1, .int x1), (2, .int x2), (3, .int x3)]) hx hb dX10_findsFits_9 hl6380 (by decide) rfl (fun ls6381 hl6382 => ?_)
  have cl_0 := i_cl (x := (0 : Int32)) (by omega)
  exact J11 ((5 - (0 : Int32).toInt).toNat + 1)  ls6381 s.heap [] (sz) (0) (fm) (lv_sub hl6382 [2, 3, 4, 5, 1, 0] rfl) hT hS (by have := i_rng sz; omega) (by decide) (by have := i_rng fm; omega) efm eslq erq egnq egkp esz (AB.weak (AB.nil (H := s.heap) (q := rq) (lo := 0) (hi := 0)) (by omega) (by omega) (by omega)) mf0 hg_CG hg_TU hg_WD hg_IM (by omega) ro0_gnq (fun i hi => by have z : (0 : Int32).toNatClampNeg = 0 := rfl; omega) rfl
