theorem ty_fr {K : KE} {G : Nat → Option Nat} {H : Heap} {a t ci k u q : Nat} {fs : List FT} {bb : Int} (e : q = fR H a (K.1.2 ci k)) (hT : TY K G H) (ha : G a = some t) (hs : rgT[t]? = some (.inl (ci, fs))) (hf : fs[k]? = some (2, (u : Int), bb)) : G q = some u := by
  obtain ⟨c, -, -, -, -, h1⟩ := hT.fref ha hs hf
  rw [e]
  exact h1
theorem af_same {H H0 : Heap} {q : Nat} {i t t0 : Int32} (h : t = fI H q i.toNatClampNeg) (h0 : t0 = fI H0 q i.toNatClampNeg) (e : t.toInt = t0.toInt) (o : ∀ j : Nat, j ≠ i.toNatClampNeg → fI H q j = fI H0 q j) : ∀ j : Nat, fI H q j = fI H0 q j := by
  intro j
  by_cases hj : j = i.toNatClampNeg
  · subst hj; rw [← h, ← h0]; exact Int32.toInt_inj.mp e
  · exact o j hj
theorem i_rem {x y z : Int32} (e : z = x - x / y * y) (hx : 0 ≤ x.toInt) (hy : 0 < y.toInt) : 0 ≤ z.toInt ∧ z.toInt < y.toInt := by
  have rx := i_rng x
  have h1 : (x / y).toInt = x.toInt / y.toInt := lg_idiv_nonneg hx (by omega)
  obtain ⟨m, hm⟩ : ∃ m, m = (x / y).toInt * y.toInt := ⟨_, rfl⟩
  obtain ⟨r, hr⟩ : ∃ r, r = x.toInt % y.toInt := ⟨_, rfl⟩
  have h2 : 0 ≤ m := by rw [hm, h1]; exact Int.mul_nonneg (Int.ediv_nonneg hx (by omega)) (by omega)
  have h6 : r + m = x.toInt := by rw [hm, hr, h1, Int.mul_comm]; exact Int.emod_add_mul_ediv x.toInt y.toInt
  have h7 : 0 ≤ r := by rw [hr]; exact Int.emod_nonneg x.toInt (b := y.toInt) (by omega)
  have h8 : r < y.toInt := by rw [hr]; exact Int.emod_lt_of_pos x.toInt hy
  have h4 := i_mul (x := x / y) (y := y) rfl (by rw [← hm]; omega)
  rw [← hm] at h4
  have h5 := i_sub e (by omega)
  omega
theorem i_and1 {x z : Int32} (e : z = x &&& 1) : 0 ≤ z.toInt ∧ z.toInt ≤ 1 := by
  obtain ⟨j, hj, e2⟩ := pk_andE x (m := 1) 1 (by decide)
  rw [e, e2, nI_toInt (by omega)]
  omega
theorem i_ushr21 {x z : Int32} (e : (x.toUInt32 >>> ((21 : Int32).toUInt32 &&& Int32.toUInt32 31)).toInt32 = z) : 0 ≤ z.toInt ∧ z.toInt ≤ 2047 := by
  have h1 := i_bv z
  have h5 : z.toBitVec.toNat = x.toBitVec.toNat / 2097152 := by
    rw [← e]
    show (x.toUInt32.toBitVec >>> (21#32)).toNat = _
    rw [BitVec.ushiftRight_eq', BitVec.toNat_ushiftRight, Nat.shiftRight_eq_div_pow]
    rfl
  have h2 := x.toBitVec.isLt
  omega
set_option maxHeartbeats 4000000 in
set_option maxRecDepth 100000 in
theorem a_X2_clear_met (l : Launch) (K : KE) (G : Nat → Option Nat) (H : Heap) {a0 : Nat} (hT : TY K G H) (ga0 : G a0 = some 85) : MX l K yX2_clear cX2_clear 1 none 1 23 0 0 [.ref a0] H (AE G [85, 86] H.size) (fun v H1 => v = none ∧ TY K G H1) := by
  refine MX.of (by decide +kernel) (Nat.le_of_ble_eq_true rfl) ?_
  intro p e s m below meth c ls Q C hH hl hQ
  subst hH
  have C : CX p K s m _ meth c RX2 cX2_clear 1 none "clear" := C
  obtain ⟨hx, hb, hml, hown, hts, hKT, hr, hlocks, hnm⟩ := id C
  have hl : lv_has ls 1 [(0, .ref a0)] := hl
  have hS : va_S (AE G [85, 86] s.heap.size) s.heap s.heap [] := va_S.rf
  have n_0 : (0 : Int32).toInt = 0 := rfl
  have J20 : ∀ (ls146 : Array Slot) (H145 : Heap) (locsH145 : List Loc) , lv_has ls146 1 [] → TY K G H145 → va_S (AE G [85, 86] s.heap.size) s.heap H145 locsH145 → W p l e ({ frames := 1, cells := 0, slots := 0, locals := 23 } : Room) s m (([.ref a0] : List Value).toArray) below meth c H145 locsH145 0 0 Q (F0 m 20 ls146 []) := by
    intro ls146 H145 locsH145  hl147 hTH145 hSH145 
    exact x_vret C hQ dX2_clear_20 hSH145 (by decide) (by decide) (⟨rfl, hTH145⟩)
  refine lv_aload_n hx hb dX2_clear_0 rfl (lv_at hl 0 rfl) ?_
  refine x_gi C hT (ci := 2) (k := 1) rfl inX2 (by decide) wF_X2_13 ga0 rg_85 rfl dX2_clear_1 (fun x149 ex149 bx149 => ?_)
  refine lv_if_le (tgt := 20) hx hb dX2_clear_4 (by decide) (fun c150 => ?_) (fun c150 => ?_)
  · have k151 := i_le c150
    exact J20 ls s.heap [] (lv_sub hl [] rfl) hT hS 
  · have k151 := i_nle c150
    refine lv_aload_n hx hb dX2_clear_7 rfl (lv_at hl 0 rfl) ?_
    refine x_gr C hT (ci := 2) (k := 0) rfl inX2 (by decide) wF_X2_9 ga0 rg_85 rfl dX2_clear_8 (fun q152 eq152 gq152 => ?_)
    refine lv_iconst (v := 0) hx hb dX2_clear_11 (by decide) ?_
    refine x_S (As := [.ref q152, .int 0]) (rest := []) C (c_fill l K G s.heap (0) hT gq152 rg_86 (by decide) ⟨by have := i_rng (0 : Int32); omega, by have := i_rng (0 : Int32); omega⟩) yo_J7_fill_53178 wM_X2_17 ⟨⟨by decide, by decide⟩, by decide, by decide⟩ rfl hl.1 rfl (Nat.le_of_ble_eq_true rfl) dX2_clear_12 hS (AE_sub (fun _ _ => rfl) (by decide) hS.1) (fun vH153 H153 locsH153 pH153 zH153 kH153 hSH153 => ?_)
    have hTH153 := pH153.2.1
    have hvH153 := pH153.1
    subst hvH153
    have m154 := (ex149).trans (fI_kept (x_lt hT kH153 ga0 (by decide))).symm
    have m155 := (eq152).trans (fR_kept (x_lt hT kH153 ga0 (by decide))).symm
    refine W.eq (g2 := F0 m 15 ls []) rfl ?_
    refine lv_aload_n hx hb dX2_clear_15 rfl (lv_at hl 0 rfl) ?_
    refine lv_iconst (v := 0) hx hb dX2_clear_16 (by decide) ?_
    refine x_put C hTH153 hSH153 (ci := 2) (k := 1) (v := .int 0) (ty0 := tyX2) rfl inX2 tyX2_ok nmX2 (by decide) rfl wF_X2_13 ga0 rg_85 rfl rfl (okI (by have := i_rng (0 : Int32); omega) (by have := i_rng (0 : Int32); omega)) rfl rfl (AE_in ga0 (by decide)) dX2_clear_17 (fun H156 locsH156 hTH156 hSH156 wH156 => ?_)
    have m158 := m155.trans (Wr.neR wH156 (Or.inr (x_apart hKT hts inX2 tyX2 tyX2_ok nmX2 rfl 0 1 (by decide) (by decide) (by decide)))).symm
    have m159 := Wr.I wH156
    exact J20 ls H156 locsH156 (lv_sub hl [] rfl) hTH156 hSH156 

set_option maxHeartbeats 4000000 in
set_option maxRecDepth 100000 in
theorem a_X2_add_met (l : Launch) (K : KE) (G : Nat → Option Nat) (H : Heap) {a0 : Nat} (x1 : Int32) (hT : TY K G H) (ga0 : G a0 = some 85) : MX l K yX2_add cX2_add 4 (some .boolean) 0 0 0 0 [.ref a0, .int x1] H (AE G [85, 86] H.size) (fun v H1 => ∃ (r : Int32), v = some (.int r) ∧ (0 ≤ r.toInt ∧ r.toInt ≤ 1) ∧ TY K G H1) := by
  refine MX.of (by decide +kernel) (Nat.le_of_ble_eq_true rfl) ?_
  intro p e s m below meth c ls Q C hH hl hQ
  subst hH
  have C : CX p K s m _ meth c RX2 cX2_add 4 (some .boolean) "add" := C
  obtain ⟨hx, hb, hml, hown, hts, hKT, hr, hlocks, hnm⟩ := id C
  have hl : lv_has ls 4 [(0, .ref a0), (1, .int x1)] := hl
  have hS : va_S (AE G [85, 86] s.heap.size) s.heap s.heap [] := va_S.rf
  have n_m1640531535 : ((-1640531535) : Int32).toInt = -1640531535 := rfl
  have n_0 : (0 : Int32).toInt = 0 := rfl
  have n_1 : (1 : Int32).toInt = 1 := rfl
  have n_21 : (21 : Int32).toInt = 21 := rfl
  have n_2048 : (2048 : Int32).toInt = 2048 := rfl
  have J10 : ∀ (nf : Nat) (ls1149 : Array Slot) (H1148 : Heap) (locsH1148 : List Loc) (x1151 : Int32) (x1152 : Int32), lv_has ls1149 4 [(0, .ref a0), (1, .int x1), (2, .int x1151), (3, .int x1152)] → TY K G H1148 → va_S (AE G [85, 86] s.heap.size) s.heap H1148 locsH1148 → (0 ≤ x1151.toInt ∧ x1151.toInt ≤ 2047) → (0 ≤ x1152.toInt ∧ x1152.toInt ≤ 2048) → (2048 - x1152.toInt < (nf : Int)) → W p l e ({ frames := 0, cells := 0, slots := 0, locals := 0 } : Room) s m (([.ref a0, .int x1] : List Value).toArray) below meth c H1148 locsH1148 0 0 Q (F0 m 10 ls1149 []) := by
    intro nf
    induction nf with
    | zero =>
      intro ls1149 H1148 locsH1148 x1151 x1152 hl1150 hTH1148 hSH1148 bx1151 bx1152 hm10
      exfalso
      omega
    | succ nf ih10 =>
      intro ls1149 H1148 locsH1148 x1151 x1152 hl1150 hTH1148 hSH1148 bx1151 bx1152 hm10
      refine lv_iload_n hx hb dX2_add_10 rfl (lv_at hl1150 3 rfl) ?_
      refine lv_sipush (v := 2048) hx hb dX2_add_11 (by decide) ?_
      refine lv_icmp_ge (tgt := 75) hx hb dX2_add_14 (by decide) (fun c1154 => ?_) (fun c1154 => ?_)
      · have k1155 := i_le c1154
        refine lv_iconst (v := 0) hx hb dX2_add_75 (by decide) ?_
        exact x_zret C hQ (Or.inl rfl) dX2_add_76 hSH1148 (by decide) (by decide) (⟨0, rfl, by decide, hTH1148⟩)
      · have k1155 := i_nle c1154
        refine lv_aload_n hx hb dX2_add_17 rfl (lv_at hl1150 0 rfl) ?_
        refine x_gr C hTH1148 (ci := 2) (k := 0) rfl inX2 (by decide) wF_X2_9 ga0 rg_85 rfl dX2_add_18 (fun q1156 eq1156 gq1156 => ?_)
        refine lv_iload_n hx hb dX2_add_21 rfl (lv_at hl1150 2 rfl) ?_
        refine x_ai C hTH1148 gq1156 rg_86 ⟨by omega, by show _ < ((2048 : Nat) : Int); omega⟩ dX2_add_22 (fun x1157 ex1157 bx1157 => ?_)
        refine lv_iload_n hx hb dX2_add_23 rfl (lv_at hl1150 1 rfl) ?_
        refine lv_iconst (v := 1) hx hb dX2_add_24 (by decide) ?_
        refine lv_iadd hx hb dX2_add_25 ?_
        refine lv_topi (fun x1158 ex1158 => ?_)
        refine lv_icmp_ne (tgt := 31) hx hb dX2_add_26 (by decide) (fun c1159 => ?_) (fun c1159 => ?_)
        · have k1160 := i_ne c1159
          refine lv_aload_n hx hb dX2_add_31 rfl (lv_at hl1150 0 rfl) ?_
          refine x_gr C hTH1148 (ci := 2) (k := 0) rfl inX2 (by decide) wF_X2_9 ga0 rg_85 rfl dX2_add_32 (fun q1161 eq1161 gq1161 => ?_)
          have uq1161 : q1156 = q1161 := (eq1156).trans eq1161.symm
          subst uq1161
          refine lv_iload_n hx hb dX2_add_35 rfl (lv_at hl1150 2 rfl) ?_
          refine x_ai C hTH1148 gq1156 rg_86 ⟨by omega, by show _ < ((2048 : Nat) : Int); omega⟩ dX2_add_36 (fun x1162 ex1162 bx1162 => ?_)
          have ux1162 : x1157 = x1162 := (ex1157).trans ex1162.symm
          subst ux1162
          refine lv_if_ne (tgt := 61) hx hb dX2_add_37 (by decide) (fun c1163 => ?_) (fun c1163 => ?_)
          · have k1164 := i_ne c1163
            refine lv_iload_n hx hb dX2_add_61 rfl (lv_at hl1150 2 rfl) ?_
            refine lv_iconst (v := 1) hx hb dX2_add_62 (by decide) ?_
            refine lv_iadd hx hb dX2_add_63 ?_
            refine lv_topi (fun x1165 ex1165 => ?_)
            have tx1165 := i_add ex1165 (by omega)
            refine lv_sipush (v := 2048) hx hb dX2_add_64 (by decide) ?_
            refine lv_irem hx hb dX2_add_67 (fun h => by have := i_eq h; omega) ?_
            refine lv_topi (fun x1166 ex1166 => ?_)
            have tx1166 := i_rem ex1166 (by omega) (by omega)
            refine lv_istore_n (lv' := [(2, .int x1166), (0, .ref a0), (1, .int x1), (3, .int x1152)]) hx hb dX2_add_68 rfl hl1150 (by decide) rfl (fun ls1167 hl1168 => ?_)
            obtain ⟨x1169, ex1169⟩ : ∃ y : Int32, y = x1152 + 1 := ⟨_, rfl⟩
            have tx1169 := i_add ex1169 (by omega)
            refine lv_iinc (v := x1169) (lv' := [(3, .int x1169), (2, .int x1166), (0, .ref a0), (1, .int x1)]) hx hb dX2_add_69 hl1168 (k := 3) rfl (by rw [ex1169]; rfl) (by decide) rfl (fun ls1170 hl1171 => ?_)
            refine lv_goto (tgt := 10) hx hb dX2_add_72 (by decide) ?_
            exact ih10 ls1170 H1148 locsH1148 (x1166) (x1169) (lv_sub hl1171 [2, 3, 1, 0] rfl) hTH1148 hSH1148 (by have := i_rng x1166; omega) (by have := i_rng x1169; omega) (by omega)
          · have k1164 := i_eq c1163
            refine lv_aload_n hx hb dX2_add_40 rfl (lv_at hl1150 0 rfl) ?_
            refine x_gr C hTH1148 (ci := 2) (k := 0) rfl inX2 (by decide) wF_X2_9 ga0 rg_85 rfl dX2_add_41 (fun q1172 eq1172 gq1172 => ?_)
            have uq1172 : q1156 = q1172 := (eq1156).trans eq1172.symm
            subst uq1172
            refine lv_iload_n hx hb dX2_add_44 rfl (lv_at hl1150 2 rfl) ?_
            refine lv_iload_n hx hb dX2_add_45 rfl (lv_at hl1150 1 rfl) ?_
            refine lv_iconst (v := 1) hx hb dX2_add_46 (by decide) ?_
            refine lv_iadd hx hb dX2_add_47 ?_
            refine lv_topi (fun x1173 ex1173 => ?_)
            refine x_iast C hTH1148 hSH1148 gq1156 rg_86 (by omega) (by show _ < ((2048 : Nat) : Int); omega) ⟨by have := i_rng x1173; omega, by have := i_rng x1173; omega⟩ (AE_in gq1156 (by decide)) dX2_add_48 (fun H1174 locsH1174 hTH1174 hSH1174 wH1174 => ?_)
            have m1175 := eq1156.trans (Wr.neR wH1174 (Or.inl (G_ne ga0 gq1156 (by decide)))).symm
            have m1177 := Wr.I wH1174
            have m1177 := m1177.symm
            refine lv_aload_n hx hb dX2_add_49 rfl (lv_at hl1150 0 rfl) ?_
            refine lv_dup hx hb dX2_add_50 rfl ?_
            refine x_gi C hTH1174 (ci := 2) (k := 1) rfl inX2 (by decide) wF_X2_13 ga0 rg_85 rfl dX2_add_51 (fun x1178 ex1178 bx1178 => ?_)
            refine lv_iconst (v := 1) hx hb dX2_add_54 (by decide) ?_
            refine lv_iadd hx hb dX2_add_55 ?_
            refine lv_topi (fun x1179 ex1179 => ?_)
            refine x_put C hTH1174 hSH1174 (ci := 2) (k := 1) (v := .int x1179) (ty0 := tyX2) rfl inX2 tyX2_ok nmX2 (by decide) rfl wF_X2_13 ga0 rg_85 rfl rfl (okI (by have := i_rng x1179; omega) (by have := i_rng x1179; omega)) rfl rfl (AE_in ga0 (by decide)) dX2_add_56 (fun H1180 locsH1180 hTH1180 hSH1180 wH1180 => ?_)
            have m1181 := m1175.trans (Wr.neR wH1180 (Or.inr (x_apart hKT hts inX2 tyX2 tyX2_ok nmX2 rfl 0 1 (by decide) (by decide) (by decide)))).symm
            have m1182 := m1177.trans (Wr.neI wH1180 (Or.inl (G_ne gq1156 ga0 (by decide)))).symm
            have m1184 := Wr.I wH1180
            have m1184 := m1184.symm
            refine lv_iconst (v := 1) hx hb dX2_add_59 (by decide) ?_
            exact x_zret C hQ (Or.inr rfl) dX2_add_60 hSH1180 (by decide) (by decide) (⟨1, rfl, by decide, hTH1180⟩)
        · have k1160 := i_eq c1159
          refine lv_iconst (v := 0) hx hb dX2_add_29 (by decide) ?_
          exact x_zret C hQ (Or.inl rfl) dX2_add_30 hSH1148 (by decide) (by decide) (⟨0, rfl, by decide, hTH1148⟩)
  refine lv_iload_n hx hb dX2_add_0 rfl (lv_at hl 1 rfl) ?_
  refine lv_ldc (v := (-1640531535)) hx hb hown (hts _ wK_X2_23) dX2_add_1 ?_
  refine lv_imul hx hb dX2_add_3 ?_
  refine lv_topi (fun x1185 ex1185 => ?_)
  refine lv_bipush (v := 21) hx hb dX2_add_4 (by decide) ?_
  obtain ⟨x1186, ex1186⟩ : ∃ z : Int32, ((x1185 : Int32).toUInt32 >>> ((21 : Int32).toUInt32 &&& Int32.toUInt32 31)).toInt32 = z := ⟨_, rfl⟩
  refine lv_iushr (v := x1186) hx hb dX2_add_6 ex1186 ?_
  have tx1186 := i_ushr21 ex1186
  refine lv_istore_n (lv' := [(2, .int x1186), (0, .ref a0), (1, .int x1)]) hx hb dX2_add_7 rfl hl (by decide) rfl (fun ls1187 hl1188 => ?_)
  refine lv_iconst (v := 0) hx hb dX2_add_8 (by decide) ?_
  refine lv_istore_n (lv' := [(3, .int 0), (2, .int x1186), (0, .ref a0), (1, .int x1)]) hx hb dX2_add_9 rfl hl1188 (by decide) rfl (fun ls1189 hl1190 => ?_)
  exact J10 ((2048 - (0 : Int32).toInt).toNat + 1) ls1189 s.heap [] (x1186) (0) (lv_sub hl1190 [2, 3, 1, 0] rfl) hT hS (by have := i_rng x1186; omega) (by decide) (by omega)

set_option maxHeartbeats 4000000 in
set_option maxRecDepth 100000 in
theorem a_X2_clear_unlike (l : Launch) (K : KE) (G : Nat → Option Nat) (H : Heap) {a0 : Nat} (hT : TY K G H) (ga0 : G a0 = some 87) : MX l K yX2_clear cX2_clear 1 none 1 23 0 0 [.ref a0] H (AE G [87, 88] H.size) (fun v H1 => v = none ∧ TY K G H1) := by
  refine MX.of (by decide +kernel) (Nat.le_of_ble_eq_true rfl) ?_
  intro p e s m below meth c ls Q C hH hl hQ
  subst hH
  have C : CX p K s m _ meth c RX2 cX2_clear 1 none "clear" := C
  obtain ⟨hx, hb, hml, hown, hts, hKT, hr, hlocks, hnm⟩ := id C
  have hl : lv_has ls 1 [(0, .ref a0)] := hl
  have hS : va_S (AE G [87, 88] s.heap.size) s.heap s.heap [] := va_S.rf
  have n_0 : (0 : Int32).toInt = 0 := rfl
  have J20 : ∀ (ls146 : Array Slot) (H145 : Heap) (locsH145 : List Loc) , lv_has ls146 1 [] → TY K G H145 → va_S (AE G [87, 88] s.heap.size) s.heap H145 locsH145 → W p l e ({ frames := 1, cells := 0, slots := 0, locals := 23 } : Room) s m (([.ref a0] : List Value).toArray) below meth c H145 locsH145 0 0 Q (F0 m 20 ls146 []) := by
    intro ls146 H145 locsH145  hl147 hTH145 hSH145 
    exact x_vret C hQ dX2_clear_20 hSH145 (by decide) (by decide) (⟨rfl, hTH145⟩)
  refine lv_aload_n hx hb dX2_clear_0 rfl (lv_at hl 0 rfl) ?_
  refine x_gi C hT (ci := 2) (k := 1) rfl inX2 (by decide) wF_X2_13 ga0 rg_87 rfl dX2_clear_1 (fun x149 ex149 bx149 => ?_)
  refine lv_if_le (tgt := 20) hx hb dX2_clear_4 (by decide) (fun c150 => ?_) (fun c150 => ?_)
  · have k151 := i_le c150
    exact J20 ls s.heap [] (lv_sub hl [] rfl) hT hS 
  · have k151 := i_nle c150
    refine lv_aload_n hx hb dX2_clear_7 rfl (lv_at hl 0 rfl) ?_
    refine x_gr C hT (ci := 2) (k := 0) rfl inX2 (by decide) wF_X2_9 ga0 rg_87 rfl dX2_clear_8 (fun q152 eq152 gq152 => ?_)
    refine lv_iconst (v := 0) hx hb dX2_clear_11 (by decide) ?_
    refine x_S (As := [.ref q152, .int 0]) (rest := []) C (c_fill l K G s.heap (0) hT gq152 rg_88 (by decide) ⟨by have := i_rng (0 : Int32); omega, by have := i_rng (0 : Int32); omega⟩) yo_J7_fill_53178 wM_X2_17 ⟨⟨by decide, by decide⟩, by decide, by decide⟩ rfl hl.1 rfl (Nat.le_of_ble_eq_true rfl) dX2_clear_12 hS (AE_sub (fun _ _ => rfl) (by decide) hS.1) (fun vH153 H153 locsH153 pH153 zH153 kH153 hSH153 => ?_)
    have hTH153 := pH153.2.1
    have hvH153 := pH153.1
    subst hvH153
    have m154 := (ex149).trans (fI_kept (x_lt hT kH153 ga0 (by decide))).symm
    have m155 := (eq152).trans (fR_kept (x_lt hT kH153 ga0 (by decide))).symm
    refine W.eq (g2 := F0 m 15 ls []) rfl ?_
    refine lv_aload_n hx hb dX2_clear_15 rfl (lv_at hl 0 rfl) ?_
    refine lv_iconst (v := 0) hx hb dX2_clear_16 (by decide) ?_
    refine x_put C hTH153 hSH153 (ci := 2) (k := 1) (v := .int 0) (ty0 := tyX2) rfl inX2 tyX2_ok nmX2 (by decide) rfl wF_X2_13 ga0 rg_87 rfl rfl (okI (by have := i_rng (0 : Int32); omega) (by have := i_rng (0 : Int32); omega)) rfl rfl (AE_in ga0 (by decide)) dX2_clear_17 (fun H156 locsH156 hTH156 hSH156 wH156 => ?_)
    have m158 := m155.trans (Wr.neR wH156 (Or.inr (x_apart hKT hts inX2 tyX2 tyX2_ok nmX2 rfl 0 1 (by decide) (by decide) (by decide)))).symm
    have m159 := Wr.I wH156
    exact J20 ls H156 locsH156 (lv_sub hl [] rfl) hTH156 hSH156 

set_option maxHeartbeats 4000000 in
set_option maxRecDepth 100000 in
theorem a_X2_add_unlike (l : Launch) (K : KE) (G : Nat → Option Nat) (H : Heap) {a0 : Nat} (x1 : Int32) (hT : TY K G H) (ga0 : G a0 = some 87) : MX l K yX2_add cX2_add 4 (some .boolean) 0 0 0 0 [.ref a0, .int x1] H (AE G [87, 88] H.size) (fun v H1 => ∃ (r : Int32), v = some (.int r) ∧ (0 ≤ r.toInt ∧ r.toInt ≤ 1) ∧ TY K G H1) := by
  refine MX.of (by decide +kernel) (Nat.le_of_ble_eq_true rfl) ?_
  intro p e s m below meth c ls Q C hH hl hQ
  subst hH
  have C : CX p K s m _ meth c RX2 cX2_add 4 (some .boolean) "add" := C
  obtain ⟨hx, hb, hml, hown, hts, hKT, hr, hlocks, hnm⟩ := id C
  have hl : lv_has ls 4 [(0, .ref a0), (1, .int x1)] := hl
  have hS : va_S (AE G [87, 88] s.heap.size) s.heap s.heap [] := va_S.rf
  have n_m1640531535 : ((-1640531535) : Int32).toInt = -1640531535 := rfl
  have n_0 : (0 : Int32).toInt = 0 := rfl
  have n_1 : (1 : Int32).toInt = 1 := rfl
  have n_21 : (21 : Int32).toInt = 21 := rfl
  have n_2048 : (2048 : Int32).toInt = 2048 := rfl
  have J10 : ∀ (nf : Nat) (ls1149 : Array Slot) (H1148 : Heap) (locsH1148 : List Loc) (x1151 : Int32) (x1152 : Int32), lv_has ls1149 4 [(0, .ref a0), (1, .int x1), (2, .int x1151), (3, .int x1152)] → TY K G H1148 → va_S (AE G [87, 88] s.heap.size) s.heap H1148 locsH1148 → (0 ≤ x1151.toInt ∧ x1151.toInt ≤ 2047) → (0 ≤ x1152.toInt ∧ x1152.toInt ≤ 2048) → (2048 - x1152.toInt < (nf : Int)) → W p l e ({ frames := 0, cells := 0, slots := 0, locals := 0 } : Room) s m (([.ref a0, .int x1] : List Value).toArray) below meth c H1148 locsH1148 0 0 Q (F0 m 10 ls1149 []) := by
    intro nf
    induction nf with
    | zero =>
      intro ls1149 H1148 locsH1148 x1151 x1152 hl1150 hTH1148 hSH1148 bx1151 bx1152 hm10
      exfalso
      omega
    | succ nf ih10 =>
      intro ls1149 H1148 locsH1148 x1151 x1152 hl1150 hTH1148 hSH1148 bx1151 bx1152 hm10
      refine lv_iload_n hx hb dX2_add_10 rfl (lv_at hl1150 3 rfl) ?_
      refine lv_sipush (v := 2048) hx hb dX2_add_11 (by decide) ?_
      refine lv_icmp_ge (tgt := 75) hx hb dX2_add_14 (by decide) (fun c1154 => ?_) (fun c1154 => ?_)
      · have k1155 := i_le c1154
        refine lv_iconst (v := 0) hx hb dX2_add_75 (by decide) ?_
        exact x_zret C hQ (Or.inl rfl) dX2_add_76 hSH1148 (by decide) (by decide) (⟨0, rfl, by decide, hTH1148⟩)
      · have k1155 := i_nle c1154
        refine lv_aload_n hx hb dX2_add_17 rfl (lv_at hl1150 0 rfl) ?_
        refine x_gr C hTH1148 (ci := 2) (k := 0) rfl inX2 (by decide) wF_X2_9 ga0 rg_87 rfl dX2_add_18 (fun q1156 eq1156 gq1156 => ?_)
        refine lv_iload_n hx hb dX2_add_21 rfl (lv_at hl1150 2 rfl) ?_
        refine x_ai C hTH1148 gq1156 rg_88 ⟨by omega, by show _ < ((2048 : Nat) : Int); omega⟩ dX2_add_22 (fun x1157 ex1157 bx1157 => ?_)
        refine lv_iload_n hx hb dX2_add_23 rfl (lv_at hl1150 1 rfl) ?_
        refine lv_iconst (v := 1) hx hb dX2_add_24 (by decide) ?_
        refine lv_iadd hx hb dX2_add_25 ?_
        refine lv_topi (fun x1158 ex1158 => ?_)
        refine lv_icmp_ne (tgt := 31) hx hb dX2_add_26 (by decide) (fun c1159 => ?_) (fun c1159 => ?_)
        · have k1160 := i_ne c1159
          refine lv_aload_n hx hb dX2_add_31 rfl (lv_at hl1150 0 rfl) ?_
          refine x_gr C hTH1148 (ci := 2) (k := 0) rfl inX2 (by decide) wF_X2_9 ga0 rg_87 rfl dX2_add_32 (fun q1161 eq1161 gq1161 => ?_)
          have uq1161 : q1156 = q1161 := (eq1156).trans eq1161.symm
          subst uq1161
          refine lv_iload_n hx hb dX2_add_35 rfl (lv_at hl1150 2 rfl) ?_
          refine x_ai C hTH1148 gq1156 rg_88 ⟨by omega, by show _ < ((2048 : Nat) : Int); omega⟩ dX2_add_36 (fun x1162 ex1162 bx1162 => ?_)
          have ux1162 : x1157 = x1162 := (ex1157).trans ex1162.symm
          subst ux1162
          refine lv_if_ne (tgt := 61) hx hb dX2_add_37 (by decide) (fun c1163 => ?_) (fun c1163 => ?_)
          · have k1164 := i_ne c1163
            refine lv_iload_n hx hb dX2_add_61 rfl (lv_at hl1150 2 rfl) ?_
            refine lv_iconst (v := 1) hx hb dX2_add_62 (by decide) ?_
            refine lv_iadd hx hb dX2_add_63 ?_
            refine lv_topi (fun x1165 ex1165 => ?_)
            have tx1165 := i_add ex1165 (by omega)
            refine lv_sipush (v := 2048) hx hb dX2_add_64 (by decide) ?_
            refine lv_irem hx hb dX2_add_67 (fun h => by have := i_eq h; omega) ?_
            refine lv_topi (fun x1166 ex1166 => ?_)
            have tx1166 := i_rem ex1166 (by omega) (by omega)
            refine lv_istore_n (lv' := [(2, .int x1166), (0, .ref a0), (1, .int x1), (3, .int x1152)]) hx hb dX2_add_68 rfl hl1150 (by decide) rfl (fun ls1167 hl1168 => ?_)
            obtain ⟨x1169, ex1169⟩ : ∃ y : Int32, y = x1152 + 1 := ⟨_, rfl⟩
            have tx1169 := i_add ex1169 (by omega)
            refine lv_iinc (v := x1169) (lv' := [(3, .int x1169), (2, .int x1166), (0, .ref a0), (1, .int x1)]) hx hb dX2_add_69 hl1168 (k := 3) rfl (by rw [ex1169]; rfl) (by decide) rfl (fun ls1170 hl1171 => ?_)
            refine lv_goto (tgt := 10) hx hb dX2_add_72 (by decide) ?_
            exact ih10 ls1170 H1148 locsH1148 (x1166) (x1169) (lv_sub hl1171 [2, 3, 1, 0] rfl) hTH1148 hSH1148 (by have := i_rng x1166; omega) (by have := i_rng x1169; omega) (by omega)
          · have k1164 := i_eq c1163
            refine lv_aload_n hx hb dX2_add_40 rfl (lv_at hl1150 0 rfl) ?_
            refine x_gr C hTH1148 (ci := 2) (k := 0) rfl inX2 (by decide) wF_X2_9 ga0 rg_87 rfl dX2_add_41 (fun q1172 eq1172 gq1172 => ?_)
            have uq1172 : q1156 = q1172 := (eq1156).trans eq1172.symm
            subst uq1172
            refine lv_iload_n hx hb dX2_add_44 rfl (lv_at hl1150 2 rfl) ?_
            refine lv_iload_n hx hb dX2_add_45 rfl (lv_at hl1150 1 rfl) ?_
            refine lv_iconst (v := 1) hx hb dX2_add_46 (by decide) ?_
            refine lv_iadd hx hb dX2_add_47 ?_
            refine lv_topi (fun x1173 ex1173 => ?_)
            refine x_iast C hTH1148 hSH1148 gq1156 rg_88 (by omega) (by show _ < ((2048 : Nat) : Int); omega) ⟨by have := i_rng x1173; omega, by have := i_rng x1173; omega⟩ (AE_in gq1156 (by decide)) dX2_add_48 (fun H1174 locsH1174 hTH1174 hSH1174 wH1174 => ?_)
            have m1175 := eq1156.trans (Wr.neR wH1174 (Or.inl (G_ne ga0 gq1156 (by decide)))).symm
            have m1177 := Wr.I wH1174
            have m1177 := m1177.symm
            refine lv_aload_n hx hb dX2_add_49 rfl (lv_at hl1150 0 rfl) ?_
            refine lv_dup hx hb dX2_add_50 rfl ?_
            refine x_gi C hTH1174 (ci := 2) (k := 1) rfl inX2 (by decide) wF_X2_13 ga0 rg_87 rfl dX2_add_51 (fun x1178 ex1178 bx1178 => ?_)
            refine lv_iconst (v := 1) hx hb dX2_add_54 (by decide) ?_
            refine lv_iadd hx hb dX2_add_55 ?_
            refine lv_topi (fun x1179 ex1179 => ?_)
            refine x_put C hTH1174 hSH1174 (ci := 2) (k := 1) (v := .int x1179) (ty0 := tyX2) rfl inX2 tyX2_ok nmX2 (by decide) rfl wF_X2_13 ga0 rg_87 rfl rfl (okI (by have := i_rng x1179; omega) (by have := i_rng x1179; omega)) rfl rfl (AE_in ga0 (by decide)) dX2_add_56 (fun H1180 locsH1180 hTH1180 hSH1180 wH1180 => ?_)
            have m1181 := m1175.trans (Wr.neR wH1180 (Or.inr (x_apart hKT hts inX2 tyX2 tyX2_ok nmX2 rfl 0 1 (by decide) (by decide) (by decide)))).symm
            have m1182 := m1177.trans (Wr.neI wH1180 (Or.inl (G_ne gq1156 ga0 (by decide)))).symm
            have m1184 := Wr.I wH1180
            have m1184 := m1184.symm
            refine lv_iconst (v := 1) hx hb dX2_add_59 (by decide) ?_
            exact x_zret C hQ (Or.inr rfl) dX2_add_60 hSH1180 (by decide) (by decide) (⟨1, rfl, by decide, hTH1180⟩)
        · have k1160 := i_eq c1159
          refine lv_iconst (v := 0) hx hb dX2_add_29 (by decide) ?_
          exact x_zret C hQ (Or.inl rfl) dX2_add_30 hSH1148 (by decide) (by decide) (⟨0, rfl, by decide, hTH1148⟩)
  refine lv_iload_n hx hb dX2_add_0 rfl (lv_at hl 1 rfl) ?_
  refine lv_ldc (v := (-1640531535)) hx hb hown (hts _ wK_X2_23) dX2_add_1 ?_
  refine lv_imul hx hb dX2_add_3 ?_
  refine lv_topi (fun x1185 ex1185 => ?_)
  refine lv_bipush (v := 21) hx hb dX2_add_4 (by decide) ?_
  obtain ⟨x1186, ex1186⟩ : ∃ z : Int32, ((x1185 : Int32).toUInt32 >>> ((21 : Int32).toUInt32 &&& Int32.toUInt32 31)).toInt32 = z := ⟨_, rfl⟩
  refine lv_iushr (v := x1186) hx hb dX2_add_6 ex1186 ?_
  have tx1186 := i_ushr21 ex1186
  refine lv_istore_n (lv' := [(2, .int x1186), (0, .ref a0), (1, .int x1)]) hx hb dX2_add_7 rfl hl (by decide) rfl (fun ls1187 hl1188 => ?_)
  refine lv_iconst (v := 0) hx hb dX2_add_8 (by decide) ?_
  refine lv_istore_n (lv' := [(3, .int 0), (2, .int x1186), (0, .ref a0), (1, .int x1)]) hx hb dX2_add_9 rfl hl1188 (by decide) rfl (fun ls1189 hl1190 => ?_)
  exact J10 ((2048 - (0 : Int32).toInt).toNat + 1) ls1189 s.heap [] (x1186) (0) (lv_sub hl1190 [2, 3, 1, 0] rfl) hT hS (by have := i_rng x1186; omega) (by decide) (by omega)

set_option maxHeartbeats 4000000 in
set_option maxRecDepth 100000 in
theorem a_X3_place (l : Launch) (K : KE) (G : Nat → Option Nat) (H : Heap) (x0 : Int32) (x1 : Int32) (x2 : Int32) (hT : TY K G H) (hx0 : 0 ≤ x0.toInt ∧ x0.toInt ≤ 2) (hx1 : 0 ≤ x1.toInt ∧ x1.toInt ≤ 7) (hx2 : 0 ≤ x2.toInt ∧ x2.toInt ≤ 5) : MX l K yX3_place cX3_place 3 (some .int) 0 0 0 0 [.int x0, .int x1, .int x2] H (AE G [] H.size) (fun v H1 => ∃ (r : Int32), v = some (.int r) ∧ (0 ≤ r.toInt ∧ r.toInt ≤ 143) ∧ (r.toInt = 48 * x0.toInt + 6 * x1.toInt + x2.toInt) ∧ TY K G H1) := by
  refine MX.of (by decide +kernel) (Nat.le_of_ble_eq_true rfl) ?_
  intro p e s m below meth c ls Q C hH hl hQ
  subst hH
  have C : CX p K s m _ meth c RX3 cX3_place 3 (some .int) "place" := C
  obtain ⟨hx, hb, hml, hown, hts, hKT, hr, hlocks, hnm⟩ := id C
  have hl : lv_has ls 3 [(0, .int x0), (1, .int x1), (2, .int x2)] := hl
  have hS : va_S (AE G [] s.heap.size) s.heap s.heap [] := va_S.rf
  have n_6 : (6 : Int32).toInt = 6 := rfl
  have n_8 : (8 : Int32).toInt = 8 := rfl
  refine lv_iload_n hx hb dX3_place_0 rfl (lv_at hl 0 rfl) ?_
  refine lv_bipush (v := 8) hx hb dX3_place_1 (by decide) ?_
  refine lv_imul hx hb dX3_place_3 ?_
  refine lv_topi (fun x117 ex117 => ?_)
  have tx117 := i_mul ex117 (by rw [n_8]; omega)
  rw [n_8] at tx117
  refine lv_iload_n hx hb dX3_place_4 rfl (lv_at hl 1 rfl) ?_
  refine lv_iadd hx hb dX3_place_5 ?_
  refine lv_topi (fun x118 ex118 => ?_)
  have tx118 := i_add ex118 (by omega)
  refine lv_bipush (v := 6) hx hb dX3_place_6 (by decide) ?_
  refine lv_imul hx hb dX3_place_8 ?_
  refine lv_topi (fun x119 ex119 => ?_)
  have tx119 := i_mul ex119 (by rw [n_6]; omega)
  rw [n_6] at tx119
  refine lv_iload_n hx hb dX3_place_9 rfl (lv_at hl 2 rfl) ?_
  refine lv_iadd hx hb dX3_place_10 ?_
  refine lv_topi (fun x120 ex120 => ?_)
  have tx120 := i_add ex120 (by omega)
  exact x_iret C hQ dX3_place_11 hS (by decide) (by decide) (⟨x120, rfl, by omega, by omega, hT⟩)

set_option maxHeartbeats 4000000 in
set_option maxRecDepth 100000 in
theorem a_X3_isNear (l : Launch) (K : KE) (G : Nat → Option Nat) (H : Heap) {a0 : Nat} (x1 : Int32) (x2 : Int32) (x3 : Int32) (x4 : Int32) (hT : TY K G H) (ga0 : G a0 = some 89) (hx1 : 0 ≤ x1.toInt ∧ x1.toInt ≤ 2) (hx4 : 0 ≤ x4.toInt ∧ x4.toInt ≤ 1) : MX l K yX3_isNear cX3_isNear 6 (some .boolean) 1 21 0 0 [.ref a0, .int x1, .int x2, .int x3, .int x4] H (AE G [] H.size) (fun v H1 => ∃ (r : Int32), v = some (.int r) ∧ (0 ≤ r.toInt ∧ r.toInt ≤ 1) ∧ TY K G H1) := by
  refine MX.of (by decide +kernel) (Nat.le_of_ble_eq_true rfl) ?_
  intro p e s m below meth c ls Q C hH hl hQ
  subst hH
  have C : CX p K s m _ meth c RX3 cX3_isNear 6 (some .boolean) "isNear" := C
  obtain ⟨hx, hb, hml, hown, hts, hKT, hr, hlocks, hnm⟩ := id C
  have hl : lv_has ls 6 [(0, .ref a0), (1, .int x1), (2, .int x2), (3, .int x3), (4, .int x4)] := hl
  have hS : va_S (AE G [] s.heap.size) s.heap s.heap [] := va_S.rf
  have n_0 : (0 : Int32).toInt = 0 := rfl
  have n_1 : (1 : Int32).toInt = 1 := rfl
  have J43 : ∀ (ls171 : Array Slot) (H170 : Heap) (locsH170 : List Loc) (x173 : Int32), lv_has ls171 6 [] → TY K G H170 → va_S (AE G [] s.heap.size) s.heap H170 locsH170 → (0 ≤ x173.toInt ∧ x173.toInt ≤ 1) → W p l e ({ frames := 1, cells := 0, slots := 0, locals := 21 } : Room) s m (([.ref a0, .int x1, .int x2, .int x3, .int x4] : List Value).toArray) below meth c H170 locsH170 0 0 Q (F0 m 43 ls171 [.int x173]) := by
    intro ls171 H170 locsH170 x173 hl172 hTH170 hSH170 bx173
    exact x_zret C hQ (i_01 (by omega)) dX3_isNear_43 hSH170 (by decide) (by decide) (⟨x173, rfl, by omega, hTH170⟩)
  have J42 : ∀ (ls176 : Array Slot) (H175 : Heap) (locsH175 : List Loc) , lv_has ls176 6 [] → TY K G H175 → va_S (AE G [] s.heap.size) s.heap H175 locsH175 → W p l e ({ frames := 1, cells := 0, slots := 0, locals := 21 } : Room) s m (([.ref a0, .int x1, .int x2, .int x3, .int x4] : List Value).toArray) below meth c H175 locsH175 0 0 Q (F0 m 42 ls176 []) := by
    intro ls176 H175 locsH175  hl177 hTH175 hSH175 
    refine lv_iconst (v := 0) hx hb dX3_isNear_42 (by decide) ?_
    exact J43 ls176 H175 locsH175 (0) (lv_sub hl177 [] rfl) hTH175 hSH175 (by decide)
  have J38 : ∀ (ls180 : Array Slot) (H179 : Heap) (locsH179 : List Loc) , lv_has ls180 6 [] → TY K G H179 → va_S (AE G [] s.heap.size) s.heap H179 locsH179 → W p l e ({ frames := 1, cells := 0, slots := 0, locals := 21 } : Room) s m (([.ref a0, .int x1, .int x2, .int x3, .int x4] : List Value).toArray) below meth c H179 locsH179 0 0 Q (F0 m 38 ls180 []) := by
    intro ls180 H179 locsH179  hl181 hTH179 hSH179 
    refine lv_iconst (v := 1) hx hb dX3_isNear_38 (by decide) ?_
    refine lv_goto (tgt := 43) hx hb dX3_isNear_39 (by decide) ?_
    exact J43 ls180 H179 locsH179 (1) (lv_sub hl181 [] rfl) hTH179 hSH179 (by decide)
  refine lv_iload_n hx hb dX3_isNear_0 rfl (lv_at hl 2 rfl) ?_
  refine lv_iload_n hx hb dX3_isNear_1 rfl (lv_at hl 3 rfl) ?_
  refine x_SN (As := [.int x2, .int x3]) (rest := []) C (a_X9_ratio l K G s.heap (x2) (x3) hT ) yo_X9_ratio wN_X3_121 ⟨⟨by decide, by decide⟩, by decide, by decide⟩ rfl hl.1 rfl (Nat.le_of_ble_eq_true rfl) dX3_isNear_2 hS (AE_sub (fun _ _ => rfl) (by decide) hS.1) (fun vH183 H183 locsH183 pH183 zH183 kH183 hSH183 => ?_)
  obtain ⟨⟨x184, hvH183, bx184⟩, hTH183⟩ := pH183
  subst hvH183
  refine W.eq (g2 := F0 m 5 ls [.int x184]) rfl ?_
  refine lv_aload_n hx hb dX3_isNear_5 rfl (lv_at hl 0 rfl) ?_
  refine x_gr C hTH183 (ci := 3) (k := 5) rfl inX3 (by decide) wF_X3_27 ga0 rg_89 rfl dX3_isNear_6 (fun q185 eq185 gq185 => ?_)
  refine lv_iload_n hx hb dX3_isNear_9 rfl (lv_at hl 1 rfl) ?_
  refine x_ai C hTH183 gq185 rg_95 ⟨by omega, by show _ < ((3 : Nat) : Int); omega⟩ dX3_isNear_10 (fun x186 ex186 bx186 => ?_)
  refine lv_isub hx hb dX3_isNear_11 ?_
  refine lv_topi (fun x187 ex187 => ?_)
  refine lv_istore (lv' := [(5, .int x187), (0, .ref a0), (1, .int x1), (2, .int x2), (3, .int x3), (4, .int x4)]) hx hb dX3_isNear_12 hl (by decide) rfl (fun ls188 hl189 => ?_)
  refine lv_iload hx hb dX3_isNear_14 (lv_at hl189 0 rfl) ?_
  refine lv_aload_n hx hb dX3_isNear_16 rfl (lv_at hl189 1 rfl) ?_
  refine x_gi C hTH183 (ci := 3) (k := 10) rfl inX3 (by decide) wF_X3_56 ga0 rg_89 rfl dX3_isNear_17 (fun x190 ex190 bx190 => ?_)
  refine lv_ineg hx hb dX3_isNear_20 ?_
  refine lv_topi (fun x191 ex191 => ?_)
  refine lv_icmp_lt (tgt := 42) hx hb dX3_isNear_21 (by decide) (fun c192 => ?_) (fun c192 => ?_)
  · have k193 := i_lt c192
    exact J42 ls188 H183 locsH183 (lv_sub hl189 [] rfl) hTH183 hSH183 
  · have k193 := i_nlt c192
    refine lv_iload hx hb dX3_isNear_24 (lv_at hl189 5 rfl) ?_
    refine lv_if_eq (tgt := 38) hx hb dX3_isNear_26 (by decide) (fun c194 => ?_) (fun c194 => ?_)
    · have k195 := i_eq c194
      exact J38 ls188 H183 locsH183 (lv_sub hl189 [] rfl) hTH183 hSH183 
    · have k195 := i_ne c194
      refine lv_iload hx hb dX3_isNear_29 (lv_at hl189 0 rfl) ?_
      refine lv_aload_n hx hb dX3_isNear_31 rfl (lv_at hl189 1 rfl) ?_
      refine x_gi C hTH183 (ci := 3) (k := 10) rfl inX3 (by decide) wF_X3_56 ga0 rg_89 rfl dX3_isNear_32 (fun x196 ex196 bx196 => ?_)
      have ux196 : x190 = x196 := (ex190).trans ex196.symm
      subst ux196
      refine lv_icmp_gt (tgt := 42) hx hb dX3_isNear_35 (by decide) (fun c197 => ?_) (fun c197 => ?_)
      · have k198 := i_lt c197
        exact J42 ls188 H183 locsH183 (lv_sub hl189 [] rfl) hTH183 hSH183 
      · have k198 := i_nlt c197
        exact J38 ls188 H183 locsH183 (lv_sub hl189 [] rfl) hTH183 hSH183 

set_option maxHeartbeats 4000000 in
set_option maxRecDepth 100000 in
theorem a_X3_isTrueNow (l : Launch) (K : KE) (G : Nat → Option Nat) (H : Heap) {a0 : Nat} (hT : TY K G H) (ga0 : G a0 = some 89) : MX l K yX3_isTrueNow cX3_isTrueNow 2 (some .boolean) 2 46 0 0 [.ref a0] H (AE G [] H.size) (fun v H1 => ∃ (r : Int32), v = some (.int r) ∧ (0 ≤ r.toInt ∧ r.toInt ≤ 1) ∧ TY K G H1) := by
  refine MX.of (by decide +kernel) (Nat.le_of_ble_eq_true rfl) ?_
  intro p e s m below meth c ls Q C hH hl hQ
  subst hH
  have C : CX p K s m _ meth c RX3 cX3_isTrueNow 2 (some .boolean) "isTrueNow" := C
  obtain ⟨hx, hb, hml, hown, hts, hKT, hr, hlocks, hnm⟩ := id C
  have hl : lv_has ls 2 [(0, .ref a0)] := hl
  have hS : va_S (AE G [] s.heap.size) s.heap s.heap [] := va_S.rf
  have n_0 : (0 : Int32).toInt = 0 := rfl
  have n_1 : (1 : Int32).toInt = 1 := rfl
  have n_3 : (3 : Int32).toInt = 3 := rfl
  have J2 : ∀ (nf : Nat) (ls281 : Array Slot) (H280 : Heap) (locsH280 : List Loc) (x283 : Int32), lv_has ls281 2 [(0, .ref a0), (1, .int x283)] → TY K G H280 → va_S (AE G [] s.heap.size) s.heap H280 locsH280 → (0 ≤ x283.toInt ∧ x283.toInt ≤ 3) → (3 - x283.toInt < (nf : Int)) → W p l e ({ frames := 2, cells := 0, slots := 0, locals := 46 } : Room) s m (([.ref a0] : List Value).toArray) below meth c H280 locsH280 0 0 Q (F0 m 2 ls281 []) := by
    intro nf
    induction nf with
    | zero =>
      intro ls281 H280 locsH280 x283 hl282 hTH280 hSH280 bx283 hm2
      exfalso
      omega
    | succ nf ih2 =>
      intro ls281 H280 locsH280 x283 hl282 hTH280 hSH280 bx283 hm2
      have J39 : ∀ (ls286 : Array Slot) (H285 : Heap) (locsH285 : List Loc) , lv_has ls286 2 [(0, .ref a0), (1, .int x283)] → TY K G H285 → va_S (AE G [] s.heap.size) s.heap H285 locsH285 → (0 ≤ x283.toInt ∧ x283.toInt ≤ 2) → W p l e ({ frames := 2, cells := 0, slots := 0, locals := 46 } : Room) s m (([.ref a0] : List Value).toArray) below meth c H285 locsH285 0 0 Q (F0 m 39 ls286 []) := by
        intro ls286 H285 locsH285  hl287 hTH285 hSH285 b288
        obtain ⟨x290, ex290⟩ : ∃ y : Int32, y = x283 + 1 := ⟨_, rfl⟩
        have tx290 := i_add ex290 (by omega)
        refine lv_iinc (v := x290) (lv' := [(1, .int x290), (0, .ref a0)]) hx hb dX3_isTrueNow_39 hl287 (k := 1) rfl (by rw [ex290]; rfl) (by decide) rfl (fun ls291 hl292 => ?_)
        refine lv_goto (tgt := 2) hx hb dX3_isTrueNow_42 (by decide) ?_
        exact ih2 ls291 H285 locsH285 (x290) (lv_sub hl292 [1, 0] rfl) hTH285 hSH285 (by have := i_rng x290; omega) (by omega)
      refine lv_iload_n hx hb dX3_isTrueNow_2 rfl (lv_at hl282 1 rfl) ?_
      refine lv_iconst (v := 3) hx hb dX3_isTrueNow_3 (by decide) ?_
      refine lv_icmp_ge (tgt := 45) hx hb dX3_isTrueNow_4 (by decide) (fun c293 => ?_) (fun c293 => ?_)
      · have k294 := i_le c293
        refine lv_iconst (v := 1) hx hb dX3_isTrueNow_45 (by decide) ?_
        exact x_zret C hQ (Or.inr rfl) dX3_isTrueNow_46 hSH280 (by decide) (by decide) (⟨1, rfl, by decide, hTH280⟩)
      · have k294 := i_nle c293
        refine lv_aload_n hx hb dX3_isTrueNow_7 rfl (lv_at hl282 0 rfl) ?_
        refine x_gr C hTH280 (ci := 3) (k := 5) rfl inX3 (by decide) wF_X3_27 ga0 rg_89 rfl dX3_isTrueNow_8 (fun q295 eq295 gq295 => ?_)
        refine lv_iload_n hx hb dX3_isTrueNow_11 rfl (lv_at hl282 1 rfl) ?_
        refine x_ai C hTH280 gq295 rg_95 ⟨by omega, by show _ < ((3 : Nat) : Int); omega⟩ dX3_isTrueNow_12 (fun x296 ex296 bx296 => ?_)
        refine lv_if_eq (tgt := 39) hx hb dX3_isTrueNow_13 (by decide) (fun c297 => ?_) (fun c297 => ?_)
        · have k298 := i_eq c297
          exact J39 ls281 H280 locsH280 (lv_sub hl282 [0, 1] rfl) hTH280 hSH280 (by have := i_rng x283; omega)
        · have k298 := i_ne c297
          refine lv_aload_n hx hb dX3_isTrueNow_16 rfl (lv_at hl282 0 rfl) ?_
          refine lv_iload_n hx hb dX3_isTrueNow_17 rfl (lv_at hl282 1 rfl) ?_
          refine lv_aload_n hx hb dX3_isTrueNow_18 rfl (lv_at hl282 0 rfl) ?_
          refine x_gr C hTH280 (ci := 3) (k := 3) rfl inX3 (by decide) wF_X3_21 ga0 rg_89 rfl dX3_isTrueNow_19 (fun q299 eq299 gq299 => ?_)
          refine lv_iload_n hx hb dX3_isTrueNow_22 rfl (lv_at hl282 1 rfl) ?_
          refine x_ai C hTH280 gq299 rg_93 ⟨by omega, by show _ < ((3 : Nat) : Int); omega⟩ dX3_isTrueNow_23 (fun x300 ex300 bx300 => ?_)
          refine lv_aload_n hx hb dX3_isTrueNow_24 rfl (lv_at hl282 0 rfl) ?_
          refine x_gr C hTH280 (ci := 3) (k := 4) rfl inX3 (by decide) wF_X3_24 ga0 rg_89 rfl dX3_isTrueNow_25 (fun q301 eq301 gq301 => ?_)
          refine lv_iload_n hx hb dX3_isTrueNow_28 rfl (lv_at hl282 1 rfl) ?_
          refine x_ai C hTH280 gq301 rg_94 ⟨by omega, by show _ < ((3 : Nat) : Int); omega⟩ dX3_isTrueNow_29 (fun x302 ex302 bx302 => ?_)
          refine lv_iconst (v := 1) hx hb dX3_isTrueNow_30 (by decide) ?_
          refine x_V (As := [.int x283, .int x300, .int x302, .int 1]) (rest := []) C (a_X3_isNear l K G H280 (x283) (x300) (x302) (1) hTH280 ga0 (by omega) (by decide)) yo_X3_isNear wM_X3_117 ⟨⟨by decide, by decide⟩, by decide, by decide⟩ (x_rv C hTH280 (ci := 3) rfl ga0 rg_89) rfl hl282.1 rfl (Nat.le_of_ble_eq_true rfl) dX3_isTrueNow_31 hSH280 (AE_sub (fun _ _ => rfl) (by decide) hSH280.1) (fun vH303 H303 locsH303 pH303 zH303 kH303 hSH303 => ?_)
          obtain ⟨x304, hvH303, bx304, hTH303⟩ := pH303
          subst hvH303
          have m305 := (eq295).trans (fR_kept (x_lt hTH280 kH303 ga0 (by decide))).symm
          have m306 := (ex296).trans (fI_kept (x_lt hTH280 kH303 gq295 (by decide))).symm
          have m307 := (eq299).trans (fR_kept (x_lt hTH280 kH303 ga0 (by decide))).symm
          have m308 := (ex300).trans (fI_kept (x_lt hTH280 kH303 gq299 (by decide))).symm
          have m309 := (eq301).trans (fR_kept (x_lt hTH280 kH303 ga0 (by decide))).symm
          have m310 := (ex302).trans (fI_kept (x_lt hTH280 kH303 gq301 (by decide))).symm
          refine W.eq (g2 := F0 m 34 ls281 [.int x304]) rfl ?_
          refine lv_if_ne (tgt := 39) hx hb dX3_isTrueNow_34 (by decide) (fun c311 => ?_) (fun c311 => ?_)
          · have k312 := i_ne c311
            exact J39 ls281 H303 locsH303 (lv_sub hl282 [0, 1] rfl) hTH303 hSH303 (by have := i_rng x283; omega)
          · have k312 := i_eq c311
            refine lv_iconst (v := 0) hx hb dX3_isTrueNow_37 (by decide) ?_
            exact x_zret C hQ (Or.inl rfl) dX3_isTrueNow_38 hSH303 (by decide) (by decide) (⟨0, rfl, by decide, hTH303⟩)
  refine lv_iconst (v := 0) hx hb dX3_isTrueNow_0 (by decide) ?_
  refine lv_istore_n (lv' := [(1, .int 0), (0, .ref a0)]) hx hb dX3_isTrueNow_1 rfl hl (by decide) rfl (fun ls313 hl314 => ?_)
  exact J2 ((3 - (0 : Int32).toInt).toNat + 1) ls313 s.heap [] (0) (lv_sub hl314 [1, 0] rfl) hT hS (by decide) (by omega)

set_option maxHeartbeats 4000000 in
set_option maxRecDepth 100000 in
theorem a_X3_fill (l : Launch) (K : KE) (G : Nat → Option Nat) (H : Heap) {a0 : Nat} {a1 : Nat} {a2 : Nat} (x3 : Int32) (x4 : Int32) (hT : TY K G H) (ga0 : G a0 = some 89) (ga1 : G a1 = some 82) (ga2 : G a2 = some 16) (hx3 : 0 ≤ x3.toInt ∧ x3.toInt ≤ 7) (hx4 : 0 ≤ x4.toInt ∧ x4.toInt ≤ 5) : MX l K yX3_fill cX3_fill 6 none 3 75 0 0 [.ref a0, .ref a1, .ref a2, .int x3, .int x4] H (AE G [91, 92, 83, 84] H.size) (fun v H1 => v = none ∧ TY K G H1) := by
  refine MX.of (by decide +kernel) (Nat.le_of_ble_eq_true rfl) ?_
  intro p e s m below meth c ls Q C hH hl hQ
  subst hH
  have C : CX p K s m _ meth c RX3 cX3_fill 6 none "fill" := C
  obtain ⟨hx, hb, hml, hown, hts, hKT, hr, hlocks, hnm⟩ := id C
  have hl : lv_has ls 6 [(0, .ref a0), (1, .ref a1), (2, .ref a2), (3, .int x3), (4, .int x4)] := hl
  have hS : va_S (AE G [91, 92, 83, 84] s.heap.size) s.heap s.heap [] := va_S.rf
  have n_0 : (0 : Int32).toInt = 0 := rfl
  have n_1 : (1 : Int32).toInt = 1 := rfl
  have n_3 : (3 : Int32).toInt = 3 := rfl
  have J3 : ∀ (nf : Nat) (ls449 : Array Slot) (H448 : Heap) (locsH448 : List Loc) (x451 : Int32), lv_has ls449 6 [(0, .ref a0), (1, .ref a1), (2, .ref a2), (3, .int x3), (4, .int x4), (5, .int x451)] → TY K G H448 → va_S (AE G [91, 92, 83, 84] s.heap.size) s.heap H448 locsH448 → (0 ≤ x451.toInt ∧ x451.toInt ≤ 3) → (3 - x451.toInt < (nf : Int)) → W p l e ({ frames := 3, cells := 0, slots := 0, locals := 75 } : Room) s m (([.ref a0, .ref a1, .ref a2, .int x3, .int x4] : List Value).toArray) below meth c H448 locsH448 0 0 Q (F0 m 3 ls449 []) := by
    intro nf
    induction nf with
    | zero =>
      intro ls449 H448 locsH448 x451 hl450 hTH448 hSH448 bx451 hm3
      exfalso
      omega
    | succ nf ih3 =>
      intro ls449 H448 locsH448 x451 hl450 hTH448 hSH448 bx451 hm3
      have J61 : ∀ (ls454 : Array Slot) (H453 : Heap) (locsH453 : List Loc) , lv_has ls454 6 [(0, .ref a0), (1, .ref a1), (2, .ref a2), (3, .int x3), (4, .int x4), (5, .int x451)] → TY K G H453 → va_S (AE G [91, 92, 83, 84] s.heap.size) s.heap H453 locsH453 → (0 ≤ x451.toInt ∧ x451.toInt ≤ 2) → W p l e ({ frames := 3, cells := 0, slots := 0, locals := 75 } : Room) s m (([.ref a0, .ref a1, .ref a2, .int x3, .int x4] : List Value).toArray) below meth c H453 locsH453 0 0 Q (F0 m 61 ls454 []) := by
        intro ls454 H453 locsH453  hl455 hTH453 hSH453 b456
        obtain ⟨x458, ex458⟩ : ∃ y : Int32, y = x451 + 1 := ⟨_, rfl⟩
        have tx458 := i_add ex458 (by omega)
        refine lv_iinc (v := x458) (lv' := [(5, .int x458), (0, .ref a0), (1, .ref a1), (2, .ref a2), (3, .int x3), (4, .int x4)]) hx hb dX3_fill_61 hl455 (k := 5) rfl (by rw [ex458]; rfl) (by decide) rfl (fun ls459 hl460 => ?_)
        refine lv_goto (tgt := 3) hx hb dX3_fill_64 (by decide) ?_
        exact ih3 ls459 H453 locsH453 (x458) (lv_sub hl460 [1, 2, 3, 4, 5, 0] rfl) hTH453 hSH453 (by have := i_rng x458; omega) (by omega)
      refine lv_iload hx hb dX3_fill_3 (lv_at hl450 5 rfl) ?_
      refine lv_iconst (v := 3) hx hb dX3_fill_5 (by decide) ?_
      refine lv_icmp_ge (tgt := 67) hx hb dX3_fill_6 (by decide) (fun c461 => ?_) (fun c461 => ?_)
      · have k462 := i_le c461
        exact x_vret C hQ dX3_fill_67 hSH448 (by decide) (by decide) (⟨rfl, hTH448⟩)
      · have k462 := i_nle c461
        refine lv_aload_n hx hb dX3_fill_9 rfl (lv_at hl450 0 rfl) ?_
        refine x_gr C hTH448 (ci := 3) (k := 5) rfl inX3 (by decide) wF_X3_27 ga0 rg_89 rfl dX3_fill_10 (fun q463 eq463 gq463 => ?_)
        refine lv_iload hx hb dX3_fill_13 (lv_at hl450 5 rfl) ?_
        refine x_ai C hTH448 gq463 rg_95 ⟨by omega, by show _ < ((3 : Nat) : Int); omega⟩ dX3_fill_15 (fun x464 ex464 bx464 => ?_)
        refine lv_if_eq (tgt := 61) hx hb dX3_fill_16 (by decide) (fun c465 => ?_) (fun c465 => ?_)
        · have k466 := i_eq c465
          exact J61 ls449 H448 locsH448 (lv_sub hl450 [0, 1, 2, 3, 4, 5] rfl) hTH448 hSH448 (by have := i_rng x451; omega)
        · have k466 := i_ne c465
          refine lv_aload_n hx hb dX3_fill_19 rfl (lv_at hl450 0 rfl) ?_
          refine x_gr C hTH448 (ci := 3) (k := 1) rfl inX3 (by decide) wF_X3_15 ga0 rg_89 rfl dX3_fill_20 (fun q467 eq467 gq467 => ?_)
          refine lv_iload hx hb dX3_fill_23 (lv_at hl450 5 rfl) ?_
          refine lv_iload_n hx hb dX3_fill_25 rfl (lv_at hl450 3 rfl) ?_
          refine lv_iload hx hb dX3_fill_26 (lv_at hl450 4 rfl) ?_
          refine x_S (As := [.int x451, .int x3, .int x4]) (rest := [.ref q467]) C (a_X3_place l K G H448 (x451) (x3) (x4) hTH448 (by omega) (by omega) (by omega)) yo_X3_place wM_X3_82 ⟨⟨by decide, by decide⟩, by decide, by decide⟩ rfl hl450.1 rfl (Nat.le_of_ble_eq_true rfl) dX3_fill_28 hSH448 (AE_sub (fun _ _ => rfl) (by decide) hSH448.1) (fun vH468 H468 locsH468 pH468 zH468 kH468 hSH468 => ?_)
          obtain ⟨x469, hvH468, bx469, hrH468, hTH468⟩ := pH468
          subst hvH468
          have m470 := (eq463).trans (fR_kept (x_lt hTH448 kH468 ga0 (by decide))).symm
          have m471 := (ex464).trans (fI_kept (x_lt hTH448 kH468 gq463 (by decide))).symm
          have m472 := (eq467).trans (fR_kept (x_lt hTH448 kH468 ga0 (by decide))).symm
          refine W.eq (g2 := F0 m 31 ls449 [.int x469, .ref q467]) rfl ?_
          refine lv_aload_n hx hb dX3_fill_31 rfl (lv_at hl450 1 rfl) ?_
          refine lv_aload_n hx hb dX3_fill_32 rfl (lv_at hl450 2 rfl) ?_
          refine lv_iconst (v := 0) hx hb dX3_fill_33 (by decide) ?_
          refine lv_iload hx hb dX3_fill_34 (lv_at hl450 5 rfl) ?_
          refine x_V (As := [.ref a2, .int 0, .int x451]) (rest := [.int x469, .ref q467]) C (a_X6_told l K G H468 (0) (x451) hTH468 ga1 ga2) yo_X6_told wM_X3_86 ⟨⟨by decide, by decide⟩, by decide, by decide⟩ (x_rv C hTH468 (ci := 6) rfl ga1 rg_82) rfl hl450.1 rfl (Nat.le_of_ble_eq_true rfl) dX3_fill_36 hSH468 (AE_sub (fun _ _ => rfl) (by decide) hSH468.1) (fun vH473 H473 locsH473 pH473 zH473 kH473 hSH473 => ?_)
          obtain ⟨⟨x474, hvH473, bx474⟩, hTH473⟩ := pH473
          subst hvH473
          have m475 := (m470).trans (fR_kept (x_lt hTH468 kH473 ga0 (by decide))).symm
          have m476 := (m471).trans (fI_kept (x_lt hTH468 kH473 gq463 (by decide))).symm
          have m477 := (m472).trans (fR_kept (x_lt hTH468 kH473 ga0 (by decide))).symm
          refine W.eq (g2 := F0 m 39 ls449 [.int x474, .int x469, .ref q467]) rfl ?_
          refine x_iast C hTH473 hSH473 gq467 rg_91 (by omega) (by show _ < ((144 : Nat) : Int); omega) ⟨by have := i_rng x474; omega, by have := i_rng x474; omega⟩ (AE_in gq467 (by decide)) dX3_fill_39 (fun H478 locsH478 hTH478 hSH478 wH478 => ?_)
          have m479 := m475.trans (Wr.neR wH478 (Or.inl (G_ne ga0 gq467 (by decide)))).symm
          have m480 := m476.trans (Wr.neI wH478 (Or.inl (G_ne gq463 gq467 (by decide)))).symm
          have m481 := m477.trans (Wr.neR wH478 (Or.inl (G_ne ga0 gq467 (by decide)))).symm
          have m482 := Wr.I wH478
          have m482 := m482.symm
          refine lv_aload_n hx hb dX3_fill_40 rfl (lv_at hl450 0 rfl) ?_
          refine x_gr C hTH478 (ci := 3) (k := 2) rfl inX3 (by decide) wF_X3_18 ga0 rg_89 rfl dX3_fill_41 (fun q483 eq483 gq483 => ?_)
          refine lv_iload hx hb dX3_fill_44 (lv_at hl450 5 rfl) ?_
          refine lv_iload_n hx hb dX3_fill_46 rfl (lv_at hl450 3 rfl) ?_
          refine lv_iload hx hb dX3_fill_47 (lv_at hl450 4 rfl) ?_
          refine x_S (As := [.int x451, .int x3, .int x4]) (rest := [.ref q483]) C (a_X3_place l K G H478 (x451) (x3) (x4) hTH478 (by omega) (by omega) (by omega)) yo_X3_place wM_X3_82 ⟨⟨by decide, by decide⟩, by decide, by decide⟩ rfl hl450.1 rfl (Nat.le_of_ble_eq_true rfl) dX3_fill_49 hSH478 (AE_sub (fun _ _ => rfl) (by decide) hSH478.1) (fun vH484 H484 locsH484 pH484 zH484 kH484 hSH484 => ?_)
          obtain ⟨x485, hvH484, bx485, hrH484, hTH484⟩ := pH484
          subst hvH484
          have m486 := (m479).trans (fR_kept (x_lt hTH478 kH484 ga0 (by decide))).symm
          have m487 := (m480).trans (fI_kept (x_lt hTH478 kH484 gq463 (by decide))).symm
          have m488 := (m481).trans (fR_kept (x_lt hTH478 kH484 ga0 (by decide))).symm
          have m489 := (m482).trans (fI_kept (x_lt hTH478 kH484 gq467 (by decide))).symm
          have m490 := (eq483).trans (fR_kept (x_lt hTH478 kH484 ga0 (by decide))).symm
          refine W.eq (g2 := F0 m 52 ls449 [.int x485, .ref q483]) rfl ?_
          refine lv_aload_n hx hb dX3_fill_52 rfl (lv_at hl450 1 rfl) ?_
          refine lv_aload_n hx hb dX3_fill_53 rfl (lv_at hl450 2 rfl) ?_
          refine lv_iconst (v := 1) hx hb dX3_fill_54 (by decide) ?_
          refine lv_iload hx hb dX3_fill_55 (lv_at hl450 5 rfl) ?_
          refine x_V (As := [.ref a2, .int 1, .int x451]) (rest := [.int x485, .ref q483]) C (a_X6_told l K G H484 (1) (x451) hTH484 ga1 ga2) yo_X6_told wM_X3_86 ⟨⟨by decide, by decide⟩, by decide, by decide⟩ (x_rv C hTH484 (ci := 6) rfl ga1 rg_82) rfl hl450.1 rfl (Nat.le_of_ble_eq_true rfl) dX3_fill_57 hSH484 (AE_sub (fun _ _ => rfl) (by decide) hSH484.1) (fun vH491 H491 locsH491 pH491 zH491 kH491 hSH491 => ?_)
          obtain ⟨⟨x492, hvH491, bx492⟩, hTH491⟩ := pH491
          subst hvH491
          have m493 := (m486).trans (fR_kept (x_lt hTH484 kH491 ga0 (by decide))).symm
          have m494 := (m487).trans (fI_kept (x_lt hTH484 kH491 gq463 (by decide))).symm
          have m495 := (m488).trans (fR_kept (x_lt hTH484 kH491 ga0 (by decide))).symm
          have m496 := (m489).trans (fI_kept (x_lt hTH484 kH491 gq467 (by decide))).symm
          have m497 := (m490).trans (fR_kept (x_lt hTH484 kH491 ga0 (by decide))).symm
          refine W.eq (g2 := F0 m 60 ls449 [.int x492, .int x485, .ref q483]) rfl ?_
          refine x_iast C hTH491 hSH491 gq483 rg_92 (by omega) (by show _ < ((144 : Nat) : Int); omega) ⟨by have := i_rng x492; omega, by have := i_rng x492; omega⟩ (AE_in gq483 (by decide)) dX3_fill_60 (fun H498 locsH498 hTH498 hSH498 wH498 => ?_)
          have m499 := m493.trans (Wr.neR wH498 (Or.inl (G_ne ga0 gq483 (by decide)))).symm
          have m500 := m494.trans (Wr.neI wH498 (Or.inl (G_ne gq463 gq483 (by decide)))).symm
          have m501 := m495.trans (Wr.neR wH498 (Or.inl (G_ne ga0 gq483 (by decide)))).symm
          have m502 := m496.trans (Wr.neI wH498 (Or.inl (G_ne gq467 gq483 (by decide)))).symm
          have m503 := m497.trans (Wr.neR wH498 (Or.inl (G_ne ga0 gq483 (by decide)))).symm
          have m504 := Wr.I wH498
          have m504 := m504.symm
          exact J61 ls449 H498 locsH498 (lv_sub hl450 [0, 1, 2, 3, 4, 5] rfl) hTH498 hSH498 (by have := i_rng x451; omega)
  refine lv_iconst (v := 0) hx hb dX3_fill_0 (by decide) ?_
  refine lv_istore (lv' := [(5, .int 0), (0, .ref a0), (1, .ref a1), (2, .ref a2), (3, .int x3), (4, .int x4)]) hx hb dX3_fill_1 hl (by decide) rfl (fun ls505 hl506 => ?_)
  exact J3 ((3 - (0 : Int32).toInt).toNat + 1) ls505 s.heap [] (0) (lv_sub hl506 [1, 2, 3, 4, 5, 0] rfl) hT hS (by decide) (by omega)

set_option maxHeartbeats 4000000 in
set_option maxRecDepth 100000 in
theorem a_X3_prepare (l : Launch) (K : KE) (G : Nat → Option Nat) (H : Heap) {a0 : Nat} {a1 : Nat} {a2 : Nat} {a3 : Nat} (x4 : Int32) (hT : TY K G H) (ga0 : G a0 = some 89) (ga1 : G a1 = some 82) (ga2 : G a2 = some 16) (ga3 : G a3 = some 1) : MX l K yX3_prepare cX3_prepare 7 none 4 100 0 0 [.ref a0, .ref a1, .ref a2, .ref a3, .int x4] H (AE G [89, 91, 92, 93, 94, 95, 96, 97, 83, 84] H.size) (fun v H1 => v = none ∧ TY K G H1) := by
  refine MX.of (by decide +kernel) (Nat.le_of_ble_eq_true rfl) ?_
  intro p e s m below meth c ls Q C hH hl hQ
  subst hH
  have C : CX p K s m _ meth c RX3 cX3_prepare 7 none "prepare" := C
  obtain ⟨hx, hb, hml, hown, hts, hKT, hr, hlocks, hnm⟩ := id C
  have hl : lv_has ls 7 [(0, .ref a0), (1, .ref a1), (2, .ref a2), (3, .ref a3), (4, .int x4)] := hl
  have hS : va_S (AE G [89, 91, 92, 93, 94, 95, 96, 97, 83, 84] s.heap.size) s.heap s.heap [] := va_S.rf
  have n_0 : (0 : Int32).toInt = 0 := rfl
  have n_1 : (1 : Int32).toInt = 1 := rfl
  have n_3 : (3 : Int32).toInt = 3 := rfl
  have n_5 : (5 : Int32).toInt = 5 := rfl
  have n_8 : (8 : Int32).toInt = 8 := rfl
  have J27 : ∀ (nf : Nat) (ls2180 : Array Slot) (H2179 : Heap) (locsH2179 : List Loc) (x2182 : Int32), lv_has ls2180 7 [(0, .ref a0), (1, .ref a1), (2, .ref a2), (3, .ref a3), (5, .int x2182)] → TY K G H2179 → va_S (AE G [89, 91, 92, 93, 94, 95, 96, 97, 83, 84] s.heap.size) s.heap H2179 locsH2179 → (0 ≤ x2182.toInt ∧ x2182.toInt ≤ 3) → (3 - x2182.toInt < (nf : Int)) → W p l e ({ frames := 4, cells := 0, slots := 0, locals := 100 } : Room) s m (([.ref a0, .ref a1, .ref a2, .ref a3, .int x4] : List Value).toArray) below meth c H2179 locsH2179 0 0 Q (F0 m 27 ls2180 []) := by
    intro nf
    induction nf with
    | zero =>
      intro ls2180 H2179 locsH2179 x2182 hl2181 hTH2179 hSH2179 bx2182 hm27
      exfalso
      omega
    | succ nf ih27 =>
      intro ls2180 H2179 locsH2179 x2182 hl2181 hTH2179 hSH2179 bx2182 hm27
      have J72 : ∀ (nf : Nat) (ls2185 : Array Slot) (H2184 : Heap) (locsH2184 : List Loc) (x2187 : Int32), lv_has ls2185 7 [(0, .ref a0), (1, .ref a1), (2, .ref a2), (3, .ref a3), (5, .int x2187)] → TY K G H2184 → va_S (AE G [89, 91, 92, 93, 94, 95, 96, 97, 83, 84] s.heap.size) s.heap H2184 locsH2184 → (0 ≤ x2187.toInt ∧ x2187.toInt ≤ 8) → (8 - x2187.toInt < (nf : Int)) → W p l e ({ frames := 4, cells := 0, slots := 0, locals := 100 } : Room) s m (([.ref a0, .ref a1, .ref a2, .ref a3, .int x4] : List Value).toArray) below meth c H2184 locsH2184 0 0 Q (F0 m 72 ls2185 []) := by
        intro nf
        induction nf with
        | zero =>
          intro ls2185 H2184 locsH2184 x2187 hl2186 hTH2184 hSH2184 bx2187 hm72
          exfalso
          omega
        | succ nf ih72 =>
          intro ls2185 H2184 locsH2184 x2187 hl2186 hTH2184 hSH2184 bx2187 hm72
          have J112 : ∀ (nf : Nat) (ls2190 : Array Slot) (H2189 : Heap) (locsH2189 : List Loc) (x2193 : Int32), lv_has ls2190 7 [(0, .ref a0), (1, .ref a1), (2, .ref a2), (3, .ref a3), (5, .int x2187), (6, .int x2193)] → TY K G H2189 → va_S (AE G [89, 91, 92, 93, 94, 95, 96, 97, 83, 84] s.heap.size) s.heap H2189 locsH2189 → (0 ≤ x2187.toInt ∧ x2187.toInt ≤ 7) → (0 ≤ x2193.toInt ∧ x2193.toInt ≤ 6) → (6 - x2193.toInt < (nf : Int)) → W p l e ({ frames := 4, cells := 0, slots := 0, locals := 100 } : Room) s m (([.ref a0, .ref a1, .ref a2, .ref a3, .int x4] : List Value).toArray) below meth c H2189 locsH2189 0 0 Q (F0 m 112 ls2190 []) := by
            intro nf
            induction nf with
            | zero =>
              intro ls2190 H2189 locsH2189 x2193 hl2191 hTH2189 hSH2189 b2192 bx2193 hm112
              exfalso
              omega
            | succ nf ih112 =>
              intro ls2190 H2189 locsH2189 x2193 hl2191 hTH2189 hSH2189 b2192 bx2193 hm112
              have J174 : ∀ (nf : Nat) (ls2196 : Array Slot) (H2195 : Heap) (locsH2195 : List Loc) (x2198 : Int32), lv_has ls2196 7 [(0, .ref a0), (1, .ref a1), (2, .ref a2), (3, .ref a3), (5, .int x2187), (6, .int x2198)] → TY K G H2195 → va_S (AE G [89, 91, 92, 93, 94, 95, 96, 97, 83, 84] s.heap.size) s.heap H2195 locsH2195 → (0 ≤ x2198.toInt ∧ x2198.toInt ≤ 3) → (3 - x2198.toInt < (nf : Int)) → W p l e ({ frames := 4, cells := 0, slots := 0, locals := 100 } : Room) s m (([.ref a0, .ref a1, .ref a2, .ref a3, .int x4] : List Value).toArray) below meth c H2195 locsH2195 0 0 Q (F0 m 174 ls2196 []) := by
                intro nf
                induction nf with
                | zero =>
                  intro ls2196 H2195 locsH2195 x2198 hl2197 hTH2195 hSH2195 bx2198 hm174
                  exfalso
                  omega
                | succ nf ih174 =>
                  intro ls2196 H2195 locsH2195 x2198 hl2197 hTH2195 hSH2195 bx2198 hm174
                  have J236 : ∀ (ls2201 : Array Slot) (H2200 : Heap) (locsH2200 : List Loc) , lv_has ls2201 7 [(0, .ref a0), (1, .ref a1), (2, .ref a2), (3, .ref a3), (5, .int x2187), (6, .int x2198)] → TY K G H2200 → va_S (AE G [89, 91, 92, 93, 94, 95, 96, 97, 83, 84] s.heap.size) s.heap H2200 locsH2200 → (0 ≤ x2198.toInt ∧ x2198.toInt ≤ 2) → W p l e ({ frames := 4, cells := 0, slots := 0, locals := 100 } : Room) s m (([.ref a0, .ref a1, .ref a2, .ref a3, .int x4] : List Value).toArray) below meth c H2200 locsH2200 0 0 Q (F0 m 236 ls2201 []) := by
                    intro ls2201 H2200 locsH2200  hl2202 hTH2200 hSH2200 b2203
                    obtain ⟨x2205, ex2205⟩ : ∃ y : Int32, y = x2198 + 1 := ⟨_, rfl⟩
                    have tx2205 := i_add ex2205 (by omega)
                    refine lv_iinc (v := x2205) (lv' := [(6, .int x2205), (0, .ref a0), (1, .ref a1), (2, .ref a2), (3, .ref a3), (5, .int x2187)]) hx hb dX3_prepare_236 hl2202 (k := 5) rfl (by rw [ex2205]; rfl) (by decide) rfl (fun ls2206 hl2207 => ?_)
                    refine lv_goto (tgt := 174) hx hb dX3_prepare_239 (by decide) ?_
                    exact ih174 ls2206 H2200 locsH2200 (x2205) (lv_sub hl2207 [1, 2, 3, 4, 5, 0] rfl) hTH2200 hSH2200 (by have := i_rng x2205; omega) (by omega)
                  refine lv_iload hx hb dX3_prepare_174 (lv_at hl2197 5 rfl) ?_
                  refine lv_iconst (v := 3) hx hb dX3_prepare_176 (by decide) ?_
                  refine lv_icmp_ge (tgt := 242) hx hb dX3_prepare_177 (by decide) (fun c2208 => ?_) (fun c2208 => ?_)
                  · have k2209 := i_le c2208
                    obtain ⟨x2210, ex2210⟩ : ∃ y : Int32, y = x2187 + 1 := ⟨_, rfl⟩
                    have tx2210 := i_add ex2210 (by omega)
                    refine lv_iinc (v := x2210) (lv' := [(5, .int x2210), (0, .ref a0), (1, .ref a1), (2, .ref a2), (3, .ref a3), (6, .int x2198)]) hx hb dX3_prepare_242 hl2197 (k := 4) rfl (by rw [ex2210]; rfl) (by decide) rfl (fun ls2211 hl2212 => ?_)
                    refine lv_goto (tgt := 72) hx hb dX3_prepare_245 (by decide) ?_
                    exact ih72 ls2211 H2195 locsH2195 (x2210) (lv_sub hl2212 [1, 2, 3, 4, 0] rfl) hTH2195 hSH2195 (by have := i_rng x2210; omega) (by omega)
                  · have k2209 := i_nle c2208
                    refine lv_aload_n hx hb dX3_prepare_180 rfl (lv_at hl2197 0 rfl) ?_
                    refine x_gr C hTH2195 (ci := 3) (k := 5) rfl inX3 (by decide) wF_X3_27 ga0 rg_89 rfl dX3_prepare_181 (fun q2213 eq2213 gq2213 => ?_)
                    refine lv_iload hx hb dX3_prepare_184 (lv_at hl2197 5 rfl) ?_
                    refine x_ai C hTH2195 gq2213 rg_95 ⟨by omega, by show _ < ((3 : Nat) : Int); omega⟩ dX3_prepare_186 (fun x2214 ex2214 bx2214 => ?_)
                    refine lv_if_eq (tgt := 236) hx hb dX3_prepare_187 (by decide) (fun c2215 => ?_) (fun c2215 => ?_)
                    · have k2216 := i_eq c2215
                      exact J236 ls2196 H2195 locsH2195 (lv_sub hl2197 [0, 1, 2, 3, 4, 5] rfl) hTH2195 hSH2195 (by have := i_rng x2198; omega)
                    · have k2216 := i_ne c2215
                      refine lv_aload_n hx hb dX3_prepare_190 rfl (lv_at hl2197 0 rfl) ?_
                      refine x_gr C hTH2195 (ci := 3) (k := 3) rfl inX3 (by decide) wF_X3_21 ga0 rg_89 rfl dX3_prepare_191 (fun q2217 eq2217 gq2217 => ?_)
                      refine lv_iload hx hb dX3_prepare_194 (lv_at hl2197 5 rfl) ?_
                      refine lv_dup2_11 hx hb dX3_prepare_196 rfl rfl ?_
                      refine x_ai C hTH2195 gq2217 rg_93 ⟨by omega, by show _ < ((3 : Nat) : Int); omega⟩ dX3_prepare_197 (fun x2218 ex2218 bx2218 => ?_)
                      refine lv_aload_n hx hb dX3_prepare_198 rfl (lv_at hl2197 0 rfl) ?_
                      refine x_gr C hTH2195 (ci := 3) (k := 1) rfl inX3 (by decide) wF_X3_15 ga0 rg_89 rfl dX3_prepare_199 (fun q2219 eq2219 gq2219 => ?_)
                      refine lv_iload hx hb dX3_prepare_202 (lv_at hl2197 5 rfl) ?_
                      refine lv_iload hx hb dX3_prepare_204 (lv_at hl2197 4 rfl) ?_
                      refine lv_iconst (v := 0) hx hb dX3_prepare_206 (by decide) ?_
                      refine x_S (As := [.int x2198, .int x2187, .int 0]) (rest := [.ref q2219, .int x2218, .int x2198, .ref q2217]) C (a_X3_place l K G H2195 (x2198) (x2187) (0) hTH2195 (by omega) (by omega) (by decide)) yo_X3_place wM_X3_82 ⟨⟨by decide, by decide⟩, by decide, by decide⟩ rfl hl2197.1 rfl (Nat.le_of_ble_eq_true rfl) dX3_prepare_207 hSH2195 (AE_sub (fun _ _ => rfl) (by decide) hSH2195.1) (fun vH2220 H2220 locsH2220 pH2220 zH2220 kH2220 hSH2220 => ?_)
                      obtain ⟨x2221, hvH2220, bx2221, hrH2220, hTH2220⟩ := pH2220
                      subst hvH2220
                      have m2222 := (eq2213).trans (fR_kept (x_lt hTH2195 kH2220 ga0 (by decide))).symm
                      have m2223 := (ex2214).trans (fI_kept (x_lt hTH2195 kH2220 gq2213 (by decide))).symm
                      have m2224 := (eq2217).trans (fR_kept (x_lt hTH2195 kH2220 ga0 (by decide))).symm
                      have m2225 := (ex2218).trans (fI_kept (x_lt hTH2195 kH2220 gq2217 (by decide))).symm
                      have m2226 := (eq2219).trans (fR_kept (x_lt hTH2195 kH2220 ga0 (by decide))).symm
                      refine W.eq (g2 := F0 m 210 ls2196 [.int x2221, .ref q2219, .int x2218, .int x2198, .ref q2217]) rfl ?_
                      refine x_ai C hTH2220 gq2219 rg_91 ⟨by omega, by show _ < ((144 : Nat) : Int); omega⟩ dX3_prepare_210 (fun x2227 ex2227 bx2227 => ?_)
                      refine lv_iadd hx hb dX3_prepare_211 ?_
                      refine lv_topi (fun x2228 ex2228 => ?_)
                      refine x_iast C hTH2220 hSH2220 gq2217 rg_93 (by omega) (by show _ < ((3 : Nat) : Int); omega) ⟨by have := i_rng x2228; omega, by have := i_rng x2228; omega⟩ (AE_in gq2217 (by decide)) dX3_prepare_212 (fun H2229 locsH2229 hTH2229 hSH2229 wH2229 => ?_)
                      have m2230 := m2222.trans (Wr.neR wH2229 (Or.inl (G_ne ga0 gq2217 (by decide)))).symm
                      have m2231 := m2223.trans (Wr.neI wH2229 (Or.inl (G_ne gq2213 gq2217 (by decide)))).symm
                      have m2232 := m2224.trans (Wr.neR wH2229 (Or.inl (G_ne ga0 gq2217 (by decide)))).symm
                      have m2234 := m2226.trans (Wr.neR wH2229 (Or.inl (G_ne ga0 gq2217 (by decide)))).symm
                      have m2235 := ex2227.trans (Wr.neI wH2229 (Or.inl (G_ne gq2219 gq2217 (by decide)))).symm
                      have m2236 := Wr.I wH2229
                      have m2236 := m2236.symm
                      refine lv_aload_n hx hb dX3_prepare_213 rfl (lv_at hl2197 0 rfl) ?_
                      refine x_gr C hTH2229 (ci := 3) (k := 4) rfl inX3 (by decide) wF_X3_24 ga0 rg_89 rfl dX3_prepare_214 (fun q2237 eq2237 gq2237 => ?_)
                      refine lv_iload hx hb dX3_prepare_217 (lv_at hl2197 5 rfl) ?_
                      refine lv_dup2_11 hx hb dX3_prepare_219 rfl rfl ?_
                      refine x_ai C hTH2229 gq2237 rg_94 ⟨by omega, by show _ < ((3 : Nat) : Int); omega⟩ dX3_prepare_220 (fun x2238 ex2238 bx2238 => ?_)
                      refine lv_aload_n hx hb dX3_prepare_221 rfl (lv_at hl2197 0 rfl) ?_
                      refine x_gr C hTH2229 (ci := 3) (k := 2) rfl inX3 (by decide) wF_X3_18 ga0 rg_89 rfl dX3_prepare_222 (fun q2239 eq2239 gq2239 => ?_)
                      refine lv_iload hx hb dX3_prepare_225 (lv_at hl2197 5 rfl) ?_
                      refine lv_iload hx hb dX3_prepare_227 (lv_at hl2197 4 rfl) ?_
                      refine lv_iconst (v := 0) hx hb dX3_prepare_229 (by decide) ?_
                      refine x_S (As := [.int x2198, .int x2187, .int 0]) (rest := [.ref q2239, .int x2238, .int x2198, .ref q2237]) C (a_X3_place l K G H2229 (x2198) (x2187) (0) hTH2229 (by omega) (by omega) (by decide)) yo_X3_place wM_X3_82 ⟨⟨by decide, by decide⟩, by decide, by decide⟩ rfl hl2197.1 rfl (Nat.le_of_ble_eq_true rfl) dX3_prepare_230 hSH2229 (AE_sub (fun _ _ => rfl) (by decide) hSH2229.1) (fun vH2240 H2240 locsH2240 pH2240 zH2240 kH2240 hSH2240 => ?_)
                      obtain ⟨x2241, hvH2240, bx2241, hrH2240, hTH2240⟩ := pH2240
                      subst hvH2240
                      have m2242 := (m2230).trans (fR_kept (x_lt hTH2229 kH2240 ga0 (by decide))).symm
                      have m2243 := (m2231).trans (fI_kept (x_lt hTH2229 kH2240 gq2213 (by decide))).symm
                      have m2244 := (m2232).trans (fR_kept (x_lt hTH2229 kH2240 ga0 (by decide))).symm
                      have m2245 := (m2234).trans (fR_kept (x_lt hTH2229 kH2240 ga0 (by decide))).symm
                      have m2246 := (m2235).trans (fI_kept (x_lt hTH2229 kH2240 gq2219 (by decide))).symm
                      have m2247 := (m2236).trans (fI_kept (x_lt hTH2229 kH2240 gq2217 (by decide))).symm
                      have m2248 := (eq2237).trans (fR_kept (x_lt hTH2229 kH2240 ga0 (by decide))).symm
                      have m2249 := (ex2238).trans (fI_kept (x_lt hTH2229 kH2240 gq2237 (by decide))).symm
                      have m2250 := (eq2239).trans (fR_kept (x_lt hTH2229 kH2240 ga0 (by decide))).symm
                      refine W.eq (g2 := F0 m 233 ls2196 [.int x2241, .ref q2239, .int x2238, .int x2198, .ref q2237]) rfl ?_
                      refine x_ai C hTH2240 gq2239 rg_92 ⟨by omega, by show _ < ((144 : Nat) : Int); omega⟩ dX3_prepare_233 (fun x2251 ex2251 bx2251 => ?_)
                      refine lv_iadd hx hb dX3_prepare_234 ?_
                      refine lv_topi (fun x2252 ex2252 => ?_)
                      refine x_iast C hTH2240 hSH2240 gq2237 rg_94 (by omega) (by show _ < ((3 : Nat) : Int); omega) ⟨by have := i_rng x2252; omega, by have := i_rng x2252; omega⟩ (AE_in gq2237 (by decide)) dX3_prepare_235 (fun H2253 locsH2253 hTH2253 hSH2253 wH2253 => ?_)
                      have m2254 := m2242.trans (Wr.neR wH2253 (Or.inl (G_ne ga0 gq2237 (by decide)))).symm
                      have m2255 := m2243.trans (Wr.neI wH2253 (Or.inl (G_ne gq2213 gq2237 (by decide)))).symm
                      have m2256 := m2244.trans (Wr.neR wH2253 (Or.inl (G_ne ga0 gq2237 (by decide)))).symm
                      have m2257 := m2245.trans (Wr.neR wH2253 (Or.inl (G_ne ga0 gq2237 (by decide)))).symm
                      have m2258 := m2246.trans (Wr.neI wH2253 (Or.inl (G_ne gq2219 gq2237 (by decide)))).symm
                      have m2259 := m2247.trans (Wr.neI wH2253 (Or.inl (G_ne gq2217 gq2237 (by decide)))).symm
                      have m2260 := m2248.trans (Wr.neR wH2253 (Or.inl (G_ne ga0 gq2237 (by decide)))).symm
                      have m2262 := m2250.trans (Wr.neR wH2253 (Or.inl (G_ne ga0 gq2237 (by decide)))).symm
                      have m2263 := ex2251.trans (Wr.neI wH2253 (Or.inl (G_ne gq2239 gq2237 (by decide)))).symm
                      have m2264 := Wr.I wH2253
                      have m2264 := m2264.symm
                      exact J236 ls2196 H2253 locsH2253 (lv_sub hl2197 [0, 1, 2, 3, 4, 5] rfl) hTH2253 hSH2253 (by have := i_rng x2198; omega)
              refine lv_iload hx hb dX3_prepare_112 (lv_at hl2191 5 rfl) ?_
              refine lv_aload_n hx hb dX3_prepare_114 rfl (lv_at hl2191 0 rfl) ?_
              refine x_gr C hTH2189 (ci := 3) (k := 7) rfl inX3 (by decide) wF_X3_33 ga0 rg_89 rfl dX3_prepare_115 (fun q2265 eq2265 gq2265 => ?_)
              refine lv_iload hx hb dX3_prepare_118 (lv_at hl2191 4 rfl) ?_
              refine x_ai C hTH2189 gq2265 rg_97 ⟨by omega, by show _ < ((8 : Nat) : Int); omega⟩ dX3_prepare_120 (fun x2266 ex2266 bx2266 => ?_)
              refine lv_icmp_gt (tgt := 171) hx hb dX3_prepare_121 (by decide) (fun c2267 => ?_) (fun c2267 => ?_)
              · have k2268 := i_lt c2267
                refine lv_iconst (v := 0) hx hb dX3_prepare_171 (by decide) ?_
                refine lv_istore (lv' := [(6, .int 0), (0, .ref a0), (1, .ref a1), (2, .ref a2), (3, .ref a3), (5, .int x2187)]) hx hb dX3_prepare_172 hl2191 (by decide) rfl (fun ls2269 hl2270 => ?_)
                exact J174 ((3 - (0 : Int32).toInt).toNat + 1) ls2269 H2189 locsH2189 (0) (lv_sub hl2270 [1, 2, 3, 4, 5, 0] rfl) hTH2189 hSH2189 (by decide) (by omega)
              · have k2268 := i_nlt c2267
                refine lv_aload_n hx hb dX3_prepare_124 rfl (lv_at hl2191 1 rfl) ?_
                refine lv_aload_n hx hb dX3_prepare_125 rfl (lv_at hl2191 3 rfl) ?_
                refine lv_iload hx hb dX3_prepare_126 (lv_at hl2191 4 rfl) ?_
                refine lv_aload_n hx hb dX3_prepare_128 rfl (lv_at hl2191 3 rfl) ?_
                refine x_gr C hTH2189 (ci := 0) (k := 1) rfl inX0 (by decide) wF_X3_63 ga3 rg_1 rfl dX3_prepare_129 (fun q2271 eq2271 gq2271 => ?_)
                refine lv_iload hx hb dX3_prepare_132 (lv_at hl2191 4 rfl) ?_
                refine x_ai C hTH2189 gq2271 rg_2 ⟨by omega, by show _ < ((16 : Nat) : Int); omega⟩ dX3_prepare_134 (fun x2272 ex2272 bx2272 => ?_)
                refine lv_iload hx hb dX3_prepare_135 (lv_at hl2191 5 rfl) ?_
                refine lv_isub hx hb dX3_prepare_137 ?_
                refine lv_topi (fun x2273 ex2273 => ?_)
                refine lv_aload_n hx hb dX3_prepare_138 rfl (lv_at hl2191 3 rfl) ?_
                refine x_gr C hTH2189 (ci := 0) (k := 2) rfl inX0 (by decide) wF_X3_66 ga3 rg_1 rfl dX3_prepare_139 (fun q2274 eq2274 gq2274 => ?_)
                refine lv_iload hx hb dX3_prepare_142 (lv_at hl2191 4 rfl) ?_
                refine x_ai C hTH2189 gq2274 rg_3 ⟨by omega, by show _ < ((16 : Nat) : Int); omega⟩ dX3_prepare_144 (fun x2275 ex2275 bx2275 => ?_)
                refine lv_aload_n hx hb dX3_prepare_145 rfl (lv_at hl2191 3 rfl) ?_
                refine x_gr C hTH2189 (ci := 0) (k := 4) rfl inX0 (by decide) wF_X3_69 ga3 rg_1 rfl dX3_prepare_146 (fun q2276 eq2276 gq2276 => ?_)
                refine lv_iload hx hb dX3_prepare_149 (lv_at hl2191 4 rfl) ?_
                refine x_ai C hTH2189 gq2276 rg_5 ⟨by omega, by show _ < ((16 : Nat) : Int); omega⟩ dX3_prepare_151 (fun x2277 ex2277 bx2277 => ?_)
                refine x_V (As := [.ref a3, .int x2187, .int x2273, .int x2275, .int x2277]) (rest := []) C (a_X6_seeSlice l K G H2189 (x2187) (x2273) (x2275) (x2277) hTH2189 ga1 ga3 (by omega)) yo_X6_seeSlice wM_X3_72 ⟨⟨by decide, by decide⟩, by decide, by decide⟩ (x_rv C hTH2189 (ci := 6) rfl ga1 rg_82) rfl hl2191.1 rfl (Nat.le_of_ble_eq_true rfl) dX3_prepare_152 hSH2189 (AE_sub (fun _ _ => rfl) (by decide) hSH2189.1) (fun vH2278 H2278 locsH2278 pH2278 zH2278 kH2278 hSH2278 => ?_)
                obtain ⟨hvH2278, hTH2278⟩ := pH2278
                subst hvH2278
                have m2279 := (eq2265).trans (fR_kept (x_lt hTH2189 kH2278 ga0 (by decide))).symm
                have m2280 := (ex2266).trans (fI_kept (x_lt hTH2189 kH2278 gq2265 (by decide))).symm
                have m2281 := (eq2271).trans (fR_kept (x_lt hTH2189 kH2278 ga3 (by decide))).symm
                have m2282 := (ex2272).trans (fI_kept (x_lt hTH2189 kH2278 gq2271 (by decide))).symm
                have m2283 := (eq2274).trans (fR_kept (x_lt hTH2189 kH2278 ga3 (by decide))).symm
                have m2284 := (ex2275).trans (fI_kept (x_lt hTH2189 kH2278 gq2274 (by decide))).symm
                have m2285 := (eq2276).trans (fR_kept (x_lt hTH2189 kH2278 ga3 (by decide))).symm
                have m2286 := (ex2277).trans (fI_kept (x_lt hTH2189 kH2278 gq2276 (by decide))).symm
                refine W.eq (g2 := F0 m 155 ls2190 []) rfl ?_
                refine lv_aload_n hx hb dX3_prepare_155 rfl (lv_at hl2191 0 rfl) ?_
                refine lv_aload_n hx hb dX3_prepare_156 rfl (lv_at hl2191 1 rfl) ?_
                refine lv_aload_n hx hb dX3_prepare_157 rfl (lv_at hl2191 2 rfl) ?_
                refine lv_iload hx hb dX3_prepare_158 (lv_at hl2191 4 rfl) ?_
                refine lv_iload hx hb dX3_prepare_160 (lv_at hl2191 5 rfl) ?_
                refine x_V (As := [.ref a1, .ref a2, .int x2187, .int x2193]) (rest := []) C (a_X3_fill l K G H2278 (x2187) (x2193) hTH2278 ga0 ga1 ga2 (by omega) (by omega)) yo_X3_fill wM_X3_78 ⟨⟨by decide, by decide⟩, by decide, by decide⟩ (x_rv C hTH2278 (ci := 3) rfl ga0 rg_89) rfl hl2191.1 rfl (Nat.le_of_ble_eq_true rfl) dX3_prepare_162 hSH2278 (AE_sub (fun _ _ => rfl) (by decide) hSH2278.1) (fun vH2287 H2287 locsH2287 pH2287 zH2287 kH2287 hSH2287 => ?_)
                obtain ⟨hvH2287, hTH2287⟩ := pH2287
                subst hvH2287
                have m2288 := (m2279).trans (fR_kept (x_lt hTH2278 kH2287 ga0 (by decide))).symm
                have m2289 := (m2280).trans (fI_kept (x_lt hTH2278 kH2287 gq2265 (by decide))).symm
                have m2290 := (m2281).trans (fR_kept (x_lt hTH2278 kH2287 ga3 (by decide))).symm
                have m2291 := (m2282).trans (fI_kept (x_lt hTH2278 kH2287 gq2271 (by decide))).symm
                have m2292 := (m2283).trans (fR_kept (x_lt hTH2278 kH2287 ga3 (by decide))).symm
                have m2293 := (m2284).trans (fI_kept (x_lt hTH2278 kH2287 gq2274 (by decide))).symm
                have m2294 := (m2285).trans (fR_kept (x_lt hTH2278 kH2287 ga3 (by decide))).symm
                have m2295 := (m2286).trans (fI_kept (x_lt hTH2278 kH2287 gq2276 (by decide))).symm
                refine W.eq (g2 := F0 m 165 ls2190 []) rfl ?_
                obtain ⟨x2296, ex2296⟩ : ∃ y : Int32, y = x2193 + 1 := ⟨_, rfl⟩
                have tx2296 := i_add ex2296 (by omega)
                refine lv_iinc (v := x2296) (lv' := [(6, .int x2296), (0, .ref a0), (1, .ref a1), (2, .ref a2), (3, .ref a3), (5, .int x2187)]) hx hb dX3_prepare_165 hl2191 (k := 5) rfl (by rw [ex2296]; rfl) (by decide) rfl (fun ls2297 hl2298 => ?_)
                refine lv_goto (tgt := 112) hx hb dX3_prepare_168 (by decide) ?_
                exact ih112 ls2297 H2287 locsH2287 (x2296) (lv_sub hl2298 [1, 2, 3, 4, 5, 0] rfl) hTH2287 hSH2287 (by have := i_rng x2187; omega) (by have := i_rng x2296; omega) (by omega)
          refine lv_iload hx hb dX3_prepare_72 (lv_at hl2186 4 rfl) ?_
          refine lv_aload_n hx hb dX3_prepare_74 rfl (lv_at hl2186 0 rfl) ?_
          refine x_gi C hTH2184 (ci := 3) (k := 9) rfl inX3 (by decide) wF_X3_55 ga0 rg_89 rfl dX3_prepare_75 (fun x2299 ex2299 bx2299 => ?_)
          refine lv_icmp_ge (tgt := 248) hx hb dX3_prepare_78 (by decide) (fun c2300 => ?_) (fun c2300 => ?_)
          · have k2301 := i_le c2300
            exact x_vret C hQ dX3_prepare_248 hSH2184 (by decide) (by decide) (⟨rfl, hTH2184⟩)
          · have k2301 := i_nle c2300
            refine lv_aload_n hx hb dX3_prepare_81 rfl (lv_at hl2186 0 rfl) ?_
            refine x_gr C hTH2184 (ci := 3) (k := 6) rfl inX3 (by decide) wF_X3_30 ga0 rg_89 rfl dX3_prepare_82 (fun q2302 eq2302 gq2302 => ?_)
            refine lv_iload hx hb dX3_prepare_85 (lv_at hl2186 4 rfl) ?_
            refine lv_iconst (v := 0) hx hb dX3_prepare_87 (by decide) ?_
            refine x_iast C hTH2184 hSH2184 gq2302 rg_96 (by omega) (by show _ < ((8 : Nat) : Int); omega) (by decide) (AE_in gq2302 (by decide)) dX3_prepare_88 (fun H2303 locsH2303 hTH2303 hSH2303 wH2303 => ?_)
            have m2304 := ex2299.trans (Wr.neI wH2303 (Or.inl (G_ne ga0 gq2302 (by decide)))).symm
            have m2305 := eq2302.trans (Wr.neR wH2303 (Or.inl (G_ne ga0 gq2302 (by decide)))).symm
            have m2306 := Wr.I wH2303
            refine lv_aload_n hx hb dX3_prepare_89 rfl (lv_at hl2186 0 rfl) ?_
            refine x_gr C hTH2303 (ci := 3) (k := 7) rfl inX3 (by decide) wF_X3_33 ga0 rg_89 rfl dX3_prepare_90 (fun q2307 eq2307 gq2307 => ?_)
            refine lv_iload hx hb dX3_prepare_93 (lv_at hl2186 4 rfl) ?_
            refine lv_iconst (v := 5) hx hb dX3_prepare_95 (by decide) ?_
            refine lv_aload_n hx hb dX3_prepare_96 rfl (lv_at hl2186 3 rfl) ?_
            refine x_gr C hTH2303 (ci := 0) (k := 1) rfl inX0 (by decide) wF_X3_63 ga3 rg_1 rfl dX3_prepare_97 (fun q2308 eq2308 gq2308 => ?_)
            refine lv_iload hx hb dX3_prepare_100 (lv_at hl2186 4 rfl) ?_
            refine x_ai C hTH2303 gq2308 rg_2 ⟨by omega, by show _ < ((16 : Nat) : Int); omega⟩ dX3_prepare_102 (fun x2309 ex2309 bx2309 => ?_)
            refine lv_iconst (v := 1) hx hb dX3_prepare_103 (by decide) ?_
            refine lv_isub hx hb dX3_prepare_104 ?_
            refine lv_topi (fun x2310 ex2310 => ?_)
            refine va_mmin hx hb (hml.trans hl2186.1.symm) hown (hts _ wM_X3_49) (hts _ wST_J9_min_7cf53) (hts _ wIN_J9) (hts _ wCD_J9_min_7cf53) (by decide) (Nat.le_of_ble_eq_true rfl) (by decide) (by decide) dX3_prepare_105 ?_
            refine lv_topi (fun x2311 ex2311 => ?_)
            have tx2311 := i_min ex2311
            refine x_iast C hTH2303 hSH2303 gq2307 rg_97 (by omega) (by show _ < ((8 : Nat) : Int); omega) ⟨by have := i_rng x2311; omega, by have := i_rng x2311; omega⟩ (AE_in gq2307 (by decide)) dX3_prepare_108 (fun H2312 locsH2312 hTH2312 hSH2312 wH2312 => ?_)
            have m2313 := m2304.trans (Wr.neI wH2312 (Or.inl (G_ne ga0 gq2307 (by decide)))).symm
            have m2314 := m2305.trans (Wr.neR wH2312 (Or.inl (G_ne ga0 gq2307 (by decide)))).symm
            have m2315 := (Wr.neI wH2312 (Or.inl (G_ne gq2302 gq2307 (by decide)))).trans m2306
            have m2316 := eq2307.trans (Wr.neR wH2312 (Or.inl (G_ne ga0 gq2307 (by decide)))).symm
            have m2317 := eq2308.trans (Wr.neR wH2312 (Or.inl (G_ne ga3 gq2307 (by decide)))).symm
            have m2318 := ex2309.trans (Wr.neI wH2312 (Or.inl (G_ne gq2308 gq2307 (by decide)))).symm
            have m2319 := Wr.I wH2312
            have m2319 := m2319.symm
            refine lv_iconst (v := 0) hx hb dX3_prepare_109 (by decide) ?_
            refine lv_istore (lv' := [(6, .int 0), (0, .ref a0), (1, .ref a1), (2, .ref a2), (3, .ref a3), (5, .int x2187)]) hx hb dX3_prepare_110 hl2186 (by decide) rfl (fun ls2320 hl2321 => ?_)
            exact J112 ((6 - (0 : Int32).toInt).toNat + 1) ls2320 H2312 locsH2312 (0) (lv_sub hl2321 [1, 2, 3, 4, 5, 0] rfl) hTH2312 hSH2312 (by have := i_rng x2187; omega) (by decide) (by omega)
      refine lv_iload hx hb dX3_prepare_27 (lv_at hl2181 4 rfl) ?_
      refine lv_iconst (v := 3) hx hb dX3_prepare_29 (by decide) ?_
      refine lv_icmp_ge (tgt := 69) hx hb dX3_prepare_30 (by decide) (fun c2322 => ?_) (fun c2322 => ?_)
      · have k2323 := i_le c2322
        refine lv_iconst (v := 0) hx hb dX3_prepare_69 (by decide) ?_
        refine lv_istore (lv' := [(5, .int 0), (0, .ref a0), (1, .ref a1), (2, .ref a2), (3, .ref a3)]) hx hb dX3_prepare_70 hl2181 (by decide) rfl (fun ls2324 hl2325 => ?_)
        exact J72 ((8 - (0 : Int32).toInt).toNat + 1) ls2324 H2179 locsH2179 (0) (lv_sub hl2325 [1, 2, 3, 4, 0] rfl) hTH2179 hSH2179 (by decide) (by omega)
      · have k2323 := i_nle c2322
        refine lv_aload_n hx hb dX3_prepare_33 rfl (lv_at hl2181 0 rfl) ?_
        refine x_gr C hTH2179 (ci := 3) (k := 5) rfl inX3 (by decide) wF_X3_27 ga0 rg_89 rfl dX3_prepare_34 (fun q2326 eq2326 gq2326 => ?_)
        refine lv_iload hx hb dX3_prepare_37 (lv_at hl2181 4 rfl) ?_
        refine lv_aload_n hx hb dX3_prepare_39 rfl (lv_at hl2181 3 rfl) ?_
        refine x_gr C hTH2179 (ci := 0) (k := 5) rfl inX0 (by decide) wF_X3_62 ga3 rg_1 rfl dX3_prepare_40 (fun q2327 eq2327 gq2327 => ?_)
        refine lv_iload hx hb dX3_prepare_43 (lv_at hl2181 4 rfl) ?_
        refine x_ai C hTH2179 gq2327 rg_6 ⟨by omega, by show _ < ((3 : Nat) : Int); omega⟩ dX3_prepare_45 (fun x2328 ex2328 bx2328 => ?_)
        refine x_iast C hTH2179 hSH2179 gq2326 rg_95 (by omega) (by show _ < ((3 : Nat) : Int); omega) ⟨by have := i_rng x2328; omega, by have := i_rng x2328; omega⟩ (AE_in gq2326 (by decide)) dX3_prepare_46 (fun H2329 locsH2329 hTH2329 hSH2329 wH2329 => ?_)
        have m2330 := eq2326.trans (Wr.neR wH2329 (Or.inl (G_ne ga0 gq2326 (by decide)))).symm
        have m2331 := eq2327.trans (Wr.neR wH2329 (Or.inl (G_ne ga3 gq2326 (by decide)))).symm
        have m2332 := ex2328.trans (Wr.neI wH2329 (Or.inl (G_ne gq2327 gq2326 (by decide)))).symm
        have m2333 := Wr.I wH2329
        have m2333 := m2333.symm
        refine lv_aload_n hx hb dX3_prepare_47 rfl (lv_at hl2181 0 rfl) ?_
        refine x_gr C hTH2329 (ci := 3) (k := 3) rfl inX3 (by decide) wF_X3_21 ga0 rg_89 rfl dX3_prepare_48 (fun q2334 eq2334 gq2334 => ?_)
        refine lv_iload hx hb dX3_prepare_51 (lv_at hl2181 4 rfl) ?_
        refine lv_iconst (v := 0) hx hb dX3_prepare_53 (by decide) ?_
        refine x_iast C hTH2329 hSH2329 gq2334 rg_93 (by omega) (by show _ < ((3 : Nat) : Int); omega) (by decide) (AE_in gq2334 (by decide)) dX3_prepare_54 (fun H2335 locsH2335 hTH2335 hSH2335 wH2335 => ?_)
        have m2336 := m2330.trans (Wr.neR wH2335 (Or.inl (G_ne ga0 gq2334 (by decide)))).symm
        have m2337 := m2331.trans (Wr.neR wH2335 (Or.inl (G_ne ga3 gq2334 (by decide)))).symm
        have m2338 := m2332.trans (Wr.neI wH2335 (Or.inl (G_ne gq2327 gq2334 (by decide)))).symm
        have m2339 := m2333.trans (Wr.neI wH2335 (Or.inl (G_ne gq2326 gq2334 (by decide)))).symm
        have m2340 := eq2334.trans (Wr.neR wH2335 (Or.inl (G_ne ga0 gq2334 (by decide)))).symm
        have m2341 := Wr.I wH2335
        refine lv_aload_n hx hb dX3_prepare_55 rfl (lv_at hl2181 0 rfl) ?_
        refine x_gr C hTH2335 (ci := 3) (k := 4) rfl inX3 (by decide) wF_X3_24 ga0 rg_89 rfl dX3_prepare_56 (fun q2342 eq2342 gq2342 => ?_)
        refine lv_iload hx hb dX3_prepare_59 (lv_at hl2181 4 rfl) ?_
        refine lv_iconst (v := 0) hx hb dX3_prepare_61 (by decide) ?_
        refine x_iast C hTH2335 hSH2335 gq2342 rg_94 (by omega) (by show _ < ((3 : Nat) : Int); omega) (by decide) (AE_in gq2342 (by decide)) dX3_prepare_62 (fun H2343 locsH2343 hTH2343 hSH2343 wH2343 => ?_)
        have m2344 := m2336.trans (Wr.neR wH2343 (Or.inl (G_ne ga0 gq2342 (by decide)))).symm
        have m2345 := m2337.trans (Wr.neR wH2343 (Or.inl (G_ne ga3 gq2342 (by decide)))).symm
        have m2346 := m2338.trans (Wr.neI wH2343 (Or.inl (G_ne gq2327 gq2342 (by decide)))).symm
        have m2347 := m2339.trans (Wr.neI wH2343 (Or.inl (G_ne gq2326 gq2342 (by decide)))).symm
        have m2348 := m2340.trans (Wr.neR wH2343 (Or.inl (G_ne ga0 gq2342 (by decide)))).symm
        have m2349 := (Wr.neI wH2343 (Or.inl (G_ne gq2334 gq2342 (by decide)))).trans m2341
        have m2350 := eq2342.trans (Wr.neR wH2343 (Or.inl (G_ne ga0 gq2342 (by decide)))).symm
        have m2351 := Wr.I wH2343
        obtain ⟨x2352, ex2352⟩ : ∃ y : Int32, y = x2182 + 1 := ⟨_, rfl⟩
        have tx2352 := i_add ex2352 (by omega)
        refine lv_iinc (v := x2352) (lv' := [(5, .int x2352), (0, .ref a0), (1, .ref a1), (2, .ref a2), (3, .ref a3)]) hx hb dX3_prepare_63 hl2181 (k := 4) rfl (by rw [ex2352]; rfl) (by decide) rfl (fun ls2353 hl2354 => ?_)
        refine lv_goto (tgt := 27) hx hb dX3_prepare_66 (by decide) ?_
        exact ih27 ls2353 H2343 locsH2343 (x2352) (lv_sub hl2354 [1, 2, 3, 4, 0] rfl) hTH2343 hSH2343 (by have := i_rng x2352; omega) (by omega)
  refine lv_aload_n hx hb dX3_prepare_0 rfl (lv_at hl 0 rfl) ?_
  refine lv_aload_n hx hb dX3_prepare_1 rfl (lv_at hl 3 rfl) ?_
  refine x_gi C hT (ci := 0) (k := 0) rfl inX0 (by decide) wF_X3_43 ga3 rg_1 rfl dX3_prepare_2 (fun x2355 ex2355 bx2355 => ?_)
  refine lv_bipush (v := 8) hx hb dX3_prepare_5 (by decide) ?_
  refine va_mmin hx hb (hml.trans hl.1.symm) hown (hts _ wM_X3_49) (hts _ wST_J9_min_7cf53) (hts _ wIN_J9) (hts _ wCD_J9_min_7cf53) (by decide) (Nat.le_of_ble_eq_true rfl) (by decide) (by decide) dX3_prepare_7 ?_
  refine lv_topi (fun x2356 ex2356 => ?_)
  have tx2356 := i_min ex2356
  refine x_put C hT hS (ci := 3) (k := 9) (v := .int x2356) (ty0 := tyX3) rfl inX3 tyX3_ok nmX3 (by decide) rfl wF_X3_55 ga0 rg_89 rfl rfl (okI (by have := i_rng x2356; omega) (by have := i_rng x2356; omega)) rfl rfl (AE_in ga0 (by decide)) dX3_prepare_10 (fun H2357 locsH2357 hTH2357 hSH2357 wH2357 => ?_)
  have m2358 := ex2355.trans (Wr.neI wH2357 (Or.inl (G_ne ga3 ga0 (by decide)))).symm
  have m2359 := Wr.I wH2357
  have m2359 := m2359.symm
  refine lv_aload_n hx hb dX3_prepare_13 rfl (lv_at hl 0 rfl) ?_
  refine lv_iload hx hb dX3_prepare_14 (lv_at hl 4 rfl) ?_
  refine x_put C hTH2357 hSH2357 (ci := 3) (k := 10) (v := .int x4) (ty0 := tyX3) rfl inX3 tyX3_ok nmX3 (by decide) rfl wF_X3_56 ga0 rg_89 rfl rfl (okI (by have := i_rng x4; omega) (by have := i_rng x4; omega)) rfl rfl (AE_in ga0 (by decide)) dX3_prepare_16 (fun H2360 locsH2360 hTH2360 hSH2360 wH2360 => ?_)
  have m2361 := m2358.trans (Wr.neI wH2360 (Or.inl (G_ne ga3 ga0 (by decide)))).symm
  have m2362 := m2359.trans (Wr.neI wH2360 (Or.inr (x_apart hKT hts inX3 tyX3 tyX3_ok nmX3 rfl 9 10 (by decide) (by decide) (by decide)))).symm
  have m2363 := Wr.I wH2360
  have m2363 := m2363.symm
  refine lv_aload_n hx hb dX3_prepare_19 rfl (lv_at hl 0 rfl) ?_
  refine lv_iconst (v := 0) hx hb dX3_prepare_20 (by decide) ?_
  refine x_put C hTH2360 hSH2360 (ci := 3) (k := 11) (v := .int 0) (ty0 := tyX3) rfl inX3 tyX3_ok nmX3 (by decide) rfl wF_X3_59 ga0 rg_89 rfl rfl (okI (by have := i_rng (0 : Int32); omega) (by have := i_rng (0 : Int32); omega)) rfl rfl (AE_in ga0 (by decide)) dX3_prepare_21 (fun H2364 locsH2364 hTH2364 hSH2364 wH2364 => ?_)
  have m2365 := m2361.trans (Wr.neI wH2364 (Or.inl (G_ne ga3 ga0 (by decide)))).symm
  have m2366 := m2362.trans (Wr.neI wH2364 (Or.inr (x_apart hKT hts inX3 tyX3 tyX3_ok nmX3 rfl 9 11 (by decide) (by decide) (by decide)))).symm
  have m2367 := m2363.trans (Wr.neI wH2364 (Or.inr (x_apart hKT hts inX3 tyX3 tyX3_ok nmX3 rfl 10 11 (by decide) (by decide) (by decide)))).symm
  have m2368 := Wr.I wH2364
  refine lv_iconst (v := 0) hx hb dX3_prepare_24 (by decide) ?_
  refine lv_istore (lv' := [(5, .int 0), (0, .ref a0), (1, .ref a1), (2, .ref a2), (3, .ref a3), (4, .int x4)]) hx hb dX3_prepare_25 hl (by decide) rfl (fun ls2369 hl2370 => ?_)
  exact J27 ((3 - (0 : Int32).toInt).toNat + 1) ls2369 H2364 locsH2364 (0) (lv_sub hl2370 [1, 2, 3, 4, 0] rfl) hTH2364 hSH2364 (by decide) (by omega)

set_option maxHeartbeats 4000000 in
set_option maxRecDepth 100000 in
theorem a_X3_isNearBehind (l : Launch) (K : KE) (G : Nat → Option Nat) (H : Heap) {a0 : Nat} (x1 : Int32) (x2 : Int32) {tq : Nat} (tk : Int32) (hT : TY K G H) (ga0 : G a0 = some 89) (hx1 : 0 ≤ x1.toInt ∧ x1.toInt ≤ 7) (hx2 : 0 ≤ x2.toInt ∧ x2.toInt ≤ 1) (gtq : G tq = some 96) (etq : tq = fR H a0 (K.1.2 3 6)) (etk : tk = fI H tq (x1 : Int32).toNatClampNeg) (hp0 : tk.toInt ≤ 4) : MX l K yX3_isNearBehind cX3_isNearBehind 7 (some .boolean) 2 46 0 0 [.ref a0, .int x1, .int x2] H (AE G [] H.size) (fun v H1 => ∃ (r : Int32), v = some (.int r) ∧ (0 ≤ r.toInt ∧ r.toInt ≤ 1) ∧ TY K G H1) := by
  refine MX.of (by decide +kernel) (Nat.le_of_ble_eq_true rfl) ?_
  intro p e s m below meth c ls Q C hH hl hQ
  subst hH
  have C : CX p K s m _ meth c RX3 cX3_isNearBehind 7 (some .boolean) "isNearBehind" := C
  obtain ⟨hx, hb, hml, hown, hts, hKT, hr, hlocks, hnm⟩ := id C
  have hl : lv_has ls 7 [(0, .ref a0), (1, .int x1), (2, .int x2)] := hl
  have hS : va_S (AE G [] s.heap.size) s.heap s.heap [] := va_S.rf
  have n_0 : (0 : Int32).toInt = 0 := rfl
  have n_1 : (1 : Int32).toInt = 1 := rfl
  have n_3 : (3 : Int32).toInt = 3 := rfl
  have btk := ty_ai (x := tk) etk hT gtq rg_96 (by omega)
  have J2 : ∀ (nf : Nat) (ls546 : Array Slot) (H545 : Heap) (locsH545 : List Loc) (x548 : Int32) (x549 : Int32), lv_has ls546 7 [(0, .ref a0), (1, .int x1), (2, .int x2), (3, .int x548)] → TY K G H545 → va_S (AE G [] s.heap.size) s.heap H545 locsH545 → (0 ≤ x548.toInt ∧ x548.toInt ≤ 3) → (0 ≤ x549.toInt ∧ x549.toInt ≤ 4) → (x549 = fI H545 tq (x1 : Int32).toNatClampNeg) → (tq = fR H545 a0 (K.1.2 3 6)) → (3 - x548.toInt < (nf : Int)) → (x549.toInt = tk.toInt) → W p l e ({ frames := 2, cells := 0, slots := 0, locals := 46 } : Room) s m (([.ref a0, .int x1, .int x2] : List Value).toArray) below meth c H545 locsH545 0 0 Q (F0 m 2 ls546 []) := by
    intro nf
    induction nf with
    | zero =>
      intro ls546 H545 locsH545 x548 x549 hl547 hTH545 hSH545 bx548 bx549 ex549 cy550_0 hm2 iv2
      exfalso
      omega
    | succ nf ih2 =>
      intro ls546 H545 locsH545 x548 x549 hl547 hTH545 hSH545 bx548 bx549 ex549 cy550_0 hm2 iv2
      have J96 : ∀ (ls552 : Array Slot) (H551 : Heap) (locsH551 : List Loc) (x555 : Int32), lv_has ls552 7 [(0, .ref a0), (1, .int x1), (2, .int x2), (3, .int x548)] → TY K G H551 → va_S (AE G [] s.heap.size) s.heap H551 locsH551 → (0 ≤ x548.toInt ∧ x548.toInt ≤ 2) → (0 ≤ x555.toInt ∧ x555.toInt ≤ 4) → (x555 = fI H551 tq (x1 : Int32).toNatClampNeg) → (tq = fR H551 a0 (K.1.2 3 6)) → (x555.toInt = tk.toInt) → W p l e ({ frames := 2, cells := 0, slots := 0, locals := 46 } : Room) s m (([.ref a0, .int x1, .int x2] : List Value).toArray) below meth c H551 locsH551 0 0 Q (F0 m 96 ls552 []) := by
        intro ls552 H551 locsH551 x555 hl553 hTH551 hSH551 b554 bx555 ex555 cy556_0 iv96
        obtain ⟨x557, ex557⟩ : ∃ y : Int32, y = x548 + 1 := ⟨_, rfl⟩
        have tx557 := i_add ex557 (by omega)
        refine lv_iinc (v := x557) (lv' := [(3, .int x557), (0, .ref a0), (1, .int x1), (2, .int x2)]) hx hb dX3_isNearBehind_96 hl553 (k := 3) rfl (by rw [ex557]; rfl) (by decide) rfl (fun ls558 hl559 => ?_)
        refine lv_goto (tgt := 2) hx hb dX3_isNearBehind_99 (by decide) ?_
        exact ih2 ls558 H551 locsH551 (x557) (x555) (lv_sub hl559 [1, 2, 3, 0] rfl) hTH551 hSH551 (by have := i_rng x557; omega) (by have := i_rng x555; omega) ex555 cy556_0 (by omega) (by omega)
      refine lv_iload_n hx hb dX3_isNearBehind_2 rfl (lv_at hl547 3 rfl) ?_
      refine lv_iconst (v := 3) hx hb dX3_isNearBehind_3 (by decide) ?_
      refine lv_icmp_ge (tgt := 102) hx hb dX3_isNearBehind_4 (by decide) (fun c560 => ?_) (fun c560 => ?_)
      · have k561 := i_le c560
        refine lv_iconst (v := 1) hx hb dX3_isNearBehind_102 (by decide) ?_
        exact x_zret C hQ (Or.inr rfl) dX3_isNearBehind_103 hSH545 (by decide) (by decide) (⟨1, rfl, by decide, hTH545⟩)
      · have k561 := i_nle c560
        refine lv_aload_n hx hb dX3_isNearBehind_7 rfl (lv_at hl547 0 rfl) ?_
        refine x_gr C hTH545 (ci := 3) (k := 5) rfl inX3 (by decide) wF_X3_27 ga0 rg_89 rfl dX3_isNearBehind_8 (fun q562 eq562 gq562 => ?_)
        refine lv_iload_n hx hb dX3_isNearBehind_11 rfl (lv_at hl547 3 rfl) ?_
        refine x_ai C hTH545 gq562 rg_95 ⟨by omega, by show _ < ((3 : Nat) : Int); omega⟩ dX3_isNearBehind_12 (fun x563 ex563 bx563 => ?_)
        refine lv_if_eq (tgt := 96) hx hb dX3_isNearBehind_13 (by decide) (fun c564 => ?_) (fun c564 => ?_)
        · have k565 := i_eq c564
          exact J96 ls546 H545 locsH545 (x549) (lv_sub hl547 [0, 1, 2, 3] rfl) hTH545 hSH545 (by have := i_rng x548; omega) (by have := i_rng x549; omega) ex549 cy550_0 (by omega)
        · have k565 := i_ne c564
          refine lv_iload_n hx hb dX3_isNearBehind_16 rfl (lv_at hl547 3 rfl) ?_
          refine lv_iload_n hx hb dX3_isNearBehind_17 rfl (lv_at hl547 1 rfl) ?_
          refine lv_aload_n hx hb dX3_isNearBehind_18 rfl (lv_at hl547 0 rfl) ?_
          refine x_gr C hTH545 (ci := 3) (k := 6) rfl inX3 (by decide) wF_X3_30 ga0 rg_89 rfl dX3_isNearBehind_19 (fun q566 eq566 gq566 => ?_)
          have uq566 : tq = q566 := (cy550_0).trans eq566.symm
          subst uq566
          refine lv_iload_n hx hb dX3_isNearBehind_22 rfl (lv_at hl547 1 rfl) ?_
          refine x_ai C hTH545 gtq rg_96 ⟨by omega, by show _ < ((8 : Nat) : Int); omega⟩ dX3_isNearBehind_23 (fun x567 ex567 bx567 => ?_)
          have ux567 : x549 = x567 := (ex549).trans ex567.symm
          subst ux567
          refine x_S (As := [.int x548, .int x1, .int x549]) (rest := []) C (a_X3_place l K G H545 (x548) (x1) (x549) hTH545 (by omega) (by omega) (by omega)) yo_X3_place wM_X3_82 ⟨⟨by decide, by decide⟩, by decide, by decide⟩ rfl hl547.1 rfl (Nat.le_of_ble_eq_true rfl) dX3_isNearBehind_24 hSH545 (AE_sub (fun _ _ => rfl) (by decide) hSH545.1) (fun vH568 H568 locsH568 pH568 zH568 kH568 hSH568 => ?_)
          obtain ⟨x569, hvH568, bx569, hrH568, hTH568⟩ := pH568
          subst hvH568
          have m570 := (ex549).trans (fI_kept (x_lt hTH545 kH568 gtq (by decide))).symm
          have m571 := (cy550_0).trans (fR_kept (x_lt hTH545 kH568 ga0 (by decide))).symm
          have m572 := (eq562).trans (fR_kept (x_lt hTH545 kH568 ga0 (by decide))).symm
          have m573 := (ex563).trans (fI_kept (x_lt hTH545 kH568 gq562 (by decide))).symm
          refine W.eq (g2 := F0 m 27 ls546 [.int x569]) rfl ?_
          refine lv_istore (lv' := [(4, .int x569), (0, .ref a0), (1, .int x1), (2, .int x2), (3, .int x548)]) hx hb dX3_isNearBehind_27 hl547 (by decide) rfl (fun ls574 hl575 => ?_)
          refine lv_aload_n hx hb dX3_isNearBehind_29 rfl (lv_at hl575 1 rfl) ?_
          refine x_gr C hTH568 (ci := 3) (k := 3) rfl inX3 (by decide) wF_X3_21 ga0 rg_89 rfl dX3_isNearBehind_30 (fun q576 eq576 gq576 => ?_)
          refine lv_iload_n hx hb dX3_isNearBehind_33 rfl (lv_at hl575 4 rfl) ?_
          refine x_ai C hTH568 gq576 rg_93 ⟨by omega, by show _ < ((3 : Nat) : Int); omega⟩ dX3_isNearBehind_34 (fun x577 ex577 bx577 => ?_)
          refine lv_aload_n hx hb dX3_isNearBehind_35 rfl (lv_at hl575 1 rfl) ?_
          refine x_gr C hTH568 (ci := 3) (k := 1) rfl inX3 (by decide) wF_X3_15 ga0 rg_89 rfl dX3_isNearBehind_36 (fun q578 eq578 gq578 => ?_)
          refine lv_iload hx hb dX3_isNearBehind_39 (lv_at hl575 0 rfl) ?_
          refine lv_iconst (v := 1) hx hb dX3_isNearBehind_41 (by decide) ?_
          refine lv_iadd hx hb dX3_isNearBehind_42 ?_
          refine lv_topi (fun x579 ex579 => ?_)
          have tx579 := i_add ex579 (by omega)
          refine x_ai C hTH568 gq578 rg_91 ⟨by omega, by show _ < ((144 : Nat) : Int); omega⟩ dX3_isNearBehind_43 (fun x580 ex580 bx580 => ?_)
          refine lv_iadd hx hb dX3_isNearBehind_44 ?_
          refine lv_topi (fun x581 ex581 => ?_)
          refine lv_aload_n hx hb dX3_isNearBehind_45 rfl (lv_at hl575 1 rfl) ?_
          refine x_gr C hTH568 (ci := 3) (k := 1) rfl inX3 (by decide) wF_X3_15 ga0 rg_89 rfl dX3_isNearBehind_46 (fun q582 eq582 gq582 => ?_)
          have uq582 : q578 = q582 := (eq578).trans eq582.symm
          subst uq582
          refine lv_iload hx hb dX3_isNearBehind_49 (lv_at hl575 0 rfl) ?_
          refine x_ai C hTH568 gq578 rg_91 ⟨by omega, by show _ < ((144 : Nat) : Int); omega⟩ dX3_isNearBehind_51 (fun x583 ex583 bx583 => ?_)
          refine lv_isub hx hb dX3_isNearBehind_52 ?_
          refine lv_topi (fun x584 ex584 => ?_)
          refine lv_istore (lv' := [(5, .int x584), (4, .int x569), (0, .ref a0), (1, .int x1), (2, .int x2), (3, .int x548)]) hx hb dX3_isNearBehind_53 hl575 (by decide) rfl (fun ls585 hl586 => ?_)
          refine lv_aload_n hx hb dX3_isNearBehind_55 rfl (lv_at hl586 2 rfl) ?_
          refine x_gr C hTH568 (ci := 3) (k := 4) rfl inX3 (by decide) wF_X3_24 ga0 rg_89 rfl dX3_isNearBehind_56 (fun q587 eq587 gq587 => ?_)
          refine lv_iload_n hx hb dX3_isNearBehind_59 rfl (lv_at hl586 5 rfl) ?_
          refine x_ai C hTH568 gq587 rg_94 ⟨by omega, by show _ < ((3 : Nat) : Int); omega⟩ dX3_isNearBehind_60 (fun x588 ex588 bx588 => ?_)
          refine lv_aload_n hx hb dX3_isNearBehind_61 rfl (lv_at hl586 2 rfl) ?_
          refine x_gr C hTH568 (ci := 3) (k := 2) rfl inX3 (by decide) wF_X3_18 ga0 rg_89 rfl dX3_isNearBehind_62 (fun q589 eq589 gq589 => ?_)
          refine lv_iload hx hb dX3_isNearBehind_65 (lv_at hl586 1 rfl) ?_
          refine lv_iconst (v := 1) hx hb dX3_isNearBehind_67 (by decide) ?_
          refine lv_iadd hx hb dX3_isNearBehind_68 ?_
          refine lv_topi (fun x590 ex590 => ?_)
          have tx590 := i_add ex590 (by omega)
          refine x_ai C hTH568 gq589 rg_92 ⟨by omega, by show _ < ((144 : Nat) : Int); omega⟩ dX3_isNearBehind_69 (fun x591 ex591 bx591 => ?_)
          refine lv_iadd hx hb dX3_isNearBehind_70 ?_
          refine lv_topi (fun x592 ex592 => ?_)
          refine lv_aload_n hx hb dX3_isNearBehind_71 rfl (lv_at hl586 2 rfl) ?_
          refine x_gr C hTH568 (ci := 3) (k := 2) rfl inX3 (by decide) wF_X3_18 ga0 rg_89 rfl dX3_isNearBehind_72 (fun q593 eq593 gq593 => ?_)
          have uq593 : q589 = q593 := (eq589).trans eq593.symm
          subst uq593
          refine lv_iload hx hb dX3_isNearBehind_75 (lv_at hl586 1 rfl) ?_
          refine x_ai C hTH568 gq589 rg_92 ⟨by omega, by show _ < ((144 : Nat) : Int); omega⟩ dX3_isNearBehind_77 (fun x594 ex594 bx594 => ?_)
          refine lv_isub hx hb dX3_isNearBehind_78 ?_
          refine lv_topi (fun x595 ex595 => ?_)
          refine lv_istore (lv' := [(6, .int x595), (5, .int x584), (4, .int x569), (0, .ref a0), (1, .int x1), (2, .int x2), (3, .int x548)]) hx hb dX3_isNearBehind_79 hl586 (by decide) rfl (fun ls596 hl597 => ?_)
          refine lv_aload_n hx hb dX3_isNearBehind_81 rfl (lv_at hl597 3 rfl) ?_
          refine lv_iload_n hx hb dX3_isNearBehind_82 rfl (lv_at hl597 6 rfl) ?_
          refine lv_iload hx hb dX3_isNearBehind_83 (lv_at hl597 1 rfl) ?_
          refine lv_iload hx hb dX3_isNearBehind_85 (lv_at hl597 0 rfl) ?_
          refine lv_iload_n hx hb dX3_isNearBehind_87 rfl (lv_at hl597 5 rfl) ?_
          refine x_V (As := [.int x548, .int x584, .int x595, .int x2]) (rest := []) C (a_X3_isNear l K G H568 (x548) (x584) (x595) (x2) hTH568 ga0 (by omega) (by omega)) yo_X3_isNear wM_X3_117 ⟨⟨by decide, by decide⟩, by decide, by decide⟩ (x_rv C hTH568 (ci := 3) rfl ga0 rg_89) rfl hl597.1 rfl (Nat.le_of_ble_eq_true rfl) dX3_isNearBehind_88 hSH568 (AE_sub (fun _ _ => rfl) (by decide) hSH568.1) (fun vH598 H598 locsH598 pH598 zH598 kH598 hSH598 => ?_)
          obtain ⟨x599, hvH598, bx599, hTH598⟩ := pH598
          subst hvH598
          have m600 := (m570).trans (fI_kept (x_lt hTH568 kH598 gtq (by decide))).symm
          have m601 := (m571).trans (fR_kept (x_lt hTH568 kH598 ga0 (by decide))).symm
          have m602 := (m572).trans (fR_kept (x_lt hTH568 kH598 ga0 (by decide))).symm
          have m603 := (m573).trans (fI_kept (x_lt hTH568 kH598 gq562 (by decide))).symm
          have m604 := (eq576).trans (fR_kept (x_lt hTH568 kH598 ga0 (by decide))).symm
          have m605 := (ex577).trans (fI_kept (x_lt hTH568 kH598 gq576 (by decide))).symm
          have m606 := (eq578).trans (fR_kept (x_lt hTH568 kH598 ga0 (by decide))).symm
          have m607 := (ex580).trans (fI_kept (x_lt hTH568 kH598 gq578 (by decide))).symm
          have m608 := (ex583).trans (fI_kept (x_lt hTH568 kH598 gq578 (by decide))).symm
          have m609 := (eq587).trans (fR_kept (x_lt hTH568 kH598 ga0 (by decide))).symm
          have m610 := (ex588).trans (fI_kept (x_lt hTH568 kH598 gq587 (by decide))).symm
          have m611 := (eq589).trans (fR_kept (x_lt hTH568 kH598 ga0 (by decide))).symm
          have m612 := (ex591).trans (fI_kept (x_lt hTH568 kH598 gq589 (by decide))).symm
          have m613 := (ex594).trans (fI_kept (x_lt hTH568 kH598 gq589 (by decide))).symm
          refine W.eq (g2 := F0 m 91 ls596 [.int x599]) rfl ?_
          refine lv_if_ne (tgt := 96) hx hb dX3_isNearBehind_91 (by decide) (fun c614 => ?_) (fun c614 => ?_)
          · have k615 := i_ne c614
            exact J96 ls596 H598 locsH598 (x549) (lv_sub hl597 [3, 4, 5, 6] rfl) hTH598 hSH598 (by have := i_rng x548; omega) (by have := i_rng x549; omega) m600 m601 (by omega)
          · have k615 := i_eq c614
            refine lv_iconst (v := 0) hx hb dX3_isNearBehind_94 (by decide) ?_
            exact x_zret C hQ (Or.inl rfl) dX3_isNearBehind_95 hSH598 (by decide) (by decide) (⟨0, rfl, by decide, hTH598⟩)
  refine lv_iconst (v := 0) hx hb dX3_isNearBehind_0 (by decide) ?_
  refine lv_istore_n (lv' := [(3, .int 0), (0, .ref a0), (1, .int x1), (2, .int x2)]) hx hb dX3_isNearBehind_1 rfl hl (by decide) rfl (fun ls616 hl617 => ?_)
  exact J2 ((3 - (0 : Int32).toInt).toNat + 1) ls616 s.heap [] (0) (tk) (lv_sub hl617 [1, 2, 3, 0] rfl) hT hS (by decide) (by have := i_rng tk; omega) etk etq (by omega) (by omega)

set_option maxHeartbeats 4000000 in
set_option maxRecDepth 100000 in
theorem a_X3_move_p (l : Launch) (K : KE) (G : Nat → Option Nat) (H : Heap) {a0 : Nat} (x1 : Int32) (x2 : Int32) {tq : Nat} (tk : Int32) (hT : TY K G H) (ga0 : G a0 = some 89) (hx1 : 0 ≤ x1.toInt ∧ x1.toInt ≤ 7) (hx2 : 1 ≤ x2.toInt ∧ x2.toInt ≤ 1) (gtq : G tq = some 96) (etq : tq = fR H a0 (K.1.2 3 6)) (etk : tk = fI H tq (x1 : Int32).toNatClampNeg) (hp0 : tk.toInt ≤ 4) : MX l K yX3_move cX3_move 6 none 1 22 0 0 [.ref a0, .int x1, .int x2] H (AE G [89, 93, 94, 96] H.size) (fun v H1 => ∃ (t0 : Int32), v = none ∧ t0 = fI H1 tq (x1 : Int32).toNatClampNeg ∧ (t0.toInt = tk.toInt + x2.toInt) ∧ tq = fR H1 a0 (K.1.2 3 6) ∧ (∀ j : Nat, j ≠ x1.toNatClampNeg → fI H1 tq j = fI H tq j) ∧ TY K G H1) := by
  refine MX.of (by decide +kernel) (Nat.le_of_ble_eq_true rfl) ?_
  intro p e s m below meth c ls Q C hH hl hQ
  subst hH
  have C : CX p K s m _ meth c RX3 cX3_move 6 none "move" := C
  obtain ⟨hx, hb, hml, hown, hts, hKT, hr, hlocks, hnm⟩ := id C
  have hl : lv_has ls 6 [(0, .ref a0), (1, .int x1), (2, .int x2)] := hl
  have hS : va_S (AE G [89, 93, 94, 96] s.heap.size) s.heap s.heap [] := va_S.rf
  have n_0 : (0 : Int32).toInt = 0 := rfl
  have n_1 : (1 : Int32).toInt = 1 := rfl
  have n_3 : (3 : Int32).toInt = 3 := rfl
  have btk := ty_ai (x := tk) etk hT gtq rg_96 (by omega)
  have f0_oth : ∀ j : Nat, j ≠ x1.toNatClampNeg → fI s.heap tq j = fI s.heap tq j := fun _ _ => rfl
  have J34 : ∀ (nf : Nat) (ls689 : Array Slot) (H688 : Heap) (locsH688 : List Loc) (x691 : Int32) (x692 : Int32) (x693 : Int32), lv_has ls689 6 [(0, .ref a0), (1, .int x1), (2, .int x2), (3, .int x691), (4, .int x692)] → TY K G H688 → va_S (AE G [89, 93, 94, 96] s.heap.size) s.heap H688 locsH688 → (0 ≤ x691.toInt ∧ x691.toInt ≤ 4) → (0 ≤ x692.toInt ∧ x692.toInt ≤ 3) → (1 ≤ x693.toInt ∧ x693.toInt ≤ 5) → (x693 = fI H688 tq (x1 : Int32).toNatClampNeg) → (tq = fR H688 a0 (K.1.2 3 6)) → (∀ j : Nat, j ≠ x1.toNatClampNeg → fI H688 tq j = fI s.heap tq j) → (3 - x692.toInt < (nf : Int)) → (x693.toInt = tk.toInt + x2.toInt) → W p l e ({ frames := 1, cells := 0, slots := 0, locals := 22 } : Room) s m (([.ref a0, .int x1, .int x2] : List Value).toArray) below meth c H688 locsH688 0 0 Q (F0 m 34 ls689 []) := by
    intro nf
    induction nf with
    | zero =>
      intro ls689 H688 locsH688 x691 x692 x693 hl690 hTH688 hSH688 bx691 bx692 bx693 ex693 cy694_0 fy694_oth hm34 iv34
      exfalso
      omega
    | succ nf ih34 =>
      intro ls689 H688 locsH688 x691 x692 x693 hl690 hTH688 hSH688 bx691 bx692 bx693 ex693 cy694_0 fy694_oth hm34 iv34
      have J113 : ∀ (ls696 : Array Slot) (H695 : Heap) (locsH695 : List Loc) (x699 : Int32), lv_has ls696 6 [(0, .ref a0), (1, .int x1), (2, .int x2), (3, .int x691), (4, .int x692)] → TY K G H695 → va_S (AE G [89, 93, 94, 96] s.heap.size) s.heap H695 locsH695 → (0 ≤ x692.toInt ∧ x692.toInt ≤ 2) → (1 ≤ x699.toInt ∧ x699.toInt ≤ 5) → (x699 = fI H695 tq (x1 : Int32).toNatClampNeg) → (tq = fR H695 a0 (K.1.2 3 6)) → (∀ j : Nat, j ≠ x1.toNatClampNeg → fI H695 tq j = fI s.heap tq j) → (x699.toInt = tk.toInt + x2.toInt) → W p l e ({ frames := 1, cells := 0, slots := 0, locals := 22 } : Room) s m (([.ref a0, .int x1, .int x2] : List Value).toArray) below meth c H695 locsH695 0 0 Q (F0 m 113 ls696 []) := by
        intro ls696 H695 locsH695 x699 hl697 hTH695 hSH695 b698 bx699 ex699 cy700_0 fy700_oth iv113
        obtain ⟨x701, ex701⟩ : ∃ y : Int32, y = x692 + 1 := ⟨_, rfl⟩
        have tx701 := i_add ex701 (by omega)
        refine lv_iinc (v := x701) (lv' := [(4, .int x701), (0, .ref a0), (1, .int x1), (2, .int x2), (3, .int x691)]) hx hb dX3_move_113 hl697 (k := 4) rfl (by rw [ex701]; rfl) (by decide) rfl (fun ls702 hl703 => ?_)
        refine lv_goto (tgt := 34) hx hb dX3_move_116 (by decide) ?_
        exact ih34 ls702 H695 locsH695 (x691) (x701) (x699) (lv_sub hl703 [1, 2, 3, 4, 0] rfl) hTH695 hSH695 (by have := i_rng x691; omega) (by have := i_rng x701; omega) (by have := i_rng x699; omega) ex699 cy700_0 fy700_oth (by omega) (by omega)
      refine lv_iload hx hb dX3_move_34 (lv_at hl690 4 rfl) ?_
      refine lv_iconst (v := 3) hx hb dX3_move_36 (by decide) ?_
      refine lv_icmp_ge (tgt := 119) hx hb dX3_move_37 (by decide) (fun c704 => ?_) (fun c704 => ?_)
      · have k705 := i_le c704
        exact x_vret C hQ dX3_move_119 hSH688 (by decide) (by decide) (⟨x693, rfl, ex693, by omega, cy694_0, fy694_oth, hTH688⟩)
      · have k705 := i_nle c704
        refine lv_aload_n hx hb dX3_move_40 rfl (lv_at hl690 0 rfl) ?_
        refine x_gr C hTH688 (ci := 3) (k := 5) rfl inX3 (by decide) wF_X3_27 ga0 rg_89 rfl dX3_move_41 (fun q706 eq706 gq706 => ?_)
        refine lv_iload hx hb dX3_move_44 (lv_at hl690 4 rfl) ?_
        refine x_ai C hTH688 gq706 rg_95 ⟨by omega, by show _ < ((3 : Nat) : Int); omega⟩ dX3_move_46 (fun x707 ex707 bx707 => ?_)
        refine lv_if_eq (tgt := 113) hx hb dX3_move_47 (by decide) (fun c708 => ?_) (fun c708 => ?_)
        · have k709 := i_eq c708
          exact J113 ls689 H688 locsH688 (x693) (lv_sub hl690 [0, 1, 2, 3, 4] rfl) hTH688 hSH688 (by have := i_rng x692; omega) (by have := i_rng x693; omega) ex693 cy694_0 fy694_oth (by omega)
        · have k709 := i_ne c708
          refine lv_iload hx hb dX3_move_50 (lv_at hl690 4 rfl) ?_
          refine lv_iload_n hx hb dX3_move_52 rfl (lv_at hl690 1 rfl) ?_
          refine lv_iload_n hx hb dX3_move_53 rfl (lv_at hl690 3 rfl) ?_
          refine x_S (As := [.int x692, .int x1, .int x691]) (rest := []) C (a_X3_place l K G H688 (x692) (x1) (x691) hTH688 (by omega) (by omega) (by omega)) yo_X3_place wM_X3_82 ⟨⟨by decide, by decide⟩, by decide, by decide⟩ rfl hl690.1 rfl (Nat.le_of_ble_eq_true rfl) dX3_move_54 hSH688 (AE_sub (fun _ _ => rfl) (by decide) hSH688.1) (fun vH710 H710 locsH710 pH710 zH710 kH710 hSH710 => ?_)
          obtain ⟨x711, hvH710, bx711, hrH710, hTH710⟩ := pH710
          subst hvH710
          have f712 : ∀ j : Nat, j ≠ x1.toNatClampNeg → fI H710 tq j = fI s.heap tq j := fun j hj => (fI_kept (x_lt hTH688 kH710 gtq (by decide))).trans (fy694_oth j hj)
          have m713 := (ex693).trans (fI_kept (x_lt hTH688 kH710 gtq (by decide))).symm
          have m714 := (cy694_0).trans (fR_kept (x_lt hTH688 kH710 ga0 (by decide))).symm
          have m715 := (eq706).trans (fR_kept (x_lt hTH688 kH710 ga0 (by decide))).symm
          have m716 := (ex707).trans (fI_kept (x_lt hTH688 kH710 gq706 (by decide))).symm
          refine W.eq (g2 := F0 m 57 ls689 [.int x711]) rfl ?_
          refine lv_istore (lv' := [(5, .int x711), (0, .ref a0), (1, .int x1), (2, .int x2), (3, .int x691), (4, .int x692)]) hx hb dX3_move_57 hl690 (by decide) rfl (fun ls717 hl718 => ?_)
          refine lv_aload_n hx hb dX3_move_59 rfl (lv_at hl718 1 rfl) ?_
          refine x_gr C hTH710 (ci := 3) (k := 3) rfl inX3 (by decide) wF_X3_21 ga0 rg_89 rfl dX3_move_60 (fun q719 eq719 gq719 => ?_)
          refine lv_iload hx hb dX3_move_63 (lv_at hl718 5 rfl) ?_
          refine lv_dup2_11 hx hb dX3_move_65 rfl rfl ?_
          refine x_ai C hTH710 gq719 rg_93 ⟨by omega, by show _ < ((3 : Nat) : Int); omega⟩ dX3_move_66 (fun x720 ex720 bx720 => ?_)
          refine lv_aload_n hx hb dX3_move_67 rfl (lv_at hl718 1 rfl) ?_
          refine x_gr C hTH710 (ci := 3) (k := 1) rfl inX3 (by decide) wF_X3_15 ga0 rg_89 rfl dX3_move_68 (fun q721 eq721 gq721 => ?_)
          refine lv_iload hx hb dX3_move_71 (lv_at hl718 0 rfl) ?_
          refine lv_iload_n hx hb dX3_move_73 rfl (lv_at hl718 3 rfl) ?_
          refine lv_iadd hx hb dX3_move_74 ?_
          refine lv_topi (fun x722 ex722 => ?_)
          have tx722 := i_add ex722 (by omega)
          refine x_ai C hTH710 gq721 rg_91 ⟨by omega, by show _ < ((144 : Nat) : Int); omega⟩ dX3_move_75 (fun x723 ex723 bx723 => ?_)
          refine lv_aload_n hx hb dX3_move_76 rfl (lv_at hl718 1 rfl) ?_
          refine x_gr C hTH710 (ci := 3) (k := 1) rfl inX3 (by decide) wF_X3_15 ga0 rg_89 rfl dX3_move_77 (fun q724 eq724 gq724 => ?_)
          have uq724 : q721 = q724 := (eq721).trans eq724.symm
          subst uq724
          refine lv_iload hx hb dX3_move_80 (lv_at hl718 0 rfl) ?_
          refine x_ai C hTH710 gq721 rg_91 ⟨by omega, by show _ < ((144 : Nat) : Int); omega⟩ dX3_move_82 (fun x725 ex725 bx725 => ?_)
          refine lv_isub hx hb dX3_move_83 ?_
          refine lv_topi (fun x726 ex726 => ?_)
          refine lv_iadd hx hb dX3_move_84 ?_
          refine lv_topi (fun x727 ex727 => ?_)
          refine x_iast C hTH710 hSH710 gq719 rg_93 (by omega) (by show _ < ((3 : Nat) : Int); omega) ⟨by have := i_rng x727; omega, by have := i_rng x727; omega⟩ (AE_in gq719 (by decide)) dX3_move_85 (fun H728 locsH728 hTH728 hSH728 wH728 => ?_)
          have f729 : ∀ j : Nat, j ≠ x1.toNatClampNeg → fI H728 tq j = fI s.heap tq j := fun j hj => (Wr.neI wH728 (Or.inl (G_ne gtq gq719 (by decide)))).trans (f712 j hj)
          have m730 := m713.trans (Wr.neI wH728 (Or.inl (G_ne gtq gq719 (by decide)))).symm
          have m731 := m714.trans (Wr.neR wH728 (Or.inl (G_ne ga0 gq719 (by decide)))).symm
          have m732 := m715.trans (Wr.neR wH728 (Or.inl (G_ne ga0 gq719 (by decide)))).symm
          have m733 := m716.trans (Wr.neI wH728 (Or.inl (G_ne gq706 gq719 (by decide)))).symm
          have m734 := eq719.trans (Wr.neR wH728 (Or.inl (G_ne ga0 gq719 (by decide)))).symm
          have m736 := eq721.trans (Wr.neR wH728 (Or.inl (G_ne ga0 gq719 (by decide)))).symm
          have m737 := ex723.trans (Wr.neI wH728 (Or.inl (G_ne gq721 gq719 (by decide)))).symm
          have m738 := ex725.trans (Wr.neI wH728 (Or.inl (G_ne gq721 gq719 (by decide)))).symm
          have m739 := Wr.I wH728
          have m739 := m739.symm
          refine lv_aload_n hx hb dX3_move_86 rfl (lv_at hl718 1 rfl) ?_
          refine x_gr C hTH728 (ci := 3) (k := 4) rfl inX3 (by decide) wF_X3_24 ga0 rg_89 rfl dX3_move_87 (fun q740 eq740 gq740 => ?_)
          refine lv_iload hx hb dX3_move_90 (lv_at hl718 5 rfl) ?_
          refine lv_dup2_11 hx hb dX3_move_92 rfl rfl ?_
          refine x_ai C hTH728 gq740 rg_94 ⟨by omega, by show _ < ((3 : Nat) : Int); omega⟩ dX3_move_93 (fun x741 ex741 bx741 => ?_)
          refine lv_aload_n hx hb dX3_move_94 rfl (lv_at hl718 1 rfl) ?_
          refine x_gr C hTH728 (ci := 3) (k := 2) rfl inX3 (by decide) wF_X3_18 ga0 rg_89 rfl dX3_move_95 (fun q742 eq742 gq742 => ?_)
          refine lv_iload hx hb dX3_move_98 (lv_at hl718 0 rfl) ?_
          refine lv_iload_n hx hb dX3_move_100 rfl (lv_at hl718 3 rfl) ?_
          refine lv_iadd hx hb dX3_move_101 ?_
          refine lv_topi (fun x743 ex743 => ?_)
          have tx743 := i_add ex743 (by omega)
          refine x_ai C hTH728 gq742 rg_92 ⟨by omega, by show _ < ((144 : Nat) : Int); omega⟩ dX3_move_102 (fun x744 ex744 bx744 => ?_)
          refine lv_aload_n hx hb dX3_move_103 rfl (lv_at hl718 1 rfl) ?_
          refine x_gr C hTH728 (ci := 3) (k := 2) rfl inX3 (by decide) wF_X3_18 ga0 rg_89 rfl dX3_move_104 (fun q745 eq745 gq745 => ?_)
          have uq745 : q742 = q745 := (eq742).trans eq745.symm
          subst uq745
          refine lv_iload hx hb dX3_move_107 (lv_at hl718 0 rfl) ?_
          refine x_ai C hTH728 gq742 rg_92 ⟨by omega, by show _ < ((144 : Nat) : Int); omega⟩ dX3_move_109 (fun x746 ex746 bx746 => ?_)
          refine lv_isub hx hb dX3_move_110 ?_
          refine lv_topi (fun x747 ex747 => ?_)
          refine lv_iadd hx hb dX3_move_111 ?_
          refine lv_topi (fun x748 ex748 => ?_)
          refine x_iast C hTH728 hSH728 gq740 rg_94 (by omega) (by show _ < ((3 : Nat) : Int); omega) ⟨by have := i_rng x748; omega, by have := i_rng x748; omega⟩ (AE_in gq740 (by decide)) dX3_move_112 (fun H749 locsH749 hTH749 hSH749 wH749 => ?_)
          have f750 : ∀ j : Nat, j ≠ x1.toNatClampNeg → fI H749 tq j = fI s.heap tq j := fun j hj => (Wr.neI wH749 (Or.inl (G_ne gtq gq740 (by decide)))).trans (f729 j hj)
          have m751 := m730.trans (Wr.neI wH749 (Or.inl (G_ne gtq gq740 (by decide)))).symm
          have m752 := m731.trans (Wr.neR wH749 (Or.inl (G_ne ga0 gq740 (by decide)))).symm
          have m753 := m732.trans (Wr.neR wH749 (Or.inl (G_ne ga0 gq740 (by decide)))).symm
          have m754 := m733.trans (Wr.neI wH749 (Or.inl (G_ne gq706 gq740 (by decide)))).symm
          have m755 := m734.trans (Wr.neR wH749 (Or.inl (G_ne ga0 gq740 (by decide)))).symm
          have m756 := m736.trans (Wr.neR wH749 (Or.inl (G_ne ga0 gq740 (by decide)))).symm
          have m757 := m737.trans (Wr.neI wH749 (Or.inl (G_ne gq721 gq740 (by decide)))).symm
          have m758 := m738.trans (Wr.neI wH749 (Or.inl (G_ne gq721 gq740 (by decide)))).symm
          have m759 := m739.trans (Wr.neI wH749 (Or.inl (G_ne gq719 gq740 (by decide)))).symm
          have m760 := eq740.trans (Wr.neR wH749 (Or.inl (G_ne ga0 gq740 (by decide)))).symm
          have m762 := eq742.trans (Wr.neR wH749 (Or.inl (G_ne ga0 gq740 (by decide)))).symm
          have m763 := ex744.trans (Wr.neI wH749 (Or.inl (G_ne gq742 gq740 (by decide)))).symm
          have m764 := ex746.trans (Wr.neI wH749 (Or.inl (G_ne gq742 gq740 (by decide)))).symm
          have m765 := Wr.I wH749
          have m765 := m765.symm
          exact J113 ls717 H749 locsH749 (x693) (lv_sub hl718 [1, 2, 3, 4, 5] rfl) hTH749 hSH749 (by have := i_rng x692; omega) (by have := i_rng x693; omega) m751 m752 f750 (by omega)
  refine lv_aload_n hx hb dX3_move_0 rfl (lv_at hl 0 rfl) ?_
  refine x_gr C hT (ci := 3) (k := 6) rfl inX3 (by decide) wF_X3_30 ga0 rg_89 rfl dX3_move_1 (fun q766 eq766 gq766 => ?_)
  have uq766 : tq = q766 := (etq).trans eq766.symm
  subst uq766
  refine lv_iload_n hx hb dX3_move_4 rfl (lv_at hl 1 rfl) ?_
  refine x_ai C hT gtq rg_96 ⟨by omega, by show _ < ((8 : Nat) : Int); omega⟩ dX3_move_5 (fun x767 ex767 bx767 => ?_)
  have ux767 : tk = x767 := (etk).trans ex767.symm
  subst ux767
  refine lv_istore_n (lv' := [(3, .int tk), (0, .ref a0), (1, .int x1), (2, .int x2)]) hx hb dX3_move_6 rfl hl (by decide) rfl (fun ls768 hl769 => ?_)
  refine lv_aload_n hx hb dX3_move_7 rfl (lv_at hl769 1 rfl) ?_
  refine x_gr C hT (ci := 3) (k := 6) rfl inX3 (by decide) wF_X3_30 ga0 rg_89 rfl dX3_move_8 (fun q770 eq770 gq770 => ?_)
  have uq770 : tq = q770 := (etq).trans eq770.symm
  subst uq770
  refine lv_iload_n hx hb dX3_move_11 rfl (lv_at hl769 2 rfl) ?_
  refine lv_dup2_11 hx hb dX3_move_12 rfl rfl ?_
  refine x_ai C hT gtq rg_96 ⟨by omega, by show _ < ((8 : Nat) : Int); omega⟩ dX3_move_13 (fun x771 ex771 bx771 => ?_)
  have ux771 : tk = x771 := (etk).trans ex771.symm
  subst ux771
  refine lv_iload_n hx hb dX3_move_14 rfl (lv_at hl769 3 rfl) ?_
  refine lv_iadd hx hb dX3_move_15 ?_
  refine lv_topi (fun x772 ex772 => ?_)
  have tx772 := i_add ex772 (by omega)
  refine x_iast C hT hS gtq rg_96 (by omega) (by show _ < ((8 : Nat) : Int); omega) ⟨by have := i_rng x772; omega, by have := i_rng x772; omega⟩ (AE_in gtq (by decide)) dX3_move_16 (fun H773 locsH773 hTH773 hSH773 wH773 => ?_)
  have f774 : ∀ j : Nat, j ≠ x1.toNatClampNeg → fI H773 tq j = fI s.heap tq j := fun j hj => (Wr.neI wH773 (Or.inr hj)).trans (f0_oth j hj)
  have m775 := etq.trans (Wr.neR wH773 (Or.inl (G_ne ga0 gtq (by decide)))).symm
  have m777 := Wr.I wH773
  have m777 := m777.symm
  refine lv_aload_n hx hb dX3_move_17 rfl (lv_at hl769 1 rfl) ?_
  refine lv_dup hx hb dX3_move_18 rfl ?_
  refine x_gi C hTH773 (ci := 3) (k := 11) rfl inX3 (by decide) wF_X3_59 ga0 rg_89 rfl dX3_move_19 (fun x778 ex778 bx778 => ?_)
  refine lv_iload_n hx hb dX3_move_22 rfl (lv_at hl769 3 rfl) ?_
  refine lv_iconst (v := 3) hx hb dX3_move_23 (by decide) ?_
  refine lv_iload_n hx hb dX3_move_24 rfl (lv_at hl769 2 rfl) ?_
  refine lv_imul hx hb dX3_move_25 ?_
  refine lv_topi (fun x779 ex779 => ?_)
  have tx779 := i_mul ex779 (by rw [n_3]; omega)
  rw [n_3] at tx779
  refine lv_ishl hx hb dX3_move_26 ?_
  refine lv_topi (fun x780 ex780 => ?_)
  refine lv_iadd hx hb dX3_move_27 ?_
  refine lv_topi (fun x781 ex781 => ?_)
  refine x_put C hTH773 hSH773 (ci := 3) (k := 11) (v := .int x781) (ty0 := tyX3) rfl inX3 tyX3_ok nmX3 (by decide) rfl wF_X3_59 ga0 rg_89 rfl rfl (okI (by have := i_rng x781; omega) (by have := i_rng x781; omega)) rfl rfl (AE_in ga0 (by decide)) dX3_move_28 (fun H782 locsH782 hTH782 hSH782 wH782 => ?_)
  have f783 : ∀ j : Nat, j ≠ x1.toNatClampNeg → fI H782 tq j = fI s.heap tq j := fun j hj => (Wr.neI wH782 (Or.inl (G_ne gtq ga0 (by decide)))).trans (f774 j hj)
  have m784 := m775.trans (Wr.neR wH782 (Or.inr (x_apart hKT hts inX3 tyX3 tyX3_ok nmX3 rfl 6 11 (by decide) (by decide) (by decide)))).symm
  have m785 := m777.trans (Wr.neI wH782 (Or.inl (G_ne gtq ga0 (by decide)))).symm
  have m787 := Wr.I wH782
  have m787 := m787.symm
  refine lv_iconst (v := 0) hx hb dX3_move_31 (by decide) ?_
  refine lv_istore (lv' := [(4, .int 0), (3, .int tk), (0, .ref a0), (1, .int x1), (2, .int x2)]) hx hb dX3_move_32 hl769 (by decide) rfl (fun ls788 hl789 => ?_)
  exact J34 ((3 - (0 : Int32).toInt).toNat + 1) ls788 H782 locsH782 (tk) (0) (x772) (lv_sub hl789 [2, 3, 4, 1, 0] rfl) hTH782 hSH782 (by have := i_rng tk; omega) (by decide) (by have := i_rng x772; omega) m785 m784 f783 (by omega) (by omega)

set_option maxHeartbeats 4000000 in
set_option maxRecDepth 100000 in
theorem a_X3_move_m (l : Launch) (K : KE) (G : Nat → Option Nat) (H : Heap) {a0 : Nat} (x1 : Int32) (x2 : Int32) {tq : Nat} (tk : Int32) (hT : TY K G H) (ga0 : G a0 = some 89) (hx1 : 0 ≤ x1.toInt ∧ x1.toInt ≤ 7) (hx2 : (-1) ≤ x2.toInt ∧ x2.toInt ≤ (-1)) (gtq : G tq = some 96) (etq : tq = fR H a0 (K.1.2 3 6)) (etk : tk = fI H tq (x1 : Int32).toNatClampNeg) (hp0 : 1 ≤ tk.toInt) : MX l K yX3_move cX3_move 6 none 1 22 0 0 [.ref a0, .int x1, .int x2] H (AE G [89, 93, 94, 96] H.size) (fun v H1 => ∃ (t0 : Int32), v = none ∧ t0 = fI H1 tq (x1 : Int32).toNatClampNeg ∧ (t0.toInt = tk.toInt + x2.toInt) ∧ tq = fR H1 a0 (K.1.2 3 6) ∧ (∀ j : Nat, j ≠ x1.toNatClampNeg → fI H1 tq j = fI H tq j) ∧ TY K G H1) := by
  refine MX.of (by decide +kernel) (Nat.le_of_ble_eq_true rfl) ?_
  intro p e s m below meth c ls Q C hH hl hQ
  subst hH
  have C : CX p K s m _ meth c RX3 cX3_move 6 none "move" := C
  obtain ⟨hx, hb, hml, hown, hts, hKT, hr, hlocks, hnm⟩ := id C
  have hl : lv_has ls 6 [(0, .ref a0), (1, .int x1), (2, .int x2)] := hl
  have hS : va_S (AE G [89, 93, 94, 96] s.heap.size) s.heap s.heap [] := va_S.rf
  have n_0 : (0 : Int32).toInt = 0 := rfl
  have n_1 : (1 : Int32).toInt = 1 := rfl
  have n_3 : (3 : Int32).toInt = 3 := rfl
  have btk := ty_ai (x := tk) etk hT gtq rg_96 (by omega)
  have f0_oth : ∀ j : Nat, j ≠ x1.toNatClampNeg → fI s.heap tq j = fI s.heap tq j := fun _ _ => rfl
  have J34 : ∀ (nf : Nat) (ls689 : Array Slot) (H688 : Heap) (locsH688 : List Loc) (x691 : Int32) (x692 : Int32) (x693 : Int32), lv_has ls689 6 [(0, .ref a0), (1, .int x1), (2, .int x2), (3, .int x691), (4, .int x692)] → TY K G H688 → va_S (AE G [89, 93, 94, 96] s.heap.size) s.heap H688 locsH688 → (1 ≤ x691.toInt ∧ x691.toInt ≤ 5) → (0 ≤ x692.toInt ∧ x692.toInt ≤ 3) → (0 ≤ x693.toInt ∧ x693.toInt ≤ 4) → (x693 = fI H688 tq (x1 : Int32).toNatClampNeg) → (tq = fR H688 a0 (K.1.2 3 6)) → (∀ j : Nat, j ≠ x1.toNatClampNeg → fI H688 tq j = fI s.heap tq j) → (3 - x692.toInt < (nf : Int)) → (x693.toInt = tk.toInt + x2.toInt) → W p l e ({ frames := 1, cells := 0, slots := 0, locals := 22 } : Room) s m (([.ref a0, .int x1, .int x2] : List Value).toArray) below meth c H688 locsH688 0 0 Q (F0 m 34 ls689 []) := by
    intro nf
    induction nf with
    | zero =>
      intro ls689 H688 locsH688 x691 x692 x693 hl690 hTH688 hSH688 bx691 bx692 bx693 ex693 cy694_0 fy694_oth hm34 iv34
      exfalso
      omega
    | succ nf ih34 =>
      intro ls689 H688 locsH688 x691 x692 x693 hl690 hTH688 hSH688 bx691 bx692 bx693 ex693 cy694_0 fy694_oth hm34 iv34
      have J113 : ∀ (ls696 : Array Slot) (H695 : Heap) (locsH695 : List Loc) (x699 : Int32), lv_has ls696 6 [(0, .ref a0), (1, .int x1), (2, .int x2), (3, .int x691), (4, .int x692)] → TY K G H695 → va_S (AE G [89, 93, 94, 96] s.heap.size) s.heap H695 locsH695 → (0 ≤ x692.toInt ∧ x692.toInt ≤ 2) → (0 ≤ x699.toInt ∧ x699.toInt ≤ 4) → (x699 = fI H695 tq (x1 : Int32).toNatClampNeg) → (tq = fR H695 a0 (K.1.2 3 6)) → (∀ j : Nat, j ≠ x1.toNatClampNeg → fI H695 tq j = fI s.heap tq j) → (x699.toInt = tk.toInt + x2.toInt) → W p l e ({ frames := 1, cells := 0, slots := 0, locals := 22 } : Room) s m (([.ref a0, .int x1, .int x2] : List Value).toArray) below meth c H695 locsH695 0 0 Q (F0 m 113 ls696 []) := by
        intro ls696 H695 locsH695 x699 hl697 hTH695 hSH695 b698 bx699 ex699 cy700_0 fy700_oth iv113
        obtain ⟨x701, ex701⟩ : ∃ y : Int32, y = x692 + 1 := ⟨_, rfl⟩
        have tx701 := i_add ex701 (by omega)
        refine lv_iinc (v := x701) (lv' := [(4, .int x701), (0, .ref a0), (1, .int x1), (2, .int x2), (3, .int x691)]) hx hb dX3_move_113 hl697 (k := 4) rfl (by rw [ex701]; rfl) (by decide) rfl (fun ls702 hl703 => ?_)
        refine lv_goto (tgt := 34) hx hb dX3_move_116 (by decide) ?_
        exact ih34 ls702 H695 locsH695 (x691) (x701) (x699) (lv_sub hl703 [1, 2, 3, 4, 0] rfl) hTH695 hSH695 (by have := i_rng x691; omega) (by have := i_rng x701; omega) (by have := i_rng x699; omega) ex699 cy700_0 fy700_oth (by omega) (by omega)
      refine lv_iload hx hb dX3_move_34 (lv_at hl690 4 rfl) ?_
      refine lv_iconst (v := 3) hx hb dX3_move_36 (by decide) ?_
      refine lv_icmp_ge (tgt := 119) hx hb dX3_move_37 (by decide) (fun c704 => ?_) (fun c704 => ?_)
      · have k705 := i_le c704
        exact x_vret C hQ dX3_move_119 hSH688 (by decide) (by decide) (⟨x693, rfl, ex693, by omega, cy694_0, fy694_oth, hTH688⟩)
      · have k705 := i_nle c704
        refine lv_aload_n hx hb dX3_move_40 rfl (lv_at hl690 0 rfl) ?_
        refine x_gr C hTH688 (ci := 3) (k := 5) rfl inX3 (by decide) wF_X3_27 ga0 rg_89 rfl dX3_move_41 (fun q706 eq706 gq706 => ?_)
        refine lv_iload hx hb dX3_move_44 (lv_at hl690 4 rfl) ?_
        refine x_ai C hTH688 gq706 rg_95 ⟨by omega, by show _ < ((3 : Nat) : Int); omega⟩ dX3_move_46 (fun x707 ex707 bx707 => ?_)
        refine lv_if_eq (tgt := 113) hx hb dX3_move_47 (by decide) (fun c708 => ?_) (fun c708 => ?_)
        · have k709 := i_eq c708
          exact J113 ls689 H688 locsH688 (x693) (lv_sub hl690 [0, 1, 2, 3, 4] rfl) hTH688 hSH688 (by have := i_rng x692; omega) (by have := i_rng x693; omega) ex693 cy694_0 fy694_oth (by omega)
        · have k709 := i_ne c708
          refine lv_iload hx hb dX3_move_50 (lv_at hl690 4 rfl) ?_
          refine lv_iload_n hx hb dX3_move_52 rfl (lv_at hl690 1 rfl) ?_
          refine lv_iload_n hx hb dX3_move_53 rfl (lv_at hl690 3 rfl) ?_
          refine x_S (As := [.int x692, .int x1, .int x691]) (rest := []) C (a_X3_place l K G H688 (x692) (x1) (x691) hTH688 (by omega) (by omega) (by omega)) yo_X3_place wM_X3_82 ⟨⟨by decide, by decide⟩, by decide, by decide⟩ rfl hl690.1 rfl (Nat.le_of_ble_eq_true rfl) dX3_move_54 hSH688 (AE_sub (fun _ _ => rfl) (by decide) hSH688.1) (fun vH710 H710 locsH710 pH710 zH710 kH710 hSH710 => ?_)
          obtain ⟨x711, hvH710, bx711, hrH710, hTH710⟩ := pH710
          subst hvH710
          have f712 : ∀ j : Nat, j ≠ x1.toNatClampNeg → fI H710 tq j = fI s.heap tq j := fun j hj => (fI_kept (x_lt hTH688 kH710 gtq (by decide))).trans (fy694_oth j hj)
          have m713 := (ex693).trans (fI_kept (x_lt hTH688 kH710 gtq (by decide))).symm
          have m714 := (cy694_0).trans (fR_kept (x_lt hTH688 kH710 ga0 (by decide))).symm
          have m715 := (eq706).trans (fR_kept (x_lt hTH688 kH710 ga0 (by decide))).symm
          have m716 := (ex707).trans (fI_kept (x_lt hTH688 kH710 gq706 (by decide))).symm
          refine W.eq (g2 := F0 m 57 ls689 [.int x711]) rfl ?_
          refine lv_istore (lv' := [(5, .int x711), (0, .ref a0), (1, .int x1), (2, .int x2), (3, .int x691), (4, .int x692)]) hx hb dX3_move_57 hl690 (by decide) rfl (fun ls717 hl718 => ?_)
          refine lv_aload_n hx hb dX3_move_59 rfl (lv_at hl718 1 rfl) ?_
          refine x_gr C hTH710 (ci := 3) (k := 3) rfl inX3 (by decide) wF_X3_21 ga0 rg_89 rfl dX3_move_60 (fun q719 eq719 gq719 => ?_)
          refine lv_iload hx hb dX3_move_63 (lv_at hl718 5 rfl) ?_
          refine lv_dup2_11 hx hb dX3_move_65 rfl rfl ?_
          refine x_ai C hTH710 gq719 rg_93 ⟨by omega, by show _ < ((3 : Nat) : Int); omega⟩ dX3_move_66 (fun x720 ex720 bx720 => ?_)
          refine lv_aload_n hx hb dX3_move_67 rfl (lv_at hl718 1 rfl) ?_
          refine x_gr C hTH710 (ci := 3) (k := 1) rfl inX3 (by decide) wF_X3_15 ga0 rg_89 rfl dX3_move_68 (fun q721 eq721 gq721 => ?_)
          refine lv_iload hx hb dX3_move_71 (lv_at hl718 0 rfl) ?_
          refine lv_iload_n hx hb dX3_move_73 rfl (lv_at hl718 3 rfl) ?_
          refine lv_iadd hx hb dX3_move_74 ?_
          refine lv_topi (fun x722 ex722 => ?_)
          have tx722 := i_add ex722 (by omega)
          refine x_ai C hTH710 gq721 rg_91 ⟨by omega, by show _ < ((144 : Nat) : Int); omega⟩ dX3_move_75 (fun x723 ex723 bx723 => ?_)
          refine lv_aload_n hx hb dX3_move_76 rfl (lv_at hl718 1 rfl) ?_
          refine x_gr C hTH710 (ci := 3) (k := 1) rfl inX3 (by decide) wF_X3_15 ga0 rg_89 rfl dX3_move_77 (fun q724 eq724 gq724 => ?_)
          have uq724 : q721 = q724 := (eq721).trans eq724.symm
          subst uq724
          refine lv_iload hx hb dX3_move_80 (lv_at hl718 0 rfl) ?_
          refine x_ai C hTH710 gq721 rg_91 ⟨by omega, by show _ < ((144 : Nat) : Int); omega⟩ dX3_move_82 (fun x725 ex725 bx725 => ?_)
          refine lv_isub hx hb dX3_move_83 ?_
          refine lv_topi (fun x726 ex726 => ?_)
          refine lv_iadd hx hb dX3_move_84 ?_
          refine lv_topi (fun x727 ex727 => ?_)
          refine x_iast C hTH710 hSH710 gq719 rg_93 (by omega) (by show _ < ((3 : Nat) : Int); omega) ⟨by have := i_rng x727; omega, by have := i_rng x727; omega⟩ (AE_in gq719 (by decide)) dX3_move_85 (fun H728 locsH728 hTH728 hSH728 wH728 => ?_)
          have f729 : ∀ j : Nat, j ≠ x1.toNatClampNeg → fI H728 tq j = fI s.heap tq j := fun j hj => (Wr.neI wH728 (Or.inl (G_ne gtq gq719 (by decide)))).trans (f712 j hj)
          have m730 := m713.trans (Wr.neI wH728 (Or.inl (G_ne gtq gq719 (by decide)))).symm
          have m731 := m714.trans (Wr.neR wH728 (Or.inl (G_ne ga0 gq719 (by decide)))).symm
          have m732 := m715.trans (Wr.neR wH728 (Or.inl (G_ne ga0 gq719 (by decide)))).symm
          have m733 := m716.trans (Wr.neI wH728 (Or.inl (G_ne gq706 gq719 (by decide)))).symm
          have m734 := eq719.trans (Wr.neR wH728 (Or.inl (G_ne ga0 gq719 (by decide)))).symm
          have m736 := eq721.trans (Wr.neR wH728 (Or.inl (G_ne ga0 gq719 (by decide)))).symm
          have m737 := ex723.trans (Wr.neI wH728 (Or.inl (G_ne gq721 gq719 (by decide)))).symm
          have m738 := ex725.trans (Wr.neI wH728 (Or.inl (G_ne gq721 gq719 (by decide)))).symm
          have m739 := Wr.I wH728
          have m739 := m739.symm
          refine lv_aload_n hx hb dX3_move_86 rfl (lv_at hl718 1 rfl) ?_
          refine x_gr C hTH728 (ci := 3) (k := 4) rfl inX3 (by decide) wF_X3_24 ga0 rg_89 rfl dX3_move_87 (fun q740 eq740 gq740 => ?_)
          refine lv_iload hx hb dX3_move_90 (lv_at hl718 5 rfl) ?_
          refine lv_dup2_11 hx hb dX3_move_92 rfl rfl ?_
          refine x_ai C hTH728 gq740 rg_94 ⟨by omega, by show _ < ((3 : Nat) : Int); omega⟩ dX3_move_93 (fun x741 ex741 bx741 => ?_)
          refine lv_aload_n hx hb dX3_move_94 rfl (lv_at hl718 1 rfl) ?_
          refine x_gr C hTH728 (ci := 3) (k := 2) rfl inX3 (by decide) wF_X3_18 ga0 rg_89 rfl dX3_move_95 (fun q742 eq742 gq742 => ?_)
          refine lv_iload hx hb dX3_move_98 (lv_at hl718 0 rfl) ?_
          refine lv_iload_n hx hb dX3_move_100 rfl (lv_at hl718 3 rfl) ?_
          refine lv_iadd hx hb dX3_move_101 ?_
          refine lv_topi (fun x743 ex743 => ?_)
          have tx743 := i_add ex743 (by omega)
          refine x_ai C hTH728 gq742 rg_92 ⟨by omega, by show _ < ((144 : Nat) : Int); omega⟩ dX3_move_102 (fun x744 ex744 bx744 => ?_)
          refine lv_aload_n hx hb dX3_move_103 rfl (lv_at hl718 1 rfl) ?_
          refine x_gr C hTH728 (ci := 3) (k := 2) rfl inX3 (by decide) wF_X3_18 ga0 rg_89 rfl dX3_move_104 (fun q745 eq745 gq745 => ?_)
          have uq745 : q742 = q745 := (eq742).trans eq745.symm
          subst uq745
          refine lv_iload hx hb dX3_move_107 (lv_at hl718 0 rfl) ?_
          refine x_ai C hTH728 gq742 rg_92 ⟨by omega, by show _ < ((144 : Nat) : Int); omega⟩ dX3_move_109 (fun x746 ex746 bx746 => ?_)
          refine lv_isub hx hb dX3_move_110 ?_
          refine lv_topi (fun x747 ex747 => ?_)
          refine lv_iadd hx hb dX3_move_111 ?_
          refine lv_topi (fun x748 ex748 => ?_)
          refine x_iast C hTH728 hSH728 gq740 rg_94 (by omega) (by show _ < ((3 : Nat) : Int); omega) ⟨by have := i_rng x748; omega, by have := i_rng x748; omega⟩ (AE_in gq740 (by decide)) dX3_move_112 (fun H749 locsH749 hTH749 hSH749 wH749 => ?_)
          have f750 : ∀ j : Nat, j ≠ x1.toNatClampNeg → fI H749 tq j = fI s.heap tq j := fun j hj => (Wr.neI wH749 (Or.inl (G_ne gtq gq740 (by decide)))).trans (f729 j hj)
          have m751 := m730.trans (Wr.neI wH749 (Or.inl (G_ne gtq gq740 (by decide)))).symm
          have m752 := m731.trans (Wr.neR wH749 (Or.inl (G_ne ga0 gq740 (by decide)))).symm
          have m753 := m732.trans (Wr.neR wH749 (Or.inl (G_ne ga0 gq740 (by decide)))).symm
          have m754 := m733.trans (Wr.neI wH749 (Or.inl (G_ne gq706 gq740 (by decide)))).symm
          have m755 := m734.trans (Wr.neR wH749 (Or.inl (G_ne ga0 gq740 (by decide)))).symm
          have m756 := m736.trans (Wr.neR wH749 (Or.inl (G_ne ga0 gq740 (by decide)))).symm
          have m757 := m737.trans (Wr.neI wH749 (Or.inl (G_ne gq721 gq740 (by decide)))).symm
          have m758 := m738.trans (Wr.neI wH749 (Or.inl (G_ne gq721 gq740 (by decide)))).symm
          have m759 := m739.trans (Wr.neI wH749 (Or.inl (G_ne gq719 gq740 (by decide)))).symm
          have m760 := eq740.trans (Wr.neR wH749 (Or.inl (G_ne ga0 gq740 (by decide)))).symm
          have m762 := eq742.trans (Wr.neR wH749 (Or.inl (G_ne ga0 gq740 (by decide)))).symm
          have m763 := ex744.trans (Wr.neI wH749 (Or.inl (G_ne gq742 gq740 (by decide)))).symm
          have m764 := ex746.trans (Wr.neI wH749 (Or.inl (G_ne gq742 gq740 (by decide)))).symm
          have m765 := Wr.I wH749
          have m765 := m765.symm
          exact J113 ls717 H749 locsH749 (x693) (lv_sub hl718 [1, 2, 3, 4, 5] rfl) hTH749 hSH749 (by have := i_rng x692; omega) (by have := i_rng x693; omega) m751 m752 f750 (by omega)
  refine lv_aload_n hx hb dX3_move_0 rfl (lv_at hl 0 rfl) ?_
  refine x_gr C hT (ci := 3) (k := 6) rfl inX3 (by decide) wF_X3_30 ga0 rg_89 rfl dX3_move_1 (fun q766 eq766 gq766 => ?_)
  have uq766 : tq = q766 := (etq).trans eq766.symm
  subst uq766
  refine lv_iload_n hx hb dX3_move_4 rfl (lv_at hl 1 rfl) ?_
  refine x_ai C hT gtq rg_96 ⟨by omega, by show _ < ((8 : Nat) : Int); omega⟩ dX3_move_5 (fun x767 ex767 bx767 => ?_)
  have ux767 : tk = x767 := (etk).trans ex767.symm
  subst ux767
  refine lv_istore_n (lv' := [(3, .int tk), (0, .ref a0), (1, .int x1), (2, .int x2)]) hx hb dX3_move_6 rfl hl (by decide) rfl (fun ls768 hl769 => ?_)
  refine lv_aload_n hx hb dX3_move_7 rfl (lv_at hl769 1 rfl) ?_
  refine x_gr C hT (ci := 3) (k := 6) rfl inX3 (by decide) wF_X3_30 ga0 rg_89 rfl dX3_move_8 (fun q770 eq770 gq770 => ?_)
  have uq770 : tq = q770 := (etq).trans eq770.symm
  subst uq770
  refine lv_iload_n hx hb dX3_move_11 rfl (lv_at hl769 2 rfl) ?_
  refine lv_dup2_11 hx hb dX3_move_12 rfl rfl ?_
  refine x_ai C hT gtq rg_96 ⟨by omega, by show _ < ((8 : Nat) : Int); omega⟩ dX3_move_13 (fun x771 ex771 bx771 => ?_)
  have ux771 : tk = x771 := (etk).trans ex771.symm
  subst ux771
  refine lv_iload_n hx hb dX3_move_14 rfl (lv_at hl769 3 rfl) ?_
  refine lv_iadd hx hb dX3_move_15 ?_
  refine lv_topi (fun x772 ex772 => ?_)
  have tx772 := i_add ex772 (by omega)
  refine x_iast C hT hS gtq rg_96 (by omega) (by show _ < ((8 : Nat) : Int); omega) ⟨by have := i_rng x772; omega, by have := i_rng x772; omega⟩ (AE_in gtq (by decide)) dX3_move_16 (fun H773 locsH773 hTH773 hSH773 wH773 => ?_)
  have f774 : ∀ j : Nat, j ≠ x1.toNatClampNeg → fI H773 tq j = fI s.heap tq j := fun j hj => (Wr.neI wH773 (Or.inr hj)).trans (f0_oth j hj)
  have m775 := etq.trans (Wr.neR wH773 (Or.inl (G_ne ga0 gtq (by decide)))).symm
  have m777 := Wr.I wH773
  have m777 := m777.symm
  refine lv_aload_n hx hb dX3_move_17 rfl (lv_at hl769 1 rfl) ?_
  refine lv_dup hx hb dX3_move_18 rfl ?_
  refine x_gi C hTH773 (ci := 3) (k := 11) rfl inX3 (by decide) wF_X3_59 ga0 rg_89 rfl dX3_move_19 (fun x778 ex778 bx778 => ?_)
  refine lv_iload_n hx hb dX3_move_22 rfl (lv_at hl769 3 rfl) ?_
  refine lv_iconst (v := 3) hx hb dX3_move_23 (by decide) ?_
  refine lv_iload_n hx hb dX3_move_24 rfl (lv_at hl769 2 rfl) ?_
  refine lv_imul hx hb dX3_move_25 ?_
  refine lv_topi (fun x779 ex779 => ?_)
  have tx779 := i_mul ex779 (by rw [n_3]; omega)
  rw [n_3] at tx779
  refine lv_ishl hx hb dX3_move_26 ?_
  refine lv_topi (fun x780 ex780 => ?_)
  refine lv_iadd hx hb dX3_move_27 ?_
  refine lv_topi (fun x781 ex781 => ?_)
  refine x_put C hTH773 hSH773 (ci := 3) (k := 11) (v := .int x781) (ty0 := tyX3) rfl inX3 tyX3_ok nmX3 (by decide) rfl wF_X3_59 ga0 rg_89 rfl rfl (okI (by have := i_rng x781; omega) (by have := i_rng x781; omega)) rfl rfl (AE_in ga0 (by decide)) dX3_move_28 (fun H782 locsH782 hTH782 hSH782 wH782 => ?_)
  have f783 : ∀ j : Nat, j ≠ x1.toNatClampNeg → fI H782 tq j = fI s.heap tq j := fun j hj => (Wr.neI wH782 (Or.inl (G_ne gtq ga0 (by decide)))).trans (f774 j hj)
  have m784 := m775.trans (Wr.neR wH782 (Or.inr (x_apart hKT hts inX3 tyX3 tyX3_ok nmX3 rfl 6 11 (by decide) (by decide) (by decide)))).symm
  have m785 := m777.trans (Wr.neI wH782 (Or.inl (G_ne gtq ga0 (by decide)))).symm
  have m787 := Wr.I wH782
  have m787 := m787.symm
  refine lv_iconst (v := 0) hx hb dX3_move_31 (by decide) ?_
  refine lv_istore (lv' := [(4, .int 0), (3, .int tk), (0, .ref a0), (1, .int x1), (2, .int x2)]) hx hb dX3_move_32 hl769 (by decide) rfl (fun ls788 hl789 => ?_)
  exact J34 ((3 - (0 : Int32).toInt).toNat + 1) ls788 H782 locsH782 (tk) (0) (x772) (lv_sub hl789 [2, 3, 4, 1, 0] rfl) hTH782 hSH782 (by have := i_rng tk; omega) (by decide) (by have := i_rng x772; omega) m785 m784 f783 (by omega) (by omega)

set_option maxHeartbeats 4000000 in
set_option maxRecDepth 100000 in
theorem a_X3_goOn_5 (l : Launch) (K : KE) (G : Nat → Option Nat) (H : Heap) {a0 : Nat} (x1 : Int32) (x2 : Int32) {tq : Nat} (hT : TY K G H) (ga0 : G a0 = some 89) (hx1 : 5 ≤ x1.toInt ∧ x1.toInt ≤ 5) (gtq : G tq = some 96) (etq : tq = fR H a0 (K.1.2 3 6)) : MX l K yX3_goOn cX3_goOn 5 (some .boolean) 0 0 0 0 [.ref a0, .int x1, .int x2] H (AE G [89, 93, 94, 96, 90, 85, 86] H.size) (fun v H1 => ∃ (r : Int32), v = some (.int r) ∧ (0 ≤ r.toInt ∧ r.toInt ≤ 1) ∧ tq = fR H1 a0 (K.1.2 3 6) ∧ (∀ j : Nat, fI H1 tq j = fI H tq j) ∧ TY K G H1) := by
  refine MX.of (by decide +kernel) (Nat.le_of_ble_eq_true rfl) ?_
  intro p e s m below meth c ls Q C hH hl hQ
  subst hH
  have C : CX p K s m _ meth c RX3 cX3_goOn 5 (some .boolean) "goOn" := C
  obtain ⟨hx, hb, hml, hown, hts, hKT, hr, hlocks, hnm⟩ := id C
  have hl : lv_has ls 5 [(0, .ref a0), (1, .int x1), (2, .int x2)] := hl
  have hS : va_S (AE G [89, 93, 94, 96, 90, 85, 86] s.heap.size) s.heap s.heap [] := va_S.rf
  have n_0 : (0 : Int32).toInt = 0 := rfl
  have n_5 : (5 : Int32).toInt = 5 := rfl
  have f0_all : ∀ j : Nat, fI s.heap tq j = fI s.heap tq j := fun _ => rfl
  have J10 : ∀ (ls118 : Array Slot) (H117 : Heap) (locsH117 : List Loc) , lv_has ls118 5 [] → TY K G H117 → va_S (AE G [89, 93, 94, 96, 90, 85, 86] s.heap.size) s.heap H117 locsH117 → (tq = fR H117 a0 (K.1.2 3 6)) → (∀ j : Nat, fI H117 tq j = fI s.heap tq j) → W p l e ({ frames := 0, cells := 0, slots := 0, locals := 0 } : Room) s m (([.ref a0, .int x1, .int x2] : List Value).toArray) below meth c H117 locsH117 0 0 Q (F0 m 10 ls118 []) := by
    intro ls118 H117 locsH117  hl119 hTH117 hSH117 cy120_0 fy120_all
    refine lv_iconst (v := 0) hx hb dX3_goOn_10 (by decide) ?_
    exact x_zret C hQ (Or.inl rfl) dX3_goOn_11 hSH117 (by decide) (by decide) (⟨0, rfl, by decide, cy120_0, fy120_all, hTH117⟩)
  refine lv_iload_n hx hb dX3_goOn_0 rfl (lv_at hl 1 rfl) ?_
  refine lv_iload_n hx hb dX3_goOn_1 rfl (lv_at hl 2 rfl) ?_
  refine lv_icmp_ge (tgt := 10) hx hb dX3_goOn_2 (by decide) (fun c121 => ?_) (fun c121 => ?_)
  · have k122 := i_le c121
    exact J10 ls s.heap [] (lv_sub hl [] rfl) hT hS etq f0_all
  · have k122 := i_nle c121
    refine lv_iload_n hx hb dX3_goOn_5 rfl (lv_at hl 1 rfl) ?_
    refine lv_iconst (v := 5) hx hb dX3_goOn_6 (by decide) ?_
    refine lv_icmp_lt (tgt := 12) hx hb dX3_goOn_7 (by decide) (fun c123 => ?_) (fun c123 => ?_)
    · have k124 := i_lt c123
      exfalso
      omega
    · have k124 := i_nlt c123
      exact J10 ls s.heap [] (lv_sub hl [] rfl) hT hS etq f0_all

set_option maxHeartbeats 4000000 in
set_option maxRecDepth 100000 in
theorem a_X3_isReached_4 (l : Launch) (K : KE) (G : Nat → Option Nat) (H : Heap) {a0 : Nat} (x1 : Int32) (x2 : Int32) (x3 : Int32) {tq : Nat} (tk : Int32) (hT : TY K G H) (ga0 : G a0 = some 89) (hx1 : 0 ≤ x1.toInt ∧ x1.toInt ≤ 7) (hx2 : 4 ≤ x2.toInt ∧ x2.toInt ≤ 4) (gtq : G tq = some 96) (etq : tq = fR H a0 (K.1.2 3 6)) (etk : tk = fI H tq (x1 : Int32).toNatClampNeg) (hp0 : tk.toInt ≤ 4) : MX l K yX3_isReached cX3_isReached 5 (some .boolean) 2 47 0 0 [.ref a0, .int x1, .int x2, .int x3] H (AE G [89, 93, 94, 96, 90, 85, 86] H.size) (fun v H1 => ∃ (r : Int32) (t0 : Int32), v = some (.int r) ∧ (0 ≤ r.toInt ∧ r.toInt ≤ 1) ∧ t0 = fI H1 tq (x1 : Int32).toNatClampNeg ∧ tq = fR H1 a0 (K.1.2 3 6) ∧ (∀ j : Nat, fI H1 tq j = fI H tq j) ∧ TY K G H1) := by
  refine MX.of (by decide +kernel) (Nat.le_of_ble_eq_true rfl) ?_
  intro p e s m below meth c ls Q C hH hl hQ
  subst hH
  have C : CX p K s m _ meth c RX3 cX3_isReached 5 (some .boolean) "isReached" := C
  obtain ⟨hx, hb, hml, hown, hts, hKT, hr, hlocks, hnm⟩ := id C
  have hl : lv_has ls 5 [(0, .ref a0), (1, .int x1), (2, .int x2), (3, .int x3)] := hl
  have hS : va_S (AE G [89, 93, 94, 96, 90, 85, 86] s.heap.size) s.heap s.heap [] := va_S.rf
  have n_m1 : ((-1) : Int32).toInt = -1 := rfl
  have n_0 : (0 : Int32).toInt = 0 := rfl
  have n_1 : (1 : Int32).toInt = 1 := rfl
  have btk := ty_ai (x := tk) etk hT gtq rg_96 (by omega)
  have f0_oth : ∀ j : Nat, j ≠ x1.toNatClampNeg → fI s.heap tq j = fI s.heap tq j := fun _ _ => rfl
  have J36 : ∀ (ls251 : Array Slot) (H250 : Heap) (locsH250 : List Loc) (x253 : Int32) (x254 : Int32), lv_has ls251 5 [(0, .ref a0), (1, .int x1)] → TY K G H250 → va_S (AE G [89, 93, 94, 96, 90, 85, 86] s.heap.size) s.heap H250 locsH250 → (0 ≤ x253.toInt ∧ x253.toInt ≤ 1) → (0 ≤ x254.toInt ∧ x254.toInt ≤ 5) → (x254 = fI H250 tq (x1 : Int32).toNatClampNeg) → (tq = fR H250 a0 (K.1.2 3 6)) → (∀ j : Nat, j ≠ x1.toNatClampNeg → fI H250 tq j = fI s.heap tq j) → (x254.toInt = tk.toInt + 1) → W p l e ({ frames := 2, cells := 0, slots := 0, locals := 47 } : Room) s m (([.ref a0, .int x1, .int x2, .int x3] : List Value).toArray) below meth c H250 locsH250 0 0 Q (F0 m 36 ls251 [.int x253]) := by
    intro ls251 H250 locsH250 x253 x254 hl252 hTH250 hSH250 bx253 bx254 ex254 cy255_0 fy255_oth iv36
    refine lv_istore (lv' := [(4, .int x253), (0, .ref a0), (1, .int x1)]) hx hb dX3_isReached_36 hl252 (by decide) rfl (fun ls256 hl257 => ?_)
    refine lv_aload_n hx hb dX3_isReached_38 rfl (lv_at hl257 1 rfl) ?_
    refine lv_iload_n hx hb dX3_isReached_39 rfl (lv_at hl257 2 rfl) ?_
    refine lv_iconst (v := (-1)) hx hb dX3_isReached_40 (by decide) ?_
    refine x_V (As := [.int x1, .int (-1)]) (rest := []) C (a_X3_move_m l K G H250 (x1) ((-1)) (x254) hTH250 ga0 (by omega) (by decide) gtq cy255_0 ex254 (by omega)) yo_X3_move wM_X3_109 ⟨⟨by decide, by decide⟩, by decide, by decide⟩ (x_rv C hTH250 (ci := 3) rfl ga0 rg_89) rfl hl257.1 rfl (Nat.le_of_ble_eq_true rfl) dX3_isReached_41 hSH250 (AE_sub (fun _ _ => rfl) (by decide) hSH250.1) (fun vH258 H258 locsH258 pH258 zH258 kH258 hSH258 => ?_)
    obtain ⟨x259, hvH258, ex259, hrH258, m260, m261, hTH258⟩ := pH258
    subst hvH258
    have bx259 := ty_ai (x := x259) ex259 hTH258 gtq rg_96 (by omega)
    have f262 : ∀ j : Nat, j ≠ x1.toNatClampNeg → fI H258 tq j = fI s.heap tq j := fun j hj => (m261 j hj).trans (fy255_oth j hj)
    refine W.eq (g2 := F0 m 44 ls256 []) rfl ?_
    refine lv_iload hx hb dX3_isReached_44 (lv_at hl257 0 rfl) ?_
    exact x_zret C hQ (i_01 (by omega)) dX3_isReached_46 hSH258 (by decide) (by decide) (⟨x253, x259, rfl, by omega, ex259, m260, af_same ex259 etk (by omega) f262, hTH258⟩)
  have J35 : ∀ (ls264 : Array Slot) (H263 : Heap) (locsH263 : List Loc) (x266 : Int32), lv_has ls264 5 [(0, .ref a0), (1, .int x1)] → TY K G H263 → va_S (AE G [89, 93, 94, 96, 90, 85, 86] s.heap.size) s.heap H263 locsH263 → (0 ≤ x266.toInt ∧ x266.toInt ≤ 5) → (x266 = fI H263 tq (x1 : Int32).toNatClampNeg) → (tq = fR H263 a0 (K.1.2 3 6)) → (∀ j : Nat, j ≠ x1.toNatClampNeg → fI H263 tq j = fI s.heap tq j) → (x266.toInt = tk.toInt + 1) → W p l e ({ frames := 2, cells := 0, slots := 0, locals := 47 } : Room) s m (([.ref a0, .int x1, .int x2, .int x3] : List Value).toArray) below meth c H263 locsH263 0 0 Q (F0 m 35 ls264 []) := by
    intro ls264 H263 locsH263 x266 hl265 hTH263 hSH263 bx266 ex266 cy267_0 fy267_oth iv35
    refine lv_iconst (v := 0) hx hb dX3_isReached_35 (by decide) ?_
    exact J36 ls264 H263 locsH263 (0) (x266) (lv_sub hl265 [0, 1] rfl) hTH263 hSH263 (by decide) (by have := i_rng x266; omega) ex266 cy267_0 fy267_oth (by omega)
  refine lv_aload_n hx hb dX3_isReached_0 rfl (lv_at hl 0 rfl) ?_
  refine lv_iload_n hx hb dX3_isReached_1 rfl (lv_at hl 1 rfl) ?_
  refine lv_iconst (v := 1) hx hb dX3_isReached_2 (by decide) ?_
  refine x_V (As := [.int x1, .int 1]) (rest := []) C (a_X3_move_p l K G s.heap (x1) (1) (tk) hT ga0 (by omega) (by decide) gtq etq etk (by omega)) yo_X3_move wM_X3_109 ⟨⟨by decide, by decide⟩, by decide, by decide⟩ (x_rv C hT (ci := 3) rfl ga0 rg_89) rfl hl.1 rfl (Nat.le_of_ble_eq_true rfl) dX3_isReached_3 hS (AE_sub (fun _ _ => rfl) (by decide) hS.1) (fun vH268 H268 locsH268 pH268 zH268 kH268 hSH268 => ?_)
  obtain ⟨x269, hvH268, ex269, hrH268, m270, m271, hTH268⟩ := pH268
  subst hvH268
  have bx269 := ty_ai (x := x269) ex269 hTH268 gtq rg_96 (by omega)
  have f272 : ∀ j : Nat, j ≠ x1.toNatClampNeg → fI H268 tq j = fI s.heap tq j := fun j hj => (m271 j hj).trans (f0_oth j hj)
  refine W.eq (g2 := F0 m 6 ls []) rfl ?_
  refine lv_aload_n hx hb dX3_isReached_6 rfl (lv_at hl 0 rfl) ?_
  refine x_gr C hTH268 (ci := 3) (k := 8) rfl inX3 (by decide) wF_X3_39 ga0 rg_89 rfl dX3_isReached_7 (fun q273 eq273 gq273 => ?_)
  refine lv_aload_n hx hb dX3_isReached_10 rfl (lv_at hl 0 rfl) ?_
  refine x_gi C hTH268 (ci := 3) (k := 11) rfl inX3 (by decide) wF_X3_59 ga0 rg_89 rfl dX3_isReached_11 (fun x274 ex274 bx274 => ?_)
  refine x_V (As := [.int x274]) (rest := []) C (a_X2_add_met l K G H268 (x274) hTH268 gq273) yo_X2_add wM_X3_113 ⟨⟨by decide, by decide⟩, by decide, by decide⟩ (x_rv C hTH268 (ci := 2) rfl gq273 rg_85) rfl hl.1 rfl (Nat.le_of_ble_eq_true rfl) dX3_isReached_14 hSH268 (AE_sub (fun _ _ => rfl) (by decide) hSH268.1) (fun vH275 H275 locsH275 pH275 zH275 kH275 hSH275 => ?_)
  obtain ⟨x276, hvH275, bx276, hTH275⟩ := pH275
  subst hvH275
  have f277 : ∀ j : Nat, j ≠ x1.toNatClampNeg → fI H275 tq j = fI s.heap tq j := fun j hj => (fI_kept (x_lt hTH268 kH275 gtq (by decide))).trans (f272 j hj)
  have m278 := (m270).trans (fR_kept (x_lt hTH268 kH275 ga0 (by decide))).symm
  have m279 := (ex269).trans (fI_kept (x_lt hTH268 kH275 gtq (by decide))).symm
  have m280 := (eq273).trans (fR_kept (x_lt hTH268 kH275 ga0 (by decide))).symm
  have m281 := (ex274).trans (fI_kept (x_lt hTH268 kH275 ga0 (by decide))).symm
  refine W.eq (g2 := F0 m 17 ls [.int x276]) rfl ?_
  refine lv_if_eq (tgt := 35) hx hb dX3_isReached_17 (by decide) (fun c282 => ?_) (fun c282 => ?_)
  · have k283 := i_eq c282
    exact J35 ls H275 locsH275 (x269) (lv_sub hl [0, 1] rfl) hTH275 hSH275 (by have := i_rng x269; omega) m279 m278 f277 (by omega)
  · have k283 := i_ne c282
    refine lv_aload_n hx hb dX3_isReached_20 rfl (lv_at hl 0 rfl) ?_
    refine lv_iload_n hx hb dX3_isReached_21 rfl (lv_at hl 2 rfl) ?_
    refine lv_iconst (v := 1) hx hb dX3_isReached_22 (by decide) ?_
    refine lv_iadd hx hb dX3_isReached_23 ?_
    refine lv_topi (fun x284 ex284 => ?_)
    have tx284 := i_add ex284 (by omega)
    refine lv_iload_n hx hb dX3_isReached_24 rfl (lv_at hl 3 rfl) ?_
    refine x_V (As := [.int x284, .int x3]) (rest := []) C (a_X3_goOn_5 l K G H275 (x284) (x3) hTH275 ga0 (by omega) gtq m278) yo_X3_goOn wM_X3_97 ⟨⟨by decide, by decide⟩, by decide, by decide⟩ (x_rv C hTH275 (ci := 3) rfl ga0 rg_89) rfl hl.1 rfl (Nat.le_of_ble_eq_true rfl) dX3_isReached_25 hSH275 (AE_sub (fun _ _ => rfl) (by decide) hSH275.1) (fun vH285 H285 locsH285 pH285 zH285 kH285 hSH285 => ?_)
    obtain ⟨x286, hvH285, bx286, m287, m288, hTH285⟩ := pH285
    subst hvH285
    have m289 := (m279).trans (m288 _).symm
    have f290 : ∀ j : Nat, j ≠ x1.toNatClampNeg → fI H285 tq j = fI s.heap tq j := fun j hj => (m288 j).trans (f277 j hj)
    refine W.eq (g2 := F0 m 28 ls [.int x286]) rfl ?_
    refine lv_if_eq (tgt := 35) hx hb dX3_isReached_28 (by decide) (fun c291 => ?_) (fun c291 => ?_)
    · have k292 := i_eq c291
      exact J35 ls H285 locsH285 (x269) (lv_sub hl [0, 1] rfl) hTH285 hSH285 (by have := i_rng x269; omega) m289 m287 f290 (by omega)
    · have k292 := i_ne c291
      refine lv_iconst (v := 1) hx hb dX3_isReached_31 (by decide) ?_
      refine lv_goto (tgt := 36) hx hb dX3_isReached_32 (by decide) ?_
      exact J36 ls H285 locsH285 (1) (x269) (lv_sub hl [0, 1] rfl) hTH285 hSH285 (by decide) (by have := i_rng x269; omega) m289 m287 f290 (by omega)

set_option maxHeartbeats 4000000 in
set_option maxRecDepth 100000 in
theorem a_X3_goOn_4 (l : Launch) (K : KE) (G : Nat → Option Nat) (H : Heap) {a0 : Nat} (x1 : Int32) (x2 : Int32) {tq : Nat} (hT : TY K G H) (ga0 : G a0 = some 89) (hx1 : 4 ≤ x1.toInt ∧ x1.toInt ≤ 5) (gtq : G tq = some 96) (etq : tq = fR H a0 (K.1.2 3 6)) : MX l K yX3_goOn cX3_goOn 5 (some .boolean) 3 72 0 0 [.ref a0, .int x1, .int x2] H (AE G [89, 93, 94, 96, 90, 85, 86] H.size) (fun v H1 => ∃ (r : Int32), v = some (.int r) ∧ (0 ≤ r.toInt ∧ r.toInt ≤ 1) ∧ tq = fR H1 a0 (K.1.2 3 6) ∧ (∀ j : Nat, fI H1 tq j = fI H tq j) ∧ TY K G H1) := by
  refine MX.of (by decide +kernel) (Nat.le_of_ble_eq_true rfl) ?_
  intro p e s m below meth c ls Q C hH hl hQ
  subst hH
  have C : CX p K s m _ meth c RX3 cX3_goOn 5 (some .boolean) "goOn" := C
  obtain ⟨hx, hb, hml, hown, hts, hKT, hr, hlocks, hnm⟩ := id C
  have hl : lv_has ls 5 [(0, .ref a0), (1, .int x1), (2, .int x2)] := hl
  have hS : va_S (AE G [89, 93, 94, 96, 90, 85, 86] s.heap.size) s.heap s.heap [] := va_S.rf
  have n_0 : (0 : Int32).toInt = 0 := rfl
  have n_1 : (1 : Int32).toInt = 1 := rfl
  have n_5 : (5 : Int32).toInt = 5 := rfl
  have f0_all : ∀ j : Nat, fI s.heap tq j = fI s.heap tq j := fun _ => rfl
  have J10 : ∀ (ls714 : Array Slot) (H713 : Heap) (locsH713 : List Loc) , lv_has ls714 5 [] → TY K G H713 → va_S (AE G [89, 93, 94, 96, 90, 85, 86] s.heap.size) s.heap H713 locsH713 → (tq = fR H713 a0 (K.1.2 3 6)) → (∀ j : Nat, fI H713 tq j = fI s.heap tq j) → W p l e ({ frames := 3, cells := 0, slots := 0, locals := 72 } : Room) s m (([.ref a0, .int x1, .int x2] : List Value).toArray) below meth c H713 locsH713 0 0 Q (F0 m 10 ls714 []) := by
    intro ls714 H713 locsH713  hl715 hTH713 hSH713 cy716_0 fy716_all
    refine lv_iconst (v := 0) hx hb dX3_goOn_10 (by decide) ?_
    exact x_zret C hQ (Or.inl rfl) dX3_goOn_11 hSH713 (by decide) (by decide) (⟨0, rfl, by decide, cy716_0, fy716_all, hTH713⟩)
  have J24 : ∀ (ls718 : Array Slot) (H717 : Heap) (locsH717 : List Loc) (x722 : Int32), lv_has ls718 5 [(0, .ref a0), (1, .int x1), (2, .int x2)] → TY K G H717 → va_S (AE G [89, 93, 94, 96, 90, 85, 86] s.heap.size) s.heap H717 locsH717 → (4 ≤ x1.toInt ∧ x1.toInt ≤ 4) → (5 ≤ x2.toInt ∧ x2.toInt ≤ 2147483647) → (0 ≤ x722.toInt ∧ x722.toInt ≤ 1) → (tq = fR H717 a0 (K.1.2 3 6)) → (∀ j : Nat, fI H717 tq j = fI s.heap tq j) → W p l e ({ frames := 3, cells := 0, slots := 0, locals := 72 } : Room) s m (([.ref a0, .int x1, .int x2] : List Value).toArray) below meth c H717 locsH717 0 0 Q (F0 m 24 ls718 [.int x722]) := by
    intro ls718 H717 locsH717 x722 hl719 hTH717 hSH717 b720 b721 bx722 cy723_0 fy723_all
    have J28 : ∀ (nf : Nat) (ls725 : Array Slot) (H724 : Heap) (locsH724 : List Loc) (x727 : Int32) (x728 : Int32), lv_has ls725 5 [(0, .ref a0), (1, .int x1), (2, .int x2), (3, .int x727), (4, .int x728)] → TY K G H724 → va_S (AE G [89, 93, 94, 96, 90, 85, 86] s.heap.size) s.heap H724 locsH724 → (0 ≤ x727.toInt ∧ x727.toInt ≤ 1) → (0 ≤ x728.toInt ∧ x728.toInt ≤ 8) → (tq = fR H724 a0 (K.1.2 3 6)) → (∀ j : Nat, fI H724 tq j = fI s.heap tq j) → (8 - x728.toInt < (nf : Int)) → W p l e ({ frames := 3, cells := 0, slots := 0, locals := 72 } : Room) s m (([.ref a0, .int x1, .int x2] : List Value).toArray) below meth c H724 locsH724 0 0 Q (F0 m 28 ls725 []) := by
      intro nf
      induction nf with
      | zero =>
        intro ls725 H724 locsH724 x727 x728 hl726 hTH724 hSH724 bx727 bx728 cy729_0 fy729_all hm28
        exfalso
        omega
      | succ nf ih28 =>
        intro ls725 H724 locsH724 x727 x728 hl726 hTH724 hSH724 bx727 bx728 cy729_0 fy729_all hm28
        have J89 : ∀ (ls731 : Array Slot) (H730 : Heap) (locsH730 : List Loc) , lv_has ls731 5 [(0, .ref a0), (1, .int x1), (2, .int x2), (3, .int x727), (4, .int x728)] → TY K G H730 → va_S (AE G [89, 93, 94, 96, 90, 85, 86] s.heap.size) s.heap H730 locsH730 → (0 ≤ x728.toInt ∧ x728.toInt ≤ 7) → (tq = fR H730 a0 (K.1.2 3 6)) → (∀ j : Nat, fI H730 tq j = fI s.heap tq j) → W p l e ({ frames := 3, cells := 0, slots := 0, locals := 72 } : Room) s m (([.ref a0, .int x1, .int x2] : List Value).toArray) below meth c H730 locsH730 0 0 Q (F0 m 89 ls731 []) := by
          intro ls731 H730 locsH730  hl732 hTH730 hSH730 b733 cy734_0 fy734_all
          obtain ⟨x735, ex735⟩ : ∃ y : Int32, y = x728 + 1 := ⟨_, rfl⟩
          have tx735 := i_add ex735 (by omega)
          refine lv_iinc (v := x735) (lv' := [(4, .int x735), (0, .ref a0), (1, .int x1), (2, .int x2), (3, .int x727)]) hx hb dX3_goOn_89 hl732 (k := 4) rfl (by rw [ex735]; rfl) (by decide) rfl (fun ls736 hl737 => ?_)
          refine lv_goto (tgt := 28) hx hb dX3_goOn_92 (by decide) ?_
          exact ih28 ls736 H730 locsH730 (x727) (x735) (lv_sub hl737 [1, 2, 3, 4, 0] rfl) hTH730 hSH730 (by have := i_rng x727; omega) (by have := i_rng x735; omega) cy734_0 fy734_all (by omega)
        have J87 : ∀ (ls739 : Array Slot) (H738 : Heap) (locsH738 : List Loc) , lv_has ls739 5 [] → TY K G H738 → va_S (AE G [89, 93, 94, 96, 90, 85, 86] s.heap.size) s.heap H738 locsH738 → (tq = fR H738 a0 (K.1.2 3 6)) → (∀ j : Nat, fI H738 tq j = fI s.heap tq j) → W p l e ({ frames := 3, cells := 0, slots := 0, locals := 72 } : Room) s m (([.ref a0, .int x1, .int x2] : List Value).toArray) below meth c H738 locsH738 0 0 Q (F0 m 87 ls739 []) := by
          intro ls739 H738 locsH738  hl740 hTH738 hSH738 cy741_0 fy741_all
          refine lv_iconst (v := 1) hx hb dX3_goOn_87 (by decide) ?_
          exact x_zret C hQ (Or.inr rfl) dX3_goOn_88 hSH738 (by decide) (by decide) (⟨1, rfl, by decide, cy741_0, fy741_all, hTH738⟩)
        refine lv_iload hx hb dX3_goOn_28 (lv_at hl726 4 rfl) ?_
        refine lv_aload_n hx hb dX3_goOn_30 rfl (lv_at hl726 0 rfl) ?_
        refine x_gi C hTH724 (ci := 3) (k := 9) rfl inX3 (by decide) wF_X3_55 ga0 rg_89 rfl dX3_goOn_31 (fun x742 ex742 bx742 => ?_)
        refine lv_icmp_ge (tgt := 95) hx hb dX3_goOn_34 (by decide) (fun c743 => ?_) (fun c743 => ?_)
        · have k744 := i_le c743
          refine lv_iconst (v := 0) hx hb dX3_goOn_95 (by decide) ?_
          exact x_zret C hQ (Or.inl rfl) dX3_goOn_96 hSH724 (by decide) (by decide) (⟨0, rfl, by decide, cy729_0, fy729_all, hTH724⟩)
        · have k744 := i_nle c743
          refine lv_aload_n hx hb dX3_goOn_37 rfl (lv_at hl726 0 rfl) ?_
          refine x_gr C hTH724 (ci := 3) (k := 6) rfl inX3 (by decide) wF_X3_30 ga0 rg_89 rfl dX3_goOn_38 (fun q745 eq745 gq745 => ?_)
          have uq745 : tq = q745 := (cy729_0).trans eq745.symm
          subst uq745
          refine lv_iload hx hb dX3_goOn_41 (lv_at hl726 4 rfl) ?_
          refine x_ai C hTH724 gtq rg_96 ⟨by omega, by show _ < ((8 : Nat) : Int); omega⟩ dX3_goOn_43 (fun x746 ex746 bx746 => ?_)
          refine lv_aload_n hx hb dX3_goOn_44 rfl (lv_at hl726 0 rfl) ?_
          refine x_gr C hTH724 (ci := 3) (k := 7) rfl inX3 (by decide) wF_X3_33 ga0 rg_89 rfl dX3_goOn_45 (fun q747 eq747 gq747 => ?_)
          refine lv_iload hx hb dX3_goOn_48 (lv_at hl726 4 rfl) ?_
          refine x_ai C hTH724 gq747 rg_97 ⟨by omega, by show _ < ((8 : Nat) : Int); omega⟩ dX3_goOn_50 (fun x748 ex748 bx748 => ?_)
          refine lv_icmp_ge (tgt := 89) hx hb dX3_goOn_51 (by decide) (fun c749 => ?_) (fun c749 => ?_)
          · have k750 := i_le c749
            exact J89 ls725 H724 locsH724 (lv_sub hl726 [0, 1, 2, 3, 4] rfl) hTH724 hSH724 (by have := i_rng x728; omega) cy729_0 fy729_all
          · have k750 := i_nle c749
            refine lv_aload_n hx hb dX3_goOn_54 rfl (lv_at hl726 0 rfl) ?_
            refine lv_iload hx hb dX3_goOn_55 (lv_at hl726 4 rfl) ?_
            refine lv_iload_n hx hb dX3_goOn_57 rfl (lv_at hl726 3 rfl) ?_
            refine x_V (As := [.int x728, .int x727]) (rest := []) C (a_X3_isNearBehind l K G H724 (x728) (x727) (x746) hTH724 ga0 (by omega) (by omega) gtq cy729_0 ex746 (by omega)) yo_X3_isNearBehind wM_X3_101 ⟨⟨by decide, by decide⟩, by decide, by decide⟩ (x_rv C hTH724 (ci := 3) rfl ga0 rg_89) rfl hl726.1 rfl (Nat.le_of_ble_eq_true rfl) dX3_goOn_58 hSH724 (AE_sub (fun _ _ => rfl) (by decide) hSH724.1) (fun vH751 H751 locsH751 pH751 zH751 kH751 hSH751 => ?_)
            obtain ⟨x752, hvH751, bx752, hTH751⟩ := pH751
            subst hvH751
            have f753 : ∀ j : Nat, fI H751 tq j = fI s.heap tq j := fun j => (fI_kept (x_lt hTH724 kH751 gtq (by decide))).trans (fy729_all j)
            have m754 := (cy729_0).trans (fR_kept (x_lt hTH724 kH751 ga0 (by decide))).symm
            have m755 := (ex742).trans (fI_kept (x_lt hTH724 kH751 ga0 (by decide))).symm
            have m756 := (ex746).trans (fI_kept (x_lt hTH724 kH751 gtq (by decide))).symm
            have m757 := (eq747).trans (fR_kept (x_lt hTH724 kH751 ga0 (by decide))).symm
            have m758 := (ex748).trans (fI_kept (x_lt hTH724 kH751 gq747 (by decide))).symm
            refine W.eq (g2 := F0 m 61 ls725 [.int x752]) rfl ?_
            refine lv_if_eq (tgt := 89) hx hb dX3_goOn_61 (by decide) (fun c759 => ?_) (fun c759 => ?_)
            · have k760 := i_eq c759
              exact J89 ls725 H751 locsH751 (lv_sub hl726 [0, 1, 2, 3, 4] rfl) hTH751 hSH751 (by have := i_rng x728; omega) m754 f753
            · have k760 := i_ne c759
              refine lv_aload_n hx hb dX3_goOn_64 rfl (lv_at hl726 0 rfl) ?_
              refine x_gr C hTH751 (ci := 3) (k := 0) rfl inX3 (by decide) wF_X3_11 ga0 rg_89 rfl dX3_goOn_65 (fun q761 eq761 gq761 => ?_)
              refine lv_iload_n hx hb dX3_goOn_68 rfl (lv_at hl726 1 rfl) ?_
              refine lv_iload hx hb dX3_goOn_69 (lv_at hl726 4 rfl) ?_
              refine x_iast C hTH751 hSH751 gq761 rg_90 (by omega) (by show _ < ((5 : Nat) : Int); omega) ⟨by have := i_rng x728; omega, by have := i_rng x728; omega⟩ (AE_in gq761 (by decide)) dX3_goOn_71 (fun H762 locsH762 hTH762 hSH762 wH762 => ?_)
              have f763 : ∀ j : Nat, fI H762 tq j = fI s.heap tq j := fun j => (Wr.neI wH762 (Or.inl (G_ne gtq gq761 (by decide)))).trans (f753 j)
              have m764 := m754.trans (Wr.neR wH762 (Or.inl (G_ne ga0 gq761 (by decide)))).symm
              have m765 := m755.trans (Wr.neI wH762 (Or.inl (G_ne ga0 gq761 (by decide)))).symm
              have m766 := m756.trans (Wr.neI wH762 (Or.inl (G_ne gtq gq761 (by decide)))).symm
              have m767 := m757.trans (Wr.neR wH762 (Or.inl (G_ne ga0 gq761 (by decide)))).symm
              have m768 := m758.trans (Wr.neI wH762 (Or.inl (G_ne gq747 gq761 (by decide)))).symm
              have m769 := eq761.trans (Wr.neR wH762 (Or.inl (G_ne ga0 gq761 (by decide)))).symm
              have m770 := Wr.I wH762
              have m770 := m770.symm
              refine lv_iload_n hx hb dX3_goOn_72 rfl (lv_at hl726 3 rfl) ?_
              refine lv_if_ne (tgt := 87) hx hb dX3_goOn_73 (by decide) (fun c771 => ?_) (fun c771 => ?_)
              · have k772 := i_ne c771
                exact J87 ls725 H762 locsH762 (lv_sub hl726 [] rfl) hTH762 hSH762 m764 f763
              · have k772 := i_eq c771
                refine lv_aload_n hx hb dX3_goOn_76 rfl (lv_at hl726 0 rfl) ?_
                refine lv_iload hx hb dX3_goOn_77 (lv_at hl726 4 rfl) ?_
                refine lv_iload_n hx hb dX3_goOn_79 rfl (lv_at hl726 1 rfl) ?_
                refine lv_iload_n hx hb dX3_goOn_80 rfl (lv_at hl726 2 rfl) ?_
                refine x_V (As := [.int x728, .int x1, .int x2]) (rest := []) C (a_X3_isReached_4 l K G H762 (x728) (x1) (x2) (x746) hTH762 ga0 (by omega) (by omega) gtq m764 m766 (by omega)) yo_X3_isReached wM_X3_105 ⟨⟨by decide, by decide⟩, by decide, by decide⟩ (x_rv C hTH762 (ci := 3) rfl ga0 rg_89) rfl hl726.1 rfl (Nat.le_of_ble_eq_true rfl) dX3_goOn_81 hSH762 (AE_sub (fun _ _ => rfl) (by decide) hSH762.1) (fun vH773 H773 locsH773 pH773 zH773 kH773 hSH773 => ?_)
                obtain ⟨x774, x775, hvH773, bx774, ex775, m776, m777, hTH773⟩ := pH773
                subst hvH773
                have m778 := (m768).trans (fI_kept (x_lt hTH762 kH773 gq747 (by decide))).symm
                have bx775 := ty_ai (x := x775) ex775 hTH773 gtq rg_96 (by omega)
                have f779 : ∀ j : Nat, fI H773 tq j = fI s.heap tq j := fun j => (m777 j).trans (f763 j)
                refine W.eq (g2 := F0 m 84 ls725 [.int x774]) rfl ?_
                refine lv_if_eq (tgt := 89) hx hb dX3_goOn_84 (by decide) (fun c780 => ?_) (fun c780 => ?_)
                · have k781 := i_eq c780
                  exact J89 ls725 H773 locsH773 (lv_sub hl726 [0, 1, 2, 3, 4] rfl) hTH773 hSH773 (by have := i_rng x728; omega) m776 f779
                · have k781 := i_ne c780
                  exact J87 ls725 H773 locsH773 (lv_sub hl726 [] rfl) hTH773 hSH773 m776 f779
    refine lv_istore_n (lv' := [(3, .int x722), (0, .ref a0), (1, .int x1), (2, .int x2)]) hx hb dX3_goOn_24 rfl hl719 (by decide) rfl (fun ls782 hl783 => ?_)
    refine lv_iconst (v := 0) hx hb dX3_goOn_25 (by decide) ?_
    refine lv_istore (lv' := [(4, .int 0), (3, .int x722), (0, .ref a0), (1, .int x1), (2, .int x2)]) hx hb dX3_goOn_26 hl783 (by decide) rfl (fun ls784 hl785 => ?_)
    exact J28 ((8 - (0 : Int32).toInt).toNat + 1) ls784 H717 locsH717 (x722) (0) (lv_sub hl785 [2, 3, 4, 1, 0] rfl) hTH717 hSH717 (by have := i_rng x722; omega) (by decide) cy723_0 fy723_all (by omega)
  refine lv_iload_n hx hb dX3_goOn_0 rfl (lv_at hl 1 rfl) ?_
  refine lv_iload_n hx hb dX3_goOn_1 rfl (lv_at hl 2 rfl) ?_
  refine lv_icmp_ge (tgt := 10) hx hb dX3_goOn_2 (by decide) (fun c786 => ?_) (fun c786 => ?_)
  · have k787 := i_le c786
    exact J10 ls s.heap [] (lv_sub hl [] rfl) hT hS etq f0_all
  · have k787 := i_nle c786
    refine lv_iload_n hx hb dX3_goOn_5 rfl (lv_at hl 1 rfl) ?_
    refine lv_iconst (v := 5) hx hb dX3_goOn_6 (by decide) ?_
    refine lv_icmp_lt (tgt := 12) hx hb dX3_goOn_7 (by decide) (fun c788 => ?_) (fun c788 => ?_)
    · have k789 := i_lt c788
      refine lv_iload_n hx hb dX3_goOn_12 rfl (lv_at hl 1 rfl) ?_
      refine lv_iconst (v := 1) hx hb dX3_goOn_13 (by decide) ?_
      refine lv_iadd hx hb dX3_goOn_14 ?_
      refine lv_topi (fun x790 ex790 => ?_)
      have tx790 := i_add ex790 (by omega)
      refine lv_iload_n hx hb dX3_goOn_15 rfl (lv_at hl 2 rfl) ?_
      refine lv_icmp_ne (tgt := 23) hx hb dX3_goOn_16 (by decide) (fun c791 => ?_) (fun c791 => ?_)
      · have k792 := i_ne c791
        refine lv_iconst (v := 0) hx hb dX3_goOn_23 (by decide) ?_
        exact J24 ls s.heap [] (0) (lv_sub hl [0, 1, 2] rfl) hT hS (by have := i_rng x1; omega) (by have := i_rng x2; omega) (by decide) etq f0_all
      · have k792 := i_eq c791
        refine lv_iconst (v := 1) hx hb dX3_goOn_19 (by decide) ?_
        refine lv_goto (tgt := 24) hx hb dX3_goOn_20 (by decide) ?_
        exact J24 ls s.heap [] (1) (lv_sub hl [0, 1, 2] rfl) hT hS (by have := i_rng x1; omega) (by have := i_rng x2; omega) (by decide) etq f0_all
    · have k789 := i_nlt c788
      exact J10 ls s.heap [] (lv_sub hl [] rfl) hT hS etq f0_all

set_option maxHeartbeats 4000000 in
set_option maxRecDepth 100000 in
theorem a_X3_isReached_3 (l : Launch) (K : KE) (G : Nat → Option Nat) (H : Heap) {a0 : Nat} (x1 : Int32) (x2 : Int32) (x3 : Int32) {tq : Nat} (tk : Int32) (hT : TY K G H) (ga0 : G a0 = some 89) (hx1 : 0 ≤ x1.toInt ∧ x1.toInt ≤ 7) (hx2 : 3 ≤ x2.toInt ∧ x2.toInt ≤ 4) (gtq : G tq = some 96) (etq : tq = fR H a0 (K.1.2 3 6)) (etk : tk = fI H tq (x1 : Int32).toNatClampNeg) (hp0 : tk.toInt ≤ 4) : MX l K yX3_isReached cX3_isReached 5 (some .boolean) 4 96 0 0 [.ref a0, .int x1, .int x2, .int x3] H (AE G [89, 93, 94, 96, 90, 85, 86] H.size) (fun v H1 => ∃ (r : Int32) (t0 : Int32), v = some (.int r) ∧ (0 ≤ r.toInt ∧ r.toInt ≤ 1) ∧ t0 = fI H1 tq (x1 : Int32).toNatClampNeg ∧ tq = fR H1 a0 (K.1.2 3 6) ∧ (∀ j : Nat, fI H1 tq j = fI H tq j) ∧ TY K G H1) := by
  refine MX.of (by decide +kernel) (Nat.le_of_ble_eq_true rfl) ?_
  intro p e s m below meth c ls Q C hH hl hQ
  subst hH
  have C : CX p K s m _ meth c RX3 cX3_isReached 5 (some .boolean) "isReached" := C
  obtain ⟨hx, hb, hml, hown, hts, hKT, hr, hlocks, hnm⟩ := id C
  have hl : lv_has ls 5 [(0, .ref a0), (1, .int x1), (2, .int x2), (3, .int x3)] := hl
  have hS : va_S (AE G [89, 93, 94, 96, 90, 85, 86] s.heap.size) s.heap s.heap [] := va_S.rf
  have n_m1 : ((-1) : Int32).toInt = -1 := rfl
  have n_0 : (0 : Int32).toInt = 0 := rfl
  have n_1 : (1 : Int32).toInt = 1 := rfl
  have btk := ty_ai (x := tk) etk hT gtq rg_96 (by omega)
  have f0_oth : ∀ j : Nat, j ≠ x1.toNatClampNeg → fI s.heap tq j = fI s.heap tq j := fun _ _ => rfl
  have J36 : ∀ (ls251 : Array Slot) (H250 : Heap) (locsH250 : List Loc) (x253 : Int32) (x254 : Int32), lv_has ls251 5 [(0, .ref a0), (1, .int x1)] → TY K G H250 → va_S (AE G [89, 93, 94, 96, 90, 85, 86] s.heap.size) s.heap H250 locsH250 → (0 ≤ x253.toInt ∧ x253.toInt ≤ 1) → (0 ≤ x254.toInt ∧ x254.toInt ≤ 5) → (x254 = fI H250 tq (x1 : Int32).toNatClampNeg) → (tq = fR H250 a0 (K.1.2 3 6)) → (∀ j : Nat, j ≠ x1.toNatClampNeg → fI H250 tq j = fI s.heap tq j) → (x254.toInt = tk.toInt + 1) → W p l e ({ frames := 4, cells := 0, slots := 0, locals := 96 } : Room) s m (([.ref a0, .int x1, .int x2, .int x3] : List Value).toArray) below meth c H250 locsH250 0 0 Q (F0 m 36 ls251 [.int x253]) := by
    intro ls251 H250 locsH250 x253 x254 hl252 hTH250 hSH250 bx253 bx254 ex254 cy255_0 fy255_oth iv36
    refine lv_istore (lv' := [(4, .int x253), (0, .ref a0), (1, .int x1)]) hx hb dX3_isReached_36 hl252 (by decide) rfl (fun ls256 hl257 => ?_)
    refine lv_aload_n hx hb dX3_isReached_38 rfl (lv_at hl257 1 rfl) ?_
    refine lv_iload_n hx hb dX3_isReached_39 rfl (lv_at hl257 2 rfl) ?_
    refine lv_iconst (v := (-1)) hx hb dX3_isReached_40 (by decide) ?_
    refine x_V (As := [.int x1, .int (-1)]) (rest := []) C (a_X3_move_m l K G H250 (x1) ((-1)) (x254) hTH250 ga0 (by omega) (by decide) gtq cy255_0 ex254 (by omega)) yo_X3_move wM_X3_109 ⟨⟨by decide, by decide⟩, by decide, by decide⟩ (x_rv C hTH250 (ci := 3) rfl ga0 rg_89) rfl hl257.1 rfl (Nat.le_of_ble_eq_true rfl) dX3_isReached_41 hSH250 (AE_sub (fun _ _ => rfl) (by decide) hSH250.1) (fun vH258 H258 locsH258 pH258 zH258 kH258 hSH258 => ?_)
    obtain ⟨x259, hvH258, ex259, hrH258, m260, m261, hTH258⟩ := pH258
    subst hvH258
    have bx259 := ty_ai (x := x259) ex259 hTH258 gtq rg_96 (by omega)
    have f262 : ∀ j : Nat, j ≠ x1.toNatClampNeg → fI H258 tq j = fI s.heap tq j := fun j hj => (m261 j hj).trans (fy255_oth j hj)
    refine W.eq (g2 := F0 m 44 ls256 []) rfl ?_
    refine lv_iload hx hb dX3_isReached_44 (lv_at hl257 0 rfl) ?_
    exact x_zret C hQ (i_01 (by omega)) dX3_isReached_46 hSH258 (by decide) (by decide) (⟨x253, x259, rfl, by omega, ex259, m260, af_same ex259 etk (by omega) f262, hTH258⟩)
  have J35 : ∀ (ls264 : Array Slot) (H263 : Heap) (locsH263 : List Loc) (x266 : Int32), lv_has ls264 5 [(0, .ref a0), (1, .int x1)] → TY K G H263 → va_S (AE G [89, 93, 94, 96, 90, 85, 86] s.heap.size) s.heap H263 locsH263 → (0 ≤ x266.toInt ∧ x266.toInt ≤ 5) → (x266 = fI H263 tq (x1 : Int32).toNatClampNeg) → (tq = fR H263 a0 (K.1.2 3 6)) → (∀ j : Nat, j ≠ x1.toNatClampNeg → fI H263 tq j = fI s.heap tq j) → (x266.toInt = tk.toInt + 1) → W p l e ({ frames := 4, cells := 0, slots := 0, locals := 96 } : Room) s m (([.ref a0, .int x1, .int x2, .int x3] : List Value).toArray) below meth c H263 locsH263 0 0 Q (F0 m 35 ls264 []) := by
    intro ls264 H263 locsH263 x266 hl265 hTH263 hSH263 bx266 ex266 cy267_0 fy267_oth iv35
    refine lv_iconst (v := 0) hx hb dX3_isReached_35 (by decide) ?_
    exact J36 ls264 H263 locsH263 (0) (x266) (lv_sub hl265 [0, 1] rfl) hTH263 hSH263 (by decide) (by have := i_rng x266; omega) ex266 cy267_0 fy267_oth (by omega)
  refine lv_aload_n hx hb dX3_isReached_0 rfl (lv_at hl 0 rfl) ?_
  refine lv_iload_n hx hb dX3_isReached_1 rfl (lv_at hl 1 rfl) ?_
  refine lv_iconst (v := 1) hx hb dX3_isReached_2 (by decide) ?_
  refine x_V (As := [.int x1, .int 1]) (rest := []) C (a_X3_move_p l K G s.heap (x1) (1) (tk) hT ga0 (by omega) (by decide) gtq etq etk (by omega)) yo_X3_move wM_X3_109 ⟨⟨by decide, by decide⟩, by decide, by decide⟩ (x_rv C hT (ci := 3) rfl ga0 rg_89) rfl hl.1 rfl (Nat.le_of_ble_eq_true rfl) dX3_isReached_3 hS (AE_sub (fun _ _ => rfl) (by decide) hS.1) (fun vH268 H268 locsH268 pH268 zH268 kH268 hSH268 => ?_)
  obtain ⟨x269, hvH268, ex269, hrH268, m270, m271, hTH268⟩ := pH268
  subst hvH268
  have bx269 := ty_ai (x := x269) ex269 hTH268 gtq rg_96 (by omega)
  have f272 : ∀ j : Nat, j ≠ x1.toNatClampNeg → fI H268 tq j = fI s.heap tq j := fun j hj => (m271 j hj).trans (f0_oth j hj)
  refine W.eq (g2 := F0 m 6 ls []) rfl ?_
  refine lv_aload_n hx hb dX3_isReached_6 rfl (lv_at hl 0 rfl) ?_
  refine x_gr C hTH268 (ci := 3) (k := 8) rfl inX3 (by decide) wF_X3_39 ga0 rg_89 rfl dX3_isReached_7 (fun q273 eq273 gq273 => ?_)
  refine lv_aload_n hx hb dX3_isReached_10 rfl (lv_at hl 0 rfl) ?_
  refine x_gi C hTH268 (ci := 3) (k := 11) rfl inX3 (by decide) wF_X3_59 ga0 rg_89 rfl dX3_isReached_11 (fun x274 ex274 bx274 => ?_)
  refine x_V (As := [.int x274]) (rest := []) C (a_X2_add_met l K G H268 (x274) hTH268 gq273) yo_X2_add wM_X3_113 ⟨⟨by decide, by decide⟩, by decide, by decide⟩ (x_rv C hTH268 (ci := 2) rfl gq273 rg_85) rfl hl.1 rfl (Nat.le_of_ble_eq_true rfl) dX3_isReached_14 hSH268 (AE_sub (fun _ _ => rfl) (by decide) hSH268.1) (fun vH275 H275 locsH275 pH275 zH275 kH275 hSH275 => ?_)
  obtain ⟨x276, hvH275, bx276, hTH275⟩ := pH275
  subst hvH275
  have f277 : ∀ j : Nat, j ≠ x1.toNatClampNeg → fI H275 tq j = fI s.heap tq j := fun j hj => (fI_kept (x_lt hTH268 kH275 gtq (by decide))).trans (f272 j hj)
  have m278 := (m270).trans (fR_kept (x_lt hTH268 kH275 ga0 (by decide))).symm
  have m279 := (ex269).trans (fI_kept (x_lt hTH268 kH275 gtq (by decide))).symm
  have m280 := (eq273).trans (fR_kept (x_lt hTH268 kH275 ga0 (by decide))).symm
  have m281 := (ex274).trans (fI_kept (x_lt hTH268 kH275 ga0 (by decide))).symm
  refine W.eq (g2 := F0 m 17 ls [.int x276]) rfl ?_
  refine lv_if_eq (tgt := 35) hx hb dX3_isReached_17 (by decide) (fun c282 => ?_) (fun c282 => ?_)
  · have k283 := i_eq c282
    exact J35 ls H275 locsH275 (x269) (lv_sub hl [0, 1] rfl) hTH275 hSH275 (by have := i_rng x269; omega) m279 m278 f277 (by omega)
  · have k283 := i_ne c282
    refine lv_aload_n hx hb dX3_isReached_20 rfl (lv_at hl 0 rfl) ?_
    refine lv_iload_n hx hb dX3_isReached_21 rfl (lv_at hl 2 rfl) ?_
    refine lv_iconst (v := 1) hx hb dX3_isReached_22 (by decide) ?_
    refine lv_iadd hx hb dX3_isReached_23 ?_
    refine lv_topi (fun x284 ex284 => ?_)
    have tx284 := i_add ex284 (by omega)
    refine lv_iload_n hx hb dX3_isReached_24 rfl (lv_at hl 3 rfl) ?_
    refine x_V (As := [.int x284, .int x3]) (rest := []) C (a_X3_goOn_4 l K G H275 (x284) (x3) hTH275 ga0 (by omega) gtq m278) yo_X3_goOn wM_X3_97 ⟨⟨by decide, by decide⟩, by decide, by decide⟩ (x_rv C hTH275 (ci := 3) rfl ga0 rg_89) rfl hl.1 rfl (Nat.le_of_ble_eq_true rfl) dX3_isReached_25 hSH275 (AE_sub (fun _ _ => rfl) (by decide) hSH275.1) (fun vH285 H285 locsH285 pH285 zH285 kH285 hSH285 => ?_)
    obtain ⟨x286, hvH285, bx286, m287, m288, hTH285⟩ := pH285
    subst hvH285
    have m289 := (m279).trans (m288 _).symm
    have f290 : ∀ j : Nat, j ≠ x1.toNatClampNeg → fI H285 tq j = fI s.heap tq j := fun j hj => (m288 j).trans (f277 j hj)
    refine W.eq (g2 := F0 m 28 ls [.int x286]) rfl ?_
    refine lv_if_eq (tgt := 35) hx hb dX3_isReached_28 (by decide) (fun c291 => ?_) (fun c291 => ?_)
    · have k292 := i_eq c291
      exact J35 ls H285 locsH285 (x269) (lv_sub hl [0, 1] rfl) hTH285 hSH285 (by have := i_rng x269; omega) m289 m287 f290 (by omega)
    · have k292 := i_ne c291
      refine lv_iconst (v := 1) hx hb dX3_isReached_31 (by decide) ?_
      refine lv_goto (tgt := 36) hx hb dX3_isReached_32 (by decide) ?_
      exact J36 ls H285 locsH285 (1) (x269) (lv_sub hl [0, 1] rfl) hTH285 hSH285 (by decide) (by have := i_rng x269; omega) m289 m287 f290 (by omega)

set_option maxHeartbeats 4000000 in
set_option maxRecDepth 100000 in
theorem a_X3_goOn_3 (l : Launch) (K : KE) (G : Nat → Option Nat) (H : Heap) {a0 : Nat} (x1 : Int32) (x2 : Int32) {tq : Nat} (hT : TY K G H) (ga0 : G a0 = some 89) (hx1 : 3 ≤ x1.toInt ∧ x1.toInt ≤ 5) (gtq : G tq = some 96) (etq : tq = fR H a0 (K.1.2 3 6)) : MX l K yX3_goOn cX3_goOn 5 (some .boolean) 5 120 0 0 [.ref a0, .int x1, .int x2] H (AE G [89, 93, 94, 96, 90, 85, 86] H.size) (fun v H1 => ∃ (r : Int32), v = some (.int r) ∧ (0 ≤ r.toInt ∧ r.toInt ≤ 1) ∧ tq = fR H1 a0 (K.1.2 3 6) ∧ (∀ j : Nat, fI H1 tq j = fI H tq j) ∧ TY K G H1) := by
  refine MX.of (by decide +kernel) (Nat.le_of_ble_eq_true rfl) ?_
  intro p e s m below meth c ls Q C hH hl hQ
  subst hH
  have C : CX p K s m _ meth c RX3 cX3_goOn 5 (some .boolean) "goOn" := C
  obtain ⟨hx, hb, hml, hown, hts, hKT, hr, hlocks, hnm⟩ := id C
  have hl : lv_has ls 5 [(0, .ref a0), (1, .int x1), (2, .int x2)] := hl
  have hS : va_S (AE G [89, 93, 94, 96, 90, 85, 86] s.heap.size) s.heap s.heap [] := va_S.rf
  have n_0 : (0 : Int32).toInt = 0 := rfl
  have n_1 : (1 : Int32).toInt = 1 := rfl
  have n_5 : (5 : Int32).toInt = 5 := rfl
  have f0_all : ∀ j : Nat, fI s.heap tq j = fI s.heap tq j := fun _ => rfl
  have J10 : ∀ (ls714 : Array Slot) (H713 : Heap) (locsH713 : List Loc) , lv_has ls714 5 [] → TY K G H713 → va_S (AE G [89, 93, 94, 96, 90, 85, 86] s.heap.size) s.heap H713 locsH713 → (tq = fR H713 a0 (K.1.2 3 6)) → (∀ j : Nat, fI H713 tq j = fI s.heap tq j) → W p l e ({ frames := 5, cells := 0, slots := 0, locals := 120 } : Room) s m (([.ref a0, .int x1, .int x2] : List Value).toArray) below meth c H713 locsH713 0 0 Q (F0 m 10 ls714 []) := by
    intro ls714 H713 locsH713  hl715 hTH713 hSH713 cy716_0 fy716_all
    refine lv_iconst (v := 0) hx hb dX3_goOn_10 (by decide) ?_
    exact x_zret C hQ (Or.inl rfl) dX3_goOn_11 hSH713 (by decide) (by decide) (⟨0, rfl, by decide, cy716_0, fy716_all, hTH713⟩)
  have J24 : ∀ (ls718 : Array Slot) (H717 : Heap) (locsH717 : List Loc) (x722 : Int32), lv_has ls718 5 [(0, .ref a0), (1, .int x1), (2, .int x2)] → TY K G H717 → va_S (AE G [89, 93, 94, 96, 90, 85, 86] s.heap.size) s.heap H717 locsH717 → (3 ≤ x1.toInt ∧ x1.toInt ≤ 4) → (4 ≤ x2.toInt ∧ x2.toInt ≤ 2147483647) → (0 ≤ x722.toInt ∧ x722.toInt ≤ 1) → (tq = fR H717 a0 (K.1.2 3 6)) → (∀ j : Nat, fI H717 tq j = fI s.heap tq j) → W p l e ({ frames := 5, cells := 0, slots := 0, locals := 120 } : Room) s m (([.ref a0, .int x1, .int x2] : List Value).toArray) below meth c H717 locsH717 0 0 Q (F0 m 24 ls718 [.int x722]) := by
    intro ls718 H717 locsH717 x722 hl719 hTH717 hSH717 b720 b721 bx722 cy723_0 fy723_all
    have J28 : ∀ (nf : Nat) (ls725 : Array Slot) (H724 : Heap) (locsH724 : List Loc) (x727 : Int32) (x728 : Int32), lv_has ls725 5 [(0, .ref a0), (1, .int x1), (2, .int x2), (3, .int x727), (4, .int x728)] → TY K G H724 → va_S (AE G [89, 93, 94, 96, 90, 85, 86] s.heap.size) s.heap H724 locsH724 → (0 ≤ x727.toInt ∧ x727.toInt ≤ 1) → (0 ≤ x728.toInt ∧ x728.toInt ≤ 8) → (tq = fR H724 a0 (K.1.2 3 6)) → (∀ j : Nat, fI H724 tq j = fI s.heap tq j) → (8 - x728.toInt < (nf : Int)) → W p l e ({ frames := 5, cells := 0, slots := 0, locals := 120 } : Room) s m (([.ref a0, .int x1, .int x2] : List Value).toArray) below meth c H724 locsH724 0 0 Q (F0 m 28 ls725 []) := by
      intro nf
      induction nf with
      | zero =>
        intro ls725 H724 locsH724 x727 x728 hl726 hTH724 hSH724 bx727 bx728 cy729_0 fy729_all hm28
        exfalso
        omega
      | succ nf ih28 =>
        intro ls725 H724 locsH724 x727 x728 hl726 hTH724 hSH724 bx727 bx728 cy729_0 fy729_all hm28
        have J89 : ∀ (ls731 : Array Slot) (H730 : Heap) (locsH730 : List Loc) , lv_has ls731 5 [(0, .ref a0), (1, .int x1), (2, .int x2), (3, .int x727), (4, .int x728)] → TY K G H730 → va_S (AE G [89, 93, 94, 96, 90, 85, 86] s.heap.size) s.heap H730 locsH730 → (0 ≤ x728.toInt ∧ x728.toInt ≤ 7) → (tq = fR H730 a0 (K.1.2 3 6)) → (∀ j : Nat, fI H730 tq j = fI s.heap tq j) → W p l e ({ frames := 5, cells := 0, slots := 0, locals := 120 } : Room) s m (([.ref a0, .int x1, .int x2] : List Value).toArray) below meth c H730 locsH730 0 0 Q (F0 m 89 ls731 []) := by
          intro ls731 H730 locsH730  hl732 hTH730 hSH730 b733 cy734_0 fy734_all
          obtain ⟨x735, ex735⟩ : ∃ y : Int32, y = x728 + 1 := ⟨_, rfl⟩
          have tx735 := i_add ex735 (by omega)
          refine lv_iinc (v := x735) (lv' := [(4, .int x735), (0, .ref a0), (1, .int x1), (2, .int x2), (3, .int x727)]) hx hb dX3_goOn_89 hl732 (k := 4) rfl (by rw [ex735]; rfl) (by decide) rfl (fun ls736 hl737 => ?_)
          refine lv_goto (tgt := 28) hx hb dX3_goOn_92 (by decide) ?_
          exact ih28 ls736 H730 locsH730 (x727) (x735) (lv_sub hl737 [1, 2, 3, 4, 0] rfl) hTH730 hSH730 (by have := i_rng x727; omega) (by have := i_rng x735; omega) cy734_0 fy734_all (by omega)
        have J87 : ∀ (ls739 : Array Slot) (H738 : Heap) (locsH738 : List Loc) , lv_has ls739 5 [] → TY K G H738 → va_S (AE G [89, 93, 94, 96, 90, 85, 86] s.heap.size) s.heap H738 locsH738 → (tq = fR H738 a0 (K.1.2 3 6)) → (∀ j : Nat, fI H738 tq j = fI s.heap tq j) → W p l e ({ frames := 5, cells := 0, slots := 0, locals := 120 } : Room) s m (([.ref a0, .int x1, .int x2] : List Value).toArray) below meth c H738 locsH738 0 0 Q (F0 m 87 ls739 []) := by
          intro ls739 H738 locsH738  hl740 hTH738 hSH738 cy741_0 fy741_all
          refine lv_iconst (v := 1) hx hb dX3_goOn_87 (by decide) ?_
          exact x_zret C hQ (Or.inr rfl) dX3_goOn_88 hSH738 (by decide) (by decide) (⟨1, rfl, by decide, cy741_0, fy741_all, hTH738⟩)
        refine lv_iload hx hb dX3_goOn_28 (lv_at hl726 4 rfl) ?_
        refine lv_aload_n hx hb dX3_goOn_30 rfl (lv_at hl726 0 rfl) ?_
        refine x_gi C hTH724 (ci := 3) (k := 9) rfl inX3 (by decide) wF_X3_55 ga0 rg_89 rfl dX3_goOn_31 (fun x742 ex742 bx742 => ?_)
        refine lv_icmp_ge (tgt := 95) hx hb dX3_goOn_34 (by decide) (fun c743 => ?_) (fun c743 => ?_)
        · have k744 := i_le c743
          refine lv_iconst (v := 0) hx hb dX3_goOn_95 (by decide) ?_
          exact x_zret C hQ (Or.inl rfl) dX3_goOn_96 hSH724 (by decide) (by decide) (⟨0, rfl, by decide, cy729_0, fy729_all, hTH724⟩)
        · have k744 := i_nle c743
          refine lv_aload_n hx hb dX3_goOn_37 rfl (lv_at hl726 0 rfl) ?_
          refine x_gr C hTH724 (ci := 3) (k := 6) rfl inX3 (by decide) wF_X3_30 ga0 rg_89 rfl dX3_goOn_38 (fun q745 eq745 gq745 => ?_)
          have uq745 : tq = q745 := (cy729_0).trans eq745.symm
          subst uq745
          refine lv_iload hx hb dX3_goOn_41 (lv_at hl726 4 rfl) ?_
          refine x_ai C hTH724 gtq rg_96 ⟨by omega, by show _ < ((8 : Nat) : Int); omega⟩ dX3_goOn_43 (fun x746 ex746 bx746 => ?_)
          refine lv_aload_n hx hb dX3_goOn_44 rfl (lv_at hl726 0 rfl) ?_
          refine x_gr C hTH724 (ci := 3) (k := 7) rfl inX3 (by decide) wF_X3_33 ga0 rg_89 rfl dX3_goOn_45 (fun q747 eq747 gq747 => ?_)
          refine lv_iload hx hb dX3_goOn_48 (lv_at hl726 4 rfl) ?_
          refine x_ai C hTH724 gq747 rg_97 ⟨by omega, by show _ < ((8 : Nat) : Int); omega⟩ dX3_goOn_50 (fun x748 ex748 bx748 => ?_)
          refine lv_icmp_ge (tgt := 89) hx hb dX3_goOn_51 (by decide) (fun c749 => ?_) (fun c749 => ?_)
          · have k750 := i_le c749
            exact J89 ls725 H724 locsH724 (lv_sub hl726 [0, 1, 2, 3, 4] rfl) hTH724 hSH724 (by have := i_rng x728; omega) cy729_0 fy729_all
          · have k750 := i_nle c749
            refine lv_aload_n hx hb dX3_goOn_54 rfl (lv_at hl726 0 rfl) ?_
            refine lv_iload hx hb dX3_goOn_55 (lv_at hl726 4 rfl) ?_
            refine lv_iload_n hx hb dX3_goOn_57 rfl (lv_at hl726 3 rfl) ?_
            refine x_V (As := [.int x728, .int x727]) (rest := []) C (a_X3_isNearBehind l K G H724 (x728) (x727) (x746) hTH724 ga0 (by omega) (by omega) gtq cy729_0 ex746 (by omega)) yo_X3_isNearBehind wM_X3_101 ⟨⟨by decide, by decide⟩, by decide, by decide⟩ (x_rv C hTH724 (ci := 3) rfl ga0 rg_89) rfl hl726.1 rfl (Nat.le_of_ble_eq_true rfl) dX3_goOn_58 hSH724 (AE_sub (fun _ _ => rfl) (by decide) hSH724.1) (fun vH751 H751 locsH751 pH751 zH751 kH751 hSH751 => ?_)
            obtain ⟨x752, hvH751, bx752, hTH751⟩ := pH751
            subst hvH751
            have f753 : ∀ j : Nat, fI H751 tq j = fI s.heap tq j := fun j => (fI_kept (x_lt hTH724 kH751 gtq (by decide))).trans (fy729_all j)
            have m754 := (cy729_0).trans (fR_kept (x_lt hTH724 kH751 ga0 (by decide))).symm
            have m755 := (ex742).trans (fI_kept (x_lt hTH724 kH751 ga0 (by decide))).symm
            have m756 := (ex746).trans (fI_kept (x_lt hTH724 kH751 gtq (by decide))).symm
            have m757 := (eq747).trans (fR_kept (x_lt hTH724 kH751 ga0 (by decide))).symm
            have m758 := (ex748).trans (fI_kept (x_lt hTH724 kH751 gq747 (by decide))).symm
            refine W.eq (g2 := F0 m 61 ls725 [.int x752]) rfl ?_
            refine lv_if_eq (tgt := 89) hx hb dX3_goOn_61 (by decide) (fun c759 => ?_) (fun c759 => ?_)
            · have k760 := i_eq c759
              exact J89 ls725 H751 locsH751 (lv_sub hl726 [0, 1, 2, 3, 4] rfl) hTH751 hSH751 (by have := i_rng x728; omega) m754 f753
            · have k760 := i_ne c759
              refine lv_aload_n hx hb dX3_goOn_64 rfl (lv_at hl726 0 rfl) ?_
              refine x_gr C hTH751 (ci := 3) (k := 0) rfl inX3 (by decide) wF_X3_11 ga0 rg_89 rfl dX3_goOn_65 (fun q761 eq761 gq761 => ?_)
              refine lv_iload_n hx hb dX3_goOn_68 rfl (lv_at hl726 1 rfl) ?_
              refine lv_iload hx hb dX3_goOn_69 (lv_at hl726 4 rfl) ?_
              refine x_iast C hTH751 hSH751 gq761 rg_90 (by omega) (by show _ < ((5 : Nat) : Int); omega) ⟨by have := i_rng x728; omega, by have := i_rng x728; omega⟩ (AE_in gq761 (by decide)) dX3_goOn_71 (fun H762 locsH762 hTH762 hSH762 wH762 => ?_)
              have f763 : ∀ j : Nat, fI H762 tq j = fI s.heap tq j := fun j => (Wr.neI wH762 (Or.inl (G_ne gtq gq761 (by decide)))).trans (f753 j)
              have m764 := m754.trans (Wr.neR wH762 (Or.inl (G_ne ga0 gq761 (by decide)))).symm
              have m765 := m755.trans (Wr.neI wH762 (Or.inl (G_ne ga0 gq761 (by decide)))).symm
              have m766 := m756.trans (Wr.neI wH762 (Or.inl (G_ne gtq gq761 (by decide)))).symm
              have m767 := m757.trans (Wr.neR wH762 (Or.inl (G_ne ga0 gq761 (by decide)))).symm
              have m768 := m758.trans (Wr.neI wH762 (Or.inl (G_ne gq747 gq761 (by decide)))).symm
              have m769 := eq761.trans (Wr.neR wH762 (Or.inl (G_ne ga0 gq761 (by decide)))).symm
              have m770 := Wr.I wH762
              have m770 := m770.symm
              refine lv_iload_n hx hb dX3_goOn_72 rfl (lv_at hl726 3 rfl) ?_
              refine lv_if_ne (tgt := 87) hx hb dX3_goOn_73 (by decide) (fun c771 => ?_) (fun c771 => ?_)
              · have k772 := i_ne c771
                exact J87 ls725 H762 locsH762 (lv_sub hl726 [] rfl) hTH762 hSH762 m764 f763
              · have k772 := i_eq c771
                refine lv_aload_n hx hb dX3_goOn_76 rfl (lv_at hl726 0 rfl) ?_
                refine lv_iload hx hb dX3_goOn_77 (lv_at hl726 4 rfl) ?_
                refine lv_iload_n hx hb dX3_goOn_79 rfl (lv_at hl726 1 rfl) ?_
                refine lv_iload_n hx hb dX3_goOn_80 rfl (lv_at hl726 2 rfl) ?_
                refine x_V (As := [.int x728, .int x1, .int x2]) (rest := []) C (a_X3_isReached_3 l K G H762 (x728) (x1) (x2) (x746) hTH762 ga0 (by omega) (by omega) gtq m764 m766 (by omega)) yo_X3_isReached wM_X3_105 ⟨⟨by decide, by decide⟩, by decide, by decide⟩ (x_rv C hTH762 (ci := 3) rfl ga0 rg_89) rfl hl726.1 rfl (Nat.le_of_ble_eq_true rfl) dX3_goOn_81 hSH762 (AE_sub (fun _ _ => rfl) (by decide) hSH762.1) (fun vH773 H773 locsH773 pH773 zH773 kH773 hSH773 => ?_)
                obtain ⟨x774, x775, hvH773, bx774, ex775, m776, m777, hTH773⟩ := pH773
                subst hvH773
                have m778 := (m768).trans (fI_kept (x_lt hTH762 kH773 gq747 (by decide))).symm
                have bx775 := ty_ai (x := x775) ex775 hTH773 gtq rg_96 (by omega)
                have f779 : ∀ j : Nat, fI H773 tq j = fI s.heap tq j := fun j => (m777 j).trans (f763 j)
                refine W.eq (g2 := F0 m 84 ls725 [.int x774]) rfl ?_
                refine lv_if_eq (tgt := 89) hx hb dX3_goOn_84 (by decide) (fun c780 => ?_) (fun c780 => ?_)
                · have k781 := i_eq c780
                  exact J89 ls725 H773 locsH773 (lv_sub hl726 [0, 1, 2, 3, 4] rfl) hTH773 hSH773 (by have := i_rng x728; omega) m776 f779
                · have k781 := i_ne c780
                  exact J87 ls725 H773 locsH773 (lv_sub hl726 [] rfl) hTH773 hSH773 m776 f779
    refine lv_istore_n (lv' := [(3, .int x722), (0, .ref a0), (1, .int x1), (2, .int x2)]) hx hb dX3_goOn_24 rfl hl719 (by decide) rfl (fun ls782 hl783 => ?_)
    refine lv_iconst (v := 0) hx hb dX3_goOn_25 (by decide) ?_
    refine lv_istore (lv' := [(4, .int 0), (3, .int x722), (0, .ref a0), (1, .int x1), (2, .int x2)]) hx hb dX3_goOn_26 hl783 (by decide) rfl (fun ls784 hl785 => ?_)
    exact J28 ((8 - (0 : Int32).toInt).toNat + 1) ls784 H717 locsH717 (x722) (0) (lv_sub hl785 [2, 3, 4, 1, 0] rfl) hTH717 hSH717 (by have := i_rng x722; omega) (by decide) cy723_0 fy723_all (by omega)
  refine lv_iload_n hx hb dX3_goOn_0 rfl (lv_at hl 1 rfl) ?_
  refine lv_iload_n hx hb dX3_goOn_1 rfl (lv_at hl 2 rfl) ?_
  refine lv_icmp_ge (tgt := 10) hx hb dX3_goOn_2 (by decide) (fun c786 => ?_) (fun c786 => ?_)
  · have k787 := i_le c786
    exact J10 ls s.heap [] (lv_sub hl [] rfl) hT hS etq f0_all
  · have k787 := i_nle c786
    refine lv_iload_n hx hb dX3_goOn_5 rfl (lv_at hl 1 rfl) ?_
    refine lv_iconst (v := 5) hx hb dX3_goOn_6 (by decide) ?_
    refine lv_icmp_lt (tgt := 12) hx hb dX3_goOn_7 (by decide) (fun c788 => ?_) (fun c788 => ?_)
    · have k789 := i_lt c788
      refine lv_iload_n hx hb dX3_goOn_12 rfl (lv_at hl 1 rfl) ?_
      refine lv_iconst (v := 1) hx hb dX3_goOn_13 (by decide) ?_
      refine lv_iadd hx hb dX3_goOn_14 ?_
      refine lv_topi (fun x790 ex790 => ?_)
      have tx790 := i_add ex790 (by omega)
      refine lv_iload_n hx hb dX3_goOn_15 rfl (lv_at hl 2 rfl) ?_
      refine lv_icmp_ne (tgt := 23) hx hb dX3_goOn_16 (by decide) (fun c791 => ?_) (fun c791 => ?_)
      · have k792 := i_ne c791
        refine lv_iconst (v := 0) hx hb dX3_goOn_23 (by decide) ?_
        exact J24 ls s.heap [] (0) (lv_sub hl [0, 1, 2] rfl) hT hS (by have := i_rng x1; omega) (by have := i_rng x2; omega) (by decide) etq f0_all
      · have k792 := i_eq c791
        refine lv_iconst (v := 1) hx hb dX3_goOn_19 (by decide) ?_
        refine lv_goto (tgt := 24) hx hb dX3_goOn_20 (by decide) ?_
        exact J24 ls s.heap [] (1) (lv_sub hl [0, 1, 2] rfl) hT hS (by have := i_rng x1; omega) (by have := i_rng x2; omega) (by decide) etq f0_all
    · have k789 := i_nlt c788
      exact J10 ls s.heap [] (lv_sub hl [] rfl) hT hS etq f0_all

set_option maxHeartbeats 4000000 in
set_option maxRecDepth 100000 in
theorem a_X3_isReached_2 (l : Launch) (K : KE) (G : Nat → Option Nat) (H : Heap) {a0 : Nat} (x1 : Int32) (x2 : Int32) (x3 : Int32) {tq : Nat} (tk : Int32) (hT : TY K G H) (ga0 : G a0 = some 89) (hx1 : 0 ≤ x1.toInt ∧ x1.toInt ≤ 7) (hx2 : 2 ≤ x2.toInt ∧ x2.toInt ≤ 4) (gtq : G tq = some 96) (etq : tq = fR H a0 (K.1.2 3 6)) (etk : tk = fI H tq (x1 : Int32).toNatClampNeg) (hp0 : tk.toInt ≤ 4) : MX l K yX3_isReached cX3_isReached 5 (some .boolean) 6 144 0 0 [.ref a0, .int x1, .int x2, .int x3] H (AE G [89, 93, 94, 96, 90, 85, 86] H.size) (fun v H1 => ∃ (r : Int32) (t0 : Int32), v = some (.int r) ∧ (0 ≤ r.toInt ∧ r.toInt ≤ 1) ∧ t0 = fI H1 tq (x1 : Int32).toNatClampNeg ∧ tq = fR H1 a0 (K.1.2 3 6) ∧ (∀ j : Nat, fI H1 tq j = fI H tq j) ∧ TY K G H1) := by
  refine MX.of (by decide +kernel) (Nat.le_of_ble_eq_true rfl) ?_
  intro p e s m below meth c ls Q C hH hl hQ
  subst hH
  have C : CX p K s m _ meth c RX3 cX3_isReached 5 (some .boolean) "isReached" := C
  obtain ⟨hx, hb, hml, hown, hts, hKT, hr, hlocks, hnm⟩ := id C
  have hl : lv_has ls 5 [(0, .ref a0), (1, .int x1), (2, .int x2), (3, .int x3)] := hl
  have hS : va_S (AE G [89, 93, 94, 96, 90, 85, 86] s.heap.size) s.heap s.heap [] := va_S.rf
  have n_m1 : ((-1) : Int32).toInt = -1 := rfl
  have n_0 : (0 : Int32).toInt = 0 := rfl
  have n_1 : (1 : Int32).toInt = 1 := rfl
  have btk := ty_ai (x := tk) etk hT gtq rg_96 (by omega)
  have f0_oth : ∀ j : Nat, j ≠ x1.toNatClampNeg → fI s.heap tq j = fI s.heap tq j := fun _ _ => rfl
  have J36 : ∀ (ls251 : Array Slot) (H250 : Heap) (locsH250 : List Loc) (x253 : Int32) (x254 : Int32), lv_has ls251 5 [(0, .ref a0), (1, .int x1)] → TY K G H250 → va_S (AE G [89, 93, 94, 96, 90, 85, 86] s.heap.size) s.heap H250 locsH250 → (0 ≤ x253.toInt ∧ x253.toInt ≤ 1) → (0 ≤ x254.toInt ∧ x254.toInt ≤ 5) → (x254 = fI H250 tq (x1 : Int32).toNatClampNeg) → (tq = fR H250 a0 (K.1.2 3 6)) → (∀ j : Nat, j ≠ x1.toNatClampNeg → fI H250 tq j = fI s.heap tq j) → (x254.toInt = tk.toInt + 1) → W p l e ({ frames := 6, cells := 0, slots := 0, locals := 144 } : Room) s m (([.ref a0, .int x1, .int x2, .int x3] : List Value).toArray) below meth c H250 locsH250 0 0 Q (F0 m 36 ls251 [.int x253]) := by
    intro ls251 H250 locsH250 x253 x254 hl252 hTH250 hSH250 bx253 bx254 ex254 cy255_0 fy255_oth iv36
    refine lv_istore (lv' := [(4, .int x253), (0, .ref a0), (1, .int x1)]) hx hb dX3_isReached_36 hl252 (by decide) rfl (fun ls256 hl257 => ?_)
    refine lv_aload_n hx hb dX3_isReached_38 rfl (lv_at hl257 1 rfl) ?_
    refine lv_iload_n hx hb dX3_isReached_39 rfl (lv_at hl257 2 rfl) ?_
    refine lv_iconst (v := (-1)) hx hb dX3_isReached_40 (by decide) ?_
    refine x_V (As := [.int x1, .int (-1)]) (rest := []) C (a_X3_move_m l K G H250 (x1) ((-1)) (x254) hTH250 ga0 (by omega) (by decide) gtq cy255_0 ex254 (by omega)) yo_X3_move wM_X3_109 ⟨⟨by decide, by decide⟩, by decide, by decide⟩ (x_rv C hTH250 (ci := 3) rfl ga0 rg_89) rfl hl257.1 rfl (Nat.le_of_ble_eq_true rfl) dX3_isReached_41 hSH250 (AE_sub (fun _ _ => rfl) (by decide) hSH250.1) (fun vH258 H258 locsH258 pH258 zH258 kH258 hSH258 => ?_)
    obtain ⟨x259, hvH258, ex259, hrH258, m260, m261, hTH258⟩ := pH258
    subst hvH258
    have bx259 := ty_ai (x := x259) ex259 hTH258 gtq rg_96 (by omega)
    have f262 : ∀ j : Nat, j ≠ x1.toNatClampNeg → fI H258 tq j = fI s.heap tq j := fun j hj => (m261 j hj).trans (fy255_oth j hj)
    refine W.eq (g2 := F0 m 44 ls256 []) rfl ?_
    refine lv_iload hx hb dX3_isReached_44 (lv_at hl257 0 rfl) ?_
    exact x_zret C hQ (i_01 (by omega)) dX3_isReached_46 hSH258 (by decide) (by decide) (⟨x253, x259, rfl, by omega, ex259, m260, af_same ex259 etk (by omega) f262, hTH258⟩)
  have J35 : ∀ (ls264 : Array Slot) (H263 : Heap) (locsH263 : List Loc) (x266 : Int32), lv_has ls264 5 [(0, .ref a0), (1, .int x1)] → TY K G H263 → va_S (AE G [89, 93, 94, 96, 90, 85, 86] s.heap.size) s.heap H263 locsH263 → (0 ≤ x266.toInt ∧ x266.toInt ≤ 5) → (x266 = fI H263 tq (x1 : Int32).toNatClampNeg) → (tq = fR H263 a0 (K.1.2 3 6)) → (∀ j : Nat, j ≠ x1.toNatClampNeg → fI H263 tq j = fI s.heap tq j) → (x266.toInt = tk.toInt + 1) → W p l e ({ frames := 6, cells := 0, slots := 0, locals := 144 } : Room) s m (([.ref a0, .int x1, .int x2, .int x3] : List Value).toArray) below meth c H263 locsH263 0 0 Q (F0 m 35 ls264 []) := by
    intro ls264 H263 locsH263 x266 hl265 hTH263 hSH263 bx266 ex266 cy267_0 fy267_oth iv35
    refine lv_iconst (v := 0) hx hb dX3_isReached_35 (by decide) ?_
    exact J36 ls264 H263 locsH263 (0) (x266) (lv_sub hl265 [0, 1] rfl) hTH263 hSH263 (by decide) (by have := i_rng x266; omega) ex266 cy267_0 fy267_oth (by omega)
  refine lv_aload_n hx hb dX3_isReached_0 rfl (lv_at hl 0 rfl) ?_
  refine lv_iload_n hx hb dX3_isReached_1 rfl (lv_at hl 1 rfl) ?_
  refine lv_iconst (v := 1) hx hb dX3_isReached_2 (by decide) ?_
  refine x_V (As := [.int x1, .int 1]) (rest := []) C (a_X3_move_p l K G s.heap (x1) (1) (tk) hT ga0 (by omega) (by decide) gtq etq etk (by omega)) yo_X3_move wM_X3_109 ⟨⟨by decide, by decide⟩, by decide, by decide⟩ (x_rv C hT (ci := 3) rfl ga0 rg_89) rfl hl.1 rfl (Nat.le_of_ble_eq_true rfl) dX3_isReached_3 hS (AE_sub (fun _ _ => rfl) (by decide) hS.1) (fun vH268 H268 locsH268 pH268 zH268 kH268 hSH268 => ?_)
  obtain ⟨x269, hvH268, ex269, hrH268, m270, m271, hTH268⟩ := pH268
  subst hvH268
  have bx269 := ty_ai (x := x269) ex269 hTH268 gtq rg_96 (by omega)
  have f272 : ∀ j : Nat, j ≠ x1.toNatClampNeg → fI H268 tq j = fI s.heap tq j := fun j hj => (m271 j hj).trans (f0_oth j hj)
  refine W.eq (g2 := F0 m 6 ls []) rfl ?_
  refine lv_aload_n hx hb dX3_isReached_6 rfl (lv_at hl 0 rfl) ?_
  refine x_gr C hTH268 (ci := 3) (k := 8) rfl inX3 (by decide) wF_X3_39 ga0 rg_89 rfl dX3_isReached_7 (fun q273 eq273 gq273 => ?_)
  refine lv_aload_n hx hb dX3_isReached_10 rfl (lv_at hl 0 rfl) ?_
  refine x_gi C hTH268 (ci := 3) (k := 11) rfl inX3 (by decide) wF_X3_59 ga0 rg_89 rfl dX3_isReached_11 (fun x274 ex274 bx274 => ?_)
  refine x_V (As := [.int x274]) (rest := []) C (a_X2_add_met l K G H268 (x274) hTH268 gq273) yo_X2_add wM_X3_113 ⟨⟨by decide, by decide⟩, by decide, by decide⟩ (x_rv C hTH268 (ci := 2) rfl gq273 rg_85) rfl hl.1 rfl (Nat.le_of_ble_eq_true rfl) dX3_isReached_14 hSH268 (AE_sub (fun _ _ => rfl) (by decide) hSH268.1) (fun vH275 H275 locsH275 pH275 zH275 kH275 hSH275 => ?_)
  obtain ⟨x276, hvH275, bx276, hTH275⟩ := pH275
  subst hvH275
  have f277 : ∀ j : Nat, j ≠ x1.toNatClampNeg → fI H275 tq j = fI s.heap tq j := fun j hj => (fI_kept (x_lt hTH268 kH275 gtq (by decide))).trans (f272 j hj)
  have m278 := (m270).trans (fR_kept (x_lt hTH268 kH275 ga0 (by decide))).symm
  have m279 := (ex269).trans (fI_kept (x_lt hTH268 kH275 gtq (by decide))).symm
  have m280 := (eq273).trans (fR_kept (x_lt hTH268 kH275 ga0 (by decide))).symm
  have m281 := (ex274).trans (fI_kept (x_lt hTH268 kH275 ga0 (by decide))).symm
  refine W.eq (g2 := F0 m 17 ls [.int x276]) rfl ?_
  refine lv_if_eq (tgt := 35) hx hb dX3_isReached_17 (by decide) (fun c282 => ?_) (fun c282 => ?_)
  · have k283 := i_eq c282
    exact J35 ls H275 locsH275 (x269) (lv_sub hl [0, 1] rfl) hTH275 hSH275 (by have := i_rng x269; omega) m279 m278 f277 (by omega)
  · have k283 := i_ne c282
    refine lv_aload_n hx hb dX3_isReached_20 rfl (lv_at hl 0 rfl) ?_
    refine lv_iload_n hx hb dX3_isReached_21 rfl (lv_at hl 2 rfl) ?_
    refine lv_iconst (v := 1) hx hb dX3_isReached_22 (by decide) ?_
    refine lv_iadd hx hb dX3_isReached_23 ?_
    refine lv_topi (fun x284 ex284 => ?_)
    have tx284 := i_add ex284 (by omega)
    refine lv_iload_n hx hb dX3_isReached_24 rfl (lv_at hl 3 rfl) ?_
    refine x_V (As := [.int x284, .int x3]) (rest := []) C (a_X3_goOn_3 l K G H275 (x284) (x3) hTH275 ga0 (by omega) gtq m278) yo_X3_goOn wM_X3_97 ⟨⟨by decide, by decide⟩, by decide, by decide⟩ (x_rv C hTH275 (ci := 3) rfl ga0 rg_89) rfl hl.1 rfl (Nat.le_of_ble_eq_true rfl) dX3_isReached_25 hSH275 (AE_sub (fun _ _ => rfl) (by decide) hSH275.1) (fun vH285 H285 locsH285 pH285 zH285 kH285 hSH285 => ?_)
    obtain ⟨x286, hvH285, bx286, m287, m288, hTH285⟩ := pH285
    subst hvH285
    have m289 := (m279).trans (m288 _).symm
    have f290 : ∀ j : Nat, j ≠ x1.toNatClampNeg → fI H285 tq j = fI s.heap tq j := fun j hj => (m288 j).trans (f277 j hj)
    refine W.eq (g2 := F0 m 28 ls [.int x286]) rfl ?_
    refine lv_if_eq (tgt := 35) hx hb dX3_isReached_28 (by decide) (fun c291 => ?_) (fun c291 => ?_)
    · have k292 := i_eq c291
      exact J35 ls H285 locsH285 (x269) (lv_sub hl [0, 1] rfl) hTH285 hSH285 (by have := i_rng x269; omega) m289 m287 f290 (by omega)
    · have k292 := i_ne c291
      refine lv_iconst (v := 1) hx hb dX3_isReached_31 (by decide) ?_
      refine lv_goto (tgt := 36) hx hb dX3_isReached_32 (by decide) ?_
      exact J36 ls H285 locsH285 (1) (x269) (lv_sub hl [0, 1] rfl) hTH285 hSH285 (by decide) (by have := i_rng x269; omega) m289 m287 f290 (by omega)

set_option maxHeartbeats 4000000 in
set_option maxRecDepth 100000 in
theorem a_X3_goOn_2 (l : Launch) (K : KE) (G : Nat → Option Nat) (H : Heap) {a0 : Nat} (x1 : Int32) (x2 : Int32) {tq : Nat} (hT : TY K G H) (ga0 : G a0 = some 89) (hx1 : 2 ≤ x1.toInt ∧ x1.toInt ≤ 5) (gtq : G tq = some 96) (etq : tq = fR H a0 (K.1.2 3 6)) : MX l K yX3_goOn cX3_goOn 5 (some .boolean) 7 168 0 0 [.ref a0, .int x1, .int x2] H (AE G [89, 93, 94, 96, 90, 85, 86] H.size) (fun v H1 => ∃ (r : Int32), v = some (.int r) ∧ (0 ≤ r.toInt ∧ r.toInt ≤ 1) ∧ tq = fR H1 a0 (K.1.2 3 6) ∧ (∀ j : Nat, fI H1 tq j = fI H tq j) ∧ TY K G H1) := by
  refine MX.of (by decide +kernel) (Nat.le_of_ble_eq_true rfl) ?_
  intro p e s m below meth c ls Q C hH hl hQ
  subst hH
  have C : CX p K s m _ meth c RX3 cX3_goOn 5 (some .boolean) "goOn" := C
  obtain ⟨hx, hb, hml, hown, hts, hKT, hr, hlocks, hnm⟩ := id C
  have hl : lv_has ls 5 [(0, .ref a0), (1, .int x1), (2, .int x2)] := hl
  have hS : va_S (AE G [89, 93, 94, 96, 90, 85, 86] s.heap.size) s.heap s.heap [] := va_S.rf
  have n_0 : (0 : Int32).toInt = 0 := rfl
  have n_1 : (1 : Int32).toInt = 1 := rfl
  have n_5 : (5 : Int32).toInt = 5 := rfl
  have f0_all : ∀ j : Nat, fI s.heap tq j = fI s.heap tq j := fun _ => rfl
  have J10 : ∀ (ls714 : Array Slot) (H713 : Heap) (locsH713 : List Loc) , lv_has ls714 5 [] → TY K G H713 → va_S (AE G [89, 93, 94, 96, 90, 85, 86] s.heap.size) s.heap H713 locsH713 → (tq = fR H713 a0 (K.1.2 3 6)) → (∀ j : Nat, fI H713 tq j = fI s.heap tq j) → W p l e ({ frames := 7, cells := 0, slots := 0, locals := 168 } : Room) s m (([.ref a0, .int x1, .int x2] : List Value).toArray) below meth c H713 locsH713 0 0 Q (F0 m 10 ls714 []) := by
    intro ls714 H713 locsH713  hl715 hTH713 hSH713 cy716_0 fy716_all
    refine lv_iconst (v := 0) hx hb dX3_goOn_10 (by decide) ?_
    exact x_zret C hQ (Or.inl rfl) dX3_goOn_11 hSH713 (by decide) (by decide) (⟨0, rfl, by decide, cy716_0, fy716_all, hTH713⟩)
  have J24 : ∀ (ls718 : Array Slot) (H717 : Heap) (locsH717 : List Loc) (x722 : Int32), lv_has ls718 5 [(0, .ref a0), (1, .int x1), (2, .int x2)] → TY K G H717 → va_S (AE G [89, 93, 94, 96, 90, 85, 86] s.heap.size) s.heap H717 locsH717 → (2 ≤ x1.toInt ∧ x1.toInt ≤ 4) → (3 ≤ x2.toInt ∧ x2.toInt ≤ 2147483647) → (0 ≤ x722.toInt ∧ x722.toInt ≤ 1) → (tq = fR H717 a0 (K.1.2 3 6)) → (∀ j : Nat, fI H717 tq j = fI s.heap tq j) → W p l e ({ frames := 7, cells := 0, slots := 0, locals := 168 } : Room) s m (([.ref a0, .int x1, .int x2] : List Value).toArray) below meth c H717 locsH717 0 0 Q (F0 m 24 ls718 [.int x722]) := by
    intro ls718 H717 locsH717 x722 hl719 hTH717 hSH717 b720 b721 bx722 cy723_0 fy723_all
    have J28 : ∀ (nf : Nat) (ls725 : Array Slot) (H724 : Heap) (locsH724 : List Loc) (x727 : Int32) (x728 : Int32), lv_has ls725 5 [(0, .ref a0), (1, .int x1), (2, .int x2), (3, .int x727), (4, .int x728)] → TY K G H724 → va_S (AE G [89, 93, 94, 96, 90, 85, 86] s.heap.size) s.heap H724 locsH724 → (0 ≤ x727.toInt ∧ x727.toInt ≤ 1) → (0 ≤ x728.toInt ∧ x728.toInt ≤ 8) → (tq = fR H724 a0 (K.1.2 3 6)) → (∀ j : Nat, fI H724 tq j = fI s.heap tq j) → (8 - x728.toInt < (nf : Int)) → W p l e ({ frames := 7, cells := 0, slots := 0, locals := 168 } : Room) s m (([.ref a0, .int x1, .int x2] : List Value).toArray) below meth c H724 locsH724 0 0 Q (F0 m 28 ls725 []) := by
      intro nf
      induction nf with
      | zero =>
        intro ls725 H724 locsH724 x727 x728 hl726 hTH724 hSH724 bx727 bx728 cy729_0 fy729_all hm28
        exfalso
        omega
      | succ nf ih28 =>
        intro ls725 H724 locsH724 x727 x728 hl726 hTH724 hSH724 bx727 bx728 cy729_0 fy729_all hm28
        have J89 : ∀ (ls731 : Array Slot) (H730 : Heap) (locsH730 : List Loc) , lv_has ls731 5 [(0, .ref a0), (1, .int x1), (2, .int x2), (3, .int x727), (4, .int x728)] → TY K G H730 → va_S (AE G [89, 93, 94, 96, 90, 85, 86] s.heap.size) s.heap H730 locsH730 → (0 ≤ x728.toInt ∧ x728.toInt ≤ 7) → (tq = fR H730 a0 (K.1.2 3 6)) → (∀ j : Nat, fI H730 tq j = fI s.heap tq j) → W p l e ({ frames := 7, cells := 0, slots := 0, locals := 168 } : Room) s m (([.ref a0, .int x1, .int x2] : List Value).toArray) below meth c H730 locsH730 0 0 Q (F0 m 89 ls731 []) := by
          intro ls731 H730 locsH730  hl732 hTH730 hSH730 b733 cy734_0 fy734_all
          obtain ⟨x735, ex735⟩ : ∃ y : Int32, y = x728 + 1 := ⟨_, rfl⟩
          have tx735 := i_add ex735 (by omega)
          refine lv_iinc (v := x735) (lv' := [(4, .int x735), (0, .ref a0), (1, .int x1), (2, .int x2), (3, .int x727)]) hx hb dX3_goOn_89 hl732 (k := 4) rfl (by rw [ex735]; rfl) (by decide) rfl (fun ls736 hl737 => ?_)
          refine lv_goto (tgt := 28) hx hb dX3_goOn_92 (by decide) ?_
          exact ih28 ls736 H730 locsH730 (x727) (x735) (lv_sub hl737 [1, 2, 3, 4, 0] rfl) hTH730 hSH730 (by have := i_rng x727; omega) (by have := i_rng x735; omega) cy734_0 fy734_all (by omega)
        have J87 : ∀ (ls739 : Array Slot) (H738 : Heap) (locsH738 : List Loc) , lv_has ls739 5 [] → TY K G H738 → va_S (AE G [89, 93, 94, 96, 90, 85, 86] s.heap.size) s.heap H738 locsH738 → (tq = fR H738 a0 (K.1.2 3 6)) → (∀ j : Nat, fI H738 tq j = fI s.heap tq j) → W p l e ({ frames := 7, cells := 0, slots := 0, locals := 168 } : Room) s m (([.ref a0, .int x1, .int x2] : List Value).toArray) below meth c H738 locsH738 0 0 Q (F0 m 87 ls739 []) := by
          intro ls739 H738 locsH738  hl740 hTH738 hSH738 cy741_0 fy741_all
          refine lv_iconst (v := 1) hx hb dX3_goOn_87 (by decide) ?_
          exact x_zret C hQ (Or.inr rfl) dX3_goOn_88 hSH738 (by decide) (by decide) (⟨1, rfl, by decide, cy741_0, fy741_all, hTH738⟩)
        refine lv_iload hx hb dX3_goOn_28 (lv_at hl726 4 rfl) ?_
        refine lv_aload_n hx hb dX3_goOn_30 rfl (lv_at hl726 0 rfl) ?_
        refine x_gi C hTH724 (ci := 3) (k := 9) rfl inX3 (by decide) wF_X3_55 ga0 rg_89 rfl dX3_goOn_31 (fun x742 ex742 bx742 => ?_)
        refine lv_icmp_ge (tgt := 95) hx hb dX3_goOn_34 (by decide) (fun c743 => ?_) (fun c743 => ?_)
        · have k744 := i_le c743
          refine lv_iconst (v := 0) hx hb dX3_goOn_95 (by decide) ?_
          exact x_zret C hQ (Or.inl rfl) dX3_goOn_96 hSH724 (by decide) (by decide) (⟨0, rfl, by decide, cy729_0, fy729_all, hTH724⟩)
        · have k744 := i_nle c743
          refine lv_aload_n hx hb dX3_goOn_37 rfl (lv_at hl726 0 rfl) ?_
          refine x_gr C hTH724 (ci := 3) (k := 6) rfl inX3 (by decide) wF_X3_30 ga0 rg_89 rfl dX3_goOn_38 (fun q745 eq745 gq745 => ?_)
          have uq745 : tq = q745 := (cy729_0).trans eq745.symm
          subst uq745
          refine lv_iload hx hb dX3_goOn_41 (lv_at hl726 4 rfl) ?_
          refine x_ai C hTH724 gtq rg_96 ⟨by omega, by show _ < ((8 : Nat) : Int); omega⟩ dX3_goOn_43 (fun x746 ex746 bx746 => ?_)
          refine lv_aload_n hx hb dX3_goOn_44 rfl (lv_at hl726 0 rfl) ?_
          refine x_gr C hTH724 (ci := 3) (k := 7) rfl inX3 (by decide) wF_X3_33 ga0 rg_89 rfl dX3_goOn_45 (fun q747 eq747 gq747 => ?_)
          refine lv_iload hx hb dX3_goOn_48 (lv_at hl726 4 rfl) ?_
          refine x_ai C hTH724 gq747 rg_97 ⟨by omega, by show _ < ((8 : Nat) : Int); omega⟩ dX3_goOn_50 (fun x748 ex748 bx748 => ?_)
          refine lv_icmp_ge (tgt := 89) hx hb dX3_goOn_51 (by decide) (fun c749 => ?_) (fun c749 => ?_)
          · have k750 := i_le c749
            exact J89 ls725 H724 locsH724 (lv_sub hl726 [0, 1, 2, 3, 4] rfl) hTH724 hSH724 (by have := i_rng x728; omega) cy729_0 fy729_all
          · have k750 := i_nle c749
            refine lv_aload_n hx hb dX3_goOn_54 rfl (lv_at hl726 0 rfl) ?_
            refine lv_iload hx hb dX3_goOn_55 (lv_at hl726 4 rfl) ?_
            refine lv_iload_n hx hb dX3_goOn_57 rfl (lv_at hl726 3 rfl) ?_
            refine x_V (As := [.int x728, .int x727]) (rest := []) C (a_X3_isNearBehind l K G H724 (x728) (x727) (x746) hTH724 ga0 (by omega) (by omega) gtq cy729_0 ex746 (by omega)) yo_X3_isNearBehind wM_X3_101 ⟨⟨by decide, by decide⟩, by decide, by decide⟩ (x_rv C hTH724 (ci := 3) rfl ga0 rg_89) rfl hl726.1 rfl (Nat.le_of_ble_eq_true rfl) dX3_goOn_58 hSH724 (AE_sub (fun _ _ => rfl) (by decide) hSH724.1) (fun vH751 H751 locsH751 pH751 zH751 kH751 hSH751 => ?_)
            obtain ⟨x752, hvH751, bx752, hTH751⟩ := pH751
            subst hvH751
            have f753 : ∀ j : Nat, fI H751 tq j = fI s.heap tq j := fun j => (fI_kept (x_lt hTH724 kH751 gtq (by decide))).trans (fy729_all j)
            have m754 := (cy729_0).trans (fR_kept (x_lt hTH724 kH751 ga0 (by decide))).symm
            have m755 := (ex742).trans (fI_kept (x_lt hTH724 kH751 ga0 (by decide))).symm
            have m756 := (ex746).trans (fI_kept (x_lt hTH724 kH751 gtq (by decide))).symm
            have m757 := (eq747).trans (fR_kept (x_lt hTH724 kH751 ga0 (by decide))).symm
            have m758 := (ex748).trans (fI_kept (x_lt hTH724 kH751 gq747 (by decide))).symm
            refine W.eq (g2 := F0 m 61 ls725 [.int x752]) rfl ?_
            refine lv_if_eq (tgt := 89) hx hb dX3_goOn_61 (by decide) (fun c759 => ?_) (fun c759 => ?_)
            · have k760 := i_eq c759
              exact J89 ls725 H751 locsH751 (lv_sub hl726 [0, 1, 2, 3, 4] rfl) hTH751 hSH751 (by have := i_rng x728; omega) m754 f753
            · have k760 := i_ne c759
              refine lv_aload_n hx hb dX3_goOn_64 rfl (lv_at hl726 0 rfl) ?_
              refine x_gr C hTH751 (ci := 3) (k := 0) rfl inX3 (by decide) wF_X3_11 ga0 rg_89 rfl dX3_goOn_65 (fun q761 eq761 gq761 => ?_)
              refine lv_iload_n hx hb dX3_goOn_68 rfl (lv_at hl726 1 rfl) ?_
              refine lv_iload hx hb dX3_goOn_69 (lv_at hl726 4 rfl) ?_
              refine x_iast C hTH751 hSH751 gq761 rg_90 (by omega) (by show _ < ((5 : Nat) : Int); omega) ⟨by have := i_rng x728; omega, by have := i_rng x728; omega⟩ (AE_in gq761 (by decide)) dX3_goOn_71 (fun H762 locsH762 hTH762 hSH762 wH762 => ?_)
              have f763 : ∀ j : Nat, fI H762 tq j = fI s.heap tq j := fun j => (Wr.neI wH762 (Or.inl (G_ne gtq gq761 (by decide)))).trans (f753 j)
              have m764 := m754.trans (Wr.neR wH762 (Or.inl (G_ne ga0 gq761 (by decide)))).symm
              have m765 := m755.trans (Wr.neI wH762 (Or.inl (G_ne ga0 gq761 (by decide)))).symm
              have m766 := m756.trans (Wr.neI wH762 (Or.inl (G_ne gtq gq761 (by decide)))).symm
              have m767 := m757.trans (Wr.neR wH762 (Or.inl (G_ne ga0 gq761 (by decide)))).symm
              have m768 := m758.trans (Wr.neI wH762 (Or.inl (G_ne gq747 gq761 (by decide)))).symm
              have m769 := eq761.trans (Wr.neR wH762 (Or.inl (G_ne ga0 gq761 (by decide)))).symm
              have m770 := Wr.I wH762
              have m770 := m770.symm
              refine lv_iload_n hx hb dX3_goOn_72 rfl (lv_at hl726 3 rfl) ?_
              refine lv_if_ne (tgt := 87) hx hb dX3_goOn_73 (by decide) (fun c771 => ?_) (fun c771 => ?_)
              · have k772 := i_ne c771
                exact J87 ls725 H762 locsH762 (lv_sub hl726 [] rfl) hTH762 hSH762 m764 f763
              · have k772 := i_eq c771
                refine lv_aload_n hx hb dX3_goOn_76 rfl (lv_at hl726 0 rfl) ?_
                refine lv_iload hx hb dX3_goOn_77 (lv_at hl726 4 rfl) ?_
                refine lv_iload_n hx hb dX3_goOn_79 rfl (lv_at hl726 1 rfl) ?_
                refine lv_iload_n hx hb dX3_goOn_80 rfl (lv_at hl726 2 rfl) ?_
                refine x_V (As := [.int x728, .int x1, .int x2]) (rest := []) C (a_X3_isReached_2 l K G H762 (x728) (x1) (x2) (x746) hTH762 ga0 (by omega) (by omega) gtq m764 m766 (by omega)) yo_X3_isReached wM_X3_105 ⟨⟨by decide, by decide⟩, by decide, by decide⟩ (x_rv C hTH762 (ci := 3) rfl ga0 rg_89) rfl hl726.1 rfl (Nat.le_of_ble_eq_true rfl) dX3_goOn_81 hSH762 (AE_sub (fun _ _ => rfl) (by decide) hSH762.1) (fun vH773 H773 locsH773 pH773 zH773 kH773 hSH773 => ?_)
                obtain ⟨x774, x775, hvH773, bx774, ex775, m776, m777, hTH773⟩ := pH773
                subst hvH773
                have m778 := (m768).trans (fI_kept (x_lt hTH762 kH773 gq747 (by decide))).symm
                have bx775 := ty_ai (x := x775) ex775 hTH773 gtq rg_96 (by omega)
                have f779 : ∀ j : Nat, fI H773 tq j = fI s.heap tq j := fun j => (m777 j).trans (f763 j)
                refine W.eq (g2 := F0 m 84 ls725 [.int x774]) rfl ?_
                refine lv_if_eq (tgt := 89) hx hb dX3_goOn_84 (by decide) (fun c780 => ?_) (fun c780 => ?_)
                · have k781 := i_eq c780
                  exact J89 ls725 H773 locsH773 (lv_sub hl726 [0, 1, 2, 3, 4] rfl) hTH773 hSH773 (by have := i_rng x728; omega) m776 f779
                · have k781 := i_ne c780
                  exact J87 ls725 H773 locsH773 (lv_sub hl726 [] rfl) hTH773 hSH773 m776 f779
    refine lv_istore_n (lv' := [(3, .int x722), (0, .ref a0), (1, .int x1), (2, .int x2)]) hx hb dX3_goOn_24 rfl hl719 (by decide) rfl (fun ls782 hl783 => ?_)
    refine lv_iconst (v := 0) hx hb dX3_goOn_25 (by decide) ?_
    refine lv_istore (lv' := [(4, .int 0), (3, .int x722), (0, .ref a0), (1, .int x1), (2, .int x2)]) hx hb dX3_goOn_26 hl783 (by decide) rfl (fun ls784 hl785 => ?_)
    exact J28 ((8 - (0 : Int32).toInt).toNat + 1) ls784 H717 locsH717 (x722) (0) (lv_sub hl785 [2, 3, 4, 1, 0] rfl) hTH717 hSH717 (by have := i_rng x722; omega) (by decide) cy723_0 fy723_all (by omega)
  refine lv_iload_n hx hb dX3_goOn_0 rfl (lv_at hl 1 rfl) ?_
  refine lv_iload_n hx hb dX3_goOn_1 rfl (lv_at hl 2 rfl) ?_
  refine lv_icmp_ge (tgt := 10) hx hb dX3_goOn_2 (by decide) (fun c786 => ?_) (fun c786 => ?_)
  · have k787 := i_le c786
    exact J10 ls s.heap [] (lv_sub hl [] rfl) hT hS etq f0_all
  · have k787 := i_nle c786
    refine lv_iload_n hx hb dX3_goOn_5 rfl (lv_at hl 1 rfl) ?_
    refine lv_iconst (v := 5) hx hb dX3_goOn_6 (by decide) ?_
    refine lv_icmp_lt (tgt := 12) hx hb dX3_goOn_7 (by decide) (fun c788 => ?_) (fun c788 => ?_)
    · have k789 := i_lt c788
      refine lv_iload_n hx hb dX3_goOn_12 rfl (lv_at hl 1 rfl) ?_
      refine lv_iconst (v := 1) hx hb dX3_goOn_13 (by decide) ?_
      refine lv_iadd hx hb dX3_goOn_14 ?_
      refine lv_topi (fun x790 ex790 => ?_)
      have tx790 := i_add ex790 (by omega)
      refine lv_iload_n hx hb dX3_goOn_15 rfl (lv_at hl 2 rfl) ?_
      refine lv_icmp_ne (tgt := 23) hx hb dX3_goOn_16 (by decide) (fun c791 => ?_) (fun c791 => ?_)
      · have k792 := i_ne c791
        refine lv_iconst (v := 0) hx hb dX3_goOn_23 (by decide) ?_
        exact J24 ls s.heap [] (0) (lv_sub hl [0, 1, 2] rfl) hT hS (by have := i_rng x1; omega) (by have := i_rng x2; omega) (by decide) etq f0_all
      · have k792 := i_eq c791
        refine lv_iconst (v := 1) hx hb dX3_goOn_19 (by decide) ?_
        refine lv_goto (tgt := 24) hx hb dX3_goOn_20 (by decide) ?_
        exact J24 ls s.heap [] (1) (lv_sub hl [0, 1, 2] rfl) hT hS (by have := i_rng x1; omega) (by have := i_rng x2; omega) (by decide) etq f0_all
    · have k789 := i_nlt c788
      exact J10 ls s.heap [] (lv_sub hl [] rfl) hT hS etq f0_all

set_option maxHeartbeats 4000000 in
set_option maxRecDepth 100000 in
theorem a_X3_isReached_1 (l : Launch) (K : KE) (G : Nat → Option Nat) (H : Heap) {a0 : Nat} (x1 : Int32) (x2 : Int32) (x3 : Int32) {tq : Nat} (tk : Int32) (hT : TY K G H) (ga0 : G a0 = some 89) (hx1 : 0 ≤ x1.toInt ∧ x1.toInt ≤ 7) (hx2 : 1 ≤ x2.toInt ∧ x2.toInt ≤ 4) (gtq : G tq = some 96) (etq : tq = fR H a0 (K.1.2 3 6)) (etk : tk = fI H tq (x1 : Int32).toNatClampNeg) (hp0 : tk.toInt ≤ 4) : MX l K yX3_isReached cX3_isReached 5 (some .boolean) 8 192 0 0 [.ref a0, .int x1, .int x2, .int x3] H (AE G [89, 93, 94, 96, 90, 85, 86] H.size) (fun v H1 => ∃ (r : Int32) (t0 : Int32), v = some (.int r) ∧ (0 ≤ r.toInt ∧ r.toInt ≤ 1) ∧ t0 = fI H1 tq (x1 : Int32).toNatClampNeg ∧ tq = fR H1 a0 (K.1.2 3 6) ∧ (∀ j : Nat, fI H1 tq j = fI H tq j) ∧ TY K G H1) := by
  refine MX.of (by decide +kernel) (Nat.le_of_ble_eq_true rfl) ?_
  intro p e s m below meth c ls Q C hH hl hQ
  subst hH
  have C : CX p K s m _ meth c RX3 cX3_isReached 5 (some .boolean) "isReached" := C
  obtain ⟨hx, hb, hml, hown, hts, hKT, hr, hlocks, hnm⟩ := id C
  have hl : lv_has ls 5 [(0, .ref a0), (1, .int x1), (2, .int x2), (3, .int x3)] := hl
  have hS : va_S (AE G [89, 93, 94, 96, 90, 85, 86] s.heap.size) s.heap s.heap [] := va_S.rf
  have n_m1 : ((-1) : Int32).toInt = -1 := rfl
  have n_0 : (0 : Int32).toInt = 0 := rfl
  have n_1 : (1 : Int32).toInt = 1 := rfl
  have btk := ty_ai (x := tk) etk hT gtq rg_96 (by omega)
  have f0_oth : ∀ j : Nat, j ≠ x1.toNatClampNeg → fI s.heap tq j = fI s.heap tq j := fun _ _ => rfl
  have J36 : ∀ (ls251 : Array Slot) (H250 : Heap) (locsH250 : List Loc) (x253 : Int32) (x254 : Int32), lv_has ls251 5 [(0, .ref a0), (1, .int x1)] → TY K G H250 → va_S (AE G [89, 93, 94, 96, 90, 85, 86] s.heap.size) s.heap H250 locsH250 → (0 ≤ x253.toInt ∧ x253.toInt ≤ 1) → (0 ≤ x254.toInt ∧ x254.toInt ≤ 5) → (x254 = fI H250 tq (x1 : Int32).toNatClampNeg) → (tq = fR H250 a0 (K.1.2 3 6)) → (∀ j : Nat, j ≠ x1.toNatClampNeg → fI H250 tq j = fI s.heap tq j) → (x254.toInt = tk.toInt + 1) → W p l e ({ frames := 8, cells := 0, slots := 0, locals := 192 } : Room) s m (([.ref a0, .int x1, .int x2, .int x3] : List Value).toArray) below meth c H250 locsH250 0 0 Q (F0 m 36 ls251 [.int x253]) := by
    intro ls251 H250 locsH250 x253 x254 hl252 hTH250 hSH250 bx253 bx254 ex254 cy255_0 fy255_oth iv36
    refine lv_istore (lv' := [(4, .int x253), (0, .ref a0), (1, .int x1)]) hx hb dX3_isReached_36 hl252 (by decide) rfl (fun ls256 hl257 => ?_)
    refine lv_aload_n hx hb dX3_isReached_38 rfl (lv_at hl257 1 rfl) ?_
    refine lv_iload_n hx hb dX3_isReached_39 rfl (lv_at hl257 2 rfl) ?_
    refine lv_iconst (v := (-1)) hx hb dX3_isReached_40 (by decide) ?_
    refine x_V (As := [.int x1, .int (-1)]) (rest := []) C (a_X3_move_m l K G H250 (x1) ((-1)) (x254) hTH250 ga0 (by omega) (by decide) gtq cy255_0 ex254 (by omega)) yo_X3_move wM_X3_109 ⟨⟨by decide, by decide⟩, by decide, by decide⟩ (x_rv C hTH250 (ci := 3) rfl ga0 rg_89) rfl hl257.1 rfl (Nat.le_of_ble_eq_true rfl) dX3_isReached_41 hSH250 (AE_sub (fun _ _ => rfl) (by decide) hSH250.1) (fun vH258 H258 locsH258 pH258 zH258 kH258 hSH258 => ?_)
    obtain ⟨x259, hvH258, ex259, hrH258, m260, m261, hTH258⟩ := pH258
    subst hvH258
    have bx259 := ty_ai (x := x259) ex259 hTH258 gtq rg_96 (by omega)
    have f262 : ∀ j : Nat, j ≠ x1.toNatClampNeg → fI H258 tq j = fI s.heap tq j := fun j hj => (m261 j hj).trans (fy255_oth j hj)
    refine W.eq (g2 := F0 m 44 ls256 []) rfl ?_
    refine lv_iload hx hb dX3_isReached_44 (lv_at hl257 0 rfl) ?_
    exact x_zret C hQ (i_01 (by omega)) dX3_isReached_46 hSH258 (by decide) (by decide) (⟨x253, x259, rfl, by omega, ex259, m260, af_same ex259 etk (by omega) f262, hTH258⟩)
  have J35 : ∀ (ls264 : Array Slot) (H263 : Heap) (locsH263 : List Loc) (x266 : Int32), lv_has ls264 5 [(0, .ref a0), (1, .int x1)] → TY K G H263 → va_S (AE G [89, 93, 94, 96, 90, 85, 86] s.heap.size) s.heap H263 locsH263 → (0 ≤ x266.toInt ∧ x266.toInt ≤ 5) → (x266 = fI H263 tq (x1 : Int32).toNatClampNeg) → (tq = fR H263 a0 (K.1.2 3 6)) → (∀ j : Nat, j ≠ x1.toNatClampNeg → fI H263 tq j = fI s.heap tq j) → (x266.toInt = tk.toInt + 1) → W p l e ({ frames := 8, cells := 0, slots := 0, locals := 192 } : Room) s m (([.ref a0, .int x1, .int x2, .int x3] : List Value).toArray) below meth c H263 locsH263 0 0 Q (F0 m 35 ls264 []) := by
    intro ls264 H263 locsH263 x266 hl265 hTH263 hSH263 bx266 ex266 cy267_0 fy267_oth iv35
    refine lv_iconst (v := 0) hx hb dX3_isReached_35 (by decide) ?_
    exact J36 ls264 H263 locsH263 (0) (x266) (lv_sub hl265 [0, 1] rfl) hTH263 hSH263 (by decide) (by have := i_rng x266; omega) ex266 cy267_0 fy267_oth (by omega)
  refine lv_aload_n hx hb dX3_isReached_0 rfl (lv_at hl 0 rfl) ?_
  refine lv_iload_n hx hb dX3_isReached_1 rfl (lv_at hl 1 rfl) ?_
  refine lv_iconst (v := 1) hx hb dX3_isReached_2 (by decide) ?_
  refine x_V (As := [.int x1, .int 1]) (rest := []) C (a_X3_move_p l K G s.heap (x1) (1) (tk) hT ga0 (by omega) (by decide) gtq etq etk (by omega)) yo_X3_move wM_X3_109 ⟨⟨by decide, by decide⟩, by decide, by decide⟩ (x_rv C hT (ci := 3) rfl ga0 rg_89) rfl hl.1 rfl (Nat.le_of_ble_eq_true rfl) dX3_isReached_3 hS (AE_sub (fun _ _ => rfl) (by decide) hS.1) (fun vH268 H268 locsH268 pH268 zH268 kH268 hSH268 => ?_)
  obtain ⟨x269, hvH268, ex269, hrH268, m270, m271, hTH268⟩ := pH268
  subst hvH268
  have bx269 := ty_ai (x := x269) ex269 hTH268 gtq rg_96 (by omega)
  have f272 : ∀ j : Nat, j ≠ x1.toNatClampNeg → fI H268 tq j = fI s.heap tq j := fun j hj => (m271 j hj).trans (f0_oth j hj)
  refine W.eq (g2 := F0 m 6 ls []) rfl ?_
  refine lv_aload_n hx hb dX3_isReached_6 rfl (lv_at hl 0 rfl) ?_
  refine x_gr C hTH268 (ci := 3) (k := 8) rfl inX3 (by decide) wF_X3_39 ga0 rg_89 rfl dX3_isReached_7 (fun q273 eq273 gq273 => ?_)
  refine lv_aload_n hx hb dX3_isReached_10 rfl (lv_at hl 0 rfl) ?_
  refine x_gi C hTH268 (ci := 3) (k := 11) rfl inX3 (by decide) wF_X3_59 ga0 rg_89 rfl dX3_isReached_11 (fun x274 ex274 bx274 => ?_)
  refine x_V (As := [.int x274]) (rest := []) C (a_X2_add_met l K G H268 (x274) hTH268 gq273) yo_X2_add wM_X3_113 ⟨⟨by decide, by decide⟩, by decide, by decide⟩ (x_rv C hTH268 (ci := 2) rfl gq273 rg_85) rfl hl.1 rfl (Nat.le_of_ble_eq_true rfl) dX3_isReached_14 hSH268 (AE_sub (fun _ _ => rfl) (by decide) hSH268.1) (fun vH275 H275 locsH275 pH275 zH275 kH275 hSH275 => ?_)
  obtain ⟨x276, hvH275, bx276, hTH275⟩ := pH275
  subst hvH275
  have f277 : ∀ j : Nat, j ≠ x1.toNatClampNeg → fI H275 tq j = fI s.heap tq j := fun j hj => (fI_kept (x_lt hTH268 kH275 gtq (by decide))).trans (f272 j hj)
  have m278 := (m270).trans (fR_kept (x_lt hTH268 kH275 ga0 (by decide))).symm
  have m279 := (ex269).trans (fI_kept (x_lt hTH268 kH275 gtq (by decide))).symm
  have m280 := (eq273).trans (fR_kept (x_lt hTH268 kH275 ga0 (by decide))).symm
  have m281 := (ex274).trans (fI_kept (x_lt hTH268 kH275 ga0 (by decide))).symm
  refine W.eq (g2 := F0 m 17 ls [.int x276]) rfl ?_
  refine lv_if_eq (tgt := 35) hx hb dX3_isReached_17 (by decide) (fun c282 => ?_) (fun c282 => ?_)
  · have k283 := i_eq c282
    exact J35 ls H275 locsH275 (x269) (lv_sub hl [0, 1] rfl) hTH275 hSH275 (by have := i_rng x269; omega) m279 m278 f277 (by omega)
  · have k283 := i_ne c282
    refine lv_aload_n hx hb dX3_isReached_20 rfl (lv_at hl 0 rfl) ?_
    refine lv_iload_n hx hb dX3_isReached_21 rfl (lv_at hl 2 rfl) ?_
    refine lv_iconst (v := 1) hx hb dX3_isReached_22 (by decide) ?_
    refine lv_iadd hx hb dX3_isReached_23 ?_
    refine lv_topi (fun x284 ex284 => ?_)
    have tx284 := i_add ex284 (by omega)
    refine lv_iload_n hx hb dX3_isReached_24 rfl (lv_at hl 3 rfl) ?_
    refine x_V (As := [.int x284, .int x3]) (rest := []) C (a_X3_goOn_2 l K G H275 (x284) (x3) hTH275 ga0 (by omega) gtq m278) yo_X3_goOn wM_X3_97 ⟨⟨by decide, by decide⟩, by decide, by decide⟩ (x_rv C hTH275 (ci := 3) rfl ga0 rg_89) rfl hl.1 rfl (Nat.le_of_ble_eq_true rfl) dX3_isReached_25 hSH275 (AE_sub (fun _ _ => rfl) (by decide) hSH275.1) (fun vH285 H285 locsH285 pH285 zH285 kH285 hSH285 => ?_)
    obtain ⟨x286, hvH285, bx286, m287, m288, hTH285⟩ := pH285
    subst hvH285
    have m289 := (m279).trans (m288 _).symm
    have f290 : ∀ j : Nat, j ≠ x1.toNatClampNeg → fI H285 tq j = fI s.heap tq j := fun j hj => (m288 j).trans (f277 j hj)
    refine W.eq (g2 := F0 m 28 ls [.int x286]) rfl ?_
    refine lv_if_eq (tgt := 35) hx hb dX3_isReached_28 (by decide) (fun c291 => ?_) (fun c291 => ?_)
    · have k292 := i_eq c291
      exact J35 ls H285 locsH285 (x269) (lv_sub hl [0, 1] rfl) hTH285 hSH285 (by have := i_rng x269; omega) m289 m287 f290 (by omega)
    · have k292 := i_ne c291
      refine lv_iconst (v := 1) hx hb dX3_isReached_31 (by decide) ?_
      refine lv_goto (tgt := 36) hx hb dX3_isReached_32 (by decide) ?_
      exact J36 ls H285 locsH285 (1) (x269) (lv_sub hl [0, 1] rfl) hTH285 hSH285 (by decide) (by have := i_rng x269; omega) m289 m287 f290 (by omega)

set_option maxHeartbeats 4000000 in
set_option maxRecDepth 100000 in
theorem a_X3_goOn_1 (l : Launch) (K : KE) (G : Nat → Option Nat) (H : Heap) {a0 : Nat} (x1 : Int32) (x2 : Int32) {tq : Nat} (hT : TY K G H) (ga0 : G a0 = some 89) (hx1 : 1 ≤ x1.toInt ∧ x1.toInt ≤ 5) (gtq : G tq = some 96) (etq : tq = fR H a0 (K.1.2 3 6)) : MX l K yX3_goOn cX3_goOn 5 (some .boolean) 9 216 0 0 [.ref a0, .int x1, .int x2] H (AE G [89, 93, 94, 96, 90, 85, 86] H.size) (fun v H1 => ∃ (r : Int32), v = some (.int r) ∧ (0 ≤ r.toInt ∧ r.toInt ≤ 1) ∧ tq = fR H1 a0 (K.1.2 3 6) ∧ (∀ j : Nat, fI H1 tq j = fI H tq j) ∧ TY K G H1) := by
  refine MX.of (by decide +kernel) (Nat.le_of_ble_eq_true rfl) ?_
  intro p e s m below meth c ls Q C hH hl hQ
  subst hH
  have C : CX p K s m _ meth c RX3 cX3_goOn 5 (some .boolean) "goOn" := C
  obtain ⟨hx, hb, hml, hown, hts, hKT, hr, hlocks, hnm⟩ := id C
  have hl : lv_has ls 5 [(0, .ref a0), (1, .int x1), (2, .int x2)] := hl
  have hS : va_S (AE G [89, 93, 94, 96, 90, 85, 86] s.heap.size) s.heap s.heap [] := va_S.rf
  have n_0 : (0 : Int32).toInt = 0 := rfl
  have n_1 : (1 : Int32).toInt = 1 := rfl
  have n_5 : (5 : Int32).toInt = 5 := rfl
  have f0_all : ∀ j : Nat, fI s.heap tq j = fI s.heap tq j := fun _ => rfl
  have J10 : ∀ (ls714 : Array Slot) (H713 : Heap) (locsH713 : List Loc) , lv_has ls714 5 [] → TY K G H713 → va_S (AE G [89, 93, 94, 96, 90, 85, 86] s.heap.size) s.heap H713 locsH713 → (tq = fR H713 a0 (K.1.2 3 6)) → (∀ j : Nat, fI H713 tq j = fI s.heap tq j) → W p l e ({ frames := 9, cells := 0, slots := 0, locals := 216 } : Room) s m (([.ref a0, .int x1, .int x2] : List Value).toArray) below meth c H713 locsH713 0 0 Q (F0 m 10 ls714 []) := by
    intro ls714 H713 locsH713  hl715 hTH713 hSH713 cy716_0 fy716_all
    refine lv_iconst (v := 0) hx hb dX3_goOn_10 (by decide) ?_
    exact x_zret C hQ (Or.inl rfl) dX3_goOn_11 hSH713 (by decide) (by decide) (⟨0, rfl, by decide, cy716_0, fy716_all, hTH713⟩)
  have J24 : ∀ (ls718 : Array Slot) (H717 : Heap) (locsH717 : List Loc) (x722 : Int32), lv_has ls718 5 [(0, .ref a0), (1, .int x1), (2, .int x2)] → TY K G H717 → va_S (AE G [89, 93, 94, 96, 90, 85, 86] s.heap.size) s.heap H717 locsH717 → (1 ≤ x1.toInt ∧ x1.toInt ≤ 4) → (2 ≤ x2.toInt ∧ x2.toInt ≤ 2147483647) → (0 ≤ x722.toInt ∧ x722.toInt ≤ 1) → (tq = fR H717 a0 (K.1.2 3 6)) → (∀ j : Nat, fI H717 tq j = fI s.heap tq j) → W p l e ({ frames := 9, cells := 0, slots := 0, locals := 216 } : Room) s m (([.ref a0, .int x1, .int x2] : List Value).toArray) below meth c H717 locsH717 0 0 Q (F0 m 24 ls718 [.int x722]) := by
    intro ls718 H717 locsH717 x722 hl719 hTH717 hSH717 b720 b721 bx722 cy723_0 fy723_all
    have J28 : ∀ (nf : Nat) (ls725 : Array Slot) (H724 : Heap) (locsH724 : List Loc) (x727 : Int32) (x728 : Int32), lv_has ls725 5 [(0, .ref a0), (1, .int x1), (2, .int x2), (3, .int x727), (4, .int x728)] → TY K G H724 → va_S (AE G [89, 93, 94, 96, 90, 85, 86] s.heap.size) s.heap H724 locsH724 → (0 ≤ x727.toInt ∧ x727.toInt ≤ 1) → (0 ≤ x728.toInt ∧ x728.toInt ≤ 8) → (tq = fR H724 a0 (K.1.2 3 6)) → (∀ j : Nat, fI H724 tq j = fI s.heap tq j) → (8 - x728.toInt < (nf : Int)) → W p l e ({ frames := 9, cells := 0, slots := 0, locals := 216 } : Room) s m (([.ref a0, .int x1, .int x2] : List Value).toArray) below meth c H724 locsH724 0 0 Q (F0 m 28 ls725 []) := by
      intro nf
      induction nf with
      | zero =>
        intro ls725 H724 locsH724 x727 x728 hl726 hTH724 hSH724 bx727 bx728 cy729_0 fy729_all hm28
        exfalso
        omega
      | succ nf ih28 =>
        intro ls725 H724 locsH724 x727 x728 hl726 hTH724 hSH724 bx727 bx728 cy729_0 fy729_all hm28
        have J89 : ∀ (ls731 : Array Slot) (H730 : Heap) (locsH730 : List Loc) , lv_has ls731 5 [(0, .ref a0), (1, .int x1), (2, .int x2), (3, .int x727), (4, .int x728)] → TY K G H730 → va_S (AE G [89, 93, 94, 96, 90, 85, 86] s.heap.size) s.heap H730 locsH730 → (0 ≤ x728.toInt ∧ x728.toInt ≤ 7) → (tq = fR H730 a0 (K.1.2 3 6)) → (∀ j : Nat, fI H730 tq j = fI s.heap tq j) → W p l e ({ frames := 9, cells := 0, slots := 0, locals := 216 } : Room) s m (([.ref a0, .int x1, .int x2] : List Value).toArray) below meth c H730 locsH730 0 0 Q (F0 m 89 ls731 []) := by
          intro ls731 H730 locsH730  hl732 hTH730 hSH730 b733 cy734_0 fy734_all
          obtain ⟨x735, ex735⟩ : ∃ y : Int32, y = x728 + 1 := ⟨_, rfl⟩
          have tx735 := i_add ex735 (by omega)
          refine lv_iinc (v := x735) (lv' := [(4, .int x735), (0, .ref a0), (1, .int x1), (2, .int x2), (3, .int x727)]) hx hb dX3_goOn_89 hl732 (k := 4) rfl (by rw [ex735]; rfl) (by decide) rfl (fun ls736 hl737 => ?_)
          refine lv_goto (tgt := 28) hx hb dX3_goOn_92 (by decide) ?_
          exact ih28 ls736 H730 locsH730 (x727) (x735) (lv_sub hl737 [1, 2, 3, 4, 0] rfl) hTH730 hSH730 (by have := i_rng x727; omega) (by have := i_rng x735; omega) cy734_0 fy734_all (by omega)
        have J87 : ∀ (ls739 : Array Slot) (H738 : Heap) (locsH738 : List Loc) , lv_has ls739 5 [] → TY K G H738 → va_S (AE G [89, 93, 94, 96, 90, 85, 86] s.heap.size) s.heap H738 locsH738 → (tq = fR H738 a0 (K.1.2 3 6)) → (∀ j : Nat, fI H738 tq j = fI s.heap tq j) → W p l e ({ frames := 9, cells := 0, slots := 0, locals := 216 } : Room) s m (([.ref a0, .int x1, .int x2] : List Value).toArray) below meth c H738 locsH738 0 0 Q (F0 m 87 ls739 []) := by
          intro ls739 H738 locsH738  hl740 hTH738 hSH738 cy741_0 fy741_all
          refine lv_iconst (v := 1) hx hb dX3_goOn_87 (by decide) ?_
          exact x_zret C hQ (Or.inr rfl) dX3_goOn_88 hSH738 (by decide) (by decide) (⟨1, rfl, by decide, cy741_0, fy741_all, hTH738⟩)
        refine lv_iload hx hb dX3_goOn_28 (lv_at hl726 4 rfl) ?_
        refine lv_aload_n hx hb dX3_goOn_30 rfl (lv_at hl726 0 rfl) ?_
        refine x_gi C hTH724 (ci := 3) (k := 9) rfl inX3 (by decide) wF_X3_55 ga0 rg_89 rfl dX3_goOn_31 (fun x742 ex742 bx742 => ?_)
        refine lv_icmp_ge (tgt := 95) hx hb dX3_goOn_34 (by decide) (fun c743 => ?_) (fun c743 => ?_)
        · have k744 := i_le c743
          refine lv_iconst (v := 0) hx hb dX3_goOn_95 (by decide) ?_
          exact x_zret C hQ (Or.inl rfl) dX3_goOn_96 hSH724 (by decide) (by decide) (⟨0, rfl, by decide, cy729_0, fy729_all, hTH724⟩)
        · have k744 := i_nle c743
          refine lv_aload_n hx hb dX3_goOn_37 rfl (lv_at hl726 0 rfl) ?_
          refine x_gr C hTH724 (ci := 3) (k := 6) rfl inX3 (by decide) wF_X3_30 ga0 rg_89 rfl dX3_goOn_38 (fun q745 eq745 gq745 => ?_)
          have uq745 : tq = q745 := (cy729_0).trans eq745.symm
          subst uq745
          refine lv_iload hx hb dX3_goOn_41 (lv_at hl726 4 rfl) ?_
          refine x_ai C hTH724 gtq rg_96 ⟨by omega, by show _ < ((8 : Nat) : Int); omega⟩ dX3_goOn_43 (fun x746 ex746 bx746 => ?_)
          refine lv_aload_n hx hb dX3_goOn_44 rfl (lv_at hl726 0 rfl) ?_
          refine x_gr C hTH724 (ci := 3) (k := 7) rfl inX3 (by decide) wF_X3_33 ga0 rg_89 rfl dX3_goOn_45 (fun q747 eq747 gq747 => ?_)
          refine lv_iload hx hb dX3_goOn_48 (lv_at hl726 4 rfl) ?_
          refine x_ai C hTH724 gq747 rg_97 ⟨by omega, by show _ < ((8 : Nat) : Int); omega⟩ dX3_goOn_50 (fun x748 ex748 bx748 => ?_)
          refine lv_icmp_ge (tgt := 89) hx hb dX3_goOn_51 (by decide) (fun c749 => ?_) (fun c749 => ?_)
          · have k750 := i_le c749
            exact J89 ls725 H724 locsH724 (lv_sub hl726 [0, 1, 2, 3, 4] rfl) hTH724 hSH724 (by have := i_rng x728; omega) cy729_0 fy729_all
          · have k750 := i_nle c749
            refine lv_aload_n hx hb dX3_goOn_54 rfl (lv_at hl726 0 rfl) ?_
            refine lv_iload hx hb dX3_goOn_55 (lv_at hl726 4 rfl) ?_
            refine lv_iload_n hx hb dX3_goOn_57 rfl (lv_at hl726 3 rfl) ?_
            refine x_V (As := [.int x728, .int x727]) (rest := []) C (a_X3_isNearBehind l K G H724 (x728) (x727) (x746) hTH724 ga0 (by omega) (by omega) gtq cy729_0 ex746 (by omega)) yo_X3_isNearBehind wM_X3_101 ⟨⟨by decide, by decide⟩, by decide, by decide⟩ (x_rv C hTH724 (ci := 3) rfl ga0 rg_89) rfl hl726.1 rfl (Nat.le_of_ble_eq_true rfl) dX3_goOn_58 hSH724 (AE_sub (fun _ _ => rfl) (by decide) hSH724.1) (fun vH751 H751 locsH751 pH751 zH751 kH751 hSH751 => ?_)
            obtain ⟨x752, hvH751, bx752, hTH751⟩ := pH751
            subst hvH751
            have f753 : ∀ j : Nat, fI H751 tq j = fI s.heap tq j := fun j => (fI_kept (x_lt hTH724 kH751 gtq (by decide))).trans (fy729_all j)
            have m754 := (cy729_0).trans (fR_kept (x_lt hTH724 kH751 ga0 (by decide))).symm
            have m755 := (ex742).trans (fI_kept (x_lt hTH724 kH751 ga0 (by decide))).symm
            have m756 := (ex746).trans (fI_kept (x_lt hTH724 kH751 gtq (by decide))).symm
            have m757 := (eq747).trans (fR_kept (x_lt hTH724 kH751 ga0 (by decide))).symm
            have m758 := (ex748).trans (fI_kept (x_lt hTH724 kH751 gq747 (by decide))).symm
            refine W.eq (g2 := F0 m 61 ls725 [.int x752]) rfl ?_
            refine lv_if_eq (tgt := 89) hx hb dX3_goOn_61 (by decide) (fun c759 => ?_) (fun c759 => ?_)
            · have k760 := i_eq c759
              exact J89 ls725 H751 locsH751 (lv_sub hl726 [0, 1, 2, 3, 4] rfl) hTH751 hSH751 (by have := i_rng x728; omega) m754 f753
            · have k760 := i_ne c759
              refine lv_aload_n hx hb dX3_goOn_64 rfl (lv_at hl726 0 rfl) ?_
              refine x_gr C hTH751 (ci := 3) (k := 0) rfl inX3 (by decide) wF_X3_11 ga0 rg_89 rfl dX3_goOn_65 (fun q761 eq761 gq761 => ?_)
              refine lv_iload_n hx hb dX3_goOn_68 rfl (lv_at hl726 1 rfl) ?_
              refine lv_iload hx hb dX3_goOn_69 (lv_at hl726 4 rfl) ?_
              refine x_iast C hTH751 hSH751 gq761 rg_90 (by omega) (by show _ < ((5 : Nat) : Int); omega) ⟨by have := i_rng x728; omega, by have := i_rng x728; omega⟩ (AE_in gq761 (by decide)) dX3_goOn_71 (fun H762 locsH762 hTH762 hSH762 wH762 => ?_)
              have f763 : ∀ j : Nat, fI H762 tq j = fI s.heap tq j := fun j => (Wr.neI wH762 (Or.inl (G_ne gtq gq761 (by decide)))).trans (f753 j)
              have m764 := m754.trans (Wr.neR wH762 (Or.inl (G_ne ga0 gq761 (by decide)))).symm
              have m765 := m755.trans (Wr.neI wH762 (Or.inl (G_ne ga0 gq761 (by decide)))).symm
              have m766 := m756.trans (Wr.neI wH762 (Or.inl (G_ne gtq gq761 (by decide)))).symm
              have m767 := m757.trans (Wr.neR wH762 (Or.inl (G_ne ga0 gq761 (by decide)))).symm
              have m768 := m758.trans (Wr.neI wH762 (Or.inl (G_ne gq747 gq761 (by decide)))).symm
              have m769 := eq761.trans (Wr.neR wH762 (Or.inl (G_ne ga0 gq761 (by decide)))).symm
              have m770 := Wr.I wH762
              have m770 := m770.symm
              refine lv_iload_n hx hb dX3_goOn_72 rfl (lv_at hl726 3 rfl) ?_
              refine lv_if_ne (tgt := 87) hx hb dX3_goOn_73 (by decide) (fun c771 => ?_) (fun c771 => ?_)
              · have k772 := i_ne c771
                exact J87 ls725 H762 locsH762 (lv_sub hl726 [] rfl) hTH762 hSH762 m764 f763
              · have k772 := i_eq c771
                refine lv_aload_n hx hb dX3_goOn_76 rfl (lv_at hl726 0 rfl) ?_
                refine lv_iload hx hb dX3_goOn_77 (lv_at hl726 4 rfl) ?_
                refine lv_iload_n hx hb dX3_goOn_79 rfl (lv_at hl726 1 rfl) ?_
                refine lv_iload_n hx hb dX3_goOn_80 rfl (lv_at hl726 2 rfl) ?_
                refine x_V (As := [.int x728, .int x1, .int x2]) (rest := []) C (a_X3_isReached_1 l K G H762 (x728) (x1) (x2) (x746) hTH762 ga0 (by omega) (by omega) gtq m764 m766 (by omega)) yo_X3_isReached wM_X3_105 ⟨⟨by decide, by decide⟩, by decide, by decide⟩ (x_rv C hTH762 (ci := 3) rfl ga0 rg_89) rfl hl726.1 rfl (Nat.le_of_ble_eq_true rfl) dX3_goOn_81 hSH762 (AE_sub (fun _ _ => rfl) (by decide) hSH762.1) (fun vH773 H773 locsH773 pH773 zH773 kH773 hSH773 => ?_)
                obtain ⟨x774, x775, hvH773, bx774, ex775, m776, m777, hTH773⟩ := pH773
                subst hvH773
                have m778 := (m768).trans (fI_kept (x_lt hTH762 kH773 gq747 (by decide))).symm
                have bx775 := ty_ai (x := x775) ex775 hTH773 gtq rg_96 (by omega)
                have f779 : ∀ j : Nat, fI H773 tq j = fI s.heap tq j := fun j => (m777 j).trans (f763 j)
                refine W.eq (g2 := F0 m 84 ls725 [.int x774]) rfl ?_
                refine lv_if_eq (tgt := 89) hx hb dX3_goOn_84 (by decide) (fun c780 => ?_) (fun c780 => ?_)
                · have k781 := i_eq c780
                  exact J89 ls725 H773 locsH773 (lv_sub hl726 [0, 1, 2, 3, 4] rfl) hTH773 hSH773 (by have := i_rng x728; omega) m776 f779
                · have k781 := i_ne c780
                  exact J87 ls725 H773 locsH773 (lv_sub hl726 [] rfl) hTH773 hSH773 m776 f779
    refine lv_istore_n (lv' := [(3, .int x722), (0, .ref a0), (1, .int x1), (2, .int x2)]) hx hb dX3_goOn_24 rfl hl719 (by decide) rfl (fun ls782 hl783 => ?_)
    refine lv_iconst (v := 0) hx hb dX3_goOn_25 (by decide) ?_
    refine lv_istore (lv' := [(4, .int 0), (3, .int x722), (0, .ref a0), (1, .int x1), (2, .int x2)]) hx hb dX3_goOn_26 hl783 (by decide) rfl (fun ls784 hl785 => ?_)
    exact J28 ((8 - (0 : Int32).toInt).toNat + 1) ls784 H717 locsH717 (x722) (0) (lv_sub hl785 [2, 3, 4, 1, 0] rfl) hTH717 hSH717 (by have := i_rng x722; omega) (by decide) cy723_0 fy723_all (by omega)
  refine lv_iload_n hx hb dX3_goOn_0 rfl (lv_at hl 1 rfl) ?_
  refine lv_iload_n hx hb dX3_goOn_1 rfl (lv_at hl 2 rfl) ?_
  refine lv_icmp_ge (tgt := 10) hx hb dX3_goOn_2 (by decide) (fun c786 => ?_) (fun c786 => ?_)
  · have k787 := i_le c786
    exact J10 ls s.heap [] (lv_sub hl [] rfl) hT hS etq f0_all
  · have k787 := i_nle c786
    refine lv_iload_n hx hb dX3_goOn_5 rfl (lv_at hl 1 rfl) ?_
    refine lv_iconst (v := 5) hx hb dX3_goOn_6 (by decide) ?_
    refine lv_icmp_lt (tgt := 12) hx hb dX3_goOn_7 (by decide) (fun c788 => ?_) (fun c788 => ?_)
    · have k789 := i_lt c788
      refine lv_iload_n hx hb dX3_goOn_12 rfl (lv_at hl 1 rfl) ?_
      refine lv_iconst (v := 1) hx hb dX3_goOn_13 (by decide) ?_
      refine lv_iadd hx hb dX3_goOn_14 ?_
      refine lv_topi (fun x790 ex790 => ?_)
      have tx790 := i_add ex790 (by omega)
      refine lv_iload_n hx hb dX3_goOn_15 rfl (lv_at hl 2 rfl) ?_
      refine lv_icmp_ne (tgt := 23) hx hb dX3_goOn_16 (by decide) (fun c791 => ?_) (fun c791 => ?_)
      · have k792 := i_ne c791
        refine lv_iconst (v := 0) hx hb dX3_goOn_23 (by decide) ?_
        exact J24 ls s.heap [] (0) (lv_sub hl [0, 1, 2] rfl) hT hS (by have := i_rng x1; omega) (by have := i_rng x2; omega) (by decide) etq f0_all
      · have k792 := i_eq c791
        refine lv_iconst (v := 1) hx hb dX3_goOn_19 (by decide) ?_
        refine lv_goto (tgt := 24) hx hb dX3_goOn_20 (by decide) ?_
        exact J24 ls s.heap [] (1) (lv_sub hl [0, 1, 2] rfl) hT hS (by have := i_rng x1; omega) (by have := i_rng x2; omega) (by decide) etq f0_all
    · have k789 := i_nlt c788
      exact J10 ls s.heap [] (lv_sub hl [] rfl) hT hS etq f0_all

set_option maxHeartbeats 4000000 in
set_option maxRecDepth 100000 in
theorem a_X3_isReached_0 (l : Launch) (K : KE) (G : Nat → Option Nat) (H : Heap) {a0 : Nat} (x1 : Int32) (x2 : Int32) (x3 : Int32) {tq : Nat} (tk : Int32) (hT : TY K G H) (ga0 : G a0 = some 89) (hx1 : 0 ≤ x1.toInt ∧ x1.toInt ≤ 7) (hx2 : 0 ≤ x2.toInt ∧ x2.toInt ≤ 4) (gtq : G tq = some 96) (etq : tq = fR H a0 (K.1.2 3 6)) (etk : tk = fI H tq (x1 : Int32).toNatClampNeg) (hp0 : tk.toInt ≤ 4) : MX l K yX3_isReached cX3_isReached 5 (some .boolean) 10 240 0 0 [.ref a0, .int x1, .int x2, .int x3] H (AE G [89, 93, 94, 96, 90, 85, 86] H.size) (fun v H1 => ∃ (r : Int32) (t0 : Int32), v = some (.int r) ∧ (0 ≤ r.toInt ∧ r.toInt ≤ 1) ∧ t0 = fI H1 tq (x1 : Int32).toNatClampNeg ∧ tq = fR H1 a0 (K.1.2 3 6) ∧ (∀ j : Nat, fI H1 tq j = fI H tq j) ∧ TY K G H1) := by
  refine MX.of (by decide +kernel) (Nat.le_of_ble_eq_true rfl) ?_
  intro p e s m below meth c ls Q C hH hl hQ
  subst hH
  have C : CX p K s m _ meth c RX3 cX3_isReached 5 (some .boolean) "isReached" := C
  obtain ⟨hx, hb, hml, hown, hts, hKT, hr, hlocks, hnm⟩ := id C
  have hl : lv_has ls 5 [(0, .ref a0), (1, .int x1), (2, .int x2), (3, .int x3)] := hl
  have hS : va_S (AE G [89, 93, 94, 96, 90, 85, 86] s.heap.size) s.heap s.heap [] := va_S.rf
  have n_m1 : ((-1) : Int32).toInt = -1 := rfl
  have n_0 : (0 : Int32).toInt = 0 := rfl
  have n_1 : (1 : Int32).toInt = 1 := rfl
  have btk := ty_ai (x := tk) etk hT gtq rg_96 (by omega)
  have f0_oth : ∀ j : Nat, j ≠ x1.toNatClampNeg → fI s.heap tq j = fI s.heap tq j := fun _ _ => rfl
  have J36 : ∀ (ls251 : Array Slot) (H250 : Heap) (locsH250 : List Loc) (x253 : Int32) (x254 : Int32), lv_has ls251 5 [(0, .ref a0), (1, .int x1)] → TY K G H250 → va_S (AE G [89, 93, 94, 96, 90, 85, 86] s.heap.size) s.heap H250 locsH250 → (0 ≤ x253.toInt ∧ x253.toInt ≤ 1) → (0 ≤ x254.toInt ∧ x254.toInt ≤ 5) → (x254 = fI H250 tq (x1 : Int32).toNatClampNeg) → (tq = fR H250 a0 (K.1.2 3 6)) → (∀ j : Nat, j ≠ x1.toNatClampNeg → fI H250 tq j = fI s.heap tq j) → (x254.toInt = tk.toInt + 1) → W p l e ({ frames := 10, cells := 0, slots := 0, locals := 240 } : Room) s m (([.ref a0, .int x1, .int x2, .int x3] : List Value).toArray) below meth c H250 locsH250 0 0 Q (F0 m 36 ls251 [.int x253]) := by
    intro ls251 H250 locsH250 x253 x254 hl252 hTH250 hSH250 bx253 bx254 ex254 cy255_0 fy255_oth iv36
    refine lv_istore (lv' := [(4, .int x253), (0, .ref a0), (1, .int x1)]) hx hb dX3_isReached_36 hl252 (by decide) rfl (fun ls256 hl257 => ?_)
    refine lv_aload_n hx hb dX3_isReached_38 rfl (lv_at hl257 1 rfl) ?_
    refine lv_iload_n hx hb dX3_isReached_39 rfl (lv_at hl257 2 rfl) ?_
    refine lv_iconst (v := (-1)) hx hb dX3_isReached_40 (by decide) ?_
    refine x_V (As := [.int x1, .int (-1)]) (rest := []) C (a_X3_move_m l K G H250 (x1) ((-1)) (x254) hTH250 ga0 (by omega) (by decide) gtq cy255_0 ex254 (by omega)) yo_X3_move wM_X3_109 ⟨⟨by decide, by decide⟩, by decide, by decide⟩ (x_rv C hTH250 (ci := 3) rfl ga0 rg_89) rfl hl257.1 rfl (Nat.le_of_ble_eq_true rfl) dX3_isReached_41 hSH250 (AE_sub (fun _ _ => rfl) (by decide) hSH250.1) (fun vH258 H258 locsH258 pH258 zH258 kH258 hSH258 => ?_)
    obtain ⟨x259, hvH258, ex259, hrH258, m260, m261, hTH258⟩ := pH258
    subst hvH258
    have bx259 := ty_ai (x := x259) ex259 hTH258 gtq rg_96 (by omega)
    have f262 : ∀ j : Nat, j ≠ x1.toNatClampNeg → fI H258 tq j = fI s.heap tq j := fun j hj => (m261 j hj).trans (fy255_oth j hj)
    refine W.eq (g2 := F0 m 44 ls256 []) rfl ?_
    refine lv_iload hx hb dX3_isReached_44 (lv_at hl257 0 rfl) ?_
    exact x_zret C hQ (i_01 (by omega)) dX3_isReached_46 hSH258 (by decide) (by decide) (⟨x253, x259, rfl, by omega, ex259, m260, af_same ex259 etk (by omega) f262, hTH258⟩)
  have J35 : ∀ (ls264 : Array Slot) (H263 : Heap) (locsH263 : List Loc) (x266 : Int32), lv_has ls264 5 [(0, .ref a0), (1, .int x1)] → TY K G H263 → va_S (AE G [89, 93, 94, 96, 90, 85, 86] s.heap.size) s.heap H263 locsH263 → (0 ≤ x266.toInt ∧ x266.toInt ≤ 5) → (x266 = fI H263 tq (x1 : Int32).toNatClampNeg) → (tq = fR H263 a0 (K.1.2 3 6)) → (∀ j : Nat, j ≠ x1.toNatClampNeg → fI H263 tq j = fI s.heap tq j) → (x266.toInt = tk.toInt + 1) → W p l e ({ frames := 10, cells := 0, slots := 0, locals := 240 } : Room) s m (([.ref a0, .int x1, .int x2, .int x3] : List Value).toArray) below meth c H263 locsH263 0 0 Q (F0 m 35 ls264 []) := by
    intro ls264 H263 locsH263 x266 hl265 hTH263 hSH263 bx266 ex266 cy267_0 fy267_oth iv35
    refine lv_iconst (v := 0) hx hb dX3_isReached_35 (by decide) ?_
    exact J36 ls264 H263 locsH263 (0) (x266) (lv_sub hl265 [0, 1] rfl) hTH263 hSH263 (by decide) (by have := i_rng x266; omega) ex266 cy267_0 fy267_oth (by omega)
  refine lv_aload_n hx hb dX3_isReached_0 rfl (lv_at hl 0 rfl) ?_
  refine lv_iload_n hx hb dX3_isReached_1 rfl (lv_at hl 1 rfl) ?_
  refine lv_iconst (v := 1) hx hb dX3_isReached_2 (by decide) ?_
  refine x_V (As := [.int x1, .int 1]) (rest := []) C (a_X3_move_p l K G s.heap (x1) (1) (tk) hT ga0 (by omega) (by decide) gtq etq etk (by omega)) yo_X3_move wM_X3_109 ⟨⟨by decide, by decide⟩, by decide, by decide⟩ (x_rv C hT (ci := 3) rfl ga0 rg_89) rfl hl.1 rfl (Nat.le_of_ble_eq_true rfl) dX3_isReached_3 hS (AE_sub (fun _ _ => rfl) (by decide) hS.1) (fun vH268 H268 locsH268 pH268 zH268 kH268 hSH268 => ?_)
  obtain ⟨x269, hvH268, ex269, hrH268, m270, m271, hTH268⟩ := pH268
  subst hvH268
  have bx269 := ty_ai (x := x269) ex269 hTH268 gtq rg_96 (by omega)
  have f272 : ∀ j : Nat, j ≠ x1.toNatClampNeg → fI H268 tq j = fI s.heap tq j := fun j hj => (m271 j hj).trans (f0_oth j hj)
  refine W.eq (g2 := F0 m 6 ls []) rfl ?_
  refine lv_aload_n hx hb dX3_isReached_6 rfl (lv_at hl 0 rfl) ?_
  refine x_gr C hTH268 (ci := 3) (k := 8) rfl inX3 (by decide) wF_X3_39 ga0 rg_89 rfl dX3_isReached_7 (fun q273 eq273 gq273 => ?_)
  refine lv_aload_n hx hb dX3_isReached_10 rfl (lv_at hl 0 rfl) ?_
  refine x_gi C hTH268 (ci := 3) (k := 11) rfl inX3 (by decide) wF_X3_59 ga0 rg_89 rfl dX3_isReached_11 (fun x274 ex274 bx274 => ?_)
  refine x_V (As := [.int x274]) (rest := []) C (a_X2_add_met l K G H268 (x274) hTH268 gq273) yo_X2_add wM_X3_113 ⟨⟨by decide, by decide⟩, by decide, by decide⟩ (x_rv C hTH268 (ci := 2) rfl gq273 rg_85) rfl hl.1 rfl (Nat.le_of_ble_eq_true rfl) dX3_isReached_14 hSH268 (AE_sub (fun _ _ => rfl) (by decide) hSH268.1) (fun vH275 H275 locsH275 pH275 zH275 kH275 hSH275 => ?_)
  obtain ⟨x276, hvH275, bx276, hTH275⟩ := pH275
  subst hvH275
  have f277 : ∀ j : Nat, j ≠ x1.toNatClampNeg → fI H275 tq j = fI s.heap tq j := fun j hj => (fI_kept (x_lt hTH268 kH275 gtq (by decide))).trans (f272 j hj)
  have m278 := (m270).trans (fR_kept (x_lt hTH268 kH275 ga0 (by decide))).symm
  have m279 := (ex269).trans (fI_kept (x_lt hTH268 kH275 gtq (by decide))).symm
  have m280 := (eq273).trans (fR_kept (x_lt hTH268 kH275 ga0 (by decide))).symm
  have m281 := (ex274).trans (fI_kept (x_lt hTH268 kH275 ga0 (by decide))).symm
  refine W.eq (g2 := F0 m 17 ls [.int x276]) rfl ?_
  refine lv_if_eq (tgt := 35) hx hb dX3_isReached_17 (by decide) (fun c282 => ?_) (fun c282 => ?_)
  · have k283 := i_eq c282
    exact J35 ls H275 locsH275 (x269) (lv_sub hl [0, 1] rfl) hTH275 hSH275 (by have := i_rng x269; omega) m279 m278 f277 (by omega)
  · have k283 := i_ne c282
    refine lv_aload_n hx hb dX3_isReached_20 rfl (lv_at hl 0 rfl) ?_
    refine lv_iload_n hx hb dX3_isReached_21 rfl (lv_at hl 2 rfl) ?_
    refine lv_iconst (v := 1) hx hb dX3_isReached_22 (by decide) ?_
    refine lv_iadd hx hb dX3_isReached_23 ?_
    refine lv_topi (fun x284 ex284 => ?_)
    have tx284 := i_add ex284 (by omega)
    refine lv_iload_n hx hb dX3_isReached_24 rfl (lv_at hl 3 rfl) ?_
    refine x_V (As := [.int x284, .int x3]) (rest := []) C (a_X3_goOn_1 l K G H275 (x284) (x3) hTH275 ga0 (by omega) gtq m278) yo_X3_goOn wM_X3_97 ⟨⟨by decide, by decide⟩, by decide, by decide⟩ (x_rv C hTH275 (ci := 3) rfl ga0 rg_89) rfl hl.1 rfl (Nat.le_of_ble_eq_true rfl) dX3_isReached_25 hSH275 (AE_sub (fun _ _ => rfl) (by decide) hSH275.1) (fun vH285 H285 locsH285 pH285 zH285 kH285 hSH285 => ?_)
    obtain ⟨x286, hvH285, bx286, m287, m288, hTH285⟩ := pH285
    subst hvH285
    have m289 := (m279).trans (m288 _).symm
    have f290 : ∀ j : Nat, j ≠ x1.toNatClampNeg → fI H285 tq j = fI s.heap tq j := fun j hj => (m288 j).trans (f277 j hj)
    refine W.eq (g2 := F0 m 28 ls [.int x286]) rfl ?_
    refine lv_if_eq (tgt := 35) hx hb dX3_isReached_28 (by decide) (fun c291 => ?_) (fun c291 => ?_)
    · have k292 := i_eq c291
      exact J35 ls H285 locsH285 (x269) (lv_sub hl [0, 1] rfl) hTH285 hSH285 (by have := i_rng x269; omega) m289 m287 f290 (by omega)
    · have k292 := i_ne c291
      refine lv_iconst (v := 1) hx hb dX3_isReached_31 (by decide) ?_
      refine lv_goto (tgt := 36) hx hb dX3_isReached_32 (by decide) ?_
      exact J36 ls H285 locsH285 (1) (x269) (lv_sub hl [0, 1] rfl) hTH285 hSH285 (by decide) (by have := i_rng x269; omega) m289 m287 f290 (by omega)

set_option maxHeartbeats 4000000 in
set_option maxRecDepth 100000 in
theorem a_X3_goOn_0 (l : Launch) (K : KE) (G : Nat → Option Nat) (H : Heap) {a0 : Nat} (x1 : Int32) (x2 : Int32) {tq : Nat} (hT : TY K G H) (ga0 : G a0 = some 89) (hx1 : 0 ≤ x1.toInt ∧ x1.toInt ≤ 5) (gtq : G tq = some 96) (etq : tq = fR H a0 (K.1.2 3 6)) : MX l K yX3_goOn cX3_goOn 5 (some .boolean) 11 264 0 0 [.ref a0, .int x1, .int x2] H (AE G [89, 93, 94, 96, 90, 85, 86] H.size) (fun v H1 => ∃ (r : Int32), v = some (.int r) ∧ (0 ≤ r.toInt ∧ r.toInt ≤ 1) ∧ tq = fR H1 a0 (K.1.2 3 6) ∧ (∀ j : Nat, fI H1 tq j = fI H tq j) ∧ TY K G H1) := by
  refine MX.of (by decide +kernel) (Nat.le_of_ble_eq_true rfl) ?_
  intro p e s m below meth c ls Q C hH hl hQ
  subst hH
  have C : CX p K s m _ meth c RX3 cX3_goOn 5 (some .boolean) "goOn" := C
  obtain ⟨hx, hb, hml, hown, hts, hKT, hr, hlocks, hnm⟩ := id C
  have hl : lv_has ls 5 [(0, .ref a0), (1, .int x1), (2, .int x2)] := hl
  have hS : va_S (AE G [89, 93, 94, 96, 90, 85, 86] s.heap.size) s.heap s.heap [] := va_S.rf
  have n_0 : (0 : Int32).toInt = 0 := rfl
  have n_1 : (1 : Int32).toInt = 1 := rfl
  have n_5 : (5 : Int32).toInt = 5 := rfl
  have f0_all : ∀ j : Nat, fI s.heap tq j = fI s.heap tq j := fun _ => rfl
  have J10 : ∀ (ls714 : Array Slot) (H713 : Heap) (locsH713 : List Loc) , lv_has ls714 5 [] → TY K G H713 → va_S (AE G [89, 93, 94, 96, 90, 85, 86] s.heap.size) s.heap H713 locsH713 → (tq = fR H713 a0 (K.1.2 3 6)) → (∀ j : Nat, fI H713 tq j = fI s.heap tq j) → W p l e ({ frames := 11, cells := 0, slots := 0, locals := 264 } : Room) s m (([.ref a0, .int x1, .int x2] : List Value).toArray) below meth c H713 locsH713 0 0 Q (F0 m 10 ls714 []) := by
    intro ls714 H713 locsH713  hl715 hTH713 hSH713 cy716_0 fy716_all
    refine lv_iconst (v := 0) hx hb dX3_goOn_10 (by decide) ?_
    exact x_zret C hQ (Or.inl rfl) dX3_goOn_11 hSH713 (by decide) (by decide) (⟨0, rfl, by decide, cy716_0, fy716_all, hTH713⟩)
  have J24 : ∀ (ls718 : Array Slot) (H717 : Heap) (locsH717 : List Loc) (x722 : Int32), lv_has ls718 5 [(0, .ref a0), (1, .int x1), (2, .int x2)] → TY K G H717 → va_S (AE G [89, 93, 94, 96, 90, 85, 86] s.heap.size) s.heap H717 locsH717 → (0 ≤ x1.toInt ∧ x1.toInt ≤ 4) → (1 ≤ x2.toInt ∧ x2.toInt ≤ 2147483647) → (0 ≤ x722.toInt ∧ x722.toInt ≤ 1) → (tq = fR H717 a0 (K.1.2 3 6)) → (∀ j : Nat, fI H717 tq j = fI s.heap tq j) → W p l e ({ frames := 11, cells := 0, slots := 0, locals := 264 } : Room) s m (([.ref a0, .int x1, .int x2] : List Value).toArray) below meth c H717 locsH717 0 0 Q (F0 m 24 ls718 [.int x722]) := by
    intro ls718 H717 locsH717 x722 hl719 hTH717 hSH717 b720 b721 bx722 cy723_0 fy723_all
    have J28 : ∀ (nf : Nat) (ls725 : Array Slot) (H724 : Heap) (locsH724 : List Loc) (x727 : Int32) (x728 : Int32), lv_has ls725 5 [(0, .ref a0), (1, .int x1), (2, .int x2), (3, .int x727), (4, .int x728)] → TY K G H724 → va_S (AE G [89, 93, 94, 96, 90, 85, 86] s.heap.size) s.heap H724 locsH724 → (0 ≤ x727.toInt ∧ x727.toInt ≤ 1) → (0 ≤ x728.toInt ∧ x728.toInt ≤ 8) → (tq = fR H724 a0 (K.1.2 3 6)) → (∀ j : Nat, fI H724 tq j = fI s.heap tq j) → (8 - x728.toInt < (nf : Int)) → W p l e ({ frames := 11, cells := 0, slots := 0, locals := 264 } : Room) s m (([.ref a0, .int x1, .int x2] : List Value).toArray) below meth c H724 locsH724 0 0 Q (F0 m 28 ls725 []) := by
      intro nf
      induction nf with
      | zero =>
        intro ls725 H724 locsH724 x727 x728 hl726 hTH724 hSH724 bx727 bx728 cy729_0 fy729_all hm28
        exfalso
        omega
      | succ nf ih28 =>
        intro ls725 H724 locsH724 x727 x728 hl726 hTH724 hSH724 bx727 bx728 cy729_0 fy729_all hm28
        have J89 : ∀ (ls731 : Array Slot) (H730 : Heap) (locsH730 : List Loc) , lv_has ls731 5 [(0, .ref a0), (1, .int x1), (2, .int x2), (3, .int x727), (4, .int x728)] → TY K G H730 → va_S (AE G [89, 93, 94, 96, 90, 85, 86] s.heap.size) s.heap H730 locsH730 → (0 ≤ x728.toInt ∧ x728.toInt ≤ 7) → (tq = fR H730 a0 (K.1.2 3 6)) → (∀ j : Nat, fI H730 tq j = fI s.heap tq j) → W p l e ({ frames := 11, cells := 0, slots := 0, locals := 264 } : Room) s m (([.ref a0, .int x1, .int x2] : List Value).toArray) below meth c H730 locsH730 0 0 Q (F0 m 89 ls731 []) := by
          intro ls731 H730 locsH730  hl732 hTH730 hSH730 b733 cy734_0 fy734_all
          obtain ⟨x735, ex735⟩ : ∃ y : Int32, y = x728 + 1 := ⟨_, rfl⟩
          have tx735 := i_add ex735 (by omega)
          refine lv_iinc (v := x735) (lv' := [(4, .int x735), (0, .ref a0), (1, .int x1), (2, .int x2), (3, .int x727)]) hx hb dX3_goOn_89 hl732 (k := 4) rfl (by rw [ex735]; rfl) (by decide) rfl (fun ls736 hl737 => ?_)
          refine lv_goto (tgt := 28) hx hb dX3_goOn_92 (by decide) ?_
          exact ih28 ls736 H730 locsH730 (x727) (x735) (lv_sub hl737 [1, 2, 3, 4, 0] rfl) hTH730 hSH730 (by have := i_rng x727; omega) (by have := i_rng x735; omega) cy734_0 fy734_all (by omega)
        have J87 : ∀ (ls739 : Array Slot) (H738 : Heap) (locsH738 : List Loc) , lv_has ls739 5 [] → TY K G H738 → va_S (AE G [89, 93, 94, 96, 90, 85, 86] s.heap.size) s.heap H738 locsH738 → (tq = fR H738 a0 (K.1.2 3 6)) → (∀ j : Nat, fI H738 tq j = fI s.heap tq j) → W p l e ({ frames := 11, cells := 0, slots := 0, locals := 264 } : Room) s m (([.ref a0, .int x1, .int x2] : List Value).toArray) below meth c H738 locsH738 0 0 Q (F0 m 87 ls739 []) := by
          intro ls739 H738 locsH738  hl740 hTH738 hSH738 cy741_0 fy741_all
          refine lv_iconst (v := 1) hx hb dX3_goOn_87 (by decide) ?_
          exact x_zret C hQ (Or.inr rfl) dX3_goOn_88 hSH738 (by decide) (by decide) (⟨1, rfl, by decide, cy741_0, fy741_all, hTH738⟩)
        refine lv_iload hx hb dX3_goOn_28 (lv_at hl726 4 rfl) ?_
        refine lv_aload_n hx hb dX3_goOn_30 rfl (lv_at hl726 0 rfl) ?_
        refine x_gi C hTH724 (ci := 3) (k := 9) rfl inX3 (by decide) wF_X3_55 ga0 rg_89 rfl dX3_goOn_31 (fun x742 ex742 bx742 => ?_)
        refine lv_icmp_ge (tgt := 95) hx hb dX3_goOn_34 (by decide) (fun c743 => ?_) (fun c743 => ?_)
        · have k744 := i_le c743
          refine lv_iconst (v := 0) hx hb dX3_goOn_95 (by decide) ?_
          exact x_zret C hQ (Or.inl rfl) dX3_goOn_96 hSH724 (by decide) (by decide) (⟨0, rfl, by decide, cy729_0, fy729_all, hTH724⟩)
        · have k744 := i_nle c743
          refine lv_aload_n hx hb dX3_goOn_37 rfl (lv_at hl726 0 rfl) ?_
          refine x_gr C hTH724 (ci := 3) (k := 6) rfl inX3 (by decide) wF_X3_30 ga0 rg_89 rfl dX3_goOn_38 (fun q745 eq745 gq745 => ?_)
          have uq745 : tq = q745 := (cy729_0).trans eq745.symm
          subst uq745
          refine lv_iload hx hb dX3_goOn_41 (lv_at hl726 4 rfl) ?_
          refine x_ai C hTH724 gtq rg_96 ⟨by omega, by show _ < ((8 : Nat) : Int); omega⟩ dX3_goOn_43 (fun x746 ex746 bx746 => ?_)
          refine lv_aload_n hx hb dX3_goOn_44 rfl (lv_at hl726 0 rfl) ?_
          refine x_gr C hTH724 (ci := 3) (k := 7) rfl inX3 (by decide) wF_X3_33 ga0 rg_89 rfl dX3_goOn_45 (fun q747 eq747 gq747 => ?_)
          refine lv_iload hx hb dX3_goOn_48 (lv_at hl726 4 rfl) ?_
          refine x_ai C hTH724 gq747 rg_97 ⟨by omega, by show _ < ((8 : Nat) : Int); omega⟩ dX3_goOn_50 (fun x748 ex748 bx748 => ?_)
          refine lv_icmp_ge (tgt := 89) hx hb dX3_goOn_51 (by decide) (fun c749 => ?_) (fun c749 => ?_)
          · have k750 := i_le c749
            exact J89 ls725 H724 locsH724 (lv_sub hl726 [0, 1, 2, 3, 4] rfl) hTH724 hSH724 (by have := i_rng x728; omega) cy729_0 fy729_all
          · have k750 := i_nle c749
            refine lv_aload_n hx hb dX3_goOn_54 rfl (lv_at hl726 0 rfl) ?_
            refine lv_iload hx hb dX3_goOn_55 (lv_at hl726 4 rfl) ?_
            refine lv_iload_n hx hb dX3_goOn_57 rfl (lv_at hl726 3 rfl) ?_
            refine x_V (As := [.int x728, .int x727]) (rest := []) C (a_X3_isNearBehind l K G H724 (x728) (x727) (x746) hTH724 ga0 (by omega) (by omega) gtq cy729_0 ex746 (by omega)) yo_X3_isNearBehind wM_X3_101 ⟨⟨by decide, by decide⟩, by decide, by decide⟩ (x_rv C hTH724 (ci := 3) rfl ga0 rg_89) rfl hl726.1 rfl (Nat.le_of_ble_eq_true rfl) dX3_goOn_58 hSH724 (AE_sub (fun _ _ => rfl) (by decide) hSH724.1) (fun vH751 H751 locsH751 pH751 zH751 kH751 hSH751 => ?_)
            obtain ⟨x752, hvH751, bx752, hTH751⟩ := pH751
            subst hvH751
            have f753 : ∀ j : Nat, fI H751 tq j = fI s.heap tq j := fun j => (fI_kept (x_lt hTH724 kH751 gtq (by decide))).trans (fy729_all j)
            have m754 := (cy729_0).trans (fR_kept (x_lt hTH724 kH751 ga0 (by decide))).symm
            have m755 := (ex742).trans (fI_kept (x_lt hTH724 kH751 ga0 (by decide))).symm
            have m756 := (ex746).trans (fI_kept (x_lt hTH724 kH751 gtq (by decide))).symm
            have m757 := (eq747).trans (fR_kept (x_lt hTH724 kH751 ga0 (by decide))).symm
            have m758 := (ex748).trans (fI_kept (x_lt hTH724 kH751 gq747 (by decide))).symm
            refine W.eq (g2 := F0 m 61 ls725 [.int x752]) rfl ?_
            refine lv_if_eq (tgt := 89) hx hb dX3_goOn_61 (by decide) (fun c759 => ?_) (fun c759 => ?_)
            · have k760 := i_eq c759
              exact J89 ls725 H751 locsH751 (lv_sub hl726 [0, 1, 2, 3, 4] rfl) hTH751 hSH751 (by have := i_rng x728; omega) m754 f753
            · have k760 := i_ne c759
              refine lv_aload_n hx hb dX3_goOn_64 rfl (lv_at hl726 0 rfl) ?_
              refine x_gr C hTH751 (ci := 3) (k := 0) rfl inX3 (by decide) wF_X3_11 ga0 rg_89 rfl dX3_goOn_65 (fun q761 eq761 gq761 => ?_)
              refine lv_iload_n hx hb dX3_goOn_68 rfl (lv_at hl726 1 rfl) ?_
              refine lv_iload hx hb dX3_goOn_69 (lv_at hl726 4 rfl) ?_
              refine x_iast C hTH751 hSH751 gq761 rg_90 (by omega) (by show _ < ((5 : Nat) : Int); omega) ⟨by have := i_rng x728; omega, by have := i_rng x728; omega⟩ (AE_in gq761 (by decide)) dX3_goOn_71 (fun H762 locsH762 hTH762 hSH762 wH762 => ?_)
              have f763 : ∀ j : Nat, fI H762 tq j = fI s.heap tq j := fun j => (Wr.neI wH762 (Or.inl (G_ne gtq gq761 (by decide)))).trans (f753 j)
              have m764 := m754.trans (Wr.neR wH762 (Or.inl (G_ne ga0 gq761 (by decide)))).symm
              have m765 := m755.trans (Wr.neI wH762 (Or.inl (G_ne ga0 gq761 (by decide)))).symm
              have m766 := m756.trans (Wr.neI wH762 (Or.inl (G_ne gtq gq761 (by decide)))).symm
              have m767 := m757.trans (Wr.neR wH762 (Or.inl (G_ne ga0 gq761 (by decide)))).symm
              have m768 := m758.trans (Wr.neI wH762 (Or.inl (G_ne gq747 gq761 (by decide)))).symm
              have m769 := eq761.trans (Wr.neR wH762 (Or.inl (G_ne ga0 gq761 (by decide)))).symm
              have m770 := Wr.I wH762
              have m770 := m770.symm
              refine lv_iload_n hx hb dX3_goOn_72 rfl (lv_at hl726 3 rfl) ?_
              refine lv_if_ne (tgt := 87) hx hb dX3_goOn_73 (by decide) (fun c771 => ?_) (fun c771 => ?_)
              · have k772 := i_ne c771
                exact J87 ls725 H762 locsH762 (lv_sub hl726 [] rfl) hTH762 hSH762 m764 f763
              · have k772 := i_eq c771
                refine lv_aload_n hx hb dX3_goOn_76 rfl (lv_at hl726 0 rfl) ?_
                refine lv_iload hx hb dX3_goOn_77 (lv_at hl726 4 rfl) ?_
                refine lv_iload_n hx hb dX3_goOn_79 rfl (lv_at hl726 1 rfl) ?_
                refine lv_iload_n hx hb dX3_goOn_80 rfl (lv_at hl726 2 rfl) ?_
                refine x_V (As := [.int x728, .int x1, .int x2]) (rest := []) C (a_X3_isReached_0 l K G H762 (x728) (x1) (x2) (x746) hTH762 ga0 (by omega) (by omega) gtq m764 m766 (by omega)) yo_X3_isReached wM_X3_105 ⟨⟨by decide, by decide⟩, by decide, by decide⟩ (x_rv C hTH762 (ci := 3) rfl ga0 rg_89) rfl hl726.1 rfl (Nat.le_of_ble_eq_true rfl) dX3_goOn_81 hSH762 (AE_sub (fun _ _ => rfl) (by decide) hSH762.1) (fun vH773 H773 locsH773 pH773 zH773 kH773 hSH773 => ?_)
                obtain ⟨x774, x775, hvH773, bx774, ex775, m776, m777, hTH773⟩ := pH773
                subst hvH773
                have m778 := (m768).trans (fI_kept (x_lt hTH762 kH773 gq747 (by decide))).symm
                have bx775 := ty_ai (x := x775) ex775 hTH773 gtq rg_96 (by omega)
                have f779 : ∀ j : Nat, fI H773 tq j = fI s.heap tq j := fun j => (m777 j).trans (f763 j)
                refine W.eq (g2 := F0 m 84 ls725 [.int x774]) rfl ?_
                refine lv_if_eq (tgt := 89) hx hb dX3_goOn_84 (by decide) (fun c780 => ?_) (fun c780 => ?_)
                · have k781 := i_eq c780
                  exact J89 ls725 H773 locsH773 (lv_sub hl726 [0, 1, 2, 3, 4] rfl) hTH773 hSH773 (by have := i_rng x728; omega) m776 f779
                · have k781 := i_ne c780
                  exact J87 ls725 H773 locsH773 (lv_sub hl726 [] rfl) hTH773 hSH773 m776 f779
    refine lv_istore_n (lv' := [(3, .int x722), (0, .ref a0), (1, .int x1), (2, .int x2)]) hx hb dX3_goOn_24 rfl hl719 (by decide) rfl (fun ls782 hl783 => ?_)
    refine lv_iconst (v := 0) hx hb dX3_goOn_25 (by decide) ?_
    refine lv_istore (lv' := [(4, .int 0), (3, .int x722), (0, .ref a0), (1, .int x1), (2, .int x2)]) hx hb dX3_goOn_26 hl783 (by decide) rfl (fun ls784 hl785 => ?_)
    exact J28 ((8 - (0 : Int32).toInt).toNat + 1) ls784 H717 locsH717 (x722) (0) (lv_sub hl785 [2, 3, 4, 1, 0] rfl) hTH717 hSH717 (by have := i_rng x722; omega) (by decide) cy723_0 fy723_all (by omega)
  refine lv_iload_n hx hb dX3_goOn_0 rfl (lv_at hl 1 rfl) ?_
  refine lv_iload_n hx hb dX3_goOn_1 rfl (lv_at hl 2 rfl) ?_
  refine lv_icmp_ge (tgt := 10) hx hb dX3_goOn_2 (by decide) (fun c786 => ?_) (fun c786 => ?_)
  · have k787 := i_le c786
    exact J10 ls s.heap [] (lv_sub hl [] rfl) hT hS etq f0_all
  · have k787 := i_nle c786
    refine lv_iload_n hx hb dX3_goOn_5 rfl (lv_at hl 1 rfl) ?_
    refine lv_iconst (v := 5) hx hb dX3_goOn_6 (by decide) ?_
    refine lv_icmp_lt (tgt := 12) hx hb dX3_goOn_7 (by decide) (fun c788 => ?_) (fun c788 => ?_)
    · have k789 := i_lt c788
      refine lv_iload_n hx hb dX3_goOn_12 rfl (lv_at hl 1 rfl) ?_
      refine lv_iconst (v := 1) hx hb dX3_goOn_13 (by decide) ?_
      refine lv_iadd hx hb dX3_goOn_14 ?_
      refine lv_topi (fun x790 ex790 => ?_)
      have tx790 := i_add ex790 (by omega)
      refine lv_iload_n hx hb dX3_goOn_15 rfl (lv_at hl 2 rfl) ?_
      refine lv_icmp_ne (tgt := 23) hx hb dX3_goOn_16 (by decide) (fun c791 => ?_) (fun c791 => ?_)
      · have k792 := i_ne c791
        refine lv_iconst (v := 0) hx hb dX3_goOn_23 (by decide) ?_
        exact J24 ls s.heap [] (0) (lv_sub hl [0, 1, 2] rfl) hT hS (by have := i_rng x1; omega) (by have := i_rng x2; omega) (by decide) etq f0_all
      · have k792 := i_eq c791
        refine lv_iconst (v := 1) hx hb dX3_goOn_19 (by decide) ?_
        refine lv_goto (tgt := 24) hx hb dX3_goOn_20 (by decide) ?_
        exact J24 ls s.heap [] (1) (lv_sub hl [0, 1, 2] rfl) hT hS (by have := i_rng x1; omega) (by have := i_rng x2; omega) (by decide) etq f0_all
    · have k789 := i_nlt c788
      exact J10 ls s.heap [] (lv_sub hl [] rfl) hT hS etq f0_all

set_option maxHeartbeats 4000000 in
set_option maxRecDepth 100000 in
theorem a_X3_find (l : Launch) (K : KE) (G : Nat → Option Nat) (H : Heap) {a0 : Nat} (hT : TY K G H) (ga0 : G a0 = some 89) : MX l K yX3_find cX3_find 2 (some .int) 12 288 0 0 [.ref a0] H (AE G [89, 93, 94, 96, 90, 85, 86] H.size) (fun v H1 => ∃ (r : Int32), v = some (.int r) ∧ ((-1) ≤ r.toInt ∧ r.toInt ≤ 5) ∧ TY K G H1) := by
  refine MX.of (by decide +kernel) (Nat.le_of_ble_eq_true rfl) ?_
  intro p e s m below meth c ls Q C hH hl hQ
  subst hH
  have C : CX p K s m _ meth c RX3 cX3_find 2 (some .int) "find" := C
  obtain ⟨hx, hb, hml, hown, hts, hKT, hr, hlocks, hnm⟩ := id C
  have hl : lv_has ls 2 [(0, .ref a0)] := hl
  have hS : va_S (AE G [89, 93, 94, 96, 90, 85, 86] s.heap.size) s.heap s.heap [] := va_S.rf
  have n_m1 : ((-1) : Int32).toInt = -1 := rfl
  have n_0 : (0 : Int32).toInt = 0 := rfl
  have n_1 : (1 : Int32).toInt = 1 := rfl
  have n_5 : (5 : Int32).toInt = 5 := rfl
  have J11 : ∀ (nf : Nat) (ls270 : Array Slot) (H269 : Heap) (locsH269 : List Loc) (x272 : Int32), lv_has ls270 2 [(0, .ref a0), (1, .int x272)] → TY K G H269 → va_S (AE G [89, 93, 94, 96, 90, 85, 86] s.heap.size) s.heap H269 locsH269 → (1 ≤ x272.toInt ∧ x272.toInt ≤ 6) → (6 - x272.toInt < (nf : Int)) → W p l e ({ frames := 12, cells := 0, slots := 0, locals := 288 } : Room) s m (([.ref a0] : List Value).toArray) below meth c H269 locsH269 0 0 Q (F0 m 11 ls270 []) := by
    intro nf
    induction nf with
    | zero =>
      intro ls270 H269 locsH269 x272 hl271 hTH269 hSH269 bx272 hm11
      exfalso
      omega
    | succ nf ih11 =>
      intro ls270 H269 locsH269 x272 hl271 hTH269 hSH269 bx272 hm11
      refine lv_iload_n hx hb dX3_find_11 rfl (lv_at hl271 1 rfl) ?_
      refine lv_iconst (v := 5) hx hb dX3_find_12 (by decide) ?_
      refine lv_icmp_gt (tgt := 40) hx hb dX3_find_13 (by decide) (fun c274 => ?_) (fun c274 => ?_)
      · have k275 := i_lt c274
        refine lv_iconst (v := (-1)) hx hb dX3_find_40 (by decide) ?_
        exact x_iret C hQ dX3_find_41 hSH269 (by decide) (by decide) (⟨(-1), rfl, by decide, hTH269⟩)
      · have k275 := i_nlt c274
        refine lv_aload_n hx hb dX3_find_16 rfl (lv_at hl271 0 rfl) ?_
        refine x_gr C hTH269 (ci := 3) (k := 8) rfl inX3 (by decide) wF_X3_39 ga0 rg_89 rfl dX3_find_17 (fun q276 eq276 gq276 => ?_)
        refine x_V (As := []) (rest := []) C (a_X2_clear_met l K G H269  hTH269 gq276) yo_X2_clear wM_X3_94 ⟨⟨by decide, by decide⟩, by decide, by decide⟩ (x_rv C hTH269 (ci := 2) rfl gq276 rg_85) rfl hl271.1 rfl (Nat.le_of_ble_eq_true rfl) dX3_find_20 hSH269 (AE_sub (fun _ _ => rfl) (by decide) hSH269.1) (fun vH277 H277 locsH277 pH277 zH277 kH277 hSH277 => ?_)
        obtain ⟨hvH277, hTH277⟩ := pH277
        subst hvH277
        have m278 := (eq276).trans (fR_kept (x_lt hTH269 kH277 ga0 (by decide))).symm
        refine W.eq (g2 := F0 m 23 ls270 []) rfl ?_
        refine lv_aload_n hx hb dX3_find_23 rfl (lv_at hl271 0 rfl) ?_
        refine lv_iconst (v := 0) hx hb dX3_find_24 (by decide) ?_
        refine lv_iload_n hx hb dX3_find_25 rfl (lv_at hl271 1 rfl) ?_
        obtain ⟨q279, eq279⟩ : ∃ z : Nat, z = fR H277 a0 (K.1.2 3 6) := ⟨_, rfl⟩
        have gq279 := ty_fr (q := q279) (k := 6) (u := 96) eq279 hTH277 ga0 rg_89 rfl
        refine x_V (As := [.int 0, .int x272]) (rest := []) C (a_X3_goOn_0 l K G H277 (0) (x272) hTH277 ga0 (by decide) gq279 eq279) yo_X3_goOn wM_X3_97 ⟨⟨by decide, by decide⟩, by decide, by decide⟩ (x_rv C hTH277 (ci := 3) rfl ga0 rg_89) rfl hl271.1 rfl (Nat.le_of_ble_eq_true rfl) dX3_find_26 hSH277 (AE_sub (fun _ _ => rfl) (by decide) hSH277.1) (fun vH280 H280 locsH280 pH280 zH280 kH280 hSH280 => ?_)
        obtain ⟨x281, hvH280, bx281, m282, m283, hTH280⟩ := pH280
        subst hvH280
        refine W.eq (g2 := F0 m 29 ls270 [.int x281]) rfl ?_
        refine lv_if_eq (tgt := 34) hx hb dX3_find_29 (by decide) (fun c284 => ?_) (fun c284 => ?_)
        · have k285 := i_eq c284
          obtain ⟨x286, ex286⟩ : ∃ y : Int32, y = x272 + 1 := ⟨_, rfl⟩
          have tx286 := i_add ex286 (by omega)
          refine lv_iinc (v := x286) (lv' := [(1, .int x286), (0, .ref a0)]) hx hb dX3_find_34 hl271 (k := 1) rfl (by rw [ex286]; rfl) (by decide) rfl (fun ls287 hl288 => ?_)
          refine lv_goto (tgt := 11) hx hb dX3_find_37 (by decide) ?_
          exact ih11 ls287 H280 locsH280 (x286) (lv_sub hl288 [1, 0] rfl) hTH280 hSH280 (by have := i_rng x286; omega) (by omega)
        · have k285 := i_ne c284
          refine lv_iload_n hx hb dX3_find_32 rfl (lv_at hl271 1 rfl) ?_
          exact x_iret C hQ dX3_find_33 hSH280 (by decide) (by decide) (⟨x272, rfl, by omega, hTH280⟩)
  refine lv_aload_n hx hb dX3_find_0 rfl (lv_at hl 0 rfl) ?_
  refine x_V (As := []) (rest := []) C (a_X3_isTrueNow l K G s.heap  hT ga0) yo_X3_isTrueNow wM_X3_90 ⟨⟨by decide, by decide⟩, by decide, by decide⟩ (x_rv C hT (ci := 3) rfl ga0 rg_89) rfl hl.1 rfl (Nat.le_of_ble_eq_true rfl) dX3_find_1 hS (AE_sub (fun _ _ => rfl) (by decide) hS.1) (fun vH289 H289 locsH289 pH289 zH289 kH289 hSH289 => ?_)
  obtain ⟨x290, hvH289, bx290, hTH289⟩ := pH289
  subst hvH289
  refine W.eq (g2 := F0 m 4 ls [.int x290]) rfl ?_
  refine lv_if_eq (tgt := 9) hx hb dX3_find_4 (by decide) (fun c291 => ?_) (fun c291 => ?_)
  · have k292 := i_eq c291
    refine lv_iconst (v := 1) hx hb dX3_find_9 (by decide) ?_
    refine lv_istore_n (lv' := [(1, .int 1), (0, .ref a0)]) hx hb dX3_find_10 rfl hl (by decide) rfl (fun ls293 hl294 => ?_)
    exact J11 ((6 - (1 : Int32).toInt).toNat + 1) ls293 H289 locsH289 (1) (lv_sub hl294 [1, 0] rfl) hTH289 hSH289 (by decide) (by omega)
  · have k292 := i_ne c291
    refine lv_iconst (v := 0) hx hb dX3_find_7 (by decide) ?_
    exact x_iret C hQ dX3_find_8 hSH289 (by decide) (by decide) (⟨0, rfl, by decide, hTH289⟩)

set_option maxHeartbeats 4000000 in
set_option maxRecDepth 100000 in
theorem a_X1_place (l : Launch) (K : KE) (G : Nat → Option Nat) (H : Heap) (x0 : Int32) (x1 : Int32) (x2 : Int32) (hT : TY K G H) (hx0 : 0 ≤ x0.toInt ∧ x0.toInt ≤ 11) (hx1 : 0 ≤ x1.toInt ∧ x1.toInt ≤ 4) (hx2 : 0 ≤ x2.toInt ∧ x2.toInt ≤ 3) : MX l K yX1_place cX1_place 3 (some .int) 0 0 0 0 [.int x0, .int x1, .int x2] H (AE G [] H.size) (fun v H1 => ∃ (r : Int32), v = some (.int r) ∧ (0 ≤ r.toInt ∧ r.toInt ≤ 239) ∧ TY K G H1) := by
  refine MX.of (by decide +kernel) (Nat.le_of_ble_eq_true rfl) ?_
  intro p e s m below meth c ls Q C hH hl hQ
  subst hH
  have C : CX p K s m _ meth c RX1 cX1_place 3 (some .int) "place" := C
  obtain ⟨hx, hb, hml, hown, hts, hKT, hr, hlocks, hnm⟩ := id C
  have hl : lv_has ls 3 [(0, .int x0), (1, .int x1), (2, .int x2)] := hl
  have hS : va_S (AE G [] s.heap.size) s.heap s.heap [] := va_S.rf
  have n_4 : (4 : Int32).toInt = 4 := rfl
  have n_5 : (5 : Int32).toInt = 5 := rfl
  refine lv_iload_n hx hb dX1_place_0 rfl (lv_at hl 0 rfl) ?_
  refine lv_iconst (v := 5) hx hb dX1_place_1 (by decide) ?_
  refine lv_imul hx hb dX1_place_2 ?_
  refine lv_topi (fun x117 ex117 => ?_)
  have tx117 := i_mul ex117 (by rw [n_5]; omega)
  rw [n_5] at tx117
  refine lv_iload_n hx hb dX1_place_3 rfl (lv_at hl 1 rfl) ?_
  refine lv_iadd hx hb dX1_place_4 ?_
  refine lv_topi (fun x118 ex118 => ?_)
  have tx118 := i_add ex118 (by omega)
  refine lv_iconst (v := 4) hx hb dX1_place_5 (by decide) ?_
  refine lv_imul hx hb dX1_place_6 ?_
  refine lv_topi (fun x119 ex119 => ?_)
  have tx119 := i_mul ex119 (by rw [n_4]; omega)
  rw [n_4] at tx119
  refine lv_iload_n hx hb dX1_place_7 rfl (lv_at hl 2 rfl) ?_
  refine lv_iadd hx hb dX1_place_8 ?_
  refine lv_topi (fun x120 ex120 => ?_)
  have tx120 := i_add ex120 (by omega)
  exact x_iret C hQ dX1_place_9 hS (by decide) (by decide) (⟨x120, rfl, by omega, hT⟩)

set_option maxHeartbeats 4000000 in
set_option maxRecDepth 100000 in
theorem a_X1_fill_t (l : Launch) (K : KE) (G : Nat → Option Nat) (H : Heap) {a0 : Nat} {a1 : Nat} {a2 : Nat} {a3 : Nat} (x4 : Int32) (x5 : Int32) {a6 : Nat} {a7 : Nat} (hT : TY K G H) (ga0 : G a0 = some 98) (ga1 : G a1 = some 82) (ga2 : G a2 = some 16) (ga3 : G a3 = some 1) (hx4 : 0 ≤ x4.toInt ∧ x4.toInt ≤ 11) (ga6 : G a6 = some 12) (ga7 : G a7 = some 14) : MX l K yX1_fill cX1_fill 10 none 3 75 0 0 [.ref a0, .ref a1, .ref a2, .ref a3, .int x4, .int x5, .ref a6, .ref a7] H (AE G [99, 100, 83, 84] H.size) (fun v H1 => v = none ∧ TY K G H1) := by
  refine MX.of (by decide +kernel) (Nat.le_of_ble_eq_true rfl) ?_
  intro p e s m below meth c ls Q C hH hl hQ
  subst hH
  have C : CX p K s m _ meth c RX1 cX1_fill 10 none "fill" := C
  obtain ⟨hx, hb, hml, hown, hts, hKT, hr, hlocks, hnm⟩ := id C
  have hl : lv_has ls 10 [(0, .ref a0), (1, .ref a1), (2, .ref a2), (3, .ref a3), (4, .int x4), (5, .int x5), (6, .ref a6), (7, .ref a7)] := hl
  have hS : va_S (AE G [99, 100, 83, 84] s.heap.size) s.heap s.heap [] := va_S.rf
  have n_0 : (0 : Int32).toInt = 0 := rfl
  have n_1 : (1 : Int32).toInt = 1 := rfl
  have n_5 : (5 : Int32).toInt = 5 := rfl
  have J3 : ∀ (nf : Nat) (ls926 : Array Slot) (H925 : Heap) (locsH925 : List Loc) (x928 : Int32), lv_has ls926 10 [(0, .ref a0), (1, .ref a1), (2, .ref a2), (3, .ref a3), (4, .int x4), (5, .int x5), (6, .ref a6), (7, .ref a7), (8, .int x928)] → TY K G H925 → va_S (AE G [99, 100, 83, 84] s.heap.size) s.heap H925 locsH925 → (0 ≤ x928.toInt ∧ x928.toInt ≤ 5) → (5 - x928.toInt < (nf : Int)) → W p l e ({ frames := 3, cells := 0, slots := 0, locals := 75 } : Room) s m (([.ref a0, .ref a1, .ref a2, .ref a3, .int x4, .int x5, .ref a6, .ref a7] : List Value).toArray) below meth c H925 locsH925 0 0 Q (F0 m 3 ls926 []) := by
    intro nf
    induction nf with
    | zero =>
      intro ls926 H925 locsH925 x928 hl927 hTH925 hSH925 bx928 hm3
      exfalso
      omega
    | succ nf ih3 =>
      intro ls926 H925 locsH925 x928 hl927 hTH925 hSH925 bx928 hm3
      have J107 : ∀ (ls931 : Array Slot) (H930 : Heap) (locsH930 : List Loc) , lv_has ls931 10 [] → TY K G H930 → va_S (AE G [99, 100, 83, 84] s.heap.size) s.heap H930 locsH930 → W p l e ({ frames := 3, cells := 0, slots := 0, locals := 75 } : Room) s m (([.ref a0, .ref a1, .ref a2, .ref a3, .int x4, .int x5, .ref a6, .ref a7] : List Value).toArray) below meth c H930 locsH930 0 0 Q (F0 m 107 ls931 []) := by
        intro ls931 H930 locsH930  hl932 hTH930 hSH930 
        exact x_vret C hQ dX1_fill_107 hSH930 (by decide) (by decide) (⟨rfl, hTH930⟩)
      have J21 : ∀ (nf : Nat) (ls935 : Array Slot) (H934 : Heap) (locsH934 : List Loc) (x938 : Int32), lv_has ls935 10 [(0, .ref a0), (1, .ref a1), (2, .ref a2), (3, .ref a3), (4, .int x4), (5, .int x5), (6, .ref a6), (7, .ref a7), (8, .int x928), (9, .int x938)] → TY K G H934 → va_S (AE G [99, 100, 83, 84] s.heap.size) s.heap H934 locsH934 → (0 ≤ x928.toInt ∧ x928.toInt ≤ 4) → (0 ≤ x938.toInt ∧ x938.toInt ≤ 4) → (4 - x938.toInt < (nf : Int)) → W p l e ({ frames := 3, cells := 0, slots := 0, locals := 75 } : Room) s m (([.ref a0, .ref a1, .ref a2, .ref a3, .int x4, .int x5, .ref a6, .ref a7] : List Value).toArray) below meth c H934 locsH934 0 0 Q (F0 m 21 ls935 []) := by
        intro nf
        induction nf with
        | zero =>
          intro ls935 H934 locsH934 x938 hl936 hTH934 hSH934 b937 bx938 hm21
          exfalso
          omega
        | succ nf ih21 =>
          intro ls935 H934 locsH934 x938 hl936 hTH934 hSH934 b937 bx938 hm21
          refine lv_iload hx hb dX1_fill_21 (lv_at hl936 9 rfl) ?_
          refine lv_aload_n hx hb dX1_fill_23 rfl (lv_at hl936 0 rfl) ?_
          refine x_gi C hTH934 (ci := 1) (k := 5) rfl inX1 (by decide) wF_X1_43 ga0 rg_98 rfl dX1_fill_24 (fun x940 ex940 bx940 => ?_)
          refine lv_icmp_ge (tgt := 101) hx hb dX1_fill_27 (by decide) (fun c941 => ?_) (fun c941 => ?_)
          · have k942 := i_le c941
            obtain ⟨x943, ex943⟩ : ∃ y : Int32, y = x928 + 1 := ⟨_, rfl⟩
            have tx943 := i_add ex943 (by omega)
            refine lv_iinc (v := x943) (lv' := [(8, .int x943), (0, .ref a0), (1, .ref a1), (2, .ref a2), (3, .ref a3), (4, .int x4), (5, .int x5), (6, .ref a6), (7, .ref a7), (9, .int x938)]) hx hb dX1_fill_101 hl936 (k := 8) rfl (by rw [ex943]; rfl) (by decide) rfl (fun ls944 hl945 => ?_)
            refine lv_goto (tgt := 3) hx hb dX1_fill_104 (by decide) ?_
            exact ih3 ls944 H934 locsH934 (x943) (lv_sub hl945 [1, 2, 3, 4, 5, 6, 7, 8, 0] rfl) hTH934 hSH934 (by have := i_rng x943; omega) (by omega)
          · have k942 := i_nle c941
            refine lv_aload_n hx hb dX1_fill_30 rfl (lv_at hl936 1 rfl) ?_
            refine lv_aload_n hx hb dX1_fill_31 rfl (lv_at hl936 3 rfl) ?_
            refine lv_iload hx hb dX1_fill_32 (lv_at hl936 8 rfl) ?_
            refine lv_aload hx hb dX1_fill_34 (lv_at hl936 6 rfl) ?_
            refine lv_iload hx hb dX1_fill_36 (lv_at hl936 8 rfl) ?_
            refine x_ai C hTH934 ga6 rg_12 ⟨by omega, by show _ < ((16 : Nat) : Int); omega⟩ dX1_fill_38 (fun x946 ex946 bx946 => ?_)
            refine lv_iload hx hb dX1_fill_39 (lv_at hl936 9 rfl) ?_
            refine lv_iconst (v := 1) hx hb dX1_fill_41 (by decide) ?_
            refine lv_iadd hx hb dX1_fill_42 ?_
            refine lv_topi (fun x947 ex947 => ?_)
            have tx947 := i_add ex947 (by omega)
            refine lv_aload hx hb dX1_fill_43 (lv_at hl936 7 rfl) ?_
            refine lv_iload hx hb dX1_fill_45 (lv_at hl936 8 rfl) ?_
            refine x_ai C hTH934 ga7 rg_14 ⟨by omega, by show _ < ((16 : Nat) : Int); omega⟩ dX1_fill_47 (fun x948 ex948 bx948 => ?_)
            refine x_V (As := [.ref a3, .int x928, .int x946, .int x947, .int x948]) (rest := []) C (a_X6_seeSlice l K G H934 (x928) (x946) (x947) (x948) hTH934 ga1 ga3 (by omega)) yo_X6_seeSlice wM_X1_80 ⟨⟨by decide, by decide⟩, by decide, by decide⟩ (x_rv C hTH934 (ci := 6) rfl ga1 rg_82) rfl hl936.1 rfl (Nat.le_of_ble_eq_true rfl) dX1_fill_48 hSH934 (AE_sub (fun _ _ => rfl) (by decide) hSH934.1) (fun vH949 H949 locsH949 pH949 zH949 kH949 hSH949 => ?_)
            obtain ⟨hvH949, hTH949⟩ := pH949
            subst hvH949
            have m950 := (ex940).trans (fI_kept (x_lt hTH934 kH949 ga0 (by decide))).symm
            have m951 := (ex946).trans (fI_kept (x_lt hTH934 kH949 ga6 (by decide))).symm
            have m952 := (ex948).trans (fI_kept (x_lt hTH934 kH949 ga7 (by decide))).symm
            refine W.eq (g2 := F0 m 51 ls935 []) rfl ?_
            refine lv_aload_n hx hb dX1_fill_51 rfl (lv_at hl936 0 rfl) ?_
            refine x_gr C hTH949 (ci := 1) (k := 0) rfl inX1 (by decide) wF_X1_11 ga0 rg_98 rfl dX1_fill_52 (fun q953 eq953 gq953 => ?_)
            refine lv_iload hx hb dX1_fill_55 (lv_at hl936 4 rfl) ?_
            refine lv_iload hx hb dX1_fill_57 (lv_at hl936 8 rfl) ?_
            refine lv_iload hx hb dX1_fill_59 (lv_at hl936 9 rfl) ?_
            refine x_S (As := [.int x4, .int x928, .int x938]) (rest := [.ref q953]) C (a_X1_place l K G H949 (x4) (x928) (x938) hTH949 (by omega) (by omega) (by omega)) yo_X1_place wM_X1_86 ⟨⟨by decide, by decide⟩, by decide, by decide⟩ rfl hl936.1 rfl (Nat.le_of_ble_eq_true rfl) dX1_fill_61 hSH949 (AE_sub (fun _ _ => rfl) (by decide) hSH949.1) (fun vH954 H954 locsH954 pH954 zH954 kH954 hSH954 => ?_)
            obtain ⟨x955, hvH954, bx955, hTH954⟩ := pH954
            subst hvH954
            have m956 := (m950).trans (fI_kept (x_lt hTH949 kH954 ga0 (by decide))).symm
            have m957 := (m951).trans (fI_kept (x_lt hTH949 kH954 ga6 (by decide))).symm
            have m958 := (m952).trans (fI_kept (x_lt hTH949 kH954 ga7 (by decide))).symm
            have m959 := (eq953).trans (fR_kept (x_lt hTH949 kH954 ga0 (by decide))).symm
            refine W.eq (g2 := F0 m 64 ls935 [.int x955, .ref q953]) rfl ?_
            refine lv_aload_n hx hb dX1_fill_64 rfl (lv_at hl936 1 rfl) ?_
            refine lv_aload_n hx hb dX1_fill_65 rfl (lv_at hl936 2 rfl) ?_
            refine lv_iconst (v := 0) hx hb dX1_fill_66 (by decide) ?_
            refine lv_iload hx hb dX1_fill_67 (lv_at hl936 5 rfl) ?_
            refine x_V (As := [.ref a2, .int 0, .int x5]) (rest := [.int x955, .ref q953]) C (a_X6_told l K G H954 (0) (x5) hTH954 ga1 ga2) yo_X6_told wM_X1_90 ⟨⟨by decide, by decide⟩, by decide, by decide⟩ (x_rv C hTH954 (ci := 6) rfl ga1 rg_82) rfl hl936.1 rfl (Nat.le_of_ble_eq_true rfl) dX1_fill_69 hSH954 (AE_sub (fun _ _ => rfl) (by decide) hSH954.1) (fun vH960 H960 locsH960 pH960 zH960 kH960 hSH960 => ?_)
            obtain ⟨⟨x961, hvH960, bx961⟩, hTH960⟩ := pH960
            subst hvH960
            have m962 := (m956).trans (fI_kept (x_lt hTH954 kH960 ga0 (by decide))).symm
            have m963 := (m957).trans (fI_kept (x_lt hTH954 kH960 ga6 (by decide))).symm
            have m964 := (m958).trans (fI_kept (x_lt hTH954 kH960 ga7 (by decide))).symm
            have m965 := (m959).trans (fR_kept (x_lt hTH954 kH960 ga0 (by decide))).symm
            refine W.eq (g2 := F0 m 72 ls935 [.int x961, .int x955, .ref q953]) rfl ?_
            refine x_iast C hTH960 hSH960 gq953 rg_99 (by omega) (by show _ < ((240 : Nat) : Int); omega) ⟨by have := i_rng x961; omega, by have := i_rng x961; omega⟩ (AE_in gq953 (by decide)) dX1_fill_72 (fun H966 locsH966 hTH966 hSH966 wH966 => ?_)
            have m967 := m962.trans (Wr.neI wH966 (Or.inl (G_ne ga0 gq953 (by decide)))).symm
            have m968 := m963.trans (Wr.neI wH966 (Or.inl (G_ne ga6 gq953 (by decide)))).symm
            have m969 := m964.trans (Wr.neI wH966 (Or.inl (G_ne ga7 gq953 (by decide)))).symm
            have m970 := m965.trans (Wr.neR wH966 (Or.inl (G_ne ga0 gq953 (by decide)))).symm
            have m971 := Wr.I wH966
            have m971 := m971.symm
            refine lv_aload_n hx hb dX1_fill_73 rfl (lv_at hl936 0 rfl) ?_
            refine x_gr C hTH966 (ci := 1) (k := 1) rfl inX1 (by decide) wF_X1_15 ga0 rg_98 rfl dX1_fill_74 (fun q972 eq972 gq972 => ?_)
            refine lv_iload hx hb dX1_fill_77 (lv_at hl936 4 rfl) ?_
            refine lv_iload hx hb dX1_fill_79 (lv_at hl936 8 rfl) ?_
            refine lv_iload hx hb dX1_fill_81 (lv_at hl936 9 rfl) ?_
            refine x_S (As := [.int x4, .int x928, .int x938]) (rest := [.ref q972]) C (a_X1_place l K G H966 (x4) (x928) (x938) hTH966 (by omega) (by omega) (by omega)) yo_X1_place wM_X1_86 ⟨⟨by decide, by decide⟩, by decide, by decide⟩ rfl hl936.1 rfl (Nat.le_of_ble_eq_true rfl) dX1_fill_83 hSH966 (AE_sub (fun _ _ => rfl) (by decide) hSH966.1) (fun vH973 H973 locsH973 pH973 zH973 kH973 hSH973 => ?_)
            obtain ⟨x974, hvH973, bx974, hTH973⟩ := pH973
            subst hvH973
            have m975 := (m967).trans (fI_kept (x_lt hTH966 kH973 ga0 (by decide))).symm
            have m976 := (m968).trans (fI_kept (x_lt hTH966 kH973 ga6 (by decide))).symm
            have m977 := (m969).trans (fI_kept (x_lt hTH966 kH973 ga7 (by decide))).symm
            have m978 := (m970).trans (fR_kept (x_lt hTH966 kH973 ga0 (by decide))).symm
            have m979 := (m971).trans (fI_kept (x_lt hTH966 kH973 gq953 (by decide))).symm
            have m980 := (eq972).trans (fR_kept (x_lt hTH966 kH973 ga0 (by decide))).symm
            refine W.eq (g2 := F0 m 86 ls935 [.int x974, .ref q972]) rfl ?_
            refine lv_aload_n hx hb dX1_fill_86 rfl (lv_at hl936 1 rfl) ?_
            refine lv_aload_n hx hb dX1_fill_87 rfl (lv_at hl936 2 rfl) ?_
            refine lv_iconst (v := 1) hx hb dX1_fill_88 (by decide) ?_
            refine lv_iload hx hb dX1_fill_89 (lv_at hl936 5 rfl) ?_
            refine x_V (As := [.ref a2, .int 1, .int x5]) (rest := [.int x974, .ref q972]) C (a_X6_told l K G H973 (1) (x5) hTH973 ga1 ga2) yo_X6_told wM_X1_90 ⟨⟨by decide, by decide⟩, by decide, by decide⟩ (x_rv C hTH973 (ci := 6) rfl ga1 rg_82) rfl hl936.1 rfl (Nat.le_of_ble_eq_true rfl) dX1_fill_91 hSH973 (AE_sub (fun _ _ => rfl) (by decide) hSH973.1) (fun vH981 H981 locsH981 pH981 zH981 kH981 hSH981 => ?_)
            obtain ⟨⟨x982, hvH981, bx982⟩, hTH981⟩ := pH981
            subst hvH981
            have m983 := (m975).trans (fI_kept (x_lt hTH973 kH981 ga0 (by decide))).symm
            have m984 := (m976).trans (fI_kept (x_lt hTH973 kH981 ga6 (by decide))).symm
            have m985 := (m977).trans (fI_kept (x_lt hTH973 kH981 ga7 (by decide))).symm
            have m986 := (m978).trans (fR_kept (x_lt hTH973 kH981 ga0 (by decide))).symm
            have m987 := (m979).trans (fI_kept (x_lt hTH973 kH981 gq953 (by decide))).symm
            have m988 := (m980).trans (fR_kept (x_lt hTH973 kH981 ga0 (by decide))).symm
            refine W.eq (g2 := F0 m 94 ls935 [.int x982, .int x974, .ref q972]) rfl ?_
            refine x_iast C hTH981 hSH981 gq972 rg_100 (by omega) (by show _ < ((240 : Nat) : Int); omega) ⟨by have := i_rng x982; omega, by have := i_rng x982; omega⟩ (AE_in gq972 (by decide)) dX1_fill_94 (fun H989 locsH989 hTH989 hSH989 wH989 => ?_)
            have m990 := m983.trans (Wr.neI wH989 (Or.inl (G_ne ga0 gq972 (by decide)))).symm
            have m991 := m984.trans (Wr.neI wH989 (Or.inl (G_ne ga6 gq972 (by decide)))).symm
            have m992 := m985.trans (Wr.neI wH989 (Or.inl (G_ne ga7 gq972 (by decide)))).symm
            have m993 := m986.trans (Wr.neR wH989 (Or.inl (G_ne ga0 gq972 (by decide)))).symm
            have m994 := m987.trans (Wr.neI wH989 (Or.inl (G_ne gq953 gq972 (by decide)))).symm
            have m995 := m988.trans (Wr.neR wH989 (Or.inl (G_ne ga0 gq972 (by decide)))).symm
            have m996 := Wr.I wH989
            have m996 := m996.symm
            obtain ⟨x997, ex997⟩ : ∃ y : Int32, y = x938 + 1 := ⟨_, rfl⟩
            have tx997 := i_add ex997 (by omega)
            refine lv_iinc (v := x997) (lv' := [(9, .int x997), (0, .ref a0), (1, .ref a1), (2, .ref a2), (3, .ref a3), (4, .int x4), (5, .int x5), (6, .ref a6), (7, .ref a7), (8, .int x928)]) hx hb dX1_fill_95 hl936 (k := 9) rfl (by rw [ex997]; rfl) (by decide) rfl (fun ls998 hl999 => ?_)
            refine lv_goto (tgt := 21) hx hb dX1_fill_98 (by decide) ?_
            exact ih21 ls998 H989 locsH989 (x997) (lv_sub hl999 [1, 2, 3, 4, 5, 6, 7, 8, 9, 0] rfl) hTH989 hSH989 (by have := i_rng x928; omega) (by have := i_rng x997; omega) (by omega)
      refine lv_iload hx hb dX1_fill_3 (lv_at hl927 8 rfl) ?_
      refine lv_aload_n hx hb dX1_fill_5 rfl (lv_at hl927 3 rfl) ?_
      refine x_gi C hTH925 (ci := 0) (k := 0) rfl inX0 (by decide) wF_X1_66 ga3 rg_1 rfl dX1_fill_6 (fun x1000 ex1000 bx1000 => ?_)
      refine lv_icmp_ge (tgt := 107) hx hb dX1_fill_9 (by decide) (fun c1001 => ?_) (fun c1001 => ?_)
      · have k1002 := i_le c1001
        exact J107 ls926 H925 locsH925 (lv_sub hl927 [] rfl) hTH925 hSH925 
      · have k1002 := i_nle c1001
        refine lv_iload hx hb dX1_fill_12 (lv_at hl927 8 rfl) ?_
        refine lv_iconst (v := 5) hx hb dX1_fill_14 (by decide) ?_
        refine lv_icmp_ge (tgt := 107) hx hb dX1_fill_15 (by decide) (fun c1003 => ?_) (fun c1003 => ?_)
        · have k1004 := i_le c1003
          exact J107 ls926 H925 locsH925 (lv_sub hl927 [] rfl) hTH925 hSH925 
        · have k1004 := i_nle c1003
          refine lv_iconst (v := 0) hx hb dX1_fill_18 (by decide) ?_
          refine lv_istore (lv' := [(9, .int 0), (0, .ref a0), (1, .ref a1), (2, .ref a2), (3, .ref a3), (4, .int x4), (5, .int x5), (6, .ref a6), (7, .ref a7), (8, .int x928)]) hx hb dX1_fill_19 hl927 (by decide) rfl (fun ls1005 hl1006 => ?_)
          exact J21 ((4 - (0 : Int32).toInt).toNat + 1) ls1005 H925 locsH925 (0) (lv_sub hl1006 [1, 2, 3, 4, 5, 6, 7, 8, 9, 0] rfl) hTH925 hSH925 (by have := i_rng x928; omega) (by decide) (by omega)
  refine lv_iconst (v := 0) hx hb dX1_fill_0 (by decide) ?_
  refine lv_istore (lv' := [(8, .int 0), (0, .ref a0), (1, .ref a1), (2, .ref a2), (3, .ref a3), (4, .int x4), (5, .int x5), (6, .ref a6), (7, .ref a7)]) hx hb dX1_fill_1 hl (by decide) rfl (fun ls1007 hl1008 => ?_)
  exact J3 ((5 - (0 : Int32).toInt).toNat + 1) ls1007 s.heap [] (0) (lv_sub hl1008 [1, 2, 3, 4, 5, 6, 7, 8, 0] rfl) hT hS (by decide) (by omega)

set_option maxHeartbeats 4000000 in
set_option maxRecDepth 100000 in
theorem a_X1_fill_w (l : Launch) (K : KE) (G : Nat → Option Nat) (H : Heap) {a0 : Nat} {a1 : Nat} {a2 : Nat} {a3 : Nat} (x4 : Int32) (x5 : Int32) {a6 : Nat} {a7 : Nat} (hT : TY K G H) (ga0 : G a0 = some 98) (ga1 : G a1 = some 82) (ga2 : G a2 = some 16) (ga3 : G a3 = some 1) (hx4 : 0 ≤ x4.toInt ∧ x4.toInt ≤ 11) (ga6 : G a6 = some 103) (ga7 : G a7 = some 5) : MX l K yX1_fill cX1_fill 10 none 3 75 0 0 [.ref a0, .ref a1, .ref a2, .ref a3, .int x4, .int x5, .ref a6, .ref a7] H (AE G [99, 100, 83, 84] H.size) (fun v H1 => v = none ∧ TY K G H1) := by
  refine MX.of (by decide +kernel) (Nat.le_of_ble_eq_true rfl) ?_
  intro p e s m below meth c ls Q C hH hl hQ
  subst hH
  have C : CX p K s m _ meth c RX1 cX1_fill 10 none "fill" := C
  obtain ⟨hx, hb, hml, hown, hts, hKT, hr, hlocks, hnm⟩ := id C
  have hl : lv_has ls 10 [(0, .ref a0), (1, .ref a1), (2, .ref a2), (3, .ref a3), (4, .int x4), (5, .int x5), (6, .ref a6), (7, .ref a7)] := hl
  have hS : va_S (AE G [99, 100, 83, 84] s.heap.size) s.heap s.heap [] := va_S.rf
  have n_0 : (0 : Int32).toInt = 0 := rfl
  have n_1 : (1 : Int32).toInt = 1 := rfl
  have n_5 : (5 : Int32).toInt = 5 := rfl
  have J3 : ∀ (nf : Nat) (ls926 : Array Slot) (H925 : Heap) (locsH925 : List Loc) (x928 : Int32), lv_has ls926 10 [(0, .ref a0), (1, .ref a1), (2, .ref a2), (3, .ref a3), (4, .int x4), (5, .int x5), (6, .ref a6), (7, .ref a7), (8, .int x928)] → TY K G H925 → va_S (AE G [99, 100, 83, 84] s.heap.size) s.heap H925 locsH925 → (0 ≤ x928.toInt ∧ x928.toInt ≤ 5) → (5 - x928.toInt < (nf : Int)) → W p l e ({ frames := 3, cells := 0, slots := 0, locals := 75 } : Room) s m (([.ref a0, .ref a1, .ref a2, .ref a3, .int x4, .int x5, .ref a6, .ref a7] : List Value).toArray) below meth c H925 locsH925 0 0 Q (F0 m 3 ls926 []) := by
    intro nf
    induction nf with
    | zero =>
      intro ls926 H925 locsH925 x928 hl927 hTH925 hSH925 bx928 hm3
      exfalso
      omega
    | succ nf ih3 =>
      intro ls926 H925 locsH925 x928 hl927 hTH925 hSH925 bx928 hm3
      have J107 : ∀ (ls931 : Array Slot) (H930 : Heap) (locsH930 : List Loc) , lv_has ls931 10 [] → TY K G H930 → va_S (AE G [99, 100, 83, 84] s.heap.size) s.heap H930 locsH930 → W p l e ({ frames := 3, cells := 0, slots := 0, locals := 75 } : Room) s m (([.ref a0, .ref a1, .ref a2, .ref a3, .int x4, .int x5, .ref a6, .ref a7] : List Value).toArray) below meth c H930 locsH930 0 0 Q (F0 m 107 ls931 []) := by
        intro ls931 H930 locsH930  hl932 hTH930 hSH930 
        exact x_vret C hQ dX1_fill_107 hSH930 (by decide) (by decide) (⟨rfl, hTH930⟩)
      have J21 : ∀ (nf : Nat) (ls935 : Array Slot) (H934 : Heap) (locsH934 : List Loc) (x938 : Int32), lv_has ls935 10 [(0, .ref a0), (1, .ref a1), (2, .ref a2), (3, .ref a3), (4, .int x4), (5, .int x5), (6, .ref a6), (7, .ref a7), (8, .int x928), (9, .int x938)] → TY K G H934 → va_S (AE G [99, 100, 83, 84] s.heap.size) s.heap H934 locsH934 → (0 ≤ x928.toInt ∧ x928.toInt ≤ 4) → (0 ≤ x938.toInt ∧ x938.toInt ≤ 4) → (4 - x938.toInt < (nf : Int)) → W p l e ({ frames := 3, cells := 0, slots := 0, locals := 75 } : Room) s m (([.ref a0, .ref a1, .ref a2, .ref a3, .int x4, .int x5, .ref a6, .ref a7] : List Value).toArray) below meth c H934 locsH934 0 0 Q (F0 m 21 ls935 []) := by
        intro nf
        induction nf with
        | zero =>
          intro ls935 H934 locsH934 x938 hl936 hTH934 hSH934 b937 bx938 hm21
          exfalso
          omega
        | succ nf ih21 =>
          intro ls935 H934 locsH934 x938 hl936 hTH934 hSH934 b937 bx938 hm21
          refine lv_iload hx hb dX1_fill_21 (lv_at hl936 9 rfl) ?_
          refine lv_aload_n hx hb dX1_fill_23 rfl (lv_at hl936 0 rfl) ?_
          refine x_gi C hTH934 (ci := 1) (k := 5) rfl inX1 (by decide) wF_X1_43 ga0 rg_98 rfl dX1_fill_24 (fun x940 ex940 bx940 => ?_)
          refine lv_icmp_ge (tgt := 101) hx hb dX1_fill_27 (by decide) (fun c941 => ?_) (fun c941 => ?_)
          · have k942 := i_le c941
            obtain ⟨x943, ex943⟩ : ∃ y : Int32, y = x928 + 1 := ⟨_, rfl⟩
            have tx943 := i_add ex943 (by omega)
            refine lv_iinc (v := x943) (lv' := [(8, .int x943), (0, .ref a0), (1, .ref a1), (2, .ref a2), (3, .ref a3), (4, .int x4), (5, .int x5), (6, .ref a6), (7, .ref a7), (9, .int x938)]) hx hb dX1_fill_101 hl936 (k := 8) rfl (by rw [ex943]; rfl) (by decide) rfl (fun ls944 hl945 => ?_)
            refine lv_goto (tgt := 3) hx hb dX1_fill_104 (by decide) ?_
            exact ih3 ls944 H934 locsH934 (x943) (lv_sub hl945 [1, 2, 3, 4, 5, 6, 7, 8, 0] rfl) hTH934 hSH934 (by have := i_rng x943; omega) (by omega)
          · have k942 := i_nle c941
            refine lv_aload_n hx hb dX1_fill_30 rfl (lv_at hl936 1 rfl) ?_
            refine lv_aload_n hx hb dX1_fill_31 rfl (lv_at hl936 3 rfl) ?_
            refine lv_iload hx hb dX1_fill_32 (lv_at hl936 8 rfl) ?_
            refine lv_aload hx hb dX1_fill_34 (lv_at hl936 6 rfl) ?_
            refine lv_iload hx hb dX1_fill_36 (lv_at hl936 8 rfl) ?_
            refine x_ai C hTH934 ga6 rg_103 ⟨by omega, by show _ < ((16 : Nat) : Int); omega⟩ dX1_fill_38 (fun x946 ex946 bx946 => ?_)
            refine lv_iload hx hb dX1_fill_39 (lv_at hl936 9 rfl) ?_
            refine lv_iconst (v := 1) hx hb dX1_fill_41 (by decide) ?_
            refine lv_iadd hx hb dX1_fill_42 ?_
            refine lv_topi (fun x947 ex947 => ?_)
            have tx947 := i_add ex947 (by omega)
            refine lv_aload hx hb dX1_fill_43 (lv_at hl936 7 rfl) ?_
            refine lv_iload hx hb dX1_fill_45 (lv_at hl936 8 rfl) ?_
            refine x_ai C hTH934 ga7 rg_5 ⟨by omega, by show _ < ((16 : Nat) : Int); omega⟩ dX1_fill_47 (fun x948 ex948 bx948 => ?_)
            refine x_V (As := [.ref a3, .int x928, .int x946, .int x947, .int x948]) (rest := []) C (a_X6_seeSlice l K G H934 (x928) (x946) (x947) (x948) hTH934 ga1 ga3 (by omega)) yo_X6_seeSlice wM_X1_80 ⟨⟨by decide, by decide⟩, by decide, by decide⟩ (x_rv C hTH934 (ci := 6) rfl ga1 rg_82) rfl hl936.1 rfl (Nat.le_of_ble_eq_true rfl) dX1_fill_48 hSH934 (AE_sub (fun _ _ => rfl) (by decide) hSH934.1) (fun vH949 H949 locsH949 pH949 zH949 kH949 hSH949 => ?_)
            obtain ⟨hvH949, hTH949⟩ := pH949
            subst hvH949
            have m950 := (ex940).trans (fI_kept (x_lt hTH934 kH949 ga0 (by decide))).symm
            have m951 := (ex946).trans (fI_kept (x_lt hTH934 kH949 ga6 (by decide))).symm
            have m952 := (ex948).trans (fI_kept (x_lt hTH934 kH949 ga7 (by decide))).symm
            refine W.eq (g2 := F0 m 51 ls935 []) rfl ?_
            refine lv_aload_n hx hb dX1_fill_51 rfl (lv_at hl936 0 rfl) ?_
            refine x_gr C hTH949 (ci := 1) (k := 0) rfl inX1 (by decide) wF_X1_11 ga0 rg_98 rfl dX1_fill_52 (fun q953 eq953 gq953 => ?_)
            refine lv_iload hx hb dX1_fill_55 (lv_at hl936 4 rfl) ?_
            refine lv_iload hx hb dX1_fill_57 (lv_at hl936 8 rfl) ?_
            refine lv_iload hx hb dX1_fill_59 (lv_at hl936 9 rfl) ?_
            refine x_S (As := [.int x4, .int x928, .int x938]) (rest := [.ref q953]) C (a_X1_place l K G H949 (x4) (x928) (x938) hTH949 (by omega) (by omega) (by omega)) yo_X1_place wM_X1_86 ⟨⟨by decide, by decide⟩, by decide, by decide⟩ rfl hl936.1 rfl (Nat.le_of_ble_eq_true rfl) dX1_fill_61 hSH949 (AE_sub (fun _ _ => rfl) (by decide) hSH949.1) (fun vH954 H954 locsH954 pH954 zH954 kH954 hSH954 => ?_)
            obtain ⟨x955, hvH954, bx955, hTH954⟩ := pH954
            subst hvH954
            have m956 := (m950).trans (fI_kept (x_lt hTH949 kH954 ga0 (by decide))).symm
            have m957 := (m951).trans (fI_kept (x_lt hTH949 kH954 ga6 (by decide))).symm
            have m958 := (m952).trans (fI_kept (x_lt hTH949 kH954 ga7 (by decide))).symm
            have m959 := (eq953).trans (fR_kept (x_lt hTH949 kH954 ga0 (by decide))).symm
            refine W.eq (g2 := F0 m 64 ls935 [.int x955, .ref q953]) rfl ?_
            refine lv_aload_n hx hb dX1_fill_64 rfl (lv_at hl936 1 rfl) ?_
            refine lv_aload_n hx hb dX1_fill_65 rfl (lv_at hl936 2 rfl) ?_
            refine lv_iconst (v := 0) hx hb dX1_fill_66 (by decide) ?_
            refine lv_iload hx hb dX1_fill_67 (lv_at hl936 5 rfl) ?_
            refine x_V (As := [.ref a2, .int 0, .int x5]) (rest := [.int x955, .ref q953]) C (a_X6_told l K G H954 (0) (x5) hTH954 ga1 ga2) yo_X6_told wM_X1_90 ⟨⟨by decide, by decide⟩, by decide, by decide⟩ (x_rv C hTH954 (ci := 6) rfl ga1 rg_82) rfl hl936.1 rfl (Nat.le_of_ble_eq_true rfl) dX1_fill_69 hSH954 (AE_sub (fun _ _ => rfl) (by decide) hSH954.1) (fun vH960 H960 locsH960 pH960 zH960 kH960 hSH960 => ?_)
            obtain ⟨⟨x961, hvH960, bx961⟩, hTH960⟩ := pH960
            subst hvH960
            have m962 := (m956).trans (fI_kept (x_lt hTH954 kH960 ga0 (by decide))).symm
            have m963 := (m957).trans (fI_kept (x_lt hTH954 kH960 ga6 (by decide))).symm
            have m964 := (m958).trans (fI_kept (x_lt hTH954 kH960 ga7 (by decide))).symm
            have m965 := (m959).trans (fR_kept (x_lt hTH954 kH960 ga0 (by decide))).symm
            refine W.eq (g2 := F0 m 72 ls935 [.int x961, .int x955, .ref q953]) rfl ?_
            refine x_iast C hTH960 hSH960 gq953 rg_99 (by omega) (by show _ < ((240 : Nat) : Int); omega) ⟨by have := i_rng x961; omega, by have := i_rng x961; omega⟩ (AE_in gq953 (by decide)) dX1_fill_72 (fun H966 locsH966 hTH966 hSH966 wH966 => ?_)
            have m967 := m962.trans (Wr.neI wH966 (Or.inl (G_ne ga0 gq953 (by decide)))).symm
            have m968 := m963.trans (Wr.neI wH966 (Or.inl (G_ne ga6 gq953 (by decide)))).symm
            have m969 := m964.trans (Wr.neI wH966 (Or.inl (G_ne ga7 gq953 (by decide)))).symm
            have m970 := m965.trans (Wr.neR wH966 (Or.inl (G_ne ga0 gq953 (by decide)))).symm
            have m971 := Wr.I wH966
            have m971 := m971.symm
            refine lv_aload_n hx hb dX1_fill_73 rfl (lv_at hl936 0 rfl) ?_
            refine x_gr C hTH966 (ci := 1) (k := 1) rfl inX1 (by decide) wF_X1_15 ga0 rg_98 rfl dX1_fill_74 (fun q972 eq972 gq972 => ?_)
            refine lv_iload hx hb dX1_fill_77 (lv_at hl936 4 rfl) ?_
            refine lv_iload hx hb dX1_fill_79 (lv_at hl936 8 rfl) ?_
            refine lv_iload hx hb dX1_fill_81 (lv_at hl936 9 rfl) ?_
            refine x_S (As := [.int x4, .int x928, .int x938]) (rest := [.ref q972]) C (a_X1_place l K G H966 (x4) (x928) (x938) hTH966 (by omega) (by omega) (by omega)) yo_X1_place wM_X1_86 ⟨⟨by decide, by decide⟩, by decide, by decide⟩ rfl hl936.1 rfl (Nat.le_of_ble_eq_true rfl) dX1_fill_83 hSH966 (AE_sub (fun _ _ => rfl) (by decide) hSH966.1) (fun vH973 H973 locsH973 pH973 zH973 kH973 hSH973 => ?_)
            obtain ⟨x974, hvH973, bx974, hTH973⟩ := pH973
            subst hvH973
            have m975 := (m967).trans (fI_kept (x_lt hTH966 kH973 ga0 (by decide))).symm
            have m976 := (m968).trans (fI_kept (x_lt hTH966 kH973 ga6 (by decide))).symm
            have m977 := (m969).trans (fI_kept (x_lt hTH966 kH973 ga7 (by decide))).symm
            have m978 := (m970).trans (fR_kept (x_lt hTH966 kH973 ga0 (by decide))).symm
            have m979 := (m971).trans (fI_kept (x_lt hTH966 kH973 gq953 (by decide))).symm
            have m980 := (eq972).trans (fR_kept (x_lt hTH966 kH973 ga0 (by decide))).symm
            refine W.eq (g2 := F0 m 86 ls935 [.int x974, .ref q972]) rfl ?_
            refine lv_aload_n hx hb dX1_fill_86 rfl (lv_at hl936 1 rfl) ?_
            refine lv_aload_n hx hb dX1_fill_87 rfl (lv_at hl936 2 rfl) ?_
            refine lv_iconst (v := 1) hx hb dX1_fill_88 (by decide) ?_
            refine lv_iload hx hb dX1_fill_89 (lv_at hl936 5 rfl) ?_
            refine x_V (As := [.ref a2, .int 1, .int x5]) (rest := [.int x974, .ref q972]) C (a_X6_told l K G H973 (1) (x5) hTH973 ga1 ga2) yo_X6_told wM_X1_90 ⟨⟨by decide, by decide⟩, by decide, by decide⟩ (x_rv C hTH973 (ci := 6) rfl ga1 rg_82) rfl hl936.1 rfl (Nat.le_of_ble_eq_true rfl) dX1_fill_91 hSH973 (AE_sub (fun _ _ => rfl) (by decide) hSH973.1) (fun vH981 H981 locsH981 pH981 zH981 kH981 hSH981 => ?_)
            obtain ⟨⟨x982, hvH981, bx982⟩, hTH981⟩ := pH981
            subst hvH981
            have m983 := (m975).trans (fI_kept (x_lt hTH973 kH981 ga0 (by decide))).symm
            have m984 := (m976).trans (fI_kept (x_lt hTH973 kH981 ga6 (by decide))).symm
            have m985 := (m977).trans (fI_kept (x_lt hTH973 kH981 ga7 (by decide))).symm
            have m986 := (m978).trans (fR_kept (x_lt hTH973 kH981 ga0 (by decide))).symm
            have m987 := (m979).trans (fI_kept (x_lt hTH973 kH981 gq953 (by decide))).symm
            have m988 := (m980).trans (fR_kept (x_lt hTH973 kH981 ga0 (by decide))).symm
            refine W.eq (g2 := F0 m 94 ls935 [.int x982, .int x974, .ref q972]) rfl ?_
            refine x_iast C hTH981 hSH981 gq972 rg_100 (by omega) (by show _ < ((240 : Nat) : Int); omega) ⟨by have := i_rng x982; omega, by have := i_rng x982; omega⟩ (AE_in gq972 (by decide)) dX1_fill_94 (fun H989 locsH989 hTH989 hSH989 wH989 => ?_)
            have m990 := m983.trans (Wr.neI wH989 (Or.inl (G_ne ga0 gq972 (by decide)))).symm
            have m991 := m984.trans (Wr.neI wH989 (Or.inl (G_ne ga6 gq972 (by decide)))).symm
            have m992 := m985.trans (Wr.neI wH989 (Or.inl (G_ne ga7 gq972 (by decide)))).symm
            have m993 := m986.trans (Wr.neR wH989 (Or.inl (G_ne ga0 gq972 (by decide)))).symm
            have m994 := m987.trans (Wr.neI wH989 (Or.inl (G_ne gq953 gq972 (by decide)))).symm
            have m995 := m988.trans (Wr.neR wH989 (Or.inl (G_ne ga0 gq972 (by decide)))).symm
            have m996 := Wr.I wH989
            have m996 := m996.symm
            obtain ⟨x997, ex997⟩ : ∃ y : Int32, y = x938 + 1 := ⟨_, rfl⟩
            have tx997 := i_add ex997 (by omega)
            refine lv_iinc (v := x997) (lv' := [(9, .int x997), (0, .ref a0), (1, .ref a1), (2, .ref a2), (3, .ref a3), (4, .int x4), (5, .int x5), (6, .ref a6), (7, .ref a7), (8, .int x928)]) hx hb dX1_fill_95 hl936 (k := 9) rfl (by rw [ex997]; rfl) (by decide) rfl (fun ls998 hl999 => ?_)
            refine lv_goto (tgt := 21) hx hb dX1_fill_98 (by decide) ?_
            exact ih21 ls998 H989 locsH989 (x997) (lv_sub hl999 [1, 2, 3, 4, 5, 6, 7, 8, 9, 0] rfl) hTH989 hSH989 (by have := i_rng x928; omega) (by have := i_rng x997; omega) (by omega)
      refine lv_iload hx hb dX1_fill_3 (lv_at hl927 8 rfl) ?_
      refine lv_aload_n hx hb dX1_fill_5 rfl (lv_at hl927 3 rfl) ?_
      refine x_gi C hTH925 (ci := 0) (k := 0) rfl inX0 (by decide) wF_X1_66 ga3 rg_1 rfl dX1_fill_6 (fun x1000 ex1000 bx1000 => ?_)
      refine lv_icmp_ge (tgt := 107) hx hb dX1_fill_9 (by decide) (fun c1001 => ?_) (fun c1001 => ?_)
      · have k1002 := i_le c1001
        exact J107 ls926 H925 locsH925 (lv_sub hl927 [] rfl) hTH925 hSH925 
      · have k1002 := i_nle c1001
        refine lv_iload hx hb dX1_fill_12 (lv_at hl927 8 rfl) ?_
        refine lv_iconst (v := 5) hx hb dX1_fill_14 (by decide) ?_
        refine lv_icmp_ge (tgt := 107) hx hb dX1_fill_15 (by decide) (fun c1003 => ?_) (fun c1003 => ?_)
        · have k1004 := i_le c1003
          exact J107 ls926 H925 locsH925 (lv_sub hl927 [] rfl) hTH925 hSH925 
        · have k1004 := i_nle c1003
          refine lv_iconst (v := 0) hx hb dX1_fill_18 (by decide) ?_
          refine lv_istore (lv' := [(9, .int 0), (0, .ref a0), (1, .ref a1), (2, .ref a2), (3, .ref a3), (4, .int x4), (5, .int x5), (6, .ref a6), (7, .ref a7), (8, .int x928)]) hx hb dX1_fill_19 hl927 (by decide) rfl (fun ls1005 hl1006 => ?_)
          exact J21 ((4 - (0 : Int32).toInt).toNat + 1) ls1005 H925 locsH925 (0) (lv_sub hl1006 [1, 2, 3, 4, 5, 6, 7, 8, 9, 0] rfl) hTH925 hSH925 (by have := i_rng x928; omega) (by decide) (by omega)
  refine lv_iconst (v := 0) hx hb dX1_fill_0 (by decide) ?_
  refine lv_istore (lv' := [(8, .int 0), (0, .ref a0), (1, .ref a1), (2, .ref a2), (3, .ref a3), (4, .int x4), (5, .int x5), (6, .ref a6), (7, .ref a7)]) hx hb dX1_fill_1 hl (by decide) rfl (fun ls1007 hl1008 => ?_)
  exact J3 ((5 - (0 : Int32).toInt).toNat + 1) ls1007 s.heap [] (0) (lv_sub hl1008 [1, 2, 3, 4, 5, 6, 7, 8, 0] rfl) hT hS (by decide) (by omega)

set_option maxHeartbeats 4000000 in
set_option maxRecDepth 100000 in
theorem a_X1_unfold (l : Launch) (K : KE) (G : Nat → Option Nat) (H : Heap) {a0 : Nat} (x1 : Int32) (hT : TY K G H) (ga0 : G a0 = some 98) (hx1 : 0 ≤ x1.toInt ∧ x1.toInt ≤ 1023) : MX l K yX1_unfold cX1_unfold 4 none 0 0 0 0 [.ref a0, .int x1] H (AE G [101] H.size) (fun v H1 => v = none ∧ TY K G H1) := by
  refine MX.of (by decide +kernel) (Nat.le_of_ble_eq_true rfl) ?_
  intro p e s m below meth c ls Q C hH hl hQ
  subst hH
  have C : CX p K s m _ meth c RX1 cX1_unfold 4 none "unfold" := C
  obtain ⟨hx, hb, hml, hown, hts, hKT, hr, hlocks, hnm⟩ := id C
  have hl : lv_has ls 4 [(0, .ref a0), (1, .int x1)] := hl
  have hS : va_S (AE G [101] s.heap.size) s.heap s.heap [] := va_S.rf
  have n_0 : (0 : Int32).toInt = 0 := rfl
  have n_1 : (1 : Int32).toInt = 1 := rfl
  have n_5 : (5 : Int32).toInt = 5 := rfl
  have J4 : ∀ (nf : Nat) (ls307 : Array Slot) (H306 : Heap) (locsH306 : List Loc) (x309 : Int32) (x310 : Int32), lv_has ls307 4 [(0, .ref a0), (2, .int x309), (3, .int x310)] → TY K G H306 → va_S (AE G [101] s.heap.size) s.heap H306 locsH306 → (0 ≤ x309.toInt ∧ x309.toInt ≤ 1023) → (0 ≤ x310.toInt ∧ x310.toInt ≤ 5) → (5 - x310.toInt < (nf : Int)) → W p l e ({ frames := 0, cells := 0, slots := 0, locals := 0 } : Room) s m (([.ref a0, .int x1] : List Value).toArray) below meth c H306 locsH306 0 0 Q (F0 m 4 ls307 []) := by
    intro nf
    induction nf with
    | zero =>
      intro ls307 H306 locsH306 x309 x310 hl308 hTH306 hSH306 bx309 bx310 hm4
      exfalso
      omega
    | succ nf ih4 =>
      intro ls307 H306 locsH306 x309 x310 hl308 hTH306 hSH306 bx309 bx310 hm4
      have J41 : ∀ (ls313 : Array Slot) (H312 : Heap) (locsH312 : List Loc) , lv_has ls313 4 [] → TY K G H312 → va_S (AE G [101] s.heap.size) s.heap H312 locsH312 → W p l e ({ frames := 0, cells := 0, slots := 0, locals := 0 } : Room) s m (([.ref a0, .int x1] : List Value).toArray) below meth c H312 locsH312 0 0 Q (F0 m 41 ls313 []) := by
        intro ls313 H312 locsH312  hl314 hTH312 hSH312 
        exact x_vret C hQ dX1_unfold_41 hSH312 (by decide) (by decide) (⟨rfl, hTH312⟩)
      refine lv_iload_n hx hb dX1_unfold_4 rfl (lv_at hl308 2 rfl) ?_
      refine lv_iconst (v := 5) hx hb dX1_unfold_5 (by decide) ?_
      refine lv_icmp_ge (tgt := 41) hx hb dX1_unfold_6 (by decide) (fun c316 => ?_) (fun c316 => ?_)
      · have k317 := i_le c316
        exact J41 ls307 H306 locsH306 (lv_sub hl308 [] rfl) hTH306 hSH306 
      · have k317 := i_nle c316
        refine lv_aload_n hx hb dX1_unfold_9 rfl (lv_at hl308 0 rfl) ?_
        refine x_gi C hTH306 (ci := 1) (k := 5) rfl inX1 (by decide) wF_X1_43 ga0 rg_98 rfl dX1_unfold_10 (fun x318 ex318 bx318 => ?_)
        refine lv_if_le (tgt := 41) hx hb dX1_unfold_13 (by decide) (fun c319 => ?_) (fun c319 => ?_)
        · have k320 := i_le c319
          exact J41 ls307 H306 locsH306 (lv_sub hl308 [] rfl) hTH306 hSH306 
        · have k320 := i_nle c319
          refine lv_aload_n hx hb dX1_unfold_16 rfl (lv_at hl308 0 rfl) ?_
          refine x_gr C hTH306 (ci := 1) (k := 2) rfl inX1 (by decide) wF_X1_18 ga0 rg_98 rfl dX1_unfold_17 (fun q321 eq321 gq321 => ?_)
          refine lv_iload_n hx hb dX1_unfold_20 rfl (lv_at hl308 2 rfl) ?_
          refine lv_iload_n hx hb dX1_unfold_21 rfl (lv_at hl308 1 rfl) ?_
          refine lv_aload_n hx hb dX1_unfold_22 rfl (lv_at hl308 0 rfl) ?_
          refine x_gi C hTH306 (ci := 1) (k := 5) rfl inX1 (by decide) wF_X1_43 ga0 rg_98 rfl dX1_unfold_23 (fun x322 ex322 bx322 => ?_)
          have ux322 : x318 = x322 := (ex318).trans ex322.symm
          subst ux322
          refine lv_irem hx hb dX1_unfold_26 (fun h => by have := i_eq h; omega) ?_
          refine lv_topi (fun x323 ex323 => ?_)
          have tx323 := i_rem ex323 (by omega) (by omega)
          refine x_iast C hTH306 hSH306 gq321 rg_101 (by omega) (by show _ < ((5 : Nat) : Int); omega) ⟨by have := i_rng x323; omega, by have := i_rng x323; omega⟩ (AE_in gq321 (by decide)) dX1_unfold_27 (fun H324 locsH324 hTH324 hSH324 wH324 => ?_)
          have m325 := ex318.trans (Wr.neI wH324 (Or.inl (G_ne ga0 gq321 (by decide)))).symm
          have m326 := eq321.trans (Wr.neR wH324 (Or.inl (G_ne ga0 gq321 (by decide)))).symm
          have m327 := Wr.I wH324
          have m327 := m327.symm
          refine lv_iload_n hx hb dX1_unfold_28 rfl (lv_at hl308 1 rfl) ?_
          refine lv_aload_n hx hb dX1_unfold_29 rfl (lv_at hl308 0 rfl) ?_
          refine x_gi C hTH324 (ci := 1) (k := 5) rfl inX1 (by decide) wF_X1_43 ga0 rg_98 rfl dX1_unfold_30 (fun x328 ex328 bx328 => ?_)
          have ux328 : x318 = x328 := (m325).trans ex328.symm
          subst ux328
          refine lv_idiv hx hb dX1_unfold_33 (fun h => by have := i_eq h; omega) ?_
          refine lv_topi (fun x329 ex329 => ?_)
          have tx329 := i_div ex329 (by omega) (by omega)
          refine lv_istore_n (lv' := [(2, .int x329), (0, .ref a0), (3, .int x310)]) hx hb dX1_unfold_34 rfl hl308 (by decide) rfl (fun ls330 hl331 => ?_)
          obtain ⟨x332, ex332⟩ : ∃ y : Int32, y = x310 + 1 := ⟨_, rfl⟩
          have tx332 := i_add ex332 (by omega)
          refine lv_iinc (v := x332) (lv' := [(3, .int x332), (2, .int x329), (0, .ref a0)]) hx hb dX1_unfold_35 hl331 (k := 2) rfl (by rw [ex332]; rfl) (by decide) rfl (fun ls333 hl334 => ?_)
          refine lv_goto (tgt := 4) hx hb dX1_unfold_38 (by decide) ?_
          exact ih4 ls333 H324 locsH324 (x329) (x332) (lv_sub hl334 [2, 1, 0] rfl) hTH324 hSH324 (by have := i_rng x329; omega) (by have := i_rng x332; omega) (by omega)
  refine lv_iload_n hx hb dX1_unfold_0 rfl (lv_at hl 1 rfl) ?_
  refine lv_istore_n (lv' := [(2, .int x1), (0, .ref a0), (1, .int x1)]) hx hb dX1_unfold_1 rfl hl (by decide) rfl (fun ls335 hl336 => ?_)
  refine lv_iconst (v := 0) hx hb dX1_unfold_2 (by decide) ?_
  refine lv_istore_n (lv' := [(3, .int 0), (2, .int x1), (0, .ref a0), (1, .int x1)]) hx hb dX1_unfold_3 rfl hl336 (by decide) rfl (fun ls337 hl338 => ?_)
  exact J4 ((5 - (0 : Int32).toInt).toNat + 1) ls337 s.heap [] (x1) (0) (lv_sub hl338 [2, 1, 0] rfl) hT hS (by have := i_rng x1; omega) (by decide) (by omega)

set_option maxHeartbeats 4000000 in
set_option maxRecDepth 100000 in
theorem a_X1_toneAt (l : Launch) (K : KE) (G : Nat → Option Nat) (H : Heap) {a0 : Nat} {a1 : Nat} (x2 : Int32) (hT : TY K G H) (ga0 : G a0 = some 98) (ga1 : G a1 = some 1) (hx2 : 0 ≤ x2.toInt ∧ x2.toInt ≤ 11) : MX l K yX1_toneAt cX1_toneAt 7 (some .int) 1 22 0 0 [.ref a0, .ref a1, .int x2] H (AE G [] H.size) (fun v H1 => ∃ (r : Int32), v = some (.int r) ∧ TY K G H1) := by
  refine MX.of (by decide +kernel) (Nat.le_of_ble_eq_true rfl) ?_
  intro p e s m below meth c ls Q C hH hl hQ
  subst hH
  have C : CX p K s m _ meth c RX1 cX1_toneAt 7 (some .int) "toneAt" := C
  obtain ⟨hx, hb, hml, hown, hts, hKT, hr, hlocks, hnm⟩ := id C
  have hl : lv_has ls 7 [(0, .ref a0), (1, .ref a1), (2, .int x2)] := hl
  have hS : va_S (AE G [] s.heap.size) s.heap s.heap [] := va_S.rf
  have n_0 : (0 : Int32).toInt = 0 := rfl
  have n_1 : (1 : Int32).toInt = 1 := rfl
  have n_5 : (5 : Int32).toInt = 5 := rfl
  have J8 : ∀ (nf : Nat) (ls416 : Array Slot) (H415 : Heap) (locsH415 : List Loc) (x418 : Int32) (x419 : Int32) (x420 : Int32), lv_has ls416 7 [(0, .ref a0), (1, .ref a1), (2, .int x2), (3, .int x418), (4, .int x419), (5, .int x420)] → TY K G H415 → va_S (AE G [] s.heap.size) s.heap H415 locsH415 → (0 ≤ x420.toInt ∧ x420.toInt ≤ 5) → (5 - x420.toInt < (nf : Int)) → W p l e ({ frames := 1, cells := 0, slots := 0, locals := 22 } : Room) s m (([.ref a0, .ref a1, .int x2] : List Value).toArray) below meth c H415 locsH415 0 0 Q (F0 m 8 ls416 []) := by
    intro nf
    induction nf with
    | zero =>
      intro ls416 H415 locsH415 x418 x419 x420 hl417 hTH415 hSH415 bx420 hm8
      have rx418 := i_rng x418
      have rx419 := i_rng x419
      exfalso
      omega
    | succ nf ih8 =>
      intro ls416 H415 locsH415 x418 x419 x420 hl417 hTH415 hSH415 bx420 hm8
      have rx418 := i_rng x418
      have rx419 := i_rng x419
      have J66 : ∀ (ls423 : Array Slot) (H422 : Heap) (locsH422 : List Loc) , lv_has ls423 7 [(3, .int x418), (4, .int x419)] → TY K G H422 → va_S (AE G [] s.heap.size) s.heap H422 locsH422 → W p l e ({ frames := 1, cells := 0, slots := 0, locals := 22 } : Room) s m (([.ref a0, .ref a1, .int x2] : List Value).toArray) below meth c H422 locsH422 0 0 Q (F0 m 66 ls423 []) := by
        intro ls423 H422 locsH422  hl424 hTH422 hSH422 
        refine lv_iload_n hx hb dX1_toneAt_66 rfl (lv_at hl424 0 rfl) ?_
        refine lv_iload hx hb dX1_toneAt_67 (lv_at hl424 1 rfl) ?_
        refine x_SN (As := [.int x418, .int x419]) (rest := []) C (a_X9_ratio l K G H422 (x418) (x419) hTH422 ) yo_X9_ratio wN_X1_94 ⟨⟨by decide, by decide⟩, by decide, by decide⟩ rfl hl424.1 rfl (Nat.le_of_ble_eq_true rfl) dX1_toneAt_69 hSH422 (AE_sub (fun _ _ => rfl) (by decide) hSH422.1) (fun vH426 H426 locsH426 pH426 zH426 kH426 hSH426 => ?_)
        obtain ⟨⟨x427, hvH426, bx427⟩, hTH426⟩ := pH426
        subst hvH426
        refine W.eq (g2 := F0 m 72 ls423 [.int x427]) rfl ?_
        exact x_iret C hQ dX1_toneAt_72 hSH426 (by decide) (by decide) (⟨x427, rfl, hTH426⟩)
      refine lv_iload hx hb dX1_toneAt_8 (lv_at hl417 5 rfl) ?_
      refine lv_aload_n hx hb dX1_toneAt_10 rfl (lv_at hl417 1 rfl) ?_
      refine x_gi C hTH415 (ci := 0) (k := 0) rfl inX0 (by decide) wF_X1_66 ga1 rg_1 rfl dX1_toneAt_11 (fun x428 ex428 bx428 => ?_)
      refine lv_icmp_ge (tgt := 66) hx hb dX1_toneAt_14 (by decide) (fun c429 => ?_) (fun c429 => ?_)
      · have k430 := i_le c429
        exact J66 ls416 H415 locsH415 (lv_sub hl417 [3, 4] rfl) hTH415 hSH415 
      · have k430 := i_nle c429
        refine lv_iload hx hb dX1_toneAt_17 (lv_at hl417 5 rfl) ?_
        refine lv_iconst (v := 5) hx hb dX1_toneAt_19 (by decide) ?_
        refine lv_icmp_ge (tgt := 66) hx hb dX1_toneAt_20 (by decide) (fun c431 => ?_) (fun c431 => ?_)
        · have k432 := i_le c431
          exact J66 ls416 H415 locsH415 (lv_sub hl417 [3, 4] rfl) hTH415 hSH415 
        · have k432 := i_nle c431
          refine lv_iload_n hx hb dX1_toneAt_23 rfl (lv_at hl417 2 rfl) ?_
          refine lv_iload hx hb dX1_toneAt_24 (lv_at hl417 5 rfl) ?_
          refine lv_aload_n hx hb dX1_toneAt_26 rfl (lv_at hl417 0 rfl) ?_
          refine x_gr C hTH415 (ci := 1) (k := 2) rfl inX1 (by decide) wF_X1_18 ga0 rg_98 rfl dX1_toneAt_27 (fun q433 eq433 gq433 => ?_)
          refine lv_iload hx hb dX1_toneAt_30 (lv_at hl417 5 rfl) ?_
          refine x_ai C hTH415 gq433 rg_101 ⟨by omega, by show _ < ((5 : Nat) : Int); omega⟩ dX1_toneAt_32 (fun x434 ex434 bx434 => ?_)
          refine x_S (As := [.int x2, .int x420, .int x434]) (rest := []) C (a_X1_place l K G H415 (x2) (x420) (x434) hTH415 (by omega) (by omega) (by omega)) yo_X1_place wM_X1_86 ⟨⟨by decide, by decide⟩, by decide, by decide⟩ rfl hl417.1 rfl (Nat.le_of_ble_eq_true rfl) dX1_toneAt_33 hSH415 (AE_sub (fun _ _ => rfl) (by decide) hSH415.1) (fun vH435 H435 locsH435 pH435 zH435 kH435 hSH435 => ?_)
          obtain ⟨x436, hvH435, bx436, hTH435⟩ := pH435
          subst hvH435
          have m437 := (ex428).trans (fI_kept (x_lt hTH415 kH435 ga1 (by decide))).symm
          have m438 := (eq433).trans (fR_kept (x_lt hTH415 kH435 ga0 (by decide))).symm
          have m439 := (ex434).trans (fI_kept (x_lt hTH415 kH435 gq433 (by decide))).symm
          refine W.eq (g2 := F0 m 36 ls416 [.int x436]) rfl ?_
          refine lv_istore (lv' := [(6, .int x436), (0, .ref a0), (1, .ref a1), (2, .int x2), (3, .int x418), (4, .int x419), (5, .int x420)]) hx hb dX1_toneAt_36 hl417 (by decide) rfl (fun ls440 hl441 => ?_)
          refine lv_iload_n hx hb dX1_toneAt_38 rfl (lv_at hl441 4 rfl) ?_
          refine lv_aload_n hx hb dX1_toneAt_39 rfl (lv_at hl441 1 rfl) ?_
          refine x_gr C hTH435 (ci := 1) (k := 0) rfl inX1 (by decide) wF_X1_11 ga0 rg_98 rfl dX1_toneAt_40 (fun q442 eq442 gq442 => ?_)
          refine lv_iload hx hb dX1_toneAt_43 (lv_at hl441 0 rfl) ?_
          refine x_ai C hTH435 gq442 rg_99 ⟨by omega, by show _ < ((240 : Nat) : Int); omega⟩ dX1_toneAt_45 (fun x443 ex443 bx443 => ?_)
          refine lv_iadd hx hb dX1_toneAt_46 ?_
          refine lv_topi (fun x444 ex444 => ?_)
          refine lv_istore_n (lv' := [(3, .int x444), (6, .int x436), (0, .ref a0), (1, .ref a1), (2, .int x2), (4, .int x419), (5, .int x420)]) hx hb dX1_toneAt_47 rfl hl441 (by decide) rfl (fun ls445 hl446 => ?_)
          refine lv_iload hx hb dX1_toneAt_48 (lv_at hl446 5 rfl) ?_
          refine lv_aload_n hx hb dX1_toneAt_50 rfl (lv_at hl446 2 rfl) ?_
          refine x_gr C hTH435 (ci := 1) (k := 1) rfl inX1 (by decide) wF_X1_15 ga0 rg_98 rfl dX1_toneAt_51 (fun q447 eq447 gq447 => ?_)
          refine lv_iload hx hb dX1_toneAt_54 (lv_at hl446 1 rfl) ?_
          refine x_ai C hTH435 gq447 rg_100 ⟨by omega, by show _ < ((240 : Nat) : Int); omega⟩ dX1_toneAt_56 (fun x448 ex448 bx448 => ?_)
          refine lv_iadd hx hb dX1_toneAt_57 ?_
          refine lv_topi (fun x449 ex449 => ?_)
          refine lv_istore (lv' := [(4, .int x449), (3, .int x444), (6, .int x436), (0, .ref a0), (1, .ref a1), (2, .int x2), (5, .int x420)]) hx hb dX1_toneAt_58 hl446 (by decide) rfl (fun ls450 hl451 => ?_)
          obtain ⟨x452, ex452⟩ : ∃ y : Int32, y = x420 + 1 := ⟨_, rfl⟩
          have tx452 := i_add ex452 (by omega)
          refine lv_iinc (v := x452) (lv' := [(5, .int x452), (4, .int x449), (3, .int x444), (6, .int x436), (0, .ref a0), (1, .ref a1), (2, .int x2)]) hx hb dX1_toneAt_60 hl451 (k := 6) rfl (by rw [ex452]; rfl) (by decide) rfl (fun ls453 hl454 => ?_)
          refine lv_goto (tgt := 8) hx hb dX1_toneAt_63 (by decide) ?_
          exact ih8 ls453 H435 locsH435 (x444) (x449) (x452) (lv_sub hl454 [4, 5, 6, 2, 1, 0] rfl) hTH435 hSH435 (by have := i_rng x452; omega) (by omega)
  refine lv_iconst (v := 0) hx hb dX1_toneAt_0 (by decide) ?_
  refine lv_istore_n (lv' := [(3, .int 0), (0, .ref a0), (1, .ref a1), (2, .int x2)]) hx hb dX1_toneAt_1 rfl hl (by decide) rfl (fun ls455 hl456 => ?_)
  refine lv_iconst (v := 0) hx hb dX1_toneAt_2 (by decide) ?_
  refine lv_istore (lv' := [(4, .int 0), (3, .int 0), (0, .ref a0), (1, .ref a1), (2, .int x2)]) hx hb dX1_toneAt_3 hl456 (by decide) rfl (fun ls457 hl458 => ?_)
  refine lv_iconst (v := 0) hx hb dX1_toneAt_5 (by decide) ?_
  refine lv_istore (lv' := [(5, .int 0), (4, .int 0), (3, .int 0), (0, .ref a0), (1, .ref a1), (2, .int x2)]) hx hb dX1_toneAt_6 hl458 (by decide) rfl (fun ls459 hl460 => ?_)
  exact J8 ((5 - (0 : Int32).toInt).toNat + 1) ls459 s.heap [] (0) (0) (0) (lv_sub hl460 [3, 4, 5, 2, 1, 0] rfl) hT hS (by decide) (by omega)

set_option maxHeartbeats 4000000 in
set_option maxRecDepth 100000 in
theorem a_X1_isHeard (l : Launch) (K : KE) (G : Nat → Option Nat) (H : Heap) {a0 : Nat} {a1 : Nat} (x2 : Int32) (hT : TY K G H) (ga0 : G a0 = some 98) (ga1 : G a1 = some 1) : MX l K yX1_isHeard cX1_isHeard 4 (some .boolean) 2 48 0 0 [.ref a0, .ref a1, .int x2] H (AE G [] H.size) (fun v H1 => ∃ (r : Int32), v = some (.int r) ∧ (0 ≤ r.toInt ∧ r.toInt ≤ 1) ∧ TY K G H1) := by
  refine MX.of (by decide +kernel) (Nat.le_of_ble_eq_true rfl) ?_
  intro p e s m below meth c ls Q C hH hl hQ
  subst hH
  have C : CX p K s m _ meth c RX1 cX1_isHeard 4 (some .boolean) "isHeard" := C
  obtain ⟨hx, hb, hml, hown, hts, hKT, hr, hlocks, hnm⟩ := id C
  have hl : lv_has ls 4 [(0, .ref a0), (1, .ref a1), (2, .int x2)] := hl
  have hS : va_S (AE G [] s.heap.size) s.heap s.heap [] := va_S.rf
  have n_0 : (0 : Int32).toInt = 0 := rfl
  have n_1 : (1 : Int32).toInt = 1 := rfl
  have J2 : ∀ (nf : Nat) (ls334 : Array Slot) (H333 : Heap) (locsH333 : List Loc) (x336 : Int32), lv_has ls334 4 [(0, .ref a0), (1, .ref a1), (2, .int x2), (3, .int x336)] → TY K G H333 → va_S (AE G [] s.heap.size) s.heap H333 locsH333 → (0 ≤ x336.toInt ∧ x336.toInt ≤ 12) → (12 - x336.toInt < (nf : Int)) → W p l e ({ frames := 2, cells := 0, slots := 0, locals := 48 } : Room) s m (([.ref a0, .ref a1, .int x2] : List Value).toArray) below meth c H333 locsH333 0 0 Q (F0 m 2 ls334 []) := by
    intro nf
    induction nf with
    | zero =>
      intro ls334 H333 locsH333 x336 hl335 hTH333 hSH333 bx336 hm2
      exfalso
      omega
    | succ nf ih2 =>
      intro ls334 H333 locsH333 x336 hl335 hTH333 hSH333 bx336 hm2
      refine lv_iload_n hx hb dX1_isHeard_2 rfl (lv_at hl335 3 rfl) ?_
      refine lv_aload_n hx hb dX1_isHeard_3 rfl (lv_at hl335 1 rfl) ?_
      refine x_gi C hTH333 (ci := 0) (k := 14) rfl inX0 (by decide) wF_X1_47 ga1 rg_1 rfl dX1_isHeard_4 (fun x338 ex338 bx338 => ?_)
      refine lv_icmp_ge (tgt := 38) hx hb dX1_isHeard_7 (by decide) (fun c339 => ?_) (fun c339 => ?_)
      · have k340 := i_le c339
        refine lv_iconst (v := 1) hx hb dX1_isHeard_38 (by decide) ?_
        exact x_zret C hQ (Or.inr rfl) dX1_isHeard_39 hSH333 (by decide) (by decide) (⟨1, rfl, by decide, hTH333⟩)
      · have k340 := i_nle c339
        refine lv_aload_n hx hb dX1_isHeard_10 rfl (lv_at hl335 0 rfl) ?_
        refine lv_aload_n hx hb dX1_isHeard_11 rfl (lv_at hl335 1 rfl) ?_
        refine lv_iload_n hx hb dX1_isHeard_12 rfl (lv_at hl335 3 rfl) ?_
        refine x_V (As := [.ref a1, .int x336]) (rest := []) C (a_X1_toneAt l K G H333 (x336) hTH333 ga0 ga1 (by omega)) yo_X1_toneAt wM_X1_97 ⟨⟨by decide, by decide⟩, by decide, by decide⟩ (x_rv C hTH333 (ci := 1) rfl ga0 rg_98) rfl hl335.1 rfl (Nat.le_of_ble_eq_true rfl) dX1_isHeard_13 hSH333 (AE_sub (fun _ _ => rfl) (by decide) hSH333.1) (fun vH341 H341 locsH341 pH341 zH341 kH341 hSH341 => ?_)
        obtain ⟨x342, hvH341, hTH341⟩ := pH341
        subst hvH341
        have m343 := (ex338).trans (fI_kept (x_lt hTH333 kH341 ga1 (by decide))).symm
        refine W.eq (g2 := F0 m 16 ls334 [.int x342]) rfl ?_
        refine lv_aload_n hx hb dX1_isHeard_16 rfl (lv_at hl335 1 rfl) ?_
        refine x_gr C hTH341 (ci := 0) (k := 11) rfl inX0 (by decide) wF_X1_101 ga1 rg_1 rfl dX1_isHeard_17 (fun q344 eq344 gq344 => ?_)
        refine lv_iload_n hx hb dX1_isHeard_20 rfl (lv_at hl335 3 rfl) ?_
        refine x_ai C hTH341 gq344 rg_10 ⟨by omega, by show _ < ((12 : Nat) : Int); omega⟩ dX1_isHeard_21 (fun x345 ex345 bx345 => ?_)
        refine lv_isub hx hb dX1_isHeard_22 ?_
        refine lv_topi (fun x346 ex346 => ?_)
        refine va_mabs hx hb (hml.trans hl335.1.symm) hown (hts _ wM_X1_104) (hts _ wST_J9_abs_0f7a4) (hts _ wIN_J9) (hts _ wCD_J9_abs_0f7a4) (by decide) (Nat.le_of_ble_eq_true rfl) (by decide) (by decide) dX1_isHeard_23 ?_
        refine lv_topi (fun x347 ex347 => ?_)
        refine lv_iload_n hx hb dX1_isHeard_26 rfl (lv_at hl335 2 rfl) ?_
        refine lv_icmp_le (tgt := 32) hx hb dX1_isHeard_27 (by decide) (fun c348 => ?_) (fun c348 => ?_)
        · have k349 := i_le c348
          obtain ⟨x350, ex350⟩ : ∃ y : Int32, y = x336 + 1 := ⟨_, rfl⟩
          have tx350 := i_add ex350 (by omega)
          refine lv_iinc (v := x350) (lv' := [(3, .int x350), (0, .ref a0), (1, .ref a1), (2, .int x2)]) hx hb dX1_isHeard_32 hl335 (k := 3) rfl (by rw [ex350]; rfl) (by decide) rfl (fun ls351 hl352 => ?_)
          refine lv_goto (tgt := 2) hx hb dX1_isHeard_35 (by decide) ?_
          exact ih2 ls351 H341 locsH341 (x350) (lv_sub hl352 [1, 2, 3, 0] rfl) hTH341 hSH341 (by have := i_rng x350; omega) (by omega)
        · have k349 := i_nle c348
          refine lv_iconst (v := 0) hx hb dX1_isHeard_30 (by decide) ?_
          exact x_zret C hQ (Or.inl rfl) dX1_isHeard_31 hSH341 (by decide) (by decide) (⟨0, rfl, by decide, hTH341⟩)
  refine lv_iconst (v := 0) hx hb dX1_isHeard_0 (by decide) ?_
  refine lv_istore_n (lv' := [(3, .int 0), (0, .ref a0), (1, .ref a1), (2, .int x2)]) hx hb dX1_isHeard_1 rfl hl (by decide) rfl (fun ls353 hl354 => ?_)
  exact J2 ((12 - (0 : Int32).toInt).toNat + 1) ls353 s.heap [] (0) (lv_sub hl354 [1, 2, 3, 0] rfl) hT hS (by decide) (by omega)

set_option maxHeartbeats 4000000 in
set_option maxRecDepth 100000 in
theorem a_X1_find (l : Launch) (K : KE) (G : Nat → Option Nat) (H : Heap) {a0 : Nat} {a1 : Nat} {a2 : Nat} {a3 : Nat} (x4 : Int32) (x5 : Int32) (cn : Int32) (hT : TY K G H) (ga0 : G a0 = some 98) (ga1 : G a1 = some 82) (ga2 : G a2 = some 16) (ga3 : G a3 = some 1) (ecn : cn = fI H a0 (K.1.2 1 4)) : MX l K yX1_find cX1_find 8 (some .int) 4 104 0 0 [.ref a0, .ref a1, .ref a2, .ref a3, .int x4, .int x5] H (AE G [98, 101, 102, 99, 100, 83, 84] H.size) (fun v H1 => ∃ (r : Int32) (t0 : Int32), v = some (.int r) ∧ t0 = fI H1 a0 (K.1.2 1 4) ∧ TY K G H1) := by
  refine MX.of (by decide +kernel) (Nat.le_of_ble_eq_true rfl) ?_
  intro p e s m below meth c ls Q C hH hl hQ
  subst hH
  have C : CX p K s m _ meth c RX1 cX1_find 8 (some .int) "find" := C
  obtain ⟨hx, hb, hml, hown, hts, hKT, hr, hlocks, hnm⟩ := id C
  have hl : lv_has ls 8 [(0, .ref a0), (1, .ref a1), (2, .ref a2), (3, .ref a3), (4, .int x4), (5, .int x5)] := hl
  have hS : va_S (AE G [98, 101, 102, 99, 100, 83, 84] s.heap.size) s.heap s.heap [] := va_S.rf
  have n_0 : (0 : Int32).toInt = 0 := rfl
  have n_1 : (1 : Int32).toInt = 1 := rfl
  have n_4 : (4 : Int32).toInt = 4 := rfl
  have n_1024 : (1024 : Int32).toInt = 1024 := rfl
  have bcn := ty_fi (x := cn) (k := 4) ecn hT ga0 rg_98 rfl
  have J17 : ∀ (nf : Nat) (ls1977 : Array Slot) (H1976 : Heap) (locsH1976 : List Loc) (x1979 : Int32) (x1980 : Int32), lv_has ls1977 8 [(0, .ref a0), (1, .ref a1), (2, .ref a2), (3, .ref a3), (5, .int x5), (6, .int x1979)] → TY K G H1976 → va_S (AE G [98, 101, 102, 99, 100, 83, 84] s.heap.size) s.heap H1976 locsH1976 → (0 ≤ x1979.toInt ∧ x1979.toInt ≤ 12) → (0 ≤ x1980.toInt ∧ x1980.toInt ≤ 1024) → (x1980 = fI H1976 a0 (K.1.2 1 4)) → (12 - x1979.toInt < (nf : Int)) → W p l e ({ frames := 4, cells := 0, slots := 0, locals := 104 } : Room) s m (([.ref a0, .ref a1, .ref a2, .ref a3, .int x4, .int x5] : List Value).toArray) below meth c H1976 locsH1976 0 0 Q (F0 m 17 ls1977 []) := by
    intro nf
    induction nf with
    | zero =>
      intro ls1977 H1976 locsH1976 x1979 x1980 hl1978 hTH1976 hSH1976 bx1979 bx1980 ex1980 hm17
      exfalso
      omega
    | succ nf ih17 =>
      intro ls1977 H1976 locsH1976 x1979 x1980 hl1978 hTH1976 hSH1976 bx1979 bx1980 ex1980 hm17
      have J68 : ∀ (nf : Nat) (ls1983 : Array Slot) (H1982 : Heap) (locsH1982 : List Loc) (x1985 : Int32) (x1986 : Int32) (x1987 : Int32), lv_has ls1983 8 [(0, .ref a0), (3, .ref a3), (5, .int x5), (6, .int x1985), (7, .int x1986)] → TY K G H1982 → va_S (AE G [98, 101, 102, 99, 100, 83, 84] s.heap.size) s.heap H1982 locsH1982 → (0 ≤ x1986.toInt ∧ x1986.toInt ≤ 16) → (0 ≤ x1987.toInt ∧ x1987.toInt ≤ 1024) → (x1987 = fI H1982 a0 (K.1.2 1 4)) → (16 - x1986.toInt < (nf : Int)) → W p l e ({ frames := 4, cells := 0, slots := 0, locals := 104 } : Room) s m (([.ref a0, .ref a1, .ref a2, .ref a3, .int x4, .int x5] : List Value).toArray) below meth c H1982 locsH1982 0 0 Q (F0 m 68 ls1983 []) := by
        intro nf
        induction nf with
        | zero =>
          intro ls1983 H1982 locsH1982 x1985 x1986 x1987 hl1984 hTH1982 hSH1982 bx1986 bx1987 ex1987 hm68
          have rx1985 := i_rng x1985
          exfalso
          omega
        | succ nf ih68 =>
          intro ls1983 H1982 locsH1982 x1985 x1986 x1987 hl1984 hTH1982 hSH1982 bx1986 bx1987 ex1987 hm68
          have rx1985 := i_rng x1985
          have J100 : ∀ (nf : Nat) (ls1990 : Array Slot) (H1989 : Heap) (locsH1989 : List Loc) (x1992 : Int32) (x1993 : Int32), lv_has ls1990 8 [(0, .ref a0), (3, .ref a3), (5, .int x5), (6, .int x1985), (7, .int x1992)] → TY K G H1989 → va_S (AE G [98, 101, 102, 99, 100, 83, 84] s.heap.size) s.heap H1989 locsH1989 → (0 ≤ x1992.toInt ∧ x1992.toInt ≤ 1024) → (0 ≤ x1993.toInt ∧ x1993.toInt ≤ 1024) → (x1993 = fI H1989 a0 (K.1.2 1 4)) → (1024 - x1992.toInt < (nf : Int)) → (x1993.toInt ≤ x1992.toInt) → W p l e ({ frames := 4, cells := 0, slots := 0, locals := 104 } : Room) s m (([.ref a0, .ref a1, .ref a2, .ref a3, .int x4, .int x5] : List Value).toArray) below meth c H1989 locsH1989 0 0 Q (F0 m 100 ls1990 []) := by
            intro nf
            induction nf with
            | zero =>
              intro ls1990 H1989 locsH1989 x1992 x1993 hl1991 hTH1989 hSH1989 bx1992 bx1993 ex1993 hm100 iv100
              exfalso
              omega
            | succ nf ih100 =>
              intro ls1990 H1989 locsH1989 x1992 x1993 hl1991 hTH1989 hSH1989 bx1992 bx1993 ex1993 hm100 iv100
              have J158 : ∀ (ls1996 : Array Slot) (H1995 : Heap) (locsH1995 : List Loc) (x1998 : Int32), lv_has ls1996 8 [(0, .ref a0)] → TY K G H1995 → va_S (AE G [98, 101, 102, 99, 100, 83, 84] s.heap.size) s.heap H1995 locsH1995 → (0 ≤ x1998.toInt ∧ x1998.toInt ≤ 1024) → (x1998 = fI H1995 a0 (K.1.2 1 4)) → W p l e ({ frames := 4, cells := 0, slots := 0, locals := 104 } : Room) s m (([.ref a0, .ref a1, .ref a2, .ref a3, .int x4, .int x5] : List Value).toArray) below meth c H1995 locsH1995 0 0 Q (F0 m 158 ls1996 []) := by
                intro ls1996 H1995 locsH1995 x1998 hl1997 hTH1995 hSH1995 bx1998 ex1998
                refine lv_aload_n hx hb dX1_find_158 rfl (lv_at hl1997 0 rfl) ?_
                refine x_gi C hTH1995 (ci := 1) (k := 4) rfl inX1 (by decide) wF_X1_69 ga0 rg_98 rfl dX1_find_159 (fun x2000 ex2000 bx2000 => ?_)
                have ux2000 : x1998 = x2000 := (ex1998).trans ex2000.symm
                subst ux2000
                exact x_iret C hQ dX1_find_162 hSH1995 (by decide) (by decide) (⟨x1998, x1998, rfl, ex1998, hTH1995⟩)
              have J152 : ∀ (ls2002 : Array Slot) (H2001 : Heap) (locsH2001 : List Loc) (x2006 : Int32), lv_has ls2002 8 [(0, .ref a0), (3, .ref a3), (5, .int x5), (6, .int x1985), (7, .int x1992)] → TY K G H2001 → va_S (AE G [98, 101, 102, 99, 100, 83, 84] s.heap.size) s.heap H2001 locsH2001 → (1 ≤ x1985.toInt ∧ x1985.toInt ≤ 2147483647) → (0 ≤ x1992.toInt ∧ x1992.toInt ≤ 1023) → (0 ≤ x2006.toInt ∧ x2006.toInt ≤ 1024) → (x2006 = fI H2001 a0 (K.1.2 1 4)) → (x2006.toInt ≤ x1992.toInt + 1) → W p l e ({ frames := 4, cells := 0, slots := 0, locals := 104 } : Room) s m (([.ref a0, .ref a1, .ref a2, .ref a3, .int x4, .int x5] : List Value).toArray) below meth c H2001 locsH2001 0 0 Q (F0 m 152 ls2002 []) := by
                intro ls2002 H2001 locsH2001 x2006 hl2003 hTH2001 hSH2001 b2004 b2005 bx2006 ex2006 iv152
                obtain ⟨x2008, ex2008⟩ : ∃ y : Int32, y = x1992 + 1 := ⟨_, rfl⟩
                have tx2008 := i_add ex2008 (by omega)
                refine lv_iinc (v := x2008) (lv' := [(7, .int x2008), (0, .ref a0), (3, .ref a3), (5, .int x5), (6, .int x1985)]) hx hb dX1_find_152 hl2003 (k := 4) rfl (by rw [ex2008]; rfl) (by decide) rfl (fun ls2009 hl2010 => ?_)
                refine lv_goto (tgt := 100) hx hb dX1_find_155 (by decide) ?_
                exact ih100 ls2009 H2001 locsH2001 (x2008) (x2006) (lv_sub hl2010 [1, 2, 3, 4, 0] rfl) hTH2001 hSH2001 (by have := i_rng x2008; omega) (by have := i_rng x2006; omega) ex2006 (by omega) (by omega)
              refine lv_iload hx hb dX1_find_100 (lv_at hl1991 4 rfl) ?_
              refine lv_iload hx hb dX1_find_102 (lv_at hl1991 3 rfl) ?_
              refine lv_icmp_ge (tgt := 158) hx hb dX1_find_104 (by decide) (fun c2011 => ?_) (fun c2011 => ?_)
              · have k2012 := i_le c2011
                exact J158 ls1990 H1989 locsH1989 (x1993) (lv_sub hl1991 [0] rfl) hTH1989 hSH1989 (by have := i_rng x1993; omega) ex1993
              · have k2012 := i_nle c2011
                refine lv_iload hx hb dX1_find_107 (lv_at hl1991 4 rfl) ?_
                refine lv_sipush (v := 1024) hx hb dX1_find_109 (by decide) ?_
                refine lv_icmp_ge (tgt := 158) hx hb dX1_find_112 (by decide) (fun c2013 => ?_) (fun c2013 => ?_)
                · have k2014 := i_le c2013
                  exact J158 ls1990 H1989 locsH1989 (x1993) (lv_sub hl1991 [0] rfl) hTH1989 hSH1989 (by have := i_rng x1993; omega) ex1993
                · have k2014 := i_nle c2013
                  refine lv_aload_n hx hb dX1_find_115 rfl (lv_at hl1991 0 rfl) ?_
                  refine lv_iload hx hb dX1_find_116 (lv_at hl1991 4 rfl) ?_
                  refine x_V (As := [.int x1992]) (rest := []) C (a_X1_unfold l K G H1989 (x1992) hTH1989 ga0 (by omega)) yo_X1_unfold wM_X1_72 ⟨⟨by decide, by decide⟩, by decide, by decide⟩ (x_rv C hTH1989 (ci := 1) rfl ga0 rg_98) rfl hl1991.1 rfl (Nat.le_of_ble_eq_true rfl) dX1_find_118 hSH1989 (AE_sub (fun _ _ => rfl) (by decide) hSH1989.1) (fun vH2015 H2015 locsH2015 pH2015 zH2015 kH2015 hSH2015 => ?_)
                  obtain ⟨hvH2015, hTH2015⟩ := pH2015
                  subst hvH2015
                  have m2016 := (ex1993).trans (fI_kept (x_lt hTH1989 kH2015 ga0 (by decide))).symm
                  refine W.eq (g2 := F0 m 121 ls1990 []) rfl ?_
                  refine lv_aload_n hx hb dX1_find_121 rfl (lv_at hl1991 0 rfl) ?_
                  refine lv_aload_n hx hb dX1_find_122 rfl (lv_at hl1991 1 rfl) ?_
                  refine lv_iload hx hb dX1_find_123 (lv_at hl1991 2 rfl) ?_
                  refine x_V (As := [.ref a3, .int x5]) (rest := []) C (a_X1_isHeard l K G H2015 (x5) hTH2015 ga0 ga3) yo_X1_isHeard wM_X1_76 ⟨⟨by decide, by decide⟩, by decide, by decide⟩ (x_rv C hTH2015 (ci := 1) rfl ga0 rg_98) rfl hl1991.1 rfl (Nat.le_of_ble_eq_true rfl) dX1_find_125 hSH2015 (AE_sub (fun _ _ => rfl) (by decide) hSH2015.1) (fun vH2017 H2017 locsH2017 pH2017 zH2017 kH2017 hSH2017 => ?_)
                  obtain ⟨x2018, hvH2017, bx2018, hTH2017⟩ := pH2017
                  subst hvH2017
                  have m2019 := (m2016).trans (fI_kept (x_lt hTH2015 kH2017 ga0 (by decide))).symm
                  refine W.eq (g2 := F0 m 128 ls1990 [.int x2018]) rfl ?_
                  refine lv_if_eq (tgt := 152) hx hb dX1_find_128 (by decide) (fun c2020 => ?_) (fun c2020 => ?_)
                  · have k2021 := i_eq c2020
                    exact J152 ls1990 H2017 locsH2017 (x1993) (lv_sub hl1991 [0, 1, 2, 3, 4] rfl) hTH2017 hSH2017 (by have := i_rng x1985; omega) (by have := i_rng x1992; omega) (by have := i_rng x1993; omega) m2019 (by omega)
                  · have k2021 := i_ne c2020
                    refine lv_aload_n hx hb dX1_find_131 rfl (lv_at hl1991 0 rfl) ?_
                    refine x_gr C hTH2017 (ci := 1) (k := 3) rfl inX1 (by decide) wF_X1_21 ga0 rg_98 rfl dX1_find_132 (fun q2022 eq2022 gq2022 => ?_)
                    refine lv_aload_n hx hb dX1_find_135 rfl (lv_at hl1991 0 rfl) ?_
                    refine x_gi C hTH2017 (ci := 1) (k := 4) rfl inX1 (by decide) wF_X1_69 ga0 rg_98 rfl dX1_find_136 (fun x2023 ex2023 bx2023 => ?_)
                    have ux2023 : x1993 = x2023 := (m2019).trans ex2023.symm
                    subst ux2023
                    refine lv_iload hx hb dX1_find_139 (lv_at hl1991 4 rfl) ?_
                    refine x_iast C hTH2017 hSH2017 gq2022 rg_102 (by omega) (by show _ < ((1024 : Nat) : Int); omega) ⟨by have := i_rng x1992; omega, by have := i_rng x1992; omega⟩ (AE_in gq2022 (by decide)) dX1_find_141 (fun H2024 locsH2024 hTH2024 hSH2024 wH2024 => ?_)
                    have m2025 := m2019.trans (Wr.neI wH2024 (Or.inl (G_ne ga0 gq2022 (by decide)))).symm
                    have m2026 := eq2022.trans (Wr.neR wH2024 (Or.inl (G_ne ga0 gq2022 (by decide)))).symm
                    have m2027 := Wr.I wH2024
                    have m2027 := m2027.symm
                    refine lv_aload_n hx hb dX1_find_142 rfl (lv_at hl1991 0 rfl) ?_
                    refine lv_dup hx hb dX1_find_143 rfl ?_
                    refine x_gi C hTH2024 (ci := 1) (k := 4) rfl inX1 (by decide) wF_X1_69 ga0 rg_98 rfl dX1_find_144 (fun x2028 ex2028 bx2028 => ?_)
                    have ux2028 : x1993 = x2028 := (m2025).trans ex2028.symm
                    subst ux2028
                    refine lv_iconst (v := 1) hx hb dX1_find_147 (by decide) ?_
                    refine lv_iadd hx hb dX1_find_148 ?_
                    refine lv_topi (fun x2029 ex2029 => ?_)
                    have tx2029 := i_add ex2029 (by omega)
                    have fz2031 : 0 ≤ x2029.toInt ∧ x2029.toInt ≤ 1024 := by have := i_rng x2029; omega
                    refine x_put C hTH2024 hSH2024 (ci := 1) (k := 4) (v := .int x2029) (ty0 := tyX1) rfl inX1 tyX1_ok nmX1 (by decide) rfl wF_X1_69 ga0 rg_98 rfl rfl (okI (by have := i_rng x2029; omega) (by have := i_rng x2029; omega)) rfl rfl (AE_in ga0 (by decide)) dX1_find_149 (fun H2030 locsH2030 hTH2030 hSH2030 wH2030 => ?_)
                    have m2033 := m2026.trans (Wr.neR wH2030 (Or.inr (x_apart hKT hts inX1 tyX1 tyX1_ok nmX1 rfl 3 4 (by decide) (by decide) (by decide)))).symm
                    have m2034 := m2027.trans (Wr.neI wH2030 (Or.inl (G_ne gq2022 ga0 (by decide)))).symm
                    have m2035 := Wr.I wH2030
                    have m2035 := m2035.symm
                    exact J152 ls1990 H2030 locsH2030 (x2029) (lv_sub hl1991 [0, 1, 2, 3, 4] rfl) hTH2030 hSH2030 (by have := i_rng x1985; omega) (by have := i_rng x1992; omega) (by have := i_rng x2029; omega) m2035 (by omega)
          refine lv_iload hx hb dX1_find_68 (lv_at hl1984 4 rfl) ?_
          refine lv_aload_n hx hb dX1_find_70 rfl (lv_at hl1984 1 rfl) ?_
          refine x_gi C hTH1982 (ci := 0) (k := 0) rfl inX0 (by decide) wF_X1_66 ga3 rg_1 rfl dX1_find_71 (fun x2036 ex2036 bx2036 => ?_)
          refine lv_icmp_ge (tgt := 92) hx hb dX1_find_74 (by decide) (fun c2037 => ?_) (fun c2037 => ?_)
          · have k2038 := i_le c2037
            refine lv_aload_n hx hb dX1_find_92 rfl (lv_at hl1984 0 rfl) ?_
            refine lv_iconst (v := 0) hx hb dX1_find_93 (by decide) ?_
            refine x_put C hTH1982 hSH1982 (ci := 1) (k := 4) (v := .int 0) (ty0 := tyX1) rfl inX1 tyX1_ok nmX1 (by decide) rfl wF_X1_69 ga0 rg_98 rfl rfl (okI (by have := i_rng (0 : Int32); omega) (by have := i_rng (0 : Int32); omega)) rfl rfl (AE_in ga0 (by decide)) dX1_find_94 (fun H2039 locsH2039 hTH2039 hSH2039 wH2039 => ?_)
            have m2041 := ex2036.trans (Wr.neI wH2039 (Or.inl (G_ne ga3 ga0 (by decide)))).symm
            have m2042 := Wr.I wH2039
            refine lv_iconst (v := 0) hx hb dX1_find_97 (by decide) ?_
            refine lv_istore (lv' := [(7, .int 0), (0, .ref a0), (3, .ref a3), (5, .int x5), (6, .int x1985)]) hx hb dX1_find_98 hl1984 (by decide) rfl (fun ls2043 hl2044 => ?_)
            exact J100 ((1024 - (0 : Int32).toInt).toNat + 1) ls2043 H2039 locsH2039 (0) (0) (lv_sub hl2044 [1, 2, 3, 4, 0] rfl) hTH2039 hSH2039 (by decide) (by decide) (m2042).symm (by omega) (by omega)
          · have k2038 := i_nle c2037
            refine lv_iload hx hb dX1_find_77 (lv_at hl1984 3 rfl) ?_
            refine lv_aload_n hx hb dX1_find_79 rfl (lv_at hl1984 0 rfl) ?_
            refine x_gi C hTH1982 (ci := 1) (k := 5) rfl inX1 (by decide) wF_X1_43 ga0 rg_98 rfl dX1_find_80 (fun x2045 ex2045 bx2045 => ?_)
            refine lv_imul hx hb dX1_find_83 ?_
            refine lv_topi (fun x2046 ex2046 => ?_)
            refine lv_istore (lv' := [(6, .int x2046), (0, .ref a0), (3, .ref a3), (5, .int x5), (7, .int x1986)]) hx hb dX1_find_84 hl1984 (by decide) rfl (fun ls2047 hl2048 => ?_)
            obtain ⟨x2049, ex2049⟩ : ∃ y : Int32, y = x1986 + 1 := ⟨_, rfl⟩
            have tx2049 := i_add ex2049 (by omega)
            refine lv_iinc (v := x2049) (lv' := [(7, .int x2049), (6, .int x2046), (0, .ref a0), (3, .ref a3), (5, .int x5)]) hx hb dX1_find_86 hl2048 (k := 4) rfl (by rw [ex2049]; rfl) (by decide) rfl (fun ls2050 hl2051 => ?_)
            refine lv_goto (tgt := 68) hx hb dX1_find_89 (by decide) ?_
            exact ih68 ls2050 H1982 locsH1982 (x2046) (x2049) (x1987) (lv_sub hl2051 [2, 3, 4, 1, 0] rfl) hTH1982 hSH1982 (by have := i_rng x2049; omega) (by have := i_rng x1987; omega) ex1987 (by omega)
      refine lv_iload hx hb dX1_find_17 (lv_at hl1978 5 rfl) ?_
      refine lv_aload_n hx hb dX1_find_19 rfl (lv_at hl1978 3 rfl) ?_
      refine x_gi C hTH1976 (ci := 0) (k := 14) rfl inX0 (by decide) wF_X1_47 ga3 rg_1 rfl dX1_find_20 (fun x2052 ex2052 bx2052 => ?_)
      refine lv_icmp_ge (tgt := 62) hx hb dX1_find_23 (by decide) (fun c2053 => ?_) (fun c2053 => ?_)
      · have k2054 := i_le c2053
        refine lv_iconst (v := 1) hx hb dX1_find_62 (by decide) ?_
        refine lv_istore (lv' := [(6, .int 1), (0, .ref a0), (1, .ref a1), (2, .ref a2), (3, .ref a3), (5, .int x5)]) hx hb dX1_find_63 hl1978 (by decide) rfl (fun ls2055 hl2056 => ?_)
        refine lv_iconst (v := 0) hx hb dX1_find_65 (by decide) ?_
        refine lv_istore (lv' := [(7, .int 0), (6, .int 1), (0, .ref a0), (1, .ref a1), (2, .ref a2), (3, .ref a3), (5, .int x5)]) hx hb dX1_find_66 hl2056 (by decide) rfl (fun ls2057 hl2058 => ?_)
        exact J68 ((16 - (0 : Int32).toInt).toNat + 1) ls2057 H1976 locsH1976 (1) (0) (x1980) (lv_sub hl2058 [2, 5, 6, 1, 0] rfl) hTH1976 hSH1976 (by decide) (by have := i_rng x1980; omega) ex1980 (by omega)
      · have k2054 := i_nle c2053
        refine lv_aload_n hx hb dX1_find_26 rfl (lv_at hl1978 0 rfl) ?_
        refine lv_aload_n hx hb dX1_find_27 rfl (lv_at hl1978 1 rfl) ?_
        refine lv_aload_n hx hb dX1_find_28 rfl (lv_at hl1978 2 rfl) ?_
        refine lv_aload_n hx hb dX1_find_29 rfl (lv_at hl1978 3 rfl) ?_
        refine lv_iload hx hb dX1_find_30 (lv_at hl1978 5 rfl) ?_
        refine lv_aload_n hx hb dX1_find_32 rfl (lv_at hl1978 3 rfl) ?_
        refine x_gr C hTH1976 (ci := 0) (k := 10) rfl inX0 (by decide) wF_X1_52 ga3 rg_1 rfl dX1_find_33 (fun q2059 eq2059 gq2059 => ?_)
        refine lv_iload hx hb dX1_find_36 (lv_at hl1978 5 rfl) ?_
        refine x_ai C hTH1976 gq2059 rg_9 ⟨by omega, by show _ < ((12 : Nat) : Int); omega⟩ dX1_find_38 (fun x2060 ex2060 bx2060 => ?_)
        refine lv_aload_n hx hb dX1_find_39 rfl (lv_at hl1978 3 rfl) ?_
        refine x_gr C hTH1976 (ci := 0) (k := 12) rfl inX0 (by decide) wF_X1_55 ga3 rg_1 rfl dX1_find_40 (fun q2061 eq2061 gq2061 => ?_)
        refine lv_iload hx hb dX1_find_43 (lv_at hl1978 5 rfl) ?_
        refine x_ar C hTH1976 rfl rfl gq2061 rg_11 ⟨by omega, by show _ < ((12 : Nat) : Int); omega⟩ dX1_find_45 (fun q2062 eq2062 gq2062 => ?_)
        refine lv_aload_n hx hb dX1_find_46 rfl (lv_at hl1978 3 rfl) ?_
        refine x_gr C hTH1976 (ci := 0) (k := 13) rfl inX0 (by decide) wF_X1_59 ga3 rg_1 rfl dX1_find_47 (fun q2063 eq2063 gq2063 => ?_)
        refine lv_iload hx hb dX1_find_50 (lv_at hl1978 5 rfl) ?_
        refine x_ar C hTH1976 rfl rfl gq2063 rg_13 ⟨by omega, by show _ < ((12 : Nat) : Int); omega⟩ dX1_find_52 (fun q2064 eq2064 gq2064 => ?_)
        refine x_V (As := [.ref a1, .ref a2, .ref a3, .int x1979, .int x2060, .ref q2062, .ref q2064]) (rest := []) C (a_X1_fill_t l K G H1976 (x1979) (x2060) hTH1976 ga0 ga1 ga2 ga3 (by omega) gq2062 gq2064) yo_X1_fill wM_X1_62 ⟨⟨by decide, by decide⟩, by decide, by decide⟩ (x_rv C hTH1976 (ci := 1) rfl ga0 rg_98) rfl hl1978.1 rfl (Nat.le_of_ble_eq_true rfl) dX1_find_53 hSH1976 (AE_sub (fun _ _ => rfl) (by decide) hSH1976.1) (fun vH2065 H2065 locsH2065 pH2065 zH2065 kH2065 hSH2065 => ?_)
        obtain ⟨hvH2065, hTH2065⟩ := pH2065
        subst hvH2065
        have m2066 := (ex1980).trans (fI_kept (x_lt hTH1976 kH2065 ga0 (by decide))).symm
        have m2067 := (ex2052).trans (fI_kept (x_lt hTH1976 kH2065 ga3 (by decide))).symm
        have m2068 := (eq2059).trans (fR_kept (x_lt hTH1976 kH2065 ga3 (by decide))).symm
        have m2069 := (ex2060).trans (fI_kept (x_lt hTH1976 kH2065 gq2059 (by decide))).symm
        have m2070 := (eq2061).trans (fR_kept (x_lt hTH1976 kH2065 ga3 (by decide))).symm
        have m2071 := (eq2063).trans (fR_kept (x_lt hTH1976 kH2065 ga3 (by decide))).symm
        refine W.eq (g2 := F0 m 56 ls1977 []) rfl ?_
        obtain ⟨x2072, ex2072⟩ : ∃ y : Int32, y = x1979 + 1 := ⟨_, rfl⟩
        have tx2072 := i_add ex2072 (by omega)
        refine lv_iinc (v := x2072) (lv' := [(6, .int x2072), (0, .ref a0), (1, .ref a1), (2, .ref a2), (3, .ref a3), (5, .int x5)]) hx hb dX1_find_56 hl1978 (k := 5) rfl (by rw [ex2072]; rfl) (by decide) rfl (fun ls2073 hl2074 => ?_)
        refine lv_goto (tgt := 17) hx hb dX1_find_59 (by decide) ?_
        exact ih17 ls2073 H2065 locsH2065 (x2072) (x1980) (lv_sub hl2074 [1, 2, 3, 4, 5, 0] rfl) hTH2065 hSH2065 (by have := i_rng x2072; omega) (by have := i_rng x1980; omega) m2066 (by omega)
  refine lv_aload_n hx hb dX1_find_0 rfl (lv_at hl 0 rfl) ?_
  refine lv_iconst (v := 1) hx hb dX1_find_1 (by decide) ?_
  refine lv_iload hx hb dX1_find_2 (lv_at hl 4 rfl) ?_
  refine lv_iconst (v := 4) hx hb dX1_find_4 (by decide) ?_
  refine va_mmin hx hb (hml.trans hl.1.symm) hown (hts _ wM_X1_34) (hts _ wST_J9_min_7cf53) (hts _ wIN_J9) (hts _ wCD_J9_min_7cf53) (by decide) (Nat.le_of_ble_eq_true rfl) (by decide) (by decide) dX1_find_5 ?_
  refine lv_topi (fun x2075 ex2075 => ?_)
  have tx2075 := i_min ex2075
  refine va_mmax hx hb (hml.trans hl.1.symm) hown (hts _ wM_X1_40) (hts _ wST_J9_max_7cf53) (hts _ wIN_J9) (hts _ wCD_J9_max_7cf53) (by decide) (Nat.le_of_ble_eq_true rfl) (by decide) (by decide) dX1_find_8 ?_
  refine lv_topi (fun x2076 ex2076 => ?_)
  have tx2076 := i_max ex2076
  refine x_put C hT hS (ci := 1) (k := 5) (v := .int x2076) (ty0 := tyX1) rfl inX1 tyX1_ok nmX1 (by decide) rfl wF_X1_43 ga0 rg_98 rfl rfl (okI (by have := i_rng x2076; omega) (by have := i_rng x2076; omega)) rfl rfl (AE_in ga0 (by decide)) dX1_find_11 (fun H2077 locsH2077 hTH2077 hSH2077 wH2077 => ?_)
  have m2078 := ecn.trans (Wr.neI wH2077 (Or.inr (x_apart hKT hts inX1 tyX1 tyX1_ok nmX1 rfl 4 5 (by decide) (by decide) (by decide)))).symm
  have m2079 := Wr.I wH2077
  have m2079 := m2079.symm
  refine lv_iconst (v := 0) hx hb dX1_find_14 (by decide) ?_
  refine lv_istore (lv' := [(6, .int 0), (0, .ref a0), (1, .ref a1), (2, .ref a2), (3, .ref a3), (4, .int x4), (5, .int x5)]) hx hb dX1_find_15 hl (by decide) rfl (fun ls2080 hl2081 => ?_)
  exact J17 ((12 - (0 : Int32).toInt).toNat + 1) ls2080 H2077 locsH2077 (0) (cn) (lv_sub hl2081 [1, 2, 3, 4, 6, 0] rfl) hTH2077 hSH2077 (by decide) (by have := i_rng cn; omega) m2078 (by omega)

set_option maxHeartbeats 4000000 in
set_option maxRecDepth 100000 in
theorem a_X1_sure (l : Launch) (K : KE) (G : Nat → Option Nat) (H : Heap) {a0 : Nat} (x1 : Int32) (hT : TY K G H) (ga0 : G a0 = some 98) (hx1 : 0 ≤ x1.toInt ∧ x1.toInt ≤ 4) : MX l K yX1_sure cX1_sure 4 (some .int) 1 23 0 0 [.ref a0, .int x1] H (AE G [101] H.size) (fun v H1 => ∃ (r : Int32), v = some (.int r) ∧ TY K G H1) := by
  refine MX.of (by decide +kernel) (Nat.le_of_ble_eq_true rfl) ?_
  intro p e s m below meth c ls Q C hH hl hQ
  subst hH
  have C : CX p K s m _ meth c RX1 cX1_sure 4 (some .int) "sure" := C
  obtain ⟨hx, hb, hml, hown, hts, hKT, hr, hlocks, hnm⟩ := id C
  have hl : lv_has ls 4 [(0, .ref a0), (1, .int x1)] := hl
  have hS : va_S (AE G [101] s.heap.size) s.heap s.heap [] := va_S.rf
  have n_m1 : ((-1) : Int32).toInt = -1 := rfl
  have n_0 : (0 : Int32).toInt = 0 := rfl
  have n_1 : (1 : Int32).toInt = 1 := rfl
  have J4 : ∀ (nf : Nat) (ls833 : Array Slot) (H832 : Heap) (locsH832 : List Loc) (x835 : Int32) (x836 : Int32), lv_has ls833 4 [(0, .ref a0), (1, .int x1), (2, .int x835), (3, .int x836)] → TY K G H832 → va_S (AE G [101] s.heap.size) s.heap H832 locsH832 → ((-1) ≤ x835.toInt ∧ x835.toInt ≤ 4) → (0 ≤ x836.toInt ∧ x836.toInt ≤ 1024) → (1024 - x836.toInt < (nf : Int)) → W p l e ({ frames := 1, cells := 0, slots := 0, locals := 23 } : Room) s m (([.ref a0, .int x1] : List Value).toArray) below meth c H832 locsH832 0 0 Q (F0 m 4 ls833 []) := by
    intro nf
    induction nf with
    | zero =>
      intro ls833 H832 locsH832 x835 x836 hl834 hTH832 hSH832 bx835 bx836 hm4
      exfalso
      omega
    | succ nf ih4 =>
      intro ls833 H832 locsH832 x835 x836 hl834 hTH832 hSH832 bx835 bx836 hm4
      have J41 : ∀ (ls839 : Array Slot) (H838 : Heap) (locsH838 : List Loc) , lv_has ls839 4 [(0, .ref a0), (1, .int x1), (3, .int x836)] → TY K G H838 → va_S (AE G [101] s.heap.size) s.heap H838 locsH838 → (0 ≤ x836.toInt ∧ x836.toInt ≤ 1023) → W p l e ({ frames := 1, cells := 0, slots := 0, locals := 23 } : Room) s m (([.ref a0, .int x1] : List Value).toArray) below meth c H838 locsH838 0 0 Q (F0 m 41 ls839 []) := by
        intro ls839 H838 locsH838  hl840 hTH838 hSH838 b841
        refine lv_aload_n hx hb dX1_sure_41 rfl (lv_at hl840 0 rfl) ?_
        refine x_gr C hTH838 (ci := 1) (k := 2) rfl inX1 (by decide) wF_X1_18 ga0 rg_98 rfl dX1_sure_42 (fun q843 eq843 gq843 => ?_)
        refine lv_iload_n hx hb dX1_sure_45 rfl (lv_at hl840 1 rfl) ?_
        refine x_ai C hTH838 gq843 rg_101 ⟨by omega, by show _ < ((5 : Nat) : Int); omega⟩ dX1_sure_46 (fun x844 ex844 bx844 => ?_)
        refine lv_iconst (v := 1) hx hb dX1_sure_47 (by decide) ?_
        refine lv_iadd hx hb dX1_sure_48 ?_
        refine lv_topi (fun x845 ex845 => ?_)
        have tx845 := i_add ex845 (by omega)
        refine lv_istore_n (lv' := [(2, .int x845), (0, .ref a0), (1, .int x1), (3, .int x836)]) hx hb dX1_sure_49 rfl hl840 (by decide) rfl (fun ls846 hl847 => ?_)
        obtain ⟨x848, ex848⟩ : ∃ y : Int32, y = x836 + 1 := ⟨_, rfl⟩
        have tx848 := i_add ex848 (by omega)
        refine lv_iinc (v := x848) (lv' := [(3, .int x848), (2, .int x845), (0, .ref a0), (1, .int x1)]) hx hb dX1_sure_50 hl847 (k := 3) rfl (by rw [ex848]; rfl) (by decide) rfl (fun ls849 hl850 => ?_)
        refine lv_goto (tgt := 4) hx hb dX1_sure_53 (by decide) ?_
        exact ih4 ls849 H838 locsH838 (x845) (x848) (lv_sub hl850 [2, 3, 1, 0] rfl) hTH838 hSH838 (by have := i_rng x845; omega) (by have := i_rng x848; omega) (by omega)
      refine lv_iload_n hx hb dX1_sure_4 rfl (lv_at hl834 3 rfl) ?_
      refine lv_aload_n hx hb dX1_sure_5 rfl (lv_at hl834 0 rfl) ?_
      refine x_gi C hTH832 (ci := 1) (k := 4) rfl inX1 (by decide) wF_X1_69 ga0 rg_98 rfl dX1_sure_6 (fun x851 ex851 bx851 => ?_)
      refine lv_icmp_ge (tgt := 56) hx hb dX1_sure_9 (by decide) (fun c852 => ?_) (fun c852 => ?_)
      · have k853 := i_le c852
        refine lv_iload_n hx hb dX1_sure_56 rfl (lv_at hl834 2 rfl) ?_
        exact x_iret C hQ dX1_sure_57 hSH832 (by decide) (by decide) (⟨x835, rfl, hTH832⟩)
      · have k853 := i_nle c852
        refine lv_aload_n hx hb dX1_sure_12 rfl (lv_at hl834 0 rfl) ?_
        refine lv_aload_n hx hb dX1_sure_13 rfl (lv_at hl834 0 rfl) ?_
        refine x_gr C hTH832 (ci := 1) (k := 3) rfl inX1 (by decide) wF_X1_21 ga0 rg_98 rfl dX1_sure_14 (fun q854 eq854 gq854 => ?_)
        refine lv_iload_n hx hb dX1_sure_17 rfl (lv_at hl834 3 rfl) ?_
        refine x_ai C hTH832 gq854 rg_102 ⟨by omega, by show _ < ((1024 : Nat) : Int); omega⟩ dX1_sure_18 (fun x855 ex855 bx855 => ?_)
        refine x_V (As := [.int x855]) (rest := []) C (a_X1_unfold l K G H832 (x855) hTH832 ga0 (by omega)) yo_X1_unfold wM_X1_72 ⟨⟨by decide, by decide⟩, by decide, by decide⟩ (x_rv C hTH832 (ci := 1) rfl ga0 rg_98) rfl hl834.1 rfl (Nat.le_of_ble_eq_true rfl) dX1_sure_19 hSH832 (AE_sub (fun _ _ => rfl) (by decide) hSH832.1) (fun vH856 H856 locsH856 pH856 zH856 kH856 hSH856 => ?_)
        obtain ⟨hvH856, hTH856⟩ := pH856
        subst hvH856
        have m857 := (ex851).trans (fI_kept (x_lt hTH832 kH856 ga0 (by decide))).symm
        have m858 := (eq854).trans (fR_kept (x_lt hTH832 kH856 ga0 (by decide))).symm
        have m859 := (ex855).trans (fI_kept (x_lt hTH832 kH856 gq854 (by decide))).symm
        refine W.eq (g2 := F0 m 22 ls833 []) rfl ?_
        refine lv_iload_n hx hb dX1_sure_22 rfl (lv_at hl834 2 rfl) ?_
        refine lv_iconst (v := (-1)) hx hb dX1_sure_23 (by decide) ?_
        refine lv_icmp_eq (tgt := 41) hx hb dX1_sure_24 (by decide) (fun c860 => ?_) (fun c860 => ?_)
        · have k861 := i_eq c860
          exact J41 ls833 H856 locsH856 (lv_sub hl834 [0, 1, 3] rfl) hTH856 hSH856 (by have := i_rng x836; omega)
        · have k861 := i_ne c860
          refine lv_iload_n hx hb dX1_sure_27 rfl (lv_at hl834 2 rfl) ?_
          refine lv_aload_n hx hb dX1_sure_28 rfl (lv_at hl834 0 rfl) ?_
          refine x_gr C hTH856 (ci := 1) (k := 2) rfl inX1 (by decide) wF_X1_18 ga0 rg_98 rfl dX1_sure_29 (fun q862 eq862 gq862 => ?_)
          refine lv_iload_n hx hb dX1_sure_32 rfl (lv_at hl834 1 rfl) ?_
          refine x_ai C hTH856 gq862 rg_101 ⟨by omega, by show _ < ((5 : Nat) : Int); omega⟩ dX1_sure_33 (fun x863 ex863 bx863 => ?_)
          refine lv_iconst (v := 1) hx hb dX1_sure_34 (by decide) ?_
          refine lv_iadd hx hb dX1_sure_35 ?_
          refine lv_topi (fun x864 ex864 => ?_)
          have tx864 := i_add ex864 (by omega)
          refine lv_icmp_eq (tgt := 41) hx hb dX1_sure_36 (by decide) (fun c865 => ?_) (fun c865 => ?_)
          · have k866 := i_eq c865
            exact J41 ls833 H856 locsH856 (lv_sub hl834 [0, 1, 3] rfl) hTH856 hSH856 (by have := i_rng x836; omega)
          · have k866 := i_ne c865
            refine lv_iconst (v := (-1)) hx hb dX1_sure_39 (by decide) ?_
            exact x_iret C hQ dX1_sure_40 hSH856 (by decide) (by decide) (⟨(-1), rfl, hTH856⟩)
  refine lv_iconst (v := (-1)) hx hb dX1_sure_0 (by decide) ?_
  refine lv_istore_n (lv' := [(2, .int (-1)), (0, .ref a0), (1, .int x1)]) hx hb dX1_sure_1 rfl hl (by decide) rfl (fun ls867 hl868 => ?_)
  refine lv_iconst (v := 0) hx hb dX1_sure_2 (by decide) ?_
  refine lv_istore_n (lv' := [(3, .int 0), (2, .int (-1)), (0, .ref a0), (1, .int x1)]) hx hb dX1_sure_3 rfl hl868 (by decide) rfl (fun ls869 hl870 => ?_)
  exact J4 ((1024 - (0 : Int32).toInt).toNat + 1) ls869 s.heap [] ((-1)) (0) (lv_sub hl870 [2, 3, 1, 0] rfl) hT hS (by decide) (by decide) (by omega)

set_option maxHeartbeats 4000000 in
set_option maxRecDepth 100000 in
theorem a_X0_thinnedCopy_g (l : Launch) (K : KE) (G : Nat → Option Nat) (H : Heap) {a0 : Nat} {a1 : Nat} (x2 : Int32) (hT : TY K G H) (ga0 : G a0 = some 1) (ga1 : G a1 = some 103) (hx2 : 0 ≤ x2.toInt ∧ x2.toInt ≤ 15) : MX l K yX0_thinnedCopy cX0_thinnedCopy 3 none 1 40 0 0 [.ref a0, .ref a1, .int x2] H (AE G [103] H.size) (fun v H1 => v = none ∧ TY K G H1) := by
  refine MX.of (by decide +kernel) (Nat.le_of_ble_eq_true rfl) ?_
  intro p e s m below meth c ls Q C hH hl hQ
  subst hH
  have C : CX p K s m _ meth c RX0 cX0_thinnedCopy 3 none "thinnedCopy" := C
  obtain ⟨hx, hb, hml, hown, hts, hKT, hr, hlocks, hnm⟩ := id C
  have hl : lv_has ls 3 [(0, .ref a0), (1, .ref a1), (2, .int x2)] := hl
  have hS : va_S (AE G [103] s.heap.size) s.heap s.heap [] := va_S.rf
  have n_0 : (0 : Int32).toInt = 0 := rfl
  have n_1 : (1 : Int32).toInt = 1 := rfl
  have n_16 : (16 : Int32).toInt = 16 := rfl
  refine lv_aload_n hx hb dX0_thinnedCopy_0 rfl (lv_at hl 0 rfl) ?_
  refine x_gr C hT (ci := 0) (k := 1) rfl inX0 (by decide) wF_X0_9 ga0 rg_1 rfl dX0_thinnedCopy_1 (fun q137 eq137 gq137 => ?_)
  refine lv_iconst (v := 0) hx hb dX0_thinnedCopy_4 (by decide) ?_
  refine lv_aload_n hx hb dX0_thinnedCopy_5 rfl (lv_at hl 1 rfl) ?_
  refine lv_iconst (v := 0) hx hb dX0_thinnedCopy_6 (by decide) ?_
  refine lv_bipush (v := 16) hx hb dX0_thinnedCopy_7 (by decide) ?_
  refine x_copy C hT hS wM_X0_75 wNT_arraycopy wST_arraycopy wIN_J10 gq137 ga1 rg_2 rg_103 (by decide) (by omega) (by omega) (by omega) (by show _ ≤ ((16 : Nat) : Int); omega) (by show _ ≤ ((16 : Nat) : Int); omega) (AE_in ga1 (by decide)) hl.1 (by decide) dX0_thinnedCopy_9 (fun H138 locsH138 hTH138 hSH138 zH138 oH138 vH138 wH138 => ?_)
  have m139 := (eq137).trans (fR_kept (oH138 _ (G_ne ga0 ga1 (by decide)))).symm
  refine lv_aload_n hx hb dX0_thinnedCopy_12 rfl (lv_at hl 1 rfl) ?_
  refine lv_iload_n hx hb dX0_thinnedCopy_13 rfl (lv_at hl 2 rfl) ?_
  refine lv_dup2_11 hx hb dX0_thinnedCopy_14 rfl rfl ?_
  refine x_ai C hTH138 ga1 rg_103 ⟨by omega, by show _ < ((16 : Nat) : Int); omega⟩ dX0_thinnedCopy_15 (fun x140 ex140 bx140 => ?_)
  refine lv_iconst (v := 1) hx hb dX0_thinnedCopy_16 (by decide) ?_
  refine lv_isub hx hb dX0_thinnedCopy_17 ?_
  refine lv_topi (fun x141 ex141 => ?_)
  refine x_iast C hTH138 hSH138 ga1 rg_103 (by omega) (by show _ < ((16 : Nat) : Int); omega) ⟨by have := i_rng x141; omega, by have := i_rng x141; omega⟩ (AE_in ga1 (by decide)) dX0_thinnedCopy_18 (fun H142 locsH142 hTH142 hSH142 wH142 => ?_)
  have m143 := m139.trans (Wr.neR wH142 (Or.inl (G_ne ga0 ga1 (by decide)))).symm
  have m145 := Wr.I wH142
  have m145 := m145.symm
  exact x_vret C hQ dX0_thinnedCopy_19 hSH142 (by decide) (by decide) (⟨rfl, hTH142⟩)

set_option maxHeartbeats 4000000 in
set_option maxRecDepth 100000 in
theorem a_X0_thinnedCopy_m (l : Launch) (K : KE) (G : Nat → Option Nat) (H : Heap) {a0 : Nat} {a1 : Nat} (x2 : Int32) (hT : TY K G H) (ga0 : G a0 = some 1) (ga1 : G a1 = some 111) (hx2 : 0 ≤ x2.toInt ∧ x2.toInt ≤ 15) : MX l K yX0_thinnedCopy cX0_thinnedCopy 3 none 1 40 0 0 [.ref a0, .ref a1, .int x2] H (AE G [111] H.size) (fun v H1 => v = none ∧ TY K G H1) := by
  refine MX.of (by decide +kernel) (Nat.le_of_ble_eq_true rfl) ?_
  intro p e s m below meth c ls Q C hH hl hQ
  subst hH
  have C : CX p K s m _ meth c RX0 cX0_thinnedCopy 3 none "thinnedCopy" := C
  obtain ⟨hx, hb, hml, hown, hts, hKT, hr, hlocks, hnm⟩ := id C
  have hl : lv_has ls 3 [(0, .ref a0), (1, .ref a1), (2, .int x2)] := hl
  have hS : va_S (AE G [111] s.heap.size) s.heap s.heap [] := va_S.rf
  have n_0 : (0 : Int32).toInt = 0 := rfl
  have n_1 : (1 : Int32).toInt = 1 := rfl
  have n_16 : (16 : Int32).toInt = 16 := rfl
  refine lv_aload_n hx hb dX0_thinnedCopy_0 rfl (lv_at hl 0 rfl) ?_
  refine x_gr C hT (ci := 0) (k := 1) rfl inX0 (by decide) wF_X0_9 ga0 rg_1 rfl dX0_thinnedCopy_1 (fun q137 eq137 gq137 => ?_)
  refine lv_iconst (v := 0) hx hb dX0_thinnedCopy_4 (by decide) ?_
  refine lv_aload_n hx hb dX0_thinnedCopy_5 rfl (lv_at hl 1 rfl) ?_
  refine lv_iconst (v := 0) hx hb dX0_thinnedCopy_6 (by decide) ?_
  refine lv_bipush (v := 16) hx hb dX0_thinnedCopy_7 (by decide) ?_
  refine x_copy C hT hS wM_X0_75 wNT_arraycopy wST_arraycopy wIN_J10 gq137 ga1 rg_2 rg_111 (by decide) (by omega) (by omega) (by omega) (by show _ ≤ ((16 : Nat) : Int); omega) (by show _ ≤ ((16 : Nat) : Int); omega) (AE_in ga1 (by decide)) hl.1 (by decide) dX0_thinnedCopy_9 (fun H138 locsH138 hTH138 hSH138 zH138 oH138 vH138 wH138 => ?_)
  have m139 := (eq137).trans (fR_kept (oH138 _ (G_ne ga0 ga1 (by decide)))).symm
  refine lv_aload_n hx hb dX0_thinnedCopy_12 rfl (lv_at hl 1 rfl) ?_
  refine lv_iload_n hx hb dX0_thinnedCopy_13 rfl (lv_at hl 2 rfl) ?_
  refine lv_dup2_11 hx hb dX0_thinnedCopy_14 rfl rfl ?_
  refine x_ai C hTH138 ga1 rg_111 ⟨by omega, by show _ < ((16 : Nat) : Int); omega⟩ dX0_thinnedCopy_15 (fun x140 ex140 bx140 => ?_)
  refine lv_iconst (v := 1) hx hb dX0_thinnedCopy_16 (by decide) ?_
  refine lv_isub hx hb dX0_thinnedCopy_17 ?_
  refine lv_topi (fun x141 ex141 => ?_)
  refine x_iast C hTH138 hSH138 ga1 rg_111 (by omega) (by show _ < ((16 : Nat) : Int); omega) ⟨by have := i_rng x141; omega, by have := i_rng x141; omega⟩ (AE_in ga1 (by decide)) dX0_thinnedCopy_18 (fun H142 locsH142 hTH142 hSH142 wH142 => ?_)
  have m143 := m139.trans (Wr.neR wH142 (Or.inl (G_ne ga0 ga1 (by decide)))).symm
  have m145 := Wr.I wH142
  have m145 := m145.symm
  exact x_vret C hQ dX0_thinnedCopy_19 hSH142 (by decide) (by decide) (⟨rfl, hTH142⟩)

set_option maxHeartbeats 4000000 in
set_option maxRecDepth 100000 in
theorem a_X1_countUnlike (l : Launch) (K : KE) (G : Nat → Option Nat) (H : Heap) {a0 : Nat} {a1 : Nat} {a2 : Nat} {a3 : Nat} (x4 : Int32) (hT : TY K G H) (ga0 : G a0 = some 98) (ga1 : G a1 = some 82) (ga2 : G a2 = some 16) (ga3 : G a3 = some 1) (hx4 : 0 ≤ x4.toInt ∧ x4.toInt ≤ 15) : MX l K yX1_countUnlike cX1_countUnlike 6 (some .int) 4 104 0 0 [.ref a0, .ref a1, .ref a2, .ref a3, .int x4] H (AE G [103, 87, 88, 101, 99, 100, 83, 84] H.size) (fun v H1 => ∃ (r : Int32), v = some (.int r) ∧ TY K G H1) := by
  refine MX.of (by decide +kernel) (Nat.le_of_ble_eq_true rfl) ?_
  intro p e s m below meth c ls Q C hH hl hQ
  subst hH
  have C : CX p K s m _ meth c RX1 cX1_countUnlike 6 (some .int) "countUnlike" := C
  obtain ⟨hx, hb, hml, hown, hts, hKT, hr, hlocks, hnm⟩ := id C
  have hl : lv_has ls 6 [(0, .ref a0), (1, .ref a1), (2, .ref a2), (3, .ref a3), (4, .int x4)] := hl
  have hS : va_S (AE G [103, 87, 88, 101, 99, 100, 83, 84] s.heap.size) s.heap s.heap [] := va_S.rf
  have n_0 : (0 : Int32).toInt = 0 := rfl
  have n_1 : (1 : Int32).toInt = 1 := rfl
  have J37 : ∀ (nf : Nat) (ls918 : Array Slot) (H917 : Heap) (locsH917 : List Loc) (x920 : Int32), lv_has ls918 6 [(0, .ref a0), (3, .ref a3), (5, .int x920)] → TY K G H917 → va_S (AE G [103, 87, 88, 101, 99, 100, 83, 84] s.heap.size) s.heap H917 locsH917 → (0 ≤ x920.toInt ∧ x920.toInt ≤ 1024) → (1024 - x920.toInt < (nf : Int)) → W p l e ({ frames := 4, cells := 0, slots := 0, locals := 104 } : Room) s m (([.ref a0, .ref a1, .ref a2, .ref a3, .int x4] : List Value).toArray) below meth c H917 locsH917 0 0 Q (F0 m 37 ls918 []) := by
    intro nf
    induction nf with
    | zero =>
      intro ls918 H917 locsH917 x920 hl919 hTH917 hSH917 bx920 hm37
      exfalso
      omega
    | succ nf ih37 =>
      intro ls918 H917 locsH917 x920 hl919 hTH917 hSH917 bx920 hm37
      refine lv_iload hx hb dX1_countUnlike_37 (lv_at hl919 2 rfl) ?_
      refine lv_aload_n hx hb dX1_countUnlike_39 rfl (lv_at hl919 0 rfl) ?_
      refine x_gi C hTH917 (ci := 1) (k := 4) rfl inX1 (by decide) wF_X1_69 ga0 rg_98 rfl dX1_countUnlike_40 (fun x922 ex922 bx922 => ?_)
      refine lv_icmp_ge (tgt := 77) hx hb dX1_countUnlike_43 (by decide) (fun c923 => ?_) (fun c923 => ?_)
      · have k924 := i_le c923
        refine lv_aload_n hx hb dX1_countUnlike_77 rfl (lv_at hl919 0 rfl) ?_
        refine x_gr C hTH917 (ci := 1) (k := 7) rfl inX1 (by decide) wF_X1_30 ga0 rg_98 rfl dX1_countUnlike_78 (fun q925 eq925 gq925 => ?_)
        refine x_gi C hTH917 (ci := 2) (k := 1) rfl inX2 (by decide) wF_X1_129 gq925 rg_87 rfl dX1_countUnlike_81 (fun x926 ex926 bx926 => ?_)
        exact x_iret C hQ dX1_countUnlike_84 hSH917 (by decide) (by decide) (⟨x926, rfl, hTH917⟩)
      · have k924 := i_nle c923
        refine lv_aload_n hx hb dX1_countUnlike_46 rfl (lv_at hl919 0 rfl) ?_
        refine lv_aload_n hx hb dX1_countUnlike_47 rfl (lv_at hl919 0 rfl) ?_
        refine x_gr C hTH917 (ci := 1) (k := 3) rfl inX1 (by decide) wF_X1_21 ga0 rg_98 rfl dX1_countUnlike_48 (fun q927 eq927 gq927 => ?_)
        refine lv_iload hx hb dX1_countUnlike_51 (lv_at hl919 2 rfl) ?_
        refine x_ai C hTH917 gq927 rg_102 ⟨by omega, by show _ < ((1024 : Nat) : Int); omega⟩ dX1_countUnlike_53 (fun x928 ex928 bx928 => ?_)
        refine x_V (As := [.int x928]) (rest := []) C (a_X1_unfold l K G H917 (x928) hTH917 ga0 (by omega)) yo_X1_unfold wM_X1_72 ⟨⟨by decide, by decide⟩, by decide, by decide⟩ (x_rv C hTH917 (ci := 1) rfl ga0 rg_98) rfl hl919.1 rfl (Nat.le_of_ble_eq_true rfl) dX1_countUnlike_54 hSH917 (AE_sub (fun _ _ => rfl) (by decide) hSH917.1) (fun vH929 H929 locsH929 pH929 zH929 kH929 hSH929 => ?_)
        obtain ⟨hvH929, hTH929⟩ := pH929
        subst hvH929
        have m930 := (ex922).trans (fI_kept (x_lt hTH917 kH929 ga0 (by decide))).symm
        have m931 := (eq927).trans (fR_kept (x_lt hTH917 kH929 ga0 (by decide))).symm
        have m932 := (ex928).trans (fI_kept (x_lt hTH917 kH929 gq927 (by decide))).symm
        refine W.eq (g2 := F0 m 57 ls918 []) rfl ?_
        refine lv_aload_n hx hb dX1_countUnlike_57 rfl (lv_at hl919 0 rfl) ?_
        refine x_gr C hTH929 (ci := 1) (k := 7) rfl inX1 (by decide) wF_X1_30 ga0 rg_98 rfl dX1_countUnlike_58 (fun q933 eq933 gq933 => ?_)
        refine lv_aload_n hx hb dX1_countUnlike_61 rfl (lv_at hl919 0 rfl) ?_
        refine lv_aload_n hx hb dX1_countUnlike_62 rfl (lv_at hl919 1 rfl) ?_
        refine lv_iconst (v := 0) hx hb dX1_countUnlike_63 (by decide) ?_
        refine x_V (As := [.ref a3, .int 0]) (rest := [.ref q933]) C (a_X1_toneAt l K G H929 (0) hTH929 ga0 ga3 (by decide)) yo_X1_toneAt wM_X1_97 ⟨⟨by decide, by decide⟩, by decide, by decide⟩ (x_rv C hTH929 (ci := 1) rfl ga0 rg_98) rfl hl919.1 rfl (Nat.le_of_ble_eq_true rfl) dX1_countUnlike_64 hSH929 (AE_sub (fun _ _ => rfl) (by decide) hSH929.1) (fun vH934 H934 locsH934 pH934 zH934 kH934 hSH934 => ?_)
        obtain ⟨x935, hvH934, hTH934⟩ := pH934
        subst hvH934
        have m936 := (m930).trans (fI_kept (x_lt hTH929 kH934 ga0 (by decide))).symm
        have m937 := (m931).trans (fR_kept (x_lt hTH929 kH934 ga0 (by decide))).symm
        have m938 := (m932).trans (fI_kept (x_lt hTH929 kH934 gq927 (by decide))).symm
        have m939 := (eq933).trans (fR_kept (x_lt hTH929 kH934 ga0 (by decide))).symm
        refine W.eq (g2 := F0 m 67 ls918 [.int x935, .ref q933]) rfl ?_
        refine x_V (As := [.int x935]) (rest := []) C (a_X2_add_unlike l K G H934 (x935) hTH934 gq933) yo_X2_add wM_X1_125 ⟨⟨by decide, by decide⟩, by decide, by decide⟩ (x_rv C hTH934 (ci := 2) rfl gq933 rg_87) rfl hl919.1 rfl (Nat.le_of_ble_eq_true rfl) dX1_countUnlike_67 hSH934 (AE_sub (fun _ _ => rfl) (by decide) hSH934.1) (fun vH940 H940 locsH940 pH940 zH940 kH940 hSH940 => ?_)
        obtain ⟨x941, hvH940, bx941, hTH940⟩ := pH940
        subst hvH940
        have m942 := (m936).trans (fI_kept (x_lt hTH934 kH940 ga0 (by decide))).symm
        have m943 := (m937).trans (fR_kept (x_lt hTH934 kH940 ga0 (by decide))).symm
        have m944 := (m938).trans (fI_kept (x_lt hTH934 kH940 gq927 (by decide))).symm
        have m945 := (m939).trans (fR_kept (x_lt hTH934 kH940 ga0 (by decide))).symm
        refine W.eq (g2 := F0 m 70 ls918 [.int x941]) rfl ?_
        refine lv_pop hx hb dX1_countUnlike_70 rfl ?_
        obtain ⟨x946, ex946⟩ : ∃ y : Int32, y = x920 + 1 := ⟨_, rfl⟩
        have tx946 := i_add ex946 (by omega)
        refine lv_iinc (v := x946) (lv' := [(5, .int x946), (0, .ref a0), (3, .ref a3)]) hx hb dX1_countUnlike_71 hl919 (k := 2) rfl (by rw [ex946]; rfl) (by decide) rfl (fun ls947 hl948 => ?_)
        refine lv_goto (tgt := 37) hx hb dX1_countUnlike_74 (by decide) ?_
        exact ih37 ls947 H940 locsH940 (x946) (lv_sub hl948 [1, 2, 0] rfl) hTH940 hSH940 (by have := i_rng x946; omega) (by omega)
  refine lv_aload_n hx hb dX1_countUnlike_0 rfl (lv_at hl 3 rfl) ?_
  refine lv_aload_n hx hb dX1_countUnlike_1 rfl (lv_at hl 0 rfl) ?_
  refine x_gr C hT (ci := 1) (k := 6) rfl inX1 (by decide) wF_X1_24 ga0 rg_98 rfl dX1_countUnlike_2 (fun q949 eq949 gq949 => ?_)
  refine lv_iload hx hb dX1_countUnlike_5 (lv_at hl 4 rfl) ?_
  refine x_V (As := [.ref q949, .int x4]) (rest := []) C (a_X0_thinnedCopy_g l K G s.heap (x4) hT ga3 gq949 (by omega)) yo_X0_thinnedCopy wM_X1_115 ⟨⟨by decide, by decide⟩, by decide, by decide⟩ (x_rv C hT (ci := 0) rfl ga3 rg_1) rfl hl.1 rfl (Nat.le_of_ble_eq_true rfl) dX1_countUnlike_7 hS (AE_sub (fun _ _ => rfl) (by decide) hS.1) (fun vH950 H950 locsH950 pH950 zH950 kH950 hSH950 => ?_)
  obtain ⟨hvH950, hTH950⟩ := pH950
  subst hvH950
  have m951 := (eq949).trans (fR_kept (x_lt hT kH950 ga0 (by decide))).symm
  refine W.eq (g2 := F0 m 10 ls []) rfl ?_
  refine lv_aload_n hx hb dX1_countUnlike_10 rfl (lv_at hl 0 rfl) ?_
  refine lv_aload_n hx hb dX1_countUnlike_11 rfl (lv_at hl 1 rfl) ?_
  refine lv_aload_n hx hb dX1_countUnlike_12 rfl (lv_at hl 2 rfl) ?_
  refine lv_aload_n hx hb dX1_countUnlike_13 rfl (lv_at hl 3 rfl) ?_
  refine lv_iconst (v := 0) hx hb dX1_countUnlike_14 (by decide) ?_
  refine lv_iconst (v := 0) hx hb dX1_countUnlike_15 (by decide) ?_
  refine lv_aload_n hx hb dX1_countUnlike_16 rfl (lv_at hl 0 rfl) ?_
  refine x_gr C hTH950 (ci := 1) (k := 6) rfl inX1 (by decide) wF_X1_24 ga0 rg_98 rfl dX1_countUnlike_17 (fun q952 eq952 gq952 => ?_)
  have uq952 : q949 = q952 := (m951).trans eq952.symm
  subst uq952
  refine lv_aload_n hx hb dX1_countUnlike_20 rfl (lv_at hl 3 rfl) ?_
  refine x_gr C hTH950 (ci := 0) (k := 4) rfl inX0 (by decide) wF_X1_119 ga3 rg_1 rfl dX1_countUnlike_21 (fun q953 eq953 gq953 => ?_)
  refine x_V (As := [.ref a1, .ref a2, .ref a3, .int 0, .int 0, .ref q949, .ref q953]) (rest := []) C (a_X1_fill_w l K G H950 (0) (0) hTH950 ga0 ga1 ga2 ga3 (by decide) gq949 gq953) yo_X1_fill wM_X1_62 ⟨⟨by decide, by decide⟩, by decide, by decide⟩ (x_rv C hTH950 (ci := 1) rfl ga0 rg_98) rfl hl.1 rfl (Nat.le_of_ble_eq_true rfl) dX1_countUnlike_24 hSH950 (AE_sub (fun _ _ => rfl) (by decide) hSH950.1) (fun vH954 H954 locsH954 pH954 zH954 kH954 hSH954 => ?_)
  obtain ⟨hvH954, hTH954⟩ := pH954
  subst hvH954
  have m955 := (m951).trans (fR_kept (x_lt hTH950 kH954 ga0 (by decide))).symm
  have m956 := (eq953).trans (fR_kept (x_lt hTH950 kH954 ga3 (by decide))).symm
  refine W.eq (g2 := F0 m 27 ls []) rfl ?_
  refine lv_aload_n hx hb dX1_countUnlike_27 rfl (lv_at hl 0 rfl) ?_
  refine x_gr C hTH954 (ci := 1) (k := 7) rfl inX1 (by decide) wF_X1_30 ga0 rg_98 rfl dX1_countUnlike_28 (fun q957 eq957 gq957 => ?_)
  refine x_V (As := []) (rest := []) C (a_X2_clear_unlike l K G H954  hTH954 gq957) yo_X2_clear wM_X1_122 ⟨⟨by decide, by decide⟩, by decide, by decide⟩ (x_rv C hTH954 (ci := 2) rfl gq957 rg_87) rfl hl.1 rfl (Nat.le_of_ble_eq_true rfl) dX1_countUnlike_31 hSH954 (AE_sub (fun _ _ => rfl) (by decide) hSH954.1) (fun vH958 H958 locsH958 pH958 zH958 kH958 hSH958 => ?_)
  obtain ⟨hvH958, hTH958⟩ := pH958
  subst hvH958
  have m959 := (m955).trans (fR_kept (x_lt hTH954 kH958 ga0 (by decide))).symm
  have m960 := (m956).trans (fR_kept (x_lt hTH954 kH958 ga3 (by decide))).symm
  have m961 := (eq957).trans (fR_kept (x_lt hTH954 kH958 ga0 (by decide))).symm
  refine W.eq (g2 := F0 m 34 ls []) rfl ?_
  refine lv_iconst (v := 0) hx hb dX1_countUnlike_34 (by decide) ?_
  refine lv_istore (lv' := [(5, .int 0), (0, .ref a0), (1, .ref a1), (2, .ref a2), (3, .ref a3), (4, .int x4)]) hx hb dX1_countUnlike_35 hl (by decide) rfl (fun ls962 hl963 => ?_)
  exact J37 ((1024 - (0 : Int32).toInt).toNat + 1) ls962 H958 locsH958 (0) (lv_sub hl963 [1, 4, 0] rfl) hTH958 hSH958 (by decide) (by omega)

set_option maxHeartbeats 4000000 in
set_option maxRecDepth 100000 in
theorem a_X1_nextPass (l : Launch) (K : KE) (G : Nat → Option Nat) (H : Heap) {a0 : Nat} {a1 : Nat} {a2 : Nat} {a3 : Nat} (hT : TY K G H) (ga0 : G a0 = some 98) (ga1 : G a1 = some 82) (ga2 : G a2 = some 16) (ga3 : G a3 = some 1) : MX l K yX1_nextPass cX1_nextPass 8 (some .int) 5 129 0 0 [.ref a0, .ref a1, .ref a2, .ref a3] H (AE G [103, 87, 88, 101, 99, 100, 83, 84] H.size) (fun v H1 => ∃ (r : Int32), v = some (.int r) ∧ TY K G H1) := by
  refine MX.of (by decide +kernel) (Nat.le_of_ble_eq_true rfl) ?_
  intro p e s m below meth c ls Q C hH hl hQ
  subst hH
  have C : CX p K s m _ meth c RX1 cX1_nextPass 8 (some .int) "nextPass" := C
  obtain ⟨hx, hb, hml, hown, hts, hKT, hr, hlocks, hnm⟩ := id C
  have hl : lv_has ls 8 [(0, .ref a0), (1, .ref a1), (2, .ref a2), (3, .ref a3)] := hl
  have hS : va_S (AE G [103, 87, 88, 101, 99, 100, 83, 84] s.heap.size) s.heap s.heap [] := va_S.rf
  have n_m1 : ((-1) : Int32).toInt = -1 := rfl
  have n_0 : (0 : Int32).toInt = 0 := rfl
  have n_1 : (1 : Int32).toInt = 1 := rfl
  have J9 : ∀ (nf : Nat) (ls656 : Array Slot) (H655 : Heap) (locsH655 : List Loc) (x658 : Int32) (x659 : Int32) (x660 : Int32), lv_has ls656 8 [(0, .ref a0), (1, .ref a1), (2, .ref a2), (3, .ref a3), (4, .int x658), (5, .int x659), (6, .int x660)] → TY K G H655 → va_S (AE G [103, 87, 88, 101, 99, 100, 83, 84] s.heap.size) s.heap H655 locsH655 → ((-1) ≤ x658.toInt ∧ x658.toInt ≤ 15) → (0 ≤ x659.toInt ∧ x659.toInt ≤ 2147483647) → (0 ≤ x660.toInt ∧ x660.toInt ≤ 16) → (16 - x660.toInt < (nf : Int)) → W p l e ({ frames := 5, cells := 0, slots := 0, locals := 129 } : Room) s m (([.ref a0, .ref a1, .ref a2, .ref a3] : List Value).toArray) below meth c H655 locsH655 0 0 Q (F0 m 9 ls656 []) := by
    intro nf
    induction nf with
    | zero =>
      intro ls656 H655 locsH655 x658 x659 x660 hl657 hTH655 hSH655 bx658 bx659 bx660 hm9
      exfalso
      omega
    | succ nf ih9 =>
      intro ls656 H655 locsH655 x658 x659 x660 hl657 hTH655 hSH655 bx658 bx659 bx660 hm9
      have J55 : ∀ (ls663 : Array Slot) (H662 : Heap) (locsH662 : List Loc) (x665 : Int32) (x666 : Int32), lv_has ls663 8 [(0, .ref a0), (1, .ref a1), (2, .ref a2), (3, .ref a3), (4, .int x665), (5, .int x666), (6, .int x660)] → TY K G H662 → va_S (AE G [103, 87, 88, 101, 99, 100, 83, 84] s.heap.size) s.heap H662 locsH662 → ((-1) ≤ x665.toInt ∧ x665.toInt ≤ 15) → (0 ≤ x666.toInt ∧ x666.toInt ≤ 2147483647) → (0 ≤ x660.toInt ∧ x660.toInt ≤ 15) → W p l e ({ frames := 5, cells := 0, slots := 0, locals := 129 } : Room) s m (([.ref a0, .ref a1, .ref a2, .ref a3] : List Value).toArray) below meth c H662 locsH662 0 0 Q (F0 m 55 ls663 []) := by
        intro ls663 H662 locsH662 x665 x666 hl664 hTH662 hSH662 bx665 bx666 b667
        obtain ⟨x669, ex669⟩ : ∃ y : Int32, y = x660 + 1 := ⟨_, rfl⟩
        have tx669 := i_add ex669 (by omega)
        refine lv_iinc (v := x669) (lv' := [(6, .int x669), (0, .ref a0), (1, .ref a1), (2, .ref a2), (3, .ref a3), (4, .int x665), (5, .int x666)]) hx hb dX1_nextPass_55 hl664 (k := 6) rfl (by rw [ex669]; rfl) (by decide) rfl (fun ls670 hl671 => ?_)
        refine lv_goto (tgt := 9) hx hb dX1_nextPass_58 (by decide) ?_
        exact ih9 ls670 H662 locsH662 (x665) (x666) (x669) (lv_sub hl671 [1, 2, 3, 4, 5, 6, 0] rfl) hTH662 hSH662 (by have := i_rng x665; omega) (by have := i_rng x666; omega) (by have := i_rng x669; omega) (by omega)
      refine lv_iload hx hb dX1_nextPass_9 (lv_at hl657 6 rfl) ?_
      refine lv_aload_n hx hb dX1_nextPass_11 rfl (lv_at hl657 3 rfl) ?_
      refine x_gi C hTH655 (ci := 0) (k := 0) rfl inX0 (by decide) wF_X1_66 ga3 rg_1 rfl dX1_nextPass_12 (fun x672 ex672 bx672 => ?_)
      refine lv_icmp_ge (tgt := 61) hx hb dX1_nextPass_15 (by decide) (fun c673 => ?_) (fun c673 => ?_)
      · have k674 := i_le c673
        refine lv_iload hx hb dX1_nextPass_61 (lv_at hl657 4 rfl) ?_
        exact x_iret C hQ dX1_nextPass_63 hSH655 (by decide) (by decide) (⟨x658, rfl, hTH655⟩)
      · have k674 := i_nle c673
        refine lv_aload_n hx hb dX1_nextPass_18 rfl (lv_at hl657 3 rfl) ?_
        refine x_gr C hTH655 (ci := 0) (k := 1) rfl inX0 (by decide) wF_X1_108 ga3 rg_1 rfl dX1_nextPass_19 (fun q675 eq675 gq675 => ?_)
        refine lv_iload hx hb dX1_nextPass_22 (lv_at hl657 6 rfl) ?_
        refine x_ai C hTH655 gq675 rg_2 ⟨by omega, by show _ < ((16 : Nat) : Int); omega⟩ dX1_nextPass_24 (fun x676 ex676 bx676 => ?_)
        refine lv_iconst (v := 1) hx hb dX1_nextPass_25 (by decide) ?_
        refine lv_icmp_le (tgt := 55) hx hb dX1_nextPass_26 (by decide) (fun c677 => ?_) (fun c677 => ?_)
        · have k678 := i_le c677
          exact J55 ls656 H655 locsH655 (x658) (x659) (lv_sub hl657 [0, 1, 2, 3, 4, 5, 6] rfl) hTH655 hSH655 (by have := i_rng x658; omega) (by have := i_rng x659; omega) (by have := i_rng x660; omega)
        · have k678 := i_nle c677
          refine lv_aload_n hx hb dX1_nextPass_29 rfl (lv_at hl657 0 rfl) ?_
          refine lv_aload_n hx hb dX1_nextPass_30 rfl (lv_at hl657 1 rfl) ?_
          refine lv_aload_n hx hb dX1_nextPass_31 rfl (lv_at hl657 2 rfl) ?_
          refine lv_aload_n hx hb dX1_nextPass_32 rfl (lv_at hl657 3 rfl) ?_
          refine lv_iload hx hb dX1_nextPass_33 (lv_at hl657 6 rfl) ?_
          refine x_V (As := [.ref a1, .ref a2, .ref a3, .int x660]) (rest := []) C (a_X1_countUnlike l K G H655 (x660) hTH655 ga0 ga1 ga2 ga3 (by omega)) yo_X1_countUnlike wM_X1_111 ⟨⟨by decide, by decide⟩, by decide, by decide⟩ (x_rv C hTH655 (ci := 1) rfl ga0 rg_98) rfl hl657.1 rfl (Nat.le_of_ble_eq_true rfl) dX1_nextPass_35 hSH655 (AE_sub (fun _ _ => rfl) (by decide) hSH655.1) (fun vH679 H679 locsH679 pH679 zH679 kH679 hSH679 => ?_)
          obtain ⟨x680, hvH679, hTH679⟩ := pH679
          subst hvH679
          have m681 := (ex672).trans (fI_kept (x_lt hTH655 kH679 ga3 (by decide))).symm
          have m682 := (eq675).trans (fR_kept (x_lt hTH655 kH679 ga3 (by decide))).symm
          have m683 := (ex676).trans (fI_kept (x_lt hTH655 kH679 gq675 (by decide))).symm
          refine W.eq (g2 := F0 m 38 ls656 [.int x680]) rfl ?_
          refine lv_istore (lv' := [(7, .int x680), (0, .ref a0), (1, .ref a1), (2, .ref a2), (3, .ref a3), (4, .int x658), (5, .int x659), (6, .int x660)]) hx hb dX1_nextPass_38 hl657 (by decide) rfl (fun ls684 hl685 => ?_)
          refine lv_iload hx hb dX1_nextPass_40 (lv_at hl685 0 rfl) ?_
          refine lv_iload hx hb dX1_nextPass_42 (lv_at hl685 6 rfl) ?_
          refine lv_icmp_le (tgt := 55) hx hb dX1_nextPass_44 (by decide) (fun c686 => ?_) (fun c686 => ?_)
          · have k687 := i_le c686
            exact J55 ls684 H679 locsH679 (x658) (x659) (lv_sub hl685 [1, 2, 3, 4, 5, 6, 7] rfl) hTH679 hSH679 (by have := i_rng x658; omega) (by have := i_rng x659; omega) (by have := i_rng x660; omega)
          · have k687 := i_nle c686
            refine lv_iload hx hb dX1_nextPass_47 (lv_at hl685 0 rfl) ?_
            refine lv_istore (lv' := [(5, .int x680), (7, .int x680), (0, .ref a0), (1, .ref a1), (2, .ref a2), (3, .ref a3), (4, .int x658), (6, .int x660)]) hx hb dX1_nextPass_49 hl685 (by decide) rfl (fun ls688 hl689 => ?_)
            refine lv_iload hx hb dX1_nextPass_51 (lv_at hl689 7 rfl) ?_
            refine lv_istore (lv' := [(4, .int x660), (5, .int x680), (7, .int x680), (0, .ref a0), (1, .ref a1), (2, .ref a2), (3, .ref a3), (6, .int x660)]) hx hb dX1_nextPass_53 hl689 (by decide) rfl (fun ls690 hl691 => ?_)
            exact J55 ls690 H679 locsH679 (x660) (x680) (lv_sub hl691 [3, 4, 5, 6, 0, 1, 7] rfl) hTH679 hSH679 (by have := i_rng x660; omega) (by have := i_rng x680; omega) (by have := i_rng x660; omega)
  refine lv_iconst (v := (-1)) hx hb dX1_nextPass_0 (by decide) ?_
  refine lv_istore (lv' := [(4, .int (-1)), (0, .ref a0), (1, .ref a1), (2, .ref a2), (3, .ref a3)]) hx hb dX1_nextPass_1 hl (by decide) rfl (fun ls692 hl693 => ?_)
  refine lv_iconst (v := 0) hx hb dX1_nextPass_3 (by decide) ?_
  refine lv_istore (lv' := [(5, .int 0), (4, .int (-1)), (0, .ref a0), (1, .ref a1), (2, .ref a2), (3, .ref a3)]) hx hb dX1_nextPass_4 hl693 (by decide) rfl (fun ls694 hl695 => ?_)
  refine lv_iconst (v := 0) hx hb dX1_nextPass_6 (by decide) ?_
  refine lv_istore (lv' := [(6, .int 0), (5, .int 0), (4, .int (-1)), (0, .ref a0), (1, .ref a1), (2, .ref a2), (3, .ref a3)]) hx hb dX1_nextPass_7 hl695 (by decide) rfl (fun ls696 hl697 => ?_)
  exact J9 ((16 - (0 : Int32).toInt).toNat + 1) ls696 s.heap [] ((-1)) (0) (0) (lv_sub hl697 [3, 4, 5, 6, 2, 1, 0] rfl) hT hS (by decide) (by decide) (by decide) (by omega)

set_option maxHeartbeats 4000000 in
set_option maxRecDepth 100000 in
theorem a_X5_ringsTogether (l : Launch) (K : KE) (G : Nat → Option Nat) (H : Heap) {a0 : Nat} {a1 : Nat} (x2 : Int32) (x3 : Int32) (hT : TY K G H) (ga0 : G a0 = some 104) (ga1 : G a1 = some 0) (hx3 : 0 ≤ x3.toInt ∧ x3.toInt ≤ 7) : MX l K yX5_ringsTogether cX5_ringsTogether 5 (some .boolean) 1 13 0 0 [.ref a0, .ref a1, .int x2, .int x3] H (AE G [] H.size) (fun v H1 => ∃ (r : Int32), v = some (.int r) ∧ (0 ≤ r.toInt ∧ r.toInt ≤ 1) ∧ TY K G H1) := by
  refine MX.of (by decide +kernel) (Nat.le_of_ble_eq_true rfl) ?_
  intro p e s m below meth c ls Q C hH hl hQ
  subst hH
  have C : CX p K s m _ meth c RX5 cX5_ringsTogether 5 (some .boolean) "ringsTogether" := C
  obtain ⟨hx, hb, hml, hown, hts, hKT, hr, hlocks, hnm⟩ := id C
  have hl : lv_has ls 5 [(0, .ref a0), (1, .ref a1), (2, .int x2), (3, .int x3)] := hl
  have hS : va_S (AE G [] s.heap.size) s.heap s.heap [] := va_S.rf
  have n_0 : (0 : Int32).toInt = 0 := rfl
  have n_1 : (1 : Int32).toInt = 1 := rfl
  have J3 : ∀ (nf : Nat) (ls316 : Array Slot) (H315 : Heap) (locsH315 : List Loc) (x318 : Int32), lv_has ls316 5 [(0, .ref a0), (1, .ref a1), (2, .int x2), (3, .int x3), (4, .int x318)] → TY K G H315 → va_S (AE G [] s.heap.size) s.heap H315 locsH315 → (0 ≤ x318.toInt ∧ x318.toInt ≤ 8) → (8 - x318.toInt < (nf : Int)) → W p l e ({ frames := 1, cells := 0, slots := 0, locals := 13 } : Room) s m (([.ref a0, .ref a1, .int x2, .int x3] : List Value).toArray) below meth c H315 locsH315 0 0 Q (F0 m 3 ls316 []) := by
    intro nf
    induction nf with
    | zero =>
      intro ls316 H315 locsH315 x318 hl317 hTH315 hSH315 bx318 hm3
      exfalso
      omega
    | succ nf ih3 =>
      intro ls316 H315 locsH315 x318 hl317 hTH315 hSH315 bx318 hm3
      have J48 : ∀ (ls321 : Array Slot) (H320 : Heap) (locsH320 : List Loc) , lv_has ls321 5 [(0, .ref a0), (1, .ref a1), (2, .int x2), (3, .int x3), (4, .int x318)] → TY K G H320 → va_S (AE G [] s.heap.size) s.heap H320 locsH320 → (0 ≤ x318.toInt ∧ x318.toInt ≤ 7) → W p l e ({ frames := 1, cells := 0, slots := 0, locals := 13 } : Room) s m (([.ref a0, .ref a1, .int x2, .int x3] : List Value).toArray) below meth c H320 locsH320 0 0 Q (F0 m 48 ls321 []) := by
        intro ls321 H320 locsH320  hl322 hTH320 hSH320 b323
        obtain ⟨x325, ex325⟩ : ∃ y : Int32, y = x318 + 1 := ⟨_, rfl⟩
        have tx325 := i_add ex325 (by omega)
        refine lv_iinc (v := x325) (lv' := [(4, .int x325), (0, .ref a0), (1, .ref a1), (2, .int x2), (3, .int x3)]) hx hb dX5_ringsTogether_48 hl322 (k := 4) rfl (by rw [ex325]; rfl) (by decide) rfl (fun ls326 hl327 => ?_)
        refine lv_goto (tgt := 3) hx hb dX5_ringsTogether_51 (by decide) ?_
        exact ih3 ls326 H320 locsH320 (x325) (lv_sub hl327 [1, 2, 3, 4, 0] rfl) hTH320 hSH320 (by have := i_rng x325; omega) (by omega)
      refine lv_iload hx hb dX5_ringsTogether_3 (lv_at hl317 4 rfl) ?_
      refine lv_aload_n hx hb dX5_ringsTogether_5 rfl (lv_at hl317 1 rfl) ?_
      refine x_gi C hTH315 (ci := 8) (k := 16) rfl inX8 (by decide) wF_X5_49 ga1 rg_0 rfl dX5_ringsTogether_6 (fun x328 ex328 bx328 => ?_)
      refine lv_icmp_ge (tgt := 54) hx hb dX5_ringsTogether_9 (by decide) (fun c329 => ?_) (fun c329 => ?_)
      · have k330 := i_le c329
        refine lv_iconst (v := 1) hx hb dX5_ringsTogether_54 (by decide) ?_
        exact x_zret C hQ (Or.inr rfl) dX5_ringsTogether_55 hSH315 (by decide) (by decide) (⟨1, rfl, by decide, hTH315⟩)
      · have k330 := i_nle c329
        refine lv_iload_n hx hb dX5_ringsTogether_12 rfl (lv_at hl317 2 rfl) ?_
        refine lv_iload hx hb dX5_ringsTogether_13 (lv_at hl317 4 rfl) ?_
        refine lv_ishr hx hb dX5_ringsTogether_15 ?_
        refine lv_topi (fun x331 ex331 => ?_)
        refine lv_iconst (v := 1) hx hb dX5_ringsTogether_16 (by decide) ?_
        refine lv_iand hx hb dX5_ringsTogether_17 ?_
        refine lv_topi (fun x332 ex332 => ?_)
        have tx332 := i_and1 ex332
        refine lv_iconst (v := 1) hx hb dX5_ringsTogether_18 (by decide) ?_
        refine lv_icmp_ne (tgt := 48) hx hb dX5_ringsTogether_19 (by decide) (fun c333 => ?_) (fun c333 => ?_)
        · have k334 := i_ne c333
          exact J48 ls316 H315 locsH315 (lv_sub hl317 [0, 1, 2, 3, 4] rfl) hTH315 hSH315 (by have := i_rng x318; omega)
        · have k334 := i_eq c333
          refine lv_aload_n hx hb dX5_ringsTogether_22 rfl (lv_at hl317 1 rfl) ?_
          refine x_gr C hTH315 (ci := 8) (k := 15) rfl inX8 (by decide) wF_X5_62 ga1 rg_0 rfl dX5_ringsTogether_23 (fun q335 eq335 gq335 => ?_)
          refine lv_iload hx hb dX5_ringsTogether_26 (lv_at hl317 4 rfl) ?_
          refine x_ai C hTH315 gq335 rg_33 ⟨by omega, by show _ < ((8 : Nat) : Int); omega⟩ dX5_ringsTogether_28 (fun x336 ex336 bx336 => ?_)
          refine lv_aload_n hx hb dX5_ringsTogether_29 rfl (lv_at hl317 1 rfl) ?_
          refine x_gr C hTH315 (ci := 8) (k := 15) rfl inX8 (by decide) wF_X5_62 ga1 rg_0 rfl dX5_ringsTogether_30 (fun q337 eq337 gq337 => ?_)
          have uq337 : q335 = q337 := (eq335).trans eq337.symm
          subst uq337
          refine lv_iload_n hx hb dX5_ringsTogether_33 rfl (lv_at hl317 3 rfl) ?_
          refine x_ai C hTH315 gq335 rg_33 ⟨by omega, by show _ < ((8 : Nat) : Int); omega⟩ dX5_ringsTogether_34 (fun x338 ex338 bx338 => ?_)
          refine lv_isub hx hb dX5_ringsTogether_35 ?_
          refine lv_topi (fun x339 ex339 => ?_)
          refine va_mabs hx hb (hml.trans hl317.1.symm) hown (hts _ wM_X5_65) (hts _ wST_J9_abs_0f7a4) (hts _ wIN_J9) (hts _ wCD_J9_abs_0f7a4) (by decide) (Nat.le_of_ble_eq_true rfl) (by decide) (by decide) dX5_ringsTogether_36 ?_
          refine lv_topi (fun x340 ex340 => ?_)
          refine lv_aload_n hx hb dX5_ringsTogether_39 rfl (lv_at hl317 0 rfl) ?_
          refine x_gi C hTH315 (ci := 5) (k := 4) rfl inX5 (by decide) wF_X5_31 ga0 rg_104 rfl dX5_ringsTogether_40 (fun x341 ex341 bx341 => ?_)
          refine lv_icmp_le (tgt := 48) hx hb dX5_ringsTogether_43 (by decide) (fun c342 => ?_) (fun c342 => ?_)
          · have k343 := i_le c342
            exact J48 ls316 H315 locsH315 (lv_sub hl317 [0, 1, 2, 3, 4] rfl) hTH315 hSH315 (by have := i_rng x318; omega)
          · have k343 := i_nle c342
            refine lv_iconst (v := 0) hx hb dX5_ringsTogether_46 (by decide) ?_
            exact x_zret C hQ (Or.inl rfl) dX5_ringsTogether_47 hSH315 (by decide) (by decide) (⟨0, rfl, by decide, hTH315⟩)
  refine lv_iconst (v := 0) hx hb dX5_ringsTogether_0 (by decide) ?_
  refine lv_istore (lv' := [(4, .int 0), (0, .ref a0), (1, .ref a1), (2, .int x2), (3, .int x3)]) hx hb dX5_ringsTogether_1 hl (by decide) rfl (fun ls344 hl345 => ?_)
  exact J3 ((8 - (0 : Int32).toInt).toNat + 1) ls344 s.heap [] (0) (lv_sub hl345 [1, 2, 3, 4, 0] rfl) hT hS (by decide) (by omega)

set_option maxHeartbeats 4000000 in
set_option maxRecDepth 100000 in
theorem a_X5_goOn_8 (l : Launch) (K : KE) (G : Nat → Option Nat) (H : Heap) {a0 : Nat} {a1 : Nat} (x2 : Int32) (x3 : Int32) (x4 : Int32) (hT : TY K G H) (ga0 : G a0 = some 104) (ga1 : G a1 = some 0) (hx2 : 8 ≤ x2.toInt ∧ x2.toInt ≤ 8) (hx3 : 0 ≤ x3.toInt ∧ x3.toInt ≤ 255) : MX l K yX5_goOn cX5_goOn 8 none 1 40 0 0 [.ref a0, .ref a1, .int x2, .int x3, .int x4] H (AE G [104, 105, 106, 107] H.size) (fun v H1 => v = none ∧ TY K G H1) := by
  refine MX.of (by decide +kernel) (Nat.le_of_ble_eq_true rfl) ?_
  intro p e s m below meth c ls Q C hH hl hQ
  subst hH
  have C : CX p K s m _ meth c RX5 cX5_goOn 8 none "goOn" := C
  obtain ⟨hx, hb, hml, hown, hts, hKT, hr, hlocks, hnm⟩ := id C
  have hl : lv_has ls 8 [(0, .ref a0), (1, .ref a1), (2, .int x2), (3, .int x3), (4, .int x4)] := hl
  have hS : va_S (AE G [104, 105, 106, 107] s.heap.size) s.heap s.heap [] := va_S.rf
  have n_m1 : ((-1) : Int32).toInt = -1 := rfl
  have n_0 : (0 : Int32).toInt = 0 := rfl
  have n_8 : (8 : Int32).toInt = 8 := rfl
  have J14 : ∀ (ls170 : Array Slot) (H169 : Heap) (locsH169 : List Loc) , lv_has ls170 8 [(0, .ref a0), (4, .int x4)] → TY K G H169 → va_S (AE G [104, 105, 106, 107] s.heap.size) s.heap H169 locsH169 → W p l e ({ frames := 1, cells := 0, slots := 0, locals := 40 } : Room) s m (([.ref a0, .ref a1, .int x2, .int x3, .int x4] : List Value).toArray) below meth c H169 locsH169 0 0 Q (F0 m 14 ls170 []) := by
    intro ls170 H169 locsH169  hl171 hTH169 hSH169 
    have J52 : ∀ (ls174 : Array Slot) (H173 : Heap) (locsH173 : List Loc) , lv_has ls174 8 [] → TY K G H173 → va_S (AE G [104, 105, 106, 107] s.heap.size) s.heap H173 locsH173 → W p l e ({ frames := 1, cells := 0, slots := 0, locals := 40 } : Room) s m (([.ref a0, .ref a1, .int x2, .int x3, .int x4] : List Value).toArray) below meth c H173 locsH173 0 0 Q (F0 m 52 ls174 []) := by
      intro ls174 H173 locsH173  hl175 hTH173 hSH173 
      exact x_vret C hQ dX5_goOn_52 hSH173 (by decide) (by decide) (⟨rfl, hTH173⟩)
    have J31 : ∀ (ls178 : Array Slot) (H177 : Heap) (locsH177 : List Loc) , lv_has ls178 8 [(0, .ref a0), (4, .int x4)] → TY K G H177 → va_S (AE G [104, 105, 106, 107] s.heap.size) s.heap H177 locsH177 → W p l e ({ frames := 1, cells := 0, slots := 0, locals := 40 } : Room) s m (([.ref a0, .ref a1, .int x2, .int x3, .int x4] : List Value).toArray) below meth c H177 locsH177 0 0 Q (F0 m 31 ls178 []) := by
      intro ls178 H177 locsH177  hl179 hTH177 hSH177 
      refine lv_aload_n hx hb dX5_goOn_31 rfl (lv_at hl179 0 rfl) ?_
      refine lv_iload hx hb dX5_goOn_32 (lv_at hl179 1 rfl) ?_
      refine x_put C hTH177 hSH177 (ci := 5) (k := 3) (v := .int x4) (ty0 := tyX5) rfl inX5 tyX5_ok nmX5 (by decide) rfl wF_X5_27 ga0 rg_104 rfl rfl (okI (by have := i_rng x4; omega) (by have := i_rng x4; omega)) rfl rfl (AE_in ga0 (by decide)) dX5_goOn_34 (fun H181 locsH181 hTH181 hSH181 wH181 => ?_)
      have m182 := Wr.I wH181
      have m182 := m182.symm
      refine lv_aload_n hx hb dX5_goOn_37 rfl (lv_at hl179 0 rfl) ?_
      refine x_gr C hTH181 (ci := 5) (k := 1) rfl inX5 (by decide) wF_X5_15 ga0 rg_104 rfl dX5_goOn_38 (fun q183 eq183 gq183 => ?_)
      refine lv_iconst (v := 0) hx hb dX5_goOn_41 (by decide) ?_
      refine lv_aload_n hx hb dX5_goOn_42 rfl (lv_at hl179 0 rfl) ?_
      refine x_gr C hTH181 (ci := 5) (k := 0) rfl inX5 (by decide) wF_X5_9 ga0 rg_104 rfl dX5_goOn_43 (fun q184 eq184 gq184 => ?_)
      refine lv_iconst (v := 0) hx hb dX5_goOn_46 (by decide) ?_
      refine lv_bipush (v := 8) hx hb dX5_goOn_47 (by decide) ?_
      refine x_copy C hTH181 hSH181 wM_X5_43 wNT_arraycopy wST_arraycopy wIN_J10 gq183 gq184 rg_106 rg_105 (by decide) (by omega) (by omega) (by omega) (by show _ ≤ ((8 : Nat) : Int); omega) (by show _ ≤ ((8 : Nat) : Int); omega) (AE_in gq184 (by decide)) hl179.1 (by decide) dX5_goOn_49 (fun H185 locsH185 hTH185 hSH185 zH185 oH185 vH185 wH185 => ?_)
      have m186 := (m182).trans (fI_kept (oH185 _ (G_ne ga0 gq184 (by decide)))).symm
      have m187 := (eq183).trans (fR_kept (oH185 _ (G_ne ga0 gq184 (by decide)))).symm
      have m188 := (eq184).trans (fR_kept (oH185 _ (G_ne ga0 gq184 (by decide)))).symm
      exact J52 ls178 H185 locsH185 (lv_sub hl179 [] rfl) hTH185 hSH185 
    refine lv_aload_n hx hb dX5_goOn_14 rfl (lv_at hl171 0 rfl) ?_
    refine x_gi C hTH169 (ci := 5) (k := 3) rfl inX5 (by decide) wF_X5_27 ga0 rg_104 rfl dX5_goOn_15 (fun x189 ex189 bx189 => ?_)
    refine lv_iconst (v := (-1)) hx hb dX5_goOn_18 (by decide) ?_
    refine lv_icmp_eq (tgt := 31) hx hb dX5_goOn_19 (by decide) (fun c190 => ?_) (fun c190 => ?_)
    · have k191 := i_eq c190
      exact J31 ls170 H169 locsH169 (lv_sub hl171 [0, 1] rfl) hTH169 hSH169 
    · have k191 := i_ne c190
      refine lv_iload hx hb dX5_goOn_22 (lv_at hl171 1 rfl) ?_
      refine lv_aload_n hx hb dX5_goOn_24 rfl (lv_at hl171 0 rfl) ?_
      refine x_gi C hTH169 (ci := 5) (k := 3) rfl inX5 (by decide) wF_X5_27 ga0 rg_104 rfl dX5_goOn_25 (fun x192 ex192 bx192 => ?_)
      have ux192 : x189 = x192 := (ex189).trans ex192.symm
      subst ux192
      refine lv_icmp_ge (tgt := 52) hx hb dX5_goOn_28 (by decide) (fun c193 => ?_) (fun c193 => ?_)
      · have k194 := i_le c193
        exact J52 ls170 H169 locsH169 (lv_sub hl171 [] rfl) hTH169 hSH169 
      · have k194 := i_nle c193
        exact J31 ls170 H169 locsH169 (lv_sub hl171 [0, 1] rfl) hTH169 hSH169 
  refine lv_iload_n hx hb dX5_goOn_0 rfl (lv_at hl 2 rfl) ?_
  refine lv_aload_n hx hb dX5_goOn_1 rfl (lv_at hl 1 rfl) ?_
  refine x_gi C hT (ci := 8) (k := 13) rfl inX8 (by decide) wF_X5_38 ga1 rg_0 rfl dX5_goOn_2 (fun x195 ex195 bx195 => ?_)
  refine lv_icmp_ge (tgt := 14) hx hb dX5_goOn_5 (by decide) (fun c196 => ?_) (fun c196 => ?_)
  · have k197 := i_le c196
    exact J14 ls s.heap [] (lv_sub hl [0, 4] rfl) hT hS 
  · have k197 := i_nle c196
    exfalso
    omega

set_option maxHeartbeats 4000000 in
set_option maxRecDepth 100000 in
theorem a_X5_goOn_7 (l : Launch) (K : KE) (G : Nat → Option Nat) (H : Heap) {a0 : Nat} {a1 : Nat} (x2 : Int32) (x3 : Int32) (x4 : Int32) (hT : TY K G H) (ga0 : G a0 = some 104) (ga1 : G a1 = some 0) (hx2 : 7 ≤ x2.toInt ∧ x2.toInt ≤ 8) (hx3 : 0 ≤ x3.toInt ∧ x3.toInt ≤ 255) : MX l K yX5_goOn cX5_goOn 8 none 2 67 0 0 [.ref a0, .ref a1, .int x2, .int x3, .int x4] H (AE G [104, 105, 106, 107] H.size) (fun v H1 => v = none ∧ TY K G H1) := by
  refine MX.of (by decide +kernel) (Nat.le_of_ble_eq_true rfl) ?_
  intro p e s m below meth c ls Q C hH hl hQ
  subst hH
  have C : CX p K s m _ meth c RX5 cX5_goOn 8 none "goOn" := C
  obtain ⟨hx, hb, hml, hown, hts, hKT, hr, hlocks, hnm⟩ := id C
  have hl : lv_has ls 8 [(0, .ref a0), (1, .ref a1), (2, .int x2), (3, .int x3), (4, .int x4)] := hl
  have hS : va_S (AE G [104, 105, 106, 107] s.heap.size) s.heap s.heap [] := va_S.rf
  have n_m1 : ((-1) : Int32).toInt = -1 := rfl
  have n_0 : (0 : Int32).toInt = 0 := rfl
  have n_1 : (1 : Int32).toInt = 1 := rfl
  have n_8 : (8 : Int32).toInt = 8 := rfl
  have J14 : ∀ (ls852 : Array Slot) (H851 : Heap) (locsH851 : List Loc) , lv_has ls852 8 [(0, .ref a0), (4, .int x4)] → TY K G H851 → va_S (AE G [104, 105, 106, 107] s.heap.size) s.heap H851 locsH851 → W p l e ({ frames := 2, cells := 0, slots := 0, locals := 67 } : Room) s m (([.ref a0, .ref a1, .int x2, .int x3, .int x4] : List Value).toArray) below meth c H851 locsH851 0 0 Q (F0 m 14 ls852 []) := by
    intro ls852 H851 locsH851  hl853 hTH851 hSH851 
    have J52 : ∀ (ls856 : Array Slot) (H855 : Heap) (locsH855 : List Loc) , lv_has ls856 8 [] → TY K G H855 → va_S (AE G [104, 105, 106, 107] s.heap.size) s.heap H855 locsH855 → W p l e ({ frames := 2, cells := 0, slots := 0, locals := 67 } : Room) s m (([.ref a0, .ref a1, .int x2, .int x3, .int x4] : List Value).toArray) below meth c H855 locsH855 0 0 Q (F0 m 52 ls856 []) := by
      intro ls856 H855 locsH855  hl857 hTH855 hSH855 
      exact x_vret C hQ dX5_goOn_52 hSH855 (by decide) (by decide) (⟨rfl, hTH855⟩)
    have J31 : ∀ (ls860 : Array Slot) (H859 : Heap) (locsH859 : List Loc) , lv_has ls860 8 [(0, .ref a0), (4, .int x4)] → TY K G H859 → va_S (AE G [104, 105, 106, 107] s.heap.size) s.heap H859 locsH859 → W p l e ({ frames := 2, cells := 0, slots := 0, locals := 67 } : Room) s m (([.ref a0, .ref a1, .int x2, .int x3, .int x4] : List Value).toArray) below meth c H859 locsH859 0 0 Q (F0 m 31 ls860 []) := by
      intro ls860 H859 locsH859  hl861 hTH859 hSH859 
      refine lv_aload_n hx hb dX5_goOn_31 rfl (lv_at hl861 0 rfl) ?_
      refine lv_iload hx hb dX5_goOn_32 (lv_at hl861 1 rfl) ?_
      refine x_put C hTH859 hSH859 (ci := 5) (k := 3) (v := .int x4) (ty0 := tyX5) rfl inX5 tyX5_ok nmX5 (by decide) rfl wF_X5_27 ga0 rg_104 rfl rfl (okI (by have := i_rng x4; omega) (by have := i_rng x4; omega)) rfl rfl (AE_in ga0 (by decide)) dX5_goOn_34 (fun H863 locsH863 hTH863 hSH863 wH863 => ?_)
      have m864 := Wr.I wH863
      have m864 := m864.symm
      refine lv_aload_n hx hb dX5_goOn_37 rfl (lv_at hl861 0 rfl) ?_
      refine x_gr C hTH863 (ci := 5) (k := 1) rfl inX5 (by decide) wF_X5_15 ga0 rg_104 rfl dX5_goOn_38 (fun q865 eq865 gq865 => ?_)
      refine lv_iconst (v := 0) hx hb dX5_goOn_41 (by decide) ?_
      refine lv_aload_n hx hb dX5_goOn_42 rfl (lv_at hl861 0 rfl) ?_
      refine x_gr C hTH863 (ci := 5) (k := 0) rfl inX5 (by decide) wF_X5_9 ga0 rg_104 rfl dX5_goOn_43 (fun q866 eq866 gq866 => ?_)
      refine lv_iconst (v := 0) hx hb dX5_goOn_46 (by decide) ?_
      refine lv_bipush (v := 8) hx hb dX5_goOn_47 (by decide) ?_
      refine x_copy C hTH863 hSH863 wM_X5_43 wNT_arraycopy wST_arraycopy wIN_J10 gq865 gq866 rg_106 rg_105 (by decide) (by omega) (by omega) (by omega) (by show _ ≤ ((8 : Nat) : Int); omega) (by show _ ≤ ((8 : Nat) : Int); omega) (AE_in gq866 (by decide)) hl861.1 (by decide) dX5_goOn_49 (fun H867 locsH867 hTH867 hSH867 zH867 oH867 vH867 wH867 => ?_)
      have m868 := (m864).trans (fI_kept (oH867 _ (G_ne ga0 gq866 (by decide)))).symm
      have m869 := (eq865).trans (fR_kept (oH867 _ (G_ne ga0 gq866 (by decide)))).symm
      have m870 := (eq866).trans (fR_kept (oH867 _ (G_ne ga0 gq866 (by decide)))).symm
      exact J52 ls860 H867 locsH867 (lv_sub hl861 [] rfl) hTH867 hSH867 
    refine lv_aload_n hx hb dX5_goOn_14 rfl (lv_at hl853 0 rfl) ?_
    refine x_gi C hTH851 (ci := 5) (k := 3) rfl inX5 (by decide) wF_X5_27 ga0 rg_104 rfl dX5_goOn_15 (fun x871 ex871 bx871 => ?_)
    refine lv_iconst (v := (-1)) hx hb dX5_goOn_18 (by decide) ?_
    refine lv_icmp_eq (tgt := 31) hx hb dX5_goOn_19 (by decide) (fun c872 => ?_) (fun c872 => ?_)
    · have k873 := i_eq c872
      exact J31 ls852 H851 locsH851 (lv_sub hl853 [0, 1] rfl) hTH851 hSH851 
    · have k873 := i_ne c872
      refine lv_iload hx hb dX5_goOn_22 (lv_at hl853 1 rfl) ?_
      refine lv_aload_n hx hb dX5_goOn_24 rfl (lv_at hl853 0 rfl) ?_
      refine x_gi C hTH851 (ci := 5) (k := 3) rfl inX5 (by decide) wF_X5_27 ga0 rg_104 rfl dX5_goOn_25 (fun x874 ex874 bx874 => ?_)
      have ux874 : x871 = x874 := (ex871).trans ex874.symm
      subst ux874
      refine lv_icmp_ge (tgt := 52) hx hb dX5_goOn_28 (by decide) (fun c875 => ?_) (fun c875 => ?_)
      · have k876 := i_le c875
        exact J52 ls852 H851 locsH851 (lv_sub hl853 [] rfl) hTH851 hSH851 
      · have k876 := i_nle c875
        exact J31 ls852 H851 locsH851 (lv_sub hl853 [0, 1] rfl) hTH851 hSH851 
  have J56 : ∀ (nf : Nat) (ls878 : Array Slot) (H877 : Heap) (locsH877 : List Loc) (x881 : Int32), lv_has ls878 8 [(0, .ref a0), (1, .ref a1), (2, .int x2), (3, .int x3), (4, .int x4), (5, .int x881)] → TY K G H877 → va_S (AE G [104, 105, 106, 107] s.heap.size) s.heap H877 locsH877 → (7 ≤ x2.toInt ∧ x2.toInt ≤ 7) → (0 ≤ x881.toInt ∧ x881.toInt ≤ 8) → (8 - x881.toInt < (nf : Int)) → W p l e ({ frames := 2, cells := 0, slots := 0, locals := 67 } : Room) s m (([.ref a0, .ref a1, .int x2, .int x3, .int x4] : List Value).toArray) below meth c H877 locsH877 0 0 Q (F0 m 56 ls878 []) := by
    intro nf
    induction nf with
    | zero =>
      intro ls878 H877 locsH877 x881 hl879 hTH877 hSH877 b880 bx881 hm56
      exfalso
      omega
    | succ nf ih56 =>
      intro ls878 H877 locsH877 x881 hl879 hTH877 hSH877 b880 bx881 hm56
      have J152 : ∀ (ls884 : Array Slot) (H883 : Heap) (locsH883 : List Loc) , lv_has ls884 8 [(0, .ref a0), (1, .ref a1), (2, .int x2), (3, .int x3), (4, .int x4), (5, .int x881)] → TY K G H883 → va_S (AE G [104, 105, 106, 107] s.heap.size) s.heap H883 locsH883 → (0 ≤ x881.toInt ∧ x881.toInt ≤ 7) → W p l e ({ frames := 2, cells := 0, slots := 0, locals := 67 } : Room) s m (([.ref a0, .ref a1, .int x2, .int x3, .int x4] : List Value).toArray) below meth c H883 locsH883 0 0 Q (F0 m 152 ls884 []) := by
        intro ls884 H883 locsH883  hl885 hTH883 hSH883 b886
        obtain ⟨x888, ex888⟩ : ∃ y : Int32, y = x881 + 1 := ⟨_, rfl⟩
        have tx888 := i_add ex888 (by omega)
        refine lv_iinc (v := x888) (lv' := [(5, .int x888), (0, .ref a0), (1, .ref a1), (2, .int x2), (3, .int x3), (4, .int x4)]) hx hb dX5_goOn_152 hl885 (k := 5) rfl (by rw [ex888]; rfl) (by decide) rfl (fun ls889 hl890 => ?_)
        refine lv_goto (tgt := 56) hx hb dX5_goOn_155 (by decide) ?_
        exact ih56 ls889 H883 locsH883 (x888) (lv_sub hl890 [1, 2, 3, 4, 5, 0] rfl) hTH883 hSH883 (by have := i_rng x2; omega) (by have := i_rng x888; omega) (by omega)
      refine lv_iload hx hb dX5_goOn_56 (lv_at hl879 5 rfl) ?_
      refine lv_aload_n hx hb dX5_goOn_58 rfl (lv_at hl879 1 rfl) ?_
      refine x_gi C hTH877 (ci := 8) (k := 16) rfl inX8 (by decide) wF_X5_49 ga1 rg_0 rfl dX5_goOn_59 (fun x891 ex891 bx891 => ?_)
      refine lv_icmp_ge (tgt := 158) hx hb dX5_goOn_62 (by decide) (fun c892 => ?_) (fun c892 => ?_)
      · have k893 := i_le c892
        exact x_vret C hQ dX5_goOn_158 hSH877 (by decide) (by decide) (⟨rfl, hTH877⟩)
      · have k893 := i_nle c892
        refine lv_aload_n hx hb dX5_goOn_65 rfl (lv_at hl879 1 rfl) ?_
        refine x_gr C hTH877 (ci := 8) (k := 14) rfl inX8 (by decide) wF_X5_52 ga1 rg_0 rfl dX5_goOn_66 (fun q894 eq894 gq894 => ?_)
        refine lv_iload hx hb dX5_goOn_69 (lv_at hl879 5 rfl) ?_
        refine x_ai C hTH877 gq894 rg_32 ⟨by omega, by show _ < ((8 : Nat) : Int); omega⟩ dX5_goOn_71 (fun x895 ex895 bx895 => ?_)
        refine lv_aload_n hx hb dX5_goOn_72 rfl (lv_at hl879 1 rfl) ?_
        refine x_gr C hTH877 (ci := 8) (k := 12) rfl inX8 (by decide) wF_X5_55 ga1 rg_0 rfl dX5_goOn_73 (fun q896 eq896 gq896 => ?_)
        refine lv_iload_n hx hb dX5_goOn_76 rfl (lv_at hl879 2 rfl) ?_
        refine x_ai C hTH877 gq896 rg_31 ⟨by omega, by show _ < ((8 : Nat) : Int); omega⟩ dX5_goOn_77 (fun x897 ex897 bx897 => ?_)
        refine lv_isub hx hb dX5_goOn_78 ?_
        refine lv_topi (fun x898 ex898 => ?_)
        refine lv_istore (lv' := [(6, .int x898), (0, .ref a0), (1, .ref a1), (2, .int x2), (3, .int x3), (4, .int x4), (5, .int x881)]) hx hb dX5_goOn_79 hl879 (by decide) rfl (fun ls899 hl900 => ?_)
        refine lv_iload_n hx hb dX5_goOn_81 rfl (lv_at hl900 4 rfl) ?_
        refine lv_iconst (v := 1) hx hb dX5_goOn_82 (by decide) ?_
        refine lv_iload hx hb dX5_goOn_83 (lv_at hl900 6 rfl) ?_
        refine lv_ishl hx hb dX5_goOn_85 ?_
        refine lv_topi (fun x901 ex901 => ?_)
        have tx901 := i_shl7 ex901 (by omega)
        refine lv_ior hx hb dX5_goOn_86 ?_
        refine lv_topi (fun x902 ex902 => ?_)
        have tx902 := i_or8 ex902 (by omega) (by omega)
        refine lv_istore (lv' := [(7, .int x902), (6, .int x898), (0, .ref a0), (1, .ref a1), (2, .int x2), (3, .int x3), (4, .int x4), (5, .int x881)]) hx hb dX5_goOn_87 hl900 (by decide) rfl (fun ls903 hl904 => ?_)
        refine lv_iload hx hb dX5_goOn_89 (lv_at hl904 0 rfl) ?_
        refine lv_iload_n hx hb dX5_goOn_91 rfl (lv_at hl904 5 rfl) ?_
        refine lv_icmp_eq (tgt := 152) hx hb dX5_goOn_92 (by decide) (fun c905 => ?_) (fun c905 => ?_)
        · have k906 := i_eq c905
          exact J152 ls903 H877 locsH877 (lv_sub hl904 [2, 3, 4, 5, 6, 7] rfl) hTH877 hSH877 (by have := i_rng x881; omega)
        · have k906 := i_ne c905
          refine lv_iload hx hb dX5_goOn_95 (lv_at hl904 1 rfl) ?_
          refine lv_if_lt (tgt := 152) hx hb dX5_goOn_97 (by decide) (fun c907 => ?_) (fun c907 => ?_)
          · have k908 := i_lt c907
            exact J152 ls903 H877 locsH877 (lv_sub hl904 [2, 3, 4, 5, 6, 7] rfl) hTH877 hSH877 (by have := i_rng x881; omega)
          · have k908 := i_nlt c907
            refine lv_aload_n hx hb dX5_goOn_100 rfl (lv_at hl904 2 rfl) ?_
            refine x_gr C hTH877 (ci := 5) (k := 2) rfl inX5 (by decide) wF_X5_18 ga0 rg_104 rfl dX5_goOn_101 (fun q909 eq909 gq909 => ?_)
            refine lv_iload hx hb dX5_goOn_104 (lv_at hl904 0 rfl) ?_
            refine x_ai C hTH877 gq909 rg_107 ⟨by omega, by show _ < ((256 : Nat) : Int); omega⟩ dX5_goOn_106 (fun x910 ex910 bx910 => ?_)
            refine lv_if_ne (tgt := 152) hx hb dX5_goOn_107 (by decide) (fun c911 => ?_) (fun c911 => ?_)
            · have k912 := i_ne c911
              exact J152 ls903 H877 locsH877 (lv_sub hl904 [2, 3, 4, 5, 6, 7] rfl) hTH877 hSH877 (by have := i_rng x881; omega)
            · have k912 := i_eq c911
              refine lv_aload_n hx hb dX5_goOn_110 rfl (lv_at hl904 2 rfl) ?_
              refine lv_aload_n hx hb dX5_goOn_111 rfl (lv_at hl904 3 rfl) ?_
              refine lv_iload_n hx hb dX5_goOn_112 rfl (lv_at hl904 5 rfl) ?_
              refine lv_iload hx hb dX5_goOn_113 (lv_at hl904 7 rfl) ?_
              refine x_V (As := [.ref a1, .int x3, .int x881]) (rest := []) C (a_X5_ringsTogether l K G H877 (x3) (x881) hTH877 ga0 ga1 (by omega)) yo_X5_ringsTogether wM_X5_58 ⟨⟨by decide, by decide⟩, by decide, by decide⟩ (x_rv C hTH877 (ci := 5) rfl ga0 rg_104) rfl hl904.1 rfl (Nat.le_of_ble_eq_true rfl) dX5_goOn_115 hSH877 (AE_sub (fun _ _ => rfl) (by decide) hSH877.1) (fun vH913 H913 locsH913 pH913 zH913 kH913 hSH913 => ?_)
              obtain ⟨x914, hvH913, bx914, hTH913⟩ := pH913
              subst hvH913
              have m915 := (ex891).trans (fI_kept (x_lt hTH877 kH913 ga1 (by decide))).symm
              have m916 := (eq894).trans (fR_kept (x_lt hTH877 kH913 ga1 (by decide))).symm
              have m917 := (ex895).trans (fI_kept (x_lt hTH877 kH913 gq894 (by decide))).symm
              have m918 := (eq896).trans (fR_kept (x_lt hTH877 kH913 ga1 (by decide))).symm
              have m919 := (ex897).trans (fI_kept (x_lt hTH877 kH913 gq896 (by decide))).symm
              have m920 := (eq909).trans (fR_kept (x_lt hTH877 kH913 ga0 (by decide))).symm
              have m921 := (ex910).trans (fI_kept (x_lt hTH877 kH913 gq909 (by decide))).symm
              refine W.eq (g2 := F0 m 118 ls903 [.int x914]) rfl ?_
              refine lv_if_eq (tgt := 152) hx hb dX5_goOn_118 (by decide) (fun c922 => ?_) (fun c922 => ?_)
              · have k923 := i_eq c922
                exact J152 ls903 H913 locsH913 (lv_sub hl904 [2, 3, 4, 5, 6, 7] rfl) hTH913 hSH913 (by have := i_rng x881; omega)
              · have k923 := i_ne c922
                refine lv_aload_n hx hb dX5_goOn_121 rfl (lv_at hl904 2 rfl) ?_
                refine x_gr C hTH913 (ci := 5) (k := 2) rfl inX5 (by decide) wF_X5_18 ga0 rg_104 rfl dX5_goOn_122 (fun q924 eq924 gq924 => ?_)
                have uq924 : q909 = q924 := (m920).trans eq924.symm
                subst uq924
                refine lv_iload hx hb dX5_goOn_125 (lv_at hl904 0 rfl) ?_
                refine lv_iconst (v := 1) hx hb dX5_goOn_127 (by decide) ?_
                refine x_iast C hTH913 hSH913 gq909 rg_107 (by omega) (by show _ < ((256 : Nat) : Int); omega) (by decide) (AE_in gq909 (by decide)) dX5_goOn_128 (fun H925 locsH925 hTH925 hSH925 wH925 => ?_)
                have m926 := m915.trans (Wr.neI wH925 (Or.inl (G_ne ga1 gq909 (by decide)))).symm
                have m927 := m916.trans (Wr.neR wH925 (Or.inl (G_ne ga1 gq909 (by decide)))).symm
                have m928 := m917.trans (Wr.neI wH925 (Or.inl (G_ne gq894 gq909 (by decide)))).symm
                have m929 := m918.trans (Wr.neR wH925 (Or.inl (G_ne ga1 gq909 (by decide)))).symm
                have m930 := m919.trans (Wr.neI wH925 (Or.inl (G_ne gq896 gq909 (by decide)))).symm
                have m931 := m920.trans (Wr.neR wH925 (Or.inl (G_ne ga0 gq909 (by decide)))).symm
                have m933 := Wr.I wH925
                refine lv_aload_n hx hb dX5_goOn_129 rfl (lv_at hl904 2 rfl) ?_
                refine x_gr C hTH925 (ci := 5) (k := 1) rfl inX5 (by decide) wF_X5_15 ga0 rg_104 rfl dX5_goOn_130 (fun q934 eq934 gq934 => ?_)
                refine lv_iload_n hx hb dX5_goOn_133 rfl (lv_at hl904 4 rfl) ?_
                refine lv_iload hx hb dX5_goOn_134 (lv_at hl904 7 rfl) ?_
                refine x_iast C hTH925 hSH925 gq934 rg_106 (by omega) (by show _ < ((8 : Nat) : Int); omega) ⟨by have := i_rng x881; omega, by have := i_rng x881; omega⟩ (AE_in gq934 (by decide)) dX5_goOn_136 (fun H935 locsH935 hTH935 hSH935 wH935 => ?_)
                have m936 := m926.trans (Wr.neI wH935 (Or.inl (G_ne ga1 gq934 (by decide)))).symm
                have m937 := m927.trans (Wr.neR wH935 (Or.inl (G_ne ga1 gq934 (by decide)))).symm
                have m938 := m928.trans (Wr.neI wH935 (Or.inl (G_ne gq894 gq934 (by decide)))).symm
                have m939 := m929.trans (Wr.neR wH935 (Or.inl (G_ne ga1 gq934 (by decide)))).symm
                have m940 := m930.trans (Wr.neI wH935 (Or.inl (G_ne gq896 gq934 (by decide)))).symm
                have m941 := m931.trans (Wr.neR wH935 (Or.inl (G_ne ga0 gq934 (by decide)))).symm
                have m942 := (Wr.neI wH935 (Or.inl (G_ne gq909 gq934 (by decide)))).trans m933
                have m943 := eq934.trans (Wr.neR wH935 (Or.inl (G_ne ga0 gq934 (by decide)))).symm
                have m944 := Wr.I wH935
                have m944 := m944.symm
                refine lv_aload_n hx hb dX5_goOn_137 rfl (lv_at hl904 2 rfl) ?_
                refine lv_aload_n hx hb dX5_goOn_138 rfl (lv_at hl904 3 rfl) ?_
                refine lv_iload_n hx hb dX5_goOn_139 rfl (lv_at hl904 4 rfl) ?_
                refine lv_iconst (v := 1) hx hb dX5_goOn_140 (by decide) ?_
                refine lv_iadd hx hb dX5_goOn_141 ?_
                refine lv_topi (fun x945 ex945 => ?_)
                have tx945 := i_add ex945 (by omega)
                refine lv_iload hx hb dX5_goOn_142 (lv_at hl904 0 rfl) ?_
                refine lv_iload hx hb dX5_goOn_144 (lv_at hl904 6 rfl) ?_
                refine lv_iload hx hb dX5_goOn_146 (lv_at hl904 1 rfl) ?_
                refine lv_iadd hx hb dX5_goOn_148 ?_
                refine lv_topi (fun x946 ex946 => ?_)
                refine x_V (As := [.ref a1, .int x945, .int x902, .int x946]) (rest := []) C (a_X5_goOn_8 l K G H935 (x945) (x902) (x946) hTH935 ga0 ga1 (by omega) (by omega)) yo_X5_goOn wM_X5_34 ⟨⟨by decide, by decide⟩, by decide, by decide⟩ (x_rv C hTH935 (ci := 5) rfl ga0 rg_104) rfl hl904.1 rfl (Nat.le_of_ble_eq_true rfl) dX5_goOn_149 hSH935 (AE_sub (fun _ _ => rfl) (by decide) hSH935.1) (fun vH947 H947 locsH947 pH947 zH947 kH947 hSH947 => ?_)
                obtain ⟨hvH947, hTH947⟩ := pH947
                subst hvH947
                have m948 := (m936).trans (fI_kept (x_lt hTH935 kH947 ga1 (by decide))).symm
                have m949 := (m937).trans (fR_kept (x_lt hTH935 kH947 ga1 (by decide))).symm
                have m950 := (m938).trans (fI_kept (x_lt hTH935 kH947 gq894 (by decide))).symm
                have m951 := (m939).trans (fR_kept (x_lt hTH935 kH947 ga1 (by decide))).symm
                have m952 := (m940).trans (fI_kept (x_lt hTH935 kH947 gq896 (by decide))).symm
                refine W.eq (g2 := F0 m 152 ls903 []) rfl ?_
                exact J152 ls903 H947 locsH947 (lv_sub hl904 [2, 3, 4, 5, 6, 7] rfl) hTH947 hSH947 (by have := i_rng x881; omega)
  refine lv_iload_n hx hb dX5_goOn_0 rfl (lv_at hl 2 rfl) ?_
  refine lv_aload_n hx hb dX5_goOn_1 rfl (lv_at hl 1 rfl) ?_
  refine x_gi C hT (ci := 8) (k := 13) rfl inX8 (by decide) wF_X5_38 ga1 rg_0 rfl dX5_goOn_2 (fun x953 ex953 bx953 => ?_)
  refine lv_icmp_ge (tgt := 14) hx hb dX5_goOn_5 (by decide) (fun c954 => ?_) (fun c954 => ?_)
  · have k955 := i_le c954
    exact J14 ls s.heap [] (lv_sub hl [0, 4] rfl) hT hS 
  · have k955 := i_nle c954
    refine lv_iload_n hx hb dX5_goOn_8 rfl (lv_at hl 2 rfl) ?_
    refine lv_bipush (v := 8) hx hb dX5_goOn_9 (by decide) ?_
    refine lv_icmp_lt (tgt := 53) hx hb dX5_goOn_11 (by decide) (fun c956 => ?_) (fun c956 => ?_)
    · have k957 := i_lt c956
      refine lv_iconst (v := 0) hx hb dX5_goOn_53 (by decide) ?_
      refine lv_istore (lv' := [(5, .int 0), (0, .ref a0), (1, .ref a1), (2, .int x2), (3, .int x3), (4, .int x4)]) hx hb dX5_goOn_54 hl (by decide) rfl (fun ls958 hl959 => ?_)
      exact J56 ((8 - (0 : Int32).toInt).toNat + 1) ls958 s.heap [] (0) (lv_sub hl959 [1, 2, 3, 4, 5, 0] rfl) hT hS (by have := i_rng x2; omega) (by decide) (by omega)
    · have k957 := i_nlt c956
      exfalso
      omega

set_option maxHeartbeats 4000000 in
set_option maxRecDepth 100000 in
theorem a_X5_goOn_6 (l : Launch) (K : KE) (G : Nat → Option Nat) (H : Heap) {a0 : Nat} {a1 : Nat} (x2 : Int32) (x3 : Int32) (x4 : Int32) (hT : TY K G H) (ga0 : G a0 = some 104) (ga1 : G a1 = some 0) (hx2 : 6 ≤ x2.toInt ∧ x2.toInt ≤ 8) (hx3 : 0 ≤ x3.toInt ∧ x3.toInt ≤ 255) : MX l K yX5_goOn cX5_goOn 8 none 3 94 0 0 [.ref a0, .ref a1, .int x2, .int x3, .int x4] H (AE G [104, 105, 106, 107] H.size) (fun v H1 => v = none ∧ TY K G H1) := by
  refine MX.of (by decide +kernel) (Nat.le_of_ble_eq_true rfl) ?_
  intro p e s m below meth c ls Q C hH hl hQ
  subst hH
  have C : CX p K s m _ meth c RX5 cX5_goOn 8 none "goOn" := C
  obtain ⟨hx, hb, hml, hown, hts, hKT, hr, hlocks, hnm⟩ := id C
  have hl : lv_has ls 8 [(0, .ref a0), (1, .ref a1), (2, .int x2), (3, .int x3), (4, .int x4)] := hl
  have hS : va_S (AE G [104, 105, 106, 107] s.heap.size) s.heap s.heap [] := va_S.rf
  have n_m1 : ((-1) : Int32).toInt = -1 := rfl
  have n_0 : (0 : Int32).toInt = 0 := rfl
  have n_1 : (1 : Int32).toInt = 1 := rfl
  have n_8 : (8 : Int32).toInt = 8 := rfl
  have J14 : ∀ (ls919 : Array Slot) (H918 : Heap) (locsH918 : List Loc) , lv_has ls919 8 [(0, .ref a0), (4, .int x4)] → TY K G H918 → va_S (AE G [104, 105, 106, 107] s.heap.size) s.heap H918 locsH918 → W p l e ({ frames := 3, cells := 0, slots := 0, locals := 94 } : Room) s m (([.ref a0, .ref a1, .int x2, .int x3, .int x4] : List Value).toArray) below meth c H918 locsH918 0 0 Q (F0 m 14 ls919 []) := by
    intro ls919 H918 locsH918  hl920 hTH918 hSH918 
    have J52 : ∀ (ls923 : Array Slot) (H922 : Heap) (locsH922 : List Loc) , lv_has ls923 8 [] → TY K G H922 → va_S (AE G [104, 105, 106, 107] s.heap.size) s.heap H922 locsH922 → W p l e ({ frames := 3, cells := 0, slots := 0, locals := 94 } : Room) s m (([.ref a0, .ref a1, .int x2, .int x3, .int x4] : List Value).toArray) below meth c H922 locsH922 0 0 Q (F0 m 52 ls923 []) := by
      intro ls923 H922 locsH922  hl924 hTH922 hSH922 
      exact x_vret C hQ dX5_goOn_52 hSH922 (by decide) (by decide) (⟨rfl, hTH922⟩)
    have J31 : ∀ (ls927 : Array Slot) (H926 : Heap) (locsH926 : List Loc) , lv_has ls927 8 [(0, .ref a0), (4, .int x4)] → TY K G H926 → va_S (AE G [104, 105, 106, 107] s.heap.size) s.heap H926 locsH926 → W p l e ({ frames := 3, cells := 0, slots := 0, locals := 94 } : Room) s m (([.ref a0, .ref a1, .int x2, .int x3, .int x4] : List Value).toArray) below meth c H926 locsH926 0 0 Q (F0 m 31 ls927 []) := by
      intro ls927 H926 locsH926  hl928 hTH926 hSH926 
      refine lv_aload_n hx hb dX5_goOn_31 rfl (lv_at hl928 0 rfl) ?_
      refine lv_iload hx hb dX5_goOn_32 (lv_at hl928 1 rfl) ?_
      refine x_put C hTH926 hSH926 (ci := 5) (k := 3) (v := .int x4) (ty0 := tyX5) rfl inX5 tyX5_ok nmX5 (by decide) rfl wF_X5_27 ga0 rg_104 rfl rfl (okI (by have := i_rng x4; omega) (by have := i_rng x4; omega)) rfl rfl (AE_in ga0 (by decide)) dX5_goOn_34 (fun H930 locsH930 hTH930 hSH930 wH930 => ?_)
      have m931 := Wr.I wH930
      have m931 := m931.symm
      refine lv_aload_n hx hb dX5_goOn_37 rfl (lv_at hl928 0 rfl) ?_
      refine x_gr C hTH930 (ci := 5) (k := 1) rfl inX5 (by decide) wF_X5_15 ga0 rg_104 rfl dX5_goOn_38 (fun q932 eq932 gq932 => ?_)
      refine lv_iconst (v := 0) hx hb dX5_goOn_41 (by decide) ?_
      refine lv_aload_n hx hb dX5_goOn_42 rfl (lv_at hl928 0 rfl) ?_
      refine x_gr C hTH930 (ci := 5) (k := 0) rfl inX5 (by decide) wF_X5_9 ga0 rg_104 rfl dX5_goOn_43 (fun q933 eq933 gq933 => ?_)
      refine lv_iconst (v := 0) hx hb dX5_goOn_46 (by decide) ?_
      refine lv_bipush (v := 8) hx hb dX5_goOn_47 (by decide) ?_
      refine x_copy C hTH930 hSH930 wM_X5_43 wNT_arraycopy wST_arraycopy wIN_J10 gq932 gq933 rg_106 rg_105 (by decide) (by omega) (by omega) (by omega) (by show _ ≤ ((8 : Nat) : Int); omega) (by show _ ≤ ((8 : Nat) : Int); omega) (AE_in gq933 (by decide)) hl928.1 (by decide) dX5_goOn_49 (fun H934 locsH934 hTH934 hSH934 zH934 oH934 vH934 wH934 => ?_)
      have m935 := (m931).trans (fI_kept (oH934 _ (G_ne ga0 gq933 (by decide)))).symm
      have m936 := (eq932).trans (fR_kept (oH934 _ (G_ne ga0 gq933 (by decide)))).symm
      have m937 := (eq933).trans (fR_kept (oH934 _ (G_ne ga0 gq933 (by decide)))).symm
      exact J52 ls927 H934 locsH934 (lv_sub hl928 [] rfl) hTH934 hSH934 
    refine lv_aload_n hx hb dX5_goOn_14 rfl (lv_at hl920 0 rfl) ?_
    refine x_gi C hTH918 (ci := 5) (k := 3) rfl inX5 (by decide) wF_X5_27 ga0 rg_104 rfl dX5_goOn_15 (fun x938 ex938 bx938 => ?_)
    refine lv_iconst (v := (-1)) hx hb dX5_goOn_18 (by decide) ?_
    refine lv_icmp_eq (tgt := 31) hx hb dX5_goOn_19 (by decide) (fun c939 => ?_) (fun c939 => ?_)
    · have k940 := i_eq c939
      exact J31 ls919 H918 locsH918 (lv_sub hl920 [0, 1] rfl) hTH918 hSH918 
    · have k940 := i_ne c939
      refine lv_iload hx hb dX5_goOn_22 (lv_at hl920 1 rfl) ?_
      refine lv_aload_n hx hb dX5_goOn_24 rfl (lv_at hl920 0 rfl) ?_
      refine x_gi C hTH918 (ci := 5) (k := 3) rfl inX5 (by decide) wF_X5_27 ga0 rg_104 rfl dX5_goOn_25 (fun x941 ex941 bx941 => ?_)
      have ux941 : x938 = x941 := (ex938).trans ex941.symm
      subst ux941
      refine lv_icmp_ge (tgt := 52) hx hb dX5_goOn_28 (by decide) (fun c942 => ?_) (fun c942 => ?_)
      · have k943 := i_le c942
        exact J52 ls919 H918 locsH918 (lv_sub hl920 [] rfl) hTH918 hSH918 
      · have k943 := i_nle c942
        exact J31 ls919 H918 locsH918 (lv_sub hl920 [0, 1] rfl) hTH918 hSH918 
  have J56 : ∀ (nf : Nat) (ls945 : Array Slot) (H944 : Heap) (locsH944 : List Loc) (x948 : Int32), lv_has ls945 8 [(0, .ref a0), (1, .ref a1), (2, .int x2), (3, .int x3), (4, .int x4), (5, .int x948)] → TY K G H944 → va_S (AE G [104, 105, 106, 107] s.heap.size) s.heap H944 locsH944 → (6 ≤ x2.toInt ∧ x2.toInt ≤ 7) → (0 ≤ x948.toInt ∧ x948.toInt ≤ 8) → (8 - x948.toInt < (nf : Int)) → W p l e ({ frames := 3, cells := 0, slots := 0, locals := 94 } : Room) s m (([.ref a0, .ref a1, .int x2, .int x3, .int x4] : List Value).toArray) below meth c H944 locsH944 0 0 Q (F0 m 56 ls945 []) := by
    intro nf
    induction nf with
    | zero =>
      intro ls945 H944 locsH944 x948 hl946 hTH944 hSH944 b947 bx948 hm56
      exfalso
      omega
    | succ nf ih56 =>
      intro ls945 H944 locsH944 x948 hl946 hTH944 hSH944 b947 bx948 hm56
      have J152 : ∀ (ls951 : Array Slot) (H950 : Heap) (locsH950 : List Loc) , lv_has ls951 8 [(0, .ref a0), (1, .ref a1), (2, .int x2), (3, .int x3), (4, .int x4), (5, .int x948)] → TY K G H950 → va_S (AE G [104, 105, 106, 107] s.heap.size) s.heap H950 locsH950 → (0 ≤ x948.toInt ∧ x948.toInt ≤ 7) → W p l e ({ frames := 3, cells := 0, slots := 0, locals := 94 } : Room) s m (([.ref a0, .ref a1, .int x2, .int x3, .int x4] : List Value).toArray) below meth c H950 locsH950 0 0 Q (F0 m 152 ls951 []) := by
        intro ls951 H950 locsH950  hl952 hTH950 hSH950 b953
        obtain ⟨x955, ex955⟩ : ∃ y : Int32, y = x948 + 1 := ⟨_, rfl⟩
        have tx955 := i_add ex955 (by omega)
        refine lv_iinc (v := x955) (lv' := [(5, .int x955), (0, .ref a0), (1, .ref a1), (2, .int x2), (3, .int x3), (4, .int x4)]) hx hb dX5_goOn_152 hl952 (k := 5) rfl (by rw [ex955]; rfl) (by decide) rfl (fun ls956 hl957 => ?_)
        refine lv_goto (tgt := 56) hx hb dX5_goOn_155 (by decide) ?_
        exact ih56 ls956 H950 locsH950 (x955) (lv_sub hl957 [1, 2, 3, 4, 5, 0] rfl) hTH950 hSH950 (by have := i_rng x2; omega) (by have := i_rng x955; omega) (by omega)
      refine lv_iload hx hb dX5_goOn_56 (lv_at hl946 5 rfl) ?_
      refine lv_aload_n hx hb dX5_goOn_58 rfl (lv_at hl946 1 rfl) ?_
      refine x_gi C hTH944 (ci := 8) (k := 16) rfl inX8 (by decide) wF_X5_49 ga1 rg_0 rfl dX5_goOn_59 (fun x958 ex958 bx958 => ?_)
      refine lv_icmp_ge (tgt := 158) hx hb dX5_goOn_62 (by decide) (fun c959 => ?_) (fun c959 => ?_)
      · have k960 := i_le c959
        exact x_vret C hQ dX5_goOn_158 hSH944 (by decide) (by decide) (⟨rfl, hTH944⟩)
      · have k960 := i_nle c959
        refine lv_aload_n hx hb dX5_goOn_65 rfl (lv_at hl946 1 rfl) ?_
        refine x_gr C hTH944 (ci := 8) (k := 14) rfl inX8 (by decide) wF_X5_52 ga1 rg_0 rfl dX5_goOn_66 (fun q961 eq961 gq961 => ?_)
        refine lv_iload hx hb dX5_goOn_69 (lv_at hl946 5 rfl) ?_
        refine x_ai C hTH944 gq961 rg_32 ⟨by omega, by show _ < ((8 : Nat) : Int); omega⟩ dX5_goOn_71 (fun x962 ex962 bx962 => ?_)
        refine lv_aload_n hx hb dX5_goOn_72 rfl (lv_at hl946 1 rfl) ?_
        refine x_gr C hTH944 (ci := 8) (k := 12) rfl inX8 (by decide) wF_X5_55 ga1 rg_0 rfl dX5_goOn_73 (fun q963 eq963 gq963 => ?_)
        refine lv_iload_n hx hb dX5_goOn_76 rfl (lv_at hl946 2 rfl) ?_
        refine x_ai C hTH944 gq963 rg_31 ⟨by omega, by show _ < ((8 : Nat) : Int); omega⟩ dX5_goOn_77 (fun x964 ex964 bx964 => ?_)
        refine lv_isub hx hb dX5_goOn_78 ?_
        refine lv_topi (fun x965 ex965 => ?_)
        refine lv_istore (lv' := [(6, .int x965), (0, .ref a0), (1, .ref a1), (2, .int x2), (3, .int x3), (4, .int x4), (5, .int x948)]) hx hb dX5_goOn_79 hl946 (by decide) rfl (fun ls966 hl967 => ?_)
        refine lv_iload_n hx hb dX5_goOn_81 rfl (lv_at hl967 4 rfl) ?_
        refine lv_iconst (v := 1) hx hb dX5_goOn_82 (by decide) ?_
        refine lv_iload hx hb dX5_goOn_83 (lv_at hl967 6 rfl) ?_
        refine lv_ishl hx hb dX5_goOn_85 ?_
        refine lv_topi (fun x968 ex968 => ?_)
        have tx968 := i_shl7 ex968 (by omega)
        refine lv_ior hx hb dX5_goOn_86 ?_
        refine lv_topi (fun x969 ex969 => ?_)
        have tx969 := i_or8 ex969 (by omega) (by omega)
        refine lv_istore (lv' := [(7, .int x969), (6, .int x965), (0, .ref a0), (1, .ref a1), (2, .int x2), (3, .int x3), (4, .int x4), (5, .int x948)]) hx hb dX5_goOn_87 hl967 (by decide) rfl (fun ls970 hl971 => ?_)
        refine lv_iload hx hb dX5_goOn_89 (lv_at hl971 0 rfl) ?_
        refine lv_iload_n hx hb dX5_goOn_91 rfl (lv_at hl971 5 rfl) ?_
        refine lv_icmp_eq (tgt := 152) hx hb dX5_goOn_92 (by decide) (fun c972 => ?_) (fun c972 => ?_)
        · have k973 := i_eq c972
          exact J152 ls970 H944 locsH944 (lv_sub hl971 [2, 3, 4, 5, 6, 7] rfl) hTH944 hSH944 (by have := i_rng x948; omega)
        · have k973 := i_ne c972
          refine lv_iload hx hb dX5_goOn_95 (lv_at hl971 1 rfl) ?_
          refine lv_if_lt (tgt := 152) hx hb dX5_goOn_97 (by decide) (fun c974 => ?_) (fun c974 => ?_)
          · have k975 := i_lt c974
            exact J152 ls970 H944 locsH944 (lv_sub hl971 [2, 3, 4, 5, 6, 7] rfl) hTH944 hSH944 (by have := i_rng x948; omega)
          · have k975 := i_nlt c974
            refine lv_aload_n hx hb dX5_goOn_100 rfl (lv_at hl971 2 rfl) ?_
            refine x_gr C hTH944 (ci := 5) (k := 2) rfl inX5 (by decide) wF_X5_18 ga0 rg_104 rfl dX5_goOn_101 (fun q976 eq976 gq976 => ?_)
            refine lv_iload hx hb dX5_goOn_104 (lv_at hl971 0 rfl) ?_
            refine x_ai C hTH944 gq976 rg_107 ⟨by omega, by show _ < ((256 : Nat) : Int); omega⟩ dX5_goOn_106 (fun x977 ex977 bx977 => ?_)
            refine lv_if_ne (tgt := 152) hx hb dX5_goOn_107 (by decide) (fun c978 => ?_) (fun c978 => ?_)
            · have k979 := i_ne c978
              exact J152 ls970 H944 locsH944 (lv_sub hl971 [2, 3, 4, 5, 6, 7] rfl) hTH944 hSH944 (by have := i_rng x948; omega)
            · have k979 := i_eq c978
              refine lv_aload_n hx hb dX5_goOn_110 rfl (lv_at hl971 2 rfl) ?_
              refine lv_aload_n hx hb dX5_goOn_111 rfl (lv_at hl971 3 rfl) ?_
              refine lv_iload_n hx hb dX5_goOn_112 rfl (lv_at hl971 5 rfl) ?_
              refine lv_iload hx hb dX5_goOn_113 (lv_at hl971 7 rfl) ?_
              refine x_V (As := [.ref a1, .int x3, .int x948]) (rest := []) C (a_X5_ringsTogether l K G H944 (x3) (x948) hTH944 ga0 ga1 (by omega)) yo_X5_ringsTogether wM_X5_58 ⟨⟨by decide, by decide⟩, by decide, by decide⟩ (x_rv C hTH944 (ci := 5) rfl ga0 rg_104) rfl hl971.1 rfl (Nat.le_of_ble_eq_true rfl) dX5_goOn_115 hSH944 (AE_sub (fun _ _ => rfl) (by decide) hSH944.1) (fun vH980 H980 locsH980 pH980 zH980 kH980 hSH980 => ?_)
              obtain ⟨x981, hvH980, bx981, hTH980⟩ := pH980
              subst hvH980
              have m982 := (ex958).trans (fI_kept (x_lt hTH944 kH980 ga1 (by decide))).symm
              have m983 := (eq961).trans (fR_kept (x_lt hTH944 kH980 ga1 (by decide))).symm
              have m984 := (ex962).trans (fI_kept (x_lt hTH944 kH980 gq961 (by decide))).symm
              have m985 := (eq963).trans (fR_kept (x_lt hTH944 kH980 ga1 (by decide))).symm
              have m986 := (ex964).trans (fI_kept (x_lt hTH944 kH980 gq963 (by decide))).symm
              have m987 := (eq976).trans (fR_kept (x_lt hTH944 kH980 ga0 (by decide))).symm
              have m988 := (ex977).trans (fI_kept (x_lt hTH944 kH980 gq976 (by decide))).symm
              refine W.eq (g2 := F0 m 118 ls970 [.int x981]) rfl ?_
              refine lv_if_eq (tgt := 152) hx hb dX5_goOn_118 (by decide) (fun c989 => ?_) (fun c989 => ?_)
              · have k990 := i_eq c989
                exact J152 ls970 H980 locsH980 (lv_sub hl971 [2, 3, 4, 5, 6, 7] rfl) hTH980 hSH980 (by have := i_rng x948; omega)
              · have k990 := i_ne c989
                refine lv_aload_n hx hb dX5_goOn_121 rfl (lv_at hl971 2 rfl) ?_
                refine x_gr C hTH980 (ci := 5) (k := 2) rfl inX5 (by decide) wF_X5_18 ga0 rg_104 rfl dX5_goOn_122 (fun q991 eq991 gq991 => ?_)
                have uq991 : q976 = q991 := (m987).trans eq991.symm
                subst uq991
                refine lv_iload hx hb dX5_goOn_125 (lv_at hl971 0 rfl) ?_
                refine lv_iconst (v := 1) hx hb dX5_goOn_127 (by decide) ?_
                refine x_iast C hTH980 hSH980 gq976 rg_107 (by omega) (by show _ < ((256 : Nat) : Int); omega) (by decide) (AE_in gq976 (by decide)) dX5_goOn_128 (fun H992 locsH992 hTH992 hSH992 wH992 => ?_)
                have m993 := m982.trans (Wr.neI wH992 (Or.inl (G_ne ga1 gq976 (by decide)))).symm
                have m994 := m983.trans (Wr.neR wH992 (Or.inl (G_ne ga1 gq976 (by decide)))).symm
                have m995 := m984.trans (Wr.neI wH992 (Or.inl (G_ne gq961 gq976 (by decide)))).symm
                have m996 := m985.trans (Wr.neR wH992 (Or.inl (G_ne ga1 gq976 (by decide)))).symm
                have m997 := m986.trans (Wr.neI wH992 (Or.inl (G_ne gq963 gq976 (by decide)))).symm
                have m998 := m987.trans (Wr.neR wH992 (Or.inl (G_ne ga0 gq976 (by decide)))).symm
                have m1000 := Wr.I wH992
                refine lv_aload_n hx hb dX5_goOn_129 rfl (lv_at hl971 2 rfl) ?_
                refine x_gr C hTH992 (ci := 5) (k := 1) rfl inX5 (by decide) wF_X5_15 ga0 rg_104 rfl dX5_goOn_130 (fun q1001 eq1001 gq1001 => ?_)
                refine lv_iload_n hx hb dX5_goOn_133 rfl (lv_at hl971 4 rfl) ?_
                refine lv_iload hx hb dX5_goOn_134 (lv_at hl971 7 rfl) ?_
                refine x_iast C hTH992 hSH992 gq1001 rg_106 (by omega) (by show _ < ((8 : Nat) : Int); omega) ⟨by have := i_rng x948; omega, by have := i_rng x948; omega⟩ (AE_in gq1001 (by decide)) dX5_goOn_136 (fun H1002 locsH1002 hTH1002 hSH1002 wH1002 => ?_)
                have m1003 := m993.trans (Wr.neI wH1002 (Or.inl (G_ne ga1 gq1001 (by decide)))).symm
                have m1004 := m994.trans (Wr.neR wH1002 (Or.inl (G_ne ga1 gq1001 (by decide)))).symm
                have m1005 := m995.trans (Wr.neI wH1002 (Or.inl (G_ne gq961 gq1001 (by decide)))).symm
                have m1006 := m996.trans (Wr.neR wH1002 (Or.inl (G_ne ga1 gq1001 (by decide)))).symm
                have m1007 := m997.trans (Wr.neI wH1002 (Or.inl (G_ne gq963 gq1001 (by decide)))).symm
                have m1008 := m998.trans (Wr.neR wH1002 (Or.inl (G_ne ga0 gq1001 (by decide)))).symm
                have m1009 := (Wr.neI wH1002 (Or.inl (G_ne gq976 gq1001 (by decide)))).trans m1000
                have m1010 := eq1001.trans (Wr.neR wH1002 (Or.inl (G_ne ga0 gq1001 (by decide)))).symm
                have m1011 := Wr.I wH1002
                have m1011 := m1011.symm
                refine lv_aload_n hx hb dX5_goOn_137 rfl (lv_at hl971 2 rfl) ?_
                refine lv_aload_n hx hb dX5_goOn_138 rfl (lv_at hl971 3 rfl) ?_
                refine lv_iload_n hx hb dX5_goOn_139 rfl (lv_at hl971 4 rfl) ?_
                refine lv_iconst (v := 1) hx hb dX5_goOn_140 (by decide) ?_
                refine lv_iadd hx hb dX5_goOn_141 ?_
                refine lv_topi (fun x1012 ex1012 => ?_)
                have tx1012 := i_add ex1012 (by omega)
                refine lv_iload hx hb dX5_goOn_142 (lv_at hl971 0 rfl) ?_
                refine lv_iload hx hb dX5_goOn_144 (lv_at hl971 6 rfl) ?_
                refine lv_iload hx hb dX5_goOn_146 (lv_at hl971 1 rfl) ?_
                refine lv_iadd hx hb dX5_goOn_148 ?_
                refine lv_topi (fun x1013 ex1013 => ?_)
                refine x_V (As := [.ref a1, .int x1012, .int x969, .int x1013]) (rest := []) C (a_X5_goOn_7 l K G H1002 (x1012) (x969) (x1013) hTH1002 ga0 ga1 (by omega) (by omega)) yo_X5_goOn wM_X5_34 ⟨⟨by decide, by decide⟩, by decide, by decide⟩ (x_rv C hTH1002 (ci := 5) rfl ga0 rg_104) rfl hl971.1 rfl (Nat.le_of_ble_eq_true rfl) dX5_goOn_149 hSH1002 (AE_sub (fun _ _ => rfl) (by decide) hSH1002.1) (fun vH1014 H1014 locsH1014 pH1014 zH1014 kH1014 hSH1014 => ?_)
                obtain ⟨hvH1014, hTH1014⟩ := pH1014
                subst hvH1014
                have m1015 := (m1003).trans (fI_kept (x_lt hTH1002 kH1014 ga1 (by decide))).symm
                have m1016 := (m1004).trans (fR_kept (x_lt hTH1002 kH1014 ga1 (by decide))).symm
                have m1017 := (m1005).trans (fI_kept (x_lt hTH1002 kH1014 gq961 (by decide))).symm
                have m1018 := (m1006).trans (fR_kept (x_lt hTH1002 kH1014 ga1 (by decide))).symm
                have m1019 := (m1007).trans (fI_kept (x_lt hTH1002 kH1014 gq963 (by decide))).symm
                refine W.eq (g2 := F0 m 152 ls970 []) rfl ?_
                exact J152 ls970 H1014 locsH1014 (lv_sub hl971 [2, 3, 4, 5, 6, 7] rfl) hTH1014 hSH1014 (by have := i_rng x948; omega)
  refine lv_iload_n hx hb dX5_goOn_0 rfl (lv_at hl 2 rfl) ?_
  refine lv_aload_n hx hb dX5_goOn_1 rfl (lv_at hl 1 rfl) ?_
  refine x_gi C hT (ci := 8) (k := 13) rfl inX8 (by decide) wF_X5_38 ga1 rg_0 rfl dX5_goOn_2 (fun x1020 ex1020 bx1020 => ?_)
  refine lv_icmp_ge (tgt := 14) hx hb dX5_goOn_5 (by decide) (fun c1021 => ?_) (fun c1021 => ?_)
  · have k1022 := i_le c1021
    exact J14 ls s.heap [] (lv_sub hl [0, 4] rfl) hT hS 
  · have k1022 := i_nle c1021
    refine lv_iload_n hx hb dX5_goOn_8 rfl (lv_at hl 2 rfl) ?_
    refine lv_bipush (v := 8) hx hb dX5_goOn_9 (by decide) ?_
    refine lv_icmp_lt (tgt := 53) hx hb dX5_goOn_11 (by decide) (fun c1023 => ?_) (fun c1023 => ?_)
    · have k1024 := i_lt c1023
      refine lv_iconst (v := 0) hx hb dX5_goOn_53 (by decide) ?_
      refine lv_istore (lv' := [(5, .int 0), (0, .ref a0), (1, .ref a1), (2, .int x2), (3, .int x3), (4, .int x4)]) hx hb dX5_goOn_54 hl (by decide) rfl (fun ls1025 hl1026 => ?_)
      exact J56 ((8 - (0 : Int32).toInt).toNat + 1) ls1025 s.heap [] (0) (lv_sub hl1026 [1, 2, 3, 4, 5, 0] rfl) hT hS (by have := i_rng x2; omega) (by decide) (by omega)
    · have k1024 := i_nlt c1023
      exfalso
      omega

set_option maxHeartbeats 4000000 in
set_option maxRecDepth 100000 in
theorem a_X5_goOn_5 (l : Launch) (K : KE) (G : Nat → Option Nat) (H : Heap) {a0 : Nat} {a1 : Nat} (x2 : Int32) (x3 : Int32) (x4 : Int32) (hT : TY K G H) (ga0 : G a0 = some 104) (ga1 : G a1 = some 0) (hx2 : 5 ≤ x2.toInt ∧ x2.toInt ≤ 8) (hx3 : 0 ≤ x3.toInt ∧ x3.toInt ≤ 255) : MX l K yX5_goOn cX5_goOn 8 none 4 121 0 0 [.ref a0, .ref a1, .int x2, .int x3, .int x4] H (AE G [104, 105, 106, 107] H.size) (fun v H1 => v = none ∧ TY K G H1) := by
  refine MX.of (by decide +kernel) (Nat.le_of_ble_eq_true rfl) ?_
  intro p e s m below meth c ls Q C hH hl hQ
  subst hH
  have C : CX p K s m _ meth c RX5 cX5_goOn 8 none "goOn" := C
  obtain ⟨hx, hb, hml, hown, hts, hKT, hr, hlocks, hnm⟩ := id C
  have hl : lv_has ls 8 [(0, .ref a0), (1, .ref a1), (2, .int x2), (3, .int x3), (4, .int x4)] := hl
  have hS : va_S (AE G [104, 105, 106, 107] s.heap.size) s.heap s.heap [] := va_S.rf
  have n_m1 : ((-1) : Int32).toInt = -1 := rfl
  have n_0 : (0 : Int32).toInt = 0 := rfl
  have n_1 : (1 : Int32).toInt = 1 := rfl
  have n_8 : (8 : Int32).toInt = 8 := rfl
  have J14 : ∀ (ls919 : Array Slot) (H918 : Heap) (locsH918 : List Loc) , lv_has ls919 8 [(0, .ref a0), (4, .int x4)] → TY K G H918 → va_S (AE G [104, 105, 106, 107] s.heap.size) s.heap H918 locsH918 → W p l e ({ frames := 4, cells := 0, slots := 0, locals := 121 } : Room) s m (([.ref a0, .ref a1, .int x2, .int x3, .int x4] : List Value).toArray) below meth c H918 locsH918 0 0 Q (F0 m 14 ls919 []) := by
    intro ls919 H918 locsH918  hl920 hTH918 hSH918 
    have J52 : ∀ (ls923 : Array Slot) (H922 : Heap) (locsH922 : List Loc) , lv_has ls923 8 [] → TY K G H922 → va_S (AE G [104, 105, 106, 107] s.heap.size) s.heap H922 locsH922 → W p l e ({ frames := 4, cells := 0, slots := 0, locals := 121 } : Room) s m (([.ref a0, .ref a1, .int x2, .int x3, .int x4] : List Value).toArray) below meth c H922 locsH922 0 0 Q (F0 m 52 ls923 []) := by
      intro ls923 H922 locsH922  hl924 hTH922 hSH922 
      exact x_vret C hQ dX5_goOn_52 hSH922 (by decide) (by decide) (⟨rfl, hTH922⟩)
    have J31 : ∀ (ls927 : Array Slot) (H926 : Heap) (locsH926 : List Loc) , lv_has ls927 8 [(0, .ref a0), (4, .int x4)] → TY K G H926 → va_S (AE G [104, 105, 106, 107] s.heap.size) s.heap H926 locsH926 → W p l e ({ frames := 4, cells := 0, slots := 0, locals := 121 } : Room) s m (([.ref a0, .ref a1, .int x2, .int x3, .int x4] : List Value).toArray) below meth c H926 locsH926 0 0 Q (F0 m 31 ls927 []) := by
      intro ls927 H926 locsH926  hl928 hTH926 hSH926 
      refine lv_aload_n hx hb dX5_goOn_31 rfl (lv_at hl928 0 rfl) ?_
      refine lv_iload hx hb dX5_goOn_32 (lv_at hl928 1 rfl) ?_
      refine x_put C hTH926 hSH926 (ci := 5) (k := 3) (v := .int x4) (ty0 := tyX5) rfl inX5 tyX5_ok nmX5 (by decide) rfl wF_X5_27 ga0 rg_104 rfl rfl (okI (by have := i_rng x4; omega) (by have := i_rng x4; omega)) rfl rfl (AE_in ga0 (by decide)) dX5_goOn_34 (fun H930 locsH930 hTH930 hSH930 wH930 => ?_)
      have m931 := Wr.I wH930
      have m931 := m931.symm
      refine lv_aload_n hx hb dX5_goOn_37 rfl (lv_at hl928 0 rfl) ?_
      refine x_gr C hTH930 (ci := 5) (k := 1) rfl inX5 (by decide) wF_X5_15 ga0 rg_104 rfl dX5_goOn_38 (fun q932 eq932 gq932 => ?_)
      refine lv_iconst (v := 0) hx hb dX5_goOn_41 (by decide) ?_
      refine lv_aload_n hx hb dX5_goOn_42 rfl (lv_at hl928 0 rfl) ?_
      refine x_gr C hTH930 (ci := 5) (k := 0) rfl inX5 (by decide) wF_X5_9 ga0 rg_104 rfl dX5_goOn_43 (fun q933 eq933 gq933 => ?_)
      refine lv_iconst (v := 0) hx hb dX5_goOn_46 (by decide) ?_
      refine lv_bipush (v := 8) hx hb dX5_goOn_47 (by decide) ?_
      refine x_copy C hTH930 hSH930 wM_X5_43 wNT_arraycopy wST_arraycopy wIN_J10 gq932 gq933 rg_106 rg_105 (by decide) (by omega) (by omega) (by omega) (by show _ ≤ ((8 : Nat) : Int); omega) (by show _ ≤ ((8 : Nat) : Int); omega) (AE_in gq933 (by decide)) hl928.1 (by decide) dX5_goOn_49 (fun H934 locsH934 hTH934 hSH934 zH934 oH934 vH934 wH934 => ?_)
      have m935 := (m931).trans (fI_kept (oH934 _ (G_ne ga0 gq933 (by decide)))).symm
      have m936 := (eq932).trans (fR_kept (oH934 _ (G_ne ga0 gq933 (by decide)))).symm
      have m937 := (eq933).trans (fR_kept (oH934 _ (G_ne ga0 gq933 (by decide)))).symm
      exact J52 ls927 H934 locsH934 (lv_sub hl928 [] rfl) hTH934 hSH934 
    refine lv_aload_n hx hb dX5_goOn_14 rfl (lv_at hl920 0 rfl) ?_
    refine x_gi C hTH918 (ci := 5) (k := 3) rfl inX5 (by decide) wF_X5_27 ga0 rg_104 rfl dX5_goOn_15 (fun x938 ex938 bx938 => ?_)
    refine lv_iconst (v := (-1)) hx hb dX5_goOn_18 (by decide) ?_
    refine lv_icmp_eq (tgt := 31) hx hb dX5_goOn_19 (by decide) (fun c939 => ?_) (fun c939 => ?_)
    · have k940 := i_eq c939
      exact J31 ls919 H918 locsH918 (lv_sub hl920 [0, 1] rfl) hTH918 hSH918 
    · have k940 := i_ne c939
      refine lv_iload hx hb dX5_goOn_22 (lv_at hl920 1 rfl) ?_
      refine lv_aload_n hx hb dX5_goOn_24 rfl (lv_at hl920 0 rfl) ?_
      refine x_gi C hTH918 (ci := 5) (k := 3) rfl inX5 (by decide) wF_X5_27 ga0 rg_104 rfl dX5_goOn_25 (fun x941 ex941 bx941 => ?_)
      have ux941 : x938 = x941 := (ex938).trans ex941.symm
      subst ux941
      refine lv_icmp_ge (tgt := 52) hx hb dX5_goOn_28 (by decide) (fun c942 => ?_) (fun c942 => ?_)
      · have k943 := i_le c942
        exact J52 ls919 H918 locsH918 (lv_sub hl920 [] rfl) hTH918 hSH918 
      · have k943 := i_nle c942
        exact J31 ls919 H918 locsH918 (lv_sub hl920 [0, 1] rfl) hTH918 hSH918 
  have J56 : ∀ (nf : Nat) (ls945 : Array Slot) (H944 : Heap) (locsH944 : List Loc) (x948 : Int32), lv_has ls945 8 [(0, .ref a0), (1, .ref a1), (2, .int x2), (3, .int x3), (4, .int x4), (5, .int x948)] → TY K G H944 → va_S (AE G [104, 105, 106, 107] s.heap.size) s.heap H944 locsH944 → (5 ≤ x2.toInt ∧ x2.toInt ≤ 7) → (0 ≤ x948.toInt ∧ x948.toInt ≤ 8) → (8 - x948.toInt < (nf : Int)) → W p l e ({ frames := 4, cells := 0, slots := 0, locals := 121 } : Room) s m (([.ref a0, .ref a1, .int x2, .int x3, .int x4] : List Value).toArray) below meth c H944 locsH944 0 0 Q (F0 m 56 ls945 []) := by
    intro nf
    induction nf with
    | zero =>
      intro ls945 H944 locsH944 x948 hl946 hTH944 hSH944 b947 bx948 hm56
      exfalso
      omega
    | succ nf ih56 =>
      intro ls945 H944 locsH944 x948 hl946 hTH944 hSH944 b947 bx948 hm56
      have J152 : ∀ (ls951 : Array Slot) (H950 : Heap) (locsH950 : List Loc) , lv_has ls951 8 [(0, .ref a0), (1, .ref a1), (2, .int x2), (3, .int x3), (4, .int x4), (5, .int x948)] → TY K G H950 → va_S (AE G [104, 105, 106, 107] s.heap.size) s.heap H950 locsH950 → (0 ≤ x948.toInt ∧ x948.toInt ≤ 7) → W p l e ({ frames := 4, cells := 0, slots := 0, locals := 121 } : Room) s m (([.ref a0, .ref a1, .int x2, .int x3, .int x4] : List Value).toArray) below meth c H950 locsH950 0 0 Q (F0 m 152 ls951 []) := by
        intro ls951 H950 locsH950  hl952 hTH950 hSH950 b953
        obtain ⟨x955, ex955⟩ : ∃ y : Int32, y = x948 + 1 := ⟨_, rfl⟩
        have tx955 := i_add ex955 (by omega)
        refine lv_iinc (v := x955) (lv' := [(5, .int x955), (0, .ref a0), (1, .ref a1), (2, .int x2), (3, .int x3), (4, .int x4)]) hx hb dX5_goOn_152 hl952 (k := 5) rfl (by rw [ex955]; rfl) (by decide) rfl (fun ls956 hl957 => ?_)
        refine lv_goto (tgt := 56) hx hb dX5_goOn_155 (by decide) ?_
        exact ih56 ls956 H950 locsH950 (x955) (lv_sub hl957 [1, 2, 3, 4, 5, 0] rfl) hTH950 hSH950 (by have := i_rng x2; omega) (by have := i_rng x955; omega) (by omega)
      refine lv_iload hx hb dX5_goOn_56 (lv_at hl946 5 rfl) ?_
      refine lv_aload_n hx hb dX5_goOn_58 rfl (lv_at hl946 1 rfl) ?_
      refine x_gi C hTH944 (ci := 8) (k := 16) rfl inX8 (by decide) wF_X5_49 ga1 rg_0 rfl dX5_goOn_59 (fun x958 ex958 bx958 => ?_)
      refine lv_icmp_ge (tgt := 158) hx hb dX5_goOn_62 (by decide) (fun c959 => ?_) (fun c959 => ?_)
      · have k960 := i_le c959
        exact x_vret C hQ dX5_goOn_158 hSH944 (by decide) (by decide) (⟨rfl, hTH944⟩)
      · have k960 := i_nle c959
        refine lv_aload_n hx hb dX5_goOn_65 rfl (lv_at hl946 1 rfl) ?_
        refine x_gr C hTH944 (ci := 8) (k := 14) rfl inX8 (by decide) wF_X5_52 ga1 rg_0 rfl dX5_goOn_66 (fun q961 eq961 gq961 => ?_)
        refine lv_iload hx hb dX5_goOn_69 (lv_at hl946 5 rfl) ?_
        refine x_ai C hTH944 gq961 rg_32 ⟨by omega, by show _ < ((8 : Nat) : Int); omega⟩ dX5_goOn_71 (fun x962 ex962 bx962 => ?_)
        refine lv_aload_n hx hb dX5_goOn_72 rfl (lv_at hl946 1 rfl) ?_
        refine x_gr C hTH944 (ci := 8) (k := 12) rfl inX8 (by decide) wF_X5_55 ga1 rg_0 rfl dX5_goOn_73 (fun q963 eq963 gq963 => ?_)
        refine lv_iload_n hx hb dX5_goOn_76 rfl (lv_at hl946 2 rfl) ?_
        refine x_ai C hTH944 gq963 rg_31 ⟨by omega, by show _ < ((8 : Nat) : Int); omega⟩ dX5_goOn_77 (fun x964 ex964 bx964 => ?_)
        refine lv_isub hx hb dX5_goOn_78 ?_
        refine lv_topi (fun x965 ex965 => ?_)
        refine lv_istore (lv' := [(6, .int x965), (0, .ref a0), (1, .ref a1), (2, .int x2), (3, .int x3), (4, .int x4), (5, .int x948)]) hx hb dX5_goOn_79 hl946 (by decide) rfl (fun ls966 hl967 => ?_)
        refine lv_iload_n hx hb dX5_goOn_81 rfl (lv_at hl967 4 rfl) ?_
        refine lv_iconst (v := 1) hx hb dX5_goOn_82 (by decide) ?_
        refine lv_iload hx hb dX5_goOn_83 (lv_at hl967 6 rfl) ?_
        refine lv_ishl hx hb dX5_goOn_85 ?_
        refine lv_topi (fun x968 ex968 => ?_)
        have tx968 := i_shl7 ex968 (by omega)
        refine lv_ior hx hb dX5_goOn_86 ?_
        refine lv_topi (fun x969 ex969 => ?_)
        have tx969 := i_or8 ex969 (by omega) (by omega)
        refine lv_istore (lv' := [(7, .int x969), (6, .int x965), (0, .ref a0), (1, .ref a1), (2, .int x2), (3, .int x3), (4, .int x4), (5, .int x948)]) hx hb dX5_goOn_87 hl967 (by decide) rfl (fun ls970 hl971 => ?_)
        refine lv_iload hx hb dX5_goOn_89 (lv_at hl971 0 rfl) ?_
        refine lv_iload_n hx hb dX5_goOn_91 rfl (lv_at hl971 5 rfl) ?_
        refine lv_icmp_eq (tgt := 152) hx hb dX5_goOn_92 (by decide) (fun c972 => ?_) (fun c972 => ?_)
        · have k973 := i_eq c972
          exact J152 ls970 H944 locsH944 (lv_sub hl971 [2, 3, 4, 5, 6, 7] rfl) hTH944 hSH944 (by have := i_rng x948; omega)
        · have k973 := i_ne c972
          refine lv_iload hx hb dX5_goOn_95 (lv_at hl971 1 rfl) ?_
          refine lv_if_lt (tgt := 152) hx hb dX5_goOn_97 (by decide) (fun c974 => ?_) (fun c974 => ?_)
          · have k975 := i_lt c974
            exact J152 ls970 H944 locsH944 (lv_sub hl971 [2, 3, 4, 5, 6, 7] rfl) hTH944 hSH944 (by have := i_rng x948; omega)
          · have k975 := i_nlt c974
            refine lv_aload_n hx hb dX5_goOn_100 rfl (lv_at hl971 2 rfl) ?_
            refine x_gr C hTH944 (ci := 5) (k := 2) rfl inX5 (by decide) wF_X5_18 ga0 rg_104 rfl dX5_goOn_101 (fun q976 eq976 gq976 => ?_)
            refine lv_iload hx hb dX5_goOn_104 (lv_at hl971 0 rfl) ?_
            refine x_ai C hTH944 gq976 rg_107 ⟨by omega, by show _ < ((256 : Nat) : Int); omega⟩ dX5_goOn_106 (fun x977 ex977 bx977 => ?_)
            refine lv_if_ne (tgt := 152) hx hb dX5_goOn_107 (by decide) (fun c978 => ?_) (fun c978 => ?_)
            · have k979 := i_ne c978
              exact J152 ls970 H944 locsH944 (lv_sub hl971 [2, 3, 4, 5, 6, 7] rfl) hTH944 hSH944 (by have := i_rng x948; omega)
            · have k979 := i_eq c978
              refine lv_aload_n hx hb dX5_goOn_110 rfl (lv_at hl971 2 rfl) ?_
              refine lv_aload_n hx hb dX5_goOn_111 rfl (lv_at hl971 3 rfl) ?_
              refine lv_iload_n hx hb dX5_goOn_112 rfl (lv_at hl971 5 rfl) ?_
              refine lv_iload hx hb dX5_goOn_113 (lv_at hl971 7 rfl) ?_
              refine x_V (As := [.ref a1, .int x3, .int x948]) (rest := []) C (a_X5_ringsTogether l K G H944 (x3) (x948) hTH944 ga0 ga1 (by omega)) yo_X5_ringsTogether wM_X5_58 ⟨⟨by decide, by decide⟩, by decide, by decide⟩ (x_rv C hTH944 (ci := 5) rfl ga0 rg_104) rfl hl971.1 rfl (Nat.le_of_ble_eq_true rfl) dX5_goOn_115 hSH944 (AE_sub (fun _ _ => rfl) (by decide) hSH944.1) (fun vH980 H980 locsH980 pH980 zH980 kH980 hSH980 => ?_)
              obtain ⟨x981, hvH980, bx981, hTH980⟩ := pH980
              subst hvH980
              have m982 := (ex958).trans (fI_kept (x_lt hTH944 kH980 ga1 (by decide))).symm
              have m983 := (eq961).trans (fR_kept (x_lt hTH944 kH980 ga1 (by decide))).symm
              have m984 := (ex962).trans (fI_kept (x_lt hTH944 kH980 gq961 (by decide))).symm
              have m985 := (eq963).trans (fR_kept (x_lt hTH944 kH980 ga1 (by decide))).symm
              have m986 := (ex964).trans (fI_kept (x_lt hTH944 kH980 gq963 (by decide))).symm
              have m987 := (eq976).trans (fR_kept (x_lt hTH944 kH980 ga0 (by decide))).symm
              have m988 := (ex977).trans (fI_kept (x_lt hTH944 kH980 gq976 (by decide))).symm
              refine W.eq (g2 := F0 m 118 ls970 [.int x981]) rfl ?_
              refine lv_if_eq (tgt := 152) hx hb dX5_goOn_118 (by decide) (fun c989 => ?_) (fun c989 => ?_)
              · have k990 := i_eq c989
                exact J152 ls970 H980 locsH980 (lv_sub hl971 [2, 3, 4, 5, 6, 7] rfl) hTH980 hSH980 (by have := i_rng x948; omega)
              · have k990 := i_ne c989
                refine lv_aload_n hx hb dX5_goOn_121 rfl (lv_at hl971 2 rfl) ?_
                refine x_gr C hTH980 (ci := 5) (k := 2) rfl inX5 (by decide) wF_X5_18 ga0 rg_104 rfl dX5_goOn_122 (fun q991 eq991 gq991 => ?_)
                have uq991 : q976 = q991 := (m987).trans eq991.symm
                subst uq991
                refine lv_iload hx hb dX5_goOn_125 (lv_at hl971 0 rfl) ?_
                refine lv_iconst (v := 1) hx hb dX5_goOn_127 (by decide) ?_
                refine x_iast C hTH980 hSH980 gq976 rg_107 (by omega) (by show _ < ((256 : Nat) : Int); omega) (by decide) (AE_in gq976 (by decide)) dX5_goOn_128 (fun H992 locsH992 hTH992 hSH992 wH992 => ?_)
                have m993 := m982.trans (Wr.neI wH992 (Or.inl (G_ne ga1 gq976 (by decide)))).symm
                have m994 := m983.trans (Wr.neR wH992 (Or.inl (G_ne ga1 gq976 (by decide)))).symm
                have m995 := m984.trans (Wr.neI wH992 (Or.inl (G_ne gq961 gq976 (by decide)))).symm
                have m996 := m985.trans (Wr.neR wH992 (Or.inl (G_ne ga1 gq976 (by decide)))).symm
                have m997 := m986.trans (Wr.neI wH992 (Or.inl (G_ne gq963 gq976 (by decide)))).symm
                have m998 := m987.trans (Wr.neR wH992 (Or.inl (G_ne ga0 gq976 (by decide)))).symm
                have m1000 := Wr.I wH992
                refine lv_aload_n hx hb dX5_goOn_129 rfl (lv_at hl971 2 rfl) ?_
                refine x_gr C hTH992 (ci := 5) (k := 1) rfl inX5 (by decide) wF_X5_15 ga0 rg_104 rfl dX5_goOn_130 (fun q1001 eq1001 gq1001 => ?_)
                refine lv_iload_n hx hb dX5_goOn_133 rfl (lv_at hl971 4 rfl) ?_
                refine lv_iload hx hb dX5_goOn_134 (lv_at hl971 7 rfl) ?_
                refine x_iast C hTH992 hSH992 gq1001 rg_106 (by omega) (by show _ < ((8 : Nat) : Int); omega) ⟨by have := i_rng x948; omega, by have := i_rng x948; omega⟩ (AE_in gq1001 (by decide)) dX5_goOn_136 (fun H1002 locsH1002 hTH1002 hSH1002 wH1002 => ?_)
                have m1003 := m993.trans (Wr.neI wH1002 (Or.inl (G_ne ga1 gq1001 (by decide)))).symm
                have m1004 := m994.trans (Wr.neR wH1002 (Or.inl (G_ne ga1 gq1001 (by decide)))).symm
                have m1005 := m995.trans (Wr.neI wH1002 (Or.inl (G_ne gq961 gq1001 (by decide)))).symm
                have m1006 := m996.trans (Wr.neR wH1002 (Or.inl (G_ne ga1 gq1001 (by decide)))).symm
                have m1007 := m997.trans (Wr.neI wH1002 (Or.inl (G_ne gq963 gq1001 (by decide)))).symm
                have m1008 := m998.trans (Wr.neR wH1002 (Or.inl (G_ne ga0 gq1001 (by decide)))).symm
                have m1009 := (Wr.neI wH1002 (Or.inl (G_ne gq976 gq1001 (by decide)))).trans m1000
                have m1010 := eq1001.trans (Wr.neR wH1002 (Or.inl (G_ne ga0 gq1001 (by decide)))).symm
                have m1011 := Wr.I wH1002
                have m1011 := m1011.symm
                refine lv_aload_n hx hb dX5_goOn_137 rfl (lv_at hl971 2 rfl) ?_
                refine lv_aload_n hx hb dX5_goOn_138 rfl (lv_at hl971 3 rfl) ?_
                refine lv_iload_n hx hb dX5_goOn_139 rfl (lv_at hl971 4 rfl) ?_
                refine lv_iconst (v := 1) hx hb dX5_goOn_140 (by decide) ?_
                refine lv_iadd hx hb dX5_goOn_141 ?_
                refine lv_topi (fun x1012 ex1012 => ?_)
                have tx1012 := i_add ex1012 (by omega)
                refine lv_iload hx hb dX5_goOn_142 (lv_at hl971 0 rfl) ?_
                refine lv_iload hx hb dX5_goOn_144 (lv_at hl971 6 rfl) ?_
                refine lv_iload hx hb dX5_goOn_146 (lv_at hl971 1 rfl) ?_
                refine lv_iadd hx hb dX5_goOn_148 ?_
                refine lv_topi (fun x1013 ex1013 => ?_)
                refine x_V (As := [.ref a1, .int x1012, .int x969, .int x1013]) (rest := []) C (a_X5_goOn_6 l K G H1002 (x1012) (x969) (x1013) hTH1002 ga0 ga1 (by omega) (by omega)) yo_X5_goOn wM_X5_34 ⟨⟨by decide, by decide⟩, by decide, by decide⟩ (x_rv C hTH1002 (ci := 5) rfl ga0 rg_104) rfl hl971.1 rfl (Nat.le_of_ble_eq_true rfl) dX5_goOn_149 hSH1002 (AE_sub (fun _ _ => rfl) (by decide) hSH1002.1) (fun vH1014 H1014 locsH1014 pH1014 zH1014 kH1014 hSH1014 => ?_)
                obtain ⟨hvH1014, hTH1014⟩ := pH1014
                subst hvH1014
                have m1015 := (m1003).trans (fI_kept (x_lt hTH1002 kH1014 ga1 (by decide))).symm
                have m1016 := (m1004).trans (fR_kept (x_lt hTH1002 kH1014 ga1 (by decide))).symm
                have m1017 := (m1005).trans (fI_kept (x_lt hTH1002 kH1014 gq961 (by decide))).symm
                have m1018 := (m1006).trans (fR_kept (x_lt hTH1002 kH1014 ga1 (by decide))).symm
                have m1019 := (m1007).trans (fI_kept (x_lt hTH1002 kH1014 gq963 (by decide))).symm
                refine W.eq (g2 := F0 m 152 ls970 []) rfl ?_
                exact J152 ls970 H1014 locsH1014 (lv_sub hl971 [2, 3, 4, 5, 6, 7] rfl) hTH1014 hSH1014 (by have := i_rng x948; omega)
  refine lv_iload_n hx hb dX5_goOn_0 rfl (lv_at hl 2 rfl) ?_
  refine lv_aload_n hx hb dX5_goOn_1 rfl (lv_at hl 1 rfl) ?_
  refine x_gi C hT (ci := 8) (k := 13) rfl inX8 (by decide) wF_X5_38 ga1 rg_0 rfl dX5_goOn_2 (fun x1020 ex1020 bx1020 => ?_)
  refine lv_icmp_ge (tgt := 14) hx hb dX5_goOn_5 (by decide) (fun c1021 => ?_) (fun c1021 => ?_)
  · have k1022 := i_le c1021
    exact J14 ls s.heap [] (lv_sub hl [0, 4] rfl) hT hS 
  · have k1022 := i_nle c1021
    refine lv_iload_n hx hb dX5_goOn_8 rfl (lv_at hl 2 rfl) ?_
    refine lv_bipush (v := 8) hx hb dX5_goOn_9 (by decide) ?_
    refine lv_icmp_lt (tgt := 53) hx hb dX5_goOn_11 (by decide) (fun c1023 => ?_) (fun c1023 => ?_)
    · have k1024 := i_lt c1023
      refine lv_iconst (v := 0) hx hb dX5_goOn_53 (by decide) ?_
      refine lv_istore (lv' := [(5, .int 0), (0, .ref a0), (1, .ref a1), (2, .int x2), (3, .int x3), (4, .int x4)]) hx hb dX5_goOn_54 hl (by decide) rfl (fun ls1025 hl1026 => ?_)
      exact J56 ((8 - (0 : Int32).toInt).toNat + 1) ls1025 s.heap [] (0) (lv_sub hl1026 [1, 2, 3, 4, 5, 0] rfl) hT hS (by have := i_rng x2; omega) (by decide) (by omega)
    · have k1024 := i_nlt c1023
      exfalso
      omega

set_option maxHeartbeats 4000000 in
set_option maxRecDepth 100000 in
theorem a_X5_goOn_4 (l : Launch) (K : KE) (G : Nat → Option Nat) (H : Heap) {a0 : Nat} {a1 : Nat} (x2 : Int32) (x3 : Int32) (x4 : Int32) (hT : TY K G H) (ga0 : G a0 = some 104) (ga1 : G a1 = some 0) (hx2 : 4 ≤ x2.toInt ∧ x2.toInt ≤ 8) (hx3 : 0 ≤ x3.toInt ∧ x3.toInt ≤ 255) : MX l K yX5_goOn cX5_goOn 8 none 5 148 0 0 [.ref a0, .ref a1, .int x2, .int x3, .int x4] H (AE G [104, 105, 106, 107] H.size) (fun v H1 => v = none ∧ TY K G H1) := by
  refine MX.of (by decide +kernel) (Nat.le_of_ble_eq_true rfl) ?_
  intro p e s m below meth c ls Q C hH hl hQ
  subst hH
  have C : CX p K s m _ meth c RX5 cX5_goOn 8 none "goOn" := C
  obtain ⟨hx, hb, hml, hown, hts, hKT, hr, hlocks, hnm⟩ := id C
  have hl : lv_has ls 8 [(0, .ref a0), (1, .ref a1), (2, .int x2), (3, .int x3), (4, .int x4)] := hl
  have hS : va_S (AE G [104, 105, 106, 107] s.heap.size) s.heap s.heap [] := va_S.rf
  have n_m1 : ((-1) : Int32).toInt = -1 := rfl
  have n_0 : (0 : Int32).toInt = 0 := rfl
  have n_1 : (1 : Int32).toInt = 1 := rfl
  have n_8 : (8 : Int32).toInt = 8 := rfl
  have J14 : ∀ (ls852 : Array Slot) (H851 : Heap) (locsH851 : List Loc) , lv_has ls852 8 [(0, .ref a0), (4, .int x4)] → TY K G H851 → va_S (AE G [104, 105, 106, 107] s.heap.size) s.heap H851 locsH851 → W p l e ({ frames := 5, cells := 0, slots := 0, locals := 148 } : Room) s m (([.ref a0, .ref a1, .int x2, .int x3, .int x4] : List Value).toArray) below meth c H851 locsH851 0 0 Q (F0 m 14 ls852 []) := by
    intro ls852 H851 locsH851  hl853 hTH851 hSH851 
    have J52 : ∀ (ls856 : Array Slot) (H855 : Heap) (locsH855 : List Loc) , lv_has ls856 8 [] → TY K G H855 → va_S (AE G [104, 105, 106, 107] s.heap.size) s.heap H855 locsH855 → W p l e ({ frames := 5, cells := 0, slots := 0, locals := 148 } : Room) s m (([.ref a0, .ref a1, .int x2, .int x3, .int x4] : List Value).toArray) below meth c H855 locsH855 0 0 Q (F0 m 52 ls856 []) := by
      intro ls856 H855 locsH855  hl857 hTH855 hSH855 
      exact x_vret C hQ dX5_goOn_52 hSH855 (by decide) (by decide) (⟨rfl, hTH855⟩)
    have J31 : ∀ (ls860 : Array Slot) (H859 : Heap) (locsH859 : List Loc) , lv_has ls860 8 [(0, .ref a0), (4, .int x4)] → TY K G H859 → va_S (AE G [104, 105, 106, 107] s.heap.size) s.heap H859 locsH859 → W p l e ({ frames := 5, cells := 0, slots := 0, locals := 148 } : Room) s m (([.ref a0, .ref a1, .int x2, .int x3, .int x4] : List Value).toArray) below meth c H859 locsH859 0 0 Q (F0 m 31 ls860 []) := by
      intro ls860 H859 locsH859  hl861 hTH859 hSH859 
      refine lv_aload_n hx hb dX5_goOn_31 rfl (lv_at hl861 0 rfl) ?_
      refine lv_iload hx hb dX5_goOn_32 (lv_at hl861 1 rfl) ?_
      refine x_put C hTH859 hSH859 (ci := 5) (k := 3) (v := .int x4) (ty0 := tyX5) rfl inX5 tyX5_ok nmX5 (by decide) rfl wF_X5_27 ga0 rg_104 rfl rfl (okI (by have := i_rng x4; omega) (by have := i_rng x4; omega)) rfl rfl (AE_in ga0 (by decide)) dX5_goOn_34 (fun H863 locsH863 hTH863 hSH863 wH863 => ?_)
      have m864 := Wr.I wH863
      have m864 := m864.symm
      refine lv_aload_n hx hb dX5_goOn_37 rfl (lv_at hl861 0 rfl) ?_
      refine x_gr C hTH863 (ci := 5) (k := 1) rfl inX5 (by decide) wF_X5_15 ga0 rg_104 rfl dX5_goOn_38 (fun q865 eq865 gq865 => ?_)
      refine lv_iconst (v := 0) hx hb dX5_goOn_41 (by decide) ?_
      refine lv_aload_n hx hb dX5_goOn_42 rfl (lv_at hl861 0 rfl) ?_
      refine x_gr C hTH863 (ci := 5) (k := 0) rfl inX5 (by decide) wF_X5_9 ga0 rg_104 rfl dX5_goOn_43 (fun q866 eq866 gq866 => ?_)
      refine lv_iconst (v := 0) hx hb dX5_goOn_46 (by decide) ?_
      refine lv_bipush (v := 8) hx hb dX5_goOn_47 (by decide) ?_
      refine x_copy C hTH863 hSH863 wM_X5_43 wNT_arraycopy wST_arraycopy wIN_J10 gq865 gq866 rg_106 rg_105 (by decide) (by omega) (by omega) (by omega) (by show _ ≤ ((8 : Nat) : Int); omega) (by show _ ≤ ((8 : Nat) : Int); omega) (AE_in gq866 (by decide)) hl861.1 (by decide) dX5_goOn_49 (fun H867 locsH867 hTH867 hSH867 zH867 oH867 vH867 wH867 => ?_)
      have m868 := (m864).trans (fI_kept (oH867 _ (G_ne ga0 gq866 (by decide)))).symm
      have m869 := (eq865).trans (fR_kept (oH867 _ (G_ne ga0 gq866 (by decide)))).symm
      have m870 := (eq866).trans (fR_kept (oH867 _ (G_ne ga0 gq866 (by decide)))).symm
      exact J52 ls860 H867 locsH867 (lv_sub hl861 [] rfl) hTH867 hSH867 
    refine lv_aload_n hx hb dX5_goOn_14 rfl (lv_at hl853 0 rfl) ?_
    refine x_gi C hTH851 (ci := 5) (k := 3) rfl inX5 (by decide) wF_X5_27 ga0 rg_104 rfl dX5_goOn_15 (fun x871 ex871 bx871 => ?_)
    refine lv_iconst (v := (-1)) hx hb dX5_goOn_18 (by decide) ?_
    refine lv_icmp_eq (tgt := 31) hx hb dX5_goOn_19 (by decide) (fun c872 => ?_) (fun c872 => ?_)
    · have k873 := i_eq c872
      exact J31 ls852 H851 locsH851 (lv_sub hl853 [0, 1] rfl) hTH851 hSH851 
    · have k873 := i_ne c872
      refine lv_iload hx hb dX5_goOn_22 (lv_at hl853 1 rfl) ?_
      refine lv_aload_n hx hb dX5_goOn_24 rfl (lv_at hl853 0 rfl) ?_
      refine x_gi C hTH851 (ci := 5) (k := 3) rfl inX5 (by decide) wF_X5_27 ga0 rg_104 rfl dX5_goOn_25 (fun x874 ex874 bx874 => ?_)
      have ux874 : x871 = x874 := (ex871).trans ex874.symm
      subst ux874
      refine lv_icmp_ge (tgt := 52) hx hb dX5_goOn_28 (by decide) (fun c875 => ?_) (fun c875 => ?_)
      · have k876 := i_le c875
        exact J52 ls852 H851 locsH851 (lv_sub hl853 [] rfl) hTH851 hSH851 
      · have k876 := i_nle c875
        exact J31 ls852 H851 locsH851 (lv_sub hl853 [0, 1] rfl) hTH851 hSH851 
  have J56 : ∀ (nf : Nat) (ls878 : Array Slot) (H877 : Heap) (locsH877 : List Loc) (x881 : Int32), lv_has ls878 8 [(0, .ref a0), (1, .ref a1), (2, .int x2), (3, .int x3), (4, .int x4), (5, .int x881)] → TY K G H877 → va_S (AE G [104, 105, 106, 107] s.heap.size) s.heap H877 locsH877 → (4 ≤ x2.toInt ∧ x2.toInt ≤ 7) → (0 ≤ x881.toInt ∧ x881.toInt ≤ 8) → (8 - x881.toInt < (nf : Int)) → W p l e ({ frames := 5, cells := 0, slots := 0, locals := 148 } : Room) s m (([.ref a0, .ref a1, .int x2, .int x3, .int x4] : List Value).toArray) below meth c H877 locsH877 0 0 Q (F0 m 56 ls878 []) := by
    intro nf
    induction nf with
    | zero =>
      intro ls878 H877 locsH877 x881 hl879 hTH877 hSH877 b880 bx881 hm56
      exfalso
      omega
    | succ nf ih56 =>
      intro ls878 H877 locsH877 x881 hl879 hTH877 hSH877 b880 bx881 hm56
      have J152 : ∀ (ls884 : Array Slot) (H883 : Heap) (locsH883 : List Loc) , lv_has ls884 8 [(0, .ref a0), (1, .ref a1), (2, .int x2), (3, .int x3), (4, .int x4), (5, .int x881)] → TY K G H883 → va_S (AE G [104, 105, 106, 107] s.heap.size) s.heap H883 locsH883 → (0 ≤ x881.toInt ∧ x881.toInt ≤ 7) → W p l e ({ frames := 5, cells := 0, slots := 0, locals := 148 } : Room) s m (([.ref a0, .ref a1, .int x2, .int x3, .int x4] : List Value).toArray) below meth c H883 locsH883 0 0 Q (F0 m 152 ls884 []) := by
        intro ls884 H883 locsH883  hl885 hTH883 hSH883 b886
        obtain ⟨x888, ex888⟩ : ∃ y : Int32, y = x881 + 1 := ⟨_, rfl⟩
        have tx888 := i_add ex888 (by omega)
        refine lv_iinc (v := x888) (lv' := [(5, .int x888), (0, .ref a0), (1, .ref a1), (2, .int x2), (3, .int x3), (4, .int x4)]) hx hb dX5_goOn_152 hl885 (k := 5) rfl (by rw [ex888]; rfl) (by decide) rfl (fun ls889 hl890 => ?_)
        refine lv_goto (tgt := 56) hx hb dX5_goOn_155 (by decide) ?_
        exact ih56 ls889 H883 locsH883 (x888) (lv_sub hl890 [1, 2, 3, 4, 5, 0] rfl) hTH883 hSH883 (by have := i_rng x2; omega) (by have := i_rng x888; omega) (by omega)
      refine lv_iload hx hb dX5_goOn_56 (lv_at hl879 5 rfl) ?_
      refine lv_aload_n hx hb dX5_goOn_58 rfl (lv_at hl879 1 rfl) ?_
      refine x_gi C hTH877 (ci := 8) (k := 16) rfl inX8 (by decide) wF_X5_49 ga1 rg_0 rfl dX5_goOn_59 (fun x891 ex891 bx891 => ?_)
      refine lv_icmp_ge (tgt := 158) hx hb dX5_goOn_62 (by decide) (fun c892 => ?_) (fun c892 => ?_)
      · have k893 := i_le c892
        exact x_vret C hQ dX5_goOn_158 hSH877 (by decide) (by decide) (⟨rfl, hTH877⟩)
      · have k893 := i_nle c892
        refine lv_aload_n hx hb dX5_goOn_65 rfl (lv_at hl879 1 rfl) ?_
        refine x_gr C hTH877 (ci := 8) (k := 14) rfl inX8 (by decide) wF_X5_52 ga1 rg_0 rfl dX5_goOn_66 (fun q894 eq894 gq894 => ?_)
        refine lv_iload hx hb dX5_goOn_69 (lv_at hl879 5 rfl) ?_
        refine x_ai C hTH877 gq894 rg_32 ⟨by omega, by show _ < ((8 : Nat) : Int); omega⟩ dX5_goOn_71 (fun x895 ex895 bx895 => ?_)
        refine lv_aload_n hx hb dX5_goOn_72 rfl (lv_at hl879 1 rfl) ?_
        refine x_gr C hTH877 (ci := 8) (k := 12) rfl inX8 (by decide) wF_X5_55 ga1 rg_0 rfl dX5_goOn_73 (fun q896 eq896 gq896 => ?_)
        refine lv_iload_n hx hb dX5_goOn_76 rfl (lv_at hl879 2 rfl) ?_
        refine x_ai C hTH877 gq896 rg_31 ⟨by omega, by show _ < ((8 : Nat) : Int); omega⟩ dX5_goOn_77 (fun x897 ex897 bx897 => ?_)
        refine lv_isub hx hb dX5_goOn_78 ?_
        refine lv_topi (fun x898 ex898 => ?_)
        refine lv_istore (lv' := [(6, .int x898), (0, .ref a0), (1, .ref a1), (2, .int x2), (3, .int x3), (4, .int x4), (5, .int x881)]) hx hb dX5_goOn_79 hl879 (by decide) rfl (fun ls899 hl900 => ?_)
        refine lv_iload_n hx hb dX5_goOn_81 rfl (lv_at hl900 4 rfl) ?_
        refine lv_iconst (v := 1) hx hb dX5_goOn_82 (by decide) ?_
        refine lv_iload hx hb dX5_goOn_83 (lv_at hl900 6 rfl) ?_
        refine lv_ishl hx hb dX5_goOn_85 ?_
        refine lv_topi (fun x901 ex901 => ?_)
        have tx901 := i_shl7 ex901 (by omega)
        refine lv_ior hx hb dX5_goOn_86 ?_
        refine lv_topi (fun x902 ex902 => ?_)
        have tx902 := i_or8 ex902 (by omega) (by omega)
        refine lv_istore (lv' := [(7, .int x902), (6, .int x898), (0, .ref a0), (1, .ref a1), (2, .int x2), (3, .int x3), (4, .int x4), (5, .int x881)]) hx hb dX5_goOn_87 hl900 (by decide) rfl (fun ls903 hl904 => ?_)
        refine lv_iload hx hb dX5_goOn_89 (lv_at hl904 0 rfl) ?_
        refine lv_iload_n hx hb dX5_goOn_91 rfl (lv_at hl904 5 rfl) ?_
        refine lv_icmp_eq (tgt := 152) hx hb dX5_goOn_92 (by decide) (fun c905 => ?_) (fun c905 => ?_)
        · have k906 := i_eq c905
          exact J152 ls903 H877 locsH877 (lv_sub hl904 [2, 3, 4, 5, 6, 7] rfl) hTH877 hSH877 (by have := i_rng x881; omega)
        · have k906 := i_ne c905
          refine lv_iload hx hb dX5_goOn_95 (lv_at hl904 1 rfl) ?_
          refine lv_if_lt (tgt := 152) hx hb dX5_goOn_97 (by decide) (fun c907 => ?_) (fun c907 => ?_)
          · have k908 := i_lt c907
            exact J152 ls903 H877 locsH877 (lv_sub hl904 [2, 3, 4, 5, 6, 7] rfl) hTH877 hSH877 (by have := i_rng x881; omega)
          · have k908 := i_nlt c907
            refine lv_aload_n hx hb dX5_goOn_100 rfl (lv_at hl904 2 rfl) ?_
            refine x_gr C hTH877 (ci := 5) (k := 2) rfl inX5 (by decide) wF_X5_18 ga0 rg_104 rfl dX5_goOn_101 (fun q909 eq909 gq909 => ?_)
            refine lv_iload hx hb dX5_goOn_104 (lv_at hl904 0 rfl) ?_
            refine x_ai C hTH877 gq909 rg_107 ⟨by omega, by show _ < ((256 : Nat) : Int); omega⟩ dX5_goOn_106 (fun x910 ex910 bx910 => ?_)
            refine lv_if_ne (tgt := 152) hx hb dX5_goOn_107 (by decide) (fun c911 => ?_) (fun c911 => ?_)
            · have k912 := i_ne c911
              exact J152 ls903 H877 locsH877 (lv_sub hl904 [2, 3, 4, 5, 6, 7] rfl) hTH877 hSH877 (by have := i_rng x881; omega)
            · have k912 := i_eq c911
              refine lv_aload_n hx hb dX5_goOn_110 rfl (lv_at hl904 2 rfl) ?_
              refine lv_aload_n hx hb dX5_goOn_111 rfl (lv_at hl904 3 rfl) ?_
              refine lv_iload_n hx hb dX5_goOn_112 rfl (lv_at hl904 5 rfl) ?_
              refine lv_iload hx hb dX5_goOn_113 (lv_at hl904 7 rfl) ?_
              refine x_V (As := [.ref a1, .int x3, .int x881]) (rest := []) C (a_X5_ringsTogether l K G H877 (x3) (x881) hTH877 ga0 ga1 (by omega)) yo_X5_ringsTogether wM_X5_58 ⟨⟨by decide, by decide⟩, by decide, by decide⟩ (x_rv C hTH877 (ci := 5) rfl ga0 rg_104) rfl hl904.1 rfl (Nat.le_of_ble_eq_true rfl) dX5_goOn_115 hSH877 (AE_sub (fun _ _ => rfl) (by decide) hSH877.1) (fun vH913 H913 locsH913 pH913 zH913 kH913 hSH913 => ?_)
              obtain ⟨x914, hvH913, bx914, hTH913⟩ := pH913
              subst hvH913
              have m915 := (ex891).trans (fI_kept (x_lt hTH877 kH913 ga1 (by decide))).symm
              have m916 := (eq894).trans (fR_kept (x_lt hTH877 kH913 ga1 (by decide))).symm
              have m917 := (ex895).trans (fI_kept (x_lt hTH877 kH913 gq894 (by decide))).symm
              have m918 := (eq896).trans (fR_kept (x_lt hTH877 kH913 ga1 (by decide))).symm
              have m919 := (ex897).trans (fI_kept (x_lt hTH877 kH913 gq896 (by decide))).symm
              have m920 := (eq909).trans (fR_kept (x_lt hTH877 kH913 ga0 (by decide))).symm
              have m921 := (ex910).trans (fI_kept (x_lt hTH877 kH913 gq909 (by decide))).symm
              refine W.eq (g2 := F0 m 118 ls903 [.int x914]) rfl ?_
              refine lv_if_eq (tgt := 152) hx hb dX5_goOn_118 (by decide) (fun c922 => ?_) (fun c922 => ?_)
              · have k923 := i_eq c922
                exact J152 ls903 H913 locsH913 (lv_sub hl904 [2, 3, 4, 5, 6, 7] rfl) hTH913 hSH913 (by have := i_rng x881; omega)
              · have k923 := i_ne c922
                refine lv_aload_n hx hb dX5_goOn_121 rfl (lv_at hl904 2 rfl) ?_
                refine x_gr C hTH913 (ci := 5) (k := 2) rfl inX5 (by decide) wF_X5_18 ga0 rg_104 rfl dX5_goOn_122 (fun q924 eq924 gq924 => ?_)
                have uq924 : q909 = q924 := (m920).trans eq924.symm
                subst uq924
                refine lv_iload hx hb dX5_goOn_125 (lv_at hl904 0 rfl) ?_
                refine lv_iconst (v := 1) hx hb dX5_goOn_127 (by decide) ?_
                refine x_iast C hTH913 hSH913 gq909 rg_107 (by omega) (by show _ < ((256 : Nat) : Int); omega) (by decide) (AE_in gq909 (by decide)) dX5_goOn_128 (fun H925 locsH925 hTH925 hSH925 wH925 => ?_)
                have m926 := m915.trans (Wr.neI wH925 (Or.inl (G_ne ga1 gq909 (by decide)))).symm
                have m927 := m916.trans (Wr.neR wH925 (Or.inl (G_ne ga1 gq909 (by decide)))).symm
                have m928 := m917.trans (Wr.neI wH925 (Or.inl (G_ne gq894 gq909 (by decide)))).symm
                have m929 := m918.trans (Wr.neR wH925 (Or.inl (G_ne ga1 gq909 (by decide)))).symm
                have m930 := m919.trans (Wr.neI wH925 (Or.inl (G_ne gq896 gq909 (by decide)))).symm
                have m931 := m920.trans (Wr.neR wH925 (Or.inl (G_ne ga0 gq909 (by decide)))).symm
                have m933 := Wr.I wH925
                refine lv_aload_n hx hb dX5_goOn_129 rfl (lv_at hl904 2 rfl) ?_
                refine x_gr C hTH925 (ci := 5) (k := 1) rfl inX5 (by decide) wF_X5_15 ga0 rg_104 rfl dX5_goOn_130 (fun q934 eq934 gq934 => ?_)
                refine lv_iload_n hx hb dX5_goOn_133 rfl (lv_at hl904 4 rfl) ?_
                refine lv_iload hx hb dX5_goOn_134 (lv_at hl904 7 rfl) ?_
                refine x_iast C hTH925 hSH925 gq934 rg_106 (by omega) (by show _ < ((8 : Nat) : Int); omega) ⟨by have := i_rng x881; omega, by have := i_rng x881; omega⟩ (AE_in gq934 (by decide)) dX5_goOn_136 (fun H935 locsH935 hTH935 hSH935 wH935 => ?_)
                have m936 := m926.trans (Wr.neI wH935 (Or.inl (G_ne ga1 gq934 (by decide)))).symm
                have m937 := m927.trans (Wr.neR wH935 (Or.inl (G_ne ga1 gq934 (by decide)))).symm
                have m938 := m928.trans (Wr.neI wH935 (Or.inl (G_ne gq894 gq934 (by decide)))).symm
                have m939 := m929.trans (Wr.neR wH935 (Or.inl (G_ne ga1 gq934 (by decide)))).symm
                have m940 := m930.trans (Wr.neI wH935 (Or.inl (G_ne gq896 gq934 (by decide)))).symm
                have m941 := m931.trans (Wr.neR wH935 (Or.inl (G_ne ga0 gq934 (by decide)))).symm
                have m942 := (Wr.neI wH935 (Or.inl (G_ne gq909 gq934 (by decide)))).trans m933
                have m943 := eq934.trans (Wr.neR wH935 (Or.inl (G_ne ga0 gq934 (by decide)))).symm
                have m944 := Wr.I wH935
                have m944 := m944.symm
                refine lv_aload_n hx hb dX5_goOn_137 rfl (lv_at hl904 2 rfl) ?_
                refine lv_aload_n hx hb dX5_goOn_138 rfl (lv_at hl904 3 rfl) ?_
                refine lv_iload_n hx hb dX5_goOn_139 rfl (lv_at hl904 4 rfl) ?_
                refine lv_iconst (v := 1) hx hb dX5_goOn_140 (by decide) ?_
                refine lv_iadd hx hb dX5_goOn_141 ?_
                refine lv_topi (fun x945 ex945 => ?_)
                have tx945 := i_add ex945 (by omega)
                refine lv_iload hx hb dX5_goOn_142 (lv_at hl904 0 rfl) ?_
                refine lv_iload hx hb dX5_goOn_144 (lv_at hl904 6 rfl) ?_
                refine lv_iload hx hb dX5_goOn_146 (lv_at hl904 1 rfl) ?_
                refine lv_iadd hx hb dX5_goOn_148 ?_
                refine lv_topi (fun x946 ex946 => ?_)
                refine x_V (As := [.ref a1, .int x945, .int x902, .int x946]) (rest := []) C (a_X5_goOn_5 l K G H935 (x945) (x902) (x946) hTH935 ga0 ga1 (by omega) (by omega)) yo_X5_goOn wM_X5_34 ⟨⟨by decide, by decide⟩, by decide, by decide⟩ (x_rv C hTH935 (ci := 5) rfl ga0 rg_104) rfl hl904.1 rfl (Nat.le_of_ble_eq_true rfl) dX5_goOn_149 hSH935 (AE_sub (fun _ _ => rfl) (by decide) hSH935.1) (fun vH947 H947 locsH947 pH947 zH947 kH947 hSH947 => ?_)
                obtain ⟨hvH947, hTH947⟩ := pH947
                subst hvH947
                have m948 := (m936).trans (fI_kept (x_lt hTH935 kH947 ga1 (by decide))).symm
                have m949 := (m937).trans (fR_kept (x_lt hTH935 kH947 ga1 (by decide))).symm
                have m950 := (m938).trans (fI_kept (x_lt hTH935 kH947 gq894 (by decide))).symm
                have m951 := (m939).trans (fR_kept (x_lt hTH935 kH947 ga1 (by decide))).symm
                have m952 := (m940).trans (fI_kept (x_lt hTH935 kH947 gq896 (by decide))).symm
                refine W.eq (g2 := F0 m 152 ls903 []) rfl ?_
                exact J152 ls903 H947 locsH947 (lv_sub hl904 [2, 3, 4, 5, 6, 7] rfl) hTH947 hSH947 (by have := i_rng x881; omega)
  refine lv_iload_n hx hb dX5_goOn_0 rfl (lv_at hl 2 rfl) ?_
  refine lv_aload_n hx hb dX5_goOn_1 rfl (lv_at hl 1 rfl) ?_
  refine x_gi C hT (ci := 8) (k := 13) rfl inX8 (by decide) wF_X5_38 ga1 rg_0 rfl dX5_goOn_2 (fun x953 ex953 bx953 => ?_)
  refine lv_icmp_ge (tgt := 14) hx hb dX5_goOn_5 (by decide) (fun c954 => ?_) (fun c954 => ?_)
  · have k955 := i_le c954
    exact J14 ls s.heap [] (lv_sub hl [0, 4] rfl) hT hS 
  · have k955 := i_nle c954
    refine lv_iload_n hx hb dX5_goOn_8 rfl (lv_at hl 2 rfl) ?_
    refine lv_bipush (v := 8) hx hb dX5_goOn_9 (by decide) ?_
    refine lv_icmp_lt (tgt := 53) hx hb dX5_goOn_11 (by decide) (fun c956 => ?_) (fun c956 => ?_)
    · have k957 := i_lt c956
      refine lv_iconst (v := 0) hx hb dX5_goOn_53 (by decide) ?_
      refine lv_istore (lv' := [(5, .int 0), (0, .ref a0), (1, .ref a1), (2, .int x2), (3, .int x3), (4, .int x4)]) hx hb dX5_goOn_54 hl (by decide) rfl (fun ls958 hl959 => ?_)
      exact J56 ((8 - (0 : Int32).toInt).toNat + 1) ls958 s.heap [] (0) (lv_sub hl959 [1, 2, 3, 4, 5, 0] rfl) hT hS (by have := i_rng x2; omega) (by decide) (by omega)
    · have k957 := i_nlt c956
      exfalso
      omega

set_option maxHeartbeats 4000000 in
set_option maxRecDepth 100000 in
theorem a_X5_goOn_3 (l : Launch) (K : KE) (G : Nat → Option Nat) (H : Heap) {a0 : Nat} {a1 : Nat} (x2 : Int32) (x3 : Int32) (x4 : Int32) (hT : TY K G H) (ga0 : G a0 = some 104) (ga1 : G a1 = some 0) (hx2 : 3 ≤ x2.toInt ∧ x2.toInt ≤ 8) (hx3 : 0 ≤ x3.toInt ∧ x3.toInt ≤ 255) : MX l K yX5_goOn cX5_goOn 8 none 6 175 0 0 [.ref a0, .ref a1, .int x2, .int x3, .int x4] H (AE G [104, 105, 106, 107] H.size) (fun v H1 => v = none ∧ TY K G H1) := by
  refine MX.of (by decide +kernel) (Nat.le_of_ble_eq_true rfl) ?_
  intro p e s m below meth c ls Q C hH hl hQ
  subst hH
  have C : CX p K s m _ meth c RX5 cX5_goOn 8 none "goOn" := C
  obtain ⟨hx, hb, hml, hown, hts, hKT, hr, hlocks, hnm⟩ := id C
  have hl : lv_has ls 8 [(0, .ref a0), (1, .ref a1), (2, .int x2), (3, .int x3), (4, .int x4)] := hl
  have hS : va_S (AE G [104, 105, 106, 107] s.heap.size) s.heap s.heap [] := va_S.rf
  have n_m1 : ((-1) : Int32).toInt = -1 := rfl
  have n_0 : (0 : Int32).toInt = 0 := rfl
  have n_1 : (1 : Int32).toInt = 1 := rfl
  have n_8 : (8 : Int32).toInt = 8 := rfl
  have J14 : ∀ (ls852 : Array Slot) (H851 : Heap) (locsH851 : List Loc) , lv_has ls852 8 [(0, .ref a0), (4, .int x4)] → TY K G H851 → va_S (AE G [104, 105, 106, 107] s.heap.size) s.heap H851 locsH851 → W p l e ({ frames := 6, cells := 0, slots := 0, locals := 175 } : Room) s m (([.ref a0, .ref a1, .int x2, .int x3, .int x4] : List Value).toArray) below meth c H851 locsH851 0 0 Q (F0 m 14 ls852 []) := by
    intro ls852 H851 locsH851  hl853 hTH851 hSH851 
    have J52 : ∀ (ls856 : Array Slot) (H855 : Heap) (locsH855 : List Loc) , lv_has ls856 8 [] → TY K G H855 → va_S (AE G [104, 105, 106, 107] s.heap.size) s.heap H855 locsH855 → W p l e ({ frames := 6, cells := 0, slots := 0, locals := 175 } : Room) s m (([.ref a0, .ref a1, .int x2, .int x3, .int x4] : List Value).toArray) below meth c H855 locsH855 0 0 Q (F0 m 52 ls856 []) := by
      intro ls856 H855 locsH855  hl857 hTH855 hSH855 
      exact x_vret C hQ dX5_goOn_52 hSH855 (by decide) (by decide) (⟨rfl, hTH855⟩)
    have J31 : ∀ (ls860 : Array Slot) (H859 : Heap) (locsH859 : List Loc) , lv_has ls860 8 [(0, .ref a0), (4, .int x4)] → TY K G H859 → va_S (AE G [104, 105, 106, 107] s.heap.size) s.heap H859 locsH859 → W p l e ({ frames := 6, cells := 0, slots := 0, locals := 175 } : Room) s m (([.ref a0, .ref a1, .int x2, .int x3, .int x4] : List Value).toArray) below meth c H859 locsH859 0 0 Q (F0 m 31 ls860 []) := by
      intro ls860 H859 locsH859  hl861 hTH859 hSH859 
      refine lv_aload_n hx hb dX5_goOn_31 rfl (lv_at hl861 0 rfl) ?_
      refine lv_iload hx hb dX5_goOn_32 (lv_at hl861 1 rfl) ?_
      refine x_put C hTH859 hSH859 (ci := 5) (k := 3) (v := .int x4) (ty0 := tyX5) rfl inX5 tyX5_ok nmX5 (by decide) rfl wF_X5_27 ga0 rg_104 rfl rfl (okI (by have := i_rng x4; omega) (by have := i_rng x4; omega)) rfl rfl (AE_in ga0 (by decide)) dX5_goOn_34 (fun H863 locsH863 hTH863 hSH863 wH863 => ?_)
      have m864 := Wr.I wH863
      have m864 := m864.symm
      refine lv_aload_n hx hb dX5_goOn_37 rfl (lv_at hl861 0 rfl) ?_
      refine x_gr C hTH863 (ci := 5) (k := 1) rfl inX5 (by decide) wF_X5_15 ga0 rg_104 rfl dX5_goOn_38 (fun q865 eq865 gq865 => ?_)
      refine lv_iconst (v := 0) hx hb dX5_goOn_41 (by decide) ?_
      refine lv_aload_n hx hb dX5_goOn_42 rfl (lv_at hl861 0 rfl) ?_
      refine x_gr C hTH863 (ci := 5) (k := 0) rfl inX5 (by decide) wF_X5_9 ga0 rg_104 rfl dX5_goOn_43 (fun q866 eq866 gq866 => ?_)
      refine lv_iconst (v := 0) hx hb dX5_goOn_46 (by decide) ?_
      refine lv_bipush (v := 8) hx hb dX5_goOn_47 (by decide) ?_
      refine x_copy C hTH863 hSH863 wM_X5_43 wNT_arraycopy wST_arraycopy wIN_J10 gq865 gq866 rg_106 rg_105 (by decide) (by omega) (by omega) (by omega) (by show _ ≤ ((8 : Nat) : Int); omega) (by show _ ≤ ((8 : Nat) : Int); omega) (AE_in gq866 (by decide)) hl861.1 (by decide) dX5_goOn_49 (fun H867 locsH867 hTH867 hSH867 zH867 oH867 vH867 wH867 => ?_)
      have m868 := (m864).trans (fI_kept (oH867 _ (G_ne ga0 gq866 (by decide)))).symm
      have m869 := (eq865).trans (fR_kept (oH867 _ (G_ne ga0 gq866 (by decide)))).symm
      have m870 := (eq866).trans (fR_kept (oH867 _ (G_ne ga0 gq866 (by decide)))).symm
      exact J52 ls860 H867 locsH867 (lv_sub hl861 [] rfl) hTH867 hSH867 
    refine lv_aload_n hx hb dX5_goOn_14 rfl (lv_at hl853 0 rfl) ?_
    refine x_gi C hTH851 (ci := 5) (k := 3) rfl inX5 (by decide) wF_X5_27 ga0 rg_104 rfl dX5_goOn_15 (fun x871 ex871 bx871 => ?_)
    refine lv_iconst (v := (-1)) hx hb dX5_goOn_18 (by decide) ?_
    refine lv_icmp_eq (tgt := 31) hx hb dX5_goOn_19 (by decide) (fun c872 => ?_) (fun c872 => ?_)
    · have k873 := i_eq c872
      exact J31 ls852 H851 locsH851 (lv_sub hl853 [0, 1] rfl) hTH851 hSH851 
    · have k873 := i_ne c872
      refine lv_iload hx hb dX5_goOn_22 (lv_at hl853 1 rfl) ?_
      refine lv_aload_n hx hb dX5_goOn_24 rfl (lv_at hl853 0 rfl) ?_
      refine x_gi C hTH851 (ci := 5) (k := 3) rfl inX5 (by decide) wF_X5_27 ga0 rg_104 rfl dX5_goOn_25 (fun x874 ex874 bx874 => ?_)
      have ux874 : x871 = x874 := (ex871).trans ex874.symm
      subst ux874
      refine lv_icmp_ge (tgt := 52) hx hb dX5_goOn_28 (by decide) (fun c875 => ?_) (fun c875 => ?_)
      · have k876 := i_le c875
        exact J52 ls852 H851 locsH851 (lv_sub hl853 [] rfl) hTH851 hSH851 
      · have k876 := i_nle c875
        exact J31 ls852 H851 locsH851 (lv_sub hl853 [0, 1] rfl) hTH851 hSH851 
  have J56 : ∀ (nf : Nat) (ls878 : Array Slot) (H877 : Heap) (locsH877 : List Loc) (x881 : Int32), lv_has ls878 8 [(0, .ref a0), (1, .ref a1), (2, .int x2), (3, .int x3), (4, .int x4), (5, .int x881)] → TY K G H877 → va_S (AE G [104, 105, 106, 107] s.heap.size) s.heap H877 locsH877 → (3 ≤ x2.toInt ∧ x2.toInt ≤ 7) → (0 ≤ x881.toInt ∧ x881.toInt ≤ 8) → (8 - x881.toInt < (nf : Int)) → W p l e ({ frames := 6, cells := 0, slots := 0, locals := 175 } : Room) s m (([.ref a0, .ref a1, .int x2, .int x3, .int x4] : List Value).toArray) below meth c H877 locsH877 0 0 Q (F0 m 56 ls878 []) := by
    intro nf
    induction nf with
    | zero =>
      intro ls878 H877 locsH877 x881 hl879 hTH877 hSH877 b880 bx881 hm56
      exfalso
      omega
    | succ nf ih56 =>
      intro ls878 H877 locsH877 x881 hl879 hTH877 hSH877 b880 bx881 hm56
      have J152 : ∀ (ls884 : Array Slot) (H883 : Heap) (locsH883 : List Loc) , lv_has ls884 8 [(0, .ref a0), (1, .ref a1), (2, .int x2), (3, .int x3), (4, .int x4), (5, .int x881)] → TY K G H883 → va_S (AE G [104, 105, 106, 107] s.heap.size) s.heap H883 locsH883 → (0 ≤ x881.toInt ∧ x881.toInt ≤ 7) → W p l e ({ frames := 6, cells := 0, slots := 0, locals := 175 } : Room) s m (([.ref a0, .ref a1, .int x2, .int x3, .int x4] : List Value).toArray) below meth c H883 locsH883 0 0 Q (F0 m 152 ls884 []) := by
        intro ls884 H883 locsH883  hl885 hTH883 hSH883 b886
        obtain ⟨x888, ex888⟩ : ∃ y : Int32, y = x881 + 1 := ⟨_, rfl⟩
        have tx888 := i_add ex888 (by omega)
        refine lv_iinc (v := x888) (lv' := [(5, .int x888), (0, .ref a0), (1, .ref a1), (2, .int x2), (3, .int x3), (4, .int x4)]) hx hb dX5_goOn_152 hl885 (k := 5) rfl (by rw [ex888]; rfl) (by decide) rfl (fun ls889 hl890 => ?_)
        refine lv_goto (tgt := 56) hx hb dX5_goOn_155 (by decide) ?_
        exact ih56 ls889 H883 locsH883 (x888) (lv_sub hl890 [1, 2, 3, 4, 5, 0] rfl) hTH883 hSH883 (by have := i_rng x2; omega) (by have := i_rng x888; omega) (by omega)
      refine lv_iload hx hb dX5_goOn_56 (lv_at hl879 5 rfl) ?_
      refine lv_aload_n hx hb dX5_goOn_58 rfl (lv_at hl879 1 rfl) ?_
      refine x_gi C hTH877 (ci := 8) (k := 16) rfl inX8 (by decide) wF_X5_49 ga1 rg_0 rfl dX5_goOn_59 (fun x891 ex891 bx891 => ?_)
      refine lv_icmp_ge (tgt := 158) hx hb dX5_goOn_62 (by decide) (fun c892 => ?_) (fun c892 => ?_)
      · have k893 := i_le c892
        exact x_vret C hQ dX5_goOn_158 hSH877 (by decide) (by decide) (⟨rfl, hTH877⟩)
      · have k893 := i_nle c892
        refine lv_aload_n hx hb dX5_goOn_65 rfl (lv_at hl879 1 rfl) ?_
        refine x_gr C hTH877 (ci := 8) (k := 14) rfl inX8 (by decide) wF_X5_52 ga1 rg_0 rfl dX5_goOn_66 (fun q894 eq894 gq894 => ?_)
        refine lv_iload hx hb dX5_goOn_69 (lv_at hl879 5 rfl) ?_
        refine x_ai C hTH877 gq894 rg_32 ⟨by omega, by show _ < ((8 : Nat) : Int); omega⟩ dX5_goOn_71 (fun x895 ex895 bx895 => ?_)
        refine lv_aload_n hx hb dX5_goOn_72 rfl (lv_at hl879 1 rfl) ?_
        refine x_gr C hTH877 (ci := 8) (k := 12) rfl inX8 (by decide) wF_X5_55 ga1 rg_0 rfl dX5_goOn_73 (fun q896 eq896 gq896 => ?_)
        refine lv_iload_n hx hb dX5_goOn_76 rfl (lv_at hl879 2 rfl) ?_
        refine x_ai C hTH877 gq896 rg_31 ⟨by omega, by show _ < ((8 : Nat) : Int); omega⟩ dX5_goOn_77 (fun x897 ex897 bx897 => ?_)
        refine lv_isub hx hb dX5_goOn_78 ?_
        refine lv_topi (fun x898 ex898 => ?_)
        refine lv_istore (lv' := [(6, .int x898), (0, .ref a0), (1, .ref a1), (2, .int x2), (3, .int x3), (4, .int x4), (5, .int x881)]) hx hb dX5_goOn_79 hl879 (by decide) rfl (fun ls899 hl900 => ?_)
        refine lv_iload_n hx hb dX5_goOn_81 rfl (lv_at hl900 4 rfl) ?_
        refine lv_iconst (v := 1) hx hb dX5_goOn_82 (by decide) ?_
        refine lv_iload hx hb dX5_goOn_83 (lv_at hl900 6 rfl) ?_
        refine lv_ishl hx hb dX5_goOn_85 ?_
        refine lv_topi (fun x901 ex901 => ?_)
        have tx901 := i_shl7 ex901 (by omega)
        refine lv_ior hx hb dX5_goOn_86 ?_
        refine lv_topi (fun x902 ex902 => ?_)
        have tx902 := i_or8 ex902 (by omega) (by omega)
        refine lv_istore (lv' := [(7, .int x902), (6, .int x898), (0, .ref a0), (1, .ref a1), (2, .int x2), (3, .int x3), (4, .int x4), (5, .int x881)]) hx hb dX5_goOn_87 hl900 (by decide) rfl (fun ls903 hl904 => ?_)
        refine lv_iload hx hb dX5_goOn_89 (lv_at hl904 0 rfl) ?_
        refine lv_iload_n hx hb dX5_goOn_91 rfl (lv_at hl904 5 rfl) ?_
        refine lv_icmp_eq (tgt := 152) hx hb dX5_goOn_92 (by decide) (fun c905 => ?_) (fun c905 => ?_)
        · have k906 := i_eq c905
          exact J152 ls903 H877 locsH877 (lv_sub hl904 [2, 3, 4, 5, 6, 7] rfl) hTH877 hSH877 (by have := i_rng x881; omega)
        · have k906 := i_ne c905
          refine lv_iload hx hb dX5_goOn_95 (lv_at hl904 1 rfl) ?_
          refine lv_if_lt (tgt := 152) hx hb dX5_goOn_97 (by decide) (fun c907 => ?_) (fun c907 => ?_)
          · have k908 := i_lt c907
            exact J152 ls903 H877 locsH877 (lv_sub hl904 [2, 3, 4, 5, 6, 7] rfl) hTH877 hSH877 (by have := i_rng x881; omega)
          · have k908 := i_nlt c907
            refine lv_aload_n hx hb dX5_goOn_100 rfl (lv_at hl904 2 rfl) ?_
            refine x_gr C hTH877 (ci := 5) (k := 2) rfl inX5 (by decide) wF_X5_18 ga0 rg_104 rfl dX5_goOn_101 (fun q909 eq909 gq909 => ?_)
            refine lv_iload hx hb dX5_goOn_104 (lv_at hl904 0 rfl) ?_
            refine x_ai C hTH877 gq909 rg_107 ⟨by omega, by show _ < ((256 : Nat) : Int); omega⟩ dX5_goOn_106 (fun x910 ex910 bx910 => ?_)
            refine lv_if_ne (tgt := 152) hx hb dX5_goOn_107 (by decide) (fun c911 => ?_) (fun c911 => ?_)
            · have k912 := i_ne c911
              exact J152 ls903 H877 locsH877 (lv_sub hl904 [2, 3, 4, 5, 6, 7] rfl) hTH877 hSH877 (by have := i_rng x881; omega)
            · have k912 := i_eq c911
              refine lv_aload_n hx hb dX5_goOn_110 rfl (lv_at hl904 2 rfl) ?_
              refine lv_aload_n hx hb dX5_goOn_111 rfl (lv_at hl904 3 rfl) ?_
              refine lv_iload_n hx hb dX5_goOn_112 rfl (lv_at hl904 5 rfl) ?_
              refine lv_iload hx hb dX5_goOn_113 (lv_at hl904 7 rfl) ?_
              refine x_V (As := [.ref a1, .int x3, .int x881]) (rest := []) C (a_X5_ringsTogether l K G H877 (x3) (x881) hTH877 ga0 ga1 (by omega)) yo_X5_ringsTogether wM_X5_58 ⟨⟨by decide, by decide⟩, by decide, by decide⟩ (x_rv C hTH877 (ci := 5) rfl ga0 rg_104) rfl hl904.1 rfl (Nat.le_of_ble_eq_true rfl) dX5_goOn_115 hSH877 (AE_sub (fun _ _ => rfl) (by decide) hSH877.1) (fun vH913 H913 locsH913 pH913 zH913 kH913 hSH913 => ?_)
              obtain ⟨x914, hvH913, bx914, hTH913⟩ := pH913
              subst hvH913
              have m915 := (ex891).trans (fI_kept (x_lt hTH877 kH913 ga1 (by decide))).symm
              have m916 := (eq894).trans (fR_kept (x_lt hTH877 kH913 ga1 (by decide))).symm
              have m917 := (ex895).trans (fI_kept (x_lt hTH877 kH913 gq894 (by decide))).symm
              have m918 := (eq896).trans (fR_kept (x_lt hTH877 kH913 ga1 (by decide))).symm
              have m919 := (ex897).trans (fI_kept (x_lt hTH877 kH913 gq896 (by decide))).symm
              have m920 := (eq909).trans (fR_kept (x_lt hTH877 kH913 ga0 (by decide))).symm
              have m921 := (ex910).trans (fI_kept (x_lt hTH877 kH913 gq909 (by decide))).symm
              refine W.eq (g2 := F0 m 118 ls903 [.int x914]) rfl ?_
              refine lv_if_eq (tgt := 152) hx hb dX5_goOn_118 (by decide) (fun c922 => ?_) (fun c922 => ?_)
              · have k923 := i_eq c922
                exact J152 ls903 H913 locsH913 (lv_sub hl904 [2, 3, 4, 5, 6, 7] rfl) hTH913 hSH913 (by have := i_rng x881; omega)
              · have k923 := i_ne c922
                refine lv_aload_n hx hb dX5_goOn_121 rfl (lv_at hl904 2 rfl) ?_
                refine x_gr C hTH913 (ci := 5) (k := 2) rfl inX5 (by decide) wF_X5_18 ga0 rg_104 rfl dX5_goOn_122 (fun q924 eq924 gq924 => ?_)
                have uq924 : q909 = q924 := (m920).trans eq924.symm
                subst uq924
                refine lv_iload hx hb dX5_goOn_125 (lv_at hl904 0 rfl) ?_
                refine lv_iconst (v := 1) hx hb dX5_goOn_127 (by decide) ?_
                refine x_iast C hTH913 hSH913 gq909 rg_107 (by omega) (by show _ < ((256 : Nat) : Int); omega) (by decide) (AE_in gq909 (by decide)) dX5_goOn_128 (fun H925 locsH925 hTH925 hSH925 wH925 => ?_)
                have m926 := m915.trans (Wr.neI wH925 (Or.inl (G_ne ga1 gq909 (by decide)))).symm
                have m927 := m916.trans (Wr.neR wH925 (Or.inl (G_ne ga1 gq909 (by decide)))).symm
                have m928 := m917.trans (Wr.neI wH925 (Or.inl (G_ne gq894 gq909 (by decide)))).symm
                have m929 := m918.trans (Wr.neR wH925 (Or.inl (G_ne ga1 gq909 (by decide)))).symm
                have m930 := m919.trans (Wr.neI wH925 (Or.inl (G_ne gq896 gq909 (by decide)))).symm
                have m931 := m920.trans (Wr.neR wH925 (Or.inl (G_ne ga0 gq909 (by decide)))).symm
                have m933 := Wr.I wH925
                refine lv_aload_n hx hb dX5_goOn_129 rfl (lv_at hl904 2 rfl) ?_
                refine x_gr C hTH925 (ci := 5) (k := 1) rfl inX5 (by decide) wF_X5_15 ga0 rg_104 rfl dX5_goOn_130 (fun q934 eq934 gq934 => ?_)
                refine lv_iload_n hx hb dX5_goOn_133 rfl (lv_at hl904 4 rfl) ?_
                refine lv_iload hx hb dX5_goOn_134 (lv_at hl904 7 rfl) ?_
                refine x_iast C hTH925 hSH925 gq934 rg_106 (by omega) (by show _ < ((8 : Nat) : Int); omega) ⟨by have := i_rng x881; omega, by have := i_rng x881; omega⟩ (AE_in gq934 (by decide)) dX5_goOn_136 (fun H935 locsH935 hTH935 hSH935 wH935 => ?_)
                have m936 := m926.trans (Wr.neI wH935 (Or.inl (G_ne ga1 gq934 (by decide)))).symm
                have m937 := m927.trans (Wr.neR wH935 (Or.inl (G_ne ga1 gq934 (by decide)))).symm
                have m938 := m928.trans (Wr.neI wH935 (Or.inl (G_ne gq894 gq934 (by decide)))).symm
                have m939 := m929.trans (Wr.neR wH935 (Or.inl (G_ne ga1 gq934 (by decide)))).symm
                have m940 := m930.trans (Wr.neI wH935 (Or.inl (G_ne gq896 gq934 (by decide)))).symm
                have m941 := m931.trans (Wr.neR wH935 (Or.inl (G_ne ga0 gq934 (by decide)))).symm
                have m942 := (Wr.neI wH935 (Or.inl (G_ne gq909 gq934 (by decide)))).trans m933
                have m943 := eq934.trans (Wr.neR wH935 (Or.inl (G_ne ga0 gq934 (by decide)))).symm
                have m944 := Wr.I wH935
                have m944 := m944.symm
                refine lv_aload_n hx hb dX5_goOn_137 rfl (lv_at hl904 2 rfl) ?_
                refine lv_aload_n hx hb dX5_goOn_138 rfl (lv_at hl904 3 rfl) ?_
                refine lv_iload_n hx hb dX5_goOn_139 rfl (lv_at hl904 4 rfl) ?_
                refine lv_iconst (v := 1) hx hb dX5_goOn_140 (by decide) ?_
                refine lv_iadd hx hb dX5_goOn_141 ?_
                refine lv_topi (fun x945 ex945 => ?_)
                have tx945 := i_add ex945 (by omega)
                refine lv_iload hx hb dX5_goOn_142 (lv_at hl904 0 rfl) ?_
                refine lv_iload hx hb dX5_goOn_144 (lv_at hl904 6 rfl) ?_
                refine lv_iload hx hb dX5_goOn_146 (lv_at hl904 1 rfl) ?_
                refine lv_iadd hx hb dX5_goOn_148 ?_
                refine lv_topi (fun x946 ex946 => ?_)
                refine x_V (As := [.ref a1, .int x945, .int x902, .int x946]) (rest := []) C (a_X5_goOn_4 l K G H935 (x945) (x902) (x946) hTH935 ga0 ga1 (by omega) (by omega)) yo_X5_goOn wM_X5_34 ⟨⟨by decide, by decide⟩, by decide, by decide⟩ (x_rv C hTH935 (ci := 5) rfl ga0 rg_104) rfl hl904.1 rfl (Nat.le_of_ble_eq_true rfl) dX5_goOn_149 hSH935 (AE_sub (fun _ _ => rfl) (by decide) hSH935.1) (fun vH947 H947 locsH947 pH947 zH947 kH947 hSH947 => ?_)
                obtain ⟨hvH947, hTH947⟩ := pH947
                subst hvH947
                have m948 := (m936).trans (fI_kept (x_lt hTH935 kH947 ga1 (by decide))).symm
                have m949 := (m937).trans (fR_kept (x_lt hTH935 kH947 ga1 (by decide))).symm
                have m950 := (m938).trans (fI_kept (x_lt hTH935 kH947 gq894 (by decide))).symm
                have m951 := (m939).trans (fR_kept (x_lt hTH935 kH947 ga1 (by decide))).symm
                have m952 := (m940).trans (fI_kept (x_lt hTH935 kH947 gq896 (by decide))).symm
                refine W.eq (g2 := F0 m 152 ls903 []) rfl ?_
                exact J152 ls903 H947 locsH947 (lv_sub hl904 [2, 3, 4, 5, 6, 7] rfl) hTH947 hSH947 (by have := i_rng x881; omega)
  refine lv_iload_n hx hb dX5_goOn_0 rfl (lv_at hl 2 rfl) ?_
  refine lv_aload_n hx hb dX5_goOn_1 rfl (lv_at hl 1 rfl) ?_
  refine x_gi C hT (ci := 8) (k := 13) rfl inX8 (by decide) wF_X5_38 ga1 rg_0 rfl dX5_goOn_2 (fun x953 ex953 bx953 => ?_)
  refine lv_icmp_ge (tgt := 14) hx hb dX5_goOn_5 (by decide) (fun c954 => ?_) (fun c954 => ?_)
  · have k955 := i_le c954
    exact J14 ls s.heap [] (lv_sub hl [0, 4] rfl) hT hS 
  · have k955 := i_nle c954
    refine lv_iload_n hx hb dX5_goOn_8 rfl (lv_at hl 2 rfl) ?_
    refine lv_bipush (v := 8) hx hb dX5_goOn_9 (by decide) ?_
    refine lv_icmp_lt (tgt := 53) hx hb dX5_goOn_11 (by decide) (fun c956 => ?_) (fun c956 => ?_)
    · have k957 := i_lt c956
      refine lv_iconst (v := 0) hx hb dX5_goOn_53 (by decide) ?_
      refine lv_istore (lv' := [(5, .int 0), (0, .ref a0), (1, .ref a1), (2, .int x2), (3, .int x3), (4, .int x4)]) hx hb dX5_goOn_54 hl (by decide) rfl (fun ls958 hl959 => ?_)
      exact J56 ((8 - (0 : Int32).toInt).toNat + 1) ls958 s.heap [] (0) (lv_sub hl959 [1, 2, 3, 4, 5, 0] rfl) hT hS (by have := i_rng x2; omega) (by decide) (by omega)
    · have k957 := i_nlt c956
      exfalso
      omega

set_option maxHeartbeats 4000000 in
set_option maxRecDepth 100000 in
theorem a_X5_goOn_2 (l : Launch) (K : KE) (G : Nat → Option Nat) (H : Heap) {a0 : Nat} {a1 : Nat} (x2 : Int32) (x3 : Int32) (x4 : Int32) (hT : TY K G H) (ga0 : G a0 = some 104) (ga1 : G a1 = some 0) (hx2 : 2 ≤ x2.toInt ∧ x2.toInt ≤ 8) (hx3 : 0 ≤ x3.toInt ∧ x3.toInt ≤ 255) : MX l K yX5_goOn cX5_goOn 8 none 7 202 0 0 [.ref a0, .ref a1, .int x2, .int x3, .int x4] H (AE G [104, 105, 106, 107] H.size) (fun v H1 => v = none ∧ TY K G H1) := by
  refine MX.of (by decide +kernel) (Nat.le_of_ble_eq_true rfl) ?_
  intro p e s m below meth c ls Q C hH hl hQ
  subst hH
  have C : CX p K s m _ meth c RX5 cX5_goOn 8 none "goOn" := C
  obtain ⟨hx, hb, hml, hown, hts, hKT, hr, hlocks, hnm⟩ := id C
  have hl : lv_has ls 8 [(0, .ref a0), (1, .ref a1), (2, .int x2), (3, .int x3), (4, .int x4)] := hl
  have hS : va_S (AE G [104, 105, 106, 107] s.heap.size) s.heap s.heap [] := va_S.rf
  have n_m1 : ((-1) : Int32).toInt = -1 := rfl
  have n_0 : (0 : Int32).toInt = 0 := rfl
  have n_1 : (1 : Int32).toInt = 1 := rfl
  have n_8 : (8 : Int32).toInt = 8 := rfl
  have J14 : ∀ (ls852 : Array Slot) (H851 : Heap) (locsH851 : List Loc) , lv_has ls852 8 [(0, .ref a0), (4, .int x4)] → TY K G H851 → va_S (AE G [104, 105, 106, 107] s.heap.size) s.heap H851 locsH851 → W p l e ({ frames := 7, cells := 0, slots := 0, locals := 202 } : Room) s m (([.ref a0, .ref a1, .int x2, .int x3, .int x4] : List Value).toArray) below meth c H851 locsH851 0 0 Q (F0 m 14 ls852 []) := by
    intro ls852 H851 locsH851  hl853 hTH851 hSH851 
    have J52 : ∀ (ls856 : Array Slot) (H855 : Heap) (locsH855 : List Loc) , lv_has ls856 8 [] → TY K G H855 → va_S (AE G [104, 105, 106, 107] s.heap.size) s.heap H855 locsH855 → W p l e ({ frames := 7, cells := 0, slots := 0, locals := 202 } : Room) s m (([.ref a0, .ref a1, .int x2, .int x3, .int x4] : List Value).toArray) below meth c H855 locsH855 0 0 Q (F0 m 52 ls856 []) := by
      intro ls856 H855 locsH855  hl857 hTH855 hSH855 
      exact x_vret C hQ dX5_goOn_52 hSH855 (by decide) (by decide) (⟨rfl, hTH855⟩)
    have J31 : ∀ (ls860 : Array Slot) (H859 : Heap) (locsH859 : List Loc) , lv_has ls860 8 [(0, .ref a0), (4, .int x4)] → TY K G H859 → va_S (AE G [104, 105, 106, 107] s.heap.size) s.heap H859 locsH859 → W p l e ({ frames := 7, cells := 0, slots := 0, locals := 202 } : Room) s m (([.ref a0, .ref a1, .int x2, .int x3, .int x4] : List Value).toArray) below meth c H859 locsH859 0 0 Q (F0 m 31 ls860 []) := by
      intro ls860 H859 locsH859  hl861 hTH859 hSH859 
      refine lv_aload_n hx hb dX5_goOn_31 rfl (lv_at hl861 0 rfl) ?_
      refine lv_iload hx hb dX5_goOn_32 (lv_at hl861 1 rfl) ?_
      refine x_put C hTH859 hSH859 (ci := 5) (k := 3) (v := .int x4) (ty0 := tyX5) rfl inX5 tyX5_ok nmX5 (by decide) rfl wF_X5_27 ga0 rg_104 rfl rfl (okI (by have := i_rng x4; omega) (by have := i_rng x4; omega)) rfl rfl (AE_in ga0 (by decide)) dX5_goOn_34 (fun H863 locsH863 hTH863 hSH863 wH863 => ?_)
      have m864 := Wr.I wH863
      have m864 := m864.symm
      refine lv_aload_n hx hb dX5_goOn_37 rfl (lv_at hl861 0 rfl) ?_
      refine x_gr C hTH863 (ci := 5) (k := 1) rfl inX5 (by decide) wF_X5_15 ga0 rg_104 rfl dX5_goOn_38 (fun q865 eq865 gq865 => ?_)
      refine lv_iconst (v := 0) hx hb dX5_goOn_41 (by decide) ?_
      refine lv_aload_n hx hb dX5_goOn_42 rfl (lv_at hl861 0 rfl) ?_
      refine x_gr C hTH863 (ci := 5) (k := 0) rfl inX5 (by decide) wF_X5_9 ga0 rg_104 rfl dX5_goOn_43 (fun q866 eq866 gq866 => ?_)
      refine lv_iconst (v := 0) hx hb dX5_goOn_46 (by decide) ?_
      refine lv_bipush (v := 8) hx hb dX5_goOn_47 (by decide) ?_
      refine x_copy C hTH863 hSH863 wM_X5_43 wNT_arraycopy wST_arraycopy wIN_J10 gq865 gq866 rg_106 rg_105 (by decide) (by omega) (by omega) (by omega) (by show _ ≤ ((8 : Nat) : Int); omega) (by show _ ≤ ((8 : Nat) : Int); omega) (AE_in gq866 (by decide)) hl861.1 (by decide) dX5_goOn_49 (fun H867 locsH867 hTH867 hSH867 zH867 oH867 vH867 wH867 => ?_)
      have m868 := (m864).trans (fI_kept (oH867 _ (G_ne ga0 gq866 (by decide)))).symm
      have m869 := (eq865).trans (fR_kept (oH867 _ (G_ne ga0 gq866 (by decide)))).symm
      have m870 := (eq866).trans (fR_kept (oH867 _ (G_ne ga0 gq866 (by decide)))).symm
      exact J52 ls860 H867 locsH867 (lv_sub hl861 [] rfl) hTH867 hSH867 
    refine lv_aload_n hx hb dX5_goOn_14 rfl (lv_at hl853 0 rfl) ?_
    refine x_gi C hTH851 (ci := 5) (k := 3) rfl inX5 (by decide) wF_X5_27 ga0 rg_104 rfl dX5_goOn_15 (fun x871 ex871 bx871 => ?_)
    refine lv_iconst (v := (-1)) hx hb dX5_goOn_18 (by decide) ?_
    refine lv_icmp_eq (tgt := 31) hx hb dX5_goOn_19 (by decide) (fun c872 => ?_) (fun c872 => ?_)
    · have k873 := i_eq c872
      exact J31 ls852 H851 locsH851 (lv_sub hl853 [0, 1] rfl) hTH851 hSH851 
    · have k873 := i_ne c872
      refine lv_iload hx hb dX5_goOn_22 (lv_at hl853 1 rfl) ?_
      refine lv_aload_n hx hb dX5_goOn_24 rfl (lv_at hl853 0 rfl) ?_
      refine x_gi C hTH851 (ci := 5) (k := 3) rfl inX5 (by decide) wF_X5_27 ga0 rg_104 rfl dX5_goOn_25 (fun x874 ex874 bx874 => ?_)
      have ux874 : x871 = x874 := (ex871).trans ex874.symm
      subst ux874
      refine lv_icmp_ge (tgt := 52) hx hb dX5_goOn_28 (by decide) (fun c875 => ?_) (fun c875 => ?_)
      · have k876 := i_le c875
        exact J52 ls852 H851 locsH851 (lv_sub hl853 [] rfl) hTH851 hSH851 
      · have k876 := i_nle c875
        exact J31 ls852 H851 locsH851 (lv_sub hl853 [0, 1] rfl) hTH851 hSH851 
  have J56 : ∀ (nf : Nat) (ls878 : Array Slot) (H877 : Heap) (locsH877 : List Loc) (x881 : Int32), lv_has ls878 8 [(0, .ref a0), (1, .ref a1), (2, .int x2), (3, .int x3), (4, .int x4), (5, .int x881)] → TY K G H877 → va_S (AE G [104, 105, 106, 107] s.heap.size) s.heap H877 locsH877 → (2 ≤ x2.toInt ∧ x2.toInt ≤ 7) → (0 ≤ x881.toInt ∧ x881.toInt ≤ 8) → (8 - x881.toInt < (nf : Int)) → W p l e ({ frames := 7, cells := 0, slots := 0, locals := 202 } : Room) s m (([.ref a0, .ref a1, .int x2, .int x3, .int x4] : List Value).toArray) below meth c H877 locsH877 0 0 Q (F0 m 56 ls878 []) := by
    intro nf
    induction nf with
    | zero =>
      intro ls878 H877 locsH877 x881 hl879 hTH877 hSH877 b880 bx881 hm56
      exfalso
      omega
    | succ nf ih56 =>
      intro ls878 H877 locsH877 x881 hl879 hTH877 hSH877 b880 bx881 hm56
      have J152 : ∀ (ls884 : Array Slot) (H883 : Heap) (locsH883 : List Loc) , lv_has ls884 8 [(0, .ref a0), (1, .ref a1), (2, .int x2), (3, .int x3), (4, .int x4), (5, .int x881)] → TY K G H883 → va_S (AE G [104, 105, 106, 107] s.heap.size) s.heap H883 locsH883 → (0 ≤ x881.toInt ∧ x881.toInt ≤ 7) → W p l e ({ frames := 7, cells := 0, slots := 0, locals := 202 } : Room) s m (([.ref a0, .ref a1, .int x2, .int x3, .int x4] : List Value).toArray) below meth c H883 locsH883 0 0 Q (F0 m 152 ls884 []) := by
        intro ls884 H883 locsH883  hl885 hTH883 hSH883 b886
        obtain ⟨x888, ex888⟩ : ∃ y : Int32, y = x881 + 1 := ⟨_, rfl⟩
        have tx888 := i_add ex888 (by omega)
        refine lv_iinc (v := x888) (lv' := [(5, .int x888), (0, .ref a0), (1, .ref a1), (2, .int x2), (3, .int x3), (4, .int x4)]) hx hb dX5_goOn_152 hl885 (k := 5) rfl (by rw [ex888]; rfl) (by decide) rfl (fun ls889 hl890 => ?_)
        refine lv_goto (tgt := 56) hx hb dX5_goOn_155 (by decide) ?_
        exact ih56 ls889 H883 locsH883 (x888) (lv_sub hl890 [1, 2, 3, 4, 5, 0] rfl) hTH883 hSH883 (by have := i_rng x2; omega) (by have := i_rng x888; omega) (by omega)
      refine lv_iload hx hb dX5_goOn_56 (lv_at hl879 5 rfl) ?_
      refine lv_aload_n hx hb dX5_goOn_58 rfl (lv_at hl879 1 rfl) ?_
      refine x_gi C hTH877 (ci := 8) (k := 16) rfl inX8 (by decide) wF_X5_49 ga1 rg_0 rfl dX5_goOn_59 (fun x891 ex891 bx891 => ?_)
      refine lv_icmp_ge (tgt := 158) hx hb dX5_goOn_62 (by decide) (fun c892 => ?_) (fun c892 => ?_)
      · have k893 := i_le c892
        exact x_vret C hQ dX5_goOn_158 hSH877 (by decide) (by decide) (⟨rfl, hTH877⟩)
      · have k893 := i_nle c892
        refine lv_aload_n hx hb dX5_goOn_65 rfl (lv_at hl879 1 rfl) ?_
        refine x_gr C hTH877 (ci := 8) (k := 14) rfl inX8 (by decide) wF_X5_52 ga1 rg_0 rfl dX5_goOn_66 (fun q894 eq894 gq894 => ?_)
        refine lv_iload hx hb dX5_goOn_69 (lv_at hl879 5 rfl) ?_
        refine x_ai C hTH877 gq894 rg_32 ⟨by omega, by show _ < ((8 : Nat) : Int); omega⟩ dX5_goOn_71 (fun x895 ex895 bx895 => ?_)
        refine lv_aload_n hx hb dX5_goOn_72 rfl (lv_at hl879 1 rfl) ?_
        refine x_gr C hTH877 (ci := 8) (k := 12) rfl inX8 (by decide) wF_X5_55 ga1 rg_0 rfl dX5_goOn_73 (fun q896 eq896 gq896 => ?_)
        refine lv_iload_n hx hb dX5_goOn_76 rfl (lv_at hl879 2 rfl) ?_
        refine x_ai C hTH877 gq896 rg_31 ⟨by omega, by show _ < ((8 : Nat) : Int); omega⟩ dX5_goOn_77 (fun x897 ex897 bx897 => ?_)
        refine lv_isub hx hb dX5_goOn_78 ?_
        refine lv_topi (fun x898 ex898 => ?_)
        refine lv_istore (lv' := [(6, .int x898), (0, .ref a0), (1, .ref a1), (2, .int x2), (3, .int x3), (4, .int x4), (5, .int x881)]) hx hb dX5_goOn_79 hl879 (by decide) rfl (fun ls899 hl900 => ?_)
        refine lv_iload_n hx hb dX5_goOn_81 rfl (lv_at hl900 4 rfl) ?_
        refine lv_iconst (v := 1) hx hb dX5_goOn_82 (by decide) ?_
        refine lv_iload hx hb dX5_goOn_83 (lv_at hl900 6 rfl) ?_
        refine lv_ishl hx hb dX5_goOn_85 ?_
        refine lv_topi (fun x901 ex901 => ?_)
        have tx901 := i_shl7 ex901 (by omega)
        refine lv_ior hx hb dX5_goOn_86 ?_
        refine lv_topi (fun x902 ex902 => ?_)
        have tx902 := i_or8 ex902 (by omega) (by omega)
        refine lv_istore (lv' := [(7, .int x902), (6, .int x898), (0, .ref a0), (1, .ref a1), (2, .int x2), (3, .int x3), (4, .int x4), (5, .int x881)]) hx hb dX5_goOn_87 hl900 (by decide) rfl (fun ls903 hl904 => ?_)
        refine lv_iload hx hb dX5_goOn_89 (lv_at hl904 0 rfl) ?_
        refine lv_iload_n hx hb dX5_goOn_91 rfl (lv_at hl904 5 rfl) ?_
        refine lv_icmp_eq (tgt := 152) hx hb dX5_goOn_92 (by decide) (fun c905 => ?_) (fun c905 => ?_)
        · have k906 := i_eq c905
          exact J152 ls903 H877 locsH877 (lv_sub hl904 [2, 3, 4, 5, 6, 7] rfl) hTH877 hSH877 (by have := i_rng x881; omega)
        · have k906 := i_ne c905
          refine lv_iload hx hb dX5_goOn_95 (lv_at hl904 1 rfl) ?_
          refine lv_if_lt (tgt := 152) hx hb dX5_goOn_97 (by decide) (fun c907 => ?_) (fun c907 => ?_)
          · have k908 := i_lt c907
            exact J152 ls903 H877 locsH877 (lv_sub hl904 [2, 3, 4, 5, 6, 7] rfl) hTH877 hSH877 (by have := i_rng x881; omega)
          · have k908 := i_nlt c907
            refine lv_aload_n hx hb dX5_goOn_100 rfl (lv_at hl904 2 rfl) ?_
            refine x_gr C hTH877 (ci := 5) (k := 2) rfl inX5 (by decide) wF_X5_18 ga0 rg_104 rfl dX5_goOn_101 (fun q909 eq909 gq909 => ?_)
            refine lv_iload hx hb dX5_goOn_104 (lv_at hl904 0 rfl) ?_
            refine x_ai C hTH877 gq909 rg_107 ⟨by omega, by show _ < ((256 : Nat) : Int); omega⟩ dX5_goOn_106 (fun x910 ex910 bx910 => ?_)
            refine lv_if_ne (tgt := 152) hx hb dX5_goOn_107 (by decide) (fun c911 => ?_) (fun c911 => ?_)
            · have k912 := i_ne c911
              exact J152 ls903 H877 locsH877 (lv_sub hl904 [2, 3, 4, 5, 6, 7] rfl) hTH877 hSH877 (by have := i_rng x881; omega)
            · have k912 := i_eq c911
              refine lv_aload_n hx hb dX5_goOn_110 rfl (lv_at hl904 2 rfl) ?_
              refine lv_aload_n hx hb dX5_goOn_111 rfl (lv_at hl904 3 rfl) ?_
              refine lv_iload_n hx hb dX5_goOn_112 rfl (lv_at hl904 5 rfl) ?_
              refine lv_iload hx hb dX5_goOn_113 (lv_at hl904 7 rfl) ?_
              refine x_V (As := [.ref a1, .int x3, .int x881]) (rest := []) C (a_X5_ringsTogether l K G H877 (x3) (x881) hTH877 ga0 ga1 (by omega)) yo_X5_ringsTogether wM_X5_58 ⟨⟨by decide, by decide⟩, by decide, by decide⟩ (x_rv C hTH877 (ci := 5) rfl ga0 rg_104) rfl hl904.1 rfl (Nat.le_of_ble_eq_true rfl) dX5_goOn_115 hSH877 (AE_sub (fun _ _ => rfl) (by decide) hSH877.1) (fun vH913 H913 locsH913 pH913 zH913 kH913 hSH913 => ?_)
              obtain ⟨x914, hvH913, bx914, hTH913⟩ := pH913
              subst hvH913
              have m915 := (ex891).trans (fI_kept (x_lt hTH877 kH913 ga1 (by decide))).symm
              have m916 := (eq894).trans (fR_kept (x_lt hTH877 kH913 ga1 (by decide))).symm
              have m917 := (ex895).trans (fI_kept (x_lt hTH877 kH913 gq894 (by decide))).symm
              have m918 := (eq896).trans (fR_kept (x_lt hTH877 kH913 ga1 (by decide))).symm
              have m919 := (ex897).trans (fI_kept (x_lt hTH877 kH913 gq896 (by decide))).symm
              have m920 := (eq909).trans (fR_kept (x_lt hTH877 kH913 ga0 (by decide))).symm
              have m921 := (ex910).trans (fI_kept (x_lt hTH877 kH913 gq909 (by decide))).symm
              refine W.eq (g2 := F0 m 118 ls903 [.int x914]) rfl ?_
              refine lv_if_eq (tgt := 152) hx hb dX5_goOn_118 (by decide) (fun c922 => ?_) (fun c922 => ?_)
              · have k923 := i_eq c922
                exact J152 ls903 H913 locsH913 (lv_sub hl904 [2, 3, 4, 5, 6, 7] rfl) hTH913 hSH913 (by have := i_rng x881; omega)
              · have k923 := i_ne c922
                refine lv_aload_n hx hb dX5_goOn_121 rfl (lv_at hl904 2 rfl) ?_
                refine x_gr C hTH913 (ci := 5) (k := 2) rfl inX5 (by decide) wF_X5_18 ga0 rg_104 rfl dX5_goOn_122 (fun q924 eq924 gq924 => ?_)
                have uq924 : q909 = q924 := (m920).trans eq924.symm
                subst uq924
                refine lv_iload hx hb dX5_goOn_125 (lv_at hl904 0 rfl) ?_
                refine lv_iconst (v := 1) hx hb dX5_goOn_127 (by decide) ?_
                refine x_iast C hTH913 hSH913 gq909 rg_107 (by omega) (by show _ < ((256 : Nat) : Int); omega) (by decide) (AE_in gq909 (by decide)) dX5_goOn_128 (fun H925 locsH925 hTH925 hSH925 wH925 => ?_)
                have m926 := m915.trans (Wr.neI wH925 (Or.inl (G_ne ga1 gq909 (by decide)))).symm
                have m927 := m916.trans (Wr.neR wH925 (Or.inl (G_ne ga1 gq909 (by decide)))).symm
                have m928 := m917.trans (Wr.neI wH925 (Or.inl (G_ne gq894 gq909 (by decide)))).symm
                have m929 := m918.trans (Wr.neR wH925 (Or.inl (G_ne ga1 gq909 (by decide)))).symm
                have m930 := m919.trans (Wr.neI wH925 (Or.inl (G_ne gq896 gq909 (by decide)))).symm
                have m931 := m920.trans (Wr.neR wH925 (Or.inl (G_ne ga0 gq909 (by decide)))).symm
                have m933 := Wr.I wH925
                refine lv_aload_n hx hb dX5_goOn_129 rfl (lv_at hl904 2 rfl) ?_
                refine x_gr C hTH925 (ci := 5) (k := 1) rfl inX5 (by decide) wF_X5_15 ga0 rg_104 rfl dX5_goOn_130 (fun q934 eq934 gq934 => ?_)
                refine lv_iload_n hx hb dX5_goOn_133 rfl (lv_at hl904 4 rfl) ?_
                refine lv_iload hx hb dX5_goOn_134 (lv_at hl904 7 rfl) ?_
                refine x_iast C hTH925 hSH925 gq934 rg_106 (by omega) (by show _ < ((8 : Nat) : Int); omega) ⟨by have := i_rng x881; omega, by have := i_rng x881; omega⟩ (AE_in gq934 (by decide)) dX5_goOn_136 (fun H935 locsH935 hTH935 hSH935 wH935 => ?_)
                have m936 := m926.trans (Wr.neI wH935 (Or.inl (G_ne ga1 gq934 (by decide)))).symm
                have m937 := m927.trans (Wr.neR wH935 (Or.inl (G_ne ga1 gq934 (by decide)))).symm
                have m938 := m928.trans (Wr.neI wH935 (Or.inl (G_ne gq894 gq934 (by decide)))).symm
                have m939 := m929.trans (Wr.neR wH935 (Or.inl (G_ne ga1 gq934 (by decide)))).symm
                have m940 := m930.trans (Wr.neI wH935 (Or.inl (G_ne gq896 gq934 (by decide)))).symm
                have m941 := m931.trans (Wr.neR wH935 (Or.inl (G_ne ga0 gq934 (by decide)))).symm
                have m942 := (Wr.neI wH935 (Or.inl (G_ne gq909 gq934 (by decide)))).trans m933
                have m943 := eq934.trans (Wr.neR wH935 (Or.inl (G_ne ga0 gq934 (by decide)))).symm
                have m944 := Wr.I wH935
                have m944 := m944.symm
                refine lv_aload_n hx hb dX5_goOn_137 rfl (lv_at hl904 2 rfl) ?_
                refine lv_aload_n hx hb dX5_goOn_138 rfl (lv_at hl904 3 rfl) ?_
                refine lv_iload_n hx hb dX5_goOn_139 rfl (lv_at hl904 4 rfl) ?_
                refine lv_iconst (v := 1) hx hb dX5_goOn_140 (by decide) ?_
                refine lv_iadd hx hb dX5_goOn_141 ?_
                refine lv_topi (fun x945 ex945 => ?_)
                have tx945 := i_add ex945 (by omega)
                refine lv_iload hx hb dX5_goOn_142 (lv_at hl904 0 rfl) ?_
                refine lv_iload hx hb dX5_goOn_144 (lv_at hl904 6 rfl) ?_
                refine lv_iload hx hb dX5_goOn_146 (lv_at hl904 1 rfl) ?_
                refine lv_iadd hx hb dX5_goOn_148 ?_
                refine lv_topi (fun x946 ex946 => ?_)
                refine x_V (As := [.ref a1, .int x945, .int x902, .int x946]) (rest := []) C (a_X5_goOn_3 l K G H935 (x945) (x902) (x946) hTH935 ga0 ga1 (by omega) (by omega)) yo_X5_goOn wM_X5_34 ⟨⟨by decide, by decide⟩, by decide, by decide⟩ (x_rv C hTH935 (ci := 5) rfl ga0 rg_104) rfl hl904.1 rfl (Nat.le_of_ble_eq_true rfl) dX5_goOn_149 hSH935 (AE_sub (fun _ _ => rfl) (by decide) hSH935.1) (fun vH947 H947 locsH947 pH947 zH947 kH947 hSH947 => ?_)
                obtain ⟨hvH947, hTH947⟩ := pH947
                subst hvH947
                have m948 := (m936).trans (fI_kept (x_lt hTH935 kH947 ga1 (by decide))).symm
                have m949 := (m937).trans (fR_kept (x_lt hTH935 kH947 ga1 (by decide))).symm
                have m950 := (m938).trans (fI_kept (x_lt hTH935 kH947 gq894 (by decide))).symm
                have m951 := (m939).trans (fR_kept (x_lt hTH935 kH947 ga1 (by decide))).symm
                have m952 := (m940).trans (fI_kept (x_lt hTH935 kH947 gq896 (by decide))).symm
                refine W.eq (g2 := F0 m 152 ls903 []) rfl ?_
                exact J152 ls903 H947 locsH947 (lv_sub hl904 [2, 3, 4, 5, 6, 7] rfl) hTH947 hSH947 (by have := i_rng x881; omega)
  refine lv_iload_n hx hb dX5_goOn_0 rfl (lv_at hl 2 rfl) ?_
  refine lv_aload_n hx hb dX5_goOn_1 rfl (lv_at hl 1 rfl) ?_
  refine x_gi C hT (ci := 8) (k := 13) rfl inX8 (by decide) wF_X5_38 ga1 rg_0 rfl dX5_goOn_2 (fun x953 ex953 bx953 => ?_)
  refine lv_icmp_ge (tgt := 14) hx hb dX5_goOn_5 (by decide) (fun c954 => ?_) (fun c954 => ?_)
  · have k955 := i_le c954
    exact J14 ls s.heap [] (lv_sub hl [0, 4] rfl) hT hS 
  · have k955 := i_nle c954
    refine lv_iload_n hx hb dX5_goOn_8 rfl (lv_at hl 2 rfl) ?_
    refine lv_bipush (v := 8) hx hb dX5_goOn_9 (by decide) ?_
    refine lv_icmp_lt (tgt := 53) hx hb dX5_goOn_11 (by decide) (fun c956 => ?_) (fun c956 => ?_)
    · have k957 := i_lt c956
      refine lv_iconst (v := 0) hx hb dX5_goOn_53 (by decide) ?_
      refine lv_istore (lv' := [(5, .int 0), (0, .ref a0), (1, .ref a1), (2, .int x2), (3, .int x3), (4, .int x4)]) hx hb dX5_goOn_54 hl (by decide) rfl (fun ls958 hl959 => ?_)
      exact J56 ((8 - (0 : Int32).toInt).toNat + 1) ls958 s.heap [] (0) (lv_sub hl959 [1, 2, 3, 4, 5, 0] rfl) hT hS (by have := i_rng x2; omega) (by decide) (by omega)
    · have k957 := i_nlt c956
      exfalso
      omega

set_option maxHeartbeats 4000000 in
set_option maxRecDepth 100000 in
theorem a_X5_goOn_1 (l : Launch) (K : KE) (G : Nat → Option Nat) (H : Heap) {a0 : Nat} {a1 : Nat} (x2 : Int32) (x3 : Int32) (x4 : Int32) (hT : TY K G H) (ga0 : G a0 = some 104) (ga1 : G a1 = some 0) (hx2 : 1 ≤ x2.toInt ∧ x2.toInt ≤ 8) (hx3 : 0 ≤ x3.toInt ∧ x3.toInt ≤ 255) : MX l K yX5_goOn cX5_goOn 8 none 8 229 0 0 [.ref a0, .ref a1, .int x2, .int x3, .int x4] H (AE G [104, 105, 106, 107] H.size) (fun v H1 => v = none ∧ TY K G H1) := by
  refine MX.of (by decide +kernel) (Nat.le_of_ble_eq_true rfl) ?_
  intro p e s m below meth c ls Q C hH hl hQ
  subst hH
  have C : CX p K s m _ meth c RX5 cX5_goOn 8 none "goOn" := C
  obtain ⟨hx, hb, hml, hown, hts, hKT, hr, hlocks, hnm⟩ := id C
  have hl : lv_has ls 8 [(0, .ref a0), (1, .ref a1), (2, .int x2), (3, .int x3), (4, .int x4)] := hl
  have hS : va_S (AE G [104, 105, 106, 107] s.heap.size) s.heap s.heap [] := va_S.rf
  have n_m1 : ((-1) : Int32).toInt = -1 := rfl
  have n_0 : (0 : Int32).toInt = 0 := rfl
  have n_1 : (1 : Int32).toInt = 1 := rfl
  have n_8 : (8 : Int32).toInt = 8 := rfl
  have J14 : ∀ (ls852 : Array Slot) (H851 : Heap) (locsH851 : List Loc) , lv_has ls852 8 [(0, .ref a0), (4, .int x4)] → TY K G H851 → va_S (AE G [104, 105, 106, 107] s.heap.size) s.heap H851 locsH851 → W p l e ({ frames := 8, cells := 0, slots := 0, locals := 229 } : Room) s m (([.ref a0, .ref a1, .int x2, .int x3, .int x4] : List Value).toArray) below meth c H851 locsH851 0 0 Q (F0 m 14 ls852 []) := by
    intro ls852 H851 locsH851  hl853 hTH851 hSH851 
    have J52 : ∀ (ls856 : Array Slot) (H855 : Heap) (locsH855 : List Loc) , lv_has ls856 8 [] → TY K G H855 → va_S (AE G [104, 105, 106, 107] s.heap.size) s.heap H855 locsH855 → W p l e ({ frames := 8, cells := 0, slots := 0, locals := 229 } : Room) s m (([.ref a0, .ref a1, .int x2, .int x3, .int x4] : List Value).toArray) below meth c H855 locsH855 0 0 Q (F0 m 52 ls856 []) := by
      intro ls856 H855 locsH855  hl857 hTH855 hSH855 
      exact x_vret C hQ dX5_goOn_52 hSH855 (by decide) (by decide) (⟨rfl, hTH855⟩)
    have J31 : ∀ (ls860 : Array Slot) (H859 : Heap) (locsH859 : List Loc) , lv_has ls860 8 [(0, .ref a0), (4, .int x4)] → TY K G H859 → va_S (AE G [104, 105, 106, 107] s.heap.size) s.heap H859 locsH859 → W p l e ({ frames := 8, cells := 0, slots := 0, locals := 229 } : Room) s m (([.ref a0, .ref a1, .int x2, .int x3, .int x4] : List Value).toArray) below meth c H859 locsH859 0 0 Q (F0 m 31 ls860 []) := by
      intro ls860 H859 locsH859  hl861 hTH859 hSH859 
      refine lv_aload_n hx hb dX5_goOn_31 rfl (lv_at hl861 0 rfl) ?_
      refine lv_iload hx hb dX5_goOn_32 (lv_at hl861 1 rfl) ?_
      refine x_put C hTH859 hSH859 (ci := 5) (k := 3) (v := .int x4) (ty0 := tyX5) rfl inX5 tyX5_ok nmX5 (by decide) rfl wF_X5_27 ga0 rg_104 rfl rfl (okI (by have := i_rng x4; omega) (by have := i_rng x4; omega)) rfl rfl (AE_in ga0 (by decide)) dX5_goOn_34 (fun H863 locsH863 hTH863 hSH863 wH863 => ?_)
      have m864 := Wr.I wH863
      have m864 := m864.symm
      refine lv_aload_n hx hb dX5_goOn_37 rfl (lv_at hl861 0 rfl) ?_
      refine x_gr C hTH863 (ci := 5) (k := 1) rfl inX5 (by decide) wF_X5_15 ga0 rg_104 rfl dX5_goOn_38 (fun q865 eq865 gq865 => ?_)
      refine lv_iconst (v := 0) hx hb dX5_goOn_41 (by decide) ?_
      refine lv_aload_n hx hb dX5_goOn_42 rfl (lv_at hl861 0 rfl) ?_
      refine x_gr C hTH863 (ci := 5) (k := 0) rfl inX5 (by decide) wF_X5_9 ga0 rg_104 rfl dX5_goOn_43 (fun q866 eq866 gq866 => ?_)
      refine lv_iconst (v := 0) hx hb dX5_goOn_46 (by decide) ?_
      refine lv_bipush (v := 8) hx hb dX5_goOn_47 (by decide) ?_
      refine x_copy C hTH863 hSH863 wM_X5_43 wNT_arraycopy wST_arraycopy wIN_J10 gq865 gq866 rg_106 rg_105 (by decide) (by omega) (by omega) (by omega) (by show _ ≤ ((8 : Nat) : Int); omega) (by show _ ≤ ((8 : Nat) : Int); omega) (AE_in gq866 (by decide)) hl861.1 (by decide) dX5_goOn_49 (fun H867 locsH867 hTH867 hSH867 zH867 oH867 vH867 wH867 => ?_)
      have m868 := (m864).trans (fI_kept (oH867 _ (G_ne ga0 gq866 (by decide)))).symm
      have m869 := (eq865).trans (fR_kept (oH867 _ (G_ne ga0 gq866 (by decide)))).symm
      have m870 := (eq866).trans (fR_kept (oH867 _ (G_ne ga0 gq866 (by decide)))).symm
      exact J52 ls860 H867 locsH867 (lv_sub hl861 [] rfl) hTH867 hSH867 
    refine lv_aload_n hx hb dX5_goOn_14 rfl (lv_at hl853 0 rfl) ?_
    refine x_gi C hTH851 (ci := 5) (k := 3) rfl inX5 (by decide) wF_X5_27 ga0 rg_104 rfl dX5_goOn_15 (fun x871 ex871 bx871 => ?_)
    refine lv_iconst (v := (-1)) hx hb dX5_goOn_18 (by decide) ?_
    refine lv_icmp_eq (tgt := 31) hx hb dX5_goOn_19 (by decide) (fun c872 => ?_) (fun c872 => ?_)
    · have k873 := i_eq c872
      exact J31 ls852 H851 locsH851 (lv_sub hl853 [0, 1] rfl) hTH851 hSH851 
    · have k873 := i_ne c872
      refine lv_iload hx hb dX5_goOn_22 (lv_at hl853 1 rfl) ?_
      refine lv_aload_n hx hb dX5_goOn_24 rfl (lv_at hl853 0 rfl) ?_
      refine x_gi C hTH851 (ci := 5) (k := 3) rfl inX5 (by decide) wF_X5_27 ga0 rg_104 rfl dX5_goOn_25 (fun x874 ex874 bx874 => ?_)
      have ux874 : x871 = x874 := (ex871).trans ex874.symm
      subst ux874
      refine lv_icmp_ge (tgt := 52) hx hb dX5_goOn_28 (by decide) (fun c875 => ?_) (fun c875 => ?_)
      · have k876 := i_le c875
        exact J52 ls852 H851 locsH851 (lv_sub hl853 [] rfl) hTH851 hSH851 
      · have k876 := i_nle c875
        exact J31 ls852 H851 locsH851 (lv_sub hl853 [0, 1] rfl) hTH851 hSH851 
  have J56 : ∀ (nf : Nat) (ls878 : Array Slot) (H877 : Heap) (locsH877 : List Loc) (x881 : Int32), lv_has ls878 8 [(0, .ref a0), (1, .ref a1), (2, .int x2), (3, .int x3), (4, .int x4), (5, .int x881)] → TY K G H877 → va_S (AE G [104, 105, 106, 107] s.heap.size) s.heap H877 locsH877 → (1 ≤ x2.toInt ∧ x2.toInt ≤ 7) → (0 ≤ x881.toInt ∧ x881.toInt ≤ 8) → (8 - x881.toInt < (nf : Int)) → W p l e ({ frames := 8, cells := 0, slots := 0, locals := 229 } : Room) s m (([.ref a0, .ref a1, .int x2, .int x3, .int x4] : List Value).toArray) below meth c H877 locsH877 0 0 Q (F0 m 56 ls878 []) := by
    intro nf
    induction nf with
    | zero =>
      intro ls878 H877 locsH877 x881 hl879 hTH877 hSH877 b880 bx881 hm56
      exfalso
      omega
    | succ nf ih56 =>
      intro ls878 H877 locsH877 x881 hl879 hTH877 hSH877 b880 bx881 hm56
      have J152 : ∀ (ls884 : Array Slot) (H883 : Heap) (locsH883 : List Loc) , lv_has ls884 8 [(0, .ref a0), (1, .ref a1), (2, .int x2), (3, .int x3), (4, .int x4), (5, .int x881)] → TY K G H883 → va_S (AE G [104, 105, 106, 107] s.heap.size) s.heap H883 locsH883 → (0 ≤ x881.toInt ∧ x881.toInt ≤ 7) → W p l e ({ frames := 8, cells := 0, slots := 0, locals := 229 } : Room) s m (([.ref a0, .ref a1, .int x2, .int x3, .int x4] : List Value).toArray) below meth c H883 locsH883 0 0 Q (F0 m 152 ls884 []) := by
        intro ls884 H883 locsH883  hl885 hTH883 hSH883 b886
        obtain ⟨x888, ex888⟩ : ∃ y : Int32, y = x881 + 1 := ⟨_, rfl⟩
        have tx888 := i_add ex888 (by omega)
        refine lv_iinc (v := x888) (lv' := [(5, .int x888), (0, .ref a0), (1, .ref a1), (2, .int x2), (3, .int x3), (4, .int x4)]) hx hb dX5_goOn_152 hl885 (k := 5) rfl (by rw [ex888]; rfl) (by decide) rfl (fun ls889 hl890 => ?_)
        refine lv_goto (tgt := 56) hx hb dX5_goOn_155 (by decide) ?_
        exact ih56 ls889 H883 locsH883 (x888) (lv_sub hl890 [1, 2, 3, 4, 5, 0] rfl) hTH883 hSH883 (by have := i_rng x2; omega) (by have := i_rng x888; omega) (by omega)
      refine lv_iload hx hb dX5_goOn_56 (lv_at hl879 5 rfl) ?_
      refine lv_aload_n hx hb dX5_goOn_58 rfl (lv_at hl879 1 rfl) ?_
      refine x_gi C hTH877 (ci := 8) (k := 16) rfl inX8 (by decide) wF_X5_49 ga1 rg_0 rfl dX5_goOn_59 (fun x891 ex891 bx891 => ?_)
      refine lv_icmp_ge (tgt := 158) hx hb dX5_goOn_62 (by decide) (fun c892 => ?_) (fun c892 => ?_)
      · have k893 := i_le c892
        exact x_vret C hQ dX5_goOn_158 hSH877 (by decide) (by decide) (⟨rfl, hTH877⟩)
      · have k893 := i_nle c892
        refine lv_aload_n hx hb dX5_goOn_65 rfl (lv_at hl879 1 rfl) ?_
        refine x_gr C hTH877 (ci := 8) (k := 14) rfl inX8 (by decide) wF_X5_52 ga1 rg_0 rfl dX5_goOn_66 (fun q894 eq894 gq894 => ?_)
        refine lv_iload hx hb dX5_goOn_69 (lv_at hl879 5 rfl) ?_
        refine x_ai C hTH877 gq894 rg_32 ⟨by omega, by show _ < ((8 : Nat) : Int); omega⟩ dX5_goOn_71 (fun x895 ex895 bx895 => ?_)
        refine lv_aload_n hx hb dX5_goOn_72 rfl (lv_at hl879 1 rfl) ?_
        refine x_gr C hTH877 (ci := 8) (k := 12) rfl inX8 (by decide) wF_X5_55 ga1 rg_0 rfl dX5_goOn_73 (fun q896 eq896 gq896 => ?_)
        refine lv_iload_n hx hb dX5_goOn_76 rfl (lv_at hl879 2 rfl) ?_
        refine x_ai C hTH877 gq896 rg_31 ⟨by omega, by show _ < ((8 : Nat) : Int); omega⟩ dX5_goOn_77 (fun x897 ex897 bx897 => ?_)
        refine lv_isub hx hb dX5_goOn_78 ?_
        refine lv_topi (fun x898 ex898 => ?_)
        refine lv_istore (lv' := [(6, .int x898), (0, .ref a0), (1, .ref a1), (2, .int x2), (3, .int x3), (4, .int x4), (5, .int x881)]) hx hb dX5_goOn_79 hl879 (by decide) rfl (fun ls899 hl900 => ?_)
        refine lv_iload_n hx hb dX5_goOn_81 rfl (lv_at hl900 4 rfl) ?_
        refine lv_iconst (v := 1) hx hb dX5_goOn_82 (by decide) ?_
        refine lv_iload hx hb dX5_goOn_83 (lv_at hl900 6 rfl) ?_
        refine lv_ishl hx hb dX5_goOn_85 ?_
        refine lv_topi (fun x901 ex901 => ?_)
        have tx901 := i_shl7 ex901 (by omega)
        refine lv_ior hx hb dX5_goOn_86 ?_
        refine lv_topi (fun x902 ex902 => ?_)
        have tx902 := i_or8 ex902 (by omega) (by omega)
        refine lv_istore (lv' := [(7, .int x902), (6, .int x898), (0, .ref a0), (1, .ref a1), (2, .int x2), (3, .int x3), (4, .int x4), (5, .int x881)]) hx hb dX5_goOn_87 hl900 (by decide) rfl (fun ls903 hl904 => ?_)
        refine lv_iload hx hb dX5_goOn_89 (lv_at hl904 0 rfl) ?_
        refine lv_iload_n hx hb dX5_goOn_91 rfl (lv_at hl904 5 rfl) ?_
        refine lv_icmp_eq (tgt := 152) hx hb dX5_goOn_92 (by decide) (fun c905 => ?_) (fun c905 => ?_)
        · have k906 := i_eq c905
          exact J152 ls903 H877 locsH877 (lv_sub hl904 [2, 3, 4, 5, 6, 7] rfl) hTH877 hSH877 (by have := i_rng x881; omega)
        · have k906 := i_ne c905
          refine lv_iload hx hb dX5_goOn_95 (lv_at hl904 1 rfl) ?_
          refine lv_if_lt (tgt := 152) hx hb dX5_goOn_97 (by decide) (fun c907 => ?_) (fun c907 => ?_)
          · have k908 := i_lt c907
            exact J152 ls903 H877 locsH877 (lv_sub hl904 [2, 3, 4, 5, 6, 7] rfl) hTH877 hSH877 (by have := i_rng x881; omega)
          · have k908 := i_nlt c907
            refine lv_aload_n hx hb dX5_goOn_100 rfl (lv_at hl904 2 rfl) ?_
            refine x_gr C hTH877 (ci := 5) (k := 2) rfl inX5 (by decide) wF_X5_18 ga0 rg_104 rfl dX5_goOn_101 (fun q909 eq909 gq909 => ?_)
            refine lv_iload hx hb dX5_goOn_104 (lv_at hl904 0 rfl) ?_
            refine x_ai C hTH877 gq909 rg_107 ⟨by omega, by show _ < ((256 : Nat) : Int); omega⟩ dX5_goOn_106 (fun x910 ex910 bx910 => ?_)
            refine lv_if_ne (tgt := 152) hx hb dX5_goOn_107 (by decide) (fun c911 => ?_) (fun c911 => ?_)
            · have k912 := i_ne c911
              exact J152 ls903 H877 locsH877 (lv_sub hl904 [2, 3, 4, 5, 6, 7] rfl) hTH877 hSH877 (by have := i_rng x881; omega)
            · have k912 := i_eq c911
              refine lv_aload_n hx hb dX5_goOn_110 rfl (lv_at hl904 2 rfl) ?_
              refine lv_aload_n hx hb dX5_goOn_111 rfl (lv_at hl904 3 rfl) ?_
              refine lv_iload_n hx hb dX5_goOn_112 rfl (lv_at hl904 5 rfl) ?_
              refine lv_iload hx hb dX5_goOn_113 (lv_at hl904 7 rfl) ?_
              refine x_V (As := [.ref a1, .int x3, .int x881]) (rest := []) C (a_X5_ringsTogether l K G H877 (x3) (x881) hTH877 ga0 ga1 (by omega)) yo_X5_ringsTogether wM_X5_58 ⟨⟨by decide, by decide⟩, by decide, by decide⟩ (x_rv C hTH877 (ci := 5) rfl ga0 rg_104) rfl hl904.1 rfl (Nat.le_of_ble_eq_true rfl) dX5_goOn_115 hSH877 (AE_sub (fun _ _ => rfl) (by decide) hSH877.1) (fun vH913 H913 locsH913 pH913 zH913 kH913 hSH913 => ?_)
              obtain ⟨x914, hvH913, bx914, hTH913⟩ := pH913
              subst hvH913
              have m915 := (ex891).trans (fI_kept (x_lt hTH877 kH913 ga1 (by decide))).symm
              have m916 := (eq894).trans (fR_kept (x_lt hTH877 kH913 ga1 (by decide))).symm
              have m917 := (ex895).trans (fI_kept (x_lt hTH877 kH913 gq894 (by decide))).symm
              have m918 := (eq896).trans (fR_kept (x_lt hTH877 kH913 ga1 (by decide))).symm
              have m919 := (ex897).trans (fI_kept (x_lt hTH877 kH913 gq896 (by decide))).symm
              have m920 := (eq909).trans (fR_kept (x_lt hTH877 kH913 ga0 (by decide))).symm
              have m921 := (ex910).trans (fI_kept (x_lt hTH877 kH913 gq909 (by decide))).symm
              refine W.eq (g2 := F0 m 118 ls903 [.int x914]) rfl ?_
              refine lv_if_eq (tgt := 152) hx hb dX5_goOn_118 (by decide) (fun c922 => ?_) (fun c922 => ?_)
              · have k923 := i_eq c922
                exact J152 ls903 H913 locsH913 (lv_sub hl904 [2, 3, 4, 5, 6, 7] rfl) hTH913 hSH913 (by have := i_rng x881; omega)
              · have k923 := i_ne c922
                refine lv_aload_n hx hb dX5_goOn_121 rfl (lv_at hl904 2 rfl) ?_
                refine x_gr C hTH913 (ci := 5) (k := 2) rfl inX5 (by decide) wF_X5_18 ga0 rg_104 rfl dX5_goOn_122 (fun q924 eq924 gq924 => ?_)
                have uq924 : q909 = q924 := (m920).trans eq924.symm
                subst uq924
                refine lv_iload hx hb dX5_goOn_125 (lv_at hl904 0 rfl) ?_
                refine lv_iconst (v := 1) hx hb dX5_goOn_127 (by decide) ?_
                refine x_iast C hTH913 hSH913 gq909 rg_107 (by omega) (by show _ < ((256 : Nat) : Int); omega) (by decide) (AE_in gq909 (by decide)) dX5_goOn_128 (fun H925 locsH925 hTH925 hSH925 wH925 => ?_)
                have m926 := m915.trans (Wr.neI wH925 (Or.inl (G_ne ga1 gq909 (by decide)))).symm
                have m927 := m916.trans (Wr.neR wH925 (Or.inl (G_ne ga1 gq909 (by decide)))).symm
                have m928 := m917.trans (Wr.neI wH925 (Or.inl (G_ne gq894 gq909 (by decide)))).symm
                have m929 := m918.trans (Wr.neR wH925 (Or.inl (G_ne ga1 gq909 (by decide)))).symm
                have m930 := m919.trans (Wr.neI wH925 (Or.inl (G_ne gq896 gq909 (by decide)))).symm
                have m931 := m920.trans (Wr.neR wH925 (Or.inl (G_ne ga0 gq909 (by decide)))).symm
                have m933 := Wr.I wH925
                refine lv_aload_n hx hb dX5_goOn_129 rfl (lv_at hl904 2 rfl) ?_
                refine x_gr C hTH925 (ci := 5) (k := 1) rfl inX5 (by decide) wF_X5_15 ga0 rg_104 rfl dX5_goOn_130 (fun q934 eq934 gq934 => ?_)
                refine lv_iload_n hx hb dX5_goOn_133 rfl (lv_at hl904 4 rfl) ?_
                refine lv_iload hx hb dX5_goOn_134 (lv_at hl904 7 rfl) ?_
                refine x_iast C hTH925 hSH925 gq934 rg_106 (by omega) (by show _ < ((8 : Nat) : Int); omega) ⟨by have := i_rng x881; omega, by have := i_rng x881; omega⟩ (AE_in gq934 (by decide)) dX5_goOn_136 (fun H935 locsH935 hTH935 hSH935 wH935 => ?_)
                have m936 := m926.trans (Wr.neI wH935 (Or.inl (G_ne ga1 gq934 (by decide)))).symm
                have m937 := m927.trans (Wr.neR wH935 (Or.inl (G_ne ga1 gq934 (by decide)))).symm
                have m938 := m928.trans (Wr.neI wH935 (Or.inl (G_ne gq894 gq934 (by decide)))).symm
                have m939 := m929.trans (Wr.neR wH935 (Or.inl (G_ne ga1 gq934 (by decide)))).symm
                have m940 := m930.trans (Wr.neI wH935 (Or.inl (G_ne gq896 gq934 (by decide)))).symm
                have m941 := m931.trans (Wr.neR wH935 (Or.inl (G_ne ga0 gq934 (by decide)))).symm
                have m942 := (Wr.neI wH935 (Or.inl (G_ne gq909 gq934 (by decide)))).trans m933
                have m943 := eq934.trans (Wr.neR wH935 (Or.inl (G_ne ga0 gq934 (by decide)))).symm
                have m944 := Wr.I wH935
                have m944 := m944.symm
                refine lv_aload_n hx hb dX5_goOn_137 rfl (lv_at hl904 2 rfl) ?_
                refine lv_aload_n hx hb dX5_goOn_138 rfl (lv_at hl904 3 rfl) ?_
                refine lv_iload_n hx hb dX5_goOn_139 rfl (lv_at hl904 4 rfl) ?_
                refine lv_iconst (v := 1) hx hb dX5_goOn_140 (by decide) ?_
                refine lv_iadd hx hb dX5_goOn_141 ?_
                refine lv_topi (fun x945 ex945 => ?_)
                have tx945 := i_add ex945 (by omega)
                refine lv_iload hx hb dX5_goOn_142 (lv_at hl904 0 rfl) ?_
                refine lv_iload hx hb dX5_goOn_144 (lv_at hl904 6 rfl) ?_
                refine lv_iload hx hb dX5_goOn_146 (lv_at hl904 1 rfl) ?_
                refine lv_iadd hx hb dX5_goOn_148 ?_
                refine lv_topi (fun x946 ex946 => ?_)
                refine x_V (As := [.ref a1, .int x945, .int x902, .int x946]) (rest := []) C (a_X5_goOn_2 l K G H935 (x945) (x902) (x946) hTH935 ga0 ga1 (by omega) (by omega)) yo_X5_goOn wM_X5_34 ⟨⟨by decide, by decide⟩, by decide, by decide⟩ (x_rv C hTH935 (ci := 5) rfl ga0 rg_104) rfl hl904.1 rfl (Nat.le_of_ble_eq_true rfl) dX5_goOn_149 hSH935 (AE_sub (fun _ _ => rfl) (by decide) hSH935.1) (fun vH947 H947 locsH947 pH947 zH947 kH947 hSH947 => ?_)
                obtain ⟨hvH947, hTH947⟩ := pH947
                subst hvH947
                have m948 := (m936).trans (fI_kept (x_lt hTH935 kH947 ga1 (by decide))).symm
                have m949 := (m937).trans (fR_kept (x_lt hTH935 kH947 ga1 (by decide))).symm
                have m950 := (m938).trans (fI_kept (x_lt hTH935 kH947 gq894 (by decide))).symm
                have m951 := (m939).trans (fR_kept (x_lt hTH935 kH947 ga1 (by decide))).symm
                have m952 := (m940).trans (fI_kept (x_lt hTH935 kH947 gq896 (by decide))).symm
                refine W.eq (g2 := F0 m 152 ls903 []) rfl ?_
                exact J152 ls903 H947 locsH947 (lv_sub hl904 [2, 3, 4, 5, 6, 7] rfl) hTH947 hSH947 (by have := i_rng x881; omega)
  refine lv_iload_n hx hb dX5_goOn_0 rfl (lv_at hl 2 rfl) ?_
  refine lv_aload_n hx hb dX5_goOn_1 rfl (lv_at hl 1 rfl) ?_
  refine x_gi C hT (ci := 8) (k := 13) rfl inX8 (by decide) wF_X5_38 ga1 rg_0 rfl dX5_goOn_2 (fun x953 ex953 bx953 => ?_)
  refine lv_icmp_ge (tgt := 14) hx hb dX5_goOn_5 (by decide) (fun c954 => ?_) (fun c954 => ?_)
  · have k955 := i_le c954
    exact J14 ls s.heap [] (lv_sub hl [0, 4] rfl) hT hS 
  · have k955 := i_nle c954
    refine lv_iload_n hx hb dX5_goOn_8 rfl (lv_at hl 2 rfl) ?_
    refine lv_bipush (v := 8) hx hb dX5_goOn_9 (by decide) ?_
    refine lv_icmp_lt (tgt := 53) hx hb dX5_goOn_11 (by decide) (fun c956 => ?_) (fun c956 => ?_)
    · have k957 := i_lt c956
      refine lv_iconst (v := 0) hx hb dX5_goOn_53 (by decide) ?_
      refine lv_istore (lv' := [(5, .int 0), (0, .ref a0), (1, .ref a1), (2, .int x2), (3, .int x3), (4, .int x4)]) hx hb dX5_goOn_54 hl (by decide) rfl (fun ls958 hl959 => ?_)
      exact J56 ((8 - (0 : Int32).toInt).toNat + 1) ls958 s.heap [] (0) (lv_sub hl959 [1, 2, 3, 4, 5, 0] rfl) hT hS (by have := i_rng x2; omega) (by decide) (by omega)
    · have k957 := i_nlt c956
      exfalso
      omega

set_option maxHeartbeats 4000000 in
set_option maxRecDepth 100000 in
theorem a_X5_goOn_0 (l : Launch) (K : KE) (G : Nat → Option Nat) (H : Heap) {a0 : Nat} {a1 : Nat} (x2 : Int32) (x3 : Int32) (x4 : Int32) (hT : TY K G H) (ga0 : G a0 = some 104) (ga1 : G a1 = some 0) (hx2 : 0 ≤ x2.toInt ∧ x2.toInt ≤ 8) (hx3 : 0 ≤ x3.toInt ∧ x3.toInt ≤ 255) : MX l K yX5_goOn cX5_goOn 8 none 9 256 0 0 [.ref a0, .ref a1, .int x2, .int x3, .int x4] H (AE G [104, 105, 106, 107] H.size) (fun v H1 => v = none ∧ TY K G H1) := by
  refine MX.of (by decide +kernel) (Nat.le_of_ble_eq_true rfl) ?_
  intro p e s m below meth c ls Q C hH hl hQ
  subst hH
  have C : CX p K s m _ meth c RX5 cX5_goOn 8 none "goOn" := C
  obtain ⟨hx, hb, hml, hown, hts, hKT, hr, hlocks, hnm⟩ := id C
  have hl : lv_has ls 8 [(0, .ref a0), (1, .ref a1), (2, .int x2), (3, .int x3), (4, .int x4)] := hl
  have hS : va_S (AE G [104, 105, 106, 107] s.heap.size) s.heap s.heap [] := va_S.rf
  have n_m1 : ((-1) : Int32).toInt = -1 := rfl
  have n_0 : (0 : Int32).toInt = 0 := rfl
  have n_1 : (1 : Int32).toInt = 1 := rfl
  have n_8 : (8 : Int32).toInt = 8 := rfl
  have J14 : ∀ (ls852 : Array Slot) (H851 : Heap) (locsH851 : List Loc) , lv_has ls852 8 [(0, .ref a0), (4, .int x4)] → TY K G H851 → va_S (AE G [104, 105, 106, 107] s.heap.size) s.heap H851 locsH851 → W p l e ({ frames := 9, cells := 0, slots := 0, locals := 256 } : Room) s m (([.ref a0, .ref a1, .int x2, .int x3, .int x4] : List Value).toArray) below meth c H851 locsH851 0 0 Q (F0 m 14 ls852 []) := by
    intro ls852 H851 locsH851  hl853 hTH851 hSH851 
    have J52 : ∀ (ls856 : Array Slot) (H855 : Heap) (locsH855 : List Loc) , lv_has ls856 8 [] → TY K G H855 → va_S (AE G [104, 105, 106, 107] s.heap.size) s.heap H855 locsH855 → W p l e ({ frames := 9, cells := 0, slots := 0, locals := 256 } : Room) s m (([.ref a0, .ref a1, .int x2, .int x3, .int x4] : List Value).toArray) below meth c H855 locsH855 0 0 Q (F0 m 52 ls856 []) := by
      intro ls856 H855 locsH855  hl857 hTH855 hSH855 
      exact x_vret C hQ dX5_goOn_52 hSH855 (by decide) (by decide) (⟨rfl, hTH855⟩)
    have J31 : ∀ (ls860 : Array Slot) (H859 : Heap) (locsH859 : List Loc) , lv_has ls860 8 [(0, .ref a0), (4, .int x4)] → TY K G H859 → va_S (AE G [104, 105, 106, 107] s.heap.size) s.heap H859 locsH859 → W p l e ({ frames := 9, cells := 0, slots := 0, locals := 256 } : Room) s m (([.ref a0, .ref a1, .int x2, .int x3, .int x4] : List Value).toArray) below meth c H859 locsH859 0 0 Q (F0 m 31 ls860 []) := by
      intro ls860 H859 locsH859  hl861 hTH859 hSH859 
      refine lv_aload_n hx hb dX5_goOn_31 rfl (lv_at hl861 0 rfl) ?_
      refine lv_iload hx hb dX5_goOn_32 (lv_at hl861 1 rfl) ?_
      refine x_put C hTH859 hSH859 (ci := 5) (k := 3) (v := .int x4) (ty0 := tyX5) rfl inX5 tyX5_ok nmX5 (by decide) rfl wF_X5_27 ga0 rg_104 rfl rfl (okI (by have := i_rng x4; omega) (by have := i_rng x4; omega)) rfl rfl (AE_in ga0 (by decide)) dX5_goOn_34 (fun H863 locsH863 hTH863 hSH863 wH863 => ?_)
      have m864 := Wr.I wH863
      have m864 := m864.symm
      refine lv_aload_n hx hb dX5_goOn_37 rfl (lv_at hl861 0 rfl) ?_
      refine x_gr C hTH863 (ci := 5) (k := 1) rfl inX5 (by decide) wF_X5_15 ga0 rg_104 rfl dX5_goOn_38 (fun q865 eq865 gq865 => ?_)
      refine lv_iconst (v := 0) hx hb dX5_goOn_41 (by decide) ?_
      refine lv_aload_n hx hb dX5_goOn_42 rfl (lv_at hl861 0 rfl) ?_
      refine x_gr C hTH863 (ci := 5) (k := 0) rfl inX5 (by decide) wF_X5_9 ga0 rg_104 rfl dX5_goOn_43 (fun q866 eq866 gq866 => ?_)
      refine lv_iconst (v := 0) hx hb dX5_goOn_46 (by decide) ?_
      refine lv_bipush (v := 8) hx hb dX5_goOn_47 (by decide) ?_
      refine x_copy C hTH863 hSH863 wM_X5_43 wNT_arraycopy wST_arraycopy wIN_J10 gq865 gq866 rg_106 rg_105 (by decide) (by omega) (by omega) (by omega) (by show _ ≤ ((8 : Nat) : Int); omega) (by show _ ≤ ((8 : Nat) : Int); omega) (AE_in gq866 (by decide)) hl861.1 (by decide) dX5_goOn_49 (fun H867 locsH867 hTH867 hSH867 zH867 oH867 vH867 wH867 => ?_)
      have m868 := (m864).trans (fI_kept (oH867 _ (G_ne ga0 gq866 (by decide)))).symm
      have m869 := (eq865).trans (fR_kept (oH867 _ (G_ne ga0 gq866 (by decide)))).symm
      have m870 := (eq866).trans (fR_kept (oH867 _ (G_ne ga0 gq866 (by decide)))).symm
      exact J52 ls860 H867 locsH867 (lv_sub hl861 [] rfl) hTH867 hSH867 
    refine lv_aload_n hx hb dX5_goOn_14 rfl (lv_at hl853 0 rfl) ?_
    refine x_gi C hTH851 (ci := 5) (k := 3) rfl inX5 (by decide) wF_X5_27 ga0 rg_104 rfl dX5_goOn_15 (fun x871 ex871 bx871 => ?_)
    refine lv_iconst (v := (-1)) hx hb dX5_goOn_18 (by decide) ?_
    refine lv_icmp_eq (tgt := 31) hx hb dX5_goOn_19 (by decide) (fun c872 => ?_) (fun c872 => ?_)
    · have k873 := i_eq c872
      exact J31 ls852 H851 locsH851 (lv_sub hl853 [0, 1] rfl) hTH851 hSH851 
    · have k873 := i_ne c872
      refine lv_iload hx hb dX5_goOn_22 (lv_at hl853 1 rfl) ?_
      refine lv_aload_n hx hb dX5_goOn_24 rfl (lv_at hl853 0 rfl) ?_
      refine x_gi C hTH851 (ci := 5) (k := 3) rfl inX5 (by decide) wF_X5_27 ga0 rg_104 rfl dX5_goOn_25 (fun x874 ex874 bx874 => ?_)
      have ux874 : x871 = x874 := (ex871).trans ex874.symm
      subst ux874
      refine lv_icmp_ge (tgt := 52) hx hb dX5_goOn_28 (by decide) (fun c875 => ?_) (fun c875 => ?_)
      · have k876 := i_le c875
        exact J52 ls852 H851 locsH851 (lv_sub hl853 [] rfl) hTH851 hSH851 
      · have k876 := i_nle c875
        exact J31 ls852 H851 locsH851 (lv_sub hl853 [0, 1] rfl) hTH851 hSH851 
  have J56 : ∀ (nf : Nat) (ls878 : Array Slot) (H877 : Heap) (locsH877 : List Loc) (x881 : Int32), lv_has ls878 8 [(0, .ref a0), (1, .ref a1), (2, .int x2), (3, .int x3), (4, .int x4), (5, .int x881)] → TY K G H877 → va_S (AE G [104, 105, 106, 107] s.heap.size) s.heap H877 locsH877 → (0 ≤ x2.toInt ∧ x2.toInt ≤ 7) → (0 ≤ x881.toInt ∧ x881.toInt ≤ 8) → (8 - x881.toInt < (nf : Int)) → W p l e ({ frames := 9, cells := 0, slots := 0, locals := 256 } : Room) s m (([.ref a0, .ref a1, .int x2, .int x3, .int x4] : List Value).toArray) below meth c H877 locsH877 0 0 Q (F0 m 56 ls878 []) := by
    intro nf
    induction nf with
    | zero =>
      intro ls878 H877 locsH877 x881 hl879 hTH877 hSH877 b880 bx881 hm56
      exfalso
      omega
    | succ nf ih56 =>
      intro ls878 H877 locsH877 x881 hl879 hTH877 hSH877 b880 bx881 hm56
      have J152 : ∀ (ls884 : Array Slot) (H883 : Heap) (locsH883 : List Loc) , lv_has ls884 8 [(0, .ref a0), (1, .ref a1), (2, .int x2), (3, .int x3), (4, .int x4), (5, .int x881)] → TY K G H883 → va_S (AE G [104, 105, 106, 107] s.heap.size) s.heap H883 locsH883 → (0 ≤ x881.toInt ∧ x881.toInt ≤ 7) → W p l e ({ frames := 9, cells := 0, slots := 0, locals := 256 } : Room) s m (([.ref a0, .ref a1, .int x2, .int x3, .int x4] : List Value).toArray) below meth c H883 locsH883 0 0 Q (F0 m 152 ls884 []) := by
        intro ls884 H883 locsH883  hl885 hTH883 hSH883 b886
        obtain ⟨x888, ex888⟩ : ∃ y : Int32, y = x881 + 1 := ⟨_, rfl⟩
        have tx888 := i_add ex888 (by omega)
        refine lv_iinc (v := x888) (lv' := [(5, .int x888), (0, .ref a0), (1, .ref a1), (2, .int x2), (3, .int x3), (4, .int x4)]) hx hb dX5_goOn_152 hl885 (k := 5) rfl (by rw [ex888]; rfl) (by decide) rfl (fun ls889 hl890 => ?_)
        refine lv_goto (tgt := 56) hx hb dX5_goOn_155 (by decide) ?_
        exact ih56 ls889 H883 locsH883 (x888) (lv_sub hl890 [1, 2, 3, 4, 5, 0] rfl) hTH883 hSH883 (by have := i_rng x2; omega) (by have := i_rng x888; omega) (by omega)
      refine lv_iload hx hb dX5_goOn_56 (lv_at hl879 5 rfl) ?_
      refine lv_aload_n hx hb dX5_goOn_58 rfl (lv_at hl879 1 rfl) ?_
      refine x_gi C hTH877 (ci := 8) (k := 16) rfl inX8 (by decide) wF_X5_49 ga1 rg_0 rfl dX5_goOn_59 (fun x891 ex891 bx891 => ?_)
      refine lv_icmp_ge (tgt := 158) hx hb dX5_goOn_62 (by decide) (fun c892 => ?_) (fun c892 => ?_)
      · have k893 := i_le c892
        exact x_vret C hQ dX5_goOn_158 hSH877 (by decide) (by decide) (⟨rfl, hTH877⟩)
      · have k893 := i_nle c892
        refine lv_aload_n hx hb dX5_goOn_65 rfl (lv_at hl879 1 rfl) ?_
        refine x_gr C hTH877 (ci := 8) (k := 14) rfl inX8 (by decide) wF_X5_52 ga1 rg_0 rfl dX5_goOn_66 (fun q894 eq894 gq894 => ?_)
        refine lv_iload hx hb dX5_goOn_69 (lv_at hl879 5 rfl) ?_
        refine x_ai C hTH877 gq894 rg_32 ⟨by omega, by show _ < ((8 : Nat) : Int); omega⟩ dX5_goOn_71 (fun x895 ex895 bx895 => ?_)
        refine lv_aload_n hx hb dX5_goOn_72 rfl (lv_at hl879 1 rfl) ?_
        refine x_gr C hTH877 (ci := 8) (k := 12) rfl inX8 (by decide) wF_X5_55 ga1 rg_0 rfl dX5_goOn_73 (fun q896 eq896 gq896 => ?_)
        refine lv_iload_n hx hb dX5_goOn_76 rfl (lv_at hl879 2 rfl) ?_
        refine x_ai C hTH877 gq896 rg_31 ⟨by omega, by show _ < ((8 : Nat) : Int); omega⟩ dX5_goOn_77 (fun x897 ex897 bx897 => ?_)
        refine lv_isub hx hb dX5_goOn_78 ?_
        refine lv_topi (fun x898 ex898 => ?_)
        refine lv_istore (lv' := [(6, .int x898), (0, .ref a0), (1, .ref a1), (2, .int x2), (3, .int x3), (4, .int x4), (5, .int x881)]) hx hb dX5_goOn_79 hl879 (by decide) rfl (fun ls899 hl900 => ?_)
        refine lv_iload_n hx hb dX5_goOn_81 rfl (lv_at hl900 4 rfl) ?_
        refine lv_iconst (v := 1) hx hb dX5_goOn_82 (by decide) ?_
        refine lv_iload hx hb dX5_goOn_83 (lv_at hl900 6 rfl) ?_
        refine lv_ishl hx hb dX5_goOn_85 ?_
        refine lv_topi (fun x901 ex901 => ?_)
        have tx901 := i_shl7 ex901 (by omega)
        refine lv_ior hx hb dX5_goOn_86 ?_
        refine lv_topi (fun x902 ex902 => ?_)
        have tx902 := i_or8 ex902 (by omega) (by omega)
        refine lv_istore (lv' := [(7, .int x902), (6, .int x898), (0, .ref a0), (1, .ref a1), (2, .int x2), (3, .int x3), (4, .int x4), (5, .int x881)]) hx hb dX5_goOn_87 hl900 (by decide) rfl (fun ls903 hl904 => ?_)
        refine lv_iload hx hb dX5_goOn_89 (lv_at hl904 0 rfl) ?_
        refine lv_iload_n hx hb dX5_goOn_91 rfl (lv_at hl904 5 rfl) ?_
        refine lv_icmp_eq (tgt := 152) hx hb dX5_goOn_92 (by decide) (fun c905 => ?_) (fun c905 => ?_)
        · have k906 := i_eq c905
          exact J152 ls903 H877 locsH877 (lv_sub hl904 [2, 3, 4, 5, 6, 7] rfl) hTH877 hSH877 (by have := i_rng x881; omega)
        · have k906 := i_ne c905
          refine lv_iload hx hb dX5_goOn_95 (lv_at hl904 1 rfl) ?_
          refine lv_if_lt (tgt := 152) hx hb dX5_goOn_97 (by decide) (fun c907 => ?_) (fun c907 => ?_)
          · have k908 := i_lt c907
            exact J152 ls903 H877 locsH877 (lv_sub hl904 [2, 3, 4, 5, 6, 7] rfl) hTH877 hSH877 (by have := i_rng x881; omega)
          · have k908 := i_nlt c907
            refine lv_aload_n hx hb dX5_goOn_100 rfl (lv_at hl904 2 rfl) ?_
            refine x_gr C hTH877 (ci := 5) (k := 2) rfl inX5 (by decide) wF_X5_18 ga0 rg_104 rfl dX5_goOn_101 (fun q909 eq909 gq909 => ?_)
            refine lv_iload hx hb dX5_goOn_104 (lv_at hl904 0 rfl) ?_
            refine x_ai C hTH877 gq909 rg_107 ⟨by omega, by show _ < ((256 : Nat) : Int); omega⟩ dX5_goOn_106 (fun x910 ex910 bx910 => ?_)
            refine lv_if_ne (tgt := 152) hx hb dX5_goOn_107 (by decide) (fun c911 => ?_) (fun c911 => ?_)
            · have k912 := i_ne c911
              exact J152 ls903 H877 locsH877 (lv_sub hl904 [2, 3, 4, 5, 6, 7] rfl) hTH877 hSH877 (by have := i_rng x881; omega)
            · have k912 := i_eq c911
              refine lv_aload_n hx hb dX5_goOn_110 rfl (lv_at hl904 2 rfl) ?_
              refine lv_aload_n hx hb dX5_goOn_111 rfl (lv_at hl904 3 rfl) ?_
              refine lv_iload_n hx hb dX5_goOn_112 rfl (lv_at hl904 5 rfl) ?_
              refine lv_iload hx hb dX5_goOn_113 (lv_at hl904 7 rfl) ?_
              refine x_V (As := [.ref a1, .int x3, .int x881]) (rest := []) C (a_X5_ringsTogether l K G H877 (x3) (x881) hTH877 ga0 ga1 (by omega)) yo_X5_ringsTogether wM_X5_58 ⟨⟨by decide, by decide⟩, by decide, by decide⟩ (x_rv C hTH877 (ci := 5) rfl ga0 rg_104) rfl hl904.1 rfl (Nat.le_of_ble_eq_true rfl) dX5_goOn_115 hSH877 (AE_sub (fun _ _ => rfl) (by decide) hSH877.1) (fun vH913 H913 locsH913 pH913 zH913 kH913 hSH913 => ?_)
              obtain ⟨x914, hvH913, bx914, hTH913⟩ := pH913
              subst hvH913
              have m915 := (ex891).trans (fI_kept (x_lt hTH877 kH913 ga1 (by decide))).symm
              have m916 := (eq894).trans (fR_kept (x_lt hTH877 kH913 ga1 (by decide))).symm
              have m917 := (ex895).trans (fI_kept (x_lt hTH877 kH913 gq894 (by decide))).symm
              have m918 := (eq896).trans (fR_kept (x_lt hTH877 kH913 ga1 (by decide))).symm
              have m919 := (ex897).trans (fI_kept (x_lt hTH877 kH913 gq896 (by decide))).symm
              have m920 := (eq909).trans (fR_kept (x_lt hTH877 kH913 ga0 (by decide))).symm
              have m921 := (ex910).trans (fI_kept (x_lt hTH877 kH913 gq909 (by decide))).symm
              refine W.eq (g2 := F0 m 118 ls903 [.int x914]) rfl ?_
              refine lv_if_eq (tgt := 152) hx hb dX5_goOn_118 (by decide) (fun c922 => ?_) (fun c922 => ?_)
              · have k923 := i_eq c922
                exact J152 ls903 H913 locsH913 (lv_sub hl904 [2, 3, 4, 5, 6, 7] rfl) hTH913 hSH913 (by have := i_rng x881; omega)
              · have k923 := i_ne c922
                refine lv_aload_n hx hb dX5_goOn_121 rfl (lv_at hl904 2 rfl) ?_
                refine x_gr C hTH913 (ci := 5) (k := 2) rfl inX5 (by decide) wF_X5_18 ga0 rg_104 rfl dX5_goOn_122 (fun q924 eq924 gq924 => ?_)
                have uq924 : q909 = q924 := (m920).trans eq924.symm
                subst uq924
                refine lv_iload hx hb dX5_goOn_125 (lv_at hl904 0 rfl) ?_
                refine lv_iconst (v := 1) hx hb dX5_goOn_127 (by decide) ?_
                refine x_iast C hTH913 hSH913 gq909 rg_107 (by omega) (by show _ < ((256 : Nat) : Int); omega) (by decide) (AE_in gq909 (by decide)) dX5_goOn_128 (fun H925 locsH925 hTH925 hSH925 wH925 => ?_)
                have m926 := m915.trans (Wr.neI wH925 (Or.inl (G_ne ga1 gq909 (by decide)))).symm
                have m927 := m916.trans (Wr.neR wH925 (Or.inl (G_ne ga1 gq909 (by decide)))).symm
                have m928 := m917.trans (Wr.neI wH925 (Or.inl (G_ne gq894 gq909 (by decide)))).symm
                have m929 := m918.trans (Wr.neR wH925 (Or.inl (G_ne ga1 gq909 (by decide)))).symm
                have m930 := m919.trans (Wr.neI wH925 (Or.inl (G_ne gq896 gq909 (by decide)))).symm
                have m931 := m920.trans (Wr.neR wH925 (Or.inl (G_ne ga0 gq909 (by decide)))).symm
                have m933 := Wr.I wH925
                refine lv_aload_n hx hb dX5_goOn_129 rfl (lv_at hl904 2 rfl) ?_
                refine x_gr C hTH925 (ci := 5) (k := 1) rfl inX5 (by decide) wF_X5_15 ga0 rg_104 rfl dX5_goOn_130 (fun q934 eq934 gq934 => ?_)
                refine lv_iload_n hx hb dX5_goOn_133 rfl (lv_at hl904 4 rfl) ?_
                refine lv_iload hx hb dX5_goOn_134 (lv_at hl904 7 rfl) ?_
                refine x_iast C hTH925 hSH925 gq934 rg_106 (by omega) (by show _ < ((8 : Nat) : Int); omega) ⟨by have := i_rng x881; omega, by have := i_rng x881; omega⟩ (AE_in gq934 (by decide)) dX5_goOn_136 (fun H935 locsH935 hTH935 hSH935 wH935 => ?_)
                have m936 := m926.trans (Wr.neI wH935 (Or.inl (G_ne ga1 gq934 (by decide)))).symm
                have m937 := m927.trans (Wr.neR wH935 (Or.inl (G_ne ga1 gq934 (by decide)))).symm
                have m938 := m928.trans (Wr.neI wH935 (Or.inl (G_ne gq894 gq934 (by decide)))).symm
                have m939 := m929.trans (Wr.neR wH935 (Or.inl (G_ne ga1 gq934 (by decide)))).symm
                have m940 := m930.trans (Wr.neI wH935 (Or.inl (G_ne gq896 gq934 (by decide)))).symm
                have m941 := m931.trans (Wr.neR wH935 (Or.inl (G_ne ga0 gq934 (by decide)))).symm
                have m942 := (Wr.neI wH935 (Or.inl (G_ne gq909 gq934 (by decide)))).trans m933
                have m943 := eq934.trans (Wr.neR wH935 (Or.inl (G_ne ga0 gq934 (by decide)))).symm
                have m944 := Wr.I wH935
                have m944 := m944.symm
                refine lv_aload_n hx hb dX5_goOn_137 rfl (lv_at hl904 2 rfl) ?_
                refine lv_aload_n hx hb dX5_goOn_138 rfl (lv_at hl904 3 rfl) ?_
                refine lv_iload_n hx hb dX5_goOn_139 rfl (lv_at hl904 4 rfl) ?_
                refine lv_iconst (v := 1) hx hb dX5_goOn_140 (by decide) ?_
                refine lv_iadd hx hb dX5_goOn_141 ?_
                refine lv_topi (fun x945 ex945 => ?_)
                have tx945 := i_add ex945 (by omega)
                refine lv_iload hx hb dX5_goOn_142 (lv_at hl904 0 rfl) ?_
                refine lv_iload hx hb dX5_goOn_144 (lv_at hl904 6 rfl) ?_
                refine lv_iload hx hb dX5_goOn_146 (lv_at hl904 1 rfl) ?_
                refine lv_iadd hx hb dX5_goOn_148 ?_
                refine lv_topi (fun x946 ex946 => ?_)
                refine x_V (As := [.ref a1, .int x945, .int x902, .int x946]) (rest := []) C (a_X5_goOn_1 l K G H935 (x945) (x902) (x946) hTH935 ga0 ga1 (by omega) (by omega)) yo_X5_goOn wM_X5_34 ⟨⟨by decide, by decide⟩, by decide, by decide⟩ (x_rv C hTH935 (ci := 5) rfl ga0 rg_104) rfl hl904.1 rfl (Nat.le_of_ble_eq_true rfl) dX5_goOn_149 hSH935 (AE_sub (fun _ _ => rfl) (by decide) hSH935.1) (fun vH947 H947 locsH947 pH947 zH947 kH947 hSH947 => ?_)
                obtain ⟨hvH947, hTH947⟩ := pH947
                subst hvH947
                have m948 := (m936).trans (fI_kept (x_lt hTH935 kH947 ga1 (by decide))).symm
                have m949 := (m937).trans (fR_kept (x_lt hTH935 kH947 ga1 (by decide))).symm
                have m950 := (m938).trans (fI_kept (x_lt hTH935 kH947 gq894 (by decide))).symm
                have m951 := (m939).trans (fR_kept (x_lt hTH935 kH947 ga1 (by decide))).symm
                have m952 := (m940).trans (fI_kept (x_lt hTH935 kH947 gq896 (by decide))).symm
                refine W.eq (g2 := F0 m 152 ls903 []) rfl ?_
                exact J152 ls903 H947 locsH947 (lv_sub hl904 [2, 3, 4, 5, 6, 7] rfl) hTH947 hSH947 (by have := i_rng x881; omega)
  refine lv_iload_n hx hb dX5_goOn_0 rfl (lv_at hl 2 rfl) ?_
  refine lv_aload_n hx hb dX5_goOn_1 rfl (lv_at hl 1 rfl) ?_
  refine x_gi C hT (ci := 8) (k := 13) rfl inX8 (by decide) wF_X5_38 ga1 rg_0 rfl dX5_goOn_2 (fun x953 ex953 bx953 => ?_)
  refine lv_icmp_ge (tgt := 14) hx hb dX5_goOn_5 (by decide) (fun c954 => ?_) (fun c954 => ?_)
  · have k955 := i_le c954
    exact J14 ls s.heap [] (lv_sub hl [0, 4] rfl) hT hS 
  · have k955 := i_nle c954
    refine lv_iload_n hx hb dX5_goOn_8 rfl (lv_at hl 2 rfl) ?_
    refine lv_bipush (v := 8) hx hb dX5_goOn_9 (by decide) ?_
    refine lv_icmp_lt (tgt := 53) hx hb dX5_goOn_11 (by decide) (fun c956 => ?_) (fun c956 => ?_)
    · have k957 := i_lt c956
      refine lv_iconst (v := 0) hx hb dX5_goOn_53 (by decide) ?_
      refine lv_istore (lv' := [(5, .int 0), (0, .ref a0), (1, .ref a1), (2, .int x2), (3, .int x3), (4, .int x4)]) hx hb dX5_goOn_54 hl (by decide) rfl (fun ls958 hl959 => ?_)
      exact J56 ((8 - (0 : Int32).toInt).toNat + 1) ls958 s.heap [] (0) (lv_sub hl959 [1, 2, 3, 4, 5, 0] rfl) hT hS (by have := i_rng x2; omega) (by decide) (by omega)
    · have k957 := i_nlt c956
      exfalso
      omega

set_option maxHeartbeats 4000000 in
set_option maxRecDepth 100000 in
theorem a_X5_find (l : Launch) (K : KE) (G : Nat → Option Nat) (H : Heap) {a0 : Nat} {a1 : Nat} (x2 : Int32) (hT : TY K G H) (ga0 : G a0 = some 104) (ga1 : G a1 = some 0) : MX l K yX5_find cX5_find 3 (some .int) 10 283 0 0 [.ref a0, .ref a1, .int x2] H (AE G [104, 105, 106, 107] H.size) (fun v H1 => ∃ (r : Int32), v = some (.int r) ∧ TY K G H1) := by
  refine MX.of (by decide +kernel) (Nat.le_of_ble_eq_true rfl) ?_
  intro p e s m below meth c ls Q C hH hl hQ
  subst hH
  have C : CX p K s m _ meth c RX5 cX5_find 3 (some .int) "find" := C
  obtain ⟨hx, hb, hml, hown, hts, hKT, hr, hlocks, hnm⟩ := id C
  have hl : lv_has ls 3 [(0, .ref a0), (1, .ref a1), (2, .int x2)] := hl
  have hS : va_S (AE G [104, 105, 106, 107] s.heap.size) s.heap s.heap [] := va_S.rf
  have n_m1 : ((-1) : Int32).toInt = -1 := rfl
  have n_0 : (0 : Int32).toInt = 0 := rfl
  refine lv_aload_n hx hb dX5_find_0 rfl (lv_at hl 0 rfl) ?_
  refine x_gr C hT (ci := 5) (k := 2) rfl inX5 (by decide) wF_X5_18 ga0 rg_104 rfl dX5_find_1 (fun q149 eq149 gq149 => ?_)
  refine lv_iconst (v := 0) hx hb dX5_find_4 (by decide) ?_
  refine x_S (As := [.ref q149, .int 0]) (rest := []) C (c_fill l K G s.heap (0) hT gq149 rg_107 (by decide) ⟨by have := i_rng (0 : Int32); omega, by have := i_rng (0 : Int32); omega⟩) yo_J7_fill_53178 wM_X5_21 ⟨⟨by decide, by decide⟩, by decide, by decide⟩ rfl hl.1 rfl (Nat.le_of_ble_eq_true rfl) dX5_find_5 hS (AE_sub (fun _ _ => rfl) (by decide) hS.1) (fun vH150 H150 locsH150 pH150 zH150 kH150 hSH150 => ?_)
  have hTH150 := pH150.2.1
  have hvH150 := pH150.1
  subst hvH150
  have m151 := (eq149).trans (fR_kept (x_lt hT kH150 ga0 (by decide))).symm
  refine W.eq (g2 := F0 m 8 ls []) rfl ?_
  refine lv_aload_n hx hb dX5_find_8 rfl (lv_at hl 0 rfl) ?_
  refine lv_iconst (v := (-1)) hx hb dX5_find_9 (by decide) ?_
  refine x_put C hTH150 hSH150 (ci := 5) (k := 3) (v := .int (-1)) (ty0 := tyX5) rfl inX5 tyX5_ok nmX5 (by decide) rfl wF_X5_27 ga0 rg_104 rfl rfl (okI (by have := i_rng ((-1) : Int32); omega) (by have := i_rng ((-1) : Int32); omega)) rfl rfl (AE_in ga0 (by decide)) dX5_find_10 (fun H152 locsH152 hTH152 hSH152 wH152 => ?_)
  have m153 := m151.trans (Wr.neR wH152 (Or.inr (x_apart hKT hts inX5 tyX5 tyX5_ok nmX5 rfl 2 3 (by decide) (by decide) (by decide)))).symm
  have m154 := Wr.I wH152
  refine lv_aload_n hx hb dX5_find_13 rfl (lv_at hl 0 rfl) ?_
  refine lv_iload_n hx hb dX5_find_14 rfl (lv_at hl 2 rfl) ?_
  refine x_put C hTH152 hSH152 (ci := 5) (k := 4) (v := .int x2) (ty0 := tyX5) rfl inX5 tyX5_ok nmX5 (by decide) rfl wF_X5_31 ga0 rg_104 rfl rfl (okI (by have := i_rng x2; omega) (by have := i_rng x2; omega)) rfl rfl (AE_in ga0 (by decide)) dX5_find_15 (fun H155 locsH155 hTH155 hSH155 wH155 => ?_)
  have m156 := m153.trans (Wr.neR wH155 (Or.inr (x_apart hKT hts inX5 tyX5 tyX5_ok nmX5 rfl 2 4 (by decide) (by decide) (by decide)))).symm
  have m157 := (Wr.neI wH155 (Or.inr (x_apart hKT hts inX5 tyX5 tyX5_ok nmX5 rfl 3 4 (by decide) (by decide) (by decide)))).trans m154
  have m158 := Wr.I wH155
  have m158 := m158.symm
  refine lv_aload_n hx hb dX5_find_18 rfl (lv_at hl 0 rfl) ?_
  refine lv_aload_n hx hb dX5_find_19 rfl (lv_at hl 1 rfl) ?_
  refine lv_iconst (v := 0) hx hb dX5_find_20 (by decide) ?_
  refine lv_iconst (v := 0) hx hb dX5_find_21 (by decide) ?_
  refine lv_iconst (v := 0) hx hb dX5_find_22 (by decide) ?_
  refine x_V (As := [.ref a1, .int 0, .int 0, .int 0]) (rest := []) C (a_X5_goOn_0 l K G H155 (0) (0) (0) hTH155 ga0 ga1 (by decide) (by decide)) yo_X5_goOn wM_X5_34 ⟨⟨by decide, by decide⟩, by decide, by decide⟩ (x_rv C hTH155 (ci := 5) rfl ga0 rg_104) rfl hl.1 rfl (Nat.le_of_ble_eq_true rfl) dX5_find_23 hSH155 (AE_sub (fun _ _ => rfl) (by decide) hSH155.1) (fun vH159 H159 locsH159 pH159 zH159 kH159 hSH159 => ?_)
  obtain ⟨hvH159, hTH159⟩ := pH159
  subst hvH159
  refine W.eq (g2 := F0 m 26 ls []) rfl ?_
  refine lv_aload_n hx hb dX5_find_26 rfl (lv_at hl 0 rfl) ?_
  refine x_gi C hTH159 (ci := 5) (k := 3) rfl inX5 (by decide) wF_X5_27 ga0 rg_104 rfl dX5_find_27 (fun x160 ex160 bx160 => ?_)
  exact x_iret C hQ dX5_find_30 hSH159 (by decide) (by decide) (⟨x160, rfl, hTH159⟩)
