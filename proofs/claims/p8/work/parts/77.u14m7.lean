/-! ===== the reference's numbers of a line ===== -/
def hnI (kk vv : Nat → Int) (lw x : Int) (i : Nat) : Option Nat := if lw ≠ 0 then hlI kk vv x i else hjI kk vv (if x = 17 then 6 else x) i
/-- a line's word on both sides -/
def HX (lw w x : Int) : Prop := (lw ≠ 0 ∧ x = w) ∨ (lw = 0 ∧ ((w = 6 ∧ x = 17) ∨ (w = x ∧ x ≠ 17)))
theorem hn_l3 {kk vv : Nat → Int} {lw x : Int} {i : Nat} (hl : lw ≠ 0) (hx : x = 3) : hnI kk vv lw x i = some i := (if_pos hl).trans (if_pos hx)
theorem hn_l {kk vv : Nat → Int} {lw x : Int} {i : Nat} {o : Option Nat} (hl : lw ≠ 0) (hx : x ≠ 3) (h : nmI kk vv 0 2 i = o) : hnI kk vv lw x i = o := ((if_pos hl).trans (if_neg hx)).trans h
theorem hn_j {kk vv : Nat → Int} {lw x : Int} {i : Nat} (hl : lw = 0) : hnI kk vv lw x i = hjI kk vv (if x = 17 then 6 else x) i := if_neg (by omega)
theorem hn_j1 {kk vv : Nat → Int} {lw x : Int} {i : Nat} (hl : lw = 0) (h : nmI kk vv 0 15 i = none) : hnI kk vv lw x i = none := (hn_j hl).trans (hj_no1 h)
theorem hn_j2 {kk vv : Nat → Int} {lw x : Int} {i j : Nat} (hl : lw = 0) (h : nmI kk vv 0 15 i = some j) (hx : x = 5) (h2 : nmI kk vv 0 15 j = none) : hnI kk vv lw x i = none := (hn_j hl).trans (hj_no2 h (by subst hx; rfl) h2)
theorem hn_j3 {kk vv : Nat → Int} {lw x : Int} {i j m : Nat} (hl : lw = 0) (h : nmI kk vv 0 15 i = some j) (h2 : (x = 5 ∧ nmI kk vv 0 15 j = some m) ∨ (x ≠ 5 ∧ m = j)) (hx : x = 17) : hnI kk vv lw x i = nmI kk vv 0 99 m := by
  subst hx
  rcases h2 with ⟨a, _⟩ | ⟨_, e⟩
  · exact absurd a (by decide)
  · exact ((hn_j hl).trans (hj_go h (Or.inr ⟨by decide, e⟩))).trans (if_pos rfl)
theorem hn_j4 {kk vv : Nat → Int} {lw x : Int} {i j m : Nat} (hl : lw = 0) (h : nmI kk vv 0 15 i = some j) (h2 : (x = 5 ∧ nmI kk vv 0 15 j = some m) ∨ (x ≠ 5 ∧ m = j)) (hx : x ≠ 17) (h6 : x ≠ 6) : hnI kk vv lw x i = nmI kk vv 1 9 m := by
  rw [hn_j hl, if_neg hx, hj_go h h2, if_neg h6]
theorem hs_n0 {kk vv : Nat → Int} {lw w x : Int} {i : Nat} (hx : HX lw w x) (h : hnI kk vv lw x i = none) : hsI kk vv lw w i = none := by
  rcases hx with ⟨hl, rfl⟩ | ⟨hl, hw⟩
  · exact hs_law0 hl ((if_pos hl).symm.trans h)
  · rw [hs_job hl, ← h, hn_j hl]
    rcases hw with ⟨rfl, rfl⟩ | ⟨rfl, n⟩
    · rfl
    · rw [if_neg n]
theorem hs_n1 {kk vv : Nat → Int} {lw w x : Int} {i j : Nat} (hl : lw ≠ 0) (hx : HX lw w x) (h : hnI kk vv lw x i = some j) : hsI kk vv lw w i = smI kk vv lw j := by
  rcases hx with ⟨_, rfl⟩ | ⟨z, _⟩
  · exact hs_law1 hl ((if_pos hl).symm.trans h)
  · exact absurd z hl
theorem hs_n2 {kk vv : Nat → Int} {lw w x : Int} {i j : Nat} (hl : lw = 0) (hx : HX lw w x) (h : hnI kk vv lw x i = some j) : hsI kk vv lw w i = some j := by
  rcases hx with ⟨z, _⟩ | ⟨_, hw⟩
  · exact absurd hl z
  · rw [hs_job hl, ← h, hn_j hl]
    rcases hw with ⟨rfl, rfl⟩ | ⟨rfl, n⟩
    · rfl
    · rw [if_neg n]
theorem TV.ge {k v t x : Int} (h : TV k v t x) : 0 ≤ k := by
  rcases h with ⟨a, e⟩ | ⟨a, e⟩ | ⟨e, a⟩ | ⟨a, e, _⟩ | ⟨a, e, f⟩ <;> omega
theorem TV.en {k v t x : Int} (h : TV k v t x) : t = 0 ↔ k = 26 := by
  rcases h with ⟨a, e⟩ | ⟨a, e⟩ | ⟨e, a⟩ | ⟨a, e, _⟩ | ⟨a, e, f⟩ <;> constructor <;> intro h <;> omega
/-- a line begins -/
theorem TV.bg {k v t x j : Int} (h : TV k v t x) (ht : t = 2) (hb : (j = 0 ∧ x ≤ 3) ∨ (j = 1 ∧ (x = 4 ∨ x = 5 ∨ x = 17))) : ((1 - j ≠ 0 ∧ k ≤ 3) ∨ (1 - j = 0 ∧ 4 ≤ k ∧ k ≤ 6)) ∧ HX (1 - j) k x := by
  have := h.wv ht
  rcases hb with ⟨a, b⟩ | ⟨a, b⟩
  · exact ⟨Or.inl (by omega), Or.inl (by omega)⟩
  · exact ⟨Or.inr (by omega), Or.inr (by omega)⟩
/-- no line begins -/
theorem TV.nb {k v t x j : Int} (h : TV k v t x) (hj : 0 ≤ j ∧ j ≤ 1) (hb : t ≠ 2 ∨ ((j ≠ 0 ∨ 3 < x) ∧ (j = 0 ∨ (x ≠ 4 ∧ x ≠ 5 ∧ x ≠ 17)))) : (1 - j ≠ 0 ∧ 3 < k) ∨ (1 - j = 0 ∧ (k < 4 ∨ 6 < k)) := by
  rcases h with ⟨a, e⟩ | ⟨a, e⟩ | ⟨e, a⟩ | ⟨a, e, _⟩ | ⟨a, e, f⟩ <;> omega
set_option maxHeartbeats 4000000 in
set_option maxRecDepth 100000 in
theorem a_X10_isBegin_e (l : Launch) (K : KE) (G : Nat → Option Nat) (H : Heap) {a0 : Nat} (tk : Int32) (vl : Int32) (jb : Int32) (hT : TY K G H) (ga0 : G a0 = some 112) (etk : tk = fI H a0 (K.1.2 10 21)) (evl : vl = fI H a0 (K.1.2 10 22)) (ejb : jb = fI H a0 (K.1.2 10 34)) : MX l K yX10_isBegin cX10_isBegin 1 (some .boolean) 0 0 0 0 [.ref a0] H (AE G [] H.size) (fun v H1 => ∃ (r : Int32), v = some (.int r) ∧ (0 ≤ r.toInt ∧ r.toInt ≤ 1) ∧ ((r.toInt = 0 ∧ (tk.toInt ≠ 2 ∨ ((jb.toInt ≠ 0 ∨ 3 < vl.toInt) ∧ (jb.toInt = 0 ∨ (vl.toInt ≠ 4 ∧ vl.toInt ≠ 5 ∧ vl.toInt ≠ 17))))) ∨ (r.toInt = 1 ∧ tk.toInt = 2 ∧ ((jb.toInt = 0 ∧ vl.toInt ≤ 3) ∨ (jb.toInt = 1 ∧ (vl.toInt = 4 ∨ vl.toInt = 5 ∨ vl.toInt = 17))))) ∧ TY K G H1) := by
  refine MX.of (by decide +kernel) (Nat.le_of_ble_eq_true rfl) ?_
  intro p e s m below meth c ls Q C hH hl hQ
  subst hH
  have C : CX p K s m _ meth c RX10 cX10_isBegin 1 (some .boolean) "isBegin" := C
  obtain ⟨hx, hb, hml, hown, hts, hKT, hr, hlocks, hnm⟩ := id C
  have hl : lv_has ls 1 [(0, .ref a0)] := hl
  have hS : va_S (AE G [] s.heap.size) s.heap s.heap [] := va_S.rf
  have n_0 : (0 : Int32).toInt = 0 := rfl
  have n_1 : (1 : Int32).toInt = 1 := rfl
  have n_2 : (2 : Int32).toInt = 2 := rfl
  have n_3 : (3 : Int32).toInt = 3 := rfl
  have n_4 : (4 : Int32).toInt = 4 := rfl
  have n_5 : (5 : Int32).toInt = 5 := rfl
  have n_17 : (17 : Int32).toInt = 17 := rfl
  have btk := ty_fi (x := tk) (k := 21) etk hT ga0 rg_112 rfl
  have bvl := ty_fi (x := vl) (k := 22) evl hT ga0 rg_112 rfl
  have bjb := ty_fi (x := jb) (k := 34) ejb hT ga0 rg_112 rfl
  have hap : ∀ x y, x < 74 → y < 74 → x ≠ y → K.1.2 10 x ≠ K.1.2 10 y := x_apart hKT hts inX10 tyX10 tyX10_ok nmX10 rfl
  refine lv_aload_n hx hb dX10_isBegin_0 rfl (lv_at hl 0 rfl) ?_
  refine x_gi C hT (ci := 10) (k := 21) rfl inX10 (by decide) wF_X10_202 ga0 rg_112 rfl dX10_isBegin_1 (fun x173 ex173 bx173 => ?_)
  have ux173 : tk = x173 := (etk).trans ex173.symm
  subst ux173
  refine lv_iconst (v := 2) hx hb dX10_isBegin_4 (by decide) ?_
  refine lv_icmp_eq (tgt := 10) hx hb dX10_isBegin_5 (by decide) (fun c174 => ?_) (fun c174 => ?_)
  · have k175 := i_eq c174
    refine lv_aload_n hx hb dX10_isBegin_10 rfl (lv_at hl 0 rfl) ?_
    refine x_gi C hT (ci := 10) (k := 34) rfl inX10 (by decide) wF_X10_231 ga0 rg_112 rfl dX10_isBegin_11 (fun x176 ex176 bx176 => ?_)
    have ux176 : jb = x176 := (ejb).trans ex176.symm
    subst ux176
    refine lv_if_eq (tgt := 50) hx hb dX10_isBegin_14 (by decide) (fun c177 => ?_) (fun c177 => ?_)
    · have k178 := i_eq c177
      refine lv_aload_n hx hb dX10_isBegin_50 rfl (lv_at hl 0 rfl) ?_
      refine x_gi C hT (ci := 10) (k := 22) rfl inX10 (by decide) wF_X10_205 ga0 rg_112 rfl dX10_isBegin_51 (fun x179 ex179 bx179 => ?_)
      have ux179 : vl = x179 := (evl).trans ex179.symm
      subst ux179
      refine lv_iconst (v := 3) hx hb dX10_isBegin_54 (by decide) ?_
      refine lv_icmp_gt (tgt := 62) hx hb dX10_isBegin_55 (by decide) (fun c180 => ?_) (fun c180 => ?_)
      · have k181 := i_lt c180
        refine lv_iconst (v := 0) hx hb dX10_isBegin_62 (by decide) ?_
        exact x_zret C hQ (Or.inl rfl) dX10_isBegin_63 hS (by decide) (by decide) (⟨0, rfl, by decide, by omega, hT⟩)
      · have k181 := i_nlt c180
        refine lv_iconst (v := 1) hx hb dX10_isBegin_58 (by decide) ?_
        refine lv_goto (tgt := 63) hx hb dX10_isBegin_59 (by decide) ?_
        exact x_zret C hQ (Or.inr rfl) dX10_isBegin_63 hS (by decide) (by decide) (⟨1, rfl, by decide, by omega, hT⟩)
    · have k178 := i_ne c177
      refine lv_aload_n hx hb dX10_isBegin_17 rfl (lv_at hl 0 rfl) ?_
      refine x_gi C hT (ci := 10) (k := 22) rfl inX10 (by decide) wF_X10_205 ga0 rg_112 rfl dX10_isBegin_18 (fun x182 ex182 bx182 => ?_)
      have ux182 : vl = x182 := (evl).trans ex182.symm
      subst ux182
      refine lv_iconst (v := 4) hx hb dX10_isBegin_21 (by decide) ?_
      refine lv_icmp_eq (tgt := 42) hx hb dX10_isBegin_22 (by decide) (fun c183 => ?_) (fun c183 => ?_)
      · have k184 := i_eq c183
        refine lv_iconst (v := 1) hx hb dX10_isBegin_42 (by decide) ?_
        refine lv_goto (tgt := 63) hx hb dX10_isBegin_43 (by decide) ?_
        exact x_zret C hQ (Or.inr rfl) dX10_isBegin_63 hS (by decide) (by decide) (⟨1, rfl, by decide, by omega, hT⟩)
      · have k184 := i_ne c183
        refine lv_aload_n hx hb dX10_isBegin_25 rfl (lv_at hl 0 rfl) ?_
        refine x_gi C hT (ci := 10) (k := 22) rfl inX10 (by decide) wF_X10_205 ga0 rg_112 rfl dX10_isBegin_26 (fun x185 ex185 bx185 => ?_)
        have ux185 : vl = x185 := (evl).trans ex185.symm
        subst ux185
        refine lv_iconst (v := 5) hx hb dX10_isBegin_29 (by decide) ?_
        refine lv_icmp_eq (tgt := 42) hx hb dX10_isBegin_30 (by decide) (fun c186 => ?_) (fun c186 => ?_)
        · have k187 := i_eq c186
          refine lv_iconst (v := 1) hx hb dX10_isBegin_42 (by decide) ?_
          refine lv_goto (tgt := 63) hx hb dX10_isBegin_43 (by decide) ?_
          exact x_zret C hQ (Or.inr rfl) dX10_isBegin_63 hS (by decide) (by decide) (⟨1, rfl, by decide, by omega, hT⟩)
        · have k187 := i_ne c186
          refine lv_aload_n hx hb dX10_isBegin_33 rfl (lv_at hl 0 rfl) ?_
          refine x_gi C hT (ci := 10) (k := 22) rfl inX10 (by decide) wF_X10_205 ga0 rg_112 rfl dX10_isBegin_34 (fun x188 ex188 bx188 => ?_)
          have ux188 : vl = x188 := (evl).trans ex188.symm
          subst ux188
          refine lv_bipush (v := 17) hx hb dX10_isBegin_37 (by decide) ?_
          refine lv_icmp_ne (tgt := 46) hx hb dX10_isBegin_39 (by decide) (fun c189 => ?_) (fun c189 => ?_)
          · have k190 := i_ne c189
            refine lv_iconst (v := 0) hx hb dX10_isBegin_46 (by decide) ?_
            refine lv_goto (tgt := 63) hx hb dX10_isBegin_47 (by decide) ?_
            exact x_zret C hQ (Or.inl rfl) dX10_isBegin_63 hS (by decide) (by decide) (⟨0, rfl, by decide, by omega, hT⟩)
          · have k190 := i_eq c189
            refine lv_iconst (v := 1) hx hb dX10_isBegin_42 (by decide) ?_
            refine lv_goto (tgt := 63) hx hb dX10_isBegin_43 (by decide) ?_
            exact x_zret C hQ (Or.inr rfl) dX10_isBegin_63 hS (by decide) (by decide) (⟨1, rfl, by decide, by omega, hT⟩)
  · have k175 := i_ne c174
    refine lv_iconst (v := 0) hx hb dX10_isBegin_8 (by decide) ?_
    exact x_zret C hQ (Or.inl rfl) dX10_isBegin_9 hS (by decide) (by decide) (⟨0, rfl, by decide, by omega, hT⟩)

set_option maxHeartbeats 4000000 in
set_option maxRecDepth 100000 in
theorem a_X10_readNumber_e (l : Launch) (K : KE) (G : Nat → Option Nat) (H : Heap) {a0 : Nat} (x1 : Int32) (x2 : Int32) {tq : Nat} (sp : Int32) (fr : Int32) (tk : Int32) (vl : Int32) (tp : Int32) (ci : Nat) (bt : Nat → Int) (hT : TY K G H) (ga0 : G a0 = some 112) (hx1 : 0 ≤ x1.toInt ∧ x1.toInt ≤ 1) (hx2 : 0 ≤ x2.toInt ∧ x2.toInt ≤ 99) (gtq : G tq = some 126) (etq : tq = fR H a0 (K.1.2 10 17)) (esp : sp = fI H a0 (K.1.2 10 19)) (efr : fr = fI H a0 (K.1.2 10 20)) (etk : tk = fI H a0 (K.1.2 10 21)) (evl : vl = fI H a0 (K.1.2 10 22)) (etp : tp = fI H a0 (K.1.2 10 18)) (hg_CG : CG (avw K H a0)) (hg_TU : TU (avw K H a0) (svw K H a0)) (hg_WD : WD (avw K H a0)) (hg_IM : IM (avw K H a0)) (hp0 : (sp.toInt ≤ tp.toInt ∧ fr.toInt ≤ sp.toInt ∧ (tk.toInt = 0 ∨ fr.toInt < sp.toInt) ∧ (tk.toInt ≠ 2 ∨ (0 ≤ vl.toInt ∧ vl.toInt ≤ 23)))) (hy0 : CU bt tp.toNatClampNeg ci fr sp tk vl) (hy1 : ∀ j : Nat, j < tp.toNatClampNeg → 0 ≤ bt j) (hv_bt : ∀ j : Nat, bt j = (fI H tq j).toInt) : MX l K yX10_readNumber cX10_readNumber 4 (some .int) 3 65 0 0 [.ref a0, .int x1, .int x2] H (AE G [112] H.size) (fun v H1 => ∃ (r : Int32) (t0 : Int32) (t1 : Int32) (t2 : Int32) (t3 : Int32), v = some (.int r) ∧ t0 = fI H1 a0 (K.1.2 10 19) ∧ t1 = fI H1 a0 (K.1.2 10 20) ∧ t2 = fI H1 a0 (K.1.2 10 21) ∧ t3 = fI H1 a0 (K.1.2 10 22) ∧ (r.toInt = -1 ∨ (x1.toInt ≤ r.toInt ∧ r.toInt ≤ x2.toInt ∧ (t0.toInt ≤ tp.toInt ∧ t1.toInt ≤ t0.toInt ∧ (t2.toInt = 0 ∨ t1.toInt < t0.toInt) ∧ (t2.toInt ≠ 2 ∨ (0 ≤ t3.toInt ∧ t3.toInt ≤ 23))) ∧ fr.toInt < t1.toInt)) ∧ tq = fR H1 a0 (K.1.2 10 17) ∧ (CG (avw K H1 a0)) ∧ (TU (avw K H1 a0) (svw K H1 a0)) ∧ (WD (avw K H1 a0)) ∧ (IM (avw K H1 a0)) ∧ MF K H H1 a0 [19, 20, 21, 22, 39, 40] ∧ (RC (nmI (kK bt tp.toNatClampNeg) (vV bt tp.toNatClampNeg) x1.toInt x2.toInt ci) r bt tp.toNatClampNeg t1 t0 t2 t3) ∧ TY K G H1) := by
  refine MX.of (by decide +kernel) (Nat.le_of_ble_eq_true rfl) ?_
  intro p e s m below meth c ls Q C hH hl hQ
  subst hH
  have C : CX p K s m _ meth c RX10 cX10_readNumber 4 (some .int) "readNumber" := C
  obtain ⟨hx, hb, hml, hown, hts, hKT, hr, hlocks, hnm⟩ := id C
  have hl : lv_has ls 4 [(0, .ref a0), (1, .int x1), (2, .int x2)] := hl
  have hS : va_S (AE G [112] s.heap.size) s.heap s.heap [] := va_S.rf
  have n_0 : (0 : Int32).toInt = 0 := rfl
  have n_1 : (1 : Int32).toInt = 1 := rfl
  have n_2 : (2 : Int32).toInt = 2 := rfl
  have n_3 : (3 : Int32).toInt = 3 := rfl
  have bsp := ty_fi (x := sp) (k := 19) esp hT ga0 rg_112 rfl
  have bfr := ty_fi (x := fr) (k := 20) efr hT ga0 rg_112 rfl
  have btk := ty_fi (x := tk) (k := 21) etk hT ga0 rg_112 rfl
  have bvl := ty_fi (x := vl) (k := 22) evl hT ga0 rg_112 rfl
  have btp := ty_fi (x := tp) (k := 18) etp hT ga0 rg_112 rfl
  have hap : ∀ x y, x < 74 → y < 74 → x ≠ y → K.1.2 10 x ≠ K.1.2 10 y := x_apart hKT hts inX10 tyX10 tyX10_ok nmX10 rfl
  have mf0 : MF K s.heap s.heap a0 [19, 20, 21, 22, 39, 40] := fun _ _ _ => rfl
  have f0_bt := hv_bt
  refine lv_aload_n hx hb dX10_readNumber_0 rfl (lv_at hl 0 rfl) ?_
  refine x_gi C hT (ci := 10) (k := 21) rfl inX10 (by decide) wF_X10_202 ga0 rg_112 rfl dX10_readNumber_1 (fun x345 ex345 bx345 => ?_)
  have ux345 : tk = x345 := (etk).trans ex345.symm
  subst ux345
  refine lv_iconst (v := 3) hx hb dX10_readNumber_4 (by decide) ?_
  refine lv_icmp_eq (tgt := 14) hx hb dX10_readNumber_5 (by decide) (fun c346 => ?_) (fun c346 => ?_)
  · have k347 := i_eq c346
    refine lv_aload_n hx hb dX10_readNumber_14 rfl (lv_at hl 0 rfl) ?_
    refine lv_aload_n hx hb dX10_readNumber_15 rfl (lv_at hl 0 rfl) ?_
    refine x_gi C hT (ci := 10) (k := 22) rfl inX10 (by decide) wF_X10_205 ga0 rg_112 rfl dX10_readNumber_16 (fun x348 ex348 bx348 => ?_)
    have ux348 : vl = x348 := (evl).trans ex348.symm
    subst ux348
    refine lv_iload_n hx hb dX10_readNumber_19 rfl (lv_at hl 1 rfl) ?_
    refine lv_iload_n hx hb dX10_readNumber_20 rfl (lv_at hl 2 rfl) ?_
    refine x_V (As := [.int vl, .int x1, .int x2]) (rest := []) C (c_X10_isIn l K G s.heap (vl) (x1) (x2) hT ga0) yo_X10_isIn wM_X10_177 ⟨⟨by decide, by decide⟩, by decide, by decide⟩ (x_rv C hT (ci := 10) rfl ga0 rg_112) rfl hl.1 rfl (Nat.le_of_ble_eq_true rfl) dX10_readNumber_21 hS (AE_sub (fun _ _ => rfl) (by decide) hS.1) (fun vH349 H349 locsH349 pH349 zH349 kH349 hSH349 => ?_)
    have hqH349 := pH349.1.symm
    subst hqH349
    rcases pH349.2 with ⟨hvH349, hcH349⟩ | ⟨hvH349, hcH349⟩
    · subst hvH349
      refine W.eq (g2 := F0 m 24 ls [.int 1]) rfl ?_
      refine lv_if_ne (tgt := 33) hx hb dX10_readNumber_24 (by decide) (fun c350 => ?_) (fun c350 => ?_)
      · have k351 := i_ne c350
        refine lv_aload_n hx hb dX10_readNumber_33 rfl (lv_at hl 0 rfl) ?_
        refine x_gi C hT (ci := 10) (k := 22) rfl inX10 (by decide) wF_X10_205 ga0 rg_112 rfl dX10_readNumber_34 (fun x352 ex352 bx352 => ?_)
        have ux352 : vl = x352 := (evl).trans ex352.symm
        subst ux352
        refine lv_istore_n (lv' := [(3, .int vl), (0, .ref a0), (1, .int x1), (2, .int x2)]) hx hb dX10_readNumber_37 rfl hl (by decide) rfl (fun ls353 hl354 => ?_)
        refine lv_aload_n hx hb dX10_readNumber_38 rfl (lv_at hl354 1 rfl) ?_
        refine x_V (As := []) (rest := []) C (a_X10_reads_e l K G s.heap (sp) (fr) (tk) (vl) (tp) bt hT ga0 gtq etq esp efr etk evl etp hg_CG hg_TU hg_WD hg_IM (by omega) (hy1) f0_bt) yo_X10_reads wM_X10_242 ⟨⟨by decide, by decide⟩, by decide, by decide⟩ (x_rv C hT (ci := 10) rfl ga0 rg_112) rfl hl354.1 rfl (Nat.le_of_ble_eq_true rfl) dX10_readNumber_39 hSH349 (AE_sub (fun _ _ => rfl) (by decide) hSH349.1) (fun vH355 H355 locsH355 pH355 zH355 kH355 hSH355 => ?_)
        obtain ⟨x356, x357, x358, x359, hvH355, ex356, ex357, ex358, ex359, hrH355, m360, g361, g362, g363, g364, mf365, m366, m367, m368, hTH355⟩ := pH355
        subst hvH355
        have f369 : ∀ j : Nat, bt j = (fI H355 tq j).toInt := fun j => (f0_bt j).trans (congrArg Int32.toInt (fI_kept (x_lt hT kH355 gtq (by decide))).symm)
        have m370 := (etq).trans (MF.r mf365 (k := 17) (by decide) (by decide)).symm
        have m371 := (etp).trans (MF.i mf365 (k := 18) (by decide) (by decide)).symm
        have mf372 : MF K s.heap H355 a0 [19, 20, 21, 22, 39, 40] := MF.trans mf0 mf365 (by decide)
        have bx356 := ty_fi (x := x356) (k := 19) ex356 hTH355 ga0 rg_112 rfl
        have bx357 := ty_fi (x := x357) (k := 20) ex357 hTH355 ga0 rg_112 rfl
        have bx358 := ty_fi (x := x358) (k := 21) ex358 hTH355 ga0 rg_112 rfl
        have bx359 := ty_fi (x := x359) (k := 22) ex359 hTH355 ga0 rg_112 rfl
        have cn_x357 := i_cl (x := x357) (by omega)
        have cn_fr := i_cl (x := fr) (by omega)
        have cu373 : CU bt tp.toNatClampNeg (ci + 1) x357 x356 x358 x359 := CU.next hy0 m366 m367 m368 (by omega)
        refine W.eq (g2 := F0 m 42 ls353 []) rfl ?_
        refine lv_iload_n hx hb dX10_readNumber_42 rfl (lv_at hl354 0 rfl) ?_
        have cn_fr := i_cl (x := fr) (by omega)
        have v2_ := TV.nv hy0.2.2.1 (by omega)
        have n2_ : kK bt tp.toNatClampNeg ci = 24 := (TV.nm hy0.2.2.1).mp (by omega)
        exact x_iret C hQ dX10_readNumber_43 hSH355 (by decide) (by decide) (⟨vl, x356, x357, x358, x359, rfl, ex356, ex357, ex358, ex359, by omega, m360, g361, g362, g363, g364, mf372, Or.inr ⟨ci + 1, nm_y ⟨n2_, by omega, by omega⟩ rfl, by omega, cu373⟩, hTH355⟩)
      · have k351 := i_eq c350
        exfalso
        omega
    · subst hvH349
      refine W.eq (g2 := F0 m 24 ls [.int 0]) rfl ?_
      refine lv_if_ne (tgt := 33) hx hb dX10_readNumber_24 (by decide) (fun c374 => ?_) (fun c374 => ?_)
      · have k375 := i_ne c374
        exfalso
        omega
      · have k375 := i_eq c374
        refine lv_aload_n hx hb dX10_readNumber_27 rfl (lv_at hl 0 rfl) ?_
        refine lv_iconst (v := 2) hx hb dX10_readNumber_28 (by decide) ?_
        refine x_V (As := [.int 2]) (rest := []) C (a_X10_fails l K G s.heap (2) hT ga0 hg_CG hg_TU hg_WD hg_IM) yo_X10_fails wM_X10_235 ⟨⟨by decide, by decide⟩, by decide, by decide⟩ (x_rv C hT (ci := 10) rfl ga0 rg_112) rfl hl.1 rfl (Nat.le_of_ble_eq_true rfl) dX10_readNumber_29 hSH349 (AE_sub (fun _ _ => rfl) (by decide) hSH349.1) (fun vH376 H376 locsH376 pH376 zH376 kH376 hSH376 => ?_)
        obtain ⟨x377, hvH376, bx377, g378, g379, g380, g381, mf382, hTH376⟩ := pH376
        subst hvH376
        have f383 : ∀ j : Nat, bt j = (fI H376 tq j).toInt := fun j => (f0_bt j).trans (congrArg Int32.toInt (fI_kept (x_lt hT kH376 gtq (by decide))).symm)
        have m384 := (etq).trans (MF.r mf382 (k := 17) (by decide) (by decide)).symm
        have m385 := (esp).trans (MF.i mf382 (k := 19) (by decide) (by decide)).symm
        have m386 := (efr).trans (MF.i mf382 (k := 20) (by decide) (by decide)).symm
        have m387 := (etk).trans (MF.i mf382 (k := 21) (by decide) (by decide)).symm
        have m388 := (evl).trans (MF.i mf382 (k := 22) (by decide) (by decide)).symm
        have m389 := (etp).trans (MF.i mf382 (k := 18) (by decide) (by decide)).symm
        have mf390 : MF K s.heap H376 a0 [19, 20, 21, 22, 39, 40] := MF.trans mf0 mf382 (by decide)
        refine W.eq (g2 := F0 m 32 ls [.int x377]) rfl ?_
        have cn_fr := i_cl (x := fr) (by omega)
        have v2_ := TV.nv hy0.2.2.1 (by omega)
        exact x_iret C hQ dX10_readNumber_32 hSH376 (by decide) (by decide) (⟨x377, sp, fr, tk, vl, rfl, m385, m386, m387, m388, by omega, m384, g378, g379, g380, g381, mf390, Or.inl ⟨nm_n (Or.inr (by omega)), by omega⟩, hTH376⟩)
  · have k347 := i_ne c346
    refine lv_aload_n hx hb dX10_readNumber_8 rfl (lv_at hl 0 rfl) ?_
    refine lv_iconst (v := 1) hx hb dX10_readNumber_9 (by decide) ?_
    refine x_V (As := [.int 1]) (rest := []) C (a_X10_fails l K G s.heap (1) hT ga0 hg_CG hg_TU hg_WD hg_IM) yo_X10_fails wM_X10_235 ⟨⟨by decide, by decide⟩, by decide, by decide⟩ (x_rv C hT (ci := 10) rfl ga0 rg_112) rfl hl.1 rfl (Nat.le_of_ble_eq_true rfl) dX10_readNumber_10 hS (AE_sub (fun _ _ => rfl) (by decide) hS.1) (fun vH391 H391 locsH391 pH391 zH391 kH391 hSH391 => ?_)
    obtain ⟨x392, hvH391, bx392, g393, g394, g395, g396, mf397, hTH391⟩ := pH391
    subst hvH391
    have f398 : ∀ j : Nat, bt j = (fI H391 tq j).toInt := fun j => (f0_bt j).trans (congrArg Int32.toInt (fI_kept (x_lt hT kH391 gtq (by decide))).symm)
    have m399 := (etq).trans (MF.r mf397 (k := 17) (by decide) (by decide)).symm
    have m400 := (esp).trans (MF.i mf397 (k := 19) (by decide) (by decide)).symm
    have m401 := (efr).trans (MF.i mf397 (k := 20) (by decide) (by decide)).symm
    have m402 := (etk).trans (MF.i mf397 (k := 21) (by decide) (by decide)).symm
    have m403 := (evl).trans (MF.i mf397 (k := 22) (by decide) (by decide)).symm
    have m404 := (etp).trans (MF.i mf397 (k := 18) (by decide) (by decide)).symm
    have mf405 : MF K s.heap H391 a0 [19, 20, 21, 22, 39, 40] := MF.trans mf0 mf397 (by decide)
    refine W.eq (g2 := F0 m 13 ls [.int x392]) rfl ?_
    have cn_fr := i_cl (x := fr) (by omega)
    exact x_iret C hQ dX10_readNumber_13 hSH391 (by decide) (by decide) (⟨x392, sp, fr, tk, vl, rfl, m400, m401, m402, m403, by omega, m399, g393, g394, g395, g396, mf405, Or.inl ⟨nm_n (Or.inl (fun e => by have z_ := (TV.nm hy0.2.2.1).mpr e; omega)), by omega⟩, hTH391⟩)

set_option maxHeartbeats 4000000 in
set_option maxRecDepth 100000 in
theorem a_X10_readNumbers_e (l : Launch) (K : KE) (G : Nat → Option Nat) (H : Heap) {a0 : Nat} (x1 : Int32) (x2 : Int32) {tq : Nat} {l1 : Nat} {l2 : Nat} {l3 : Nat} (sp : Int32) (fr : Int32) (tk : Int32) (vl : Int32) (tp : Int32) (jb : Int32) (ci : Nat) (bt : Nat → Int) (hT : TY K G H) (ga0 : G a0 = some 112) (hx1 : 96 ≤ x1.toInt ∧ x1.toInt ≤ 111) (gtq : G tq = some 126) (etq : tq = fR H a0 (K.1.2 10 17)) (gl1 : G l1 = some 130) (el1 : l1 = fR H a0 (K.1.2 10 26)) (gl2 : G l2 = some 131) (el2 : l2 = fR H a0 (K.1.2 10 27)) (gl3 : G l3 = some 132) (el3 : l3 = fR H a0 (K.1.2 10 28)) (esp : sp = fI H a0 (K.1.2 10 19)) (efr : fr = fI H a0 (K.1.2 10 20)) (etk : tk = fI H a0 (K.1.2 10 21)) (evl : vl = fI H a0 (K.1.2 10 22)) (etp : tp = fI H a0 (K.1.2 10 18)) (ejb : jb = fI H a0 (K.1.2 10 34)) (hg_CG : CG (avw K H a0)) (hg_TU : TU (avw K H a0) (svw K H a0)) (hg_WD : WD (avw K H a0)) (hg_IM : IM (avw K H a0)) (hp0 : (sp.toInt ≤ tp.toInt ∧ fr.toInt ≤ sp.toInt ∧ (tk.toInt = 0 ∨ fr.toInt < sp.toInt) ∧ (tk.toInt ≠ 2 ∨ (0 ≤ vl.toInt ∧ vl.toInt ≤ 23)))) (hp1 : (jb.toInt = 0 ∧ 0 ≤ x2.toInt ∧ x2.toInt ≤ 3) ∨ (jb.toInt = 1 ∧ (x2.toInt = 4 ∨ x2.toInt = 5 ∨ x2.toInt = 17))) (hy0 : CU bt tp.toNatClampNeg ci fr sp tk vl) (hy1 : ∀ j : Nat, j < tp.toNatClampNeg → 0 ≤ bt j) (hv_bt : ∀ j : Nat, bt j = (fI H tq j).toInt) : MX l K yX10_readNumbers cX10_readNumbers 3 (some .int) 4 88 0 0 [.ref a0, .int x1, .int x2] H (AE G [112, 130, 131, 132] H.size) (fun v H1 => ∃ (r : Int32) (t0 : Int32) (t1 : Int32) (t2 : Int32) (t3 : Int32), v = some (.int r) ∧ t0 = fI H1 a0 (K.1.2 10 19) ∧ t1 = fI H1 a0 (K.1.2 10 20) ∧ t2 = fI H1 a0 (K.1.2 10 21) ∧ t3 = fI H1 a0 (K.1.2 10 22) ∧ (r.toInt = -1 ∨ ((t0.toInt ≤ tp.toInt ∧ t1.toInt ≤ t0.toInt ∧ (t2.toInt = 0 ∨ t1.toInt < t0.toInt) ∧ (t2.toInt ≠ 2 ∨ (0 ≤ t3.toInt ∧ t3.toInt ≤ 23))) ∧ fr.toInt ≤ t1.toInt)) ∧ tq = fR H1 a0 (K.1.2 10 17) ∧ l1 = fR H1 a0 (K.1.2 10 26) ∧ l2 = fR H1 a0 (K.1.2 10 27) ∧ l3 = fR H1 a0 (K.1.2 10 28) ∧ (CG (avw K H1 a0)) ∧ (TU (avw K H1 a0) (svw K H1 a0)) ∧ (WD (avw K H1 a0)) ∧ (IM (avw K H1 a0)) ∧ MF K H H1 a0 [19, 20, 21, 22, 39, 40] ∧ (RC (hnI (kK bt tp.toNatClampNeg) (vV bt tp.toNatClampNeg) (1 - jb.toInt) x2.toInt ci) r bt tp.toNatClampNeg t1 t0 t2 t3) ∧ TY K G H1) := by
  refine MX.of (by decide +kernel) (Nat.le_of_ble_eq_true rfl) ?_
  intro p e s m below meth c ls Q C hH hl hQ
  subst hH
  have C : CX p K s m _ meth c RX10 cX10_readNumbers 3 (some .int) "readNumbers" := C
  obtain ⟨hx, hb, hml, hown, hts, hKT, hr, hlocks, hnm⟩ := id C
  have hl : lv_has ls 3 [(0, .ref a0), (1, .int x1), (2, .int x2)] := hl
  have hS : va_S (AE G [112, 130, 131, 132] s.heap.size) s.heap s.heap [] := va_S.rf
  have n_m1 : ((-1) : Int32).toInt = -1 := rfl
  have n_0 : (0 : Int32).toInt = 0 := rfl
  have n_1 : (1 : Int32).toInt = 1 := rfl
  have n_2 : (2 : Int32).toInt = 2 := rfl
  have n_3 : (3 : Int32).toInt = 3 := rfl
  have n_5 : (5 : Int32).toInt = 5 := rfl
  have n_9 : (9 : Int32).toInt = 9 := rfl
  have n_15 : (15 : Int32).toInt = 15 := rfl
  have n_17 : (17 : Int32).toInt = 17 := rfl
  have n_99 : (99 : Int32).toInt = 99 := rfl
  have bsp := ty_fi (x := sp) (k := 19) esp hT ga0 rg_112 rfl
  have bfr := ty_fi (x := fr) (k := 20) efr hT ga0 rg_112 rfl
  have btk := ty_fi (x := tk) (k := 21) etk hT ga0 rg_112 rfl
  have bvl := ty_fi (x := vl) (k := 22) evl hT ga0 rg_112 rfl
  have btp := ty_fi (x := tp) (k := 18) etp hT ga0 rg_112 rfl
  have bjb := ty_fi (x := jb) (k := 34) ejb hT ga0 rg_112 rfl
  have hap : ∀ x y, x < 74 → y < 74 → x ≠ y → K.1.2 10 x ≠ K.1.2 10 y := x_apart hKT hts inX10 tyX10 tyX10_ok nmX10 rfl
  have mf0 : MF K s.heap s.heap a0 [19, 20, 21, 22, 39, 40] := fun _ _ _ => rfl
  have f0_bt := hv_bt
  refine lv_aload_n hx hb dX10_readNumbers_0 rfl (lv_at hl 0 rfl) ?_
  refine x_gr C hT (ci := 10) (k := 26) rfl inX10 (by decide) wF_X10_65 ga0 rg_112 rfl dX10_readNumbers_1 (fun q1617 eq1617 gq1617 => ?_)
  have uq1617 : l1 = q1617 := (el1).trans eq1617.symm
  subst uq1617
  refine lv_iload_n hx hb dX10_readNumbers_4 rfl (lv_at hl 1 rfl) ?_
  refine lv_iconst (v := 0) hx hb dX10_readNumbers_5 (by decide) ?_
  refine x_iast C hT hS gl1 rg_130 (by omega) (by show _ < ((112 : Nat) : Int); omega) (by decide) (AE_in gl1 (by decide)) dX10_readNumbers_6 (fun H1618 locsH1618 hTH1618 hSH1618 wH1618 => ?_)
  have mf1619 : MF K s.heap H1618 a0 [19, 20, 21, 22, 39, 40] := MF.arr wH1618 (G_ne ga0 gl1 (by decide)) mf0
  have g1620 : CG (avw K H1618 a0) := CG.congr (fun k hk j => av_arr hT ga0 wH1618 gl1 (by decide) (CG_ok 130 (by decide) k hk)) hg_CG
  have g1621 : TU (avw K H1618 a0) (svw K H1618 a0) := TU.congr (fun k hk j => av_arr hT ga0 wH1618 gl1 (by decide) (TU_ok 130 (by decide) k hk)) (fun k hk => sv_arr ga0 wH1618 gl1 (by decide)) hg_TU
  have g1622 : WD (avw K H1618 a0) := WD.congr (fun k hk j => av_arr hT ga0 wH1618 gl1 (by decide) (WD_ok 130 (by decide) k hk)) hg_WD
  have g1623 : IM (avw K H1618 a0) := IM.congr (fun k hk j => av_arr hT ga0 wH1618 gl1 (by decide) (IM_ok 130 (by decide) k hk)) hg_IM
  have f1624 : ∀ j : Nat, bt j = (fI H1618 tq j).toInt := fun j => (f0_bt j).trans (congrArg Int32.toInt (Wr.neI wH1618 (Or.inl (G_ne gtq gl1 (by decide)))).symm)
  have m1625 := etq.trans (Wr.neR wH1618 (Or.inl (G_ne ga0 gl1 (by decide)))).symm
  have m1626 := el1.trans (Wr.neR wH1618 (Or.inl (G_ne ga0 gl1 (by decide)))).symm
  have m1627 := el2.trans (Wr.neR wH1618 (Or.inl (G_ne ga0 gl1 (by decide)))).symm
  have m1628 := el3.trans (Wr.neR wH1618 (Or.inl (G_ne ga0 gl1 (by decide)))).symm
  have m1629 := esp.trans (Wr.neI wH1618 (Or.inl (G_ne ga0 gl1 (by decide)))).symm
  have m1630 := efr.trans (Wr.neI wH1618 (Or.inl (G_ne ga0 gl1 (by decide)))).symm
  have m1631 := etk.trans (Wr.neI wH1618 (Or.inl (G_ne ga0 gl1 (by decide)))).symm
  have m1632 := evl.trans (Wr.neI wH1618 (Or.inl (G_ne ga0 gl1 (by decide)))).symm
  have m1633 := etp.trans (Wr.neI wH1618 (Or.inl (G_ne ga0 gl1 (by decide)))).symm
  have m1634 := ejb.trans (Wr.neI wH1618 (Or.inl (G_ne ga0 gl1 (by decide)))).symm
  have m1635 := Wr.I wH1618
  refine lv_aload_n hx hb dX10_readNumbers_7 rfl (lv_at hl 0 rfl) ?_
  refine x_gr C hTH1618 (ci := 10) (k := 27) rfl inX10 (by decide) wF_X10_68 ga0 rg_112 rfl dX10_readNumbers_8 (fun q1636 eq1636 gq1636 => ?_)
  have uq1636 : l2 = q1636 := (m1627).trans eq1636.symm
  subst uq1636
  refine lv_iload_n hx hb dX10_readNumbers_11 rfl (lv_at hl 1 rfl) ?_
  refine lv_iconst (v := 0) hx hb dX10_readNumbers_12 (by decide) ?_
  refine x_iast C hTH1618 hSH1618 gl2 rg_131 (by omega) (by show _ < ((112 : Nat) : Int); omega) (by decide) (AE_in gl2 (by decide)) dX10_readNumbers_13 (fun H1637 locsH1637 hTH1637 hSH1637 wH1637 => ?_)
  have mf1638 : MF K s.heap H1637 a0 [19, 20, 21, 22, 39, 40] := MF.arr wH1637 (G_ne ga0 gl2 (by decide)) mf1619
  have g1639 : CG (avw K H1637 a0) := CG.congr (fun k hk j => av_arr hTH1618 ga0 wH1637 gl2 (by decide) (CG_ok 131 (by decide) k hk)) g1620
  have g1640 : TU (avw K H1637 a0) (svw K H1637 a0) := TU.congr (fun k hk j => av_arr hTH1618 ga0 wH1637 gl2 (by decide) (TU_ok 131 (by decide) k hk)) (fun k hk => sv_arr ga0 wH1637 gl2 (by decide)) g1621
  have g1641 : WD (avw K H1637 a0) := WD.congr (fun k hk j => av_arr hTH1618 ga0 wH1637 gl2 (by decide) (WD_ok 131 (by decide) k hk)) g1622
  have g1642 : IM (avw K H1637 a0) := IM.congr (fun k hk j => av_arr hTH1618 ga0 wH1637 gl2 (by decide) (IM_ok 131 (by decide) k hk)) g1623
  have f1643 : ∀ j : Nat, bt j = (fI H1637 tq j).toInt := fun j => (f1624 j).trans (congrArg Int32.toInt (Wr.neI wH1637 (Or.inl (G_ne gtq gl2 (by decide)))).symm)
  have m1644 := m1625.trans (Wr.neR wH1637 (Or.inl (G_ne ga0 gl2 (by decide)))).symm
  have m1645 := m1626.trans (Wr.neR wH1637 (Or.inl (G_ne ga0 gl2 (by decide)))).symm
  have m1646 := m1627.trans (Wr.neR wH1637 (Or.inl (G_ne ga0 gl2 (by decide)))).symm
  have m1647 := m1628.trans (Wr.neR wH1637 (Or.inl (G_ne ga0 gl2 (by decide)))).symm
  have m1648 := m1629.trans (Wr.neI wH1637 (Or.inl (G_ne ga0 gl2 (by decide)))).symm
  have m1649 := m1630.trans (Wr.neI wH1637 (Or.inl (G_ne ga0 gl2 (by decide)))).symm
  have m1650 := m1631.trans (Wr.neI wH1637 (Or.inl (G_ne ga0 gl2 (by decide)))).symm
  have m1651 := m1632.trans (Wr.neI wH1637 (Or.inl (G_ne ga0 gl2 (by decide)))).symm
  have m1652 := m1633.trans (Wr.neI wH1637 (Or.inl (G_ne ga0 gl2 (by decide)))).symm
  have m1653 := m1634.trans (Wr.neI wH1637 (Or.inl (G_ne ga0 gl2 (by decide)))).symm
  have m1654 := (Wr.neI wH1637 (Or.inl (G_ne gl1 gl2 (by decide)))).trans m1635
  have m1655 := Wr.I wH1637
  refine lv_aload_n hx hb dX10_readNumbers_14 rfl (lv_at hl 0 rfl) ?_
  refine x_gr C hTH1637 (ci := 10) (k := 28) rfl inX10 (by decide) wF_X10_71 ga0 rg_112 rfl dX10_readNumbers_15 (fun q1656 eq1656 gq1656 => ?_)
  have uq1656 : l3 = q1656 := (m1647).trans eq1656.symm
  subst uq1656
  refine lv_iload_n hx hb dX10_readNumbers_18 rfl (lv_at hl 1 rfl) ?_
  refine lv_iconst (v := 0) hx hb dX10_readNumbers_19 (by decide) ?_
  refine x_iast C hTH1637 hSH1637 gl3 rg_132 (by omega) (by show _ < ((112 : Nat) : Int); omega) (by decide) (AE_in gl3 (by decide)) dX10_readNumbers_20 (fun H1657 locsH1657 hTH1657 hSH1657 wH1657 => ?_)
  have mf1658 : MF K s.heap H1657 a0 [19, 20, 21, 22, 39, 40] := MF.arr wH1657 (G_ne ga0 gl3 (by decide)) mf1638
  have g1659 : CG (avw K H1657 a0) := CG.congr (fun k hk j => av_arr hTH1637 ga0 wH1657 gl3 (by decide) (CG_ok 132 (by decide) k hk)) g1639
  have g1660 : TU (avw K H1657 a0) (svw K H1657 a0) := TU.congr (fun k hk j => av_arr hTH1637 ga0 wH1657 gl3 (by decide) (TU_ok 132 (by decide) k hk)) (fun k hk => sv_arr ga0 wH1657 gl3 (by decide)) g1640
  have g1661 : WD (avw K H1657 a0) := WD.congr (fun k hk j => av_arr hTH1637 ga0 wH1657 gl3 (by decide) (WD_ok 132 (by decide) k hk)) g1641
  have g1662 : IM (avw K H1657 a0) := IM.congr (fun k hk j => av_arr hTH1637 ga0 wH1657 gl3 (by decide) (IM_ok 132 (by decide) k hk)) g1642
  have f1663 : ∀ j : Nat, bt j = (fI H1657 tq j).toInt := fun j => (f1643 j).trans (congrArg Int32.toInt (Wr.neI wH1657 (Or.inl (G_ne gtq gl3 (by decide)))).symm)
  have m1664 := m1644.trans (Wr.neR wH1657 (Or.inl (G_ne ga0 gl3 (by decide)))).symm
  have m1665 := m1645.trans (Wr.neR wH1657 (Or.inl (G_ne ga0 gl3 (by decide)))).symm
  have m1666 := m1646.trans (Wr.neR wH1657 (Or.inl (G_ne ga0 gl3 (by decide)))).symm
  have m1667 := m1647.trans (Wr.neR wH1657 (Or.inl (G_ne ga0 gl3 (by decide)))).symm
  have m1668 := m1648.trans (Wr.neI wH1657 (Or.inl (G_ne ga0 gl3 (by decide)))).symm
  have m1669 := m1649.trans (Wr.neI wH1657 (Or.inl (G_ne ga0 gl3 (by decide)))).symm
  have m1670 := m1650.trans (Wr.neI wH1657 (Or.inl (G_ne ga0 gl3 (by decide)))).symm
  have m1671 := m1651.trans (Wr.neI wH1657 (Or.inl (G_ne ga0 gl3 (by decide)))).symm
  have m1672 := m1652.trans (Wr.neI wH1657 (Or.inl (G_ne ga0 gl3 (by decide)))).symm
  have m1673 := m1653.trans (Wr.neI wH1657 (Or.inl (G_ne ga0 gl3 (by decide)))).symm
  have m1674 := (Wr.neI wH1657 (Or.inl (G_ne gl1 gl3 (by decide)))).trans m1654
  have m1675 := (Wr.neI wH1657 (Or.inl (G_ne gl2 gl3 (by decide)))).trans m1655
  have m1676 := Wr.I wH1657
  refine lv_iload_n hx hb dX10_readNumbers_21 rfl (lv_at hl 2 rfl) ?_
  refine lv_iconst (v := 3) hx hb dX10_readNumbers_22 (by decide) ?_
  refine lv_icmp_ne (tgt := 28) hx hb dX10_readNumbers_23 (by decide) (fun c1677 => ?_) (fun c1677 => ?_)
  · have k1678 := i_ne c1677
    refine lv_aload_n hx hb dX10_readNumbers_28 rfl (lv_at hl 0 rfl) ?_
    refine x_gr C hTH1657 (ci := 10) (k := 26) rfl inX10 (by decide) wF_X10_65 ga0 rg_112 rfl dX10_readNumbers_29 (fun q1679 eq1679 gq1679 => ?_)
    have uq1679 : l1 = q1679 := (m1665).trans eq1679.symm
    subst uq1679
    refine lv_iload_n hx hb dX10_readNumbers_32 rfl (lv_at hl 1 rfl) ?_
    refine lv_aload_n hx hb dX10_readNumbers_33 rfl (lv_at hl 0 rfl) ?_
    refine lv_iconst (v := 0) hx hb dX10_readNumbers_34 (by decide) ?_
    refine lv_aload_n hx hb dX10_readNumbers_35 rfl (lv_at hl 0 rfl) ?_
    refine x_gi C hTH1657 (ci := 10) (k := 34) rfl inX10 (by decide) wF_X10_231 ga0 rg_112 rfl dX10_readNumbers_36 (fun x1680 ex1680 bx1680 => ?_)
    have ux1680 : jb = x1680 := (m1673).trans ex1680.symm
    subst ux1680
    refine lv_if_eq (tgt := 47) hx hb dX10_readNumbers_39 (by decide) (fun c1681 => ?_) (fun c1681 => ?_)
    · have k1682 := i_eq c1681
      refine lv_iconst (v := 2) hx hb dX10_readNumbers_47 (by decide) ?_
      refine x_V (As := [.int 0, .int 2]) (rest := [.int x1, .ref l1]) C (a_X10_readNumber_e l K G H1657 (0) (2) (sp) (fr) (tk) (vl) (tp) (ci) bt hTH1657 ga0 (by decide) (by decide) gtq m1664 m1668 m1669 m1670 m1671 m1672 g1659 g1660 g1661 g1662 (by omega) (hy0) (hy1) f1663) yo_X10_readNumber wM_X10_276 ⟨⟨by decide, by decide⟩, by decide, by decide⟩ (x_rv C hTH1657 (ci := 10) rfl ga0 rg_112) rfl hl.1 rfl (Nat.le_of_ble_eq_true rfl) dX10_readNumbers_48 hSH1657 (AE_sub (fun _ _ => rfl) (by decide) hSH1657.1) (fun vH1683 H1683 locsH1683 pH1683 zH1683 kH1683 hSH1683 => ?_)
      obtain ⟨x1684, x1685, x1686, x1687, x1688, hvH1683, ex1685, ex1686, ex1687, ex1688, hrH1683, m1689, g1690, g1691, g1692, g1693, mf1694, m1695, hTH1683⟩ := pH1683
      subst hvH1683
      have f1696 : ∀ j : Nat, bt j = (fI H1683 tq j).toInt := fun j => (f1663 j).trans (congrArg Int32.toInt (fI_kept (x_lt hTH1657 kH1683 gtq (by decide))).symm)
      have m1697 := (fI_kept (x_lt hTH1657 kH1683 gl1 (by decide))).trans m1674
      have m1698 := (fI_kept (x_lt hTH1657 kH1683 gl2 (by decide))).trans m1675
      have m1699 := (fI_kept (x_lt hTH1657 kH1683 gl3 (by decide))).trans m1676
      have m1700 := (m1664).trans (MF.r mf1694 (k := 17) (by decide) (by decide)).symm
      have m1701 := (m1665).trans (MF.r mf1694 (k := 26) (by decide) (by decide)).symm
      have m1702 := (m1666).trans (MF.r mf1694 (k := 27) (by decide) (by decide)).symm
      have m1703 := (m1667).trans (MF.r mf1694 (k := 28) (by decide) (by decide)).symm
      have m1704 := (m1672).trans (MF.i mf1694 (k := 18) (by decide) (by decide)).symm
      have m1705 := (m1673).trans (MF.i mf1694 (k := 34) (by decide) (by decide)).symm
      have mf1706 : MF K s.heap H1683 a0 [19, 20, 21, 22, 39, 40] := MF.trans mf1658 mf1694 (by decide)
      have bx1685 := ty_fi (x := x1685) (k := 19) ex1685 hTH1683 ga0 rg_112 rfl
      have bx1686 := ty_fi (x := x1686) (k := 20) ex1686 hTH1683 ga0 rg_112 rfl
      have bx1687 := ty_fi (x := x1687) (k := 21) ex1687 hTH1683 ga0 rg_112 rfl
      have bx1688 := ty_fi (x := x1688) (k := 22) ex1688 hTH1683 ga0 rg_112 rfl
      refine W.eq (g2 := F0 m 51 ls [.int x1684, .int x1, .ref l1]) rfl ?_
      refine x_iast C hTH1683 hSH1683 gl1 rg_130 (by omega) (by show _ < ((112 : Nat) : Int); omega) ⟨by have := i_rng x1684; omega, by have := i_rng x1684; omega⟩ (AE_in gl1 (by decide)) dX10_readNumbers_51 (fun H1707 locsH1707 hTH1707 hSH1707 wH1707 => ?_)
      have mf1708 : MF K s.heap H1707 a0 [19, 20, 21, 22, 39, 40] := MF.arr wH1707 (G_ne ga0 gl1 (by decide)) mf1706
      have g1709 : CG (avw K H1707 a0) := CG.congr (fun k hk j => av_arr hTH1683 ga0 wH1707 gl1 (by decide) (CG_ok 130 (by decide) k hk)) g1690
      have g1710 : TU (avw K H1707 a0) (svw K H1707 a0) := TU.congr (fun k hk j => av_arr hTH1683 ga0 wH1707 gl1 (by decide) (TU_ok 130 (by decide) k hk)) (fun k hk => sv_arr ga0 wH1707 gl1 (by decide)) g1691
      have g1711 : WD (avw K H1707 a0) := WD.congr (fun k hk j => av_arr hTH1683 ga0 wH1707 gl1 (by decide) (WD_ok 130 (by decide) k hk)) g1692
      have g1712 : IM (avw K H1707 a0) := IM.congr (fun k hk j => av_arr hTH1683 ga0 wH1707 gl1 (by decide) (IM_ok 130 (by decide) k hk)) g1693
      have f1713 : ∀ j : Nat, bt j = (fI H1707 tq j).toInt := fun j => (f1696 j).trans (congrArg Int32.toInt (Wr.neI wH1707 (Or.inl (G_ne gtq gl1 (by decide)))).symm)
      have m1715 := (Wr.neI wH1707 (Or.inl (G_ne gl2 gl1 (by decide)))).trans m1698
      have m1716 := (Wr.neI wH1707 (Or.inl (G_ne gl3 gl1 (by decide)))).trans m1699
      have m1717 := m1689.trans (Wr.neR wH1707 (Or.inl (G_ne ga0 gl1 (by decide)))).symm
      have m1718 := m1701.trans (Wr.neR wH1707 (Or.inl (G_ne ga0 gl1 (by decide)))).symm
      have m1719 := m1702.trans (Wr.neR wH1707 (Or.inl (G_ne ga0 gl1 (by decide)))).symm
      have m1720 := m1703.trans (Wr.neR wH1707 (Or.inl (G_ne ga0 gl1 (by decide)))).symm
      have m1721 := m1704.trans (Wr.neI wH1707 (Or.inl (G_ne ga0 gl1 (by decide)))).symm
      have m1722 := m1705.trans (Wr.neI wH1707 (Or.inl (G_ne ga0 gl1 (by decide)))).symm
      have m1723 := ex1685.trans (Wr.neI wH1707 (Or.inl (G_ne ga0 gl1 (by decide)))).symm
      have m1724 := ex1686.trans (Wr.neI wH1707 (Or.inl (G_ne ga0 gl1 (by decide)))).symm
      have m1725 := ex1687.trans (Wr.neI wH1707 (Or.inl (G_ne ga0 gl1 (by decide)))).symm
      have m1726 := ex1688.trans (Wr.neI wH1707 (Or.inl (G_ne ga0 gl1 (by decide)))).symm
      have m1727 := Wr.I wH1707
      have m1727 := m1727.symm
      refine lv_aload_n hx hb dX10_readNumbers_52 rfl (lv_at hl 0 rfl) ?_
      refine x_gr C hTH1707 (ci := 10) (k := 26) rfl inX10 (by decide) wF_X10_65 ga0 rg_112 rfl dX10_readNumbers_53 (fun q1728 eq1728 gq1728 => ?_)
      have uq1728 : l1 = q1728 := (m1718).trans eq1728.symm
      subst uq1728
      refine lv_iload_n hx hb dX10_readNumbers_56 rfl (lv_at hl 1 rfl) ?_
      refine x_ai C hTH1707 gl1 rg_130 ⟨by omega, by show _ < ((112 : Nat) : Int); omega⟩ dX10_readNumbers_57 (fun x1729 ex1729 bx1729 => ?_)
      have ux1729 : x1684 = x1729 := (m1727).trans ex1729.symm
      subst ux1729
      refine lv_iconst (v := (-1)) hx hb dX10_readNumbers_58 (by decide) ?_
      refine lv_icmp_eq (tgt := 69) hx hb dX10_readNumbers_59 (by decide) (fun c1730 => ?_) (fun c1730 => ?_)
      · have k1731 := i_eq c1730
        refine lv_aload_n hx hb dX10_readNumbers_69 rfl (lv_at hl 0 rfl) ?_
        refine x_gr C hTH1707 (ci := 10) (k := 26) rfl inX10 (by decide) wF_X10_65 ga0 rg_112 rfl dX10_readNumbers_70 (fun q1732 eq1732 gq1732 => ?_)
        have uq1732 : l1 = q1732 := (m1718).trans eq1732.symm
        subst uq1732
        refine lv_iload_n hx hb dX10_readNumbers_73 rfl (lv_at hl 1 rfl) ?_
        refine x_ai C hTH1707 gl1 rg_130 ⟨by omega, by show _ < ((112 : Nat) : Int); omega⟩ dX10_readNumbers_74 (fun x1733 ex1733 bx1733 => ?_)
        have ux1733 : x1684 = x1733 := (m1727).trans ex1733.symm
        subst ux1733
        have cn_fr := i_cl (x := fr) (by omega)
        have nz1734 := RC.no m1695 (by omega)
        rw [n_0, n_2] at nz1734
        exact x_iret C hQ dX10_readNumbers_75 hSH1707 (by decide) (by decide) (⟨x1684, x1685, x1686, x1687, x1688, rfl, m1723, m1724, m1725, m1726, by omega, m1717, m1718, m1719, m1720, g1709, g1710, g1711, g1712, mf1708, Or.inl ⟨hn_l (by omega) (by omega) nz1734, by omega⟩, hTH1707⟩)
      · have k1731 := i_ne c1730
        obtain ⟨cj1735, ho1737, cu1736⟩ := RC.yes m1695 (by omega)
        have nz1738 := ho1737
        rw [n_0, n_2] at nz1738
        refine lv_aload_n hx hb dX10_readNumbers_62 rfl (lv_at hl 0 rfl) ?_
        refine x_gi C hTH1707 (ci := 10) (k := 34) rfl inX10 (by decide) wF_X10_231 ga0 rg_112 rfl dX10_readNumbers_63 (fun x1739 ex1739 bx1739 => ?_)
        have ux1739 : jb = x1739 := (m1722).trans ex1739.symm
        subst ux1739
        refine lv_if_ne (tgt := 76) hx hb dX10_readNumbers_66 (by decide) (fun c1740 => ?_) (fun c1740 => ?_)
        · have k1741 := i_ne c1740
          exfalso
          omega
        · have k1741 := i_eq c1740
          refine lv_aload_n hx hb dX10_readNumbers_69 rfl (lv_at hl 0 rfl) ?_
          refine x_gr C hTH1707 (ci := 10) (k := 26) rfl inX10 (by decide) wF_X10_65 ga0 rg_112 rfl dX10_readNumbers_70 (fun q1742 eq1742 gq1742 => ?_)
          have uq1742 : l1 = q1742 := (m1718).trans eq1742.symm
          subst uq1742
          refine lv_iload_n hx hb dX10_readNumbers_73 rfl (lv_at hl 1 rfl) ?_
          refine x_ai C hTH1707 gl1 rg_130 ⟨by omega, by show _ < ((112 : Nat) : Int); omega⟩ dX10_readNumbers_74 (fun x1743 ex1743 bx1743 => ?_)
          have ux1743 : x1684 = x1743 := (m1727).trans ex1743.symm
          subst ux1743
          have cn_fr := i_cl (x := fr) (by omega)
          exact x_iret C hQ dX10_readNumbers_75 hSH1707 (by decide) (by decide) (⟨x1684, x1685, x1686, x1687, x1688, rfl, m1723, m1724, m1725, m1726, by omega, m1717, m1718, m1719, m1720, g1709, g1710, g1711, g1712, mf1708, Or.inr ⟨cj1735, hn_l (by omega) (by omega) nz1738, by omega, cu1736⟩, hTH1707⟩)
    · have k1682 := i_ne c1681
      refine lv_bipush (v := 15) hx hb dX10_readNumbers_42 (by decide) ?_
      refine lv_goto (tgt := 48) hx hb dX10_readNumbers_44 (by decide) ?_
      refine x_V (As := [.int 0, .int 15]) (rest := [.int x1, .ref l1]) C (a_X10_readNumber_e l K G H1657 (0) (15) (sp) (fr) (tk) (vl) (tp) (ci) bt hTH1657 ga0 (by decide) (by decide) gtq m1664 m1668 m1669 m1670 m1671 m1672 g1659 g1660 g1661 g1662 (by omega) (hy0) (hy1) f1663) yo_X10_readNumber wM_X10_276 ⟨⟨by decide, by decide⟩, by decide, by decide⟩ (x_rv C hTH1657 (ci := 10) rfl ga0 rg_112) rfl hl.1 rfl (Nat.le_of_ble_eq_true rfl) dX10_readNumbers_48 hSH1657 (AE_sub (fun _ _ => rfl) (by decide) hSH1657.1) (fun vH1744 H1744 locsH1744 pH1744 zH1744 kH1744 hSH1744 => ?_)
      obtain ⟨x1745, x1746, x1747, x1748, x1749, hvH1744, ex1746, ex1747, ex1748, ex1749, hrH1744, m1750, g1751, g1752, g1753, g1754, mf1755, m1756, hTH1744⟩ := pH1744
      subst hvH1744
      have f1757 : ∀ j : Nat, bt j = (fI H1744 tq j).toInt := fun j => (f1663 j).trans (congrArg Int32.toInt (fI_kept (x_lt hTH1657 kH1744 gtq (by decide))).symm)
      have m1758 := (fI_kept (x_lt hTH1657 kH1744 gl1 (by decide))).trans m1674
      have m1759 := (fI_kept (x_lt hTH1657 kH1744 gl2 (by decide))).trans m1675
      have m1760 := (fI_kept (x_lt hTH1657 kH1744 gl3 (by decide))).trans m1676
      have m1761 := (m1664).trans (MF.r mf1755 (k := 17) (by decide) (by decide)).symm
      have m1762 := (m1665).trans (MF.r mf1755 (k := 26) (by decide) (by decide)).symm
      have m1763 := (m1666).trans (MF.r mf1755 (k := 27) (by decide) (by decide)).symm
      have m1764 := (m1667).trans (MF.r mf1755 (k := 28) (by decide) (by decide)).symm
      have m1765 := (m1672).trans (MF.i mf1755 (k := 18) (by decide) (by decide)).symm
      have m1766 := (m1673).trans (MF.i mf1755 (k := 34) (by decide) (by decide)).symm
      have mf1767 : MF K s.heap H1744 a0 [19, 20, 21, 22, 39, 40] := MF.trans mf1658 mf1755 (by decide)
      have bx1746 := ty_fi (x := x1746) (k := 19) ex1746 hTH1744 ga0 rg_112 rfl
      have bx1747 := ty_fi (x := x1747) (k := 20) ex1747 hTH1744 ga0 rg_112 rfl
      have bx1748 := ty_fi (x := x1748) (k := 21) ex1748 hTH1744 ga0 rg_112 rfl
      have bx1749 := ty_fi (x := x1749) (k := 22) ex1749 hTH1744 ga0 rg_112 rfl
      refine W.eq (g2 := F0 m 51 ls [.int x1745, .int x1, .ref l1]) rfl ?_
      refine x_iast C hTH1744 hSH1744 gl1 rg_130 (by omega) (by show _ < ((112 : Nat) : Int); omega) ⟨by have := i_rng x1745; omega, by have := i_rng x1745; omega⟩ (AE_in gl1 (by decide)) dX10_readNumbers_51 (fun H1768 locsH1768 hTH1768 hSH1768 wH1768 => ?_)
      have mf1769 : MF K s.heap H1768 a0 [19, 20, 21, 22, 39, 40] := MF.arr wH1768 (G_ne ga0 gl1 (by decide)) mf1767
      have g1770 : CG (avw K H1768 a0) := CG.congr (fun k hk j => av_arr hTH1744 ga0 wH1768 gl1 (by decide) (CG_ok 130 (by decide) k hk)) g1751
      have g1771 : TU (avw K H1768 a0) (svw K H1768 a0) := TU.congr (fun k hk j => av_arr hTH1744 ga0 wH1768 gl1 (by decide) (TU_ok 130 (by decide) k hk)) (fun k hk => sv_arr ga0 wH1768 gl1 (by decide)) g1752
      have g1772 : WD (avw K H1768 a0) := WD.congr (fun k hk j => av_arr hTH1744 ga0 wH1768 gl1 (by decide) (WD_ok 130 (by decide) k hk)) g1753
      have g1773 : IM (avw K H1768 a0) := IM.congr (fun k hk j => av_arr hTH1744 ga0 wH1768 gl1 (by decide) (IM_ok 130 (by decide) k hk)) g1754
      have f1774 : ∀ j : Nat, bt j = (fI H1768 tq j).toInt := fun j => (f1757 j).trans (congrArg Int32.toInt (Wr.neI wH1768 (Or.inl (G_ne gtq gl1 (by decide)))).symm)
      have m1776 := (Wr.neI wH1768 (Or.inl (G_ne gl2 gl1 (by decide)))).trans m1759
      have m1777 := (Wr.neI wH1768 (Or.inl (G_ne gl3 gl1 (by decide)))).trans m1760
      have m1778 := m1750.trans (Wr.neR wH1768 (Or.inl (G_ne ga0 gl1 (by decide)))).symm
      have m1779 := m1762.trans (Wr.neR wH1768 (Or.inl (G_ne ga0 gl1 (by decide)))).symm
      have m1780 := m1763.trans (Wr.neR wH1768 (Or.inl (G_ne ga0 gl1 (by decide)))).symm
      have m1781 := m1764.trans (Wr.neR wH1768 (Or.inl (G_ne ga0 gl1 (by decide)))).symm
      have m1782 := m1765.trans (Wr.neI wH1768 (Or.inl (G_ne ga0 gl1 (by decide)))).symm
      have m1783 := m1766.trans (Wr.neI wH1768 (Or.inl (G_ne ga0 gl1 (by decide)))).symm
      have m1784 := ex1746.trans (Wr.neI wH1768 (Or.inl (G_ne ga0 gl1 (by decide)))).symm
      have m1785 := ex1747.trans (Wr.neI wH1768 (Or.inl (G_ne ga0 gl1 (by decide)))).symm
      have m1786 := ex1748.trans (Wr.neI wH1768 (Or.inl (G_ne ga0 gl1 (by decide)))).symm
      have m1787 := ex1749.trans (Wr.neI wH1768 (Or.inl (G_ne ga0 gl1 (by decide)))).symm
      have m1788 := Wr.I wH1768
      have m1788 := m1788.symm
      refine lv_aload_n hx hb dX10_readNumbers_52 rfl (lv_at hl 0 rfl) ?_
      refine x_gr C hTH1768 (ci := 10) (k := 26) rfl inX10 (by decide) wF_X10_65 ga0 rg_112 rfl dX10_readNumbers_53 (fun q1789 eq1789 gq1789 => ?_)
      have uq1789 : l1 = q1789 := (m1779).trans eq1789.symm
      subst uq1789
      refine lv_iload_n hx hb dX10_readNumbers_56 rfl (lv_at hl 1 rfl) ?_
      refine x_ai C hTH1768 gl1 rg_130 ⟨by omega, by show _ < ((112 : Nat) : Int); omega⟩ dX10_readNumbers_57 (fun x1790 ex1790 bx1790 => ?_)
      have ux1790 : x1745 = x1790 := (m1788).trans ex1790.symm
      subst ux1790
      refine lv_iconst (v := (-1)) hx hb dX10_readNumbers_58 (by decide) ?_
      refine lv_icmp_eq (tgt := 69) hx hb dX10_readNumbers_59 (by decide) (fun c1791 => ?_) (fun c1791 => ?_)
      · have k1792 := i_eq c1791
        refine lv_aload_n hx hb dX10_readNumbers_69 rfl (lv_at hl 0 rfl) ?_
        refine x_gr C hTH1768 (ci := 10) (k := 26) rfl inX10 (by decide) wF_X10_65 ga0 rg_112 rfl dX10_readNumbers_70 (fun q1793 eq1793 gq1793 => ?_)
        have uq1793 : l1 = q1793 := (m1779).trans eq1793.symm
        subst uq1793
        refine lv_iload_n hx hb dX10_readNumbers_73 rfl (lv_at hl 1 rfl) ?_
        refine x_ai C hTH1768 gl1 rg_130 ⟨by omega, by show _ < ((112 : Nat) : Int); omega⟩ dX10_readNumbers_74 (fun x1794 ex1794 bx1794 => ?_)
        have ux1794 : x1745 = x1794 := (m1788).trans ex1794.symm
        subst ux1794
        have cn_fr := i_cl (x := fr) (by omega)
        have nz1795 := RC.no m1756 (by omega)
        rw [n_0, n_15] at nz1795
        exact x_iret C hQ dX10_readNumbers_75 hSH1768 (by decide) (by decide) (⟨x1745, x1746, x1747, x1748, x1749, rfl, m1784, m1785, m1786, m1787, by omega, m1778, m1779, m1780, m1781, g1770, g1771, g1772, g1773, mf1769, Or.inl ⟨hn_j1 (by omega) nz1795, by omega⟩, hTH1768⟩)
      · have k1792 := i_ne c1791
        obtain ⟨cj1796, ho1798, cu1797⟩ := RC.yes m1756 (by omega)
        have nz1799 := ho1798
        rw [n_0, n_15] at nz1799
        refine lv_aload_n hx hb dX10_readNumbers_62 rfl (lv_at hl 0 rfl) ?_
        refine x_gi C hTH1768 (ci := 10) (k := 34) rfl inX10 (by decide) wF_X10_231 ga0 rg_112 rfl dX10_readNumbers_63 (fun x1800 ex1800 bx1800 => ?_)
        have ux1800 : jb = x1800 := (m1783).trans ex1800.symm
        subst ux1800
        refine lv_if_ne (tgt := 76) hx hb dX10_readNumbers_66 (by decide) (fun c1801 => ?_) (fun c1801 => ?_)
        · have k1802 := i_ne c1801
          refine lv_iload_n hx hb dX10_readNumbers_76 rfl (lv_at hl 2 rfl) ?_
          refine lv_iconst (v := 5) hx hb dX10_readNumbers_77 (by decide) ?_
          refine lv_icmp_ne (tgt := 94) hx hb dX10_readNumbers_78 (by decide) (fun c1803 => ?_) (fun c1803 => ?_)
          · have k1804 := i_ne c1803
            refine lv_aload_n hx hb dX10_readNumbers_94 rfl (lv_at hl 0 rfl) ?_
            refine x_gr C hTH1768 (ci := 10) (k := 27) rfl inX10 (by decide) wF_X10_68 ga0 rg_112 rfl dX10_readNumbers_95 (fun q1805 eq1805 gq1805 => ?_)
            have uq1805 : l2 = q1805 := (m1780).trans eq1805.symm
            subst uq1805
            refine lv_iload_n hx hb dX10_readNumbers_98 rfl (lv_at hl 1 rfl) ?_
            refine x_ai C hTH1768 gl2 rg_131 ⟨by omega, by show _ < ((112 : Nat) : Int); omega⟩ dX10_readNumbers_99 (fun x1806 ex1806 bx1806 => ?_)
            have ux1806 : x1806 = 0 := ex1806.trans m1776
            subst ux1806
            refine lv_iconst (v := (-1)) hx hb dX10_readNumbers_100 (by decide) ?_
            refine lv_icmp_ne (tgt := 106) hx hb dX10_readNumbers_101 (by decide) (fun c1807 => ?_) (fun c1807 => ?_)
            · have k1808 := i_ne c1807
              refine lv_aload_n hx hb dX10_readNumbers_106 rfl (lv_at hl 0 rfl) ?_
              refine x_gr C hTH1768 (ci := 10) (k := 28) rfl inX10 (by decide) wF_X10_71 ga0 rg_112 rfl dX10_readNumbers_107 (fun q1809 eq1809 gq1809 => ?_)
              have uq1809 : l3 = q1809 := (m1781).trans eq1809.symm
              subst uq1809
              refine lv_iload_n hx hb dX10_readNumbers_110 rfl (lv_at hl 1 rfl) ?_
              refine lv_iload_n hx hb dX10_readNumbers_111 rfl (lv_at hl 2 rfl) ?_
              refine lv_bipush (v := 17) hx hb dX10_readNumbers_112 (by decide) ?_
              refine lv_icmp_ne (tgt := 127) hx hb dX10_readNumbers_114 (by decide) (fun c1810 => ?_) (fun c1810 => ?_)
              · have k1811 := i_ne c1810
                refine lv_aload_n hx hb dX10_readNumbers_127 rfl (lv_at hl 0 rfl) ?_
                refine lv_iconst (v := 1) hx hb dX10_readNumbers_128 (by decide) ?_
                refine lv_bipush (v := 9) hx hb dX10_readNumbers_129 (by decide) ?_
                refine x_V (As := [.int 1, .int 9]) (rest := [.int x1, .ref l3]) C (a_X10_readNumber_e l K G H1768 (1) (9) (x1746) (x1747) (x1748) (x1749) (tp) (cj1796) bt hTH1768 ga0 (by decide) (by decide) gtq m1778 m1784 m1785 m1786 m1787 m1782 g1770 g1771 g1772 g1773 (by omega) (cu1797) (hy1) f1774) yo_X10_readNumber wM_X10_276 ⟨⟨by decide, by decide⟩, by decide, by decide⟩ (x_rv C hTH1768 (ci := 10) rfl ga0 rg_112) rfl hl.1 rfl (Nat.le_of_ble_eq_true rfl) dX10_readNumbers_131 hSH1768 (AE_sub (fun _ _ => rfl) (by decide) hSH1768.1) (fun vH1812 H1812 locsH1812 pH1812 zH1812 kH1812 hSH1812 => ?_)
                obtain ⟨x1813, x1814, x1815, x1816, x1817, hvH1812, ex1814, ex1815, ex1816, ex1817, hrH1812, m1818, g1819, g1820, g1821, g1822, mf1823, m1824, hTH1812⟩ := pH1812
                subst hvH1812
                have f1825 : ∀ j : Nat, bt j = (fI H1812 tq j).toInt := fun j => (f1774 j).trans (congrArg Int32.toInt (fI_kept (x_lt hTH1768 kH1812 gtq (by decide))).symm)
                have m1826 := (fI_kept (x_lt hTH1768 kH1812 gl2 (by decide))).trans m1776
                have m1827 := (fI_kept (x_lt hTH1768 kH1812 gl3 (by decide))).trans m1777
                have m1828 := (m1788).trans (fI_kept (x_lt hTH1768 kH1812 gl1 (by decide))).symm
                have m1829 := (m1778).trans (MF.r mf1823 (k := 17) (by decide) (by decide)).symm
                have m1830 := (m1779).trans (MF.r mf1823 (k := 26) (by decide) (by decide)).symm
                have m1831 := (m1780).trans (MF.r mf1823 (k := 27) (by decide) (by decide)).symm
                have m1832 := (m1781).trans (MF.r mf1823 (k := 28) (by decide) (by decide)).symm
                have m1833 := (m1782).trans (MF.i mf1823 (k := 18) (by decide) (by decide)).symm
                have m1834 := (m1783).trans (MF.i mf1823 (k := 34) (by decide) (by decide)).symm
                have mf1835 : MF K s.heap H1812 a0 [19, 20, 21, 22, 39, 40] := MF.trans mf1769 mf1823 (by decide)
                have bx1814 := ty_fi (x := x1814) (k := 19) ex1814 hTH1812 ga0 rg_112 rfl
                have bx1815 := ty_fi (x := x1815) (k := 20) ex1815 hTH1812 ga0 rg_112 rfl
                have bx1816 := ty_fi (x := x1816) (k := 21) ex1816 hTH1812 ga0 rg_112 rfl
                have bx1817 := ty_fi (x := x1817) (k := 22) ex1817 hTH1812 ga0 rg_112 rfl
                refine W.eq (g2 := F0 m 134 ls [.int x1813, .int x1, .ref l3]) rfl ?_
                refine x_iast C hTH1812 hSH1812 gl3 rg_132 (by omega) (by show _ < ((112 : Nat) : Int); omega) ⟨by have := i_rng x1813; omega, by have := i_rng x1813; omega⟩ (AE_in gl3 (by decide)) dX10_readNumbers_134 (fun H1836 locsH1836 hTH1836 hSH1836 wH1836 => ?_)
                have mf1837 : MF K s.heap H1836 a0 [19, 20, 21, 22, 39, 40] := MF.arr wH1836 (G_ne ga0 gl3 (by decide)) mf1835
                have g1838 : CG (avw K H1836 a0) := CG.congr (fun k hk j => av_arr hTH1812 ga0 wH1836 gl3 (by decide) (CG_ok 132 (by decide) k hk)) g1819
                have g1839 : TU (avw K H1836 a0) (svw K H1836 a0) := TU.congr (fun k hk j => av_arr hTH1812 ga0 wH1836 gl3 (by decide) (TU_ok 132 (by decide) k hk)) (fun k hk => sv_arr ga0 wH1836 gl3 (by decide)) g1820
                have g1840 : WD (avw K H1836 a0) := WD.congr (fun k hk j => av_arr hTH1812 ga0 wH1836 gl3 (by decide) (WD_ok 132 (by decide) k hk)) g1821
                have g1841 : IM (avw K H1836 a0) := IM.congr (fun k hk j => av_arr hTH1812 ga0 wH1836 gl3 (by decide) (IM_ok 132 (by decide) k hk)) g1822
                have f1842 : ∀ j : Nat, bt j = (fI H1836 tq j).toInt := fun j => (f1825 j).trans (congrArg Int32.toInt (Wr.neI wH1836 (Or.inl (G_ne gtq gl3 (by decide)))).symm)
                have m1843 := (Wr.neI wH1836 (Or.inl (G_ne gl2 gl3 (by decide)))).trans m1826
                have m1845 := m1828.trans (Wr.neI wH1836 (Or.inl (G_ne gl1 gl3 (by decide)))).symm
                have m1846 := m1818.trans (Wr.neR wH1836 (Or.inl (G_ne ga0 gl3 (by decide)))).symm
                have m1847 := m1830.trans (Wr.neR wH1836 (Or.inl (G_ne ga0 gl3 (by decide)))).symm
                have m1848 := m1831.trans (Wr.neR wH1836 (Or.inl (G_ne ga0 gl3 (by decide)))).symm
                have m1849 := m1832.trans (Wr.neR wH1836 (Or.inl (G_ne ga0 gl3 (by decide)))).symm
                have m1850 := m1833.trans (Wr.neI wH1836 (Or.inl (G_ne ga0 gl3 (by decide)))).symm
                have m1851 := m1834.trans (Wr.neI wH1836 (Or.inl (G_ne ga0 gl3 (by decide)))).symm
                have m1852 := ex1814.trans (Wr.neI wH1836 (Or.inl (G_ne ga0 gl3 (by decide)))).symm
                have m1853 := ex1815.trans (Wr.neI wH1836 (Or.inl (G_ne ga0 gl3 (by decide)))).symm
                have m1854 := ex1816.trans (Wr.neI wH1836 (Or.inl (G_ne ga0 gl3 (by decide)))).symm
                have m1855 := ex1817.trans (Wr.neI wH1836 (Or.inl (G_ne ga0 gl3 (by decide)))).symm
                have m1856 := Wr.I wH1836
                have m1856 := m1856.symm
                refine lv_aload_n hx hb dX10_readNumbers_135 rfl (lv_at hl 0 rfl) ?_
                refine x_gr C hTH1836 (ci := 10) (k := 28) rfl inX10 (by decide) wF_X10_71 ga0 rg_112 rfl dX10_readNumbers_136 (fun q1857 eq1857 gq1857 => ?_)
                have uq1857 : l3 = q1857 := (m1849).trans eq1857.symm
                subst uq1857
                refine lv_iload_n hx hb dX10_readNumbers_139 rfl (lv_at hl 1 rfl) ?_
                refine x_ai C hTH1836 gl3 rg_132 ⟨by omega, by show _ < ((112 : Nat) : Int); omega⟩ dX10_readNumbers_140 (fun x1858 ex1858 bx1858 => ?_)
                have ux1858 : x1813 = x1858 := (m1856).trans ex1858.symm
                subst ux1858
                have cn_fr := i_cl (x := fr) (by omega)
                exact x_iret C hQ dX10_readNumbers_141 hSH1836 (by decide) (by decide) (⟨x1813, x1814, x1815, x1816, x1817, rfl, m1852, m1853, m1854, m1855, by omega, m1846, m1847, m1848, m1849, g1838, g1839, g1840, g1841, mf1837, (by rcases Int.lt_or_le x1813.toInt 0 with hneg | hpos; exact Or.inl ⟨(hn_j4 (by omega) nz1799 (Or.inr ⟨by omega, rfl⟩) (by omega) (by omega)).trans (by have z := RC.no m1824 (by omega); rw [n_1, n_9] at z; exact z), by omega⟩; obtain ⟨j9, o9, c9⟩ := RC.yes m1824 (by omega); rw [n_1, n_9] at o9; exact Or.inr ⟨j9, (hn_j4 (by omega) nz1799 (Or.inr ⟨by omega, rfl⟩) (by omega) (by omega)).trans o9, by omega, c9⟩), hTH1836⟩)
              · have k1811 := i_eq c1810
                refine lv_aload_n hx hb dX10_readNumbers_117 rfl (lv_at hl 0 rfl) ?_
                refine lv_iconst (v := 0) hx hb dX10_readNumbers_118 (by decide) ?_
                refine lv_bipush (v := 99) hx hb dX10_readNumbers_119 (by decide) ?_
                refine x_V (As := [.int 0, .int 99]) (rest := [.int x1, .ref l3]) C (a_X10_readNumber_e l K G H1768 (0) (99) (x1746) (x1747) (x1748) (x1749) (tp) (cj1796) bt hTH1768 ga0 (by decide) (by decide) gtq m1778 m1784 m1785 m1786 m1787 m1782 g1770 g1771 g1772 g1773 (by omega) (cu1797) (hy1) f1774) yo_X10_readNumber wM_X10_276 ⟨⟨by decide, by decide⟩, by decide, by decide⟩ (x_rv C hTH1768 (ci := 10) rfl ga0 rg_112) rfl hl.1 rfl (Nat.le_of_ble_eq_true rfl) dX10_readNumbers_121 hSH1768 (AE_sub (fun _ _ => rfl) (by decide) hSH1768.1) (fun vH1859 H1859 locsH1859 pH1859 zH1859 kH1859 hSH1859 => ?_)
                obtain ⟨x1860, x1861, x1862, x1863, x1864, hvH1859, ex1861, ex1862, ex1863, ex1864, hrH1859, m1865, g1866, g1867, g1868, g1869, mf1870, m1871, hTH1859⟩ := pH1859
                subst hvH1859
                have f1872 : ∀ j : Nat, bt j = (fI H1859 tq j).toInt := fun j => (f1774 j).trans (congrArg Int32.toInt (fI_kept (x_lt hTH1768 kH1859 gtq (by decide))).symm)
                have m1873 := (fI_kept (x_lt hTH1768 kH1859 gl2 (by decide))).trans m1776
                have m1874 := (fI_kept (x_lt hTH1768 kH1859 gl3 (by decide))).trans m1777
                have m1875 := (m1788).trans (fI_kept (x_lt hTH1768 kH1859 gl1 (by decide))).symm
                have m1876 := (m1778).trans (MF.r mf1870 (k := 17) (by decide) (by decide)).symm
                have m1877 := (m1779).trans (MF.r mf1870 (k := 26) (by decide) (by decide)).symm
                have m1878 := (m1780).trans (MF.r mf1870 (k := 27) (by decide) (by decide)).symm
                have m1879 := (m1781).trans (MF.r mf1870 (k := 28) (by decide) (by decide)).symm
                have m1880 := (m1782).trans (MF.i mf1870 (k := 18) (by decide) (by decide)).symm
                have m1881 := (m1783).trans (MF.i mf1870 (k := 34) (by decide) (by decide)).symm
                have mf1882 : MF K s.heap H1859 a0 [19, 20, 21, 22, 39, 40] := MF.trans mf1769 mf1870 (by decide)
                have bx1861 := ty_fi (x := x1861) (k := 19) ex1861 hTH1859 ga0 rg_112 rfl
                have bx1862 := ty_fi (x := x1862) (k := 20) ex1862 hTH1859 ga0 rg_112 rfl
                have bx1863 := ty_fi (x := x1863) (k := 21) ex1863 hTH1859 ga0 rg_112 rfl
                have bx1864 := ty_fi (x := x1864) (k := 22) ex1864 hTH1859 ga0 rg_112 rfl
                refine W.eq (g2 := F0 m 124 ls [.int x1860, .int x1, .ref l3]) rfl ?_
                refine lv_goto (tgt := 134) hx hb dX10_readNumbers_124 (by decide) ?_
                refine x_iast C hTH1859 hSH1859 gl3 rg_132 (by omega) (by show _ < ((112 : Nat) : Int); omega) ⟨by have := i_rng x1860; omega, by have := i_rng x1860; omega⟩ (AE_in gl3 (by decide)) dX10_readNumbers_134 (fun H1883 locsH1883 hTH1883 hSH1883 wH1883 => ?_)
                have mf1884 : MF K s.heap H1883 a0 [19, 20, 21, 22, 39, 40] := MF.arr wH1883 (G_ne ga0 gl3 (by decide)) mf1882
                have g1885 : CG (avw K H1883 a0) := CG.congr (fun k hk j => av_arr hTH1859 ga0 wH1883 gl3 (by decide) (CG_ok 132 (by decide) k hk)) g1866
                have g1886 : TU (avw K H1883 a0) (svw K H1883 a0) := TU.congr (fun k hk j => av_arr hTH1859 ga0 wH1883 gl3 (by decide) (TU_ok 132 (by decide) k hk)) (fun k hk => sv_arr ga0 wH1883 gl3 (by decide)) g1867
                have g1887 : WD (avw K H1883 a0) := WD.congr (fun k hk j => av_arr hTH1859 ga0 wH1883 gl3 (by decide) (WD_ok 132 (by decide) k hk)) g1868
                have g1888 : IM (avw K H1883 a0) := IM.congr (fun k hk j => av_arr hTH1859 ga0 wH1883 gl3 (by decide) (IM_ok 132 (by decide) k hk)) g1869
                have f1889 : ∀ j : Nat, bt j = (fI H1883 tq j).toInt := fun j => (f1872 j).trans (congrArg Int32.toInt (Wr.neI wH1883 (Or.inl (G_ne gtq gl3 (by decide)))).symm)
                have m1890 := (Wr.neI wH1883 (Or.inl (G_ne gl2 gl3 (by decide)))).trans m1873
                have m1892 := m1875.trans (Wr.neI wH1883 (Or.inl (G_ne gl1 gl3 (by decide)))).symm
                have m1893 := m1865.trans (Wr.neR wH1883 (Or.inl (G_ne ga0 gl3 (by decide)))).symm
                have m1894 := m1877.trans (Wr.neR wH1883 (Or.inl (G_ne ga0 gl3 (by decide)))).symm
                have m1895 := m1878.trans (Wr.neR wH1883 (Or.inl (G_ne ga0 gl3 (by decide)))).symm
                have m1896 := m1879.trans (Wr.neR wH1883 (Or.inl (G_ne ga0 gl3 (by decide)))).symm
                have m1897 := m1880.trans (Wr.neI wH1883 (Or.inl (G_ne ga0 gl3 (by decide)))).symm
                have m1898 := m1881.trans (Wr.neI wH1883 (Or.inl (G_ne ga0 gl3 (by decide)))).symm
                have m1899 := ex1861.trans (Wr.neI wH1883 (Or.inl (G_ne ga0 gl3 (by decide)))).symm
                have m1900 := ex1862.trans (Wr.neI wH1883 (Or.inl (G_ne ga0 gl3 (by decide)))).symm
                have m1901 := ex1863.trans (Wr.neI wH1883 (Or.inl (G_ne ga0 gl3 (by decide)))).symm
                have m1902 := ex1864.trans (Wr.neI wH1883 (Or.inl (G_ne ga0 gl3 (by decide)))).symm
                have m1903 := Wr.I wH1883
                have m1903 := m1903.symm
                refine lv_aload_n hx hb dX10_readNumbers_135 rfl (lv_at hl 0 rfl) ?_
                refine x_gr C hTH1883 (ci := 10) (k := 28) rfl inX10 (by decide) wF_X10_71 ga0 rg_112 rfl dX10_readNumbers_136 (fun q1904 eq1904 gq1904 => ?_)
                have uq1904 : l3 = q1904 := (m1896).trans eq1904.symm
                subst uq1904
                refine lv_iload_n hx hb dX10_readNumbers_139 rfl (lv_at hl 1 rfl) ?_
                refine x_ai C hTH1883 gl3 rg_132 ⟨by omega, by show _ < ((112 : Nat) : Int); omega⟩ dX10_readNumbers_140 (fun x1905 ex1905 bx1905 => ?_)
                have ux1905 : x1860 = x1905 := (m1903).trans ex1905.symm
                subst ux1905
                have cn_fr := i_cl (x := fr) (by omega)
                exact x_iret C hQ dX10_readNumbers_141 hSH1883 (by decide) (by decide) (⟨x1860, x1861, x1862, x1863, x1864, rfl, m1899, m1900, m1901, m1902, by omega, m1893, m1894, m1895, m1896, g1885, g1886, g1887, g1888, mf1884, (by rcases Int.lt_or_le x1860.toInt 0 with hneg | hpos; exact Or.inl ⟨(hn_j3 (by omega) nz1799 (Or.inr ⟨by omega, rfl⟩) (by omega)).trans (by have z := RC.no m1871 (by omega); rw [n_0, n_99] at z; exact z), by omega⟩; obtain ⟨j9, o9, c9⟩ := RC.yes m1871 (by omega); rw [n_0, n_99] at o9; exact Or.inr ⟨j9, (hn_j3 (by omega) nz1799 (Or.inr ⟨by omega, rfl⟩) (by omega)).trans o9, by omega, c9⟩), hTH1883⟩)
            · have k1808 := i_eq c1807
              exfalso
              omega
          · have k1804 := i_eq c1803
            refine lv_aload_n hx hb dX10_readNumbers_81 rfl (lv_at hl 0 rfl) ?_
            refine x_gr C hTH1768 (ci := 10) (k := 27) rfl inX10 (by decide) wF_X10_68 ga0 rg_112 rfl dX10_readNumbers_82 (fun q1906 eq1906 gq1906 => ?_)
            have uq1906 : l2 = q1906 := (m1780).trans eq1906.symm
            subst uq1906
            refine lv_iload_n hx hb dX10_readNumbers_85 rfl (lv_at hl 1 rfl) ?_
            refine lv_aload_n hx hb dX10_readNumbers_86 rfl (lv_at hl 0 rfl) ?_
            refine lv_iconst (v := 0) hx hb dX10_readNumbers_87 (by decide) ?_
            refine lv_bipush (v := 15) hx hb dX10_readNumbers_88 (by decide) ?_
            refine x_V (As := [.int 0, .int 15]) (rest := [.int x1, .ref l2]) C (a_X10_readNumber_e l K G H1768 (0) (15) (x1746) (x1747) (x1748) (x1749) (tp) (cj1796) bt hTH1768 ga0 (by decide) (by decide) gtq m1778 m1784 m1785 m1786 m1787 m1782 g1770 g1771 g1772 g1773 (by omega) (cu1797) (hy1) f1774) yo_X10_readNumber wM_X10_276 ⟨⟨by decide, by decide⟩, by decide, by decide⟩ (x_rv C hTH1768 (ci := 10) rfl ga0 rg_112) rfl hl.1 rfl (Nat.le_of_ble_eq_true rfl) dX10_readNumbers_90 hSH1768 (AE_sub (fun _ _ => rfl) (by decide) hSH1768.1) (fun vH1907 H1907 locsH1907 pH1907 zH1907 kH1907 hSH1907 => ?_)
            obtain ⟨x1908, x1909, x1910, x1911, x1912, hvH1907, ex1909, ex1910, ex1911, ex1912, hrH1907, m1913, g1914, g1915, g1916, g1917, mf1918, m1919, hTH1907⟩ := pH1907
            subst hvH1907
            have f1920 : ∀ j : Nat, bt j = (fI H1907 tq j).toInt := fun j => (f1774 j).trans (congrArg Int32.toInt (fI_kept (x_lt hTH1768 kH1907 gtq (by decide))).symm)
            have m1921 := (fI_kept (x_lt hTH1768 kH1907 gl2 (by decide))).trans m1776
            have m1922 := (fI_kept (x_lt hTH1768 kH1907 gl3 (by decide))).trans m1777
            have m1923 := (m1788).trans (fI_kept (x_lt hTH1768 kH1907 gl1 (by decide))).symm
            have m1924 := (m1778).trans (MF.r mf1918 (k := 17) (by decide) (by decide)).symm
            have m1925 := (m1779).trans (MF.r mf1918 (k := 26) (by decide) (by decide)).symm
            have m1926 := (m1780).trans (MF.r mf1918 (k := 27) (by decide) (by decide)).symm
            have m1927 := (m1781).trans (MF.r mf1918 (k := 28) (by decide) (by decide)).symm
            have m1928 := (m1782).trans (MF.i mf1918 (k := 18) (by decide) (by decide)).symm
            have m1929 := (m1783).trans (MF.i mf1918 (k := 34) (by decide) (by decide)).symm
            have mf1930 : MF K s.heap H1907 a0 [19, 20, 21, 22, 39, 40] := MF.trans mf1769 mf1918 (by decide)
            have bx1909 := ty_fi (x := x1909) (k := 19) ex1909 hTH1907 ga0 rg_112 rfl
            have bx1910 := ty_fi (x := x1910) (k := 20) ex1910 hTH1907 ga0 rg_112 rfl
            have bx1911 := ty_fi (x := x1911) (k := 21) ex1911 hTH1907 ga0 rg_112 rfl
            have bx1912 := ty_fi (x := x1912) (k := 22) ex1912 hTH1907 ga0 rg_112 rfl
            refine W.eq (g2 := F0 m 93 ls [.int x1908, .int x1, .ref l2]) rfl ?_
            refine x_iast C hTH1907 hSH1907 gl2 rg_131 (by omega) (by show _ < ((112 : Nat) : Int); omega) ⟨by have := i_rng x1908; omega, by have := i_rng x1908; omega⟩ (AE_in gl2 (by decide)) dX10_readNumbers_93 (fun H1931 locsH1931 hTH1931 hSH1931 wH1931 => ?_)
            have mf1932 : MF K s.heap H1931 a0 [19, 20, 21, 22, 39, 40] := MF.arr wH1931 (G_ne ga0 gl2 (by decide)) mf1930
            have g1933 : CG (avw K H1931 a0) := CG.congr (fun k hk j => av_arr hTH1907 ga0 wH1931 gl2 (by decide) (CG_ok 131 (by decide) k hk)) g1914
            have g1934 : TU (avw K H1931 a0) (svw K H1931 a0) := TU.congr (fun k hk j => av_arr hTH1907 ga0 wH1931 gl2 (by decide) (TU_ok 131 (by decide) k hk)) (fun k hk => sv_arr ga0 wH1931 gl2 (by decide)) g1915
            have g1935 : WD (avw K H1931 a0) := WD.congr (fun k hk j => av_arr hTH1907 ga0 wH1931 gl2 (by decide) (WD_ok 131 (by decide) k hk)) g1916
            have g1936 : IM (avw K H1931 a0) := IM.congr (fun k hk j => av_arr hTH1907 ga0 wH1931 gl2 (by decide) (IM_ok 131 (by decide) k hk)) g1917
            have f1937 : ∀ j : Nat, bt j = (fI H1931 tq j).toInt := fun j => (f1920 j).trans (congrArg Int32.toInt (Wr.neI wH1931 (Or.inl (G_ne gtq gl2 (by decide)))).symm)
            have m1939 := (Wr.neI wH1931 (Or.inl (G_ne gl3 gl2 (by decide)))).trans m1922
            have m1940 := m1923.trans (Wr.neI wH1931 (Or.inl (G_ne gl1 gl2 (by decide)))).symm
            have m1941 := m1913.trans (Wr.neR wH1931 (Or.inl (G_ne ga0 gl2 (by decide)))).symm
            have m1942 := m1925.trans (Wr.neR wH1931 (Or.inl (G_ne ga0 gl2 (by decide)))).symm
            have m1943 := m1926.trans (Wr.neR wH1931 (Or.inl (G_ne ga0 gl2 (by decide)))).symm
            have m1944 := m1927.trans (Wr.neR wH1931 (Or.inl (G_ne ga0 gl2 (by decide)))).symm
            have m1945 := m1928.trans (Wr.neI wH1931 (Or.inl (G_ne ga0 gl2 (by decide)))).symm
            have m1946 := m1929.trans (Wr.neI wH1931 (Or.inl (G_ne ga0 gl2 (by decide)))).symm
            have m1947 := ex1909.trans (Wr.neI wH1931 (Or.inl (G_ne ga0 gl2 (by decide)))).symm
            have m1948 := ex1910.trans (Wr.neI wH1931 (Or.inl (G_ne ga0 gl2 (by decide)))).symm
            have m1949 := ex1911.trans (Wr.neI wH1931 (Or.inl (G_ne ga0 gl2 (by decide)))).symm
            have m1950 := ex1912.trans (Wr.neI wH1931 (Or.inl (G_ne ga0 gl2 (by decide)))).symm
            have m1951 := Wr.I wH1931
            have m1951 := m1951.symm
            refine lv_aload_n hx hb dX10_readNumbers_94 rfl (lv_at hl 0 rfl) ?_
            refine x_gr C hTH1931 (ci := 10) (k := 27) rfl inX10 (by decide) wF_X10_68 ga0 rg_112 rfl dX10_readNumbers_95 (fun q1952 eq1952 gq1952 => ?_)
            have uq1952 : l2 = q1952 := (m1943).trans eq1952.symm
            subst uq1952
            refine lv_iload_n hx hb dX10_readNumbers_98 rfl (lv_at hl 1 rfl) ?_
            refine x_ai C hTH1931 gl2 rg_131 ⟨by omega, by show _ < ((112 : Nat) : Int); omega⟩ dX10_readNumbers_99 (fun x1953 ex1953 bx1953 => ?_)
            have ux1953 : x1908 = x1953 := (m1951).trans ex1953.symm
            subst ux1953
            refine lv_iconst (v := (-1)) hx hb dX10_readNumbers_100 (by decide) ?_
            refine lv_icmp_ne (tgt := 106) hx hb dX10_readNumbers_101 (by decide) (fun c1954 => ?_) (fun c1954 => ?_)
            · have k1955 := i_ne c1954
              obtain ⟨cj1956, ho1958, cu1957⟩ := RC.yes m1919 (by omega)
              have nz1959 := ho1958
              rw [n_0, n_15] at nz1959
              refine lv_aload_n hx hb dX10_readNumbers_106 rfl (lv_at hl 0 rfl) ?_
              refine x_gr C hTH1931 (ci := 10) (k := 28) rfl inX10 (by decide) wF_X10_71 ga0 rg_112 rfl dX10_readNumbers_107 (fun q1960 eq1960 gq1960 => ?_)
              have uq1960 : l3 = q1960 := (m1944).trans eq1960.symm
              subst uq1960
              refine lv_iload_n hx hb dX10_readNumbers_110 rfl (lv_at hl 1 rfl) ?_
              refine lv_iload_n hx hb dX10_readNumbers_111 rfl (lv_at hl 2 rfl) ?_
              refine lv_bipush (v := 17) hx hb dX10_readNumbers_112 (by decide) ?_
              refine lv_icmp_ne (tgt := 127) hx hb dX10_readNumbers_114 (by decide) (fun c1961 => ?_) (fun c1961 => ?_)
              · have k1962 := i_ne c1961
                refine lv_aload_n hx hb dX10_readNumbers_127 rfl (lv_at hl 0 rfl) ?_
                refine lv_iconst (v := 1) hx hb dX10_readNumbers_128 (by decide) ?_
                refine lv_bipush (v := 9) hx hb dX10_readNumbers_129 (by decide) ?_
                refine x_V (As := [.int 1, .int 9]) (rest := [.int x1, .ref l3]) C (a_X10_readNumber_e l K G H1931 (1) (9) (x1909) (x1910) (x1911) (x1912) (tp) (cj1956) bt hTH1931 ga0 (by decide) (by decide) gtq m1941 m1947 m1948 m1949 m1950 m1945 g1933 g1934 g1935 g1936 (by omega) (cu1957) (hy1) f1937) yo_X10_readNumber wM_X10_276 ⟨⟨by decide, by decide⟩, by decide, by decide⟩ (x_rv C hTH1931 (ci := 10) rfl ga0 rg_112) rfl hl.1 rfl (Nat.le_of_ble_eq_true rfl) dX10_readNumbers_131 hSH1931 (AE_sub (fun _ _ => rfl) (by decide) hSH1931.1) (fun vH1963 H1963 locsH1963 pH1963 zH1963 kH1963 hSH1963 => ?_)
                obtain ⟨x1964, x1965, x1966, x1967, x1968, hvH1963, ex1965, ex1966, ex1967, ex1968, hrH1963, m1969, g1970, g1971, g1972, g1973, mf1974, m1975, hTH1963⟩ := pH1963
                subst hvH1963
                have f1976 : ∀ j : Nat, bt j = (fI H1963 tq j).toInt := fun j => (f1937 j).trans (congrArg Int32.toInt (fI_kept (x_lt hTH1931 kH1963 gtq (by decide))).symm)
                have m1977 := (fI_kept (x_lt hTH1931 kH1963 gl3 (by decide))).trans m1939
                have m1978 := (m1940).trans (fI_kept (x_lt hTH1931 kH1963 gl1 (by decide))).symm
                have m1979 := (m1951).trans (fI_kept (x_lt hTH1931 kH1963 gl2 (by decide))).symm
                have m1980 := (m1941).trans (MF.r mf1974 (k := 17) (by decide) (by decide)).symm
                have m1981 := (m1942).trans (MF.r mf1974 (k := 26) (by decide) (by decide)).symm
                have m1982 := (m1943).trans (MF.r mf1974 (k := 27) (by decide) (by decide)).symm
                have m1983 := (m1944).trans (MF.r mf1974 (k := 28) (by decide) (by decide)).symm
                have m1984 := (m1945).trans (MF.i mf1974 (k := 18) (by decide) (by decide)).symm
                have m1985 := (m1946).trans (MF.i mf1974 (k := 34) (by decide) (by decide)).symm
                have mf1986 : MF K s.heap H1963 a0 [19, 20, 21, 22, 39, 40] := MF.trans mf1932 mf1974 (by decide)
                have bx1965 := ty_fi (x := x1965) (k := 19) ex1965 hTH1963 ga0 rg_112 rfl
                have bx1966 := ty_fi (x := x1966) (k := 20) ex1966 hTH1963 ga0 rg_112 rfl
                have bx1967 := ty_fi (x := x1967) (k := 21) ex1967 hTH1963 ga0 rg_112 rfl
                have bx1968 := ty_fi (x := x1968) (k := 22) ex1968 hTH1963 ga0 rg_112 rfl
                refine W.eq (g2 := F0 m 134 ls [.int x1964, .int x1, .ref l3]) rfl ?_
                refine x_iast C hTH1963 hSH1963 gl3 rg_132 (by omega) (by show _ < ((112 : Nat) : Int); omega) ⟨by have := i_rng x1964; omega, by have := i_rng x1964; omega⟩ (AE_in gl3 (by decide)) dX10_readNumbers_134 (fun H1987 locsH1987 hTH1987 hSH1987 wH1987 => ?_)
                have mf1988 : MF K s.heap H1987 a0 [19, 20, 21, 22, 39, 40] := MF.arr wH1987 (G_ne ga0 gl3 (by decide)) mf1986
                have g1989 : CG (avw K H1987 a0) := CG.congr (fun k hk j => av_arr hTH1963 ga0 wH1987 gl3 (by decide) (CG_ok 132 (by decide) k hk)) g1970
                have g1990 : TU (avw K H1987 a0) (svw K H1987 a0) := TU.congr (fun k hk j => av_arr hTH1963 ga0 wH1987 gl3 (by decide) (TU_ok 132 (by decide) k hk)) (fun k hk => sv_arr ga0 wH1987 gl3 (by decide)) g1971
                have g1991 : WD (avw K H1987 a0) := WD.congr (fun k hk j => av_arr hTH1963 ga0 wH1987 gl3 (by decide) (WD_ok 132 (by decide) k hk)) g1972
                have g1992 : IM (avw K H1987 a0) := IM.congr (fun k hk j => av_arr hTH1963 ga0 wH1987 gl3 (by decide) (IM_ok 132 (by decide) k hk)) g1973
                have f1993 : ∀ j : Nat, bt j = (fI H1987 tq j).toInt := fun j => (f1976 j).trans (congrArg Int32.toInt (Wr.neI wH1987 (Or.inl (G_ne gtq gl3 (by decide)))).symm)
                have m1995 := m1978.trans (Wr.neI wH1987 (Or.inl (G_ne gl1 gl3 (by decide)))).symm
                have m1996 := m1979.trans (Wr.neI wH1987 (Or.inl (G_ne gl2 gl3 (by decide)))).symm
                have m1997 := m1969.trans (Wr.neR wH1987 (Or.inl (G_ne ga0 gl3 (by decide)))).symm
                have m1998 := m1981.trans (Wr.neR wH1987 (Or.inl (G_ne ga0 gl3 (by decide)))).symm
                have m1999 := m1982.trans (Wr.neR wH1987 (Or.inl (G_ne ga0 gl3 (by decide)))).symm
                have m2000 := m1983.trans (Wr.neR wH1987 (Or.inl (G_ne ga0 gl3 (by decide)))).symm
                have m2001 := m1984.trans (Wr.neI wH1987 (Or.inl (G_ne ga0 gl3 (by decide)))).symm
                have m2002 := m1985.trans (Wr.neI wH1987 (Or.inl (G_ne ga0 gl3 (by decide)))).symm
                have m2003 := ex1965.trans (Wr.neI wH1987 (Or.inl (G_ne ga0 gl3 (by decide)))).symm
                have m2004 := ex1966.trans (Wr.neI wH1987 (Or.inl (G_ne ga0 gl3 (by decide)))).symm
                have m2005 := ex1967.trans (Wr.neI wH1987 (Or.inl (G_ne ga0 gl3 (by decide)))).symm
                have m2006 := ex1968.trans (Wr.neI wH1987 (Or.inl (G_ne ga0 gl3 (by decide)))).symm
                have m2007 := Wr.I wH1987
                have m2007 := m2007.symm
                refine lv_aload_n hx hb dX10_readNumbers_135 rfl (lv_at hl 0 rfl) ?_
                refine x_gr C hTH1987 (ci := 10) (k := 28) rfl inX10 (by decide) wF_X10_71 ga0 rg_112 rfl dX10_readNumbers_136 (fun q2008 eq2008 gq2008 => ?_)
                have uq2008 : l3 = q2008 := (m2000).trans eq2008.symm
                subst uq2008
                refine lv_iload_n hx hb dX10_readNumbers_139 rfl (lv_at hl 1 rfl) ?_
                refine x_ai C hTH1987 gl3 rg_132 ⟨by omega, by show _ < ((112 : Nat) : Int); omega⟩ dX10_readNumbers_140 (fun x2009 ex2009 bx2009 => ?_)
                have ux2009 : x1964 = x2009 := (m2007).trans ex2009.symm
                subst ux2009
                have cn_fr := i_cl (x := fr) (by omega)
                exact x_iret C hQ dX10_readNumbers_141 hSH1987 (by decide) (by decide) (⟨x1964, x1965, x1966, x1967, x1968, rfl, m2003, m2004, m2005, m2006, by omega, m1997, m1998, m1999, m2000, g1989, g1990, g1991, g1992, mf1988, (by rcases Int.lt_or_le x1964.toInt 0 with hneg | hpos; exact Or.inl ⟨(hn_j4 (by omega) nz1799 (Or.inl ⟨by omega, nz1959⟩) (by omega) (by omega)).trans (by have z := RC.no m1975 (by omega); rw [n_1, n_9] at z; exact z), by omega⟩; obtain ⟨j9, o9, c9⟩ := RC.yes m1975 (by omega); rw [n_1, n_9] at o9; exact Or.inr ⟨j9, (hn_j4 (by omega) nz1799 (Or.inl ⟨by omega, nz1959⟩) (by omega) (by omega)).trans o9, by omega, c9⟩), hTH1987⟩)
              · have k1962 := i_eq c1961
                exfalso
                omega
            · have k1955 := i_eq c1954
              refine lv_iconst (v := (-1)) hx hb dX10_readNumbers_104 (by decide) ?_
              have cn_fr := i_cl (x := fr) (by omega)
              have nz2010 := RC.no m1919 (by omega)
              rw [n_0, n_15] at nz2010
              exact x_iret C hQ dX10_readNumbers_105 hSH1931 (by decide) (by decide) (⟨(-1), x1909, x1910, x1911, x1912, rfl, m1947, m1948, m1949, m1950, by omega, m1941, m1942, m1943, m1944, g1933, g1934, g1935, g1936, mf1932, Or.inl ⟨hn_j2 (by omega) nz1799 (by omega) nz2010, by omega⟩, hTH1931⟩)
        · have k1802 := i_eq c1801
          exfalso
          omega
  · have k1678 := i_eq c1677
    refine lv_iconst (v := 0) hx hb dX10_readNumbers_26 (by decide) ?_
    have cn_fr := i_cl (x := fr) (by omega)
    exact x_iret C hQ dX10_readNumbers_27 hSH1657 (by decide) (by decide) (⟨0, sp, fr, tk, vl, rfl, m1668, m1669, m1670, m1671, by omega, m1664, m1665, m1666, m1667, g1659, g1660, g1661, g1662, mf1658, Or.inr ⟨ci, hn_l3 (by omega) (by omega), by omega, hy0⟩, hTH1657⟩)
