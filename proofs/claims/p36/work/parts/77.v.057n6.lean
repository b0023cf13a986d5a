/-! ===== the reference's numbers of a line ===== -/
def hnI (kk vv : Nat → Int) (lw x : Int) (i : Nat) : Option Nat := if lw ≠ 0 then hlI kk vv x i else hjI kk vv (if x = 17 then 6 else x) i
/-- a line's word on both sides -/
def HX (lw w x : Int) : Prop := (lw ≠ 0 ∧ x = w) ∨ (lw = 0 ∧ ((w = 6 ∧ x = 17) ∨ (w = x ∧ x ≠ 17)))
theorem hn_l3 {kk vv : Nat → Int} {lw x : Int} {i : Nat} (hl : lw ≠ 0) (hx : x = 3) : hnI kk vv lw x i = some i := (if_pos hl).trans (if_pos hx)
theorem hn_l {kk vv : Nat → Int} {lw x : Int} {i : Nat} {o : Option Nat} (hl : lw ≠ 0) (hx : x ≠ 3) (h : nmI kk vv 0 2 i = o) : hnI kk vv lw x i = o := ((if_pos hl).trans (if_neg hx)).trans h
theorem hn_j {kk vv : Nat → Int} {lw x : Int} {i : Nat} (hl : lw = 0) : hnI kk vv lw x i = hjI kk vv (if x = 17 then 6 else x) i := if_neg (by omega)
theorem hn_j1 {kk vv : Nat → Int} {lw x : Int} {i : Nat} (hl : lw = 0) (h : nmI kk vv 0 15 i = none) : hnI kk vv lw x i = none := (hn_j hl).trans (hj_no1 h)
theorem hn_j2 {kk vv : Nat → Int} {lw x : Int} {i j : Nat} (hl : lw = 0) (h : nmI kk vv 0 15 i = some j) (hx : x = 5) (h2 : nmI kk vv 0 15 j = none) : hnI kk vv lw x i = none := (hn_j hl).trans (hj_no2 h (by subst hx; rfl) h2)
theorem hn_j3 {kk vv : Nat → Int} {lw x : Int} {i j m : Nat} (hl : lw = 0) (h : nmI kk vv 0 15 i = some j) (h2 : (x = 5 ∧ nmI kk vv 0 15 j = some m) ∨ (x ≠ 5 ∧ m = j)) (hx : x = 17) : hnI kk vv lw x i = nmI kk vv 0 99 m := by
  subst hx
  rcases h2 with ⟨a, _⟩ | ⟨_, e⟩
  · exact absurd a (by decide)
  · exact ((hn_j hl).trans (hj_go h (Or.inr ⟨by decide, e⟩))).trans (if_pos rfl)
theorem hn_j4 {kk vv : Nat → Int} {lw x : Int} {i j m : Nat} (hl : lw = 0) (h : nmI kk vv 0 15 i = some j) (h2 : (x = 5 ∧ nmI kk vv 0 15 j = some m) ∨ (x ≠ 5 ∧ m = j)) (hx : x ≠ 17) (h6 : x ≠ 6) : hnI kk vv lw x i = nmI kk vv 1 9 m := by
  rw [hn_j hl, if_neg hx, hj_go h h2, if_neg h6]
theorem hs_n0 {kk vv : Nat → Int} {lw w x : Int} {i : Nat} (hx : HX lw w x) (h : hnI kk vv lw x i = none) : hsI kk vv lw w i = none := by
  rcases hx with ⟨hl, rfl⟩ | ⟨hl, hw⟩
  · exact hs_law0 hl ((if_pos hl).symm.trans h)
  · rw [hs_job hl, ← h, hn_j hl]
    rcases hw with ⟨rfl, rfl⟩ | ⟨rfl, n⟩
    · rfl
    · rw [if_neg n]
theorem hs_n1 {kk vv : Nat → Int} {lw w x : Int} {i j : Nat} (hl : lw ≠ 0) (hx : HX lw w x) (h : hnI kk vv lw x i = some j) : hsI kk vv lw w i = smI kk vv lw j := by
  rcases hx with ⟨_, rfl⟩ | ⟨z, _⟩
  · exact hs_law1 hl ((if_pos hl).symm.trans h)
  · exact absurd z hl
theorem hs_n2 {kk vv : Nat → Int} {lw w x : Int} {i j : Nat} (hl : lw = 0) (hx : HX lw w x) (h : hnI kk vv lw x i = some j) : hsI kk vv lw w i = some j := by
  rcases hx with ⟨z, _⟩ | ⟨_, hw⟩
  · exact absurd hl z
  · rw [hs_job hl, ← h, hn_j hl]
    rcases hw with ⟨rfl, rfl⟩ | ⟨rfl, n⟩
    · rfl
    · rw [if_neg n]
theorem TV.ge {k v t x : Int} (h : TV k v t x) : 0 ≤ k := by
  rcases h with ⟨a, e⟩ | ⟨a, e⟩ | ⟨e, a⟩ | ⟨a, e, _⟩ | ⟨a, e, f⟩ <;> omega
theorem TV.en {k v t x : Int} (h : TV k v t x) : t = 0 ↔ k = 26 := by
  rcases h with ⟨a, e⟩ | ⟨a, e⟩ | ⟨e, a⟩ | ⟨a, e, _⟩ | ⟨a, e, f⟩ <;> constructor <;> intro h <;> omega
/-- a line begins -/
theorem TV.bg {k v t x j : Int} (h : TV k v t x) (ht : t = 2) (hb : (j = 0 ∧ x ≤ 3) ∨ (j = 1 ∧ (x = 4 ∨ x = 5 ∨ x = 17))) : ((1 - j ≠ 0 ∧ k ≤ 3) ∨ (1 - j = 0 ∧ 4 ≤ k ∧ k ≤ 6)) ∧ HX (1 - j) k x := by
  have := h.wv ht
  rcases hb with ⟨a, b⟩ | ⟨a, b⟩
  · exact ⟨Or.inl (by omega), Or.inl (by omega)⟩
  · exact ⟨Or.inr (by omega), Or.inr (by omega)⟩
/-- no line begins -/
theorem TV.nb {k v t x j : Int} (h : TV k v t x) (hj : 0 ≤ j ∧ j ≤ 1) (hb : t ≠ 2 ∨ ((j ≠ 0 ∨ 3 < x) ∧ (j = 0 ∨ (x ≠ 4 ∧ x ≠ 5 ∧ x ≠ 17)))) : (1 - j ≠ 0 ∧ 3 < k) ∨ (1 - j = 0 ∧ (k < 4 ∨ 6 < k)) := by
  rcases h with ⟨a, e⟩ | ⟨a, e⟩ | ⟨e, a⟩ | ⟨a, e, _⟩ | ⟨a, e, f⟩ <;> omega
set_option maxHeartbeats 4000000 in
set_option maxRecDepth 100000 in
theorem a_X10_isBegin_e (l : Launch) (K : KE) (G : Nat → Option Nat) (H : Heap) {a0 : Nat} (tk : Int32) (vl : Int32) (jb : Int32) (hT : TY K G H) (ga0 : G a0 = some 112) (etk : tk = fI H a0 (K.1.2 10 21)) (evl : vl = fI H a0 (K.1.2 10 22)) (ejb : jb = fI H a0 (K.1.2 10 34)) : MX l K yX10_isBegin cX10_isBegin 1 (some .boolean) 0 0 0 0 [.ref a0] H (AE G [] H.size) (fun v H1 => ∃ (r : Int32), v = some (.int r) ∧ (0 ≤ r.toInt ∧ r.toInt ≤ 1) ∧ ((r.toInt = 0 ∧ (tk.toInt ≠ 2 ∨ ((jb.toInt ≠ 0 ∨ 3 < vl.toInt) ∧ (jb.toInt = 0 ∨ (vl.toInt ≠ 4 ∧ vl.toInt ≠ 5 ∧ vl.toInt ≠ 17))))) ∨ (r.toInt = 1 ∧ tk.toInt = 2 ∧ ((jb.toInt = 0 ∧ vl.toInt ≤ 3) ∨ (jb.toInt = 1 ∧ (vl.toInt = 4 ∨ vl.toInt = 5 ∨ vl.toInt = 17))))) ∧ TY K G H1) := by
  refine MX.of (by decide +kernel) (Nat.le_of_ble_eq_true rfl) ?_
  intro p e s m below meth c ls Q C hH hl hQ
  subst hH
  have C : CX p K s m _ meth c RX10 cX10_isBegin 1 (some .boolean) "isBegin" := C
  obtain ⟨hx, hb, hml, hown, hts, hKT, hr, hlocks, hnm⟩ := id C
  have hl : lv_has ls 1 [(0, .ref a0)] := hl
  have hS : va_S (AE G [] s.heap.size) s.heap s.heap [] := va_S.rf
  have n_0 : (0 : Int32).toInt = 0 := rfl
  have n_1 : (1 : Int32).toInt = 1 := rfl
  have n_2 : (2 : Int32).toInt = 2 := rfl
  have n_3 : (3 : Int32).toInt = 3 := rfl
  have n_4 : (4 : Int32).toInt = 4 := rfl
  have n_5 : (5 : Int32).toInt = 5 := rfl
  have n_17 : (17 : Int32).toInt = 17 := rfl
  have btk := ty_fi (x := tk) (k := 21) etk hT ga0 rg_112 rfl
  have bvl := ty_fi (x := vl) (k := 22) evl hT ga0 rg_112 rfl
  have bjb := ty_fi (x := jb) (k := 34) ejb hT ga0 rg_112 rfl
  have hap : ∀ x y, x < 74 → y < 74 → x ≠ y → K.1.2 10 x ≠ K.1.2 10 y := x_apart hKT hts inX10 tyX10 tyX10_ok nmX10 rfl
  refine lv_aload_n hx hb dX10_isBegin_0 rfl (lv_at hl 0 rfl) ?_
  refine x_gi C hT (ci := 10) (k := 21) rfl inX10 (by decide) wF_X10_202 ga0 rg_112 rfl dX10_isBegin_1 (fun x173 ex173 bx173 => ?_)
  have ux173 : tk = x173 := (etk).trans ex173.symm
  subst ux173
  refine lv_iconst (v := 2) hx hb dX10_isBegin_4 (by decide) ?_
  refine lv_icmp_eq (tgt := 10) hx hb dX10_isBegin_5 (by decide) (fun c174 => ?_) (fun c174 => ?_)
  · have k175 := i_eq c174
    refine lv_aload_n hx hb dX10_isBegin_10 rfl (lv_at hl 0 rfl) ?_
    refine x_gi C hT (ci := 10) (k := 34) rfl inX10 (by decide) wF_X10_231 ga0 rg_112 rfl dX10_isBegin_11 (fun x176 ex176 bx176 => ?_)
    have ux176 : jb = x176 := (ejb).trans ex176.symm
    subst ux176
    refine lv_if_eq (tgt := 50) hx hb dX10_isBegin_14 (by decide) (fun c177 => ?_) (fun c177 => ?_)
    · have k178 := i_eq c177
      refine lv_aload_n hx hb dX10_isBegin_50 rfl (lv_at hl 0 rfl) ?_
      refine x_gi C hT (ci := 10) (k := 22) rfl inX10 (by decide) wF_X10_205 ga0 rg_112 rfl dX10_isBegin_51 (fun x179 ex179 bx179 => ?_)
      have ux179 : vl = x179 := (evl).trans ex179.symm
      subst ux179
      refine lv_iconst (v := 3) hx hb dX10_isBegin_54 (by decide) ?_
      refine lv_icmp_gt (tgt := 62) hx hb dX10_isBegin_55 (by decide) (fun c180 => ?_) (fun c180 => ?_)
      · have k181 := i_lt c180
        refine lv_iconst (v := 0) hx hb dX10_isBegin_62 (by decide) ?_
        exact x_zret C hQ (Or.inl rfl) dX10_isBegin_63 hS (by decide) (by decide) (⟨0, rfl, by decide, by omega, hT⟩)
      · have k181 := i_nlt c180
        refine lv_iconst (v := 1) hx hb dX10_isBegin_58 (by decide) ?_
        refine lv_goto (tgt := 63) hx hb dX10_isBegin_59 (by decide) ?_
        exact x_zret C hQ (Or.inr rfl) dX10_isBegin_63 hS (by decide) (by decide) (⟨1, rfl, by decide, by omega, hT⟩)
    · have k178 := i_ne c177
      refine lv_aload_n hx hb dX10_isBegin_17 rfl (lv_at hl 0 rfl) ?_
      refine x_gi C hT (ci := 10) (k := 22) rfl inX10 (by decide) wF_X10_205 ga0 rg_112 rfl dX10_isBegin_18 (fun x182 ex182 bx182 => ?_)
      have ux182 : vl = x182 := (evl).trans ex182.symm
      subst ux182
      refine lv_iconst (v := 4) hx hb dX10_isBegin_21 (by decide) ?_
      refine lv_icmp_eq (tgt := 42) hx hb dX10_isBegin_22 (by decide) (fun c183 => ?_) (fun c183 => ?_)
      · have k184 := i_eq c183
        refine lv_iconst (v := 1) hx hb dX10_isBegin_42 (by decide) ?_
        refine lv_goto (tgt := 63) hx hb dX10_isBegin_43 (by decide) ?_
        exact x_zret C hQ (Or.inr rfl) dX10_isBegin_63 hS (by decide) (by decide) (⟨1, rfl, by decide, by omega, hT⟩)
      · have k184 := i_ne c183
        refine lv_aload_n hx hb dX10_isBegin_25 rfl (lv_at hl 0 rfl) ?_
        refine x_gi C hT (ci := 10) (k := 22) rfl inX10 (by decide) wF_X10_205 ga0 rg_112 rfl dX10_isBegin_26 (fun x185 ex185 bx185 => ?_)
        have ux185 : vl = x185 := (evl).trans ex185.symm
        subst ux185
        refine lv_iconst (v := 5) hx hb dX10_isBegin_29 (by decide) ?_
        refine lv_icmp_eq (tgt := 42) hx hb dX10_isBegin_30 (by decide) (fun c186 => ?_) (fun c186 => ?_)
        · have k187 := i_eq c186
          refine lv_iconst (v := 1) hx hb dX10_isBegin_42 (by decide) ?_
          refine lv_goto (tgt := 63) hx hb dX10_isBegin_43 (by decide) ?_
          exact x_zret C hQ (Or.inr rfl) dX10_isBegin_63 hS (by decide) (by decide) (⟨1, rfl, by decide, by omega, hT⟩)
        · have k187 := i_ne c186
          refine lv_aload_n hx hb dX10_isBegin_33 rfl (lv_at hl 0 rfl) ?_
          refine x_gi C hT (ci := 10) (k := 22) rfl inX10 (by decide) wF_X10_205 ga0 rg_112 rfl dX10_isBegin_34 (fun x188 ex188 bx188 => ?_)
          have ux188 : vl = x188 := (evl).trans ex188.symm
          subst ux188
          refine lv_bipush (v := 17) hx hb dX10_isBegin_37 (by decide) ?_
          refine lv_icmp_ne (tgt := 46) hx hb dX10_isBegin_39 (by decide) (fun c189 => ?_) (fun c189 => ?_)
          · have k190 := i_ne c189
            refine lv_iconst (v := 0) hx hb dX10_isBegin_46 (by decide) ?_
            refine lv_goto (tgt := 63) hx hb dX10_isBegin_47 (by decide) ?_
            exact x_zret C hQ (Or.inl rfl) dX10_isBegin_63 hS (by decide) (by decide) (⟨0, rfl, by decide, by omega, hT⟩)
          · have k190 := i_eq c189
            refine lv_iconst (v := 1) hx hb dX10_isBegin_42 (by decide) ?_
            refine lv_goto (tgt := 63) hx hb dX10_isBegin_43 (by decide) ?_
            exact x_zret C hQ (Or.inr rfl) dX10_isBegin_63 hS (by decide) (by decide) (⟨1, rfl, by decide, by omega, hT⟩)
  · have k175 := i_ne c174
    refine lv_iconst (v := 0) hx hb dX10_isBegin_8 (by decide) ?_
    exact x_zret C hQ (Or.inl rfl) dX10_isBegin_9 hS (by decide) (by decide) (⟨0, rfl, by decide, by omega, hT⟩)

theorem TXA.mk {b : Nat → Int} {L : Nat} {x1 x2 r : Int32} {lw : Int} (hc : (x1.toInt = 0 ∧ 0 ≤ x2.toInt ∧ x2.toInt ≤ 1) ∨ (x1.toInt = 1 ∧ 0 ≤ x2.toInt ∧ x2.toInt ≤ 3)) (hl : (if x1.toInt = 0 then 1 else 0) = lw) (h : RT (txS (kK b L) (vV b L) lw 18 0 0) r) : TXA b L x1 x2 r := Or.inl ⟨hc, by rw [hl]; exact h⟩
theorem TXA.cast {b : Nat → Int} {L : Nat} {x1 x2 r q : Int32} (h : TXA b L x1 x2 r) (e : q.toInt = r.toInt) : TXA b L x1 x2 q := by
  have : q = r := Int32.toInt_inj.mp e
  rw [this]; exact h
/-! ===== the reference's lines: numbers, a line, a text ===== -/
def hn1 (vv : Nat → Int) (lw x : Int) (i : Nat) : Int := if lw ≠ 0 ∧ x = 3 then 0 else vv i
def hn3 (vv : Nat → Int) (x : Int) (i : Nat) : Int := if x = 5 then vv (i + 2) else vv (i + 1)
theorem hn1_3 {vv : Nat → Int} {lw x : Int} {i : Nat} (h : lw ≠ 0 ∧ x = 3) : hn1 vv lw x i = 0 := if_pos h
theorem hn1_n {vv : Nat → Int} {lw x : Int} {i : Nat} (h : ¬ (lw ≠ 0 ∧ x = 3)) : hn1 vv lw x i = vv i := if_neg h
theorem hn3_5 {vv : Nat → Int} {x : Int} {i j : Nat} (h : x = 5) (hj : j = i + 2) : hn3 vv x i = vv j := by subst hj; exact if_pos h
theorem hn3_n {vv : Nat → Int} {x : Int} {i j : Nat} (h : x ≠ 5) (hj : j = i + 1) : hn3 vv x i = vv j := by subst hj; exact if_neg h
theorem nm_nx {kk vv : Nat → Int} {lo hi : Int} {i j : Nat} (h : nmI kk vv lo hi i = some j) : j = i + 1 := (nm_at h).2.2.2
theorem lhd_hn {kk vv : Nat → Int} {lw x : Int} {i m j : Nat} (hl : lw ≠ 0) (hx : HX lw (kk i) x) (hm : m = i + 1) (h : hnI kk vv lw x m = some j) : lhd kk lw i = j := by
  rcases hx with ⟨_, e⟩ | ⟨z, _⟩
  · exact hl_at hl e hm ((if_pos hl).symm.trans h)
  · exact absurd z hl
theorem RZ.lt {lw : Int} {O A : Nat → Int32} {p q : Nat} {f : EF} (h : RZ lw O A p q [f]) : p < q := by
  have h0 := h.1
  rcases Nat.lt_or_ge p q with z | z
  · exact z
  · have := (h.2 (fun _ => 0) (fun _ => 0) 0).1
    rw [show q - p = 0 by omega] at this
    exact absurd this (by show ¬ (0 : Nat) = 0 + 1; omega)
theorem LNR.mk {kk vv : Nat → Int} {lw : Int} {i z : Nat} {w f1 f2 f3 a b c : Int32} {O A : Nat → Int32} (hx : HX lw (kk i) w.toInt) (h6 : lw ≠ 0 ∨ w.toInt ≠ 6) (h1 : f1.toInt = hn1 vv lw w.toInt (i + 1)) (h2 : lw ≠ 0 ∨ w.toInt ≠ 5 ∨ f2.toInt = vv (i + 1 + 1)) (h3 : lw ≠ 0 ∨ f3.toInt = hn3 vv w.toInt (i + 1)) (hS : (lw ≠ 0 ∧ RZ lw O A (z + a.toNatClampNeg) (z + b.toNatClampNeg) [lfs kk vv lw i]) ∨ (lw = 0 ∧ a = b)) (hW : (lhw kk vv lw i = true ∧ b.toInt < c.toInt ∧ RZ lw O A (z + b.toNatClampNeg) (z + c.toNatClampNeg) [lfw kk vv lw i]) ∨ (lhw kk vv lw i = false ∧ c = b)) : LNR kk vv lw i w f1 f2 f3 a b c O A z := by
  refine ⟨⟨fun hl => ?_, fun hl => ?_, ?_⟩, fun hl => ⟨?_, fun h5 => ?_⟩, hS, hW⟩
  · rcases hx with ⟨_, e⟩ | ⟨z, _⟩
    · exact e
    · exact absurd z hl
  · refine ⟨?_, h6.resolve_left (fun y => y hl)⟩
    rcases hx with ⟨z, _⟩ | ⟨_, ⟨e, g⟩ | ⟨e, g⟩⟩
    · exact absurd hl z
    · unfold wdR
      rw [if_pos g, e]
    · unfold wdR
      rw [if_neg g, e]
  · rw [h1]
    unfold hn1 lf1
    rcases hx with ⟨z, e⟩ | ⟨z, _⟩
    · rw [e]
    · rw [if_neg (fun y => y.1 z), if_neg (fun y => y.1 z)]
  · rw [h3.resolve_left (fun y => y hl)]
    unfold hn3 lf3
    rcases hx with ⟨z, _⟩ | ⟨_, ⟨e, g⟩ | ⟨e, g⟩⟩
    · exact absurd hl z
    · rw [if_neg (by omega), if_neg (by omega)]
    · rw [e]
  · refine ((h2.resolve_left (fun y => y hl)).resolve_left (fun y => y ?_))
    rcases hx with ⟨z, _⟩ | ⟨_, ⟨e, g⟩ | ⟨e, g⟩⟩
    · exact absurd hl z
    · omega
    · omega
theorem LNR.keep {kk vv : Nat → Int} {lw : Int} {i z n : Nat} {w f1 f2 f3 a b c : Int32} {O A O1 A1 : Nat → Int32} (h : LNR kk vv lw i w f1 f2 f3 a b c O A z) (eO : ∀ j, j < z + n → O1 j = O j) (eA : ∀ j, j < z + n → A1 j = A j) (hb : b.toNatClampNeg ≤ n) (hc : c.toNatClampNeg ≤ n) : LNR kk vv lw i w f1 f2 f3 a b c O1 A1 z := by
  obtain ⟨h1, h2, h3, h4⟩ := h
  exact ⟨h1, h2, h3.imp (fun y => ⟨y.1, y.2.keep (fun j hj => eO j (by omega)) (fun j hj => eA j (by omega))⟩) id, h4.imp (fun y => ⟨y.1, y.2.1, y.2.2.keep (fun j hj => eO j (by omega)) (fun j hj => eA j (by omega))⟩) id⟩
theorem LNR.move {kk vv : Nat → Int} {lw : Int} {i z y n : Nat} {w f1 f2 f3 a b c : Int32} {O A O1 A1 : Nat → Int32} (h : LNR kk vv lw i w f1 f2 f3 a b c O A z) (eO : ∀ j, j < n → O1 (y + j) = O (z + j)) (eA : ∀ j, j < n → A1 (y + j) = A (z + j)) (hb : b.toNatClampNeg ≤ n) (hc : c.toNatClampNeg ≤ n) : LNR kk vv lw i w f1 f2 f3 a b c O1 A1 y := by
  obtain ⟨h1, h2, h3, h4⟩ := h
  refine ⟨h1, h2, h3.imp (fun g => ⟨g.1, g.2.sh (by omega) (fun j hj => ?_)⟩) id, h4.imp (fun g => ⟨g.1, g.2.1, g.2.2.sh (by omega) (fun j hj => ?_)⟩) id⟩
  · rw [Nat.add_assoc, Nat.add_assoc]
    exact ⟨eO _ (by omega), eA _ (by omega)⟩
  · rw [Nat.add_assoc, Nat.add_assoc]
    exact ⟨eO _ (by omega), eA _ (by omega)⟩
/-- what lies before the draft is as it was -/
def FRD (H1 H : Heap) (w f j e a c d o r : Nat) : Prop := (∀ l, l < 96 → fI H1 w l = fI H w l ∧ fI H1 f l = fI H f l ∧ fI H1 j l = fI H j l ∧ fI H1 e l = fI H e l ∧ fI H1 a l = fI H a l ∧ fI H1 c l = fI H c l ∧ fI H1 d l = fI H d l) ∧ ∀ l, l < 3000 → fI H1 o l = fI H o l ∧ fI H1 r l = fI H r l
theorem FRD.rf {H : Heap} {w f j e a c d o r : Nat} : FRD H H w f j e a c d o r := ⟨fun _ _ => ⟨rfl, rfl, rfl, rfl, rfl, rfl, rfl⟩, fun _ _ => ⟨rfl, rfl⟩⟩
theorem FRD.trans {H2 H1 H : Heap} {w f j e a c d o r : Nat} (h : FRD H2 H1 w f j e a c d o r) (g : FRD H1 H w f j e a c d o r) : FRD H2 H w f j e a c d o r := by
  refine ⟨fun l hl => ?_, fun l hl => ?_⟩
  · obtain ⟨h1, h2, h3, h4, h5, h6, h7⟩ := h.1 l hl
    obtain ⟨g1, g2, g3, g4, g5, g6, g7⟩ := g.1 l hl
    exact ⟨h1.trans g1, h2.trans g2, h3.trans g3, h4.trans g4, h5.trans g5, h6.trans g6, h7.trans g7⟩
  · obtain ⟨h1, h2⟩ := h.2 l hl
    obtain ⟨g1, g2⟩ := g.2 l hl
    exact ⟨h1.trans g1, h2.trans g2⟩
/-- the draft's lines so far: n of them, the next begins at token i, m codes -/
def TXRW (H : Heap) (w f j e a c d o r : Nat) (kk vv : Nat → Int) (lw : Int) (n i m : Nat) : Prop := lpo kk vv lw n = i ∧ ∀ l, l < n → LNR kk vv lw (lpo kk vv lw l) (fI H w (96 + l)) (fI H f (96 + l)) (fI H j (96 + l)) (fI H e (96 + l)) (fI H a (96 + l)) (fI H c (96 + l)) (fI H d (96 + l)) (fun i => fI H o i) (fun i => fI H r i) 3000 ∧ (fI H c (96 + l)).toNatClampNeg ≤ m ∧ (fI H d (96 + l)).toNatClampNeg ≤ m
theorem TXRW.nil {H : Heap} {w f j e a c d o r : Nat} {kk vv : Nat → Int} {lw : Int} {n i m : Nat} (hn : n = 0) (hi : i = 0) : TXRW H w f j e a c d o r kk vv lw n i m := by
  subst hn; subst hi
  exact ⟨rfl, fun l hl => absurd hl (Nat.not_lt_zero l)⟩
theorem TXRW.cast {H : Heap} {w f j e a c d o r : Nat} {kk vv : Nat → Int} {lw : Int} {n i m n1 i1 m1 : Nat} (h : TXRW H w f j e a c d o r kk vv lw n i m) (hn : n1 = n) (hi : i1 = i) (hm : m ≤ m1) : TXRW H w f j e a c d o r kk vv lw n1 i1 m1 := by
  subst hn; subst hi
  exact ⟨h.1, fun l hl => ⟨(h.2 l hl).1, Nat.le_trans (h.2 l hl).2.1 hm, Nat.le_trans (h.2 l hl).2.2 hm⟩⟩
theorem TXRW.kept {H H1 : Heap} {w f j e a c d o r : Nat} {kk vv : Nat → Int} {lw : Int} {n i m : Nat} (h : TXRW H w f j e a c d o r kk vv lw n i m) (ew : ∀ l, fI H1 w l = fI H w l) (ef : ∀ l, fI H1 f l = fI H f l) (ej : ∀ l, fI H1 j l = fI H j l) (ee : ∀ l, fI H1 e l = fI H e l) (ea : ∀ l, fI H1 a l = fI H a l) (ec : ∀ l, fI H1 c l = fI H c l) (ed : ∀ l, fI H1 d l = fI H d l) (eo : ∀ l, fI H1 o l = fI H o l) (er : ∀ l, fI H1 r l = fI H r l) : TXRW H1 w f j e a c d o r kk vv lw n i m := by
  refine ⟨h.1, fun l hl => ?_⟩
  rw [ew, ef, ej, ee, ea, ec, ed, show (fun i => fI H1 o i) = (fun i => fI H o i) from funext eo, show (fun i => fI H1 r i) = (fun i => fI H r i) from funext er]
  exact h.2 l hl
theorem FRD.kept {H H1 H0 : Heap} {w f j e a c d o r : Nat} (h : FRD H H0 w f j e a c d o r) (ew : ∀ l, fI H1 w l = fI H w l) (ef : ∀ l, fI H1 f l = fI H f l) (ej : ∀ l, fI H1 j l = fI H j l) (ee : ∀ l, fI H1 e l = fI H e l) (ea : ∀ l, fI H1 a l = fI H a l) (ec : ∀ l, fI H1 c l = fI H c l) (ed : ∀ l, fI H1 d l = fI H d l) (eo : ∀ l, fI H1 o l = fI H o l) (er : ∀ l, fI H1 r l = fI H r l) : FRD H1 H0 w f j e a c d o r := FRD.trans ⟨fun l _ => ⟨ew l, ef l, ej l, ee l, ea l, ec l, ed l⟩, fun l _ => ⟨eo l, er l⟩⟩ h
theorem LNR.le {kk vv : Nat → Int} {lw : Int} {i z : Nat} {w f1 f2 f3 a b c : Int32} {O A : Nat → Int32} (h : LNR kk vv lw i w f1 f2 f3 a b c O A z) : b.toNatClampNeg ≤ c.toNatClampNeg := by
  obtain ⟨h1, h2, h3, h4⟩ := h
  rcases h4 with y | y
  · have := y.2.1
    show b.toInt.toNat ≤ c.toInt.toNat
    omega
  · rw [y.2]
    exact Nat.le_refl _
theorem TXRW.go {H H1 : Heap} {w f j e a c d o r x : Nat} {kk vv : Nat → Int} {lw : Int} {n n1 i i1 m m1 : Nat} (h : TXRW H w f j e a c d o r kk vv lw n i m) (hn : n1 = n + 1) (hx : x = 96 + n) (hl : lnI kk vv lw i = some i1) (ln : LNR kk vv lw i (fI H1 w x) (fI H1 f x) (fI H1 j x) (fI H1 e x) (fI H1 a x) (fI H1 c x) (fI H1 d x) (fun i => fI H1 o i) (fun i => fI H1 r i) 3000) (ew : ∀ l, l ≠ x → fI H1 w l = fI H w l) (ef : ∀ l, l ≠ x → fI H1 f l = fI H f l) (ej : ∀ l, l ≠ x → fI H1 j l = fI H j l) (ee : ∀ l, l ≠ x → fI H1 e l = fI H e l) (ea : ∀ l, l ≠ x → fI H1 a l = fI H a l) (ec : ∀ l, l ≠ x → fI H1 c l = fI H c l) (ed : ∀ l, l ≠ x → fI H1 d l = fI H d l) (eo : ∀ l, l < 3000 + m → fI H1 o l = fI H o l ∧ fI H1 r l = fI H r l) (hm : m ≤ m1) (hd : (fI H1 d x).toNatClampNeg ≤ m1) : TXRW H1 w f j e a c d o r kk vv lw n1 i1 m1 := by
  subst hn; subst hx
  obtain ⟨h1, h2⟩ := h
  refine ⟨lpo_go rfl (by rw [h1]; exact hl), fun l hl2 => ?_⟩
  by_cases el : l = n
  · subst el
    rw [h1]
    have := ln.le
    exact ⟨ln, by omega, hd⟩
  · obtain ⟨z, zc, zd⟩ := h2 l (by omega)
    have hne : 96 + l ≠ 96 + n := by omega
    rw [ew _ hne, ef _ hne, ej _ hne, ee _ hne, ea _ hne, ec _ hne, ed _ hne]
    exact ⟨z.keep (fun i hi => (eo i hi).1) (fun i hi => (eo i hi).2) zc zd, by omega, by omega⟩
theorem FRD.go {H H1 : Heap} {w f j e a c d o r x m : Nat} (hx : 96 ≤ x) (ew : ∀ l, l ≠ x → fI H1 w l = fI H w l) (ef : ∀ l, l ≠ x → fI H1 f l = fI H f l) (ej : ∀ l, l ≠ x → fI H1 j l = fI H j l) (ee : ∀ l, l ≠ x → fI H1 e l = fI H e l) (ea : ∀ l, l ≠ x → fI H1 a l = fI H a l) (ec : ∀ l, l ≠ x → fI H1 c l = fI H c l) (ed : ∀ l, l ≠ x → fI H1 d l = fI H d l) (eo : ∀ l, l < 3000 + m → fI H1 o l = fI H o l ∧ fI H1 r l = fI H r l) : FRD H1 H w f j e a c d o r := ⟨fun l hl => ⟨ew l (by omega), ef l (by omega), ej l (by omega), ee l (by omega), ea l (by omega), ec l (by omega), ed l (by omega)⟩, fun l hl => eo l (by omega)⟩
