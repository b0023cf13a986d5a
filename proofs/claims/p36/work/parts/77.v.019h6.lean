/-! ===== a line of the reference's job ===== -/
/-- a pass can be done, but for its depth's bounds -/
def cpV (v : BW) (i d : Int) : Prop := 0 ≤ i ∧ i < v 0 0 ∧ d < v 1 i.toNat ∧ v 8 0 < 200
theorem cpV_no {T : TF} {sl i d : Int} {v : BW} (h : ¬ cpV v i d) : paV T sl v i d = v := paV_no (fun z => h ⟨z.1, z.2.1, z.2.2.2.2.1, z.2.2.2.2.2⟩)
theorem arV_go0 {T : TF} {sl am mi s s1 d : Int} {n m : Nat} {v : BW} (hn : n = m + 1) (hs : s1 = s + 1) (hd : (0 ≤ s - mi ∧ d = am - (s - mi)) ∨ (s - mi < 0 ∧ d = am - (mi - s))) : arV T sl am mi n s v = arV T sl am mi m s1 (paV T sl v s d) := by
  subst hn; subst hs
  show arV T sl am mi m (s + 1) (paV T sl v s (am - (if s - mi < 0 then mi - s else s - mi))) = _
  rw [show am - (if s - mi < 0 then mi - s else s - mi) = d by split <;> omega]
theorem arV_skip {T : TF} {sl am mi s s1 d : Int} {n m : Nat} {v : BW} (hs : s1 = s + 1) (hd : (0 ≤ s - mi ∧ d = am - (s - mi)) ∨ (s - mi < 0 ∧ d = am - (mi - s))) (hn : (n = 0 ∧ m = 0) ∨ n = m + 1) (h : ¬ (0 ≤ s ∧ s < v 0 0 ∧ 1 ≤ d ∧ d ≤ 9 ∧ d < v 1 s.toNat ∧ v 8 0 < 200)) : arV T sl am mi n s v = arV T sl am mi m s1 v := by
  rcases hn with ⟨rfl, rfl⟩ | hn
  · rfl
  · rw [arV_go0 hn hs hd, paV_no h]
/-- a line's word as the class has it -/
def wdR (w : Int) : Int := if w = 17 then 6 else w
set_option maxHeartbeats 4000000 in
set_option maxRecDepth 100000 in
theorem a_X10_isSlice_v (l : Launch) (K : KE) (G : Nat → Option Nat) (H : Heap) {a0 : Nat} (x1 : Int32) (x2 : Int32) {slq : Nat} (bs : Int32) (sz : Int32) (hT : TY K G H) (ga0 : G a0 = some 112) (hx1 : 0 ≤ x1.toInt ∧ x1.toInt ≤ 9) (gslq : G slq = some 113) (eslq : slq = fR H a0 (K.1.2 10 4)) (ebs : bs = fI H a0 (K.1.2 10 1)) (esz : sz = fI H slq (x1 : Int32).toNatClampNeg) (hp0 : x1.toInt < bs.toInt) : MX l K yX10_isSlice cX10_isSlice 3 (some .boolean) 1 21 0 0 [.ref a0, .int x1, .int x2] H (AE G [] H.size) (fun v H1 => ∃ (r : Int32), v = some (.int r) ∧ (0 ≤ r.toInt ∧ r.toInt ≤ 1) ∧ ((r.toInt = 1 ∧ 0 ≤ x2.toInt ∧ x2.toInt < sz.toInt) ∨ (r.toInt = 0 ∧ (x2.toInt < 0 ∨ sz.toInt ≤ x2.toInt))) ∧ TY K G H1) := by
  refine MX.of (by decide +kernel) (Nat.le_of_ble_eq_true rfl) ?_
  intro p e s m below meth c ls Q C hH hl hQ
  subst hH
  have C : CX p K s m _ meth c RX10 cX10_isSlice 3 (some .boolean) "isSlice" := C
  obtain ⟨hx, hb, hml, hown, hts, hKT, hr, hlocks, hnm⟩ := id C
  have hl : lv_has ls 3 [(0, .ref a0), (1, .int x1), (2, .int x2)] := hl
  have hS : va_S (AE G [] s.heap.size) s.heap s.heap [] := va_S.rf
  have n_0 : (0 : Int32).toInt = 0 := rfl
  have n_1 : (1 : Int32).toInt = 1 := rfl
  have bbs := ty_fi (x := bs) (k := 1) ebs hT ga0 rg_112 rfl
  have bsz := ty_ai (x := sz) esz hT gslq rg_113 (by omega)
  have hap : ∀ x y, x < 74 → y < 74 → x ≠ y → K.1.2 10 x ≠ K.1.2 10 y := x_apart hKT hts inX10 tyX10 tyX10_ok nmX10 rfl
  refine lv_aload_n hx hb dX10_isSlice_0 rfl (lv_at hl 0 rfl) ?_
  refine lv_iload_n hx hb dX10_isSlice_1 rfl (lv_at hl 1 rfl) ?_
  refine x_V (As := [.int x1]) (rest := []) C (a_X10_isBar_r l K G s.heap (x1) (bs) hT ga0 ebs) yo_X10_isBar wM_X10_173 ⟨⟨by decide, by decide⟩, by decide, by decide⟩ (x_rv C hT (ci := 10) rfl ga0 rg_112) rfl hl.1 rfl (Nat.le_of_ble_eq_true rfl) dX10_isSlice_2 hS (AE_sub (fun _ _ => rfl) (by decide) hS.1) (fun vH153 H153 locsH153 pH153 zH153 kH153 hSH153 => ?_)
  obtain ⟨x154, hvH153, bx154, hrH153, hTH153⟩ := pH153
  subst hvH153
  have m155 := (eslq).trans (fR_kept (x_lt hT kH153 ga0 (by decide))).symm
  have m156 := (ebs).trans (fI_kept (x_lt hT kH153 ga0 (by decide))).symm
  have m157 := (esz).trans (fI_kept (x_lt hT kH153 gslq (by decide))).symm
  refine W.eq (g2 := F0 m 5 ls [.int x154]) rfl ?_
  refine lv_if_eq (tgt := 26) hx hb dX10_isSlice_5 (by decide) (fun c158 => ?_) (fun c158 => ?_)
  · have k159 := i_eq c158
    refine lv_iconst (v := 0) hx hb dX10_isSlice_26 (by decide) ?_
    exact x_zret C hQ (Or.inl rfl) dX10_isSlice_27 hSH153 (by decide) (by decide) (⟨0, rfl, by decide, by omega, hTH153⟩)
  · have k159 := i_ne c158
    refine lv_iload_n hx hb dX10_isSlice_8 rfl (lv_at hl 2 rfl) ?_
    refine lv_if_lt (tgt := 26) hx hb dX10_isSlice_9 (by decide) (fun c160 => ?_) (fun c160 => ?_)
    · have k161 := i_lt c160
      refine lv_iconst (v := 0) hx hb dX10_isSlice_26 (by decide) ?_
      exact x_zret C hQ (Or.inl rfl) dX10_isSlice_27 hSH153 (by decide) (by decide) (⟨0, rfl, by decide, by omega, hTH153⟩)
    · have k161 := i_nlt c160
      refine lv_iload_n hx hb dX10_isSlice_12 rfl (lv_at hl 2 rfl) ?_
      refine lv_aload_n hx hb dX10_isSlice_13 rfl (lv_at hl 0 rfl) ?_
      refine x_gr C hTH153 (ci := 10) (k := 4) rfl inX10 (by decide) wF_X10_13 ga0 rg_112 rfl dX10_isSlice_14 (fun q162 eq162 gq162 => ?_)
      have uq162 : slq = q162 := (m155).trans eq162.symm
      subst uq162
      refine lv_iload_n hx hb dX10_isSlice_17 rfl (lv_at hl 1 rfl) ?_
      refine x_ai C hTH153 gslq rg_113 ⟨by omega, by show _ < ((10 : Nat) : Int); omega⟩ dX10_isSlice_18 (fun x163 ex163 bx163 => ?_)
      have ux163 : sz = x163 := (m157).trans ex163.symm
      subst ux163
      refine lv_icmp_ge (tgt := 26) hx hb dX10_isSlice_19 (by decide) (fun c164 => ?_) (fun c164 => ?_)
      · have k165 := i_le c164
        refine lv_iconst (v := 0) hx hb dX10_isSlice_26 (by decide) ?_
        exact x_zret C hQ (Or.inl rfl) dX10_isSlice_27 hSH153 (by decide) (by decide) (⟨0, rfl, by decide, by omega, hTH153⟩)
      · have k165 := i_nle c164
        refine lv_iconst (v := 1) hx hb dX10_isSlice_22 (by decide) ?_
        refine lv_goto (tgt := 27) hx hb dX10_isSlice_23 (by decide) ?_
        exact x_zret C hQ (Or.inr rfl) dX10_isSlice_27 hSH153 (by decide) (by decide) (⟨1, rfl, by decide, by omega, hTH153⟩)

set_option maxHeartbeats 4000000 in
set_option maxRecDepth 100000 in
theorem a_X10_canPass_v (l : Launch) (K : KE) (G : Nat → Option Nat) (H : Heap) {a0 : Nat} (x1 : Int32) (x2 : Int32) (x3 : Int32) {slq : Nat} {kq : Nat} {psq : Nat} (bs : Int32) (sz : Int32) (ps : Int32) (hT : TY K G H) (ga0 : G a0 = some 112) (hx1 : 0 ≤ x1.toInt ∧ x1.toInt ≤ 9) (gslq : G slq = some 113) (eslq : slq = fR H a0 (K.1.2 10 4)) (gkq : G kq = some 114) (ekq : kq = fR H a0 (K.1.2 10 5)) (gpsq : G psq = some 119) (epsq : psq = fR H a0 (K.1.2 10 10)) (ebs : bs = fI H a0 (K.1.2 10 1)) (esz : sz = fI H slq (x1 : Int32).toNatClampNeg) (eps : ps = fI H psq (x1 : Int32).toNatClampNeg) (hp0 : x1.toInt < bs.toInt) : MX l K yX10_canPass cX10_canPass 4 (some .boolean) 2 43 0 0 [.ref a0, .int x1, .int x2, .int x3] H (AE G [] H.size) (fun v H1 => ∃ (r : Int32), v = some (.int r) ∧ (0 ≤ r.toInt ∧ r.toInt ≤ 1) ∧ ((r.toInt = 1 ∧ 0 ≤ x2.toInt ∧ x2.toInt < sz.toInt ∧ ps.toInt ≤ 199) ∨ r.toInt = 0) ∧ ((r.toInt = 1 ∧ cpV (vwR K H a0 x1.toNatClampNeg) x2.toInt x3.toInt) ∨ (r.toInt = 0 ∧ ¬ cpV (vwR K H a0 x1.toNatClampNeg) x2.toInt x3.toInt)) ∧ TY K G H1) := by
  refine MX.of (by decide +kernel) (Nat.le_of_ble_eq_true rfl) ?_
  intro p e s m below meth c ls Q C hH hl hQ
  subst hH
  have C : CX p K s m _ meth c RX10 cX10_canPass 4 (some .boolean) "canPass" := C
  obtain ⟨hx, hb, hml, hown, hts, hKT, hr, hlocks, hnm⟩ := id C
  have hl : lv_has ls 4 [(0, .ref a0), (1, .int x1), (2, .int x2), (3, .int x3)] := hl
  have hS : va_S (AE G [] s.heap.size) s.heap s.heap [] := va_S.rf
  have n_0 : (0 : Int32).toInt = 0 := rfl
  have n_1 : (1 : Int32).toInt = 1 := rfl
  have n_16 : (16 : Int32).toInt = 16 := rfl
  have n_200 : (200 : Int32).toInt = 200 := rfl
  have bbs := ty_fi (x := bs) (k := 1) ebs hT ga0 rg_112 rfl
  have bsz := ty_ai (x := sz) esz hT gslq rg_113 (by omega)
  have bps := ty_ai (x := ps) eps hT gpsq rg_119 (by omega)
  have hap : ∀ x y, x < 74 → y < 74 → x ≠ y → K.1.2 10 x ≠ K.1.2 10 y := x_apart hKT hts inX10 tyX10 tyX10_ok nmX10 rfl
  have v00 : vwR K s.heap a0 x1.toNatClampNeg 0 0 = sz.toInt := by rw [vwR_f (by decide)]; show (fI s.heap (fR s.heap a0 (K.1.2 10 4)) x1.toNatClampNeg).toInt = _; rw [← eslq, ← esz]
  have v80 : vwR K s.heap a0 x1.toNatClampNeg 8 0 = ps.toInt := by rw [vwR_f (by decide)]; show (fI s.heap (fR s.heap a0 (K.1.2 10 10)) x1.toNatClampNeg).toInt = _; rw [← epsq, ← eps]
  have f0_s_kq : ∀ j : Nat, fI s.heap kq j = fI s.heap kq j := fun _ => rfl
  refine lv_aload_n hx hb dX10_canPass_0 rfl (lv_at hl 0 rfl) ?_
  refine lv_iload_n hx hb dX10_canPass_1 rfl (lv_at hl 1 rfl) ?_
  refine lv_iload_n hx hb dX10_canPass_2 rfl (lv_at hl 2 rfl) ?_
  refine x_V (As := [.int x1, .int x2]) (rest := []) C (a_X10_isSlice_v l K G s.heap (x1) (x2) (bs) (sz) hT ga0 (by omega) gslq eslq ebs esz (by omega)) yo_X10_isSlice wM_X10_181 ⟨⟨by decide, by decide⟩, by decide, by decide⟩ (x_rv C hT (ci := 10) rfl ga0 rg_112) rfl hl.1 rfl (Nat.le_of_ble_eq_true rfl) dX10_canPass_3 hS (AE_sub (fun _ _ => rfl) (by decide) hS.1) (fun vH185 H185 locsH185 pH185 zH185 kH185 hSH185 => ?_)
  obtain ⟨x186, hvH185, bx186, hrH185, hTH185⟩ := pH185
  subst hvH185
  have f187 : ∀ j : Nat, fI H185 kq j = fI s.heap kq j := fun j => (fI_kept (x_lt hT kH185 gkq (by decide))).trans (f0_s_kq j)
  have m188 := (eslq).trans (fR_kept (x_lt hT kH185 ga0 (by decide))).symm
  have m189 := (ekq).trans (fR_kept (x_lt hT kH185 ga0 (by decide))).symm
  have m190 := (epsq).trans (fR_kept (x_lt hT kH185 ga0 (by decide))).symm
  have m191 := (ebs).trans (fI_kept (x_lt hT kH185 ga0 (by decide))).symm
  have m192 := (esz).trans (fI_kept (x_lt hT kH185 gslq (by decide))).symm
  have m193 := (eps).trans (fI_kept (x_lt hT kH185 gpsq (by decide))).symm
  refine W.eq (g2 := F0 m 6 ls [.int x186]) rfl ?_
  refine lv_if_eq (tgt := 40) hx hb dX10_canPass_6 (by decide) (fun c194 => ?_) (fun c194 => ?_)
  · have k195 := i_eq c194
    refine lv_iconst (v := 0) hx hb dX10_canPass_40 (by decide) ?_
    exact x_zret C hQ (Or.inl rfl) dX10_canPass_41 hSH185 (by decide) (by decide) (⟨0, rfl, by decide, by omega, (Or.inr ⟨rfl, fun z => by obtain ⟨z1, z2, z3, z4⟩ := z; rw [v00] at z2; rw [v80] at z4; omega⟩), hTH185⟩)
  · have k195 := i_ne c194
    refine lv_aload_n hx hb dX10_canPass_9 rfl (lv_at hl 0 rfl) ?_
    refine x_gr C hTH185 (ci := 10) (k := 5) rfl inX10 (by decide) wF_X10_17 ga0 rg_112 rfl dX10_canPass_10 (fun q196 eq196 gq196 => ?_)
    have uq196 : kq = q196 := (m189).trans eq196.symm
    subst uq196
    refine lv_bipush (v := 16) hx hb dX10_canPass_13 (by decide) ?_
    refine lv_iload_n hx hb dX10_canPass_15 rfl (lv_at hl 1 rfl) ?_
    refine lv_imul hx hb dX10_canPass_16 ?_
    refine lv_topi (fun x197 ex197 => ?_)
    have tx197 := i_mul ex197 (by rw [n_16]; omega)
    rw [n_16] at tx197
    refine lv_iload_n hx hb dX10_canPass_17 rfl (lv_at hl 2 rfl) ?_
    refine lv_iadd hx hb dX10_canPass_18 ?_
    refine lv_topi (fun x198 ex198 => ?_)
    have tx198 := i_add ex198 (by omega)
    refine x_ai C hTH185 gkq rg_114 ⟨by omega, by show _ < ((160 : Nat) : Int); omega⟩ dX10_canPass_19 (fun x199 ex199 bx199 => ?_)
    refine lv_iload_n hx hb dX10_canPass_20 rfl (lv_at hl 3 rfl) ?_
    refine lv_icmp_le (tgt := 40) hx hb dX10_canPass_21 (by decide) (fun c200 => ?_) (fun c200 => ?_)
    · have k201 := i_le c200
      refine lv_iconst (v := 0) hx hb dX10_canPass_40 (by decide) ?_
      have cn_x1 := i_cl (x := x1) (by omega)
      have cn_x2 := i_cl (x := x2) (by omega)
      have cn_x198 := i_cl (x := x198) (by omega)
      have qr202 : fI s.heap kq x198.toNatClampNeg = x199 := ((f187 _).symm.trans ex199.symm)
      have v1_ : vwR K s.heap a0 x1.toNatClampNeg 1 x2.toInt.toNat = x199.toInt := by
        rw [vwR_a (k := 1) (by decide)]
        show (fI s.heap (fR s.heap a0 (K.1.2 10 5)) (16 * x1.toNatClampNeg + x2.toNatClampNeg)).toInt = _
        rw [← ekq, show 16 * x1.toNatClampNeg + x2.toNatClampNeg = x198.toNatClampNeg by omega, qr202]
      exact x_zret C hQ (Or.inl rfl) dX10_canPass_41 hSH185 (by decide) (by decide) (⟨0, rfl, by decide, by omega, (Or.inr ⟨rfl, fun z => by obtain ⟨z1, z2, z3, z4⟩ := z; rw [v00] at z2; rw [v80] at z4; rw [v1_] at z3; omega⟩), hTH185⟩)
    · have k201 := i_nle c200
      refine lv_aload_n hx hb dX10_canPass_24 rfl (lv_at hl 0 rfl) ?_
      refine x_gr C hTH185 (ci := 10) (k := 10) rfl inX10 (by decide) wF_X10_32 ga0 rg_112 rfl dX10_canPass_25 (fun q203 eq203 gq203 => ?_)
      have uq203 : psq = q203 := (m190).trans eq203.symm
      subst uq203
      refine lv_iload_n hx hb dX10_canPass_28 rfl (lv_at hl 1 rfl) ?_
      refine x_ai C hTH185 gpsq rg_119 ⟨by omega, by show _ < ((10 : Nat) : Int); omega⟩ dX10_canPass_29 (fun x204 ex204 bx204 => ?_)
      have ux204 : ps = x204 := (m193).trans ex204.symm
      subst ux204
      refine lv_sipush (v := 200) hx hb dX10_canPass_30 (by decide) ?_
      refine lv_icmp_ge (tgt := 40) hx hb dX10_canPass_33 (by decide) (fun c205 => ?_) (fun c205 => ?_)
      · have k206 := i_le c205
        refine lv_iconst (v := 0) hx hb dX10_canPass_40 (by decide) ?_
        have cn_x1 := i_cl (x := x1) (by omega)
        have cn_x2 := i_cl (x := x2) (by omega)
        have cn_x198 := i_cl (x := x198) (by omega)
        have qr207 : fI s.heap kq x198.toNatClampNeg = x199 := ((f187 _).symm.trans ex199.symm)
        have v1_ : vwR K s.heap a0 x1.toNatClampNeg 1 x2.toInt.toNat = x199.toInt := by
          rw [vwR_a (k := 1) (by decide)]
          show (fI s.heap (fR s.heap a0 (K.1.2 10 5)) (16 * x1.toNatClampNeg + x2.toNatClampNeg)).toInt = _
          rw [← ekq, show 16 * x1.toNatClampNeg + x2.toNatClampNeg = x198.toNatClampNeg by omega, qr207]
        exact x_zret C hQ (Or.inl rfl) dX10_canPass_41 hSH185 (by decide) (by decide) (⟨0, rfl, by decide, by omega, (Or.inr ⟨rfl, fun z => by obtain ⟨z1, z2, z3, z4⟩ := z; rw [v00] at z2; rw [v80] at z4; rw [v1_] at z3; omega⟩), hTH185⟩)
      · have k206 := i_nle c205
        refine lv_iconst (v := 1) hx hb dX10_canPass_36 (by decide) ?_
        refine lv_goto (tgt := 41) hx hb dX10_canPass_37 (by decide) ?_
        have cn_x1 := i_cl (x := x1) (by omega)
        have cn_x2 := i_cl (x := x2) (by omega)
        have cn_x198 := i_cl (x := x198) (by omega)
        have qr208 : fI s.heap kq x198.toNatClampNeg = x199 := ((f187 _).symm.trans ex199.symm)
        have v1_ : vwR K s.heap a0 x1.toNatClampNeg 1 x2.toInt.toNat = x199.toInt := by
          rw [vwR_a (k := 1) (by decide)]
          show (fI s.heap (fR s.heap a0 (K.1.2 10 5)) (16 * x1.toNatClampNeg + x2.toNatClampNeg)).toInt = _
          rw [← ekq, show 16 * x1.toNatClampNeg + x2.toNatClampNeg = x198.toNatClampNeg by omega, qr208]
        exact x_zret C hQ (Or.inr rfl) dX10_canPass_41 hSH185 (by decide) (by decide) (⟨1, rfl, by decide, by omega, (Or.inl ⟨rfl, by omega, by rw [v00]; omega, by rw [v1_]; omega, by rw [v80]; omega⟩), hTH185⟩)

set_option maxHeartbeats 4000000 in
set_option maxRecDepth 100000 in
theorem a_X10_asksJob_v (l : Launch) (K : KE) (G : Nat → Option Nat) (H : Heap) {a0 : Nat} (x1 : Int32) {uq : Nat} {psq : Nat} (ps : Int32) (fo : Int32) (fsE : Nat → EF) (fwE : Nat → EF) (hT : TY K G H) (ga0 : G a0 = some 112) (hx1 : 0 ≤ x1.toInt ∧ x1.toInt ≤ 9) (guq : G uq = some 139) (euq : uq = fR H a0 (K.1.2 10 43)) (gpsq : G psq = some 119) (epsq : psq = fR H a0 (K.1.2 10 10)) (eps : ps = fI H psq (x1 : Int32).toNatClampNeg) (efo : fo = fI H a0 (K.1.2 10 2)) (hg_CG : CG (avw K H a0)) (hy0 : TXR K H a0 fo.toNatClampNeg 1 fsE fwE) : MX l K yX10_asksJob cX10_asksJob 6 none 6 145 0 0 [.ref a0, .int x1] H (AE G [140, 139] H.size) (fun v H1 => v = none ∧ (SBA (fun j => fI H1 uq j) (tnR K H a0 fo.toNatClampNeg x1.toNatClampNeg fsE fwE 0) (tnR K H a0 fo.toNatClampNeg x1.toNatClampNeg fsE fwE 1) (tnR K H a0 fo.toNatClampNeg x1.toNatClampNeg fsE fwE 2) ps.toInt) ∧ TY K G H1) := by
  refine MX.of (by decide +kernel) (Nat.le_of_ble_eq_true rfl) ?_
  intro p e s m below meth c ls Q C hH hl hQ
  subst hH
  have C : CX p K s m _ meth c RX10 cX10_asksJob 6 none "asksJob" := C
  obtain ⟨hx, hb, hml, hown, hts, hKT, hr, hlocks, hnm⟩ := id C
  have hl : lv_has ls 6 [(0, .ref a0), (1, .int x1)] := hl
  have hS : va_S (AE G [140, 139] s.heap.size) s.heap s.heap [] := va_S.rf
  have n_0 : (0 : Int32).toInt = 0 := rfl
  have n_1 : (1 : Int32).toInt = 1 := rfl
  have n_2 : (2 : Int32).toInt = 2 := rfl
  have n_10 : (10 : Int32).toInt = 10 := rfl
  have n_11 : (11 : Int32).toInt = 11 := rfl
  have n_12 : (12 : Int32).toInt = 12 := rfl
  have n_13 : (13 : Int32).toInt = 13 := rfl
  have n_14 : (14 : Int32).toInt = 14 := rfl
  have bps := ty_ai (x := ps) eps hT gpsq rg_119 (by omega)
  have bfo := ty_fi (x := fo) (k := 2) efo hT ga0 rg_112 rfl
  have hap : ∀ x y, x < 74 → y < 74 → x ≠ y → K.1.2 10 x ≠ K.1.2 10 y := x_apart hKT hts inX10 tyX10 tyX10_ok nmX10 rfl
  have f0_fr : FRR G s.heap s.heap := FRR.rf
  have J25 : ∀ (nf : Nat)  (ls706 : Array Slot) (H705 : Heap) (locsH705 : List Loc) (x708 : Int32) (x709 : Int32) (x710 : Int32) (x711 : Int32), lv_has ls706 6 [(0, .ref a0), (1, .int x1), (2, .int x708), (3, .int x709), (4, .int x710), (5, .int x711)] → TY K G H705 → va_S (AE G [140, 139] s.heap.size) s.heap H705 locsH705 → (0 ≤ x708.toInt ∧ x708.toInt ≤ 2000000000) → (0 ≤ x709.toInt ∧ x709.toInt ≤ 2000000000) → (0 ≤ x710.toInt ∧ x710.toInt ≤ 2000000000) → (0 ≤ x711.toInt ∧ x711.toInt ≤ 14) → (uq = fR H705 a0 (K.1.2 10 43)) → (psq = fR H705 a0 (K.1.2 10 10)) → (ps = fI H705 psq (x1 : Int32).toNatClampNeg) → (fo = fI H705 a0 (K.1.2 10 2)) → (CG (avw K H705 a0)) → (FRR G H705 s.heap) → (14 - x711.toInt < (nf : Int)) → (∀ j : Nat, j < x711.toNatClampNeg → fI H705 uq j = 0) → (x708.toInt = tnR K s.heap a0 fo.toNatClampNeg x1.toNatClampNeg fsE fwE 0) → (x709.toInt = tnR K s.heap a0 fo.toNatClampNeg x1.toNatClampNeg fsE fwE 1) → (x710.toInt = tnR K s.heap a0 fo.toNatClampNeg x1.toNatClampNeg fsE fwE 2) → W p l e ({ frames := 6, cells := 0, slots := 0, locals := 145 } : Room) s m (([.ref a0, .int x1] : List Value).toArray) below meth c H705 locsH705 0 0 Q (F0 m 25 ls706 []) := by
    intro nf
    induction nf with
    | zero =>
      intro  ls706 H705 locsH705 x708 x709 x710 x711 hl707 hTH705 hSH705 bx708 bx709 bx710 bx711 cy712_0 cy712_1 cy712_2 cy712_3 gy712_CG fy712_fr hm25 hz25 ht0 ht1 ht2
      exfalso
      omega
    | succ nf ih25 =>
      intro  ls706 H705 locsH705 x708 x709 x710 x711 hl707 hTH705 hSH705 bx708 bx709 bx710 bx711 cy712_0 cy712_1 cy712_2 cy712_3 gy712_CG fy712_fr hm25 hz25 ht0 ht1 ht2
      refine lv_iload hx hb dX10_asksJob_25 (lv_at hl707 5 rfl) ?_
      refine lv_bipush (v := 14) hx hb dX10_asksJob_27 (by decide) ?_
      refine lv_icmp_ge (tgt := 46) hx hb dX10_asksJob_29 (by decide) (fun c713 => ?_) (fun c713 => ?_)
      · have k714 := i_le c713
        refine lv_aload_n hx hb dX10_asksJob_46 rfl (lv_at hl707 0 rfl) ?_
        refine x_gr C hTH705 (ci := 10) (k := 43) rfl inX10 (by decide) wF_X10_95 ga0 rg_112 rfl dX10_asksJob_47 (fun q715 eq715 gq715 => ?_)
        have uq715 : uq = q715 := (cy712_0).trans eq715.symm
        subst uq715
        refine lv_bipush (v := 10) hx hb dX10_asksJob_50 (by decide) ?_
        refine lv_iload_n hx hb dX10_asksJob_52 rfl (lv_at hl707 2 rfl) ?_
        refine x_iast C hTH705 hSH705 guq rg_139 (by decide) (by decide) ⟨by have := i_rng x708; omega, by have := i_rng x708; omega⟩ (AE_in guq (by decide)) dX10_asksJob_53 (fun H716 locsH716 hTH716 hSH716 wH716 => ?_)
        have g717 : CG (avw K H716 a0) := CG.congr (fun k hk j => av_arr hTH705 ga0 wH716 guq (by decide) (CG_ok 139 (by decide) k hk)) gy712_CG
        have f718 : FRR G H716 s.heap := (fun q t hq h1 h2 => (wH716.off (G_ne hq guq (by first | omega | (intro z; simp only [List.mem_cons, List.not_mem_nil, or_false] at z <;> omega)))).trans (fy712_fr q t hq h1 h2))
        have m719 := cy712_0.trans (Wr.neR wH716 (Or.inl (G_ne ga0 guq (by decide)))).symm
        have m720 := cy712_1.trans (Wr.neR wH716 (Or.inl (G_ne ga0 guq (by decide)))).symm
        have m721 := cy712_2.trans (Wr.neI wH716 (Or.inl (G_ne gpsq guq (by decide)))).symm
        have m722 := cy712_3.trans (Wr.neI wH716 (Or.inl (G_ne ga0 guq (by decide)))).symm
        have m723 := Wr.I wH716
        have m723 := m723.symm
        refine lv_aload_n hx hb dX10_asksJob_54 rfl (lv_at hl707 0 rfl) ?_
        refine x_gr C hTH716 (ci := 10) (k := 43) rfl inX10 (by decide) wF_X10_95 ga0 rg_112 rfl dX10_asksJob_55 (fun q724 eq724 gq724 => ?_)
        have uq724 : uq = q724 := (m719).trans eq724.symm
        subst uq724
        refine lv_bipush (v := 11) hx hb dX10_asksJob_58 (by decide) ?_
        refine lv_iload_n hx hb dX10_asksJob_60 rfl (lv_at hl707 3 rfl) ?_
        refine x_iast C hTH716 hSH716 guq rg_139 (by decide) (by decide) ⟨by have := i_rng x709; omega, by have := i_rng x709; omega⟩ (AE_in guq (by decide)) dX10_asksJob_61 (fun H725 locsH725 hTH725 hSH725 wH725 => ?_)
        have g726 : CG (avw K H725 a0) := CG.congr (fun k hk j => av_arr hTH716 ga0 wH725 guq (by decide) (CG_ok 139 (by decide) k hk)) g717
        have f727 : FRR G H725 s.heap := (fun q t hq h1 h2 => (wH725.off (G_ne hq guq (by first | omega | (intro z; simp only [List.mem_cons, List.not_mem_nil, or_false] at z <;> omega)))).trans (f718 q t hq h1 h2))
        have m728 := m719.trans (Wr.neR wH725 (Or.inl (G_ne ga0 guq (by decide)))).symm
        have m729 := m720.trans (Wr.neR wH725 (Or.inl (G_ne ga0 guq (by decide)))).symm
        have m730 := m721.trans (Wr.neI wH725 (Or.inl (G_ne gpsq guq (by decide)))).symm
        have m731 := m722.trans (Wr.neI wH725 (Or.inl (G_ne ga0 guq (by decide)))).symm
        have m732 := m723.trans (Wr.neI wH725 (Or.inr (by decide))).symm
        have m733 := Wr.I wH725
        have m733 := m733.symm
        refine lv_aload_n hx hb dX10_asksJob_62 rfl (lv_at hl707 0 rfl) ?_
        refine x_gr C hTH725 (ci := 10) (k := 43) rfl inX10 (by decide) wF_X10_95 ga0 rg_112 rfl dX10_asksJob_63 (fun q734 eq734 gq734 => ?_)
        have uq734 : uq = q734 := (m728).trans eq734.symm
        subst uq734
        refine lv_bipush (v := 12) hx hb dX10_asksJob_66 (by decide) ?_
        refine lv_iload hx hb dX10_asksJob_68 (lv_at hl707 4 rfl) ?_
        refine x_iast C hTH725 hSH725 guq rg_139 (by decide) (by decide) ⟨by have := i_rng x710; omega, by have := i_rng x710; omega⟩ (AE_in guq (by decide)) dX10_asksJob_70 (fun H735 locsH735 hTH735 hSH735 wH735 => ?_)
        have g736 : CG (avw K H735 a0) := CG.congr (fun k hk j => av_arr hTH725 ga0 wH735 guq (by decide) (CG_ok 139 (by decide) k hk)) g726
        have f737 : FRR G H735 s.heap := (fun q t hq h1 h2 => (wH735.off (G_ne hq guq (by first | omega | (intro z; simp only [List.mem_cons, List.not_mem_nil, or_false] at z <;> omega)))).trans (f727 q t hq h1 h2))
        have m738 := m728.trans (Wr.neR wH735 (Or.inl (G_ne ga0 guq (by decide)))).symm
        have m739 := m729.trans (Wr.neR wH735 (Or.inl (G_ne ga0 guq (by decide)))).symm
        have m740 := m730.trans (Wr.neI wH735 (Or.inl (G_ne gpsq guq (by decide)))).symm
        have m741 := m731.trans (Wr.neI wH735 (Or.inl (G_ne ga0 guq (by decide)))).symm
        have m742 := m732.trans (Wr.neI wH735 (Or.inr (by decide))).symm
        have m743 := m733.trans (Wr.neI wH735 (Or.inr (by decide))).symm
        have m744 := Wr.I wH735
        have m744 := m744.symm
        refine lv_aload_n hx hb dX10_asksJob_71 rfl (lv_at hl707 0 rfl) ?_
        refine x_gr C hTH735 (ci := 10) (k := 43) rfl inX10 (by decide) wF_X10_95 ga0 rg_112 rfl dX10_asksJob_72 (fun q745 eq745 gq745 => ?_)
        have uq745 : uq = q745 := (m738).trans eq745.symm
        subst uq745
        refine lv_bipush (v := 13) hx hb dX10_asksJob_75 (by decide) ?_
        refine lv_aload_n hx hb dX10_asksJob_77 rfl (lv_at hl707 0 rfl) ?_
        refine x_gr C hTH735 (ci := 10) (k := 10) rfl inX10 (by decide) wF_X10_32 ga0 rg_112 rfl dX10_asksJob_78 (fun q746 eq746 gq746 => ?_)
        have uq746 : psq = q746 := (m739).trans eq746.symm
        subst uq746
        refine lv_iload_n hx hb dX10_asksJob_81 rfl (lv_at hl707 1 rfl) ?_
        refine x_ai C hTH735 gpsq rg_119 ⟨by omega, by show _ < ((10 : Nat) : Int); omega⟩ dX10_asksJob_82 (fun x747 ex747 bx747 => ?_)
        have ux747 : ps = x747 := (m740).trans ex747.symm
        subst ux747
        refine x_iast C hTH735 hSH735 guq rg_139 (by decide) (by decide) ⟨by have := i_rng ps; omega, by have := i_rng ps; omega⟩ (AE_in guq (by decide)) dX10_asksJob_83 (fun H748 locsH748 hTH748 hSH748 wH748 => ?_)
        have g749 : CG (avw K H748 a0) := CG.congr (fun k hk j => av_arr hTH735 ga0 wH748 guq (by decide) (CG_ok 139 (by decide) k hk)) g736
        have f750 : FRR G H748 s.heap := (fun q t hq h1 h2 => (wH748.off (G_ne hq guq (by first | omega | (intro z; simp only [List.mem_cons, List.not_mem_nil, or_false] at z <;> omega)))).trans (f737 q t hq h1 h2))
        have m751 := m738.trans (Wr.neR wH748 (Or.inl (G_ne ga0 guq (by decide)))).symm
        have m752 := m739.trans (Wr.neR wH748 (Or.inl (G_ne ga0 guq (by decide)))).symm
        have m753 := m740.trans (Wr.neI wH748 (Or.inl (G_ne gpsq guq (by decide)))).symm
        have m754 := m741.trans (Wr.neI wH748 (Or.inl (G_ne ga0 guq (by decide)))).symm
        have m755 := m742.trans (Wr.neI wH748 (Or.inr (by decide))).symm
        have m756 := m743.trans (Wr.neI wH748 (Or.inr (by decide))).symm
        have m757 := m744.trans (Wr.neI wH748 (Or.inr (by decide))).symm
        have m758 := Wr.I wH748
        have m758 := m758.symm
        exact x_vret C hQ dX10_asksJob_84 hSH748 (by decide) (by decide) (⟨rfl, ⟨(by show (fI _ uq ((10 : Int32).toNatClampNeg)).toInt = tnR K s.heap a0 fo.toNatClampNeg x1.toNatClampNeg fsE fwE 0; rw [← m755]; exact ht0), (by show (fI _ uq ((11 : Int32).toNatClampNeg)).toInt = tnR K s.heap a0 fo.toNatClampNeg x1.toNatClampNeg fsE fwE 1; rw [← m756]; exact ht1), (by show (fI _ uq ((12 : Int32).toNatClampNeg)).toInt = tnR K s.heap a0 fo.toNatClampNeg x1.toNatClampNeg fsE fwE 2; rw [← m757]; exact ht2), (by show (fI _ uq ((13 : Int32).toNatClampNeg)).toInt = ps.toInt; rw [← m758])⟩, hTH748⟩)
      · have k714 := i_nle c713
        refine lv_aload_n hx hb dX10_asksJob_32 rfl (lv_at hl707 0 rfl) ?_
        refine x_gr C hTH705 (ci := 10) (k := 43) rfl inX10 (by decide) wF_X10_95 ga0 rg_112 rfl dX10_asksJob_33 (fun q759 eq759 gq759 => ?_)
        have uq759 : uq = q759 := (cy712_0).trans eq759.symm
        subst uq759
        refine lv_iload hx hb dX10_asksJob_36 (lv_at hl707 5 rfl) ?_
        refine lv_iconst (v := 0) hx hb dX10_asksJob_38 (by decide) ?_
        refine x_iast C hTH705 hSH705 guq rg_139 (by omega) (by show _ < ((14 : Nat) : Int); omega) (by decide) (AE_in guq (by decide)) dX10_asksJob_39 (fun H760 locsH760 hTH760 hSH760 wH760 => ?_)
        have g761 : CG (avw K H760 a0) := CG.congr (fun k hk j => av_arr hTH705 ga0 wH760 guq (by decide) (CG_ok 139 (by decide) k hk)) gy712_CG
        have f762 : FRR G H760 s.heap := (fun q t hq h1 h2 => (wH760.off (G_ne hq guq (by first | omega | (intro z; simp only [List.mem_cons, List.not_mem_nil, or_false] at z <;> omega)))).trans (fy712_fr q t hq h1 h2))
        have m763 := cy712_0.trans (Wr.neR wH760 (Or.inl (G_ne ga0 guq (by decide)))).symm
        have m764 := cy712_1.trans (Wr.neR wH760 (Or.inl (G_ne ga0 guq (by decide)))).symm
        have m765 := cy712_2.trans (Wr.neI wH760 (Or.inl (G_ne gpsq guq (by decide)))).symm
        have m766 := cy712_3.trans (Wr.neI wH760 (Or.inl (G_ne ga0 guq (by decide)))).symm
        have m767 := Wr.I wH760
        obtain ⟨x768, ex768⟩ : ∃ y : Int32, y = x711 + 1 := ⟨_, rfl⟩
        have tx768 := i_add ex768 (by omega)
        refine lv_iinc (v := x768) (lv' := [(5, .int x768), (0, .ref a0), (1, .int x1), (2, .int x708), (3, .int x709), (4, .int x710)]) hx hb dX10_asksJob_40 hl707 (k := 5) rfl (by rw [ex768]; rfl) (by decide) rfl (fun ls769 hl770 => ?_)
        refine lv_goto (tgt := 25) hx hb dX10_asksJob_43 (by decide) ?_
        have cn_x711 := i_cl (x := x711) (by omega)
        have cn_x768 := i_cl (x := x768) (by omega)
        exact ih25  ls769 H760 locsH760 (x708) (x709) (x710) (x768) (lv_sub hl770 [1, 2, 3, 4, 5, 0] rfl) hTH760 hSH760 (by have := i_rng x708; omega) (by have := i_rng x709; omega) (by have := i_rng x710; omega) (by have := i_rng x768; omega) m763 m764 m765 m766 g761 f762 (by omega) (fun j hj => if e : j = x711.toNatClampNeg then (by rw [e]; exact Wr.I wH760) else (by rw [Wr.neI wH760 (Or.inr e)]; exact hz25 j (by omega))) ht0 ht1 ht2
  refine lv_aload_n hx hb dX10_asksJob_0 rfl (lv_at hl 0 rfl) ?_
  refine lv_iload_n hx hb dX10_asksJob_1 rfl (lv_at hl 1 rfl) ?_
  refine lv_iconst (v := 0) hx hb dX10_asksJob_2 (by decide) ?_
  refine x_V (As := [.int x1, .int 0]) (rest := []) C (a_X10_toneNow_v l K G s.heap (x1) (0) (fo) (fsE) (fwE) hT ga0 (by omega) (by decide) efo hg_CG ((TXR.frr hT ga0 (FRR.tx ga0 f0_fr) hy0))) yo_X10_toneNow wM_X10_335 ⟨⟨by decide, by decide⟩, by decide, by decide⟩ (x_rv C hT (ci := 10) rfl ga0 rg_112) rfl hl.1 rfl (Nat.le_of_ble_eq_true rfl) dX10_asksJob_3 hS (AE_sub (fun _ _ => rfl) (by decide) hS.1) (fun vH771 H771 locsH771 pH771 zH771 kH771 hSH771 => ?_)
  obtain ⟨x772, hvH771, bx772, m773, hTH771⟩ := pH771
  subst hvH771
  have g774 : CG (avw K H771 a0) := CG.congr (fun k hk j => av_eff hT kH771 ga0 (by decide) (CG_eff [140, 139] (by decide) k hk)) hg_CG
  have f775 : FRR G H771 s.heap := (fun q t hq h1 h2 => (x_lt hT kH771 hq (by first | omega | (intro z; simp only [List.mem_cons, List.not_mem_nil, or_false] at z <;> omega))).trans (f0_fr q t hq h1 h2))
  have m776 := (euq).trans (fR_kept (x_lt hT kH771 ga0 (by decide))).symm
  have m777 := (epsq).trans (fR_kept (x_lt hT kH771 ga0 (by decide))).symm
  have m778 := (eps).trans (fI_kept (x_lt hT kH771 gpsq (by decide))).symm
  have m779 := (efo).trans (fI_kept (x_lt hT kH771 ga0 (by decide))).symm
  have tn780 : x772.toInt = tnR K s.heap a0 fo.toNatClampNeg x1.toNatClampNeg fsE fwE 0 := by rw [← tnR_frr hT ga0 f0_fr]; exact m773
  refine W.eq (g2 := F0 m 6 ls [.int x772]) rfl ?_
  refine lv_istore_n (lv' := [(2, .int x772), (0, .ref a0), (1, .int x1)]) hx hb dX10_asksJob_6 rfl hl (by decide) rfl (fun ls781 hl782 => ?_)
  refine lv_aload_n hx hb dX10_asksJob_7 rfl (lv_at hl782 1 rfl) ?_
  refine lv_iload_n hx hb dX10_asksJob_8 rfl (lv_at hl782 2 rfl) ?_
  refine lv_iconst (v := 1) hx hb dX10_asksJob_9 (by decide) ?_
  refine x_V (As := [.int x1, .int 1]) (rest := []) C (a_X10_toneNow_v l K G H771 (x1) (1) (fo) (fsE) (fwE) hTH771 ga0 (by omega) (by decide) m779 g774 ((TXR.frr hT ga0 (FRR.tx ga0 f775) hy0))) yo_X10_toneNow wM_X10_335 ⟨⟨by decide, by decide⟩, by decide, by decide⟩ (x_rv C hTH771 (ci := 10) rfl ga0 rg_112) rfl hl782.1 rfl (Nat.le_of_ble_eq_true rfl) dX10_asksJob_10 hSH771 (AE_sub (fun _ _ => rfl) (by decide) hSH771.1) (fun vH783 H783 locsH783 pH783 zH783 kH783 hSH783 => ?_)
  obtain ⟨x784, hvH783, bx784, m785, hTH783⟩ := pH783
  subst hvH783
  have g786 : CG (avw K H783 a0) := CG.congr (fun k hk j => av_eff hTH771 kH783 ga0 (by decide) (CG_eff [140, 139] (by decide) k hk)) g774
  have f787 : FRR G H783 s.heap := (fun q t hq h1 h2 => (x_lt hTH771 kH783 hq (by first | omega | (intro z; simp only [List.mem_cons, List.not_mem_nil, or_false] at z <;> omega))).trans (f775 q t hq h1 h2))
  have m788 := (m776).trans (fR_kept (x_lt hTH771 kH783 ga0 (by decide))).symm
  have m789 := (m777).trans (fR_kept (x_lt hTH771 kH783 ga0 (by decide))).symm
  have m790 := (m778).trans (fI_kept (x_lt hTH771 kH783 gpsq (by decide))).symm
  have m791 := (m779).trans (fI_kept (x_lt hTH771 kH783 ga0 (by decide))).symm
  have tn792 : x784.toInt = tnR K s.heap a0 fo.toNatClampNeg x1.toNatClampNeg fsE fwE 1 := by rw [← tnR_frr hT ga0 f775]; exact m785
  refine W.eq (g2 := F0 m 13 ls781 [.int x784]) rfl ?_
  refine lv_istore_n (lv' := [(3, .int x784), (2, .int x772), (0, .ref a0), (1, .int x1)]) hx hb dX10_asksJob_13 rfl hl782 (by decide) rfl (fun ls793 hl794 => ?_)
  refine lv_aload_n hx hb dX10_asksJob_14 rfl (lv_at hl794 2 rfl) ?_
  refine lv_iload_n hx hb dX10_asksJob_15 rfl (lv_at hl794 3 rfl) ?_
  refine lv_iconst (v := 2) hx hb dX10_asksJob_16 (by decide) ?_
  refine x_V (As := [.int x1, .int 2]) (rest := []) C (a_X10_toneNow_v l K G H783 (x1) (2) (fo) (fsE) (fwE) hTH783 ga0 (by omega) (by decide) m791 g786 ((TXR.frr hT ga0 (FRR.tx ga0 f787) hy0))) yo_X10_toneNow wM_X10_335 ⟨⟨by decide, by decide⟩, by decide, by decide⟩ (x_rv C hTH783 (ci := 10) rfl ga0 rg_112) rfl hl794.1 rfl (Nat.le_of_ble_eq_true rfl) dX10_asksJob_17 hSH783 (AE_sub (fun _ _ => rfl) (by decide) hSH783.1) (fun vH795 H795 locsH795 pH795 zH795 kH795 hSH795 => ?_)
  obtain ⟨x796, hvH795, bx796, m797, hTH795⟩ := pH795
  subst hvH795
  have g798 : CG (avw K H795 a0) := CG.congr (fun k hk j => av_eff hTH783 kH795 ga0 (by decide) (CG_eff [140, 139] (by decide) k hk)) g786
  have f799 : FRR G H795 s.heap := (fun q t hq h1 h2 => (x_lt hTH783 kH795 hq (by first | omega | (intro z; simp only [List.mem_cons, List.not_mem_nil, or_false] at z <;> omega))).trans (f787 q t hq h1 h2))
  have m800 := (m788).trans (fR_kept (x_lt hTH783 kH795 ga0 (by decide))).symm
  have m801 := (m789).trans (fR_kept (x_lt hTH783 kH795 ga0 (by decide))).symm
  have m802 := (m790).trans (fI_kept (x_lt hTH783 kH795 gpsq (by decide))).symm
  have m803 := (m791).trans (fI_kept (x_lt hTH783 kH795 ga0 (by decide))).symm
  have tn804 : x796.toInt = tnR K s.heap a0 fo.toNatClampNeg x1.toNatClampNeg fsE fwE 2 := by rw [← tnR_frr hT ga0 f787]; exact m797
  refine W.eq (g2 := F0 m 20 ls793 [.int x796]) rfl ?_
  refine lv_istore (lv' := [(4, .int x796), (3, .int x784), (2, .int x772), (0, .ref a0), (1, .int x1)]) hx hb dX10_asksJob_20 hl794 (by decide) rfl (fun ls805 hl806 => ?_)
  refine lv_iconst (v := 0) hx hb dX10_asksJob_22 (by decide) ?_
  refine lv_istore (lv' := [(5, .int 0), (4, .int x796), (3, .int x784), (2, .int x772), (0, .ref a0), (1, .int x1)]) hx hb dX10_asksJob_23 hl806 (by decide) rfl (fun ls807 hl808 => ?_)
  exact J25 ((14 - (0 : Int32).toInt).toNat + 1)  ls807 H795 locsH795 (x772) (x784) (x796) (0) (lv_sub hl808 [4, 5, 3, 2, 1, 0] rfl) hTH795 hSH795 (by have := i_rng x772; omega) (by have := i_rng x784; omega) (by have := i_rng x796; omega) (by decide) m800 m801 m802 m803 g798 f799 (by omega) (fun j hj => absurd hj (Nat.not_lt_zero j)) tn780 tn792 tn804

set_option maxHeartbeats 4000000 in
set_option maxRecDepth 100000 in
theorem a_X10_doesLine_v (l : Launch) (K : KE) (G : Nat → Option Nat) (H : Heap) {a0 : Nat} (x1 : Int32) (x2 : Int32) {kq : Nat} {paq : Nat} {pdq : Nat} {psq : Nat} {lbq : Nat} {gq : Nat} {slq : Nat} {wxq : Nat} {lsq : Nat} {l1q : Nat} {l2q : Nat} {l3q : Nat} (ps : Int32) (lb : Int32) (bs : Int32) (sz : Int32) (so : Int32) (l1 : Int32) (l2 : Int32) (l3 : Int32) (fo : Int32) (sl : Int32) (fsE : Nat → EF) (fwE : Nat → EF) (hT : TY K G H) (ga0 : G a0 = some 112) (hx1 : 0 ≤ x1.toInt ∧ x1.toInt ≤ 9) (hx2 : 0 ≤ x2.toInt ∧ x2.toInt ≤ 95) (gkq : G kq = some 114) (ekq : kq = fR H a0 (K.1.2 10 5)) (gpaq : G paq = some 120) (epaq : paq = fR H a0 (K.1.2 10 11)) (gpdq : G pdq = some 121) (epdq : pdq = fR H a0 (K.1.2 10 12)) (gpsq : G psq = some 119) (epsq : psq = fR H a0 (K.1.2 10 10)) (glbq : G lbq = some 122) (elbq : lbq = fR H a0 (K.1.2 10 13)) (ggq : G gq = some 118) (egq : gq = fR H a0 (K.1.2 10 9)) (gslq : G slq = some 113) (eslq : slq = fR H a0 (K.1.2 10 4)) (gwxq : G wxq = some 117) (ewxq : wxq = fR H a0 (K.1.2 10 8)) (glsq : G lsq = some 129) (elsq : lsq = fR H a0 (K.1.2 10 25)) (gl1q : G l1q = some 130) (el1q : l1q = fR H a0 (K.1.2 10 26)) (gl2q : G l2q = some 131) (el2q : l2q = fR H a0 (K.1.2 10 27)) (gl3q : G l3q = some 132) (el3q : l3q = fR H a0 (K.1.2 10 28)) (eps : ps = fI H psq (x1 : Int32).toNatClampNeg) (elb : lb = fI H lbq (x1 : Int32).toNatClampNeg) (ebs : bs = fI H a0 (K.1.2 10 1)) (esz : sz = fI H slq (x1 : Int32).toNatClampNeg) (eso : so = fI H lsq (x2 : Int32).toNatClampNeg) (el1 : l1 = fI H l1q (x2 : Int32).toNatClampNeg) (el2 : l2 = fI H l2q (x2 : Int32).toNatClampNeg) (el3 : l3 = fI H l3q (x2 : Int32).toNatClampNeg) (efo : fo = fI H a0 (K.1.2 10 2)) (esl : sl = fI H a0 (K.1.2 10 3)) (hg_CG : CG (avw K H a0)) (hp0 : 0 ≤ sl.toInt ∧ sl.toInt ≤ 9999) (hp1 : x1.toInt < bs.toInt) (hp2 : 0 ≤ l1.toInt ∧ l1.toInt ≤ 15) (hp3 : 0 ≤ l3.toInt ∧ l3.toInt ≤ 99) (hp4 : so.toInt = 4 ∨ so.toInt = 5 ∨ so.toInt = 17) (hp5 : so.toInt = 17 ∨ (1 ≤ l3.toInt ∧ l3.toInt ≤ 9)) (hp6 : so.toInt ≠ 5 ∨ (0 ≤ l2.toInt ∧ l2.toInt ≤ 15)) (hy0 : TXR K H a0 fo.toNatClampNeg 1 fsE fwE) (hy1 : ∀ j : Nat, j < 3 → 0 ≤ (fI H gq (3 * x1.toNatClampNeg + j)).toInt ∧ (fI H gq (3 * x1.toNatClampNeg + j)).toInt ≤ 999999) : MX l K yX10_doesLine cX10_doesLine 7 none 8 190 0 0 [.ref a0, .int x1, .int x2] H (AE G [114, 120, 121, 119, 122, 117, 140, 139] H.size) (fun v H1 => ∃ (t0 : Int32) (t1 : Int32), v = none ∧ t0 = fI H1 psq (x1 : Int32).toNatClampNeg ∧ t1 = fI H1 lbq (x1 : Int32).toNatClampNeg ∧ (vwR K H1 a0 x1.toNatClampNeg = liV (tlR K H a0 fo.toNatClampNeg fsE fwE) sl.toInt (wdR so.toInt) l1.toInt l2.toInt l3.toInt (vwR K H a0 x1.toNatClampNeg)) ∧ (∀ b2 : Nat, b2 ≠ x1.toNatClampNeg → EqV (vwR K H1 a0 b2) (vwR K H a0 b2)) ∧ TY K G H1) := by
  refine MX.of (by decide +kernel) (Nat.le_of_ble_eq_true rfl) ?_
  intro p e s m below meth c ls Q C hH hl hQ
  subst hH
  have C : CX p K s m _ meth c RX10 cX10_doesLine 7 none "doesLine" := C
  obtain ⟨hx, hb, hml, hown, hts, hKT, hr, hlocks, hnm⟩ := id C
  have hl : lv_has ls 7 [(0, .ref a0), (1, .int x1), (2, .int x2)] := hl
  have hS : va_S (AE G [114, 120, 121, 119, 122, 117, 140, 139] s.heap.size) s.heap s.heap [] := va_S.rf
  have n_0 : (0 : Int32).toInt = 0 := rfl
  have n_1 : (1 : Int32).toInt = 1 := rfl
  have n_2 : (2 : Int32).toInt = 2 := rfl
  have n_4 : (4 : Int32).toInt = 4 := rfl
  have n_5 : (5 : Int32).toInt = 5 := rfl
  have n_16 : (16 : Int32).toInt = 16 := rfl
  have n_17 : (17 : Int32).toInt = 17 := rfl
  have bps := ty_ai (x := ps) eps hT gpsq rg_119 (by omega)
  have blb := ty_ai (x := lb) elb hT glbq rg_122 (by omega)
  have bbs := ty_fi (x := bs) (k := 1) ebs hT ga0 rg_112 rfl
  have bsz := ty_ai (x := sz) esz hT gslq rg_113 (by omega)
  have bso := ty_ai (x := so) eso hT glsq rg_129 (by omega)
  have bl1 := ty_ai (x := l1) el1 hT gl1q rg_130 (by omega)
  have bl2 := ty_ai (x := l2) el2 hT gl2q rg_131 (by omega)
  have bl3 := ty_ai (x := l3) el3 hT gl3q rg_132 (by omega)
  have bfo := ty_fi (x := fo) (k := 2) efo hT ga0 rg_112 rfl
  have bsl := ty_fi (x := sl) (k := 3) esl hT ga0 rg_112 rfl
  have hap : ∀ x y, x < 74 → y < 74 → x ≠ y → K.1.2 10 x ≠ K.1.2 10 y := x_apart hKT hts inX10 tyX10 tyX10_ok nmX10 rfl
  have vr_0 : vwR K s.heap a0 x1.toNatClampNeg = vwR K s.heap a0 x1.toNatClampNeg := rfl
  have vo_0 : ∀ b2 : Nat, b2 ≠ x1.toNatClampNeg → EqV (vwR K s.heap a0 b2) (vwR K s.heap a0 b2) := fun _ _ => EqV.rf
  have v00 : vwR K s.heap a0 x1.toNatClampNeg 0 0 = sz.toInt := by rw [vwR_f (by decide)]; show (fI s.heap (fR s.heap a0 (K.1.2 10 4)) x1.toNatClampNeg).toInt = _; rw [← eslq, ← esz]
  have f0_tf : TXG K a0 G s.heap s.heap := TXG.rf
  have f0_s_gq : ∀ j : Nat, fI s.heap gq j = fI s.heap gq j := fun _ => rfl
  have J107 : ∀ (nf : Nat) (vb : BW) (ls1336 : Array Slot) (H1335 : Heap) (locsH1335 : List Loc) (x1338 : Int32) (x1339 : Int32) (x1340 : Int32) (x1341 : Int32), lv_has ls1336 7 [(0, .ref a0), (1, .int x1), (2, .int x2), (4, .int x1338), (5, .int x1339)] → TY K G H1335 → va_S (AE G [114, 120, 121, 119, 122, 117, 140, 139] s.heap.size) s.heap H1335 locsH1335 → (0 ≤ x1338.toInt ∧ x1338.toInt ≤ 15) → (0 ≤ x1339.toInt ∧ x1339.toInt ≤ 16) → (0 ≤ x1340.toInt ∧ x1340.toInt ≤ 200) → (x1340 = fI H1335 psq (x1 : Int32).toNatClampNeg) → (x1341 = fI H1335 lbq (x1 : Int32).toNatClampNeg) → (kq = fR H1335 a0 (K.1.2 10 5)) → (paq = fR H1335 a0 (K.1.2 10 11)) → (pdq = fR H1335 a0 (K.1.2 10 12)) → (psq = fR H1335 a0 (K.1.2 10 10)) → (lbq = fR H1335 a0 (K.1.2 10 13)) → (gq = fR H1335 a0 (K.1.2 10 9)) → (slq = fR H1335 a0 (K.1.2 10 4)) → (wxq = fR H1335 a0 (K.1.2 10 8)) → (lsq = fR H1335 a0 (K.1.2 10 25)) → (l1q = fR H1335 a0 (K.1.2 10 26)) → (l2q = fR H1335 a0 (K.1.2 10 27)) → (l3q = fR H1335 a0 (K.1.2 10 28)) → (bs = fI H1335 a0 (K.1.2 10 1)) → (sz = fI H1335 slq (x1 : Int32).toNatClampNeg) → (so = fI H1335 lsq (x2 : Int32).toNatClampNeg) → (l1 = fI H1335 l1q (x2 : Int32).toNatClampNeg) → (l2 = fI H1335 l2q (x2 : Int32).toNatClampNeg) → (l3 = fI H1335 l3q (x2 : Int32).toNatClampNeg) → (fo = fI H1335 a0 (K.1.2 10 2)) → (sl = fI H1335 a0 (K.1.2 10 3)) → (CG (avw K H1335 a0)) → (TXG K a0 G H1335 s.heap) → (∀ j : Nat, fI H1335 gq j = fI s.heap gq j) → (16 - x1339.toInt < (nf : Int)) → (vwR K H1335 a0 x1.toNatClampNeg = vb) → (∀ b2 : Nat, b2 ≠ x1.toNatClampNeg → EqV (vwR K H1335 a0 b2) (vwR K s.heap a0 b2)) → (x1338.toInt = (l1.toInt + l2.toInt) / 2) → (liV (tlR K s.heap a0 fo.toNatClampNeg fsE fwE) sl.toInt (wdR so.toInt) l1.toInt l2.toInt l3.toInt (vwR K s.heap a0 x1.toNatClampNeg) = arV (tlR K s.heap a0 fo.toNatClampNeg fsE fwE) sl.toInt l3.toInt x1338.toInt (min (l2.toInt + 1) sz.toInt - x1339.toInt).toNat x1339.toInt vb) → (so.toInt = 5) → W p l e ({ frames := 8, cells := 0, slots := 0, locals := 190 } : Room) s m (([.ref a0, .int x1, .int x2] : List Value).toArray) below meth c H1335 locsH1335 0 0 Q (F0 m 107 ls1336 []) := by
    intro nf
    induction nf with
    | zero =>
      intro vb ls1336 H1335 locsH1335 x1338 x1339 x1340 x1341 hl1337 hTH1335 hSH1335 bx1338 bx1339 bx1340 ex1340 ex1341 cy1342_0 cy1342_1 cy1342_2 cy1342_3 cy1342_4 cy1342_5 cy1342_6 cy1342_7 cy1342_8 cy1342_9 cy1342_10 cy1342_11 cy1342_12 cy1342_13 cy1342_14 cy1342_15 cy1342_16 cy1342_17 cy1342_18 cy1342_19 gy1342_CG fy1342_tf fy1342_s_gq hm107 hvb107 hvo107 hmd107 hsp107 hso107
      have rx1341 := i_rng x1341
      exfalso
      omega
    | succ nf ih107 =>
      intro vb ls1336 H1335 locsH1335 x1338 x1339 x1340 x1341 hl1337 hTH1335 hSH1335 bx1338 bx1339 bx1340 ex1340 ex1341 cy1342_0 cy1342_1 cy1342_2 cy1342_3 cy1342_4 cy1342_5 cy1342_6 cy1342_7 cy1342_8 cy1342_9 cy1342_10 cy1342_11 cy1342_12 cy1342_13 cy1342_14 cy1342_15 cy1342_16 cy1342_17 cy1342_18 cy1342_19 gy1342_CG fy1342_tf fy1342_s_gq hm107 hvb107 hvo107 hmd107 hsp107 hso107
      have rx1341 := i_rng x1341
      refine lv_iload hx hb dX10_doesLine_107 (lv_at hl1337 4 rfl) ?_
      refine lv_aload_n hx hb dX10_doesLine_109 rfl (lv_at hl1337 0 rfl) ?_
      refine x_gr C hTH1335 (ci := 10) (k := 27) rfl inX10 (by decide) wF_X10_68 ga0 rg_112 rfl dX10_doesLine_110 (fun q1343 eq1343 gq1343 => ?_)
      have uq1343 : l2q = q1343 := (cy1342_10).trans eq1343.symm
      subst uq1343
      refine lv_iload_n hx hb dX10_doesLine_113 rfl (lv_at hl1337 2 rfl) ?_
      refine x_ai C hTH1335 gl2q rg_131 ⟨by omega, by show _ < ((112 : Nat) : Int); omega⟩ dX10_doesLine_114 (fun x1344 ex1344 bx1344 => ?_)
      have ux1344 : l2 = x1344 := (cy1342_16).trans ex1344.symm
      subst ux1344
      refine lv_icmp_gt (tgt := 168) hx hb dX10_doesLine_115 (by decide) (fun c1345 => ?_) (fun c1345 => ?_)
      · have k1346 := i_lt c1345
        exact x_vret C hQ dX10_doesLine_168 hSH1335 (by decide) (by decide) (⟨x1340, x1341, rfl, ex1340, ex1341, (hvb107.trans ((arV_end (by omega)).symm.trans hsp107.symm)), hvo107, hTH1335⟩)
      · have k1346 := i_nlt c1345
        refine lv_aload_n hx hb dX10_doesLine_118 rfl (lv_at hl1337 0 rfl) ?_
        refine x_gr C hTH1335 (ci := 10) (k := 28) rfl inX10 (by decide) wF_X10_71 ga0 rg_112 rfl dX10_doesLine_119 (fun q1347 eq1347 gq1347 => ?_)
        have uq1347 : l3q = q1347 := (cy1342_11).trans eq1347.symm
        subst uq1347
        refine lv_iload_n hx hb dX10_doesLine_122 rfl (lv_at hl1337 2 rfl) ?_
        refine x_ai C hTH1335 gl3q rg_132 ⟨by omega, by show _ < ((112 : Nat) : Int); omega⟩ dX10_doesLine_123 (fun x1348 ex1348 bx1348 => ?_)
        have ux1348 : l3 = x1348 := (cy1342_17).trans ex1348.symm
        subst ux1348
        refine lv_aload_n hx hb dX10_doesLine_124 rfl (lv_at hl1337 0 rfl) ?_
        refine lv_iload hx hb dX10_doesLine_125 (lv_at hl1337 4 rfl) ?_
        refine lv_iload hx hb dX10_doesLine_127 (lv_at hl1337 3 rfl) ?_
        refine lv_isub hx hb dX10_doesLine_129 ?_
        refine lv_topi (fun x1349 ex1349 => ?_)
        have tx1349 := i_sub ex1349 (by omega)
        refine x_V (As := [.int x1349]) (rest := [.int l3]) C (a_X10_size_v l K G H1335 (x1349) hTH1335 ga0 (by omega)) yo_X10_size wM_X10_309 ⟨⟨by decide, by decide⟩, by decide, by decide⟩ (x_rv C hTH1335 (ci := 10) rfl ga0 rg_112) rfl hl1337.1 rfl (Nat.le_of_ble_eq_true rfl) dX10_doesLine_130 hSH1335 (AE_sub (fun _ _ => rfl) (by decide) hSH1335.1) (fun vH1350 H1350 locsH1350 pH1350 zH1350 kH1350 hSH1350 => ?_)
        obtain ⟨x1351, hvH1350, hrH1350, hTH1350⟩ := pH1350
        subst hvH1350
        have g1352 : CG (avw K H1350 a0) := CG.congr (fun k hk j => av_eff hTH1335 kH1350 ga0 (by decide) (CG_eff [] (by decide) k hk)) gy1342_CG
        have f1353 : TXG K a0 G H1350 s.heap := ⟨fun k h0 h1 => (fR_kept (x_lt hTH1335 kH1350 ga0 (by decide))).trans (fy1342_tf.1 k h0 h1), fun q t hq h1 => (x_lt hTH1335 kH1350 hq (by first | omega | (intro z; simp only [List.mem_cons, List.not_mem_nil, or_false] at z <;> omega))).trans (fy1342_tf.2 q t hq h1)⟩
        have f1354 : ∀ j : Nat, fI H1350 gq j = fI s.heap gq j := fun j => (fI_kept (x_lt hTH1335 kH1350 ggq (by decide))).trans (fy1342_s_gq j)
        have m1355 := (ex1340).trans (fI_kept (x_lt hTH1335 kH1350 gpsq (by decide))).symm
        have m1356 := (ex1341).trans (fI_kept (x_lt hTH1335 kH1350 glbq (by decide))).symm
        have m1357 := (cy1342_0).trans (fR_kept (x_lt hTH1335 kH1350 ga0 (by decide))).symm
        have m1358 := (cy1342_1).trans (fR_kept (x_lt hTH1335 kH1350 ga0 (by decide))).symm
        have m1359 := (cy1342_2).trans (fR_kept (x_lt hTH1335 kH1350 ga0 (by decide))).symm
        have m1360 := (cy1342_3).trans (fR_kept (x_lt hTH1335 kH1350 ga0 (by decide))).symm
        have m1361 := (cy1342_4).trans (fR_kept (x_lt hTH1335 kH1350 ga0 (by decide))).symm
        have m1362 := (cy1342_5).trans (fR_kept (x_lt hTH1335 kH1350 ga0 (by decide))).symm
        have m1363 := (cy1342_6).trans (fR_kept (x_lt hTH1335 kH1350 ga0 (by decide))).symm
        have m1364 := (cy1342_7).trans (fR_kept (x_lt hTH1335 kH1350 ga0 (by decide))).symm
        have m1365 := (cy1342_8).trans (fR_kept (x_lt hTH1335 kH1350 ga0 (by decide))).symm
        have m1366 := (cy1342_9).trans (fR_kept (x_lt hTH1335 kH1350 ga0 (by decide))).symm
        have m1367 := (cy1342_10).trans (fR_kept (x_lt hTH1335 kH1350 ga0 (by decide))).symm
        have m1368 := (cy1342_11).trans (fR_kept (x_lt hTH1335 kH1350 ga0 (by decide))).symm
        have m1369 := (cy1342_12).trans (fI_kept (x_lt hTH1335 kH1350 ga0 (by decide))).symm
        have m1370 := (cy1342_13).trans (fI_kept (x_lt hTH1335 kH1350 gslq (by decide))).symm
        have m1371 := (cy1342_14).trans (fI_kept (x_lt hTH1335 kH1350 glsq (by decide))).symm
        have m1372 := (cy1342_15).trans (fI_kept (x_lt hTH1335 kH1350 gl1q (by decide))).symm
        have m1373 := (cy1342_16).trans (fI_kept (x_lt hTH1335 kH1350 gl2q (by decide))).symm
        have m1374 := (cy1342_17).trans (fI_kept (x_lt hTH1335 kH1350 gl3q (by decide))).symm
        have m1375 := (cy1342_18).trans (fI_kept (x_lt hTH1335 kH1350 ga0 (by decide))).symm
        have m1376 := (cy1342_19).trans (fI_kept (x_lt hTH1335 kH1350 ga0 (by decide))).symm
        have vr1377 : vwR K H1350 a0 x1.toNatClampNeg = vb := (vr_frr hTH1335 ga0 (fun q t hq h1 h2 => x_lt hTH1335 kH1350 hq (by first | omega | (intro z; simp only [List.mem_cons, List.not_mem_nil, or_false] at z <;> omega)))).trans hvb107
        have vo1378 : ∀ b2 : Nat, b2 ≠ x1.toNatClampNeg → EqV (vwR K H1350 a0 b2) (vwR K s.heap a0 b2) := fun b2 hb => by rw [vr_frr hTH1335 ga0 (fun q t hq h1 h2 => x_lt hTH1335 kH1350 hq (by first | omega | (intro z; simp only [List.mem_cons, List.not_mem_nil, or_false] at z <;> omega)))]; exact hvo107 b2 hb
        refine W.eq (g2 := F0 m 133 ls1336 [.int x1351, .int l3]) rfl ?_
        refine lv_isub hx hb dX10_doesLine_133 ?_
        refine lv_topi (fun x1379 ex1379 => ?_)
        have tx1379 := i_sub ex1379 (by omega)
        refine lv_istore (lv' := [(6, .int x1379), (0, .ref a0), (1, .int x1), (2, .int x2), (4, .int x1338), (5, .int x1339)]) hx hb dX10_doesLine_134 hl1337 (by decide) rfl (fun ls1380 hl1381 => ?_)
        refine lv_iload hx hb dX10_doesLine_136 (lv_at hl1381 0 rfl) ?_
        refine lv_if_le (tgt := 162) hx hb dX10_doesLine_138 (by decide) (fun c1382 => ?_) (fun c1382 => ?_)
        · have k1383 := i_le c1382
          obtain ⟨x1384, ex1384⟩ : ∃ y : Int32, y = x1339 + 1 := ⟨_, rfl⟩
          have tx1384 := i_add ex1384 (by omega)
          refine lv_iinc (v := x1384) (lv' := [(5, .int x1384), (6, .int x1379), (0, .ref a0), (1, .int x1), (2, .int x2), (4, .int x1338)]) hx hb dX10_doesLine_162 hl1381 (k := 5) rfl (by rw [ex1384]; rfl) (by decide) rfl (fun ls1385 hl1386 => ?_)
          refine lv_goto (tgt := 107) hx hb dX10_doesLine_165 (by decide) ?_
          have cn_x1339 := i_cl (x := x1339) (by omega)
          have cn_x1384 := i_cl (x := x1384) (by omega)
          exact ih107 vb ls1385 H1350 locsH1350 (x1338) (x1384) (x1340) (x1341) (lv_sub hl1386 [2, 3, 4, 5, 0] rfl) hTH1350 hSH1350 (by have := i_rng x1338; omega) (by have := i_rng x1384; omega) (by have := i_rng x1340; omega) m1355 m1356 m1357 m1358 m1359 m1360 m1361 m1362 m1363 m1364 m1365 m1366 m1367 m1368 m1369 m1370 m1371 m1372 m1373 m1374 m1375 m1376 g1352 f1353 f1354 (by omega) vr1377 vo1378 hmd107 (hsp107.trans (arV_skip (d := x1379.toInt) (by omega) (by omega) (by omega) (fun z => by have := z.2.2.1; omega))) hso107
        · have k1383 := i_nle c1382
          refine lv_aload_n hx hb dX10_doesLine_141 rfl (lv_at hl1381 1 rfl) ?_
          refine lv_iload_n hx hb dX10_doesLine_142 rfl (lv_at hl1381 2 rfl) ?_
          refine lv_iload hx hb dX10_doesLine_143 (lv_at hl1381 5 rfl) ?_
          refine lv_iload hx hb dX10_doesLine_145 (lv_at hl1381 0 rfl) ?_
          refine x_V (As := [.int x1, .int x1339, .int x1379]) (rest := []) C (a_X10_canPass_v l K G H1350 (x1) (x1339) (x1379) (bs) (sz) (x1340) hTH1350 ga0 (by omega) gslq m1363 gkq m1357 gpsq m1360 m1369 m1370 m1355 (by omega)) yo_X10_canPass wM_X10_341 ⟨⟨by decide, by decide⟩, by decide, by decide⟩ (x_rv C hTH1350 (ci := 10) rfl ga0 rg_112) rfl hl1381.1 rfl (Nat.le_of_ble_eq_true rfl) dX10_doesLine_147 hSH1350 (AE_sub (fun _ _ => rfl) (by decide) hSH1350.1) (fun vH1387 H1387 locsH1387 pH1387 zH1387 kH1387 hSH1387 => ?_)
          obtain ⟨x1388, hvH1387, bx1388, hrH1387, m1389, hTH1387⟩ := pH1387
          subst hvH1387
          have g1390 : CG (avw K H1387 a0) := CG.congr (fun k hk j => av_eff hTH1350 kH1387 ga0 (by decide) (CG_eff [] (by decide) k hk)) g1352
          have f1391 : TXG K a0 G H1387 s.heap := ⟨fun k h0 h1 => (fR_kept (x_lt hTH1350 kH1387 ga0 (by decide))).trans (f1353.1 k h0 h1), fun q t hq h1 => (x_lt hTH1350 kH1387 hq (by first | omega | (intro z; simp only [List.mem_cons, List.not_mem_nil, or_false] at z <;> omega))).trans (f1353.2 q t hq h1)⟩
          have f1392 : ∀ j : Nat, fI H1387 gq j = fI s.heap gq j := fun j => (fI_kept (x_lt hTH1350 kH1387 ggq (by decide))).trans (f1354 j)
          have m1393 := (m1355).trans (fI_kept (x_lt hTH1350 kH1387 gpsq (by decide))).symm
          have m1394 := (m1356).trans (fI_kept (x_lt hTH1350 kH1387 glbq (by decide))).symm
          have m1395 := (m1357).trans (fR_kept (x_lt hTH1350 kH1387 ga0 (by decide))).symm
          have m1396 := (m1358).trans (fR_kept (x_lt hTH1350 kH1387 ga0 (by decide))).symm
          have m1397 := (m1359).trans (fR_kept (x_lt hTH1350 kH1387 ga0 (by decide))).symm
          have m1398 := (m1360).trans (fR_kept (x_lt hTH1350 kH1387 ga0 (by decide))).symm
          have m1399 := (m1361).trans (fR_kept (x_lt hTH1350 kH1387 ga0 (by decide))).symm
          have m1400 := (m1362).trans (fR_kept (x_lt hTH1350 kH1387 ga0 (by decide))).symm
          have m1401 := (m1363).trans (fR_kept (x_lt hTH1350 kH1387 ga0 (by decide))).symm
          have m1402 := (m1364).trans (fR_kept (x_lt hTH1350 kH1387 ga0 (by decide))).symm
          have m1403 := (m1365).trans (fR_kept (x_lt hTH1350 kH1387 ga0 (by decide))).symm
          have m1404 := (m1366).trans (fR_kept (x_lt hTH1350 kH1387 ga0 (by decide))).symm
          have m1405 := (m1367).trans (fR_kept (x_lt hTH1350 kH1387 ga0 (by decide))).symm
          have m1406 := (m1368).trans (fR_kept (x_lt hTH1350 kH1387 ga0 (by decide))).symm
          have m1407 := (m1369).trans (fI_kept (x_lt hTH1350 kH1387 ga0 (by decide))).symm
          have m1408 := (m1370).trans (fI_kept (x_lt hTH1350 kH1387 gslq (by decide))).symm
          have m1409 := (m1371).trans (fI_kept (x_lt hTH1350 kH1387 glsq (by decide))).symm
          have m1410 := (m1372).trans (fI_kept (x_lt hTH1350 kH1387 gl1q (by decide))).symm
          have m1411 := (m1373).trans (fI_kept (x_lt hTH1350 kH1387 gl2q (by decide))).symm
          have m1412 := (m1374).trans (fI_kept (x_lt hTH1350 kH1387 gl3q (by decide))).symm
          have m1413 := (m1375).trans (fI_kept (x_lt hTH1350 kH1387 ga0 (by decide))).symm
          have m1414 := (m1376).trans (fI_kept (x_lt hTH1350 kH1387 ga0 (by decide))).symm
          have cp1415 : (x1388.toInt = 1 ∧ cpV vb x1339.toInt x1379.toInt) ∨ (x1388.toInt = 0 ∧ ¬ cpV vb x1339.toInt x1379.toInt) := by rw [← vr1377]; exact m1389
          have vr1416 : vwR K H1387 a0 x1.toNatClampNeg = vb := (vr_frr hTH1350 ga0 (fun q t hq h1 h2 => x_lt hTH1350 kH1387 hq (by first | omega | (intro z; simp only [List.mem_cons, List.not_mem_nil, or_false] at z <;> omega)))).trans vr1377
          have vo1417 : ∀ b2 : Nat, b2 ≠ x1.toNatClampNeg → EqV (vwR K H1387 a0 b2) (vwR K s.heap a0 b2) := fun b2 hb => by rw [vr_frr hTH1350 ga0 (fun q t hq h1 h2 => x_lt hTH1350 kH1387 hq (by first | omega | (intro z; simp only [List.mem_cons, List.not_mem_nil, or_false] at z <;> omega)))]; exact vo1378 b2 hb
          refine W.eq (g2 := F0 m 150 ls1380 [.int x1388]) rfl ?_
          refine lv_if_eq (tgt := 162) hx hb dX10_doesLine_150 (by decide) (fun c1418 => ?_) (fun c1418 => ?_)
          · have k1419 := i_eq c1418
            obtain ⟨x1420, ex1420⟩ : ∃ y : Int32, y = x1339 + 1 := ⟨_, rfl⟩
            have tx1420 := i_add ex1420 (by omega)
            refine lv_iinc (v := x1420) (lv' := [(5, .int x1420), (6, .int x1379), (0, .ref a0), (1, .int x1), (2, .int x2), (4, .int x1338)]) hx hb dX10_doesLine_162 hl1381 (k := 5) rfl (by rw [ex1420]; rfl) (by decide) rfl (fun ls1421 hl1422 => ?_)
            refine lv_goto (tgt := 107) hx hb dX10_doesLine_165 (by decide) ?_
            have cn_x1339 := i_cl (x := x1339) (by omega)
            have cn_x1420 := i_cl (x := x1420) (by omega)
            exact ih107 vb ls1421 H1387 locsH1387 (x1338) (x1420) (x1340) (x1341) (lv_sub hl1422 [2, 3, 4, 5, 0] rfl) hTH1387 hSH1387 (by have := i_rng x1338; omega) (by have := i_rng x1420; omega) (by have := i_rng x1340; omega) m1393 m1394 m1395 m1396 m1397 m1398 m1399 m1400 m1401 m1402 m1403 m1404 m1405 m1406 m1407 m1408 m1409 m1410 m1411 m1412 m1413 m1414 g1390 f1391 f1392 (by omega) vr1416 vo1417 hmd107 (hsp107.trans (arV_skip (d := x1379.toInt) (by omega) (by omega) (by omega) (fun z => (cp1415.resolve_left (fun z => by have := z.1; omega)).2 ⟨z.1, z.2.1, z.2.2.2.2.1, z.2.2.2.2.2⟩))) hso107
          · have k1419 := i_ne c1418
            refine lv_aload_n hx hb dX10_doesLine_153 rfl (lv_at hl1381 1 rfl) ?_
            refine lv_iload_n hx hb dX10_doesLine_154 rfl (lv_at hl1381 2 rfl) ?_
            refine lv_iload hx hb dX10_doesLine_155 (lv_at hl1381 5 rfl) ?_
            refine lv_iload hx hb dX10_doesLine_157 (lv_at hl1381 0 rfl) ?_
            refine x_V (As := [.int x1, .int x1339, .int x1379]) (rest := []) C (a_X10_takesOff_v l K G H1387 (x1) (x1339) (x1379) (x1340) (x1341) (sz) (fo) (sl) (fsE) (fwE) hTH1387 ga0 (by omega) (by omega) (by omega) gkq m1395 gpaq m1396 gpdq m1397 gpsq m1398 glbq m1399 ggq m1400 gslq m1401 m1393 m1394 m1408 m1413 m1414 g1390 (by omega) (by omega) (by omega) ((TXR.frr hT ga0 f1391 hy0)) ((fun j hj => by rw [f1392 (3 * x1.toNatClampNeg + j)]; exact hy1 j hj)) (by have z := (cp1415.resolve_right (fun z => by have := z.1; omega)).2.2.2.1; rw [← vr1416, vwR_a (k := 1) (by decide)] at z; rw [m1395]; exact z)) yo_X10_takesOff wM_X10_344 ⟨⟨by decide, by decide⟩, by decide, by decide⟩ (x_rv C hTH1387 (ci := 10) rfl ga0 rg_112) rfl hl1381.1 rfl (Nat.le_of_ble_eq_true rfl) dX10_doesLine_159 hSH1387 (AE_sub (fun _ _ => rfl) (by decide) hSH1387.1) (fun vH1423 H1423 locsH1423 pH1423 zH1423 kH1423 hSH1423 => ?_)
            obtain ⟨x1424, x1425, hvH1423, ex1424, ex1425, m1426, m1427, hTH1423⟩ := pH1423
            subst hvH1423
            have g1428 : CG (avw K H1423 a0) := CG.congr (fun k hk j => av_eff hTH1387 kH1423 ga0 (by decide) (CG_eff [114, 120, 121, 119, 122, 140, 139] (by decide) k hk)) g1390
            have f1429 : TXG K a0 G H1423 s.heap := ⟨fun k h0 h1 => (fR_kept (x_lt hTH1387 kH1423 ga0 (by decide))).trans (f1391.1 k h0 h1), fun q t hq h1 => (x_lt hTH1387 kH1423 hq (by first | omega | (intro z; simp only [List.mem_cons, List.not_mem_nil, or_false] at z <;> omega))).trans (f1391.2 q t hq h1)⟩
            have f1430 : ∀ j : Nat, fI H1423 gq j = fI s.heap gq j := fun j => (fI_kept (x_lt hTH1387 kH1423 ggq (by decide))).trans (f1392 j)
            have m1431 := (m1395).trans (fR_kept (x_lt hTH1387 kH1423 ga0 (by decide))).symm
            have m1432 := (m1396).trans (fR_kept (x_lt hTH1387 kH1423 ga0 (by decide))).symm
            have m1433 := (m1397).trans (fR_kept (x_lt hTH1387 kH1423 ga0 (by decide))).symm
            have m1434 := (m1398).trans (fR_kept (x_lt hTH1387 kH1423 ga0 (by decide))).symm
            have m1435 := (m1399).trans (fR_kept (x_lt hTH1387 kH1423 ga0 (by decide))).symm
            have m1436 := (m1400).trans (fR_kept (x_lt hTH1387 kH1423 ga0 (by decide))).symm
            have m1437 := (m1401).trans (fR_kept (x_lt hTH1387 kH1423 ga0 (by decide))).symm
            have m1438 := (m1402).trans (fR_kept (x_lt hTH1387 kH1423 ga0 (by decide))).symm
            have m1439 := (m1403).trans (fR_kept (x_lt hTH1387 kH1423 ga0 (by decide))).symm
            have m1440 := (m1404).trans (fR_kept (x_lt hTH1387 kH1423 ga0 (by decide))).symm
            have m1441 := (m1405).trans (fR_kept (x_lt hTH1387 kH1423 ga0 (by decide))).symm
            have m1442 := (m1406).trans (fR_kept (x_lt hTH1387 kH1423 ga0 (by decide))).symm
            have m1443 := (m1407).trans (fI_kept (x_lt hTH1387 kH1423 ga0 (by decide))).symm
            have m1444 := (m1408).trans (fI_kept (x_lt hTH1387 kH1423 gslq (by decide))).symm
            have m1445 := (m1409).trans (fI_kept (x_lt hTH1387 kH1423 glsq (by decide))).symm
            have m1446 := (m1410).trans (fI_kept (x_lt hTH1387 kH1423 gl1q (by decide))).symm
            have m1447 := (m1411).trans (fI_kept (x_lt hTH1387 kH1423 gl2q (by decide))).symm
            have m1448 := (m1412).trans (fI_kept (x_lt hTH1387 kH1423 gl3q (by decide))).symm
            have m1449 := (m1413).trans (fI_kept (x_lt hTH1387 kH1423 ga0 (by decide))).symm
            have m1450 := (m1414).trans (fI_kept (x_lt hTH1387 kH1423 ga0 (by decide))).symm
            have bx1424 := ty_ai (x := x1424) ex1424 hTH1423 gpsq rg_119 (by omega)
            have bx1425 := ty_ai (x := x1425) ex1425 hTH1423 glbq rg_122 (by omega)
            have vr1451 : vwR K H1423 a0 x1.toNatClampNeg = (paV (tlR K s.heap a0 fo.toNatClampNeg fsE fwE) sl.toInt vb x1339.toInt x1379.toInt) := by rw [m1426, tlR_frr hT ga0 f1391, vr1416]
            have vo1452 : ∀ b2 : Nat, b2 ≠ x1.toNatClampNeg → EqV (vwR K H1423 a0 b2) (vwR K s.heap a0 b2) := fun b2 hb => (m1427 b2 hb).tr (vo1417 b2 hb)
            refine W.eq (g2 := F0 m 162 ls1380 []) rfl ?_
            obtain ⟨x1453, ex1453⟩ : ∃ y : Int32, y = x1339 + 1 := ⟨_, rfl⟩
            have tx1453 := i_add ex1453 (by omega)
            refine lv_iinc (v := x1453) (lv' := [(5, .int x1453), (6, .int x1379), (0, .ref a0), (1, .int x1), (2, .int x2), (4, .int x1338)]) hx hb dX10_doesLine_162 hl1381 (k := 5) rfl (by rw [ex1453]; rfl) (by decide) rfl (fun ls1454 hl1455 => ?_)
            refine lv_goto (tgt := 107) hx hb dX10_doesLine_165 (by decide) ?_
            have cn_x1339 := i_cl (x := x1339) (by omega)
            have cn_x1453 := i_cl (x := x1453) (by omega)
            exact ih107 (paV (tlR K s.heap a0 fo.toNatClampNeg fsE fwE) sl.toInt vb x1339.toInt x1379.toInt) ls1454 H1423 locsH1423 (x1338) (x1453) (x1424) (x1425) (lv_sub hl1455 [2, 3, 4, 5, 0] rfl) hTH1423 hSH1423 (by have := i_rng x1338; omega) (by have := i_rng x1453; omega) (by have := i_rng x1424; omega) ex1424 ex1425 m1431 m1432 m1433 m1434 m1435 m1436 m1437 m1438 m1439 m1440 m1441 m1442 m1443 m1444 m1445 m1446 m1447 m1448 m1449 m1450 g1428 f1429 f1430 (by omega) vr1451 vo1452 hmd107 (hsp107.trans (arV_go0 (by omega) (by omega) (by omega))) hso107
  refine lv_aload_n hx hb dX10_doesLine_0 rfl (lv_at hl 0 rfl) ?_
  refine x_gr C hT (ci := 10) (k := 26) rfl inX10 (by decide) wF_X10_65 ga0 rg_112 rfl dX10_doesLine_1 (fun q1456 eq1456 gq1456 => ?_)
  have uq1456 : l1q = q1456 := (el1q).trans eq1456.symm
  subst uq1456
  refine lv_iload_n hx hb dX10_doesLine_4 rfl (lv_at hl 2 rfl) ?_
  refine x_ai C hT gl1q rg_130 ⟨by omega, by show _ < ((112 : Nat) : Int); omega⟩ dX10_doesLine_5 (fun x1457 ex1457 bx1457 => ?_)
  have ux1457 : l1 = x1457 := (el1).trans ex1457.symm
  subst ux1457
  refine lv_istore_n (lv' := [(3, .int l1), (0, .ref a0), (1, .int x1), (2, .int x2)]) hx hb dX10_doesLine_6 rfl hl (by decide) rfl (fun ls1458 hl1459 => ?_)
  refine lv_aload_n hx hb dX10_doesLine_7 rfl (lv_at hl1459 1 rfl) ?_
  refine x_gr C hT (ci := 10) (k := 25) rfl inX10 (by decide) wF_X10_62 ga0 rg_112 rfl dX10_doesLine_8 (fun q1460 eq1460 gq1460 => ?_)
  have uq1460 : lsq = q1460 := (elsq).trans eq1460.symm
  subst uq1460
  refine lv_iload_n hx hb dX10_doesLine_11 rfl (lv_at hl1459 3 rfl) ?_
  refine x_ai C hT glsq rg_129 ⟨by omega, by show _ < ((112 : Nat) : Int); omega⟩ dX10_doesLine_12 (fun x1461 ex1461 bx1461 => ?_)
  have ux1461 : so = x1461 := (eso).trans ex1461.symm
  subst ux1461
  refine lv_iconst (v := 4) hx hb dX10_doesLine_13 (by decide) ?_
  refine lv_icmp_ne (tgt := 44) hx hb dX10_doesLine_14 (by decide) (fun c1462 => ?_) (fun c1462 => ?_)
  · have k1463 := i_ne c1462
    refine lv_aload_n hx hb dX10_doesLine_44 rfl (lv_at hl1459 1 rfl) ?_
    refine x_gr C hT (ci := 10) (k := 25) rfl inX10 (by decide) wF_X10_62 ga0 rg_112 rfl dX10_doesLine_45 (fun q1464 eq1464 gq1464 => ?_)
    have uq1464 : lsq = q1464 := (elsq).trans eq1464.symm
    subst uq1464
    refine lv_iload_n hx hb dX10_doesLine_48 rfl (lv_at hl1459 3 rfl) ?_
    refine x_ai C hT glsq rg_129 ⟨by omega, by show _ < ((112 : Nat) : Int); omega⟩ dX10_doesLine_49 (fun x1465 ex1465 bx1465 => ?_)
    have ux1465 : so = x1465 := (eso).trans ex1465.symm
    subst ux1465
    refine lv_bipush (v := 17) hx hb dX10_doesLine_50 (by decide) ?_
    refine lv_icmp_ne (tgt := 81) hx hb dX10_doesLine_52 (by decide) (fun c1466 => ?_) (fun c1466 => ?_)
    · have k1467 := i_ne c1466
      refine lv_aload_n hx hb dX10_doesLine_81 rfl (lv_at hl1459 1 rfl) ?_
      refine x_gr C hT (ci := 10) (k := 25) rfl inX10 (by decide) wF_X10_62 ga0 rg_112 rfl dX10_doesLine_82 (fun q1468 eq1468 gq1468 => ?_)
      have uq1468 : lsq = q1468 := (elsq).trans eq1468.symm
      subst uq1468
      refine lv_iload_n hx hb dX10_doesLine_85 rfl (lv_at hl1459 3 rfl) ?_
      refine x_ai C hT glsq rg_129 ⟨by omega, by show _ < ((112 : Nat) : Int); omega⟩ dX10_doesLine_86 (fun x1469 ex1469 bx1469 => ?_)
      have ux1469 : so = x1469 := (eso).trans ex1469.symm
      subst ux1469
      refine lv_iconst (v := 5) hx hb dX10_doesLine_87 (by decide) ?_
      refine lv_icmp_eq (tgt := 92) hx hb dX10_doesLine_88 (by decide) (fun c1470 => ?_) (fun c1470 => ?_)
      · have k1471 := i_eq c1470
        refine lv_iload_n hx hb dX10_doesLine_92 rfl (lv_at hl1459 0 rfl) ?_
        refine lv_aload_n hx hb dX10_doesLine_93 rfl (lv_at hl1459 1 rfl) ?_
        refine x_gr C hT (ci := 10) (k := 27) rfl inX10 (by decide) wF_X10_68 ga0 rg_112 rfl dX10_doesLine_94 (fun q1472 eq1472 gq1472 => ?_)
        have uq1472 : l2q = q1472 := (el2q).trans eq1472.symm
        subst uq1472
        refine lv_iload_n hx hb dX10_doesLine_97 rfl (lv_at hl1459 3 rfl) ?_
        refine x_ai C hT gl2q rg_131 ⟨by omega, by show _ < ((112 : Nat) : Int); omega⟩ dX10_doesLine_98 (fun x1473 ex1473 bx1473 => ?_)
        have ux1473 : l2 = x1473 := (el2).trans ex1473.symm
        subst ux1473
        refine lv_iadd hx hb dX10_doesLine_99 ?_
        refine lv_topi (fun x1474 ex1474 => ?_)
        have tx1474 := i_add ex1474 (by omega)
        refine lv_iconst (v := 2) hx hb dX10_doesLine_100 (by decide) ?_
        refine lv_idiv hx hb dX10_doesLine_101 (fun h => by have := i_eq h; omega) ?_
        refine lv_topi (fun x1475 ex1475 => ?_)
        refine lv_istore (lv' := [(4, .int x1475), (3, .int l1), (0, .ref a0), (1, .int x1), (2, .int x2)]) hx hb dX10_doesLine_102 hl1459 (by decide) rfl (fun ls1476 hl1477 => ?_)
        refine lv_iload_n hx hb dX10_doesLine_104 rfl (lv_at hl1477 1 rfl) ?_
        refine lv_istore (lv' := [(5, .int l1), (4, .int x1475), (3, .int l1), (0, .ref a0), (1, .int x1), (2, .int x2)]) hx hb dX10_doesLine_105 hl1477 (by decide) rfl (fun ls1478 hl1479 => ?_)
        have kd2_ : x1475.toInt = (l1.toInt + l2.toInt) / 2 := by rw [show l1.toInt + l2.toInt = x1474.toInt by omega, ex1475]; exact lg_idiv_nonneg (by omega) (by decide)
        exact J107 ((16 - l1.toInt).toNat + 1) (vwR K s.heap a0 x1.toNatClampNeg) ls1478 s.heap [] (x1475) (l1) (ps) (lb) (lv_sub hl1479 [3, 4, 5, 1, 0] rfl) hT hS (by have := i_rng x1475; omega) (by have := i_rng l1; omega) (by have := i_rng ps; omega) eps elb ekq epaq epdq epsq elbq egq eslq ewxq elsq el1q el2q el3q ebs esz eso el1 el2 el3 efo esl hg_CG f0_tf f0_s_gq (by omega) vr_0 vo_0 kd2_ (liV_a (by unfold wdR; rw [if_neg (by omega)]; omega) kd2_ (by rw [v00] <;> omega)) (by omega)
      · have k1471 := i_ne c1470
        exact x_vret C hQ dX10_doesLine_91 hS (by decide) (by decide) (⟨ps, lb, rfl, eps, elb, (by exfalso; omega), vo_0, hT⟩)
    · have k1467 := i_eq c1466
      refine lv_aload_n hx hb dX10_doesLine_55 rfl (lv_at hl1459 1 rfl) ?_
      refine lv_iload_n hx hb dX10_doesLine_56 rfl (lv_at hl1459 2 rfl) ?_
      refine lv_iload_n hx hb dX10_doesLine_57 rfl (lv_at hl1459 0 rfl) ?_
      refine x_V (As := [.int x1, .int l1]) (rest := []) C (a_X10_isSlice_v l K G s.heap (x1) (l1) (bs) (sz) hT ga0 (by omega) gslq eslq ebs esz (by omega)) yo_X10_isSlice wM_X10_181 ⟨⟨by decide, by decide⟩, by decide, by decide⟩ (x_rv C hT (ci := 10) rfl ga0 rg_112) rfl hl1459.1 rfl (Nat.le_of_ble_eq_true rfl) dX10_doesLine_58 hS (AE_sub (fun _ _ => rfl) (by decide) hS.1) (fun vH1480 H1480 locsH1480 pH1480 zH1480 kH1480 hSH1480 => ?_)
      obtain ⟨x1481, hvH1480, bx1481, hrH1480, hTH1480⟩ := pH1480
      subst hvH1480
      have g1482 : CG (avw K H1480 a0) := CG.congr (fun k hk j => av_eff hT kH1480 ga0 (by decide) (CG_eff [] (by decide) k hk)) hg_CG
      have f1483 : TXG K a0 G H1480 s.heap := ⟨fun k h0 h1 => (fR_kept (x_lt hT kH1480 ga0 (by decide))).trans (f0_tf.1 k h0 h1), fun q t hq h1 => (x_lt hT kH1480 hq (by first | omega | (intro z; simp only [List.mem_cons, List.not_mem_nil, or_false] at z <;> omega))).trans (f0_tf.2 q t hq h1)⟩
      have f1484 : ∀ j : Nat, fI H1480 gq j = fI s.heap gq j := fun j => (fI_kept (x_lt hT kH1480 ggq (by decide))).trans (f0_s_gq j)
      have m1485 := (ekq).trans (fR_kept (x_lt hT kH1480 ga0 (by decide))).symm
      have m1486 := (epaq).trans (fR_kept (x_lt hT kH1480 ga0 (by decide))).symm
      have m1487 := (epdq).trans (fR_kept (x_lt hT kH1480 ga0 (by decide))).symm
      have m1488 := (epsq).trans (fR_kept (x_lt hT kH1480 ga0 (by decide))).symm
      have m1489 := (elbq).trans (fR_kept (x_lt hT kH1480 ga0 (by decide))).symm
      have m1490 := (egq).trans (fR_kept (x_lt hT kH1480 ga0 (by decide))).symm
      have m1491 := (eslq).trans (fR_kept (x_lt hT kH1480 ga0 (by decide))).symm
      have m1492 := (ewxq).trans (fR_kept (x_lt hT kH1480 ga0 (by decide))).symm
      have m1493 := (elsq).trans (fR_kept (x_lt hT kH1480 ga0 (by decide))).symm
      have m1494 := (el1q).trans (fR_kept (x_lt hT kH1480 ga0 (by decide))).symm
      have m1495 := (el2q).trans (fR_kept (x_lt hT kH1480 ga0 (by decide))).symm
      have m1496 := (el3q).trans (fR_kept (x_lt hT kH1480 ga0 (by decide))).symm
      have m1497 := (eps).trans (fI_kept (x_lt hT kH1480 gpsq (by decide))).symm
      have m1498 := (elb).trans (fI_kept (x_lt hT kH1480 glbq (by decide))).symm
      have m1499 := (ebs).trans (fI_kept (x_lt hT kH1480 ga0 (by decide))).symm
      have m1500 := (esz).trans (fI_kept (x_lt hT kH1480 gslq (by decide))).symm
      have m1501 := (eso).trans (fI_kept (x_lt hT kH1480 glsq (by decide))).symm
      have m1502 := (el1).trans (fI_kept (x_lt hT kH1480 gl1q (by decide))).symm
      have m1503 := (el2).trans (fI_kept (x_lt hT kH1480 gl2q (by decide))).symm
      have m1504 := (el3).trans (fI_kept (x_lt hT kH1480 gl3q (by decide))).symm
      have m1505 := (efo).trans (fI_kept (x_lt hT kH1480 ga0 (by decide))).symm
      have m1506 := (esl).trans (fI_kept (x_lt hT kH1480 ga0 (by decide))).symm
      have vr1507 : vwR K H1480 a0 x1.toNatClampNeg = (vwR K s.heap a0 x1.toNatClampNeg) := (vr_frr hT ga0 (fun q t hq h1 h2 => x_lt hT kH1480 hq (by first | omega | (intro z; simp only [List.mem_cons, List.not_mem_nil, or_false] at z <;> omega)))).trans vr_0
      have vo1508 : ∀ b2 : Nat, b2 ≠ x1.toNatClampNeg → EqV (vwR K H1480 a0 b2) (vwR K s.heap a0 b2) := fun b2 hb => by rw [vr_frr hT ga0 (fun q t hq h1 h2 => x_lt hT kH1480 hq (by first | omega | (intro z; simp only [List.mem_cons, List.not_mem_nil, or_false] at z <;> omega)))]; exact vo_0 b2 hb
      refine W.eq (g2 := F0 m 61 ls1458 [.int x1481]) rfl ?_
      refine lv_if_eq (tgt := 81) hx hb dX10_doesLine_61 (by decide) (fun c1509 => ?_) (fun c1509 => ?_)
      · have k1510 := i_eq c1509
        refine lv_aload_n hx hb dX10_doesLine_81 rfl (lv_at hl1459 1 rfl) ?_
        refine x_gr C hTH1480 (ci := 10) (k := 25) rfl inX10 (by decide) wF_X10_62 ga0 rg_112 rfl dX10_doesLine_82 (fun q1511 eq1511 gq1511 => ?_)
        have uq1511 : lsq = q1511 := (m1493).trans eq1511.symm
        subst uq1511
        refine lv_iload_n hx hb dX10_doesLine_85 rfl (lv_at hl1459 3 rfl) ?_
        refine x_ai C hTH1480 glsq rg_129 ⟨by omega, by show _ < ((112 : Nat) : Int); omega⟩ dX10_doesLine_86 (fun x1512 ex1512 bx1512 => ?_)
        have ux1512 : so = x1512 := (m1501).trans ex1512.symm
        subst ux1512
        refine lv_iconst (v := 5) hx hb dX10_doesLine_87 (by decide) ?_
        refine lv_icmp_eq (tgt := 92) hx hb dX10_doesLine_88 (by decide) (fun c1513 => ?_) (fun c1513 => ?_)
        · have k1514 := i_eq c1513
          exfalso
          omega
        · have k1514 := i_ne c1513
          exact x_vret C hQ dX10_doesLine_91 hSH1480 (by decide) (by decide) (⟨ps, lb, rfl, m1497, m1498, (vr1507.trans (liV_w0 (by unfold wdR; rw [if_pos (by omega)]) (by rw [v00]; omega)).symm), vo1508, hTH1480⟩)
      · have k1510 := i_ne c1509
        refine lv_aload_n hx hb dX10_doesLine_64 rfl (lv_at hl1459 1 rfl) ?_
        refine x_gr C hTH1480 (ci := 10) (k := 8) rfl inX10 (by decide) wF_X10_26 ga0 rg_112 rfl dX10_doesLine_65 (fun q1515 eq1515 gq1515 => ?_)
        have uq1515 : wxq = q1515 := (m1492).trans eq1515.symm
        subst uq1515
        refine lv_bipush (v := 16) hx hb dX10_doesLine_68 (by decide) ?_
        refine lv_iload_n hx hb dX10_doesLine_70 rfl (lv_at hl1459 2 rfl) ?_
        refine lv_imul hx hb dX10_doesLine_71 ?_
        refine lv_topi (fun x1516 ex1516 => ?_)
        have tx1516 := i_mul ex1516 (by rw [n_16]; omega)
        rw [n_16] at tx1516
        refine lv_iload_n hx hb dX10_doesLine_72 rfl (lv_at hl1459 0 rfl) ?_
        refine lv_iadd hx hb dX10_doesLine_73 ?_
        refine lv_topi (fun x1517 ex1517 => ?_)
        have tx1517 := i_add ex1517 (by omega)
        refine lv_aload_n hx hb dX10_doesLine_74 rfl (lv_at hl1459 1 rfl) ?_
        refine x_gr C hTH1480 (ci := 10) (k := 28) rfl inX10 (by decide) wF_X10_71 ga0 rg_112 rfl dX10_doesLine_75 (fun q1518 eq1518 gq1518 => ?_)
        have uq1518 : l3q = q1518 := (m1496).trans eq1518.symm
        subst uq1518
        refine lv_iload_n hx hb dX10_doesLine_78 rfl (lv_at hl1459 3 rfl) ?_
        refine x_ai C hTH1480 gl3q rg_132 ⟨by omega, by show _ < ((112 : Nat) : Int); omega⟩ dX10_doesLine_79 (fun x1519 ex1519 bx1519 => ?_)
        have ux1519 : l3 = x1519 := (m1504).trans ex1519.symm
        subst ux1519
        refine x_iast C hTH1480 hSH1480 gwxq rg_117 (by omega) (by show _ < ((160 : Nat) : Int); omega) ⟨by have := i_rng l3; omega, by have := i_rng l3; omega⟩ (AE_in gwxq (by decide)) dX10_doesLine_80 (fun H1520 locsH1520 hTH1520 hSH1520 wH1520 => ?_)
        have g1521 : CG (avw K H1520 a0) := CG.congr (fun k hk j => av_arr hTH1480 ga0 wH1520 gwxq (by decide) (CG_ok 117 (by decide) k hk)) g1482
        have f1522 : TXG K a0 G H1520 s.heap := ⟨fun k h0 h1 => (fR_kept (wH1520.off (G_ne ga0 gwxq (by decide)))).trans (f1483.1 k h0 h1), fun q t hq h1 => (wH1520.off (G_ne hq gwxq (by first | omega | (intro z; simp only [List.mem_cons, List.not_mem_nil, or_false] at z <;> omega)))).trans (f1483.2 q t hq h1)⟩
        have f1523 : ∀ j : Nat, fI H1520 gq j = fI s.heap gq j := fun j => (Wr.neI wH1520 (Or.inl (G_ne ggq gwxq (by decide)))).trans (f1484 j)
        have m1524 := m1485.trans (Wr.neR wH1520 (Or.inl (G_ne ga0 gwxq (by decide)))).symm
        have m1525 := m1486.trans (Wr.neR wH1520 (Or.inl (G_ne ga0 gwxq (by decide)))).symm
        have m1526 := m1487.trans (Wr.neR wH1520 (Or.inl (G_ne ga0 gwxq (by decide)))).symm
        have m1527 := m1488.trans (Wr.neR wH1520 (Or.inl (G_ne ga0 gwxq (by decide)))).symm
        have m1528 := m1489.trans (Wr.neR wH1520 (Or.inl (G_ne ga0 gwxq (by decide)))).symm
        have m1529 := m1490.trans (Wr.neR wH1520 (Or.inl (G_ne ga0 gwxq (by decide)))).symm
        have m1530 := m1491.trans (Wr.neR wH1520 (Or.inl (G_ne ga0 gwxq (by decide)))).symm
        have m1531 := m1492.trans (Wr.neR wH1520 (Or.inl (G_ne ga0 gwxq (by decide)))).symm
        have m1532 := m1493.trans (Wr.neR wH1520 (Or.inl (G_ne ga0 gwxq (by decide)))).symm
        have m1533 := m1494.trans (Wr.neR wH1520 (Or.inl (G_ne ga0 gwxq (by decide)))).symm
        have m1534 := m1495.trans (Wr.neR wH1520 (Or.inl (G_ne ga0 gwxq (by decide)))).symm
        have m1535 := m1496.trans (Wr.neR wH1520 (Or.inl (G_ne ga0 gwxq (by decide)))).symm
        have m1536 := m1497.trans (Wr.neI wH1520 (Or.inl (G_ne gpsq gwxq (by decide)))).symm
        have m1537 := m1498.trans (Wr.neI wH1520 (Or.inl (G_ne glbq gwxq (by decide)))).symm
        have m1538 := m1499.trans (Wr.neI wH1520 (Or.inl (G_ne ga0 gwxq (by decide)))).symm
        have m1539 := m1500.trans (Wr.neI wH1520 (Or.inl (G_ne gslq gwxq (by decide)))).symm
        have m1540 := m1501.trans (Wr.neI wH1520 (Or.inl (G_ne glsq gwxq (by decide)))).symm
        have m1541 := m1502.trans (Wr.neI wH1520 (Or.inl (G_ne gl1q gwxq (by decide)))).symm
        have m1542 := m1503.trans (Wr.neI wH1520 (Or.inl (G_ne gl2q gwxq (by decide)))).symm
        have m1543 := m1504.trans (Wr.neI wH1520 (Or.inl (G_ne gl3q gwxq (by decide)))).symm
        have m1544 := m1505.trans (Wr.neI wH1520 (Or.inl (G_ne ga0 gwxq (by decide)))).symm
        have m1545 := m1506.trans (Wr.neI wH1520 (Or.inl (G_ne ga0 gwxq (by decide)))).symm
        have m1546 := Wr.I wH1520
        have m1546 := m1546.symm
        have cn_x1 := i_cl (x := x1) (by omega)
        have cn_l1 := i_cl (x := l1) (by omega)
        have cn_x1517 := i_cl (x := x1517) (by omega)
        have vr1547 : vwR K H1520 a0 x1.toNatClampNeg = (upV (vwR K s.heap a0 x1.toNatClampNeg) 4 l1.toNatClampNeg l3.toInt) := by rw [vr_arr (k := 4) (i := l1.toNatClampNeg) hTH1480 ga0 wH1520 m1492 (by decide) (show x1517.toNatClampNeg = 16 * x1.toNatClampNeg + l1.toNatClampNeg by omega) (fun z => absurd z (by decide)) rfl, vr1507]
        have vo1548 : ∀ b2 : Nat, b2 ≠ x1.toNatClampNeg → EqV (vwR K H1520 a0 b2) (vwR K s.heap a0 b2) := fun b2 hb => (vr_oth (k := 4) (i := l1.toNatClampNeg) hTH1480 ga0 wH1520 m1492 (by decide) (show x1517.toNatClampNeg = 16 * x1.toNatClampNeg + l1.toNatClampNeg by omega) (show l1.toNatClampNeg < 16 by omega) hb).tr (vo1508 b2 hb)
        refine lv_aload_n hx hb dX10_doesLine_81 rfl (lv_at hl1459 1 rfl) ?_
        refine x_gr C hTH1520 (ci := 10) (k := 25) rfl inX10 (by decide) wF_X10_62 ga0 rg_112 rfl dX10_doesLine_82 (fun q1549 eq1549 gq1549 => ?_)
        have uq1549 : lsq = q1549 := (m1532).trans eq1549.symm
        subst uq1549
        refine lv_iload_n hx hb dX10_doesLine_85 rfl (lv_at hl1459 3 rfl) ?_
        refine x_ai C hTH1520 glsq rg_129 ⟨by omega, by show _ < ((112 : Nat) : Int); omega⟩ dX10_doesLine_86 (fun x1550 ex1550 bx1550 => ?_)
        have ux1550 : so = x1550 := (m1540).trans ex1550.symm
        subst ux1550
        refine lv_iconst (v := 5) hx hb dX10_doesLine_87 (by decide) ?_
        refine lv_icmp_eq (tgt := 92) hx hb dX10_doesLine_88 (by decide) (fun c1551 => ?_) (fun c1551 => ?_)
        · have k1552 := i_eq c1551
          exfalso
          omega
        · have k1552 := i_ne c1551
          exact x_vret C hQ dX10_doesLine_91 hSH1520 (by decide) (by decide) (⟨ps, lb, rfl, m1536, m1537, (vr1547.trans (liV_w (by unfold wdR; rw [if_pos (by omega)]) (by rw [v00]; omega) rfl).symm), vo1548, hTH1520⟩)
  · have k1463 := i_eq c1462
    refine lv_aload_n hx hb dX10_doesLine_17 rfl (lv_at hl1459 1 rfl) ?_
    refine lv_iload_n hx hb dX10_doesLine_18 rfl (lv_at hl1459 2 rfl) ?_
    refine lv_iload_n hx hb dX10_doesLine_19 rfl (lv_at hl1459 0 rfl) ?_
    refine lv_aload_n hx hb dX10_doesLine_20 rfl (lv_at hl1459 1 rfl) ?_
    refine x_gr C hT (ci := 10) (k := 28) rfl inX10 (by decide) wF_X10_71 ga0 rg_112 rfl dX10_doesLine_21 (fun q1553 eq1553 gq1553 => ?_)
    have uq1553 : l3q = q1553 := (el3q).trans eq1553.symm
    subst uq1553
    refine lv_iload_n hx hb dX10_doesLine_24 rfl (lv_at hl1459 3 rfl) ?_
    refine x_ai C hT gl3q rg_132 ⟨by omega, by show _ < ((112 : Nat) : Int); omega⟩ dX10_doesLine_25 (fun x1554 ex1554 bx1554 => ?_)
    have ux1554 : l3 = x1554 := (el3).trans ex1554.symm
    subst ux1554
    refine x_V (As := [.int x1, .int l1, .int l3]) (rest := []) C (a_X10_canPass_v l K G s.heap (x1) (l1) (l3) (bs) (sz) (ps) hT ga0 (by omega) gslq eslq gkq ekq gpsq epsq ebs esz eps (by omega)) yo_X10_canPass wM_X10_341 ⟨⟨by decide, by decide⟩, by decide, by decide⟩ (x_rv C hT (ci := 10) rfl ga0 rg_112) rfl hl1459.1 rfl (Nat.le_of_ble_eq_true rfl) dX10_doesLine_26 hS (AE_sub (fun _ _ => rfl) (by decide) hS.1) (fun vH1555 H1555 locsH1555 pH1555 zH1555 kH1555 hSH1555 => ?_)
    obtain ⟨x1556, hvH1555, bx1556, hrH1555, m1557, hTH1555⟩ := pH1555
    subst hvH1555
    have g1558 : CG (avw K H1555 a0) := CG.congr (fun k hk j => av_eff hT kH1555 ga0 (by decide) (CG_eff [] (by decide) k hk)) hg_CG
    have f1559 : TXG K a0 G H1555 s.heap := ⟨fun k h0 h1 => (fR_kept (x_lt hT kH1555 ga0 (by decide))).trans (f0_tf.1 k h0 h1), fun q t hq h1 => (x_lt hT kH1555 hq (by first | omega | (intro z; simp only [List.mem_cons, List.not_mem_nil, or_false] at z <;> omega))).trans (f0_tf.2 q t hq h1)⟩
    have f1560 : ∀ j : Nat, fI H1555 gq j = fI s.heap gq j := fun j => (fI_kept (x_lt hT kH1555 ggq (by decide))).trans (f0_s_gq j)
    have m1561 := (ekq).trans (fR_kept (x_lt hT kH1555 ga0 (by decide))).symm
    have m1562 := (epaq).trans (fR_kept (x_lt hT kH1555 ga0 (by decide))).symm
    have m1563 := (epdq).trans (fR_kept (x_lt hT kH1555 ga0 (by decide))).symm
    have m1564 := (epsq).trans (fR_kept (x_lt hT kH1555 ga0 (by decide))).symm
    have m1565 := (elbq).trans (fR_kept (x_lt hT kH1555 ga0 (by decide))).symm
    have m1566 := (egq).trans (fR_kept (x_lt hT kH1555 ga0 (by decide))).symm
    have m1567 := (eslq).trans (fR_kept (x_lt hT kH1555 ga0 (by decide))).symm
    have m1568 := (ewxq).trans (fR_kept (x_lt hT kH1555 ga0 (by decide))).symm
    have m1569 := (elsq).trans (fR_kept (x_lt hT kH1555 ga0 (by decide))).symm
    have m1570 := (el1q).trans (fR_kept (x_lt hT kH1555 ga0 (by decide))).symm
    have m1571 := (el2q).trans (fR_kept (x_lt hT kH1555 ga0 (by decide))).symm
    have m1572 := (el3q).trans (fR_kept (x_lt hT kH1555 ga0 (by decide))).symm
    have m1573 := (eps).trans (fI_kept (x_lt hT kH1555 gpsq (by decide))).symm
    have m1574 := (elb).trans (fI_kept (x_lt hT kH1555 glbq (by decide))).symm
    have m1575 := (ebs).trans (fI_kept (x_lt hT kH1555 ga0 (by decide))).symm
    have m1576 := (esz).trans (fI_kept (x_lt hT kH1555 gslq (by decide))).symm
    have m1577 := (eso).trans (fI_kept (x_lt hT kH1555 glsq (by decide))).symm
    have m1578 := (el1).trans (fI_kept (x_lt hT kH1555 gl1q (by decide))).symm
    have m1579 := (el2).trans (fI_kept (x_lt hT kH1555 gl2q (by decide))).symm
    have m1580 := (el3).trans (fI_kept (x_lt hT kH1555 gl3q (by decide))).symm
    have m1581 := (efo).trans (fI_kept (x_lt hT kH1555 ga0 (by decide))).symm
    have m1582 := (esl).trans (fI_kept (x_lt hT kH1555 ga0 (by decide))).symm
    have cp1583 : (x1556.toInt = 1 ∧ cpV (vwR K s.heap a0 x1.toNatClampNeg) l1.toInt l3.toInt) ∨ (x1556.toInt = 0 ∧ ¬ cpV (vwR K s.heap a0 x1.toNatClampNeg) l1.toInt l3.toInt) := by rw [← vr_0]; exact m1557
    have vr1584 : vwR K H1555 a0 x1.toNatClampNeg = (vwR K s.heap a0 x1.toNatClampNeg) := (vr_frr hT ga0 (fun q t hq h1 h2 => x_lt hT kH1555 hq (by first | omega | (intro z; simp only [List.mem_cons, List.not_mem_nil, or_false] at z <;> omega)))).trans vr_0
    have vo1585 : ∀ b2 : Nat, b2 ≠ x1.toNatClampNeg → EqV (vwR K H1555 a0 b2) (vwR K s.heap a0 b2) := fun b2 hb => by rw [vr_frr hT ga0 (fun q t hq h1 h2 => x_lt hT kH1555 hq (by first | omega | (intro z; simp only [List.mem_cons, List.not_mem_nil, or_false] at z <;> omega)))]; exact vo_0 b2 hb
    refine W.eq (g2 := F0 m 29 ls1458 [.int x1556]) rfl ?_
    refine lv_if_eq (tgt := 44) hx hb dX10_doesLine_29 (by decide) (fun c1586 => ?_) (fun c1586 => ?_)
    · have k1587 := i_eq c1586
      refine lv_aload_n hx hb dX10_doesLine_44 rfl (lv_at hl1459 1 rfl) ?_
      refine x_gr C hTH1555 (ci := 10) (k := 25) rfl inX10 (by decide) wF_X10_62 ga0 rg_112 rfl dX10_doesLine_45 (fun q1588 eq1588 gq1588 => ?_)
      have uq1588 : lsq = q1588 := (m1569).trans eq1588.symm
      subst uq1588
      refine lv_iload_n hx hb dX10_doesLine_48 rfl (lv_at hl1459 3 rfl) ?_
      refine x_ai C hTH1555 glsq rg_129 ⟨by omega, by show _ < ((112 : Nat) : Int); omega⟩ dX10_doesLine_49 (fun x1589 ex1589 bx1589 => ?_)
      have ux1589 : so = x1589 := (m1577).trans ex1589.symm
      subst ux1589
      refine lv_bipush (v := 17) hx hb dX10_doesLine_50 (by decide) ?_
      refine lv_icmp_ne (tgt := 81) hx hb dX10_doesLine_52 (by decide) (fun c1590 => ?_) (fun c1590 => ?_)
      · have k1591 := i_ne c1590
        refine lv_aload_n hx hb dX10_doesLine_81 rfl (lv_at hl1459 1 rfl) ?_
        refine x_gr C hTH1555 (ci := 10) (k := 25) rfl inX10 (by decide) wF_X10_62 ga0 rg_112 rfl dX10_doesLine_82 (fun q1592 eq1592 gq1592 => ?_)
        have uq1592 : lsq = q1592 := (m1569).trans eq1592.symm
        subst uq1592
        refine lv_iload_n hx hb dX10_doesLine_85 rfl (lv_at hl1459 3 rfl) ?_
        refine x_ai C hTH1555 glsq rg_129 ⟨by omega, by show _ < ((112 : Nat) : Int); omega⟩ dX10_doesLine_86 (fun x1593 ex1593 bx1593 => ?_)
        have ux1593 : so = x1593 := (m1577).trans ex1593.symm
        subst ux1593
        refine lv_iconst (v := 5) hx hb dX10_doesLine_87 (by decide) ?_
        refine lv_icmp_eq (tgt := 92) hx hb dX10_doesLine_88 (by decide) (fun c1594 => ?_) (fun c1594 => ?_)
        · have k1595 := i_eq c1594
          exfalso
          omega
        · have k1595 := i_ne c1594
          exact x_vret C hQ dX10_doesLine_91 hSH1555 (by decide) (by decide) (⟨ps, lb, rfl, m1573, m1574, (vr1584.trans ((cpV_no (cp1583.resolve_left (fun z => by have := z.1; omega)).2).symm.trans (liV_s (by unfold wdR; rw [if_neg (by omega)]; omega)).symm)), vo1585, hTH1555⟩)
      · have k1591 := i_eq c1590
        exfalso
        omega
    · have k1587 := i_ne c1586
      refine lv_aload_n hx hb dX10_doesLine_32 rfl (lv_at hl1459 1 rfl) ?_
      refine lv_iload_n hx hb dX10_doesLine_33 rfl (lv_at hl1459 2 rfl) ?_
      refine lv_iload_n hx hb dX10_doesLine_34 rfl (lv_at hl1459 0 rfl) ?_
      refine lv_aload_n hx hb dX10_doesLine_35 rfl (lv_at hl1459 1 rfl) ?_
      refine x_gr C hTH1555 (ci := 10) (k := 28) rfl inX10 (by decide) wF_X10_71 ga0 rg_112 rfl dX10_doesLine_36 (fun q1596 eq1596 gq1596 => ?_)
      have uq1596 : l3q = q1596 := (m1572).trans eq1596.symm
      subst uq1596
      refine lv_iload_n hx hb dX10_doesLine_39 rfl (lv_at hl1459 3 rfl) ?_
      refine x_ai C hTH1555 gl3q rg_132 ⟨by omega, by show _ < ((112 : Nat) : Int); omega⟩ dX10_doesLine_40 (fun x1597 ex1597 bx1597 => ?_)
      have ux1597 : l3 = x1597 := (m1580).trans ex1597.symm
      subst ux1597
      refine x_V (As := [.int x1, .int l1, .int l3]) (rest := []) C (a_X10_takesOff_v l K G H1555 (x1) (l1) (l3) (ps) (lb) (sz) (fo) (sl) (fsE) (fwE) hTH1555 ga0 (by omega) (by omega) (by omega) gkq m1561 gpaq m1562 gpdq m1563 gpsq m1564 glbq m1565 ggq m1566 gslq m1567 m1573 m1574 m1576 m1581 m1582 g1558 (by omega) (by omega) (by omega) ((TXR.frr hT ga0 f1559 hy0)) ((fun j hj => by rw [f1560 (3 * x1.toNatClampNeg + j)]; exact hy1 j hj)) (by have z := (cp1583.resolve_right (fun z => by have := z.1; omega)).2.2.2.1; rw [← vr1584, vwR_a (k := 1) (by decide)] at z; rw [m1561]; exact z)) yo_X10_takesOff wM_X10_344 ⟨⟨by decide, by decide⟩, by decide, by decide⟩ (x_rv C hTH1555 (ci := 10) rfl ga0 rg_112) rfl hl1459.1 rfl (Nat.le_of_ble_eq_true rfl) dX10_doesLine_41 hSH1555 (AE_sub (fun _ _ => rfl) (by decide) hSH1555.1) (fun vH1598 H1598 locsH1598 pH1598 zH1598 kH1598 hSH1598 => ?_)
      obtain ⟨x1599, x1600, hvH1598, ex1599, ex1600, m1601, m1602, hTH1598⟩ := pH1598
      subst hvH1598
      have g1603 : CG (avw K H1598 a0) := CG.congr (fun k hk j => av_eff hTH1555 kH1598 ga0 (by decide) (CG_eff [114, 120, 121, 119, 122, 140, 139] (by decide) k hk)) g1558
      have f1604 : TXG K a0 G H1598 s.heap := ⟨fun k h0 h1 => (fR_kept (x_lt hTH1555 kH1598 ga0 (by decide))).trans (f1559.1 k h0 h1), fun q t hq h1 => (x_lt hTH1555 kH1598 hq (by first | omega | (intro z; simp only [List.mem_cons, List.not_mem_nil, or_false] at z <;> omega))).trans (f1559.2 q t hq h1)⟩
      have f1605 : ∀ j : Nat, fI H1598 gq j = fI s.heap gq j := fun j => (fI_kept (x_lt hTH1555 kH1598 ggq (by decide))).trans (f1560 j)
      have m1606 := (m1561).trans (fR_kept (x_lt hTH1555 kH1598 ga0 (by decide))).symm
      have m1607 := (m1562).trans (fR_kept (x_lt hTH1555 kH1598 ga0 (by decide))).symm
      have m1608 := (m1563).trans (fR_kept (x_lt hTH1555 kH1598 ga0 (by decide))).symm
      have m1609 := (m1564).trans (fR_kept (x_lt hTH1555 kH1598 ga0 (by decide))).symm
      have m1610 := (m1565).trans (fR_kept (x_lt hTH1555 kH1598 ga0 (by decide))).symm
      have m1611 := (m1566).trans (fR_kept (x_lt hTH1555 kH1598 ga0 (by decide))).symm
      have m1612 := (m1567).trans (fR_kept (x_lt hTH1555 kH1598 ga0 (by decide))).symm
      have m1613 := (m1568).trans (fR_kept (x_lt hTH1555 kH1598 ga0 (by decide))).symm
      have m1614 := (m1569).trans (fR_kept (x_lt hTH1555 kH1598 ga0 (by decide))).symm
      have m1615 := (m1570).trans (fR_kept (x_lt hTH1555 kH1598 ga0 (by decide))).symm
      have m1616 := (m1571).trans (fR_kept (x_lt hTH1555 kH1598 ga0 (by decide))).symm
      have m1617 := (m1572).trans (fR_kept (x_lt hTH1555 kH1598 ga0 (by decide))).symm
      have m1618 := (m1575).trans (fI_kept (x_lt hTH1555 kH1598 ga0 (by decide))).symm
      have m1619 := (m1576).trans (fI_kept (x_lt hTH1555 kH1598 gslq (by decide))).symm
      have m1620 := (m1577).trans (fI_kept (x_lt hTH1555 kH1598 glsq (by decide))).symm
      have m1621 := (m1578).trans (fI_kept (x_lt hTH1555 kH1598 gl1q (by decide))).symm
      have m1622 := (m1579).trans (fI_kept (x_lt hTH1555 kH1598 gl2q (by decide))).symm
      have m1623 := (m1580).trans (fI_kept (x_lt hTH1555 kH1598 gl3q (by decide))).symm
      have m1624 := (m1581).trans (fI_kept (x_lt hTH1555 kH1598 ga0 (by decide))).symm
      have m1625 := (m1582).trans (fI_kept (x_lt hTH1555 kH1598 ga0 (by decide))).symm
      have bx1599 := ty_ai (x := x1599) ex1599 hTH1598 gpsq rg_119 (by omega)
      have bx1600 := ty_ai (x := x1600) ex1600 hTH1598 glbq rg_122 (by omega)
      have vr1626 : vwR K H1598 a0 x1.toNatClampNeg = (paV (tlR K s.heap a0 fo.toNatClampNeg fsE fwE) sl.toInt (vwR K s.heap a0 x1.toNatClampNeg) l1.toInt l3.toInt) := by rw [m1601, tlR_frr hT ga0 f1559, vr1584]
      have vo1627 : ∀ b2 : Nat, b2 ≠ x1.toNatClampNeg → EqV (vwR K H1598 a0 b2) (vwR K s.heap a0 b2) := fun b2 hb => (m1602 b2 hb).tr (vo1585 b2 hb)
      refine W.eq (g2 := F0 m 44 ls1458 []) rfl ?_
      refine lv_aload_n hx hb dX10_doesLine_44 rfl (lv_at hl1459 1 rfl) ?_
      refine x_gr C hTH1598 (ci := 10) (k := 25) rfl inX10 (by decide) wF_X10_62 ga0 rg_112 rfl dX10_doesLine_45 (fun q1628 eq1628 gq1628 => ?_)
      have uq1628 : lsq = q1628 := (m1614).trans eq1628.symm
      subst uq1628
      refine lv_iload_n hx hb dX10_doesLine_48 rfl (lv_at hl1459 3 rfl) ?_
      refine x_ai C hTH1598 glsq rg_129 ⟨by omega, by show _ < ((112 : Nat) : Int); omega⟩ dX10_doesLine_49 (fun x1629 ex1629 bx1629 => ?_)
      have ux1629 : so = x1629 := (m1620).trans ex1629.symm
      subst ux1629
      refine lv_bipush (v := 17) hx hb dX10_doesLine_50 (by decide) ?_
      refine lv_icmp_ne (tgt := 81) hx hb dX10_doesLine_52 (by decide) (fun c1630 => ?_) (fun c1630 => ?_)
      · have k1631 := i_ne c1630
        refine lv_aload_n hx hb dX10_doesLine_81 rfl (lv_at hl1459 1 rfl) ?_
        refine x_gr C hTH1598 (ci := 10) (k := 25) rfl inX10 (by decide) wF_X10_62 ga0 rg_112 rfl dX10_doesLine_82 (fun q1632 eq1632 gq1632 => ?_)
        have uq1632 : lsq = q1632 := (m1614).trans eq1632.symm
        subst uq1632
        refine lv_iload_n hx hb dX10_doesLine_85 rfl (lv_at hl1459 3 rfl) ?_
        refine x_ai C hTH1598 glsq rg_129 ⟨by omega, by show _ < ((112 : Nat) : Int); omega⟩ dX10_doesLine_86 (fun x1633 ex1633 bx1633 => ?_)
        have ux1633 : so = x1633 := (m1620).trans ex1633.symm
        subst ux1633
        refine lv_iconst (v := 5) hx hb dX10_doesLine_87 (by decide) ?_
        refine lv_icmp_eq (tgt := 92) hx hb dX10_doesLine_88 (by decide) (fun c1634 => ?_) (fun c1634 => ?_)
        · have k1635 := i_eq c1634
          exfalso
          omega
        · have k1635 := i_ne c1634
          exact x_vret C hQ dX10_doesLine_91 hSH1598 (by decide) (by decide) (⟨x1599, x1600, rfl, ex1599, ex1600, (vr1626.trans (liV_s (by unfold wdR; rw [if_neg (by omega)]; omega)).symm), vo1627, hTH1598⟩)
      · have k1631 := i_eq c1630
        exfalso
        omega
