/-! ===== a bar of the reference as rows of numbers ===== -/
/-- the reference's field of a row, its region, how many places a bar has in it -/
def rcR (k : Nat) : Nat := if k = 0 then 4 else if k = 6 then 11 else if k = 7 then 12 else if k = 8 then 10 else if k = 9 then 13 else k + 4
def ucR (k : Nat) : Nat := if k = 0 then 113 else if k = 1 then 114 else if k = 2 then 115 else if k = 3 then 116 else if k = 4 then 117 else if k = 5 then 118 else if k = 6 then 120 else if k = 7 then 121 else if k = 8 then 119 else 122
def mwR (k : Nat) : Nat := if k = 1 ∨ k = 2 ∨ k = 3 ∨ k = 4 then 16 else if k = 5 then 3 else if k = 6 ∨ k = 7 then 200 else 1
def vwR (K : KE) (H : Heap) (b bar : Nat) : BW := fun k j => if k ≤ 9 then (if (k = 0 ∨ k = 8 ∨ k = 9) ∧ j ≠ 0 then 0 else (fI H (fR H b (K.1.2 10 (rcR k))) (mwR k * bar + j)).toInt) else 0
theorem ucR_inj : ∀ k, k < 10 → ∀ j, j < 10 → k ≠ j → ucR k ≠ ucR j := by decide
theorem rcR_lt : ∀ k, k < 10 → rcR k < 74 ∧ rcR k ≠ 0 := by decide
theorem ucR_ne : ∀ k, k < 10 → ucR k ≠ 140 ∧ ucR k ≠ 139 ∧ ucR k ≠ 112 := by decide
section
variable {K : KE} {G : Nat → Option Nat} {H H1 : Heap} {b bar law : Nat} {fsE fwE : Nat → EF}
theorem gR (hT : TY K G H) (gb : G b = some 112) : ∀ k : Nat, k < 10 → G (fR H b (K.1.2 10 (rcR k))) = some (ucR k) := by
  intro k hk
  have : k = 0 ∨ k = 1 ∨ k = 2 ∨ k = 3 ∨ k = 4 ∨ k = 5 ∨ k = 6 ∨ k = 7 ∨ k = 8 ∨ k = 9 := by omega
  rcases this with rfl | rfl | rfl | rfl | rfl | rfl | rfl | rfl | rfl | rfl
  · exact ty_fr (q := _) (k := 4) (u := 113) rfl hT gb rgM rfl
  · exact ty_fr (q := _) (k := 5) (u := 114) rfl hT gb rgM rfl
  · exact ty_fr (q := _) (k := 6) (u := 115) rfl hT gb rgM rfl
  · exact ty_fr (q := _) (k := 7) (u := 116) rfl hT gb rgM rfl
  · exact ty_fr (q := _) (k := 8) (u := 117) rfl hT gb rgM rfl
  · exact ty_fr (q := _) (k := 9) (u := 118) rfl hT gb rgM rfl
  · exact ty_fr (q := _) (k := 11) (u := 120) rfl hT gb rgM rfl
  · exact ty_fr (q := _) (k := 12) (u := 121) rfl hT gb rgM rfl
  · exact ty_fr (q := _) (k := 10) (u := 119) rfl hT gb rgM rfl
  · exact ty_fr (q := _) (k := 13) (u := 122) rfl hT gb rgM rfl
theorem vwR_f {k : Nat} (h : k = 0 ∨ k = 8 ∨ k = 9) : vwR K H b bar k 0 = (fI H (fR H b (K.1.2 10 (rcR k))) bar).toInt := by
  unfold vwR
  rw [if_pos (by omega), if_neg (fun z => z.2 rfl)]
  rcases h with rfl | rfl | rfl <;> (show (fI H _ (1 * bar + 0)).toInt = _; rw [show 1 * bar + 0 = bar by omega])
theorem vwR_a {k : Nat} (h : 1 ≤ k ∧ k ≤ 7) : vwR K H b bar k = fun j => (fI H (fR H b (K.1.2 10 (rcR k))) (mwR k * bar + j)).toInt := by
  funext j
  unfold vwR
  rw [if_pos (by omega), if_neg (by omega)]
theorem lost_tnR {sl : Int} : lostW (tlR K H b law fsE fwE) (vwR K H b bar) sl = loV (tnR K H b law bar fsE fwE) (fun j => (fI H (fR H b (K.1.2 10 9)) (3 * bar + j)).toInt) sl 3 0 := by
  unfold lostW toV tnR
  rw [vwR_f (Or.inl rfl), vwR_a (k := 1) (by decide), vwR_a (k := 2) (by decide), vwR_a (k := 3) (by decide), vwR_a (k := 4) (by decide), vwR_a (k := 5) (by decide)]
  rfl
theorem vr_arr {p i n k : Nat} {x : Int32} {y : Int} (hT : TY K G H) (gb : G b = some 112) (w : Wr H H1 p n (.int x)) (e : p = fR H b (K.1.2 10 (rcR k))) (hk : k < 10) (hn : n = mwR k * bar + i) (hi : (k = 0 ∨ k = 8 ∨ k = 9) → i = 0) (hy : x.toInt = y) : vwR K H1 b bar = upV (vwR K H b bar) k i y := by
  subst hy
  have gp : G p = some (ucR k) := by rw [e]; exact gR hT gb k hk
  have hbp : b ≠ p := G_ne gb gp (fun z => (ucR_ne k hk).2.2 z.symm)
  funext k1 j1
  unfold vwR upV
  dsimp only
  by_cases c : k1 ≤ 9
  · rw [if_pos c]
    by_cases cj : (k1 = 0 ∨ k1 = 8 ∨ k1 = 9) ∧ j1 ≠ 0
    · rw [if_pos cj, if_pos c, if_pos cj, if_neg (fun z => by obtain ⟨z1, z2⟩ := z; subst z1; exact cj.2 (z2.trans (hi cj.1)))]
    · rw [if_neg cj, if_pos c, if_neg cj, Wr.neR w (Or.inl hbp)]
      by_cases ek : k1 = k
      · subst ek
        rw [← e]
        by_cases ej : j1 = i
        · subst ej
          rw [if_pos ⟨rfl, rfl⟩, ← hn, Wr.I w]
        · rw [if_neg (fun z => ej z.2), Wr.neI w (Or.inr (by omega)), e]
      · rw [if_neg (fun z => ek z.1), Wr.neI w (Or.inl (G_ne (gR hT gb k1 (by omega)) gp (ucR_inj k1 (by omega) k hk ek)))]
  · rw [if_neg c, if_neg (show ¬ (k1 = k ∧ j1 = i) by omega), if_neg c]
/-- another bar's rows stay -/
theorem vr_oth {p i n k bar2 : Nat} {x : Int32} (hT : TY K G H) (gb : G b = some 112) (w : Wr H H1 p n (.int x)) (e : p = fR H b (K.1.2 10 (rcR k))) (hk : k < 10) (hn : n = mwR k * bar + i) (hi : i < mwR k) (hb : bar2 ≠ bar) : EqV (vwR K H1 b bar2) (vwR K H b bar2) := by
  have gp : G p = some (ucR k) := by rw [e]; exact gR hT gb k hk
  have hbp : b ≠ p := G_ne gb gp (fun z => (ucR_ne k hk).2.2 z.symm)
  intro k1 j1 hj
  unfold vwR
  by_cases c : k1 ≤ 9
  · rw [if_pos c, if_pos c]
    by_cases cj : (k1 = 0 ∨ k1 = 8 ∨ k1 = 9) ∧ j1 ≠ 0
    · rw [if_pos cj, if_pos cj]
    · rw [if_neg cj, if_neg cj, Wr.neR w (Or.inl hbp)]
      by_cases ek : k1 = k
      · subst ek
        have hm : j1 < mwR k1 := by
          unfold wdV at hj
          unfold mwR
          split at hj
          · rw [if_pos (by omega)]; omega
          · split at hj
            · rw [if_neg (by omega), if_pos (by omega)]; omega
            · split at hj
              · rw [if_neg (by omega), if_neg (by omega), if_pos (by omega)]; omega
              · split at hj
                · rw [if_neg (by omega), if_neg (by omega), if_neg (by omega)]; omega
                · omega
        rw [Wr.neI w (Or.inr ?_)]
        rw [hn]
        intro z
        apply hb
        have h1 : (mwR k1 * bar2 + j1) / mwR k1 = bar2 := by rw [Nat.mul_add_div (by omega), Nat.div_eq_of_lt hm, Nat.add_zero]
        have h2 : (mwR k1 * bar + i) / mwR k1 = bar := by rw [Nat.mul_add_div (by omega), Nat.div_eq_of_lt hi, Nat.add_zero]
        rw [← h1, z, h2]
      · rw [Wr.neI w (Or.inl (G_ne (gR hT gb k1 (by omega)) gp (ucR_inj k1 (by omega) k hk ek)))]
  · rw [if_neg c, if_neg c]
/-- the reference's first field is written -/
theorem vr_told {x : Int32} (hap : ∀ x y, x < 74 → y < 74 → x ≠ y → K.1.2 10 x ≠ K.1.2 10 y) (hT : TY K G H) (gb : G b = some 112) (w : Wr H H1 b (K.1.2 10 0) (.int x)) : vwR K H1 b bar = vwR K H b bar := by
  funext k1 j1
  unfold vwR
  by_cases c : k1 ≤ 9
  · rw [if_pos c, if_pos c, Wr.neR w (Or.inr (hap (rcR k1) 0 (rcR_lt k1 (by omega)).1 (by decide) (rcR_lt k1 (by omega)).2)), Wr.neI w (Or.inl (G_ne (gR hT gb k1 (by omega)) gb (ucR_ne k1 (by omega)).2.2))]
  · rw [if_neg c, if_neg c]
theorem toV_tnR {k : Int} : toV (tlR K H b law fsE fwE) (vwR K H b bar) k = tnR K H b law bar fsE fwE k := by
  unfold toV tnR
  rw [vwR_f (Or.inl rfl), vwR_a (k := 1) (by decide), vwR_a (k := 2) (by decide), vwR_a (k := 3) (by decide), vwR_a (k := 4) (by decide)]
  rfl
theorem vr_frr (hT : TY K G H) (gb : G b = some 112) (fr : FRR G H1 H) : vwR K H1 b bar = vwR K H b bar := by
  funext k1 j1
  unfold vwR
  by_cases c : k1 ≤ 9
  · rw [if_pos c, if_pos c, fr.R gb (by decide) (by decide), fr.I (gR hT gb k1 (by omega)) (ucR_ne k1 (by omega)).1 (ucR_ne k1 (by omega)).2.1]
  · rw [if_neg c, if_neg c]
end
set_option maxHeartbeats 4000000 in
set_option maxRecDepth 100000 in
theorem a_X10_takesOff_v (l : Launch) (K : KE) (G : Nat → Option Nat) (H : Heap) {a0 : Nat} (x1 : Int32) (x2 : Int32) (x3 : Int32) {kq : Nat} {paq : Nat} {pdq : Nat} {psq : Nat} {lbq : Nat} {gq : Nat} {slq : Nat} (ps : Int32) (lb : Int32) (sz : Int32) (fo : Int32) (sl : Int32) (fsE : Nat → EF) (fwE : Nat → EF) (hT : TY K G H) (ga0 : G a0 = some 112) (hx1 : 0 ≤ x1.toInt ∧ x1.toInt ≤ 9) (hx2 : 0 ≤ x2.toInt ∧ x2.toInt ≤ 15) (hx3 : 1 ≤ x3.toInt ∧ x3.toInt ≤ 9) (gkq : G kq = some 114) (ekq : kq = fR H a0 (K.1.2 10 5)) (gpaq : G paq = some 120) (epaq : paq = fR H a0 (K.1.2 10 11)) (gpdq : G pdq = some 121) (epdq : pdq = fR H a0 (K.1.2 10 12)) (gpsq : G psq = some 119) (epsq : psq = fR H a0 (K.1.2 10 10)) (glbq : G lbq = some 122) (elbq : lbq = fR H a0 (K.1.2 10 13)) (ggq : G gq = some 118) (egq : gq = fR H a0 (K.1.2 10 9)) (gslq : G slq = some 113) (eslq : slq = fR H a0 (K.1.2 10 4)) (eps : ps = fI H psq (x1 : Int32).toNatClampNeg) (elb : lb = fI H lbq (x1 : Int32).toNatClampNeg) (esz : sz = fI H slq (x1 : Int32).toNatClampNeg) (efo : fo = fI H a0 (K.1.2 10 2)) (esl : sl = fI H a0 (K.1.2 10 3)) (hg_CG : CG (avw K H a0)) (hp0 : 0 ≤ sl.toInt ∧ sl.toInt ≤ 9999) (hp1 : x2.toInt < sz.toInt) (hp2 : ps.toInt ≤ 199) (hy0 : TXR K H a0 fo.toNatClampNeg 1 fsE fwE) (hy1 : ∀ j : Nat, j < 3 → 0 ≤ (fI H gq (3 * x1.toNatClampNeg + j)).toInt ∧ (fI H gq (3 * x1.toNatClampNeg + j)).toInt ≤ 999999) (hy2 : x3.toInt < (fI H kq (16 * x1.toNatClampNeg + x2.toNatClampNeg)).toInt) : MX l K yX10_takesOff cX10_takesOff 4 none 7 167 0 0 [.ref a0, .int x1, .int x2, .int x3] H (AE G [114, 120, 121, 119, 122, 140, 139] H.size) (fun v H1 => ∃ (t0 : Int32) (t1 : Int32), v = none ∧ t0 = fI H1 psq (x1 : Int32).toNatClampNeg ∧ t1 = fI H1 lbq (x1 : Int32).toNatClampNeg ∧ (vwR K H1 a0 x1.toNatClampNeg = paV (tlR K H a0 fo.toNatClampNeg fsE fwE) sl.toInt (vwR K H a0 x1.toNatClampNeg) x2.toInt x3.toInt) ∧ (∀ b2 : Nat, b2 ≠ x1.toNatClampNeg → EqV (vwR K H1 a0 b2) (vwR K H a0 b2)) ∧ TY K G H1) := by
  refine MX.of (by decide +kernel) (Nat.le_of_ble_eq_true rfl) ?_
  intro p e s m below meth c ls Q C hH hl hQ
  subst hH
  have C : CX p K s m _ meth c RX10 cX10_takesOff 4 none "takesOff" := C
  obtain ⟨hx, hb, hml, hown, hts, hKT, hr, hlocks, hnm⟩ := id C
  have hl : lv_has ls 4 [(0, .ref a0), (1, .int x1), (2, .int x2), (3, .int x3)] := hl
  have hS : va_S (AE G [114, 120, 121, 119, 122, 140, 139] s.heap.size) s.heap s.heap [] := va_S.rf
  have n_0 : (0 : Int32).toInt = 0 := rfl
  have n_1 : (1 : Int32).toInt = 1 := rfl
  have n_16 : (16 : Int32).toInt = 16 := rfl
  have n_200 : (200 : Int32).toInt = 200 := rfl
  have bps := ty_ai (x := ps) eps hT gpsq rg_119 (by omega)
  have blb := ty_ai (x := lb) elb hT glbq rg_122 (by omega)
  have bsz := ty_ai (x := sz) esz hT gslq rg_113 (by omega)
  have bfo := ty_fi (x := fo) (k := 2) efo hT ga0 rg_112 rfl
  have bsl := ty_fi (x := sl) (k := 3) esl hT ga0 rg_112 rfl
  have hap : ∀ x y, x < 74 → y < 74 → x ≠ y → K.1.2 10 x ≠ K.1.2 10 y := x_apart hKT hts inX10 tyX10 tyX10_ok nmX10 rfl
  have vr_0 : vwR K s.heap a0 x1.toNatClampNeg = vwR K s.heap a0 x1.toNatClampNeg := rfl
  have vo_0 : ∀ b2 : Nat, b2 ≠ x1.toNatClampNeg → EqV (vwR K s.heap a0 b2) (vwR K s.heap a0 b2) := fun _ _ => EqV.rf
  have v00 : vwR K s.heap a0 x1.toNatClampNeg 0 0 = sz.toInt := by rw [vwR_f (by decide)]; show (fI s.heap (fR s.heap a0 (K.1.2 10 4)) x1.toNatClampNeg).toInt = _; rw [← eslq, ← esz]
  have v80 : vwR K s.heap a0 x1.toNatClampNeg 8 0 = ps.toInt := by rw [vwR_f (by decide)]; show (fI s.heap (fR s.heap a0 (K.1.2 10 10)) x1.toNatClampNeg).toInt = _; rw [← epsq, ← eps]
  have v90 : vwR K s.heap a0 x1.toNatClampNeg 9 0 = lb.toInt := by rw [vwR_f (by decide)]; show (fI s.heap (fR s.heap a0 (K.1.2 10 13)) x1.toNatClampNeg).toInt = _; rw [← elbq, ← elb]
  have f0_tf : TXG K a0 G s.heap s.heap := TXG.rf
  have f0_s_gq : ∀ j : Nat, fI s.heap gq j = fI s.heap gq j := fun _ => rfl
  refine lv_aload_n hx hb dX10_takesOff_0 rfl (lv_at hl 0 rfl) ?_
  refine x_gr C hT (ci := 10) (k := 5) rfl inX10 (by decide) wF_X10_17 ga0 rg_112 rfl dX10_takesOff_1 (fun q689 eq689 gq689 => ?_)
  have uq689 : kq = q689 := (ekq).trans eq689.symm
  subst uq689
  refine lv_bipush (v := 16) hx hb dX10_takesOff_4 (by decide) ?_
  refine lv_iload_n hx hb dX10_takesOff_6 rfl (lv_at hl 1 rfl) ?_
  refine lv_imul hx hb dX10_takesOff_7 ?_
  refine lv_topi (fun x690 ex690 => ?_)
  have tx690 := i_mul ex690 (by rw [n_16]; omega)
  rw [n_16] at tx690
  refine lv_iload_n hx hb dX10_takesOff_8 rfl (lv_at hl 2 rfl) ?_
  refine lv_iadd hx hb dX10_takesOff_9 ?_
  refine lv_topi (fun x691 ex691 => ?_)
  have tx691 := i_add ex691 (by omega)
  refine lv_aload_n hx hb dX10_takesOff_10 rfl (lv_at hl 0 rfl) ?_
  refine x_gr C hT (ci := 10) (k := 5) rfl inX10 (by decide) wF_X10_17 ga0 rg_112 rfl dX10_takesOff_11 (fun q692 eq692 gq692 => ?_)
  have uq692 : kq = q692 := (ekq).trans eq692.symm
  subst uq692
  refine lv_bipush (v := 16) hx hb dX10_takesOff_14 (by decide) ?_
  refine lv_iload_n hx hb dX10_takesOff_16 rfl (lv_at hl 1 rfl) ?_
  refine lv_imul hx hb dX10_takesOff_17 ?_
  refine lv_topi (fun x693 ex693 => ?_)
  have tx693 := i_mul ex693 (by rw [n_16]; omega)
  rw [n_16] at tx693
  refine lv_iload_n hx hb dX10_takesOff_18 rfl (lv_at hl 2 rfl) ?_
  refine lv_iadd hx hb dX10_takesOff_19 ?_
  refine lv_topi (fun x694 ex694 => ?_)
  have tx694 := i_add ex694 (by omega)
  refine x_ai C hT gkq rg_114 ⟨by omega, by show _ < ((160 : Nat) : Int); omega⟩ dX10_takesOff_20 (fun x695 ex695 bx695 => ?_)
  have cn_x1 := i_cl (x := x1) (by omega)
  have cn_x2 := i_cl (x := x2) (by omega)
  have cn_x694 := i_cl (x := x694) (by omega)
  have c0_ : 2 ≤ x695.toInt := by have z := hy2; rw [show 16 * x1.toNatClampNeg + x2.toNatClampNeg = x694.toNatClampNeg by omega, ← ex695] at z; omega
  refine lv_iload_n hx hb dX10_takesOff_21 rfl (lv_at hl 3 rfl) ?_
  refine lv_isub hx hb dX10_takesOff_22 ?_
  refine lv_topi (fun x696 ex696 => ?_)
  have tx696 := i_sub ex696 (by have := i_rng x695; omega)
  refine x_iast C hT hS gkq rg_114 (by omega) (by show _ < ((160 : Nat) : Int); omega) ⟨by have := i_rng x696; omega, by have := i_rng x696; omega⟩ (AE_in gkq (by decide)) dX10_takesOff_23 (fun H697 locsH697 hTH697 hSH697 wH697 => ?_)
  have g698 : CG (avw K H697 a0) := CG.congr (fun k hk j => av_arr hT ga0 wH697 gkq (by decide) (CG_ok 114 (by decide) k hk)) hg_CG
  have f699 : TXG K a0 G H697 s.heap := ⟨fun k h0 h1 => (fR_kept (wH697.off (G_ne ga0 gkq (by decide)))).trans (f0_tf.1 k h0 h1), fun q t hq h1 => (wH697.off (G_ne hq gkq (by first | omega | (intro z; simp only [List.mem_cons, List.not_mem_nil, or_false] at z <;> omega)))).trans (f0_tf.2 q t hq h1)⟩
  have f700 : ∀ j : Nat, fI H697 gq j = fI s.heap gq j := fun j => (Wr.neI wH697 (Or.inl (G_ne ggq gkq (by decide)))).trans (f0_s_gq j)
  have m701 := ekq.trans (Wr.neR wH697 (Or.inl (G_ne ga0 gkq (by decide)))).symm
  have m702 := epaq.trans (Wr.neR wH697 (Or.inl (G_ne ga0 gkq (by decide)))).symm
  have m703 := epdq.trans (Wr.neR wH697 (Or.inl (G_ne ga0 gkq (by decide)))).symm
  have m704 := epsq.trans (Wr.neR wH697 (Or.inl (G_ne ga0 gkq (by decide)))).symm
  have m705 := elbq.trans (Wr.neR wH697 (Or.inl (G_ne ga0 gkq (by decide)))).symm
  have m706 := egq.trans (Wr.neR wH697 (Or.inl (G_ne ga0 gkq (by decide)))).symm
  have m707 := eslq.trans (Wr.neR wH697 (Or.inl (G_ne ga0 gkq (by decide)))).symm
  have m708 := eps.trans (Wr.neI wH697 (Or.inl (G_ne gpsq gkq (by decide)))).symm
  have m709 := elb.trans (Wr.neI wH697 (Or.inl (G_ne glbq gkq (by decide)))).symm
  have m710 := esz.trans (Wr.neI wH697 (Or.inl (G_ne gslq gkq (by decide)))).symm
  have m711 := efo.trans (Wr.neI wH697 (Or.inl (G_ne ga0 gkq (by decide)))).symm
  have m712 := esl.trans (Wr.neI wH697 (Or.inl (G_ne ga0 gkq (by decide)))).symm
  have m714 := Wr.I wH697
  have m714 := m714.symm
  have cn_x1 := i_cl (x := x1) (by omega)
  have cn_x2 := i_cl (x := x2) (by omega)
  have cn_x691 := i_cl (x := x691) (by omega)
  have vr715 : vwR K H697 a0 x1.toNatClampNeg = (upV (vwR K s.heap a0 x1.toNatClampNeg) 1 x2.toNatClampNeg x696.toInt) := by rw [vr_arr (k := 1) (i := x2.toNatClampNeg) hT ga0 wH697 ekq (by decide) (show x691.toNatClampNeg = 16 * x1.toNatClampNeg + x2.toNatClampNeg by omega) (fun z => absurd z (by decide)) rfl, vr_0]
  have vo716 : ∀ b2 : Nat, b2 ≠ x1.toNatClampNeg → EqV (vwR K H697 a0 b2) (vwR K s.heap a0 b2) := fun b2 hb => (vr_oth (k := 1) (i := x2.toNatClampNeg) hT ga0 wH697 ekq (by decide) (show x691.toNatClampNeg = 16 * x1.toNatClampNeg + x2.toNatClampNeg by omega) (show x2.toNatClampNeg < 16 by omega) hb).tr (vo_0 b2 hb)
  refine lv_aload_n hx hb dX10_takesOff_24 rfl (lv_at hl 0 rfl) ?_
  refine x_gr C hTH697 (ci := 10) (k := 11) rfl inX10 (by decide) wF_X10_35 ga0 rg_112 rfl dX10_takesOff_25 (fun q717 eq717 gq717 => ?_)
  have uq717 : paq = q717 := (m702).trans eq717.symm
  subst uq717
  refine lv_sipush (v := 200) hx hb dX10_takesOff_28 (by decide) ?_
  refine lv_iload_n hx hb dX10_takesOff_31 rfl (lv_at hl 1 rfl) ?_
  refine lv_imul hx hb dX10_takesOff_32 ?_
  refine lv_topi (fun x718 ex718 => ?_)
  have tx718 := i_mul ex718 (by rw [n_200]; omega)
  rw [n_200] at tx718
  refine lv_aload_n hx hb dX10_takesOff_33 rfl (lv_at hl 0 rfl) ?_
  refine x_gr C hTH697 (ci := 10) (k := 10) rfl inX10 (by decide) wF_X10_32 ga0 rg_112 rfl dX10_takesOff_34 (fun q719 eq719 gq719 => ?_)
  have uq719 : psq = q719 := (m704).trans eq719.symm
  subst uq719
  refine lv_iload_n hx hb dX10_takesOff_37 rfl (lv_at hl 1 rfl) ?_
  refine x_ai C hTH697 gpsq rg_119 ⟨by omega, by show _ < ((10 : Nat) : Int); omega⟩ dX10_takesOff_38 (fun x720 ex720 bx720 => ?_)
  have ux720 : ps = x720 := (m708).trans ex720.symm
  subst ux720
  refine lv_iadd hx hb dX10_takesOff_39 ?_
  refine lv_topi (fun x721 ex721 => ?_)
  have tx721 := i_add ex721 (by omega)
  refine lv_iload_n hx hb dX10_takesOff_40 rfl (lv_at hl 2 rfl) ?_
  refine x_iast C hTH697 hSH697 gpaq rg_120 (by omega) (by show _ < ((2000 : Nat) : Int); omega) ⟨by have := i_rng x2; omega, by have := i_rng x2; omega⟩ (AE_in gpaq (by decide)) dX10_takesOff_41 (fun H722 locsH722 hTH722 hSH722 wH722 => ?_)
  have g723 : CG (avw K H722 a0) := CG.congr (fun k hk j => av_arr hTH697 ga0 wH722 gpaq (by decide) (CG_ok 120 (by decide) k hk)) g698
  have f724 : TXG K a0 G H722 s.heap := ⟨fun k h0 h1 => (fR_kept (wH722.off (G_ne ga0 gpaq (by decide)))).trans (f699.1 k h0 h1), fun q t hq h1 => (wH722.off (G_ne hq gpaq (by first | omega | (intro z; simp only [List.mem_cons, List.not_mem_nil, or_false] at z <;> omega)))).trans (f699.2 q t hq h1)⟩
  have f725 : ∀ j : Nat, fI H722 gq j = fI s.heap gq j := fun j => (Wr.neI wH722 (Or.inl (G_ne ggq gpaq (by decide)))).trans (f700 j)
  have m726 := m701.trans (Wr.neR wH722 (Or.inl (G_ne ga0 gpaq (by decide)))).symm
  have m727 := m702.trans (Wr.neR wH722 (Or.inl (G_ne ga0 gpaq (by decide)))).symm
  have m728 := m703.trans (Wr.neR wH722 (Or.inl (G_ne ga0 gpaq (by decide)))).symm
  have m729 := m704.trans (Wr.neR wH722 (Or.inl (G_ne ga0 gpaq (by decide)))).symm
  have m730 := m705.trans (Wr.neR wH722 (Or.inl (G_ne ga0 gpaq (by decide)))).symm
  have m731 := m706.trans (Wr.neR wH722 (Or.inl (G_ne ga0 gpaq (by decide)))).symm
  have m732 := m707.trans (Wr.neR wH722 (Or.inl (G_ne ga0 gpaq (by decide)))).symm
  have m733 := m708.trans (Wr.neI wH722 (Or.inl (G_ne gpsq gpaq (by decide)))).symm
  have m734 := m709.trans (Wr.neI wH722 (Or.inl (G_ne glbq gpaq (by decide)))).symm
  have m735 := m710.trans (Wr.neI wH722 (Or.inl (G_ne gslq gpaq (by decide)))).symm
  have m736 := m711.trans (Wr.neI wH722 (Or.inl (G_ne ga0 gpaq (by decide)))).symm
  have m737 := m712.trans (Wr.neI wH722 (Or.inl (G_ne ga0 gpaq (by decide)))).symm
  have m738 := m714.trans (Wr.neI wH722 (Or.inl (G_ne gkq gpaq (by decide)))).symm
  have m739 := Wr.I wH722
  have m739 := m739.symm
  have cn_x1 := i_cl (x := x1) (by omega)
  have cn_x2 := i_cl (x := x2) (by omega)
  have cn_x721 := i_cl (x := x721) (by omega)
  have cn_ps := i_cl (x := ps) (by omega)
  have vr740 : vwR K H722 a0 x1.toNatClampNeg = (upV (upV (vwR K s.heap a0 x1.toNatClampNeg) 1 x2.toNatClampNeg x696.toInt) 6 ps.toNatClampNeg x2.toInt) := by rw [vr_arr (k := 6) (i := ps.toNatClampNeg) hTH697 ga0 wH722 m702 (by decide) (show x721.toNatClampNeg = 200 * x1.toNatClampNeg + ps.toNatClampNeg by omega) (fun z => absurd z (by decide)) rfl, vr715]
  have vo741 : ∀ b2 : Nat, b2 ≠ x1.toNatClampNeg → EqV (vwR K H722 a0 b2) (vwR K s.heap a0 b2) := fun b2 hb => (vr_oth (k := 6) (i := ps.toNatClampNeg) hTH697 ga0 wH722 m702 (by decide) (show x721.toNatClampNeg = 200 * x1.toNatClampNeg + ps.toNatClampNeg by omega) (show ps.toNatClampNeg < 200 by omega) hb).tr (vo716 b2 hb)
  refine lv_aload_n hx hb dX10_takesOff_42 rfl (lv_at hl 0 rfl) ?_
  refine x_gr C hTH722 (ci := 10) (k := 12) rfl inX10 (by decide) wF_X10_38 ga0 rg_112 rfl dX10_takesOff_43 (fun q742 eq742 gq742 => ?_)
  have uq742 : pdq = q742 := (m728).trans eq742.symm
  subst uq742
  refine lv_sipush (v := 200) hx hb dX10_takesOff_46 (by decide) ?_
  refine lv_iload_n hx hb dX10_takesOff_49 rfl (lv_at hl 1 rfl) ?_
  refine lv_imul hx hb dX10_takesOff_50 ?_
  refine lv_topi (fun x743 ex743 => ?_)
  have tx743 := i_mul ex743 (by rw [n_200]; omega)
  rw [n_200] at tx743
  refine lv_aload_n hx hb dX10_takesOff_51 rfl (lv_at hl 0 rfl) ?_
  refine x_gr C hTH722 (ci := 10) (k := 10) rfl inX10 (by decide) wF_X10_32 ga0 rg_112 rfl dX10_takesOff_52 (fun q744 eq744 gq744 => ?_)
  have uq744 : psq = q744 := (m729).trans eq744.symm
  subst uq744
  refine lv_iload_n hx hb dX10_takesOff_55 rfl (lv_at hl 1 rfl) ?_
  refine x_ai C hTH722 gpsq rg_119 ⟨by omega, by show _ < ((10 : Nat) : Int); omega⟩ dX10_takesOff_56 (fun x745 ex745 bx745 => ?_)
  have ux745 : ps = x745 := (m733).trans ex745.symm
  subst ux745
  refine lv_iadd hx hb dX10_takesOff_57 ?_
  refine lv_topi (fun x746 ex746 => ?_)
  have tx746 := i_add ex746 (by omega)
  refine lv_iload_n hx hb dX10_takesOff_58 rfl (lv_at hl 3 rfl) ?_
  refine x_iast C hTH722 hSH722 gpdq rg_121 (by omega) (by show _ < ((2000 : Nat) : Int); omega) ⟨by have := i_rng x3; omega, by have := i_rng x3; omega⟩ (AE_in gpdq (by decide)) dX10_takesOff_59 (fun H747 locsH747 hTH747 hSH747 wH747 => ?_)
  have g748 : CG (avw K H747 a0) := CG.congr (fun k hk j => av_arr hTH722 ga0 wH747 gpdq (by decide) (CG_ok 121 (by decide) k hk)) g723
  have f749 : TXG K a0 G H747 s.heap := ⟨fun k h0 h1 => (fR_kept (wH747.off (G_ne ga0 gpdq (by decide)))).trans (f724.1 k h0 h1), fun q t hq h1 => (wH747.off (G_ne hq gpdq (by first | omega | (intro z; simp only [List.mem_cons, List.not_mem_nil, or_false] at z <;> omega)))).trans (f724.2 q t hq h1)⟩
  have f750 : ∀ j : Nat, fI H747 gq j = fI s.heap gq j := fun j => (Wr.neI wH747 (Or.inl (G_ne ggq gpdq (by decide)))).trans (f725 j)
  have m751 := m726.trans (Wr.neR wH747 (Or.inl (G_ne ga0 gpdq (by decide)))).symm
  have m752 := m727.trans (Wr.neR wH747 (Or.inl (G_ne ga0 gpdq (by decide)))).symm
  have m753 := m728.trans (Wr.neR wH747 (Or.inl (G_ne ga0 gpdq (by decide)))).symm
  have m754 := m729.trans (Wr.neR wH747 (Or.inl (G_ne ga0 gpdq (by decide)))).symm
  have m755 := m730.trans (Wr.neR wH747 (Or.inl (G_ne ga0 gpdq (by decide)))).symm
  have m756 := m731.trans (Wr.neR wH747 (Or.inl (G_ne ga0 gpdq (by decide)))).symm
  have m757 := m732.trans (Wr.neR wH747 (Or.inl (G_ne ga0 gpdq (by decide)))).symm
  have m758 := m733.trans (Wr.neI wH747 (Or.inl (G_ne gpsq gpdq (by decide)))).symm
  have m759 := m734.trans (Wr.neI wH747 (Or.inl (G_ne glbq gpdq (by decide)))).symm
  have m760 := m735.trans (Wr.neI wH747 (Or.inl (G_ne gslq gpdq (by decide)))).symm
  have m761 := m736.trans (Wr.neI wH747 (Or.inl (G_ne ga0 gpdq (by decide)))).symm
  have m762 := m737.trans (Wr.neI wH747 (Or.inl (G_ne ga0 gpdq (by decide)))).symm
  have m763 := m738.trans (Wr.neI wH747 (Or.inl (G_ne gkq gpdq (by decide)))).symm
  have m764 := m739.trans (Wr.neI wH747 (Or.inl (G_ne gpaq gpdq (by decide)))).symm
  have m765 := Wr.I wH747
  have m765 := m765.symm
  have cn_x1 := i_cl (x := x1) (by omega)
  have cn_x2 := i_cl (x := x2) (by omega)
  have cn_x746 := i_cl (x := x746) (by omega)
  have cn_ps := i_cl (x := ps) (by omega)
  have vr766 : vwR K H747 a0 x1.toNatClampNeg = (upV (upV (upV (vwR K s.heap a0 x1.toNatClampNeg) 1 x2.toNatClampNeg x696.toInt) 6 ps.toNatClampNeg x2.toInt) 7 ps.toNatClampNeg x3.toInt) := by rw [vr_arr (k := 7) (i := ps.toNatClampNeg) hTH722 ga0 wH747 m728 (by decide) (show x746.toNatClampNeg = 200 * x1.toNatClampNeg + ps.toNatClampNeg by omega) (fun z => absurd z (by decide)) rfl, vr740]
  have vo767 : ∀ b2 : Nat, b2 ≠ x1.toNatClampNeg → EqV (vwR K H747 a0 b2) (vwR K s.heap a0 b2) := fun b2 hb => (vr_oth (k := 7) (i := ps.toNatClampNeg) hTH722 ga0 wH747 m728 (by decide) (show x746.toNatClampNeg = 200 * x1.toNatClampNeg + ps.toNatClampNeg by omega) (show ps.toNatClampNeg < 200 by omega) hb).tr (vo741 b2 hb)
  refine lv_aload_n hx hb dX10_takesOff_60 rfl (lv_at hl 0 rfl) ?_
  refine x_gr C hTH747 (ci := 10) (k := 10) rfl inX10 (by decide) wF_X10_32 ga0 rg_112 rfl dX10_takesOff_61 (fun q768 eq768 gq768 => ?_)
  have uq768 : psq = q768 := (m754).trans eq768.symm
  subst uq768
  refine lv_iload_n hx hb dX10_takesOff_64 rfl (lv_at hl 1 rfl) ?_
  refine lv_aload_n hx hb dX10_takesOff_65 rfl (lv_at hl 0 rfl) ?_
  refine x_gr C hTH747 (ci := 10) (k := 10) rfl inX10 (by decide) wF_X10_32 ga0 rg_112 rfl dX10_takesOff_66 (fun q769 eq769 gq769 => ?_)
  have uq769 : psq = q769 := (m754).trans eq769.symm
  subst uq769
  refine lv_iload_n hx hb dX10_takesOff_69 rfl (lv_at hl 1 rfl) ?_
  refine x_ai C hTH747 gpsq rg_119 ⟨by omega, by show _ < ((10 : Nat) : Int); omega⟩ dX10_takesOff_70 (fun x770 ex770 bx770 => ?_)
  have ux770 : ps = x770 := (m758).trans ex770.symm
  subst ux770
  refine lv_iconst (v := 1) hx hb dX10_takesOff_71 (by decide) ?_
  refine lv_iadd hx hb dX10_takesOff_72 ?_
  refine lv_topi (fun x771 ex771 => ?_)
  have tx771 := i_add ex771 (by omega)
  refine x_iast C hTH747 hSH747 gpsq rg_119 (by omega) (by show _ < ((10 : Nat) : Int); omega) ⟨by have := i_rng x771; omega, by have := i_rng x771; omega⟩ (AE_in gpsq (by decide)) dX10_takesOff_73 (fun H772 locsH772 hTH772 hSH772 wH772 => ?_)
  have g773 : CG (avw K H772 a0) := CG.congr (fun k hk j => av_arr hTH747 ga0 wH772 gpsq (by decide) (CG_ok 119 (by decide) k hk)) g748
  have f774 : TXG K a0 G H772 s.heap := ⟨fun k h0 h1 => (fR_kept (wH772.off (G_ne ga0 gpsq (by decide)))).trans (f749.1 k h0 h1), fun q t hq h1 => (wH772.off (G_ne hq gpsq (by first | omega | (intro z; simp only [List.mem_cons, List.not_mem_nil, or_false] at z <;> omega)))).trans (f749.2 q t hq h1)⟩
  have f775 : ∀ j : Nat, fI H772 gq j = fI s.heap gq j := fun j => (Wr.neI wH772 (Or.inl (G_ne ggq gpsq (by decide)))).trans (f750 j)
  have m776 := m751.trans (Wr.neR wH772 (Or.inl (G_ne ga0 gpsq (by decide)))).symm
  have m777 := m752.trans (Wr.neR wH772 (Or.inl (G_ne ga0 gpsq (by decide)))).symm
  have m778 := m753.trans (Wr.neR wH772 (Or.inl (G_ne ga0 gpsq (by decide)))).symm
  have m779 := m754.trans (Wr.neR wH772 (Or.inl (G_ne ga0 gpsq (by decide)))).symm
  have m780 := m755.trans (Wr.neR wH772 (Or.inl (G_ne ga0 gpsq (by decide)))).symm
  have m781 := m756.trans (Wr.neR wH772 (Or.inl (G_ne ga0 gpsq (by decide)))).symm
  have m782 := m757.trans (Wr.neR wH772 (Or.inl (G_ne ga0 gpsq (by decide)))).symm
  have m784 := m759.trans (Wr.neI wH772 (Or.inl (G_ne glbq gpsq (by decide)))).symm
  have m785 := m760.trans (Wr.neI wH772 (Or.inl (G_ne gslq gpsq (by decide)))).symm
  have m786 := m761.trans (Wr.neI wH772 (Or.inl (G_ne ga0 gpsq (by decide)))).symm
  have m787 := m762.trans (Wr.neI wH772 (Or.inl (G_ne ga0 gpsq (by decide)))).symm
  have m788 := m763.trans (Wr.neI wH772 (Or.inl (G_ne gkq gpsq (by decide)))).symm
  have m789 := m764.trans (Wr.neI wH772 (Or.inl (G_ne gpaq gpsq (by decide)))).symm
  have m790 := m765.trans (Wr.neI wH772 (Or.inl (G_ne gpdq gpsq (by decide)))).symm
  have m791 := Wr.I wH772
  have m791 := m791.symm
  have cn_x1 := i_cl (x := x1) (by omega)
  have cn_x2 := i_cl (x := x2) (by omega)
  have cn_x1 := i_cl (x := x1) (by omega)
  have vr792 : vwR K H772 a0 x1.toNatClampNeg = (upV (upV (upV (upV (vwR K s.heap a0 x1.toNatClampNeg) 1 x2.toNatClampNeg x696.toInt) 6 ps.toNatClampNeg x2.toInt) 7 ps.toNatClampNeg x3.toInt) 8 0 x771.toInt) := by rw [vr_arr (k := 8) (i := 0) hTH747 ga0 wH772 m754 (by decide) (show x1.toNatClampNeg = 1 * x1.toNatClampNeg + 0 by omega) (fun _ => rfl) rfl, vr766]
  have vo793 : ∀ b2 : Nat, b2 ≠ x1.toNatClampNeg → EqV (vwR K H772 a0 b2) (vwR K s.heap a0 b2) := fun b2 hb => (vr_oth (k := 8) (i := 0) hTH747 ga0 wH772 m754 (by decide) (show x1.toNatClampNeg = 1 * x1.toNatClampNeg + 0 by omega) (show 0 < 1 by omega) hb).tr (vo767 b2 hb)
  refine lv_aload_n hx hb dX10_takesOff_74 rfl (lv_at hl 0 rfl) ?_
  refine x_gr C hTH772 (ci := 10) (k := 13) rfl inX10 (by decide) wF_X10_41 ga0 rg_112 rfl dX10_takesOff_75 (fun q794 eq794 gq794 => ?_)
  have uq794 : lbq = q794 := (m780).trans eq794.symm
  subst uq794
  refine lv_iload_n hx hb dX10_takesOff_78 rfl (lv_at hl 1 rfl) ?_
  refine x_ai C hTH772 glbq rg_122 ⟨by omega, by show _ < ((10 : Nat) : Int); omega⟩ dX10_takesOff_79 (fun x795 ex795 bx795 => ?_)
  have ux795 : lb = x795 := (m784).trans ex795.symm
  subst ux795
  refine lv_if_ne (tgt := 103) hx hb dX10_takesOff_80 (by decide) (fun c796 => ?_) (fun c796 => ?_)
  · have k797 := i_ne c796
    have cn_x2 := i_cl (x := x2) (by omega)
    have cn_ps := i_cl (x := ps) (by omega)
    have cn_x1 := i_cl (x := x1) (by omega)
    have cn_x694 := i_cl (x := x694) (by omega)
    have v1_ : (vwR K s.heap a0 x1.toNatClampNeg) 1 x2.toInt.toNat = x695.toInt := by
      rw [vwR_a (k := 1) (by decide)]
      show (fI s.heap (fR s.heap a0 (K.1.2 10 5)) (16 * x1.toNatClampNeg + x2.toNatClampNeg)).toInt = _
      rw [← ekq, show 16 * x1.toNatClampNeg + x2.toNatClampNeg = x694.toNatClampNeg by omega, ← ex695]
    have c1_ : x3.toInt < x695.toInt := by have z := hy2; rw [show 16 * x1.toNatClampNeg + x2.toNatClampNeg = x694.toNatClampNeg by omega, ← ex695] at z; exact z
    exact x_vret C hQ dX10_takesOff_103 hSH772 (by decide) (by decide) (⟨x771, lb, rfl, m791, m784, (vr792.trans (paV_k (n := x2.toNatClampNeg) (m := ps.toNatClampNeg) (z := x696.toInt) (p := x771.toInt) (by rw [v00, v80, v1_]; omega) rfl (by rw [v80]; rfl) (by rw [show x2.toNatClampNeg = x2.toInt.toNat from rfl, v1_]; omega) (by rw [v80]; omega) (show (upV (upV (upV (upV (vwR K s.heap a0 x1.toNatClampNeg) 1 x2.toNatClampNeg x696.toInt) 6 ps.toNatClampNeg x2.toInt) 7 ps.toNatClampNeg x3.toInt) 8 0 x771.toInt) = _ from rfl) (fun z => by have z1 := z.1; rw [v90] at z1; omega)).symm), vo793, hTH772⟩)
  · have k797 := i_eq c796
    refine lv_aload_n hx hb dX10_takesOff_83 rfl (lv_at hl 0 rfl) ?_
    refine lv_iload_n hx hb dX10_takesOff_84 rfl (lv_at hl 1 rfl) ?_
    refine x_V (As := [.int x1]) (rest := []) C (a_X10_isLost_v l K G H772 (x1) (fo) (sl) (fsE) (fwE) hTH772 ga0 (by omega) ggq m781 m786 m787 g773 (by omega) ((TXR.frr hT ga0 f774 hy0)) ((fun j hj => by rw [f775 (3 * x1.toNatClampNeg + j)]; exact hy1 j hj))) yo_X10_isLost wM_X10_338 ⟨⟨by decide, by decide⟩, by decide, by decide⟩ (x_rv C hTH772 (ci := 10) rfl ga0 rg_112) rfl hl.1 rfl (Nat.le_of_ble_eq_true rfl) dX10_takesOff_85 hSH772 (AE_sub (fun _ _ => rfl) (by decide) hSH772.1) (fun vH798 H798 locsH798 pH798 zH798 kH798 hSH798 => ?_)
    obtain ⟨x799, hvH798, bx799, m800, hTH798⟩ := pH798
    subst hvH798
    have g801 : CG (avw K H798 a0) := CG.congr (fun k hk j => av_eff hTH772 kH798 ga0 (by decide) (CG_eff [140, 139] (by decide) k hk)) g773
    have f802 : TXG K a0 G H798 s.heap := ⟨fun k h0 h1 => (fR_kept (x_lt hTH772 kH798 ga0 (by decide))).trans (f774.1 k h0 h1), fun q t hq h1 => (x_lt hTH772 kH798 hq (by first | omega | (intro z; simp only [List.mem_cons, List.not_mem_nil, or_false] at z <;> omega))).trans (f774.2 q t hq h1)⟩
    have f803 : ∀ j : Nat, fI H798 gq j = fI s.heap gq j := fun j => (fI_kept (x_lt hTH772 kH798 ggq (by decide))).trans (f775 j)
    have m804 := (m776).trans (fR_kept (x_lt hTH772 kH798 ga0 (by decide))).symm
    have m805 := (m777).trans (fR_kept (x_lt hTH772 kH798 ga0 (by decide))).symm
    have m806 := (m778).trans (fR_kept (x_lt hTH772 kH798 ga0 (by decide))).symm
    have m807 := (m779).trans (fR_kept (x_lt hTH772 kH798 ga0 (by decide))).symm
    have m808 := (m780).trans (fR_kept (x_lt hTH772 kH798 ga0 (by decide))).symm
    have m809 := (m781).trans (fR_kept (x_lt hTH772 kH798 ga0 (by decide))).symm
    have m810 := (m782).trans (fR_kept (x_lt hTH772 kH798 ga0 (by decide))).symm
    have m811 := (m784).trans (fI_kept (x_lt hTH772 kH798 glbq (by decide))).symm
    have m812 := (m785).trans (fI_kept (x_lt hTH772 kH798 gslq (by decide))).symm
    have m813 := (m786).trans (fI_kept (x_lt hTH772 kH798 ga0 (by decide))).symm
    have m814 := (m787).trans (fI_kept (x_lt hTH772 kH798 ga0 (by decide))).symm
    have m815 := (m788).trans (fI_kept (x_lt hTH772 kH798 gkq (by decide))).symm
    have m816 := (m789).trans (fI_kept (x_lt hTH772 kH798 gpaq (by decide))).symm
    have m817 := (m790).trans (fI_kept (x_lt hTH772 kH798 gpdq (by decide))).symm
    have m818 := (m791).trans (fI_kept (x_lt hTH772 kH798 gpsq (by decide))).symm
    have vr819 : vwR K H798 a0 x1.toNatClampNeg = (upV (upV (upV (upV (vwR K s.heap a0 x1.toNatClampNeg) 1 x2.toNatClampNeg x696.toInt) 6 ps.toNatClampNeg x2.toInt) 7 ps.toNatClampNeg x3.toInt) 8 0 x771.toInt) := (vr_frr hTH772 ga0 (fun q t hq h1 h2 => x_lt hTH772 kH798 hq (by first | omega | (intro z; simp only [List.mem_cons, List.not_mem_nil, or_false] at z <;> omega)))).trans vr792
    have vo820 : ∀ b2 : Nat, b2 ≠ x1.toNatClampNeg → EqV (vwR K H798 a0 b2) (vwR K s.heap a0 b2) := fun b2 hb => by rw [vr_frr hTH772 ga0 (fun q t hq h1 h2 => x_lt hTH772 kH798 hq (by first | omega | (intro z; simp only [List.mem_cons, List.not_mem_nil, or_false] at z <;> omega)))]; exact vo793 b2 hb
    have lw821 : lostW (tlR K s.heap a0 fo.toNatClampNeg fsE fwE) (upV (upV (upV (upV (vwR K s.heap a0 x1.toNatClampNeg) 1 x2.toNatClampNeg x696.toInt) 6 ps.toNatClampNeg x2.toInt) 7 ps.toNatClampNeg x3.toInt) 8 0 x771.toInt) sl.toInt = decide (x799.toInt = 1) := by
      rw [← tlR_frr hT ga0 f774, ← vr792, lost_tnR, ← m781]
      exact m800
    refine W.eq (g2 := F0 m 88 ls [.int x799]) rfl ?_
    refine lv_if_eq (tgt := 103) hx hb dX10_takesOff_88 (by decide) (fun c822 => ?_) (fun c822 => ?_)
    · have k823 := i_eq c822
      have cn_x2 := i_cl (x := x2) (by omega)
      have cn_ps := i_cl (x := ps) (by omega)
      have cn_x1 := i_cl (x := x1) (by omega)
      have cn_x694 := i_cl (x := x694) (by omega)
      have v1_ : (vwR K s.heap a0 x1.toNatClampNeg) 1 x2.toInt.toNat = x695.toInt := by
        rw [vwR_a (k := 1) (by decide)]
        show (fI s.heap (fR s.heap a0 (K.1.2 10 5)) (16 * x1.toNatClampNeg + x2.toNatClampNeg)).toInt = _
        rw [← ekq, show 16 * x1.toNatClampNeg + x2.toNatClampNeg = x694.toNatClampNeg by omega, ← ex695]
      have c1_ : x3.toInt < x695.toInt := by have z := hy2; rw [show 16 * x1.toNatClampNeg + x2.toNatClampNeg = x694.toNatClampNeg by omega, ← ex695] at z; exact z
      exact x_vret C hQ dX10_takesOff_103 hSH798 (by decide) (by decide) (⟨x771, lb, rfl, m818, m811, (vr819.trans (paV_k (n := x2.toNatClampNeg) (m := ps.toNatClampNeg) (z := x696.toInt) (p := x771.toInt) (by rw [v00, v80, v1_]; omega) rfl (by rw [v80]; rfl) (by rw [show x2.toNatClampNeg = x2.toInt.toNat from rfl, v1_]; omega) (by rw [v80]; omega) (show (upV (upV (upV (upV (vwR K s.heap a0 x1.toNatClampNeg) 1 x2.toNatClampNeg x696.toInt) 6 ps.toNatClampNeg x2.toInt) 7 ps.toNatClampNeg x3.toInt) 8 0 x771.toInt) = _ from rfl) (fun z => by have z2 := lw821.symm.trans z.2; have := of_decide_eq_true z2; omega)).symm), vo820, hTH798⟩)
    · have k823 := i_ne c822
      refine lv_aload_n hx hb dX10_takesOff_91 rfl (lv_at hl 0 rfl) ?_
      refine x_gr C hTH798 (ci := 10) (k := 13) rfl inX10 (by decide) wF_X10_41 ga0 rg_112 rfl dX10_takesOff_92 (fun q824 eq824 gq824 => ?_)
      have uq824 : lbq = q824 := (m808).trans eq824.symm
      subst uq824
      refine lv_iload_n hx hb dX10_takesOff_95 rfl (lv_at hl 1 rfl) ?_
      refine lv_aload_n hx hb dX10_takesOff_96 rfl (lv_at hl 0 rfl) ?_
      refine x_gr C hTH798 (ci := 10) (k := 10) rfl inX10 (by decide) wF_X10_32 ga0 rg_112 rfl dX10_takesOff_97 (fun q825 eq825 gq825 => ?_)
      have uq825 : psq = q825 := (m807).trans eq825.symm
      subst uq825
      refine lv_iload_n hx hb dX10_takesOff_100 rfl (lv_at hl 1 rfl) ?_
      refine x_ai C hTH798 gpsq rg_119 ⟨by omega, by show _ < ((10 : Nat) : Int); omega⟩ dX10_takesOff_101 (fun x826 ex826 bx826 => ?_)
      have ux826 : x771 = x826 := (m818).trans ex826.symm
      subst ux826
      refine x_iast C hTH798 hSH798 glbq rg_122 (by omega) (by show _ < ((10 : Nat) : Int); omega) ⟨by have := i_rng x771; omega, by have := i_rng x771; omega⟩ (AE_in glbq (by decide)) dX10_takesOff_102 (fun H827 locsH827 hTH827 hSH827 wH827 => ?_)
      have g828 : CG (avw K H827 a0) := CG.congr (fun k hk j => av_arr hTH798 ga0 wH827 glbq (by decide) (CG_ok 122 (by decide) k hk)) g801
      have f829 : TXG K a0 G H827 s.heap := ⟨fun k h0 h1 => (fR_kept (wH827.off (G_ne ga0 glbq (by decide)))).trans (f802.1 k h0 h1), fun q t hq h1 => (wH827.off (G_ne hq glbq (by first | omega | (intro z; simp only [List.mem_cons, List.not_mem_nil, or_false] at z <;> omega)))).trans (f802.2 q t hq h1)⟩
      have f830 : ∀ j : Nat, fI H827 gq j = fI s.heap gq j := fun j => (Wr.neI wH827 (Or.inl (G_ne ggq glbq (by decide)))).trans (f803 j)
      have m831 := m804.trans (Wr.neR wH827 (Or.inl (G_ne ga0 glbq (by decide)))).symm
      have m832 := m805.trans (Wr.neR wH827 (Or.inl (G_ne ga0 glbq (by decide)))).symm
      have m833 := m806.trans (Wr.neR wH827 (Or.inl (G_ne ga0 glbq (by decide)))).symm
      have m834 := m807.trans (Wr.neR wH827 (Or.inl (G_ne ga0 glbq (by decide)))).symm
      have m835 := m808.trans (Wr.neR wH827 (Or.inl (G_ne ga0 glbq (by decide)))).symm
      have m836 := m809.trans (Wr.neR wH827 (Or.inl (G_ne ga0 glbq (by decide)))).symm
      have m837 := m810.trans (Wr.neR wH827 (Or.inl (G_ne ga0 glbq (by decide)))).symm
      have m839 := m812.trans (Wr.neI wH827 (Or.inl (G_ne gslq glbq (by decide)))).symm
      have m840 := m813.trans (Wr.neI wH827 (Or.inl (G_ne ga0 glbq (by decide)))).symm
      have m841 := m814.trans (Wr.neI wH827 (Or.inl (G_ne ga0 glbq (by decide)))).symm
      have m842 := m815.trans (Wr.neI wH827 (Or.inl (G_ne gkq glbq (by decide)))).symm
      have m843 := m816.trans (Wr.neI wH827 (Or.inl (G_ne gpaq glbq (by decide)))).symm
      have m844 := m817.trans (Wr.neI wH827 (Or.inl (G_ne gpdq glbq (by decide)))).symm
      have m845 := m818.trans (Wr.neI wH827 (Or.inl (G_ne gpsq glbq (by decide)))).symm
      have m846 := Wr.I wH827
      have m846 := m846.symm
      have cn_x1 := i_cl (x := x1) (by omega)
      have cn_x2 := i_cl (x := x2) (by omega)
      have cn_x1 := i_cl (x := x1) (by omega)
      have vr847 : vwR K H827 a0 x1.toNatClampNeg = (upV (upV (upV (upV (upV (vwR K s.heap a0 x1.toNatClampNeg) 1 x2.toNatClampNeg x696.toInt) 6 ps.toNatClampNeg x2.toInt) 7 ps.toNatClampNeg x3.toInt) 8 0 x771.toInt) 9 0 x771.toInt) := by rw [vr_arr (k := 9) (i := 0) hTH798 ga0 wH827 m808 (by decide) (show x1.toNatClampNeg = 1 * x1.toNatClampNeg + 0 by omega) (fun _ => rfl) rfl, vr819]
      have vo848 : ∀ b2 : Nat, b2 ≠ x1.toNatClampNeg → EqV (vwR K H827 a0 b2) (vwR K s.heap a0 b2) := fun b2 hb => (vr_oth (k := 9) (i := 0) hTH798 ga0 wH827 m808 (by decide) (show x1.toNatClampNeg = 1 * x1.toNatClampNeg + 0 by omega) (show 0 < 1 by omega) hb).tr (vo820 b2 hb)
      have cn_x2 := i_cl (x := x2) (by omega)
      have cn_ps := i_cl (x := ps) (by omega)
      have cn_x1 := i_cl (x := x1) (by omega)
      have cn_x694 := i_cl (x := x694) (by omega)
      have v1_ : (vwR K s.heap a0 x1.toNatClampNeg) 1 x2.toInt.toNat = x695.toInt := by
        rw [vwR_a (k := 1) (by decide)]
        show (fI s.heap (fR s.heap a0 (K.1.2 10 5)) (16 * x1.toNatClampNeg + x2.toNatClampNeg)).toInt = _
        rw [← ekq, show 16 * x1.toNatClampNeg + x2.toNatClampNeg = x694.toNatClampNeg by omega, ← ex695]
      have c1_ : x3.toInt < x695.toInt := by have z := hy2; rw [show 16 * x1.toNatClampNeg + x2.toNatClampNeg = x694.toNatClampNeg by omega, ← ex695] at z; exact z
      exact x_vret C hQ dX10_takesOff_103 hSH827 (by decide) (by decide) (⟨x771, x771, rfl, m845, m846, (vr847.trans (paV_l (n := x2.toNatClampNeg) (m := ps.toNatClampNeg) (z := x696.toInt) (p := x771.toInt) (by rw [v00, v80, v1_]; omega) rfl (by rw [v80]; rfl) (by rw [show x2.toNatClampNeg = x2.toInt.toNat from rfl, v1_]; omega) (by rw [v80]; omega) (show (upV (upV (upV (upV (vwR K s.heap a0 x1.toNatClampNeg) 1 x2.toNatClampNeg x696.toInt) 6 ps.toNatClampNeg x2.toInt) 7 ps.toNatClampNeg x3.toInt) 8 0 x771.toInt) = _ from rfl) ⟨by rw [v90]; omega, lw821.trans (decide_eq_true (by omega))⟩).symm), vo848, hTH827⟩)
