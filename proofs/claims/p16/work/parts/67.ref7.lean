/-! ===== codes are put together ===== -/
theorem WF.keep {f g f1 g1 : Nat → Int32} {a z D E : Nat} (h : WF f g a z D E) (hf : ∀ j, j < z → f1 j = f j) (hg : ∀ j, j < z → g1 j = g j) : WF f1 g1 a z D E := by
  obtain ⟨d, h1, h2, h3⟩ := h
  refine ⟨d, h1, h2, fun k ha hz => ?_⟩
  have h4 := h3 k ha hz
  rw [← hf k hz, ← hg k hz, ← hf (k - 1) (by omega), ← hg (k - 1) (by omega)] at h4
  exact h4
theorem WF.congr {f g f1 g1 : Nat → Int32} {a z D E : Nat} (hf : ∀ j, f1 j = f j) (hg : ∀ j, g1 j = g j) (h : WF f g a z D E) : WF f1 g1 a z D E := h.keep (fun j _ => hf j) (fun j _ => hg j)
theorem WF.cast {f g : Nat → Int32} {a a' z z' D E : Nat} (h : WF f g a z D E) (ha : a' = a) (hz : z' = z) : WF f g a' z' D E := by rw [ha, hz]; exact h
theorem WF.lift {f g : Nat → Int32} {a z D E : Nat} (c : Nat) (h : WF f g a z D E) : WF f g a z (D + c) (E + c) := by
  obtain ⟨d, h1, h2, h3⟩ := h
  refine ⟨fun k => d k + c, by show d a + c = _; rw [h1], by show d z + c = _; rw [h2], fun k ha hz => ?_⟩
  have h4 := h3 k ha hz
  show _ ∨ _ ∨ _ ∨ _
  dsimp only
  omega
theorem WF.cat {f g : Nat → Int32} {a m z D E F : Nat} (h : WF f g a m D E) (h' : WF f g m z E F) (ha : a ≤ m) (hm : m ≤ z) : WF f g a z D F := by
  obtain ⟨d, h1, h2, h3⟩ := h
  obtain ⟨e, k1, k2, k3⟩ := h'
  refine ⟨fun k => if k < m then d k else e k, ?_, ?_, fun k ha' hz => ?_⟩
  · by_cases c : a < m
    · show (if a < m then _ else _) = _; rw [if_pos c]; exact h1
    · have : a = m := by omega
      subst this
      show (if a < a then _ else _) = _
      rw [if_neg (by omega), k1, ← h2, h1]
  · show (if z < m then _ else _) = _; rw [if_neg (by omega)]; exact k2
  · by_cases c : k < m
    · have h4 := h3 k ha' c
      have e1 : (if k < m then d k else e k) = d k := if_pos c
      have e2 : (if k + 1 < m then d (k + 1) else e (k + 1)) = d (k + 1) := by
        by_cases c2 : k + 1 < m
        · exact if_pos c2
        · rw [if_neg c2]
          have : k + 1 = m := by omega
          rw [this, k1, h2]
      dsimp only
      rw [e1, e2]
      exact h4
    · have h4 := k3 k (by omega) hz
      dsimp only
      rw [if_neg c, if_neg (show ¬ k + 1 < m by omega)]
      omega
theorem WF.nil {f g : Nat → Int32} {a D : Nat} : WF f g a a D D := ⟨fun _ => D, rfl, rfl, fun k h1 h2 => by omega⟩
theorem WF.num {f g : Nat → Int32} {a : Nat} (h : (f a).toInt = 0) : WF f g a (a + 1) 0 1 := by
  refine ⟨fun k => k - a, by dsimp only; omega, by dsimp only; omega, fun k h1 h2 => ?_⟩
  have : k = a := by omega
  subst this
  exact Or.inl ⟨h, by dsimp only; omega⟩
theorem WF.ask {f g : Nat → Int32} {a : Nat} (h : (f a).toInt = 1) (hg : 0 ≤ (g a).toInt ∧ (g a).toInt ≤ 13) : WF f g a (a + 1) 0 1 := by
  refine ⟨fun k => k - a, by dsimp only; omega, by dsimp only; omega, fun k h1 h2 => ?_⟩
  have : k = a := by omega
  subst this
  exact Or.inr (Or.inl ⟨h, by dsimp only; omega, hg⟩)
theorem WF.stp {f g : Nat → Int32} {a z E F : Nat} (h : WF f g a z 0 E) (haz : a ≤ z)
    (hs : ((f z).toInt = 9 ∧ 1 ≤ E ∧ F = E) ∨ (2 ≤ (f z).toInt ∧ (f z).toInt ≤ 11 ∧ (f z).toInt ≠ 9 ∧ 2 ≤ E ∧ F + 1 = E ∧ ((f z).toInt ≠ 5 ∨ (a < z ∧ (f (z - 1)).toInt = 0 ∧ (g (z - 1)).toInt ≠ 0)))) : WF f g a (z + 1) 0 F := by
  obtain ⟨d, h1, h2, h3⟩ := h
  refine ⟨fun k => if k ≤ z then d k else F, ?_, ?_, fun k ha' hz => ?_⟩
  · show (if a ≤ z then _ else _) = _; rw [if_pos haz]; exact h1
  · show (if z + 1 ≤ z then _ else _) = _; rw [if_neg (by omega)]
  · by_cases c : k = z
    · subst c
      dsimp only
      rw [if_pos (Nat.le_refl _), if_neg (show ¬ k + 1 ≤ k by omega)]
      omega
    · have h4 := h3 k ha' (by omega)
      dsimp only
      rw [if_pos (show k ≤ z by omega), if_pos (show k + 1 ≤ z by omega)]
      exact h4
theorem WF.bin {f g : Nat → Int32} {a m z : Nat} (h : WF f g a m 0 1) (u : WF f g m z 0 1) (ha : a ≤ m) (hm : m ≤ z) (ho : 2 ≤ (f z).toInt ∧ (f z).toInt ≤ 11 ∧ (f z).toInt ≠ 9) (hp : (f z).toInt ≠ 5 ∨ (z = m + 1 ∧ (f m).toInt = 0 ∧ (g m).toInt ≠ 0)) : WF f g a (z + 1) 0 1 := by
  refine WF.stp (WF.cat h (WF.lift 1 u) ha hm) (by omega) (Or.inr ⟨ho.1, ho.2.1, ho.2.2, Nat.le_refl _, rfl, ?_⟩)
  rcases hp with hp | ⟨rfl, h1, h2⟩
  · exact Or.inl hp
  · exact Or.inr ⟨by omega, h1, h2⟩
theorem av_500 {K : KE} {G : Nat → Option Nat} {H : Heap} {b j : Nat} (hT : TY K G H) (gb : G b = some 112) (hj : j < 112) : (avw K H b 29 j).toInt ≤ 500 ∧ (avw K H b 30 j).toInt ≤ 500 ∧ (avw K H b 31 j).toInt ≤ 500 := by
  obtain ⟨c1, -, -, -, -, g1⟩ := hT.fref (k := 29) gb rgM rfl
  obtain ⟨c2, -, -, -, -, g2⟩ := hT.fref (k := 30) gb rgM rfl
  obtain ⟨c3, -, -, -, -, g3⟩ := hT.fref (k := 31) gb rgM rfl
  obtain ⟨d1, -, -, -, -, -, -, e1⟩ := hT.aint g1 rg_133 hj
  obtain ⟨d2, -, -, -, -, -, -, e2⟩ := hT.aint g2 rg_134 hj
  obtain ⟨d3, -, -, -, -, -, -, e3⟩ := hT.aint g3 rg_135 hj
  exact ⟨e1, e2, e3⟩
theorem CG.putD {K : KE} {G : Nat → Option Nat} {H H1 : Heap} {b q i t : Nat} {x : Int32} (hT : TY K G H) (gb : G b = some 112) (w : Wr H H1 q i (.int x)) (gq : G q = some t) (ht : t = 136 ∨ t = 137) (hi : 3000 ≤ i) (h : CG (avw K H b)) : CG (avw K H1 b) := by
  have h112 : 112 ≠ t := by omega
  have ek : ∀ k ∈ ([24, 29, 30, 31] : List Nat), ∀ j, avw K H1 b k j = avw K H b k j := by
    intro k hk j
    refine av_arr hT gb w gq h112 ?_
    rcases ht with rfl | rfl
    · exact List.all_eq_true.mp (show ([24, 29, 30, 31] : List Nat).all (fun k => arOk k 136) = true by decide) k hk
    · exact List.all_eq_true.mp (show ([24, 29, 30, 31] : List Nat).all (fun k => arOk k 137) = true by decide) k hk
  have el : ∀ k j, j < 3000 → avw K H1 b k j = avw K H b k j := by
    intro k j hj
    unfold avw
    rw [Wr.neR w (Or.inl (G_ne gb gq h112))]
    exact Wr.neI w (Or.inr (by omega))
  intro row l h1 h2 h3
  rw [ek 24 (by decide)] at h3
  obtain ⟨⟨E, a1⟩, F, a2⟩ := h row l h1 h2 h3
  have hr := av_500 (j := 16 * row + l) hT gb (by omega)
  rw [ek 29 (by decide), ek 30 (by decide), ek 31 (by decide)]
  have cl : ∀ y : Int32, y.toInt ≤ 500 → y.toNatClampNeg ≤ 500 := fun y hy => by show y.toInt.toNat ≤ 500; omega
  have c2 := cl _ hr.2.1
  have c3 := cl _ hr.2.2
  exact ⟨⟨E, a1.keep (fun j hj => el 32 j (by omega)) (fun j hj => el 33 j (by omega))⟩, F, a2.keep (fun j hj => el 32 j (by omega)) (fun j hj => el 33 j (by omega))⟩
set_option maxHeartbeats 4000000 in
set_option maxRecDepth 100000 in
theorem a_X10_emits (l : Launch) (K : KE) (G : Nat → Option Nat) (H : Heap) {a0 : Nat} (x1 : Int32) (x2 : Int32) {oq : Nat} {aq : Nat} (mn : Int32) (hT : TY K G H) (ga0 : G a0 = some 112) (goq : G oq = some 136) (eoq : oq = fR H a0 (K.1.2 10 32)) (gaq : G aq = some 137) (eaq : aq = fR H a0 (K.1.2 10 33)) (emn : mn = fI H a0 (K.1.2 10 35)) (hg_CG : CG (avw K H a0)) (hg_TU : TU (avw K H a0) (svw K H a0)) (hg_WD : WD (avw K H a0)) (hg_IM : IM (avw K H a0)) (hp0 : mn.toInt ≤ 499) : MX l K yX10_emits cX10_emits 3 none 0 0 0 0 [.ref a0, .int x1, .int x2] H (AE G [112, 136, 137] H.size) (fun v H1 => ∃ (t0 : Int32), v = none ∧ t0 = fI H1 a0 (K.1.2 10 35) ∧ (t0.toInt = mn.toInt + 1) ∧ oq = fR H1 a0 (K.1.2 10 32) ∧ aq = fR H1 a0 (K.1.2 10 33) ∧ (CG (avw K H1 a0)) ∧ (TU (avw K H1 a0) (svw K H1 a0)) ∧ (WD (avw K H1 a0)) ∧ (IM (avw K H1 a0)) ∧ MF K H H1 a0 [35] ∧ (x1 = fI H1 oq (3000 + mn.toNatClampNeg)) ∧ (x2 = fI H1 aq (3000 + mn.toNatClampNeg)) ∧ (∀ j : Nat, j ≠ 3000 + mn.toNatClampNeg → fI H1 oq j = fI H oq j) ∧ (∀ j : Nat, j ≠ 3000 + mn.toNatClampNeg → fI H1 aq j = fI H aq j) ∧ TY K G H1) := by
  refine MX.of (by decide +kernel) (Nat.le_of_ble_eq_true rfl) ?_
  intro p e s m below meth c ls Q C hH hl hQ
  subst hH
  have C : CX p K s m _ meth c RX10 cX10_emits 3 none "emits" := C
  obtain ⟨hx, hb, hml, hown, hts, hKT, hr, hlocks, hnm⟩ := id C
  have hl : lv_has ls 3 [(0, .ref a0), (1, .int x1), (2, .int x2)] := hl
  have hS : va_S (AE G [112, 136, 137] s.heap.size) s.heap s.heap [] := va_S.rf
  have n_1 : (1 : Int32).toInt = 1 := rfl
  have n_3000 : (3000 : Int32).toInt = 3000 := rfl
  have bmn := ty_fi (x := mn) (k := 35) emn hT ga0 rg_112 rfl
  have hap : ∀ x y, x < 74 → y < 74 → x ≠ y → K.1.2 10 x ≠ K.1.2 10 y := x_apart hKT hts inX10 tyX10 tyX10_ok nmX10 rfl
  have mf0 : MF K s.heap s.heap a0 [35] := fun _ _ _ => rfl
  have hmn := i_cl (x := mn) (by omega)
  refine lv_aload_n hx hb dX10_emits_0 rfl (lv_at hl 0 rfl) ?_
  refine x_gr C hT (ci := 10) (k := 32) rfl inX10 (by decide) wF_X10_83 ga0 rg_112 rfl dX10_emits_1 (fun q265 eq265 gq265 => ?_)
  have uq265 : oq = q265 := (eoq).trans eq265.symm
  subst uq265
  refine lv_sipush (v := 3000) hx hb dX10_emits_4 (by decide) ?_
  refine lv_aload_n hx hb dX10_emits_7 rfl (lv_at hl 0 rfl) ?_
  refine x_gi C hT (ci := 10) (k := 35) rfl inX10 (by decide) wF_X10_228 ga0 rg_112 rfl dX10_emits_8 (fun x266 ex266 bx266 => ?_)
  have ux266 : mn = x266 := (emn).trans ex266.symm
  subst ux266
  refine lv_iadd hx hb dX10_emits_11 ?_
  refine lv_topi (fun x267 ex267 => ?_)
  have tx267 := i_add ex267 (by omega)
  refine lv_iload_n hx hb dX10_emits_12 rfl (lv_at hl 1 rfl) ?_
  refine x_iast C hT hS goq rg_136 (by omega) (by show _ < ((3500 : Nat) : Int); omega) ⟨by have := i_rng x1; omega, by have := i_rng x1; omega⟩ (AE_in goq (by decide)) dX10_emits_13 (fun H268 locsH268 hTH268 hSH268 wH268 => ?_)
  have mf269 : MF K s.heap H268 a0 [35] := MF.arr wH268 (G_ne ga0 goq (by decide)) mf0
  have ciH268 := i_cl (x := x267) (by omega)
  have g270 : CG (avw K H268 a0) := CG.putD hT ga0 wH268 goq (by decide) (by omega) hg_CG
  have g271 : TU (avw K H268 a0) (svw K H268 a0) := TU.congr (fun k hk j => av_arr hT ga0 wH268 goq (by decide) (TU_ok 136 (by decide) k hk)) (fun k hk => sv_arr ga0 wH268 goq (by decide)) hg_TU
  have g272 : WD (avw K H268 a0) := WD.congr (fun k hk j => av_arr hT ga0 wH268 goq (by decide) (WD_ok 136 (by decide) k hk)) hg_WD
  have g273 : IM (avw K H268 a0) := IM.congr (fun k hk j => av_arr hT ga0 wH268 goq (by decide) (IM_ok 136 (by decide) k hk)) hg_IM
  have m274 := eoq.trans (Wr.neR wH268 (Or.inl (G_ne ga0 goq (by decide)))).symm
  have m275 := eaq.trans (Wr.neR wH268 (Or.inl (G_ne ga0 goq (by decide)))).symm
  have m276 := emn.trans (Wr.neI wH268 (Or.inl (G_ne ga0 goq (by decide)))).symm
  have m277 := Wr.I wH268
  have m277 := m277.symm
  refine lv_aload_n hx hb dX10_emits_14 rfl (lv_at hl 0 rfl) ?_
  refine x_gr C hTH268 (ci := 10) (k := 33) rfl inX10 (by decide) wF_X10_86 ga0 rg_112 rfl dX10_emits_15 (fun q278 eq278 gq278 => ?_)
  have uq278 : aq = q278 := (m275).trans eq278.symm
  subst uq278
  refine lv_sipush (v := 3000) hx hb dX10_emits_18 (by decide) ?_
  refine lv_aload_n hx hb dX10_emits_21 rfl (lv_at hl 0 rfl) ?_
  refine x_gi C hTH268 (ci := 10) (k := 35) rfl inX10 (by decide) wF_X10_228 ga0 rg_112 rfl dX10_emits_22 (fun x279 ex279 bx279 => ?_)
  have ux279 : mn = x279 := (m276).trans ex279.symm
  subst ux279
  refine lv_iadd hx hb dX10_emits_25 ?_
  refine lv_topi (fun x280 ex280 => ?_)
  have tx280 := i_add ex280 (by omega)
  refine lv_iload_n hx hb dX10_emits_26 rfl (lv_at hl 2 rfl) ?_
  refine x_iast C hTH268 hSH268 gaq rg_137 (by omega) (by show _ < ((3500 : Nat) : Int); omega) ⟨by have := i_rng x2; omega, by have := i_rng x2; omega⟩ (AE_in gaq (by decide)) dX10_emits_27 (fun H281 locsH281 hTH281 hSH281 wH281 => ?_)
  have mf282 : MF K s.heap H281 a0 [35] := MF.arr wH281 (G_ne ga0 gaq (by decide)) mf269
  have ciH281 := i_cl (x := x280) (by omega)
  have g283 : CG (avw K H281 a0) := CG.putD hTH268 ga0 wH281 gaq (by decide) (by omega) g270
  have g284 : TU (avw K H281 a0) (svw K H281 a0) := TU.congr (fun k hk j => av_arr hTH268 ga0 wH281 gaq (by decide) (TU_ok 137 (by decide) k hk)) (fun k hk => sv_arr ga0 wH281 gaq (by decide)) g271
  have g285 : WD (avw K H281 a0) := WD.congr (fun k hk j => av_arr hTH268 ga0 wH281 gaq (by decide) (WD_ok 137 (by decide) k hk)) g272
  have g286 : IM (avw K H281 a0) := IM.congr (fun k hk j => av_arr hTH268 ga0 wH281 gaq (by decide) (IM_ok 137 (by decide) k hk)) g273
  have m287 := m274.trans (Wr.neR wH281 (Or.inl (G_ne ga0 gaq (by decide)))).symm
  have m288 := m275.trans (Wr.neR wH281 (Or.inl (G_ne ga0 gaq (by decide)))).symm
  have m289 := m276.trans (Wr.neI wH281 (Or.inl (G_ne ga0 gaq (by decide)))).symm
  have m290 := m277.trans (Wr.neI wH281 (Or.inl (G_ne goq gaq (by decide)))).symm
  have m291 := Wr.I wH281
  have m291 := m291.symm
  refine lv_aload_n hx hb dX10_emits_28 rfl (lv_at hl 0 rfl) ?_
  refine lv_aload_n hx hb dX10_emits_29 rfl (lv_at hl 0 rfl) ?_
  refine x_gi C hTH281 (ci := 10) (k := 35) rfl inX10 (by decide) wF_X10_228 ga0 rg_112 rfl dX10_emits_30 (fun x292 ex292 bx292 => ?_)
  have ux292 : mn = x292 := (m289).trans ex292.symm
  subst ux292
  refine lv_iconst (v := 1) hx hb dX10_emits_33 (by decide) ?_
  refine lv_iadd hx hb dX10_emits_34 ?_
  refine lv_topi (fun x293 ex293 => ?_)
  have tx293 := i_add ex293 (by omega)
  refine x_put C hTH281 hSH281 (ci := 10) (k := 35) (v := .int x293) (ty0 := tyX10) rfl inX10 tyX10_ok nmX10 (by decide) rfl wF_X10_228 ga0 rg_112 rfl rfl (okI (by have := i_rng x293; omega) (by have := i_rng x293; omega)) rfl rfl (AE_in ga0 (by decide)) dX10_emits_35 (fun H294 locsH294 hTH294 hSH294 wH294 => ?_)
  have mf295 : MF K s.heap H294 a0 [35] := MF.fld hap wH294 (by decide) (by decide) mf282
  have g296 : CG (avw K H294 a0) := CG.congr (fun k hk j => av_fld hTH281 ga0 hap wH294 (by decide) (CG_ok 112 (by decide) k hk) (CG_ne 35 (by decide) k hk)) g283
  have g297 : TU (avw K H294 a0) (svw K H294 a0) := TU.congr (fun k hk j => av_fld hTH281 ga0 hap wH294 (by decide) (TU_ok 112 (by decide) k hk) (TU_ne 35 (by decide) k hk)) (fun k hk => sv_fld hap wH294 (by decide) (TU_slt k hk) (TU_sne 35 (by decide) k hk)) g284
  have g298 : WD (avw K H294 a0) := WD.congr (fun k hk j => av_fld hTH281 ga0 hap wH294 (by decide) (WD_ok 112 (by decide) k hk) (WD_ne 35 (by decide) k hk)) g285
  have g299 : IM (avw K H294 a0) := IM.congr (fun k hk j => av_fld hTH281 ga0 hap wH294 (by decide) (IM_ok 112 (by decide) k hk) (IM_ne 35 (by decide) k hk)) g286
  have m300 := m287.trans (Wr.neR wH294 (Or.inr (x_apart hKT hts inX10 tyX10 tyX10_ok nmX10 rfl 32 35 (by decide) (by decide) (by decide)))).symm
  have m301 := m288.trans (Wr.neR wH294 (Or.inr (x_apart hKT hts inX10 tyX10 tyX10_ok nmX10 rfl 33 35 (by decide) (by decide) (by decide)))).symm
  have m303 := m290.trans (Wr.neI wH294 (Or.inl (G_ne goq ga0 (by decide)))).symm
  have m304 := m291.trans (Wr.neI wH294 (Or.inl (G_ne gaq ga0 (by decide)))).symm
  have m305 := Wr.I wH294
  have m305 := m305.symm
  exact x_vret C hQ dX10_emits_38 hSH294 (by decide) (by decide) (⟨x293, rfl, m305, by omega, m300, m301, g296, g297, g298, g299, mf295, (by rw [show 3000 + mn.toNatClampNeg = x267.toNatClampNeg by omega]; exact m303), (by rw [show 3000 + mn.toNatClampNeg = x280.toNatClampNeg by omega]; exact m304), (fun j hj => (Wr.neI wH294 (Or.inl (G_ne goq ga0 (by decide)))).trans ((Wr.neI wH281 (Or.inl (G_ne goq gaq (by decide)))).trans (Wr.neI wH268 (Or.inr (by omega))))), (fun j hj => (Wr.neI wH294 (Or.inl (G_ne gaq ga0 (by decide)))).trans ((Wr.neI wH281 (Or.inr (by omega))).trans (Wr.neI wH268 (Or.inl (G_ne gaq goq (by decide)))))), hTH294⟩)

set_option maxHeartbeats 4000000 in
set_option maxRecDepth 100000 in
theorem a_X10_fails (l : Launch) (K : KE) (G : Nat → Option Nat) (H : Heap) {a0 : Nat} (x1 : Int32) (hT : TY K G H) (ga0 : G a0 = some 112) (hg_CG : CG (avw K H a0)) (hg_TU : TU (avw K H a0) (svw K H a0)) (hg_WD : WD (avw K H a0)) (hg_IM : IM (avw K H a0)) : MX l K yX10_fails cX10_fails 2 (some .int) 0 0 0 0 [.ref a0, .int x1] H (AE G [112] H.size) (fun v H1 => ∃ (r : Int32), v = some (.int r) ∧ ((-1) ≤ r.toInt ∧ r.toInt ≤ (-1)) ∧ (CG (avw K H1 a0)) ∧ (TU (avw K H1 a0) (svw K H1 a0)) ∧ (WD (avw K H1 a0)) ∧ (IM (avw K H1 a0)) ∧ MF K H H1 a0 [39, 40] ∧ TY K G H1) := by
  refine MX.of (by decide +kernel) (Nat.le_of_ble_eq_true rfl) ?_
  intro p e s m below meth c ls Q C hH hl hQ
  subst hH
  have C : CX p K s m _ meth c RX10 cX10_fails 2 (some .int) "fails" := C
  obtain ⟨hx, hb, hml, hown, hts, hKT, hr, hlocks, hnm⟩ := id C
  have hl : lv_has ls 2 [(0, .ref a0), (1, .int x1)] := hl
  have hS : va_S (AE G [112] s.heap.size) s.heap s.heap [] := va_S.rf
  have n_m1 : ((-1) : Int32).toInt = -1 := rfl
  have hap : ∀ x y, x < 74 → y < 74 → x ≠ y → K.1.2 10 x ≠ K.1.2 10 y := x_apart hKT hts inX10 tyX10 tyX10_ok nmX10 rfl
  have mf0 : MF K s.heap s.heap a0 [39, 40] := fun _ _ _ => rfl
  refine lv_aload_n hx hb dX10_fails_0 rfl (lv_at hl 0 rfl) ?_
  refine lv_iload_n hx hb dX10_fails_1 rfl (lv_at hl 1 rfl) ?_
  refine x_put C hT hS (ci := 10) (k := 39) (v := .int x1) (ty0 := tyX10) rfl inX10 tyX10_ok nmX10 (by decide) rfl wF_X10_222 ga0 rg_112 rfl rfl (okI (by have := i_rng x1; omega) (by have := i_rng x1; omega)) rfl rfl (AE_in ga0 (by decide)) dX10_fails_2 (fun H169 locsH169 hTH169 hSH169 wH169 => ?_)
  have mf170 : MF K s.heap H169 a0 [39, 40] := MF.fld hap wH169 (by decide) (by decide) mf0
  have g171 : CG (avw K H169 a0) := CG.congr (fun k hk j => av_fld hT ga0 hap wH169 (by decide) (CG_ok 112 (by decide) k hk) (CG_ne 39 (by decide) k hk)) hg_CG
  have g172 : TU (avw K H169 a0) (svw K H169 a0) := TU.congr (fun k hk j => av_fld hT ga0 hap wH169 (by decide) (TU_ok 112 (by decide) k hk) (TU_ne 39 (by decide) k hk)) (fun k hk => sv_fld hap wH169 (by decide) (TU_slt k hk) (TU_sne 39 (by decide) k hk)) hg_TU
  have g173 : WD (avw K H169 a0) := WD.congr (fun k hk j => av_fld hT ga0 hap wH169 (by decide) (WD_ok 112 (by decide) k hk) (WD_ne 39 (by decide) k hk)) hg_WD
  have g174 : IM (avw K H169 a0) := IM.congr (fun k hk j => av_fld hT ga0 hap wH169 (by decide) (IM_ok 112 (by decide) k hk) (IM_ne 39 (by decide) k hk)) hg_IM
  have m175 := Wr.I wH169
  have m175 := m175.symm
  refine lv_aload_n hx hb dX10_fails_5 rfl (lv_at hl 0 rfl) ?_
  refine lv_aload_n hx hb dX10_fails_6 rfl (lv_at hl 0 rfl) ?_
  refine x_gi C hTH169 (ci := 10) (k := 20) rfl inX10 (by decide) wF_X10_199 ga0 rg_112 rfl dX10_fails_7 (fun x176 ex176 bx176 => ?_)
  refine x_put C hTH169 hSH169 (ci := 10) (k := 40) (v := .int x176) (ty0 := tyX10) rfl inX10 tyX10_ok nmX10 (by decide) rfl wF_X10_225 ga0 rg_112 rfl rfl (okI (by have := i_rng x176; omega) (by have := i_rng x176; omega)) rfl rfl (AE_in ga0 (by decide)) dX10_fails_10 (fun H177 locsH177 hTH177 hSH177 wH177 => ?_)
  have mf178 : MF K s.heap H177 a0 [39, 40] := MF.fld hap wH177 (by decide) (by decide) mf170
  have g179 : CG (avw K H177 a0) := CG.congr (fun k hk j => av_fld hTH169 ga0 hap wH177 (by decide) (CG_ok 112 (by decide) k hk) (CG_ne 40 (by decide) k hk)) g171
  have g180 : TU (avw K H177 a0) (svw K H177 a0) := TU.congr (fun k hk j => av_fld hTH169 ga0 hap wH177 (by decide) (TU_ok 112 (by decide) k hk) (TU_ne 40 (by decide) k hk)) (fun k hk => sv_fld hap wH177 (by decide) (TU_slt k hk) (TU_sne 40 (by decide) k hk)) g172
  have g181 : WD (avw K H177 a0) := WD.congr (fun k hk j => av_fld hTH169 ga0 hap wH177 (by decide) (WD_ok 112 (by decide) k hk) (WD_ne 40 (by decide) k hk)) g173
  have g182 : IM (avw K H177 a0) := IM.congr (fun k hk j => av_fld hTH169 ga0 hap wH177 (by decide) (IM_ok 112 (by decide) k hk) (IM_ne 40 (by decide) k hk)) g174
  have m183 := m175.trans (Wr.neI wH177 (Or.inr (x_apart hKT hts inX10 tyX10 tyX10_ok nmX10 rfl 39 40 (by decide) (by decide) (by decide)))).symm
  have m184 := ex176.trans (Wr.neI wH177 (Or.inr (x_apart hKT hts inX10 tyX10 tyX10_ok nmX10 rfl 20 40 (by decide) (by decide) (by decide)))).symm
  have m185 := Wr.I wH177
  have m185 := m185.symm
  refine lv_iconst (v := (-1)) hx hb dX10_fails_13 (by decide) ?_
  exact x_iret C hQ dX10_fails_14 hSH177 (by decide) (by decide) (⟨(-1), rfl, by decide, g179, g180, g181, g182, mf178, hTH177⟩)

set_option maxHeartbeats 4000000 in
set_option maxRecDepth 100000 in
theorem a_X10_isWord (l : Launch) (K : KE) (G : Nat → Option Nat) (H : Heap) {a0 : Nat} (x1 : Int32) (tk : Int32) (vl : Int32) (hT : TY K G H) (ga0 : G a0 = some 112) (etk : tk = fI H a0 (K.1.2 10 21)) (evl : vl = fI H a0 (K.1.2 10 22)) : MX l K yX10_isWord cX10_isWord 2 (some .boolean) 0 0 0 0 [.ref a0, .int x1] H (AE G [] H.size) (fun v H1 => ∃ (r : Int32), v = some (.int r) ∧ (0 ≤ r.toInt ∧ r.toInt ≤ 1) ∧ (r.toInt = 0 ∨ (tk.toInt = 2 ∧ vl.toInt = x1.toInt)) ∧ TY K G H1) := by
  refine MX.of (by decide +kernel) (Nat.le_of_ble_eq_true rfl) ?_
  intro p e s m below meth c ls Q C hH hl hQ
  subst hH
  have C : CX p K s m _ meth c RX10 cX10_isWord 2 (some .boolean) "isWord" := C
  obtain ⟨hx, hb, hml, hown, hts, hKT, hr, hlocks, hnm⟩ := id C
  have hl : lv_has ls 2 [(0, .ref a0), (1, .int x1)] := hl
  have hS : va_S (AE G [] s.heap.size) s.heap s.heap [] := va_S.rf
  have n_0 : (0 : Int32).toInt = 0 := rfl
  have n_1 : (1 : Int32).toInt = 1 := rfl
  have n_2 : (2 : Int32).toInt = 2 := rfl
  have btk := ty_fi (x := tk) (k := 21) etk hT ga0 rg_112 rfl
  have bvl := ty_fi (x := vl) (k := 22) evl hT ga0 rg_112 rfl
  have hap : ∀ x y, x < 74 → y < 74 → x ≠ y → K.1.2 10 x ≠ K.1.2 10 y := x_apart hKT hts inX10 tyX10 tyX10_ok nmX10 rfl
  refine lv_aload_n hx hb dX10_isWord_0 rfl (lv_at hl 0 rfl) ?_
  refine x_gi C hT (ci := 10) (k := 21) rfl inX10 (by decide) wF_X10_202 ga0 rg_112 rfl dX10_isWord_1 (fun x125 ex125 bx125 => ?_)
  have ux125 : tk = x125 := (etk).trans ex125.symm
  subst ux125
  refine lv_iconst (v := 2) hx hb dX10_isWord_4 (by decide) ?_
  refine lv_icmp_ne (tgt := 20) hx hb dX10_isWord_5 (by decide) (fun c126 => ?_) (fun c126 => ?_)
  · have k127 := i_ne c126
    refine lv_iconst (v := 0) hx hb dX10_isWord_20 (by decide) ?_
    exact x_zret C hQ (Or.inl rfl) dX10_isWord_21 hS (by decide) (by decide) (⟨0, rfl, by decide, by omega, hT⟩)
  · have k127 := i_eq c126
    refine lv_aload_n hx hb dX10_isWord_8 rfl (lv_at hl 0 rfl) ?_
    refine x_gi C hT (ci := 10) (k := 22) rfl inX10 (by decide) wF_X10_205 ga0 rg_112 rfl dX10_isWord_9 (fun x128 ex128 bx128 => ?_)
    have ux128 : vl = x128 := (evl).trans ex128.symm
    subst ux128
    refine lv_iload_n hx hb dX10_isWord_12 rfl (lv_at hl 1 rfl) ?_
    refine lv_icmp_ne (tgt := 20) hx hb dX10_isWord_13 (by decide) (fun c129 => ?_) (fun c129 => ?_)
    · have k130 := i_ne c129
      refine lv_iconst (v := 0) hx hb dX10_isWord_20 (by decide) ?_
      exact x_zret C hQ (Or.inl rfl) dX10_isWord_21 hS (by decide) (by decide) (⟨0, rfl, by decide, by omega, hT⟩)
    · have k130 := i_eq c129
      refine lv_iconst (v := 1) hx hb dX10_isWord_16 (by decide) ?_
      refine lv_goto (tgt := 21) hx hb dX10_isWord_17 (by decide) ?_
      exact x_zret C hQ (Or.inr rfl) dX10_isWord_21 hS (by decide) (by decide) (⟨1, rfl, by decide, by omega, hT⟩)

set_option maxHeartbeats 4000000 in
set_option maxRecDepth 100000 in
theorem a_X10_isSign (l : Launch) (K : KE) (G : Nat → Option Nat) (H : Heap) {a0 : Nat} (x1 : Int32) (tk : Int32) (vl : Int32) (hT : TY K G H) (ga0 : G a0 = some 112) (etk : tk = fI H a0 (K.1.2 10 21)) (evl : vl = fI H a0 (K.1.2 10 22)) : MX l K yX10_isSign cX10_isSign 2 (some .boolean) 0 0 0 0 [.ref a0, .int x1] H (AE G [] H.size) (fun v H1 => ∃ (r : Int32), v = some (.int r) ∧ (0 ≤ r.toInt ∧ r.toInt ≤ 1) ∧ ((r.toInt = 0 ∧ (tk.toInt ≠ 4 ∨ vl.toInt ≠ x1.toInt)) ∨ (r.toInt = 1 ∧ tk.toInt = 4 ∧ vl.toInt = x1.toInt)) ∧ TY K G H1) := by
  refine MX.of (by decide +kernel) (Nat.le_of_ble_eq_true rfl) ?_
  intro p e s m below meth c ls Q C hH hl hQ
  subst hH
  have C : CX p K s m _ meth c RX10 cX10_isSign 2 (some .boolean) "isSign" := C
  obtain ⟨hx, hb, hml, hown, hts, hKT, hr, hlocks, hnm⟩ := id C
  have hl : lv_has ls 2 [(0, .ref a0), (1, .int x1)] := hl
  have hS : va_S (AE G [] s.heap.size) s.heap s.heap [] := va_S.rf
  have n_0 : (0 : Int32).toInt = 0 := rfl
  have n_1 : (1 : Int32).toInt = 1 := rfl
  have n_4 : (4 : Int32).toInt = 4 := rfl
  have btk := ty_fi (x := tk) (k := 21) etk hT ga0 rg_112 rfl
  have bvl := ty_fi (x := vl) (k := 22) evl hT ga0 rg_112 rfl
  have hap : ∀ x y, x < 74 → y < 74 → x ≠ y → K.1.2 10 x ≠ K.1.2 10 y := x_apart hKT hts inX10 tyX10 tyX10_ok nmX10 rfl
  refine lv_aload_n hx hb dX10_isSign_0 rfl (lv_at hl 0 rfl) ?_
  refine x_gi C hT (ci := 10) (k := 21) rfl inX10 (by decide) wF_X10_202 ga0 rg_112 rfl dX10_isSign_1 (fun x125 ex125 bx125 => ?_)
  have ux125 : tk = x125 := (etk).trans ex125.symm
  subst ux125
  refine lv_iconst (v := 4) hx hb dX10_isSign_4 (by decide) ?_
  refine lv_icmp_ne (tgt := 20) hx hb dX10_isSign_5 (by decide) (fun c126 => ?_) (fun c126 => ?_)
  · have k127 := i_ne c126
    refine lv_iconst (v := 0) hx hb dX10_isSign_20 (by decide) ?_
    exact x_zret C hQ (Or.inl rfl) dX10_isSign_21 hS (by decide) (by decide) (⟨0, rfl, by decide, by omega, hT⟩)
  · have k127 := i_eq c126
    refine lv_aload_n hx hb dX10_isSign_8 rfl (lv_at hl 0 rfl) ?_
    refine x_gi C hT (ci := 10) (k := 22) rfl inX10 (by decide) wF_X10_205 ga0 rg_112 rfl dX10_isSign_9 (fun x128 ex128 bx128 => ?_)
    have ux128 : vl = x128 := (evl).trans ex128.symm
    subst ux128
    refine lv_iload_n hx hb dX10_isSign_12 rfl (lv_at hl 1 rfl) ?_
    refine lv_icmp_ne (tgt := 20) hx hb dX10_isSign_13 (by decide) (fun c129 => ?_) (fun c129 => ?_)
    · have k130 := i_ne c129
      refine lv_iconst (v := 0) hx hb dX10_isSign_20 (by decide) ?_
      exact x_zret C hQ (Or.inl rfl) dX10_isSign_21 hS (by decide) (by decide) (⟨0, rfl, by decide, by omega, hT⟩)
    · have k130 := i_eq c129
      refine lv_iconst (v := 1) hx hb dX10_isSign_16 (by decide) ?_
      refine lv_goto (tgt := 21) hx hb dX10_isSign_17 (by decide) ?_
      exact x_zret C hQ (Or.inr rfl) dX10_isSign_21 hS (by decide) (by decide) (⟨1, rfl, by decide, by omega, hT⟩)

set_option maxHeartbeats 4000000 in
set_option maxRecDepth 100000 in
theorem a_X10_readUnit (l : Launch) (K : KE) (G : Nat → Option Nat) (H : Heap) {a0 : Nat} {oq : Nat} {aq : Nat} (sp : Int32) (fr : Int32) (tk : Int32) (vl : Int32) (mn : Int32) (tp : Int32) (jb : Int32) (hT : TY K G H) (ga0 : G a0 = some 112) (goq : G oq = some 136) (eoq : oq = fR H a0 (K.1.2 10 32)) (gaq : G aq = some 137) (eaq : aq = fR H a0 (K.1.2 10 33)) (esp : sp = fI H a0 (K.1.2 10 19)) (efr : fr = fI H a0 (K.1.2 10 20)) (etk : tk = fI H a0 (K.1.2 10 21)) (evl : vl = fI H a0 (K.1.2 10 22)) (emn : mn = fI H a0 (K.1.2 10 35)) (etp : tp = fI H a0 (K.1.2 10 18)) (ejb : jb = fI H a0 (K.1.2 10 34)) (hg_CG : CG (avw K H a0)) (hg_TU : TU (avw K H a0) (svw K H a0)) (hg_WD : WD (avw K H a0)) (hg_IM : IM (avw K H a0)) (hp0 : (sp.toInt ≤ tp.toInt ∧ fr.toInt ≤ sp.toInt ∧ (tk.toInt = 0 ∨ fr.toInt < sp.toInt) ∧ (tk.toInt ≠ 2 ∨ (0 ≤ vl.toInt ∧ vl.toInt ≤ 23)))) (hp1 : mn.toInt ≤ fr.toInt) : MX l K yX10_readUnit cX10_readUnit 2 (some .int) 3 65 0 0 [.ref a0] H (AE G [112, 136, 137] H.size) (fun v H1 => ∃ (r : Int32) (t0 : Int32) (t1 : Int32) (t2 : Int32) (t3 : Int32) (t4 : Int32), v = some (.int r) ∧ ((-1) ≤ r.toInt ∧ r.toInt ≤ 0) ∧ t0 = fI H1 a0 (K.1.2 10 19) ∧ t1 = fI H1 a0 (K.1.2 10 20) ∧ t2 = fI H1 a0 (K.1.2 10 21) ∧ t3 = fI H1 a0 (K.1.2 10 22) ∧ t4 = fI H1 a0 (K.1.2 10 35) ∧ (r.toInt = -1 ∨ (r.toInt = 0 ∧ t0.toInt ≤ tp.toInt ∧ t1.toInt ≤ t0.toInt ∧ (t2.toInt = 0 ∨ t1.toInt < t0.toInt) ∧ (t2.toInt ≠ 2 ∨ (0 ≤ t3.toInt ∧ t3.toInt ≤ 23)) ∧ t4.toInt = mn.toInt + 1 ∧ sp.toInt ≤ t1.toInt ∧ fr.toInt < t1.toInt)) ∧ oq = fR H1 a0 (K.1.2 10 32) ∧ aq = fR H1 a0 (K.1.2 10 33) ∧ (CG (avw K H1 a0)) ∧ (TU (avw K H1 a0) (svw K H1 a0)) ∧ (WD (avw K H1 a0)) ∧ (IM (avw K H1 a0)) ∧ MF K H H1 a0 [19, 20, 21, 22, 35, 39, 40] ∧ (∀ j : Nat, j < 3000 + mn.toNatClampNeg → fI H1 oq j = fI H oq j ∧ fI H1 aq j = fI H aq j) ∧ (r.toInt = -1 ∨ WF (fun k => fI H1 oq k) (fun k => fI H1 aq k) (3000 + mn.toNatClampNeg) (3000 + t4.toNatClampNeg) 0 1) ∧ (r.toInt = -1 ∨ tk.toInt ≠ 3 ∨ ((fI H1 oq (3000 + mn.toNatClampNeg)).toInt = 0 ∧ (fI H1 aq (3000 + mn.toNatClampNeg)).toInt = vl.toInt)) ∧ TY K G H1) := by
  refine MX.of (by decide +kernel) (Nat.le_of_ble_eq_true rfl) ?_
  intro p e s m below meth c ls Q C hH hl hQ
  subst hH
  have C : CX p K s m _ meth c RX10 cX10_readUnit 2 (some .int) "readUnit" := C
  obtain ⟨hx, hb, hml, hown, hts, hKT, hr, hlocks, hnm⟩ := id C
  have hl : lv_has ls 2 [(0, .ref a0)] := hl
  have hS : va_S (AE G [112, 136, 137] s.heap.size) s.heap s.heap [] := va_S.rf
  have n_0 : (0 : Int32).toInt = 0 := rfl
  have n_1 : (1 : Int32).toInt = 1 := rfl
  have n_2 : (2 : Int32).toInt = 2 := rfl
  have n_3 : (3 : Int32).toInt = 3 := rfl
  have n_10 : (10 : Int32).toInt = 10 := rfl
  have n_19 : (19 : Int32).toInt = 19 := rfl
  have n_20 : (20 : Int32).toInt = 20 := rfl
  have bsp := ty_fi (x := sp) (k := 19) esp hT ga0 rg_112 rfl
  have bfr := ty_fi (x := fr) (k := 20) efr hT ga0 rg_112 rfl
  have btk := ty_fi (x := tk) (k := 21) etk hT ga0 rg_112 rfl
  have bvl := ty_fi (x := vl) (k := 22) evl hT ga0 rg_112 rfl
  have bmn := ty_fi (x := mn) (k := 35) emn hT ga0 rg_112 rfl
  have btp := ty_fi (x := tp) (k := 18) etp hT ga0 rg_112 rfl
  have bjb := ty_fi (x := jb) (k := 34) ejb hT ga0 rg_112 rfl
  have hap : ∀ x y, x < 74 → y < 74 → x ≠ y → K.1.2 10 x ≠ K.1.2 10 y := x_apart hKT hts inX10 tyX10 tyX10_ok nmX10 rfl
  have mf0 : MF K s.heap s.heap a0 [19, 20, 21, 22, 35, 39, 40] := fun _ _ _ => rfl
  have pf00 : ∀ j : Nat, j < 3000 + mn.toNatClampNeg → fI s.heap oq j = fI s.heap oq j ∧ fI s.heap aq j = fI s.heap aq j := fun _ _ => ⟨rfl, rfl⟩
  have hmn := i_cl (x := mn) (by omega)
  refine lv_aload_n hx hb dX10_readUnit_0 rfl (lv_at hl 0 rfl) ?_
  refine x_gi C hT (ci := 10) (k := 21) rfl inX10 (by decide) wF_X10_202 ga0 rg_112 rfl dX10_readUnit_1 (fun x1041 ex1041 bx1041 => ?_)
  have ux1041 : tk = x1041 := (etk).trans ex1041.symm
  subst ux1041
  refine lv_iconst (v := 2) hx hb dX10_readUnit_4 (by decide) ?_
  refine lv_icmp_ne (tgt := 46) hx hb dX10_readUnit_5 (by decide) (fun c1042 => ?_) (fun c1042 => ?_)
  · have k1043 := i_ne c1042
    refine lv_iconst (v := 0) hx hb dX10_readUnit_46 (by decide) ?_
    refine lv_istore_n (lv' := [(1, .int 0), (0, .ref a0)]) hx hb dX10_readUnit_47 rfl hl (by decide) rfl (fun ls1044 hl1045 => ?_)
    refine lv_iload_n hx hb dX10_readUnit_48 rfl (lv_at hl1045 0 rfl) ?_
    refine lv_if_ne (tgt := 66) hx hb dX10_readUnit_49 (by decide) (fun c1046 => ?_) (fun c1046 => ?_)
    · have k1047 := i_ne c1046
      exfalso
      omega
    · have k1047 := i_eq c1046
      refine lv_aload_n hx hb dX10_readUnit_52 rfl (lv_at hl1045 1 rfl) ?_
      refine x_gi C hT (ci := 10) (k := 21) rfl inX10 (by decide) wF_X10_202 ga0 rg_112 rfl dX10_readUnit_53 (fun x1048 ex1048 bx1048 => ?_)
      have ux1048 : tk = x1048 := (etk).trans ex1048.symm
      subst ux1048
      refine lv_iconst (v := 3) hx hb dX10_readUnit_56 (by decide) ?_
      refine lv_icmp_eq (tgt := 66) hx hb dX10_readUnit_57 (by decide) (fun c1049 => ?_) (fun c1049 => ?_)
      · have k1050 := i_eq c1049
        refine lv_aload_n hx hb dX10_readUnit_66 rfl (lv_at hl1045 1 rfl) ?_
        refine lv_iload_n hx hb dX10_readUnit_67 rfl (lv_at hl1045 0 rfl) ?_
        refine lv_if_eq (tgt := 75) hx hb dX10_readUnit_68 (by decide) (fun c1051 => ?_) (fun c1051 => ?_)
        · have k1052 := i_eq c1051
          refine lv_iconst (v := 0) hx hb dX10_readUnit_75 (by decide) ?_
          refine lv_iload_n hx hb dX10_readUnit_76 rfl (lv_at hl1045 0 rfl) ?_
          refine lv_if_eq (tgt := 90) hx hb dX10_readUnit_77 (by decide) (fun c1053 => ?_) (fun c1053 => ?_)
          · have k1054 := i_eq c1053
            refine lv_aload_n hx hb dX10_readUnit_90 rfl (lv_at hl1045 1 rfl) ?_
            refine x_gi C hT (ci := 10) (k := 22) rfl inX10 (by decide) wF_X10_205 ga0 rg_112 rfl dX10_readUnit_91 (fun x1055 ex1055 bx1055 => ?_)
            have ux1055 : vl = x1055 := (evl).trans ex1055.symm
            subst ux1055
            refine x_V (As := [.int 0, .int vl]) (rest := []) C (a_X10_emits l K G s.heap (0) (vl) (mn) hT ga0 goq eoq gaq eaq emn hg_CG hg_TU hg_WD hg_IM (by omega)) yo_X10_emits wM_X10_238 ⟨⟨by decide, by decide⟩, by decide, by decide⟩ (x_rv C hT (ci := 10) rfl ga0 rg_112) rfl hl1045.1 rfl (Nat.le_of_ble_eq_true rfl) dX10_readUnit_94 hS (AE_sub (fun _ _ => rfl) (by decide) hS.1) (fun vH1056 H1056 locsH1056 pH1056 zH1056 kH1056 hSH1056 => ?_)
            obtain ⟨x1057, hvH1056, ex1057, hrH1056, m1058, m1059, g1060, g1061, g1062, g1063, mf1064, m1065, m1066, m1067, m1068, hTH1056⟩ := pH1056
            subst hvH1056
            have m1069 := (eoq).trans (MF.r mf1064 (k := 32) (by decide) (by decide)).symm
            have m1070 := (eaq).trans (MF.r mf1064 (k := 33) (by decide) (by decide)).symm
            have m1071 := (esp).trans (MF.i mf1064 (k := 19) (by decide) (by decide)).symm
            have m1072 := (efr).trans (MF.i mf1064 (k := 20) (by decide) (by decide)).symm
            have m1073 := (etk).trans (MF.i mf1064 (k := 21) (by decide) (by decide)).symm
            have m1074 := (evl).trans (MF.i mf1064 (k := 22) (by decide) (by decide)).symm
            have m1075 := (etp).trans (MF.i mf1064 (k := 18) (by decide) (by decide)).symm
            have m1076 := (ejb).trans (MF.i mf1064 (k := 34) (by decide) (by decide)).symm
            have mf1077 : MF K s.heap H1056 a0 [19, 20, 21, 22, 35, 39, 40] := MF.trans mf0 mf1064 (by decide)
            have bx1057 := ty_fi (x := x1057) (k := 35) ex1057 hTH1056 ga0 rg_112 rfl
            have cem1068 := i_cl (x := mn) (by omega)
            have b1078 : ∀ j : Nat, j < 3000 + mn.toNatClampNeg → fI H1056 oq j = fI s.heap oq j ∧ fI H1056 aq j = fI s.heap aq j := fun j hj => ⟨(m1067 j (by omega)).trans (pf00 j hj).1, (m1068 j (by omega)).trans (pf00 j hj).2⟩
            refine W.eq (g2 := F0 m 97 ls1044 []) rfl ?_
            have wf0 : WF (fun k => fI H1056 oq k) (fun k => fI H1056 aq k) (3000 + mn.toNatClampNeg) (3000 + mn.toNatClampNeg + 1) 0 1 := WF.num (by show (fI _ oq _).toInt = _; rw [← m1065]; rfl)
            have ev0 : (fI H1056 oq (3000 + mn.toNatClampNeg)).toInt = 0 ∧ (fI H1056 aq (3000 + mn.toNatClampNeg)).toInt = vl.toInt := ⟨by rw [← m1065]; rfl, by rw [← m1066]⟩
            refine lv_aload_n hx hb dX10_readUnit_97 rfl (lv_at hl1045 1 rfl) ?_
            obtain ⟨q1079, eq1079⟩ : ∃ z : Nat, z = fR H1056 a0 (K.1.2 10 17) := ⟨_, rfl⟩
            have gq1079 := ty_fr (q := q1079) (k := 17) (u := 126) eq1079 hTH1056 ga0 rg_112 rfl
            refine x_V (As := []) (rest := []) C (a_X10_reads l K G H1056 (sp) (fr) (tk) (vl) (tp) hTH1056 ga0 gq1079 eq1079 m1071 m1072 m1073 m1074 m1075 g1060 g1061 g1062 g1063 (by omega)) yo_X10_reads wM_X10_242 ⟨⟨by decide, by decide⟩, by decide, by decide⟩ (x_rv C hTH1056 (ci := 10) rfl ga0 rg_112) rfl hl1045.1 rfl (Nat.le_of_ble_eq_true rfl) dX10_readUnit_98 hSH1056 (AE_sub (fun _ _ => rfl) (by decide) hSH1056.1) (fun vH1080 H1080 locsH1080 pH1080 zH1080 kH1080 hSH1080 => ?_)
            obtain ⟨x1081, x1082, x1083, x1084, hvH1080, ex1081, ex1082, ex1083, ex1084, hrH1080, m1085, g1086, g1087, g1088, g1089, mf1090, hTH1080⟩ := pH1080
            subst hvH1080
            have b1091 : ∀ j : Nat, j < 3000 + mn.toNatClampNeg → fI H1080 oq j = fI s.heap oq j ∧ fI H1080 aq j = fI s.heap aq j := fun j hj => ⟨(fI_kept (x_lt hTH1056 kH1080 goq (by decide))).trans (b1078 j hj).1, (fI_kept (x_lt hTH1056 kH1080 gaq (by decide))).trans (b1078 j hj).2⟩
            have b1092 : (fI H1080 oq (3000 + mn.toNatClampNeg)).toInt = 0 ∧ (fI H1080 aq (3000 + mn.toNatClampNeg)).toInt = vl.toInt := ⟨(congrArg Int32.toInt (fI_kept (x_lt hTH1056 kH1080 goq (by decide)))).trans ev0.1, (congrArg Int32.toInt (fI_kept (x_lt hTH1056 kH1080 gaq (by decide)))).trans ev0.2⟩
            have b1093 : WF (fun k => fI H1080 oq k) (fun k => fI H1080 aq k) (3000 + mn.toNatClampNeg) (3000 + mn.toNatClampNeg + 1) 0 1 := WF.congr (fun j => fI_kept (x_lt hTH1056 kH1080 goq (by decide))) (fun j => fI_kept (x_lt hTH1056 kH1080 gaq (by decide))) wf0
            have m1094 := (m1058).trans (MF.r mf1090 (k := 32) (by decide) (by decide)).symm
            have m1095 := (m1059).trans (MF.r mf1090 (k := 33) (by decide) (by decide)).symm
            have m1096 := (m1075).trans (MF.i mf1090 (k := 18) (by decide) (by decide)).symm
            have m1097 := (m1076).trans (MF.i mf1090 (k := 34) (by decide) (by decide)).symm
            have m1098 := (ex1057).trans (MF.i mf1090 (k := 35) (by decide) (by decide)).symm
            have m1099 := (eq1079).trans (MF.r mf1090 (k := 17) (by decide) (by decide)).symm
            have mf1100 : MF K s.heap H1080 a0 [19, 20, 21, 22, 35, 39, 40] := MF.trans mf1077 mf1090 (by decide)
            have bx1081 := ty_fi (x := x1081) (k := 19) ex1081 hTH1080 ga0 rg_112 rfl
            have bx1082 := ty_fi (x := x1082) (k := 20) ex1082 hTH1080 ga0 rg_112 rfl
            have bx1083 := ty_fi (x := x1083) (k := 21) ex1083 hTH1080 ga0 rg_112 rfl
            have bx1084 := ty_fi (x := x1084) (k := 22) ex1084 hTH1080 ga0 rg_112 rfl
            refine W.eq (g2 := F0 m 101 ls1044 []) rfl ?_
            refine lv_iconst (v := 0) hx hb dX10_readUnit_101 (by decide) ?_
            have cr_mn := i_cl (x := mn) (by omega)
            have cr_x1057 := i_cl (x := x1057) (by omega)
            exact x_iret C hQ dX10_readUnit_102 hSH1080 (by decide) (by decide) (⟨0, x1081, x1082, x1083, x1084, x1057, rfl, by decide, ex1081, ex1082, ex1083, ex1084, m1098, by omega, m1094, m1095, g1086, g1087, g1088, g1089, mf1100, b1091, Or.inr (WF.cast b1093 (by omega) (by omega)), Or.inr (Or.inr b1092), hTH1080⟩)
          · have k1054 := i_ne c1053
            exfalso
            omega
        · have k1052 := i_ne c1051
          exfalso
          omega
      · have k1050 := i_ne c1049
        refine lv_aload_n hx hb dX10_readUnit_60 rfl (lv_at hl1045 1 rfl) ?_
        refine lv_iconst (v := 1) hx hb dX10_readUnit_61 (by decide) ?_
        refine x_V (As := [.int 1]) (rest := []) C (a_X10_fails l K G s.heap (1) hT ga0 hg_CG hg_TU hg_WD hg_IM) yo_X10_fails wM_X10_235 ⟨⟨by decide, by decide⟩, by decide, by decide⟩ (x_rv C hT (ci := 10) rfl ga0 rg_112) rfl hl1045.1 rfl (Nat.le_of_ble_eq_true rfl) dX10_readUnit_62 hS (AE_sub (fun _ _ => rfl) (by decide) hS.1) (fun vH1101 H1101 locsH1101 pH1101 zH1101 kH1101 hSH1101 => ?_)
        obtain ⟨x1102, hvH1101, bx1102, g1103, g1104, g1105, g1106, mf1107, hTH1101⟩ := pH1101
        subst hvH1101
        have b1108 : ∀ j : Nat, j < 3000 + mn.toNatClampNeg → fI H1101 oq j = fI s.heap oq j ∧ fI H1101 aq j = fI s.heap aq j := fun j hj => ⟨(fI_kept (x_lt hT kH1101 goq (by decide))).trans (pf00 j hj).1, (fI_kept (x_lt hT kH1101 gaq (by decide))).trans (pf00 j hj).2⟩
        have m1109 := (eoq).trans (MF.r mf1107 (k := 32) (by decide) (by decide)).symm
        have m1110 := (eaq).trans (MF.r mf1107 (k := 33) (by decide) (by decide)).symm
        have m1111 := (esp).trans (MF.i mf1107 (k := 19) (by decide) (by decide)).symm
        have m1112 := (efr).trans (MF.i mf1107 (k := 20) (by decide) (by decide)).symm
        have m1113 := (etk).trans (MF.i mf1107 (k := 21) (by decide) (by decide)).symm
        have m1114 := (evl).trans (MF.i mf1107 (k := 22) (by decide) (by decide)).symm
        have m1115 := (emn).trans (MF.i mf1107 (k := 35) (by decide) (by decide)).symm
        have m1116 := (etp).trans (MF.i mf1107 (k := 18) (by decide) (by decide)).symm
        have m1117 := (ejb).trans (MF.i mf1107 (k := 34) (by decide) (by decide)).symm
        have mf1118 : MF K s.heap H1101 a0 [19, 20, 21, 22, 35, 39, 40] := MF.trans mf0 mf1107 (by decide)
        refine W.eq (g2 := F0 m 65 ls1044 [.int x1102]) rfl ?_
        exact x_iret C hQ dX10_readUnit_65 hSH1101 (by decide) (by decide) (⟨x1102, sp, fr, tk, vl, mn, rfl, by omega, m1111, m1112, m1113, m1114, m1115, by omega, m1109, m1110, g1103, g1104, g1105, g1106, mf1118, b1108, Or.inl (by omega), Or.inl (by omega), hTH1101⟩)
  · have k1043 := i_eq c1042
    refine lv_aload_n hx hb dX10_readUnit_8 rfl (lv_at hl 0 rfl) ?_
    refine x_gi C hT (ci := 10) (k := 34) rfl inX10 (by decide) wF_X10_231 ga0 rg_112 rfl dX10_readUnit_9 (fun x1119 ex1119 bx1119 => ?_)
    have ux1119 : jb = x1119 := (ejb).trans ex1119.symm
    subst ux1119
    refine lv_if_eq (tgt := 27) hx hb dX10_readUnit_12 (by decide) (fun c1120 => ?_) (fun c1120 => ?_)
    · have k1121 := i_eq c1120
      refine lv_aload_n hx hb dX10_readUnit_27 rfl (lv_at hl 0 rfl) ?_
      refine lv_aload_n hx hb dX10_readUnit_28 rfl (lv_at hl 0 rfl) ?_
      refine x_gi C hT (ci := 10) (k := 22) rfl inX10 (by decide) wF_X10_205 ga0 rg_112 rfl dX10_readUnit_29 (fun x1122 ex1122 bx1122 => ?_)
      have ux1122 : vl = x1122 := (evl).trans ex1122.symm
      subst ux1122
      refine lv_bipush (v := 10) hx hb dX10_readUnit_32 (by decide) ?_
      refine lv_bipush (v := 19) hx hb dX10_readUnit_34 (by decide) ?_
      refine x_V (As := [.int vl, .int 10, .int 19]) (rest := []) C (c_X10_isIn l K G s.heap (vl) (10) (19) hT ga0) yo_X10_isIn wM_X10_177 ⟨⟨by decide, by decide⟩, by decide, by decide⟩ (x_rv C hT (ci := 10) rfl ga0 rg_112) rfl hl.1 rfl (Nat.le_of_ble_eq_true rfl) dX10_readUnit_36 hS (AE_sub (fun _ _ => rfl) (by decide) hS.1) (fun vH1123 H1123 locsH1123 pH1123 zH1123 kH1123 hSH1123 => ?_)
      have hqH1123 := pH1123.1.symm
      subst hqH1123
      rcases pH1123.2 with ⟨hvH1123, hcH1123⟩ | ⟨hvH1123, hcH1123⟩
      · subst hvH1123
        refine W.eq (g2 := F0 m 39 ls [.int 1]) rfl ?_
        refine lv_if_eq (tgt := 46) hx hb dX10_readUnit_39 (by decide) (fun c1124 => ?_) (fun c1124 => ?_)
        · have k1125 := i_eq c1124
          exfalso
          omega
        · have k1125 := i_ne c1124
          refine lv_iconst (v := 1) hx hb dX10_readUnit_42 (by decide) ?_
          refine lv_goto (tgt := 47) hx hb dX10_readUnit_43 (by decide) ?_
          refine lv_istore_n (lv' := [(1, .int 1), (0, .ref a0)]) hx hb dX10_readUnit_47 rfl hl (by decide) rfl (fun ls1126 hl1127 => ?_)
          refine lv_iload_n hx hb dX10_readUnit_48 rfl (lv_at hl1127 0 rfl) ?_
          refine lv_if_ne (tgt := 66) hx hb dX10_readUnit_49 (by decide) (fun c1128 => ?_) (fun c1128 => ?_)
          · have k1129 := i_ne c1128
            refine lv_aload_n hx hb dX10_readUnit_66 rfl (lv_at hl1127 1 rfl) ?_
            refine lv_iload_n hx hb dX10_readUnit_67 rfl (lv_at hl1127 0 rfl) ?_
            refine lv_if_eq (tgt := 75) hx hb dX10_readUnit_68 (by decide) (fun c1130 => ?_) (fun c1130 => ?_)
            · have k1131 := i_eq c1130
              exfalso
              omega
            · have k1131 := i_ne c1130
              refine lv_iconst (v := 1) hx hb dX10_readUnit_71 (by decide) ?_
              refine lv_goto (tgt := 76) hx hb dX10_readUnit_72 (by decide) ?_
              refine lv_iload_n hx hb dX10_readUnit_76 rfl (lv_at hl1127 0 rfl) ?_
              refine lv_if_eq (tgt := 90) hx hb dX10_readUnit_77 (by decide) (fun c1132 => ?_) (fun c1132 => ?_)
              · have k1133 := i_eq c1132
                exfalso
                omega
              · have k1133 := i_ne c1132
                refine lv_aload_n hx hb dX10_readUnit_80 rfl (lv_at hl1127 1 rfl) ?_
                refine x_gi C hT (ci := 10) (k := 22) rfl inX10 (by decide) wF_X10_205 ga0 rg_112 rfl dX10_readUnit_81 (fun x1134 ex1134 bx1134 => ?_)
                have ux1134 : vl = x1134 := (evl).trans ex1134.symm
                subst ux1134
                refine lv_bipush (v := 10) hx hb dX10_readUnit_84 (by decide) ?_
                refine lv_isub hx hb dX10_readUnit_86 ?_
                refine lv_topi (fun x1135 ex1135 => ?_)
                have tx1135 := i_sub ex1135 (by omega)
                refine lv_goto (tgt := 94) hx hb dX10_readUnit_87 (by decide) ?_
                refine x_V (As := [.int 1, .int x1135]) (rest := []) C (a_X10_emits l K G s.heap (1) (x1135) (mn) hT ga0 goq eoq gaq eaq emn hg_CG hg_TU hg_WD hg_IM (by omega)) yo_X10_emits wM_X10_238 ⟨⟨by decide, by decide⟩, by decide, by decide⟩ (x_rv C hT (ci := 10) rfl ga0 rg_112) rfl hl1127.1 rfl (Nat.le_of_ble_eq_true rfl) dX10_readUnit_94 hSH1123 (AE_sub (fun _ _ => rfl) (by decide) hSH1123.1) (fun vH1136 H1136 locsH1136 pH1136 zH1136 kH1136 hSH1136 => ?_)
                obtain ⟨x1137, hvH1136, ex1137, hrH1136, m1138, m1139, g1140, g1141, g1142, g1143, mf1144, m1145, m1146, m1147, m1148, hTH1136⟩ := pH1136
                subst hvH1136
                have m1149 := (eoq).trans (MF.r mf1144 (k := 32) (by decide) (by decide)).symm
                have m1150 := (eaq).trans (MF.r mf1144 (k := 33) (by decide) (by decide)).symm
                have m1151 := (esp).trans (MF.i mf1144 (k := 19) (by decide) (by decide)).symm
                have m1152 := (efr).trans (MF.i mf1144 (k := 20) (by decide) (by decide)).symm
                have m1153 := (etk).trans (MF.i mf1144 (k := 21) (by decide) (by decide)).symm
                have m1154 := (evl).trans (MF.i mf1144 (k := 22) (by decide) (by decide)).symm
                have m1155 := (etp).trans (MF.i mf1144 (k := 18) (by decide) (by decide)).symm
                have m1156 := (ejb).trans (MF.i mf1144 (k := 34) (by decide) (by decide)).symm
                have mf1157 : MF K s.heap H1136 a0 [19, 20, 21, 22, 35, 39, 40] := MF.trans mf0 mf1144 (by decide)
                have bx1137 := ty_fi (x := x1137) (k := 35) ex1137 hTH1136 ga0 rg_112 rfl
                have cem1148 := i_cl (x := mn) (by omega)
                have b1158 : ∀ j : Nat, j < 3000 + mn.toNatClampNeg → fI H1136 oq j = fI s.heap oq j ∧ fI H1136 aq j = fI s.heap aq j := fun j hj => ⟨(m1147 j (by omega)).trans (pf00 j hj).1, (m1148 j (by omega)).trans (pf00 j hj).2⟩
                refine W.eq (g2 := F0 m 97 ls1126 []) rfl ?_
                have wf0 : WF (fun k => fI H1136 oq k) (fun k => fI H1136 aq k) (3000 + mn.toNatClampNeg) (3000 + mn.toNatClampNeg + 1) 0 1 := WF.ask (by show (fI _ oq _).toInt = _; rw [← m1145]; rfl) (by show 0 ≤ (fI _ aq _).toInt ∧ (fI _ aq _).toInt ≤ 13; rw [← m1146]; omega)
                refine lv_aload_n hx hb dX10_readUnit_97 rfl (lv_at hl1127 1 rfl) ?_
                obtain ⟨q1159, eq1159⟩ : ∃ z : Nat, z = fR H1136 a0 (K.1.2 10 17) := ⟨_, rfl⟩
                have gq1159 := ty_fr (q := q1159) (k := 17) (u := 126) eq1159 hTH1136 ga0 rg_112 rfl
                refine x_V (As := []) (rest := []) C (a_X10_reads l K G H1136 (sp) (fr) (tk) (vl) (tp) hTH1136 ga0 gq1159 eq1159 m1151 m1152 m1153 m1154 m1155 g1140 g1141 g1142 g1143 (by omega)) yo_X10_reads wM_X10_242 ⟨⟨by decide, by decide⟩, by decide, by decide⟩ (x_rv C hTH1136 (ci := 10) rfl ga0 rg_112) rfl hl1127.1 rfl (Nat.le_of_ble_eq_true rfl) dX10_readUnit_98 hSH1136 (AE_sub (fun _ _ => rfl) (by decide) hSH1136.1) (fun vH1160 H1160 locsH1160 pH1160 zH1160 kH1160 hSH1160 => ?_)
                obtain ⟨x1161, x1162, x1163, x1164, hvH1160, ex1161, ex1162, ex1163, ex1164, hrH1160, m1165, g1166, g1167, g1168, g1169, mf1170, hTH1160⟩ := pH1160
                subst hvH1160
                have b1171 : ∀ j : Nat, j < 3000 + mn.toNatClampNeg → fI H1160 oq j = fI s.heap oq j ∧ fI H1160 aq j = fI s.heap aq j := fun j hj => ⟨(fI_kept (x_lt hTH1136 kH1160 goq (by decide))).trans (b1158 j hj).1, (fI_kept (x_lt hTH1136 kH1160 gaq (by decide))).trans (b1158 j hj).2⟩
                have b1172 : WF (fun k => fI H1160 oq k) (fun k => fI H1160 aq k) (3000 + mn.toNatClampNeg) (3000 + mn.toNatClampNeg + 1) 0 1 := WF.congr (fun j => fI_kept (x_lt hTH1136 kH1160 goq (by decide))) (fun j => fI_kept (x_lt hTH1136 kH1160 gaq (by decide))) wf0
                have m1173 := (m1138).trans (MF.r mf1170 (k := 32) (by decide) (by decide)).symm
                have m1174 := (m1139).trans (MF.r mf1170 (k := 33) (by decide) (by decide)).symm
                have m1175 := (m1155).trans (MF.i mf1170 (k := 18) (by decide) (by decide)).symm
                have m1176 := (m1156).trans (MF.i mf1170 (k := 34) (by decide) (by decide)).symm
                have m1177 := (ex1137).trans (MF.i mf1170 (k := 35) (by decide) (by decide)).symm
                have m1178 := (eq1159).trans (MF.r mf1170 (k := 17) (by decide) (by decide)).symm
                have mf1179 : MF K s.heap H1160 a0 [19, 20, 21, 22, 35, 39, 40] := MF.trans mf1157 mf1170 (by decide)
                have bx1161 := ty_fi (x := x1161) (k := 19) ex1161 hTH1160 ga0 rg_112 rfl
                have bx1162 := ty_fi (x := x1162) (k := 20) ex1162 hTH1160 ga0 rg_112 rfl
                have bx1163 := ty_fi (x := x1163) (k := 21) ex1163 hTH1160 ga0 rg_112 rfl
                have bx1164 := ty_fi (x := x1164) (k := 22) ex1164 hTH1160 ga0 rg_112 rfl
                refine W.eq (g2 := F0 m 101 ls1126 []) rfl ?_
                refine lv_iconst (v := 0) hx hb dX10_readUnit_101 (by decide) ?_
                have cr_mn := i_cl (x := mn) (by omega)
                have cr_x1137 := i_cl (x := x1137) (by omega)
                exact x_iret C hQ dX10_readUnit_102 hSH1160 (by decide) (by decide) (⟨0, x1161, x1162, x1163, x1164, x1137, rfl, by decide, ex1161, ex1162, ex1163, ex1164, m1177, by omega, m1173, m1174, g1166, g1167, g1168, g1169, mf1179, b1171, Or.inr (WF.cast b1172 (by omega) (by omega)), Or.inr (Or.inl (by omega)), hTH1160⟩)
          · have k1129 := i_eq c1128
            exfalso
            omega
      · subst hvH1123
        refine W.eq (g2 := F0 m 39 ls [.int 0]) rfl ?_
        refine lv_if_eq (tgt := 46) hx hb dX10_readUnit_39 (by decide) (fun c1180 => ?_) (fun c1180 => ?_)
        · have k1181 := i_eq c1180
          refine lv_iconst (v := 0) hx hb dX10_readUnit_46 (by decide) ?_
          refine lv_istore_n (lv' := [(1, .int 0), (0, .ref a0)]) hx hb dX10_readUnit_47 rfl hl (by decide) rfl (fun ls1182 hl1183 => ?_)
          refine lv_iload_n hx hb dX10_readUnit_48 rfl (lv_at hl1183 0 rfl) ?_
          refine lv_if_ne (tgt := 66) hx hb dX10_readUnit_49 (by decide) (fun c1184 => ?_) (fun c1184 => ?_)
          · have k1185 := i_ne c1184
            exfalso
            omega
          · have k1185 := i_eq c1184
            refine lv_aload_n hx hb dX10_readUnit_52 rfl (lv_at hl1183 1 rfl) ?_
            refine x_gi C hT (ci := 10) (k := 21) rfl inX10 (by decide) wF_X10_202 ga0 rg_112 rfl dX10_readUnit_53 (fun x1186 ex1186 bx1186 => ?_)
            have ux1186 : tk = x1186 := (etk).trans ex1186.symm
            subst ux1186
            refine lv_iconst (v := 3) hx hb dX10_readUnit_56 (by decide) ?_
            refine lv_icmp_eq (tgt := 66) hx hb dX10_readUnit_57 (by decide) (fun c1187 => ?_) (fun c1187 => ?_)
            · have k1188 := i_eq c1187
              exfalso
              omega
            · have k1188 := i_ne c1187
              refine lv_aload_n hx hb dX10_readUnit_60 rfl (lv_at hl1183 1 rfl) ?_
              refine lv_iconst (v := 1) hx hb dX10_readUnit_61 (by decide) ?_
              refine x_V (As := [.int 1]) (rest := []) C (a_X10_fails l K G s.heap (1) hT ga0 hg_CG hg_TU hg_WD hg_IM) yo_X10_fails wM_X10_235 ⟨⟨by decide, by decide⟩, by decide, by decide⟩ (x_rv C hT (ci := 10) rfl ga0 rg_112) rfl hl1183.1 rfl (Nat.le_of_ble_eq_true rfl) dX10_readUnit_62 hSH1123 (AE_sub (fun _ _ => rfl) (by decide) hSH1123.1) (fun vH1189 H1189 locsH1189 pH1189 zH1189 kH1189 hSH1189 => ?_)
              obtain ⟨x1190, hvH1189, bx1190, g1191, g1192, g1193, g1194, mf1195, hTH1189⟩ := pH1189
              subst hvH1189
              have b1196 : ∀ j : Nat, j < 3000 + mn.toNatClampNeg → fI H1189 oq j = fI s.heap oq j ∧ fI H1189 aq j = fI s.heap aq j := fun j hj => ⟨(fI_kept (x_lt hT kH1189 goq (by decide))).trans (pf00 j hj).1, (fI_kept (x_lt hT kH1189 gaq (by decide))).trans (pf00 j hj).2⟩
              have m1197 := (eoq).trans (MF.r mf1195 (k := 32) (by decide) (by decide)).symm
              have m1198 := (eaq).trans (MF.r mf1195 (k := 33) (by decide) (by decide)).symm
              have m1199 := (esp).trans (MF.i mf1195 (k := 19) (by decide) (by decide)).symm
              have m1200 := (efr).trans (MF.i mf1195 (k := 20) (by decide) (by decide)).symm
              have m1201 := (etk).trans (MF.i mf1195 (k := 21) (by decide) (by decide)).symm
              have m1202 := (evl).trans (MF.i mf1195 (k := 22) (by decide) (by decide)).symm
              have m1203 := (emn).trans (MF.i mf1195 (k := 35) (by decide) (by decide)).symm
              have m1204 := (etp).trans (MF.i mf1195 (k := 18) (by decide) (by decide)).symm
              have m1205 := (ejb).trans (MF.i mf1195 (k := 34) (by decide) (by decide)).symm
              have mf1206 : MF K s.heap H1189 a0 [19, 20, 21, 22, 35, 39, 40] := MF.trans mf0 mf1195 (by decide)
              refine W.eq (g2 := F0 m 65 ls1182 [.int x1190]) rfl ?_
              exact x_iret C hQ dX10_readUnit_65 hSH1189 (by decide) (by decide) (⟨x1190, sp, fr, tk, vl, mn, rfl, by omega, m1199, m1200, m1201, m1202, m1203, by omega, m1197, m1198, g1191, g1192, g1193, g1194, mf1206, b1196, Or.inl (by omega), Or.inl (by omega), hTH1189⟩)
        · have k1181 := i_ne c1180
          exfalso
          omega
    · have k1121 := i_ne c1120
      refine lv_aload_n hx hb dX10_readUnit_15 rfl (lv_at hl 0 rfl) ?_
      refine x_gi C hT (ci := 10) (k := 22) rfl inX10 (by decide) wF_X10_205 ga0 rg_112 rfl dX10_readUnit_16 (fun x1207 ex1207 bx1207 => ?_)
      have ux1207 : vl = x1207 := (evl).trans ex1207.symm
      subst ux1207
      refine lv_bipush (v := 20) hx hb dX10_readUnit_19 (by decide) ?_
      refine lv_icmp_lt (tgt := 46) hx hb dX10_readUnit_21 (by decide) (fun c1208 => ?_) (fun c1208 => ?_)
      · have k1209 := i_lt c1208
        refine lv_iconst (v := 0) hx hb dX10_readUnit_46 (by decide) ?_
        refine lv_istore_n (lv' := [(1, .int 0), (0, .ref a0)]) hx hb dX10_readUnit_47 rfl hl (by decide) rfl (fun ls1210 hl1211 => ?_)
        refine lv_iload_n hx hb dX10_readUnit_48 rfl (lv_at hl1211 0 rfl) ?_
        refine lv_if_ne (tgt := 66) hx hb dX10_readUnit_49 (by decide) (fun c1212 => ?_) (fun c1212 => ?_)
        · have k1213 := i_ne c1212
          exfalso
          omega
        · have k1213 := i_eq c1212
          refine lv_aload_n hx hb dX10_readUnit_52 rfl (lv_at hl1211 1 rfl) ?_
          refine x_gi C hT (ci := 10) (k := 21) rfl inX10 (by decide) wF_X10_202 ga0 rg_112 rfl dX10_readUnit_53 (fun x1214 ex1214 bx1214 => ?_)
          have ux1214 : tk = x1214 := (etk).trans ex1214.symm
          subst ux1214
          refine lv_iconst (v := 3) hx hb dX10_readUnit_56 (by decide) ?_
          refine lv_icmp_eq (tgt := 66) hx hb dX10_readUnit_57 (by decide) (fun c1215 => ?_) (fun c1215 => ?_)
          · have k1216 := i_eq c1215
            exfalso
            omega
          · have k1216 := i_ne c1215
            refine lv_aload_n hx hb dX10_readUnit_60 rfl (lv_at hl1211 1 rfl) ?_
            refine lv_iconst (v := 1) hx hb dX10_readUnit_61 (by decide) ?_
            refine x_V (As := [.int 1]) (rest := []) C (a_X10_fails l K G s.heap (1) hT ga0 hg_CG hg_TU hg_WD hg_IM) yo_X10_fails wM_X10_235 ⟨⟨by decide, by decide⟩, by decide, by decide⟩ (x_rv C hT (ci := 10) rfl ga0 rg_112) rfl hl1211.1 rfl (Nat.le_of_ble_eq_true rfl) dX10_readUnit_62 hS (AE_sub (fun _ _ => rfl) (by decide) hS.1) (fun vH1217 H1217 locsH1217 pH1217 zH1217 kH1217 hSH1217 => ?_)
            obtain ⟨x1218, hvH1217, bx1218, g1219, g1220, g1221, g1222, mf1223, hTH1217⟩ := pH1217
            subst hvH1217
            have b1224 : ∀ j : Nat, j < 3000 + mn.toNatClampNeg → fI H1217 oq j = fI s.heap oq j ∧ fI H1217 aq j = fI s.heap aq j := fun j hj => ⟨(fI_kept (x_lt hT kH1217 goq (by decide))).trans (pf00 j hj).1, (fI_kept (x_lt hT kH1217 gaq (by decide))).trans (pf00 j hj).2⟩
            have m1225 := (eoq).trans (MF.r mf1223 (k := 32) (by decide) (by decide)).symm
            have m1226 := (eaq).trans (MF.r mf1223 (k := 33) (by decide) (by decide)).symm
            have m1227 := (esp).trans (MF.i mf1223 (k := 19) (by decide) (by decide)).symm
            have m1228 := (efr).trans (MF.i mf1223 (k := 20) (by decide) (by decide)).symm
            have m1229 := (etk).trans (MF.i mf1223 (k := 21) (by decide) (by decide)).symm
            have m1230 := (evl).trans (MF.i mf1223 (k := 22) (by decide) (by decide)).symm
            have m1231 := (emn).trans (MF.i mf1223 (k := 35) (by decide) (by decide)).symm
            have m1232 := (etp).trans (MF.i mf1223 (k := 18) (by decide) (by decide)).symm
            have m1233 := (ejb).trans (MF.i mf1223 (k := 34) (by decide) (by decide)).symm
            have mf1234 : MF K s.heap H1217 a0 [19, 20, 21, 22, 35, 39, 40] := MF.trans mf0 mf1223 (by decide)
            refine W.eq (g2 := F0 m 65 ls1210 [.int x1218]) rfl ?_
            exact x_iret C hQ dX10_readUnit_65 hSH1217 (by decide) (by decide) (⟨x1218, sp, fr, tk, vl, mn, rfl, by omega, m1227, m1228, m1229, m1230, m1231, by omega, m1225, m1226, g1219, g1220, g1221, g1222, mf1234, b1224, Or.inl (by omega), Or.inl (by omega), hTH1217⟩)
      · have k1209 := i_nlt c1208
        refine lv_goto (tgt := 42) hx hb dX10_readUnit_24 (by decide) ?_
        refine lv_iconst (v := 1) hx hb dX10_readUnit_42 (by decide) ?_
        refine lv_goto (tgt := 47) hx hb dX10_readUnit_43 (by decide) ?_
        refine lv_istore_n (lv' := [(1, .int 1), (0, .ref a0)]) hx hb dX10_readUnit_47 rfl hl (by decide) rfl (fun ls1235 hl1236 => ?_)
        refine lv_iload_n hx hb dX10_readUnit_48 rfl (lv_at hl1236 0 rfl) ?_
        refine lv_if_ne (tgt := 66) hx hb dX10_readUnit_49 (by decide) (fun c1237 => ?_) (fun c1237 => ?_)
        · have k1238 := i_ne c1237
          refine lv_aload_n hx hb dX10_readUnit_66 rfl (lv_at hl1236 1 rfl) ?_
          refine lv_iload_n hx hb dX10_readUnit_67 rfl (lv_at hl1236 0 rfl) ?_
          refine lv_if_eq (tgt := 75) hx hb dX10_readUnit_68 (by decide) (fun c1239 => ?_) (fun c1239 => ?_)
          · have k1240 := i_eq c1239
            exfalso
            omega
          · have k1240 := i_ne c1239
            refine lv_iconst (v := 1) hx hb dX10_readUnit_71 (by decide) ?_
            refine lv_goto (tgt := 76) hx hb dX10_readUnit_72 (by decide) ?_
            refine lv_iload_n hx hb dX10_readUnit_76 rfl (lv_at hl1236 0 rfl) ?_
            refine lv_if_eq (tgt := 90) hx hb dX10_readUnit_77 (by decide) (fun c1241 => ?_) (fun c1241 => ?_)
            · have k1242 := i_eq c1241
              exfalso
              omega
            · have k1242 := i_ne c1241
              refine lv_aload_n hx hb dX10_readUnit_80 rfl (lv_at hl1236 1 rfl) ?_
              refine x_gi C hT (ci := 10) (k := 22) rfl inX10 (by decide) wF_X10_205 ga0 rg_112 rfl dX10_readUnit_81 (fun x1243 ex1243 bx1243 => ?_)
              have ux1243 : vl = x1243 := (evl).trans ex1243.symm
              subst ux1243
              refine lv_bipush (v := 10) hx hb dX10_readUnit_84 (by decide) ?_
              refine lv_isub hx hb dX10_readUnit_86 ?_
              refine lv_topi (fun x1244 ex1244 => ?_)
              have tx1244 := i_sub ex1244 (by have := i_rng vl; omega)
              refine lv_goto (tgt := 94) hx hb dX10_readUnit_87 (by decide) ?_
              refine x_V (As := [.int 1, .int x1244]) (rest := []) C (a_X10_emits l K G s.heap (1) (x1244) (mn) hT ga0 goq eoq gaq eaq emn hg_CG hg_TU hg_WD hg_IM (by omega)) yo_X10_emits wM_X10_238 ⟨⟨by decide, by decide⟩, by decide, by decide⟩ (x_rv C hT (ci := 10) rfl ga0 rg_112) rfl hl1236.1 rfl (Nat.le_of_ble_eq_true rfl) dX10_readUnit_94 hS (AE_sub (fun _ _ => rfl) (by decide) hS.1) (fun vH1245 H1245 locsH1245 pH1245 zH1245 kH1245 hSH1245 => ?_)
              obtain ⟨x1246, hvH1245, ex1246, hrH1245, m1247, m1248, g1249, g1250, g1251, g1252, mf1253, m1254, m1255, m1256, m1257, hTH1245⟩ := pH1245
              subst hvH1245
              have m1258 := (eoq).trans (MF.r mf1253 (k := 32) (by decide) (by decide)).symm
              have m1259 := (eaq).trans (MF.r mf1253 (k := 33) (by decide) (by decide)).symm
              have m1260 := (esp).trans (MF.i mf1253 (k := 19) (by decide) (by decide)).symm
              have m1261 := (efr).trans (MF.i mf1253 (k := 20) (by decide) (by decide)).symm
              have m1262 := (etk).trans (MF.i mf1253 (k := 21) (by decide) (by decide)).symm
              have m1263 := (evl).trans (MF.i mf1253 (k := 22) (by decide) (by decide)).symm
              have m1264 := (etp).trans (MF.i mf1253 (k := 18) (by decide) (by decide)).symm
              have m1265 := (ejb).trans (MF.i mf1253 (k := 34) (by decide) (by decide)).symm
              have mf1266 : MF K s.heap H1245 a0 [19, 20, 21, 22, 35, 39, 40] := MF.trans mf0 mf1253 (by decide)
              have bx1246 := ty_fi (x := x1246) (k := 35) ex1246 hTH1245 ga0 rg_112 rfl
              have cem1257 := i_cl (x := mn) (by omega)
              have b1267 : ∀ j : Nat, j < 3000 + mn.toNatClampNeg → fI H1245 oq j = fI s.heap oq j ∧ fI H1245 aq j = fI s.heap aq j := fun j hj => ⟨(m1256 j (by omega)).trans (pf00 j hj).1, (m1257 j (by omega)).trans (pf00 j hj).2⟩
              refine W.eq (g2 := F0 m 97 ls1235 []) rfl ?_
              have wf0 : WF (fun k => fI H1245 oq k) (fun k => fI H1245 aq k) (3000 + mn.toNatClampNeg) (3000 + mn.toNatClampNeg + 1) 0 1 := WF.ask (by show (fI _ oq _).toInt = _; rw [← m1254]; rfl) (by show 0 ≤ (fI _ aq _).toInt ∧ (fI _ aq _).toInt ≤ 13; rw [← m1255]; omega)
              refine lv_aload_n hx hb dX10_readUnit_97 rfl (lv_at hl1236 1 rfl) ?_
              obtain ⟨q1268, eq1268⟩ : ∃ z : Nat, z = fR H1245 a0 (K.1.2 10 17) := ⟨_, rfl⟩
              have gq1268 := ty_fr (q := q1268) (k := 17) (u := 126) eq1268 hTH1245 ga0 rg_112 rfl
              refine x_V (As := []) (rest := []) C (a_X10_reads l K G H1245 (sp) (fr) (tk) (vl) (tp) hTH1245 ga0 gq1268 eq1268 m1260 m1261 m1262 m1263 m1264 g1249 g1250 g1251 g1252 (by omega)) yo_X10_reads wM_X10_242 ⟨⟨by decide, by decide⟩, by decide, by decide⟩ (x_rv C hTH1245 (ci := 10) rfl ga0 rg_112) rfl hl1236.1 rfl (Nat.le_of_ble_eq_true rfl) dX10_readUnit_98 hSH1245 (AE_sub (fun _ _ => rfl) (by decide) hSH1245.1) (fun vH1269 H1269 locsH1269 pH1269 zH1269 kH1269 hSH1269 => ?_)
              obtain ⟨x1270, x1271, x1272, x1273, hvH1269, ex1270, ex1271, ex1272, ex1273, hrH1269, m1274, g1275, g1276, g1277, g1278, mf1279, hTH1269⟩ := pH1269
              subst hvH1269
              have b1280 : ∀ j : Nat, j < 3000 + mn.toNatClampNeg → fI H1269 oq j = fI s.heap oq j ∧ fI H1269 aq j = fI s.heap aq j := fun j hj => ⟨(fI_kept (x_lt hTH1245 kH1269 goq (by decide))).trans (b1267 j hj).1, (fI_kept (x_lt hTH1245 kH1269 gaq (by decide))).trans (b1267 j hj).2⟩
              have b1281 : WF (fun k => fI H1269 oq k) (fun k => fI H1269 aq k) (3000 + mn.toNatClampNeg) (3000 + mn.toNatClampNeg + 1) 0 1 := WF.congr (fun j => fI_kept (x_lt hTH1245 kH1269 goq (by decide))) (fun j => fI_kept (x_lt hTH1245 kH1269 gaq (by decide))) wf0
              have m1282 := (m1247).trans (MF.r mf1279 (k := 32) (by decide) (by decide)).symm
              have m1283 := (m1248).trans (MF.r mf1279 (k := 33) (by decide) (by decide)).symm
              have m1284 := (m1264).trans (MF.i mf1279 (k := 18) (by decide) (by decide)).symm
              have m1285 := (m1265).trans (MF.i mf1279 (k := 34) (by decide) (by decide)).symm
              have m1286 := (ex1246).trans (MF.i mf1279 (k := 35) (by decide) (by decide)).symm
              have m1287 := (eq1268).trans (MF.r mf1279 (k := 17) (by decide) (by decide)).symm
              have mf1288 : MF K s.heap H1269 a0 [19, 20, 21, 22, 35, 39, 40] := MF.trans mf1266 mf1279 (by decide)
              have bx1270 := ty_fi (x := x1270) (k := 19) ex1270 hTH1269 ga0 rg_112 rfl
              have bx1271 := ty_fi (x := x1271) (k := 20) ex1271 hTH1269 ga0 rg_112 rfl
              have bx1272 := ty_fi (x := x1272) (k := 21) ex1272 hTH1269 ga0 rg_112 rfl
              have bx1273 := ty_fi (x := x1273) (k := 22) ex1273 hTH1269 ga0 rg_112 rfl
              refine W.eq (g2 := F0 m 101 ls1235 []) rfl ?_
              refine lv_iconst (v := 0) hx hb dX10_readUnit_101 (by decide) ?_
              have cr_mn := i_cl (x := mn) (by omega)
              have cr_x1246 := i_cl (x := x1246) (by omega)
              exact x_iret C hQ dX10_readUnit_102 hSH1269 (by decide) (by decide) (⟨0, x1270, x1271, x1272, x1273, x1246, rfl, by decide, ex1270, ex1271, ex1272, ex1273, m1286, by omega, m1282, m1283, g1275, g1276, g1277, g1278, mf1288, b1280, Or.inr (WF.cast b1281 (by omega) (by omega)), Or.inr (Or.inl (by omega)), hTH1269⟩)
        · have k1238 := i_eq c1237
          exfalso
          omega

set_option maxHeartbeats 4000000 in
set_option maxRecDepth 100000 in
theorem a_X10_readProduct (l : Launch) (K : KE) (G : Nat → Option Nat) (H : Heap) {a0 : Nat} {oq : Nat} {aq : Nat} (sp : Int32) (fr : Int32) (tk : Int32) (vl : Int32) (mn : Int32) (tp : Int32) (jb : Int32) (hT : TY K G H) (ga0 : G a0 = some 112) (goq : G oq = some 136) (eoq : oq = fR H a0 (K.1.2 10 32)) (gaq : G aq = some 137) (eaq : aq = fR H a0 (K.1.2 10 33)) (esp : sp = fI H a0 (K.1.2 10 19)) (efr : fr = fI H a0 (K.1.2 10 20)) (etk : tk = fI H a0 (K.1.2 10 21)) (evl : vl = fI H a0 (K.1.2 10 22)) (emn : mn = fI H a0 (K.1.2 10 35)) (etp : tp = fI H a0 (K.1.2 10 18)) (ejb : jb = fI H a0 (K.1.2 10 34)) (hg_CG : CG (avw K H a0)) (hg_TU : TU (avw K H a0) (svw K H a0)) (hg_WD : WD (avw K H a0)) (hg_IM : IM (avw K H a0)) (hp0 : (sp.toInt ≤ tp.toInt ∧ fr.toInt ≤ sp.toInt ∧ (tk.toInt = 0 ∨ fr.toInt < sp.toInt) ∧ (tk.toInt ≠ 2 ∨ (0 ≤ vl.toInt ∧ vl.toInt ≤ 23)))) (hp1 : mn.toInt ≤ fr.toInt) : MX l K yX10_readProduct cX10_readProduct 2 (some .int) 4 86 0 0 [.ref a0] H (AE G [112, 136, 137] H.size) (fun v H1 => ∃ (r : Int32) (t0 : Int32) (t1 : Int32) (t2 : Int32) (t3 : Int32) (t4 : Int32), v = some (.int r) ∧ ((-1) ≤ r.toInt ∧ r.toInt ≤ 0) ∧ t0 = fI H1 a0 (K.1.2 10 19) ∧ t1 = fI H1 a0 (K.1.2 10 20) ∧ t2 = fI H1 a0 (K.1.2 10 21) ∧ t3 = fI H1 a0 (K.1.2 10 22) ∧ t4 = fI H1 a0 (K.1.2 10 35) ∧ (r.toInt = -1 ∨ (r.toInt = 0 ∧ t0.toInt ≤ tp.toInt ∧ t1.toInt ≤ t0.toInt ∧ (t2.toInt = 0 ∨ t1.toInt < t0.toInt) ∧ (t2.toInt ≠ 2 ∨ (0 ≤ t3.toInt ∧ t3.toInt ≤ 23)) ∧ t4.toInt + fr.toInt ≤ mn.toInt + t1.toInt ∧ mn.toInt < t4.toInt ∧ fr.toInt < t1.toInt)) ∧ oq = fR H1 a0 (K.1.2 10 32) ∧ aq = fR H1 a0 (K.1.2 10 33) ∧ (CG (avw K H1 a0)) ∧ (TU (avw K H1 a0) (svw K H1 a0)) ∧ (WD (avw K H1 a0)) ∧ (IM (avw K H1 a0)) ∧ MF K H H1 a0 [19, 20, 21, 22, 35, 39, 40] ∧ (∀ j : Nat, j < 3000 + mn.toNatClampNeg → fI H1 oq j = fI H oq j ∧ fI H1 aq j = fI H aq j) ∧ (r.toInt = -1 ∨ WF (fun k => fI H1 oq k) (fun k => fI H1 aq k) (3000 + mn.toNatClampNeg) (3000 + t4.toNatClampNeg) 0 1) ∧ TY K G H1) := by
  refine MX.of (by decide +kernel) (Nat.le_of_ble_eq_true rfl) ?_
  intro p e s m below meth c ls Q C hH hl hQ
  subst hH
  have C : CX p K s m _ meth c RX10 cX10_readProduct 2 (some .int) "readProduct" := C
  obtain ⟨hx, hb, hml, hown, hts, hKT, hr, hlocks, hnm⟩ := id C
  have hl : lv_has ls 2 [(0, .ref a0)] := hl
  have hS : va_S (AE G [112, 136, 137] s.heap.size) s.heap s.heap [] := va_S.rf
  have n_m1 : ((-1) : Int32).toInt = -1 := rfl
  have n_0 : (0 : Int32).toInt = 0 := rfl
  have n_1 : (1 : Int32).toInt = 1 := rfl
  have n_2 : (2 : Int32).toInt = 2 := rfl
  have n_3 : (3 : Int32).toInt = 3 := rfl
  have n_4 : (4 : Int32).toInt = 4 := rfl
  have n_5 : (5 : Int32).toInt = 5 := rfl
  have n_42 : (42 : Int32).toInt = 42 := rfl
  have n_47 : (47 : Int32).toInt = 47 := rfl
  have bsp := ty_fi (x := sp) (k := 19) esp hT ga0 rg_112 rfl
  have bfr := ty_fi (x := fr) (k := 20) efr hT ga0 rg_112 rfl
  have btk := ty_fi (x := tk) (k := 21) etk hT ga0 rg_112 rfl
  have bvl := ty_fi (x := vl) (k := 22) evl hT ga0 rg_112 rfl
  have bmn := ty_fi (x := mn) (k := 35) emn hT ga0 rg_112 rfl
  have btp := ty_fi (x := tp) (k := 18) etp hT ga0 rg_112 rfl
  have bjb := ty_fi (x := jb) (k := 34) ejb hT ga0 rg_112 rfl
  have hap : ∀ x y, x < 74 → y < 74 → x ≠ y → K.1.2 10 x ≠ K.1.2 10 y := x_apart hKT hts inX10 tyX10 tyX10_ok nmX10 rfl
  have mf0 : MF K s.heap s.heap a0 [19, 20, 21, 22, 35, 39, 40] := fun _ _ _ => rfl
  have J10 : ∀ (nf : Nat) (ls1986 : Array Slot) (H1985 : Heap) (locsH1985 : List Loc) (x1988 : Int32) (x1989 : Int32) (x1990 : Int32) (x1991 : Int32) (x1992 : Int32), lv_has ls1986 2 [(0, .ref a0)] → TY K G H1985 → va_S (AE G [112, 136, 137] s.heap.size) s.heap H1985 locsH1985 → (0 ≤ x1988.toInt ∧ x1988.toInt ≤ 500) → (0 ≤ x1989.toInt ∧ x1989.toInt ≤ 500) → (0 ≤ x1992.toInt ∧ x1992.toInt ≤ 500) → (x1988 = fI H1985 a0 (K.1.2 10 19)) → (x1989 = fI H1985 a0 (K.1.2 10 20)) → (x1990 = fI H1985 a0 (K.1.2 10 21)) → (x1991 = fI H1985 a0 (K.1.2 10 22)) → (x1992 = fI H1985 a0 (K.1.2 10 35)) → (oq = fR H1985 a0 (K.1.2 10 32)) → (aq = fR H1985 a0 (K.1.2 10 33)) → (tp = fI H1985 a0 (K.1.2 10 18)) → (jb = fI H1985 a0 (K.1.2 10 34)) → (∀ j : Nat, j < 3000 + mn.toNatClampNeg → fI H1985 oq j = fI s.heap oq j ∧ fI H1985 aq j = fI s.heap aq j) → (WF (fun k => fI H1985 oq k) (fun k => fI H1985 aq k) (3000 + mn.toNatClampNeg) (3000 + x1992.toNatClampNeg) 0 1) → (MF K s.heap H1985 a0 [19, 20, 21, 22, 35, 39, 40]) → (CG (avw K H1985 a0)) → (TU (avw K H1985 a0) (svw K H1985 a0)) → (WD (avw K H1985 a0)) → (IM (avw K H1985 a0)) → (500 - x1989.toInt < (nf : Int)) → ((x1988.toInt ≤ tp.toInt ∧ x1989.toInt ≤ x1988.toInt ∧ (x1990.toInt = 0 ∨ x1989.toInt < x1988.toInt) ∧ (x1990.toInt ≠ 2 ∨ (0 ≤ x1991.toInt ∧ x1991.toInt ≤ 23))) ∧ x1992.toInt + fr.toInt ≤ mn.toInt + x1989.toInt ∧ mn.toInt < x1992.toInt ∧ fr.toInt < x1989.toInt) → W p l e ({ frames := 4, cells := 0, slots := 0, locals := 86 } : Room) s m (([.ref a0] : List Value).toArray) below meth c H1985 locsH1985 0 0 Q (F0 m 10 ls1986 []) := by
    intro nf
    induction nf with
    | zero =>
      intro ls1986 H1985 locsH1985 x1988 x1989 x1990 x1991 x1992 hl1987 hTH1985 hSH1985 bx1988 bx1989 bx1992 ex1988 ex1989 ex1990 ex1991 ex1992 cy1993_0 cy1993_1 cy1993_2 cy1993_3 by1993_pf by1993_wf mfy1993 gy1993_CG gy1993_TU gy1993_WD gy1993_IM hm10 iv10
      have rx1990 := i_rng x1990
      have rx1991 := i_rng x1991
      exfalso
      omega
    | succ nf ih10 =>
      intro ls1986 H1985 locsH1985 x1988 x1989 x1990 x1991 x1992 hl1987 hTH1985 hSH1985 bx1988 bx1989 bx1992 ex1988 ex1989 ex1990 ex1991 ex1992 cy1993_0 cy1993_1 cy1993_2 cy1993_3 by1993_pf by1993_wf mfy1993 gy1993_CG gy1993_TU gy1993_WD gy1993_IM hm10 iv10
      have rx1990 := i_rng x1990
      have rx1991 := i_rng x1991
      refine lv_aload_n hx hb dX10_readProduct_10 rfl (lv_at hl1987 0 rfl) ?_
      refine lv_bipush (v := 42) hx hb dX10_readProduct_11 (by decide) ?_
      refine x_V (As := [.int 42]) (rest := []) C (a_X10_isSign l K G H1985 (42) (x1990) (x1991) hTH1985 ga0 ex1990 ex1991) yo_X10_isSign wM_X10_249 ⟨⟨by decide, by decide⟩, by decide, by decide⟩ (x_rv C hTH1985 (ci := 10) rfl ga0 rg_112) rfl hl1987.1 rfl (Nat.le_of_ble_eq_true rfl) dX10_readProduct_13 hSH1985 (AE_sub (fun _ _ => rfl) (by decide) hSH1985.1) (fun vH1994 H1994 locsH1994 pH1994 zH1994 kH1994 hSH1994 => ?_)
      obtain ⟨x1995, hvH1994, bx1995, hrH1994, hTH1994⟩ := pH1994
      subst hvH1994
      have mf1996 : MF K s.heap H1994 a0 [19, 20, 21, 22, 35, 39, 40] := MF.eff (x_lt hTH1985 kH1994 ga0 (by decide)) mfy1993
      have b1997 : ∀ j : Nat, j < 3000 + mn.toNatClampNeg → fI H1994 oq j = fI s.heap oq j ∧ fI H1994 aq j = fI s.heap aq j := fun j hj => ⟨(fI_kept (x_lt hTH1985 kH1994 goq (by decide))).trans (by1993_pf j hj).1, (fI_kept (x_lt hTH1985 kH1994 gaq (by decide))).trans (by1993_pf j hj).2⟩
      have b1998 : WF (fun k => fI H1994 oq k) (fun k => fI H1994 aq k) (3000 + mn.toNatClampNeg) (3000 + x1992.toNatClampNeg) 0 1 := WF.congr (fun j => fI_kept (x_lt hTH1985 kH1994 goq (by decide))) (fun j => fI_kept (x_lt hTH1985 kH1994 gaq (by decide))) by1993_wf
      have g1999 : CG (avw K H1994 a0) := CG.congr (fun k hk j => av_eff hTH1985 kH1994 ga0 (by decide) (CG_eff [] (by decide) k hk)) gy1993_CG
      have g2000 : TU (avw K H1994 a0) (svw K H1994 a0) := TU.congr (fun k hk j => av_eff hTH1985 kH1994 ga0 (by decide) (TU_eff [] (by decide) k hk)) (fun k hk => sv_eff hTH1985 kH1994 ga0 (by decide)) gy1993_TU
      have g2001 : WD (avw K H1994 a0) := WD.congr (fun k hk j => av_eff hTH1985 kH1994 ga0 (by decide) (WD_eff [] (by decide) k hk)) gy1993_WD
      have g2002 : IM (avw K H1994 a0) := IM.congr (fun k hk j => av_eff hTH1985 kH1994 ga0 (by decide) (IM_eff [] (by decide) k hk)) gy1993_IM
      have m2003 := (ex1988).trans (fI_kept (x_lt hTH1985 kH1994 ga0 (by decide))).symm
      have m2004 := (ex1989).trans (fI_kept (x_lt hTH1985 kH1994 ga0 (by decide))).symm
      have m2005 := (ex1990).trans (fI_kept (x_lt hTH1985 kH1994 ga0 (by decide))).symm
      have m2006 := (ex1991).trans (fI_kept (x_lt hTH1985 kH1994 ga0 (by decide))).symm
      have m2007 := (ex1992).trans (fI_kept (x_lt hTH1985 kH1994 ga0 (by decide))).symm
      have m2008 := (cy1993_0).trans (fR_kept (x_lt hTH1985 kH1994 ga0 (by decide))).symm
      have m2009 := (cy1993_1).trans (fR_kept (x_lt hTH1985 kH1994 ga0 (by decide))).symm
      have m2010 := (cy1993_2).trans (fI_kept (x_lt hTH1985 kH1994 ga0 (by decide))).symm
      have m2011 := (cy1993_3).trans (fI_kept (x_lt hTH1985 kH1994 ga0 (by decide))).symm
      refine W.eq (g2 := F0 m 16 ls1986 [.int x1995]) rfl ?_
      refine lv_if_ne (tgt := 28) hx hb dX10_readProduct_16 (by decide) (fun c2012 => ?_) (fun c2012 => ?_)
      · have k2013 := i_ne c2012
        refine lv_aload_n hx hb dX10_readProduct_28 rfl (lv_at hl1987 0 rfl) ?_
        refine lv_bipush (v := 42) hx hb dX10_readProduct_29 (by decide) ?_
        refine x_V (As := [.int 42]) (rest := []) C (a_X10_isSign l K G H1994 (42) (x1990) (x1991) hTH1994 ga0 m2005 m2006) yo_X10_isSign wM_X10_249 ⟨⟨by decide, by decide⟩, by decide, by decide⟩ (x_rv C hTH1994 (ci := 10) rfl ga0 rg_112) rfl hl1987.1 rfl (Nat.le_of_ble_eq_true rfl) dX10_readProduct_31 hSH1994 (AE_sub (fun _ _ => rfl) (by decide) hSH1994.1) (fun vH2014 H2014 locsH2014 pH2014 zH2014 kH2014 hSH2014 => ?_)
        obtain ⟨x2015, hvH2014, bx2015, hrH2014, hTH2014⟩ := pH2014
        subst hvH2014
        have mf2016 : MF K s.heap H2014 a0 [19, 20, 21, 22, 35, 39, 40] := MF.eff (x_lt hTH1994 kH2014 ga0 (by decide)) mf1996
        have b2017 : ∀ j : Nat, j < 3000 + mn.toNatClampNeg → fI H2014 oq j = fI s.heap oq j ∧ fI H2014 aq j = fI s.heap aq j := fun j hj => ⟨(fI_kept (x_lt hTH1994 kH2014 goq (by decide))).trans (b1997 j hj).1, (fI_kept (x_lt hTH1994 kH2014 gaq (by decide))).trans (b1997 j hj).2⟩
        have b2018 : WF (fun k => fI H2014 oq k) (fun k => fI H2014 aq k) (3000 + mn.toNatClampNeg) (3000 + x1992.toNatClampNeg) 0 1 := WF.congr (fun j => fI_kept (x_lt hTH1994 kH2014 goq (by decide))) (fun j => fI_kept (x_lt hTH1994 kH2014 gaq (by decide))) b1998
        have g2019 : CG (avw K H2014 a0) := CG.congr (fun k hk j => av_eff hTH1994 kH2014 ga0 (by decide) (CG_eff [] (by decide) k hk)) g1999
        have g2020 : TU (avw K H2014 a0) (svw K H2014 a0) := TU.congr (fun k hk j => av_eff hTH1994 kH2014 ga0 (by decide) (TU_eff [] (by decide) k hk)) (fun k hk => sv_eff hTH1994 kH2014 ga0 (by decide)) g2000
        have g2021 : WD (avw K H2014 a0) := WD.congr (fun k hk j => av_eff hTH1994 kH2014 ga0 (by decide) (WD_eff [] (by decide) k hk)) g2001
        have g2022 : IM (avw K H2014 a0) := IM.congr (fun k hk j => av_eff hTH1994 kH2014 ga0 (by decide) (IM_eff [] (by decide) k hk)) g2002
        have m2023 := (m2003).trans (fI_kept (x_lt hTH1994 kH2014 ga0 (by decide))).symm
        have m2024 := (m2004).trans (fI_kept (x_lt hTH1994 kH2014 ga0 (by decide))).symm
        have m2025 := (m2005).trans (fI_kept (x_lt hTH1994 kH2014 ga0 (by decide))).symm
        have m2026 := (m2006).trans (fI_kept (x_lt hTH1994 kH2014 ga0 (by decide))).symm
        have m2027 := (m2007).trans (fI_kept (x_lt hTH1994 kH2014 ga0 (by decide))).symm
        have m2028 := (m2008).trans (fR_kept (x_lt hTH1994 kH2014 ga0 (by decide))).symm
        have m2029 := (m2009).trans (fR_kept (x_lt hTH1994 kH2014 ga0 (by decide))).symm
        have m2030 := (m2010).trans (fI_kept (x_lt hTH1994 kH2014 ga0 (by decide))).symm
        have m2031 := (m2011).trans (fI_kept (x_lt hTH1994 kH2014 ga0 (by decide))).symm
        refine W.eq (g2 := F0 m 34 ls1986 [.int x2015]) rfl ?_
        refine lv_istore_n (lv' := [(1, .int x2015), (0, .ref a0)]) hx hb dX10_readProduct_34 rfl hl1987 (by decide) rfl (fun ls2032 hl2033 => ?_)
        refine lv_aload_n hx hb dX10_readProduct_35 rfl (lv_at hl2033 1 rfl) ?_
        obtain ⟨q2034, eq2034⟩ : ∃ z : Nat, z = fR H2014 a0 (K.1.2 10 17) := ⟨_, rfl⟩
        have gq2034 := ty_fr (q := q2034) (k := 17) (u := 126) eq2034 hTH2014 ga0 rg_112 rfl
        refine x_V (As := []) (rest := []) C (a_X10_reads l K G H2014 (x1988) (x1989) (x1990) (x1991) (tp) hTH2014 ga0 gq2034 eq2034 m2023 m2024 m2025 m2026 m2030 g2019 g2020 g2021 g2022 (by omega)) yo_X10_reads wM_X10_242 ⟨⟨by decide, by decide⟩, by decide, by decide⟩ (x_rv C hTH2014 (ci := 10) rfl ga0 rg_112) rfl hl2033.1 rfl (Nat.le_of_ble_eq_true rfl) dX10_readProduct_36 hSH2014 (AE_sub (fun _ _ => rfl) (by decide) hSH2014.1) (fun vH2035 H2035 locsH2035 pH2035 zH2035 kH2035 hSH2035 => ?_)
        obtain ⟨x2036, x2037, x2038, x2039, hvH2035, ex2036, ex2037, ex2038, ex2039, hrH2035, m2040, g2041, g2042, g2043, g2044, mf2045, hTH2035⟩ := pH2035
        subst hvH2035
        have b2046 : ∀ j : Nat, j < 3000 + mn.toNatClampNeg → fI H2035 oq j = fI s.heap oq j ∧ fI H2035 aq j = fI s.heap aq j := fun j hj => ⟨(fI_kept (x_lt hTH2014 kH2035 goq (by decide))).trans (b2017 j hj).1, (fI_kept (x_lt hTH2014 kH2035 gaq (by decide))).trans (b2017 j hj).2⟩
        have b2047 : WF (fun k => fI H2035 oq k) (fun k => fI H2035 aq k) (3000 + mn.toNatClampNeg) (3000 + x1992.toNatClampNeg) 0 1 := WF.congr (fun j => fI_kept (x_lt hTH2014 kH2035 goq (by decide))) (fun j => fI_kept (x_lt hTH2014 kH2035 gaq (by decide))) b2018
        have m2048 := (m2027).trans (MF.i mf2045 (k := 35) (by decide) (by decide)).symm
        have m2049 := (m2028).trans (MF.r mf2045 (k := 32) (by decide) (by decide)).symm
        have m2050 := (m2029).trans (MF.r mf2045 (k := 33) (by decide) (by decide)).symm
        have m2051 := (m2030).trans (MF.i mf2045 (k := 18) (by decide) (by decide)).symm
        have m2052 := (m2031).trans (MF.i mf2045 (k := 34) (by decide) (by decide)).symm
        have m2053 := (eq2034).trans (MF.r mf2045 (k := 17) (by decide) (by decide)).symm
        have mf2054 : MF K s.heap H2035 a0 [19, 20, 21, 22, 35, 39, 40] := MF.trans mf2016 mf2045 (by decide)
        have bx2036 := ty_fi (x := x2036) (k := 19) ex2036 hTH2035 ga0 rg_112 rfl
        have bx2037 := ty_fi (x := x2037) (k := 20) ex2037 hTH2035 ga0 rg_112 rfl
        have bx2038 := ty_fi (x := x2038) (k := 21) ex2038 hTH2035 ga0 rg_112 rfl
        have bx2039 := ty_fi (x := x2039) (k := 22) ex2039 hTH2035 ga0 rg_112 rfl
        refine W.eq (g2 := F0 m 39 ls2032 []) rfl ?_
        refine lv_iload_n hx hb dX10_readProduct_39 rfl (lv_at hl2033 0 rfl) ?_
        refine lv_if_ne (tgt := 57) hx hb dX10_readProduct_40 (by decide) (fun c2055 => ?_) (fun c2055 => ?_)
        · have k2056 := i_ne c2055
          refine lv_iload_n hx hb dX10_readProduct_57 rfl (lv_at hl2033 0 rfl) ?_
          refine lv_if_ne (tgt := 74) hx hb dX10_readProduct_58 (by decide) (fun c2057 => ?_) (fun c2057 => ?_)
          · have k2058 := i_ne c2057
            refine lv_aload_n hx hb dX10_readProduct_74 rfl (lv_at hl2033 1 rfl) ?_
            refine x_V (As := []) (rest := []) C (a_X10_readUnit l K G H2035 (x2036) (x2037) (x2038) (x2039) (x1992) (tp) (jb) hTH2035 ga0 goq m2049 gaq m2050 ex2036 ex2037 ex2038 ex2039 m2048 m2051 m2052 g2041 g2042 g2043 g2044 (by omega) (by omega)) yo_X10_readUnit wM_X10_245 ⟨⟨by decide, by decide⟩, by decide, by decide⟩ (x_rv C hTH2035 (ci := 10) rfl ga0 rg_112) rfl hl2033.1 rfl (Nat.le_of_ble_eq_true rfl) dX10_readProduct_75 hSH2035 (AE_sub (fun _ _ => rfl) (by decide) hSH2035.1) (fun vH2059 H2059 locsH2059 pH2059 zH2059 kH2059 hSH2059 => ?_)
            obtain ⟨x2060, x2061, x2062, x2063, x2064, x2065, hvH2059, bx2060, ex2061, ex2062, ex2063, ex2064, ex2065, hrH2059, m2066, m2067, g2068, g2069, g2070, g2071, mf2072, m2073, m2074, m2075, hTH2059⟩ := pH2059
            subst hvH2059
            have m2076 := (m2049).trans (MF.r mf2072 (k := 32) (by decide) (by decide)).symm
            have m2077 := (m2050).trans (MF.r mf2072 (k := 33) (by decide) (by decide)).symm
            have m2078 := (m2051).trans (MF.i mf2072 (k := 18) (by decide) (by decide)).symm
            have m2079 := (m2052).trans (MF.i mf2072 (k := 34) (by decide) (by decide)).symm
            have m2080 := (m2040).trans (MF.r mf2072 (k := 17) (by decide) (by decide)).symm
            have mf2081 : MF K s.heap H2059 a0 [19, 20, 21, 22, 35, 39, 40] := MF.trans mf2054 mf2072 (by decide)
            have bx2061 := ty_fi (x := x2061) (k := 19) ex2061 hTH2059 ga0 rg_112 rfl
            have bx2062 := ty_fi (x := x2062) (k := 20) ex2062 hTH2059 ga0 rg_112 rfl
            have bx2063 := ty_fi (x := x2063) (k := 21) ex2063 hTH2059 ga0 rg_112 rfl
            have bx2064 := ty_fi (x := x2064) (k := 22) ex2064 hTH2059 ga0 rg_112 rfl
            have bx2065 := ty_fi (x := x2065) (k := 35) ex2065 hTH2059 ga0 rg_112 rfl
            have csm2073 := i_cl (x := x1992) (by omega)
            have cs_mn := i_cl (x := mn) (by omega)
            have b2082 : ∀ j : Nat, j < 3000 + mn.toNatClampNeg → fI H2059 oq j = fI s.heap oq j ∧ fI H2059 aq j = fI s.heap aq j := fun j hj => ⟨(m2073 j (by omega)).1.trans (b2046 j hj).1, (m2073 j (by omega)).2.trans (b2046 j hj).2⟩
            have cs_mn := i_cl (x := mn) (by omega)
            have b2083 : WF (fun k => fI H2059 oq k) (fun k => fI H2059 aq k) (3000 + mn.toNatClampNeg) (3000 + x1992.toNatClampNeg) 0 1 := WF.keep b2047 (fun j hj => (m2073 j (by omega)).1) (fun j hj => (m2073 j (by omega)).2)
            refine W.eq (g2 := F0 m 78 ls2032 [.int x2060]) rfl ?_
            refine lv_iconst (v := (-1)) hx hb dX10_readProduct_78 (by decide) ?_
            refine lv_icmp_ne (tgt := 84) hx hb dX10_readProduct_79 (by decide) (fun c2084 => ?_) (fun c2084 => ?_)
            · have k2085 := i_ne c2084
              have wu0 : WF (fun k => fI H2059 oq k) (fun k => fI H2059 aq k) (3000 + x1992.toNatClampNeg) (3000 + x2065.toNatClampNeg) 0 1 := by
                rcases m2074 with h | h
                · exfalso; omega
                · exact h
              refine lv_aload_n hx hb dX10_readProduct_84 rfl (lv_at hl2033 1 rfl) ?_
              refine lv_iload_n hx hb dX10_readProduct_85 rfl (lv_at hl2033 0 rfl) ?_
              refine lv_if_eq (tgt := 93) hx hb dX10_readProduct_86 (by decide) (fun c2086 => ?_) (fun c2086 => ?_)
              · have k2087 := i_eq c2086
                exfalso
                omega
              · have k2087 := i_ne c2086
                refine lv_iconst (v := 4) hx hb dX10_readProduct_89 (by decide) ?_
                refine lv_goto (tgt := 94) hx hb dX10_readProduct_90 (by decide) ?_
                refine lv_iconst (v := 0) hx hb dX10_readProduct_94 (by decide) ?_
                refine x_V (As := [.int 4, .int 0]) (rest := []) C (a_X10_emits l K G H2059 (4) (0) (x2065) hTH2059 ga0 goq m2066 gaq m2067 ex2065 g2068 g2069 g2070 g2071 (by omega)) yo_X10_emits wM_X10_238 ⟨⟨by decide, by decide⟩, by decide, by decide⟩ (x_rv C hTH2059 (ci := 10) rfl ga0 rg_112) rfl hl2033.1 rfl (Nat.le_of_ble_eq_true rfl) dX10_readProduct_95 hSH2059 (AE_sub (fun _ _ => rfl) (by decide) hSH2059.1) (fun vH2088 H2088 locsH2088 pH2088 zH2088 kH2088 hSH2088 => ?_)
                obtain ⟨x2089, hvH2088, ex2089, hrH2088, m2090, m2091, g2092, g2093, g2094, g2095, mf2096, m2097, m2098, m2099, m2100, hTH2088⟩ := pH2088
                subst hvH2088
                have m2101 := (m2066).trans (MF.r mf2096 (k := 32) (by decide) (by decide)).symm
                have m2102 := (m2067).trans (MF.r mf2096 (k := 33) (by decide) (by decide)).symm
                have m2103 := (m2078).trans (MF.i mf2096 (k := 18) (by decide) (by decide)).symm
                have m2104 := (m2079).trans (MF.i mf2096 (k := 34) (by decide) (by decide)).symm
                have m2105 := (m2080).trans (MF.r mf2096 (k := 17) (by decide) (by decide)).symm
                have m2106 := (ex2061).trans (MF.i mf2096 (k := 19) (by decide) (by decide)).symm
                have m2107 := (ex2062).trans (MF.i mf2096 (k := 20) (by decide) (by decide)).symm
                have m2108 := (ex2063).trans (MF.i mf2096 (k := 21) (by decide) (by decide)).symm
                have m2109 := (ex2064).trans (MF.i mf2096 (k := 22) (by decide) (by decide)).symm
                have mf2110 : MF K s.heap H2088 a0 [19, 20, 21, 22, 35, 39, 40] := MF.trans mf2081 mf2096 (by decide)
                have bx2089 := ty_fi (x := x2089) (k := 35) ex2089 hTH2088 ga0 rg_112 rfl
                have cem2100 := i_cl (x := x2065) (by omega)
                have ce_mn := i_cl (x := mn) (by omega)
                have b2111 : ∀ j : Nat, j < 3000 + mn.toNatClampNeg → fI H2088 oq j = fI s.heap oq j ∧ fI H2088 aq j = fI s.heap aq j := fun j hj => ⟨(m2099 j (by omega)).trans (b2082 j hj).1, (m2100 j (by omega)).trans (b2082 j hj).2⟩
                have ce_mn := i_cl (x := mn) (by omega)
                have ce_x1992 := i_cl (x := x1992) (by omega)
                have b2112 : WF (fun k => fI H2088 oq k) (fun k => fI H2088 aq k) (3000 + mn.toNatClampNeg) (3000 + x1992.toNatClampNeg) 0 1 := WF.keep b2083 (fun j hj => m2099 j (by omega)) (fun j hj => m2100 j (by omega))
                have ce_x1992 := i_cl (x := x1992) (by omega)
                have b2113 : WF (fun k => fI H2088 oq k) (fun k => fI H2088 aq k) (3000 + x1992.toNatClampNeg) (3000 + x2065.toNatClampNeg) 0 1 := WF.keep wu0 (fun j hj => m2099 j (by omega)) (fun j hj => m2100 j (by omega))
                refine W.eq (g2 := F0 m 98 ls2032 []) rfl ?_
                have ho := congrArg Int32.toInt m2097
                have cb_mn := i_cl (x := mn) (by omega)
                have cb_x1992 := i_cl (x := x1992) (by omega)
                have cb_x2065 := i_cl (x := x2065) (by omega)
                have wn : WF (fun k => fI H2088 oq k) (fun k => fI H2088 aq k) (3000 + mn.toNatClampNeg) (3000 + x2065.toNatClampNeg + 1) 0 1 := WF.bin b2112 b2113 (by omega) (by omega) (by show 2 ≤ (fI _ oq _).toInt ∧ (fI _ oq _).toInt ≤ 11 ∧ (fI _ oq _).toInt ≠ 9; omega) (Or.inl (by show (fI _ oq _).toInt ≠ 5; omega))
                refine lv_goto (tgt := 10) hx hb dX10_readProduct_98 (by decide) ?_
                have cl_mn := i_cl (x := mn) (by omega)
                have cl_mn := i_cl (x := mn) (by omega)
                have cl_x2065 := i_cl (x := x2065) (by omega)
                have cl_x2089 := i_cl (x := x2089) (by omega)
                exact ih10 ls2032 H2088 locsH2088 (x2061) (x2062) (x2063) (x2064) (x2089) (lv_sub hl2033 [1] rfl) hTH2088 hSH2088 (by have := i_rng x2061; omega) (by have := i_rng x2062; omega) (by have := i_rng x2089; omega) m2106 m2107 m2108 m2109 ex2089 m2090 m2091 m2103 m2104 b2111 (WF.cast wn (by omega) (by omega)) mf2110 g2092 g2093 g2094 g2095 (by omega) (by omega)
            · have k2085 := i_eq c2084
              refine lv_iconst (v := (-1)) hx hb dX10_readProduct_82 (by decide) ?_
              exact x_iret C hQ dX10_readProduct_83 hSH2059 (by decide) (by decide) (⟨(-1), x2061, x2062, x2063, x2064, x2065, rfl, by decide, ex2061, ex2062, ex2063, ex2064, ex2065, by omega, m2066, m2067, g2068, g2069, g2070, g2071, mf2081, b2082, Or.inl (by omega), hTH2059⟩)
          · have k2058 := i_eq c2057
            exfalso
            omega
        · have k2056 := i_eq c2055
          refine lv_aload_n hx hb dX10_readProduct_43 rfl (lv_at hl2033 1 rfl) ?_
          refine x_gi C hTH2035 (ci := 10) (k := 21) rfl inX10 (by decide) wF_X10_202 ga0 rg_112 rfl dX10_readProduct_44 (fun x2114 ex2114 bx2114 => ?_)
          have ux2114 : x2038 = x2114 := (ex2038).trans ex2114.symm
          subst ux2114
          refine lv_iconst (v := 3) hx hb dX10_readProduct_47 (by decide) ?_
          refine lv_icmp_eq (tgt := 57) hx hb dX10_readProduct_48 (by decide) (fun c2115 => ?_) (fun c2115 => ?_)
          · have k2116 := i_eq c2115
            refine lv_iload_n hx hb dX10_readProduct_57 rfl (lv_at hl2033 0 rfl) ?_
            refine lv_if_ne (tgt := 74) hx hb dX10_readProduct_58 (by decide) (fun c2117 => ?_) (fun c2117 => ?_)
            · have k2118 := i_ne c2117
              exfalso
              omega
            · have k2118 := i_eq c2117
              refine lv_aload_n hx hb dX10_readProduct_61 rfl (lv_at hl2033 1 rfl) ?_
              refine x_gi C hTH2035 (ci := 10) (k := 22) rfl inX10 (by decide) wF_X10_205 ga0 rg_112 rfl dX10_readProduct_62 (fun x2119 ex2119 bx2119 => ?_)
              have ux2119 : x2039 = x2119 := (ex2039).trans ex2119.symm
              subst ux2119
              refine lv_if_ne (tgt := 74) hx hb dX10_readProduct_65 (by decide) (fun c2120 => ?_) (fun c2120 => ?_)
              · have k2121 := i_ne c2120
                refine lv_aload_n hx hb dX10_readProduct_74 rfl (lv_at hl2033 1 rfl) ?_
                refine x_V (As := []) (rest := []) C (a_X10_readUnit l K G H2035 (x2036) (x2037) (x2038) (x2039) (x1992) (tp) (jb) hTH2035 ga0 goq m2049 gaq m2050 ex2036 ex2037 ex2038 ex2039 m2048 m2051 m2052 g2041 g2042 g2043 g2044 (by omega) (by omega)) yo_X10_readUnit wM_X10_245 ⟨⟨by decide, by decide⟩, by decide, by decide⟩ (x_rv C hTH2035 (ci := 10) rfl ga0 rg_112) rfl hl2033.1 rfl (Nat.le_of_ble_eq_true rfl) dX10_readProduct_75 hSH2035 (AE_sub (fun _ _ => rfl) (by decide) hSH2035.1) (fun vH2122 H2122 locsH2122 pH2122 zH2122 kH2122 hSH2122 => ?_)
                obtain ⟨x2123, x2124, x2125, x2126, x2127, x2128, hvH2122, bx2123, ex2124, ex2125, ex2126, ex2127, ex2128, hrH2122, m2129, m2130, g2131, g2132, g2133, g2134, mf2135, m2136, m2137, m2138, hTH2122⟩ := pH2122
                subst hvH2122
                have m2139 := (m2049).trans (MF.r mf2135 (k := 32) (by decide) (by decide)).symm
                have m2140 := (m2050).trans (MF.r mf2135 (k := 33) (by decide) (by decide)).symm
                have m2141 := (m2051).trans (MF.i mf2135 (k := 18) (by decide) (by decide)).symm
                have m2142 := (m2052).trans (MF.i mf2135 (k := 34) (by decide) (by decide)).symm
                have m2143 := (m2040).trans (MF.r mf2135 (k := 17) (by decide) (by decide)).symm
                have mf2144 : MF K s.heap H2122 a0 [19, 20, 21, 22, 35, 39, 40] := MF.trans mf2054 mf2135 (by decide)
                have bx2124 := ty_fi (x := x2124) (k := 19) ex2124 hTH2122 ga0 rg_112 rfl
                have bx2125 := ty_fi (x := x2125) (k := 20) ex2125 hTH2122 ga0 rg_112 rfl
                have bx2126 := ty_fi (x := x2126) (k := 21) ex2126 hTH2122 ga0 rg_112 rfl
                have bx2127 := ty_fi (x := x2127) (k := 22) ex2127 hTH2122 ga0 rg_112 rfl
                have bx2128 := ty_fi (x := x2128) (k := 35) ex2128 hTH2122 ga0 rg_112 rfl
                have csm2136 := i_cl (x := x1992) (by omega)
                have cs_mn := i_cl (x := mn) (by omega)
                have b2145 : ∀ j : Nat, j < 3000 + mn.toNatClampNeg → fI H2122 oq j = fI s.heap oq j ∧ fI H2122 aq j = fI s.heap aq j := fun j hj => ⟨(m2136 j (by omega)).1.trans (b2046 j hj).1, (m2136 j (by omega)).2.trans (b2046 j hj).2⟩
                have cs_mn := i_cl (x := mn) (by omega)
                have b2146 : WF (fun k => fI H2122 oq k) (fun k => fI H2122 aq k) (3000 + mn.toNatClampNeg) (3000 + x1992.toNatClampNeg) 0 1 := WF.keep b2047 (fun j hj => (m2136 j (by omega)).1) (fun j hj => (m2136 j (by omega)).2)
                refine W.eq (g2 := F0 m 78 ls2032 [.int x2123]) rfl ?_
                refine lv_iconst (v := (-1)) hx hb dX10_readProduct_78 (by decide) ?_
                refine lv_icmp_ne (tgt := 84) hx hb dX10_readProduct_79 (by decide) (fun c2147 => ?_) (fun c2147 => ?_)
                · have k2148 := i_ne c2147
                  have wu0 : WF (fun k => fI H2122 oq k) (fun k => fI H2122 aq k) (3000 + x1992.toNatClampNeg) (3000 + x2128.toNatClampNeg) 0 1 := by
                    rcases m2137 with h | h
                    · exfalso; omega
                    · exact h
                  have ev0 : (fI H2122 oq (3000 + x1992.toNatClampNeg)).toInt = 0 ∧ (fI H2122 aq (3000 + x1992.toNatClampNeg)).toInt = x2039.toInt := by
                    rcases m2138 with h | h | h
                    · exfalso; omega
                    · exfalso; omega
                    · exact h
                  refine lv_aload_n hx hb dX10_readProduct_84 rfl (lv_at hl2033 1 rfl) ?_
                  refine lv_iload_n hx hb dX10_readProduct_85 rfl (lv_at hl2033 0 rfl) ?_
                  refine lv_if_eq (tgt := 93) hx hb dX10_readProduct_86 (by decide) (fun c2149 => ?_) (fun c2149 => ?_)
                  · have k2150 := i_eq c2149
                    refine lv_iconst (v := 5) hx hb dX10_readProduct_93 (by decide) ?_
                    refine lv_iconst (v := 0) hx hb dX10_readProduct_94 (by decide) ?_
                    refine x_V (As := [.int 5, .int 0]) (rest := []) C (a_X10_emits l K G H2122 (5) (0) (x2128) hTH2122 ga0 goq m2129 gaq m2130 ex2128 g2131 g2132 g2133 g2134 (by omega)) yo_X10_emits wM_X10_238 ⟨⟨by decide, by decide⟩, by decide, by decide⟩ (x_rv C hTH2122 (ci := 10) rfl ga0 rg_112) rfl hl2033.1 rfl (Nat.le_of_ble_eq_true rfl) dX10_readProduct_95 hSH2122 (AE_sub (fun _ _ => rfl) (by decide) hSH2122.1) (fun vH2151 H2151 locsH2151 pH2151 zH2151 kH2151 hSH2151 => ?_)
                    obtain ⟨x2152, hvH2151, ex2152, hrH2151, m2153, m2154, g2155, g2156, g2157, g2158, mf2159, m2160, m2161, m2162, m2163, hTH2151⟩ := pH2151
                    subst hvH2151
                    have m2164 := (m2129).trans (MF.r mf2159 (k := 32) (by decide) (by decide)).symm
                    have m2165 := (m2130).trans (MF.r mf2159 (k := 33) (by decide) (by decide)).symm
                    have m2166 := (m2141).trans (MF.i mf2159 (k := 18) (by decide) (by decide)).symm
                    have m2167 := (m2142).trans (MF.i mf2159 (k := 34) (by decide) (by decide)).symm
                    have m2168 := (m2143).trans (MF.r mf2159 (k := 17) (by decide) (by decide)).symm
                    have m2169 := (ex2124).trans (MF.i mf2159 (k := 19) (by decide) (by decide)).symm
                    have m2170 := (ex2125).trans (MF.i mf2159 (k := 20) (by decide) (by decide)).symm
                    have m2171 := (ex2126).trans (MF.i mf2159 (k := 21) (by decide) (by decide)).symm
                    have m2172 := (ex2127).trans (MF.i mf2159 (k := 22) (by decide) (by decide)).symm
                    have mf2173 : MF K s.heap H2151 a0 [19, 20, 21, 22, 35, 39, 40] := MF.trans mf2144 mf2159 (by decide)
                    have bx2152 := ty_fi (x := x2152) (k := 35) ex2152 hTH2151 ga0 rg_112 rfl
                    have cem2163 := i_cl (x := x2128) (by omega)
                    have ce_mn := i_cl (x := mn) (by omega)
                    have b2174 : ∀ j : Nat, j < 3000 + mn.toNatClampNeg → fI H2151 oq j = fI s.heap oq j ∧ fI H2151 aq j = fI s.heap aq j := fun j hj => ⟨(m2162 j (by omega)).trans (b2145 j hj).1, (m2163 j (by omega)).trans (b2145 j hj).2⟩
                    have ce_mn := i_cl (x := mn) (by omega)
                    have ce_x1992 := i_cl (x := x1992) (by omega)
                    have b2175 : WF (fun k => fI H2151 oq k) (fun k => fI H2151 aq k) (3000 + mn.toNatClampNeg) (3000 + x1992.toNatClampNeg) 0 1 := WF.keep b2146 (fun j hj => m2162 j (by omega)) (fun j hj => m2163 j (by omega))
                    have ce_x1992 := i_cl (x := x1992) (by omega)
                    have b2176 : WF (fun k => fI H2151 oq k) (fun k => fI H2151 aq k) (3000 + x1992.toNatClampNeg) (3000 + x2128.toNatClampNeg) 0 1 := WF.keep wu0 (fun j hj => m2162 j (by omega)) (fun j hj => m2163 j (by omega))
                    have ce_x1992 := i_cl (x := x1992) (by omega)
                    have b2177 : (fI H2151 oq (3000 + x1992.toNatClampNeg)).toInt = 0 ∧ (fI H2151 aq (3000 + x1992.toNatClampNeg)).toInt = x2039.toInt := ⟨(congrArg Int32.toInt (m2162 _ (by omega))).trans ev0.1, (congrArg Int32.toInt (m2163 _ (by omega))).trans ev0.2⟩
                    refine W.eq (g2 := F0 m 98 ls2032 []) rfl ?_
                    have ho := congrArg Int32.toInt m2160
                    have cb_mn := i_cl (x := mn) (by omega)
                    have cb_x1992 := i_cl (x := x1992) (by omega)
                    have cb_x2128 := i_cl (x := x2128) (by omega)
                    have ev1 : (fI H2151 oq (3000 + x1992.toNatClampNeg)).toInt = 0 ∧ (fI H2151 aq (3000 + x1992.toNatClampNeg)).toInt ≠ 0 := ⟨b2177.1, by rw [b2177.2]; omega⟩
                    have wn : WF (fun k => fI H2151 oq k) (fun k => fI H2151 aq k) (3000 + mn.toNatClampNeg) (3000 + x2128.toNatClampNeg + 1) 0 1 := WF.bin b2175 b2176 (by omega) (by omega) (by show 2 ≤ (fI _ oq _).toInt ∧ (fI _ oq _).toInt ≤ 11 ∧ (fI _ oq _).toInt ≠ 9; omega) (Or.inr ⟨by omega, ev1.1, ev1.2⟩)
                    refine lv_goto (tgt := 10) hx hb dX10_readProduct_98 (by decide) ?_
                    have cl_mn := i_cl (x := mn) (by omega)
                    have cl_mn := i_cl (x := mn) (by omega)
                    have cl_x2128 := i_cl (x := x2128) (by omega)
                    have cl_x2152 := i_cl (x := x2152) (by omega)
                    exact ih10 ls2032 H2151 locsH2151 (x2124) (x2125) (x2126) (x2127) (x2152) (lv_sub hl2033 [1] rfl) hTH2151 hSH2151 (by have := i_rng x2124; omega) (by have := i_rng x2125; omega) (by have := i_rng x2152; omega) m2169 m2170 m2171 m2172 ex2152 m2153 m2154 m2166 m2167 b2174 (WF.cast wn (by omega) (by omega)) mf2173 g2155 g2156 g2157 g2158 (by omega) (by omega)
                  · have k2150 := i_ne c2149
                    exfalso
                    omega
                · have k2148 := i_eq c2147
                  refine lv_iconst (v := (-1)) hx hb dX10_readProduct_82 (by decide) ?_
                  exact x_iret C hQ dX10_readProduct_83 hSH2122 (by decide) (by decide) (⟨(-1), x2124, x2125, x2126, x2127, x2128, rfl, by decide, ex2124, ex2125, ex2126, ex2127, ex2128, by omega, m2129, m2130, g2131, g2132, g2133, g2134, mf2144, b2145, Or.inl (by omega), hTH2122⟩)
              · have k2121 := i_eq c2120
                refine lv_aload_n hx hb dX10_readProduct_68 rfl (lv_at hl2033 1 rfl) ?_
                refine lv_iconst (v := 2) hx hb dX10_readProduct_69 (by decide) ?_
                refine x_V (As := [.int 2]) (rest := []) C (a_X10_fails l K G H2035 (2) hTH2035 ga0 g2041 g2042 g2043 g2044) yo_X10_fails wM_X10_235 ⟨⟨by decide, by decide⟩, by decide, by decide⟩ (x_rv C hTH2035 (ci := 10) rfl ga0 rg_112) rfl hl2033.1 rfl (Nat.le_of_ble_eq_true rfl) dX10_readProduct_70 hSH2035 (AE_sub (fun _ _ => rfl) (by decide) hSH2035.1) (fun vH2178 H2178 locsH2178 pH2178 zH2178 kH2178 hSH2178 => ?_)
                obtain ⟨x2179, hvH2178, bx2179, g2180, g2181, g2182, g2183, mf2184, hTH2178⟩ := pH2178
                subst hvH2178
                have b2185 : ∀ j : Nat, j < 3000 + mn.toNatClampNeg → fI H2178 oq j = fI s.heap oq j ∧ fI H2178 aq j = fI s.heap aq j := fun j hj => ⟨(fI_kept (x_lt hTH2035 kH2178 goq (by decide))).trans (b2046 j hj).1, (fI_kept (x_lt hTH2035 kH2178 gaq (by decide))).trans (b2046 j hj).2⟩
                have b2186 : WF (fun k => fI H2178 oq k) (fun k => fI H2178 aq k) (3000 + mn.toNatClampNeg) (3000 + x1992.toNatClampNeg) 0 1 := WF.congr (fun j => fI_kept (x_lt hTH2035 kH2178 goq (by decide))) (fun j => fI_kept (x_lt hTH2035 kH2178 gaq (by decide))) b2047
                have m2187 := (m2048).trans (MF.i mf2184 (k := 35) (by decide) (by decide)).symm
                have m2188 := (m2049).trans (MF.r mf2184 (k := 32) (by decide) (by decide)).symm
                have m2189 := (m2050).trans (MF.r mf2184 (k := 33) (by decide) (by decide)).symm
                have m2190 := (m2051).trans (MF.i mf2184 (k := 18) (by decide) (by decide)).symm
                have m2191 := (m2052).trans (MF.i mf2184 (k := 34) (by decide) (by decide)).symm
                have m2192 := (m2040).trans (MF.r mf2184 (k := 17) (by decide) (by decide)).symm
                have m2193 := (ex2036).trans (MF.i mf2184 (k := 19) (by decide) (by decide)).symm
                have m2194 := (ex2037).trans (MF.i mf2184 (k := 20) (by decide) (by decide)).symm
                have m2195 := (ex2038).trans (MF.i mf2184 (k := 21) (by decide) (by decide)).symm
                have m2196 := (ex2039).trans (MF.i mf2184 (k := 22) (by decide) (by decide)).symm
                have mf2197 : MF K s.heap H2178 a0 [19, 20, 21, 22, 35, 39, 40] := MF.trans mf2054 mf2184 (by decide)
                refine W.eq (g2 := F0 m 73 ls2032 [.int x2179]) rfl ?_
                exact x_iret C hQ dX10_readProduct_73 hSH2178 (by decide) (by decide) (⟨x2179, x2036, x2037, x2038, x2039, x1992, rfl, by omega, m2193, m2194, m2195, m2196, m2187, by omega, m2188, m2189, g2180, g2181, g2182, g2183, mf2197, b2185, Or.inl (by omega), hTH2178⟩)
          · have k2116 := i_ne c2115
            refine lv_aload_n hx hb dX10_readProduct_51 rfl (lv_at hl2033 1 rfl) ?_
            refine lv_iconst (v := 1) hx hb dX10_readProduct_52 (by decide) ?_
            refine x_V (As := [.int 1]) (rest := []) C (a_X10_fails l K G H2035 (1) hTH2035 ga0 g2041 g2042 g2043 g2044) yo_X10_fails wM_X10_235 ⟨⟨by decide, by decide⟩, by decide, by decide⟩ (x_rv C hTH2035 (ci := 10) rfl ga0 rg_112) rfl hl2033.1 rfl (Nat.le_of_ble_eq_true rfl) dX10_readProduct_53 hSH2035 (AE_sub (fun _ _ => rfl) (by decide) hSH2035.1) (fun vH2198 H2198 locsH2198 pH2198 zH2198 kH2198 hSH2198 => ?_)
            obtain ⟨x2199, hvH2198, bx2199, g2200, g2201, g2202, g2203, mf2204, hTH2198⟩ := pH2198
            subst hvH2198
            have b2205 : ∀ j : Nat, j < 3000 + mn.toNatClampNeg → fI H2198 oq j = fI s.heap oq j ∧ fI H2198 aq j = fI s.heap aq j := fun j hj => ⟨(fI_kept (x_lt hTH2035 kH2198 goq (by decide))).trans (b2046 j hj).1, (fI_kept (x_lt hTH2035 kH2198 gaq (by decide))).trans (b2046 j hj).2⟩
            have b2206 : WF (fun k => fI H2198 oq k) (fun k => fI H2198 aq k) (3000 + mn.toNatClampNeg) (3000 + x1992.toNatClampNeg) 0 1 := WF.congr (fun j => fI_kept (x_lt hTH2035 kH2198 goq (by decide))) (fun j => fI_kept (x_lt hTH2035 kH2198 gaq (by decide))) b2047
            have m2207 := (m2048).trans (MF.i mf2204 (k := 35) (by decide) (by decide)).symm
            have m2208 := (m2049).trans (MF.r mf2204 (k := 32) (by decide) (by decide)).symm
            have m2209 := (m2050).trans (MF.r mf2204 (k := 33) (by decide) (by decide)).symm
            have m2210 := (m2051).trans (MF.i mf2204 (k := 18) (by decide) (by decide)).symm
            have m2211 := (m2052).trans (MF.i mf2204 (k := 34) (by decide) (by decide)).symm
            have m2212 := (m2040).trans (MF.r mf2204 (k := 17) (by decide) (by decide)).symm
            have m2213 := (ex2036).trans (MF.i mf2204 (k := 19) (by decide) (by decide)).symm
            have m2214 := (ex2037).trans (MF.i mf2204 (k := 20) (by decide) (by decide)).symm
            have m2215 := (ex2038).trans (MF.i mf2204 (k := 21) (by decide) (by decide)).symm
            have m2216 := (ex2039).trans (MF.i mf2204 (k := 22) (by decide) (by decide)).symm
            have mf2217 : MF K s.heap H2198 a0 [19, 20, 21, 22, 35, 39, 40] := MF.trans mf2054 mf2204 (by decide)
            refine W.eq (g2 := F0 m 56 ls2032 [.int x2199]) rfl ?_
            exact x_iret C hQ dX10_readProduct_56 hSH2198 (by decide) (by decide) (⟨x2199, x2036, x2037, x2038, x2039, x1992, rfl, by omega, m2213, m2214, m2215, m2216, m2207, by omega, m2208, m2209, g2200, g2201, g2202, g2203, mf2217, b2205, Or.inl (by omega), hTH2198⟩)
      · have k2013 := i_eq c2012
        refine lv_aload_n hx hb dX10_readProduct_19 rfl (lv_at hl1987 0 rfl) ?_
        refine lv_bipush (v := 47) hx hb dX10_readProduct_20 (by decide) ?_
        refine x_V (As := [.int 47]) (rest := []) C (a_X10_isSign l K G H1994 (47) (x1990) (x1991) hTH1994 ga0 m2005 m2006) yo_X10_isSign wM_X10_249 ⟨⟨by decide, by decide⟩, by decide, by decide⟩ (x_rv C hTH1994 (ci := 10) rfl ga0 rg_112) rfl hl1987.1 rfl (Nat.le_of_ble_eq_true rfl) dX10_readProduct_22 hSH1994 (AE_sub (fun _ _ => rfl) (by decide) hSH1994.1) (fun vH2218 H2218 locsH2218 pH2218 zH2218 kH2218 hSH2218 => ?_)
        obtain ⟨x2219, hvH2218, bx2219, hrH2218, hTH2218⟩ := pH2218
        subst hvH2218
        have mf2220 : MF K s.heap H2218 a0 [19, 20, 21, 22, 35, 39, 40] := MF.eff (x_lt hTH1994 kH2218 ga0 (by decide)) mf1996
        have b2221 : ∀ j : Nat, j < 3000 + mn.toNatClampNeg → fI H2218 oq j = fI s.heap oq j ∧ fI H2218 aq j = fI s.heap aq j := fun j hj => ⟨(fI_kept (x_lt hTH1994 kH2218 goq (by decide))).trans (b1997 j hj).1, (fI_kept (x_lt hTH1994 kH2218 gaq (by decide))).trans (b1997 j hj).2⟩
        have b2222 : WF (fun k => fI H2218 oq k) (fun k => fI H2218 aq k) (3000 + mn.toNatClampNeg) (3000 + x1992.toNatClampNeg) 0 1 := WF.congr (fun j => fI_kept (x_lt hTH1994 kH2218 goq (by decide))) (fun j => fI_kept (x_lt hTH1994 kH2218 gaq (by decide))) b1998
        have g2223 : CG (avw K H2218 a0) := CG.congr (fun k hk j => av_eff hTH1994 kH2218 ga0 (by decide) (CG_eff [] (by decide) k hk)) g1999
        have g2224 : TU (avw K H2218 a0) (svw K H2218 a0) := TU.congr (fun k hk j => av_eff hTH1994 kH2218 ga0 (by decide) (TU_eff [] (by decide) k hk)) (fun k hk => sv_eff hTH1994 kH2218 ga0 (by decide)) g2000
        have g2225 : WD (avw K H2218 a0) := WD.congr (fun k hk j => av_eff hTH1994 kH2218 ga0 (by decide) (WD_eff [] (by decide) k hk)) g2001
        have g2226 : IM (avw K H2218 a0) := IM.congr (fun k hk j => av_eff hTH1994 kH2218 ga0 (by decide) (IM_eff [] (by decide) k hk)) g2002
        have m2227 := (m2003).trans (fI_kept (x_lt hTH1994 kH2218 ga0 (by decide))).symm
        have m2228 := (m2004).trans (fI_kept (x_lt hTH1994 kH2218 ga0 (by decide))).symm
        have m2229 := (m2005).trans (fI_kept (x_lt hTH1994 kH2218 ga0 (by decide))).symm
        have m2230 := (m2006).trans (fI_kept (x_lt hTH1994 kH2218 ga0 (by decide))).symm
        have m2231 := (m2007).trans (fI_kept (x_lt hTH1994 kH2218 ga0 (by decide))).symm
        have m2232 := (m2008).trans (fR_kept (x_lt hTH1994 kH2218 ga0 (by decide))).symm
        have m2233 := (m2009).trans (fR_kept (x_lt hTH1994 kH2218 ga0 (by decide))).symm
        have m2234 := (m2010).trans (fI_kept (x_lt hTH1994 kH2218 ga0 (by decide))).symm
        have m2235 := (m2011).trans (fI_kept (x_lt hTH1994 kH2218 ga0 (by decide))).symm
        refine W.eq (g2 := F0 m 25 ls1986 [.int x2219]) rfl ?_
        refine lv_if_eq (tgt := 101) hx hb dX10_readProduct_25 (by decide) (fun c2236 => ?_) (fun c2236 => ?_)
        · have k2237 := i_eq c2236
          refine lv_iconst (v := 0) hx hb dX10_readProduct_101 (by decide) ?_
          have cr_mn := i_cl (x := mn) (by omega)
          have cr_x1992 := i_cl (x := x1992) (by omega)
          exact x_iret C hQ dX10_readProduct_102 hSH2218 (by decide) (by decide) (⟨0, x1988, x1989, x1990, x1991, x1992, rfl, by decide, m2227, m2228, m2229, m2230, m2231, by omega, m2232, m2233, g2223, g2224, g2225, g2226, mf2220, b2221, Or.inr (WF.cast b2222 (by omega) (by omega)), hTH2218⟩)
        · have k2237 := i_ne c2236
          refine lv_aload_n hx hb dX10_readProduct_28 rfl (lv_at hl1987 0 rfl) ?_
          refine lv_bipush (v := 42) hx hb dX10_readProduct_29 (by decide) ?_
          refine x_V (As := [.int 42]) (rest := []) C (a_X10_isSign l K G H2218 (42) (x1990) (x1991) hTH2218 ga0 m2229 m2230) yo_X10_isSign wM_X10_249 ⟨⟨by decide, by decide⟩, by decide, by decide⟩ (x_rv C hTH2218 (ci := 10) rfl ga0 rg_112) rfl hl1987.1 rfl (Nat.le_of_ble_eq_true rfl) dX10_readProduct_31 hSH2218 (AE_sub (fun _ _ => rfl) (by decide) hSH2218.1) (fun vH2238 H2238 locsH2238 pH2238 zH2238 kH2238 hSH2238 => ?_)
          obtain ⟨x2239, hvH2238, bx2239, hrH2238, hTH2238⟩ := pH2238
          subst hvH2238
          have mf2240 : MF K s.heap H2238 a0 [19, 20, 21, 22, 35, 39, 40] := MF.eff (x_lt hTH2218 kH2238 ga0 (by decide)) mf2220
          have b2241 : ∀ j : Nat, j < 3000 + mn.toNatClampNeg → fI H2238 oq j = fI s.heap oq j ∧ fI H2238 aq j = fI s.heap aq j := fun j hj => ⟨(fI_kept (x_lt hTH2218 kH2238 goq (by decide))).trans (b2221 j hj).1, (fI_kept (x_lt hTH2218 kH2238 gaq (by decide))).trans (b2221 j hj).2⟩
          have b2242 : WF (fun k => fI H2238 oq k) (fun k => fI H2238 aq k) (3000 + mn.toNatClampNeg) (3000 + x1992.toNatClampNeg) 0 1 := WF.congr (fun j => fI_kept (x_lt hTH2218 kH2238 goq (by decide))) (fun j => fI_kept (x_lt hTH2218 kH2238 gaq (by decide))) b2222
          have g2243 : CG (avw K H2238 a0) := CG.congr (fun k hk j => av_eff hTH2218 kH2238 ga0 (by decide) (CG_eff [] (by decide) k hk)) g2223
          have g2244 : TU (avw K H2238 a0) (svw K H2238 a0) := TU.congr (fun k hk j => av_eff hTH2218 kH2238 ga0 (by decide) (TU_eff [] (by decide) k hk)) (fun k hk => sv_eff hTH2218 kH2238 ga0 (by decide)) g2224
          have g2245 : WD (avw K H2238 a0) := WD.congr (fun k hk j => av_eff hTH2218 kH2238 ga0 (by decide) (WD_eff [] (by decide) k hk)) g2225
          have g2246 : IM (avw K H2238 a0) := IM.congr (fun k hk j => av_eff hTH2218 kH2238 ga0 (by decide) (IM_eff [] (by decide) k hk)) g2226
          have m2247 := (m2227).trans (fI_kept (x_lt hTH2218 kH2238 ga0 (by decide))).symm
          have m2248 := (m2228).trans (fI_kept (x_lt hTH2218 kH2238 ga0 (by decide))).symm
          have m2249 := (m2229).trans (fI_kept (x_lt hTH2218 kH2238 ga0 (by decide))).symm
          have m2250 := (m2230).trans (fI_kept (x_lt hTH2218 kH2238 ga0 (by decide))).symm
          have m2251 := (m2231).trans (fI_kept (x_lt hTH2218 kH2238 ga0 (by decide))).symm
          have m2252 := (m2232).trans (fR_kept (x_lt hTH2218 kH2238 ga0 (by decide))).symm
          have m2253 := (m2233).trans (fR_kept (x_lt hTH2218 kH2238 ga0 (by decide))).symm
          have m2254 := (m2234).trans (fI_kept (x_lt hTH2218 kH2238 ga0 (by decide))).symm
          have m2255 := (m2235).trans (fI_kept (x_lt hTH2218 kH2238 ga0 (by decide))).symm
          refine W.eq (g2 := F0 m 34 ls1986 [.int x2239]) rfl ?_
          refine lv_istore_n (lv' := [(1, .int x2239), (0, .ref a0)]) hx hb dX10_readProduct_34 rfl hl1987 (by decide) rfl (fun ls2256 hl2257 => ?_)
          refine lv_aload_n hx hb dX10_readProduct_35 rfl (lv_at hl2257 1 rfl) ?_
          obtain ⟨q2258, eq2258⟩ : ∃ z : Nat, z = fR H2238 a0 (K.1.2 10 17) := ⟨_, rfl⟩
          have gq2258 := ty_fr (q := q2258) (k := 17) (u := 126) eq2258 hTH2238 ga0 rg_112 rfl
          refine x_V (As := []) (rest := []) C (a_X10_reads l K G H2238 (x1988) (x1989) (x1990) (x1991) (tp) hTH2238 ga0 gq2258 eq2258 m2247 m2248 m2249 m2250 m2254 g2243 g2244 g2245 g2246 (by omega)) yo_X10_reads wM_X10_242 ⟨⟨by decide, by decide⟩, by decide, by decide⟩ (x_rv C hTH2238 (ci := 10) rfl ga0 rg_112) rfl hl2257.1 rfl (Nat.le_of_ble_eq_true rfl) dX10_readProduct_36 hSH2238 (AE_sub (fun _ _ => rfl) (by decide) hSH2238.1) (fun vH2259 H2259 locsH2259 pH2259 zH2259 kH2259 hSH2259 => ?_)
          obtain ⟨x2260, x2261, x2262, x2263, hvH2259, ex2260, ex2261, ex2262, ex2263, hrH2259, m2264, g2265, g2266, g2267, g2268, mf2269, hTH2259⟩ := pH2259
          subst hvH2259
          have b2270 : ∀ j : Nat, j < 3000 + mn.toNatClampNeg → fI H2259 oq j = fI s.heap oq j ∧ fI H2259 aq j = fI s.heap aq j := fun j hj => ⟨(fI_kept (x_lt hTH2238 kH2259 goq (by decide))).trans (b2241 j hj).1, (fI_kept (x_lt hTH2238 kH2259 gaq (by decide))).trans (b2241 j hj).2⟩
          have b2271 : WF (fun k => fI H2259 oq k) (fun k => fI H2259 aq k) (3000 + mn.toNatClampNeg) (3000 + x1992.toNatClampNeg) 0 1 := WF.congr (fun j => fI_kept (x_lt hTH2238 kH2259 goq (by decide))) (fun j => fI_kept (x_lt hTH2238 kH2259 gaq (by decide))) b2242
          have m2272 := (m2251).trans (MF.i mf2269 (k := 35) (by decide) (by decide)).symm
          have m2273 := (m2252).trans (MF.r mf2269 (k := 32) (by decide) (by decide)).symm
          have m2274 := (m2253).trans (MF.r mf2269 (k := 33) (by decide) (by decide)).symm
          have m2275 := (m2254).trans (MF.i mf2269 (k := 18) (by decide) (by decide)).symm
          have m2276 := (m2255).trans (MF.i mf2269 (k := 34) (by decide) (by decide)).symm
          have m2277 := (eq2258).trans (MF.r mf2269 (k := 17) (by decide) (by decide)).symm
          have mf2278 : MF K s.heap H2259 a0 [19, 20, 21, 22, 35, 39, 40] := MF.trans mf2240 mf2269 (by decide)
          have bx2260 := ty_fi (x := x2260) (k := 19) ex2260 hTH2259 ga0 rg_112 rfl
          have bx2261 := ty_fi (x := x2261) (k := 20) ex2261 hTH2259 ga0 rg_112 rfl
          have bx2262 := ty_fi (x := x2262) (k := 21) ex2262 hTH2259 ga0 rg_112 rfl
          have bx2263 := ty_fi (x := x2263) (k := 22) ex2263 hTH2259 ga0 rg_112 rfl
          refine W.eq (g2 := F0 m 39 ls2256 []) rfl ?_
          refine lv_iload_n hx hb dX10_readProduct_39 rfl (lv_at hl2257 0 rfl) ?_
          refine lv_if_ne (tgt := 57) hx hb dX10_readProduct_40 (by decide) (fun c2279 => ?_) (fun c2279 => ?_)
          · have k2280 := i_ne c2279
            refine lv_iload_n hx hb dX10_readProduct_57 rfl (lv_at hl2257 0 rfl) ?_
            refine lv_if_ne (tgt := 74) hx hb dX10_readProduct_58 (by decide) (fun c2281 => ?_) (fun c2281 => ?_)
            · have k2282 := i_ne c2281
              refine lv_aload_n hx hb dX10_readProduct_74 rfl (lv_at hl2257 1 rfl) ?_
              refine x_V (As := []) (rest := []) C (a_X10_readUnit l K G H2259 (x2260) (x2261) (x2262) (x2263) (x1992) (tp) (jb) hTH2259 ga0 goq m2273 gaq m2274 ex2260 ex2261 ex2262 ex2263 m2272 m2275 m2276 g2265 g2266 g2267 g2268 (by omega) (by omega)) yo_X10_readUnit wM_X10_245 ⟨⟨by decide, by decide⟩, by decide, by decide⟩ (x_rv C hTH2259 (ci := 10) rfl ga0 rg_112) rfl hl2257.1 rfl (Nat.le_of_ble_eq_true rfl) dX10_readProduct_75 hSH2259 (AE_sub (fun _ _ => rfl) (by decide) hSH2259.1) (fun vH2283 H2283 locsH2283 pH2283 zH2283 kH2283 hSH2283 => ?_)
              obtain ⟨x2284, x2285, x2286, x2287, x2288, x2289, hvH2283, bx2284, ex2285, ex2286, ex2287, ex2288, ex2289, hrH2283, m2290, m2291, g2292, g2293, g2294, g2295, mf2296, m2297, m2298, m2299, hTH2283⟩ := pH2283
              subst hvH2283
              have m2300 := (m2273).trans (MF.r mf2296 (k := 32) (by decide) (by decide)).symm
              have m2301 := (m2274).trans (MF.r mf2296 (k := 33) (by decide) (by decide)).symm
              have m2302 := (m2275).trans (MF.i mf2296 (k := 18) (by decide) (by decide)).symm
              have m2303 := (m2276).trans (MF.i mf2296 (k := 34) (by decide) (by decide)).symm
              have m2304 := (m2264).trans (MF.r mf2296 (k := 17) (by decide) (by decide)).symm
              have mf2305 : MF K s.heap H2283 a0 [19, 20, 21, 22, 35, 39, 40] := MF.trans mf2278 mf2296 (by decide)
              have bx2285 := ty_fi (x := x2285) (k := 19) ex2285 hTH2283 ga0 rg_112 rfl
              have bx2286 := ty_fi (x := x2286) (k := 20) ex2286 hTH2283 ga0 rg_112 rfl
              have bx2287 := ty_fi (x := x2287) (k := 21) ex2287 hTH2283 ga0 rg_112 rfl
              have bx2288 := ty_fi (x := x2288) (k := 22) ex2288 hTH2283 ga0 rg_112 rfl
              have bx2289 := ty_fi (x := x2289) (k := 35) ex2289 hTH2283 ga0 rg_112 rfl
              have csm2297 := i_cl (x := x1992) (by omega)
              have cs_mn := i_cl (x := mn) (by omega)
              have b2306 : ∀ j : Nat, j < 3000 + mn.toNatClampNeg → fI H2283 oq j = fI s.heap oq j ∧ fI H2283 aq j = fI s.heap aq j := fun j hj => ⟨(m2297 j (by omega)).1.trans (b2270 j hj).1, (m2297 j (by omega)).2.trans (b2270 j hj).2⟩
              have cs_mn := i_cl (x := mn) (by omega)
              have b2307 : WF (fun k => fI H2283 oq k) (fun k => fI H2283 aq k) (3000 + mn.toNatClampNeg) (3000 + x1992.toNatClampNeg) 0 1 := WF.keep b2271 (fun j hj => (m2297 j (by omega)).1) (fun j hj => (m2297 j (by omega)).2)
              refine W.eq (g2 := F0 m 78 ls2256 [.int x2284]) rfl ?_
              refine lv_iconst (v := (-1)) hx hb dX10_readProduct_78 (by decide) ?_
              refine lv_icmp_ne (tgt := 84) hx hb dX10_readProduct_79 (by decide) (fun c2308 => ?_) (fun c2308 => ?_)
              · have k2309 := i_ne c2308
                have wu0 : WF (fun k => fI H2283 oq k) (fun k => fI H2283 aq k) (3000 + x1992.toNatClampNeg) (3000 + x2289.toNatClampNeg) 0 1 := by
                  rcases m2298 with h | h
                  · exfalso; omega
                  · exact h
                refine lv_aload_n hx hb dX10_readProduct_84 rfl (lv_at hl2257 1 rfl) ?_
                refine lv_iload_n hx hb dX10_readProduct_85 rfl (lv_at hl2257 0 rfl) ?_
                refine lv_if_eq (tgt := 93) hx hb dX10_readProduct_86 (by decide) (fun c2310 => ?_) (fun c2310 => ?_)
                · have k2311 := i_eq c2310
                  exfalso
                  omega
                · have k2311 := i_ne c2310
                  refine lv_iconst (v := 4) hx hb dX10_readProduct_89 (by decide) ?_
                  refine lv_goto (tgt := 94) hx hb dX10_readProduct_90 (by decide) ?_
                  refine lv_iconst (v := 0) hx hb dX10_readProduct_94 (by decide) ?_
                  refine x_V (As := [.int 4, .int 0]) (rest := []) C (a_X10_emits l K G H2283 (4) (0) (x2289) hTH2283 ga0 goq m2290 gaq m2291 ex2289 g2292 g2293 g2294 g2295 (by omega)) yo_X10_emits wM_X10_238 ⟨⟨by decide, by decide⟩, by decide, by decide⟩ (x_rv C hTH2283 (ci := 10) rfl ga0 rg_112) rfl hl2257.1 rfl (Nat.le_of_ble_eq_true rfl) dX10_readProduct_95 hSH2283 (AE_sub (fun _ _ => rfl) (by decide) hSH2283.1) (fun vH2312 H2312 locsH2312 pH2312 zH2312 kH2312 hSH2312 => ?_)
                  obtain ⟨x2313, hvH2312, ex2313, hrH2312, m2314, m2315, g2316, g2317, g2318, g2319, mf2320, m2321, m2322, m2323, m2324, hTH2312⟩ := pH2312
                  subst hvH2312
                  have m2325 := (m2290).trans (MF.r mf2320 (k := 32) (by decide) (by decide)).symm
                  have m2326 := (m2291).trans (MF.r mf2320 (k := 33) (by decide) (by decide)).symm
                  have m2327 := (m2302).trans (MF.i mf2320 (k := 18) (by decide) (by decide)).symm
                  have m2328 := (m2303).trans (MF.i mf2320 (k := 34) (by decide) (by decide)).symm
                  have m2329 := (m2304).trans (MF.r mf2320 (k := 17) (by decide) (by decide)).symm
                  have m2330 := (ex2285).trans (MF.i mf2320 (k := 19) (by decide) (by decide)).symm
                  have m2331 := (ex2286).trans (MF.i mf2320 (k := 20) (by decide) (by decide)).symm
                  have m2332 := (ex2287).trans (MF.i mf2320 (k := 21) (by decide) (by decide)).symm
                  have m2333 := (ex2288).trans (MF.i mf2320 (k := 22) (by decide) (by decide)).symm
                  have mf2334 : MF K s.heap H2312 a0 [19, 20, 21, 22, 35, 39, 40] := MF.trans mf2305 mf2320 (by decide)
                  have bx2313 := ty_fi (x := x2313) (k := 35) ex2313 hTH2312 ga0 rg_112 rfl
                  have cem2324 := i_cl (x := x2289) (by omega)
                  have ce_mn := i_cl (x := mn) (by omega)
                  have b2335 : ∀ j : Nat, j < 3000 + mn.toNatClampNeg → fI H2312 oq j = fI s.heap oq j ∧ fI H2312 aq j = fI s.heap aq j := fun j hj => ⟨(m2323 j (by omega)).trans (b2306 j hj).1, (m2324 j (by omega)).trans (b2306 j hj).2⟩
                  have ce_mn := i_cl (x := mn) (by omega)
                  have ce_x1992 := i_cl (x := x1992) (by omega)
                  have b2336 : WF (fun k => fI H2312 oq k) (fun k => fI H2312 aq k) (3000 + mn.toNatClampNeg) (3000 + x1992.toNatClampNeg) 0 1 := WF.keep b2307 (fun j hj => m2323 j (by omega)) (fun j hj => m2324 j (by omega))
                  have ce_x1992 := i_cl (x := x1992) (by omega)
                  have b2337 : WF (fun k => fI H2312 oq k) (fun k => fI H2312 aq k) (3000 + x1992.toNatClampNeg) (3000 + x2289.toNatClampNeg) 0 1 := WF.keep wu0 (fun j hj => m2323 j (by omega)) (fun j hj => m2324 j (by omega))
                  refine W.eq (g2 := F0 m 98 ls2256 []) rfl ?_
                  have ho := congrArg Int32.toInt m2321
                  have cb_mn := i_cl (x := mn) (by omega)
                  have cb_x1992 := i_cl (x := x1992) (by omega)
                  have cb_x2289 := i_cl (x := x2289) (by omega)
                  have wn : WF (fun k => fI H2312 oq k) (fun k => fI H2312 aq k) (3000 + mn.toNatClampNeg) (3000 + x2289.toNatClampNeg + 1) 0 1 := WF.bin b2336 b2337 (by omega) (by omega) (by show 2 ≤ (fI _ oq _).toInt ∧ (fI _ oq _).toInt ≤ 11 ∧ (fI _ oq _).toInt ≠ 9; omega) (Or.inl (by show (fI _ oq _).toInt ≠ 5; omega))
                  refine lv_goto (tgt := 10) hx hb dX10_readProduct_98 (by decide) ?_
                  have cl_mn := i_cl (x := mn) (by omega)
                  have cl_mn := i_cl (x := mn) (by omega)
                  have cl_x2289 := i_cl (x := x2289) (by omega)
                  have cl_x2313 := i_cl (x := x2313) (by omega)
                  exact ih10 ls2256 H2312 locsH2312 (x2285) (x2286) (x2287) (x2288) (x2313) (lv_sub hl2257 [1] rfl) hTH2312 hSH2312 (by have := i_rng x2285; omega) (by have := i_rng x2286; omega) (by have := i_rng x2313; omega) m2330 m2331 m2332 m2333 ex2313 m2314 m2315 m2327 m2328 b2335 (WF.cast wn (by omega) (by omega)) mf2334 g2316 g2317 g2318 g2319 (by omega) (by omega)
              · have k2309 := i_eq c2308
                refine lv_iconst (v := (-1)) hx hb dX10_readProduct_82 (by decide) ?_
                exact x_iret C hQ dX10_readProduct_83 hSH2283 (by decide) (by decide) (⟨(-1), x2285, x2286, x2287, x2288, x2289, rfl, by decide, ex2285, ex2286, ex2287, ex2288, ex2289, by omega, m2290, m2291, g2292, g2293, g2294, g2295, mf2305, b2306, Or.inl (by omega), hTH2283⟩)
            · have k2282 := i_eq c2281
              exfalso
              omega
          · have k2280 := i_eq c2279
            refine lv_aload_n hx hb dX10_readProduct_43 rfl (lv_at hl2257 1 rfl) ?_
            refine x_gi C hTH2259 (ci := 10) (k := 21) rfl inX10 (by decide) wF_X10_202 ga0 rg_112 rfl dX10_readProduct_44 (fun x2338 ex2338 bx2338 => ?_)
            have ux2338 : x2262 = x2338 := (ex2262).trans ex2338.symm
            subst ux2338
            refine lv_iconst (v := 3) hx hb dX10_readProduct_47 (by decide) ?_
            refine lv_icmp_eq (tgt := 57) hx hb dX10_readProduct_48 (by decide) (fun c2339 => ?_) (fun c2339 => ?_)
            · have k2340 := i_eq c2339
              refine lv_iload_n hx hb dX10_readProduct_57 rfl (lv_at hl2257 0 rfl) ?_
              refine lv_if_ne (tgt := 74) hx hb dX10_readProduct_58 (by decide) (fun c2341 => ?_) (fun c2341 => ?_)
              · have k2342 := i_ne c2341
                exfalso
                omega
              · have k2342 := i_eq c2341
                refine lv_aload_n hx hb dX10_readProduct_61 rfl (lv_at hl2257 1 rfl) ?_
                refine x_gi C hTH2259 (ci := 10) (k := 22) rfl inX10 (by decide) wF_X10_205 ga0 rg_112 rfl dX10_readProduct_62 (fun x2343 ex2343 bx2343 => ?_)
                have ux2343 : x2263 = x2343 := (ex2263).trans ex2343.symm
                subst ux2343
                refine lv_if_ne (tgt := 74) hx hb dX10_readProduct_65 (by decide) (fun c2344 => ?_) (fun c2344 => ?_)
                · have k2345 := i_ne c2344
                  refine lv_aload_n hx hb dX10_readProduct_74 rfl (lv_at hl2257 1 rfl) ?_
                  refine x_V (As := []) (rest := []) C (a_X10_readUnit l K G H2259 (x2260) (x2261) (x2262) (x2263) (x1992) (tp) (jb) hTH2259 ga0 goq m2273 gaq m2274 ex2260 ex2261 ex2262 ex2263 m2272 m2275 m2276 g2265 g2266 g2267 g2268 (by omega) (by omega)) yo_X10_readUnit wM_X10_245 ⟨⟨by decide, by decide⟩, by decide, by decide⟩ (x_rv C hTH2259 (ci := 10) rfl ga0 rg_112) rfl hl2257.1 rfl (Nat.le_of_ble_eq_true rfl) dX10_readProduct_75 hSH2259 (AE_sub (fun _ _ => rfl) (by decide) hSH2259.1) (fun vH2346 H2346 locsH2346 pH2346 zH2346 kH2346 hSH2346 => ?_)
                  obtain ⟨x2347, x2348, x2349, x2350, x2351, x2352, hvH2346, bx2347, ex2348, ex2349, ex2350, ex2351, ex2352, hrH2346, m2353, m2354, g2355, g2356, g2357, g2358, mf2359, m2360, m2361, m2362, hTH2346⟩ := pH2346
                  subst hvH2346
                  have m2363 := (m2273).trans (MF.r mf2359 (k := 32) (by decide) (by decide)).symm
                  have m2364 := (m2274).trans (MF.r mf2359 (k := 33) (by decide) (by decide)).symm
                  have m2365 := (m2275).trans (MF.i mf2359 (k := 18) (by decide) (by decide)).symm
                  have m2366 := (m2276).trans (MF.i mf2359 (k := 34) (by decide) (by decide)).symm
                  have m2367 := (m2264).trans (MF.r mf2359 (k := 17) (by decide) (by decide)).symm
                  have mf2368 : MF K s.heap H2346 a0 [19, 20, 21, 22, 35, 39, 40] := MF.trans mf2278 mf2359 (by decide)
                  have bx2348 := ty_fi (x := x2348) (k := 19) ex2348 hTH2346 ga0 rg_112 rfl
                  have bx2349 := ty_fi (x := x2349) (k := 20) ex2349 hTH2346 ga0 rg_112 rfl
                  have bx2350 := ty_fi (x := x2350) (k := 21) ex2350 hTH2346 ga0 rg_112 rfl
                  have bx2351 := ty_fi (x := x2351) (k := 22) ex2351 hTH2346 ga0 rg_112 rfl
                  have bx2352 := ty_fi (x := x2352) (k := 35) ex2352 hTH2346 ga0 rg_112 rfl
                  have csm2360 := i_cl (x := x1992) (by omega)
                  have cs_mn := i_cl (x := mn) (by omega)
                  have b2369 : ∀ j : Nat, j < 3000 + mn.toNatClampNeg → fI H2346 oq j = fI s.heap oq j ∧ fI H2346 aq j = fI s.heap aq j := fun j hj => ⟨(m2360 j (by omega)).1.trans (b2270 j hj).1, (m2360 j (by omega)).2.trans (b2270 j hj).2⟩
                  have cs_mn := i_cl (x := mn) (by omega)
                  have b2370 : WF (fun k => fI H2346 oq k) (fun k => fI H2346 aq k) (3000 + mn.toNatClampNeg) (3000 + x1992.toNatClampNeg) 0 1 := WF.keep b2271 (fun j hj => (m2360 j (by omega)).1) (fun j hj => (m2360 j (by omega)).2)
                  refine W.eq (g2 := F0 m 78 ls2256 [.int x2347]) rfl ?_
                  refine lv_iconst (v := (-1)) hx hb dX10_readProduct_78 (by decide) ?_
                  refine lv_icmp_ne (tgt := 84) hx hb dX10_readProduct_79 (by decide) (fun c2371 => ?_) (fun c2371 => ?_)
                  · have k2372 := i_ne c2371
                    have wu0 : WF (fun k => fI H2346 oq k) (fun k => fI H2346 aq k) (3000 + x1992.toNatClampNeg) (3000 + x2352.toNatClampNeg) 0 1 := by
                      rcases m2361 with h | h
                      · exfalso; omega
                      · exact h
                    have ev0 : (fI H2346 oq (3000 + x1992.toNatClampNeg)).toInt = 0 ∧ (fI H2346 aq (3000 + x1992.toNatClampNeg)).toInt = x2263.toInt := by
                      rcases m2362 with h | h | h
                      · exfalso; omega
                      · exfalso; omega
                      · exact h
                    refine lv_aload_n hx hb dX10_readProduct_84 rfl (lv_at hl2257 1 rfl) ?_
                    refine lv_iload_n hx hb dX10_readProduct_85 rfl (lv_at hl2257 0 rfl) ?_
                    refine lv_if_eq (tgt := 93) hx hb dX10_readProduct_86 (by decide) (fun c2373 => ?_) (fun c2373 => ?_)
                    · have k2374 := i_eq c2373
                      refine lv_iconst (v := 5) hx hb dX10_readProduct_93 (by decide) ?_
                      refine lv_iconst (v := 0) hx hb dX10_readProduct_94 (by decide) ?_
                      refine x_V (As := [.int 5, .int 0]) (rest := []) C (a_X10_emits l K G H2346 (5) (0) (x2352) hTH2346 ga0 goq m2353 gaq m2354 ex2352 g2355 g2356 g2357 g2358 (by omega)) yo_X10_emits wM_X10_238 ⟨⟨by decide, by decide⟩, by decide, by decide⟩ (x_rv C hTH2346 (ci := 10) rfl ga0 rg_112) rfl hl2257.1 rfl (Nat.le_of_ble_eq_true rfl) dX10_readProduct_95 hSH2346 (AE_sub (fun _ _ => rfl) (by decide) hSH2346.1) (fun vH2375 H2375 locsH2375 pH2375 zH2375 kH2375 hSH2375 => ?_)
                      obtain ⟨x2376, hvH2375, ex2376, hrH2375, m2377, m2378, g2379, g2380, g2381, g2382, mf2383, m2384, m2385, m2386, m2387, hTH2375⟩ := pH2375
                      subst hvH2375
                      have m2388 := (m2353).trans (MF.r mf2383 (k := 32) (by decide) (by decide)).symm
                      have m2389 := (m2354).trans (MF.r mf2383 (k := 33) (by decide) (by decide)).symm
                      have m2390 := (m2365).trans (MF.i mf2383 (k := 18) (by decide) (by decide)).symm
                      have m2391 := (m2366).trans (MF.i mf2383 (k := 34) (by decide) (by decide)).symm
                      have m2392 := (m2367).trans (MF.r mf2383 (k := 17) (by decide) (by decide)).symm
                      have m2393 := (ex2348).trans (MF.i mf2383 (k := 19) (by decide) (by decide)).symm
                      have m2394 := (ex2349).trans (MF.i mf2383 (k := 20) (by decide) (by decide)).symm
                      have m2395 := (ex2350).trans (MF.i mf2383 (k := 21) (by decide) (by decide)).symm
                      have m2396 := (ex2351).trans (MF.i mf2383 (k := 22) (by decide) (by decide)).symm
                      have mf2397 : MF K s.heap H2375 a0 [19, 20, 21, 22, 35, 39, 40] := MF.trans mf2368 mf2383 (by decide)
                      have bx2376 := ty_fi (x := x2376) (k := 35) ex2376 hTH2375 ga0 rg_112 rfl
                      have cem2387 := i_cl (x := x2352) (by omega)
                      have ce_mn := i_cl (x := mn) (by omega)
                      have b2398 : ∀ j : Nat, j < 3000 + mn.toNatClampNeg → fI H2375 oq j = fI s.heap oq j ∧ fI H2375 aq j = fI s.heap aq j := fun j hj => ⟨(m2386 j (by omega)).trans (b2369 j hj).1, (m2387 j (by omega)).trans (b2369 j hj).2⟩
                      have ce_mn := i_cl (x := mn) (by omega)
                      have ce_x1992 := i_cl (x := x1992) (by omega)
                      have b2399 : WF (fun k => fI H2375 oq k) (fun k => fI H2375 aq k) (3000 + mn.toNatClampNeg) (3000 + x1992.toNatClampNeg) 0 1 := WF.keep b2370 (fun j hj => m2386 j (by omega)) (fun j hj => m2387 j (by omega))
                      have ce_x1992 := i_cl (x := x1992) (by omega)
                      have b2400 : WF (fun k => fI H2375 oq k) (fun k => fI H2375 aq k) (3000 + x1992.toNatClampNeg) (3000 + x2352.toNatClampNeg) 0 1 := WF.keep wu0 (fun j hj => m2386 j (by omega)) (fun j hj => m2387 j (by omega))
                      have ce_x1992 := i_cl (x := x1992) (by omega)
                      have b2401 : (fI H2375 oq (3000 + x1992.toNatClampNeg)).toInt = 0 ∧ (fI H2375 aq (3000 + x1992.toNatClampNeg)).toInt = x2263.toInt := ⟨(congrArg Int32.toInt (m2386 _ (by omega))).trans ev0.1, (congrArg Int32.toInt (m2387 _ (by omega))).trans ev0.2⟩
                      refine W.eq (g2 := F0 m 98 ls2256 []) rfl ?_
                      have ho := congrArg Int32.toInt m2384
                      have cb_mn := i_cl (x := mn) (by omega)
                      have cb_x1992 := i_cl (x := x1992) (by omega)
                      have cb_x2352 := i_cl (x := x2352) (by omega)
                      have ev1 : (fI H2375 oq (3000 + x1992.toNatClampNeg)).toInt = 0 ∧ (fI H2375 aq (3000 + x1992.toNatClampNeg)).toInt ≠ 0 := ⟨b2401.1, by rw [b2401.2]; omega⟩
                      have wn : WF (fun k => fI H2375 oq k) (fun k => fI H2375 aq k) (3000 + mn.toNatClampNeg) (3000 + x2352.toNatClampNeg + 1) 0 1 := WF.bin b2399 b2400 (by omega) (by omega) (by show 2 ≤ (fI _ oq _).toInt ∧ (fI _ oq _).toInt ≤ 11 ∧ (fI _ oq _).toInt ≠ 9; omega) (Or.inr ⟨by omega, ev1.1, ev1.2⟩)
                      refine lv_goto (tgt := 10) hx hb dX10_readProduct_98 (by decide) ?_
                      have cl_mn := i_cl (x := mn) (by omega)
                      have cl_mn := i_cl (x := mn) (by omega)
                      have cl_x2352 := i_cl (x := x2352) (by omega)
                      have cl_x2376 := i_cl (x := x2376) (by omega)
                      exact ih10 ls2256 H2375 locsH2375 (x2348) (x2349) (x2350) (x2351) (x2376) (lv_sub hl2257 [1] rfl) hTH2375 hSH2375 (by have := i_rng x2348; omega) (by have := i_rng x2349; omega) (by have := i_rng x2376; omega) m2393 m2394 m2395 m2396 ex2376 m2377 m2378 m2390 m2391 b2398 (WF.cast wn (by omega) (by omega)) mf2397 g2379 g2380 g2381 g2382 (by omega) (by omega)
                    · have k2374 := i_ne c2373
                      exfalso
                      omega
                  · have k2372 := i_eq c2371
                    refine lv_iconst (v := (-1)) hx hb dX10_readProduct_82 (by decide) ?_
                    exact x_iret C hQ dX10_readProduct_83 hSH2346 (by decide) (by decide) (⟨(-1), x2348, x2349, x2350, x2351, x2352, rfl, by decide, ex2348, ex2349, ex2350, ex2351, ex2352, by omega, m2353, m2354, g2355, g2356, g2357, g2358, mf2368, b2369, Or.inl (by omega), hTH2346⟩)
                · have k2345 := i_eq c2344
                  refine lv_aload_n hx hb dX10_readProduct_68 rfl (lv_at hl2257 1 rfl) ?_
                  refine lv_iconst (v := 2) hx hb dX10_readProduct_69 (by decide) ?_
                  refine x_V (As := [.int 2]) (rest := []) C (a_X10_fails l K G H2259 (2) hTH2259 ga0 g2265 g2266 g2267 g2268) yo_X10_fails wM_X10_235 ⟨⟨by decide, by decide⟩, by decide, by decide⟩ (x_rv C hTH2259 (ci := 10) rfl ga0 rg_112) rfl hl2257.1 rfl (Nat.le_of_ble_eq_true rfl) dX10_readProduct_70 hSH2259 (AE_sub (fun _ _ => rfl) (by decide) hSH2259.1) (fun vH2402 H2402 locsH2402 pH2402 zH2402 kH2402 hSH2402 => ?_)
                  obtain ⟨x2403, hvH2402, bx2403, g2404, g2405, g2406, g2407, mf2408, hTH2402⟩ := pH2402
                  subst hvH2402
                  have b2409 : ∀ j : Nat, j < 3000 + mn.toNatClampNeg → fI H2402 oq j = fI s.heap oq j ∧ fI H2402 aq j = fI s.heap aq j := fun j hj => ⟨(fI_kept (x_lt hTH2259 kH2402 goq (by decide))).trans (b2270 j hj).1, (fI_kept (x_lt hTH2259 kH2402 gaq (by decide))).trans (b2270 j hj).2⟩
                  have b2410 : WF (fun k => fI H2402 oq k) (fun k => fI H2402 aq k) (3000 + mn.toNatClampNeg) (3000 + x1992.toNatClampNeg) 0 1 := WF.congr (fun j => fI_kept (x_lt hTH2259 kH2402 goq (by decide))) (fun j => fI_kept (x_lt hTH2259 kH2402 gaq (by decide))) b2271
                  have m2411 := (m2272).trans (MF.i mf2408 (k := 35) (by decide) (by decide)).symm
                  have m2412 := (m2273).trans (MF.r mf2408 (k := 32) (by decide) (by decide)).symm
                  have m2413 := (m2274).trans (MF.r mf2408 (k := 33) (by decide) (by decide)).symm
                  have m2414 := (m2275).trans (MF.i mf2408 (k := 18) (by decide) (by decide)).symm
                  have m2415 := (m2276).trans (MF.i mf2408 (k := 34) (by decide) (by decide)).symm
                  have m2416 := (m2264).trans (MF.r mf2408 (k := 17) (by decide) (by decide)).symm
                  have m2417 := (ex2260).trans (MF.i mf2408 (k := 19) (by decide) (by decide)).symm
                  have m2418 := (ex2261).trans (MF.i mf2408 (k := 20) (by decide) (by decide)).symm
                  have m2419 := (ex2262).trans (MF.i mf2408 (k := 21) (by decide) (by decide)).symm
                  have m2420 := (ex2263).trans (MF.i mf2408 (k := 22) (by decide) (by decide)).symm
                  have mf2421 : MF K s.heap H2402 a0 [19, 20, 21, 22, 35, 39, 40] := MF.trans mf2278 mf2408 (by decide)
                  refine W.eq (g2 := F0 m 73 ls2256 [.int x2403]) rfl ?_
                  exact x_iret C hQ dX10_readProduct_73 hSH2402 (by decide) (by decide) (⟨x2403, x2260, x2261, x2262, x2263, x1992, rfl, by omega, m2417, m2418, m2419, m2420, m2411, by omega, m2412, m2413, g2404, g2405, g2406, g2407, mf2421, b2409, Or.inl (by omega), hTH2402⟩)
            · have k2340 := i_ne c2339
              refine lv_aload_n hx hb dX10_readProduct_51 rfl (lv_at hl2257 1 rfl) ?_
              refine lv_iconst (v := 1) hx hb dX10_readProduct_52 (by decide) ?_
              refine x_V (As := [.int 1]) (rest := []) C (a_X10_fails l K G H2259 (1) hTH2259 ga0 g2265 g2266 g2267 g2268) yo_X10_fails wM_X10_235 ⟨⟨by decide, by decide⟩, by decide, by decide⟩ (x_rv C hTH2259 (ci := 10) rfl ga0 rg_112) rfl hl2257.1 rfl (Nat.le_of_ble_eq_true rfl) dX10_readProduct_53 hSH2259 (AE_sub (fun _ _ => rfl) (by decide) hSH2259.1) (fun vH2422 H2422 locsH2422 pH2422 zH2422 kH2422 hSH2422 => ?_)
              obtain ⟨x2423, hvH2422, bx2423, g2424, g2425, g2426, g2427, mf2428, hTH2422⟩ := pH2422
              subst hvH2422
              have b2429 : ∀ j : Nat, j < 3000 + mn.toNatClampNeg → fI H2422 oq j = fI s.heap oq j ∧ fI H2422 aq j = fI s.heap aq j := fun j hj => ⟨(fI_kept (x_lt hTH2259 kH2422 goq (by decide))).trans (b2270 j hj).1, (fI_kept (x_lt hTH2259 kH2422 gaq (by decide))).trans (b2270 j hj).2⟩
              have b2430 : WF (fun k => fI H2422 oq k) (fun k => fI H2422 aq k) (3000 + mn.toNatClampNeg) (3000 + x1992.toNatClampNeg) 0 1 := WF.congr (fun j => fI_kept (x_lt hTH2259 kH2422 goq (by decide))) (fun j => fI_kept (x_lt hTH2259 kH2422 gaq (by decide))) b2271
              have m2431 := (m2272).trans (MF.i mf2428 (k := 35) (by decide) (by decide)).symm
              have m2432 := (m2273).trans (MF.r mf2428 (k := 32) (by decide) (by decide)).symm
              have m2433 := (m2274).trans (MF.r mf2428 (k := 33) (by decide) (by decide)).symm
              have m2434 := (m2275).trans (MF.i mf2428 (k := 18) (by decide) (by decide)).symm
              have m2435 := (m2276).trans (MF.i mf2428 (k := 34) (by decide) (by decide)).symm
              have m2436 := (m2264).trans (MF.r mf2428 (k := 17) (by decide) (by decide)).symm
              have m2437 := (ex2260).trans (MF.i mf2428 (k := 19) (by decide) (by decide)).symm
              have m2438 := (ex2261).trans (MF.i mf2428 (k := 20) (by decide) (by decide)).symm
              have m2439 := (ex2262).trans (MF.i mf2428 (k := 21) (by decide) (by decide)).symm
              have m2440 := (ex2263).trans (MF.i mf2428 (k := 22) (by decide) (by decide)).symm
              have mf2441 : MF K s.heap H2422 a0 [19, 20, 21, 22, 35, 39, 40] := MF.trans mf2278 mf2428 (by decide)
              refine W.eq (g2 := F0 m 56 ls2256 [.int x2423]) rfl ?_
              exact x_iret C hQ dX10_readProduct_56 hSH2422 (by decide) (by decide) (⟨x2423, x2260, x2261, x2262, x2263, x1992, rfl, by omega, m2437, m2438, m2439, m2440, m2431, by omega, m2432, m2433, g2424, g2425, g2426, g2427, mf2441, b2429, Or.inl (by omega), hTH2422⟩)
  have pf00 : ∀ j : Nat, j < 3000 + mn.toNatClampNeg → fI s.heap oq j = fI s.heap oq j ∧ fI s.heap aq j = fI s.heap aq j := fun _ _ => ⟨rfl, rfl⟩
  have hmn := i_cl (x := mn) (by omega)
  refine lv_aload_n hx hb dX10_readProduct_0 rfl (lv_at hl 0 rfl) ?_
  refine x_V (As := []) (rest := []) C (a_X10_readUnit l K G s.heap (sp) (fr) (tk) (vl) (mn) (tp) (jb) hT ga0 goq eoq gaq eaq esp efr etk evl emn etp ejb hg_CG hg_TU hg_WD hg_IM (by omega) (by omega)) yo_X10_readUnit wM_X10_245 ⟨⟨by decide, by decide⟩, by decide, by decide⟩ (x_rv C hT (ci := 10) rfl ga0 rg_112) rfl hl.1 rfl (Nat.le_of_ble_eq_true rfl) dX10_readProduct_1 hS (AE_sub (fun _ _ => rfl) (by decide) hS.1) (fun vH2442 H2442 locsH2442 pH2442 zH2442 kH2442 hSH2442 => ?_)
  obtain ⟨x2443, x2444, x2445, x2446, x2447, x2448, hvH2442, bx2443, ex2444, ex2445, ex2446, ex2447, ex2448, hrH2442, m2449, m2450, g2451, g2452, g2453, g2454, mf2455, m2456, m2457, m2458, hTH2442⟩ := pH2442
  subst hvH2442
  have m2459 := (eoq).trans (MF.r mf2455 (k := 32) (by decide) (by decide)).symm
  have m2460 := (eaq).trans (MF.r mf2455 (k := 33) (by decide) (by decide)).symm
  have m2461 := (etp).trans (MF.i mf2455 (k := 18) (by decide) (by decide)).symm
  have m2462 := (ejb).trans (MF.i mf2455 (k := 34) (by decide) (by decide)).symm
  have mf2463 : MF K s.heap H2442 a0 [19, 20, 21, 22, 35, 39, 40] := MF.trans mf0 mf2455 (by decide)
  have bx2444 := ty_fi (x := x2444) (k := 19) ex2444 hTH2442 ga0 rg_112 rfl
  have bx2445 := ty_fi (x := x2445) (k := 20) ex2445 hTH2442 ga0 rg_112 rfl
  have bx2446 := ty_fi (x := x2446) (k := 21) ex2446 hTH2442 ga0 rg_112 rfl
  have bx2447 := ty_fi (x := x2447) (k := 22) ex2447 hTH2442 ga0 rg_112 rfl
  have bx2448 := ty_fi (x := x2448) (k := 35) ex2448 hTH2442 ga0 rg_112 rfl
  have csm2456 := i_cl (x := mn) (by omega)
  have b2464 : ∀ j : Nat, j < 3000 + mn.toNatClampNeg → fI H2442 oq j = fI s.heap oq j ∧ fI H2442 aq j = fI s.heap aq j := fun j hj => ⟨(m2456 j (by omega)).1.trans (pf00 j hj).1, (m2456 j (by omega)).2.trans (pf00 j hj).2⟩
  refine W.eq (g2 := F0 m 4 ls [.int x2443]) rfl ?_
  refine lv_iconst (v := (-1)) hx hb dX10_readProduct_4 (by decide) ?_
  refine lv_icmp_ne (tgt := 10) hx hb dX10_readProduct_5 (by decide) (fun c2465 => ?_) (fun c2465 => ?_)
  · have k2466 := i_ne c2465
    have wf0 : WF (fun k => fI H2442 oq k) (fun k => fI H2442 aq k) (3000 + mn.toNatClampNeg) (3000 + x2448.toNatClampNeg) 0 1 := by
      rcases m2457 with h | h
      · exfalso; omega
      · exact h
    have cl_mn := i_cl (x := mn) (by omega)
    have cl_mn := i_cl (x := mn) (by omega)
    have cl_x2448 := i_cl (x := x2448) (by omega)
    exact J10 ((500 - x2445.toInt).toNat + 1) ls H2442 locsH2442 (x2444) (x2445) (x2446) (x2447) (x2448) (lv_sub hl [0] rfl) hTH2442 hSH2442 (by have := i_rng x2444; omega) (by have := i_rng x2445; omega) (by have := i_rng x2448; omega) ex2444 ex2445 ex2446 ex2447 ex2448 m2449 m2450 m2461 m2462 b2464 (WF.cast wf0 (by omega) (by omega)) mf2463 g2451 g2452 g2453 g2454 (by omega) (by omega)
  · have k2466 := i_eq c2465
    refine lv_iconst (v := (-1)) hx hb dX10_readProduct_8 (by decide) ?_
    exact x_iret C hQ dX10_readProduct_9 hSH2442 (by decide) (by decide) (⟨(-1), x2444, x2445, x2446, x2447, x2448, rfl, by decide, ex2444, ex2445, ex2446, ex2447, ex2448, by omega, m2449, m2450, g2451, g2452, g2453, g2454, mf2463, b2464, Or.inl (by omega), hTH2442⟩)

set_option maxHeartbeats 4000000 in
set_option maxRecDepth 100000 in
theorem a_X10_readSum (l : Launch) (K : KE) (G : Nat → Option Nat) (H : Heap) {a0 : Nat} {oq : Nat} {aq : Nat} (sp : Int32) (fr : Int32) (tk : Int32) (vl : Int32) (mn : Int32) (tp : Int32) (jb : Int32) (hT : TY K G H) (ga0 : G a0 = some 112) (goq : G oq = some 136) (eoq : oq = fR H a0 (K.1.2 10 32)) (gaq : G aq = some 137) (eaq : aq = fR H a0 (K.1.2 10 33)) (esp : sp = fI H a0 (K.1.2 10 19)) (efr : fr = fI H a0 (K.1.2 10 20)) (etk : tk = fI H a0 (K.1.2 10 21)) (evl : vl = fI H a0 (K.1.2 10 22)) (emn : mn = fI H a0 (K.1.2 10 35)) (etp : tp = fI H a0 (K.1.2 10 18)) (ejb : jb = fI H a0 (K.1.2 10 34)) (hg_CG : CG (avw K H a0)) (hg_TU : TU (avw K H a0) (svw K H a0)) (hg_WD : WD (avw K H a0)) (hg_IM : IM (avw K H a0)) (hp0 : (sp.toInt ≤ tp.toInt ∧ fr.toInt ≤ sp.toInt ∧ (tk.toInt = 0 ∨ fr.toInt < sp.toInt) ∧ (tk.toInt ≠ 2 ∨ (0 ≤ vl.toInt ∧ vl.toInt ≤ 23)))) (hp1 : mn.toInt ≤ fr.toInt) : MX l K yX10_readSum cX10_readSum 2 (some .int) 5 107 0 0 [.ref a0] H (AE G [112, 136, 137] H.size) (fun v H1 => ∃ (r : Int32) (t0 : Int32) (t1 : Int32) (t2 : Int32) (t3 : Int32) (t4 : Int32), v = some (.int r) ∧ ((-1) ≤ r.toInt ∧ r.toInt ≤ 0) ∧ t0 = fI H1 a0 (K.1.2 10 19) ∧ t1 = fI H1 a0 (K.1.2 10 20) ∧ t2 = fI H1 a0 (K.1.2 10 21) ∧ t3 = fI H1 a0 (K.1.2 10 22) ∧ t4 = fI H1 a0 (K.1.2 10 35) ∧ (r.toInt = -1 ∨ (r.toInt = 0 ∧ t0.toInt ≤ tp.toInt ∧ t1.toInt ≤ t0.toInt ∧ (t2.toInt = 0 ∨ t1.toInt < t0.toInt) ∧ (t2.toInt ≠ 2 ∨ (0 ≤ t3.toInt ∧ t3.toInt ≤ 23)) ∧ t4.toInt + fr.toInt ≤ mn.toInt + t1.toInt ∧ mn.toInt < t4.toInt ∧ fr.toInt < t1.toInt)) ∧ oq = fR H1 a0 (K.1.2 10 32) ∧ aq = fR H1 a0 (K.1.2 10 33) ∧ (CG (avw K H1 a0)) ∧ (TU (avw K H1 a0) (svw K H1 a0)) ∧ (WD (avw K H1 a0)) ∧ (IM (avw K H1 a0)) ∧ MF K H H1 a0 [19, 20, 21, 22, 35, 39, 40] ∧ (∀ j : Nat, j < 3000 + mn.toNatClampNeg → fI H1 oq j = fI H oq j ∧ fI H1 aq j = fI H aq j) ∧ (r.toInt = -1 ∨ WF (fun k => fI H1 oq k) (fun k => fI H1 aq k) (3000 + mn.toNatClampNeg) (3000 + t4.toNatClampNeg) 0 1) ∧ TY K G H1) := by
  refine MX.of (by decide +kernel) (Nat.le_of_ble_eq_true rfl) ?_
  intro p e s m below meth c ls Q C hH hl hQ
  subst hH
  have C : CX p K s m _ meth c RX10 cX10_readSum 2 (some .int) "readSum" := C
  obtain ⟨hx, hb, hml, hown, hts, hKT, hr, hlocks, hnm⟩ := id C
  have hl : lv_has ls 2 [(0, .ref a0)] := hl
  have hS : va_S (AE G [112, 136, 137] s.heap.size) s.heap s.heap [] := va_S.rf
  have n_m1 : ((-1) : Int32).toInt = -1 := rfl
  have n_0 : (0 : Int32).toInt = 0 := rfl
  have n_2 : (2 : Int32).toInt = 2 := rfl
  have n_3 : (3 : Int32).toInt = 3 := rfl
  have n_43 : (43 : Int32).toInt = 43 := rfl
  have n_45 : (45 : Int32).toInt = 45 := rfl
  have bsp := ty_fi (x := sp) (k := 19) esp hT ga0 rg_112 rfl
  have bfr := ty_fi (x := fr) (k := 20) efr hT ga0 rg_112 rfl
  have btk := ty_fi (x := tk) (k := 21) etk hT ga0 rg_112 rfl
  have bvl := ty_fi (x := vl) (k := 22) evl hT ga0 rg_112 rfl
  have bmn := ty_fi (x := mn) (k := 35) emn hT ga0 rg_112 rfl
  have btp := ty_fi (x := tp) (k := 18) etp hT ga0 rg_112 rfl
  have bjb := ty_fi (x := jb) (k := 34) ejb hT ga0 rg_112 rfl
  have hap : ∀ x y, x < 74 → y < 74 → x ≠ y → K.1.2 10 x ≠ K.1.2 10 y := x_apart hKT hts inX10 tyX10 tyX10_ok nmX10 rfl
  have mf0 : MF K s.heap s.heap a0 [19, 20, 21, 22, 35, 39, 40] := fun _ _ _ => rfl
  have J10 : ∀ (nf : Nat) (ls1582 : Array Slot) (H1581 : Heap) (locsH1581 : List Loc) (x1584 : Int32) (x1585 : Int32) (x1586 : Int32) (x1587 : Int32) (x1588 : Int32), lv_has ls1582 2 [(0, .ref a0)] → TY K G H1581 → va_S (AE G [112, 136, 137] s.heap.size) s.heap H1581 locsH1581 → (0 ≤ x1584.toInt ∧ x1584.toInt ≤ 500) → (0 ≤ x1585.toInt ∧ x1585.toInt ≤ 500) → (0 ≤ x1588.toInt ∧ x1588.toInt ≤ 500) → (x1584 = fI H1581 a0 (K.1.2 10 19)) → (x1585 = fI H1581 a0 (K.1.2 10 20)) → (x1586 = fI H1581 a0 (K.1.2 10 21)) → (x1587 = fI H1581 a0 (K.1.2 10 22)) → (x1588 = fI H1581 a0 (K.1.2 10 35)) → (oq = fR H1581 a0 (K.1.2 10 32)) → (aq = fR H1581 a0 (K.1.2 10 33)) → (tp = fI H1581 a0 (K.1.2 10 18)) → (jb = fI H1581 a0 (K.1.2 10 34)) → (∀ j : Nat, j < 3000 + mn.toNatClampNeg → fI H1581 oq j = fI s.heap oq j ∧ fI H1581 aq j = fI s.heap aq j) → (WF (fun k => fI H1581 oq k) (fun k => fI H1581 aq k) (3000 + mn.toNatClampNeg) (3000 + x1588.toNatClampNeg) 0 1) → (MF K s.heap H1581 a0 [19, 20, 21, 22, 35, 39, 40]) → (CG (avw K H1581 a0)) → (TU (avw K H1581 a0) (svw K H1581 a0)) → (WD (avw K H1581 a0)) → (IM (avw K H1581 a0)) → (500 - x1585.toInt < (nf : Int)) → ((x1584.toInt ≤ tp.toInt ∧ x1585.toInt ≤ x1584.toInt ∧ (x1586.toInt = 0 ∨ x1585.toInt < x1584.toInt) ∧ (x1586.toInt ≠ 2 ∨ (0 ≤ x1587.toInt ∧ x1587.toInt ≤ 23))) ∧ x1588.toInt + fr.toInt ≤ mn.toInt + x1585.toInt ∧ mn.toInt < x1588.toInt ∧ fr.toInt < x1585.toInt) → W p l e ({ frames := 5, cells := 0, slots := 0, locals := 107 } : Room) s m (([.ref a0] : List Value).toArray) below meth c H1581 locsH1581 0 0 Q (F0 m 10 ls1582 []) := by
    intro nf
    induction nf with
    | zero =>
      intro ls1582 H1581 locsH1581 x1584 x1585 x1586 x1587 x1588 hl1583 hTH1581 hSH1581 bx1584 bx1585 bx1588 ex1584 ex1585 ex1586 ex1587 ex1588 cy1589_0 cy1589_1 cy1589_2 cy1589_3 by1589_pf by1589_wf mfy1589 gy1589_CG gy1589_TU gy1589_WD gy1589_IM hm10 iv10
      have rx1586 := i_rng x1586
      have rx1587 := i_rng x1587
      exfalso
      omega
    | succ nf ih10 =>
      intro ls1582 H1581 locsH1581 x1584 x1585 x1586 x1587 x1588 hl1583 hTH1581 hSH1581 bx1584 bx1585 bx1588 ex1584 ex1585 ex1586 ex1587 ex1588 cy1589_0 cy1589_1 cy1589_2 cy1589_3 by1589_pf by1589_wf mfy1589 gy1589_CG gy1589_TU gy1589_WD gy1589_IM hm10 iv10
      have rx1586 := i_rng x1586
      have rx1587 := i_rng x1587
      refine lv_aload_n hx hb dX10_readSum_10 rfl (lv_at hl1583 0 rfl) ?_
      refine lv_bipush (v := 43) hx hb dX10_readSum_11 (by decide) ?_
      refine x_V (As := [.int 43]) (rest := []) C (a_X10_isSign l K G H1581 (43) (x1586) (x1587) hTH1581 ga0 ex1586 ex1587) yo_X10_isSign wM_X10_249 ⟨⟨by decide, by decide⟩, by decide, by decide⟩ (x_rv C hTH1581 (ci := 10) rfl ga0 rg_112) rfl hl1583.1 rfl (Nat.le_of_ble_eq_true rfl) dX10_readSum_13 hSH1581 (AE_sub (fun _ _ => rfl) (by decide) hSH1581.1) (fun vH1590 H1590 locsH1590 pH1590 zH1590 kH1590 hSH1590 => ?_)
      obtain ⟨x1591, hvH1590, bx1591, hrH1590, hTH1590⟩ := pH1590
      subst hvH1590
      have mf1592 : MF K s.heap H1590 a0 [19, 20, 21, 22, 35, 39, 40] := MF.eff (x_lt hTH1581 kH1590 ga0 (by decide)) mfy1589
      have b1593 : ∀ j : Nat, j < 3000 + mn.toNatClampNeg → fI H1590 oq j = fI s.heap oq j ∧ fI H1590 aq j = fI s.heap aq j := fun j hj => ⟨(fI_kept (x_lt hTH1581 kH1590 goq (by decide))).trans (by1589_pf j hj).1, (fI_kept (x_lt hTH1581 kH1590 gaq (by decide))).trans (by1589_pf j hj).2⟩
      have b1594 : WF (fun k => fI H1590 oq k) (fun k => fI H1590 aq k) (3000 + mn.toNatClampNeg) (3000 + x1588.toNatClampNeg) 0 1 := WF.congr (fun j => fI_kept (x_lt hTH1581 kH1590 goq (by decide))) (fun j => fI_kept (x_lt hTH1581 kH1590 gaq (by decide))) by1589_wf
      have g1595 : CG (avw K H1590 a0) := CG.congr (fun k hk j => av_eff hTH1581 kH1590 ga0 (by decide) (CG_eff [] (by decide) k hk)) gy1589_CG
      have g1596 : TU (avw K H1590 a0) (svw K H1590 a0) := TU.congr (fun k hk j => av_eff hTH1581 kH1590 ga0 (by decide) (TU_eff [] (by decide) k hk)) (fun k hk => sv_eff hTH1581 kH1590 ga0 (by decide)) gy1589_TU
      have g1597 : WD (avw K H1590 a0) := WD.congr (fun k hk j => av_eff hTH1581 kH1590 ga0 (by decide) (WD_eff [] (by decide) k hk)) gy1589_WD
      have g1598 : IM (avw K H1590 a0) := IM.congr (fun k hk j => av_eff hTH1581 kH1590 ga0 (by decide) (IM_eff [] (by decide) k hk)) gy1589_IM
      have m1599 := (ex1584).trans (fI_kept (x_lt hTH1581 kH1590 ga0 (by decide))).symm
      have m1600 := (ex1585).trans (fI_kept (x_lt hTH1581 kH1590 ga0 (by decide))).symm
      have m1601 := (ex1586).trans (fI_kept (x_lt hTH1581 kH1590 ga0 (by decide))).symm
      have m1602 := (ex1587).trans (fI_kept (x_lt hTH1581 kH1590 ga0 (by decide))).symm
      have m1603 := (ex1588).trans (fI_kept (x_lt hTH1581 kH1590 ga0 (by decide))).symm
      have m1604 := (cy1589_0).trans (fR_kept (x_lt hTH1581 kH1590 ga0 (by decide))).symm
      have m1605 := (cy1589_1).trans (fR_kept (x_lt hTH1581 kH1590 ga0 (by decide))).symm
      have m1606 := (cy1589_2).trans (fI_kept (x_lt hTH1581 kH1590 ga0 (by decide))).symm
      have m1607 := (cy1589_3).trans (fI_kept (x_lt hTH1581 kH1590 ga0 (by decide))).symm
      refine W.eq (g2 := F0 m 16 ls1582 [.int x1591]) rfl ?_
      refine lv_if_ne (tgt := 28) hx hb dX10_readSum_16 (by decide) (fun c1608 => ?_) (fun c1608 => ?_)
      · have k1609 := i_ne c1608
        refine lv_aload_n hx hb dX10_readSum_28 rfl (lv_at hl1583 0 rfl) ?_
        refine x_gi C hTH1590 (ci := 10) (k := 22) rfl inX10 (by decide) wF_X10_205 ga0 rg_112 rfl dX10_readSum_29 (fun x1610 ex1610 bx1610 => ?_)
        have ux1610 : x1587 = x1610 := (m1602).trans ex1610.symm
        subst ux1610
        refine lv_bipush (v := 43) hx hb dX10_readSum_32 (by decide) ?_
        refine lv_icmp_ne (tgt := 41) hx hb dX10_readSum_34 (by decide) (fun c1611 => ?_) (fun c1611 => ?_)
        · have k1612 := i_ne c1611
          refine lv_iconst (v := 3) hx hb dX10_readSum_41 (by decide) ?_
          refine lv_istore_n (lv' := [(1, .int 3), (0, .ref a0)]) hx hb dX10_readSum_42 rfl hl1583 (by decide) rfl (fun ls1613 hl1614 => ?_)
          refine lv_aload_n hx hb dX10_readSum_43 rfl (lv_at hl1614 1 rfl) ?_
          obtain ⟨q1615, eq1615⟩ : ∃ z : Nat, z = fR H1590 a0 (K.1.2 10 17) := ⟨_, rfl⟩
          have gq1615 := ty_fr (q := q1615) (k := 17) (u := 126) eq1615 hTH1590 ga0 rg_112 rfl
          refine x_V (As := []) (rest := []) C (a_X10_reads l K G H1590 (x1584) (x1585) (x1586) (x1587) (tp) hTH1590 ga0 gq1615 eq1615 m1599 m1600 m1601 m1602 m1606 g1595 g1596 g1597 g1598 (by omega)) yo_X10_reads wM_X10_242 ⟨⟨by decide, by decide⟩, by decide, by decide⟩ (x_rv C hTH1590 (ci := 10) rfl ga0 rg_112) rfl hl1614.1 rfl (Nat.le_of_ble_eq_true rfl) dX10_readSum_44 hSH1590 (AE_sub (fun _ _ => rfl) (by decide) hSH1590.1) (fun vH1616 H1616 locsH1616 pH1616 zH1616 kH1616 hSH1616 => ?_)
          obtain ⟨x1617, x1618, x1619, x1620, hvH1616, ex1617, ex1618, ex1619, ex1620, hrH1616, m1621, g1622, g1623, g1624, g1625, mf1626, hTH1616⟩ := pH1616
          subst hvH1616
          have b1627 : ∀ j : Nat, j < 3000 + mn.toNatClampNeg → fI H1616 oq j = fI s.heap oq j ∧ fI H1616 aq j = fI s.heap aq j := fun j hj => ⟨(fI_kept (x_lt hTH1590 kH1616 goq (by decide))).trans (b1593 j hj).1, (fI_kept (x_lt hTH1590 kH1616 gaq (by decide))).trans (b1593 j hj).2⟩
          have b1628 : WF (fun k => fI H1616 oq k) (fun k => fI H1616 aq k) (3000 + mn.toNatClampNeg) (3000 + x1588.toNatClampNeg) 0 1 := WF.congr (fun j => fI_kept (x_lt hTH1590 kH1616 goq (by decide))) (fun j => fI_kept (x_lt hTH1590 kH1616 gaq (by decide))) b1594
          have m1629 := (m1603).trans (MF.i mf1626 (k := 35) (by decide) (by decide)).symm
          have m1630 := (m1604).trans (MF.r mf1626 (k := 32) (by decide) (by decide)).symm
          have m1631 := (m1605).trans (MF.r mf1626 (k := 33) (by decide) (by decide)).symm
          have m1632 := (m1606).trans (MF.i mf1626 (k := 18) (by decide) (by decide)).symm
          have m1633 := (m1607).trans (MF.i mf1626 (k := 34) (by decide) (by decide)).symm
          have m1634 := (eq1615).trans (MF.r mf1626 (k := 17) (by decide) (by decide)).symm
          have mf1635 : MF K s.heap H1616 a0 [19, 20, 21, 22, 35, 39, 40] := MF.trans mf1592 mf1626 (by decide)
          have bx1617 := ty_fi (x := x1617) (k := 19) ex1617 hTH1616 ga0 rg_112 rfl
          have bx1618 := ty_fi (x := x1618) (k := 20) ex1618 hTH1616 ga0 rg_112 rfl
          have bx1619 := ty_fi (x := x1619) (k := 21) ex1619 hTH1616 ga0 rg_112 rfl
          have bx1620 := ty_fi (x := x1620) (k := 22) ex1620 hTH1616 ga0 rg_112 rfl
          refine W.eq (g2 := F0 m 47 ls1613 []) rfl ?_
          refine lv_aload_n hx hb dX10_readSum_47 rfl (lv_at hl1614 1 rfl) ?_
          refine x_V (As := []) (rest := []) C (a_X10_readProduct l K G H1616 (x1617) (x1618) (x1619) (x1620) (x1588) (tp) (jb) hTH1616 ga0 goq m1630 gaq m1631 ex1617 ex1618 ex1619 ex1620 m1629 m1632 m1633 g1622 g1623 g1624 g1625 (by omega) (by omega)) yo_X10_readProduct wM_X10_252 ⟨⟨by decide, by decide⟩, by decide, by decide⟩ (x_rv C hTH1616 (ci := 10) rfl ga0 rg_112) rfl hl1614.1 rfl (Nat.le_of_ble_eq_true rfl) dX10_readSum_48 hSH1616 (AE_sub (fun _ _ => rfl) (by decide) hSH1616.1) (fun vH1636 H1636 locsH1636 pH1636 zH1636 kH1636 hSH1636 => ?_)
          obtain ⟨x1637, x1638, x1639, x1640, x1641, x1642, hvH1636, bx1637, ex1638, ex1639, ex1640, ex1641, ex1642, hrH1636, m1643, m1644, g1645, g1646, g1647, g1648, mf1649, m1650, m1651, hTH1636⟩ := pH1636
          subst hvH1636
          have m1652 := (m1630).trans (MF.r mf1649 (k := 32) (by decide) (by decide)).symm
          have m1653 := (m1631).trans (MF.r mf1649 (k := 33) (by decide) (by decide)).symm
          have m1654 := (m1632).trans (MF.i mf1649 (k := 18) (by decide) (by decide)).symm
          have m1655 := (m1633).trans (MF.i mf1649 (k := 34) (by decide) (by decide)).symm
          have m1656 := (m1621).trans (MF.r mf1649 (k := 17) (by decide) (by decide)).symm
          have mf1657 : MF K s.heap H1636 a0 [19, 20, 21, 22, 35, 39, 40] := MF.trans mf1635 mf1649 (by decide)
          have bx1638 := ty_fi (x := x1638) (k := 19) ex1638 hTH1636 ga0 rg_112 rfl
          have bx1639 := ty_fi (x := x1639) (k := 20) ex1639 hTH1636 ga0 rg_112 rfl
          have bx1640 := ty_fi (x := x1640) (k := 21) ex1640 hTH1636 ga0 rg_112 rfl
          have bx1641 := ty_fi (x := x1641) (k := 22) ex1641 hTH1636 ga0 rg_112 rfl
          have bx1642 := ty_fi (x := x1642) (k := 35) ex1642 hTH1636 ga0 rg_112 rfl
          have csm1650 := i_cl (x := x1588) (by omega)
          have cs_mn := i_cl (x := mn) (by omega)
          have b1658 : ∀ j : Nat, j < 3000 + mn.toNatClampNeg → fI H1636 oq j = fI s.heap oq j ∧ fI H1636 aq j = fI s.heap aq j := fun j hj => ⟨(m1650 j (by omega)).1.trans (b1627 j hj).1, (m1650 j (by omega)).2.trans (b1627 j hj).2⟩
          have cs_mn := i_cl (x := mn) (by omega)
          have b1659 : WF (fun k => fI H1636 oq k) (fun k => fI H1636 aq k) (3000 + mn.toNatClampNeg) (3000 + x1588.toNatClampNeg) 0 1 := WF.keep b1628 (fun j hj => (m1650 j (by omega)).1) (fun j hj => (m1650 j (by omega)).2)
          refine W.eq (g2 := F0 m 51 ls1613 [.int x1637]) rfl ?_
          refine lv_iconst (v := (-1)) hx hb dX10_readSum_51 (by decide) ?_
          refine lv_icmp_ne (tgt := 57) hx hb dX10_readSum_52 (by decide) (fun c1660 => ?_) (fun c1660 => ?_)
          · have k1661 := i_ne c1660
            have wu0 : WF (fun k => fI H1636 oq k) (fun k => fI H1636 aq k) (3000 + x1588.toNatClampNeg) (3000 + x1642.toNatClampNeg) 0 1 := by
              rcases m1651 with h | h
              · exfalso; omega
              · exact h
            refine lv_aload_n hx hb dX10_readSum_57 rfl (lv_at hl1614 1 rfl) ?_
            refine lv_iload_n hx hb dX10_readSum_58 rfl (lv_at hl1614 0 rfl) ?_
            refine lv_iconst (v := 0) hx hb dX10_readSum_59 (by decide) ?_
            refine x_V (As := [.int 3, .int 0]) (rest := []) C (a_X10_emits l K G H1636 (3) (0) (x1642) hTH1636 ga0 goq m1643 gaq m1644 ex1642 g1645 g1646 g1647 g1648 (by omega)) yo_X10_emits wM_X10_238 ⟨⟨by decide, by decide⟩, by decide, by decide⟩ (x_rv C hTH1636 (ci := 10) rfl ga0 rg_112) rfl hl1614.1 rfl (Nat.le_of_ble_eq_true rfl) dX10_readSum_60 hSH1636 (AE_sub (fun _ _ => rfl) (by decide) hSH1636.1) (fun vH1662 H1662 locsH1662 pH1662 zH1662 kH1662 hSH1662 => ?_)
            obtain ⟨x1663, hvH1662, ex1663, hrH1662, m1664, m1665, g1666, g1667, g1668, g1669, mf1670, m1671, m1672, m1673, m1674, hTH1662⟩ := pH1662
            subst hvH1662
            have m1675 := (m1643).trans (MF.r mf1670 (k := 32) (by decide) (by decide)).symm
            have m1676 := (m1644).trans (MF.r mf1670 (k := 33) (by decide) (by decide)).symm
            have m1677 := (m1654).trans (MF.i mf1670 (k := 18) (by decide) (by decide)).symm
            have m1678 := (m1655).trans (MF.i mf1670 (k := 34) (by decide) (by decide)).symm
            have m1679 := (m1656).trans (MF.r mf1670 (k := 17) (by decide) (by decide)).symm
            have m1680 := (ex1638).trans (MF.i mf1670 (k := 19) (by decide) (by decide)).symm
            have m1681 := (ex1639).trans (MF.i mf1670 (k := 20) (by decide) (by decide)).symm
            have m1682 := (ex1640).trans (MF.i mf1670 (k := 21) (by decide) (by decide)).symm
            have m1683 := (ex1641).trans (MF.i mf1670 (k := 22) (by decide) (by decide)).symm
            have mf1684 : MF K s.heap H1662 a0 [19, 20, 21, 22, 35, 39, 40] := MF.trans mf1657 mf1670 (by decide)
            have bx1663 := ty_fi (x := x1663) (k := 35) ex1663 hTH1662 ga0 rg_112 rfl
            have cem1674 := i_cl (x := x1642) (by omega)
            have ce_mn := i_cl (x := mn) (by omega)
            have b1685 : ∀ j : Nat, j < 3000 + mn.toNatClampNeg → fI H1662 oq j = fI s.heap oq j ∧ fI H1662 aq j = fI s.heap aq j := fun j hj => ⟨(m1673 j (by omega)).trans (b1658 j hj).1, (m1674 j (by omega)).trans (b1658 j hj).2⟩
            have ce_mn := i_cl (x := mn) (by omega)
            have ce_x1588 := i_cl (x := x1588) (by omega)
            have b1686 : WF (fun k => fI H1662 oq k) (fun k => fI H1662 aq k) (3000 + mn.toNatClampNeg) (3000 + x1588.toNatClampNeg) 0 1 := WF.keep b1659 (fun j hj => m1673 j (by omega)) (fun j hj => m1674 j (by omega))
            have ce_x1588 := i_cl (x := x1588) (by omega)
            have b1687 : WF (fun k => fI H1662 oq k) (fun k => fI H1662 aq k) (3000 + x1588.toNatClampNeg) (3000 + x1642.toNatClampNeg) 0 1 := WF.keep wu0 (fun j hj => m1673 j (by omega)) (fun j hj => m1674 j (by omega))
            refine W.eq (g2 := F0 m 63 ls1613 []) rfl ?_
            have ho := congrArg Int32.toInt m1671
            have cb_mn := i_cl (x := mn) (by omega)
            have cb_x1588 := i_cl (x := x1588) (by omega)
            have cb_x1642 := i_cl (x := x1642) (by omega)
            have wn : WF (fun k => fI H1662 oq k) (fun k => fI H1662 aq k) (3000 + mn.toNatClampNeg) (3000 + x1642.toNatClampNeg + 1) 0 1 := WF.bin b1686 b1687 (by omega) (by omega) (by show 2 ≤ (fI _ oq _).toInt ∧ (fI _ oq _).toInt ≤ 11 ∧ (fI _ oq _).toInt ≠ 9; omega) (Or.inl (by show (fI _ oq _).toInt ≠ 5; omega))
            refine lv_goto (tgt := 10) hx hb dX10_readSum_63 (by decide) ?_
            have cl_mn := i_cl (x := mn) (by omega)
            have cl_mn := i_cl (x := mn) (by omega)
            have cl_x1642 := i_cl (x := x1642) (by omega)
            have cl_x1663 := i_cl (x := x1663) (by omega)
            exact ih10 ls1613 H1662 locsH1662 (x1638) (x1639) (x1640) (x1641) (x1663) (lv_sub hl1614 [1] rfl) hTH1662 hSH1662 (by have := i_rng x1638; omega) (by have := i_rng x1639; omega) (by have := i_rng x1663; omega) m1680 m1681 m1682 m1683 ex1663 m1664 m1665 m1677 m1678 b1685 (WF.cast wn (by omega) (by omega)) mf1684 g1666 g1667 g1668 g1669 (by omega) (by omega)
          · have k1661 := i_eq c1660
            refine lv_iconst (v := (-1)) hx hb dX10_readSum_55 (by decide) ?_
            exact x_iret C hQ dX10_readSum_56 hSH1636 (by decide) (by decide) (⟨(-1), x1638, x1639, x1640, x1641, x1642, rfl, by decide, ex1638, ex1639, ex1640, ex1641, ex1642, by omega, m1643, m1644, g1645, g1646, g1647, g1648, mf1657, b1658, Or.inl (by omega), hTH1636⟩)
        · have k1612 := i_eq c1611
          refine lv_iconst (v := 2) hx hb dX10_readSum_37 (by decide) ?_
          refine lv_goto (tgt := 42) hx hb dX10_readSum_38 (by decide) ?_
          refine lv_istore_n (lv' := [(1, .int 2), (0, .ref a0)]) hx hb dX10_readSum_42 rfl hl1583 (by decide) rfl (fun ls1688 hl1689 => ?_)
          refine lv_aload_n hx hb dX10_readSum_43 rfl (lv_at hl1689 1 rfl) ?_
          obtain ⟨q1690, eq1690⟩ : ∃ z : Nat, z = fR H1590 a0 (K.1.2 10 17) := ⟨_, rfl⟩
          have gq1690 := ty_fr (q := q1690) (k := 17) (u := 126) eq1690 hTH1590 ga0 rg_112 rfl
          refine x_V (As := []) (rest := []) C (a_X10_reads l K G H1590 (x1584) (x1585) (x1586) (x1587) (tp) hTH1590 ga0 gq1690 eq1690 m1599 m1600 m1601 m1602 m1606 g1595 g1596 g1597 g1598 (by omega)) yo_X10_reads wM_X10_242 ⟨⟨by decide, by decide⟩, by decide, by decide⟩ (x_rv C hTH1590 (ci := 10) rfl ga0 rg_112) rfl hl1689.1 rfl (Nat.le_of_ble_eq_true rfl) dX10_readSum_44 hSH1590 (AE_sub (fun _ _ => rfl) (by decide) hSH1590.1) (fun vH1691 H1691 locsH1691 pH1691 zH1691 kH1691 hSH1691 => ?_)
          obtain ⟨x1692, x1693, x1694, x1695, hvH1691, ex1692, ex1693, ex1694, ex1695, hrH1691, m1696, g1697, g1698, g1699, g1700, mf1701, hTH1691⟩ := pH1691
          subst hvH1691
          have b1702 : ∀ j : Nat, j < 3000 + mn.toNatClampNeg → fI H1691 oq j = fI s.heap oq j ∧ fI H1691 aq j = fI s.heap aq j := fun j hj => ⟨(fI_kept (x_lt hTH1590 kH1691 goq (by decide))).trans (b1593 j hj).1, (fI_kept (x_lt hTH1590 kH1691 gaq (by decide))).trans (b1593 j hj).2⟩
          have b1703 : WF (fun k => fI H1691 oq k) (fun k => fI H1691 aq k) (3000 + mn.toNatClampNeg) (3000 + x1588.toNatClampNeg) 0 1 := WF.congr (fun j => fI_kept (x_lt hTH1590 kH1691 goq (by decide))) (fun j => fI_kept (x_lt hTH1590 kH1691 gaq (by decide))) b1594
          have m1704 := (m1603).trans (MF.i mf1701 (k := 35) (by decide) (by decide)).symm
          have m1705 := (m1604).trans (MF.r mf1701 (k := 32) (by decide) (by decide)).symm
          have m1706 := (m1605).trans (MF.r mf1701 (k := 33) (by decide) (by decide)).symm
          have m1707 := (m1606).trans (MF.i mf1701 (k := 18) (by decide) (by decide)).symm
          have m1708 := (m1607).trans (MF.i mf1701 (k := 34) (by decide) (by decide)).symm
          have m1709 := (eq1690).trans (MF.r mf1701 (k := 17) (by decide) (by decide)).symm
          have mf1710 : MF K s.heap H1691 a0 [19, 20, 21, 22, 35, 39, 40] := MF.trans mf1592 mf1701 (by decide)
          have bx1692 := ty_fi (x := x1692) (k := 19) ex1692 hTH1691 ga0 rg_112 rfl
          have bx1693 := ty_fi (x := x1693) (k := 20) ex1693 hTH1691 ga0 rg_112 rfl
          have bx1694 := ty_fi (x := x1694) (k := 21) ex1694 hTH1691 ga0 rg_112 rfl
          have bx1695 := ty_fi (x := x1695) (k := 22) ex1695 hTH1691 ga0 rg_112 rfl
          refine W.eq (g2 := F0 m 47 ls1688 []) rfl ?_
          refine lv_aload_n hx hb dX10_readSum_47 rfl (lv_at hl1689 1 rfl) ?_
          refine x_V (As := []) (rest := []) C (a_X10_readProduct l K G H1691 (x1692) (x1693) (x1694) (x1695) (x1588) (tp) (jb) hTH1691 ga0 goq m1705 gaq m1706 ex1692 ex1693 ex1694 ex1695 m1704 m1707 m1708 g1697 g1698 g1699 g1700 (by omega) (by omega)) yo_X10_readProduct wM_X10_252 ⟨⟨by decide, by decide⟩, by decide, by decide⟩ (x_rv C hTH1691 (ci := 10) rfl ga0 rg_112) rfl hl1689.1 rfl (Nat.le_of_ble_eq_true rfl) dX10_readSum_48 hSH1691 (AE_sub (fun _ _ => rfl) (by decide) hSH1691.1) (fun vH1711 H1711 locsH1711 pH1711 zH1711 kH1711 hSH1711 => ?_)
          obtain ⟨x1712, x1713, x1714, x1715, x1716, x1717, hvH1711, bx1712, ex1713, ex1714, ex1715, ex1716, ex1717, hrH1711, m1718, m1719, g1720, g1721, g1722, g1723, mf1724, m1725, m1726, hTH1711⟩ := pH1711
          subst hvH1711
          have m1727 := (m1705).trans (MF.r mf1724 (k := 32) (by decide) (by decide)).symm
          have m1728 := (m1706).trans (MF.r mf1724 (k := 33) (by decide) (by decide)).symm
          have m1729 := (m1707).trans (MF.i mf1724 (k := 18) (by decide) (by decide)).symm
          have m1730 := (m1708).trans (MF.i mf1724 (k := 34) (by decide) (by decide)).symm
          have m1731 := (m1696).trans (MF.r mf1724 (k := 17) (by decide) (by decide)).symm
          have mf1732 : MF K s.heap H1711 a0 [19, 20, 21, 22, 35, 39, 40] := MF.trans mf1710 mf1724 (by decide)
          have bx1713 := ty_fi (x := x1713) (k := 19) ex1713 hTH1711 ga0 rg_112 rfl
          have bx1714 := ty_fi (x := x1714) (k := 20) ex1714 hTH1711 ga0 rg_112 rfl
          have bx1715 := ty_fi (x := x1715) (k := 21) ex1715 hTH1711 ga0 rg_112 rfl
          have bx1716 := ty_fi (x := x1716) (k := 22) ex1716 hTH1711 ga0 rg_112 rfl
          have bx1717 := ty_fi (x := x1717) (k := 35) ex1717 hTH1711 ga0 rg_112 rfl
          have csm1725 := i_cl (x := x1588) (by omega)
          have cs_mn := i_cl (x := mn) (by omega)
          have b1733 : ∀ j : Nat, j < 3000 + mn.toNatClampNeg → fI H1711 oq j = fI s.heap oq j ∧ fI H1711 aq j = fI s.heap aq j := fun j hj => ⟨(m1725 j (by omega)).1.trans (b1702 j hj).1, (m1725 j (by omega)).2.trans (b1702 j hj).2⟩
          have cs_mn := i_cl (x := mn) (by omega)
          have b1734 : WF (fun k => fI H1711 oq k) (fun k => fI H1711 aq k) (3000 + mn.toNatClampNeg) (3000 + x1588.toNatClampNeg) 0 1 := WF.keep b1703 (fun j hj => (m1725 j (by omega)).1) (fun j hj => (m1725 j (by omega)).2)
          refine W.eq (g2 := F0 m 51 ls1688 [.int x1712]) rfl ?_
          refine lv_iconst (v := (-1)) hx hb dX10_readSum_51 (by decide) ?_
          refine lv_icmp_ne (tgt := 57) hx hb dX10_readSum_52 (by decide) (fun c1735 => ?_) (fun c1735 => ?_)
          · have k1736 := i_ne c1735
            have wu0 : WF (fun k => fI H1711 oq k) (fun k => fI H1711 aq k) (3000 + x1588.toNatClampNeg) (3000 + x1717.toNatClampNeg) 0 1 := by
              rcases m1726 with h | h
              · exfalso; omega
              · exact h
            refine lv_aload_n hx hb dX10_readSum_57 rfl (lv_at hl1689 1 rfl) ?_
            refine lv_iload_n hx hb dX10_readSum_58 rfl (lv_at hl1689 0 rfl) ?_
            refine lv_iconst (v := 0) hx hb dX10_readSum_59 (by decide) ?_
            refine x_V (As := [.int 2, .int 0]) (rest := []) C (a_X10_emits l K G H1711 (2) (0) (x1717) hTH1711 ga0 goq m1718 gaq m1719 ex1717 g1720 g1721 g1722 g1723 (by omega)) yo_X10_emits wM_X10_238 ⟨⟨by decide, by decide⟩, by decide, by decide⟩ (x_rv C hTH1711 (ci := 10) rfl ga0 rg_112) rfl hl1689.1 rfl (Nat.le_of_ble_eq_true rfl) dX10_readSum_60 hSH1711 (AE_sub (fun _ _ => rfl) (by decide) hSH1711.1) (fun vH1737 H1737 locsH1737 pH1737 zH1737 kH1737 hSH1737 => ?_)
            obtain ⟨x1738, hvH1737, ex1738, hrH1737, m1739, m1740, g1741, g1742, g1743, g1744, mf1745, m1746, m1747, m1748, m1749, hTH1737⟩ := pH1737
            subst hvH1737
            have m1750 := (m1718).trans (MF.r mf1745 (k := 32) (by decide) (by decide)).symm
            have m1751 := (m1719).trans (MF.r mf1745 (k := 33) (by decide) (by decide)).symm
            have m1752 := (m1729).trans (MF.i mf1745 (k := 18) (by decide) (by decide)).symm
            have m1753 := (m1730).trans (MF.i mf1745 (k := 34) (by decide) (by decide)).symm
            have m1754 := (m1731).trans (MF.r mf1745 (k := 17) (by decide) (by decide)).symm
            have m1755 := (ex1713).trans (MF.i mf1745 (k := 19) (by decide) (by decide)).symm
            have m1756 := (ex1714).trans (MF.i mf1745 (k := 20) (by decide) (by decide)).symm
            have m1757 := (ex1715).trans (MF.i mf1745 (k := 21) (by decide) (by decide)).symm
            have m1758 := (ex1716).trans (MF.i mf1745 (k := 22) (by decide) (by decide)).symm
            have mf1759 : MF K s.heap H1737 a0 [19, 20, 21, 22, 35, 39, 40] := MF.trans mf1732 mf1745 (by decide)
            have bx1738 := ty_fi (x := x1738) (k := 35) ex1738 hTH1737 ga0 rg_112 rfl
            have cem1749 := i_cl (x := x1717) (by omega)
            have ce_mn := i_cl (x := mn) (by omega)
            have b1760 : ∀ j : Nat, j < 3000 + mn.toNatClampNeg → fI H1737 oq j = fI s.heap oq j ∧ fI H1737 aq j = fI s.heap aq j := fun j hj => ⟨(m1748 j (by omega)).trans (b1733 j hj).1, (m1749 j (by omega)).trans (b1733 j hj).2⟩
            have ce_mn := i_cl (x := mn) (by omega)
            have ce_x1588 := i_cl (x := x1588) (by omega)
            have b1761 : WF (fun k => fI H1737 oq k) (fun k => fI H1737 aq k) (3000 + mn.toNatClampNeg) (3000 + x1588.toNatClampNeg) 0 1 := WF.keep b1734 (fun j hj => m1748 j (by omega)) (fun j hj => m1749 j (by omega))
            have ce_x1588 := i_cl (x := x1588) (by omega)
            have b1762 : WF (fun k => fI H1737 oq k) (fun k => fI H1737 aq k) (3000 + x1588.toNatClampNeg) (3000 + x1717.toNatClampNeg) 0 1 := WF.keep wu0 (fun j hj => m1748 j (by omega)) (fun j hj => m1749 j (by omega))
            refine W.eq (g2 := F0 m 63 ls1688 []) rfl ?_
            have ho := congrArg Int32.toInt m1746
            have cb_mn := i_cl (x := mn) (by omega)
            have cb_x1588 := i_cl (x := x1588) (by omega)
            have cb_x1717 := i_cl (x := x1717) (by omega)
            have wn : WF (fun k => fI H1737 oq k) (fun k => fI H1737 aq k) (3000 + mn.toNatClampNeg) (3000 + x1717.toNatClampNeg + 1) 0 1 := WF.bin b1761 b1762 (by omega) (by omega) (by show 2 ≤ (fI _ oq _).toInt ∧ (fI _ oq _).toInt ≤ 11 ∧ (fI _ oq _).toInt ≠ 9; omega) (Or.inl (by show (fI _ oq _).toInt ≠ 5; omega))
            refine lv_goto (tgt := 10) hx hb dX10_readSum_63 (by decide) ?_
            have cl_mn := i_cl (x := mn) (by omega)
            have cl_mn := i_cl (x := mn) (by omega)
            have cl_x1717 := i_cl (x := x1717) (by omega)
            have cl_x1738 := i_cl (x := x1738) (by omega)
            exact ih10 ls1688 H1737 locsH1737 (x1713) (x1714) (x1715) (x1716) (x1738) (lv_sub hl1689 [1] rfl) hTH1737 hSH1737 (by have := i_rng x1713; omega) (by have := i_rng x1714; omega) (by have := i_rng x1738; omega) m1755 m1756 m1757 m1758 ex1738 m1739 m1740 m1752 m1753 b1760 (WF.cast wn (by omega) (by omega)) mf1759 g1741 g1742 g1743 g1744 (by omega) (by omega)
          · have k1736 := i_eq c1735
            refine lv_iconst (v := (-1)) hx hb dX10_readSum_55 (by decide) ?_
            exact x_iret C hQ dX10_readSum_56 hSH1711 (by decide) (by decide) (⟨(-1), x1713, x1714, x1715, x1716, x1717, rfl, by decide, ex1713, ex1714, ex1715, ex1716, ex1717, by omega, m1718, m1719, g1720, g1721, g1722, g1723, mf1732, b1733, Or.inl (by omega), hTH1711⟩)
      · have k1609 := i_eq c1608
        refine lv_aload_n hx hb dX10_readSum_19 rfl (lv_at hl1583 0 rfl) ?_
        refine lv_bipush (v := 45) hx hb dX10_readSum_20 (by decide) ?_
        refine x_V (As := [.int 45]) (rest := []) C (a_X10_isSign l K G H1590 (45) (x1586) (x1587) hTH1590 ga0 m1601 m1602) yo_X10_isSign wM_X10_249 ⟨⟨by decide, by decide⟩, by decide, by decide⟩ (x_rv C hTH1590 (ci := 10) rfl ga0 rg_112) rfl hl1583.1 rfl (Nat.le_of_ble_eq_true rfl) dX10_readSum_22 hSH1590 (AE_sub (fun _ _ => rfl) (by decide) hSH1590.1) (fun vH1763 H1763 locsH1763 pH1763 zH1763 kH1763 hSH1763 => ?_)
        obtain ⟨x1764, hvH1763, bx1764, hrH1763, hTH1763⟩ := pH1763
        subst hvH1763
        have mf1765 : MF K s.heap H1763 a0 [19, 20, 21, 22, 35, 39, 40] := MF.eff (x_lt hTH1590 kH1763 ga0 (by decide)) mf1592
        have b1766 : ∀ j : Nat, j < 3000 + mn.toNatClampNeg → fI H1763 oq j = fI s.heap oq j ∧ fI H1763 aq j = fI s.heap aq j := fun j hj => ⟨(fI_kept (x_lt hTH1590 kH1763 goq (by decide))).trans (b1593 j hj).1, (fI_kept (x_lt hTH1590 kH1763 gaq (by decide))).trans (b1593 j hj).2⟩
        have b1767 : WF (fun k => fI H1763 oq k) (fun k => fI H1763 aq k) (3000 + mn.toNatClampNeg) (3000 + x1588.toNatClampNeg) 0 1 := WF.congr (fun j => fI_kept (x_lt hTH1590 kH1763 goq (by decide))) (fun j => fI_kept (x_lt hTH1590 kH1763 gaq (by decide))) b1594
        have g1768 : CG (avw K H1763 a0) := CG.congr (fun k hk j => av_eff hTH1590 kH1763 ga0 (by decide) (CG_eff [] (by decide) k hk)) g1595
        have g1769 : TU (avw K H1763 a0) (svw K H1763 a0) := TU.congr (fun k hk j => av_eff hTH1590 kH1763 ga0 (by decide) (TU_eff [] (by decide) k hk)) (fun k hk => sv_eff hTH1590 kH1763 ga0 (by decide)) g1596
        have g1770 : WD (avw K H1763 a0) := WD.congr (fun k hk j => av_eff hTH1590 kH1763 ga0 (by decide) (WD_eff [] (by decide) k hk)) g1597
        have g1771 : IM (avw K H1763 a0) := IM.congr (fun k hk j => av_eff hTH1590 kH1763 ga0 (by decide) (IM_eff [] (by decide) k hk)) g1598
        have m1772 := (m1599).trans (fI_kept (x_lt hTH1590 kH1763 ga0 (by decide))).symm
        have m1773 := (m1600).trans (fI_kept (x_lt hTH1590 kH1763 ga0 (by decide))).symm
        have m1774 := (m1601).trans (fI_kept (x_lt hTH1590 kH1763 ga0 (by decide))).symm
        have m1775 := (m1602).trans (fI_kept (x_lt hTH1590 kH1763 ga0 (by decide))).symm
        have m1776 := (m1603).trans (fI_kept (x_lt hTH1590 kH1763 ga0 (by decide))).symm
        have m1777 := (m1604).trans (fR_kept (x_lt hTH1590 kH1763 ga0 (by decide))).symm
        have m1778 := (m1605).trans (fR_kept (x_lt hTH1590 kH1763 ga0 (by decide))).symm
        have m1779 := (m1606).trans (fI_kept (x_lt hTH1590 kH1763 ga0 (by decide))).symm
        have m1780 := (m1607).trans (fI_kept (x_lt hTH1590 kH1763 ga0 (by decide))).symm
        refine W.eq (g2 := F0 m 25 ls1582 [.int x1764]) rfl ?_
        refine lv_if_eq (tgt := 66) hx hb dX10_readSum_25 (by decide) (fun c1781 => ?_) (fun c1781 => ?_)
        · have k1782 := i_eq c1781
          refine lv_iconst (v := 0) hx hb dX10_readSum_66 (by decide) ?_
          have cr_mn := i_cl (x := mn) (by omega)
          have cr_x1588 := i_cl (x := x1588) (by omega)
          exact x_iret C hQ dX10_readSum_67 hSH1763 (by decide) (by decide) (⟨0, x1584, x1585, x1586, x1587, x1588, rfl, by decide, m1772, m1773, m1774, m1775, m1776, by omega, m1777, m1778, g1768, g1769, g1770, g1771, mf1765, b1766, Or.inr (WF.cast b1767 (by omega) (by omega)), hTH1763⟩)
        · have k1782 := i_ne c1781
          refine lv_aload_n hx hb dX10_readSum_28 rfl (lv_at hl1583 0 rfl) ?_
          refine x_gi C hTH1763 (ci := 10) (k := 22) rfl inX10 (by decide) wF_X10_205 ga0 rg_112 rfl dX10_readSum_29 (fun x1783 ex1783 bx1783 => ?_)
          have ux1783 : x1587 = x1783 := (m1775).trans ex1783.symm
          subst ux1783
          refine lv_bipush (v := 43) hx hb dX10_readSum_32 (by decide) ?_
          refine lv_icmp_ne (tgt := 41) hx hb dX10_readSum_34 (by decide) (fun c1784 => ?_) (fun c1784 => ?_)
          · have k1785 := i_ne c1784
            refine lv_iconst (v := 3) hx hb dX10_readSum_41 (by decide) ?_
            refine lv_istore_n (lv' := [(1, .int 3), (0, .ref a0)]) hx hb dX10_readSum_42 rfl hl1583 (by decide) rfl (fun ls1786 hl1787 => ?_)
            refine lv_aload_n hx hb dX10_readSum_43 rfl (lv_at hl1787 1 rfl) ?_
            obtain ⟨q1788, eq1788⟩ : ∃ z : Nat, z = fR H1763 a0 (K.1.2 10 17) := ⟨_, rfl⟩
            have gq1788 := ty_fr (q := q1788) (k := 17) (u := 126) eq1788 hTH1763 ga0 rg_112 rfl
            refine x_V (As := []) (rest := []) C (a_X10_reads l K G H1763 (x1584) (x1585) (x1586) (x1587) (tp) hTH1763 ga0 gq1788 eq1788 m1772 m1773 m1774 m1775 m1779 g1768 g1769 g1770 g1771 (by omega)) yo_X10_reads wM_X10_242 ⟨⟨by decide, by decide⟩, by decide, by decide⟩ (x_rv C hTH1763 (ci := 10) rfl ga0 rg_112) rfl hl1787.1 rfl (Nat.le_of_ble_eq_true rfl) dX10_readSum_44 hSH1763 (AE_sub (fun _ _ => rfl) (by decide) hSH1763.1) (fun vH1789 H1789 locsH1789 pH1789 zH1789 kH1789 hSH1789 => ?_)
            obtain ⟨x1790, x1791, x1792, x1793, hvH1789, ex1790, ex1791, ex1792, ex1793, hrH1789, m1794, g1795, g1796, g1797, g1798, mf1799, hTH1789⟩ := pH1789
            subst hvH1789
            have b1800 : ∀ j : Nat, j < 3000 + mn.toNatClampNeg → fI H1789 oq j = fI s.heap oq j ∧ fI H1789 aq j = fI s.heap aq j := fun j hj => ⟨(fI_kept (x_lt hTH1763 kH1789 goq (by decide))).trans (b1766 j hj).1, (fI_kept (x_lt hTH1763 kH1789 gaq (by decide))).trans (b1766 j hj).2⟩
            have b1801 : WF (fun k => fI H1789 oq k) (fun k => fI H1789 aq k) (3000 + mn.toNatClampNeg) (3000 + x1588.toNatClampNeg) 0 1 := WF.congr (fun j => fI_kept (x_lt hTH1763 kH1789 goq (by decide))) (fun j => fI_kept (x_lt hTH1763 kH1789 gaq (by decide))) b1767
            have m1802 := (m1776).trans (MF.i mf1799 (k := 35) (by decide) (by decide)).symm
            have m1803 := (m1777).trans (MF.r mf1799 (k := 32) (by decide) (by decide)).symm
            have m1804 := (m1778).trans (MF.r mf1799 (k := 33) (by decide) (by decide)).symm
            have m1805 := (m1779).trans (MF.i mf1799 (k := 18) (by decide) (by decide)).symm
            have m1806 := (m1780).trans (MF.i mf1799 (k := 34) (by decide) (by decide)).symm
            have m1807 := (eq1788).trans (MF.r mf1799 (k := 17) (by decide) (by decide)).symm
            have mf1808 : MF K s.heap H1789 a0 [19, 20, 21, 22, 35, 39, 40] := MF.trans mf1765 mf1799 (by decide)
            have bx1790 := ty_fi (x := x1790) (k := 19) ex1790 hTH1789 ga0 rg_112 rfl
            have bx1791 := ty_fi (x := x1791) (k := 20) ex1791 hTH1789 ga0 rg_112 rfl
            have bx1792 := ty_fi (x := x1792) (k := 21) ex1792 hTH1789 ga0 rg_112 rfl
            have bx1793 := ty_fi (x := x1793) (k := 22) ex1793 hTH1789 ga0 rg_112 rfl
            refine W.eq (g2 := F0 m 47 ls1786 []) rfl ?_
            refine lv_aload_n hx hb dX10_readSum_47 rfl (lv_at hl1787 1 rfl) ?_
            refine x_V (As := []) (rest := []) C (a_X10_readProduct l K G H1789 (x1790) (x1791) (x1792) (x1793) (x1588) (tp) (jb) hTH1789 ga0 goq m1803 gaq m1804 ex1790 ex1791 ex1792 ex1793 m1802 m1805 m1806 g1795 g1796 g1797 g1798 (by omega) (by omega)) yo_X10_readProduct wM_X10_252 ⟨⟨by decide, by decide⟩, by decide, by decide⟩ (x_rv C hTH1789 (ci := 10) rfl ga0 rg_112) rfl hl1787.1 rfl (Nat.le_of_ble_eq_true rfl) dX10_readSum_48 hSH1789 (AE_sub (fun _ _ => rfl) (by decide) hSH1789.1) (fun vH1809 H1809 locsH1809 pH1809 zH1809 kH1809 hSH1809 => ?_)
            obtain ⟨x1810, x1811, x1812, x1813, x1814, x1815, hvH1809, bx1810, ex1811, ex1812, ex1813, ex1814, ex1815, hrH1809, m1816, m1817, g1818, g1819, g1820, g1821, mf1822, m1823, m1824, hTH1809⟩ := pH1809
            subst hvH1809
            have m1825 := (m1803).trans (MF.r mf1822 (k := 32) (by decide) (by decide)).symm
            have m1826 := (m1804).trans (MF.r mf1822 (k := 33) (by decide) (by decide)).symm
            have m1827 := (m1805).trans (MF.i mf1822 (k := 18) (by decide) (by decide)).symm
            have m1828 := (m1806).trans (MF.i mf1822 (k := 34) (by decide) (by decide)).symm
            have m1829 := (m1794).trans (MF.r mf1822 (k := 17) (by decide) (by decide)).symm
            have mf1830 : MF K s.heap H1809 a0 [19, 20, 21, 22, 35, 39, 40] := MF.trans mf1808 mf1822 (by decide)
            have bx1811 := ty_fi (x := x1811) (k := 19) ex1811 hTH1809 ga0 rg_112 rfl
            have bx1812 := ty_fi (x := x1812) (k := 20) ex1812 hTH1809 ga0 rg_112 rfl
            have bx1813 := ty_fi (x := x1813) (k := 21) ex1813 hTH1809 ga0 rg_112 rfl
            have bx1814 := ty_fi (x := x1814) (k := 22) ex1814 hTH1809 ga0 rg_112 rfl
            have bx1815 := ty_fi (x := x1815) (k := 35) ex1815 hTH1809 ga0 rg_112 rfl
            have csm1823 := i_cl (x := x1588) (by omega)
            have cs_mn := i_cl (x := mn) (by omega)
            have b1831 : ∀ j : Nat, j < 3000 + mn.toNatClampNeg → fI H1809 oq j = fI s.heap oq j ∧ fI H1809 aq j = fI s.heap aq j := fun j hj => ⟨(m1823 j (by omega)).1.trans (b1800 j hj).1, (m1823 j (by omega)).2.trans (b1800 j hj).2⟩
            have cs_mn := i_cl (x := mn) (by omega)
            have b1832 : WF (fun k => fI H1809 oq k) (fun k => fI H1809 aq k) (3000 + mn.toNatClampNeg) (3000 + x1588.toNatClampNeg) 0 1 := WF.keep b1801 (fun j hj => (m1823 j (by omega)).1) (fun j hj => (m1823 j (by omega)).2)
            refine W.eq (g2 := F0 m 51 ls1786 [.int x1810]) rfl ?_
            refine lv_iconst (v := (-1)) hx hb dX10_readSum_51 (by decide) ?_
            refine lv_icmp_ne (tgt := 57) hx hb dX10_readSum_52 (by decide) (fun c1833 => ?_) (fun c1833 => ?_)
            · have k1834 := i_ne c1833
              have wu0 : WF (fun k => fI H1809 oq k) (fun k => fI H1809 aq k) (3000 + x1588.toNatClampNeg) (3000 + x1815.toNatClampNeg) 0 1 := by
                rcases m1824 with h | h
                · exfalso; omega
                · exact h
              refine lv_aload_n hx hb dX10_readSum_57 rfl (lv_at hl1787 1 rfl) ?_
              refine lv_iload_n hx hb dX10_readSum_58 rfl (lv_at hl1787 0 rfl) ?_
              refine lv_iconst (v := 0) hx hb dX10_readSum_59 (by decide) ?_
              refine x_V (As := [.int 3, .int 0]) (rest := []) C (a_X10_emits l K G H1809 (3) (0) (x1815) hTH1809 ga0 goq m1816 gaq m1817 ex1815 g1818 g1819 g1820 g1821 (by omega)) yo_X10_emits wM_X10_238 ⟨⟨by decide, by decide⟩, by decide, by decide⟩ (x_rv C hTH1809 (ci := 10) rfl ga0 rg_112) rfl hl1787.1 rfl (Nat.le_of_ble_eq_true rfl) dX10_readSum_60 hSH1809 (AE_sub (fun _ _ => rfl) (by decide) hSH1809.1) (fun vH1835 H1835 locsH1835 pH1835 zH1835 kH1835 hSH1835 => ?_)
              obtain ⟨x1836, hvH1835, ex1836, hrH1835, m1837, m1838, g1839, g1840, g1841, g1842, mf1843, m1844, m1845, m1846, m1847, hTH1835⟩ := pH1835
              subst hvH1835
              have m1848 := (m1816).trans (MF.r mf1843 (k := 32) (by decide) (by decide)).symm
              have m1849 := (m1817).trans (MF.r mf1843 (k := 33) (by decide) (by decide)).symm
              have m1850 := (m1827).trans (MF.i mf1843 (k := 18) (by decide) (by decide)).symm
              have m1851 := (m1828).trans (MF.i mf1843 (k := 34) (by decide) (by decide)).symm
              have m1852 := (m1829).trans (MF.r mf1843 (k := 17) (by decide) (by decide)).symm
              have m1853 := (ex1811).trans (MF.i mf1843 (k := 19) (by decide) (by decide)).symm
              have m1854 := (ex1812).trans (MF.i mf1843 (k := 20) (by decide) (by decide)).symm
              have m1855 := (ex1813).trans (MF.i mf1843 (k := 21) (by decide) (by decide)).symm
              have m1856 := (ex1814).trans (MF.i mf1843 (k := 22) (by decide) (by decide)).symm
              have mf1857 : MF K s.heap H1835 a0 [19, 20, 21, 22, 35, 39, 40] := MF.trans mf1830 mf1843 (by decide)
              have bx1836 := ty_fi (x := x1836) (k := 35) ex1836 hTH1835 ga0 rg_112 rfl
              have cem1847 := i_cl (x := x1815) (by omega)
              have ce_mn := i_cl (x := mn) (by omega)
              have b1858 : ∀ j : Nat, j < 3000 + mn.toNatClampNeg → fI H1835 oq j = fI s.heap oq j ∧ fI H1835 aq j = fI s.heap aq j := fun j hj => ⟨(m1846 j (by omega)).trans (b1831 j hj).1, (m1847 j (by omega)).trans (b1831 j hj).2⟩
              have ce_mn := i_cl (x := mn) (by omega)
              have ce_x1588 := i_cl (x := x1588) (by omega)
              have b1859 : WF (fun k => fI H1835 oq k) (fun k => fI H1835 aq k) (3000 + mn.toNatClampNeg) (3000 + x1588.toNatClampNeg) 0 1 := WF.keep b1832 (fun j hj => m1846 j (by omega)) (fun j hj => m1847 j (by omega))
              have ce_x1588 := i_cl (x := x1588) (by omega)
              have b1860 : WF (fun k => fI H1835 oq k) (fun k => fI H1835 aq k) (3000 + x1588.toNatClampNeg) (3000 + x1815.toNatClampNeg) 0 1 := WF.keep wu0 (fun j hj => m1846 j (by omega)) (fun j hj => m1847 j (by omega))
              refine W.eq (g2 := F0 m 63 ls1786 []) rfl ?_
              have ho := congrArg Int32.toInt m1844
              have cb_mn := i_cl (x := mn) (by omega)
              have cb_x1588 := i_cl (x := x1588) (by omega)
              have cb_x1815 := i_cl (x := x1815) (by omega)
              have wn : WF (fun k => fI H1835 oq k) (fun k => fI H1835 aq k) (3000 + mn.toNatClampNeg) (3000 + x1815.toNatClampNeg + 1) 0 1 := WF.bin b1859 b1860 (by omega) (by omega) (by show 2 ≤ (fI _ oq _).toInt ∧ (fI _ oq _).toInt ≤ 11 ∧ (fI _ oq _).toInt ≠ 9; omega) (Or.inl (by show (fI _ oq _).toInt ≠ 5; omega))
              refine lv_goto (tgt := 10) hx hb dX10_readSum_63 (by decide) ?_
              have cl_mn := i_cl (x := mn) (by omega)
              have cl_mn := i_cl (x := mn) (by omega)
              have cl_x1815 := i_cl (x := x1815) (by omega)
              have cl_x1836 := i_cl (x := x1836) (by omega)
              exact ih10 ls1786 H1835 locsH1835 (x1811) (x1812) (x1813) (x1814) (x1836) (lv_sub hl1787 [1] rfl) hTH1835 hSH1835 (by have := i_rng x1811; omega) (by have := i_rng x1812; omega) (by have := i_rng x1836; omega) m1853 m1854 m1855 m1856 ex1836 m1837 m1838 m1850 m1851 b1858 (WF.cast wn (by omega) (by omega)) mf1857 g1839 g1840 g1841 g1842 (by omega) (by omega)
            · have k1834 := i_eq c1833
              refine lv_iconst (v := (-1)) hx hb dX10_readSum_55 (by decide) ?_
              exact x_iret C hQ dX10_readSum_56 hSH1809 (by decide) (by decide) (⟨(-1), x1811, x1812, x1813, x1814, x1815, rfl, by decide, ex1811, ex1812, ex1813, ex1814, ex1815, by omega, m1816, m1817, g1818, g1819, g1820, g1821, mf1830, b1831, Or.inl (by omega), hTH1809⟩)
          · have k1785 := i_eq c1784
            refine lv_iconst (v := 2) hx hb dX10_readSum_37 (by decide) ?_
            refine lv_goto (tgt := 42) hx hb dX10_readSum_38 (by decide) ?_
            refine lv_istore_n (lv' := [(1, .int 2), (0, .ref a0)]) hx hb dX10_readSum_42 rfl hl1583 (by decide) rfl (fun ls1861 hl1862 => ?_)
            refine lv_aload_n hx hb dX10_readSum_43 rfl (lv_at hl1862 1 rfl) ?_
            obtain ⟨q1863, eq1863⟩ : ∃ z : Nat, z = fR H1763 a0 (K.1.2 10 17) := ⟨_, rfl⟩
            have gq1863 := ty_fr (q := q1863) (k := 17) (u := 126) eq1863 hTH1763 ga0 rg_112 rfl
            refine x_V (As := []) (rest := []) C (a_X10_reads l K G H1763 (x1584) (x1585) (x1586) (x1587) (tp) hTH1763 ga0 gq1863 eq1863 m1772 m1773 m1774 m1775 m1779 g1768 g1769 g1770 g1771 (by omega)) yo_X10_reads wM_X10_242 ⟨⟨by decide, by decide⟩, by decide, by decide⟩ (x_rv C hTH1763 (ci := 10) rfl ga0 rg_112) rfl hl1862.1 rfl (Nat.le_of_ble_eq_true rfl) dX10_readSum_44 hSH1763 (AE_sub (fun _ _ => rfl) (by decide) hSH1763.1) (fun vH1864 H1864 locsH1864 pH1864 zH1864 kH1864 hSH1864 => ?_)
            obtain ⟨x1865, x1866, x1867, x1868, hvH1864, ex1865, ex1866, ex1867, ex1868, hrH1864, m1869, g1870, g1871, g1872, g1873, mf1874, hTH1864⟩ := pH1864
            subst hvH1864
            have b1875 : ∀ j : Nat, j < 3000 + mn.toNatClampNeg → fI H1864 oq j = fI s.heap oq j ∧ fI H1864 aq j = fI s.heap aq j := fun j hj => ⟨(fI_kept (x_lt hTH1763 kH1864 goq (by decide))).trans (b1766 j hj).1, (fI_kept (x_lt hTH1763 kH1864 gaq (by decide))).trans (b1766 j hj).2⟩
            have b1876 : WF (fun k => fI H1864 oq k) (fun k => fI H1864 aq k) (3000 + mn.toNatClampNeg) (3000 + x1588.toNatClampNeg) 0 1 := WF.congr (fun j => fI_kept (x_lt hTH1763 kH1864 goq (by decide))) (fun j => fI_kept (x_lt hTH1763 kH1864 gaq (by decide))) b1767
            have m1877 := (m1776).trans (MF.i mf1874 (k := 35) (by decide) (by decide)).symm
            have m1878 := (m1777).trans (MF.r mf1874 (k := 32) (by decide) (by decide)).symm
            have m1879 := (m1778).trans (MF.r mf1874 (k := 33) (by decide) (by decide)).symm
            have m1880 := (m1779).trans (MF.i mf1874 (k := 18) (by decide) (by decide)).symm
            have m1881 := (m1780).trans (MF.i mf1874 (k := 34) (by decide) (by decide)).symm
            have m1882 := (eq1863).trans (MF.r mf1874 (k := 17) (by decide) (by decide)).symm
            have mf1883 : MF K s.heap H1864 a0 [19, 20, 21, 22, 35, 39, 40] := MF.trans mf1765 mf1874 (by decide)
            have bx1865 := ty_fi (x := x1865) (k := 19) ex1865 hTH1864 ga0 rg_112 rfl
            have bx1866 := ty_fi (x := x1866) (k := 20) ex1866 hTH1864 ga0 rg_112 rfl
            have bx1867 := ty_fi (x := x1867) (k := 21) ex1867 hTH1864 ga0 rg_112 rfl
            have bx1868 := ty_fi (x := x1868) (k := 22) ex1868 hTH1864 ga0 rg_112 rfl
            refine W.eq (g2 := F0 m 47 ls1861 []) rfl ?_
            refine lv_aload_n hx hb dX10_readSum_47 rfl (lv_at hl1862 1 rfl) ?_
            refine x_V (As := []) (rest := []) C (a_X10_readProduct l K G H1864 (x1865) (x1866) (x1867) (x1868) (x1588) (tp) (jb) hTH1864 ga0 goq m1878 gaq m1879 ex1865 ex1866 ex1867 ex1868 m1877 m1880 m1881 g1870 g1871 g1872 g1873 (by omega) (by omega)) yo_X10_readProduct wM_X10_252 ⟨⟨by decide, by decide⟩, by decide, by decide⟩ (x_rv C hTH1864 (ci := 10) rfl ga0 rg_112) rfl hl1862.1 rfl (Nat.le_of_ble_eq_true rfl) dX10_readSum_48 hSH1864 (AE_sub (fun _ _ => rfl) (by decide) hSH1864.1) (fun vH1884 H1884 locsH1884 pH1884 zH1884 kH1884 hSH1884 => ?_)
            obtain ⟨x1885, x1886, x1887, x1888, x1889, x1890, hvH1884, bx1885, ex1886, ex1887, ex1888, ex1889, ex1890, hrH1884, m1891, m1892, g1893, g1894, g1895, g1896, mf1897, m1898, m1899, hTH1884⟩ := pH1884
            subst hvH1884
            have m1900 := (m1878).trans (MF.r mf1897 (k := 32) (by decide) (by decide)).symm
            have m1901 := (m1879).trans (MF.r mf1897 (k := 33) (by decide) (by decide)).symm
            have m1902 := (m1880).trans (MF.i mf1897 (k := 18) (by decide) (by decide)).symm
            have m1903 := (m1881).trans (MF.i mf1897 (k := 34) (by decide) (by decide)).symm
            have m1904 := (m1869).trans (MF.r mf1897 (k := 17) (by decide) (by decide)).symm
            have mf1905 : MF K s.heap H1884 a0 [19, 20, 21, 22, 35, 39, 40] := MF.trans mf1883 mf1897 (by decide)
            have bx1886 := ty_fi (x := x1886) (k := 19) ex1886 hTH1884 ga0 rg_112 rfl
            have bx1887 := ty_fi (x := x1887) (k := 20) ex1887 hTH1884 ga0 rg_112 rfl
            have bx1888 := ty_fi (x := x1888) (k := 21) ex1888 hTH1884 ga0 rg_112 rfl
            have bx1889 := ty_fi (x := x1889) (k := 22) ex1889 hTH1884 ga0 rg_112 rfl
            have bx1890 := ty_fi (x := x1890) (k := 35) ex1890 hTH1884 ga0 rg_112 rfl
            have csm1898 := i_cl (x := x1588) (by omega)
            have cs_mn := i_cl (x := mn) (by omega)
            have b1906 : ∀ j : Nat, j < 3000 + mn.toNatClampNeg → fI H1884 oq j = fI s.heap oq j ∧ fI H1884 aq j = fI s.heap aq j := fun j hj => ⟨(m1898 j (by omega)).1.trans (b1875 j hj).1, (m1898 j (by omega)).2.trans (b1875 j hj).2⟩
            have cs_mn := i_cl (x := mn) (by omega)
            have b1907 : WF (fun k => fI H1884 oq k) (fun k => fI H1884 aq k) (3000 + mn.toNatClampNeg) (3000 + x1588.toNatClampNeg) 0 1 := WF.keep b1876 (fun j hj => (m1898 j (by omega)).1) (fun j hj => (m1898 j (by omega)).2)
            refine W.eq (g2 := F0 m 51 ls1861 [.int x1885]) rfl ?_
            refine lv_iconst (v := (-1)) hx hb dX10_readSum_51 (by decide) ?_
            refine lv_icmp_ne (tgt := 57) hx hb dX10_readSum_52 (by decide) (fun c1908 => ?_) (fun c1908 => ?_)
            · have k1909 := i_ne c1908
              have wu0 : WF (fun k => fI H1884 oq k) (fun k => fI H1884 aq k) (3000 + x1588.toNatClampNeg) (3000 + x1890.toNatClampNeg) 0 1 := by
                rcases m1899 with h | h
                · exfalso; omega
                · exact h
              refine lv_aload_n hx hb dX10_readSum_57 rfl (lv_at hl1862 1 rfl) ?_
              refine lv_iload_n hx hb dX10_readSum_58 rfl (lv_at hl1862 0 rfl) ?_
              refine lv_iconst (v := 0) hx hb dX10_readSum_59 (by decide) ?_
              refine x_V (As := [.int 2, .int 0]) (rest := []) C (a_X10_emits l K G H1884 (2) (0) (x1890) hTH1884 ga0 goq m1891 gaq m1892 ex1890 g1893 g1894 g1895 g1896 (by omega)) yo_X10_emits wM_X10_238 ⟨⟨by decide, by decide⟩, by decide, by decide⟩ (x_rv C hTH1884 (ci := 10) rfl ga0 rg_112) rfl hl1862.1 rfl (Nat.le_of_ble_eq_true rfl) dX10_readSum_60 hSH1884 (AE_sub (fun _ _ => rfl) (by decide) hSH1884.1) (fun vH1910 H1910 locsH1910 pH1910 zH1910 kH1910 hSH1910 => ?_)
              obtain ⟨x1911, hvH1910, ex1911, hrH1910, m1912, m1913, g1914, g1915, g1916, g1917, mf1918, m1919, m1920, m1921, m1922, hTH1910⟩ := pH1910
              subst hvH1910
              have m1923 := (m1891).trans (MF.r mf1918 (k := 32) (by decide) (by decide)).symm
              have m1924 := (m1892).trans (MF.r mf1918 (k := 33) (by decide) (by decide)).symm
              have m1925 := (m1902).trans (MF.i mf1918 (k := 18) (by decide) (by decide)).symm
              have m1926 := (m1903).trans (MF.i mf1918 (k := 34) (by decide) (by decide)).symm
              have m1927 := (m1904).trans (MF.r mf1918 (k := 17) (by decide) (by decide)).symm
              have m1928 := (ex1886).trans (MF.i mf1918 (k := 19) (by decide) (by decide)).symm
              have m1929 := (ex1887).trans (MF.i mf1918 (k := 20) (by decide) (by decide)).symm
              have m1930 := (ex1888).trans (MF.i mf1918 (k := 21) (by decide) (by decide)).symm
              have m1931 := (ex1889).trans (MF.i mf1918 (k := 22) (by decide) (by decide)).symm
              have mf1932 : MF K s.heap H1910 a0 [19, 20, 21, 22, 35, 39, 40] := MF.trans mf1905 mf1918 (by decide)
              have bx1911 := ty_fi (x := x1911) (k := 35) ex1911 hTH1910 ga0 rg_112 rfl
              have cem1922 := i_cl (x := x1890) (by omega)
              have ce_mn := i_cl (x := mn) (by omega)
              have b1933 : ∀ j : Nat, j < 3000 + mn.toNatClampNeg → fI H1910 oq j = fI s.heap oq j ∧ fI H1910 aq j = fI s.heap aq j := fun j hj => ⟨(m1921 j (by omega)).trans (b1906 j hj).1, (m1922 j (by omega)).trans (b1906 j hj).2⟩
              have ce_mn := i_cl (x := mn) (by omega)
              have ce_x1588 := i_cl (x := x1588) (by omega)
              have b1934 : WF (fun k => fI H1910 oq k) (fun k => fI H1910 aq k) (3000 + mn.toNatClampNeg) (3000 + x1588.toNatClampNeg) 0 1 := WF.keep b1907 (fun j hj => m1921 j (by omega)) (fun j hj => m1922 j (by omega))
              have ce_x1588 := i_cl (x := x1588) (by omega)
              have b1935 : WF (fun k => fI H1910 oq k) (fun k => fI H1910 aq k) (3000 + x1588.toNatClampNeg) (3000 + x1890.toNatClampNeg) 0 1 := WF.keep wu0 (fun j hj => m1921 j (by omega)) (fun j hj => m1922 j (by omega))
              refine W.eq (g2 := F0 m 63 ls1861 []) rfl ?_
              have ho := congrArg Int32.toInt m1919
              have cb_mn := i_cl (x := mn) (by omega)
              have cb_x1588 := i_cl (x := x1588) (by omega)
              have cb_x1890 := i_cl (x := x1890) (by omega)
              have wn : WF (fun k => fI H1910 oq k) (fun k => fI H1910 aq k) (3000 + mn.toNatClampNeg) (3000 + x1890.toNatClampNeg + 1) 0 1 := WF.bin b1934 b1935 (by omega) (by omega) (by show 2 ≤ (fI _ oq _).toInt ∧ (fI _ oq _).toInt ≤ 11 ∧ (fI _ oq _).toInt ≠ 9; omega) (Or.inl (by show (fI _ oq _).toInt ≠ 5; omega))
              refine lv_goto (tgt := 10) hx hb dX10_readSum_63 (by decide) ?_
              have cl_mn := i_cl (x := mn) (by omega)
              have cl_mn := i_cl (x := mn) (by omega)
              have cl_x1890 := i_cl (x := x1890) (by omega)
              have cl_x1911 := i_cl (x := x1911) (by omega)
              exact ih10 ls1861 H1910 locsH1910 (x1886) (x1887) (x1888) (x1889) (x1911) (lv_sub hl1862 [1] rfl) hTH1910 hSH1910 (by have := i_rng x1886; omega) (by have := i_rng x1887; omega) (by have := i_rng x1911; omega) m1928 m1929 m1930 m1931 ex1911 m1912 m1913 m1925 m1926 b1933 (WF.cast wn (by omega) (by omega)) mf1932 g1914 g1915 g1916 g1917 (by omega) (by omega)
            · have k1909 := i_eq c1908
              refine lv_iconst (v := (-1)) hx hb dX10_readSum_55 (by decide) ?_
              exact x_iret C hQ dX10_readSum_56 hSH1884 (by decide) (by decide) (⟨(-1), x1886, x1887, x1888, x1889, x1890, rfl, by decide, ex1886, ex1887, ex1888, ex1889, ex1890, by omega, m1891, m1892, g1893, g1894, g1895, g1896, mf1905, b1906, Or.inl (by omega), hTH1884⟩)
  have pf00 : ∀ j : Nat, j < 3000 + mn.toNatClampNeg → fI s.heap oq j = fI s.heap oq j ∧ fI s.heap aq j = fI s.heap aq j := fun _ _ => ⟨rfl, rfl⟩
  have hmn := i_cl (x := mn) (by omega)
  refine lv_aload_n hx hb dX10_readSum_0 rfl (lv_at hl 0 rfl) ?_
  refine x_V (As := []) (rest := []) C (a_X10_readProduct l K G s.heap (sp) (fr) (tk) (vl) (mn) (tp) (jb) hT ga0 goq eoq gaq eaq esp efr etk evl emn etp ejb hg_CG hg_TU hg_WD hg_IM (by omega) (by omega)) yo_X10_readProduct wM_X10_252 ⟨⟨by decide, by decide⟩, by decide, by decide⟩ (x_rv C hT (ci := 10) rfl ga0 rg_112) rfl hl.1 rfl (Nat.le_of_ble_eq_true rfl) dX10_readSum_1 hS (AE_sub (fun _ _ => rfl) (by decide) hS.1) (fun vH1936 H1936 locsH1936 pH1936 zH1936 kH1936 hSH1936 => ?_)
  obtain ⟨x1937, x1938, x1939, x1940, x1941, x1942, hvH1936, bx1937, ex1938, ex1939, ex1940, ex1941, ex1942, hrH1936, m1943, m1944, g1945, g1946, g1947, g1948, mf1949, m1950, m1951, hTH1936⟩ := pH1936
  subst hvH1936
  have m1952 := (eoq).trans (MF.r mf1949 (k := 32) (by decide) (by decide)).symm
  have m1953 := (eaq).trans (MF.r mf1949 (k := 33) (by decide) (by decide)).symm
  have m1954 := (etp).trans (MF.i mf1949 (k := 18) (by decide) (by decide)).symm
  have m1955 := (ejb).trans (MF.i mf1949 (k := 34) (by decide) (by decide)).symm
  have mf1956 : MF K s.heap H1936 a0 [19, 20, 21, 22, 35, 39, 40] := MF.trans mf0 mf1949 (by decide)
  have bx1938 := ty_fi (x := x1938) (k := 19) ex1938 hTH1936 ga0 rg_112 rfl
  have bx1939 := ty_fi (x := x1939) (k := 20) ex1939 hTH1936 ga0 rg_112 rfl
  have bx1940 := ty_fi (x := x1940) (k := 21) ex1940 hTH1936 ga0 rg_112 rfl
  have bx1941 := ty_fi (x := x1941) (k := 22) ex1941 hTH1936 ga0 rg_112 rfl
  have bx1942 := ty_fi (x := x1942) (k := 35) ex1942 hTH1936 ga0 rg_112 rfl
  have csm1950 := i_cl (x := mn) (by omega)
  have b1957 : ∀ j : Nat, j < 3000 + mn.toNatClampNeg → fI H1936 oq j = fI s.heap oq j ∧ fI H1936 aq j = fI s.heap aq j := fun j hj => ⟨(m1950 j (by omega)).1.trans (pf00 j hj).1, (m1950 j (by omega)).2.trans (pf00 j hj).2⟩
  refine W.eq (g2 := F0 m 4 ls [.int x1937]) rfl ?_
  refine lv_iconst (v := (-1)) hx hb dX10_readSum_4 (by decide) ?_
  refine lv_icmp_ne (tgt := 10) hx hb dX10_readSum_5 (by decide) (fun c1958 => ?_) (fun c1958 => ?_)
  · have k1959 := i_ne c1958
    have wf0 : WF (fun k => fI H1936 oq k) (fun k => fI H1936 aq k) (3000 + mn.toNatClampNeg) (3000 + x1942.toNatClampNeg) 0 1 := by
      rcases m1951 with h | h
      · exfalso; omega
      · exact h
    have cl_mn := i_cl (x := mn) (by omega)
    have cl_mn := i_cl (x := mn) (by omega)
    have cl_x1942 := i_cl (x := x1942) (by omega)
    exact J10 ((500 - x1939.toInt).toNat + 1) ls H1936 locsH1936 (x1938) (x1939) (x1940) (x1941) (x1942) (lv_sub hl [0] rfl) hTH1936 hSH1936 (by have := i_rng x1938; omega) (by have := i_rng x1939; omega) (by have := i_rng x1942; omega) ex1938 ex1939 ex1940 ex1941 ex1942 m1943 m1944 m1954 m1955 b1957 (WF.cast wf0 (by omega) (by omega)) mf1956 g1945 g1946 g1947 g1948 (by omega) (by omega)
  · have k1959 := i_eq c1958
    refine lv_iconst (v := (-1)) hx hb dX10_readSum_8 (by decide) ?_
    exact x_iret C hQ dX10_readSum_9 hSH1936 (by decide) (by decide) (⟨(-1), x1938, x1939, x1940, x1941, x1942, rfl, by decide, ex1938, ex1939, ex1940, ex1941, ex1942, by omega, m1943, m1944, g1945, g1946, g1947, g1948, mf1956, b1957, Or.inl (by omega), hTH1936⟩)

set_option maxHeartbeats 4000000 in
set_option maxRecDepth 100000 in
theorem a_X10_readCompared (l : Launch) (K : KE) (G : Nat → Option Nat) (H : Heap) {a0 : Nat} {oq : Nat} {aq : Nat} (sp : Int32) (fr : Int32) (tk : Int32) (vl : Int32) (mn : Int32) (tp : Int32) (jb : Int32) (hT : TY K G H) (ga0 : G a0 = some 112) (goq : G oq = some 136) (eoq : oq = fR H a0 (K.1.2 10 32)) (gaq : G aq = some 137) (eaq : aq = fR H a0 (K.1.2 10 33)) (esp : sp = fI H a0 (K.1.2 10 19)) (efr : fr = fI H a0 (K.1.2 10 20)) (etk : tk = fI H a0 (K.1.2 10 21)) (evl : vl = fI H a0 (K.1.2 10 22)) (emn : mn = fI H a0 (K.1.2 10 35)) (etp : tp = fI H a0 (K.1.2 10 18)) (ejb : jb = fI H a0 (K.1.2 10 34)) (hg_CG : CG (avw K H a0)) (hg_TU : TU (avw K H a0) (svw K H a0)) (hg_WD : WD (avw K H a0)) (hg_IM : IM (avw K H a0)) (hp0 : (sp.toInt ≤ tp.toInt ∧ fr.toInt ≤ sp.toInt ∧ (tk.toInt = 0 ∨ fr.toInt < sp.toInt) ∧ (tk.toInt ≠ 2 ∨ (0 ≤ vl.toInt ∧ vl.toInt ≤ 23)))) (hp1 : mn.toInt ≤ fr.toInt) : MX l K yX10_readCompared cX10_readCompared 2 (some .int) 6 128 0 0 [.ref a0] H (AE G [112, 136, 137] H.size) (fun v H1 => ∃ (r : Int32) (t0 : Int32) (t1 : Int32) (t2 : Int32) (t3 : Int32) (t4 : Int32), v = some (.int r) ∧ ((-1) ≤ r.toInt ∧ r.toInt ≤ 0) ∧ t0 = fI H1 a0 (K.1.2 10 19) ∧ t1 = fI H1 a0 (K.1.2 10 20) ∧ t2 = fI H1 a0 (K.1.2 10 21) ∧ t3 = fI H1 a0 (K.1.2 10 22) ∧ t4 = fI H1 a0 (K.1.2 10 35) ∧ (r.toInt = -1 ∨ (r.toInt = 0 ∧ t0.toInt ≤ tp.toInt ∧ t1.toInt ≤ t0.toInt ∧ (t2.toInt = 0 ∨ t1.toInt < t0.toInt) ∧ (t2.toInt ≠ 2 ∨ (0 ≤ t3.toInt ∧ t3.toInt ≤ 23)) ∧ t4.toInt + fr.toInt ≤ mn.toInt + t1.toInt ∧ mn.toInt < t4.toInt ∧ fr.toInt < t1.toInt)) ∧ oq = fR H1 a0 (K.1.2 10 32) ∧ aq = fR H1 a0 (K.1.2 10 33) ∧ (CG (avw K H1 a0)) ∧ (TU (avw K H1 a0) (svw K H1 a0)) ∧ (WD (avw K H1 a0)) ∧ (IM (avw K H1 a0)) ∧ MF K H H1 a0 [19, 20, 21, 22, 35, 39, 40] ∧ (∀ j : Nat, j < 3000 + mn.toNatClampNeg → fI H1 oq j = fI H oq j ∧ fI H1 aq j = fI H aq j) ∧ (r.toInt = -1 ∨ WF (fun k => fI H1 oq k) (fun k => fI H1 aq k) (3000 + mn.toNatClampNeg) (3000 + t4.toNatClampNeg) 0 1) ∧ TY K G H1) := by
  refine MX.of (by decide +kernel) (Nat.le_of_ble_eq_true rfl) ?_
  intro p e s m below meth c ls Q C hH hl hQ
  subst hH
  have C : CX p K s m _ meth c RX10 cX10_readCompared 2 (some .int) "readCompared" := C
  obtain ⟨hx, hb, hml, hown, hts, hKT, hr, hlocks, hnm⟩ := id C
  have hl : lv_has ls 2 [(0, .ref a0)] := hl
  have hS : va_S (AE G [112, 136, 137] s.heap.size) s.heap s.heap [] := va_S.rf
  have n_m1 : ((-1) : Int32).toInt = -1 := rfl
  have n_0 : (0 : Int32).toInt = 0 := rfl
  have n_1 : (1 : Int32).toInt = 1 := rfl
  have n_6 : (6 : Int32).toInt = 6 := rfl
  have n_7 : (7 : Int32).toInt = 7 := rfl
  have n_8 : (8 : Int32).toInt = 8 := rfl
  have n_60 : (60 : Int32).toInt = 60 := rfl
  have n_61 : (61 : Int32).toInt = 61 := rfl
  have n_62 : (62 : Int32).toInt = 62 := rfl
  have bsp := ty_fi (x := sp) (k := 19) esp hT ga0 rg_112 rfl
  have bfr := ty_fi (x := fr) (k := 20) efr hT ga0 rg_112 rfl
  have btk := ty_fi (x := tk) (k := 21) etk hT ga0 rg_112 rfl
  have bvl := ty_fi (x := vl) (k := 22) evl hT ga0 rg_112 rfl
  have bmn := ty_fi (x := mn) (k := 35) emn hT ga0 rg_112 rfl
  have btp := ty_fi (x := tp) (k := 18) etp hT ga0 rg_112 rfl
  have bjb := ty_fi (x := jb) (k := 34) ejb hT ga0 rg_112 rfl
  have hap : ∀ x y, x < 74 → y < 74 → x ≠ y → K.1.2 10 x ≠ K.1.2 10 y := x_apart hKT hts inX10 tyX10 tyX10_ok nmX10 rfl
  have mf0 : MF K s.heap s.heap a0 [19, 20, 21, 22, 35, 39, 40] := fun _ _ _ => rfl
  have pf00 : ∀ j : Nat, j < 3000 + mn.toNatClampNeg → fI s.heap oq j = fI s.heap oq j ∧ fI s.heap aq j = fI s.heap aq j := fun _ _ => ⟨rfl, rfl⟩
  have hmn := i_cl (x := mn) (by omega)
  refine lv_aload_n hx hb dX10_readCompared_0 rfl (lv_at hl 0 rfl) ?_
  refine x_V (As := []) (rest := []) C (a_X10_readSum l K G s.heap (sp) (fr) (tk) (vl) (mn) (tp) (jb) hT ga0 goq eoq gaq eaq esp efr etk evl emn etp ejb hg_CG hg_TU hg_WD hg_IM (by omega) (by omega)) yo_X10_readSum wM_X10_255 ⟨⟨by decide, by decide⟩, by decide, by decide⟩ (x_rv C hT (ci := 10) rfl ga0 rg_112) rfl hl.1 rfl (Nat.le_of_ble_eq_true rfl) dX10_readCompared_1 hS (AE_sub (fun _ _ => rfl) (by decide) hS.1) (fun vH2997 H2997 locsH2997 pH2997 zH2997 kH2997 hSH2997 => ?_)
  obtain ⟨x2998, x2999, x3000, x3001, x3002, x3003, hvH2997, bx2998, ex2999, ex3000, ex3001, ex3002, ex3003, hrH2997, m3004, m3005, g3006, g3007, g3008, g3009, mf3010, m3011, m3012, hTH2997⟩ := pH2997
  subst hvH2997
  have m3013 := (eoq).trans (MF.r mf3010 (k := 32) (by decide) (by decide)).symm
  have m3014 := (eaq).trans (MF.r mf3010 (k := 33) (by decide) (by decide)).symm
  have m3015 := (etp).trans (MF.i mf3010 (k := 18) (by decide) (by decide)).symm
  have m3016 := (ejb).trans (MF.i mf3010 (k := 34) (by decide) (by decide)).symm
  have mf3017 : MF K s.heap H2997 a0 [19, 20, 21, 22, 35, 39, 40] := MF.trans mf0 mf3010 (by decide)
  have bx2999 := ty_fi (x := x2999) (k := 19) ex2999 hTH2997 ga0 rg_112 rfl
  have bx3000 := ty_fi (x := x3000) (k := 20) ex3000 hTH2997 ga0 rg_112 rfl
  have bx3001 := ty_fi (x := x3001) (k := 21) ex3001 hTH2997 ga0 rg_112 rfl
  have bx3002 := ty_fi (x := x3002) (k := 22) ex3002 hTH2997 ga0 rg_112 rfl
  have bx3003 := ty_fi (x := x3003) (k := 35) ex3003 hTH2997 ga0 rg_112 rfl
  have csm3011 := i_cl (x := mn) (by omega)
  have b3018 : ∀ j : Nat, j < 3000 + mn.toNatClampNeg → fI H2997 oq j = fI s.heap oq j ∧ fI H2997 aq j = fI s.heap aq j := fun j hj => ⟨(m3011 j (by omega)).1.trans (pf00 j hj).1, (m3011 j (by omega)).2.trans (pf00 j hj).2⟩
  refine W.eq (g2 := F0 m 4 ls [.int x2998]) rfl ?_
  refine lv_iconst (v := (-1)) hx hb dX10_readCompared_4 (by decide) ?_
  refine lv_icmp_ne (tgt := 10) hx hb dX10_readCompared_5 (by decide) (fun c3019 => ?_) (fun c3019 => ?_)
  · have k3020 := i_ne c3019
    have wf0 : WF (fun k => fI H2997 oq k) (fun k => fI H2997 aq k) (3000 + mn.toNatClampNeg) (3000 + x3003.toNatClampNeg) 0 1 := by
      rcases m3012 with h | h
      · exfalso; omega
      · exact h
    refine lv_aload_n hx hb dX10_readCompared_10 rfl (lv_at hl 0 rfl) ?_
    refine lv_bipush (v := 60) hx hb dX10_readCompared_11 (by decide) ?_
    refine x_V (As := [.int 60]) (rest := []) C (a_X10_isSign l K G H2997 (60) (x3001) (x3002) hTH2997 ga0 ex3001 ex3002) yo_X10_isSign wM_X10_249 ⟨⟨by decide, by decide⟩, by decide, by decide⟩ (x_rv C hTH2997 (ci := 10) rfl ga0 rg_112) rfl hl.1 rfl (Nat.le_of_ble_eq_true rfl) dX10_readCompared_13 hSH2997 (AE_sub (fun _ _ => rfl) (by decide) hSH2997.1) (fun vH3021 H3021 locsH3021 pH3021 zH3021 kH3021 hSH3021 => ?_)
    obtain ⟨x3022, hvH3021, bx3022, hrH3021, hTH3021⟩ := pH3021
    subst hvH3021
    have mf3023 : MF K s.heap H3021 a0 [19, 20, 21, 22, 35, 39, 40] := MF.eff (x_lt hTH2997 kH3021 ga0 (by decide)) mf3017
    have b3024 : ∀ j : Nat, j < 3000 + mn.toNatClampNeg → fI H3021 oq j = fI s.heap oq j ∧ fI H3021 aq j = fI s.heap aq j := fun j hj => ⟨(fI_kept (x_lt hTH2997 kH3021 goq (by decide))).trans (b3018 j hj).1, (fI_kept (x_lt hTH2997 kH3021 gaq (by decide))).trans (b3018 j hj).2⟩
    have b3025 : WF (fun k => fI H3021 oq k) (fun k => fI H3021 aq k) (3000 + mn.toNatClampNeg) (3000 + x3003.toNatClampNeg) 0 1 := WF.congr (fun j => fI_kept (x_lt hTH2997 kH3021 goq (by decide))) (fun j => fI_kept (x_lt hTH2997 kH3021 gaq (by decide))) wf0
    have g3026 : CG (avw K H3021 a0) := CG.congr (fun k hk j => av_eff hTH2997 kH3021 ga0 (by decide) (CG_eff [] (by decide) k hk)) g3006
    have g3027 : TU (avw K H3021 a0) (svw K H3021 a0) := TU.congr (fun k hk j => av_eff hTH2997 kH3021 ga0 (by decide) (TU_eff [] (by decide) k hk)) (fun k hk => sv_eff hTH2997 kH3021 ga0 (by decide)) g3007
    have g3028 : WD (avw K H3021 a0) := WD.congr (fun k hk j => av_eff hTH2997 kH3021 ga0 (by decide) (WD_eff [] (by decide) k hk)) g3008
    have g3029 : IM (avw K H3021 a0) := IM.congr (fun k hk j => av_eff hTH2997 kH3021 ga0 (by decide) (IM_eff [] (by decide) k hk)) g3009
    have m3030 := (m3004).trans (fR_kept (x_lt hTH2997 kH3021 ga0 (by decide))).symm
    have m3031 := (m3005).trans (fR_kept (x_lt hTH2997 kH3021 ga0 (by decide))).symm
    have m3032 := (m3015).trans (fI_kept (x_lt hTH2997 kH3021 ga0 (by decide))).symm
    have m3033 := (m3016).trans (fI_kept (x_lt hTH2997 kH3021 ga0 (by decide))).symm
    have m3034 := (ex2999).trans (fI_kept (x_lt hTH2997 kH3021 ga0 (by decide))).symm
    have m3035 := (ex3000).trans (fI_kept (x_lt hTH2997 kH3021 ga0 (by decide))).symm
    have m3036 := (ex3001).trans (fI_kept (x_lt hTH2997 kH3021 ga0 (by decide))).symm
    have m3037 := (ex3002).trans (fI_kept (x_lt hTH2997 kH3021 ga0 (by decide))).symm
    have m3038 := (ex3003).trans (fI_kept (x_lt hTH2997 kH3021 ga0 (by decide))).symm
    refine W.eq (g2 := F0 m 16 ls [.int x3022]) rfl ?_
    refine lv_if_ne (tgt := 43) hx hb dX10_readCompared_16 (by decide) (fun c3039 => ?_) (fun c3039 => ?_)
    · have k3040 := i_ne c3039
      refine lv_aload_n hx hb dX10_readCompared_43 rfl (lv_at hl 0 rfl) ?_
      refine x_gi C hTH3021 (ci := 10) (k := 22) rfl inX10 (by decide) wF_X10_205 ga0 rg_112 rfl dX10_readCompared_44 (fun x3041 ex3041 bx3041 => ?_)
      have ux3041 : x3002 = x3041 := (m3037).trans ex3041.symm
      subst ux3041
      refine lv_bipush (v := 60) hx hb dX10_readCompared_47 (by decide) ?_
      refine lv_icmp_ne (tgt := 57) hx hb dX10_readCompared_49 (by decide) (fun c3042 => ?_) (fun c3042 => ?_)
      · have k3043 := i_ne c3042
        refine lv_aload_n hx hb dX10_readCompared_57 rfl (lv_at hl 0 rfl) ?_
        refine x_gi C hTH3021 (ci := 10) (k := 22) rfl inX10 (by decide) wF_X10_205 ga0 rg_112 rfl dX10_readCompared_58 (fun x3044 ex3044 bx3044 => ?_)
        have ux3044 : x3002 = x3044 := (m3037).trans ex3044.symm
        subst ux3044
        refine lv_bipush (v := 61) hx hb dX10_readCompared_61 (by decide) ?_
        refine lv_icmp_ne (tgt := 71) hx hb dX10_readCompared_63 (by decide) (fun c3045 => ?_) (fun c3045 => ?_)
        · have k3046 := i_ne c3045
          refine lv_bipush (v := 8) hx hb dX10_readCompared_71 (by decide) ?_
          refine lv_istore_n (lv' := [(1, .int 8), (0, .ref a0)]) hx hb dX10_readCompared_73 rfl hl (by decide) rfl (fun ls3047 hl3048 => ?_)
          refine lv_aload_n hx hb dX10_readCompared_74 rfl (lv_at hl3048 1 rfl) ?_
          obtain ⟨q3049, eq3049⟩ : ∃ z : Nat, z = fR H3021 a0 (K.1.2 10 17) := ⟨_, rfl⟩
          have gq3049 := ty_fr (q := q3049) (k := 17) (u := 126) eq3049 hTH3021 ga0 rg_112 rfl
          refine x_V (As := []) (rest := []) C (a_X10_reads l K G H3021 (x2999) (x3000) (x3001) (x3002) (tp) hTH3021 ga0 gq3049 eq3049 m3034 m3035 m3036 m3037 m3032 g3026 g3027 g3028 g3029 (by omega)) yo_X10_reads wM_X10_242 ⟨⟨by decide, by decide⟩, by decide, by decide⟩ (x_rv C hTH3021 (ci := 10) rfl ga0 rg_112) rfl hl3048.1 rfl (Nat.le_of_ble_eq_true rfl) dX10_readCompared_75 hSH3021 (AE_sub (fun _ _ => rfl) (by decide) hSH3021.1) (fun vH3050 H3050 locsH3050 pH3050 zH3050 kH3050 hSH3050 => ?_)
          obtain ⟨x3051, x3052, x3053, x3054, hvH3050, ex3051, ex3052, ex3053, ex3054, hrH3050, m3055, g3056, g3057, g3058, g3059, mf3060, hTH3050⟩ := pH3050
          subst hvH3050
          have b3061 : ∀ j : Nat, j < 3000 + mn.toNatClampNeg → fI H3050 oq j = fI s.heap oq j ∧ fI H3050 aq j = fI s.heap aq j := fun j hj => ⟨(fI_kept (x_lt hTH3021 kH3050 goq (by decide))).trans (b3024 j hj).1, (fI_kept (x_lt hTH3021 kH3050 gaq (by decide))).trans (b3024 j hj).2⟩
          have b3062 : WF (fun k => fI H3050 oq k) (fun k => fI H3050 aq k) (3000 + mn.toNatClampNeg) (3000 + x3003.toNatClampNeg) 0 1 := WF.congr (fun j => fI_kept (x_lt hTH3021 kH3050 goq (by decide))) (fun j => fI_kept (x_lt hTH3021 kH3050 gaq (by decide))) b3025
          have m3063 := (m3030).trans (MF.r mf3060 (k := 32) (by decide) (by decide)).symm
          have m3064 := (m3031).trans (MF.r mf3060 (k := 33) (by decide) (by decide)).symm
          have m3065 := (m3032).trans (MF.i mf3060 (k := 18) (by decide) (by decide)).symm
          have m3066 := (m3033).trans (MF.i mf3060 (k := 34) (by decide) (by decide)).symm
          have m3067 := (m3038).trans (MF.i mf3060 (k := 35) (by decide) (by decide)).symm
          have m3068 := (eq3049).trans (MF.r mf3060 (k := 17) (by decide) (by decide)).symm
          have mf3069 : MF K s.heap H3050 a0 [19, 20, 21, 22, 35, 39, 40] := MF.trans mf3023 mf3060 (by decide)
          have bx3051 := ty_fi (x := x3051) (k := 19) ex3051 hTH3050 ga0 rg_112 rfl
          have bx3052 := ty_fi (x := x3052) (k := 20) ex3052 hTH3050 ga0 rg_112 rfl
          have bx3053 := ty_fi (x := x3053) (k := 21) ex3053 hTH3050 ga0 rg_112 rfl
          have bx3054 := ty_fi (x := x3054) (k := 22) ex3054 hTH3050 ga0 rg_112 rfl
          refine W.eq (g2 := F0 m 78 ls3047 []) rfl ?_
          refine lv_aload_n hx hb dX10_readCompared_78 rfl (lv_at hl3048 1 rfl) ?_
          refine x_V (As := []) (rest := []) C (a_X10_readSum l K G H3050 (x3051) (x3052) (x3053) (x3054) (x3003) (tp) (jb) hTH3050 ga0 goq m3063 gaq m3064 ex3051 ex3052 ex3053 ex3054 m3067 m3065 m3066 g3056 g3057 g3058 g3059 (by omega) (by omega)) yo_X10_readSum wM_X10_255 ⟨⟨by decide, by decide⟩, by decide, by decide⟩ (x_rv C hTH3050 (ci := 10) rfl ga0 rg_112) rfl hl3048.1 rfl (Nat.le_of_ble_eq_true rfl) dX10_readCompared_79 hSH3050 (AE_sub (fun _ _ => rfl) (by decide) hSH3050.1) (fun vH3070 H3070 locsH3070 pH3070 zH3070 kH3070 hSH3070 => ?_)
          obtain ⟨x3071, x3072, x3073, x3074, x3075, x3076, hvH3070, bx3071, ex3072, ex3073, ex3074, ex3075, ex3076, hrH3070, m3077, m3078, g3079, g3080, g3081, g3082, mf3083, m3084, m3085, hTH3070⟩ := pH3070
          subst hvH3070
          have m3086 := (m3063).trans (MF.r mf3083 (k := 32) (by decide) (by decide)).symm
          have m3087 := (m3064).trans (MF.r mf3083 (k := 33) (by decide) (by decide)).symm
          have m3088 := (m3065).trans (MF.i mf3083 (k := 18) (by decide) (by decide)).symm
          have m3089 := (m3066).trans (MF.i mf3083 (k := 34) (by decide) (by decide)).symm
          have m3090 := (m3055).trans (MF.r mf3083 (k := 17) (by decide) (by decide)).symm
          have mf3091 : MF K s.heap H3070 a0 [19, 20, 21, 22, 35, 39, 40] := MF.trans mf3069 mf3083 (by decide)
          have bx3072 := ty_fi (x := x3072) (k := 19) ex3072 hTH3070 ga0 rg_112 rfl
          have bx3073 := ty_fi (x := x3073) (k := 20) ex3073 hTH3070 ga0 rg_112 rfl
          have bx3074 := ty_fi (x := x3074) (k := 21) ex3074 hTH3070 ga0 rg_112 rfl
          have bx3075 := ty_fi (x := x3075) (k := 22) ex3075 hTH3070 ga0 rg_112 rfl
          have bx3076 := ty_fi (x := x3076) (k := 35) ex3076 hTH3070 ga0 rg_112 rfl
          have csm3084 := i_cl (x := x3003) (by omega)
          have cs_mn := i_cl (x := mn) (by omega)
          have b3092 : ∀ j : Nat, j < 3000 + mn.toNatClampNeg → fI H3070 oq j = fI s.heap oq j ∧ fI H3070 aq j = fI s.heap aq j := fun j hj => ⟨(m3084 j (by omega)).1.trans (b3061 j hj).1, (m3084 j (by omega)).2.trans (b3061 j hj).2⟩
          have cs_mn := i_cl (x := mn) (by omega)
          have b3093 : WF (fun k => fI H3070 oq k) (fun k => fI H3070 aq k) (3000 + mn.toNatClampNeg) (3000 + x3003.toNatClampNeg) 0 1 := WF.keep b3062 (fun j hj => (m3084 j (by omega)).1) (fun j hj => (m3084 j (by omega)).2)
          refine W.eq (g2 := F0 m 82 ls3047 [.int x3071]) rfl ?_
          refine lv_iconst (v := (-1)) hx hb dX10_readCompared_82 (by decide) ?_
          refine lv_icmp_ne (tgt := 88) hx hb dX10_readCompared_83 (by decide) (fun c3094 => ?_) (fun c3094 => ?_)
          · have k3095 := i_ne c3094
            have wu0 : WF (fun k => fI H3070 oq k) (fun k => fI H3070 aq k) (3000 + x3003.toNatClampNeg) (3000 + x3076.toNatClampNeg) 0 1 := by
              rcases m3085 with h | h
              · exfalso; omega
              · exact h
            refine lv_aload_n hx hb dX10_readCompared_88 rfl (lv_at hl3048 1 rfl) ?_
            refine lv_iload_n hx hb dX10_readCompared_89 rfl (lv_at hl3048 0 rfl) ?_
            refine lv_iconst (v := 0) hx hb dX10_readCompared_90 (by decide) ?_
            refine x_V (As := [.int 8, .int 0]) (rest := []) C (a_X10_emits l K G H3070 (8) (0) (x3076) hTH3070 ga0 goq m3077 gaq m3078 ex3076 g3079 g3080 g3081 g3082 (by omega)) yo_X10_emits wM_X10_238 ⟨⟨by decide, by decide⟩, by decide, by decide⟩ (x_rv C hTH3070 (ci := 10) rfl ga0 rg_112) rfl hl3048.1 rfl (Nat.le_of_ble_eq_true rfl) dX10_readCompared_91 hSH3070 (AE_sub (fun _ _ => rfl) (by decide) hSH3070.1) (fun vH3096 H3096 locsH3096 pH3096 zH3096 kH3096 hSH3096 => ?_)
            obtain ⟨x3097, hvH3096, ex3097, hrH3096, m3098, m3099, g3100, g3101, g3102, g3103, mf3104, m3105, m3106, m3107, m3108, hTH3096⟩ := pH3096
            subst hvH3096
            have m3109 := (m3077).trans (MF.r mf3104 (k := 32) (by decide) (by decide)).symm
            have m3110 := (m3078).trans (MF.r mf3104 (k := 33) (by decide) (by decide)).symm
            have m3111 := (m3088).trans (MF.i mf3104 (k := 18) (by decide) (by decide)).symm
            have m3112 := (m3089).trans (MF.i mf3104 (k := 34) (by decide) (by decide)).symm
            have m3113 := (m3090).trans (MF.r mf3104 (k := 17) (by decide) (by decide)).symm
            have m3114 := (ex3072).trans (MF.i mf3104 (k := 19) (by decide) (by decide)).symm
            have m3115 := (ex3073).trans (MF.i mf3104 (k := 20) (by decide) (by decide)).symm
            have m3116 := (ex3074).trans (MF.i mf3104 (k := 21) (by decide) (by decide)).symm
            have m3117 := (ex3075).trans (MF.i mf3104 (k := 22) (by decide) (by decide)).symm
            have mf3118 : MF K s.heap H3096 a0 [19, 20, 21, 22, 35, 39, 40] := MF.trans mf3091 mf3104 (by decide)
            have bx3097 := ty_fi (x := x3097) (k := 35) ex3097 hTH3096 ga0 rg_112 rfl
            have cem3108 := i_cl (x := x3076) (by omega)
            have ce_mn := i_cl (x := mn) (by omega)
            have b3119 : ∀ j : Nat, j < 3000 + mn.toNatClampNeg → fI H3096 oq j = fI s.heap oq j ∧ fI H3096 aq j = fI s.heap aq j := fun j hj => ⟨(m3107 j (by omega)).trans (b3092 j hj).1, (m3108 j (by omega)).trans (b3092 j hj).2⟩
            have ce_mn := i_cl (x := mn) (by omega)
            have ce_x3003 := i_cl (x := x3003) (by omega)
            have b3120 : WF (fun k => fI H3096 oq k) (fun k => fI H3096 aq k) (3000 + mn.toNatClampNeg) (3000 + x3003.toNatClampNeg) 0 1 := WF.keep b3093 (fun j hj => m3107 j (by omega)) (fun j hj => m3108 j (by omega))
            have ce_x3003 := i_cl (x := x3003) (by omega)
            have b3121 : WF (fun k => fI H3096 oq k) (fun k => fI H3096 aq k) (3000 + x3003.toNatClampNeg) (3000 + x3076.toNatClampNeg) 0 1 := WF.keep wu0 (fun j hj => m3107 j (by omega)) (fun j hj => m3108 j (by omega))
            refine W.eq (g2 := F0 m 94 ls3047 []) rfl ?_
            have ho := congrArg Int32.toInt m3105
            have cb_mn := i_cl (x := mn) (by omega)
            have cb_x3003 := i_cl (x := x3003) (by omega)
            have cb_x3076 := i_cl (x := x3076) (by omega)
            have wn : WF (fun k => fI H3096 oq k) (fun k => fI H3096 aq k) (3000 + mn.toNatClampNeg) (3000 + x3076.toNatClampNeg + 1) 0 1 := WF.bin b3120 b3121 (by omega) (by omega) (by show 2 ≤ (fI _ oq _).toInt ∧ (fI _ oq _).toInt ≤ 11 ∧ (fI _ oq _).toInt ≠ 9; omega) (Or.inl (by show (fI _ oq _).toInt ≠ 5; omega))
            refine lv_iconst (v := 0) hx hb dX10_readCompared_94 (by decide) ?_
            have cr_mn := i_cl (x := mn) (by omega)
            have cr_x3076 := i_cl (x := x3076) (by omega)
            have cr_x3097 := i_cl (x := x3097) (by omega)
            exact x_iret C hQ dX10_readCompared_95 hSH3096 (by decide) (by decide) (⟨0, x3072, x3073, x3074, x3075, x3097, rfl, by decide, m3114, m3115, m3116, m3117, ex3097, by omega, m3098, m3099, g3100, g3101, g3102, g3103, mf3118, b3119, Or.inr (WF.cast wn (by omega) (by omega)), hTH3096⟩)
          · have k3095 := i_eq c3094
            refine lv_iconst (v := (-1)) hx hb dX10_readCompared_86 (by decide) ?_
            exact x_iret C hQ dX10_readCompared_87 hSH3070 (by decide) (by decide) (⟨(-1), x3072, x3073, x3074, x3075, x3076, rfl, by decide, ex3072, ex3073, ex3074, ex3075, ex3076, by omega, m3077, m3078, g3079, g3080, g3081, g3082, mf3091, b3092, Or.inl (by omega), hTH3070⟩)
        · have k3046 := i_eq c3045
          refine lv_bipush (v := 7) hx hb dX10_readCompared_66 (by decide) ?_
          refine lv_goto (tgt := 73) hx hb dX10_readCompared_68 (by decide) ?_
          refine lv_istore_n (lv' := [(1, .int 7), (0, .ref a0)]) hx hb dX10_readCompared_73 rfl hl (by decide) rfl (fun ls3122 hl3123 => ?_)
          refine lv_aload_n hx hb dX10_readCompared_74 rfl (lv_at hl3123 1 rfl) ?_
          obtain ⟨q3124, eq3124⟩ : ∃ z : Nat, z = fR H3021 a0 (K.1.2 10 17) := ⟨_, rfl⟩
          have gq3124 := ty_fr (q := q3124) (k := 17) (u := 126) eq3124 hTH3021 ga0 rg_112 rfl
          refine x_V (As := []) (rest := []) C (a_X10_reads l K G H3021 (x2999) (x3000) (x3001) (x3002) (tp) hTH3021 ga0 gq3124 eq3124 m3034 m3035 m3036 m3037 m3032 g3026 g3027 g3028 g3029 (by omega)) yo_X10_reads wM_X10_242 ⟨⟨by decide, by decide⟩, by decide, by decide⟩ (x_rv C hTH3021 (ci := 10) rfl ga0 rg_112) rfl hl3123.1 rfl (Nat.le_of_ble_eq_true rfl) dX10_readCompared_75 hSH3021 (AE_sub (fun _ _ => rfl) (by decide) hSH3021.1) (fun vH3125 H3125 locsH3125 pH3125 zH3125 kH3125 hSH3125 => ?_)
          obtain ⟨x3126, x3127, x3128, x3129, hvH3125, ex3126, ex3127, ex3128, ex3129, hrH3125, m3130, g3131, g3132, g3133, g3134, mf3135, hTH3125⟩ := pH3125
          subst hvH3125
          have b3136 : ∀ j : Nat, j < 3000 + mn.toNatClampNeg → fI H3125 oq j = fI s.heap oq j ∧ fI H3125 aq j = fI s.heap aq j := fun j hj => ⟨(fI_kept (x_lt hTH3021 kH3125 goq (by decide))).trans (b3024 j hj).1, (fI_kept (x_lt hTH3021 kH3125 gaq (by decide))).trans (b3024 j hj).2⟩
          have b3137 : WF (fun k => fI H3125 oq k) (fun k => fI H3125 aq k) (3000 + mn.toNatClampNeg) (3000 + x3003.toNatClampNeg) 0 1 := WF.congr (fun j => fI_kept (x_lt hTH3021 kH3125 goq (by decide))) (fun j => fI_kept (x_lt hTH3021 kH3125 gaq (by decide))) b3025
          have m3138 := (m3030).trans (MF.r mf3135 (k := 32) (by decide) (by decide)).symm
          have m3139 := (m3031).trans (MF.r mf3135 (k := 33) (by decide) (by decide)).symm
          have m3140 := (m3032).trans (MF.i mf3135 (k := 18) (by decide) (by decide)).symm
          have m3141 := (m3033).trans (MF.i mf3135 (k := 34) (by decide) (by decide)).symm
          have m3142 := (m3038).trans (MF.i mf3135 (k := 35) (by decide) (by decide)).symm
          have m3143 := (eq3124).trans (MF.r mf3135 (k := 17) (by decide) (by decide)).symm
          have mf3144 : MF K s.heap H3125 a0 [19, 20, 21, 22, 35, 39, 40] := MF.trans mf3023 mf3135 (by decide)
          have bx3126 := ty_fi (x := x3126) (k := 19) ex3126 hTH3125 ga0 rg_112 rfl
          have bx3127 := ty_fi (x := x3127) (k := 20) ex3127 hTH3125 ga0 rg_112 rfl
          have bx3128 := ty_fi (x := x3128) (k := 21) ex3128 hTH3125 ga0 rg_112 rfl
          have bx3129 := ty_fi (x := x3129) (k := 22) ex3129 hTH3125 ga0 rg_112 rfl
          refine W.eq (g2 := F0 m 78 ls3122 []) rfl ?_
          refine lv_aload_n hx hb dX10_readCompared_78 rfl (lv_at hl3123 1 rfl) ?_
          refine x_V (As := []) (rest := []) C (a_X10_readSum l K G H3125 (x3126) (x3127) (x3128) (x3129) (x3003) (tp) (jb) hTH3125 ga0 goq m3138 gaq m3139 ex3126 ex3127 ex3128 ex3129 m3142 m3140 m3141 g3131 g3132 g3133 g3134 (by omega) (by omega)) yo_X10_readSum wM_X10_255 ⟨⟨by decide, by decide⟩, by decide, by decide⟩ (x_rv C hTH3125 (ci := 10) rfl ga0 rg_112) rfl hl3123.1 rfl (Nat.le_of_ble_eq_true rfl) dX10_readCompared_79 hSH3125 (AE_sub (fun _ _ => rfl) (by decide) hSH3125.1) (fun vH3145 H3145 locsH3145 pH3145 zH3145 kH3145 hSH3145 => ?_)
          obtain ⟨x3146, x3147, x3148, x3149, x3150, x3151, hvH3145, bx3146, ex3147, ex3148, ex3149, ex3150, ex3151, hrH3145, m3152, m3153, g3154, g3155, g3156, g3157, mf3158, m3159, m3160, hTH3145⟩ := pH3145
          subst hvH3145
          have m3161 := (m3138).trans (MF.r mf3158 (k := 32) (by decide) (by decide)).symm
          have m3162 := (m3139).trans (MF.r mf3158 (k := 33) (by decide) (by decide)).symm
          have m3163 := (m3140).trans (MF.i mf3158 (k := 18) (by decide) (by decide)).symm
          have m3164 := (m3141).trans (MF.i mf3158 (k := 34) (by decide) (by decide)).symm
          have m3165 := (m3130).trans (MF.r mf3158 (k := 17) (by decide) (by decide)).symm
          have mf3166 : MF K s.heap H3145 a0 [19, 20, 21, 22, 35, 39, 40] := MF.trans mf3144 mf3158 (by decide)
          have bx3147 := ty_fi (x := x3147) (k := 19) ex3147 hTH3145 ga0 rg_112 rfl
          have bx3148 := ty_fi (x := x3148) (k := 20) ex3148 hTH3145 ga0 rg_112 rfl
          have bx3149 := ty_fi (x := x3149) (k := 21) ex3149 hTH3145 ga0 rg_112 rfl
          have bx3150 := ty_fi (x := x3150) (k := 22) ex3150 hTH3145 ga0 rg_112 rfl
          have bx3151 := ty_fi (x := x3151) (k := 35) ex3151 hTH3145 ga0 rg_112 rfl
          have csm3159 := i_cl (x := x3003) (by omega)
          have cs_mn := i_cl (x := mn) (by omega)
          have b3167 : ∀ j : Nat, j < 3000 + mn.toNatClampNeg → fI H3145 oq j = fI s.heap oq j ∧ fI H3145 aq j = fI s.heap aq j := fun j hj => ⟨(m3159 j (by omega)).1.trans (b3136 j hj).1, (m3159 j (by omega)).2.trans (b3136 j hj).2⟩
          have cs_mn := i_cl (x := mn) (by omega)
          have b3168 : WF (fun k => fI H3145 oq k) (fun k => fI H3145 aq k) (3000 + mn.toNatClampNeg) (3000 + x3003.toNatClampNeg) 0 1 := WF.keep b3137 (fun j hj => (m3159 j (by omega)).1) (fun j hj => (m3159 j (by omega)).2)
          refine W.eq (g2 := F0 m 82 ls3122 [.int x3146]) rfl ?_
          refine lv_iconst (v := (-1)) hx hb dX10_readCompared_82 (by decide) ?_
          refine lv_icmp_ne (tgt := 88) hx hb dX10_readCompared_83 (by decide) (fun c3169 => ?_) (fun c3169 => ?_)
          · have k3170 := i_ne c3169
            have wu0 : WF (fun k => fI H3145 oq k) (fun k => fI H3145 aq k) (3000 + x3003.toNatClampNeg) (3000 + x3151.toNatClampNeg) 0 1 := by
              rcases m3160 with h | h
              · exfalso; omega
              · exact h
            refine lv_aload_n hx hb dX10_readCompared_88 rfl (lv_at hl3123 1 rfl) ?_
            refine lv_iload_n hx hb dX10_readCompared_89 rfl (lv_at hl3123 0 rfl) ?_
            refine lv_iconst (v := 0) hx hb dX10_readCompared_90 (by decide) ?_
            refine x_V (As := [.int 7, .int 0]) (rest := []) C (a_X10_emits l K G H3145 (7) (0) (x3151) hTH3145 ga0 goq m3152 gaq m3153 ex3151 g3154 g3155 g3156 g3157 (by omega)) yo_X10_emits wM_X10_238 ⟨⟨by decide, by decide⟩, by decide, by decide⟩ (x_rv C hTH3145 (ci := 10) rfl ga0 rg_112) rfl hl3123.1 rfl (Nat.le_of_ble_eq_true rfl) dX10_readCompared_91 hSH3145 (AE_sub (fun _ _ => rfl) (by decide) hSH3145.1) (fun vH3171 H3171 locsH3171 pH3171 zH3171 kH3171 hSH3171 => ?_)
            obtain ⟨x3172, hvH3171, ex3172, hrH3171, m3173, m3174, g3175, g3176, g3177, g3178, mf3179, m3180, m3181, m3182, m3183, hTH3171⟩ := pH3171
            subst hvH3171
            have m3184 := (m3152).trans (MF.r mf3179 (k := 32) (by decide) (by decide)).symm
            have m3185 := (m3153).trans (MF.r mf3179 (k := 33) (by decide) (by decide)).symm
            have m3186 := (m3163).trans (MF.i mf3179 (k := 18) (by decide) (by decide)).symm
            have m3187 := (m3164).trans (MF.i mf3179 (k := 34) (by decide) (by decide)).symm
            have m3188 := (m3165).trans (MF.r mf3179 (k := 17) (by decide) (by decide)).symm
            have m3189 := (ex3147).trans (MF.i mf3179 (k := 19) (by decide) (by decide)).symm
            have m3190 := (ex3148).trans (MF.i mf3179 (k := 20) (by decide) (by decide)).symm
            have m3191 := (ex3149).trans (MF.i mf3179 (k := 21) (by decide) (by decide)).symm
            have m3192 := (ex3150).trans (MF.i mf3179 (k := 22) (by decide) (by decide)).symm
            have mf3193 : MF K s.heap H3171 a0 [19, 20, 21, 22, 35, 39, 40] := MF.trans mf3166 mf3179 (by decide)
            have bx3172 := ty_fi (x := x3172) (k := 35) ex3172 hTH3171 ga0 rg_112 rfl
            have cem3183 := i_cl (x := x3151) (by omega)
            have ce_mn := i_cl (x := mn) (by omega)
            have b3194 : ∀ j : Nat, j < 3000 + mn.toNatClampNeg → fI H3171 oq j = fI s.heap oq j ∧ fI H3171 aq j = fI s.heap aq j := fun j hj => ⟨(m3182 j (by omega)).trans (b3167 j hj).1, (m3183 j (by omega)).trans (b3167 j hj).2⟩
            have ce_mn := i_cl (x := mn) (by omega)
            have ce_x3003 := i_cl (x := x3003) (by omega)
            have b3195 : WF (fun k => fI H3171 oq k) (fun k => fI H3171 aq k) (3000 + mn.toNatClampNeg) (3000 + x3003.toNatClampNeg) 0 1 := WF.keep b3168 (fun j hj => m3182 j (by omega)) (fun j hj => m3183 j (by omega))
            have ce_x3003 := i_cl (x := x3003) (by omega)
            have b3196 : WF (fun k => fI H3171 oq k) (fun k => fI H3171 aq k) (3000 + x3003.toNatClampNeg) (3000 + x3151.toNatClampNeg) 0 1 := WF.keep wu0 (fun j hj => m3182 j (by omega)) (fun j hj => m3183 j (by omega))
            refine W.eq (g2 := F0 m 94 ls3122 []) rfl ?_
            have ho := congrArg Int32.toInt m3180
            have cb_mn := i_cl (x := mn) (by omega)
            have cb_x3003 := i_cl (x := x3003) (by omega)
            have cb_x3151 := i_cl (x := x3151) (by omega)
            have wn : WF (fun k => fI H3171 oq k) (fun k => fI H3171 aq k) (3000 + mn.toNatClampNeg) (3000 + x3151.toNatClampNeg + 1) 0 1 := WF.bin b3195 b3196 (by omega) (by omega) (by show 2 ≤ (fI _ oq _).toInt ∧ (fI _ oq _).toInt ≤ 11 ∧ (fI _ oq _).toInt ≠ 9; omega) (Or.inl (by show (fI _ oq _).toInt ≠ 5; omega))
            refine lv_iconst (v := 0) hx hb dX10_readCompared_94 (by decide) ?_
            have cr_mn := i_cl (x := mn) (by omega)
            have cr_x3151 := i_cl (x := x3151) (by omega)
            have cr_x3172 := i_cl (x := x3172) (by omega)
            exact x_iret C hQ dX10_readCompared_95 hSH3171 (by decide) (by decide) (⟨0, x3147, x3148, x3149, x3150, x3172, rfl, by decide, m3189, m3190, m3191, m3192, ex3172, by omega, m3173, m3174, g3175, g3176, g3177, g3178, mf3193, b3194, Or.inr (WF.cast wn (by omega) (by omega)), hTH3171⟩)
          · have k3170 := i_eq c3169
            refine lv_iconst (v := (-1)) hx hb dX10_readCompared_86 (by decide) ?_
            exact x_iret C hQ dX10_readCompared_87 hSH3145 (by decide) (by decide) (⟨(-1), x3147, x3148, x3149, x3150, x3151, rfl, by decide, ex3147, ex3148, ex3149, ex3150, ex3151, by omega, m3152, m3153, g3154, g3155, g3156, g3157, mf3166, b3167, Or.inl (by omega), hTH3145⟩)
      · have k3043 := i_eq c3042
        refine lv_bipush (v := 6) hx hb dX10_readCompared_52 (by decide) ?_
        refine lv_goto (tgt := 73) hx hb dX10_readCompared_54 (by decide) ?_
        refine lv_istore_n (lv' := [(1, .int 6), (0, .ref a0)]) hx hb dX10_readCompared_73 rfl hl (by decide) rfl (fun ls3197 hl3198 => ?_)
        refine lv_aload_n hx hb dX10_readCompared_74 rfl (lv_at hl3198 1 rfl) ?_
        obtain ⟨q3199, eq3199⟩ : ∃ z : Nat, z = fR H3021 a0 (K.1.2 10 17) := ⟨_, rfl⟩
        have gq3199 := ty_fr (q := q3199) (k := 17) (u := 126) eq3199 hTH3021 ga0 rg_112 rfl
        refine x_V (As := []) (rest := []) C (a_X10_reads l K G H3021 (x2999) (x3000) (x3001) (x3002) (tp) hTH3021 ga0 gq3199 eq3199 m3034 m3035 m3036 m3037 m3032 g3026 g3027 g3028 g3029 (by omega)) yo_X10_reads wM_X10_242 ⟨⟨by decide, by decide⟩, by decide, by decide⟩ (x_rv C hTH3021 (ci := 10) rfl ga0 rg_112) rfl hl3198.1 rfl (Nat.le_of_ble_eq_true rfl) dX10_readCompared_75 hSH3021 (AE_sub (fun _ _ => rfl) (by decide) hSH3021.1) (fun vH3200 H3200 locsH3200 pH3200 zH3200 kH3200 hSH3200 => ?_)
        obtain ⟨x3201, x3202, x3203, x3204, hvH3200, ex3201, ex3202, ex3203, ex3204, hrH3200, m3205, g3206, g3207, g3208, g3209, mf3210, hTH3200⟩ := pH3200
        subst hvH3200
        have b3211 : ∀ j : Nat, j < 3000 + mn.toNatClampNeg → fI H3200 oq j = fI s.heap oq j ∧ fI H3200 aq j = fI s.heap aq j := fun j hj => ⟨(fI_kept (x_lt hTH3021 kH3200 goq (by decide))).trans (b3024 j hj).1, (fI_kept (x_lt hTH3021 kH3200 gaq (by decide))).trans (b3024 j hj).2⟩
        have b3212 : WF (fun k => fI H3200 oq k) (fun k => fI H3200 aq k) (3000 + mn.toNatClampNeg) (3000 + x3003.toNatClampNeg) 0 1 := WF.congr (fun j => fI_kept (x_lt hTH3021 kH3200 goq (by decide))) (fun j => fI_kept (x_lt hTH3021 kH3200 gaq (by decide))) b3025
        have m3213 := (m3030).trans (MF.r mf3210 (k := 32) (by decide) (by decide)).symm
        have m3214 := (m3031).trans (MF.r mf3210 (k := 33) (by decide) (by decide)).symm
        have m3215 := (m3032).trans (MF.i mf3210 (k := 18) (by decide) (by decide)).symm
        have m3216 := (m3033).trans (MF.i mf3210 (k := 34) (by decide) (by decide)).symm
        have m3217 := (m3038).trans (MF.i mf3210 (k := 35) (by decide) (by decide)).symm
        have m3218 := (eq3199).trans (MF.r mf3210 (k := 17) (by decide) (by decide)).symm
        have mf3219 : MF K s.heap H3200 a0 [19, 20, 21, 22, 35, 39, 40] := MF.trans mf3023 mf3210 (by decide)
        have bx3201 := ty_fi (x := x3201) (k := 19) ex3201 hTH3200 ga0 rg_112 rfl
        have bx3202 := ty_fi (x := x3202) (k := 20) ex3202 hTH3200 ga0 rg_112 rfl
        have bx3203 := ty_fi (x := x3203) (k := 21) ex3203 hTH3200 ga0 rg_112 rfl
        have bx3204 := ty_fi (x := x3204) (k := 22) ex3204 hTH3200 ga0 rg_112 rfl
        refine W.eq (g2 := F0 m 78 ls3197 []) rfl ?_
        refine lv_aload_n hx hb dX10_readCompared_78 rfl (lv_at hl3198 1 rfl) ?_
        refine x_V (As := []) (rest := []) C (a_X10_readSum l K G H3200 (x3201) (x3202) (x3203) (x3204) (x3003) (tp) (jb) hTH3200 ga0 goq m3213 gaq m3214 ex3201 ex3202 ex3203 ex3204 m3217 m3215 m3216 g3206 g3207 g3208 g3209 (by omega) (by omega)) yo_X10_readSum wM_X10_255 ⟨⟨by decide, by decide⟩, by decide, by decide⟩ (x_rv C hTH3200 (ci := 10) rfl ga0 rg_112) rfl hl3198.1 rfl (Nat.le_of_ble_eq_true rfl) dX10_readCompared_79 hSH3200 (AE_sub (fun _ _ => rfl) (by decide) hSH3200.1) (fun vH3220 H3220 locsH3220 pH3220 zH3220 kH3220 hSH3220 => ?_)
        obtain ⟨x3221, x3222, x3223, x3224, x3225, x3226, hvH3220, bx3221, ex3222, ex3223, ex3224, ex3225, ex3226, hrH3220, m3227, m3228, g3229, g3230, g3231, g3232, mf3233, m3234, m3235, hTH3220⟩ := pH3220
        subst hvH3220
        have m3236 := (m3213).trans (MF.r mf3233 (k := 32) (by decide) (by decide)).symm
        have m3237 := (m3214).trans (MF.r mf3233 (k := 33) (by decide) (by decide)).symm
        have m3238 := (m3215).trans (MF.i mf3233 (k := 18) (by decide) (by decide)).symm
        have m3239 := (m3216).trans (MF.i mf3233 (k := 34) (by decide) (by decide)).symm
        have m3240 := (m3205).trans (MF.r mf3233 (k := 17) (by decide) (by decide)).symm
        have mf3241 : MF K s.heap H3220 a0 [19, 20, 21, 22, 35, 39, 40] := MF.trans mf3219 mf3233 (by decide)
        have bx3222 := ty_fi (x := x3222) (k := 19) ex3222 hTH3220 ga0 rg_112 rfl
        have bx3223 := ty_fi (x := x3223) (k := 20) ex3223 hTH3220 ga0 rg_112 rfl
        have bx3224 := ty_fi (x := x3224) (k := 21) ex3224 hTH3220 ga0 rg_112 rfl
        have bx3225 := ty_fi (x := x3225) (k := 22) ex3225 hTH3220 ga0 rg_112 rfl
        have bx3226 := ty_fi (x := x3226) (k := 35) ex3226 hTH3220 ga0 rg_112 rfl
        have csm3234 := i_cl (x := x3003) (by omega)
        have cs_mn := i_cl (x := mn) (by omega)
        have b3242 : ∀ j : Nat, j < 3000 + mn.toNatClampNeg → fI H3220 oq j = fI s.heap oq j ∧ fI H3220 aq j = fI s.heap aq j := fun j hj => ⟨(m3234 j (by omega)).1.trans (b3211 j hj).1, (m3234 j (by omega)).2.trans (b3211 j hj).2⟩
        have cs_mn := i_cl (x := mn) (by omega)
        have b3243 : WF (fun k => fI H3220 oq k) (fun k => fI H3220 aq k) (3000 + mn.toNatClampNeg) (3000 + x3003.toNatClampNeg) 0 1 := WF.keep b3212 (fun j hj => (m3234 j (by omega)).1) (fun j hj => (m3234 j (by omega)).2)
        refine W.eq (g2 := F0 m 82 ls3197 [.int x3221]) rfl ?_
        refine lv_iconst (v := (-1)) hx hb dX10_readCompared_82 (by decide) ?_
        refine lv_icmp_ne (tgt := 88) hx hb dX10_readCompared_83 (by decide) (fun c3244 => ?_) (fun c3244 => ?_)
        · have k3245 := i_ne c3244
          have wu0 : WF (fun k => fI H3220 oq k) (fun k => fI H3220 aq k) (3000 + x3003.toNatClampNeg) (3000 + x3226.toNatClampNeg) 0 1 := by
            rcases m3235 with h | h
            · exfalso; omega
            · exact h
          refine lv_aload_n hx hb dX10_readCompared_88 rfl (lv_at hl3198 1 rfl) ?_
          refine lv_iload_n hx hb dX10_readCompared_89 rfl (lv_at hl3198 0 rfl) ?_
          refine lv_iconst (v := 0) hx hb dX10_readCompared_90 (by decide) ?_
          refine x_V (As := [.int 6, .int 0]) (rest := []) C (a_X10_emits l K G H3220 (6) (0) (x3226) hTH3220 ga0 goq m3227 gaq m3228 ex3226 g3229 g3230 g3231 g3232 (by omega)) yo_X10_emits wM_X10_238 ⟨⟨by decide, by decide⟩, by decide, by decide⟩ (x_rv C hTH3220 (ci := 10) rfl ga0 rg_112) rfl hl3198.1 rfl (Nat.le_of_ble_eq_true rfl) dX10_readCompared_91 hSH3220 (AE_sub (fun _ _ => rfl) (by decide) hSH3220.1) (fun vH3246 H3246 locsH3246 pH3246 zH3246 kH3246 hSH3246 => ?_)
          obtain ⟨x3247, hvH3246, ex3247, hrH3246, m3248, m3249, g3250, g3251, g3252, g3253, mf3254, m3255, m3256, m3257, m3258, hTH3246⟩ := pH3246
          subst hvH3246
          have m3259 := (m3227).trans (MF.r mf3254 (k := 32) (by decide) (by decide)).symm
          have m3260 := (m3228).trans (MF.r mf3254 (k := 33) (by decide) (by decide)).symm
          have m3261 := (m3238).trans (MF.i mf3254 (k := 18) (by decide) (by decide)).symm
          have m3262 := (m3239).trans (MF.i mf3254 (k := 34) (by decide) (by decide)).symm
          have m3263 := (m3240).trans (MF.r mf3254 (k := 17) (by decide) (by decide)).symm
          have m3264 := (ex3222).trans (MF.i mf3254 (k := 19) (by decide) (by decide)).symm
          have m3265 := (ex3223).trans (MF.i mf3254 (k := 20) (by decide) (by decide)).symm
          have m3266 := (ex3224).trans (MF.i mf3254 (k := 21) (by decide) (by decide)).symm
          have m3267 := (ex3225).trans (MF.i mf3254 (k := 22) (by decide) (by decide)).symm
          have mf3268 : MF K s.heap H3246 a0 [19, 20, 21, 22, 35, 39, 40] := MF.trans mf3241 mf3254 (by decide)
          have bx3247 := ty_fi (x := x3247) (k := 35) ex3247 hTH3246 ga0 rg_112 rfl
          have cem3258 := i_cl (x := x3226) (by omega)
          have ce_mn := i_cl (x := mn) (by omega)
          have b3269 : ∀ j : Nat, j < 3000 + mn.toNatClampNeg → fI H3246 oq j = fI s.heap oq j ∧ fI H3246 aq j = fI s.heap aq j := fun j hj => ⟨(m3257 j (by omega)).trans (b3242 j hj).1, (m3258 j (by omega)).trans (b3242 j hj).2⟩
          have ce_mn := i_cl (x := mn) (by omega)
          have ce_x3003 := i_cl (x := x3003) (by omega)
          have b3270 : WF (fun k => fI H3246 oq k) (fun k => fI H3246 aq k) (3000 + mn.toNatClampNeg) (3000 + x3003.toNatClampNeg) 0 1 := WF.keep b3243 (fun j hj => m3257 j (by omega)) (fun j hj => m3258 j (by omega))
          have ce_x3003 := i_cl (x := x3003) (by omega)
          have b3271 : WF (fun k => fI H3246 oq k) (fun k => fI H3246 aq k) (3000 + x3003.toNatClampNeg) (3000 + x3226.toNatClampNeg) 0 1 := WF.keep wu0 (fun j hj => m3257 j (by omega)) (fun j hj => m3258 j (by omega))
          refine W.eq (g2 := F0 m 94 ls3197 []) rfl ?_
          have ho := congrArg Int32.toInt m3255
          have cb_mn := i_cl (x := mn) (by omega)
          have cb_x3003 := i_cl (x := x3003) (by omega)
          have cb_x3226 := i_cl (x := x3226) (by omega)
          have wn : WF (fun k => fI H3246 oq k) (fun k => fI H3246 aq k) (3000 + mn.toNatClampNeg) (3000 + x3226.toNatClampNeg + 1) 0 1 := WF.bin b3270 b3271 (by omega) (by omega) (by show 2 ≤ (fI _ oq _).toInt ∧ (fI _ oq _).toInt ≤ 11 ∧ (fI _ oq _).toInt ≠ 9; omega) (Or.inl (by show (fI _ oq _).toInt ≠ 5; omega))
          refine lv_iconst (v := 0) hx hb dX10_readCompared_94 (by decide) ?_
          have cr_mn := i_cl (x := mn) (by omega)
          have cr_x3226 := i_cl (x := x3226) (by omega)
          have cr_x3247 := i_cl (x := x3247) (by omega)
          exact x_iret C hQ dX10_readCompared_95 hSH3246 (by decide) (by decide) (⟨0, x3222, x3223, x3224, x3225, x3247, rfl, by decide, m3264, m3265, m3266, m3267, ex3247, by omega, m3248, m3249, g3250, g3251, g3252, g3253, mf3268, b3269, Or.inr (WF.cast wn (by omega) (by omega)), hTH3246⟩)
        · have k3245 := i_eq c3244
          refine lv_iconst (v := (-1)) hx hb dX10_readCompared_86 (by decide) ?_
          exact x_iret C hQ dX10_readCompared_87 hSH3220 (by decide) (by decide) (⟨(-1), x3222, x3223, x3224, x3225, x3226, rfl, by decide, ex3222, ex3223, ex3224, ex3225, ex3226, by omega, m3227, m3228, g3229, g3230, g3231, g3232, mf3241, b3242, Or.inl (by omega), hTH3220⟩)
    · have k3040 := i_eq c3039
      refine lv_aload_n hx hb dX10_readCompared_19 rfl (lv_at hl 0 rfl) ?_
      refine lv_bipush (v := 61) hx hb dX10_readCompared_20 (by decide) ?_
      refine x_V (As := [.int 61]) (rest := []) C (a_X10_isSign l K G H3021 (61) (x3001) (x3002) hTH3021 ga0 m3036 m3037) yo_X10_isSign wM_X10_249 ⟨⟨by decide, by decide⟩, by decide, by decide⟩ (x_rv C hTH3021 (ci := 10) rfl ga0 rg_112) rfl hl.1 rfl (Nat.le_of_ble_eq_true rfl) dX10_readCompared_22 hSH3021 (AE_sub (fun _ _ => rfl) (by decide) hSH3021.1) (fun vH3272 H3272 locsH3272 pH3272 zH3272 kH3272 hSH3272 => ?_)
      obtain ⟨x3273, hvH3272, bx3273, hrH3272, hTH3272⟩ := pH3272
      subst hvH3272
      have mf3274 : MF K s.heap H3272 a0 [19, 20, 21, 22, 35, 39, 40] := MF.eff (x_lt hTH3021 kH3272 ga0 (by decide)) mf3023
      have b3275 : ∀ j : Nat, j < 3000 + mn.toNatClampNeg → fI H3272 oq j = fI s.heap oq j ∧ fI H3272 aq j = fI s.heap aq j := fun j hj => ⟨(fI_kept (x_lt hTH3021 kH3272 goq (by decide))).trans (b3024 j hj).1, (fI_kept (x_lt hTH3021 kH3272 gaq (by decide))).trans (b3024 j hj).2⟩
      have b3276 : WF (fun k => fI H3272 oq k) (fun k => fI H3272 aq k) (3000 + mn.toNatClampNeg) (3000 + x3003.toNatClampNeg) 0 1 := WF.congr (fun j => fI_kept (x_lt hTH3021 kH3272 goq (by decide))) (fun j => fI_kept (x_lt hTH3021 kH3272 gaq (by decide))) b3025
      have g3277 : CG (avw K H3272 a0) := CG.congr (fun k hk j => av_eff hTH3021 kH3272 ga0 (by decide) (CG_eff [] (by decide) k hk)) g3026
      have g3278 : TU (avw K H3272 a0) (svw K H3272 a0) := TU.congr (fun k hk j => av_eff hTH3021 kH3272 ga0 (by decide) (TU_eff [] (by decide) k hk)) (fun k hk => sv_eff hTH3021 kH3272 ga0 (by decide)) g3027
      have g3279 : WD (avw K H3272 a0) := WD.congr (fun k hk j => av_eff hTH3021 kH3272 ga0 (by decide) (WD_eff [] (by decide) k hk)) g3028
      have g3280 : IM (avw K H3272 a0) := IM.congr (fun k hk j => av_eff hTH3021 kH3272 ga0 (by decide) (IM_eff [] (by decide) k hk)) g3029
      have m3281 := (m3030).trans (fR_kept (x_lt hTH3021 kH3272 ga0 (by decide))).symm
      have m3282 := (m3031).trans (fR_kept (x_lt hTH3021 kH3272 ga0 (by decide))).symm
      have m3283 := (m3032).trans (fI_kept (x_lt hTH3021 kH3272 ga0 (by decide))).symm
      have m3284 := (m3033).trans (fI_kept (x_lt hTH3021 kH3272 ga0 (by decide))).symm
      have m3285 := (m3034).trans (fI_kept (x_lt hTH3021 kH3272 ga0 (by decide))).symm
      have m3286 := (m3035).trans (fI_kept (x_lt hTH3021 kH3272 ga0 (by decide))).symm
      have m3287 := (m3036).trans (fI_kept (x_lt hTH3021 kH3272 ga0 (by decide))).symm
      have m3288 := (m3037).trans (fI_kept (x_lt hTH3021 kH3272 ga0 (by decide))).symm
      have m3289 := (m3038).trans (fI_kept (x_lt hTH3021 kH3272 ga0 (by decide))).symm
      refine W.eq (g2 := F0 m 25 ls [.int x3273]) rfl ?_
      refine lv_if_ne (tgt := 43) hx hb dX10_readCompared_25 (by decide) (fun c3290 => ?_) (fun c3290 => ?_)
      · have k3291 := i_ne c3290
        refine lv_aload_n hx hb dX10_readCompared_43 rfl (lv_at hl 0 rfl) ?_
        refine x_gi C hTH3272 (ci := 10) (k := 22) rfl inX10 (by decide) wF_X10_205 ga0 rg_112 rfl dX10_readCompared_44 (fun x3292 ex3292 bx3292 => ?_)
        have ux3292 : x3002 = x3292 := (m3288).trans ex3292.symm
        subst ux3292
        refine lv_bipush (v := 60) hx hb dX10_readCompared_47 (by decide) ?_
        refine lv_icmp_ne (tgt := 57) hx hb dX10_readCompared_49 (by decide) (fun c3293 => ?_) (fun c3293 => ?_)
        · have k3294 := i_ne c3293
          refine lv_aload_n hx hb dX10_readCompared_57 rfl (lv_at hl 0 rfl) ?_
          refine x_gi C hTH3272 (ci := 10) (k := 22) rfl inX10 (by decide) wF_X10_205 ga0 rg_112 rfl dX10_readCompared_58 (fun x3295 ex3295 bx3295 => ?_)
          have ux3295 : x3002 = x3295 := (m3288).trans ex3295.symm
          subst ux3295
          refine lv_bipush (v := 61) hx hb dX10_readCompared_61 (by decide) ?_
          refine lv_icmp_ne (tgt := 71) hx hb dX10_readCompared_63 (by decide) (fun c3296 => ?_) (fun c3296 => ?_)
          · have k3297 := i_ne c3296
            refine lv_bipush (v := 8) hx hb dX10_readCompared_71 (by decide) ?_
            refine lv_istore_n (lv' := [(1, .int 8), (0, .ref a0)]) hx hb dX10_readCompared_73 rfl hl (by decide) rfl (fun ls3298 hl3299 => ?_)
            refine lv_aload_n hx hb dX10_readCompared_74 rfl (lv_at hl3299 1 rfl) ?_
            obtain ⟨q3300, eq3300⟩ : ∃ z : Nat, z = fR H3272 a0 (K.1.2 10 17) := ⟨_, rfl⟩
            have gq3300 := ty_fr (q := q3300) (k := 17) (u := 126) eq3300 hTH3272 ga0 rg_112 rfl
            refine x_V (As := []) (rest := []) C (a_X10_reads l K G H3272 (x2999) (x3000) (x3001) (x3002) (tp) hTH3272 ga0 gq3300 eq3300 m3285 m3286 m3287 m3288 m3283 g3277 g3278 g3279 g3280 (by omega)) yo_X10_reads wM_X10_242 ⟨⟨by decide, by decide⟩, by decide, by decide⟩ (x_rv C hTH3272 (ci := 10) rfl ga0 rg_112) rfl hl3299.1 rfl (Nat.le_of_ble_eq_true rfl) dX10_readCompared_75 hSH3272 (AE_sub (fun _ _ => rfl) (by decide) hSH3272.1) (fun vH3301 H3301 locsH3301 pH3301 zH3301 kH3301 hSH3301 => ?_)
            obtain ⟨x3302, x3303, x3304, x3305, hvH3301, ex3302, ex3303, ex3304, ex3305, hrH3301, m3306, g3307, g3308, g3309, g3310, mf3311, hTH3301⟩ := pH3301
            subst hvH3301
            have b3312 : ∀ j : Nat, j < 3000 + mn.toNatClampNeg → fI H3301 oq j = fI s.heap oq j ∧ fI H3301 aq j = fI s.heap aq j := fun j hj => ⟨(fI_kept (x_lt hTH3272 kH3301 goq (by decide))).trans (b3275 j hj).1, (fI_kept (x_lt hTH3272 kH3301 gaq (by decide))).trans (b3275 j hj).2⟩
            have b3313 : WF (fun k => fI H3301 oq k) (fun k => fI H3301 aq k) (3000 + mn.toNatClampNeg) (3000 + x3003.toNatClampNeg) 0 1 := WF.congr (fun j => fI_kept (x_lt hTH3272 kH3301 goq (by decide))) (fun j => fI_kept (x_lt hTH3272 kH3301 gaq (by decide))) b3276
            have m3314 := (m3281).trans (MF.r mf3311 (k := 32) (by decide) (by decide)).symm
            have m3315 := (m3282).trans (MF.r mf3311 (k := 33) (by decide) (by decide)).symm
            have m3316 := (m3283).trans (MF.i mf3311 (k := 18) (by decide) (by decide)).symm
            have m3317 := (m3284).trans (MF.i mf3311 (k := 34) (by decide) (by decide)).symm
            have m3318 := (m3289).trans (MF.i mf3311 (k := 35) (by decide) (by decide)).symm
            have m3319 := (eq3300).trans (MF.r mf3311 (k := 17) (by decide) (by decide)).symm
            have mf3320 : MF K s.heap H3301 a0 [19, 20, 21, 22, 35, 39, 40] := MF.trans mf3274 mf3311 (by decide)
            have bx3302 := ty_fi (x := x3302) (k := 19) ex3302 hTH3301 ga0 rg_112 rfl
            have bx3303 := ty_fi (x := x3303) (k := 20) ex3303 hTH3301 ga0 rg_112 rfl
            have bx3304 := ty_fi (x := x3304) (k := 21) ex3304 hTH3301 ga0 rg_112 rfl
            have bx3305 := ty_fi (x := x3305) (k := 22) ex3305 hTH3301 ga0 rg_112 rfl
            refine W.eq (g2 := F0 m 78 ls3298 []) rfl ?_
            refine lv_aload_n hx hb dX10_readCompared_78 rfl (lv_at hl3299 1 rfl) ?_
            refine x_V (As := []) (rest := []) C (a_X10_readSum l K G H3301 (x3302) (x3303) (x3304) (x3305) (x3003) (tp) (jb) hTH3301 ga0 goq m3314 gaq m3315 ex3302 ex3303 ex3304 ex3305 m3318 m3316 m3317 g3307 g3308 g3309 g3310 (by omega) (by omega)) yo_X10_readSum wM_X10_255 ⟨⟨by decide, by decide⟩, by decide, by decide⟩ (x_rv C hTH3301 (ci := 10) rfl ga0 rg_112) rfl hl3299.1 rfl (Nat.le_of_ble_eq_true rfl) dX10_readCompared_79 hSH3301 (AE_sub (fun _ _ => rfl) (by decide) hSH3301.1) (fun vH3321 H3321 locsH3321 pH3321 zH3321 kH3321 hSH3321 => ?_)
            obtain ⟨x3322, x3323, x3324, x3325, x3326, x3327, hvH3321, bx3322, ex3323, ex3324, ex3325, ex3326, ex3327, hrH3321, m3328, m3329, g3330, g3331, g3332, g3333, mf3334, m3335, m3336, hTH3321⟩ := pH3321
            subst hvH3321
            have m3337 := (m3314).trans (MF.r mf3334 (k := 32) (by decide) (by decide)).symm
            have m3338 := (m3315).trans (MF.r mf3334 (k := 33) (by decide) (by decide)).symm
            have m3339 := (m3316).trans (MF.i mf3334 (k := 18) (by decide) (by decide)).symm
            have m3340 := (m3317).trans (MF.i mf3334 (k := 34) (by decide) (by decide)).symm
            have m3341 := (m3306).trans (MF.r mf3334 (k := 17) (by decide) (by decide)).symm
            have mf3342 : MF K s.heap H3321 a0 [19, 20, 21, 22, 35, 39, 40] := MF.trans mf3320 mf3334 (by decide)
            have bx3323 := ty_fi (x := x3323) (k := 19) ex3323 hTH3321 ga0 rg_112 rfl
            have bx3324 := ty_fi (x := x3324) (k := 20) ex3324 hTH3321 ga0 rg_112 rfl
            have bx3325 := ty_fi (x := x3325) (k := 21) ex3325 hTH3321 ga0 rg_112 rfl
            have bx3326 := ty_fi (x := x3326) (k := 22) ex3326 hTH3321 ga0 rg_112 rfl
            have bx3327 := ty_fi (x := x3327) (k := 35) ex3327 hTH3321 ga0 rg_112 rfl
            have csm3335 := i_cl (x := x3003) (by omega)
            have cs_mn := i_cl (x := mn) (by omega)
            have b3343 : ∀ j : Nat, j < 3000 + mn.toNatClampNeg → fI H3321 oq j = fI s.heap oq j ∧ fI H3321 aq j = fI s.heap aq j := fun j hj => ⟨(m3335 j (by omega)).1.trans (b3312 j hj).1, (m3335 j (by omega)).2.trans (b3312 j hj).2⟩
            have cs_mn := i_cl (x := mn) (by omega)
            have b3344 : WF (fun k => fI H3321 oq k) (fun k => fI H3321 aq k) (3000 + mn.toNatClampNeg) (3000 + x3003.toNatClampNeg) 0 1 := WF.keep b3313 (fun j hj => (m3335 j (by omega)).1) (fun j hj => (m3335 j (by omega)).2)
            refine W.eq (g2 := F0 m 82 ls3298 [.int x3322]) rfl ?_
            refine lv_iconst (v := (-1)) hx hb dX10_readCompared_82 (by decide) ?_
            refine lv_icmp_ne (tgt := 88) hx hb dX10_readCompared_83 (by decide) (fun c3345 => ?_) (fun c3345 => ?_)
            · have k3346 := i_ne c3345
              have wu0 : WF (fun k => fI H3321 oq k) (fun k => fI H3321 aq k) (3000 + x3003.toNatClampNeg) (3000 + x3327.toNatClampNeg) 0 1 := by
                rcases m3336 with h | h
                · exfalso; omega
                · exact h
              refine lv_aload_n hx hb dX10_readCompared_88 rfl (lv_at hl3299 1 rfl) ?_
              refine lv_iload_n hx hb dX10_readCompared_89 rfl (lv_at hl3299 0 rfl) ?_
              refine lv_iconst (v := 0) hx hb dX10_readCompared_90 (by decide) ?_
              refine x_V (As := [.int 8, .int 0]) (rest := []) C (a_X10_emits l K G H3321 (8) (0) (x3327) hTH3321 ga0 goq m3328 gaq m3329 ex3327 g3330 g3331 g3332 g3333 (by omega)) yo_X10_emits wM_X10_238 ⟨⟨by decide, by decide⟩, by decide, by decide⟩ (x_rv C hTH3321 (ci := 10) rfl ga0 rg_112) rfl hl3299.1 rfl (Nat.le_of_ble_eq_true rfl) dX10_readCompared_91 hSH3321 (AE_sub (fun _ _ => rfl) (by decide) hSH3321.1) (fun vH3347 H3347 locsH3347 pH3347 zH3347 kH3347 hSH3347 => ?_)
              obtain ⟨x3348, hvH3347, ex3348, hrH3347, m3349, m3350, g3351, g3352, g3353, g3354, mf3355, m3356, m3357, m3358, m3359, hTH3347⟩ := pH3347
              subst hvH3347
              have m3360 := (m3328).trans (MF.r mf3355 (k := 32) (by decide) (by decide)).symm
              have m3361 := (m3329).trans (MF.r mf3355 (k := 33) (by decide) (by decide)).symm
              have m3362 := (m3339).trans (MF.i mf3355 (k := 18) (by decide) (by decide)).symm
              have m3363 := (m3340).trans (MF.i mf3355 (k := 34) (by decide) (by decide)).symm
              have m3364 := (m3341).trans (MF.r mf3355 (k := 17) (by decide) (by decide)).symm
              have m3365 := (ex3323).trans (MF.i mf3355 (k := 19) (by decide) (by decide)).symm
              have m3366 := (ex3324).trans (MF.i mf3355 (k := 20) (by decide) (by decide)).symm
              have m3367 := (ex3325).trans (MF.i mf3355 (k := 21) (by decide) (by decide)).symm
              have m3368 := (ex3326).trans (MF.i mf3355 (k := 22) (by decide) (by decide)).symm
              have mf3369 : MF K s.heap H3347 a0 [19, 20, 21, 22, 35, 39, 40] := MF.trans mf3342 mf3355 (by decide)
              have bx3348 := ty_fi (x := x3348) (k := 35) ex3348 hTH3347 ga0 rg_112 rfl
              have cem3359 := i_cl (x := x3327) (by omega)
              have ce_mn := i_cl (x := mn) (by omega)
              have b3370 : ∀ j : Nat, j < 3000 + mn.toNatClampNeg → fI H3347 oq j = fI s.heap oq j ∧ fI H3347 aq j = fI s.heap aq j := fun j hj => ⟨(m3358 j (by omega)).trans (b3343 j hj).1, (m3359 j (by omega)).trans (b3343 j hj).2⟩
              have ce_mn := i_cl (x := mn) (by omega)
              have ce_x3003 := i_cl (x := x3003) (by omega)
              have b3371 : WF (fun k => fI H3347 oq k) (fun k => fI H3347 aq k) (3000 + mn.toNatClampNeg) (3000 + x3003.toNatClampNeg) 0 1 := WF.keep b3344 (fun j hj => m3358 j (by omega)) (fun j hj => m3359 j (by omega))
              have ce_x3003 := i_cl (x := x3003) (by omega)
              have b3372 : WF (fun k => fI H3347 oq k) (fun k => fI H3347 aq k) (3000 + x3003.toNatClampNeg) (3000 + x3327.toNatClampNeg) 0 1 := WF.keep wu0 (fun j hj => m3358 j (by omega)) (fun j hj => m3359 j (by omega))
              refine W.eq (g2 := F0 m 94 ls3298 []) rfl ?_
              have ho := congrArg Int32.toInt m3356
              have cb_mn := i_cl (x := mn) (by omega)
              have cb_x3003 := i_cl (x := x3003) (by omega)
              have cb_x3327 := i_cl (x := x3327) (by omega)
              have wn : WF (fun k => fI H3347 oq k) (fun k => fI H3347 aq k) (3000 + mn.toNatClampNeg) (3000 + x3327.toNatClampNeg + 1) 0 1 := WF.bin b3371 b3372 (by omega) (by omega) (by show 2 ≤ (fI _ oq _).toInt ∧ (fI _ oq _).toInt ≤ 11 ∧ (fI _ oq _).toInt ≠ 9; omega) (Or.inl (by show (fI _ oq _).toInt ≠ 5; omega))
              refine lv_iconst (v := 0) hx hb dX10_readCompared_94 (by decide) ?_
              have cr_mn := i_cl (x := mn) (by omega)
              have cr_x3327 := i_cl (x := x3327) (by omega)
              have cr_x3348 := i_cl (x := x3348) (by omega)
              exact x_iret C hQ dX10_readCompared_95 hSH3347 (by decide) (by decide) (⟨0, x3323, x3324, x3325, x3326, x3348, rfl, by decide, m3365, m3366, m3367, m3368, ex3348, by omega, m3349, m3350, g3351, g3352, g3353, g3354, mf3369, b3370, Or.inr (WF.cast wn (by omega) (by omega)), hTH3347⟩)
            · have k3346 := i_eq c3345
              refine lv_iconst (v := (-1)) hx hb dX10_readCompared_86 (by decide) ?_
              exact x_iret C hQ dX10_readCompared_87 hSH3321 (by decide) (by decide) (⟨(-1), x3323, x3324, x3325, x3326, x3327, rfl, by decide, ex3323, ex3324, ex3325, ex3326, ex3327, by omega, m3328, m3329, g3330, g3331, g3332, g3333, mf3342, b3343, Or.inl (by omega), hTH3321⟩)
          · have k3297 := i_eq c3296
            refine lv_bipush (v := 7) hx hb dX10_readCompared_66 (by decide) ?_
            refine lv_goto (tgt := 73) hx hb dX10_readCompared_68 (by decide) ?_
            refine lv_istore_n (lv' := [(1, .int 7), (0, .ref a0)]) hx hb dX10_readCompared_73 rfl hl (by decide) rfl (fun ls3373 hl3374 => ?_)
            refine lv_aload_n hx hb dX10_readCompared_74 rfl (lv_at hl3374 1 rfl) ?_
            obtain ⟨q3375, eq3375⟩ : ∃ z : Nat, z = fR H3272 a0 (K.1.2 10 17) := ⟨_, rfl⟩
            have gq3375 := ty_fr (q := q3375) (k := 17) (u := 126) eq3375 hTH3272 ga0 rg_112 rfl
            refine x_V (As := []) (rest := []) C (a_X10_reads l K G H3272 (x2999) (x3000) (x3001) (x3002) (tp) hTH3272 ga0 gq3375 eq3375 m3285 m3286 m3287 m3288 m3283 g3277 g3278 g3279 g3280 (by omega)) yo_X10_reads wM_X10_242 ⟨⟨by decide, by decide⟩, by decide, by decide⟩ (x_rv C hTH3272 (ci := 10) rfl ga0 rg_112) rfl hl3374.1 rfl (Nat.le_of_ble_eq_true rfl) dX10_readCompared_75 hSH3272 (AE_sub (fun _ _ => rfl) (by decide) hSH3272.1) (fun vH3376 H3376 locsH3376 pH3376 zH3376 kH3376 hSH3376 => ?_)
            obtain ⟨x3377, x3378, x3379, x3380, hvH3376, ex3377, ex3378, ex3379, ex3380, hrH3376, m3381, g3382, g3383, g3384, g3385, mf3386, hTH3376⟩ := pH3376
            subst hvH3376
            have b3387 : ∀ j : Nat, j < 3000 + mn.toNatClampNeg → fI H3376 oq j = fI s.heap oq j ∧ fI H3376 aq j = fI s.heap aq j := fun j hj => ⟨(fI_kept (x_lt hTH3272 kH3376 goq (by decide))).trans (b3275 j hj).1, (fI_kept (x_lt hTH3272 kH3376 gaq (by decide))).trans (b3275 j hj).2⟩
            have b3388 : WF (fun k => fI H3376 oq k) (fun k => fI H3376 aq k) (3000 + mn.toNatClampNeg) (3000 + x3003.toNatClampNeg) 0 1 := WF.congr (fun j => fI_kept (x_lt hTH3272 kH3376 goq (by decide))) (fun j => fI_kept (x_lt hTH3272 kH3376 gaq (by decide))) b3276
            have m3389 := (m3281).trans (MF.r mf3386 (k := 32) (by decide) (by decide)).symm
            have m3390 := (m3282).trans (MF.r mf3386 (k := 33) (by decide) (by decide)).symm
            have m3391 := (m3283).trans (MF.i mf3386 (k := 18) (by decide) (by decide)).symm
            have m3392 := (m3284).trans (MF.i mf3386 (k := 34) (by decide) (by decide)).symm
            have m3393 := (m3289).trans (MF.i mf3386 (k := 35) (by decide) (by decide)).symm
            have m3394 := (eq3375).trans (MF.r mf3386 (k := 17) (by decide) (by decide)).symm
            have mf3395 : MF K s.heap H3376 a0 [19, 20, 21, 22, 35, 39, 40] := MF.trans mf3274 mf3386 (by decide)
            have bx3377 := ty_fi (x := x3377) (k := 19) ex3377 hTH3376 ga0 rg_112 rfl
            have bx3378 := ty_fi (x := x3378) (k := 20) ex3378 hTH3376 ga0 rg_112 rfl
            have bx3379 := ty_fi (x := x3379) (k := 21) ex3379 hTH3376 ga0 rg_112 rfl
            have bx3380 := ty_fi (x := x3380) (k := 22) ex3380 hTH3376 ga0 rg_112 rfl
            refine W.eq (g2 := F0 m 78 ls3373 []) rfl ?_
            refine lv_aload_n hx hb dX10_readCompared_78 rfl (lv_at hl3374 1 rfl) ?_
            refine x_V (As := []) (rest := []) C (a_X10_readSum l K G H3376 (x3377) (x3378) (x3379) (x3380) (x3003) (tp) (jb) hTH3376 ga0 goq m3389 gaq m3390 ex3377 ex3378 ex3379 ex3380 m3393 m3391 m3392 g3382 g3383 g3384 g3385 (by omega) (by omega)) yo_X10_readSum wM_X10_255 ⟨⟨by decide, by decide⟩, by decide, by decide⟩ (x_rv C hTH3376 (ci := 10) rfl ga0 rg_112) rfl hl3374.1 rfl (Nat.le_of_ble_eq_true rfl) dX10_readCompared_79 hSH3376 (AE_sub (fun _ _ => rfl) (by decide) hSH3376.1) (fun vH3396 H3396 locsH3396 pH3396 zH3396 kH3396 hSH3396 => ?_)
            obtain ⟨x3397, x3398, x3399, x3400, x3401, x3402, hvH3396, bx3397, ex3398, ex3399, ex3400, ex3401, ex3402, hrH3396, m3403, m3404, g3405, g3406, g3407, g3408, mf3409, m3410, m3411, hTH3396⟩ := pH3396
            subst hvH3396
            have m3412 := (m3389).trans (MF.r mf3409 (k := 32) (by decide) (by decide)).symm
            have m3413 := (m3390).trans (MF.r mf3409 (k := 33) (by decide) (by decide)).symm
            have m3414 := (m3391).trans (MF.i mf3409 (k := 18) (by decide) (by decide)).symm
            have m3415 := (m3392).trans (MF.i mf3409 (k := 34) (by decide) (by decide)).symm
            have m3416 := (m3381).trans (MF.r mf3409 (k := 17) (by decide) (by decide)).symm
            have mf3417 : MF K s.heap H3396 a0 [19, 20, 21, 22, 35, 39, 40] := MF.trans mf3395 mf3409 (by decide)
            have bx3398 := ty_fi (x := x3398) (k := 19) ex3398 hTH3396 ga0 rg_112 rfl
            have bx3399 := ty_fi (x := x3399) (k := 20) ex3399 hTH3396 ga0 rg_112 rfl
            have bx3400 := ty_fi (x := x3400) (k := 21) ex3400 hTH3396 ga0 rg_112 rfl
            have bx3401 := ty_fi (x := x3401) (k := 22) ex3401 hTH3396 ga0 rg_112 rfl
            have bx3402 := ty_fi (x := x3402) (k := 35) ex3402 hTH3396 ga0 rg_112 rfl
            have csm3410 := i_cl (x := x3003) (by omega)
            have cs_mn := i_cl (x := mn) (by omega)
            have b3418 : ∀ j : Nat, j < 3000 + mn.toNatClampNeg → fI H3396 oq j = fI s.heap oq j ∧ fI H3396 aq j = fI s.heap aq j := fun j hj => ⟨(m3410 j (by omega)).1.trans (b3387 j hj).1, (m3410 j (by omega)).2.trans (b3387 j hj).2⟩
            have cs_mn := i_cl (x := mn) (by omega)
            have b3419 : WF (fun k => fI H3396 oq k) (fun k => fI H3396 aq k) (3000 + mn.toNatClampNeg) (3000 + x3003.toNatClampNeg) 0 1 := WF.keep b3388 (fun j hj => (m3410 j (by omega)).1) (fun j hj => (m3410 j (by omega)).2)
            refine W.eq (g2 := F0 m 82 ls3373 [.int x3397]) rfl ?_
            refine lv_iconst (v := (-1)) hx hb dX10_readCompared_82 (by decide) ?_
            refine lv_icmp_ne (tgt := 88) hx hb dX10_readCompared_83 (by decide) (fun c3420 => ?_) (fun c3420 => ?_)
            · have k3421 := i_ne c3420
              have wu0 : WF (fun k => fI H3396 oq k) (fun k => fI H3396 aq k) (3000 + x3003.toNatClampNeg) (3000 + x3402.toNatClampNeg) 0 1 := by
                rcases m3411 with h | h
                · exfalso; omega
                · exact h
              refine lv_aload_n hx hb dX10_readCompared_88 rfl (lv_at hl3374 1 rfl) ?_
              refine lv_iload_n hx hb dX10_readCompared_89 rfl (lv_at hl3374 0 rfl) ?_
              refine lv_iconst (v := 0) hx hb dX10_readCompared_90 (by decide) ?_
              refine x_V (As := [.int 7, .int 0]) (rest := []) C (a_X10_emits l K G H3396 (7) (0) (x3402) hTH3396 ga0 goq m3403 gaq m3404 ex3402 g3405 g3406 g3407 g3408 (by omega)) yo_X10_emits wM_X10_238 ⟨⟨by decide, by decide⟩, by decide, by decide⟩ (x_rv C hTH3396 (ci := 10) rfl ga0 rg_112) rfl hl3374.1 rfl (Nat.le_of_ble_eq_true rfl) dX10_readCompared_91 hSH3396 (AE_sub (fun _ _ => rfl) (by decide) hSH3396.1) (fun vH3422 H3422 locsH3422 pH3422 zH3422 kH3422 hSH3422 => ?_)
              obtain ⟨x3423, hvH3422, ex3423, hrH3422, m3424, m3425, g3426, g3427, g3428, g3429, mf3430, m3431, m3432, m3433, m3434, hTH3422⟩ := pH3422
              subst hvH3422
              have m3435 := (m3403).trans (MF.r mf3430 (k := 32) (by decide) (by decide)).symm
              have m3436 := (m3404).trans (MF.r mf3430 (k := 33) (by decide) (by decide)).symm
              have m3437 := (m3414).trans (MF.i mf3430 (k := 18) (by decide) (by decide)).symm
              have m3438 := (m3415).trans (MF.i mf3430 (k := 34) (by decide) (by decide)).symm
              have m3439 := (m3416).trans (MF.r mf3430 (k := 17) (by decide) (by decide)).symm
              have m3440 := (ex3398).trans (MF.i mf3430 (k := 19) (by decide) (by decide)).symm
              have m3441 := (ex3399).trans (MF.i mf3430 (k := 20) (by decide) (by decide)).symm
              have m3442 := (ex3400).trans (MF.i mf3430 (k := 21) (by decide) (by decide)).symm
              have m3443 := (ex3401).trans (MF.i mf3430 (k := 22) (by decide) (by decide)).symm
              have mf3444 : MF K s.heap H3422 a0 [19, 20, 21, 22, 35, 39, 40] := MF.trans mf3417 mf3430 (by decide)
              have bx3423 := ty_fi (x := x3423) (k := 35) ex3423 hTH3422 ga0 rg_112 rfl
              have cem3434 := i_cl (x := x3402) (by omega)
              have ce_mn := i_cl (x := mn) (by omega)
              have b3445 : ∀ j : Nat, j < 3000 + mn.toNatClampNeg → fI H3422 oq j = fI s.heap oq j ∧ fI H3422 aq j = fI s.heap aq j := fun j hj => ⟨(m3433 j (by omega)).trans (b3418 j hj).1, (m3434 j (by omega)).trans (b3418 j hj).2⟩
              have ce_mn := i_cl (x := mn) (by omega)
              have ce_x3003 := i_cl (x := x3003) (by omega)
              have b3446 : WF (fun k => fI H3422 oq k) (fun k => fI H3422 aq k) (3000 + mn.toNatClampNeg) (3000 + x3003.toNatClampNeg) 0 1 := WF.keep b3419 (fun j hj => m3433 j (by omega)) (fun j hj => m3434 j (by omega))
              have ce_x3003 := i_cl (x := x3003) (by omega)
              have b3447 : WF (fun k => fI H3422 oq k) (fun k => fI H3422 aq k) (3000 + x3003.toNatClampNeg) (3000 + x3402.toNatClampNeg) 0 1 := WF.keep wu0 (fun j hj => m3433 j (by omega)) (fun j hj => m3434 j (by omega))
              refine W.eq (g2 := F0 m 94 ls3373 []) rfl ?_
              have ho := congrArg Int32.toInt m3431
              have cb_mn := i_cl (x := mn) (by omega)
              have cb_x3003 := i_cl (x := x3003) (by omega)
              have cb_x3402 := i_cl (x := x3402) (by omega)
              have wn : WF (fun k => fI H3422 oq k) (fun k => fI H3422 aq k) (3000 + mn.toNatClampNeg) (3000 + x3402.toNatClampNeg + 1) 0 1 := WF.bin b3446 b3447 (by omega) (by omega) (by show 2 ≤ (fI _ oq _).toInt ∧ (fI _ oq _).toInt ≤ 11 ∧ (fI _ oq _).toInt ≠ 9; omega) (Or.inl (by show (fI _ oq _).toInt ≠ 5; omega))
              refine lv_iconst (v := 0) hx hb dX10_readCompared_94 (by decide) ?_
              have cr_mn := i_cl (x := mn) (by omega)
              have cr_x3402 := i_cl (x := x3402) (by omega)
              have cr_x3423 := i_cl (x := x3423) (by omega)
              exact x_iret C hQ dX10_readCompared_95 hSH3422 (by decide) (by decide) (⟨0, x3398, x3399, x3400, x3401, x3423, rfl, by decide, m3440, m3441, m3442, m3443, ex3423, by omega, m3424, m3425, g3426, g3427, g3428, g3429, mf3444, b3445, Or.inr (WF.cast wn (by omega) (by omega)), hTH3422⟩)
            · have k3421 := i_eq c3420
              refine lv_iconst (v := (-1)) hx hb dX10_readCompared_86 (by decide) ?_
              exact x_iret C hQ dX10_readCompared_87 hSH3396 (by decide) (by decide) (⟨(-1), x3398, x3399, x3400, x3401, x3402, rfl, by decide, ex3398, ex3399, ex3400, ex3401, ex3402, by omega, m3403, m3404, g3405, g3406, g3407, g3408, mf3417, b3418, Or.inl (by omega), hTH3396⟩)
        · have k3294 := i_eq c3293
          refine lv_bipush (v := 6) hx hb dX10_readCompared_52 (by decide) ?_
          refine lv_goto (tgt := 73) hx hb dX10_readCompared_54 (by decide) ?_
          refine lv_istore_n (lv' := [(1, .int 6), (0, .ref a0)]) hx hb dX10_readCompared_73 rfl hl (by decide) rfl (fun ls3448 hl3449 => ?_)
          refine lv_aload_n hx hb dX10_readCompared_74 rfl (lv_at hl3449 1 rfl) ?_
          obtain ⟨q3450, eq3450⟩ : ∃ z : Nat, z = fR H3272 a0 (K.1.2 10 17) := ⟨_, rfl⟩
          have gq3450 := ty_fr (q := q3450) (k := 17) (u := 126) eq3450 hTH3272 ga0 rg_112 rfl
          refine x_V (As := []) (rest := []) C (a_X10_reads l K G H3272 (x2999) (x3000) (x3001) (x3002) (tp) hTH3272 ga0 gq3450 eq3450 m3285 m3286 m3287 m3288 m3283 g3277 g3278 g3279 g3280 (by omega)) yo_X10_reads wM_X10_242 ⟨⟨by decide, by decide⟩, by decide, by decide⟩ (x_rv C hTH3272 (ci := 10) rfl ga0 rg_112) rfl hl3449.1 rfl (Nat.le_of_ble_eq_true rfl) dX10_readCompared_75 hSH3272 (AE_sub (fun _ _ => rfl) (by decide) hSH3272.1) (fun vH3451 H3451 locsH3451 pH3451 zH3451 kH3451 hSH3451 => ?_)
          obtain ⟨x3452, x3453, x3454, x3455, hvH3451, ex3452, ex3453, ex3454, ex3455, hrH3451, m3456, g3457, g3458, g3459, g3460, mf3461, hTH3451⟩ := pH3451
          subst hvH3451
          have b3462 : ∀ j : Nat, j < 3000 + mn.toNatClampNeg → fI H3451 oq j = fI s.heap oq j ∧ fI H3451 aq j = fI s.heap aq j := fun j hj => ⟨(fI_kept (x_lt hTH3272 kH3451 goq (by decide))).trans (b3275 j hj).1, (fI_kept (x_lt hTH3272 kH3451 gaq (by decide))).trans (b3275 j hj).2⟩
          have b3463 : WF (fun k => fI H3451 oq k) (fun k => fI H3451 aq k) (3000 + mn.toNatClampNeg) (3000 + x3003.toNatClampNeg) 0 1 := WF.congr (fun j => fI_kept (x_lt hTH3272 kH3451 goq (by decide))) (fun j => fI_kept (x_lt hTH3272 kH3451 gaq (by decide))) b3276
          have m3464 := (m3281).trans (MF.r mf3461 (k := 32) (by decide) (by decide)).symm
          have m3465 := (m3282).trans (MF.r mf3461 (k := 33) (by decide) (by decide)).symm
          have m3466 := (m3283).trans (MF.i mf3461 (k := 18) (by decide) (by decide)).symm
          have m3467 := (m3284).trans (MF.i mf3461 (k := 34) (by decide) (by decide)).symm
          have m3468 := (m3289).trans (MF.i mf3461 (k := 35) (by decide) (by decide)).symm
          have m3469 := (eq3450).trans (MF.r mf3461 (k := 17) (by decide) (by decide)).symm
          have mf3470 : MF K s.heap H3451 a0 [19, 20, 21, 22, 35, 39, 40] := MF.trans mf3274 mf3461 (by decide)
          have bx3452 := ty_fi (x := x3452) (k := 19) ex3452 hTH3451 ga0 rg_112 rfl
          have bx3453 := ty_fi (x := x3453) (k := 20) ex3453 hTH3451 ga0 rg_112 rfl
          have bx3454 := ty_fi (x := x3454) (k := 21) ex3454 hTH3451 ga0 rg_112 rfl
          have bx3455 := ty_fi (x := x3455) (k := 22) ex3455 hTH3451 ga0 rg_112 rfl
          refine W.eq (g2 := F0 m 78 ls3448 []) rfl ?_
          refine lv_aload_n hx hb dX10_readCompared_78 rfl (lv_at hl3449 1 rfl) ?_
          refine x_V (As := []) (rest := []) C (a_X10_readSum l K G H3451 (x3452) (x3453) (x3454) (x3455) (x3003) (tp) (jb) hTH3451 ga0 goq m3464 gaq m3465 ex3452 ex3453 ex3454 ex3455 m3468 m3466 m3467 g3457 g3458 g3459 g3460 (by omega) (by omega)) yo_X10_readSum wM_X10_255 ⟨⟨by decide, by decide⟩, by decide, by decide⟩ (x_rv C hTH3451 (ci := 10) rfl ga0 rg_112) rfl hl3449.1 rfl (Nat.le_of_ble_eq_true rfl) dX10_readCompared_79 hSH3451 (AE_sub (fun _ _ => rfl) (by decide) hSH3451.1) (fun vH3471 H3471 locsH3471 pH3471 zH3471 kH3471 hSH3471 => ?_)
          obtain ⟨x3472, x3473, x3474, x3475, x3476, x3477, hvH3471, bx3472, ex3473, ex3474, ex3475, ex3476, ex3477, hrH3471, m3478, m3479, g3480, g3481, g3482, g3483, mf3484, m3485, m3486, hTH3471⟩ := pH3471
          subst hvH3471
          have m3487 := (m3464).trans (MF.r mf3484 (k := 32) (by decide) (by decide)).symm
          have m3488 := (m3465).trans (MF.r mf3484 (k := 33) (by decide) (by decide)).symm
          have m3489 := (m3466).trans (MF.i mf3484 (k := 18) (by decide) (by decide)).symm
          have m3490 := (m3467).trans (MF.i mf3484 (k := 34) (by decide) (by decide)).symm
          have m3491 := (m3456).trans (MF.r mf3484 (k := 17) (by decide) (by decide)).symm
          have mf3492 : MF K s.heap H3471 a0 [19, 20, 21, 22, 35, 39, 40] := MF.trans mf3470 mf3484 (by decide)
          have bx3473 := ty_fi (x := x3473) (k := 19) ex3473 hTH3471 ga0 rg_112 rfl
          have bx3474 := ty_fi (x := x3474) (k := 20) ex3474 hTH3471 ga0 rg_112 rfl
          have bx3475 := ty_fi (x := x3475) (k := 21) ex3475 hTH3471 ga0 rg_112 rfl
          have bx3476 := ty_fi (x := x3476) (k := 22) ex3476 hTH3471 ga0 rg_112 rfl
          have bx3477 := ty_fi (x := x3477) (k := 35) ex3477 hTH3471 ga0 rg_112 rfl
          have csm3485 := i_cl (x := x3003) (by omega)
          have cs_mn := i_cl (x := mn) (by omega)
          have b3493 : ∀ j : Nat, j < 3000 + mn.toNatClampNeg → fI H3471 oq j = fI s.heap oq j ∧ fI H3471 aq j = fI s.heap aq j := fun j hj => ⟨(m3485 j (by omega)).1.trans (b3462 j hj).1, (m3485 j (by omega)).2.trans (b3462 j hj).2⟩
          have cs_mn := i_cl (x := mn) (by omega)
          have b3494 : WF (fun k => fI H3471 oq k) (fun k => fI H3471 aq k) (3000 + mn.toNatClampNeg) (3000 + x3003.toNatClampNeg) 0 1 := WF.keep b3463 (fun j hj => (m3485 j (by omega)).1) (fun j hj => (m3485 j (by omega)).2)
          refine W.eq (g2 := F0 m 82 ls3448 [.int x3472]) rfl ?_
          refine lv_iconst (v := (-1)) hx hb dX10_readCompared_82 (by decide) ?_
          refine lv_icmp_ne (tgt := 88) hx hb dX10_readCompared_83 (by decide) (fun c3495 => ?_) (fun c3495 => ?_)
          · have k3496 := i_ne c3495
            have wu0 : WF (fun k => fI H3471 oq k) (fun k => fI H3471 aq k) (3000 + x3003.toNatClampNeg) (3000 + x3477.toNatClampNeg) 0 1 := by
              rcases m3486 with h | h
              · exfalso; omega
              · exact h
            refine lv_aload_n hx hb dX10_readCompared_88 rfl (lv_at hl3449 1 rfl) ?_
            refine lv_iload_n hx hb dX10_readCompared_89 rfl (lv_at hl3449 0 rfl) ?_
            refine lv_iconst (v := 0) hx hb dX10_readCompared_90 (by decide) ?_
            refine x_V (As := [.int 6, .int 0]) (rest := []) C (a_X10_emits l K G H3471 (6) (0) (x3477) hTH3471 ga0 goq m3478 gaq m3479 ex3477 g3480 g3481 g3482 g3483 (by omega)) yo_X10_emits wM_X10_238 ⟨⟨by decide, by decide⟩, by decide, by decide⟩ (x_rv C hTH3471 (ci := 10) rfl ga0 rg_112) rfl hl3449.1 rfl (Nat.le_of_ble_eq_true rfl) dX10_readCompared_91 hSH3471 (AE_sub (fun _ _ => rfl) (by decide) hSH3471.1) (fun vH3497 H3497 locsH3497 pH3497 zH3497 kH3497 hSH3497 => ?_)
            obtain ⟨x3498, hvH3497, ex3498, hrH3497, m3499, m3500, g3501, g3502, g3503, g3504, mf3505, m3506, m3507, m3508, m3509, hTH3497⟩ := pH3497
            subst hvH3497
            have m3510 := (m3478).trans (MF.r mf3505 (k := 32) (by decide) (by decide)).symm
            have m3511 := (m3479).trans (MF.r mf3505 (k := 33) (by decide) (by decide)).symm
            have m3512 := (m3489).trans (MF.i mf3505 (k := 18) (by decide) (by decide)).symm
            have m3513 := (m3490).trans (MF.i mf3505 (k := 34) (by decide) (by decide)).symm
            have m3514 := (m3491).trans (MF.r mf3505 (k := 17) (by decide) (by decide)).symm
            have m3515 := (ex3473).trans (MF.i mf3505 (k := 19) (by decide) (by decide)).symm
            have m3516 := (ex3474).trans (MF.i mf3505 (k := 20) (by decide) (by decide)).symm
            have m3517 := (ex3475).trans (MF.i mf3505 (k := 21) (by decide) (by decide)).symm
            have m3518 := (ex3476).trans (MF.i mf3505 (k := 22) (by decide) (by decide)).symm
            have mf3519 : MF K s.heap H3497 a0 [19, 20, 21, 22, 35, 39, 40] := MF.trans mf3492 mf3505 (by decide)
            have bx3498 := ty_fi (x := x3498) (k := 35) ex3498 hTH3497 ga0 rg_112 rfl
            have cem3509 := i_cl (x := x3477) (by omega)
            have ce_mn := i_cl (x := mn) (by omega)
            have b3520 : ∀ j : Nat, j < 3000 + mn.toNatClampNeg → fI H3497 oq j = fI s.heap oq j ∧ fI H3497 aq j = fI s.heap aq j := fun j hj => ⟨(m3508 j (by omega)).trans (b3493 j hj).1, (m3509 j (by omega)).trans (b3493 j hj).2⟩
            have ce_mn := i_cl (x := mn) (by omega)
            have ce_x3003 := i_cl (x := x3003) (by omega)
            have b3521 : WF (fun k => fI H3497 oq k) (fun k => fI H3497 aq k) (3000 + mn.toNatClampNeg) (3000 + x3003.toNatClampNeg) 0 1 := WF.keep b3494 (fun j hj => m3508 j (by omega)) (fun j hj => m3509 j (by omega))
            have ce_x3003 := i_cl (x := x3003) (by omega)
            have b3522 : WF (fun k => fI H3497 oq k) (fun k => fI H3497 aq k) (3000 + x3003.toNatClampNeg) (3000 + x3477.toNatClampNeg) 0 1 := WF.keep wu0 (fun j hj => m3508 j (by omega)) (fun j hj => m3509 j (by omega))
            refine W.eq (g2 := F0 m 94 ls3448 []) rfl ?_
            have ho := congrArg Int32.toInt m3506
            have cb_mn := i_cl (x := mn) (by omega)
            have cb_x3003 := i_cl (x := x3003) (by omega)
            have cb_x3477 := i_cl (x := x3477) (by omega)
            have wn : WF (fun k => fI H3497 oq k) (fun k => fI H3497 aq k) (3000 + mn.toNatClampNeg) (3000 + x3477.toNatClampNeg + 1) 0 1 := WF.bin b3521 b3522 (by omega) (by omega) (by show 2 ≤ (fI _ oq _).toInt ∧ (fI _ oq _).toInt ≤ 11 ∧ (fI _ oq _).toInt ≠ 9; omega) (Or.inl (by show (fI _ oq _).toInt ≠ 5; omega))
            refine lv_iconst (v := 0) hx hb dX10_readCompared_94 (by decide) ?_
            have cr_mn := i_cl (x := mn) (by omega)
            have cr_x3477 := i_cl (x := x3477) (by omega)
            have cr_x3498 := i_cl (x := x3498) (by omega)
            exact x_iret C hQ dX10_readCompared_95 hSH3497 (by decide) (by decide) (⟨0, x3473, x3474, x3475, x3476, x3498, rfl, by decide, m3515, m3516, m3517, m3518, ex3498, by omega, m3499, m3500, g3501, g3502, g3503, g3504, mf3519, b3520, Or.inr (WF.cast wn (by omega) (by omega)), hTH3497⟩)
          · have k3496 := i_eq c3495
            refine lv_iconst (v := (-1)) hx hb dX10_readCompared_86 (by decide) ?_
            exact x_iret C hQ dX10_readCompared_87 hSH3471 (by decide) (by decide) (⟨(-1), x3473, x3474, x3475, x3476, x3477, rfl, by decide, ex3473, ex3474, ex3475, ex3476, ex3477, by omega, m3478, m3479, g3480, g3481, g3482, g3483, mf3492, b3493, Or.inl (by omega), hTH3471⟩)
      · have k3291 := i_eq c3290
        refine lv_aload_n hx hb dX10_readCompared_28 rfl (lv_at hl 0 rfl) ?_
        refine lv_bipush (v := 62) hx hb dX10_readCompared_29 (by decide) ?_
        refine x_V (As := [.int 62]) (rest := []) C (a_X10_isSign l K G H3272 (62) (x3001) (x3002) hTH3272 ga0 m3287 m3288) yo_X10_isSign wM_X10_249 ⟨⟨by decide, by decide⟩, by decide, by decide⟩ (x_rv C hTH3272 (ci := 10) rfl ga0 rg_112) rfl hl.1 rfl (Nat.le_of_ble_eq_true rfl) dX10_readCompared_31 hSH3272 (AE_sub (fun _ _ => rfl) (by decide) hSH3272.1) (fun vH3523 H3523 locsH3523 pH3523 zH3523 kH3523 hSH3523 => ?_)
        obtain ⟨x3524, hvH3523, bx3524, hrH3523, hTH3523⟩ := pH3523
        subst hvH3523
        have mf3525 : MF K s.heap H3523 a0 [19, 20, 21, 22, 35, 39, 40] := MF.eff (x_lt hTH3272 kH3523 ga0 (by decide)) mf3274
        have b3526 : ∀ j : Nat, j < 3000 + mn.toNatClampNeg → fI H3523 oq j = fI s.heap oq j ∧ fI H3523 aq j = fI s.heap aq j := fun j hj => ⟨(fI_kept (x_lt hTH3272 kH3523 goq (by decide))).trans (b3275 j hj).1, (fI_kept (x_lt hTH3272 kH3523 gaq (by decide))).trans (b3275 j hj).2⟩
        have b3527 : WF (fun k => fI H3523 oq k) (fun k => fI H3523 aq k) (3000 + mn.toNatClampNeg) (3000 + x3003.toNatClampNeg) 0 1 := WF.congr (fun j => fI_kept (x_lt hTH3272 kH3523 goq (by decide))) (fun j => fI_kept (x_lt hTH3272 kH3523 gaq (by decide))) b3276
        have g3528 : CG (avw K H3523 a0) := CG.congr (fun k hk j => av_eff hTH3272 kH3523 ga0 (by decide) (CG_eff [] (by decide) k hk)) g3277
        have g3529 : TU (avw K H3523 a0) (svw K H3523 a0) := TU.congr (fun k hk j => av_eff hTH3272 kH3523 ga0 (by decide) (TU_eff [] (by decide) k hk)) (fun k hk => sv_eff hTH3272 kH3523 ga0 (by decide)) g3278
        have g3530 : WD (avw K H3523 a0) := WD.congr (fun k hk j => av_eff hTH3272 kH3523 ga0 (by decide) (WD_eff [] (by decide) k hk)) g3279
        have g3531 : IM (avw K H3523 a0) := IM.congr (fun k hk j => av_eff hTH3272 kH3523 ga0 (by decide) (IM_eff [] (by decide) k hk)) g3280
        have m3532 := (m3281).trans (fR_kept (x_lt hTH3272 kH3523 ga0 (by decide))).symm
        have m3533 := (m3282).trans (fR_kept (x_lt hTH3272 kH3523 ga0 (by decide))).symm
        have m3534 := (m3283).trans (fI_kept (x_lt hTH3272 kH3523 ga0 (by decide))).symm
        have m3535 := (m3284).trans (fI_kept (x_lt hTH3272 kH3523 ga0 (by decide))).symm
        have m3536 := (m3285).trans (fI_kept (x_lt hTH3272 kH3523 ga0 (by decide))).symm
        have m3537 := (m3286).trans (fI_kept (x_lt hTH3272 kH3523 ga0 (by decide))).symm
        have m3538 := (m3287).trans (fI_kept (x_lt hTH3272 kH3523 ga0 (by decide))).symm
        have m3539 := (m3288).trans (fI_kept (x_lt hTH3272 kH3523 ga0 (by decide))).symm
        have m3540 := (m3289).trans (fI_kept (x_lt hTH3272 kH3523 ga0 (by decide))).symm
        refine W.eq (g2 := F0 m 34 ls [.int x3524]) rfl ?_
        refine lv_if_ne (tgt := 43) hx hb dX10_readCompared_34 (by decide) (fun c3541 => ?_) (fun c3541 => ?_)
        · have k3542 := i_ne c3541
          refine lv_aload_n hx hb dX10_readCompared_43 rfl (lv_at hl 0 rfl) ?_
          refine x_gi C hTH3523 (ci := 10) (k := 22) rfl inX10 (by decide) wF_X10_205 ga0 rg_112 rfl dX10_readCompared_44 (fun x3543 ex3543 bx3543 => ?_)
          have ux3543 : x3002 = x3543 := (m3539).trans ex3543.symm
          subst ux3543
          refine lv_bipush (v := 60) hx hb dX10_readCompared_47 (by decide) ?_
          refine lv_icmp_ne (tgt := 57) hx hb dX10_readCompared_49 (by decide) (fun c3544 => ?_) (fun c3544 => ?_)
          · have k3545 := i_ne c3544
            refine lv_aload_n hx hb dX10_readCompared_57 rfl (lv_at hl 0 rfl) ?_
            refine x_gi C hTH3523 (ci := 10) (k := 22) rfl inX10 (by decide) wF_X10_205 ga0 rg_112 rfl dX10_readCompared_58 (fun x3546 ex3546 bx3546 => ?_)
            have ux3546 : x3002 = x3546 := (m3539).trans ex3546.symm
            subst ux3546
            refine lv_bipush (v := 61) hx hb dX10_readCompared_61 (by decide) ?_
            refine lv_icmp_ne (tgt := 71) hx hb dX10_readCompared_63 (by decide) (fun c3547 => ?_) (fun c3547 => ?_)
            · have k3548 := i_ne c3547
              refine lv_bipush (v := 8) hx hb dX10_readCompared_71 (by decide) ?_
              refine lv_istore_n (lv' := [(1, .int 8), (0, .ref a0)]) hx hb dX10_readCompared_73 rfl hl (by decide) rfl (fun ls3549 hl3550 => ?_)
              refine lv_aload_n hx hb dX10_readCompared_74 rfl (lv_at hl3550 1 rfl) ?_
              obtain ⟨q3551, eq3551⟩ : ∃ z : Nat, z = fR H3523 a0 (K.1.2 10 17) := ⟨_, rfl⟩
              have gq3551 := ty_fr (q := q3551) (k := 17) (u := 126) eq3551 hTH3523 ga0 rg_112 rfl
              refine x_V (As := []) (rest := []) C (a_X10_reads l K G H3523 (x2999) (x3000) (x3001) (x3002) (tp) hTH3523 ga0 gq3551 eq3551 m3536 m3537 m3538 m3539 m3534 g3528 g3529 g3530 g3531 (by omega)) yo_X10_reads wM_X10_242 ⟨⟨by decide, by decide⟩, by decide, by decide⟩ (x_rv C hTH3523 (ci := 10) rfl ga0 rg_112) rfl hl3550.1 rfl (Nat.le_of_ble_eq_true rfl) dX10_readCompared_75 hSH3523 (AE_sub (fun _ _ => rfl) (by decide) hSH3523.1) (fun vH3552 H3552 locsH3552 pH3552 zH3552 kH3552 hSH3552 => ?_)
              obtain ⟨x3553, x3554, x3555, x3556, hvH3552, ex3553, ex3554, ex3555, ex3556, hrH3552, m3557, g3558, g3559, g3560, g3561, mf3562, hTH3552⟩ := pH3552
              subst hvH3552
              have b3563 : ∀ j : Nat, j < 3000 + mn.toNatClampNeg → fI H3552 oq j = fI s.heap oq j ∧ fI H3552 aq j = fI s.heap aq j := fun j hj => ⟨(fI_kept (x_lt hTH3523 kH3552 goq (by decide))).trans (b3526 j hj).1, (fI_kept (x_lt hTH3523 kH3552 gaq (by decide))).trans (b3526 j hj).2⟩
              have b3564 : WF (fun k => fI H3552 oq k) (fun k => fI H3552 aq k) (3000 + mn.toNatClampNeg) (3000 + x3003.toNatClampNeg) 0 1 := WF.congr (fun j => fI_kept (x_lt hTH3523 kH3552 goq (by decide))) (fun j => fI_kept (x_lt hTH3523 kH3552 gaq (by decide))) b3527
              have m3565 := (m3532).trans (MF.r mf3562 (k := 32) (by decide) (by decide)).symm
              have m3566 := (m3533).trans (MF.r mf3562 (k := 33) (by decide) (by decide)).symm
              have m3567 := (m3534).trans (MF.i mf3562 (k := 18) (by decide) (by decide)).symm
              have m3568 := (m3535).trans (MF.i mf3562 (k := 34) (by decide) (by decide)).symm
              have m3569 := (m3540).trans (MF.i mf3562 (k := 35) (by decide) (by decide)).symm
              have m3570 := (eq3551).trans (MF.r mf3562 (k := 17) (by decide) (by decide)).symm
              have mf3571 : MF K s.heap H3552 a0 [19, 20, 21, 22, 35, 39, 40] := MF.trans mf3525 mf3562 (by decide)
              have bx3553 := ty_fi (x := x3553) (k := 19) ex3553 hTH3552 ga0 rg_112 rfl
              have bx3554 := ty_fi (x := x3554) (k := 20) ex3554 hTH3552 ga0 rg_112 rfl
              have bx3555 := ty_fi (x := x3555) (k := 21) ex3555 hTH3552 ga0 rg_112 rfl
              have bx3556 := ty_fi (x := x3556) (k := 22) ex3556 hTH3552 ga0 rg_112 rfl
              refine W.eq (g2 := F0 m 78 ls3549 []) rfl ?_
              refine lv_aload_n hx hb dX10_readCompared_78 rfl (lv_at hl3550 1 rfl) ?_
              refine x_V (As := []) (rest := []) C (a_X10_readSum l K G H3552 (x3553) (x3554) (x3555) (x3556) (x3003) (tp) (jb) hTH3552 ga0 goq m3565 gaq m3566 ex3553 ex3554 ex3555 ex3556 m3569 m3567 m3568 g3558 g3559 g3560 g3561 (by omega) (by omega)) yo_X10_readSum wM_X10_255 ⟨⟨by decide, by decide⟩, by decide, by decide⟩ (x_rv C hTH3552 (ci := 10) rfl ga0 rg_112) rfl hl3550.1 rfl (Nat.le_of_ble_eq_true rfl) dX10_readCompared_79 hSH3552 (AE_sub (fun _ _ => rfl) (by decide) hSH3552.1) (fun vH3572 H3572 locsH3572 pH3572 zH3572 kH3572 hSH3572 => ?_)
              obtain ⟨x3573, x3574, x3575, x3576, x3577, x3578, hvH3572, bx3573, ex3574, ex3575, ex3576, ex3577, ex3578, hrH3572, m3579, m3580, g3581, g3582, g3583, g3584, mf3585, m3586, m3587, hTH3572⟩ := pH3572
              subst hvH3572
              have m3588 := (m3565).trans (MF.r mf3585 (k := 32) (by decide) (by decide)).symm
              have m3589 := (m3566).trans (MF.r mf3585 (k := 33) (by decide) (by decide)).symm
              have m3590 := (m3567).trans (MF.i mf3585 (k := 18) (by decide) (by decide)).symm
              have m3591 := (m3568).trans (MF.i mf3585 (k := 34) (by decide) (by decide)).symm
              have m3592 := (m3557).trans (MF.r mf3585 (k := 17) (by decide) (by decide)).symm
              have mf3593 : MF K s.heap H3572 a0 [19, 20, 21, 22, 35, 39, 40] := MF.trans mf3571 mf3585 (by decide)
              have bx3574 := ty_fi (x := x3574) (k := 19) ex3574 hTH3572 ga0 rg_112 rfl
              have bx3575 := ty_fi (x := x3575) (k := 20) ex3575 hTH3572 ga0 rg_112 rfl
              have bx3576 := ty_fi (x := x3576) (k := 21) ex3576 hTH3572 ga0 rg_112 rfl
              have bx3577 := ty_fi (x := x3577) (k := 22) ex3577 hTH3572 ga0 rg_112 rfl
              have bx3578 := ty_fi (x := x3578) (k := 35) ex3578 hTH3572 ga0 rg_112 rfl
              have csm3586 := i_cl (x := x3003) (by omega)
              have cs_mn := i_cl (x := mn) (by omega)
              have b3594 : ∀ j : Nat, j < 3000 + mn.toNatClampNeg → fI H3572 oq j = fI s.heap oq j ∧ fI H3572 aq j = fI s.heap aq j := fun j hj => ⟨(m3586 j (by omega)).1.trans (b3563 j hj).1, (m3586 j (by omega)).2.trans (b3563 j hj).2⟩
              have cs_mn := i_cl (x := mn) (by omega)
              have b3595 : WF (fun k => fI H3572 oq k) (fun k => fI H3572 aq k) (3000 + mn.toNatClampNeg) (3000 + x3003.toNatClampNeg) 0 1 := WF.keep b3564 (fun j hj => (m3586 j (by omega)).1) (fun j hj => (m3586 j (by omega)).2)
              refine W.eq (g2 := F0 m 82 ls3549 [.int x3573]) rfl ?_
              refine lv_iconst (v := (-1)) hx hb dX10_readCompared_82 (by decide) ?_
              refine lv_icmp_ne (tgt := 88) hx hb dX10_readCompared_83 (by decide) (fun c3596 => ?_) (fun c3596 => ?_)
              · have k3597 := i_ne c3596
                have wu0 : WF (fun k => fI H3572 oq k) (fun k => fI H3572 aq k) (3000 + x3003.toNatClampNeg) (3000 + x3578.toNatClampNeg) 0 1 := by
                  rcases m3587 with h | h
                  · exfalso; omega
                  · exact h
                refine lv_aload_n hx hb dX10_readCompared_88 rfl (lv_at hl3550 1 rfl) ?_
                refine lv_iload_n hx hb dX10_readCompared_89 rfl (lv_at hl3550 0 rfl) ?_
                refine lv_iconst (v := 0) hx hb dX10_readCompared_90 (by decide) ?_
                refine x_V (As := [.int 8, .int 0]) (rest := []) C (a_X10_emits l K G H3572 (8) (0) (x3578) hTH3572 ga0 goq m3579 gaq m3580 ex3578 g3581 g3582 g3583 g3584 (by omega)) yo_X10_emits wM_X10_238 ⟨⟨by decide, by decide⟩, by decide, by decide⟩ (x_rv C hTH3572 (ci := 10) rfl ga0 rg_112) rfl hl3550.1 rfl (Nat.le_of_ble_eq_true rfl) dX10_readCompared_91 hSH3572 (AE_sub (fun _ _ => rfl) (by decide) hSH3572.1) (fun vH3598 H3598 locsH3598 pH3598 zH3598 kH3598 hSH3598 => ?_)
                obtain ⟨x3599, hvH3598, ex3599, hrH3598, m3600, m3601, g3602, g3603, g3604, g3605, mf3606, m3607, m3608, m3609, m3610, hTH3598⟩ := pH3598
                subst hvH3598
                have m3611 := (m3579).trans (MF.r mf3606 (k := 32) (by decide) (by decide)).symm
                have m3612 := (m3580).trans (MF.r mf3606 (k := 33) (by decide) (by decide)).symm
                have m3613 := (m3590).trans (MF.i mf3606 (k := 18) (by decide) (by decide)).symm
                have m3614 := (m3591).trans (MF.i mf3606 (k := 34) (by decide) (by decide)).symm
                have m3615 := (m3592).trans (MF.r mf3606 (k := 17) (by decide) (by decide)).symm
                have m3616 := (ex3574).trans (MF.i mf3606 (k := 19) (by decide) (by decide)).symm
                have m3617 := (ex3575).trans (MF.i mf3606 (k := 20) (by decide) (by decide)).symm
                have m3618 := (ex3576).trans (MF.i mf3606 (k := 21) (by decide) (by decide)).symm
                have m3619 := (ex3577).trans (MF.i mf3606 (k := 22) (by decide) (by decide)).symm
                have mf3620 : MF K s.heap H3598 a0 [19, 20, 21, 22, 35, 39, 40] := MF.trans mf3593 mf3606 (by decide)
                have bx3599 := ty_fi (x := x3599) (k := 35) ex3599 hTH3598 ga0 rg_112 rfl
                have cem3610 := i_cl (x := x3578) (by omega)
                have ce_mn := i_cl (x := mn) (by omega)
                have b3621 : ∀ j : Nat, j < 3000 + mn.toNatClampNeg → fI H3598 oq j = fI s.heap oq j ∧ fI H3598 aq j = fI s.heap aq j := fun j hj => ⟨(m3609 j (by omega)).trans (b3594 j hj).1, (m3610 j (by omega)).trans (b3594 j hj).2⟩
                have ce_mn := i_cl (x := mn) (by omega)
                have ce_x3003 := i_cl (x := x3003) (by omega)
                have b3622 : WF (fun k => fI H3598 oq k) (fun k => fI H3598 aq k) (3000 + mn.toNatClampNeg) (3000 + x3003.toNatClampNeg) 0 1 := WF.keep b3595 (fun j hj => m3609 j (by omega)) (fun j hj => m3610 j (by omega))
                have ce_x3003 := i_cl (x := x3003) (by omega)
                have b3623 : WF (fun k => fI H3598 oq k) (fun k => fI H3598 aq k) (3000 + x3003.toNatClampNeg) (3000 + x3578.toNatClampNeg) 0 1 := WF.keep wu0 (fun j hj => m3609 j (by omega)) (fun j hj => m3610 j (by omega))
                refine W.eq (g2 := F0 m 94 ls3549 []) rfl ?_
                have ho := congrArg Int32.toInt m3607
                have cb_mn := i_cl (x := mn) (by omega)
                have cb_x3003 := i_cl (x := x3003) (by omega)
                have cb_x3578 := i_cl (x := x3578) (by omega)
                have wn : WF (fun k => fI H3598 oq k) (fun k => fI H3598 aq k) (3000 + mn.toNatClampNeg) (3000 + x3578.toNatClampNeg + 1) 0 1 := WF.bin b3622 b3623 (by omega) (by omega) (by show 2 ≤ (fI _ oq _).toInt ∧ (fI _ oq _).toInt ≤ 11 ∧ (fI _ oq _).toInt ≠ 9; omega) (Or.inl (by show (fI _ oq _).toInt ≠ 5; omega))
                refine lv_iconst (v := 0) hx hb dX10_readCompared_94 (by decide) ?_
                have cr_mn := i_cl (x := mn) (by omega)
                have cr_x3578 := i_cl (x := x3578) (by omega)
                have cr_x3599 := i_cl (x := x3599) (by omega)
                exact x_iret C hQ dX10_readCompared_95 hSH3598 (by decide) (by decide) (⟨0, x3574, x3575, x3576, x3577, x3599, rfl, by decide, m3616, m3617, m3618, m3619, ex3599, by omega, m3600, m3601, g3602, g3603, g3604, g3605, mf3620, b3621, Or.inr (WF.cast wn (by omega) (by omega)), hTH3598⟩)
              · have k3597 := i_eq c3596
                refine lv_iconst (v := (-1)) hx hb dX10_readCompared_86 (by decide) ?_
                exact x_iret C hQ dX10_readCompared_87 hSH3572 (by decide) (by decide) (⟨(-1), x3574, x3575, x3576, x3577, x3578, rfl, by decide, ex3574, ex3575, ex3576, ex3577, ex3578, by omega, m3579, m3580, g3581, g3582, g3583, g3584, mf3593, b3594, Or.inl (by omega), hTH3572⟩)
            · have k3548 := i_eq c3547
              refine lv_bipush (v := 7) hx hb dX10_readCompared_66 (by decide) ?_
              refine lv_goto (tgt := 73) hx hb dX10_readCompared_68 (by decide) ?_
              refine lv_istore_n (lv' := [(1, .int 7), (0, .ref a0)]) hx hb dX10_readCompared_73 rfl hl (by decide) rfl (fun ls3624 hl3625 => ?_)
              refine lv_aload_n hx hb dX10_readCompared_74 rfl (lv_at hl3625 1 rfl) ?_
              obtain ⟨q3626, eq3626⟩ : ∃ z : Nat, z = fR H3523 a0 (K.1.2 10 17) := ⟨_, rfl⟩
              have gq3626 := ty_fr (q := q3626) (k := 17) (u := 126) eq3626 hTH3523 ga0 rg_112 rfl
              refine x_V (As := []) (rest := []) C (a_X10_reads l K G H3523 (x2999) (x3000) (x3001) (x3002) (tp) hTH3523 ga0 gq3626 eq3626 m3536 m3537 m3538 m3539 m3534 g3528 g3529 g3530 g3531 (by omega)) yo_X10_reads wM_X10_242 ⟨⟨by decide, by decide⟩, by decide, by decide⟩ (x_rv C hTH3523 (ci := 10) rfl ga0 rg_112) rfl hl3625.1 rfl (Nat.le_of_ble_eq_true rfl) dX10_readCompared_75 hSH3523 (AE_sub (fun _ _ => rfl) (by decide) hSH3523.1) (fun vH3627 H3627 locsH3627 pH3627 zH3627 kH3627 hSH3627 => ?_)
              obtain ⟨x3628, x3629, x3630, x3631, hvH3627, ex3628, ex3629, ex3630, ex3631, hrH3627, m3632, g3633, g3634, g3635, g3636, mf3637, hTH3627⟩ := pH3627
              subst hvH3627
              have b3638 : ∀ j : Nat, j < 3000 + mn.toNatClampNeg → fI H3627 oq j = fI s.heap oq j ∧ fI H3627 aq j = fI s.heap aq j := fun j hj => ⟨(fI_kept (x_lt hTH3523 kH3627 goq (by decide))).trans (b3526 j hj).1, (fI_kept (x_lt hTH3523 kH3627 gaq (by decide))).trans (b3526 j hj).2⟩
              have b3639 : WF (fun k => fI H3627 oq k) (fun k => fI H3627 aq k) (3000 + mn.toNatClampNeg) (3000 + x3003.toNatClampNeg) 0 1 := WF.congr (fun j => fI_kept (x_lt hTH3523 kH3627 goq (by decide))) (fun j => fI_kept (x_lt hTH3523 kH3627 gaq (by decide))) b3527
              have m3640 := (m3532).trans (MF.r mf3637 (k := 32) (by decide) (by decide)).symm
              have m3641 := (m3533).trans (MF.r mf3637 (k := 33) (by decide) (by decide)).symm
              have m3642 := (m3534).trans (MF.i mf3637 (k := 18) (by decide) (by decide)).symm
              have m3643 := (m3535).trans (MF.i mf3637 (k := 34) (by decide) (by decide)).symm
              have m3644 := (m3540).trans (MF.i mf3637 (k := 35) (by decide) (by decide)).symm
              have m3645 := (eq3626).trans (MF.r mf3637 (k := 17) (by decide) (by decide)).symm
              have mf3646 : MF K s.heap H3627 a0 [19, 20, 21, 22, 35, 39, 40] := MF.trans mf3525 mf3637 (by decide)
              have bx3628 := ty_fi (x := x3628) (k := 19) ex3628 hTH3627 ga0 rg_112 rfl
              have bx3629 := ty_fi (x := x3629) (k := 20) ex3629 hTH3627 ga0 rg_112 rfl
              have bx3630 := ty_fi (x := x3630) (k := 21) ex3630 hTH3627 ga0 rg_112 rfl
              have bx3631 := ty_fi (x := x3631) (k := 22) ex3631 hTH3627 ga0 rg_112 rfl
              refine W.eq (g2 := F0 m 78 ls3624 []) rfl ?_
              refine lv_aload_n hx hb dX10_readCompared_78 rfl (lv_at hl3625 1 rfl) ?_
              refine x_V (As := []) (rest := []) C (a_X10_readSum l K G H3627 (x3628) (x3629) (x3630) (x3631) (x3003) (tp) (jb) hTH3627 ga0 goq m3640 gaq m3641 ex3628 ex3629 ex3630 ex3631 m3644 m3642 m3643 g3633 g3634 g3635 g3636 (by omega) (by omega)) yo_X10_readSum wM_X10_255 ⟨⟨by decide, by decide⟩, by decide, by decide⟩ (x_rv C hTH3627 (ci := 10) rfl ga0 rg_112) rfl hl3625.1 rfl (Nat.le_of_ble_eq_true rfl) dX10_readCompared_79 hSH3627 (AE_sub (fun _ _ => rfl) (by decide) hSH3627.1) (fun vH3647 H3647 locsH3647 pH3647 zH3647 kH3647 hSH3647 => ?_)
              obtain ⟨x3648, x3649, x3650, x3651, x3652, x3653, hvH3647, bx3648, ex3649, ex3650, ex3651, ex3652, ex3653, hrH3647, m3654, m3655, g3656, g3657, g3658, g3659, mf3660, m3661, m3662, hTH3647⟩ := pH3647
              subst hvH3647
              have m3663 := (m3640).trans (MF.r mf3660 (k := 32) (by decide) (by decide)).symm
              have m3664 := (m3641).trans (MF.r mf3660 (k := 33) (by decide) (by decide)).symm
              have m3665 := (m3642).trans (MF.i mf3660 (k := 18) (by decide) (by decide)).symm
              have m3666 := (m3643).trans (MF.i mf3660 (k := 34) (by decide) (by decide)).symm
              have m3667 := (m3632).trans (MF.r mf3660 (k := 17) (by decide) (by decide)).symm
              have mf3668 : MF K s.heap H3647 a0 [19, 20, 21, 22, 35, 39, 40] := MF.trans mf3646 mf3660 (by decide)
              have bx3649 := ty_fi (x := x3649) (k := 19) ex3649 hTH3647 ga0 rg_112 rfl
              have bx3650 := ty_fi (x := x3650) (k := 20) ex3650 hTH3647 ga0 rg_112 rfl
              have bx3651 := ty_fi (x := x3651) (k := 21) ex3651 hTH3647 ga0 rg_112 rfl
              have bx3652 := ty_fi (x := x3652) (k := 22) ex3652 hTH3647 ga0 rg_112 rfl
              have bx3653 := ty_fi (x := x3653) (k := 35) ex3653 hTH3647 ga0 rg_112 rfl
              have csm3661 := i_cl (x := x3003) (by omega)
              have cs_mn := i_cl (x := mn) (by omega)
              have b3669 : ∀ j : Nat, j < 3000 + mn.toNatClampNeg → fI H3647 oq j = fI s.heap oq j ∧ fI H3647 aq j = fI s.heap aq j := fun j hj => ⟨(m3661 j (by omega)).1.trans (b3638 j hj).1, (m3661 j (by omega)).2.trans (b3638 j hj).2⟩
              have cs_mn := i_cl (x := mn) (by omega)
              have b3670 : WF (fun k => fI H3647 oq k) (fun k => fI H3647 aq k) (3000 + mn.toNatClampNeg) (3000 + x3003.toNatClampNeg) 0 1 := WF.keep b3639 (fun j hj => (m3661 j (by omega)).1) (fun j hj => (m3661 j (by omega)).2)
              refine W.eq (g2 := F0 m 82 ls3624 [.int x3648]) rfl ?_
              refine lv_iconst (v := (-1)) hx hb dX10_readCompared_82 (by decide) ?_
              refine lv_icmp_ne (tgt := 88) hx hb dX10_readCompared_83 (by decide) (fun c3671 => ?_) (fun c3671 => ?_)
              · have k3672 := i_ne c3671
                have wu0 : WF (fun k => fI H3647 oq k) (fun k => fI H3647 aq k) (3000 + x3003.toNatClampNeg) (3000 + x3653.toNatClampNeg) 0 1 := by
                  rcases m3662 with h | h
                  · exfalso; omega
                  · exact h
                refine lv_aload_n hx hb dX10_readCompared_88 rfl (lv_at hl3625 1 rfl) ?_
                refine lv_iload_n hx hb dX10_readCompared_89 rfl (lv_at hl3625 0 rfl) ?_
                refine lv_iconst (v := 0) hx hb dX10_readCompared_90 (by decide) ?_
                refine x_V (As := [.int 7, .int 0]) (rest := []) C (a_X10_emits l K G H3647 (7) (0) (x3653) hTH3647 ga0 goq m3654 gaq m3655 ex3653 g3656 g3657 g3658 g3659 (by omega)) yo_X10_emits wM_X10_238 ⟨⟨by decide, by decide⟩, by decide, by decide⟩ (x_rv C hTH3647 (ci := 10) rfl ga0 rg_112) rfl hl3625.1 rfl (Nat.le_of_ble_eq_true rfl) dX10_readCompared_91 hSH3647 (AE_sub (fun _ _ => rfl) (by decide) hSH3647.1) (fun vH3673 H3673 locsH3673 pH3673 zH3673 kH3673 hSH3673 => ?_)
                obtain ⟨x3674, hvH3673, ex3674, hrH3673, m3675, m3676, g3677, g3678, g3679, g3680, mf3681, m3682, m3683, m3684, m3685, hTH3673⟩ := pH3673
                subst hvH3673
                have m3686 := (m3654).trans (MF.r mf3681 (k := 32) (by decide) (by decide)).symm
                have m3687 := (m3655).trans (MF.r mf3681 (k := 33) (by decide) (by decide)).symm
                have m3688 := (m3665).trans (MF.i mf3681 (k := 18) (by decide) (by decide)).symm
                have m3689 := (m3666).trans (MF.i mf3681 (k := 34) (by decide) (by decide)).symm
                have m3690 := (m3667).trans (MF.r mf3681 (k := 17) (by decide) (by decide)).symm
                have m3691 := (ex3649).trans (MF.i mf3681 (k := 19) (by decide) (by decide)).symm
                have m3692 := (ex3650).trans (MF.i mf3681 (k := 20) (by decide) (by decide)).symm
                have m3693 := (ex3651).trans (MF.i mf3681 (k := 21) (by decide) (by decide)).symm
                have m3694 := (ex3652).trans (MF.i mf3681 (k := 22) (by decide) (by decide)).symm
                have mf3695 : MF K s.heap H3673 a0 [19, 20, 21, 22, 35, 39, 40] := MF.trans mf3668 mf3681 (by decide)
                have bx3674 := ty_fi (x := x3674) (k := 35) ex3674 hTH3673 ga0 rg_112 rfl
                have cem3685 := i_cl (x := x3653) (by omega)
                have ce_mn := i_cl (x := mn) (by omega)
                have b3696 : ∀ j : Nat, j < 3000 + mn.toNatClampNeg → fI H3673 oq j = fI s.heap oq j ∧ fI H3673 aq j = fI s.heap aq j := fun j hj => ⟨(m3684 j (by omega)).trans (b3669 j hj).1, (m3685 j (by omega)).trans (b3669 j hj).2⟩
                have ce_mn := i_cl (x := mn) (by omega)
                have ce_x3003 := i_cl (x := x3003) (by omega)
                have b3697 : WF (fun k => fI H3673 oq k) (fun k => fI H3673 aq k) (3000 + mn.toNatClampNeg) (3000 + x3003.toNatClampNeg) 0 1 := WF.keep b3670 (fun j hj => m3684 j (by omega)) (fun j hj => m3685 j (by omega))
                have ce_x3003 := i_cl (x := x3003) (by omega)
                have b3698 : WF (fun k => fI H3673 oq k) (fun k => fI H3673 aq k) (3000 + x3003.toNatClampNeg) (3000 + x3653.toNatClampNeg) 0 1 := WF.keep wu0 (fun j hj => m3684 j (by omega)) (fun j hj => m3685 j (by omega))
                refine W.eq (g2 := F0 m 94 ls3624 []) rfl ?_
                have ho := congrArg Int32.toInt m3682
                have cb_mn := i_cl (x := mn) (by omega)
                have cb_x3003 := i_cl (x := x3003) (by omega)
                have cb_x3653 := i_cl (x := x3653) (by omega)
                have wn : WF (fun k => fI H3673 oq k) (fun k => fI H3673 aq k) (3000 + mn.toNatClampNeg) (3000 + x3653.toNatClampNeg + 1) 0 1 := WF.bin b3697 b3698 (by omega) (by omega) (by show 2 ≤ (fI _ oq _).toInt ∧ (fI _ oq _).toInt ≤ 11 ∧ (fI _ oq _).toInt ≠ 9; omega) (Or.inl (by show (fI _ oq _).toInt ≠ 5; omega))
                refine lv_iconst (v := 0) hx hb dX10_readCompared_94 (by decide) ?_
                have cr_mn := i_cl (x := mn) (by omega)
                have cr_x3653 := i_cl (x := x3653) (by omega)
                have cr_x3674 := i_cl (x := x3674) (by omega)
                exact x_iret C hQ dX10_readCompared_95 hSH3673 (by decide) (by decide) (⟨0, x3649, x3650, x3651, x3652, x3674, rfl, by decide, m3691, m3692, m3693, m3694, ex3674, by omega, m3675, m3676, g3677, g3678, g3679, g3680, mf3695, b3696, Or.inr (WF.cast wn (by omega) (by omega)), hTH3673⟩)
              · have k3672 := i_eq c3671
                refine lv_iconst (v := (-1)) hx hb dX10_readCompared_86 (by decide) ?_
                exact x_iret C hQ dX10_readCompared_87 hSH3647 (by decide) (by decide) (⟨(-1), x3649, x3650, x3651, x3652, x3653, rfl, by decide, ex3649, ex3650, ex3651, ex3652, ex3653, by omega, m3654, m3655, g3656, g3657, g3658, g3659, mf3668, b3669, Or.inl (by omega), hTH3647⟩)
          · have k3545 := i_eq c3544
            refine lv_bipush (v := 6) hx hb dX10_readCompared_52 (by decide) ?_
            refine lv_goto (tgt := 73) hx hb dX10_readCompared_54 (by decide) ?_
            refine lv_istore_n (lv' := [(1, .int 6), (0, .ref a0)]) hx hb dX10_readCompared_73 rfl hl (by decide) rfl (fun ls3699 hl3700 => ?_)
            refine lv_aload_n hx hb dX10_readCompared_74 rfl (lv_at hl3700 1 rfl) ?_
            obtain ⟨q3701, eq3701⟩ : ∃ z : Nat, z = fR H3523 a0 (K.1.2 10 17) := ⟨_, rfl⟩
            have gq3701 := ty_fr (q := q3701) (k := 17) (u := 126) eq3701 hTH3523 ga0 rg_112 rfl
            refine x_V (As := []) (rest := []) C (a_X10_reads l K G H3523 (x2999) (x3000) (x3001) (x3002) (tp) hTH3523 ga0 gq3701 eq3701 m3536 m3537 m3538 m3539 m3534 g3528 g3529 g3530 g3531 (by omega)) yo_X10_reads wM_X10_242 ⟨⟨by decide, by decide⟩, by decide, by decide⟩ (x_rv C hTH3523 (ci := 10) rfl ga0 rg_112) rfl hl3700.1 rfl (Nat.le_of_ble_eq_true rfl) dX10_readCompared_75 hSH3523 (AE_sub (fun _ _ => rfl) (by decide) hSH3523.1) (fun vH3702 H3702 locsH3702 pH3702 zH3702 kH3702 hSH3702 => ?_)
            obtain ⟨x3703, x3704, x3705, x3706, hvH3702, ex3703, ex3704, ex3705, ex3706, hrH3702, m3707, g3708, g3709, g3710, g3711, mf3712, hTH3702⟩ := pH3702
            subst hvH3702
            have b3713 : ∀ j : Nat, j < 3000 + mn.toNatClampNeg → fI H3702 oq j = fI s.heap oq j ∧ fI H3702 aq j = fI s.heap aq j := fun j hj => ⟨(fI_kept (x_lt hTH3523 kH3702 goq (by decide))).trans (b3526 j hj).1, (fI_kept (x_lt hTH3523 kH3702 gaq (by decide))).trans (b3526 j hj).2⟩
            have b3714 : WF (fun k => fI H3702 oq k) (fun k => fI H3702 aq k) (3000 + mn.toNatClampNeg) (3000 + x3003.toNatClampNeg) 0 1 := WF.congr (fun j => fI_kept (x_lt hTH3523 kH3702 goq (by decide))) (fun j => fI_kept (x_lt hTH3523 kH3702 gaq (by decide))) b3527
            have m3715 := (m3532).trans (MF.r mf3712 (k := 32) (by decide) (by decide)).symm
            have m3716 := (m3533).trans (MF.r mf3712 (k := 33) (by decide) (by decide)).symm
            have m3717 := (m3534).trans (MF.i mf3712 (k := 18) (by decide) (by decide)).symm
            have m3718 := (m3535).trans (MF.i mf3712 (k := 34) (by decide) (by decide)).symm
            have m3719 := (m3540).trans (MF.i mf3712 (k := 35) (by decide) (by decide)).symm
            have m3720 := (eq3701).trans (MF.r mf3712 (k := 17) (by decide) (by decide)).symm
            have mf3721 : MF K s.heap H3702 a0 [19, 20, 21, 22, 35, 39, 40] := MF.trans mf3525 mf3712 (by decide)
            have bx3703 := ty_fi (x := x3703) (k := 19) ex3703 hTH3702 ga0 rg_112 rfl
            have bx3704 := ty_fi (x := x3704) (k := 20) ex3704 hTH3702 ga0 rg_112 rfl
            have bx3705 := ty_fi (x := x3705) (k := 21) ex3705 hTH3702 ga0 rg_112 rfl
            have bx3706 := ty_fi (x := x3706) (k := 22) ex3706 hTH3702 ga0 rg_112 rfl
            refine W.eq (g2 := F0 m 78 ls3699 []) rfl ?_
            refine lv_aload_n hx hb dX10_readCompared_78 rfl (lv_at hl3700 1 rfl) ?_
            refine x_V (As := []) (rest := []) C (a_X10_readSum l K G H3702 (x3703) (x3704) (x3705) (x3706) (x3003) (tp) (jb) hTH3702 ga0 goq m3715 gaq m3716 ex3703 ex3704 ex3705 ex3706 m3719 m3717 m3718 g3708 g3709 g3710 g3711 (by omega) (by omega)) yo_X10_readSum wM_X10_255 ⟨⟨by decide, by decide⟩, by decide, by decide⟩ (x_rv C hTH3702 (ci := 10) rfl ga0 rg_112) rfl hl3700.1 rfl (Nat.le_of_ble_eq_true rfl) dX10_readCompared_79 hSH3702 (AE_sub (fun _ _ => rfl) (by decide) hSH3702.1) (fun vH3722 H3722 locsH3722 pH3722 zH3722 kH3722 hSH3722 => ?_)
            obtain ⟨x3723, x3724, x3725, x3726, x3727, x3728, hvH3722, bx3723, ex3724, ex3725, ex3726, ex3727, ex3728, hrH3722, m3729, m3730, g3731, g3732, g3733, g3734, mf3735, m3736, m3737, hTH3722⟩ := pH3722
            subst hvH3722
            have m3738 := (m3715).trans (MF.r mf3735 (k := 32) (by decide) (by decide)).symm
            have m3739 := (m3716).trans (MF.r mf3735 (k := 33) (by decide) (by decide)).symm
            have m3740 := (m3717).trans (MF.i mf3735 (k := 18) (by decide) (by decide)).symm
            have m3741 := (m3718).trans (MF.i mf3735 (k := 34) (by decide) (by decide)).symm
            have m3742 := (m3707).trans (MF.r mf3735 (k := 17) (by decide) (by decide)).symm
            have mf3743 : MF K s.heap H3722 a0 [19, 20, 21, 22, 35, 39, 40] := MF.trans mf3721 mf3735 (by decide)
            have bx3724 := ty_fi (x := x3724) (k := 19) ex3724 hTH3722 ga0 rg_112 rfl
            have bx3725 := ty_fi (x := x3725) (k := 20) ex3725 hTH3722 ga0 rg_112 rfl
            have bx3726 := ty_fi (x := x3726) (k := 21) ex3726 hTH3722 ga0 rg_112 rfl
            have bx3727 := ty_fi (x := x3727) (k := 22) ex3727 hTH3722 ga0 rg_112 rfl
            have bx3728 := ty_fi (x := x3728) (k := 35) ex3728 hTH3722 ga0 rg_112 rfl
            have csm3736 := i_cl (x := x3003) (by omega)
            have cs_mn := i_cl (x := mn) (by omega)
            have b3744 : ∀ j : Nat, j < 3000 + mn.toNatClampNeg → fI H3722 oq j = fI s.heap oq j ∧ fI H3722 aq j = fI s.heap aq j := fun j hj => ⟨(m3736 j (by omega)).1.trans (b3713 j hj).1, (m3736 j (by omega)).2.trans (b3713 j hj).2⟩
            have cs_mn := i_cl (x := mn) (by omega)
            have b3745 : WF (fun k => fI H3722 oq k) (fun k => fI H3722 aq k) (3000 + mn.toNatClampNeg) (3000 + x3003.toNatClampNeg) 0 1 := WF.keep b3714 (fun j hj => (m3736 j (by omega)).1) (fun j hj => (m3736 j (by omega)).2)
            refine W.eq (g2 := F0 m 82 ls3699 [.int x3723]) rfl ?_
            refine lv_iconst (v := (-1)) hx hb dX10_readCompared_82 (by decide) ?_
            refine lv_icmp_ne (tgt := 88) hx hb dX10_readCompared_83 (by decide) (fun c3746 => ?_) (fun c3746 => ?_)
            · have k3747 := i_ne c3746
              have wu0 : WF (fun k => fI H3722 oq k) (fun k => fI H3722 aq k) (3000 + x3003.toNatClampNeg) (3000 + x3728.toNatClampNeg) 0 1 := by
                rcases m3737 with h | h
                · exfalso; omega
                · exact h
              refine lv_aload_n hx hb dX10_readCompared_88 rfl (lv_at hl3700 1 rfl) ?_
              refine lv_iload_n hx hb dX10_readCompared_89 rfl (lv_at hl3700 0 rfl) ?_
              refine lv_iconst (v := 0) hx hb dX10_readCompared_90 (by decide) ?_
              refine x_V (As := [.int 6, .int 0]) (rest := []) C (a_X10_emits l K G H3722 (6) (0) (x3728) hTH3722 ga0 goq m3729 gaq m3730 ex3728 g3731 g3732 g3733 g3734 (by omega)) yo_X10_emits wM_X10_238 ⟨⟨by decide, by decide⟩, by decide, by decide⟩ (x_rv C hTH3722 (ci := 10) rfl ga0 rg_112) rfl hl3700.1 rfl (Nat.le_of_ble_eq_true rfl) dX10_readCompared_91 hSH3722 (AE_sub (fun _ _ => rfl) (by decide) hSH3722.1) (fun vH3748 H3748 locsH3748 pH3748 zH3748 kH3748 hSH3748 => ?_)
              obtain ⟨x3749, hvH3748, ex3749, hrH3748, m3750, m3751, g3752, g3753, g3754, g3755, mf3756, m3757, m3758, m3759, m3760, hTH3748⟩ := pH3748
              subst hvH3748
              have m3761 := (m3729).trans (MF.r mf3756 (k := 32) (by decide) (by decide)).symm
              have m3762 := (m3730).trans (MF.r mf3756 (k := 33) (by decide) (by decide)).symm
              have m3763 := (m3740).trans (MF.i mf3756 (k := 18) (by decide) (by decide)).symm
              have m3764 := (m3741).trans (MF.i mf3756 (k := 34) (by decide) (by decide)).symm
              have m3765 := (m3742).trans (MF.r mf3756 (k := 17) (by decide) (by decide)).symm
              have m3766 := (ex3724).trans (MF.i mf3756 (k := 19) (by decide) (by decide)).symm
              have m3767 := (ex3725).trans (MF.i mf3756 (k := 20) (by decide) (by decide)).symm
              have m3768 := (ex3726).trans (MF.i mf3756 (k := 21) (by decide) (by decide)).symm
              have m3769 := (ex3727).trans (MF.i mf3756 (k := 22) (by decide) (by decide)).symm
              have mf3770 : MF K s.heap H3748 a0 [19, 20, 21, 22, 35, 39, 40] := MF.trans mf3743 mf3756 (by decide)
              have bx3749 := ty_fi (x := x3749) (k := 35) ex3749 hTH3748 ga0 rg_112 rfl
              have cem3760 := i_cl (x := x3728) (by omega)
              have ce_mn := i_cl (x := mn) (by omega)
              have b3771 : ∀ j : Nat, j < 3000 + mn.toNatClampNeg → fI H3748 oq j = fI s.heap oq j ∧ fI H3748 aq j = fI s.heap aq j := fun j hj => ⟨(m3759 j (by omega)).trans (b3744 j hj).1, (m3760 j (by omega)).trans (b3744 j hj).2⟩
              have ce_mn := i_cl (x := mn) (by omega)
              have ce_x3003 := i_cl (x := x3003) (by omega)
              have b3772 : WF (fun k => fI H3748 oq k) (fun k => fI H3748 aq k) (3000 + mn.toNatClampNeg) (3000 + x3003.toNatClampNeg) 0 1 := WF.keep b3745 (fun j hj => m3759 j (by omega)) (fun j hj => m3760 j (by omega))
              have ce_x3003 := i_cl (x := x3003) (by omega)
              have b3773 : WF (fun k => fI H3748 oq k) (fun k => fI H3748 aq k) (3000 + x3003.toNatClampNeg) (3000 + x3728.toNatClampNeg) 0 1 := WF.keep wu0 (fun j hj => m3759 j (by omega)) (fun j hj => m3760 j (by omega))
              refine W.eq (g2 := F0 m 94 ls3699 []) rfl ?_
              have ho := congrArg Int32.toInt m3757
              have cb_mn := i_cl (x := mn) (by omega)
              have cb_x3003 := i_cl (x := x3003) (by omega)
              have cb_x3728 := i_cl (x := x3728) (by omega)
              have wn : WF (fun k => fI H3748 oq k) (fun k => fI H3748 aq k) (3000 + mn.toNatClampNeg) (3000 + x3728.toNatClampNeg + 1) 0 1 := WF.bin b3772 b3773 (by omega) (by omega) (by show 2 ≤ (fI _ oq _).toInt ∧ (fI _ oq _).toInt ≤ 11 ∧ (fI _ oq _).toInt ≠ 9; omega) (Or.inl (by show (fI _ oq _).toInt ≠ 5; omega))
              refine lv_iconst (v := 0) hx hb dX10_readCompared_94 (by decide) ?_
              have cr_mn := i_cl (x := mn) (by omega)
              have cr_x3728 := i_cl (x := x3728) (by omega)
              have cr_x3749 := i_cl (x := x3749) (by omega)
              exact x_iret C hQ dX10_readCompared_95 hSH3748 (by decide) (by decide) (⟨0, x3724, x3725, x3726, x3727, x3749, rfl, by decide, m3766, m3767, m3768, m3769, ex3749, by omega, m3750, m3751, g3752, g3753, g3754, g3755, mf3770, b3771, Or.inr (WF.cast wn (by omega) (by omega)), hTH3748⟩)
            · have k3747 := i_eq c3746
              refine lv_iconst (v := (-1)) hx hb dX10_readCompared_86 (by decide) ?_
              exact x_iret C hQ dX10_readCompared_87 hSH3722 (by decide) (by decide) (⟨(-1), x3724, x3725, x3726, x3727, x3728, rfl, by decide, ex3724, ex3725, ex3726, ex3727, ex3728, by omega, m3729, m3730, g3731, g3732, g3733, g3734, mf3743, b3744, Or.inl (by omega), hTH3722⟩)
        · have k3542 := i_eq c3541
          refine lv_aload_n hx hb dX10_readCompared_37 rfl (lv_at hl 0 rfl) ?_
          refine lv_iconst (v := 1) hx hb dX10_readCompared_38 (by decide) ?_
          refine x_V (As := [.int 1]) (rest := []) C (a_X10_fails l K G H3523 (1) hTH3523 ga0 g3528 g3529 g3530 g3531) yo_X10_fails wM_X10_235 ⟨⟨by decide, by decide⟩, by decide, by decide⟩ (x_rv C hTH3523 (ci := 10) rfl ga0 rg_112) rfl hl.1 rfl (Nat.le_of_ble_eq_true rfl) dX10_readCompared_39 hSH3523 (AE_sub (fun _ _ => rfl) (by decide) hSH3523.1) (fun vH3774 H3774 locsH3774 pH3774 zH3774 kH3774 hSH3774 => ?_)
          obtain ⟨x3775, hvH3774, bx3775, g3776, g3777, g3778, g3779, mf3780, hTH3774⟩ := pH3774
          subst hvH3774
          have b3781 : ∀ j : Nat, j < 3000 + mn.toNatClampNeg → fI H3774 oq j = fI s.heap oq j ∧ fI H3774 aq j = fI s.heap aq j := fun j hj => ⟨(fI_kept (x_lt hTH3523 kH3774 goq (by decide))).trans (b3526 j hj).1, (fI_kept (x_lt hTH3523 kH3774 gaq (by decide))).trans (b3526 j hj).2⟩
          have b3782 : WF (fun k => fI H3774 oq k) (fun k => fI H3774 aq k) (3000 + mn.toNatClampNeg) (3000 + x3003.toNatClampNeg) 0 1 := WF.congr (fun j => fI_kept (x_lt hTH3523 kH3774 goq (by decide))) (fun j => fI_kept (x_lt hTH3523 kH3774 gaq (by decide))) b3527
          have m3783 := (m3532).trans (MF.r mf3780 (k := 32) (by decide) (by decide)).symm
          have m3784 := (m3533).trans (MF.r mf3780 (k := 33) (by decide) (by decide)).symm
          have m3785 := (m3534).trans (MF.i mf3780 (k := 18) (by decide) (by decide)).symm
          have m3786 := (m3535).trans (MF.i mf3780 (k := 34) (by decide) (by decide)).symm
          have m3787 := (m3536).trans (MF.i mf3780 (k := 19) (by decide) (by decide)).symm
          have m3788 := (m3537).trans (MF.i mf3780 (k := 20) (by decide) (by decide)).symm
          have m3789 := (m3538).trans (MF.i mf3780 (k := 21) (by decide) (by decide)).symm
          have m3790 := (m3539).trans (MF.i mf3780 (k := 22) (by decide) (by decide)).symm
          have m3791 := (m3540).trans (MF.i mf3780 (k := 35) (by decide) (by decide)).symm
          have mf3792 : MF K s.heap H3774 a0 [19, 20, 21, 22, 35, 39, 40] := MF.trans mf3525 mf3780 (by decide)
          refine W.eq (g2 := F0 m 42 ls [.int x3775]) rfl ?_
          exact x_iret C hQ dX10_readCompared_42 hSH3774 (by decide) (by decide) (⟨x3775, x2999, x3000, x3001, x3002, x3003, rfl, by omega, m3787, m3788, m3789, m3790, m3791, by omega, m3783, m3784, g3776, g3777, g3778, g3779, mf3792, b3781, Or.inl (by omega), hTH3774⟩)
  · have k3020 := i_eq c3019
    refine lv_iconst (v := (-1)) hx hb dX10_readCompared_8 (by decide) ?_
    exact x_iret C hQ dX10_readCompared_9 hSH2997 (by decide) (by decide) (⟨(-1), x2999, x3000, x3001, x3002, x3003, rfl, by decide, ex2999, ex3000, ex3001, ex3002, ex3003, by omega, m3004, m3005, g3006, g3007, g3008, g3009, mf3017, b3018, Or.inl (by omega), hTH2997⟩)
