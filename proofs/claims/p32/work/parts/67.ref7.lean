/-! ===== codes are put together ===== -/
theorem WF.keep {f g f1 g1 : Nat → Int32} {a z D E : Nat} (h : WF f g a z D E) (hf : ∀ j, j < z → f1 j = f j) (hg : ∀ j, j < z → g1 j = g j) : WF f1 g1 a z D E := by
  obtain ⟨d, h1, h2, h3⟩ := h
  refine ⟨d, h1, h2, fun k ha hz => ?_⟩
  have h4 := h3 k ha hz
  rw [← hf k hz, ← hg k hz, ← hf (k - 1) (by omega), ← hg (k - 1) (by omega)] at h4
  exact h4
theorem WF.congr {f g f1 g1 : Nat → Int32} {a z D E : Nat} (hf : ∀ j, f1 j = f j) (hg : ∀ j, g1 j = g j) (h : WF f g a z D E) : WF f1 g1 a z D E := h.keep (fun j _ => hf j) (fun j _ => hg j)
theorem WF.cast {f g : Nat → Int32} {a a' z z' D E : Nat} (h : WF f g a z D E) (ha : a' = a) (hz : z' = z) : WF f g a' z' D E := by rw [ha, hz]; exact h
theorem WF.lift {f g : Nat → Int32} {a z D E : Nat} (c : Nat) (h : WF f g a z D E) : WF f g a z (D + c) (E + c) := by
  obtain ⟨d, h1, h2, h3⟩ := h
  refine ⟨fun k => d k + c, by show d a + c = _; rw [h1], by show d z + c = _; rw [h2], fun k ha hz => ?_⟩
  have h4 := h3 k ha hz
  show _ ∨ _ ∨ _ ∨ _
  dsimp only
  omega
theorem WF.cat {f g : Nat → Int32} {a m z D E F : Nat} (h : WF f g a m D E) (h' : WF f g m z E F) (ha : a ≤ m) (hm : m ≤ z) : WF f g a z D F := by
  obtain ⟨d, h1, h2, h3⟩ := h
  obtain ⟨e, k1, k2, k3⟩ := h'
  refine ⟨fun k => if k < m then d k else e k, ?_, ?_, fun k ha' hz => ?_⟩
  · by_cases c : a < m
    · show (if a < m then _ else _) = _; rw [if_pos c]; exact h1
    · have : a = m := by omega
      subst this
      show (if a < a then _ else _) = _
      rw [if_neg (by omega), k1, ← h2, h1]
  · show (if z < m then _ else _) = _; rw [if_neg (by omega)]; exact k2
  · by_cases c : k < m
    · have h4 := h3 k ha' c
      have e1 : (if k < m then d k else e k) = d k := if_pos c
      have e2 : (if k + 1 < m then d (k + 1) else e (k + 1)) = d (k + 1) := by
        by_cases c2 : k + 1 < m
        · exact if_pos c2
        · rw [if_neg c2]
          have : k + 1 = m := by omega
          rw [this, k1, h2]
      dsimp only
      rw [e1, e2]
      exact h4
    · have h4 := k3 k (by omega) hz
      dsimp only
      rw [if_neg c, if_neg (show ¬ k + 1 < m by omega)]
      omega
theorem WF.nil {f g : Nat → Int32} {a D : Nat} : WF f g a a D D := ⟨fun _ => D, rfl, rfl, fun k h1 h2 => by omega⟩
theorem WF.num {f g : Nat → Int32} {a : Nat} (h : (f a).toInt = 0) : WF f g a (a + 1) 0 1 := by
  refine ⟨fun k => k - a, by dsimp only; omega, by dsimp only; omega, fun k h1 h2 => ?_⟩
  have : k = a := by omega
  subst this
  exact Or.inl ⟨h, by dsimp only; omega⟩
theorem WF.ask {f g : Nat → Int32} {a : Nat} (h : (f a).toInt = 1) (hg : 0 ≤ (g a).toInt ∧ (g a).toInt ≤ 13) : WF f g a (a + 1) 0 1 := by
  refine ⟨fun k => k - a, by dsimp only; omega, by dsimp only; omega, fun k h1 h2 => ?_⟩
  have : k = a := by omega
  subst this
  exact Or.inr (Or.inl ⟨h, by dsimp only; omega, hg⟩)
theorem WF.stp {f g : Nat → Int32} {a z E F : Nat} (h : WF f g a z 0 E) (haz : a ≤ z)
    (hs : ((f z).toInt = 9 ∧ 1 ≤ E ∧ F = E) ∨ (2 ≤ (f z).toInt ∧ (f z).toInt ≤ 11 ∧ (f z).toInt ≠ 9 ∧ 2 ≤ E ∧ F + 1 = E ∧ ((f z).toInt ≠ 5 ∨ (a < z ∧ (f (z - 1)).toInt = 0 ∧ (g (z - 1)).toInt ≠ 0)))) : WF f g a (z + 1) 0 F := by
  obtain ⟨d, h1, h2, h3⟩ := h
  refine ⟨fun k => if k ≤ z then d k else F, ?_, ?_, fun k ha' hz => ?_⟩
  · show (if a ≤ z then _ else _) = _; rw [if_pos haz]; exact h1
  · show (if z + 1 ≤ z then _ else _) = _; rw [if_neg (by omega)]
  · by_cases c : k = z
    · subst c
      dsimp only
      rw [if_pos (Nat.le_refl _), if_neg (show ¬ k + 1 ≤ k by omega)]
      omega
    · have h4 := h3 k ha' (by omega)
      dsimp only
      rw [if_pos (show k ≤ z by omega), if_pos (show k + 1 ≤ z by omega)]
      exact h4
theorem WF.bin {f g : Nat → Int32} {a m z : Nat} (h : WF f g a m 0 1) (u : WF f g m z 0 1) (ha : a ≤ m) (hm : m ≤ z) (ho : 2 ≤ (f z).toInt ∧ (f z).toInt ≤ 11 ∧ (f z).toInt ≠ 9) (hp : (f z).toInt ≠ 5 ∨ (z = m + 1 ∧ (f m).toInt = 0 ∧ (g m).toInt ≠ 0)) : WF f g a (z + 1) 0 1 := by
  refine WF.stp (WF.cat h (WF.lift 1 u) ha hm) (by omega) (Or.inr ⟨ho.1, ho.2.1, ho.2.2, Nat.le_refl _, rfl, ?_⟩)
  rcases hp with hp | ⟨rfl, h1, h2⟩
  · exact Or.inl hp
  · exact Or.inr ⟨by omega, h1, h2⟩
theorem av_500 {K : KE} {G : Nat → Option Nat} {H : Heap} {b j : Nat} (hT : TY K G H) (gb : G b = some 112) (hj : j < 112) : (avw K H b 29 j).toInt ≤ 500 ∧ (avw K H b 30 j).toInt ≤ 500 ∧ (avw K H b 31 j).toInt ≤ 500 := by
  obtain ⟨c1, -, -, -, -, g1⟩ := hT.fref (k := 29) gb rgM rfl
  obtain ⟨c2, -, -, -, -, g2⟩ := hT.fref (k := 30) gb rgM rfl
  obtain ⟨c3, -, -, -, -, g3⟩ := hT.fref (k := 31) gb rgM rfl
  obtain ⟨d1, -, -, -, -, -, -, e1⟩ := hT.aint g1 rg_133 hj
  obtain ⟨d2, -, -, -, -, -, -, e2⟩ := hT.aint g2 rg_134 hj
  obtain ⟨d3, -, -, -, -, -, -, e3⟩ := hT.aint g3 rg_135 hj
  exact ⟨e1, e2, e3⟩
theorem CG.putD {K : KE} {G : Nat → Option Nat} {H H1 : Heap} {b q i t : Nat} {x : Int32} (hT : TY K G H) (gb : G b = some 112) (w : Wr H H1 q i (.int x)) (gq : G q = some t) (ht : t = 136 ∨ t = 137) (hi : 3000 ≤ i) (h : CG (avw K H b)) : CG (avw K H1 b) := by
  have h112 : 112 ≠ t := by omega
  have ek : ∀ k ∈ ([24, 29, 30, 31] : List Nat), ∀ j, avw K H1 b k j = avw K H b k j := by
    intro k hk j
    refine av_arr hT gb w gq h112 ?_
    rcases ht with rfl | rfl
    · exact List.all_eq_true.mp (show ([24, 29, 30, 31] : List Nat).all (fun k => arOk k 136) = true by decide) k hk
    · exact List.all_eq_true.mp (show ([24, 29, 30, 31] : List Nat).all (fun k => arOk k 137) = true by decide) k hk
  have el : ∀ k j, j < 3000 → avw K H1 b k j = avw K H b k j := by
    intro k j hj
    unfold avw
    rw [Wr.neR w (Or.inl (G_ne gb gq h112))]
    exact Wr.neI w (Or.inr (by omega))
  intro row l h1 h2 h3
  rw [ek 24 (by decide)] at h3
  obtain ⟨⟨E, a1⟩, F, a2⟩ := h row l h1 h2 h3
  have hr := av_500 (j := 16 * row + l) hT gb (by omega)
  rw [ek 29 (by decide), ek 30 (by decide), ek 31 (by decide)]
  have cl : ∀ y : Int32, y.toInt ≤ 500 → y.toNatClampNeg ≤ 500 := fun y hy => by show y.toInt.toNat ≤ 500; omega
  have c2 := cl _ hr.2.1
  have c3 := cl _ hr.2.2
  exact ⟨⟨E, a1.keep (fun j hj => el 32 j (by omega)) (fun j hj => el 33 j (by omega))⟩, F, a2.keep (fun j hj => el 32 j (by omega)) (fun j hj => el 33 j (by omega))⟩
set_option maxHeartbeats 4000000 in
set_option maxRecDepth 100000 in
theorem a_X10_emits (l : Launch) (K : KE) (G : Nat → Option Nat) (H : Heap) {a0 : Nat} (x1 : Int32) (x2 : Int32) {oq : Nat} {aq : Nat} (mn : Int32) (hT : TY K G H) (ga0 : G a0 = some 112) (goq : G oq = some 136) (eoq : oq = fR H a0 (K.1.2 10 32)) (gaq : G aq = some 137) (eaq : aq = fR H a0 (K.1.2 10 33)) (emn : mn = fI H a0 (K.1.2 10 35)) (hg_CG : CG (avw K H a0)) (hg_TU : TU (avw K H a0) (svw K H a0)) (hg_WD : WD (avw K H a0)) (hg_IM : IM (avw K H a0)) (hp0 : mn.toInt ≤ 499) : MX l K yX10_emits cX10_emits 3 none 0 0 0 0 [.ref a0, .int x1, .int x2] H (AE G [112, 136, 137] H.size) (fun v H1 => ∃ (t0 : Int32), v = none ∧ t0 = fI H1 a0 (K.1.2 10 35) ∧ (t0.toInt = mn.toInt + 1) ∧ oq = fR H1 a0 (K.1.2 10 32) ∧ aq = fR H1 a0 (K.1.2 10 33) ∧ (CG (avw K H1 a0)) ∧ (TU (avw K H1 a0) (svw K H1 a0)) ∧ (WD (avw K H1 a0)) ∧ (IM (avw K H1 a0)) ∧ MF K H H1 a0 [35] ∧ (x1 = fI H1 oq (3000 + mn.toNatClampNeg)) ∧ (x2 = fI H1 aq (3000 + mn.toNatClampNeg)) ∧ (∀ j : Nat, j ≠ 3000 + mn.toNatClampNeg → fI H1 oq j = fI H oq j) ∧ (∀ j : Nat, j ≠ 3000 + mn.toNatClampNeg → fI H1 aq j = fI H aq j) ∧ TY K G H1) := by
  refine MX.of (by decide +kernel) (Nat.le_of_ble_eq_true rfl) ?_
  intro p e s m below meth c ls Q C hH hl hQ
  subst hH
  have C : CX p K s m _ meth c RX10 cX10_emits 3 none "emits" := C
  obtain ⟨hx, hb, hml, hown, hts, hKT, hr, hlocks, hnm⟩ := id C
  have hl : lv_has ls 3 [(0, .ref a0), (1, .int x1), (2, .int x2)] := hl
  have hS : va_S (AE G [112, 136, 137] s.heap.size) s.heap s.heap [] := va_S.rf
  have n_1 : (1 : Int32).toInt = 1 := rfl
  have n_3000 : (3000 : Int32).toInt = 3000 := rfl
  have bmn := ty_fi (x := mn) (k := 35) emn hT ga0 rg_112 rfl
  have hap : ∀ x y, x < 74 → y < 74 → x ≠ y → K.1.2 10 x ≠ K.1.2 10 y := x_apart hKT hts inX10 tyX10 tyX10_ok nmX10 rfl
  have mf0 : MF K s.heap s.heap a0 [35] := fun _ _ _ => rfl
  have hmn := i_cl (x := mn) (by omega)
  refine lv_aload_n hx hb dX10_emits_0 rfl (lv_at hl 0 rfl) ?_
  refine x_gr C hT (ci := 10) (k := 32) rfl inX10 (by decide) wF_X10_83 ga0 rg_112 rfl dX10_emits_1 (fun q265 eq265 gq265 => ?_)
  have uq265 : oq = q265 := (eoq).trans eq265.symm
  subst uq265
  refine lv_sipush (v := 3000) hx hb dX10_emits_4 (by decide) ?_
  refine lv_aload_n hx hb dX10_emits_7 rfl (lv_at hl 0 rfl) ?_
  refine x_gi C hT (ci := 10) (k := 35) rfl inX10 (by decide) wF_X10_228 ga0 rg_112 rfl dX10_emits_8 (fun x266 ex266 bx266 => ?_)
  have ux266 : mn = x266 := (emn).trans ex266.symm
  subst ux266
  refine lv_iadd hx hb dX10_emits_11 ?_
  refine lv_topi (fun x267 ex267 => ?_)
  have tx267 := i_add ex267 (by omega)
  refine lv_iload_n hx hb dX10_emits_12 rfl (lv_at hl 1 rfl) ?_
  refine x_iast C hT hS goq rg_136 (by omega) (by show _ < ((3500 : Nat) : Int); omega) ⟨by have := i_rng x1; omega, by have := i_rng x1; omega⟩ (AE_in goq (by decide)) dX10_emits_13 (fun H268 locsH268 hTH268 hSH268 wH268 => ?_)
  have mf269 : MF K s.heap H268 a0 [35] := MF.arr wH268 (G_ne ga0 goq (by decide)) mf0
  have ciH268 := i_cl (x := x267) (by omega)
  have g270 : CG (avw K H268 a0) := CG.putD hT ga0 wH268 goq (by decide) (by omega) hg_CG
  have g271 : TU (avw K H268 a0) (svw K H268 a0) := TU.congr (fun k hk j => av_arr hT ga0 wH268 goq (by decide) (TU_ok 136 (by decide) k hk)) (fun k hk => sv_arr ga0 wH268 goq (by decide)) hg_TU
  have g272 : WD (avw K H268 a0) := WD.congr (fun k hk j => av_arr hT ga0 wH268 goq (by decide) (WD_ok 136 (by decide) k hk)) hg_WD
  have g273 : IM (avw K H268 a0) := IM.congr (fun k hk j => av_arr hT ga0 wH268 goq (by decide) (IM_ok 136 (by decide) k hk)) hg_IM
  have m274 := eoq.trans (Wr.neR wH268 (Or.inl (G_ne ga0 goq (by decide)))).symm
  have m275 := eaq.trans (Wr.neR wH268 (Or.inl (G_ne ga0 goq (by decide)))).symm
  have m276 := emn.trans (Wr.neI wH268 (Or.inl (G_ne ga0 goq (by decide)))).symm
  have m277 := Wr.I wH268
  have m277 := m277.symm
  refine lv_aload_n hx hb dX10_emits_14 rfl (lv_at hl 0 rfl) ?_
  refine x_gr C hTH268 (ci := 10) (k := 33) rfl inX10 (by decide) wF_X10_86 ga0 rg_112 rfl dX10_emits_15 (fun q278 eq278 gq278 => ?_)
  have uq278 : aq = q278 := (m275).trans eq278.symm
  subst uq278
  refine lv_sipush (v := 3000) hx hb dX10_emits_18 (by decide) ?_
  refine lv_aload_n hx hb dX10_emits_21 rfl (lv_at hl 0 rfl) ?_
  refine x_gi C hTH268 (ci := 10) (k := 35) rfl inX10 (by decide) wF_X10_228 ga0 rg_112 rfl dX10_emits_22 (fun x279 ex279 bx279 => ?_)
  have ux279 : mn = x279 := (m276).trans ex279.symm
  subst ux279
  refine lv_iadd hx hb dX10_emits_25 ?_
  refine lv_topi (fun x280 ex280 => ?_)
  have tx280 := i_add ex280 (by omega)
  refine lv_iload_n hx hb dX10_emits_26 rfl (lv_at hl 2 rfl) ?_
  refine x_iast C hTH268 hSH268 gaq rg_137 (by omega) (by show _ < ((3500 : Nat) : Int); omega) ⟨by have := i_rng x2; omega, by have := i_rng x2; omega⟩ (AE_in gaq (by decide)) dX10_emits_27 (fun H281 locsH281 hTH281 hSH281 wH281 => ?_)
  have mf282 : MF K s.heap H281 a0 [35] := MF.arr wH281 (G_ne ga0 gaq (by decide)) mf269
  have ciH281 := i_cl (x := x280) (by omega)
  have g283 : CG (avw K H281 a0) := CG.putD hTH268 ga0 wH281 gaq (by decide) (by omega) g270
  have g284 : TU (avw K H281 a0) (svw K H281 a0) := TU.congr (fun k hk j => av_arr hTH268 ga0 wH281 gaq (by decide) (TU_ok 137 (by decide) k hk)) (fun k hk => sv_arr ga0 wH281 gaq (by decide)) g271
  have g285 : WD (avw K H281 a0) := WD.congr (fun k hk j => av_arr hTH268 ga0 wH281 gaq (by decide) (WD_ok 137 (by decide) k hk)) g272
  have g286 : IM (avw K H281 a0) := IM.congr (fun k hk j => av_arr hTH268 ga0 wH281 gaq (by decide) (IM_ok 137 (by decide) k hk)) g273
  have m287 := m274.trans (Wr.neR wH281 (Or.inl (G_ne ga0 gaq (by decide)))).symm
  have m288 := m275.trans (Wr.neR wH281 (Or.inl (G_ne ga0 gaq (by decide)))).symm
  have m289 := m276.trans (Wr.neI wH281 (Or.inl (G_ne ga0 gaq (by decide)))).symm
  have m290 := m277.trans (Wr.neI wH281 (Or.inl (G_ne goq gaq (by decide)))).symm
  have m291 := Wr.I wH281
  have m291 := m291.symm
  refine lv_aload_n hx hb dX10_emits_28 rfl (lv_at hl 0 rfl) ?_
  refine lv_aload_n hx hb dX10_emits_29 rfl (lv_at hl 0 rfl) ?_
  refine x_gi C hTH281 (ci := 10) (k := 35) rfl inX10 (by decide) wF_X10_228 ga0 rg_112 rfl dX10_emits_30 (fun x292 ex292 bx292 => ?_)
  have ux292 : mn = x292 := (m289).trans ex292.symm
  subst ux292
  refine lv_iconst (v := 1) hx hb dX10_emits_33 (by decide) ?_
  refine lv_iadd hx hb dX10_emits_34 ?_
  refine lv_topi (fun x293 ex293 => ?_)
  have tx293 := i_add ex293 (by omega)
  refine x_put C hTH281 hSH281 (ci := 10) (k := 35) (v := .int x293) (ty0 := tyX10) rfl inX10 tyX10_ok nmX10 (by decide) rfl wF_X10_228 ga0 rg_112 rfl rfl (okI (by have := i_rng x293; omega) (by have := i_rng x293; omega)) rfl rfl (AE_in ga0 (by decide)) dX10_emits_35 (fun H294 locsH294 hTH294 hSH294 wH294 => ?_)
  have mf295 : MF K s.heap H294 a0 [35] := MF.fld hap wH294 (by decide) (by decide) mf282
  have g296 : CG (avw K H294 a0) := CG.congr (fun k hk j => av_fld hTH281 ga0 hap wH294 (by decide) (CG_ok 112 (by decide) k hk) (CG_ne 35 (by decide) k hk)) g283
  have g297 : TU (avw K H294 a0) (svw K H294 a0) := TU.congr (fun k hk j => av_fld hTH281 ga0 hap wH294 (by decide) (TU_ok 112 (by decide) k hk) (TU_ne 35 (by decide) k hk)) (fun k hk => sv_fld hap wH294 (by decide) (TU_slt k hk) (TU_sne 35 (by decide) k hk)) g284
  have g298 : WD (avw K H294 a0) := WD.congr (fun k hk j => av_fld hTH281 ga0 hap wH294 (by decide) (WD_ok 112 (by decide) k hk) (WD_ne 35 (by decide) k hk)) g285
  have g299 : IM (avw K H294 a0) := IM.congr (fun k hk j => av_fld hTH281 ga0 hap wH294 (by decide) (IM_ok 112 (by decide) k hk) (IM_ne 35 (by decide) k hk)) g286
  have m300 := m287.trans (Wr.neR wH294 (Or.inr (x_apart hKT hts inX10 tyX10 tyX10_ok nmX10 rfl 32 35 (by decide) (by decide) (by decide)))).symm
  have m301 := m288.trans (Wr.neR wH294 (Or.inr (x_apart hKT hts inX10 tyX10 tyX10_ok nmX10 rfl 33 35 (by decide) (by decide) (by decide)))).symm
  have m303 := m290.trans (Wr.neI wH294 (Or.inl (G_ne goq ga0 (by decide)))).symm
  have m304 := m291.trans (Wr.neI wH294 (Or.inl (G_ne gaq ga0 (by decide)))).symm
  have m305 := Wr.I wH294
  have m305 := m305.symm
  exact x_vret C hQ dX10_emits_38 hSH294 (by decide) (by decide) (⟨x293, rfl, m305, by omega, m300, m301, g296, g297, g298, g299, mf295, (by rw [show 3000 + mn.toNatClampNeg = x267.toNatClampNeg by omega]; exact m303), (by rw [show 3000 + mn.toNatClampNeg = x280.toNatClampNeg by omega]; exact m304), (fun j hj => (Wr.neI wH294 (Or.inl (G_ne goq ga0 (by decide)))).trans ((Wr.neI wH281 (Or.inl (G_ne goq gaq (by decide)))).trans (Wr.neI wH268 (Or.inr (by omega))))), (fun j hj => (Wr.neI wH294 (Or.inl (G_ne gaq ga0 (by decide)))).trans ((Wr.neI wH281 (Or.inr (by omega))).trans (Wr.neI wH268 (Or.inl (G_ne gaq goq (by decide)))))), hTH294⟩)

set_option maxHeartbeats 4000000 in
set_option maxRecDepth 100000 in
theorem a_X10_fails (l : Launch) (K : KE) (G : Nat → Option Nat) (H : Heap) {a0 : Nat} (x1 : Int32) (hT : TY K G H) (ga0 : G a0 = some 112) (hg_CG : CG (avw K H a0)) (hg_TU : TU (avw K H a0) (svw K H a0)) (hg_WD : WD (avw K H a0)) (hg_IM : IM (avw K H a0)) : MX l K yX10_fails cX10_fails 2 (some .int) 0 0 0 0 [.ref a0, .int x1] H (AE G [112] H.size) (fun v H1 => ∃ (r : Int32), v = some (.int r) ∧ ((-1) ≤ r.toInt ∧ r.toInt ≤ (-1)) ∧ (CG (avw K H1 a0)) ∧ (TU (avw K H1 a0) (svw K H1 a0)) ∧ (WD (avw K H1 a0)) ∧ (IM (avw K H1 a0)) ∧ MF K H H1 a0 [39, 40] ∧ TY K G H1) := by
  refine MX.of (by decide +kernel) (Nat.le_of_ble_eq_true rfl) ?_
  intro p e s m below meth c ls Q C hH hl hQ
  subst hH
  have C : CX p K s m _ meth c RX10 cX10_fails 2 (some .int) "fails" := C
  obtain ⟨hx, hb, hml, hown, hts, hKT, hr, hlocks, hnm⟩ := id C
  have hl : lv_has ls 2 [(0, .ref a0), (1, .int x1)] := hl
  have hS : va_S (AE G [112] s.heap.size) s.heap s.heap [] := va_S.rf
  have n_m1 : ((-1) : Int32).toInt = -1 := rfl
  have hap : ∀ x y, x < 74 → y < 74 → x ≠ y → K.1.2 10 x ≠ K.1.2 10 y := x_apart hKT hts inX10 tyX10 tyX10_ok nmX10 rfl
  have mf0 : MF K s.heap s.heap a0 [39, 40] := fun _ _ _ => rfl
  refine lv_aload_n hx hb dX10_fails_0 rfl (lv_at hl 0 rfl) ?_
  refine lv_iload_n hx hb dX10_fails_1 rfl (lv_at hl 1 rfl) ?_
  refine x_put C hT hS (ci := 10) (k := 39) (v := .int x1) (ty0 := tyX10) rfl inX10 tyX10_ok nmX10 (by decide) rfl wF_X10_222 ga0 rg_112 rfl rfl (okI (by have := i_rng x1; omega) (by have := i_rng x1; omega)) rfl rfl (AE_in ga0 (by decide)) dX10_fails_2 (fun H169 locsH169 hTH169 hSH169 wH169 => ?_)
  have mf170 : MF K s.heap H169 a0 [39, 40] := MF.fld hap wH169 (by decide) (by decide) mf0
  have g171 : CG (avw K H169 a0) := CG.congr (fun k hk j => av_fld hT ga0 hap wH169 (by decide) (CG_ok 112 (by decide) k hk) (CG_ne 39 (by decide) k hk)) hg_CG
  have g172 : TU (avw K H169 a0) (svw K H169 a0) := TU.congr (fun k hk j => av_fld hT ga0 hap wH169 (by decide) (TU_ok 112 (by decide) k hk) (TU_ne 39 (by decide) k hk)) (fun k hk => sv_fld hap wH169 (by decide) (TU_slt k hk) (TU_sne 39 (by decide) k hk)) hg_TU
  have g173 : WD (avw K H169 a0) := WD.congr (fun k hk j => av_fld hT ga0 hap wH169 (by decide) (WD_ok 112 (by decide) k hk) (WD_ne 39 (by decide) k hk)) hg_WD
  have g174 : IM (avw K H169 a0) := IM.congr (fun k hk j => av_fld hT ga0 hap wH169 (by decide) (IM_ok 112 (by decide) k hk) (IM_ne 39 (by decide) k hk)) hg_IM
  have m175 := Wr.I wH169
  have m175 := m175.symm
  refine lv_aload_n hx hb dX10_fails_5 rfl (lv_at hl 0 rfl) ?_
  refine lv_aload_n hx hb dX10_fails_6 rfl (lv_at hl 0 rfl) ?_
  refine x_gi C hTH169 (ci := 10) (k := 20) rfl inX10 (by decide) wF_X10_199 ga0 rg_112 rfl dX10_fails_7 (fun x176 ex176 bx176 => ?_)
  refine x_put C hTH169 hSH169 (ci := 10) (k := 40) (v := .int x176) (ty0 := tyX10) rfl inX10 tyX10_ok nmX10 (by decide) rfl wF_X10_225 ga0 rg_112 rfl rfl (okI (by have := i_rng x176; omega) (by have := i_rng x176; omega)) rfl rfl (AE_in ga0 (by decide)) dX10_fails_10 (fun H177 locsH177 hTH177 hSH177 wH177 => ?_)
  have mf178 : MF K s.heap H177 a0 [39, 40] := MF.fld hap wH177 (by decide) (by decide) mf170
  have g179 : CG (avw K H177 a0) := CG.congr (fun k hk j => av_fld hTH169 ga0 hap wH177 (by decide) (CG_ok 112 (by decide) k hk) (CG_ne 40 (by decide) k hk)) g171
  have g180 : TU (avw K H177 a0) (svw K H177 a0) := TU.congr (fun k hk j => av_fld hTH169 ga0 hap wH177 (by decide) (TU_ok 112 (by decide) k hk) (TU_ne 40 (by decide) k hk)) (fun k hk => sv_fld hap wH177 (by decide) (TU_slt k hk) (TU_sne 40 (by decide) k hk)) g172
  have g181 : WD (avw K H177 a0) := WD.congr (fun k hk j => av_fld hTH169 ga0 hap wH177 (by decide) (WD_ok 112 (by decide) k hk) (WD_ne 40 (by decide) k hk)) g173
  have g182 : IM (avw K H177 a0) := IM.congr (fun k hk j => av_fld hTH169 ga0 hap wH177 (by decide) (IM_ok 112 (by decide) k hk) (IM_ne 40 (by decide) k hk)) g174
  have m183 := m175.trans (Wr.neI wH177 (Or.inr (x_apart hKT hts inX10 tyX10 tyX10_ok nmX10 rfl 39 40 (by decide) (by decide) (by decide)))).symm
  have m184 := ex176.trans (Wr.neI wH177 (Or.inr (x_apart hKT hts inX10 tyX10 tyX10_ok nmX10 rfl 20 40 (by decide) (by decide) (by decide)))).symm
  have m185 := Wr.I wH177
  have m185 := m185.symm
  refine lv_iconst (v := (-1)) hx hb dX10_fails_13 (by decide) ?_
  exact x_iret C hQ dX10_fails_14 hSH177 (by decide) (by decide) (⟨(-1), rfl, by decide, g179, g180, g181, g182, mf178, hTH177⟩)

set_option maxHeartbeats 4000000 in
set_option maxRecDepth 100000 in
theorem a_X10_isWord (l : Launch) (K : KE) (G : Nat → Option Nat) (H : Heap) {a0 : Nat} (x1 : Int32) (tk : Int32) (vl : Int32) (hT : TY K G H) (ga0 : G a0 = some 112) (etk : tk = fI H a0 (K.1.2 10 21)) (evl : vl = fI H a0 (K.1.2 10 22)) : MX l K yX10_isWord cX10_isWord 2 (some .boolean) 0 0 0 0 [.ref a0, .int x1] H (AE G [] H.size) (fun v H1 => ∃ (r : Int32), v = some (.int r) ∧ (0 ≤ r.toInt ∧ r.toInt ≤ 1) ∧ (r.toInt = 0 ∨ (tk.toInt = 2 ∧ vl.toInt = x1.toInt)) ∧ TY K G H1) := by
  refine MX.of (by decide +kernel) (Nat.le_of_ble_eq_true rfl) ?_
  intro p e s m below meth c ls Q C hH hl hQ
  subst hH
  have C : CX p K s m _ meth c RX10 cX10_isWord 2 (some .boolean) "isWord" := C
  obtain ⟨hx, hb, hml, hown, hts, hKT, hr, hlocks, hnm⟩ := id C
  have hl : lv_has ls 2 [(0, .ref a0), (1, .int x1)] := hl
  have hS : va_S (AE G [] s.heap.size) s.heap s.heap [] := va_S.rf
  have n_0 : (0 : Int32).toInt = 0 := rfl
  have n_1 : (1 : Int32).toInt = 1 := rfl
  have n_2 : (2 : Int32).toInt = 2 := rfl
  have btk := ty_fi (x := tk) (k := 21) etk hT ga0 rg_112 rfl
  have bvl := ty_fi (x := vl) (k := 22) evl hT ga0 rg_112 rfl
  have hap : ∀ x y, x < 74 → y < 74 → x ≠ y → K.1.2 10 x ≠ K.1.2 10 y := x_apart hKT hts inX10 tyX10 tyX10_ok nmX10 rfl
  refine lv_aload_n hx hb dX10_isWord_0 rfl (lv_at hl 0 rfl) ?_
  refine x_gi C hT (ci := 10) (k := 21) rfl inX10 (by decide) wF_X10_202 ga0 rg_112 rfl dX10_isWord_1 (fun x125 ex125 bx125 => ?_)
  have ux125 : tk = x125 := (etk).trans ex125.symm
  subst ux125
  refine lv_iconst (v := 2) hx hb dX10_isWord_4 (by decide) ?_
  refine lv_icmp_ne (tgt := 20) hx hb dX10_isWord_5 (by decide) (fun c126 => ?_) (fun c126 => ?_)
  · have k127 := i_ne c126
    refine lv_iconst (v := 0) hx hb dX10_isWord_20 (by decide) ?_
    exact x_zret C hQ (Or.inl rfl) dX10_isWord_21 hS (by decide) (by decide) (⟨0, rfl, by decide, by omega, hT⟩)
  · have k127 := i_eq c126
    refine lv_aload_n hx hb dX10_isWord_8 rfl (lv_at hl 0 rfl) ?_
    refine x_gi C hT (ci := 10) (k := 22) rfl inX10 (by decide) wF_X10_205 ga0 rg_112 rfl dX10_isWord_9 (fun x128 ex128 bx128 => ?_)
    have ux128 : vl = x128 := (evl).trans ex128.symm
    subst ux128
    refine lv_iload_n hx hb dX10_isWord_12 rfl (lv_at hl 1 rfl) ?_
    refine lv_icmp_ne (tgt := 20) hx hb dX10_isWord_13 (by decide) (fun c129 => ?_) (fun c129 => ?_)
    · have k130 := i_ne c129
      refine lv_iconst (v := 0) hx hb dX10_isWord_20 (by decide) ?_
      exact x_zret C hQ (Or.inl rfl) dX10_isWord_21 hS (by decide) (by decide) (⟨0, rfl, by decide, by omega, hT⟩)
    · have k130 := i_eq c129
      refine lv_iconst (v := 1) hx hb dX10_isWord_16 (by decide) ?_
      refine lv_goto (tgt := 21) hx hb dX10_isWord_17 (by decide) ?_
      exact x_zret C hQ (Or.inr rfl) dX10_isWord_21 hS (by decide) (by decide) (⟨1, rfl, by decide, by omega, hT⟩)

set_option maxHeartbeats 4000000 in
set_option maxRecDepth 100000 in
theorem a_X10_isSign (l : Launch) (K : KE) (G : Nat → Option Nat) (H : Heap) {a0 : Nat} (x1 : Int32) (tk : Int32) (vl : Int32) (hT : TY K G H) (ga0 : G a0 = some 112) (etk : tk = fI H a0 (K.1.2 10 21)) (evl : vl = fI H a0 (K.1.2 10 22)) : MX l K yX10_isSign cX10_isSign 2 (some .boolean) 0 0 0 0 [.ref a0, .int x1] H (AE G [] H.size) (fun v H1 => ∃ (r : Int32), v = some (.int r) ∧ (0 ≤ r.toInt ∧ r.toInt ≤ 1) ∧ ((r.toInt = 0 ∧ (tk.toInt ≠ 4 ∨ vl.toInt ≠ x1.toInt)) ∨ (r.toInt = 1 ∧ tk.toInt = 4 ∧ vl.toInt = x1.toInt)) ∧ TY K G H1) := by
  refine MX.of (by decide +kernel) (Nat.le_of_ble_eq_true rfl) ?_
  intro p e s m below meth c ls Q C hH hl hQ
  subst hH
  have C : CX p K s m _ meth c RX10 cX10_isSign 2 (some .boolean) "isSign" := C
  obtain ⟨hx, hb, hml, hown, hts, hKT, hr, hlocks, hnm⟩ := id C
  have hl : lv_has ls 2 [(0, .ref a0), (1, .int x1)] := hl
  have hS : va_S (AE G [] s.heap.size) s.heap s.heap [] := va_S.rf
  have n_0 : (0 : Int32).toInt = 0 := rfl
  have n_1 : (1 : Int32).toInt = 1 := rfl
  have n_4 : (4 : Int32).toInt = 4 := rfl
  have btk := ty_fi (x := tk) (k := 21) etk hT ga0 rg_112 rfl
  have bvl := ty_fi (x := vl) (k := 22) evl hT ga0 rg_112 rfl
  have hap : ∀ x y, x < 74 → y < 74 → x ≠ y → K.1.2 10 x ≠ K.1.2 10 y := x_apart hKT hts inX10 tyX10 tyX10_ok nmX10 rfl
  refine lv_aload_n hx hb dX10_isSign_0 rfl (lv_at hl 0 rfl) ?_
  refine x_gi C hT (ci := 10) (k := 21) rfl inX10 (by decide) wF_X10_202 ga0 rg_112 rfl dX10_isSign_1 (fun x125 ex125 bx125 => ?_)
  have ux125 : tk = x125 := (etk).trans ex125.symm
  subst ux125
  refine lv_iconst (v := 4) hx hb dX10_isSign_4 (by decide) ?_
  refine lv_icmp_ne (tgt := 20) hx hb dX10_isSign_5 (by decide) (fun c126 => ?_) (fun c126 => ?_)
  · have k127 := i_ne c126
    refine lv_iconst (v := 0) hx hb dX10_isSign_20 (by decide) ?_
    exact x_zret C hQ (Or.inl rfl) dX10_isSign_21 hS (by decide) (by decide) (⟨0, rfl, by decide, by omega, hT⟩)
  · have k127 := i_eq c126
    refine lv_aload_n hx hb dX10_isSign_8 rfl (lv_at hl 0 rfl) ?_
    refine x_gi C hT (ci := 10) (k := 22) rfl inX10 (by decide) wF_X10_205 ga0 rg_112 rfl dX10_isSign_9 (fun x128 ex128 bx128 => ?_)
    have ux128 : vl = x128 := (evl).trans ex128.symm
    subst ux128
    refine lv_iload_n hx hb dX10_isSign_12 rfl (lv_at hl 1 rfl) ?_
    refine lv_icmp_ne (tgt := 20) hx hb dX10_isSign_13 (by decide) (fun c129 => ?_) (fun c129 => ?_)
    · have k130 := i_ne c129
      refine lv_iconst (v := 0) hx hb dX10_isSign_20 (by decide) ?_
      exact x_zret C hQ (Or.inl rfl) dX10_isSign_21 hS (by decide) (by decide) (⟨0, rfl, by decide, by omega, hT⟩)
    · have k130 := i_eq c129
      refine lv_iconst (v := 1) hx hb dX10_isSign_16 (by decide) ?_
      refine lv_goto (tgt := 21) hx hb dX10_isSign_17 (by decide) ?_
      exact x_zret C hQ (Or.inr rfl) dX10_isSign_21 hS (by decide) (by decide) (⟨1, rfl, by decide, by omega, hT⟩)

set_option maxHeartbeats 4000000 in
set_option maxRecDepth 100000 in
theorem a_X10_readUnit (l : Launch) (K : KE) (G : Nat → Option Nat) (H : Heap) {a0 : Nat} {oq : Nat} {aq : Nat} (sp : Int32) (fr : Int32) (tk : Int32) (vl : Int32) (mn : Int32) (tp : Int32) (jb : Int32) (hT : TY K G H) (ga0 : G a0 = some 112) (goq : G oq = some 136) (eoq : oq = fR H a0 (K.1.2 10 32)) (gaq : G aq = some 137) (eaq : aq = fR H a0 (K.1.2 10 33)) (esp : sp = fI H a0 (K.1.2 10 19)) (efr : fr = fI H a0 (K.1.2 10 20)) (etk : tk = fI H a0 (K.1.2 10 21)) (evl : vl = fI H a0 (K.1.2 10 22)) (emn : mn = fI H a0 (K.1.2 10 35)) (etp : tp = fI H a0 (K.1.2 10 18)) (ejb : jb = fI H a0 (K.1.2 10 34)) (hg_CG : CG (avw K H a0)) (hg_TU : TU (avw K H a0) (svw K H a0)) (hg_WD : WD (avw K H a0)) (hg_IM : IM (avw K H a0)) (hp0 : (sp.toInt ≤ tp.toInt ∧ fr.toInt ≤ sp.toInt ∧ (tk.toInt = 0 ∨ fr.toInt < sp.toInt) ∧ (tk.toInt ≠ 2 ∨ (0 ≤ vl.toInt ∧ vl.toInt ≤ 23)))) (hp1 : mn.toInt ≤ fr.toInt) : MX l K yX10_readUnit cX10_readUnit 2 (some .int) 3 65 0 0 [.ref a0] H (AE G [112, 136, 137] H.size) (fun v H1 => ∃ (r : Int32) (t0 : Int32) (t1 : Int32) (t2 : Int32) (t3 : Int32) (t4 : Int32), v = some (.int r) ∧ ((-1) ≤ r.toInt ∧ r.toInt ≤ 0) ∧ t0 = fI H1 a0 (K.1.2 10 19) ∧ t1 = fI H1 a0 (K.1.2 10 20) ∧ t2 = fI H1 a0 (K.1.2 10 21) ∧ t3 = fI H1 a0 (K.1.2 10 22) ∧ t4 = fI H1 a0 (K.1.2 10 35) ∧ (r.toInt = -1 ∨ (r.toInt = 0 ∧ t0.toInt ≤ tp.toInt ∧ t1.toInt ≤ t0.toInt ∧ (t2.toInt = 0 ∨ t1.toInt < t0.toInt) ∧ (t2.toInt ≠ 2 ∨ (0 ≤ t3.toInt ∧ t3.toInt ≤ 23)) ∧ t4.toInt = mn.toInt + 1 ∧ sp.toInt ≤ t1.toInt ∧ fr.toInt < t1.toInt)) ∧ oq = fR H1 a0 (K.1.2 10 32) ∧ aq = fR H1 a0 (K.1.2 10 33) ∧ (CG (avw K H1 a0)) ∧ (TU (avw K H1 a0) (svw K H1 a0)) ∧ (WD (avw K H1 a0)) ∧ (IM (avw K H1 a0)) ∧ MF K H H1 a0 [19, 20, 21, 22, 35, 39, 40] ∧ (∀ j : Nat, j < 3000 + mn.toNatClampNeg → fI H1 oq j = fI H oq j ∧ fI H1 aq j = fI H aq j) ∧ (r.toInt = -1 ∨ WF (fun k => fI H1 oq k) (fun k => fI H1 aq k) (3000 + mn.toNatClampNeg) (3000 + t4.toNatClampNeg) 0 1) ∧ (r.toInt = -1 ∨ tk.toInt ≠ 3 ∨ ((fI H1 oq (3000 + mn.toNatClampNeg)).toInt = 0 ∧ (fI H1 aq (3000 + mn.toNatClampNeg)).toInt = vl.toInt)) ∧ TY K G H1) := by
  refine MX.of (by decide +kernel) (Nat.le_of_ble_eq_true rfl) ?_
  intro p e s m below meth c ls Q C hH hl hQ
  subst hH
  have C : CX p K s m _ meth c RX10 cX10_readUnit 2 (some .int) "readUnit" := C
  obtain ⟨hx, hb, hml, hown, hts, hKT, hr, hlocks, hnm⟩ := id C
  have hl : lv_has ls 2 [(0, .ref a0)] := hl
  have hS : va_S (AE G [112, 136, 137] s.heap.size) s.heap s.heap [] := va_S.rf
  have n_0 : (0 : Int32).toInt = 0 := rfl
  have n_1 : (1 : Int32).toInt = 1 := rfl
  have n_2 : (2 : Int32).toInt = 2 := rfl
  have n_3 : (3 : Int32).toInt = 3 := rfl
  have n_10 : (10 : Int32).toInt = 10 := rfl
  have n_19 : (19 : Int32).toInt = 19 := rfl
  have n_20 : (20 : Int32).toInt = 20 := rfl
  have bsp := ty_fi (x := sp) (k := 19) esp hT ga0 rg_112 rfl
  have bfr := ty_fi (x := fr) (k := 20) efr hT ga0 rg_112 rfl
  have btk := ty_fi (x := tk) (k := 21) etk hT ga0 rg_112 rfl
  have bvl := ty_fi (x := vl) (k := 22) evl hT ga0 rg_112 rfl
  have bmn := ty_fi (x := mn) (k := 35) emn hT ga0 rg_112 rfl
  have btp := ty_fi (x := tp) (k := 18) etp hT ga0 rg_112 rfl
  have bjb := ty_fi (x := jb) (k := 34) ejb hT ga0 rg_112 rfl
  have hap : ∀ x y, x < 74 → y < 74 → x ≠ y → K.1.2 10 x ≠ K.1.2 10 y := x_apart hKT hts inX10 tyX10 tyX10_ok nmX10 rfl
  have mf0 : MF K s.heap s.heap a0 [19, 20, 21, 22, 35, 39, 40] := fun _ _ _ => rfl
  have pf00 : ∀ j : Nat, j < 3000 + mn.toNatClampNeg → fI s.heap oq j = fI s.heap oq j ∧ fI s.heap aq j = fI s.heap aq j := fun _ _ => ⟨rfl, rfl⟩
  have hmn := i_cl (x := mn) (by omega)
  refine lv_aload_n hx hb dX10_readUnit_0 rfl (lv_at hl 0 rfl) ?_
  refine x_gi C hT (ci := 10) (k := 21) rfl inX10 (by decide) wF_X10_202 ga0 rg_112 rfl dX10_readUnit_1 (fun x1041 ex1041 bx1041 => ?_)
  have ux1041 : tk = x1041 := (etk).trans ex1041.symm
  subst ux1041
  refine lv_iconst (v := 2) hx hb dX10_readUnit_4 (by decide) ?_
  refine lv_icmp_ne (tgt := 46) hx hb dX10_readUnit_5 (by decide) (fun c1042 => ?_) (fun c1042 => ?_)
  · have k1043 := i_ne c1042
    refine lv_iconst (v := 0) hx hb dX10_readUnit_46 (by decide) ?_
    refine lv_istore_n (lv' := [(1, .int 0), (0, .ref a0)]) hx hb dX10_readUnit_47 rfl hl (by decide) rfl (fun ls1044 hl1045 => ?_)
    refine lv_iload_n hx hb dX10_readUnit_48 rfl (lv_at hl1045 0 rfl) ?_
    refine lv_if_ne (tgt := 66) hx hb dX10_readUnit_49 (by decide) (fun c1046 => ?_) (fun c1046 => ?_)
    · have k1047 := i_ne c1046
      exfalso
      omega
    · have k1047 := i_eq c1046
      refine lv_aload_n hx hb dX10_readUnit_52 rfl (lv_at hl1045 1 rfl) ?_
      refine x_gi C hT (ci := 10) (k := 21) rfl inX10 (by decide) wF_X10_202 ga0 rg_112 rfl dX10_readUnit_53 (fun x1048 ex1048 bx1048 => ?_)
      have ux1048 : tk = x1048 := (etk).trans ex1048.symm
      subst ux1048
      refine lv_iconst (v := 3) hx hb dX10_readUnit_56 (by decide) ?_
      refine lv_icmp_eq (tgt := 66) hx hb dX10_readUnit_57 (by decide) (fun c1049 => ?_) (fun c1049 => ?_)
      · have k1050 := i_eq c1049
        refine lv_aload_n hx hb dX10_readUnit_66 rfl (lv_at hl1045 1 rfl) ?_
        refine lv_iload_n hx hb dX10_readUnit_67 rfl (lv_at hl1045 0 rfl) ?_
        refine lv_if_eq (tgt := 75) hx hb dX10_readUnit_68 (by decide) (fun c1051 => ?_) (fun c1051 => ?_)
        · have k1052 := i_eq c1051
          refine lv_iconst (v := 0) hx hb dX10_readUnit_75 (by decide) ?_
          refine lv_iload_n hx hb dX10_readUnit_76 rfl (lv_at hl1045 0 rfl) ?_
          refine lv_if_eq (tgt := 90) hx hb dX10_readUnit_77 (by decide) (fun c1053 => ?_) (fun c1053 => ?_)
          · have k1054 := i_eq c1053
            refine lv_aload_n hx hb dX10_readUnit_90 rfl (lv_at hl1045 1 rfl) ?_
            refine x_gi C hT (ci := 10) (k := 22) rfl inX10 (by decide) wF_X10_205 ga0 rg_112 rfl dX10_readUnit_91 (fun x1055 ex1055 bx1055 => ?_)
            have ux1055 : vl = x1055 := (evl).trans ex1055.symm
            subst ux1055
            refine x_V (As := [.int 0, .int vl]) (rest := []) C (a_X10_emits l K G s.heap (0) (vl) (mn) hT ga0 goq eoq gaq eaq emn hg_CG hg_TU hg_WD hg_IM (by omega)) yo_X10_emits wM_X10_238 ⟨⟨by decide, by decide⟩, by decide, by decide⟩ (x_rv C hT (ci := 10) rfl ga0 rg_112) rfl hl1045.1 rfl (Nat.le_of_ble_eq_true rfl) dX10_readUnit_94 hS (AE_sub (fun _ _ => rfl) (by decide) hS.1) (fun vH1056 H1056 locsH1056 pH1056 zH1056 kH1056 hSH1056 => ?_)
            obtain ⟨x1057, hvH1056, ex1057, hrH1056, m1058, m1059, g1060, g1061, g1062, g1063, mf1064, m1065, m1066, m1067, m1068, hTH1056⟩ := pH1056
            subst hvH1056
            have m1069 := (eoq).trans (MF.r mf1064 (k := 32) (by decide) (by decide)).symm
            have m1070 := (eaq).trans (MF.r mf1064 (k := 33) (by decide) (by decide)).symm
            have m1071 := (esp).trans (MF.i mf1064 (k := 19) (by decide) (by decide)).symm
            have m1072 := (efr).trans (MF.i mf1064 (k := 20) (by decide) (by decide)).symm
            have m1073 := (etk).trans (MF.i mf1064 (k := 21) (by decide) (by decide)).symm
            have m1074 := (evl).trans (MF.i mf1064 (k := 22) (by decide) (by decide)).symm
            have m1075 := (etp).trans (MF.i mf1064 (k := 18) (by decide) (by decide)).symm
            have m1076 := (ejb).trans (MF.i mf1064 (k := 34) (by decide) (by decide)).symm
            have mf1077 : MF K s.heap H1056 a0 [19, 20, 21, 22, 35, 39, 40] := MF.trans mf0 mf1064 (by decide)
            have bx1057 := ty_fi (x := x1057) (k := 35) ex1057 hTH1056 ga0 rg_112 rfl
            have cem1068 := i_cl (x := mn) (by omega)
            have b1078 : ∀ j : Nat, j < 3000 + mn.toNatClampNeg → fI H1056 oq j = fI s.heap oq j ∧ fI H1056 aq j = fI s.heap aq j := fun j hj => ⟨(m1067 j (by omega)).trans (pf00 j hj).1, (m1068 j (by omega)).trans (pf00 j hj).2⟩
            refine W.eq (g2 := F0 m 97 ls1044 []) rfl ?_
            have wf0 : WF (fun k => fI H1056 oq k) (fun k => fI H1056 aq k) (3000 + mn.toNatClampNeg) (3000 + mn.toNatClampNeg + 1) 0 1 := WF.num (by show (fI _ oq _).toInt = _; rw [← m1065]; rfl)
            have ev0 : (fI H1056 oq (3000 + mn.toNatClampNeg)).toInt = 0 ∧ (fI H1056 aq (3000 + mn.toNatClampNeg)).toInt = vl.toInt := ⟨by rw [← m1065]; rfl, by rw [← m1066]⟩
            refine lv_aload_n hx hb dX10_readUnit_97 rfl (lv_at hl1045 1 rfl) ?_
            obtain ⟨q1079, eq1079⟩ : ∃ z : Nat, z = fR H1056 a0 (K.1.2 10 17) := ⟨_, rfl⟩
            have gq1079 := ty_fr (q := q1079) (k := 17) (u := 126) eq1079 hTH1056 ga0 rg_112 rfl
            refine x_V (As := []) (rest := []) C (a_X10_reads l K G H1056 (sp) (fr) (tk) (vl) (tp) hTH1056 ga0 gq1079 eq1079 m1071 m1072 m1073 m1074 m1075 g1060 g1061 g1062 g1063 (by omega)) yo_X10_reads wM_X10_242 ⟨⟨by decide, by decide⟩, by decide, by decide⟩ (x_rv C hTH1056 (ci := 10) rfl ga0 rg_112) rfl hl1045.1 rfl (Nat.le_of_ble_eq_true rfl) dX10_readUnit_98 hSH1056 (AE_sub (fun _ _ => rfl) (by decide) hSH1056.1) (fun vH1080 H1080 locsH1080 pH1080 zH1080 kH1080 hSH1080 => ?_)
            obtain ⟨x1081, x1082, x1083, x1084, hvH1080, ex1081, ex1082, ex1083, ex1084, hrH1080, m1085, g1086, g1087, g1088, g1089, mf1090, hTH1080⟩ := pH1080
            subst hvH1080
            have b1091 : ∀ j : Nat, j < 3000 + mn.toNatClampNeg → fI H1080 oq j = fI s.heap oq j ∧ fI H1080 aq j = fI s.heap aq j := fun j hj => ⟨(fI_kept (x_lt hTH1056 kH1080 goq (by decide))).trans (b1078 j hj).1, (fI_kept (x_lt hTH1056 kH1080 gaq (by decide))).trans (b1078 j hj).2⟩
            have b1092 : (fI H1080 oq (3000 + mn.toNatClampNeg)).toInt = 0 ∧ (fI H1080 aq (3000 + mn.toNatClampNeg)).toInt = vl.toInt := ⟨(congrArg Int32.toInt (fI_kept (x_lt hTH1056 kH1080 goq (by decide)))).trans ev0.1, (congrArg Int32.toInt (fI_kept (x_lt hTH1056 kH1080 gaq (by decide)))).trans ev0.2⟩
            have b1093 : WF (fun k => fI H1080 oq k) (fun k => fI H1080 aq k) (3000 + mn.toNatClampNeg) (3000 + mn.toNatClampNeg + 1) 0 1 := WF.congr (fun j => fI_kept (x_lt hTH1056 kH1080 goq (by decide))) (fun j => fI_kept (x_lt hTH1056 kH1080 gaq (by decide))) wf0
            have m1094 := (m1058).trans (MF.r mf1090 (k := 32) (by decide) (by decide)).symm
            have m1095 := (m1059).trans (MF.r mf1090 (k := 33) (by decide) (by decide)).symm
            have m1096 := (m1075).trans (MF.i mf1090 (k := 18) (by decide) (by decide)).symm
            have m1097 := (m1076).trans (MF.i mf1090 (k := 34) (by decide) (by decide)).symm
            have m1098 := (ex1057).trans (MF.i mf1090 (k := 35) (by decide) (by decide)).symm
            have m1099 := (eq1079).trans (MF.r mf1090 (k := 17) (by decide) (by decide)).symm
            have mf1100 : MF K s.heap H1080 a0 [19, 20, 21, 22, 35, 39, 40] := MF.trans mf1077 mf1090 (by decide)
            have bx1081 := ty_fi (x := x1081) (k := 19) ex1081 hTH1080 ga0 rg_112 rfl
            have bx1082 := ty_fi (x := x1082) (k := 20) ex1082 hTH1080 ga0 rg_112 rfl
            have bx1083 := ty_fi (x := x1083) (k := 21) ex1083 hTH1080 ga0 rg_112 rfl
            have bx1084 := ty_fi (x := x1084) (k := 22) ex1084 hTH1080 ga0 rg_112 rfl
            refine W.eq (g2 := F0 m 101 ls1044 []) rfl ?_
            refine lv_iconst (v := 0) hx hb dX10_readUnit_101 (by decide) ?_
            have cr_mn := i_cl (x := mn) (by omega)
            have cr_x1057 := i_cl (x := x1057) (by omega)
            exact x_iret C hQ dX10_readUnit_102 hSH1080 (by decide) (by decide) (⟨0, x1081, x1082, x1083, x1084, x1057, rfl, by decide, ex1081, ex1082, ex1083, ex1084, m1098, by omega, m1094, m1095, g1086, g1087, g1088, g1089, mf1100, b1091, Or.inr (WF.cast b1093 (by omega) (by omega)), Or.inr (Or.inr b1092), hTH1080⟩)
          · have k1054 := i_ne c1053
            exfalso
            omega
        · have k1052 := i_ne c1051
          exfalso
          omega
      · have k1050 := i_ne c1049
        refine lv_aload_n hx hb dX10_readUnit_60 rfl (lv_at hl1045 1 rfl) ?_
        refine lv_iconst (v := 1) hx hb dX10_readUnit_61 (by decide) ?_
        refine x_V (As := [.int 1]) (rest := []) C (a_X10_fails l K G s.heap (1) hT ga0 hg_CG hg_TU hg_WD hg_IM) yo_X10_fails wM_X10_235 ⟨⟨by decide, by decide⟩, by decide, by decide⟩ (x_rv C hT (ci := 10) rfl ga0 rg_112) rfl hl1045.1 rfl (Nat.le_of_ble_eq_true rfl) dX10_readUnit_62 hS (AE_sub (fun _ _ => rfl) (by decide) hS.1) (fun vH1101 H1101 locsH1101 pH1101 zH1101 kH1101 hSH1101 => ?_)
        obtain ⟨x1102, hvH1101, bx1102, g1103, g1104, g1105, g1106, mf1107, hTH1101⟩ := pH1101
        subst hvH1101
        have b1108 : ∀ j : Nat, j < 3000 + mn.toNatClampNeg → fI H1101 oq j = fI s.heap oq j ∧ fI H1101 aq j = fI s.heap aq j := fun j hj => ⟨(fI_kept (x_lt hT kH1101 goq (by decide))).trans (pf00 j hj).1, (fI_kept (x_lt hT kH1101 gaq (by decide))).trans (pf00 j hj).2⟩
        have m1109 := (eoq).trans (MF.r mf1107 (k := 32) (by decide) (by decide)).symm
        have m1110 := (eaq).trans (MF.r mf1107 (k := 33) (by decide) (by decide)).symm
        have m1111 := (esp).trans (MF.i mf1107 (k := 19) (by decide) (by decide)).symm
        have m1112 := (efr).trans (MF.i mf1107 (k := 20) (by decide) (by decide)).symm
        have m1113 := (etk).trans (MF.i mf1107 (k := 21) (by decide) (by decide)).symm
        have m1114 := (evl).trans (MF.i mf1107 (k := 22) (by decide) (by decide)).symm
        have m1115 := (emn).trans (MF.i mf1107 (k := 35) (by decide) (by decide)).symm
        have m1116 := (etp).trans (MF.i mf1107 (k := 18) (by decide) (by decide)).symm
        have m1117 := (ejb).trans (MF.i mf1107 (k := 34) (by decide) (by decide)).symm
        have mf1118 : MF K s.heap H1101 a0 [19, 20, 21, 22, 35, 39, 40] := MF.trans mf0 mf1107 (by decide)
        refine W.eq (g2 := F0 m 65 ls1044 [.int x1102]) rfl ?_
        exact x_iret C hQ dX10_readUnit_65 hSH1101 (by decide) (by decide) (⟨x1102, sp, fr, tk, vl, mn, rfl, by omega, m1111, m1112, m1113, m1114, m1115, by omega, m1109, m1110, g1103, g1104, g1105, g1106, mf1118, b1108, Or.inl (by omega), Or.inl (by omega), hTH1101⟩)
  · have k1043 := i_eq c1042
    refine lv_aload_n hx hb dX10_readUnit_8 rfl (lv_at hl 0 rfl) ?_
    refine x_gi C hT (ci := 10) (k := 34) rfl inX10 (by decide) wF_X10_231 ga0 rg_112 rfl dX10_readUnit_9 (fun x1119 ex1119 bx1119 => ?_)
    have ux1119 : jb = x1119 := (ejb).trans ex1119.symm
    subst ux1119
    refine lv_if_eq (tgt := 27) hx hb dX10_readUnit_12 (by decide) (fun c1120 => ?_) (fun c1120 => ?_)
    · have k1121 := i_eq c1120
      refine lv_aload_n hx hb dX10_readUnit_27 rfl (lv_at hl 0 rfl) ?_
      refine lv_aload_n hx hb dX10_readUnit_28 rfl (lv_at hl 0 rfl) ?_
      refine x_gi C hT (ci := 10) (k := 22) rfl inX10 (by decide) wF_X10_205 ga0 rg_112 rfl dX10_readUnit_29 (fun x1122 ex1122 bx1122 => ?_)
      have ux1122 : vl = x1122 := (evl).trans ex1122.symm
      subst ux1122
      refine lv_bipush (v := 10) hx hb dX10_readUnit_32 (by decide) ?_
      refine lv_bipush (v := 19) hx hb dX10_readUnit_34 (by decide) ?_
      refine x_V (As := [.int vl, .int 10, .int 19]) (rest := []) C (c_X10_isIn l K G s.heap (vl) (10) (19) hT ga0) yo_X10_isIn wM_X10_177 ⟨⟨by decide, by decide⟩, by decide, by decide⟩ (x_rv C hT (ci := 10) rfl ga0 rg_112) rfl hl.1 rfl (Nat.le_of_ble_eq_true rfl) dX10_readUnit_36 hS (AE_sub (fun _ _ => rfl) (by decide) hS.1) (fun vH1123 H1123 locsH1123 pH1123 zH1123 kH1123 hSH1123 => ?_)
      have hqH1123 := pH1123.1.symm
      subst hqH1123
      rcases pH1123.2 with ⟨hvH1123, hcH1123⟩ | ⟨hvH1123, hcH1123⟩
      · subst hvH1123
        refine W.eq (g2 := F0 m 39 ls [.int 1]) rfl ?_
        refine lv_if_eq (tgt := 46) hx hb dX10_readUnit_39 (by decide) (fun c1124 => ?_) (fun c1124 => ?_)
        · have k1125 := i_eq c1124
          exfalso
          omega
        · have k1125 := i_ne c1124
          refine lv_iconst (v := 1) hx hb dX10_readUnit_42 (by decide) ?_
          refine lv_goto (tgt := 47) hx hb dX10_readUnit_43 (by decide) ?_
          refine lv_istore_n (lv' := [(1, .int 1), (0, .ref a0)]) hx hb dX10_readUnit_47 rfl hl (by decide) rfl (fun ls1126 hl1127 => ?_)
          refine lv_iload_n hx hb dX10_readUnit_48 rfl (lv_at hl1127 0 rfl) ?_
          refine lv_if_ne (tgt := 66) hx hb dX10_readUnit_49 (by decide) (fun c1128 => ?_) (fun c1128 => ?_)
          · have k1129 := i_ne c1128
            refine lv_aload_n hx hb dX10_readUnit_66 rfl (lv_at hl1127 1 rfl) ?_
            refine lv_iload_n hx hb dX10_readUnit_67 rfl (lv_at hl1127 0 rfl) ?_
            refine lv_if_eq (tgt := 75) hx hb dX10_readUnit_68 (by decide) (fun c1130 => ?_) (fun c1130 => ?_)
            · have k1131 := i_eq c1130
              exfalso
              omega
            · have k1131 := i_ne c1130
              refine lv_iconst (v := 1) hx hb dX10_readUnit_71 (by decide) ?_
              refine lv_goto (tgt := 76) hx hb dX10_readUnit_72 (by decide) ?_
              refine lv_iload_n hx hb dX10_readUnit_76 rfl (lv_at hl1127 0 rfl) ?_
              refine lv_if_eq (tgt := 90) hx hb dX10_readUnit_77 (by decide) (fun c1132 => ?_) (fun c1132 => ?_)
              · have k1133 := i_eq c1132
                exfalso
                omega
              · have k1133 := i_ne c1132
                refine lv_aload_n hx hb dX10_readUnit_80 rfl (lv_at hl1127 1 rfl) ?_
                refine x_gi C hT (ci := 10) (k := 22) rfl inX10 (by decide) wF_X10_205 ga0 rg_112 rfl dX10_readUnit_81 (fun x1134 ex1134 bx1134 => ?_)
                have ux1134 : vl = x1134 := (evl).trans ex1134.symm
                subst ux1134
                refine lv_bipush (v := 10) hx hb dX10_readUnit_84 (by decide) ?_
                refine lv_isub hx hb dX10_readUnit_86 ?_
                refine lv_topi (fun x1135 ex1135 => ?_)
                have tx1135 := i_sub ex1135 (by omega)
                refine lv_goto (tgt := 94) hx hb dX10_readUnit_87 (by decide) ?_
                refine x_V (As := [.int 1, .int x1135]) (rest := []) C (a_X10_emits l K G s.heap (1) (x1135) (mn) hT ga0 goq eoq gaq eaq emn hg_CG hg_TU hg_WD hg_IM (by omega)) yo_X10_emits wM_X10_238 ⟨⟨by decide, by decide⟩, by decide, by decide⟩ (x_rv C hT (ci := 10) rfl ga0 rg_112) rfl hl1127.1 rfl (Nat.le_of_ble_eq_true rfl) dX10_readUnit_94 hSH1123 (AE_sub (fun _ _ => rfl) (by decide) hSH1123.1) (fun vH1136 H1136 locsH1136 pH1136 zH1136 kH1136 hSH1136 => ?_)
                obtain ⟨x1137, hvH1136, ex1137, hrH1136, m1138, m1139, g1140, g1141, g1142, g1143, mf1144, m1145, m1146, m1147, m1148, hTH1136⟩ := pH1136
                subst hvH1136
                have m1149 := (eoq).trans (MF.r mf1144 (k := 32) (by decide) (by decide)).symm
                have m1150 := (eaq).trans (MF.r mf1144 (k := 33) (by decide) (by decide)).symm
                have m1151 := (esp).trans (MF.i mf1144 (k := 19) (by decide) (by decide)).symm
                have m1152 := (efr).trans (MF.i mf1144 (k := 20) (by decide) (by decide)).symm
                have m1153 := (etk).trans (MF.i mf1144 (k := 21) (by decide) (by decide)).symm
                have m1154 := (evl).trans (MF.i mf1144 (k := 22) (by decide) (by decide)).symm
                have m1155 := (etp).trans (MF.i mf1144 (k := 18) (by decide) (by decide)).symm
                have m1156 := (ejb).trans (MF.i mf1144 (k := 34) (by decide) (by decide)).symm
                have mf1157 : MF K s.heap H1136 a0 [19, 20, 21, 22, 35, 39, 40] := MF.trans mf0 mf1144 (by decide)
                have bx1137 := ty_fi (x := x1137) (k := 35) ex1137 hTH1136 ga0 rg_112 rfl
                have cem1148 := i_cl (x := mn) (by omega)
                have b1158 : ∀ j : Nat, j < 3000 + mn.toNatClampNeg → fI H1136 oq j = fI s.heap oq j ∧ fI H1136 aq j = fI s.heap aq j := fun j hj => ⟨(m1147 j (by omega)).trans (pf00 j hj).1, (m1148 j (by omega)).trans (pf00 j hj).2⟩
                refine W.eq (g2 := F0 m 97 ls1126 []) rfl ?_
                have wf0 : WF (fun k => fI H1136 oq k) (fun k => fI H1136 aq k) (3000 + mn.toNatClampNeg) (3000 + mn.toNatClampNeg + 1) 0 1 := WF.ask (by show (fI _ oq _).toInt = _; rw [← m1145]; rfl) (by show 0 ≤ (fI _ aq _).toInt ∧ (fI _ aq _).toInt ≤ 13; rw [← m1146]; omega)
                refine lv_aload_n hx hb dX10_readUnit_97 rfl (lv_at hl1127 1 rfl) ?_
                obtain ⟨q1159, eq1159⟩ : ∃ z : Nat, z = fR H1136 a0 (K.1.2 10 17) := ⟨_, rfl⟩
                have gq1159 := ty_fr (q := q1159) (k := 17) (u := 126) eq1159 hTH1136 ga0 rg_112 rfl
                refine x_V (As := []) (rest := []) C (a_X10_reads l K G H1136 (sp) (fr) (tk) (vl) (tp) hTH1136 ga0 gq1159 eq1159 m1151 m1152 m1153 m1154 m1155 g1140 g1141 g1142 g1143 (by omega)) yo_X10_reads wM_X10_242 ⟨⟨by decide, by decide⟩, by decide, by decide⟩ (x_rv C hTH1136 (ci := 10) rfl ga0 rg_112) rfl hl1127.1 rfl (Nat.le_of_ble_eq_true rfl) dX10_readUnit_98 hSH1136 (AE_sub (fun _ _ => rfl) (by decide) hSH1136.1) (fun vH1160 H1160 locsH1160 pH1160 zH1160 kH1160 hSH1160 => ?_)
                obtain ⟨x1161, x1162, x1163, x1164, hvH1160, ex1161, ex1162, ex1163, ex1164, hrH1160, m1165, g1166, g1167, g1168, g1169, mf1170, hTH1160⟩ := pH1160
                subst hvH1160
                have b1171 : ∀ j : Nat, j < 3000 + mn.toNatClampNeg → fI H1160 oq j = fI s.heap oq j ∧ fI H1160 aq j = fI s.heap aq j := fun j hj => ⟨(fI_kept (x_lt hTH1136 kH1160 goq (by decide))).trans (b1158 j hj).1, (fI_kept (x_lt hTH1136 kH1160 gaq (by decide))).trans (b1158 j hj).2⟩
                have b1172 : WF (fun k => fI H1160 oq k) (fun k => fI H1160 aq k) (3000 + mn.toNatClampNeg) (3000 + mn.toNatClampNeg + 1) 0 1 := WF.congr (fun j => fI_kept (x_lt hTH1136 kH1160 goq (by decide))) (fun j => fI_kept (x_lt hTH1136 kH1160 gaq (by decide))) wf0
                have m1173 := (m1138).trans (MF.r mf1170 (k := 32) (by decide) (by decide)).symm
                have m1174 := (m1139).trans (MF.r mf1170 (k := 33) (by decide) (by decide)).symm
                have m1175 := (m1155).trans (MF.i mf1170 (k := 18) (by decide) (by decide)).symm
                have m1176 := (m1156).trans (MF.i mf1170 (k := 34) (by decide) (by decide)).symm
                have m1177 := (ex1137).trans (MF.i mf1170 (k := 35) (by decide) (by decide)).symm
                have m1178 := (eq1159).trans (MF.r mf1170 (k := 17) (by decide) (by decide)).symm
                have mf1179 : MF K s.heap H1160 a0 [19, 20, 21, 22, 35, 39, 40] := MF.trans mf1157 mf1170 (by decide)
                have bx1161 := ty_fi (x := x1161) (k := 19) ex1161 hTH1160 ga0 rg_112 rfl
                have bx1162 := ty_fi (x := x1162) (k := 20) ex1162 hTH1160 ga0 rg_112 rfl
                have bx1163 := ty_fi (x := x1163) (k := 21) ex1163 hTH1160 ga0 rg_112 rfl
                have bx1164 := ty_fi (x := x1164) (k := 22) ex1164 hTH1160 ga0 rg_112 rfl
                refine W.eq (g2 := F0 m 101 ls1126 []) rfl ?_
                refine lv_iconst (v := 0) hx hb dX10_readUnit_101 (by decide) ?_
                have cr_mn := i_cl (x := mn) (by omega)
                have cr_x1137 := i_cl (x := x1137) (by omega)
                exact x_iret C hQ dX10_readUnit_102 hSH1160 (by decide) (by decide) (⟨0, x1161, x1162, x1163, x1164, x1137, rfl, by decide, ex1161, ex1162, ex1163, ex1164, m1177, by omega, m1173, m1174, g1166, g1167, g1168, g1169, mf1179, b1171, Or.inr (WF.cast b1172 (by omega) (by omega)), Or.inr (Or.inl (by omega)), hTH1160⟩)
          · have k1129 := i_eq c1128
            exfalso
            omega
      · subst hvH1123
        refine W.eq (g2 := F0 m 39 ls [.int 0]) rfl ?_
        refine lv_if_eq (tgt := 46) hx hb dX10_readUnit_39 (by decide) (fun c1180 => ?_) (fun c1180 => ?_)
        · have k1181 := i_eq c1180
          refine lv_iconst (v := 0) hx hb dX10_readUnit_46 (by decide) ?_
          refine lv_istore_n (lv' := [(1, .int 0), (0, .ref a0)]) hx hb dX10_readUnit_47 rfl hl (by decide) rfl (fun ls1182 hl1183 => ?_)
          refine lv_iload_n hx hb dX10_readUnit_48 rfl (lv_at hl1183 0 rfl) ?_
          refine lv_if_ne (tgt := 66) hx hb dX10_readUnit_49 (by decide) (fun c1184 => ?_) (fun c1184 => ?_)
          · have k1185 := i_ne c1184
            exfalso
            omega
          · have k1185 := i_eq c1184
            refine lv_aload_n hx hb dX10_readUnit_52 rfl (lv_at hl1183 1 rfl) ?_
            refine x_gi C hT (ci := 10) (k := 21) rfl inX10 (by decide) wF_X10_202 ga0 rg_112 rfl dX10_readUnit_53 (fun x1186 ex1186 bx1186 => ?_)
            have ux1186 : tk = x1186 := (etk).trans ex1186.symm
            subst ux1186
            refine lv_iconst (v := 3) hx hb dX10_readUnit_56 (by decide) ?_
            refine lv_icmp_eq (tgt := 66) hx hb dX10_readUnit_57 (by decide) (fun c1187 => ?_) (fun c1187 => ?_)
            · have k1188 := i_eq c1187
              exfalso
              omega
            · have k1188 := i_ne c1187
              refine lv_aload_n hx hb dX10_readUnit_60 rfl (lv_at hl1183 1 rfl) ?_
              refine lv_iconst (v := 1) hx hb dX10_readUnit_61 (by decide) ?_
              refine x_V (As := [.int 1]) (rest := []) C (a_X10_fails l K G s.heap (1) hT ga0 hg_CG hg_TU hg_WD hg_IM) yo_X10_fails wM_X10_235 ⟨⟨by decide, by decide⟩, by decide, by decide⟩ (x_rv C hT (ci := 10) rfl ga0 rg_112) rfl hl1183.1 rfl (Nat.le_of_ble_eq_true rfl) dX10_readUnit_62 hSH1123 (AE_sub (fun _ _ => rfl) (by decide) hSH1123.1) (fun vH1189 H1189 locsH1189 pH1189 zH1189 kH1189 hSH1189 => ?_)
              obtain ⟨x1190, hvH1189, bx1190, g1191, g1192, g1193, g1194, mf1195, hTH1189⟩ := pH1189
              subst hvH1189
              have b1196 : ∀ j : Nat, j < 3000 + mn.toNatClampNeg → fI H1189 oq j = fI s.heap oq j ∧ fI H1189 aq j = fI s.heap aq j := fun j hj => ⟨(fI_kept (x_lt hT kH1189 goq (by decide))).trans (pf00 j hj).1, (fI_kept (x_lt hT kH1189 gaq (by decide))).trans (pf00 j hj).2⟩
              have m1197 := (eoq).trans (MF.r mf1195 (k := 32) (by decide) (by decide)).symm
              have m1198 := (eaq).trans (MF.r mf1195 (k := 33) (by decide) (by decide)).symm
              have m1199 := (esp).trans (MF.i mf1195 (k := 19) (by decide) (by decide)).symm
              have m1200 := (efr).trans (MF.i mf1195 (k := 20) (by decide) (by decide)).symm
              have m1201 := (etk).trans (MF.i mf1195 (k := 21) (by decide) (by decide)).symm
              have m1202 := (evl).trans (MF.i mf1195 (k := 22) (by decide) (by decide)).symm
              have m1203 := (emn).trans (MF.i mf1195 (k := 35) (by decide) (by decide)).symm
              have m1204 := (etp).trans (MF.i mf1195 (k := 18) (by decide) (by decide)).symm
              have m1205 := (ejb).trans (MF.i mf1195 (k := 34) (by decide) (by decide)).symm
              have mf1206 : MF K s.heap H1189 a0 [19, 20, 21, 22, 35, 39, 40] := MF.trans mf0 mf1195 (by decide)
              refine W.eq (g2 := F0 m 65 ls1182 [.int x1190]) rfl ?_
              exact x_iret C hQ dX10_readUnit_65 hSH1189 (by decide) (by decide) (⟨x1190, sp, fr, tk, vl, mn, rfl, by omega, m1199, m1200, m1201, m1202, m1203, by omega, m1197, m1198, g1191, g1192, g1193, g1194, mf1206, b1196, Or.inl (by omega), Or.inl (by omega), hTH1189⟩)
        · have k1181 := i_ne c1180
          exfalso
          omega
    · have k1121 := i_ne c1120
      refine lv_aload_n hx hb dX10_readUnit_15 rfl (lv_at hl 0 rfl) ?_
      refine x_gi C hT (ci := 10) (k := 22) rfl inX10 (by decide) wF_X10_205 ga0 rg_112 rfl dX10_readUnit_16 (fun x1207 ex1207 bx1207 => ?_)
      have ux1207 : vl = x1207 := (evl).trans ex1207.symm
      subst ux1207
      refine lv_bipush (v := 20) hx hb dX10_readUnit_19 (by decide) ?_
      refine lv_icmp_lt (tgt := 46) hx hb dX10_readUnit_21 (by decide) (fun c1208 => ?_) (fun c1208 => ?_)
      · have k1209 := i_lt c1208
        refine lv_iconst (v := 0) hx hb dX10_readUnit_46 (by decide) ?_
        refine lv_istore_n (lv' := [(1, .int 0), (0, .ref a0)]) hx hb dX10_readUnit_47 rfl hl (by decide) rfl (fun ls1210 hl1211 => ?_)
        refine lv_iload_n hx hb dX10_readUnit_48 rfl (lv_at hl1211 0 rfl) ?_
        refine lv_if_ne (tgt := 66) hx hb dX10_readUnit_49 (by decide) (fun c1212 => ?_) (fun c1212 => ?_)
        · have k1213 := i_ne c1212
          exfalso
          omega
        · have k1213 := i_eq c1212
          refine lv_aload_n hx hb dX10_readUnit_52 rfl (lv_at hl1211 1 rfl) ?_
          refine x_gi C hT (ci := 10) (k := 21) rfl inX10 (by decide) wF_X10_202 ga0 rg_112 rfl dX10_readUnit_53 (fun x1214 ex1214 bx1214 => ?_)
          have ux1214 : tk = x1214 := (etk).trans ex1214.symm
          subst ux1214
          refine lv_iconst (v := 3) hx hb dX10_readUnit_56 (by decide) ?_
          refine lv_icmp_eq (tgt := 66) hx hb dX10_readUnit_57 (by decide) (fun c1215 => ?_) (fun c1215 => ?_)
          · have k1216 := i_eq c1215
            exfalso
            omega
          · have k1216 := i_ne c1215
            refine lv_aload_n hx hb dX10_readUnit_60 rfl (lv_at hl1211 1 rfl) ?_
            refine lv_iconst (v := 1) hx hb dX10_readUnit_61 (by decide) ?_
            refine x_V (As := [.int 1]) (rest := []) C (a_X10_fails l K G s.heap (1) hT ga0 hg_CG hg_TU hg_WD hg_IM) yo_X10_fails wM_X10_235 ⟨⟨by decide, by decide⟩, by decide, by decide⟩ (x_rv C hT (ci := 10) rfl ga0 rg_112) rfl hl1211.1 rfl (Nat.le_of_ble_eq_true rfl) dX10_readUnit_62 hS (AE_sub (fun _ _ => rfl) (by decide) hS.1) (fun vH1217 H1217 locsH1217 pH1217 zH1217 kH1217 hSH1217 => ?_)
            obtain ⟨x1218, hvH1217, bx1218, g1219, g1220, g1221, g1222, mf1223, hTH1217⟩ := pH1217
            subst hvH1217
            have b1224 : ∀ j : Nat, j < 3000 + mn.toNatClampNeg → fI H1217 oq j = fI s.heap oq j ∧ fI H1217 aq j = fI s.heap aq j := fun j hj => ⟨(fI_kept (x_lt hT kH1217 goq (by decide))).trans (pf00 j hj).1, (fI_kept (x_lt hT kH1217 gaq (by decide))).trans (pf00 j hj).2⟩
            have m1225 := (eoq).trans (MF.r mf1223 (k := 32) (by decide) (by decide)).symm
            have m1226 := (eaq).trans (MF.r mf1223 (k := 33) (by decide) (by decide)).symm
            have m1227 := (esp).trans (MF.i mf1223 (k := 19) (by decide) (by decide)).symm
            have m1228 := (efr).trans (MF.i mf1223 (k := 20) (by decide) (by decide)).symm
            have m1229 := (etk).trans (MF.i mf1223 (k := 21) (by decide) (by decide)).symm
            have m1230 := (evl).trans (MF.i mf1223 (k := 22) (by decide) (by decide)).symm
            have m1231 := (emn).trans (MF.i mf1223 (k := 35) (by decide) (by decide)).symm
            have m1232 := (etp).trans (MF.i mf1223 (k := 18) (by decide) (by decide)).symm
            have m1233 := (ejb).trans (MF.i mf1223 (k := 34) (by decide) (by decide)).symm
            have mf1234 : MF K s.heap H1217 a0 [19, 20, 21, 22, 35, 39, 40] := MF.trans mf0 mf1223 (by decide)
            refine W.eq (g2 := F0 m 65 ls1210 [.int x1218]) rfl ?_
            exact x_iret C hQ dX10_readUnit_65 hSH1217 (by decide) (by decide) (⟨x1218, sp, fr, tk, vl, mn, rfl, by omega, m1227, m1228, m1229, m1230, m1231, by omega, m1225, m1226, g1219, g1220, g1221, g1222, mf1234, b1224, Or.inl (by omega), Or.inl (by omega), hTH1217⟩)
      · have k1209 := i_nlt c1208
        refine lv_goto (tgt := 42) hx hb dX10_readUnit_24 (by decide) ?_
        refine lv_iconst (v := 1) hx hb dX10_readUnit_42 (by decide) ?_
        refine lv_goto (tgt := 47) hx hb dX10_readUnit_43 (by decide) ?_
        refine lv_istore_n (lv' := [(1, .int 1), (0, .ref a0)]) hx hb dX10_readUnit_47 rfl hl (by decide) rfl (fun ls1235 hl1236 => ?_)
        refine lv_iload_n hx hb dX10_readUnit_48 rfl (lv_at hl1236 0 rfl) ?_
        refine lv_if_ne (tgt := 66) hx hb dX10_readUnit_49 (by decide) (fun c1237 => ?_) (fun c1237 => ?_)
        · have k1238 := i_ne c1237
          refine lv_aload_n hx hb dX10_readUnit_66 rfl (lv_at hl1236 1 rfl) ?_
          refine lv_iload_n hx hb dX10_readUnit_67 rfl (lv_at hl1236 0 rfl) ?_
          refine lv_if_eq (tgt := 75) hx hb dX10_readUnit_68 (by decide) (fun c1239 => ?_) (fun c1239 => ?_)
          · have k1240 := i_eq c1239
            exfalso
            omega
          · have k1240 := i_ne c1239
            refine lv_iconst (v := 1) hx hb dX10_readUnit_71 (by decide) ?_
            refine lv_goto (tgt := 76) hx hb dX10_readUnit_72 (by decide) ?_
            refine lv_iload_n hx hb dX10_readUnit_76 rfl (lv_at hl1236 0 rfl) ?_
            refine lv_if_eq (tgt := 90) hx hb dX10_readUnit_77 (by decide) (fun c1241 => ?_) (fun c1241 => ?_)
            · have k1242 := i_eq c1241
              exfalso
              omega
            · have k1242 := i_ne c1241
              refine lv_aload_n hx hb dX10_readUnit_80 rfl (lv_at hl1236 1 rfl) ?_
              refine x_gi C hT (ci := 10) (k := 22) rfl inX10 (by decide) wF_X10_205 ga0 rg_112 rfl dX10_readUnit_81 (fun x1243 ex1243 bx1243 => ?_)
              have ux1243 : vl = x1243 := (evl).trans ex1243.symm
              subst ux1243
              refine lv_bipush (v := 10) hx hb dX10_readUnit_84 (by decide) ?_
              refine lv_isub hx hb dX10_readUnit_86 ?_
              refine lv_topi (fun x1244 ex1244 => ?_)
              have tx1244 := i_sub ex1244 (by have := i_rng vl; omega)
              refine lv_goto (tgt := 94) hx hb dX10_readUnit_87 (by decide) ?_
              refine x_V (As := [.int 1, .int x1244]) (rest := []) C (a_X10_emits l K G s.heap (1) (x1244) (mn) hT ga0 goq eoq gaq eaq emn hg_CG hg_TU hg_WD hg_IM (by omega)) yo_X10_emits wM_X10_238 ⟨⟨by decide, by decide⟩, by decide, by decide⟩ (x_rv C hT (ci := 10) rfl ga0 rg_112) rfl hl1236.1 rfl (Nat.le_of_ble_eq_true rfl) dX10_readUnit_94 hS (AE_sub (fun _ _ => rfl) (by decide) hS.1) (fun vH1245 H1245 locsH1245 pH1245 zH1245 kH1245 hSH1245 => ?_)
              obtain ⟨x1246, hvH1245, ex1246, hrH1245, m1247, m1248, g1249, g1250, g1251, g1252, mf1253, m1254, m1255, m1256, m1257, hTH1245⟩ := pH1245
              subst hvH1245
              have m1258 := (eoq).trans (MF.r mf1253 (k := 32) (by decide) (by decide)).symm
              have m1259 := (eaq).trans (MF.r mf1253 (k := 33) (by decide) (by decide)).symm
              have m1260 := (esp).trans (MF.i mf1253 (k := 19) (by decide) (by decide)).symm
              have m1261 := (efr).trans (MF.i mf1253 (k := 20) (by decide) (by decide)).symm
              have m1262 := (etk).trans (MF.i mf1253 (k := 21) (by decide) (by decide)).symm
              have m1263 := (evl).trans (MF.i mf1253 (k := 22) (by decide) (by decide)).symm
              have m1264 := (etp).trans (MF.i mf1253 (k := 18) (by decide) (by decide)).symm
              have m1265 := (ejb).trans (MF.i mf1253 (k := 34) (by decide) (by decide)).symm
              have mf1266 : MF K s.heap H1245 a0 [19, 20, 21, 22, 35, 39, 40] := MF.trans mf0 mf1253 (by decide)
              have bx1246 := ty_fi (x := x1246) (k := 35) ex1246 hTH1245 ga0 rg_112 rfl
              have cem1257 := i_cl (x := mn) (by omega)
              have b1267 : ∀ j : Nat, j < 3000 + mn.toNatClampNeg → fI H1245 oq j = fI s.heap oq j ∧ fI H1245 aq j = fI s.heap aq j := fun j hj => ⟨(m1256 j (by omega)).trans (pf00 j hj).1, (m1257 j (by omega)).trans (pf00 j hj).2⟩
              refine W.eq (g2 := F0 m 97 ls1235 []) rfl ?_
              have wf0 : WF (fun k => fI H1245 oq k) (fun k => fI H1245 aq k) (3000 + mn.toNatClampNeg) (3000 + mn.toNatClampNeg + 1) 0 1 := WF.ask (by show (fI _ oq _).toInt = _; rw [← m1254]; rfl) (by show 0 ≤ (fI _ aq _).toInt ∧ (fI _ aq _).toInt ≤ 13; rw [← m1255]; omega)
              refine lv_aload_n hx hb dX10_readUnit_97 rfl (lv_at hl1236 1 rfl) ?_
              obtain ⟨q1268, eq1268⟩ : ∃ z : Nat, z = fR H1245 a0 (K.1.2 10 17) := ⟨_, rfl⟩
              have gq1268 := ty_fr (q := q1268) (k := 17) (u := 126) eq1268 hTH1245 ga0 rg_112 rfl
              refine x_V (As := []) (rest := []) C (a_X10_reads l K G H1245 (sp) (fr) (tk) (vl) (tp) hTH1245 ga0 gq1268 eq1268 m1260 m1261 m1262 m1263 m1264 g1249 g1250 g1251 g1252 (by omega)) yo_X10_reads wM_X10_242 ⟨⟨by decide, by decide⟩, by decide, by decide⟩ (x_rv C hTH1245 (ci := 10) rfl ga0 rg_112) rfl hl1236.1 rfl (Nat.le_of_ble_eq_true rfl) dX10_readUnit_98 hSH1245 (AE_sub (fun _ _ => rfl) (by decide) hSH1245.1) (fun vH1269 H1269 locsH1269 pH1269 zH1269 kH1269 hSH1269 => ?_)
              obtain ⟨x1270, x1271, x1272, x1273, hvH1269, ex1270, ex1271, ex1272, ex1273, hrH1269, m1274, g1275, g1276, g1277, g1278, mf1279, hTH1269⟩ := pH1269
              subst hvH1269
              have b1280 : ∀ j : Nat, j < 3000 + mn.toNatClampNeg → fI H1269 oq j = fI s.heap oq j ∧ fI H1269 aq j = fI s.heap aq j := fun j hj => ⟨(fI_kept (x_lt hTH1245 kH1269 goq (by decide))).trans (b1267 j hj).1, (fI_kept (x_lt hTH1245 kH1269 gaq (by decide))).trans (b1267 j hj).2⟩
              have b1281 : WF (fun k => fI H1269 oq k) (fun k => fI H1269 aq k) (3000 + mn.toNatClampNeg) (3000 + mn.toNatClampNeg + 1) 0 1 := WF.congr (fun j => fI_kept (x_lt hTH1245 kH1269 goq (by decide))) (fun j => fI_kept (x_lt hTH1245 kH1269 gaq (by decide))) wf0
              have m1282 := (m1247).trans (MF.r mf1279 (k := 32) (by decide) (by decide)).symm
              have m1283 := (m1248).trans (MF.r mf1279 (k := 33) (by decide) (by decide)).symm
              have m1284 := (m1264).trans (MF.i mf1279 (k := 18) (by decide) (by decide)).symm
              have m1285 := (m1265).trans (MF.i mf1279 (k := 34) (by decide) (by decide)).symm
              have m1286 := (ex1246).trans (MF.i mf1279 (k := 35) (by decide) (by decide)).symm
              have m1287 := (eq1268).trans (MF.r mf1279 (k := 17) (by decide) (by decide)).symm
              have mf1288 : MF K s.heap H1269 a0 [19, 20, 21, 22, 35, 39, 40] := MF.trans mf1266 mf1279 (by decide)
              have bx1270 := ty_fi (x := x1270) (k := 19) ex1270 hTH1269 ga0 rg_112 rfl
              have bx1271 := ty_fi (x := x1271) (k := 20) ex1271 hTH1269 ga0 rg_112 rfl
              have bx1272 := ty_fi (x := x1272) (k := 21) ex1272 hTH1269 ga0 rg_112 rfl
              have bx1273 := ty_fi (x := x1273) (k := 22) ex1273 hTH1269 ga0 rg_112 rfl
              refine W.eq (g2 := F0 m 101 ls1235 []) rfl ?_
              refine lv_iconst (v := 0) hx hb dX10_readUnit_101 (by decide) ?_
              have cr_mn := i_cl (x := mn) (by omega)
              have cr_x1246 := i_cl (x := x1246) (by omega)
              exact x_iret C hQ dX10_readUnit_102 hSH1269 (by decide) (by decide) (⟨0, x1270, x1271, x1272, x1273, x1246, rfl, by decide, ex1270, ex1271, ex1272, ex1273, m1286, by omega, m1282, m1283, g1275, g1276, g1277, g1278, mf1288, b1280, Or.inr (WF.cast b1281 (by omega) (by omega)), Or.inr (Or.inl (by omega)), hTH1269⟩)
        · have k1238 := i_eq c1237
          exfalso
          omega

set_option maxHeartbeats 4000000 in
set_option maxRecDepth 100000 in
theorem a_X10_readProduct (l : Launch) (K : KE) (G : Nat → Option Nat) (H : Heap) {a0 : Nat} {oq : Nat} {aq : Nat} (sp : Int32) (fr : Int32) (tk : Int32) (vl : Int32) (mn : Int32) (tp : Int32) (jb : Int32) (hT : TY K G H) (ga0 : G a0 = some 112) (goq : G oq = some 136) (eoq : oq = fR H a0 (K.1.2 10 32)) (gaq : G aq = some 137) (eaq : aq = fR H a0 (K.1.2 10 33)) (esp : sp = fI H a0 (K.1.2 10 19)) (efr : fr = fI H a0 (K.1.2 10 20)) (etk : tk = fI H a0 (K.1.2 10 21)) (evl : vl = fI H a0 (K.1.2 10 22)) (emn : mn = fI H a0 (K.1.2 10 35)) (etp : tp = fI H a0 (K.1.2 10 18)) (ejb : jb = fI H a0 (K.1.2 10 34)) (hg_CG : CG (avw K H a0)) (hg_TU : TU (avw K H a0) (svw K H a0)) (hg_WD : WD (avw K H a0)) (hg_IM : IM (avw K H a0)) (hp0 : (sp.toInt ≤ tp.toInt ∧ fr.toInt ≤ sp.toInt ∧ (tk.toInt = 0 ∨ fr.toInt < sp.toInt) ∧ (tk.toInt ≠ 2 ∨ (0 ≤ vl.toInt ∧ vl.toInt ≤ 23)))) (hp1 : mn.toInt ≤ fr.toInt) : MX l K yX10_readProduct cX10_readProduct 2 (some .int) 4 86 0 0 [.ref a0] H (AE G [112, 136, 137] H.size) (fun v H1 => ∃ (r : Int32) (t0 : Int32) (t1 : Int32) (t2 : Int32) (t3 : Int32) (t4 : Int32), v = some (.int r) ∧ ((-1) ≤ r.toInt ∧ r.toInt ≤ 0) ∧ t0 = fI H1 a0 (K.1.2 10 19) ∧ t1 = fI H1 a0 (K.1.2 10 20) ∧ t2 = fI H1 a0 (K.1.2 10 21) ∧ t3 = fI H1 a0 (K.1.2 10 22) ∧ t4 = fI H1 a0 (K.1.2 10 35) ∧ (r.toInt = -1 ∨ (r.toInt = 0 ∧ t0.toInt ≤ tp.toInt ∧ t1.toInt ≤ t0.toInt ∧ (t2.toInt = 0 ∨ t1.toInt < t0.toInt) ∧ (t2.toInt ≠ 2 ∨ (0 ≤ t3.toInt ∧ t3.toInt ≤ 23)) ∧ t4.toInt + fr.toInt ≤ mn.toInt + t1.toInt ∧ mn.toInt < t4.toInt ∧ fr.toInt < t1.toInt)) ∧ oq = fR H1 a0 (K.1.2 10 32) ∧ aq = fR H1 a0 (K.1.2 10 33) ∧ (CG (avw K H1 a0)) ∧ (TU (avw K H1 a0) (svw K H1 a0)) ∧ (WD (avw K H1 a0)) ∧ (IM (avw K H1 a0)) ∧ MF K H H1 a0 [19, 20, 21, 22, 35, 39, 40] ∧ (∀ j : Nat, j < 3000 + mn.toNatClampNeg → fI H1 oq j = fI H oq j ∧ fI H1 aq j = fI H aq j) ∧ (r.toInt = -1 ∨ WF (fun k => fI H1 oq k) (fun k => fI H1 aq k) (3000 + mn.toNatClampNeg) (3000 + t4.toNatClampNeg) 0 1) ∧ TY K G H1) := by
  refine MX.of (by decide +kernel) (Nat.le_of_ble_eq_true rfl) ?_
  intro p e s m below meth c ls Q C hH hl hQ
  subst hH
  have C : CX p K s m _ meth c RX10 cX10_readProduct 2 (some .int) "readProduct" := C
  obtain ⟨hx, hb, hml, hown, hts, hKT, hr, hlocks, hnm⟩ := id C
  have hl : lv_has ls 2 [(0, .ref a0)] := hl
  have hS : va_S (AE G [112, 136, 137] s.heap.size) s.heap s.heap [] := va_S.rf
  have n_m1 : ((-1) : Int32).toInt = -1 := rfl
  have n_0 : (0 : Int32).toInt = 0 := rfl
  have n_1 : (1 : Int32).toInt = 1 := rfl
  have n_2 : (2 : Int32).toInt = 2 := rfl
  have n_3 : (3 : Int32).toInt = 3 := rfl
  have n_4 : (4 : Int32).toInt = 4 := rfl
  have n_5 : (5 : Int32).toInt = 5 := rfl
  have n_42 : (42 : Int32).toInt = 42 := rfl
  have n_47 : (47 : Int32).toInt = 47 := rfl
  have bsp := ty_fi (x := sp) (k := 19) esp hT ga0 rg_112 rfl
  have bfr := ty_fi (x := fr) (k := 20) efr hT ga0 rg_112 rfl
  have btk := ty_fi (x := tk) (k := 21) etk hT ga0 rg_112 rfl
  have bvl := ty_fi (x := vl) (k := 22) evl hT ga0 rg_112 rfl
  have bmn := ty_fi (x := mn) (k := 35) emn hT ga0 rg_112 rfl
  have btp := ty_fi (x := tp) (k := 18) etp hT ga0 rg_112 rfl
  have bjb := ty_fi (x := jb) (k := 34) ejb hT ga0 rg_112 rfl
  have hap : ∀ x y, x < 74 → y < 74 → x ≠ y → K.1.2 10 x ≠ K.1.2 10 y := x_apart hKT hts inX10 tyX10 tyX10_ok nmX10 rfl
  have mf0 : MF K s.heap s.heap a0 [19, 20, 21, 22, 35, 39, 40] := fun _ _ _ => rfl
  have J10 : ∀ (nf : Nat) (ls1986 : Array Slot) (H1985 : Heap) (locsH1985 : List Loc) (x1988 : Int32) (x1989 : Int32) (x1990 : Int32) (x1991 : Int32) (x1992 : Int32), lv_has ls1986 2 [(0, .ref a0)] → TY K G H1985 → va_S (AE G [112, 136, 137] s.heap.size) s.heap H1985 locsH1985 → (0 ≤ x1988.toInt ∧ x1988.toInt ≤ 500) → (0 ≤ x1989.toInt ∧ x1989.toInt ≤ 500) → (0 ≤ x1992.toInt ∧ x1992.toInt ≤ 500) → (x1988 = fI H1985 a0 (K.1.2 10 19)) → (x1989 = fI H1985 a0 (K.1.2 10 20)) → (x1990 = fI H1985 a0 (K.1.2 10 21)) → (x1991 = fI H1985 a0 (K.1.2 10 22)) → (x1992 = fI H1985 a0 (K.1.2 10 35)) → (oq = fR H1985 a0 (K.1.2 10 32)) → (aq = fR H1985 a0 (K.1.2 10 33)) → (tp = fI H1985 a0 (K.1.2 10 18)) → (jb = fI H1985 a0 (K.1.2 10 34)) → (∀ j : Nat, j < 3000 + mn.toNatClampNeg → fI H1985 oq j = fI s.heap oq j ∧ fI H1985 aq j = fI s.heap aq j) → (WF (fun k => fI H1985 oq k) (fun k => fI H1985 aq k) (3000 + mn.toNatClampNeg) (3000 + x1992.toNatClampNeg) 0 1) → (MF K s.heap H1985 a0 [19, 20, 21, 22, 35, 39, 40]) → (CG (avw K H1985 a0)) → (TU (avw K H1985 a0) (svw K H1985 a0)) → (WD (avw K H1985 a0)) → (IM (avw K H1985 a0)) → (500 - x1989.toInt < (nf : Int)) → ((x1988.toInt ≤ tp.toInt ∧ x1989.toInt ≤ x1988.toInt ∧ (x1990.toInt = 0 ∨ x1989.toInt < x1988.toInt) ∧ (x1990.toInt ≠ 2 ∨ (0 ≤ x1991.toInt ∧ x1991.toInt ≤ 23))) ∧ x1992.toInt + fr.toInt ≤ mn.toInt + x1989.toInt ∧ mn.toInt < x1992.toInt ∧ fr.toInt < x1989.toInt) → W p l e ({ frames := 4, cells := 0, slots := 0, locals := 86 } : Room) s m (([.ref a0] : List Value).toArray) below meth c H1985 locsH1985 0 0 Q (F0 m 10 ls1986 []) := by
    intro nf
    induction nf with
    | zero =>
      intro ls1986 H1985 locsH1985 x1988 x1989 x1990 x1991 x1992 hl1987 hTH1985 hSH1985 bx1988 bx1989 bx1992 ex1988 ex1989 ex1990 ex1991 ex1992 cy1993_0 cy1993_1 cy1993_2 cy1993_3 by1993_pf by1993_wf mfy1993 gy1993_CG gy1993_TU gy1993_WD gy1993_IM hm10 iv10
      have rx1990 := i_rng x1990
      have rx1991 := i_rng x1991
      exfalso
      omega
    | succ nf ih10 =>
      intro ls1986 H1985 locsH1985 x1988 x1989 x1990 x1991 x1992 hl1987 hTH1985 hSH1985 bx1988 bx1989 bx1992 ex1988 ex1989 ex1990 ex1991 ex1992 cy1993_0 cy1993_1 cy1993_2 cy1993_3 by1993_pf by1993_wf mfy1993 gy1993_CG gy1993_TU gy1993_WD gy1993_IM hm10 iv10
      have rx1990 := i_rng x1990
      have rx1991 := i_rng x1991
      refine lv_aload_n hx hb dX10_readProduct_10 rfl (lv_at hl1987 0 rfl) ?_
      refine lv_bipush (v := 42) hx hb dX10_readProduct_11 (by decide) ?_
      refine x_V (As := [.int 42]) (rest := []) C (a_X10_isSign l K G H1985 (42) (x1990) (x1991) hTH1985 ga0 ex1990 ex1991) yo_X10_isSign wM_X10_249 ⟨⟨by decide, by decide⟩, by decide, by decide⟩ (x_rv C hTH1985 (ci := 10) rfl ga0 rg_112) rfl hl1987.1 rfl (Nat.le_of_ble_eq_true rfl) dX10_readProduct_13 hSH1985 (AE_sub (fun _ _ => rfl) (by decide) hSH1985.1) (fun vH1994 H1994 locsH1994 pH1994 zH1994 kH1994 hSH1994 => ?_)
      obtain ⟨x1995, hvH1994, bx1995, hrH1994, hTH1994⟩ := pH1994
      subst hvH1994
      have mf1996 : MF K s.heap H1994 a0 [19, 20, 21, 22, 35, 39, 40] := MF.eff (x_lt hTH1985 kH1994 ga0 (by decide)) mfy1993
      have b1997 : ∀ j : Nat, j < 3000 + mn.toNatClampNeg → fI H1994 oq j = fI s.heap oq j ∧ fI H1994 aq j = fI s.heap aq j := fun j hj => ⟨(fI_kept (x_lt hTH1985 kH1994 goq (by decide))).trans (by1993_pf j hj).1, (fI_kept (x_lt hTH1985 kH1994 gaq (by decide))).trans (by1993_pf j hj).2⟩
      have b1998 : WF (fun k => fI H1994 oq k) (fun k => fI H1994 aq k) (3000 + mn.toNatClampNeg) (3000 + x1992.toNatClampNeg) 0 1 := WF.congr (fun j => fI_kept (x_lt hTH1985 kH1994 goq (by decide))) (fun j => fI_kept (x_lt hTH1985 kH1994 gaq (by decide))) by1993_wf
      have g1999 : CG (avw K H1994 a0) := CG.congr (fun k hk j => av_eff hTH1985 kH1994 ga0 (by decide) (CG_eff [] (by decide) k hk)) gy1993_CG
      have g2000 : TU (avw K H1994 a0) (svw K H1994 a0) := TU.congr (fun k hk j => av_eff hTH1985 kH1994 ga0 (by decide) (TU_eff [] (by decide) k hk)) (fun k hk => sv_eff hTH1985 kH1994 ga0 (by decide)) gy1993_TU
      have g2001 : WD (avw K H1994 a0) := WD.congr (fun k hk j => av_eff hTH1985 kH1994 ga0 (by decide) (WD_eff [] (by decide) k hk)) gy1993_WD
      have g2002 : IM (avw K H1994 a0) := IM.congr (fun k hk j => av_eff hTH1985 kH1994 ga0 (by decide) (IM_eff [] (by decide) k hk)) gy1993_IM
      have m2003 := (ex1988).trans (fI_kept (x_lt hTH1985 kH1994 ga0 (by decide))).symm
      have m2004 := (ex1989).trans (fI_kept (x_lt hTH1985 kH1994 ga0 (by decide))).symm
      have m2005 := (ex1990).trans (fI_kept (x_lt hTH1985 kH1994 ga0 (by decide))).symm
      have m2006 := (ex1991).trans (fI_kept (x_lt hTH1985 kH1994 ga0 (by decide))).symm
      have m2007 := (ex1992).trans (fI_kept (x_lt hTH1985 kH1994 ga0 (by decide))).symm
      have m2008 := (cy1993_0).trans (fR_kept (x_lt hTH1985 kH1994 ga0 (by decide))).symm
      have m2009 := (cy1993_1).trans (fR_kept (x_lt hTH1985 kH1994 ga0 (by decide))).symm
      have m2010 := (cy1993_2).trans (fI_kept (x_lt hTH1985 kH1994 ga0 (by decide))).symm
      have m2011 := (cy1993_3).trans (fI_kept (x_lt hTH1985 kH1994 ga0 (by decide))).symm
      refine W.eq (g2 := F0 m 16 ls1986 [.int x1995]) rfl ?_
      refine lv_if_ne (tgt := 28) hx hb dX10_readProduct_16 (by decide) (fun c2012 => ?_) (fun c2012 => ?_)
      · have k2013 := i_ne c2012
        refine lv_aload_n hx hb dX10_readProduct_28 rfl (lv_at hl1987 0 rfl) ?_
        refine lv_bipush (v := 42) hx hb dX10_readProduct_29 (by decide) ?_
        refine x_V (As := [.int 42]) (rest := []) C (a_X10_isSign l K G H1994 (42) (x1990) (x1991) hTH1994 ga0 m2005 m2006) yo_X10_isSign wM_X10_249 ⟨⟨by decide, by decide⟩, by decide, by decide⟩ (x_rv C hTH1994 (ci := 10) rfl ga0 rg_112) rfl hl1987.1 rfl (Nat.le_of_ble_eq_true rfl) dX10_readProduct_31 hSH1994 (AE_sub (fun _ _ => rfl) (by decide) hSH1994.1) (fun vH2014 H2014 locsH2014 pH2014 zH2014 kH2014 hSH2014 => ?_)
        obtain ⟨x2015, hvH2014, bx2015, hrH2014, hTH2014⟩ := pH2014
        subst hvH2014
        have mf2016 : MF K s.heap H2014 a0 [19, 20, 21, 22, 35, 39, 40] := MF.eff (x_lt hTH1994 kH2014 ga0 (by decide)) mf1996
        have b2017 : ∀ j : Nat, j < 3000 + mn.toNatClampNeg → fI H2014 oq j = fI s.heap oq j ∧ fI H2014 aq j = fI s.heap aq j := fun j hj => ⟨(fI_kept (x_lt hTH1994 kH2014 goq (by decide))).trans (b1997 j hj).1, (fI_kept (x_lt hTH1994 kH2014 gaq (by decide))).trans (b1997 j hj).2⟩
        have b2018 : WF (fun k => fI H2014 oq k) (fun k => fI H2014 aq k) (3000 + mn.toNatClampNeg) (3000 + x1992.toNatClampNeg) 0 1 := WF.congr (fun j => fI_kept (x_lt hTH1994 kH2014 goq (by decide))) (fun j => fI_kept (x_lt hTH1994 kH2014 gaq (by decide))) b1998
        have g2019 : CG (avw K H2014 a0) := CG.congr (fun k hk j => av_eff hTH1994 kH2014 ga0 (by decide) (CG_eff [] (by decide) k hk)) g1999
        have g2020 : TU (avw K H2014 a0) (svw K H2014 a0) := TU.congr (fun k hk j => av_eff hTH1994 kH2014 ga0 (by decide) (TU_eff [] (by decide) k hk)) (fun k hk => sv_eff hTH1994 kH2014 ga0 (by decide)) g2000
        have g2021 : WD (avw K H2014 a0) := WD.congr (fun k hk j => av_eff hTH1994 kH2014 ga0 (by decide) (WD_eff [] (by decide) k hk)) g2001
        have g2022 : IM (avw K H2014 a0) := IM.congr (fun k hk j => av_eff hTH1994 kH2014 ga0 (by decide) (IM_eff [] (by decide) k hk)) g2002
        have m2023 := (m2003).trans (fI_kept (x_lt hTH1994 kH2014 ga0 (by decide))).symm
        have m2024 := (m2004).trans (fI_kept (x_lt hTH1994 kH2014 ga0 (by decide))).symm
        have m2025 := (m2005).trans (fI_kept (x_lt hTH1994 kH2014 ga0 (by decide))).symm
        have m2026 := (m2006).trans (fI_kept (x_lt hTH1994 kH2014 ga0 (by decide))).symm
        have m2027 := (m2007).trans (fI_kept (x_lt hTH1994 kH2014 ga0 (by decide))).symm
        have m2028 := (m2008).trans (fR_kept (x_lt hTH1994 kH2014 ga0 (by decide))).symm
        have m2029 := (m2009).trans (fR_kept (x_lt hTH1994 kH2014 ga0 (by decide))).symm
        have m2030 := (m2010).trans (fI_kept (x_lt hTH1994 kH2014 ga0 (by decide))).symm
        have m2031 := (m2011).trans (fI_kept (x_lt hTH1994 kH2014 ga0 (by decide))).symm
        refine W.eq (g2 := F0 m 34 ls1986 [.int x2015]) rfl ?_
        refine lv_istore_n (lv' := [(1, .int x2015), (0, .ref a0)]) hx hb dX10_readProduct_34 rfl hl1987 (by decide) rfl (fun ls2032 hl2033 => ?_)
        refine lv_aload_n hx hb dX10_readProduct_35 rfl (lv_at hl2033 1 rfl) ?_
        obtain ⟨q2034, eq2034⟩ : ∃ z : Nat, z = fR H2014 a0 (K.1.2 10 17) := ⟨_, rfl⟩
        have gq2034 := ty_fr (q := q2034) (k := 17) (u := 126) eq2034 hTH2014 ga0 rg_112 rfl
        refine x_V (As := []) (rest := []) C (a_X10_reads l K G H2014 (x1988) (x1989) (x1990) (x1991) (tp) hTH2014 ga0 gq2034 eq2034 m2023 m2024 m2025 m2026 m2030 g2019 g2020 g2021 g2022 (by omega)) yo_X10_reads wM_X10_242 ⟨⟨by decide, by decide⟩, by decide, by decide⟩ (x_rv C hTH2014 (ci := 10) rfl ga0 rg_112) rfl hl2033.1 rfl (Nat.le_of_ble_eq_true rfl) dX10_readProduct_36 hSH2014 (AE_sub (fun _ _ => rfl) (by decide) hSH2014.1) (fun vH2035 H2035 locsH2035 pH2035 zH2035 kH2035 hSH2035 => ?_)
        obtain ⟨x2036, x2037, x2038, x2039, hvH2035, ex2036, ex2037, ex2038, ex2039, hrH2035, m2040, g2041, g2042, g2043, g2044, mf2045, hTH2035⟩ := pH2035
        subst hvH2035
        have b2046 : ∀ j : Nat, j < 3000 + mn.toNatClampNeg → fI H2035 oq j = fI s.heap oq j ∧ fI H2035 aq j = fI s.heap aq j := fun j hj => ⟨(fI_kept (x_lt hTH2014 kH2035 goq (by decide))).trans (b2017 j hj).1, (fI_kept (x_lt hTH2014 kH2035 gaq (by decide))).trans (b2017 j hj).2⟩
        have b2047 : WF (fun k => fI H2035 oq k) (fun k => fI H2035 aq k) (3000 + mn.toNatClampNeg) (3000 + x1992.toNatClampNeg) 0 1 := WF.congr (fun j => fI_kept (x_lt hTH2014 kH2035 goq (by decide))) (fun j => fI_kept (x_lt hTH2014 kH2035 gaq (by decide))) b2018
        have m2048 := (m2027).trans (MF.i mf2045 (k := 35) (by decide) (by decide)).symm
        have m2049 := (m2028).trans (MF.r mf2045 (k := 32) (by decide) (by decide)).symm
        have m2050 := (m2029).trans (MF.r mf2045 (k := 33) (by decide) (by decide)).symm
        have m2051 := (m2030).trans (MF.i mf2045 (k := 18) (by decide) (by decide)).symm
        have m2052 := (m2031).trans (MF.i mf2045 (k := 34) (by decide) (by decide)).symm
        have m2053 := (eq2034).trans (MF.r mf2045 (k := 17) (by decide) (by decide)).symm
        have mf2054 : MF K s.heap H2035 a0 [19, 20, 21, 22, 35, 39, 40] := MF.trans mf2016 mf2045 (by decide)
        have bx2036 := ty_fi (x := x2036) (k := 19) ex2036 hTH2035 ga0 rg_112 rfl
        have bx2037 := ty_fi (x := x2037) (k := 20) ex2037 hTH2035 ga0 rg_112 rfl
        have bx2038 := ty_fi (x := x2038) (k := 21) ex2038 hTH2035 ga0 rg_112 rfl
        have bx2039 := ty_fi (x := x2039) (k := 22) ex2039 hTH2035 ga0 rg_112 rfl
        refine W.eq (g2 := F0 m 39 ls2032 []) rfl ?_
        refine lv_iload_n hx hb dX10_readProduct_39 rfl (lv_at hl2033 0 rfl) ?_
        refine lv_if_ne (tgt := 57) hx hb dX10_readProduct_40 (by decide) (fun c2055 => ?_) (fun c2055 => ?_)
        · have k2056 := i_ne c2055
          refine lv_iload_n hx hb dX10_readProduct_57 rfl (lv_at hl2033 0 rfl) ?_
          refine lv_if_ne (tgt := 74) hx hb dX10_readProduct_58 (by decide) (fun c2057 => ?_) (fun c2057 => ?_)
          · have k2058 := i_ne c2057
            refine lv_aload_n hx hb dX10_readProduct_74 rfl (lv_at hl2033 1 rfl) ?_
            refine x_V (As := []) (rest := []) C (a_X10_readUnit l K G H2035 (x2036) (x2037) (x2038) (x2039) (x1992) (tp) (jb) hTH2035 ga0 goq m2049 gaq m2050 ex2036 ex2037 ex2038 ex2039 m2048 m2051 m2052 g2041 g2042 g2043 g2044 (by omega) (by omega)) yo_X10_readUnit wM_X10_245 ⟨⟨by decide, by decide⟩, by decide, by decide⟩ (x_rv C hTH2035 (ci := 10) rfl ga0 rg_112) rfl hl2033.1 rfl (Nat.le_of_ble_eq_true rfl) dX10_readProduct_75 hSH2035 (AE_sub (fun _ _ => rfl) (by decide) hSH2035.1) (fun vH2059 H2059 locsH2059 pH2059 zH2059 kH2059 hSH2059 => ?_)
            obtain ⟨x2060, x2061, x2062, x2063, x2064, x2065, hvH2059, bx2060, ex2061, ex2062, ex2063, ex2064, ex2065, hrH2059, m2066, m2067, g2068, g2069, g2070, g2071, mf2072, m2073, m2074, m2075, hTH2059⟩ := pH2059
            subst hvH2059
            have m2076 := (m2049).trans (MF.r mf2072 (k := 32) (by decide) (by decide)).symm
            have m2077 := (m2050).trans (MF.r mf2072 (k := 33) (by decide) (by decide)).symm
            have m2078 := (m2051).trans (MF.i mf2072 (k := 18) (by decide) (by decide)).symm
            have m2079 := (m2052).trans (MF.i mf2072 (k := 34) (by decide) (by decide)).symm
            have m2080 := (m2040).trans (MF.r mf2072 (k := 17) (by decide) (by decide)).symm
            have mf2081 : MF K s.heap H2059 a0 [19, 20, 21, 22, 35, 39, 40] := MF.trans mf2054 mf2072 (by decide)
            have bx2061 := ty_fi (x := x2061) (k := 19) ex2061 hTH2059 ga0 rg_112 rfl
            have bx2062 := ty_fi (x := x2062) (k := 20) ex2062 hTH2059 ga0 rg_112 rfl
            have bx2063 := ty_fi (x := x2063) (k := 21) ex2063 hTH2059 ga0 rg_112 rfl
            have bx2064 := ty_fi (x := x2064) (k := 22) ex2064 hTH2059 ga0 rg_112 rfl
            have bx2065 := ty_fi (x := x2065) (k := 35) ex2065 hTH2059 ga0 rg_112 rfl
            have csm2073 := i_cl (x := x1992) (by omega)
            have cs_mn := i_cl (x := mn) (by omega)
            have b2082 : ∀ j : Nat, j < 3000 + mn.toNatClampNeg → fI H2059 oq j = fI s.heap oq j ∧ fI H2059 aq j = fI s.heap aq j := fun j hj => ⟨(m2073 j (by omega)).1.trans (b2046 j hj).1, (m2073 j (by omega)).2.trans (b2046 j hj).2⟩
            have cs_mn := i_cl (x := mn) (by omega)
            have b2083 : WF (fun k => fI H2059 oq k) (fun k => fI H2059 aq k) (3000 + mn.toNatClampNeg) (3000 + x1992.toNatClampNeg) 0 1 := WF.keep b2047 (fun j hj => (m2073 j (by omega)).1) (fun j hj => (m2073 j (by omega)).2)
            refine W.eq (g2 := F0 m 78 ls2032 [.int x2060]) rfl ?_
            refine lv_iconst (v := (-1)) hx hb dX10_readProduct_78 (by decide) ?_
            refine lv_icmp_ne (tgt := 84) hx hb dX10_readProduct_79 (by decide) (fun c2084 => ?_) (fun c2084 => ?_)
            · have k2085 := i_ne c2084
              have wu0 : WF (fun k => fI H2059 oq k) (fun k => fI H2059 aq k) (3000 + x1992.toNatClampNeg) (3000 + x2065.toNatClampNeg) 0 1 := by
                rcases m2074 with h | h
                · exfalso; omega
                · exact h
              refine lv_aload_n hx hb dX10_readProduct_84 rfl (lv_at hl2033 1 rfl) ?_
              refine lv_iload_n hx hb dX10_readProduct_85 rfl (lv_at hl2033 0 rfl) ?_
              refine lv_if_eq (tgt := 93) hx hb dX10_readProduct_86 (by decide) (fun c2086 => ?_) (fun c2086 => ?_)
              · have k2087 := i_eq c2086
                exfalso
                omega
              · have k2087 := i_ne c2086
                refine lv_iconst (v := 4) hx hb dX10_readProduct_89 (by decide) ?_
                refine lv_goto (tgt := 94) hx hb dX10_readProduct_90 (by decide) ?_
                refine lv_iconst (v := 0) hx hb dX10_readProduct_94 (by decide) ?_
                refine x_V (As := [.int 4, .int 0]) (rest := []) C (a_X10_emits l K G H2059 (4) (0) (x2065) hTH2059 ga0 goq m2066 gaq m2067 ex2065 g2068 g2069 g2070 g2071 (by omega)) yo_X10_emits wM_X10_238 ⟨⟨by decide, by decide⟩, by decide, by decide⟩ (x_rv C hTH2059 (ci := 10) rfl ga0 rg_112) rfl hl2033.1 rfl (Nat.le_of_ble_eq_true rfl) dX10_readProduct_95 hSH2059 (AE_sub (fun _ _ => rfl) (by decide) hSH2059.1) (fun vH2088 H2088 locsH2088 pH2088 zH2088 kH2088 hSH2088 => ?_)
                obtain ⟨x2089, hvH2088, ex2089, hrH2088, m2090, m2091, g2092, g2093, g2094, g2095, mf2096, m2097, m2098, m2099, m2100, hTH2088⟩ := pH2088
                subst hvH2088
                have m2101 := (m2066).trans (MF.r mf2096 (k := 32) (by decide) (by decide)).symm
                have m2102 := (m2067).trans (MF.r mf2096 (k := 33) (by decide) (by decide)).symm
                have m2103 := (m2078).trans (MF.i mf2096 (k := 18) (by decide) (by decide)).symm
                have m2104 := (m2079).trans (MF.i mf2096 (k := 34) (by decide) (by decide)).symm
                have m2105 := (m2080).trans (MF.r mf2096 (k := 17) (by decide) (by decide)).symm
                have m2106 := (ex2061).trans (MF.i mf2096 (k := 19) (by decide) (by decide)).symm
                have m2107 := (ex2062).trans (MF.i mf2096 (k := 20) (by decide) (by decide)).symm
                have m2108 := (ex2063).trans (MF.i mf2096 (k := 21) (by decide) (by decide)).symm
                have m2109 := (ex2064).trans (MF.i mf2096 (k := 22) (by decide) (by decide)).symm
                have mf2110 : MF K s.heap H2088 a0 [19, 20, 21, 22, 35, 39, 40] := MF.trans mf2081 mf2096 (by decide)
                have bx2089 := ty_fi (x := x2089) (k := 35) ex2089 hTH2088 ga0 rg_112 rfl
                have cem2100 := i_cl (x := x2065) (by omega)
                have ce_mn := i_cl (x := mn) (by omega)
                have b2111 : ∀ j : Nat, j < 3000 + mn.toNatClampNeg → fI H2088 oq j = fI s.heap oq j ∧ fI H2088 aq j = fI s.heap aq j := fun j hj => ⟨(m2099 j (by omega)).trans (b2082 j hj).1, (m2100 j (by omega)).trans (b2082 j hj).2⟩
                have ce_mn := i_cl (x := mn) (by omega)
                have ce_x1992 := i_cl (x := x1992) (by omega)
                have b2112 : WF (fun k => fI H2088 oq k) (fun k => fI H2088 aq k) (3000 + mn.toNatClampNeg) (3000 + x1992.toNatClampNeg) 0 1 := WF.keep b2083 (fun j hj => m2099 j (by omega)) (fun j hj => m2100 j (by omega))
                have ce_x1992 := i_cl (x := x1992) (by omega)
                have b2113 : WF (fun k => fI H2088 oq k) (fun k => fI H2088 aq k) (3000 + x1992.toNatClampNeg) (3000 + x2065.toNatClampNeg) 0 1 := WF.keep wu0 (fun j hj => m2099 j (by omega)) (fun j hj => m2100 j (by omega))
                refine W.eq (g2 := F0 m 98 ls2032 []) rfl ?_
                have ho := congrArg Int32.toInt m2097
                have cb_mn := i_cl (x := mn) (by omega)
                have cb_x1992 := i_cl (x := x1992) (by omega)
                have cb_x2065 := i_cl (x := x2065) (by omega)
                have wn : WF (fun k => fI H2088 oq k) (fun k => fI H2088 aq k) (3000 + mn.toNatClampNeg) (3000 + x2065.toNatClampNeg + 1) 0 1 := WF.bin b2112 b2113 (by omega) (by omega) (by show 2 ≤ (fI _ oq _).toInt ∧ (fI _ oq _).toInt ≤ 11 ∧ (fI _ oq _).toInt ≠ 9; omega) (Or.inl (by show (fI _ oq _).toInt ≠ 5; omega))
                refine lv_goto (tgt := 10) hx hb dX10_readProduct_98 (by decide) ?_
                have cl_mn := i_cl (x := mn) (by omega)
                have cl_mn := i_cl (x := mn) (by omega)
                have cl_x2065 := i_cl (x := x2065) (by omega)
                have cl_x2089 := i_cl (x := x2089) (by omega)
                exact ih10 ls2032 H2088 locsH2088 (x2061) (x2062) (x2063) (x2064) (x2089) (lv_sub hl2033 [1] rfl) hTH2088 hSH2088 (by have := i_rng x2061; omega) (by have := i_rng x2062; omega) (by have := i_rng x2089; omega) m2106 m2107 m2108 m2109 ex2089 m2090 m2091 m2103 m2104 b2111 (WF.cast wn (by omega) (by omega)) mf2110 g2092 g2093 g2094 g2095 (by omega) (by omega)
            · have k2085 := i_eq c2084
              refine lv_iconst (v := (-1)) hx hb dX10_readProduct_82 (by decide) ?_
              exact x_iret C hQ dX10_readProduct_83 hSH2059 (by decide) (by decide) (⟨(-1), x2061, x2062, x2063, x2064, x2065, rfl, by decide, ex2061, ex2062, ex2063, ex2064, ex2065, by omega, m2066, m2067, g2068, g2069, g2070, g2071, mf2081, b2082, Or.inl (by omega), hTH2059⟩)
          · have k2058 := i_eq c2057
            exfalso
            omega
        · have k2056 := i_eq c2055
          refine lv_aload_n hx hb dX10_readProduct_43 rfl (lv_at hl2033 1 rfl) ?_
          refine x_gi C hTH2035 (ci := 10) (k := 21) rfl inX10 (by decide) wF_X10_202 ga0 rg_112 rfl dX10_readProduct_44 (fun x2114 ex2114 bx2114 => ?_)
          have ux2114 : x2038 = x2114 := (ex2038).trans ex2114.symm
          subst ux2114
          refine lv_iconst (v := 3) hx hb dX10_readProduct_47 (by decide) ?_
          refine lv_icmp_eq (tgt := 57) hx hb dX10_readProduct_48 (by decide) (fun c2115 => ?_) (fun c2115 => ?_)
          · have k2116 := i_eq c2115
            refine lv_iload_n hx hb dX10_readProduct_57 rfl (lv_at hl2033 0 rfl) ?_
            refine lv_if_ne (tgt := 74) hx hb dX10_readProduct_58 (by decide) (fun c2117 => ?_) (fun c2117 => ?_)
            · have k2118 := i_ne c2117
              exfalso
              omega
            · have k2118 := i_eq c2117
              refine lv_aload_n hx hb dX10_readProduct_61 rfl (lv_at hl2033 1 rfl) ?_
              refine x_gi C hTH2035 (ci := 10) (k := 22) rfl inX10 (by decide) wF_X10_205 ga0 rg_112 rfl dX10_readProduct_62 (fun x2119 ex2119 bx2119 => ?_)
              have ux2119 : x2039 = x2119 := (ex2039).trans ex2119.symm
              subst ux2119
              refine lv_if_ne (tgt := 74) hx hb dX10_readProduct_65 (by decide) (fun c2120 => ?_) (fun c2120 => ?_)
              · have k2121 := i_ne c2120
                refine lv_aload_n hx hb dX10_readProduct_74 rfl (lv_at hl2033 1 rfl) ?_
                refine x_V (As := []) (rest := []) C (a_X10_readUnit l K G H2035 (x2036) (x2037) (x2038) (x2039) (x1992) (tp) (jb) hTH2035 ga0 goq m2049 gaq m2050 ex2036 ex2037 ex2038 ex2039 m2048 m2051 m2052 g2041 g2042 g2043 g2044 (by omega) (by omega)) yo_X10_readUnit wM_X10_245 ⟨⟨by decide, by decide⟩, by decide, by decide⟩ (x_rv C hTH2035 (ci := 10) rfl ga0 rg_112) rfl hl2033.1 rfl (Nat.le_of_ble_eq_true rfl) dX10_readProduct_75 hSH2035 (AE_sub (fun _ _ => rfl) (by decide) hSH2035.1) (fun vH2122 H2122 locsH2122 pH2122 zH2122 kH2122 hSH2122 => ?_)
                obtain ⟨x2123, x2124, x2125, x2126, x2127, x2128, hvH2122, bx2123, ex2124, ex2125, ex2126, ex2127, ex2128, hrH2122, m2129, m2130, g2131, g2132, g2133, g2134, mf2135, m2136, m2137, m2138, hTH2122⟩ := pH2122
                subst hvH2122
                have m2139 := (m2049).trans (MF.r mf2135 (k := 32) (by decide) (by decide)).symm
                have m2140 := (m2050).trans (MF.r mf2135 (k := 33) (by decide) (by decide)).symm
                have m2141 := (m2051).trans (MF.i mf2135 (k := 18) (by decide) (by decide)).symm
                have m2142 := (m2052).trans (MF.i mf2135 (k := 34) (by decide) (by decide)).symm
                have m2143 := (m2040).trans (MF.r mf2135 (k := 17) (by decide) (by decide)).symm
                have mf2144 : MF K s.heap H2122 a0 [19, 20, 21, 22, 35, 39, 40] := MF.trans mf2054 mf2135 (by decide)
                have bx2124 := ty_fi (x := x2124) (k := 19) ex2124 hTH2122 ga0 rg_112 rfl
                have bx2125 := ty_fi (x := x2125) (k := 20) ex2125 hTH2122 ga0 rg_112 rfl
                have bx2126 := ty_fi (x := x2126) (k := 21) ex2126 hTH2122 ga0 rg_112 rfl
                have bx2127 := ty_fi (x := x2127) (k := 22) ex2127 hTH2122 ga0 rg_112 rfl
                have bx2128 := ty_fi (x := x2128) (k := 35) ex2128 hTH2122 ga0 rg_112 rfl
                have csm2136 := i_cl (x := x1992) (by omega)
                have cs_mn := i_cl (x := mn) (by omega)
                have b2145 : ∀ j : Nat, j < 3000 + mn.toNatClampNeg → fI H2122 oq j = fI s.heap oq j ∧ fI H2122 aq j = fI s.heap aq j := fun j hj => ⟨(m2136 j (by omega)).1.trans (b2046 j hj).1, (m2136 j (by omega)).2.trans (b2046 j hj).2⟩
                have cs_mn := i_cl (x := mn) (by omega)
                have b2146 : WF (fun k => fI H2122 oq k) (fun k => fI H2122 aq k) (3000 + mn.toNatClampNeg) (3000 + x1992.toNatClampNeg) 0 1 := WF.keep b2047 (fun j hj => (m2136 j (by omega)).1) (fun j hj => (m2136 j (by omega)).2)
                refine W.eq (g2 := F0 m 78 ls2032 [.int x2123]) rfl ?_
                refine lv_iconst (v := (-1)) hx hb dX10_readProduct_78 (by decide) ?_
                refine lv_icmp_ne (tgt := 84) hx hb dX10_readProduct_79 (by decide) (fun c2147 => ?_) (fun c2147 => ?_)
                · have k2148 := i_ne c2147
                  have wu0 : WF (fun k => fI H2122 oq k) (fun k => fI H2122 aq k) (3000 + x1992.toNatClampNeg) (3000 + x2128.toNatClampNeg) 0 1 := by
                    rcases m2137 with h | h
                    · exfalso; omega
                    · exact h
                  have ev0 : (fI H2122 oq (3000 + x1992.toNatClampNeg)).toInt = 0 ∧ (fI H2122 aq (3000 + x1992.toNatClampNeg)).toInt = x2039.toInt := by
                    rcases m2138 with h | h | h
                    · exfalso; omega
                    · exfalso; omega
                    · exact h
                  refine lv_aload_n hx hb dX10_readProduct_84 rfl (lv_at hl2033 1 rfl) ?_
                  refine lv_iload_n hx hb dX10_readProduct_85 rfl (lv_at hl2033 0 rfl) ?_
                  refine lv_if_eq (tgt := 93) hx hb dX10_readProduct_86 (by decide) (fun c2149 => ?_) (fun c2149 => ?_)
                  · have k2150 := i_eq c2149
                    refine lv_iconst (v := 5) hx hb dX10_readProduct_93 (by decide) ?_
                    refine lv_iconst (v := 0) hx hb dX10_readProduct_94 (by decide) ?_
                    refine x_V (As := [.int 5, .int 0]) (rest := []) C (a_X10_emits l K G H2122 (5) (0) (x2128) hTH2122 ga0 goq m2129 gaq m2130 ex2128 g2131 g2132 g2133 g2134 (by omega)) yo_X10_emits wM_X10_238 ⟨⟨by decide, by decide⟩, by decide, by decide⟩ (x_rv C hTH2122 (ci := 10) rfl ga0 rg_112) rfl hl2033.1 rfl (Nat.le_of_ble_eq_true rfl) dX10_readProduct_95 hSH2122 (AE_sub (fun _ _ => rfl) (by decide) hSH2122.1) (fun vH2151 H2151 locsH2151 pH2151 zH2151 kH2151 hSH2151 => ?_)
                    obtain ⟨x2152, hvH2151, ex2152, hrH2151, m2153, m2154, g2155, g2156, g2157, g2158, mf2159, m2160, m2161, m2162, m2163, hTH2151⟩ := pH2151
                    subst hvH2151
                    have m2164 := (m2129).trans (MF.r mf2159 (k := 32) (by decide) (by decide)).symm
                    have m2165 := (m2130).trans (MF.r mf2159 (k := 33) (by decide) (by decide)).symm
                    have m2166 := (m2141).trans (MF.i mf2159 (k := 18) (by decide) (by decide)).symm
                    have m2167 := (m2142).trans (MF.i mf2159 (k := 34) (by decide) (by decide)).symm
                    have m2168 := (m2143).trans (MF.r mf2159 (k := 17) (by decide) (by decide)).symm
                    have m2169 := (ex2124).trans (MF.i mf2159 (k := 19) (by decide) (by decide)).symm
                    have m2170 := (ex2125).trans (MF.i mf2159 (k := 20) (by decide) (by decide)).symm
                    have m2171 := (ex2126).trans (MF.i mf2159 (k := 21) (by decide) (by decide)).symm
                    have m2172 := (ex2127).trans (MF.i mf2159 (k := 22) (by decide) (by decide)).symm
                    have mf2173 : MF K s.heap H2151 a0 [19, 20, 21, 22, 35, 39, 40] := MF.trans mf2144 mf2159 (by decide)
                    have bx2152 := ty_fi (x := x2152) (k := 35) ex2152 hTH2151 ga0 rg_112 rfl
                    have cem2163 := i_cl (x := x2128) (by omega)
                    have ce_mn := i_cl (x := mn) (by omega)
                    have b2174 : ∀ j : Nat, j < 3000 + mn.toNatClampNeg → fI H2151 oq j = fI s.heap oq j ∧ fI H2151 aq j = fI s.heap aq j := fun j hj => ⟨(m2162 j (by omega)).trans (b2145 j hj).1, (m2163 j (by omega)).trans (b2145 j hj).2⟩
                    have ce_mn := i_cl (x := mn) (by omega)
                    have ce_x1992 := i_cl (x := x1992) (by omega)
                    have b2175 : WF (fun k => fI H2151 oq k) (fun k => fI H2151 aq k) (3000 + mn.toNatClampNeg) (3000 + x1992.toNatClampNeg) 0 1 := WF.keep b2146 (fun j hj => m2162 j (by omega)) (fun j hj => m2163 j (by omega))
                    have ce_x1992 := i_cl (x := x1992) (by omega)
                    have b2176 : WF (fun k => fI H2151 oq k) (fun k => fI H2151 aq k) (3000 + x1992.toNatClampNeg) (3000 + x2128.toNatClampNeg) 0 1 := WF.keep wu0 (fun j hj => m2162 j (by omega)) (fun j hj => m2163 j (by omega))
                    have ce_x1992 := i_cl (x := x1992) (by omega)
                    have b2177 : (fI H2151 oq (3000 + x1992.toNatClampNeg)).toInt = 0 ∧ (fI H2151 aq (3000 + x1992.toNatClampNeg)).toInt = x2039.toInt := ⟨(congrArg Int32.toInt (m2162 _ (by omega))).trans ev0.1, (congrArg Int32.toInt (m2163 _ (by omega))).trans ev0.2⟩
                    refine W.eq (g2 := F0 m 98 ls2032 []) rfl ?_
                    have ho := congrArg Int32.toInt m2160
                    have cb_mn := i_cl (x := mn) (by omega)
                    have cb_x1992 := i_cl (x := x1992) (by omega)
                    have cb_x2128 := i_cl (x := x2128) (by omega)
                    have ev1 : (fI H2151 oq (3000 + x1992.toNatClampNeg)).toInt = 0 ∧ (fI H2151 aq (3000 + x1992.toNatClampNeg)).toInt ≠ 0 := ⟨b2177.1, by rw [b2177.2]; omega⟩
                    have wn : WF (fun k => fI H2151 oq k) (fun k => fI H2151 aq k) (3000 + mn.toNatClampNeg) (3000 + x2128.toNatClampNeg + 1) 0 1 := WF.bin b2175 b2176 (by omega) (by omega) (by show 2 ≤ (fI _ oq _).toInt ∧ (fI _ oq _).toInt ≤ 11 ∧ (fI _ oq _).toInt ≠ 9; omega) (Or.inr ⟨by omega, ev1.1, ev1.2⟩)
                    refine lv_goto (tgt := 10) hx hb dX10_readProduct_98 (by decide) ?_
                    have cl_mn := i_cl (x := mn) (by omega)
                    have cl_mn := i_cl (x := mn) (by omega)
                    have cl_x2128 := i_cl (x := x2128) (by omega)
                    have cl_x2152 := i_cl (x := x2152) (by omega)
                    exact ih10 ls2032 H2151 locsH2151 (x2124) (x2125) (x2126) (x2127) (x2152) (lv_sub hl2033 [1] rfl) hTH2151 hSH2151 (by have := i_rng x2124; omega) (by have := i_rng x2125; omega) (by have := i_rng x2152; omega) m2169 m2170 m2171 m2172 ex2152 m2153 m2154 m2166 m2167 b2174 (WF.cast wn (by omega) (by omega)) mf2173 g2155 g2156 g2157 g2158 (by omega) (by omega)
                  · have k2150 := i_ne c2149
                    exfalso
                    omega
                · have k2148 := i_eq c2147
                  refine lv_iconst (v := (-1)) hx hb dX10_readProduct_82 (by decide) ?_
                  exact x_iret C hQ dX10_readProduct_83 hSH2122 (by decide) (by decide) (⟨(-1), x2124, x2125, x2126, x2127, x2128, rfl, by decide, ex2124, ex2125, ex2126, ex2127, ex2128, by omega, m2129, m2130, g2131, g2132, g2133, g2134, mf2144, b2145, Or.inl (by omega), hTH2122⟩)
              · have k2121 := i_eq c2120
                refine lv_aload_n hx hb dX10_readProduct_68 rfl (lv_at hl2033 1 rfl) ?_
                refine lv_iconst (v := 2) hx hb dX10_readProduct_69 (by decide) ?_
                refine x_V (As := [.int 2]) (rest := []) C (a_X10_fails l K G H2035 (2) hTH2035 ga0 g2041 g2042 g2043 g2044) yo_X10_fails wM_X10_235 ⟨⟨by decide, by decide⟩, by decide, by decide⟩ (x_rv C hTH2035 (ci := 10) rfl ga0 rg_112) rfl hl2033.1 rfl (Nat.le_of_ble_eq_true rfl) dX10_readProduct_70 hSH2035 (AE_sub (fun _ _ => rfl) (by decide) hSH2035.1) (fun vH2178 H2178 locsH2178 pH2178 zH2178 kH2178 hSH2178 => ?_)
                obtain ⟨x2179, hvH2178, bx2179, g2180, g2181, g2182, g2183, mf2184, hTH2178⟩ := pH2178
                subst hvH2178
                have b2185 : ∀ j : Nat, j < 3000 + mn.toNatClampNeg → fI H2178 oq j = fI s.heap oq j ∧ fI H2178 aq j = fI s.heap aq j := fun j hj => ⟨(fI_kept (x_lt hTH2035 kH2178 goq (by decide))).trans (b2046 j hj).1, (fI_kept (x_lt hTH2035 kH2178 gaq (by decide))).trans (b2046 j hj).2⟩
                have b2186 : WF (fun k => fI H2178 oq k) (fun k => fI H2178 aq k) (3000 + mn.toNatClampNeg) (3000 + x1992.toNatClampNeg) 0 1 := WF.congr (fun j => fI_kept (x_lt hTH2035 kH2178 goq (by decide))) (fun j => fI_kept (x_lt hTH2035 kH2178 gaq (by decide))) b2047
                have m2187 := (m2048).trans (MF.i mf2184 (k := 35) (by decide) (by decide)).symm
                have m2188 := (m2049).trans (MF.r mf2184 (k := 32) (by decide) (by decide)).symm
                have m2189 := (m2050).trans (MF.r mf2184 (k := 33) (by decide) (by decide)).symm
                have m2190 := (m2051).trans (MF.i mf2184 (k := 18) (by decide) (by decide)).symm
                have m2191 := (m2052).trans (MF.i mf2184 (k := 34) (by decide) (by decide)).symm
                have m2192 := (m2040).trans (MF.r mf2184 (k := 17) (by decide) (by decide)).symm
                have m2193 := (ex2036).trans (MF.i mf2184 (k := 19) (by decide) (by decide)).symm
                have m2194 := (ex2037).trans (MF.i mf2184 (k := 20) (by decide) (by decide)).symm
                have m2195 := (ex2038).trans (MF.i mf2184 (k := 21) (by decide) (by decide)).symm
                have m2196 := (ex2039).trans (MF.i mf2184 (k := 22) (by decide) (by decide)).symm
                have mf2197 : MF K s.heap H2178 a0 [19, 20, 21, 22, 35, 39, 40] := MF.trans mf2054 mf2184 (by decide)
                refine W.eq (g2 := F0 m 73 ls2032 [.int x2179]) rfl ?_
                exact x_iret C hQ dX10_readProduct_73 hSH2178 (by decide) (by decide) (⟨x2179, x2036, x2037, x2038, x2039, x1992, rfl, by omega, m2193, m2194, m2195, m2196, m2187, by omega, m2188, m2189, g2180, g2181, g2182, g2183, mf2197, b2185, Or.inl (by omega), hTH2178⟩)
          · have k2116 := i_ne c2115
            refine lv_aload_n hx hb dX10_readProduct_51 rfl (lv_at hl2033 1 rfl) ?_
            refine lv_iconst (v := 1) hx hb dX10_readProduct_52 (by decide) ?_
            refine x_V (As := [.int 1]) (rest := []) C (a_X10_fails l K G H2035 (1) hTH2035 ga0 g2041 g2042 g2043 g2044) yo_X10_fails wM_X10_235 ⟨⟨by decide, by decide⟩, by decide, by decide⟩ (x_rv C hTH2035 (ci := 10) rfl ga0 rg_112) rfl hl2033.1 rfl (Nat.le_of_ble_eq_true rfl) dX10_readProduct_53 hSH2035 (AE_sub (fun _ _ => rfl) (by decide) hSH2035.1) (fun vH2198 H2198 locsH2198 pH2198 zH2198 kH2198 hSH2198 => ?_)
            obtain ⟨x2199, hvH2198, bx2199, g2200, g2201, g2202, g2203, mf2204, hTH2198⟩ := pH2198
            subst hvH2198
            have b2205 : ∀ j : Nat, j < 3000 + mn.toNatClampNeg → fI H2198 oq j = fI s.heap oq j ∧ fI H2198 aq j = fI s.heap aq j := fun j hj => ⟨(fI_kept (x_lt hTH2035 kH2198 goq (by decide))).trans (b2046 j hj).1, (fI_kept (x_lt hTH2035 kH2198 gaq (by decide))).trans (b2046 j hj).2⟩
            have b2206 : WF (fun k => fI H2198 oq k) (fun k => fI H2198 aq k) (3000 + mn.toNatClampNeg) (3000 + x1992.toNatClampNeg) 0 1 := WF.congr (fun j => fI_kept (x_lt hTH2035 kH2198 goq (by decide))) (fun j => fI_kept (x_lt hTH2035 kH2198 gaq (by decide))) b2047
            have m2207 := (m2048).trans (MF.i mf2204 (k := 35) (by decide) (by decide)).symm
            have m2208 := (m2049).trans (MF.r mf2204 (k := 32) (by decide) (by decide)).symm
            have m2209 := (m2050).trans (MF.r mf2204 (k := 33) (by decide) (by decide)).symm
            have m2210 := (m2051).trans (MF.i mf2204 (k := 18) (by decide) (by decide)).symm
            have m2211 := (m2052).trans (MF.i mf2204 (k := 34) (by decide) (by decide)).symm
            have m2212 := (m2040).trans (MF.r mf2204 (k := 17) (by decide) (by decide)).symm
            have m2213 := (ex2036).trans (MF.i mf2204 (k := 19) (by decide) (by decide)).symm
            have m2214 := (ex2037).trans (MF.i mf2204 (k := 20) (by decide) (by decide)).symm
            have m2215 := (ex2038).trans (MF.i mf2204 (k := 21) (by decide) (by decide)).symm
            have m2216 := (ex2039).trans (MF.i mf2204 (k := 22) (by decide) (by decide)).symm
            have mf2217 : MF K s.heap H2198 a0 [19, 20, 21, 22, 35, 39, 40] := MF.trans mf2054 mf2204 (by decide)
            refine W.eq (g2 := F0 m 56 ls2032 [.int x2199]) rfl ?_
            exact x_iret C hQ dX10_readProduct_56 hSH2198 (by decide) (by decide) (⟨x2199, x2036, x2037, x2038, x2039, x1992, rfl, by omega, m2213, m2214, m2215, m2216, m2207, by omega, m2208, m2209, g2200, g2201, g2202, g2203, mf2217, b2205, Or.inl (by omega), hTH2198⟩)
      · have k2013 := i_eq c2012
        refine lv_aload_n hx hb dX10_readProduct_19 rfl (lv_at hl1987 0 rfl) ?_
        refine lv_bipush (v := 47) hx hb dX10_readProduct_20 (by decide) ?_
        refine x_V (As := [.int 47]) (rest := []) C (a_X10_isSign l K G H1994 (47) (x1990) (x1991) hTH1994 ga0 m2005 m2006) yo_X10_isSign wM_X10_249 ⟨⟨by decide, by decide⟩, by decide, by decide⟩ (x_rv C hTH1994 (ci := 10) rfl ga0 rg_112) rfl hl1987.1 rfl (Nat.le_of_ble_eq_true rfl) dX10_readProduct_22 hSH1994 (AE_sub (fun _ _ => rfl) (by decide) hSH1994.1) (fun vH2218 H2218 locsH2218 pH2218 zH2218 kH2218 hSH2218 => ?_)
        obtain ⟨x2219, hvH2218, bx2219, hrH2218, hTH2218⟩ := pH2218
        subst hvH2218
        have mf2220 : MF K s.heap H2218 a0 [19, 20, 21, 22, 35, 39, 40] := MF.eff (x_lt hTH1994 kH2218 ga0 (by decide)) mf1996
        have b2221 : ∀ j : Nat, j < 3000 + mn.toNatClampNeg → fI H2218 oq j = fI s.heap oq j ∧ fI H2218 aq j = fI s.heap aq j := fun j hj => ⟨(fI_kept (x_lt hTH1994 kH2218 goq (by decide))).trans (b1997 j hj).1, (fI_kept (x_lt hTH1994 kH2218 gaq (by decide))).trans (b1997 j hj).2⟩
        have b2222 : WF (fun k => fI H2218 oq k) (fun k => fI H2218 aq k) (3000 + mn.toNatClampNeg) (3000 + x1992.toNatClampNeg) 0 1 := WF.congr (fun j => fI_kept (x_lt hTH1994 kH2218 goq (by decide))) (fun j => fI_kept (x_lt hTH1994 kH2218 gaq (by decide))) b1998
        have g2223 : CG (avw K H2218 a0) := CG.congr (fun k hk j => av_eff hTH1994 kH2218 ga0 (by decide) (CG_eff [] (by decide) k hk)) g1999
        have g2224 : TU (avw K H2218 a0) (svw K H2218 a0) := TU.congr (fun k hk j => av_eff hTH1994 kH2218 ga0 (by decide) (TU_eff [] (by decide) k hk)) (fun k hk => sv_eff hTH1994 kH2218 ga0 (by decide)) g2000
        have g2225 : WD (avw K H2218 a0) := WD.congr (fun k hk j => av_eff hTH1994 kH2218 ga0 (by decide) (WD_eff [] (by decide) k hk)) g2001
        have g2226 : IM (avw K H2218 a0) := IM.congr (fun k hk j => av_eff hTH1994 kH2218 ga0 (by decide) (IM_eff [] (by decide) k hk)) g2002
        have m2227 := (m2003).trans (fI_kept (x_lt hTH1994 kH2218 ga0 (by decide))).symm
        have m2228 := (m2004).trans (fI_kept (x_lt hTH1994 kH2218 ga0 (by decide))).symm
        have m2229 := (m2005).trans (fI_kept (x_lt hTH1994 kH2218 ga0 (by decide))).symm
        have m2230 := (m2006).trans (fI_kept (x_lt hTH1994 kH2218 ga0 (by decide))).symm
        have m2231 := (m2007).trans (fI_kept (x_lt hTH1994 kH2218 ga0 (by decide))).symm
        have m2232 := (m2008).trans (fR_kept (x_lt hTH1994 kH2218 ga0 (by decide))).symm
        have m2233 := (m2009).trans (fR_kept (x_lt hTH1994 kH2218 ga0 (by decide))).symm
        have m2234 := (m2010).trans (fI_kept (x_lt hTH1994 kH2218 ga0 (by decide))).symm
        have m2235 := (m2011).trans (fI_kept (x_lt hTH1994 kH2218 ga0 (by decide))).symm
        refine W.eq (g2 := F0 m 25 ls1986 [.int x2219]) rfl ?_
        refine lv_if_eq (tgt := 101) hx hb dX10_readProduct_25 (by decide) (fun c2236 => ?_) (fun c2236 => ?_)
        · have k2237 := i_eq c2236
          refine lv_iconst (v := 0) hx hb dX10_readProduct_101 (by decide) ?_
          have cr_mn := i_cl (x := mn) (by omega)
          have cr_x1992 := i_cl (x := x1992) (by omega)
          exact x_iret C hQ dX10_readProduct_102 hSH2218 (by decide) (by decide) (⟨0, x1988, x1989, x1990, x1991, x1992, rfl, by decide, m2227, m2228, m2229, m2230, m2231, by omega, m2232, m2233, g2223, g2224, g2225, g2226, mf2220, b2221, Or.inr (WF.cast b2222 (by omega) (by omega)), hTH2218⟩)
        · have k2237 := i_ne c2236
          refine lv_aload_n hx hb dX10_readProduct_28 rfl (lv_at hl1987 0 rfl) ?_
          refine lv_bipush (v := 42) hx hb dX10_readProduct_29 (by decide) ?_
          refine x_V (As := [.int 42]) (rest := []) C (a_X10_isSign l K G H2218 (42) (x1990) (x1991) hTH2218 ga0 m2229 m2230) yo_X10_isSign wM_X10_249 ⟨⟨by decide, by decide⟩, by decide, by decide⟩ (x_rv C hTH2218 (ci := 10) rfl ga0 rg_112) rfl hl1987.1 rfl (Nat.le_of_ble_eq_true rfl) dX10_readProduct_31 hSH2218 (AE_sub (fun _ _ => rfl) (by decide) hSH2218.1) (fun vH2238 H2238 locsH2238 pH2238 zH2238 kH2238 hSH2238 => ?_)
          obtain ⟨x2239, hvH2238, bx2239, hrH2238, hTH2238⟩ := pH2238
          subst hvH2238
          have mf2240 : MF K s.heap H2238 a0 [19, 20, 21, 22, 35, 39, 40] := MF.eff (x_lt hTH2218 kH2238 ga0 (by decide)) mf2220
          have b2241 : ∀ j : Nat, j < 3000 + mn.toNatClampNeg → fI H2238 oq j = fI s.heap oq j ∧ fI H2238 aq j = fI s.heap aq j := fun j hj => ⟨(fI_kept (x_lt hTH2218 kH2238 goq (by decide))).trans (b2221 j hj).1, (fI_kept (x_lt hTH2218 kH2238 gaq (by decide))).trans (b2221 j hj).2⟩
          have b2242 : WF (fun k => fI H2238 oq k) (fun k => fI H2238 aq k) (3000 + mn.toNatClampNeg) (3000 + x1992.toNatClampNeg) 0 1 := WF.congr (fun j => fI_kept (x_lt hTH2218 kH2238 goq (by decide))) (fun j => fI_kept (x_lt hTH2218 kH2238 gaq (by decide))) b2222
          have g2243 : CG (avw K H2238 a0) := CG.congr (fun k hk j => av_eff hTH2218 kH2238 ga0 (by decide) (CG_eff [] (by decide) k hk)) g2223
          have g2244 : TU (avw K H2238 a0) (svw K H2238 a0) := TU.congr (fun k hk j => av_eff hTH2218 kH2238 ga0 (by decide) (TU_eff [] (by decide) k hk)) (fun k hk => sv_eff hTH2218 kH2238 ga0 (by decide)) g2224
          have g2245 : WD (avw K H2238 a0) := WD.congr (fun k hk j => av_eff hTH2218 kH2238 ga0 (by decide) (WD_eff [] (by decide) k hk)) g2225
          have g2246 : IM (avw K H2238 a0) := IM.congr (fun k hk j => av_eff hTH2218 kH2238 ga0 (by decide) (IM_eff [] (by decide) k hk)) g2226
          have m2247 := (m2227).trans (fI_kept (x_lt hTH2218 kH2238 ga0 (by decide))).symm
          have m2248 := (m2228).trans (fI_kept (x_lt hTH2218 kH2238 ga0 (by decide))).symm
          have m2249 := (m2229).trans (fI_kept (x_lt hTH2218 kH2238 ga0 (by decide))).symm
          have m2250 := (m2230).trans (fI_kept (x_lt hTH2218 kH2238 ga0 (by decide))).symm
          have m2251 := (m2231).trans (fI_kept (x_lt hTH2218 kH2238 ga0 (by decide))).symm
          have m2252 := (m2232).trans (fR_kept (x_lt hTH2218 kH2238 ga0 (by decide))).symm
          have m2253 := (m2233).trans (fR_kept (x_lt hTH2218 kH2238 ga0 (by decide))).symm
          have m2254 := (m2234).trans (fI_kept (x_lt hTH2218 kH2238 ga0 (by decide))).symm
          have m2255 := (m2235).trans (fI_kept (x_lt hTH2218 kH2238 ga0 (by decide))).symm
          refine W.eq (g2 := F0 m 34 ls1986 [.int x2239]) rfl ?_
          refine lv_istore_n (lv' := [(1, .int x2239), (0, .ref a0)]) hx hb dX10_readProduct_34 rfl hl1987 (by decide) rfl (fun ls2256 hl2257 => ?_)
          refine lv_aload_n hx hb dX10_readProduct_35 rfl (lv_at hl2257 1 rfl) ?_
          obtain ⟨q2258, eq2258⟩ : ∃ z : Nat, z = fR H2238 a0 (K.1.2 10 17) := ⟨_, rfl⟩
          have gq2258 := ty_fr (q := q2258) (k := 17) (u := 126) eq2258 hTH2238 ga0 rg_112 rfl
          refine x_V (As := []) (rest := []) C (a_X10_reads l K G H2238 (x1988) (x1989) (x1990) (x1991) (tp) hTH2238 ga0 gq2258 eq2258 m2247 m2248 m2249 m2250 m2254 g2243 g2244 g2245 g2246 (by omega)) yo_X10_reads wM_X10_242 ⟨⟨by decide, by decide⟩, by decide, by decide⟩ (x_rv C hTH2238 (ci := 10) rfl ga0 rg_112) rfl hl2257.1 rfl (Nat.le_of_ble_eq_true rfl) dX10_readProduct_36 hSH2238 (AE_sub (fun _ _ => rfl) (by decide) hSH2238.1) (fun vH2259 H2259 locsH2259 pH2259 zH2259 kH2259 hSH2259 => ?_)
          obtain ⟨x2260, x2261, x2262, x2263, hvH2259, ex2260, ex2261, ex2262, ex2263, hrH2259, m2264, g2265, g2266, g2267, g2268, mf2269, hTH2259⟩ := pH2259
          subst hvH2259
          have b2270 : ∀ j : Nat, j < 3000 + mn.toNatClampNeg → fI H2259 oq j = fI s.heap oq j ∧ fI H2259 aq j = fI s.heap aq j := fun j hj => ⟨(fI_kept (x_lt hTH2238 kH2259 goq (by decide))).trans (b2241 j hj).1, (fI_kept (x_lt hTH2238 kH2259 gaq (by decide))).trans (b2241 j hj).2⟩
          have b2271 : WF (fun k => fI H2259 oq k) (fun k => fI H2259 aq k) (3000 + mn.toNatClampNeg) (3000 + x1992.toNatClampNeg) 0 1 := WF.congr (fun j => fI_kept (x_lt hTH2238 kH2259 goq (by decide))) (fun j => fI_kept (x_lt hTH2238 kH2259 gaq (by decide))) b2242
          have m2272 := (m2251).trans (MF.i mf2269 (k := 35) (by decide) (by decide)).symm
          have m2273 := (m2252).trans (MF.r mf2269 (k := 32) (by decide) (by decide)).symm
          have m2274 := (m2253).trans (MF.r mf2269 (k := 33) (by decide) (by decide)).symm
          have m2275 := (m2254).trans (MF.i mf2269 (k := 18) (by decide) (by decide)).symm
          have m2276 := (m2255).trans (MF.i mf2269 (k := 34) (by decide) (by decide)).symm
          have m2277 := (eq2258).trans (MF.r mf2269 (k := 17) (by decide) (by decide)).symm
          have mf2278 : MF K s.heap H2259 a0 [19, 20, 21, 22, 35, 39, 40] := MF.trans mf2240 mf2269 (by decide)
          have bx2260 := ty_fi (x := x2260) (k := 19) ex2260 hTH2259 ga0 rg_112 rfl
          have bx2261 := ty_fi (x := x2261) (k := 20) ex2261 hTH2259 ga0 rg_112 rfl
          have bx2262 := ty_fi (x := x2262) (k := 21) ex2262 hTH2259 ga0 rg_112 rfl
          have bx2263 := ty_fi (x := x2263) (k := 22) ex2263 hTH2259 ga0 rg_112 rfl
          refine W.eq (g2 := F0 m 39 ls2256 []) rfl ?_
          refine lv_iload_n hx hb dX10_readProduct_39 rfl (lv_at hl2257 0 rfl) ?_
          refine lv_if_ne (tgt := 57) hx hb dX10_readProduct_40 (by decide) (fun c2279 => ?_) (fun c2279 => ?_)
          · have k2280 := i_ne c2279
            refine lv_iload_n hx hb dX10_readProduct_57 rfl (lv_at hl2257 0 rfl) ?_
            refine lv_if_ne (tgt := 74) hx hb dX10_readProduct_58 (by decide) (fun c2281 => ?_) (fun c2281 => ?_)
            · have k2282 := i_ne c2281
              refine lv_aload_n hx hb dX10_readProduct_74 rfl (lv_at hl2257 1 rfl) ?_
              refine x_V (As := []) (rest := []) C (a_X10_readUnit l K G H2259 (x2260) (x2261) (x2262) (x2263) (x1992) (tp) (jb) hTH2259 ga0 goq m2273 gaq m2274 ex2260 ex2261 ex2262 ex2263 m2272 m2275 m2276 g2265 g2266 g2267 g2268 (by omega) (by omega)) yo_X10_readUnit wM_X10_245 ⟨⟨by decide, by decide⟩, by decide, by decide⟩ (x_rv C hTH2259 (ci := 10) rfl ga0 rg_112) rfl hl2257.1 rfl (Nat.le_of_ble_eq_true rfl) dX10_readProduct_75 hSH2259 (AE_sub (fun _ _ => rfl) (by decide) hSH2259.1) (fun vH2283 H2283 locsH2283 pH2283 zH2283 kH2283 hSH2283 => ?_)
              obtain ⟨x2284, x2285, x2286, x2287, x2288, x2289, hvH2283, bx2284, ex2285, ex2286, ex2287, ex2288, ex2289, hrH2283, m2290, m2291, g2292, g2293, g2294, g2295, mf2296, m2297, m2298, m2299, hTH2283⟩ := pH2283
              subst hvH2283
              have m2300 := (m2273).trans (MF.r mf2296 (k := 32) (by decide) (by decide)).symm
              have m2301 := (m2274).trans (MF.r mf2296 (k := 33) (by decide) (by decide)).symm
              have m2302 := (m2275).trans (MF.i mf2296 (k := 18) (by decide) (by decide)).symm
              have m2303 := (m2276).trans (MF.i mf2296 (k := 34) (by decide) (by decide)).symm
              have m2304 := (m2264).trans (MF.r mf2296 (k := 17) (by decide) (by decide)).symm
              have mf2305 : MF K s.heap H2283 a0 [19, 20, 21, 22, 35, 39, 40] := MF.trans mf2278 mf2296 (by decide)
              have bx2285 := ty_fi (x := x2285) (k := 19) ex2285 hTH2283 ga0 rg_112 rfl
              have bx2286 := ty_fi (x := x2286) (k := 20) ex2286 hTH2283 ga0 rg_112 rfl
              have bx2287 := ty_fi (x := x2287) (k := 21) ex2287 hTH2283 ga0 rg_112 rfl
              have bx2288 := ty_fi (x := x2288) (k := 22) ex2288 hTH2283 ga0 rg_112 rfl
              have bx2289 := ty_fi (x := x2289) (k := 35) ex2289 hTH2283 ga0 rg_112 rfl
              have csm2297 := i_cl (x := x1992) (by omega)
              have cs_mn := i_cl (x := mn) (by omega)
              have b2306 : ∀ j : Nat, j < 3000 + mn.toNatClampNeg → fI H2283 oq j = fI s.heap oq j ∧ fI H2283 aq j = fI s.heap aq j := fun j hj => ⟨(m2297 j (by omega)).1.trans (b2270 j hj).1, (m2297 j (by omega)).2.trans (b2270 j hj).2⟩
              have cs_mn := i_cl (x := mn) (by omega)
              have b2307 : WF (fun k => fI H2283 oq k) (fun k => fI H2283 aq k) (3000 + mn.toNatClampNeg) (3000 + x1992.toNatClampNeg) 0 1 := WF.keep b2271 (fun j hj => (m2297 j (by omega)).1) (fun j hj => (m2297 j (by omega)).2)
              refine W.eq (g2 := F0 m 78 ls2256 [.int x2284]) rfl ?_
              refine lv_iconst (v := (-1)) hx hb dX10_readProduct_78 (by decide) ?_
              refine lv_icmp_ne (tgt := 84) hx hb dX10_readProduct_79 (by decide) (fun c2308 => ?_) (fun c2308 => ?_)
              · have k2309 := i_ne c2308
                have wu0 : WF (fun k => fI H2283 oq k) (fun k => fI H2283 aq k) (3000 + x1992.toNatClampNeg) (3000 + x2289.toNatClampNeg) 0 1 := by
                  rcases m2298 with h | h
                  · exfalso; omega
                  · exact h
                refine lv_aload_n hx hb dX10_readProduct_84 rfl (lv_at hl2257 1 rfl) ?_
                refine lv_iload_n hx hb dX10_readProduct_85 rfl (lv_at hl2257 0 rfl) ?_
                refine lv_if_eq (tgt := 93) hx hb dX10_readProduct_86 (by decide) (fun c2310 => ?_) (fun c2310 => ?_)
                · have k2311 := i_eq c2310
                  exfalso
                  omega
                · have k2311 := i_ne c2310
                  refine lv_iconst (v := 4) hx hb dX10_readProduct_89 (by decide) ?_
                  refine lv_goto (tgt := 94) hx hb dX10_readProduct_90 (by decide) ?_
                  refine lv_iconst (v := 0) hx hb dX10_readProduct_94 (by decide) ?_
                  refine x_V (As := [.int 4, .int 0]) (rest := []) C (a_X10_emits l K G H2283 (4) (0) (x2289) hTH2283 ga0 goq m2290 gaq m2291 ex2289 g2292 g2293 g2294 g2295 (by omega)) yo_X10_emits wM_X10_238 ⟨⟨by decide, by decide⟩, by decide, by decide⟩ (x_rv C hTH2283 (ci := 10) rfl ga0 rg_112) rfl hl2257.1 rfl (Nat.le_of_ble_eq_true rfl) dX10_readProduct_95 hSH2283 (AE_sub (fun _ _ => rfl) (by decide) hSH2283.1) (fun vH2312 H2312 locsH2312 pH2312 zH2312 kH2312 hSH2312 => ?_)
                  obtain ⟨x2313, hvH2312, ex2313, hrH2312, m2314, m2315, g2316, g2317, g2318, g2319, mf2320, m2321, m2322, m2323, m2324, hTH2312⟩ := pH2312
                  subst hvH2312
                  have m2325 := (m2290).trans (MF.r mf2320 (k := 32) (by decide) (by decide)).symm
                  have m2326 := (m2291).trans (MF.r mf2320 (k := 33) (by decide) (by decide)).symm
                  have m2327 := (m2302).trans (MF.i mf2320 (k := 18) (by decide) (by decide)).symm
                  have m2328 := (m2303).trans (MF.i mf2320 (k := 34) (by decide) (by decide)).symm
                  have m2329 := (m2304).trans (MF.r mf2320 (k := 17) (by decide) (by decide)).symm
                  have m2330 := (ex2285).trans (MF.i mf2320 (k := 19) (by decide) (by decide)).symm
                  have m2331 := (ex2286).trans (MF.i mf2320 (k := 20) (by decide) (by decide)).symm
                  have m2332 := (ex2287).trans (MF.i mf2320 (k := 21) (by decide) (by decide)).symm
                  have m2333 := (ex2288).trans (MF.i mf2320 (k := 22) (by decide) (by decide)).symm
                  have mf2334 : MF K s.heap H2312 a0 [19, 20, 21, 22, 35, 39, 40] := MF.trans mf2305 mf2320 (by decide)
                  have bx2313 := ty_fi (x := x2313) (k := 35) ex2313 hTH2312 ga0 rg_112 rfl
                  have cem2324 := i_cl (x := x2289) (by omega)
                  have ce_mn := i_cl (x := mn) (by omega)
                  have b2335 : ∀ j : Nat, j < 3000 + mn.toNatClampNeg → fI H2312 oq j = fI s.heap oq j ∧ fI H2312 aq j = fI s.heap aq j := fun j hj => ⟨(m2323 j (by omega)).trans (b2306 j hj).1, (m2324 j (by omega)).trans (b2306 j hj).2⟩
                  have ce_mn := i_cl (x := mn) (by omega)
                  have ce_x1992 := i_cl (x := x1992) (by omega)
                  have b2336 : WF (fun k => fI H2312 oq k) (fun k => fI H2312 aq k) (3000 + mn.toNatClampNeg) (3000 + x1992.toNatClampNeg) 0 1 := WF.keep b2307 (fun j hj => m2323 j (by omega)) (fun j hj => m2324 j (by omega))
                  have ce_x1992 := i_cl (x := x1992) (by omega)
                  have b2337 : WF (fun k => fI H2312 oq k) (fun k => fI H2312 aq k) (3000 + x1992.toNatClampNeg) (3000 + x2289.toNatClampNeg) 0 1 := WF.keep wu0 (fun j hj => m2323 j (by omega)) (fun j hj => m2324 j (by omega))
                  refine W.eq (g2 := F0 m 98 ls2256 []) rfl ?_
                  have ho := congrArg Int32.toInt m2321
                  have cb_mn := i_cl (x := mn) (by omega)
                  have cb_x1992 := i_cl (x := x1992) (by omega)
                  have cb_x2289 := i_cl (x := x2289) (by omega)
                  have wn : WF (fun k => fI H2312 oq k) (fun k => fI H2312 aq k) (3000 + mn.toNatClampNeg) (3000 + x2289.toNatClampNeg + 1) 0 1 := WF.bin b2336 b2337 (by omega) (by omega) (by show 2 ≤ (fI _ oq _).toInt ∧ (fI _ oq _).toInt ≤ 11 ∧ (fI _ oq _).toInt ≠ 9; omega) (Or.inl (by show (fI _ oq _).toInt ≠ 5; omega))
                  refine lv_goto (tgt := 10) hx hb dX10_readProduct_98 (by decide) ?_
                  have cl_mn := i_cl (x := mn) (by omega)
                  have cl_mn := i_cl (x := mn) (by omega)
                  have cl_x2289 := i_cl (x := x2289) (by omega)
                  have cl_x2313 := i_cl (x := x2313) (by omega)
                  exact ih10 ls2256 H2312 locsH2312 (x2285) (x2286) (x2287) (x2288) (x2313) (lv_sub hl2257 [1] rfl) hTH2312 hSH2312 (by have := i_rng x2285; omega) (by have := i_rng x2286; omega) (by have := i_rng x2313; omega) m2330 m2331 m2332 m2333 ex2313 m2314 m2315 m2327 m2328 b2335 (WF.cast wn (by omega) (by omega)) mf2334 g2316 g2317 g2318 g2319 (by omega) (by omega)
              · have k2309 := i_eq c2308
                refine lv_iconst (v := (-1)) hx hb dX10_readProduct_82 (by decide) ?_
                exact x_iret C hQ dX10_readProduct_83 hSH2283 (by decide) (by decide) (⟨(-1), x2285, x2286, x2287, x2288, x2289, rfl, by decide, ex2285, ex2286, ex2287, ex2288, ex2289, by omega, m2290, m2291, g2292, g2293, g2294, g2295, mf2305, b2306, Or.inl (by omega), hTH2283⟩)
            · have k2282 := i_eq c2281
              exfalso
              omega
          · have k2280 := i_eq c2279
            refine lv_aload_n hx hb dX10_readProduct_43 rfl (lv_at hl2257 1 rfl) ?_
            refine x_gi C hTH2259 (ci := 10) (k := 21) rfl inX10 (by decide) wF_X10_202 ga0 rg_112 rfl dX10_readProduct_44 (fun x2338 ex2338 bx2338 => ?_)
            have ux2338 : x2262 = x2338 := (ex2262).trans ex2338.symm
            subst ux2338
            refine lv_iconst (v := 3) hx hb dX10_readProduct_47 (by decide) ?_
            refine lv_icmp_eq (tgt := 57) hx hb dX10_readProduct_48 (by decide) (fun c2339 => ?_) (fun c2339 => ?_)
            · have k2340 := i_eq c2339
              refine lv_iload_n hx hb dX10_readProduct_57 rfl (lv_at hl2257 0 rfl) ?_
              refine lv_if_ne (tgt := 74) hx hb dX10_readProduct_58 (by decide) (fun c2341 => ?_) (fun c2341 => ?_)
              · have k2342 := i_ne c2341
                exfalso
                omega
              · have k2342 := i_eq c2341
                refine lv_aload_n hx hb dX10_readProduct_61 rfl (lv_at hl2257 1 rfl) ?_
                refine x_gi C hTH2259 (ci := 10) (k := 22) rfl inX10 (by decide) wF_X10_205 ga0 rg_112 rfl dX10_readProduct_62 (fun x2343 ex2343 bx2343 => ?_)
                have ux2343 : x2263 = x2343 := (ex2263).trans ex2343.symm
                subst ux2343
                refine lv_if_ne (tgt := 74) hx hb dX10_readProduct_65 (by decide) (fun c2344 => ?_) (fun c2344 => ?_)
                · have k2345 := i_ne c2344
                  refine lv_aload_n hx hb dX10_readProduct_74 rfl (lv_at hl2257 1 rfl) ?_
                  refine x_V (As := []) (rest := []) C (a_X10_readUnit l K G H2259 (x2260) (x2261) (x2262) (x2263) (x1992) (tp) (jb) hTH2259 ga0 goq m2273 gaq m2274 ex2260 ex2261 ex2262 ex2263 m2272 m2275 m2276 g2265 g2266 g2267 g2268 (by omega) (by omega)) yo_X10_readUnit wM_X10_245 ⟨⟨by decide, by decide⟩, by decide, by decide⟩ (x_rv C hTH2259 (ci := 10) rfl ga0 rg_112) rfl hl2257.1 rfl (Nat.le_of_ble_eq_true rfl) dX10_readProduct_75 hSH2259 (AE_sub (fun _ _ => rfl) (by decide) hSH2259.1) (fun vH2346 H2346 locsH2346 pH2346 zH2346 kH2346 hSH2346 => ?_)
                  obtain ⟨x2347, x2348, x2349, x2350, x2351, x2352, hvH2346, bx2347, ex2348, ex2349, ex2350, ex2351, ex2352, hrH2346, m2353, m2354, g2355, g2356, g2357, g2358, mf2359, m2360, m2361, m2362, hTH2346⟩ := pH2346
                  subst hvH2346
                  have m2363 := (m2273).trans (MF.r mf2359 (k := 32) (by decide) (by decide)).symm
                  have m2364 := (m2274).trans (MF.r mf2359 (k := 33) (by decide) (by decide)).symm
                  have m2365 := (m2275).trans (MF.i mf2359 (k := 18) (by decide) (by decide)).symm
                  have m2366 := (m2276).trans (MF.i mf2359 (k := 34) (by decide) (by decide)).symm
                  have m2367 := (m2264).trans (MF.r mf2359 (k := 17) (by decide) (by decide)).symm
                  have mf2368 : MF K s.heap H2346 a0 [19, 20, 21, 22, 35, 39, 40] := MF.trans mf2278 mf2359 (by decide)
                  have bx2348 := ty_fi (x := x2348) (k := 19) ex2348 hTH2346 ga0 rg_112 rfl
                  have bx2349 := ty_fi (x := x2349) (k := 20) ex2349 hTH2346 ga0 rg_112 rfl
                  have bx2350 := ty_fi (x := x2350) (k := 21) ex2350 hTH2346 ga0 rg_112 rfl
                  have bx2351 := ty_fi (x := x2351) (k := 22) ex2351 hTH2346 ga0 rg_112 rfl
                  have bx2352 := ty_fi (x := x2352) (k := 35) ex2352 hTH2346 ga0 rg_112 rfl
                  have csm2360 := i_cl (x := x1992) (by omega)
                  have cs_mn := i_cl (x := mn) (by omega)
                  have b2369 : ∀ j : Nat, j < 3000 + mn.toNatClampNeg → fI H2346 oq j = fI s.heap oq j ∧ fI H2346 aq j = fI s.heap aq j := fun j hj => ⟨(m2360 j (by omega)).1.trans (b2270 j hj).1, (m2360 j (by omega)).2.trans (b2270 j hj).2⟩
                  have cs_mn := i_cl (x := mn) (by omega)
                  have b2370 : WF (fun k => fI H2346 oq k) (fun k => fI H2346 aq k) (3000 + mn.toNatClampNeg) (3000 + x1992.toNatClampNeg) 0 1 := WF.keep b2271 (fun j hj => (m2360 j (by omega)).1) (fun j hj => (m2360 j (by omega)).2)
                  refine W.eq (g2 := F0 m 78 ls2256 [.int x2347]) rfl ?_
                  refine lv_iconst (v := (-1)) hx hb dX10_readProduct_78 (by decide) ?_
                  refine lv_icmp_ne (tgt := 84) hx hb dX10_readProduct_79 (by decide) (fun c2371 => ?_) (fun c2371 => ?_)
                  · have k2372 := i_ne c2371
                    have wu0 : WF (fun k => fI H2346 oq k) (fun k => fI H2346 aq k) (3000 + x1992.toNatClampNeg) (3000 + x2352.toNatClampNeg) 0 1 := by
                      rcases m2361 with h | h
                      · exfalso; omega
                      · exact h
                    have ev0 : (fI H2346 oq (3000 + x1992.toNatClampNeg)).toInt = 0 ∧ (fI H2346 aq (3000 + x1992.toNatClampNeg)).toInt = x2263.toInt := by
                      rcases m2362 with h | h | h
                      · exfalso; omega
                      · exfalso; omega
                      · exact h
                    refine lv_aload_n hx hb dX10_readProduct_84 rfl (lv_at hl2257 1 rfl) ?_
                    refine lv_iload_n hx hb dX10_readProduct_85 rfl (lv_at hl2257 0 rfl) ?_
                    refine lv_if_eq (tgt := 93) hx hb dX10_readProduct_86 (by decide) (fun c2373 => ?_) (fun c2373 => ?_)
                    · have k2374 := i_eq c2373
                      refine lv_iconst (v := 5) hx hb dX10_readProduct_93 (by decide) ?_
                      refine lv_iconst (v := 0) hx hb dX10_readProduct_94 (by decide) ?_
                      refine x_V (As := [.int 5, .int 0]) (rest := []) C (a_X10_emits l K G H2346 (5) (0) (x2352) hTH2346 ga0 goq m2353 gaq m2354 ex2352 g2355 g2356 g2357 g2358 (by omega)) yo_X10_emits wM_X10_238 ⟨⟨by decide, by decide⟩, by decide, by decide⟩ (x_rv C hTH2346 (ci := 10) rfl ga0 rg_112) rfl hl2257.1 rfl (Nat.le_of_ble_eq_true rfl) dX10_readProduct_95 hSH2346 (AE_sub (fun _ _ => rfl) (by decide) hSH2346.1) (fun vH2375 H2375 locsH2375 pH2375 zH2375 kH2375 hSH2375 => ?_)
                      obtain ⟨x2376, hvH2375, ex2376, hrH2375, m2377, m2378, g2379, g2380, g2381, g2382, mf2383, m2384, m2385, m2386, m2387, hTH2375⟩ := pH2375
                      subst hvH2375
                      have m2388 := (m2353).trans (MF.r mf2383 (k := 32) (by decide) (by decide)).symm
                      have m2389 := (m2354).trans (MF.r mf2383 (k := 33) (by decide) (by decide)).symm
                      have m2390 := (m2365).trans (MF.i mf2383 (k := 18) (by decide) (by decide)).symm
                      have m2391 := (m2366).trans (MF.i mf2383 (k := 34) (by decide) (by decide)).symm
                      have m2392 := (m2367).trans (MF.r mf2383 (k := 17) (by decide) (by decide)).symm
                      have m2393 := (ex2348).trans (MF.i mf2383 (k := 19) (by decide) (by decide)).symm
                      have m2394 := (ex2349).trans (MF.i mf2383 (k := 20) (by decide) (by decide)).symm
                      have m2395 := (ex2350).trans (MF.i mf2383 (k := 21) (by decide) (by decide)).symm
                      have m2396 := (ex2351).trans (MF.i mf2383 (k := 22) (by decide) (by decide)).symm
                      have mf2397 : MF K s.heap H2375 a0 [19, 20, 21, 22, 35, 39, 40] := MF.trans mf2368 mf2383 (by decide)
                      have bx2376 := ty_fi (x := x2376) (k := 35) ex2376 hTH2375 ga0 rg_112 rfl
                      have cem2387 := i_cl (x := x2352) (by omega)
                      have ce_mn := i_cl (x := mn) (by omega)
                      have b2398 : ∀ j : Nat, j < 3000 + mn.toNatClampNeg → fI H2375 oq j = fI s.heap oq j ∧ fI H2375 aq j = fI s.heap aq j := fun j hj => ⟨(m2386 j (by omega)).trans (b2369 j hj).1, (m2387 j (by omega)).trans (b2369 j hj).2⟩
                      have ce_mn := i_cl (x := mn) (by omega)
                      have ce_x1992 := i_cl (x := x1992) (by omega)
                      have b2399 : WF (fun k => fI H2375 oq k) (fun k => fI H2375 aq k) (3000 + mn.toNatClampNeg) (3000 + x1992.toNatClampNeg) 0 1 := WF.keep b2370 (fun j hj => m2386 j (by omega)) (fun j hj => m2387 j (by omega))
                      have ce_x1992 := i_cl (x := x1992) (by omega)
                      have b2400 : WF (fun k => fI H2375 oq k) (fun k => fI H2375 aq k) (3000 + x1992.toNatClampNeg) (3000 + x2352.toNatClampNeg) 0 1 := WF.keep wu0 (fun j hj => m2386 j (by omega)) (fun j hj => m2387 j (by omega))
                      have ce_x1992 := i_cl (x := x1992) (by omega)
                      have b2401 : (fI H2375 oq (3000 + x1992.toNatClampNeg)).toInt = 0 ∧ (fI H2375 aq (3000 + x1992.toNatClampNeg)).toInt = x2263.toInt := ⟨(congrArg Int32.toInt (m2386 _ (by omega))).trans ev0.1, (congrArg Int32.toInt (m2387 _ (by omega))).trans ev0.2⟩
                      refine W.eq (g2 := F0 m 98 ls2256 []) rfl ?_
                      have ho := congrArg Int32.toInt m2384
                      have cb_mn := i_cl (x := mn) (by omega)
                      have cb_x1992 := i_cl (x := x1992) (by omega)
                      have cb_x2352 := i_cl (x := x2352) (by omega)
                      have ev1 : (fI H2375 oq (3000 + x1992.toNatClampNeg)).toInt = 0 ∧ (fI H2375 aq (3000 + x1992.toNatClampNeg)).toInt ≠ 0 := ⟨b2401.1, by rw [b2401.2]; omega⟩
                      have wn : WF (fun k => fI H2375 oq k) (fun k => fI H2375 aq k) (3000 + mn.toNatClampNeg) (3000 + x2352.toNatClampNeg + 1) 0 1 := WF.bin b2399 b2400 (by omega) (by omega) (by show 2 ≤ (fI _ oq _).toInt ∧ (fI _ oq _).toInt ≤ 11 ∧ (fI _ oq _).toInt ≠ 9; omega) (Or.inr ⟨by omega, ev1.1, ev1.2⟩)
                      refine lv_goto (tgt := 10) hx hb dX10_readProduct_98 (by decide) ?_
                      have cl_mn := i_cl (x := mn) (by omega)
                      have cl_mn := i_cl (x := mn) (by omega)
                      have cl_x2352 := i_cl (x := x2352) (by omega)
                      have cl_x2376 := i_cl (x := x2376) (by omega)
                      exact ih10 ls2256 H2375 locsH2375 (x2348) (x2349) (x2350) (x2351) (x2376) (lv_sub hl2257 [1] rfl) hTH2375 hSH2375 (by have := i_rng x2348; omega) (by have := i_rng x2349; omega) (by have := i_rng x2376; omega) m2393 m2394 m2395 m2396 ex2376 m2377 m2378 m2390 m2391 b2398 (WF.cast wn (by omega) (by omega)) mf2397 g2379 g2380 g2381 g2382 (by omega) (by omega)
                    · have k2374 := i_ne c2373
                      exfalso
                      omega
                  · have k2372 := i_eq c2371
                    refine lv_iconst (v := (-1)) hx hb dX10_readProduct_82 (by decide) ?_
                    exact x_iret C hQ dX10_readProduct_83 hSH2346 (by decide) (by decide) (⟨(-1), x2348, x2349, x2350, x2351, x2352, rfl, by decide, ex2348, ex2349, ex2350, ex2351, ex2352, by omega, m2353, m2354, g2355, g2356, g2357, g2358, mf2368, b2369, Or.inl (by omega), hTH2346⟩)
                · have k2345 := i_eq c2344
                  refine lv_aload_n hx hb dX10_readProduct_68 rfl (lv_at hl2257 1 rfl) ?_
                  refine lv_iconst (v := 2) hx hb dX10_readProduct_69 (by decide) ?_
                  refine x_V (As := [.int 2]) (rest := []) C (a_X10_fails l K G H2259 (2) hTH2259 ga0 g2265 g2266 g2267 g2268) yo_X10_fails wM_X10_235 ⟨⟨by decide, by decide⟩, by decide, by decide⟩ (x_rv C hTH2259 (ci := 10) rfl ga0 rg_112) rfl hl2257.1 rfl (Nat.le_of_ble_eq_true rfl) dX10_readProduct_70 hSH2259 (AE_sub (fun _ _ => rfl) (by decide) hSH2259.1) (fun vH2402 H2402 locsH2402 pH2402 zH2402 kH2402 hSH2402 => ?_)
                  obtain ⟨x2403, hvH2402, bx2403, g2404, g2405, g2406, g2407, mf2408, hTH2402⟩ := pH2402
                  subst hvH2402
                  have b2409 : ∀ j : Nat, j < 3000 + mn.toNatClampNeg → fI H2402 oq j = fI s.heap oq j ∧ fI H2402 aq j = fI s.heap aq j := fun j hj => ⟨(fI_kept (x_lt hTH2259 kH2402 goq (by decide))).trans (b2270 j hj).1, (fI_kept (x_lt hTH2259 kH2402 gaq (by decide))).trans (b2270 j hj).2⟩
                  have b2410 : WF (fun k => fI H2402 oq k) (fun k => fI H2402 aq k) (3000 + mn.toNatClampNeg) (3000 + x1992.toNatClampNeg) 0 1 := WF.congr (fun j => fI_kept (x_lt hTH2259 kH2402 goq (by decide))) (fun j => fI_kept (x_lt hTH2259 kH2402 gaq (by decide))) b2271
                  have m2411 := (m2272).trans (MF.i mf2408 (k := 35) (by decide) (by decide)).symm
                  have m2412 := (m2273).trans (MF.r mf2408 (k := 32) (by decide) (by decide)).symm
                  have m2413 := (m2274).trans (MF.r mf2408 (k := 33) (by decide) (by decide)).symm
                  have m2414 := (m2275).trans (MF.i mf2408 (k := 18) (by decide) (by decide)).symm
                  have m2415 := (m2276).trans (MF.i mf2408 (k := 34) (by decide) (by decide)).symm
                  have m2416 := (m2264).trans (MF.r mf2408 (k := 17) (by decide) (by decide)).symm
                  have m2417 := (ex2260).trans (MF.i mf2408 (k := 19) (by decide) (by decide)).symm
                  have m2418 := (ex2261).trans (MF.i mf2408 (k := 20) (by decide) (by decide)).symm
                  have m2419 := (ex2262).trans (MF.i mf2408 (k := 21) (by decide) (by decide)).symm
                  have m2420 := (ex2263).trans (MF.i mf2408 (k := 22) (by decide) (by decide)).symm
                  have mf2421 : MF K s.heap H2402 a0 [19, 20, 21, 22, 35, 39, 40] := MF.trans mf2278 mf2408 (by decide)
                  refine W.eq (g2 := F0 m 73 ls2256 [.int x2403]) rfl ?_
                  exact x_iret C hQ dX10_readProduct_73 hSH2402 (by decide) (by decide) (⟨x2403, x2260, x2261, x2262, x2263, x1992, rfl, by omega, m2417, m2418, m2419, m2420, m2411, by omega, m2412, m2413, g2404, g2405, g2406, g2407, mf2421, b2409, Or.inl (by omega), hTH2402⟩)
            · have k2340 := i_ne c2339
              refine lv_aload_n hx hb dX10_readProduct_51 rfl (lv_at hl2257 1 rfl) ?_
              refine lv_iconst (v := 1) hx hb dX10_readProduct_52 (by decide) ?_
              refine x_V (As := [.int 1]) (rest := []) C (a_X10_fails l K G H2259 (1) hTH2259 ga0 g2265 g2266 g2267 g2268) yo_X10_fails wM_X10_235 ⟨⟨by decide, by decide⟩, by decide, by decide⟩ (x_rv C hTH2259 (ci := 10) rfl ga0 rg_112) rfl hl2257.1 rfl (Nat.le_of_ble_eq_true rfl) dX10_readProduct_53 hSH2259 (AE_sub (fun _ _ => rfl) (by decide) hSH2259.1) (fun vH2422 H2422 locsH2422 pH2422 zH2422 kH2422 hSH2422 => ?_)
              obtain ⟨x2423, hvH2422, bx2423, g2424, g2425, g2426, g2427, mf2428, hTH2422⟩ := pH2422
              subst hvH2422
              have b2429 : ∀ j : Nat, j < 3000 + mn.toNatClampNeg → fI H2422 oq j = fI s.heap oq j ∧ fI H2422 aq j = fI s.heap aq j := fun j hj => ⟨(fI_kept (x_lt hTH2259 kH2422 goq (by decide))).trans (b2270 j hj).1, (fI_kept (x_lt hTH2259 kH2422 gaq (by decide))).trans (b2270 j hj).2⟩
              have b2430 : WF (fun k => fI H2422 oq k) (fun k => fI H2422 aq k) (3000 + mn.toNatClampNeg) (3000 + x1992.toNatClampNeg) 0 1 := WF.congr (fun j => fI_kept (x_lt hTH2259 kH2422 goq (by decide))) (fun j => fI_kept (x_lt hTH2259 kH2422 gaq (by decide))) b2271
              have m2431 := (m2272).trans (MF.i mf2428 (k := 35) (by decide) (by decide)).symm
              have m2432 := (m2273).trans (MF.r mf2428 (k := 32) (by decide) (by decide)).symm
              have m2433 := (m2274).trans (MF.r mf2428 (k := 33) (by decide) (by decide)).symm
              have m2434 := (m2275).trans (MF.i mf2428 (k := 18) (by decide) (by decide)).symm
              have m2435 := (m2276).trans (MF.i mf2428 (k := 34) (by decide) (by decide)).symm
              have m2436 := (m2264).trans (MF.r mf2428 (k := 17) (by decide) (by decide)).symm
              have m2437 := (ex2260).trans (MF.i mf2428 (k := 19) (by decide) (by decide)).symm
              have m2438 := (ex2261).trans (MF.i mf2428 (k := 20) (by decide) (by decide)).symm
              have m2439 := (ex2262).trans (MF.i mf2428 (k := 21) (by decide) (by decide)).symm
              have m2440 := (ex2263).trans (MF.i mf2428 (k := 22) (by decide) (by decide)).symm
              have mf2441 : MF K s.heap H2422 a0 [19, 20, 21, 22, 35, 39, 40] := MF.trans mf2278 mf2428 (by decide)
              refine W.eq (g2 := F0 m 56 ls2256 [.int x2423]) rfl ?_
              exact x_iret C hQ dX10_readProduct_56 hSH2422 (by decide) (by decide) (⟨x2423, x2260, x2261, x2262, x2263, x1992, rfl, by omega, m2437, m2438, m2439, m2440, m2431, by omega, m2432, m2433, g2424, g2425, g2426, g2427, mf2441, b2429, Or.inl (by omega), hTH2422⟩)
  have pf00 : ∀ j : Nat, j < 3000 + mn.toNatClampNeg → fI s.heap oq j = fI s.heap oq j ∧ fI s.heap aq j = fI s.heap aq j := fun _ _ => ⟨rfl, rfl⟩
  have hmn := i_cl (x := mn) (by omega)
  refine lv_aload_n hx hb dX10_readProduct_0 rfl (lv_at hl 0 rfl) ?_
  refine x_V (As := []) (rest := []) C (a_X10_readUnit l K G s.heap (sp) (fr) (tk) (vl) (mn) (tp) (jb) hT ga0 goq eoq gaq eaq esp efr etk evl emn etp ejb hg_CG hg_TU hg_WD hg_IM (by omega) (by omega)) yo_X10_readUnit wM_X10_245 ⟨⟨by decide, by decide⟩, by decide, by decide⟩ (x_rv C hT (ci := 10) rfl ga0 rg_112) rfl hl.1 rfl (Nat.le_of_ble_eq_true rfl) dX10_readProduct_1 hS (AE_sub (fun _ _ => rfl) (by decide) hS.1) (fun vH2442 H2442 locsH2442 pH2442 zH2442 kH2442 hSH2442 => ?_)
  obtain ⟨x2443, x2444, x2445, x2446, x2447, x2448, hvH2442, bx2443, ex2444, ex2445, ex2446, ex2447, ex2448, hrH2442, m2449, m2450, g2451, g2452, g2453, g2454, mf2455, m2456, m2457, m2458, hTH2442⟩ := pH2442
  subst hvH2442
  have m2459 := (eoq).trans (MF.r mf2455 (k := 32) (by decide) (by decide)).symm
  have m2460 := (eaq).trans (MF.r mf2455 (k := 33) (by decide) (by decide)).symm
  have m2461 := (etp).trans (MF.i mf2455 (k := 18) (by decide) (by decide)).symm
  have m2462 := (ejb).trans (MF.i mf2455 (k := 34) (by decide) (by decide)).symm
  have mf2463 : MF K s.heap H2442 a0 [19, 20, 21, 22, 35, 39, 40] := MF.trans mf0 mf2455 (by decide)
  have bx2444 := ty_fi (x := x2444) (k := 19) ex2444 hTH2442 ga0 rg_112 rfl
  have bx2445 := ty_fi (x := x2445) (k := 20) ex2445 hTH2442 ga0 rg_112 rfl
  have bx2446 := ty_fi (x := x2446) (k := 21) ex2446 hTH2442 ga0 rg_112 rfl
  have bx2447 := ty_fi (x := x2447) (k := 22) ex2447 hTH2442 ga0 rg_112 rfl
  have bx2448 := ty_fi (x := x2448) (k := 35) ex2448 hTH2442 ga0 rg_112 rfl
  have csm2456 := i_cl (x := mn) (by omega)
  have b2464 : ∀ j : Nat, j < 3000 + mn.toNatClampNeg → fI H2442 oq j = fI s.heap oq j ∧ fI H2442 aq j = fI s.heap aq j := fun j hj => ⟨(m2456 j (by omega)).1.trans (pf00 j hj).1, (m2456 j (by omega)).2.trans (pf00 j hj).2⟩
  refine W.eq (g2 := F0 m 4 ls [.int x2443]) rfl ?_
  refine lv_iconst (v := (-1)) hx hb dX10_readProduct_4 (by decide) ?_
  refine lv_icmp_ne (tgt := 10) hx hb dX10_readProduct_5 (by decide) (fun c2465 => ?_) (fun c2465 => ?_)
  · have k2466 := i_ne c2465
    have wf0 : WF (fun k => fI H2442 oq k) (fun k => fI H2442 aq k) (3000 + mn.toNatClampNeg) (3000 + x2448.toNatClampNeg) 0 1 := by
      rcases m2457 with h | h
      · exfalso; omega
      · exact h
    have cl_mn := i_cl (x := mn) (by omega)
    have cl_mn := i_cl (x := mn) (by omega)
    have cl_x2448 := i_cl (x := x2448) (by omega)
    exact J10 ((500 - x2445.toInt).toNat + 1) ls H2442 locsH2442 (x2444) (x2445) (x2446) (x2447) (x2448) (lv_sub hl [0] rfl) hTH2442 hSH2442 (by have := i_rng x2444; omega) (by have := i_rng x2445; omega) (by have := i_rng x2448; omega) ex2444 ex2445 ex2446 ex2447 ex2448 m2449 m2450 m2461 m2462 b2464 (WF.cast wf0 (by omega) (by omega)) mf2463 g2451 g2452 g2453 g2454 (by omega) (by omega)
  · have k2466 := i_eq c2465
    refine lv_iconst (v := (-1)) hx hb dX10_readProduct_8 (by decide) ?_
    exact x_iret C hQ dX10_readProduct_9 hSH2442 (by decide) (by decide) (⟨(-1), x2444, x2445, x2446, x2447, x2448, rfl, by decide, ex2444, ex2445, ex2446, ex2447, ex2448, by omega, m2449, m2450, g2451, g2452, g2453, g2454, mf2463, b2464, Or.inl (by omega), hTH2442⟩)
