/-! ===== codes are put together ===== -/
theorem WF.keep {f g f1 g1 : Nat → Int32} {a z D E : Nat} (h : WF f g a z D E) (hf : ∀ j, j < z → f1 j = f j) (hg : ∀ j, j < z → g1 j = g j) : WF f1 g1 a z D E := by
  obtain ⟨d, h1, h2, h3⟩ := h
  refine ⟨d, h1, h2, fun k ha hz => ?_⟩
  have h4 := h3 k ha hz
  rw [← hf k hz, ← hg k hz, ← hf (k - 1) (by omega), ← hg (k - 1) (by omega)] at h4
  exact h4
theorem WF.congr {f g f1 g1 : Nat → Int32} {a z D E : Nat} (hf : ∀ j, f1 j = f j) (hg : ∀ j, g1 j = g j) (h : WF f g a z D E) : WF f1 g1 a z D E := h.keep (fun j _ => hf j) (fun j _ => hg j)
theorem WF.cast {f g : Nat → Int32} {a a' z z' D E : Nat} (h : WF f g a z D E) (ha : a' = a) (hz : z' = z) : WF f g a' z' D E := by rw [ha, hz]; exact h
theorem WF.lift {f g : Nat → Int32} {a z D E : Nat} (c : Nat) (h : WF f g a z D E) : WF f g a z (D + c) (E + c) := by
  obtain ⟨d, h1, h2, h3⟩ := h
  refine ⟨fun k => d k + c, by show d a + c = _; rw [h1], by show d z + c = _; rw [h2], fun k ha hz => ?_⟩
  have h4 := h3 k ha hz
  show _ ∨ _ ∨ _ ∨ _
  dsimp only
  omega
theorem WF.cat {f g : Nat → Int32} {a m z D E F : Nat} (h : WF f g a m D E) (h' : WF f g m z E F) (ha : a ≤ m) (hm : m ≤ z) : WF f g a z D F := by
  obtain ⟨d, h1, h2, h3⟩ := h
  obtain ⟨e, k1, k2, k3⟩ := h'
  refine ⟨fun k => if k < m then d k else e k, ?_, ?_, fun k ha' hz => ?_⟩
  · by_cases c : a < m
    · show (if a < m then _ else _) = _; rw [if_pos c]; exact h1
    · have : a = m := by omega
      subst this
      show (if a < a then _ else _) = _
      rw [if_neg (by omega), k1, ← h2, h1]
  · show (if z < m then _ else _) = _; rw [if_neg (by omega)]; exact k2
  · by_cases c : k < m
    · have h4 := h3 k ha' c
      have e1 : (if k < m then d k else e k) = d k := if_pos c
      have e2 : (if k + 1 < m then d (k + 1) else e (k + 1)) = d (k + 1) := by
        by_cases c2 : k + 1 < m
        · exact if_pos c2
        · rw [if_neg c2]
          have : k + 1 = m := by omega
          rw [this, k1, h2]
      dsimp only
      rw [e1, e2]
      exact h4
    · have h4 := k3 k (by omega) hz
      dsimp only
      rw [if_neg c, if_neg (show ¬ k + 1 < m by omega)]
      omega
theorem WF.nil {f g : Nat → Int32} {a D : Nat} : WF f g a a D D := ⟨fun _ => D, rfl, rfl, fun k h1 h2 => by omega⟩
theorem WF.num {f g : Nat → Int32} {a : Nat} (h : (f a).toInt = 0) : WF f g a (a + 1) 0 1 := by
  refine ⟨fun k => k - a, by dsimp only; omega, by dsimp only; omega, fun k h1 h2 => ?_⟩
  have : k = a := by omega
  subst this
  exact Or.inl ⟨h, by dsimp only; omega⟩
theorem WF.ask {f g : Nat → Int32} {a : Nat} (h : (f a).toInt = 1) (hg : 0 ≤ (g a).toInt ∧ (g a).toInt ≤ 13) : WF f g a (a + 1) 0 1 := by
  refine ⟨fun k => k - a, by dsimp only; omega, by dsimp only; omega, fun k h1 h2 => ?_⟩
  have : k = a := by omega
  subst this
  exact Or.inr (Or.inl ⟨h, by dsimp only; omega, hg⟩)
theorem WF.stp {f g : Nat → Int32} {a z E F : Nat} (h : WF f g a z 0 E) (haz : a ≤ z)
    (hs : ((f z).toInt = 9 ∧ 1 ≤ E ∧ F = E) ∨ (2 ≤ (f z).toInt ∧ (f z).toInt ≤ 11 ∧ (f z).toInt ≠ 9 ∧ 2 ≤ E ∧ F + 1 = E ∧ ((f z).toInt ≠ 5 ∨ (a < z ∧ (f (z - 1)).toInt = 0 ∧ (g (z - 1)).toInt ≠ 0)))) : WF f g a (z + 1) 0 F := by
  obtain ⟨d, h1, h2, h3⟩ := h
  refine ⟨fun k => if k ≤ z then d k else F, ?_, ?_, fun k ha' hz => ?_⟩
  · show (if a ≤ z then _ else _) = _; rw [if_pos haz]; exact h1
  · show (if z + 1 ≤ z then _ else _) = _; rw [if_neg (by omega)]
  · by_cases c : k = z
    · subst c
      dsimp only
      rw [if_pos (Nat.le_refl _), if_neg (show ¬ k + 1 ≤ k by omega)]
      omega
    · have h4 := h3 k ha' (by omega)
      dsimp only
      rw [if_pos (show k ≤ z by omega), if_pos (show k + 1 ≤ z by omega)]
      exact h4
theorem WF.bin {f g : Nat → Int32} {a m z : Nat} (h : WF f g a m 0 1) (u : WF f g m z 0 1) (ha : a ≤ m) (hm : m ≤ z) (ho : 2 ≤ (f z).toInt ∧ (f z).toInt ≤ 11 ∧ (f z).toInt ≠ 9) (hp : (f z).toInt ≠ 5 ∨ (z = m + 1 ∧ (f m).toInt = 0 ∧ (g m).toInt ≠ 0)) : WF f g a (z + 1) 0 1 := by
  refine WF.stp (WF.cat h (WF.lift 1 u) ha hm) (by omega) (Or.inr ⟨ho.1, ho.2.1, ho.2.2, Nat.le_refl _, rfl, ?_⟩)
  rcases hp with hp | ⟨rfl, h1, h2⟩
  · exact Or.inl hp
  · exact Or.inr ⟨by omega, h1, h2⟩
theorem av_500 {K : KE} {G : Nat → Option Nat} {H : Heap} {b j : Nat} (hT : TY K G H) (gb : G b = some 112) (hj : j < 112) : (avw K H b 29 j).toInt ≤ 500 ∧ (avw K H b 30 j).toInt ≤ 500 ∧ (avw K H b 31 j).toInt ≤ 500 := by
  obtain ⟨c1, -, -, -, -, g1⟩ := hT.fref (k := 29) gb rgM rfl
  obtain ⟨c2, -, -, -, -, g2⟩ := hT.fref (k := 30) gb rgM rfl
  obtain ⟨c3, -, -, -, -, g3⟩ := hT.fref (k := 31) gb rgM rfl
  obtain ⟨d1, -, -, -, -, -, -, e1⟩ := hT.aint g1 rg_133 hj
  obtain ⟨d2, -, -, -, -, -, -, e2⟩ := hT.aint g2 rg_134 hj
  obtain ⟨d3, -, -, -, -, -, -, e3⟩ := hT.aint g3 rg_135 hj
  exact ⟨e1, e2, e3⟩
theorem CG.putD {K : KE} {G : Nat → Option Nat} {H H1 : Heap} {b q i t : Nat} {x : Int32} (hT : TY K G H) (gb : G b = some 112) (w : Wr H H1 q i (.int x)) (gq : G q = some t) (ht : t = 136 ∨ t = 137) (hi : 3000 ≤ i) (h : CG (avw K H b)) : CG (avw K H1 b) := by
  have h112 : 112 ≠ t := by omega
  have ek : ∀ k ∈ ([24, 29, 30, 31] : List Nat), ∀ j, avw K H1 b k j = avw K H b k j := by
    intro k hk j
    refine av_arr hT gb w gq h112 ?_
    rcases ht with rfl | rfl
    · exact List.all_eq_true.mp (show ([24, 29, 30, 31] : List Nat).all (fun k => arOk k 136) = true by decide) k hk
    · exact List.all_eq_true.mp (show ([24, 29, 30, 31] : List Nat).all (fun k => arOk k 137) = true by decide) k hk
  have el : ∀ k j, j < 3000 → avw K H1 b k j = avw K H b k j := by
    intro k j hj
    unfold avw
    rw [Wr.neR w (Or.inl (G_ne gb gq h112))]
    exact Wr.neI w (Or.inr (by omega))
  intro row l h1 h2 h3
  rw [ek 24 (by decide)] at h3
  obtain ⟨⟨E, a1⟩, F, a2⟩ := h row l h1 h2 h3
  have hr := av_500 (j := 16 * row + l) hT gb (by omega)
  rw [ek 29 (by decide), ek 30 (by decide), ek 31 (by decide)]
  have cl : ∀ y : Int32, y.toInt ≤ 500 → y.toNatClampNeg ≤ 500 := fun y hy => by show y.toInt.toNat ≤ 500; omega
  have c2 := cl _ hr.2.1
  have c3 := cl _ hr.2.2
  exact ⟨⟨E, a1.keep (fun j hj => el 32 j (by omega)) (fun j hj => el 33 j (by omega))⟩, F, a2.keep (fun j hj => el 32 j (by omega)) (fun j hj => el 33 j (by omega))⟩
set_option maxHeartbeats 4000000 in
set_option maxRecDepth 100000 in
theorem a_X10_emits (l : Launch) (K : KE) (G : Nat → Option Nat) (H : Heap) {a0 : Nat} (x1 : Int32) (x2 : Int32) {oq : Nat} {aq : Nat} (mn : Int32) (hT : TY K G H) (ga0 : G a0 = some 112) (goq : G oq = some 136) (eoq : oq = fR H a0 (K.1.2 10 32)) (gaq : G aq = some 137) (eaq : aq = fR H a0 (K.1.2 10 33)) (emn : mn = fI H a0 (K.1.2 10 35)) (hg_CG : CG (avw K H a0)) (hg_TU : TU (avw K H a0) (svw K H a0)) (hg_WD : WD (avw K H a0)) (hg_IM : IM (avw K H a0)) (hp0 : mn.toInt ≤ 499) : MX l K yX10_emits cX10_emits 3 none 0 0 0 0 [.ref a0, .int x1, .int x2] H (AE G [112, 136, 137] H.size) (fun v H1 => ∃ (t0 : Int32), v = none ∧ t0 = fI H1 a0 (K.1.2 10 35) ∧ (t0.toInt = mn.toInt + 1) ∧ oq = fR H1 a0 (K.1.2 10 32) ∧ aq = fR H1 a0 (K.1.2 10 33) ∧ (CG (avw K H1 a0)) ∧ (TU (avw K H1 a0) (svw K H1 a0)) ∧ (WD (avw K H1 a0)) ∧ (IM (avw K H1 a0)) ∧ MF K H H1 a0 [35] ∧ (x1 = fI H1 oq (3000 + mn.toNatClampNeg)) ∧ (x2 = fI H1 aq (3000 + mn.toNatClampNeg)) ∧ (∀ j : Nat, j ≠ 3000 + mn.toNatClampNeg → fI H1 oq j = fI H oq j) ∧ (∀ j : Nat, j ≠ 3000 + mn.toNatClampNeg → fI H1 aq j = fI H aq j) ∧ TY K G H1) := by
  refine MX.of (by decide +kernel) (Nat.le_of_ble_eq_true rfl) ?_
  intro p e s m below meth c ls Q C hH hl hQ
  subst hH
  have C : CX p K s m _ meth c RX10 cX10_emits 3 none "emits" := C
  obtain ⟨hx, hb, hml, hown, hts, hKT, hr, hlocks, hnm⟩ := id C
  have hl : lv_has ls 3 [(0, .ref a0), (1, .int x1), (2, .int x2)] := hl
  have hS : va_S (AE G [112, 136, 137] s.heap.size) s.heap s.heap [] := va_S.rf
  have n_1 : (1 : Int32).toInt = 1 := rfl
  have n_3000 : (3000 : Int32).toInt = 3000 := rfl
  have bmn := ty_fi (x := mn) (k := 35) emn hT ga0 rg_112 rfl
  have hap : ∀ x y, x < 74 → y < 74 → x ≠ y → K.1.2 10 x ≠ K.1.2 10 y := x_apart hKT hts inX10 tyX10 tyX10_ok nmX10 rfl
  have mf0 : MF K s.heap s.heap a0 [35] := fun _ _ _ => rfl
  have hmn := i_cl (x := mn) (by omega)
  refine lv_aload_n hx hb dX10_emits_0 rfl (lv_at hl 0 rfl) ?_
  refine x_gr C hT (ci := 10) (k := 32) rfl inX10 (by decide) wF_X10_83 ga0 rg_112 rfl dX10_emits_1 (fun q265 eq265 gq265 => ?_)
  have uq265 : oq = q265 := (eoq).trans eq265.symm
  subst uq265
  refine lv_sipush (v := 3000) hx hb dX10_emits_4 (by decide) ?_
  refine lv_aload_n hx hb dX10_emits_7 rfl (lv_at hl 0 rfl) ?_
  refine x_gi C hT (ci := 10) (k := 35) rfl inX10 (by decide) wF_X10_228 ga0 rg_112 rfl dX10_emits_8 (fun x266 ex266 bx266 => ?_)
  have ux266 : mn = x266 := (emn).trans ex266.symm
  subst ux266
  refine lv_iadd hx hb dX10_emits_11 ?_
  refine lv_topi (fun x267 ex267 => ?_)
  have tx267 := i_add ex267 (by omega)
  refine lv_iload_n hx hb dX10_emits_12 rfl (lv_at hl 1 rfl) ?_
  refine x_iast C hT hS goq rg_136 (by omega) (by show _ < ((3500 : Nat) : Int); omega) ⟨by have := i_rng x1; omega, by have := i_rng x1; omega⟩ (AE_in goq (by decide)) dX10_emits_13 (fun H268 locsH268 hTH268 hSH268 wH268 => ?_)
  have mf269 : MF K s.heap H268 a0 [35] := MF.arr wH268 (G_ne ga0 goq (by decide)) mf0
  have ciH268 := i_cl (x := x267) (by omega)
  have g270 : CG (avw K H268 a0) := CG.putD hT ga0 wH268 goq (by decide) (by omega) hg_CG
  have g271 : TU (avw K H268 a0) (svw K H268 a0) := TU.congr (fun k hk j => av_arr hT ga0 wH268 goq (by decide) (TU_ok 136 (by decide) k hk)) (fun k hk => sv_arr ga0 wH268 goq (by decide)) hg_TU
  have g272 : WD (avw K H268 a0) := WD.congr (fun k hk j => av_arr hT ga0 wH268 goq (by decide) (WD_ok 136 (by decide) k hk)) hg_WD
  have g273 : IM (avw K H268 a0) := IM.congr (fun k hk j => av_arr hT ga0 wH268 goq (by decide) (IM_ok 136 (by decide) k hk)) hg_IM
  have m274 := eoq.trans (Wr.neR wH268 (Or.inl (G_ne ga0 goq (by decide)))).symm
  have m275 := eaq.trans (Wr.neR wH268 (Or.inl (G_ne ga0 goq (by decide)))).symm
  have m276 := emn.trans (Wr.neI wH268 (Or.inl (G_ne ga0 goq (by decide)))).symm
  have m277 := Wr.I wH268
  have m277 := m277.symm
  refine lv_aload_n hx hb dX10_emits_14 rfl (lv_at hl 0 rfl) ?_
  refine x_gr C hTH268 (ci := 10) (k := 33) rfl inX10 (by decide) wF_X10_86 ga0 rg_112 rfl dX10_emits_15 (fun q278 eq278 gq278 => ?_)
  have uq278 : aq = q278 := (m275).trans eq278.symm
  subst uq278
  refine lv_sipush (v := 3000) hx hb dX10_emits_18 (by decide) ?_
  refine lv_aload_n hx hb dX10_emits_21 rfl (lv_at hl 0 rfl) ?_
  refine x_gi C hTH268 (ci := 10) (k := 35) rfl inX10 (by decide) wF_X10_228 ga0 rg_112 rfl dX10_emits_22 (fun x279 ex279 bx279 => ?_)
  have ux279 : mn = x279 := (m276).trans ex279.symm
  subst ux279
  refine lv_iadd hx hb dX10_emits_25 ?_
  refine lv_topi (fun x280 ex280 => ?_)
  have tx280 := i_add ex280 (by omega)
  refine lv_iload_n hx hb dX10_emits_26 rfl (lv_at hl 2 rfl) ?_
  refine x_iast C hTH268 hSH268 gaq rg_137 (by omega) (by show _ < ((3500 : Nat) : Int); omega) ⟨by have := i_rng x2; omega, by have := i_rng x2; omega⟩ (AE_in gaq (by decide)) dX10_emits_27 (fun H281 locsH281 hTH281 hSH281 wH281 => ?_)
  have mf282 : MF K s.heap H281 a0 [35] := MF.arr wH281 (G_ne ga0 gaq (by decide)) mf269
  have ciH281 := i_cl (x := x280) (by omega)
  have g283 : CG (avw K H281 a0) := CG.putD hTH268 ga0 wH281 gaq (by decide) (by omega) g270
  have g284 : TU (avw K H281 a0) (svw K H281 a0) := TU.congr (fun k hk j => av_arr hTH268 ga0 wH281 gaq (by decide) (TU_ok 137 (by decide) k hk)) (fun k hk => sv_arr ga0 wH281 gaq (by decide)) g271
  have g285 : WD (avw K H281 a0) := WD.congr (fun k hk j => av_arr hTH268 ga0 wH281 gaq (by decide) (WD_ok 137 (by decide) k hk)) g272
  have g286 : IM (avw K H281 a0) := IM.congr (fun k hk j => av_arr hTH268 ga0 wH281 gaq (by decide) (IM_ok 137 (by decide) k hk)) g273
  have m287 := m274.trans (Wr.neR wH281 (Or.inl (G_ne ga0 gaq (by decide)))).symm
  have m288 := m275.trans (Wr.neR wH281 (Or.inl (G_ne ga0 gaq (by decide)))).symm
  have m289 := m276.trans (Wr.neI wH281 (Or.inl (G_ne ga0 gaq (by decide)))).symm
  have m290 := m277.trans (Wr.neI wH281 (Or.inl (G_ne goq gaq (by decide)))).symm
  have m291 := Wr.I wH281
  have m291 := m291.symm
  refine lv_aload_n hx hb dX10_emits_28 rfl (lv_at hl 0 rfl) ?_
  refine lv_aload_n hx hb dX10_emits_29 rfl (lv_at hl 0 rfl) ?_
  refine x_gi C hTH281 (ci := 10) (k := 35) rfl inX10 (by decide) wF_X10_228 ga0 rg_112 rfl dX10_emits_30 (fun x292 ex292 bx292 => ?_)
  have ux292 : mn = x292 := (m289).trans ex292.symm
  subst ux292
  refine lv_iconst (v := 1) hx hb dX10_emits_33 (by decide) ?_
  refine lv_iadd hx hb dX10_emits_34 ?_
  refine lv_topi (fun x293 ex293 => ?_)
  have tx293 := i_add ex293 (by omega)
  refine x_put C hTH281 hSH281 (ci := 10) (k := 35) (v := .int x293) (ty0 := tyX10) rfl inX10 tyX10_ok nmX10 (by decide) rfl wF_X10_228 ga0 rg_112 rfl rfl (okI (by have := i_rng x293; omega) (by have := i_rng x293; omega)) rfl rfl (AE_in ga0 (by decide)) dX10_emits_35 (fun H294 locsH294 hTH294 hSH294 wH294 => ?_)
  have mf295 : MF K s.heap H294 a0 [35] := MF.fld hap wH294 (by decide) (by decide) mf282
  have g296 : CG (avw K H294 a0) := CG.congr (fun k hk j => av_fld hTH281 ga0 hap wH294 (by decide) (CG_ok 112 (by decide) k hk) (CG_ne 35 (by decide) k hk)) g283
  have g297 : TU (avw K H294 a0) (svw K H294 a0) := TU.congr (fun k hk j => av_fld hTH281 ga0 hap wH294 (by decide) (TU_ok 112 (by decide) k hk) (TU_ne 35 (by decide) k hk)) (fun k hk => sv_fld hap wH294 (by decide) (TU_slt k hk) (TU_sne 35 (by decide) k hk)) g284
  have g298 : WD (avw K H294 a0) := WD.congr (fun k hk j => av_fld hTH281 ga0 hap wH294 (by decide) (WD_ok 112 (by decide) k hk) (WD_ne 35 (by decide) k hk)) g285
  have g299 : IM (avw K H294 a0) := IM.congr (fun k hk j => av_fld hTH281 ga0 hap wH294 (by decide) (IM_ok 112 (by decide) k hk) (IM_ne 35 (by decide) k hk)) g286
  have m300 := m287.trans (Wr.neR wH294 (Or.inr (x_apart hKT hts inX10 tyX10 tyX10_ok nmX10 rfl 32 35 (by decide) (by decide) (by decide)))).symm
  have m301 := m288.trans (Wr.neR wH294 (Or.inr (x_apart hKT hts inX10 tyX10 tyX10_ok nmX10 rfl 33 35 (by decide) (by decide) (by decide)))).symm
  have m303 := m290.trans (Wr.neI wH294 (Or.inl (G_ne goq ga0 (by decide)))).symm
  have m304 := m291.trans (Wr.neI wH294 (Or.inl (G_ne gaq ga0 (by decide)))).symm
  have m305 := Wr.I wH294
  have m305 := m305.symm
  exact x_vret C hQ dX10_emits_38 hSH294 (by decide) (by decide) (⟨x293, rfl, m305, by omega, m300, m301, g296, g297, g298, g299, mf295, (by rw [show 3000 + mn.toNatClampNeg = x267.toNatClampNeg by omega]; exact m303), (by rw [show 3000 + mn.toNatClampNeg = x280.toNatClampNeg by omega]; exact m304), (fun j hj => (Wr.neI wH294 (Or.inl (G_ne goq ga0 (by decide)))).trans ((Wr.neI wH281 (Or.inl (G_ne goq gaq (by decide)))).trans (Wr.neI wH268 (Or.inr (by omega))))), (fun j hj => (Wr.neI wH294 (Or.inl (G_ne gaq ga0 (by decide)))).trans ((Wr.neI wH281 (Or.inr (by omega))).trans (Wr.neI wH268 (Or.inl (G_ne gaq goq (by decide)))))), hTH294⟩)

set_option maxHeartbeats 4000000 in
set_option maxRecDepth 100000 in
theorem a_X10_fails (l : Launch) (K : KE) (G : Nat → Option Nat) (H : Heap) {a0 : Nat} (x1 : Int32) (hT : TY K G H) (ga0 : G a0 = some 112) (hg_CG : CG (avw K H a0)) (hg_TU : TU (avw K H a0) (svw K H a0)) (hg_WD : WD (avw K H a0)) (hg_IM : IM (avw K H a0)) : MX l K yX10_fails cX10_fails 2 (some .int) 0 0 0 0 [.ref a0, .int x1] H (AE G [112] H.size) (fun v H1 => ∃ (r : Int32), v = some (.int r) ∧ ((-1) ≤ r.toInt ∧ r.toInt ≤ (-1)) ∧ (CG (avw K H1 a0)) ∧ (TU (avw K H1 a0) (svw K H1 a0)) ∧ (WD (avw K H1 a0)) ∧ (IM (avw K H1 a0)) ∧ MF K H H1 a0 [39, 40] ∧ TY K G H1) := by
  refine MX.of (by decide +kernel) (Nat.le_of_ble_eq_true rfl) ?_
  intro p e s m below meth c ls Q C hH hl hQ
  subst hH
  have C : CX p K s m _ meth c RX10 cX10_fails 2 (some .int) "fails" := C
  obtain ⟨hx, hb, hml, hown, hts, hKT, hr, hlocks, hnm⟩ := id C
  have hl : lv_has ls 2 [(0, .ref a0), (1, .int x1)] := hl
  have hS : va_S (AE G [112] s.heap.size) s.heap s.heap [] := va_S.rf
  have n_m1 : ((-1) : Int32).toInt = -1 := rfl
  have hap : ∀ x y, x < 74 → y < 74 → x ≠ y → K.1.2 10 x ≠ K.1.2 10 y := x_apart hKT hts inX10 tyX10 tyX10_ok nmX10 rfl
  have mf0 : MF K s.heap s.heap a0 [39, 40] := fun _ _ _ => rfl
  refine lv_aload_n hx hb dX10_fails_0 rfl (lv_at hl 0 rfl) ?_
  refine lv_iload_n hx hb dX10_fails_1 rfl (lv_at hl 1 rfl) ?_
  refine x_put C hT hS (ci := 10) (k := 39) (v := .int x1) (ty0 := tyX10) rfl inX10 tyX10_ok nmX10 (by decide) rfl wF_X10_222 ga0 rg_112 rfl rfl (okI (by have := i_rng x1; omega) (by have := i_rng x1; omega)) rfl rfl (AE_in ga0 (by decide)) dX10_fails_2 (fun H169 locsH169 hTH169 hSH169 wH169 => ?_)
  have mf170 : MF K s.heap H169 a0 [39, 40] := MF.fld hap wH169 (by decide) (by decide) mf0
  have g171 : CG (avw K H169 a0) := CG.congr (fun k hk j => av_fld hT ga0 hap wH169 (by decide) (CG_ok 112 (by decide) k hk) (CG_ne 39 (by decide) k hk)) hg_CG
  have g172 : TU (avw K H169 a0) (svw K H169 a0) := TU.congr (fun k hk j => av_fld hT ga0 hap wH169 (by decide) (TU_ok 112 (by decide) k hk) (TU_ne 39 (by decide) k hk)) (fun k hk => sv_fld hap wH169 (by decide) (TU_slt k hk) (TU_sne 39 (by decide) k hk)) hg_TU
  have g173 : WD (avw K H169 a0) := WD.congr (fun k hk j => av_fld hT ga0 hap wH169 (by decide) (WD_ok 112 (by decide) k hk) (WD_ne 39 (by decide) k hk)) hg_WD
  have g174 : IM (avw K H169 a0) := IM.congr (fun k hk j => av_fld hT ga0 hap wH169 (by decide) (IM_ok 112 (by decide) k hk) (IM_ne 39 (by decide) k hk)) hg_IM
  have m175 := Wr.I wH169
  have m175 := m175.symm
  refine lv_aload_n hx hb dX10_fails_5 rfl (lv_at hl 0 rfl) ?_
  refine lv_aload_n hx hb dX10_fails_6 rfl (lv_at hl 0 rfl) ?_
  refine x_gi C hTH169 (ci := 10) (k := 20) rfl inX10 (by decide) wF_X10_199 ga0 rg_112 rfl dX10_fails_7 (fun x176 ex176 bx176 => ?_)
  refine x_put C hTH169 hSH169 (ci := 10) (k := 40) (v := .int x176) (ty0 := tyX10) rfl inX10 tyX10_ok nmX10 (by decide) rfl wF_X10_225 ga0 rg_112 rfl rfl (okI (by have := i_rng x176; omega) (by have := i_rng x176; omega)) rfl rfl (AE_in ga0 (by decide)) dX10_fails_10 (fun H177 locsH177 hTH177 hSH177 wH177 => ?_)
  have mf178 : MF K s.heap H177 a0 [39, 40] := MF.fld hap wH177 (by decide) (by decide) mf170
  have g179 : CG (avw K H177 a0) := CG.congr (fun k hk j => av_fld hTH169 ga0 hap wH177 (by decide) (CG_ok 112 (by decide) k hk) (CG_ne 40 (by decide) k hk)) g171
  have g180 : TU (avw K H177 a0) (svw K H177 a0) := TU.congr (fun k hk j => av_fld hTH169 ga0 hap wH177 (by decide) (TU_ok 112 (by decide) k hk) (TU_ne 40 (by decide) k hk)) (fun k hk => sv_fld hap wH177 (by decide) (TU_slt k hk) (TU_sne 40 (by decide) k hk)) g172
  have g181 : WD (avw K H177 a0) := WD.congr (fun k hk j => av_fld hTH169 ga0 hap wH177 (by decide) (WD_ok 112 (by decide) k hk) (WD_ne 40 (by decide) k hk)) g173
  have g182 : IM (avw K H177 a0) := IM.congr (fun k hk j => av_fld hTH169 ga0 hap wH177 (by decide) (IM_ok 112 (by decide) k hk) (IM_ne 40 (by decide) k hk)) g174
  have m183 := m175.trans (Wr.neI wH177 (Or.inr (x_apart hKT hts inX10 tyX10 tyX10_ok nmX10 rfl 39 40 (by decide) (by decide) (by decide)))).symm
  have m184 := ex176.trans (Wr.neI wH177 (Or.inr (x_apart hKT hts inX10 tyX10 tyX10_ok nmX10 rfl 20 40 (by decide) (by decide) (by decide)))).symm
  have m185 := Wr.I wH177
  have m185 := m185.symm
  refine lv_iconst (v := (-1)) hx hb dX10_fails_13 (by decide) ?_
  exact x_iret C hQ dX10_fails_14 hSH177 (by decide) (by decide) (⟨(-1), rfl, by decide, g179, g180, g181, g182, mf178, hTH177⟩)
