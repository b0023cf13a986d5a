set_option maxHeartbeats 4000000 in
set_option maxRecDepth 100000 in
theorem a_X10_readLine_e (l : Launch) (K : KE) (G : Nat → Option Nat) (H : Heap) {a0 : Nat} (x1 : Int32) {oq : Nat} {aq : Nat} {f9 : Nat} {f0 : Nat} {f1 : Nat} {tq : Nat} (sp : Int32) (fr : Int32) (tk : Int32) (vl : Int32) (mn : Int32) (on : Int32) (tp : Int32) (jb : Int32) (ci : Nat) (bt : Nat → Int) (hT : TY K G H) (ga0 : G a0 = some 112) (hx1 : 96 ≤ x1.toInt ∧ x1.toInt ≤ 111) (goq : G oq = some 136) (eoq : oq = fR H a0 (K.1.2 10 32)) (gaq : G aq = some 137) (eaq : aq = fR H a0 (K.1.2 10 33)) (gf9 : G f9 = some 133) (ef9 : f9 = fR H a0 (K.1.2 10 29)) (gf0 : G f0 = some 134) (ef0 : f0 = fR H a0 (K.1.2 10 30)) (gf1 : G f1 = some 135) (ef1 : f1 = fR H a0 (K.1.2 10 31)) (gtq : G tq = some 126) (etq : tq = fR H a0 (K.1.2 10 17)) (esp : sp = fI H a0 (K.1.2 10 19)) (efr : fr = fI H a0 (K.1.2 10 20)) (etk : tk = fI H a0 (K.1.2 10 21)) (evl : vl = fI H a0 (K.1.2 10 22)) (emn : mn = fI H a0 (K.1.2 10 35)) (eon : on = fI H a0 (K.1.2 10 36)) (etp : tp = fI H a0 (K.1.2 10 18)) (ejb : jb = fI H a0 (K.1.2 10 34)) (hg_CG : CG (avw K H a0)) (hg_TU : TU (avw K H a0) (svw K H a0)) (hg_WD : WD (avw K H a0)) (hg_IM : IM (avw K H a0)) (hp0 : (sp.toInt ≤ tp.toInt ∧ fr.toInt ≤ sp.toInt ∧ (tk.toInt = 0 ∨ fr.toInt < sp.toInt) ∧ (tk.toInt ≠ 2 ∨ (0 ≤ vl.toInt ∧ vl.toInt ≤ 23)))) (hp1 : mn.toInt ≤ fr.toInt) (hp2 : tk.toInt = 2) (hp3 : (jb.toInt = 0 ∧ vl.toInt ≤ 3) ∨ (jb.toInt = 1 ∧ (vl.toInt = 4 ∨ vl.toInt = 5 ∨ vl.toInt = 17))) (hp4 : on.toInt = 0) (hy0 : CU bt tp.toNatClampNeg ci fr sp tk vl) (hy1 : ∀ j : Nat, j < tp.toNatClampNeg → 0 ≤ bt j) (hv_bt : ∀ j : Nat, bt j = (fI H tq j).toInt) : MX l K yX10_readLine cX10_readLine 3 (some .int) 8 172 0 0 [.ref a0, .int x1] H (AE G [112, 136, 137, 138, 129, 130, 131, 132, 133, 134, 135] H.size) (fun v H1 => ∃ (r : Int32) (t0 : Int32) (t1 : Int32) (t2 : Int32) (t3 : Int32) (t4 : Int32) (t5 : Int32), v = some (.int r) ∧ ((-1) ≤ r.toInt ∧ r.toInt ≤ 0) ∧ t0 = fI H1 a0 (K.1.2 10 19) ∧ t1 = fI H1 a0 (K.1.2 10 20) ∧ t2 = fI H1 a0 (K.1.2 10 21) ∧ t3 = fI H1 a0 (K.1.2 10 22) ∧ t4 = fI H1 a0 (K.1.2 10 35) ∧ t5 = fI H1 a0 (K.1.2 10 36) ∧ (r.toInt = -1 ∨ (r.toInt = 0 ∧ (t0.toInt ≤ tp.toInt ∧ t1.toInt ≤ t0.toInt ∧ (t2.toInt = 0 ∨ t1.toInt < t0.toInt) ∧ (t2.toInt ≠ 2 ∨ (0 ≤ t3.toInt ∧ t3.toInt ≤ 23))) ∧ t4.toInt + fr.toInt ≤ mn.toInt + t1.toInt ∧ mn.toInt ≤ t4.toInt ∧ fr.toInt < t1.toInt)) ∧ oq = fR H1 a0 (K.1.2 10 32) ∧ aq = fR H1 a0 (K.1.2 10 33) ∧ f9 = fR H1 a0 (K.1.2 10 29) ∧ f0 = fR H1 a0 (K.1.2 10 30) ∧ f1 = fR H1 a0 (K.1.2 10 31) ∧ tq = fR H1 a0 (K.1.2 10 17) ∧ (CG (avw K H1 a0)) ∧ (TU (avw K H1 a0) (svw K H1 a0)) ∧ (WD (avw K H1 a0)) ∧ (IM (avw K H1 a0)) ∧ MF K H H1 a0 [19, 20, 21, 22, 35, 36, 38, 39, 40] ∧ (∀ j : Nat, j < 3000 + mn.toNatClampNeg → fI H1 oq j = fI H oq j ∧ fI H1 aq j = fI H aq j) ∧ (∀ j : Nat, j ≠ x1.toNatClampNeg → fI H1 f9 j = fI H f9 j) ∧ (∀ j : Nat, j ≠ x1.toNatClampNeg → fI H1 f0 j = fI H f0 j) ∧ (∀ j : Nat, j ≠ x1.toNatClampNeg → fI H1 f1 j = fI H f1 j) ∧ (r.toInt = -1 ∨ LNW (fun k => fI H1 f9 k) (fun k => fI H1 f0 k) (fun k => fI H1 f1 k) (fun k => fI H1 oq k) (fun k => fI H1 aq k) x1.toNatClampNeg mn.toInt t4.toInt) ∧ (RC (lnI (kK bt tp.toNatClampNeg) (vV bt tp.toNatClampNeg) (1 - jb.toInt) ci) r bt tp.toNatClampNeg t1 t0 t2 t3) ∧ (r.toInt = -1 ∨ t5.toInt = 0) ∧ TY K G H1) := by
  refine MX.of (by decide +kernel) (Nat.le_of_ble_eq_true rfl) ?_
  intro p e s m below meth c ls Q C hH hl hQ
  subst hH
  have C : CX p K s m _ meth c RX10 cX10_readLine 3 (some .int) "readLine" := C
  obtain ⟨hx, hb, hml, hown, hts, hKT, hr, hlocks, hnm⟩ := id C
  have hl : lv_has ls 3 [(0, .ref a0), (1, .int x1)] := hl
  have hS : va_S (AE G [112, 136, 137, 138, 129, 130, 131, 132, 133, 134, 135] s.heap.size) s.heap s.heap [] := va_S.rf
  have n_m1 : ((-1) : Int32).toInt = -1 := rfl
  have n_0 : (0 : Int32).toInt = 0 := rfl
  have n_1 : (1 : Int32).toInt = 1 := rfl
  have n_6 : (6 : Int32).toInt = 6 := rfl
  have n_59 : (59 : Int32).toInt = 59 := rfl
  have bsp := ty_fi (x := sp) (k := 19) esp hT ga0 rg_112 rfl
  have bfr := ty_fi (x := fr) (k := 20) efr hT ga0 rg_112 rfl
  have btk := ty_fi (x := tk) (k := 21) etk hT ga0 rg_112 rfl
  have bvl := ty_fi (x := vl) (k := 22) evl hT ga0 rg_112 rfl
  have bmn := ty_fi (x := mn) (k := 35) emn hT ga0 rg_112 rfl
  have bon := ty_fi (x := on) (k := 36) eon hT ga0 rg_112 rfl
  have btp := ty_fi (x := tp) (k := 18) etp hT ga0 rg_112 rfl
  have bjb := ty_fi (x := jb) (k := 34) ejb hT ga0 rg_112 rfl
  have hap : ∀ x y, x < 74 → y < 74 → x ≠ y → K.1.2 10 x ≠ K.1.2 10 y := x_apart hKT hts inX10 tyX10 tyX10_ok nmX10 rfl
  have mf0 : MF K s.heap s.heap a0 [19, 20, 21, 22, 35, 36, 38, 39, 40] := fun _ _ _ => rfl
  replace eoq := EQN.mk eoq
  replace eaq := EQN.mk eaq
  replace ef9 := EQN.mk ef9
  replace ef0 := EQN.mk ef0
  replace ef1 := EQN.mk ef1
  replace etq := EQN.mk etq
  have f0_u9 : ∀ j : Nat, j ≠ x1.toNatClampNeg → fI s.heap f9 j = fI s.heap f9 j := fun _ _ => rfl
  have f0_u0 : ∀ j : Nat, j ≠ x1.toNatClampNeg → fI s.heap f0 j = fI s.heap f0 j := fun _ _ => rfl
  have f0_u1 : ∀ j : Nat, j ≠ x1.toNatClampNeg → fI s.heap f1 j = fI s.heap f1 j := fun _ _ => rfl
  have f0_bt := hv_bt
  obtain ⟨hb0, hx0⟩ := TV.bg (j := jb.toInt) hy0.2.2.1 (by omega) (by omega)
  replace hb0 := HD.mk hb0
  have pf00 : ∀ j : Nat, j < 3000 + mn.toNatClampNeg → fI s.heap oq j = fI s.heap oq j ∧ fI s.heap aq j = fI s.heap aq j := fun _ _ => ⟨rfl, rfl⟩
  have hmn := i_cl (x := mn) (by omega)
  obtain ⟨j1, j2, j3, j4⟩ := hp0
  replace j3 := j3.resolve_left (by omega)
  replace j4 := j4.resolve_left (by omega)
  refine lv_aload_n hx hb dX10_readLine_0 rfl (lv_at hl 0 rfl) ?_
  refine x_gi C hT (ci := 10) (k := 22) rfl inX10 (by decide) wF_X10_205 ga0 rg_112 rfl dX10_readLine_1 (fun x4313 ex4313 bx4313 => ?_)
  have ux4313 : vl = x4313 := (evl).trans ex4313.symm
  subst ux4313
  refine lv_istore_n (lv' := [(2, .int vl), (0, .ref a0), (1, .int x1)]) hx hb dX10_readLine_4 rfl hl (by decide) rfl (fun ls4314 hl4315 => ?_)
  refine lv_aload_n hx hb dX10_readLine_5 rfl (lv_at hl4315 1 rfl) ?_
  refine x_gr C hT (ci := 10) (k := 25) rfl inX10 (by decide) wF_X10_62 ga0 rg_112 rfl dX10_readLine_6 (fun q4316 eq4316 gq4316 => ?_)
  replace eq4316 := EQN.mk eq4316
  refine lv_iload_n hx hb dX10_readLine_9 rfl (lv_at hl4315 2 rfl) ?_
  refine lv_iload_n hx hb dX10_readLine_10 rfl (lv_at hl4315 0 rfl) ?_
  refine x_iast C hT hS gq4316 rg_129 (by omega) (by show _ < ((112 : Nat) : Int); omega) ⟨by have := i_rng vl; omega, by have := i_rng vl; omega⟩ (AE_in gq4316 (by decide)) dX10_readLine_11 (fun H4317 locsH4317 hTH4317 hSH4317 wH4317 => ?_)
  have mf4318 : MF K s.heap H4317 a0 [19, 20, 21, 22, 35, 36, 38, 39, 40] := MF.arr wH4317 (G_ne ga0 gq4316 (by decide)) mf0
  have g4319 : CG (avw K H4317 a0) := CG.congr (fun k hk j => av_arr hT ga0 wH4317 gq4316 (by decide) (CG_ok 129 (by decide) k hk)) hg_CG
  have g4320 : TU (avw K H4317 a0) (svw K H4317 a0) := TU.congr (fun k hk j => av_arr hT ga0 wH4317 gq4316 (by decide) (TU_ok 129 (by decide) k hk)) (fun k hk => sv_arr ga0 wH4317 gq4316 (by decide)) hg_TU
  have g4321 : WD (avw K H4317 a0) := WD.congr (fun k hk j => av_arr hT ga0 wH4317 gq4316 (by decide) (WD_ok 129 (by decide) k hk)) hg_WD
  have g4322 : IM (avw K H4317 a0) := IM.congr (fun k hk j => av_arr hT ga0 wH4317 gq4316 (by decide) (IM_ok 129 (by decide) k hk)) hg_IM
  have b4323 : ∀ j : Nat, j < 3000 + mn.toNatClampNeg → fI H4317 oq j = fI s.heap oq j ∧ fI H4317 aq j = fI s.heap aq j := fun j hj => ⟨(Wr.neI wH4317 (Or.inl (G_ne goq gq4316 (by decide)))).trans (pf00 j hj).1, (Wr.neI wH4317 (Or.inl (G_ne gaq gq4316 (by decide)))).trans (pf00 j hj).2⟩
  have f4324 : ∀ j : Nat, j ≠ x1.toNatClampNeg → fI H4317 f9 j = fI s.heap f9 j := fun j hj => (Wr.neI wH4317 (Or.inl (G_ne gf9 gq4316 (by decide)))).trans (f0_u9 j hj)
  have f4325 : ∀ j : Nat, j ≠ x1.toNatClampNeg → fI H4317 f0 j = fI s.heap f0 j := fun j hj => (Wr.neI wH4317 (Or.inl (G_ne gf0 gq4316 (by decide)))).trans (f0_u0 j hj)
  have f4326 : ∀ j : Nat, j ≠ x1.toNatClampNeg → fI H4317 f1 j = fI s.heap f1 j := fun j hj => (Wr.neI wH4317 (Or.inl (G_ne gf1 gq4316 (by decide)))).trans (f0_u1 j hj)
  have f4327 : ∀ j : Nat, bt j = (fI H4317 tq j).toInt := fun j => (f0_bt j).trans (congrArg Int32.toInt (Wr.neI wH4317 (Or.inl (G_ne gtq gq4316 (by decide)))).symm)
  have m4328 := eoq.trans (Wr.neR wH4317 (Or.inl (G_ne ga0 gq4316 (by decide)))).symm
  have m4329 := eaq.trans (Wr.neR wH4317 (Or.inl (G_ne ga0 gq4316 (by decide)))).symm
  have m4330 := ef9.trans (Wr.neR wH4317 (Or.inl (G_ne ga0 gq4316 (by decide)))).symm
  have m4331 := ef0.trans (Wr.neR wH4317 (Or.inl (G_ne ga0 gq4316 (by decide)))).symm
  have m4332 := ef1.trans (Wr.neR wH4317 (Or.inl (G_ne ga0 gq4316 (by decide)))).symm
  have m4333 := etq.trans (Wr.neR wH4317 (Or.inl (G_ne ga0 gq4316 (by decide)))).symm
  have m4334 := esp.trans (Wr.neI wH4317 (Or.inl (G_ne ga0 gq4316 (by decide)))).symm
  have m4335 := efr.trans (Wr.neI wH4317 (Or.inl (G_ne ga0 gq4316 (by decide)))).symm
  have m4336 := etk.trans (Wr.neI wH4317 (Or.inl (G_ne ga0 gq4316 (by decide)))).symm
  have m4337 := evl.trans (Wr.neI wH4317 (Or.inl (G_ne ga0 gq4316 (by decide)))).symm
  have m4338 := emn.trans (Wr.neI wH4317 (Or.inl (G_ne ga0 gq4316 (by decide)))).symm
  have m4339 := eon.trans (Wr.neI wH4317 (Or.inl (G_ne ga0 gq4316 (by decide)))).symm
  have m4340 := etp.trans (Wr.neI wH4317 (Or.inl (G_ne ga0 gq4316 (by decide)))).symm
  have m4341 := ejb.trans (Wr.neI wH4317 (Or.inl (G_ne ga0 gq4316 (by decide)))).symm
  have m4342 := eq4316.trans (Wr.neR wH4317 (Or.inl (G_ne ga0 gq4316 (by decide)))).symm
  have m4343 := Wr.I wH4317
  have m4343 := m4343.symm
  refine lv_aload_n hx hb dX10_readLine_12 rfl (lv_at hl4315 1 rfl) ?_
  refine x_V (As := []) (rest := []) C (a_X10_reads_e l K G H4317 (sp) (fr) (tk) (vl) (tp) bt hTH4317 ga0 gtq m4333 m4334 m4335 m4336 m4337 m4340 g4319 g4320 g4321 g4322 (by and_intros <;> first | assumption | omega) (hy1) f4327) yo_X10_reads wM_X10_242 ⟨⟨by decide, by decide⟩, by decide, by decide⟩ (x_rv C hTH4317 (ci := 10) rfl ga0 rg_112) rfl hl4315.1 rfl (Nat.le_of_ble_eq_true rfl) dX10_readLine_13 hSH4317 (AE_sub (fun _ _ => rfl) (by decide) hSH4317.1) (fun vH4344 H4344 locsH4344 pH4344 zH4344 kH4344 hSH4344 => ?_)
  obtain ⟨x4345, x4346, x4347, x4348, hvH4344, ex4345, ex4346, ex4347, ex4348, hrH4344, m4349, g4350, g4351, g4352, g4353, mf4354, m4355, m4356, m4357, hTH4344⟩ := pH4344
  subst hvH4344
  clear zH4344
  replace m4349 := EQN.mk m4349
  have b4358 : ∀ j : Nat, j < 3000 + mn.toNatClampNeg → fI H4344 oq j = fI s.heap oq j ∧ fI H4344 aq j = fI s.heap aq j := fun j hj => ⟨(fI_kept (x_lt hTH4317 kH4344 goq (by decide))).trans (b4323 j hj).1, (fI_kept (x_lt hTH4317 kH4344 gaq (by decide))).trans (b4323 j hj).2⟩
  have f4359 : ∀ j : Nat, j ≠ x1.toNatClampNeg → fI H4344 f9 j = fI s.heap f9 j := fun j hj => (fI_kept (x_lt hTH4317 kH4344 gf9 (by decide))).trans (f4324 j hj)
  have f4360 : ∀ j : Nat, j ≠ x1.toNatClampNeg → fI H4344 f0 j = fI s.heap f0 j := fun j hj => (fI_kept (x_lt hTH4317 kH4344 gf0 (by decide))).trans (f4325 j hj)
  have f4361 : ∀ j : Nat, j ≠ x1.toNatClampNeg → fI H4344 f1 j = fI s.heap f1 j := fun j hj => (fI_kept (x_lt hTH4317 kH4344 gf1 (by decide))).trans (f4326 j hj)
  have f4362 : ∀ j : Nat, bt j = (fI H4344 tq j).toInt := fun j => (f4327 j).trans (congrArg Int32.toInt (fI_kept (x_lt hTH4317 kH4344 gtq (by decide))).symm)
  have m4363 := (m4343).trans (fI_kept (x_lt hTH4317 kH4344 gq4316 (by decide))).symm
  have m4364 := (m4328).trans (MF.r mf4354 (k := 32) (by decide) (by decide)).symm
  have m4365 := (m4329).trans (MF.r mf4354 (k := 33) (by decide) (by decide)).symm
  have m4366 := (m4330).trans (MF.r mf4354 (k := 29) (by decide) (by decide)).symm
  have m4367 := (m4331).trans (MF.r mf4354 (k := 30) (by decide) (by decide)).symm
  have m4368 := (m4332).trans (MF.r mf4354 (k := 31) (by decide) (by decide)).symm
  have m4369 := (m4333).trans (MF.r mf4354 (k := 17) (by decide) (by decide)).symm
  have m4370 := (m4338).trans (MF.i mf4354 (k := 35) (by decide) (by decide)).symm
  have m4371 := (m4339).trans (MF.i mf4354 (k := 36) (by decide) (by decide)).symm
  have m4372 := (m4340).trans (MF.i mf4354 (k := 18) (by decide) (by decide)).symm
  have m4373 := (m4341).trans (MF.i mf4354 (k := 34) (by decide) (by decide)).symm
  have m4374 := (m4342).trans (MF.r mf4354 (k := 25) (by decide) (by decide)).symm
  have mf4375 : MF K s.heap H4344 a0 [19, 20, 21, 22, 35, 36, 38, 39, 40] := MF.trans mf4318 mf4354 (by decide)
  have bx4345 := ty_fi (x := x4345) (k := 19) ex4345 hTH4344 ga0 rg_112 rfl
  have bx4346 := ty_fi (x := x4346) (k := 20) ex4346 hTH4344 ga0 rg_112 rfl
  have bx4347 := ty_fi (x := x4347) (k := 21) ex4347 hTH4344 ga0 rg_112 rfl
  have bx4348 := ty_fi (x := x4348) (k := 22) ex4348 hTH4344 ga0 rg_112 rfl
  have cn_x4346 := i_cl (x := x4346) (by omega)
  have cn_fr := i_cl (x := fr) (by omega)
  have cu4376 : CU bt tp.toNatClampNeg (ci + 1) x4346 x4345 x4347 x4348 := CU.next hy0 m4355 m4356 m4357 (by omega)
  obtain ⟨r1H4344, r2H4344, r3H4344, r4H4344, r5H4344⟩ := hrH4344
  refine W.eq (g2 := F0 m 16 ls4314 []) rfl ?_
  refine lv_aload_n hx hb dX10_readLine_16 rfl (lv_at hl4315 1 rfl) ?_
  refine lv_iload_n hx hb dX10_readLine_17 rfl (lv_at hl4315 2 rfl) ?_
  refine lv_iload_n hx hb dX10_readLine_18 rfl (lv_at hl4315 0 rfl) ?_
  obtain ⟨q4377, eq4377⟩ : ∃ z : Nat, EQN z (fR H4344 a0 (K.1.2 10 26)) := ⟨_, rfl⟩
  have gq4377 := ty_fr (q := q4377) (k := 26) (u := 130) eq4377 hTH4344 ga0 rg_112 rfl
  replace eq4377 := EQN.mk eq4377
  obtain ⟨q4378, eq4378⟩ : ∃ z : Nat, EQN z (fR H4344 a0 (K.1.2 10 27)) := ⟨_, rfl⟩
  have gq4378 := ty_fr (q := q4378) (k := 27) (u := 131) eq4378 hTH4344 ga0 rg_112 rfl
  replace eq4378 := EQN.mk eq4378
  obtain ⟨q4379, eq4379⟩ : ∃ z : Nat, EQN z (fR H4344 a0 (K.1.2 10 28)) := ⟨_, rfl⟩
  have gq4379 := ty_fr (q := q4379) (k := 28) (u := 132) eq4379 hTH4344 ga0 rg_112 rfl
  replace eq4379 := EQN.mk eq4379
  refine x_V (As := [.int x1, .int vl]) (rest := []) C (a_X10_readNumbers_e l K G H4344 (x1) (vl) (x4345) (x4346) (x4347) (x4348) (tp) (jb) ((ci + 1)) bt hTH4344 ga0 (by omega) gtq m4349 gq4377 eq4377 gq4378 eq4378 gq4379 eq4379 ex4345 ex4346 ex4347 ex4348 m4372 m4373 g4350 g4351 g4352 g4353 (by and_intros <;> first | assumption | omega) (by and_intros <;> first | assumption | omega) (cu4376) (hy1) f4362) yo_X10_readNumbers wM_X10_279 ⟨⟨by decide, by decide⟩, by decide, by decide⟩ (x_rv C hTH4344 (ci := 10) rfl ga0 rg_112) rfl hl4315.1 rfl (Nat.le_of_ble_eq_true rfl) dX10_readLine_19 hSH4344 (AE_sub (fun _ _ => rfl) (by decide) hSH4344.1) (fun vH4380 H4380 locsH4380 pH4380 zH4380 kH4380 hSH4380 => ?_)
  obtain ⟨x4381, x4382, x4383, x4384, x4385, hvH4380, ex4382, ex4383, ex4384, ex4385, hrH4380, m4386, m4387, m4388, m4389, g4390, g4391, g4392, g4393, mf4394, m4395, hTH4380⟩ := pH4380
  subst hvH4380
  clear zH4380
  replace m4386 := EQN.mk m4386
  replace m4387 := EQN.mk m4387
  replace m4388 := EQN.mk m4388
  replace m4389 := EQN.mk m4389
  have b4396 : ∀ j : Nat, j < 3000 + mn.toNatClampNeg → fI H4380 oq j = fI s.heap oq j ∧ fI H4380 aq j = fI s.heap aq j := fun j hj => ⟨(fI_kept (x_lt hTH4344 kH4380 goq (by decide))).trans (b4358 j hj).1, (fI_kept (x_lt hTH4344 kH4380 gaq (by decide))).trans (b4358 j hj).2⟩
  have f4397 : ∀ j : Nat, j ≠ x1.toNatClampNeg → fI H4380 f9 j = fI s.heap f9 j := fun j hj => (fI_kept (x_lt hTH4344 kH4380 gf9 (by decide))).trans (f4359 j hj)
  have f4398 : ∀ j : Nat, j ≠ x1.toNatClampNeg → fI H4380 f0 j = fI s.heap f0 j := fun j hj => (fI_kept (x_lt hTH4344 kH4380 gf0 (by decide))).trans (f4360 j hj)
  have f4399 : ∀ j : Nat, j ≠ x1.toNatClampNeg → fI H4380 f1 j = fI s.heap f1 j := fun j hj => (fI_kept (x_lt hTH4344 kH4380 gf1 (by decide))).trans (f4361 j hj)
  have f4400 : ∀ j : Nat, bt j = (fI H4380 tq j).toInt := fun j => (f4362 j).trans (congrArg Int32.toInt (fI_kept (x_lt hTH4344 kH4380 gtq (by decide))).symm)
  have m4401 := (m4363).trans (fI_kept (x_lt hTH4344 kH4380 gq4316 (by decide))).symm
  have m4402 := (m4364).trans (MF.r mf4394 (k := 32) (by decide) (by decide)).symm
  have m4403 := (m4365).trans (MF.r mf4394 (k := 33) (by decide) (by decide)).symm
  have m4404 := (m4366).trans (MF.r mf4394 (k := 29) (by decide) (by decide)).symm
  have m4405 := (m4367).trans (MF.r mf4394 (k := 30) (by decide) (by decide)).symm
  have m4406 := (m4368).trans (MF.r mf4394 (k := 31) (by decide) (by decide)).symm
  have m4407 := (m4349).trans (MF.r mf4394 (k := 17) (by decide) (by decide)).symm
  have m4408 := (m4370).trans (MF.i mf4394 (k := 35) (by decide) (by decide)).symm
  have m4409 := (m4371).trans (MF.i mf4394 (k := 36) (by decide) (by decide)).symm
  have m4410 := (m4372).trans (MF.i mf4394 (k := 18) (by decide) (by decide)).symm
  have m4411 := (m4373).trans (MF.i mf4394 (k := 34) (by decide) (by decide)).symm
  have m4412 := (m4374).trans (MF.r mf4394 (k := 25) (by decide) (by decide)).symm
  have m4413 := (eq4377).trans (MF.r mf4394 (k := 26) (by decide) (by decide)).symm
  have m4414 := (eq4378).trans (MF.r mf4394 (k := 27) (by decide) (by decide)).symm
  have m4415 := (eq4379).trans (MF.r mf4394 (k := 28) (by decide) (by decide)).symm
  have mf4416 : MF K s.heap H4380 a0 [19, 20, 21, 22, 35, 36, 38, 39, 40] := MF.trans mf4375 mf4394 (by decide)
  have bx4382 := ty_fi (x := x4382) (k := 19) ex4382 hTH4380 ga0 rg_112 rfl
  have bx4383 := ty_fi (x := x4383) (k := 20) ex4383 hTH4380 ga0 rg_112 rfl
  have bx4384 := ty_fi (x := x4384) (k := 21) ex4384 hTH4380 ga0 rg_112 rfl
  have bx4385 := ty_fi (x := x4385) (k := 22) ex4385 hTH4380 ga0 rg_112 rfl
  refine W.eq (g2 := F0 m 22 ls4314 [.int x4381]) rfl ?_
  refine lv_iconst (v := (-1)) hx hb dX10_readLine_22 (by decide) ?_
  refine lv_icmp_ne (tgt := 28) hx hb dX10_readLine_23 (by decide) (fun c4417 => ?_) (fun c4417 => ?_)
  · have k4418 := i_ne c4417
    replace hrH4380 := hrH4380.resolve_left (by omega)
    obtain ⟨⟨z1H4380, z2H4380, z3H4380, z4H4380⟩, y1H4380⟩ := hrH4380
    clear r4H4344 r5H4344
    obtain ⟨cj4419, ho4421, cu4420⟩ := RC.yes m4395 (by omega)
    refine lv_aload_n hx hb dX10_readLine_28 rfl (lv_at hl4315 1 rfl) ?_
    refine x_gr C hTH4380 (ci := 10) (k := 29) rfl inX10 (by decide) wF_X10_74 ga0 rg_112 rfl dX10_readLine_29 (fun q4422 eq4422 gq4422 => ?_)
    have uq4422 : f9 = q4422 := (m4404).trans eq4422.symm
    subst uq4422
    clear eq4422
    refine lv_iload_n hx hb dX10_readLine_32 rfl (lv_at hl4315 2 rfl) ?_
    refine lv_aload_n hx hb dX10_readLine_33 rfl (lv_at hl4315 1 rfl) ?_
    refine x_gi C hTH4380 (ci := 10) (k := 35) rfl inX10 (by decide) wF_X10_228 ga0 rg_112 rfl dX10_readLine_34 (fun x4423 ex4423 bx4423 => ?_)
    have ux4423 : mn = x4423 := (m4408).trans ex4423.symm
    subst ux4423
    refine x_iast C hTH4380 hSH4380 gf9 rg_133 (by omega) (by show _ < ((112 : Nat) : Int); omega) ⟨by have := i_rng mn; omega, by have := i_rng mn; omega⟩ (AE_in gf9 (by decide)) dX10_readLine_37 (fun H4424 locsH4424 hTH4424 hSH4424 wH4424 => ?_)
    have mf4425 : MF K s.heap H4424 a0 [19, 20, 21, 22, 35, 36, 38, 39, 40] := MF.arr wH4424 (G_ne ga0 gf9 (by decide)) mf4416
    have ciH4424 := i_cl (x := x1) (by omega)
    have g4426 : CG (avw K H4424 a0) := CG.putL hTH4380 ga0 wH4424 gf9 (by decide) (by omega) g4390
    have g4427 : TU (avw K H4424 a0) (svw K H4424 a0) := TU.congr (fun k hk j => av_arr hTH4380 ga0 wH4424 gf9 (by decide) (TU_ok 133 (by decide) k hk)) (fun k hk => sv_arr ga0 wH4424 gf9 (by decide)) g4391
    have g4428 : WD (avw K H4424 a0) := WD.congr (fun k hk j => av_arr hTH4380 ga0 wH4424 gf9 (by decide) (WD_ok 133 (by decide) k hk)) g4392
    have g4429 : IM (avw K H4424 a0) := IM.congr (fun k hk j => av_arr hTH4380 ga0 wH4424 gf9 (by decide) (IM_ok 133 (by decide) k hk)) g4393
    have b4430 : ∀ j : Nat, j < 3000 + mn.toNatClampNeg → fI H4424 oq j = fI s.heap oq j ∧ fI H4424 aq j = fI s.heap aq j := fun j hj => ⟨(Wr.neI wH4424 (Or.inl (G_ne goq gf9 (by decide)))).trans (b4396 j hj).1, (Wr.neI wH4424 (Or.inl (G_ne gaq gf9 (by decide)))).trans (b4396 j hj).2⟩
    have f4431 : ∀ j : Nat, j ≠ x1.toNatClampNeg → fI H4424 f9 j = fI s.heap f9 j := fun j hj => (Wr.neI wH4424 (Or.inr hj)).trans (f4397 j hj)
    have f4432 : ∀ j : Nat, j ≠ x1.toNatClampNeg → fI H4424 f0 j = fI s.heap f0 j := fun j hj => (Wr.neI wH4424 (Or.inl (G_ne gf0 gf9 (by decide)))).trans (f4398 j hj)
    have f4433 : ∀ j : Nat, j ≠ x1.toNatClampNeg → fI H4424 f1 j = fI s.heap f1 j := fun j hj => (Wr.neI wH4424 (Or.inl (G_ne gf1 gf9 (by decide)))).trans (f4399 j hj)
    have f4434 : ∀ j : Nat, bt j = (fI H4424 tq j).toInt := fun j => (f4400 j).trans (congrArg Int32.toInt (Wr.neI wH4424 (Or.inl (G_ne gtq gf9 (by decide)))).symm)
    have m4435 := m4401.trans (Wr.neI wH4424 (Or.inl (G_ne gq4316 gf9 (by decide)))).symm
    have m4436 := m4402.trans (Wr.neR wH4424 (Or.inl (G_ne ga0 gf9 (by decide)))).symm
    have m4437 := m4403.trans (Wr.neR wH4424 (Or.inl (G_ne ga0 gf9 (by decide)))).symm
    have m4438 := m4404.trans (Wr.neR wH4424 (Or.inl (G_ne ga0 gf9 (by decide)))).symm
    have m4439 := m4405.trans (Wr.neR wH4424 (Or.inl (G_ne ga0 gf9 (by decide)))).symm
    have m4440 := m4406.trans (Wr.neR wH4424 (Or.inl (G_ne ga0 gf9 (by decide)))).symm
    have m4441 := m4386.trans (Wr.neR wH4424 (Or.inl (G_ne ga0 gf9 (by decide)))).symm
    have m4442 := m4408.trans (Wr.neI wH4424 (Or.inl (G_ne ga0 gf9 (by decide)))).symm
    have m4443 := m4409.trans (Wr.neI wH4424 (Or.inl (G_ne ga0 gf9 (by decide)))).symm
    have m4444 := m4410.trans (Wr.neI wH4424 (Or.inl (G_ne ga0 gf9 (by decide)))).symm
    have m4445 := m4411.trans (Wr.neI wH4424 (Or.inl (G_ne ga0 gf9 (by decide)))).symm
    have m4446 := m4412.trans (Wr.neR wH4424 (Or.inl (G_ne ga0 gf9 (by decide)))).symm
    have m4447 := m4387.trans (Wr.neR wH4424 (Or.inl (G_ne ga0 gf9 (by decide)))).symm
    have m4448 := m4388.trans (Wr.neR wH4424 (Or.inl (G_ne ga0 gf9 (by decide)))).symm
    have m4449 := m4389.trans (Wr.neR wH4424 (Or.inl (G_ne ga0 gf9 (by decide)))).symm
    have m4450 := ex4382.trans (Wr.neI wH4424 (Or.inl (G_ne ga0 gf9 (by decide)))).symm
    have m4451 := ex4383.trans (Wr.neI wH4424 (Or.inl (G_ne ga0 gf9 (by decide)))).symm
    have m4452 := ex4384.trans (Wr.neI wH4424 (Or.inl (G_ne ga0 gf9 (by decide)))).symm
    have m4453 := ex4385.trans (Wr.neI wH4424 (Or.inl (G_ne ga0 gf9 (by decide)))).symm
    have m4454 := Wr.I wH4424
    have m4454 := m4454.symm
    refine lv_aload_n hx hb dX10_readLine_38 rfl (lv_at hl4315 1 rfl) ?_
    refine x_gi C hTH4424 (ci := 10) (k := 34) rfl inX10 (by decide) wF_X10_231 ga0 rg_112 rfl dX10_readLine_39 (fun x4455 ex4455 bx4455 => ?_)
    have ux4455 : jb = x4455 := (m4445).trans ex4455.symm
    subst ux4455
    refine lv_if_ne (tgt := 55) hx hb dX10_readLine_42 (by decide) (fun c4456 => ?_) (fun c4456 => ?_)
    · have k4457 := i_ne c4456
      have ws0 : WF (fun k => fI H4424 oq k) (fun k => fI H4424 aq k) (3000 + mn.toNatClampNeg) (3000 + mn.toNatClampNeg) 0 0 := WF.nil
      refine lv_aload_n hx hb dX10_readLine_55 rfl (lv_at hl4315 1 rfl) ?_
      refine x_gr C hTH4424 (ci := 10) (k := 30) rfl inX10 (by decide) wF_X10_77 ga0 rg_112 rfl dX10_readLine_56 (fun q4458 eq4458 gq4458 => ?_)
      have uq4458 : f0 = q4458 := (m4439).trans eq4458.symm
      subst uq4458
      clear eq4458
      refine lv_iload_n hx hb dX10_readLine_59 rfl (lv_at hl4315 2 rfl) ?_
      refine lv_aload_n hx hb dX10_readLine_60 rfl (lv_at hl4315 1 rfl) ?_
      refine x_gi C hTH4424 (ci := 10) (k := 35) rfl inX10 (by decide) wF_X10_228 ga0 rg_112 rfl dX10_readLine_61 (fun x4459 ex4459 bx4459 => ?_)
      have ux4459 : mn = x4459 := (m4442).trans ex4459.symm
      subst ux4459
      refine x_iast C hTH4424 hSH4424 gf0 rg_134 (by omega) (by show _ < ((112 : Nat) : Int); omega) ⟨by have := i_rng mn; omega, by have := i_rng mn; omega⟩ (AE_in gf0 (by decide)) dX10_readLine_64 (fun H4460 locsH4460 hTH4460 hSH4460 wH4460 => ?_)
      have mf4461 : MF K s.heap H4460 a0 [19, 20, 21, 22, 35, 36, 38, 39, 40] := MF.arr wH4460 (G_ne ga0 gf0 (by decide)) mf4425
      have g4462 : CG (avw K H4460 a0) := CG.putL hTH4424 ga0 wH4460 gf0 (by decide) (by omega) g4426
      have g4463 : TU (avw K H4460 a0) (svw K H4460 a0) := TU.congr (fun k hk j => av_arr hTH4424 ga0 wH4460 gf0 (by decide) (TU_ok 134 (by decide) k hk)) (fun k hk => sv_arr ga0 wH4460 gf0 (by decide)) g4427
      have g4464 : WD (avw K H4460 a0) := WD.congr (fun k hk j => av_arr hTH4424 ga0 wH4460 gf0 (by decide) (WD_ok 134 (by decide) k hk)) g4428
      have g4465 : IM (avw K H4460 a0) := IM.congr (fun k hk j => av_arr hTH4424 ga0 wH4460 gf0 (by decide) (IM_ok 134 (by decide) k hk)) g4429
      have b4466 : ∀ j : Nat, j < 3000 + mn.toNatClampNeg → fI H4460 oq j = fI s.heap oq j ∧ fI H4460 aq j = fI s.heap aq j := fun j hj => ⟨(Wr.neI wH4460 (Or.inl (G_ne goq gf0 (by decide)))).trans (b4430 j hj).1, (Wr.neI wH4460 (Or.inl (G_ne gaq gf0 (by decide)))).trans (b4430 j hj).2⟩
      have b4467 : WF (fun k => fI H4460 oq k) (fun k => fI H4460 aq k) (3000 + mn.toNatClampNeg) (3000 + mn.toNatClampNeg) 0 0 := WF.congr (fun j => Wr.neI wH4460 (Or.inl (G_ne goq gf0 (by decide)))) (fun j => Wr.neI wH4460 (Or.inl (G_ne gaq gf0 (by decide)))) ws0
      have f4468 : ∀ j : Nat, j ≠ x1.toNatClampNeg → fI H4460 f9 j = fI s.heap f9 j := fun j hj => (Wr.neI wH4460 (Or.inl (G_ne gf9 gf0 (by decide)))).trans (f4431 j hj)
      have f4469 : ∀ j : Nat, j ≠ x1.toNatClampNeg → fI H4460 f0 j = fI s.heap f0 j := fun j hj => (Wr.neI wH4460 (Or.inr hj)).trans (f4432 j hj)
      have f4470 : ∀ j : Nat, j ≠ x1.toNatClampNeg → fI H4460 f1 j = fI s.heap f1 j := fun j hj => (Wr.neI wH4460 (Or.inl (G_ne gf1 gf0 (by decide)))).trans (f4433 j hj)
      have f4471 : ∀ j : Nat, bt j = (fI H4460 tq j).toInt := fun j => (f4434 j).trans (congrArg Int32.toInt (Wr.neI wH4460 (Or.inl (G_ne gtq gf0 (by decide)))).symm)
      have m4472 := m4435.trans (Wr.neI wH4460 (Or.inl (G_ne gq4316 gf0 (by decide)))).symm
      have m4473 := m4436.trans (Wr.neR wH4460 (Or.inl (G_ne ga0 gf0 (by decide)))).symm
      have m4474 := m4437.trans (Wr.neR wH4460 (Or.inl (G_ne ga0 gf0 (by decide)))).symm
      have m4475 := m4438.trans (Wr.neR wH4460 (Or.inl (G_ne ga0 gf0 (by decide)))).symm
      have m4476 := m4439.trans (Wr.neR wH4460 (Or.inl (G_ne ga0 gf0 (by decide)))).symm
      have m4477 := m4440.trans (Wr.neR wH4460 (Or.inl (G_ne ga0 gf0 (by decide)))).symm
      have m4478 := m4441.trans (Wr.neR wH4460 (Or.inl (G_ne ga0 gf0 (by decide)))).symm
      have m4479 := m4442.trans (Wr.neI wH4460 (Or.inl (G_ne ga0 gf0 (by decide)))).symm
      have m4480 := m4443.trans (Wr.neI wH4460 (Or.inl (G_ne ga0 gf0 (by decide)))).symm
      have m4481 := m4444.trans (Wr.neI wH4460 (Or.inl (G_ne ga0 gf0 (by decide)))).symm
      have m4482 := m4445.trans (Wr.neI wH4460 (Or.inl (G_ne ga0 gf0 (by decide)))).symm
      have m4483 := m4446.trans (Wr.neR wH4460 (Or.inl (G_ne ga0 gf0 (by decide)))).symm
      have m4484 := m4447.trans (Wr.neR wH4460 (Or.inl (G_ne ga0 gf0 (by decide)))).symm
      have m4485 := m4448.trans (Wr.neR wH4460 (Or.inl (G_ne ga0 gf0 (by decide)))).symm
      have m4486 := m4449.trans (Wr.neR wH4460 (Or.inl (G_ne ga0 gf0 (by decide)))).symm
      have m4487 := m4450.trans (Wr.neI wH4460 (Or.inl (G_ne ga0 gf0 (by decide)))).symm
      have m4488 := m4451.trans (Wr.neI wH4460 (Or.inl (G_ne ga0 gf0 (by decide)))).symm
      have m4489 := m4452.trans (Wr.neI wH4460 (Or.inl (G_ne ga0 gf0 (by decide)))).symm
      have m4490 := m4453.trans (Wr.neI wH4460 (Or.inl (G_ne ga0 gf0 (by decide)))).symm
      have m4491 := m4454.trans (Wr.neI wH4460 (Or.inl (G_ne gf9 gf0 (by decide)))).symm
      have m4492 := Wr.I wH4460
      have m4492 := m4492.symm
      refine lv_aload_n hx hb dX10_readLine_65 rfl (lv_at hl4315 1 rfl) ?_
      refine lv_bipush (v := 6) hx hb dX10_readLine_66 (by decide) ?_
      refine x_V (As := [.int 6]) (rest := []) C (a_X10_isWord_e l K G H4460 (6) (x4384) (x4385) hTH4460 ga0 m4489 m4490) yo_X10_isWord wM_X10_264 ⟨⟨by decide, by decide⟩, by decide, by decide⟩ (x_rv C hTH4460 (ci := 10) rfl ga0 rg_112) rfl hl4315.1 rfl (Nat.le_of_ble_eq_true rfl) dX10_readLine_68 hSH4460 (AE_sub (fun _ _ => rfl) (by decide) hSH4460.1) (fun vH4493 H4493 locsH4493 pH4493 zH4493 kH4493 hSH4493 => ?_)
      obtain ⟨x4494, hvH4493, bx4494, hrH4493, hTH4493⟩ := pH4493
      subst hvH4493
      clear zH4493
      have mf4495 : MF K s.heap H4493 a0 [19, 20, 21, 22, 35, 36, 38, 39, 40] := MF.eff (x_lt hTH4460 kH4493 ga0 (by decide)) mf4461
      have b4496 : ∀ j : Nat, j < 3000 + mn.toNatClampNeg → fI H4493 oq j = fI s.heap oq j ∧ fI H4493 aq j = fI s.heap aq j := fun j hj => ⟨(fI_kept (x_lt hTH4460 kH4493 goq (by decide))).trans (b4466 j hj).1, (fI_kept (x_lt hTH4460 kH4493 gaq (by decide))).trans (b4466 j hj).2⟩
      have b4497 : WF (fun k => fI H4493 oq k) (fun k => fI H4493 aq k) (3000 + mn.toNatClampNeg) (3000 + mn.toNatClampNeg) 0 0 := WF.congr (fun j => fI_kept (x_lt hTH4460 kH4493 goq (by decide))) (fun j => fI_kept (x_lt hTH4460 kH4493 gaq (by decide))) b4467
      have g4498 : CG (avw K H4493 a0) := CG.congr (fun k hk j => av_eff hTH4460 kH4493 ga0 (by decide) (CG_eff [] (by decide) k hk)) g4462
      have g4499 : TU (avw K H4493 a0) (svw K H4493 a0) := TU.congr (fun k hk j => av_eff hTH4460 kH4493 ga0 (by decide) (TU_eff [] (by decide) k hk)) (fun k hk => sv_eff hTH4460 kH4493 ga0 (by decide)) g4463
      have g4500 : WD (avw K H4493 a0) := WD.congr (fun k hk j => av_eff hTH4460 kH4493 ga0 (by decide) (WD_eff [] (by decide) k hk)) g4464
      have g4501 : IM (avw K H4493 a0) := IM.congr (fun k hk j => av_eff hTH4460 kH4493 ga0 (by decide) (IM_eff [] (by decide) k hk)) g4465
      have f4502 : ∀ j : Nat, j ≠ x1.toNatClampNeg → fI H4493 f9 j = fI s.heap f9 j := fun j hj => (fI_kept (x_lt hTH4460 kH4493 gf9 (by decide))).trans (f4468 j hj)
      have f4503 : ∀ j : Nat, j ≠ x1.toNatClampNeg → fI H4493 f0 j = fI s.heap f0 j := fun j hj => (fI_kept (x_lt hTH4460 kH4493 gf0 (by decide))).trans (f4469 j hj)
      have f4504 : ∀ j : Nat, j ≠ x1.toNatClampNeg → fI H4493 f1 j = fI s.heap f1 j := fun j hj => (fI_kept (x_lt hTH4460 kH4493 gf1 (by decide))).trans (f4470 j hj)
      have f4505 : ∀ j : Nat, bt j = (fI H4493 tq j).toInt := fun j => (f4471 j).trans (congrArg Int32.toInt (fI_kept (x_lt hTH4460 kH4493 gtq (by decide))).symm)
      have m4506 := (m4472).trans (fI_kept (x_lt hTH4460 kH4493 gq4316 (by decide))).symm
      have m4507 := (m4473).trans (fR_kept (x_lt hTH4460 kH4493 ga0 (by decide))).symm
      have m4508 := (m4474).trans (fR_kept (x_lt hTH4460 kH4493 ga0 (by decide))).symm
      have m4509 := (m4475).trans (fR_kept (x_lt hTH4460 kH4493 ga0 (by decide))).symm
      have m4510 := (m4476).trans (fR_kept (x_lt hTH4460 kH4493 ga0 (by decide))).symm
      have m4511 := (m4477).trans (fR_kept (x_lt hTH4460 kH4493 ga0 (by decide))).symm
      have m4512 := (m4478).trans (fR_kept (x_lt hTH4460 kH4493 ga0 (by decide))).symm
      have m4513 := (m4479).trans (fI_kept (x_lt hTH4460 kH4493 ga0 (by decide))).symm
      have m4514 := (m4480).trans (fI_kept (x_lt hTH4460 kH4493 ga0 (by decide))).symm
      have m4515 := (m4481).trans (fI_kept (x_lt hTH4460 kH4493 ga0 (by decide))).symm
      have m4516 := (m4482).trans (fI_kept (x_lt hTH4460 kH4493 ga0 (by decide))).symm
      have m4517 := (m4483).trans (fR_kept (x_lt hTH4460 kH4493 ga0 (by decide))).symm
      have m4518 := (m4484).trans (fR_kept (x_lt hTH4460 kH4493 ga0 (by decide))).symm
      have m4519 := (m4485).trans (fR_kept (x_lt hTH4460 kH4493 ga0 (by decide))).symm
      have m4520 := (m4486).trans (fR_kept (x_lt hTH4460 kH4493 ga0 (by decide))).symm
      have m4521 := (m4487).trans (fI_kept (x_lt hTH4460 kH4493 ga0 (by decide))).symm
      have m4522 := (m4488).trans (fI_kept (x_lt hTH4460 kH4493 ga0 (by decide))).symm
      have m4523 := (m4489).trans (fI_kept (x_lt hTH4460 kH4493 ga0 (by decide))).symm
      have m4524 := (m4490).trans (fI_kept (x_lt hTH4460 kH4493 ga0 (by decide))).symm
      have m4525 := (m4491).trans (fI_kept (x_lt hTH4460 kH4493 gf9 (by decide))).symm
      have m4526 := (m4492).trans (fI_kept (x_lt hTH4460 kH4493 gf0 (by decide))).symm
      refine W.eq (g2 := F0 m 71 ls4314 [.int x4494]) rfl ?_
      refine lv_if_eq (tgt := 88) hx hb dX10_readLine_71 (by decide) (fun c4527 => ?_) (fun c4527 => ?_)
      · have k4528 := i_eq c4527
        have kw_ : kK bt tp.toNatClampNeg cj4419 ≠ 7 := fun e => by have z2 := (TV.wd cu4420.2.2.1).mpr (by omega); have z1 := TV.wv cu4420.2.2.1 z2; omega
        clear hrH4493
        have wa0 : WF (fun k => fI H4493 oq k) (fun k => fI H4493 aq k) (3000 + mn.toNatClampNeg) (3000 + mn.toNatClampNeg) 0 0 := WF.nil
        refine lv_aload_n hx hb dX10_readLine_88 rfl (lv_at hl4315 1 rfl) ?_
        refine x_gr C hTH4493 (ci := 10) (k := 31) rfl inX10 (by decide) wF_X10_80 ga0 rg_112 rfl dX10_readLine_89 (fun q4529 eq4529 gq4529 => ?_)
        have uq4529 : f1 = q4529 := (m4511).trans eq4529.symm
        subst uq4529
        clear eq4529
        refine lv_iload_n hx hb dX10_readLine_92 rfl (lv_at hl4315 2 rfl) ?_
        refine lv_aload_n hx hb dX10_readLine_93 rfl (lv_at hl4315 1 rfl) ?_
        refine x_gi C hTH4493 (ci := 10) (k := 35) rfl inX10 (by decide) wF_X10_228 ga0 rg_112 rfl dX10_readLine_94 (fun x4530 ex4530 bx4530 => ?_)
        have ux4530 : mn = x4530 := (m4513).trans ex4530.symm
        subst ux4530
        refine x_iast C hTH4493 hSH4493 gf1 rg_135 (by omega) (by show _ < ((112 : Nat) : Int); omega) ⟨by have := i_rng mn; omega, by have := i_rng mn; omega⟩ (AE_in gf1 (by decide)) dX10_readLine_97 (fun H4531 locsH4531 hTH4531 hSH4531 wH4531 => ?_)
        have mf4532 : MF K s.heap H4531 a0 [19, 20, 21, 22, 35, 36, 38, 39, 40] := MF.arr wH4531 (G_ne ga0 gf1 (by decide)) mf4495
        have g4533 : CG (avw K H4531 a0) := CG.putL hTH4493 ga0 wH4531 gf1 (by decide) (by omega) g4498
        have g4534 : TU (avw K H4531 a0) (svw K H4531 a0) := TU.congr (fun k hk j => av_arr hTH4493 ga0 wH4531 gf1 (by decide) (TU_ok 135 (by decide) k hk)) (fun k hk => sv_arr ga0 wH4531 gf1 (by decide)) g4499
        have g4535 : WD (avw K H4531 a0) := WD.congr (fun k hk j => av_arr hTH4493 ga0 wH4531 gf1 (by decide) (WD_ok 135 (by decide) k hk)) g4500
        have g4536 : IM (avw K H4531 a0) := IM.congr (fun k hk j => av_arr hTH4493 ga0 wH4531 gf1 (by decide) (IM_ok 135 (by decide) k hk)) g4501
        have b4537 : ∀ j : Nat, j < 3000 + mn.toNatClampNeg → fI H4531 oq j = fI s.heap oq j ∧ fI H4531 aq j = fI s.heap aq j := fun j hj => ⟨(Wr.neI wH4531 (Or.inl (G_ne goq gf1 (by decide)))).trans (b4496 j hj).1, (Wr.neI wH4531 (Or.inl (G_ne gaq gf1 (by decide)))).trans (b4496 j hj).2⟩
        have b4538 : WF (fun k => fI H4531 oq k) (fun k => fI H4531 aq k) (3000 + mn.toNatClampNeg) (3000 + mn.toNatClampNeg) 0 0 := WF.congr (fun j => Wr.neI wH4531 (Or.inl (G_ne goq gf1 (by decide)))) (fun j => Wr.neI wH4531 (Or.inl (G_ne gaq gf1 (by decide)))) b4497
        have b4539 : WF (fun k => fI H4531 oq k) (fun k => fI H4531 aq k) (3000 + mn.toNatClampNeg) (3000 + mn.toNatClampNeg) 0 0 := WF.congr (fun j => Wr.neI wH4531 (Or.inl (G_ne goq gf1 (by decide)))) (fun j => Wr.neI wH4531 (Or.inl (G_ne gaq gf1 (by decide)))) wa0
        have f4540 : ∀ j : Nat, j ≠ x1.toNatClampNeg → fI H4531 f9 j = fI s.heap f9 j := fun j hj => (Wr.neI wH4531 (Or.inl (G_ne gf9 gf1 (by decide)))).trans (f4502 j hj)
        have f4541 : ∀ j : Nat, j ≠ x1.toNatClampNeg → fI H4531 f0 j = fI s.heap f0 j := fun j hj => (Wr.neI wH4531 (Or.inl (G_ne gf0 gf1 (by decide)))).trans (f4503 j hj)
        have f4542 : ∀ j : Nat, j ≠ x1.toNatClampNeg → fI H4531 f1 j = fI s.heap f1 j := fun j hj => (Wr.neI wH4531 (Or.inr hj)).trans (f4504 j hj)
        have f4543 : ∀ j : Nat, bt j = (fI H4531 tq j).toInt := fun j => (f4505 j).trans (congrArg Int32.toInt (Wr.neI wH4531 (Or.inl (G_ne gtq gf1 (by decide)))).symm)
        have m4544 := m4506.trans (Wr.neI wH4531 (Or.inl (G_ne gq4316 gf1 (by decide)))).symm
        have m4545 := m4507.trans (Wr.neR wH4531 (Or.inl (G_ne ga0 gf1 (by decide)))).symm
        have m4546 := m4508.trans (Wr.neR wH4531 (Or.inl (G_ne ga0 gf1 (by decide)))).symm
        have m4547 := m4509.trans (Wr.neR wH4531 (Or.inl (G_ne ga0 gf1 (by decide)))).symm
        have m4548 := m4510.trans (Wr.neR wH4531 (Or.inl (G_ne ga0 gf1 (by decide)))).symm
        have m4549 := m4511.trans (Wr.neR wH4531 (Or.inl (G_ne ga0 gf1 (by decide)))).symm
        have m4550 := m4512.trans (Wr.neR wH4531 (Or.inl (G_ne ga0 gf1 (by decide)))).symm
        have m4551 := m4513.trans (Wr.neI wH4531 (Or.inl (G_ne ga0 gf1 (by decide)))).symm
        have m4552 := m4514.trans (Wr.neI wH4531 (Or.inl (G_ne ga0 gf1 (by decide)))).symm
        have m4553 := m4515.trans (Wr.neI wH4531 (Or.inl (G_ne ga0 gf1 (by decide)))).symm
        have m4554 := m4516.trans (Wr.neI wH4531 (Or.inl (G_ne ga0 gf1 (by decide)))).symm
        have m4555 := m4517.trans (Wr.neR wH4531 (Or.inl (G_ne ga0 gf1 (by decide)))).symm
        have m4556 := m4518.trans (Wr.neR wH4531 (Or.inl (G_ne ga0 gf1 (by decide)))).symm
        have m4557 := m4519.trans (Wr.neR wH4531 (Or.inl (G_ne ga0 gf1 (by decide)))).symm
        have m4558 := m4520.trans (Wr.neR wH4531 (Or.inl (G_ne ga0 gf1 (by decide)))).symm
        have m4559 := m4521.trans (Wr.neI wH4531 (Or.inl (G_ne ga0 gf1 (by decide)))).symm
        have m4560 := m4522.trans (Wr.neI wH4531 (Or.inl (G_ne ga0 gf1 (by decide)))).symm
        have m4561 := m4523.trans (Wr.neI wH4531 (Or.inl (G_ne ga0 gf1 (by decide)))).symm
        have m4562 := m4524.trans (Wr.neI wH4531 (Or.inl (G_ne ga0 gf1 (by decide)))).symm
        have m4563 := m4525.trans (Wr.neI wH4531 (Or.inl (G_ne gf9 gf1 (by decide)))).symm
        have m4564 := m4526.trans (Wr.neI wH4531 (Or.inl (G_ne gf0 gf1 (by decide)))).symm
        have m4565 := Wr.I wH4531
        have m4565 := m4565.symm
        refine lv_aload_n hx hb dX10_readLine_98 rfl (lv_at hl4315 1 rfl) ?_
        refine lv_bipush (v := 59) hx hb dX10_readLine_99 (by decide) ?_
        refine x_V (As := [.int 59]) (rest := []) C (a_X10_isSign_e l K G H4531 (59) (x4384) (x4385) hTH4531 ga0 m4561 m4562) yo_X10_isSign wM_X10_249 ⟨⟨by decide, by decide⟩, by decide, by decide⟩ (x_rv C hTH4531 (ci := 10) rfl ga0 rg_112) rfl hl4315.1 rfl (Nat.le_of_ble_eq_true rfl) dX10_readLine_101 hSH4531 (AE_sub (fun _ _ => rfl) (by decide) hSH4531.1) (fun vH4566 H4566 locsH4566 pH4566 zH4566 kH4566 hSH4566 => ?_)
        obtain ⟨x4567, hvH4566, bx4567, hrH4566, hTH4566⟩ := pH4566
        subst hvH4566
        clear zH4566
        have mf4568 : MF K s.heap H4566 a0 [19, 20, 21, 22, 35, 36, 38, 39, 40] := MF.eff (x_lt hTH4531 kH4566 ga0 (by decide)) mf4532
        have b4569 : ∀ j : Nat, j < 3000 + mn.toNatClampNeg → fI H4566 oq j = fI s.heap oq j ∧ fI H4566 aq j = fI s.heap aq j := fun j hj => ⟨(fI_kept (x_lt hTH4531 kH4566 goq (by decide))).trans (b4537 j hj).1, (fI_kept (x_lt hTH4531 kH4566 gaq (by decide))).trans (b4537 j hj).2⟩
        have b4570 : WF (fun k => fI H4566 oq k) (fun k => fI H4566 aq k) (3000 + mn.toNatClampNeg) (3000 + mn.toNatClampNeg) 0 0 := WF.congr (fun j => fI_kept (x_lt hTH4531 kH4566 goq (by decide))) (fun j => fI_kept (x_lt hTH4531 kH4566 gaq (by decide))) b4538
        have b4571 : WF (fun k => fI H4566 oq k) (fun k => fI H4566 aq k) (3000 + mn.toNatClampNeg) (3000 + mn.toNatClampNeg) 0 0 := WF.congr (fun j => fI_kept (x_lt hTH4531 kH4566 goq (by decide))) (fun j => fI_kept (x_lt hTH4531 kH4566 gaq (by decide))) b4539
        have g4572 : CG (avw K H4566 a0) := CG.congr (fun k hk j => av_eff hTH4531 kH4566 ga0 (by decide) (CG_eff [] (by decide) k hk)) g4533
        have g4573 : TU (avw K H4566 a0) (svw K H4566 a0) := TU.congr (fun k hk j => av_eff hTH4531 kH4566 ga0 (by decide) (TU_eff [] (by decide) k hk)) (fun k hk => sv_eff hTH4531 kH4566 ga0 (by decide)) g4534
        have g4574 : WD (avw K H4566 a0) := WD.congr (fun k hk j => av_eff hTH4531 kH4566 ga0 (by decide) (WD_eff [] (by decide) k hk)) g4535
        have g4575 : IM (avw K H4566 a0) := IM.congr (fun k hk j => av_eff hTH4531 kH4566 ga0 (by decide) (IM_eff [] (by decide) k hk)) g4536
        have f4576 : ∀ j : Nat, j ≠ x1.toNatClampNeg → fI H4566 f9 j = fI s.heap f9 j := fun j hj => (fI_kept (x_lt hTH4531 kH4566 gf9 (by decide))).trans (f4540 j hj)
        have f4577 : ∀ j : Nat, j ≠ x1.toNatClampNeg → fI H4566 f0 j = fI s.heap f0 j := fun j hj => (fI_kept (x_lt hTH4531 kH4566 gf0 (by decide))).trans (f4541 j hj)
        have f4578 : ∀ j : Nat, j ≠ x1.toNatClampNeg → fI H4566 f1 j = fI s.heap f1 j := fun j hj => (fI_kept (x_lt hTH4531 kH4566 gf1 (by decide))).trans (f4542 j hj)
        have f4579 : ∀ j : Nat, bt j = (fI H4566 tq j).toInt := fun j => (f4543 j).trans (congrArg Int32.toInt (fI_kept (x_lt hTH4531 kH4566 gtq (by decide))).symm)
        have m4580 := (m4544).trans (fI_kept (x_lt hTH4531 kH4566 gq4316 (by decide))).symm
        have m4581 := (m4545).trans (fR_kept (x_lt hTH4531 kH4566 ga0 (by decide))).symm
        have m4582 := (m4546).trans (fR_kept (x_lt hTH4531 kH4566 ga0 (by decide))).symm
        have m4583 := (m4547).trans (fR_kept (x_lt hTH4531 kH4566 ga0 (by decide))).symm
        have m4584 := (m4548).trans (fR_kept (x_lt hTH4531 kH4566 ga0 (by decide))).symm
        have m4585 := (m4549).trans (fR_kept (x_lt hTH4531 kH4566 ga0 (by decide))).symm
        have m4586 := (m4550).trans (fR_kept (x_lt hTH4531 kH4566 ga0 (by decide))).symm
        have m4587 := (m4551).trans (fI_kept (x_lt hTH4531 kH4566 ga0 (by decide))).symm
        have m4588 := (m4552).trans (fI_kept (x_lt hTH4531 kH4566 ga0 (by decide))).symm
        have m4589 := (m4553).trans (fI_kept (x_lt hTH4531 kH4566 ga0 (by decide))).symm
        have m4590 := (m4554).trans (fI_kept (x_lt hTH4531 kH4566 ga0 (by decide))).symm
        have m4591 := (m4555).trans (fR_kept (x_lt hTH4531 kH4566 ga0 (by decide))).symm
        have m4592 := (m4556).trans (fR_kept (x_lt hTH4531 kH4566 ga0 (by decide))).symm
        have m4593 := (m4557).trans (fR_kept (x_lt hTH4531 kH4566 ga0 (by decide))).symm
        have m4594 := (m4558).trans (fR_kept (x_lt hTH4531 kH4566 ga0 (by decide))).symm
        have m4595 := (m4559).trans (fI_kept (x_lt hTH4531 kH4566 ga0 (by decide))).symm
        have m4596 := (m4560).trans (fI_kept (x_lt hTH4531 kH4566 ga0 (by decide))).symm
        have m4597 := (m4561).trans (fI_kept (x_lt hTH4531 kH4566 ga0 (by decide))).symm
        have m4598 := (m4562).trans (fI_kept (x_lt hTH4531 kH4566 ga0 (by decide))).symm
        have m4599 := (m4563).trans (fI_kept (x_lt hTH4531 kH4566 gf9 (by decide))).symm
        have m4600 := (m4564).trans (fI_kept (x_lt hTH4531 kH4566 gf0 (by decide))).symm
        have m4601 := (m4565).trans (fI_kept (x_lt hTH4531 kH4566 gf1 (by decide))).symm
        refine W.eq (g2 := F0 m 104 ls4314 [.int x4567]) rfl ?_
        refine lv_if_ne (tgt := 113) hx hb dX10_readLine_104 (by decide) (fun c4602 => ?_) (fun c4602 => ?_)
        · have k4603 := i_ne c4602
          have k59_ : kK bt tp.toNatClampNeg cj4419 = 59 := (TV.sg (c := 59) cu4420.2.2.1 (by decide)).mp ⟨by omega, by omega⟩
          replace hrH4566 := hrH4566.resolve_left (fun h => absurd h.1 (by omega))
          replace z3H4380 := z3H4380.resolve_left (by omega)
          refine lv_aload_n hx hb dX10_readLine_113 rfl (lv_at hl4315 1 rfl) ?_
          refine x_V (As := []) (rest := []) C (a_X10_reads_e l K G H4566 (x4382) (x4383) (x4384) (x4385) (tp) bt hTH4566 ga0 gtq m4586 m4595 m4596 m4597 m4598 m4589 g4572 g4573 g4574 g4575 (by and_intros <;> first | assumption | omega) (hy1) f4579) yo_X10_reads wM_X10_242 ⟨⟨by decide, by decide⟩, by decide, by decide⟩ (x_rv C hTH4566 (ci := 10) rfl ga0 rg_112) rfl hl4315.1 rfl (Nat.le_of_ble_eq_true rfl) dX10_readLine_114 hSH4566 (AE_sub (fun _ _ => rfl) (by decide) hSH4566.1) (fun vH4604 H4604 locsH4604 pH4604 zH4604 kH4604 hSH4604 => ?_)
          obtain ⟨x4605, x4606, x4607, x4608, hvH4604, ex4605, ex4606, ex4607, ex4608, hrH4604, m4609, g4610, g4611, g4612, g4613, mf4614, m4615, m4616, m4617, hTH4604⟩ := pH4604
          subst hvH4604
          clear zH4604
          replace m4609 := EQN.mk m4609
          have b4618 : ∀ j : Nat, j < 3000 + mn.toNatClampNeg → fI H4604 oq j = fI s.heap oq j ∧ fI H4604 aq j = fI s.heap aq j := fun j hj => ⟨(fI_kept (x_lt hTH4566 kH4604 goq (by decide))).trans (b4569 j hj).1, (fI_kept (x_lt hTH4566 kH4604 gaq (by decide))).trans (b4569 j hj).2⟩
          have b4619 : WF (fun k => fI H4604 oq k) (fun k => fI H4604 aq k) (3000 + mn.toNatClampNeg) (3000 + mn.toNatClampNeg) 0 0 := WF.congr (fun j => fI_kept (x_lt hTH4566 kH4604 goq (by decide))) (fun j => fI_kept (x_lt hTH4566 kH4604 gaq (by decide))) b4570
          have b4620 : WF (fun k => fI H4604 oq k) (fun k => fI H4604 aq k) (3000 + mn.toNatClampNeg) (3000 + mn.toNatClampNeg) 0 0 := WF.congr (fun j => fI_kept (x_lt hTH4566 kH4604 goq (by decide))) (fun j => fI_kept (x_lt hTH4566 kH4604 gaq (by decide))) b4571
          have f4621 : ∀ j : Nat, j ≠ x1.toNatClampNeg → fI H4604 f9 j = fI s.heap f9 j := fun j hj => (fI_kept (x_lt hTH4566 kH4604 gf9 (by decide))).trans (f4576 j hj)
          have f4622 : ∀ j : Nat, j ≠ x1.toNatClampNeg → fI H4604 f0 j = fI s.heap f0 j := fun j hj => (fI_kept (x_lt hTH4566 kH4604 gf0 (by decide))).trans (f4577 j hj)
          have f4623 : ∀ j : Nat, j ≠ x1.toNatClampNeg → fI H4604 f1 j = fI s.heap f1 j := fun j hj => (fI_kept (x_lt hTH4566 kH4604 gf1 (by decide))).trans (f4578 j hj)
          have f4624 : ∀ j : Nat, bt j = (fI H4604 tq j).toInt := fun j => (f4579 j).trans (congrArg Int32.toInt (fI_kept (x_lt hTH4566 kH4604 gtq (by decide))).symm)
          have m4625 := (m4580).trans (fI_kept (x_lt hTH4566 kH4604 gq4316 (by decide))).symm
          have m4626 := (m4599).trans (fI_kept (x_lt hTH4566 kH4604 gf9 (by decide))).symm
          have m4627 := (m4600).trans (fI_kept (x_lt hTH4566 kH4604 gf0 (by decide))).symm
          have m4628 := (m4601).trans (fI_kept (x_lt hTH4566 kH4604 gf1 (by decide))).symm
          have m4629 := (m4581).trans (MF.r mf4614 (k := 32) (by decide) (by decide)).symm
          have m4630 := (m4582).trans (MF.r mf4614 (k := 33) (by decide) (by decide)).symm
          have m4631 := (m4583).trans (MF.r mf4614 (k := 29) (by decide) (by decide)).symm
          have m4632 := (m4584).trans (MF.r mf4614 (k := 30) (by decide) (by decide)).symm
          have m4633 := (m4585).trans (MF.r mf4614 (k := 31) (by decide) (by decide)).symm
          have m4634 := (m4586).trans (MF.r mf4614 (k := 17) (by decide) (by decide)).symm
          have m4635 := (m4587).trans (MF.i mf4614 (k := 35) (by decide) (by decide)).symm
          have m4636 := (m4588).trans (MF.i mf4614 (k := 36) (by decide) (by decide)).symm
          have m4637 := (m4589).trans (MF.i mf4614 (k := 18) (by decide) (by decide)).symm
          have m4638 := (m4590).trans (MF.i mf4614 (k := 34) (by decide) (by decide)).symm
          have m4639 := (m4591).trans (MF.r mf4614 (k := 25) (by decide) (by decide)).symm
          have m4640 := (m4592).trans (MF.r mf4614 (k := 26) (by decide) (by decide)).symm
          have m4641 := (m4593).trans (MF.r mf4614 (k := 27) (by decide) (by decide)).symm
          have m4642 := (m4594).trans (MF.r mf4614 (k := 28) (by decide) (by decide)).symm
          have mf4643 : MF K s.heap H4604 a0 [19, 20, 21, 22, 35, 36, 38, 39, 40] := MF.trans mf4568 mf4614 (by decide)
          have bx4605 := ty_fi (x := x4605) (k := 19) ex4605 hTH4604 ga0 rg_112 rfl
          have bx4606 := ty_fi (x := x4606) (k := 20) ex4606 hTH4604 ga0 rg_112 rfl
          have bx4607 := ty_fi (x := x4607) (k := 21) ex4607 hTH4604 ga0 rg_112 rfl
          have bx4608 := ty_fi (x := x4608) (k := 22) ex4608 hTH4604 ga0 rg_112 rfl
          have cn_x4606 := i_cl (x := x4606) (by omega)
          have cn_x4383 := i_cl (x := x4383) (by omega)
          have cu4644 : CU bt tp.toNatClampNeg (cj4419 + 1) x4606 x4605 x4607 x4608 := CU.next cu4420 m4615 m4616 m4617 (by omega)
          obtain ⟨r1H4604, r2H4604, r3H4604, r4H4604, r5H4604⟩ := hrH4604
          clear z3H4380 z4H4380
          refine W.eq (g2 := F0 m 117 ls4314 []) rfl ?_
          refine lv_iconst (v := 0) hx hb dX10_readLine_117 (by decide) ?_
          exact x_iret C hQ dX10_readLine_118 hSH4604 (by decide) (by decide) (⟨0, x4605, x4606, x4607, x4608, mn, on, rfl, by decide, ex4605, ex4606, ex4607, ex4608, m4635, m4636, Or.inr (by and_intros <;> first | assumption | omega), m4629, m4630, m4631, m4632, m4633, m4609, g4610, g4611, g4612, g4613, mf4643, b4618, f4621, f4622, f4623, Or.inr (LNW.mk (a := fun k => fI H4604 f9 k) (b := fun k => fI H4604 f0 k) (c := fun k => fI H4604 f1 k) m4626 m4627 m4628 (by omega) (by omega) (by omega) (by omega) (WF.cast b4619 (by omega) (by omega)) (WF.cast b4620 (by omega) (by omega))), Or.inr ⟨_, (ln_go (HD.get hb0) rfl rfl (hs_n2 (by omega) hx0 ho4421) (wn_0 kw_)).trans (if_pos k59_), by omega, cu4644⟩, Or.inr (by omega), hTH4604⟩)
        · have k4603 := i_eq c4602
          refine lv_aload_n hx hb dX10_readLine_107 rfl (lv_at hl4315 1 rfl) ?_
          refine lv_iconst (v := 1) hx hb dX10_readLine_108 (by decide) ?_
          refine x_V (As := [.int 1]) (rest := []) C (a_X10_fails l K G H4566 (1) hTH4566 ga0 g4572 g4573 g4574 g4575) yo_X10_fails wM_X10_235 ⟨⟨by decide, by decide⟩, by decide, by decide⟩ (x_rv C hTH4566 (ci := 10) rfl ga0 rg_112) rfl hl4315.1 rfl (Nat.le_of_ble_eq_true rfl) dX10_readLine_109 hSH4566 (AE_sub (fun _ _ => rfl) (by decide) hSH4566.1) (fun vH4645 H4645 locsH4645 pH4645 zH4645 kH4645 hSH4645 => ?_)
          obtain ⟨x4646, hvH4645, bx4646, g4647, g4648, g4649, g4650, mf4651, hTH4645⟩ := pH4645
          subst hvH4645
          clear zH4645
          have b4652 : ∀ j : Nat, j < 3000 + mn.toNatClampNeg → fI H4645 oq j = fI s.heap oq j ∧ fI H4645 aq j = fI s.heap aq j := fun j hj => ⟨(fI_kept (x_lt hTH4566 kH4645 goq (by decide))).trans (b4569 j hj).1, (fI_kept (x_lt hTH4566 kH4645 gaq (by decide))).trans (b4569 j hj).2⟩
          have b4653 : WF (fun k => fI H4645 oq k) (fun k => fI H4645 aq k) (3000 + mn.toNatClampNeg) (3000 + mn.toNatClampNeg) 0 0 := WF.congr (fun j => fI_kept (x_lt hTH4566 kH4645 goq (by decide))) (fun j => fI_kept (x_lt hTH4566 kH4645 gaq (by decide))) b4570
          have b4654 : WF (fun k => fI H4645 oq k) (fun k => fI H4645 aq k) (3000 + mn.toNatClampNeg) (3000 + mn.toNatClampNeg) 0 0 := WF.congr (fun j => fI_kept (x_lt hTH4566 kH4645 goq (by decide))) (fun j => fI_kept (x_lt hTH4566 kH4645 gaq (by decide))) b4571
          have f4655 : ∀ j : Nat, j ≠ x1.toNatClampNeg → fI H4645 f9 j = fI s.heap f9 j := fun j hj => (fI_kept (x_lt hTH4566 kH4645 gf9 (by decide))).trans (f4576 j hj)
          have f4656 : ∀ j : Nat, j ≠ x1.toNatClampNeg → fI H4645 f0 j = fI s.heap f0 j := fun j hj => (fI_kept (x_lt hTH4566 kH4645 gf0 (by decide))).trans (f4577 j hj)
          have f4657 : ∀ j : Nat, j ≠ x1.toNatClampNeg → fI H4645 f1 j = fI s.heap f1 j := fun j hj => (fI_kept (x_lt hTH4566 kH4645 gf1 (by decide))).trans (f4578 j hj)
          have f4658 : ∀ j : Nat, bt j = (fI H4645 tq j).toInt := fun j => (f4579 j).trans (congrArg Int32.toInt (fI_kept (x_lt hTH4566 kH4645 gtq (by decide))).symm)
          have m4659 := (m4580).trans (fI_kept (x_lt hTH4566 kH4645 gq4316 (by decide))).symm
          have m4660 := (m4599).trans (fI_kept (x_lt hTH4566 kH4645 gf9 (by decide))).symm
          have m4661 := (m4600).trans (fI_kept (x_lt hTH4566 kH4645 gf0 (by decide))).symm
          have m4662 := (m4601).trans (fI_kept (x_lt hTH4566 kH4645 gf1 (by decide))).symm
          have m4663 := (m4581).trans (MF.r mf4651 (k := 32) (by decide) (by decide)).symm
          have m4664 := (m4582).trans (MF.r mf4651 (k := 33) (by decide) (by decide)).symm
          have m4665 := (m4583).trans (MF.r mf4651 (k := 29) (by decide) (by decide)).symm
          have m4666 := (m4584).trans (MF.r mf4651 (k := 30) (by decide) (by decide)).symm
          have m4667 := (m4585).trans (MF.r mf4651 (k := 31) (by decide) (by decide)).symm
          have m4668 := (m4586).trans (MF.r mf4651 (k := 17) (by decide) (by decide)).symm
          have m4669 := (m4587).trans (MF.i mf4651 (k := 35) (by decide) (by decide)).symm
          have m4670 := (m4588).trans (MF.i mf4651 (k := 36) (by decide) (by decide)).symm
          have m4671 := (m4589).trans (MF.i mf4651 (k := 18) (by decide) (by decide)).symm
          have m4672 := (m4590).trans (MF.i mf4651 (k := 34) (by decide) (by decide)).symm
          have m4673 := (m4591).trans (MF.r mf4651 (k := 25) (by decide) (by decide)).symm
          have m4674 := (m4592).trans (MF.r mf4651 (k := 26) (by decide) (by decide)).symm
          have m4675 := (m4593).trans (MF.r mf4651 (k := 27) (by decide) (by decide)).symm
          have m4676 := (m4594).trans (MF.r mf4651 (k := 28) (by decide) (by decide)).symm
          have m4677 := (m4595).trans (MF.i mf4651 (k := 19) (by decide) (by decide)).symm
          have m4678 := (m4596).trans (MF.i mf4651 (k := 20) (by decide) (by decide)).symm
          have m4679 := (m4597).trans (MF.i mf4651 (k := 21) (by decide) (by decide)).symm
          have m4680 := (m4598).trans (MF.i mf4651 (k := 22) (by decide) (by decide)).symm
          have mf4681 : MF K s.heap H4645 a0 [19, 20, 21, 22, 35, 36, 38, 39, 40] := MF.trans mf4568 mf4651 (by decide)
          refine W.eq (g2 := F0 m 112 ls4314 [.int x4646]) rfl ?_
          have k59_ : kK bt tp.toNatClampNeg cj4419 ≠ 59 := fun e => by have z_ := (TV.sg (c := 59) cu4420.2.2.1 (by decide)).mpr e; omega
          exact x_iret C hQ dX10_readLine_112 hSH4645 (by decide) (by decide) (⟨x4646, x4382, x4383, x4384, x4385, mn, on, rfl, by omega, m4677, m4678, m4679, m4680, m4669, m4670, Or.inl (by omega), m4663, m4664, m4665, m4666, m4667, m4668, g4647, g4648, g4649, g4650, mf4681, b4652, f4655, f4656, f4657, Or.inl (by omega), Or.inl ⟨(ln_go (HD.get hb0) rfl rfl (hs_n2 (by omega) hx0 ho4421) (wn_0 kw_)).trans (if_neg k59_), by omega⟩, Or.inl (by omega), hTH4645⟩)
      · have k4528 := i_ne c4527
        replace hrH4493 := hrH4493.resolve_left (fun h => absurd h.1 (by omega))
        replace z3H4380 := z3H4380.resolve_left (by omega)
        have kw_ : kK bt tp.toNatClampNeg cj4419 = 7 := by have z1 := TV.wv cu4420.2.2.1 (by omega); omega
        refine lv_aload_n hx hb dX10_readLine_74 rfl (lv_at hl4315 1 rfl) ?_
        refine x_V (As := []) (rest := []) C (a_X10_reads_e l K G H4493 (x4382) (x4383) (x4384) (x4385) (tp) bt hTH4493 ga0 gtq m4512 m4521 m4522 m4523 m4524 m4515 g4498 g4499 g4500 g4501 (by and_intros <;> first | assumption | omega) (hy1) f4505) yo_X10_reads wM_X10_242 ⟨⟨by decide, by decide⟩, by decide, by decide⟩ (x_rv C hTH4493 (ci := 10) rfl ga0 rg_112) rfl hl4315.1 rfl (Nat.le_of_ble_eq_true rfl) dX10_readLine_75 hSH4493 (AE_sub (fun _ _ => rfl) (by decide) hSH4493.1) (fun vH4682 H4682 locsH4682 pH4682 zH4682 kH4682 hSH4682 => ?_)
        obtain ⟨x4683, x4684, x4685, x4686, hvH4682, ex4683, ex4684, ex4685, ex4686, hrH4682, m4687, g4688, g4689, g4690, g4691, mf4692, m4693, m4694, m4695, hTH4682⟩ := pH4682
        subst hvH4682
        clear zH4682
        replace m4687 := EQN.mk m4687
        have b4696 : ∀ j : Nat, j < 3000 + mn.toNatClampNeg → fI H4682 oq j = fI s.heap oq j ∧ fI H4682 aq j = fI s.heap aq j := fun j hj => ⟨(fI_kept (x_lt hTH4493 kH4682 goq (by decide))).trans (b4496 j hj).1, (fI_kept (x_lt hTH4493 kH4682 gaq (by decide))).trans (b4496 j hj).2⟩
        have b4697 : WF (fun k => fI H4682 oq k) (fun k => fI H4682 aq k) (3000 + mn.toNatClampNeg) (3000 + mn.toNatClampNeg) 0 0 := WF.congr (fun j => fI_kept (x_lt hTH4493 kH4682 goq (by decide))) (fun j => fI_kept (x_lt hTH4493 kH4682 gaq (by decide))) b4497
        have f4698 : ∀ j : Nat, j ≠ x1.toNatClampNeg → fI H4682 f9 j = fI s.heap f9 j := fun j hj => (fI_kept (x_lt hTH4493 kH4682 gf9 (by decide))).trans (f4502 j hj)
        have f4699 : ∀ j : Nat, j ≠ x1.toNatClampNeg → fI H4682 f0 j = fI s.heap f0 j := fun j hj => (fI_kept (x_lt hTH4493 kH4682 gf0 (by decide))).trans (f4503 j hj)
        have f4700 : ∀ j : Nat, j ≠ x1.toNatClampNeg → fI H4682 f1 j = fI s.heap f1 j := fun j hj => (fI_kept (x_lt hTH4493 kH4682 gf1 (by decide))).trans (f4504 j hj)
        have f4701 : ∀ j : Nat, bt j = (fI H4682 tq j).toInt := fun j => (f4505 j).trans (congrArg Int32.toInt (fI_kept (x_lt hTH4493 kH4682 gtq (by decide))).symm)
        have m4702 := (m4506).trans (fI_kept (x_lt hTH4493 kH4682 gq4316 (by decide))).symm
        have m4703 := (m4525).trans (fI_kept (x_lt hTH4493 kH4682 gf9 (by decide))).symm
        have m4704 := (m4526).trans (fI_kept (x_lt hTH4493 kH4682 gf0 (by decide))).symm
        have m4705 := (m4507).trans (MF.r mf4692 (k := 32) (by decide) (by decide)).symm
        have m4706 := (m4508).trans (MF.r mf4692 (k := 33) (by decide) (by decide)).symm
        have m4707 := (m4509).trans (MF.r mf4692 (k := 29) (by decide) (by decide)).symm
        have m4708 := (m4510).trans (MF.r mf4692 (k := 30) (by decide) (by decide)).symm
        have m4709 := (m4511).trans (MF.r mf4692 (k := 31) (by decide) (by decide)).symm
        have m4710 := (m4512).trans (MF.r mf4692 (k := 17) (by decide) (by decide)).symm
        have m4711 := (m4513).trans (MF.i mf4692 (k := 35) (by decide) (by decide)).symm
        have m4712 := (m4514).trans (MF.i mf4692 (k := 36) (by decide) (by decide)).symm
        have m4713 := (m4515).trans (MF.i mf4692 (k := 18) (by decide) (by decide)).symm
        have m4714 := (m4516).trans (MF.i mf4692 (k := 34) (by decide) (by decide)).symm
        have m4715 := (m4517).trans (MF.r mf4692 (k := 25) (by decide) (by decide)).symm
        have m4716 := (m4518).trans (MF.r mf4692 (k := 26) (by decide) (by decide)).symm
        have m4717 := (m4519).trans (MF.r mf4692 (k := 27) (by decide) (by decide)).symm
        have m4718 := (m4520).trans (MF.r mf4692 (k := 28) (by decide) (by decide)).symm
        have mf4719 : MF K s.heap H4682 a0 [19, 20, 21, 22, 35, 36, 38, 39, 40] := MF.trans mf4495 mf4692 (by decide)
        have bx4683 := ty_fi (x := x4683) (k := 19) ex4683 hTH4682 ga0 rg_112 rfl
        have bx4684 := ty_fi (x := x4684) (k := 20) ex4684 hTH4682 ga0 rg_112 rfl
        have bx4685 := ty_fi (x := x4685) (k := 21) ex4685 hTH4682 ga0 rg_112 rfl
        have bx4686 := ty_fi (x := x4686) (k := 22) ex4686 hTH4682 ga0 rg_112 rfl
        have cn_x4684 := i_cl (x := x4684) (by omega)
        have cn_x4383 := i_cl (x := x4383) (by omega)
        have cu4720 : CU bt tp.toNatClampNeg (cj4419 + 1) x4684 x4683 x4685 x4686 := CU.next cu4420 m4693 m4694 m4695 (by omega)
        obtain ⟨r1H4682, r2H4682, r3H4682, r4H4682, r5H4682⟩ := hrH4682
        clear z3H4380 z4H4380
        refine W.eq (g2 := F0 m 78 ls4314 []) rfl ?_
        refine lv_aload_n hx hb dX10_readLine_78 rfl (lv_at hl4315 1 rfl) ?_
        obtain ⟨q4721, eq4721⟩ : ∃ z : Nat, EQN z (fR H4682 a0 (K.1.2 10 37)) := ⟨_, rfl⟩
        have gq4721 := ty_fr (q := q4721) (k := 37) (u := 138) eq4721 hTH4682 ga0 rg_112 rfl
        replace eq4721 := EQN.mk eq4721
        obtain ⟨x4722, ex4722⟩ : ∃ z : Int32, z = fI H4682 a0 (K.1.2 10 38) := ⟨_, rfl⟩
        have bx4722 := ty_fi (x := x4722) (k := 38) ex4722 hTH4682 ga0 rg_112 rfl
        refine x_V (As := []) (rest := []) C (a_X10_readAny_e l K G H4682 (x4683) (x4684) (x4685) (x4686) (mn) (on) (x4722) (tp) (jb) ((cj4419 + 1)) bt hTH4682 ga0 goq m4705 gaq m4706 gq4721 eq4721 gtq m4687 ex4683 ex4684 ex4685 ex4686 m4711 m4712 ex4722 m4713 m4714 g4688 g4689 g4690 g4691 (by and_intros <;> first | assumption | omega) (by and_intros <;> first | assumption | omega) (by and_intros <;> first | assumption | omega) (cu4720) (hy1) f4701) yo_X10_readAny wM_X10_282 ⟨⟨by decide, by decide⟩, by decide, by decide⟩ (x_rv C hTH4682 (ci := 10) rfl ga0 rg_112) rfl hl4315.1 rfl (Nat.le_of_ble_eq_true rfl) dX10_readLine_79 hSH4682 (AE_sub (fun _ _ => rfl) (by decide) hSH4682.1) (fun vH4723 H4723 locsH4723 pH4723 zH4723 kH4723 hSH4723 => ?_)
        obtain ⟨x4724, x4725, x4726, x4727, x4728, x4729, x4730, x4731, hvH4723, bx4724, ex4725, ex4726, ex4727, ex4728, ex4729, ex4730, ex4731, hrH4723, m4732, m4733, m4734, m4735, g4736, g4737, g4738, g4739, mf4740, m4741, m4742, m4743, m4744, hTH4723⟩ := pH4723
        subst hvH4723
        clear zH4723
        replace m4732 := EQN.mk m4732
        replace m4733 := EQN.mk m4733
        replace m4734 := EQN.mk m4734
        replace m4735 := EQN.mk m4735
        have f4745 : ∀ j : Nat, j ≠ x1.toNatClampNeg → fI H4723 f9 j = fI s.heap f9 j := fun j hj => (fI_kept (x_lt hTH4682 kH4723 gf9 (by decide))).trans (f4698 j hj)
        have f4746 : ∀ j : Nat, j ≠ x1.toNatClampNeg → fI H4723 f0 j = fI s.heap f0 j := fun j hj => (fI_kept (x_lt hTH4682 kH4723 gf0 (by decide))).trans (f4699 j hj)
        have f4747 : ∀ j : Nat, j ≠ x1.toNatClampNeg → fI H4723 f1 j = fI s.heap f1 j := fun j hj => (fI_kept (x_lt hTH4682 kH4723 gf1 (by decide))).trans (f4700 j hj)
        have f4748 : ∀ j : Nat, bt j = (fI H4723 tq j).toInt := fun j => (f4701 j).trans (congrArg Int32.toInt (fI_kept (x_lt hTH4682 kH4723 gtq (by decide))).symm)
        have m4749 := (m4702).trans (fI_kept (x_lt hTH4682 kH4723 gq4316 (by decide))).symm
        have m4750 := (m4703).trans (fI_kept (x_lt hTH4682 kH4723 gf9 (by decide))).symm
        have m4751 := (m4704).trans (fI_kept (x_lt hTH4682 kH4723 gf0 (by decide))).symm
        have m4752 := (m4705).trans (MF.r mf4740 (k := 32) (by decide) (by decide)).symm
        have m4753 := (m4706).trans (MF.r mf4740 (k := 33) (by decide) (by decide)).symm
        have m4754 := (m4707).trans (MF.r mf4740 (k := 29) (by decide) (by decide)).symm
        have m4755 := (m4708).trans (MF.r mf4740 (k := 30) (by decide) (by decide)).symm
        have m4756 := (m4709).trans (MF.r mf4740 (k := 31) (by decide) (by decide)).symm
        have m4757 := (m4687).trans (MF.r mf4740 (k := 17) (by decide) (by decide)).symm
        have m4758 := (m4713).trans (MF.i mf4740 (k := 18) (by decide) (by decide)).symm
        have m4759 := (m4714).trans (MF.i mf4740 (k := 34) (by decide) (by decide)).symm
        have m4760 := (m4715).trans (MF.r mf4740 (k := 25) (by decide) (by decide)).symm
        have m4761 := (m4716).trans (MF.r mf4740 (k := 26) (by decide) (by decide)).symm
        have m4762 := (m4717).trans (MF.r mf4740 (k := 27) (by decide) (by decide)).symm
        have m4763 := (m4718).trans (MF.r mf4740 (k := 28) (by decide) (by decide)).symm
        have m4764 := (eq4721).trans (MF.r mf4740 (k := 37) (by decide) (by decide)).symm
        have mf4765 : MF K s.heap H4723 a0 [19, 20, 21, 22, 35, 36, 38, 39, 40] := MF.trans mf4719 mf4740 (by decide)
        have bx4725 := ty_fi (x := x4725) (k := 19) ex4725 hTH4723 ga0 rg_112 rfl
        have bx4726 := ty_fi (x := x4726) (k := 20) ex4726 hTH4723 ga0 rg_112 rfl
        have bx4727 := ty_fi (x := x4727) (k := 21) ex4727 hTH4723 ga0 rg_112 rfl
        have bx4728 := ty_fi (x := x4728) (k := 22) ex4728 hTH4723 ga0 rg_112 rfl
        have bx4729 := ty_fi (x := x4729) (k := 35) ex4729 hTH4723 ga0 rg_112 rfl
        have bx4730 := ty_fi (x := x4730) (k := 36) ex4730 hTH4723 ga0 rg_112 rfl
        have bx4731 := ty_fi (x := x4731) (k := 38) ex4731 hTH4723 ga0 rg_112 rfl
        have b4766 : ∀ j : Nat, j < 3000 + mn.toNatClampNeg → fI H4723 oq j = fI s.heap oq j ∧ fI H4723 aq j = fI s.heap aq j := fun j hj => ⟨(m4741 j (by omega)).1.trans (b4696 j hj).1, (m4741 j (by omega)).2.trans (b4696 j hj).2⟩
        have b4767 : WF (fun k => fI H4723 oq k) (fun k => fI H4723 aq k) (3000 + mn.toNatClampNeg) (3000 + mn.toNatClampNeg) 0 0 := WF.keep b4697 (fun j hj => (m4741 j (by omega)).1) (fun j hj => (m4741 j (by omega)).2)
        refine W.eq (g2 := F0 m 82 ls4314 [.int x4724]) rfl ?_
        refine lv_iconst (v := (-1)) hx hb dX10_readLine_82 (by decide) ?_
        refine lv_icmp_ne (tgt := 88) hx hb dX10_readLine_83 (by decide) (fun c4768 => ?_) (fun c4768 => ?_)
        · have k4769 := i_ne c4768
          replace hrH4723 := hrH4723.resolve_left (by omega)
          obtain ⟨rzH4723, ⟨z1H4723, z2H4723, z3H4723, z4H4723⟩, y1H4723, y2H4723, y3H4723⟩ := hrH4723
          clear r4H4682 r5H4682
          obtain ⟨EA, wa0⟩ : ∃ E, WF (fun k => fI H4723 oq k) (fun k => fI H4723 aq k) (3000 + mn.toNatClampNeg) (3000 + x4729.toNatClampNeg) 0 E := by
            rcases m4742 with h | h
            · exfalso; omega
            · exact h
          obtain ⟨cj4770, ho4772, cu4771⟩ := RC.yes m4743 (by omega)
          refine lv_aload_n hx hb dX10_readLine_88 rfl (lv_at hl4315 1 rfl) ?_
          refine x_gr C hTH4723 (ci := 10) (k := 31) rfl inX10 (by decide) wF_X10_80 ga0 rg_112 rfl dX10_readLine_89 (fun q4773 eq4773 gq4773 => ?_)
          have uq4773 : f1 = q4773 := (m4756).trans eq4773.symm
          subst uq4773
          clear eq4773
          refine lv_iload_n hx hb dX10_readLine_92 rfl (lv_at hl4315 2 rfl) ?_
          refine lv_aload_n hx hb dX10_readLine_93 rfl (lv_at hl4315 1 rfl) ?_
          refine x_gi C hTH4723 (ci := 10) (k := 35) rfl inX10 (by decide) wF_X10_228 ga0 rg_112 rfl dX10_readLine_94 (fun x4774 ex4774 bx4774 => ?_)
          have ux4774 : x4729 = x4774 := (ex4729).trans ex4774.symm
          subst ux4774
          refine x_iast C hTH4723 hSH4723 gf1 rg_135 (by omega) (by show _ < ((112 : Nat) : Int); omega) ⟨by have := i_rng x4729; omega, by have := i_rng x4729; omega⟩ (AE_in gf1 (by decide)) dX10_readLine_97 (fun H4775 locsH4775 hTH4775 hSH4775 wH4775 => ?_)
          have mf4776 : MF K s.heap H4775 a0 [19, 20, 21, 22, 35, 36, 38, 39, 40] := MF.arr wH4775 (G_ne ga0 gf1 (by decide)) mf4765
          have g4777 : CG (avw K H4775 a0) := CG.putL hTH4723 ga0 wH4775 gf1 (by decide) (by omega) g4736
          have g4778 : TU (avw K H4775 a0) (svw K H4775 a0) := TU.congr (fun k hk j => av_arr hTH4723 ga0 wH4775 gf1 (by decide) (TU_ok 135 (by decide) k hk)) (fun k hk => sv_arr ga0 wH4775 gf1 (by decide)) g4737
          have g4779 : WD (avw K H4775 a0) := WD.congr (fun k hk j => av_arr hTH4723 ga0 wH4775 gf1 (by decide) (WD_ok 135 (by decide) k hk)) g4738
          have g4780 : IM (avw K H4775 a0) := IM.congr (fun k hk j => av_arr hTH4723 ga0 wH4775 gf1 (by decide) (IM_ok 135 (by decide) k hk)) g4739
          have b4781 : ∀ j : Nat, j < 3000 + mn.toNatClampNeg → fI H4775 oq j = fI s.heap oq j ∧ fI H4775 aq j = fI s.heap aq j := fun j hj => ⟨(Wr.neI wH4775 (Or.inl (G_ne goq gf1 (by decide)))).trans (b4766 j hj).1, (Wr.neI wH4775 (Or.inl (G_ne gaq gf1 (by decide)))).trans (b4766 j hj).2⟩
          have b4782 : WF (fun k => fI H4775 oq k) (fun k => fI H4775 aq k) (3000 + mn.toNatClampNeg) (3000 + mn.toNatClampNeg) 0 0 := WF.congr (fun j => Wr.neI wH4775 (Or.inl (G_ne goq gf1 (by decide)))) (fun j => Wr.neI wH4775 (Or.inl (G_ne gaq gf1 (by decide)))) b4767
          have b4783 : WF (fun k => fI H4775 oq k) (fun k => fI H4775 aq k) (3000 + mn.toNatClampNeg) (3000 + x4729.toNatClampNeg) 0 EA := WF.congr (fun j => Wr.neI wH4775 (Or.inl (G_ne goq gf1 (by decide)))) (fun j => Wr.neI wH4775 (Or.inl (G_ne gaq gf1 (by decide)))) wa0
          have f4784 : ∀ j : Nat, j ≠ x1.toNatClampNeg → fI H4775 f9 j = fI s.heap f9 j := fun j hj => (Wr.neI wH4775 (Or.inl (G_ne gf9 gf1 (by decide)))).trans (f4745 j hj)
          have f4785 : ∀ j : Nat, j ≠ x1.toNatClampNeg → fI H4775 f0 j = fI s.heap f0 j := fun j hj => (Wr.neI wH4775 (Or.inl (G_ne gf0 gf1 (by decide)))).trans (f4746 j hj)
          have f4786 : ∀ j : Nat, j ≠ x1.toNatClampNeg → fI H4775 f1 j = fI s.heap f1 j := fun j hj => (Wr.neI wH4775 (Or.inr hj)).trans (f4747 j hj)
          have f4787 : ∀ j : Nat, bt j = (fI H4775 tq j).toInt := fun j => (f4748 j).trans (congrArg Int32.toInt (Wr.neI wH4775 (Or.inl (G_ne gtq gf1 (by decide)))).symm)
          have m4788 := m4749.trans (Wr.neI wH4775 (Or.inl (G_ne gq4316 gf1 (by decide)))).symm
          have m4789 := m4750.trans (Wr.neI wH4775 (Or.inl (G_ne gf9 gf1 (by decide)))).symm
          have m4790 := m4751.trans (Wr.neI wH4775 (Or.inl (G_ne gf0 gf1 (by decide)))).symm
          have m4791 := m4732.trans (Wr.neR wH4775 (Or.inl (G_ne ga0 gf1 (by decide)))).symm
          have m4792 := m4733.trans (Wr.neR wH4775 (Or.inl (G_ne ga0 gf1 (by decide)))).symm
          have m4793 := m4754.trans (Wr.neR wH4775 (Or.inl (G_ne ga0 gf1 (by decide)))).symm
          have m4794 := m4755.trans (Wr.neR wH4775 (Or.inl (G_ne ga0 gf1 (by decide)))).symm
          have m4795 := m4756.trans (Wr.neR wH4775 (Or.inl (G_ne ga0 gf1 (by decide)))).symm
          have m4796 := m4735.trans (Wr.neR wH4775 (Or.inl (G_ne ga0 gf1 (by decide)))).symm
          have m4797 := m4758.trans (Wr.neI wH4775 (Or.inl (G_ne ga0 gf1 (by decide)))).symm
          have m4798 := m4759.trans (Wr.neI wH4775 (Or.inl (G_ne ga0 gf1 (by decide)))).symm
          have m4799 := m4760.trans (Wr.neR wH4775 (Or.inl (G_ne ga0 gf1 (by decide)))).symm
          have m4800 := m4761.trans (Wr.neR wH4775 (Or.inl (G_ne ga0 gf1 (by decide)))).symm
          have m4801 := m4762.trans (Wr.neR wH4775 (Or.inl (G_ne ga0 gf1 (by decide)))).symm
          have m4802 := m4763.trans (Wr.neR wH4775 (Or.inl (G_ne ga0 gf1 (by decide)))).symm
          have m4803 := m4734.trans (Wr.neR wH4775 (Or.inl (G_ne ga0 gf1 (by decide)))).symm
          have m4804 := ex4725.trans (Wr.neI wH4775 (Or.inl (G_ne ga0 gf1 (by decide)))).symm
          have m4805 := ex4726.trans (Wr.neI wH4775 (Or.inl (G_ne ga0 gf1 (by decide)))).symm
          have m4806 := ex4727.trans (Wr.neI wH4775 (Or.inl (G_ne ga0 gf1 (by decide)))).symm
          have m4807 := ex4728.trans (Wr.neI wH4775 (Or.inl (G_ne ga0 gf1 (by decide)))).symm
          have m4808 := ex4729.trans (Wr.neI wH4775 (Or.inl (G_ne ga0 gf1 (by decide)))).symm
          have m4809 := ex4730.trans (Wr.neI wH4775 (Or.inl (G_ne ga0 gf1 (by decide)))).symm
          have m4810 := ex4731.trans (Wr.neI wH4775 (Or.inl (G_ne ga0 gf1 (by decide)))).symm
          have m4811 := Wr.I wH4775
          have m4811 := m4811.symm
          refine lv_aload_n hx hb dX10_readLine_98 rfl (lv_at hl4315 1 rfl) ?_
          refine lv_bipush (v := 59) hx hb dX10_readLine_99 (by decide) ?_
          refine x_V (As := [.int 59]) (rest := []) C (a_X10_isSign_e l K G H4775 (59) (x4727) (x4728) hTH4775 ga0 m4806 m4807) yo_X10_isSign wM_X10_249 ⟨⟨by decide, by decide⟩, by decide, by decide⟩ (x_rv C hTH4775 (ci := 10) rfl ga0 rg_112) rfl hl4315.1 rfl (Nat.le_of_ble_eq_true rfl) dX10_readLine_101 hSH4775 (AE_sub (fun _ _ => rfl) (by decide) hSH4775.1) (fun vH4812 H4812 locsH4812 pH4812 zH4812 kH4812 hSH4812 => ?_)
          obtain ⟨x4813, hvH4812, bx4813, hrH4812, hTH4812⟩ := pH4812
          subst hvH4812
          clear zH4812
          have mf4814 : MF K s.heap H4812 a0 [19, 20, 21, 22, 35, 36, 38, 39, 40] := MF.eff (x_lt hTH4775 kH4812 ga0 (by decide)) mf4776
          have b4815 : ∀ j : Nat, j < 3000 + mn.toNatClampNeg → fI H4812 oq j = fI s.heap oq j ∧ fI H4812 aq j = fI s.heap aq j := fun j hj => ⟨(fI_kept (x_lt hTH4775 kH4812 goq (by decide))).trans (b4781 j hj).1, (fI_kept (x_lt hTH4775 kH4812 gaq (by decide))).trans (b4781 j hj).2⟩
          have b4816 : WF (fun k => fI H4812 oq k) (fun k => fI H4812 aq k) (3000 + mn.toNatClampNeg) (3000 + mn.toNatClampNeg) 0 0 := WF.congr (fun j => fI_kept (x_lt hTH4775 kH4812 goq (by decide))) (fun j => fI_kept (x_lt hTH4775 kH4812 gaq (by decide))) b4782
          have b4817 : WF (fun k => fI H4812 oq k) (fun k => fI H4812 aq k) (3000 + mn.toNatClampNeg) (3000 + x4729.toNatClampNeg) 0 EA := WF.congr (fun j => fI_kept (x_lt hTH4775 kH4812 goq (by decide))) (fun j => fI_kept (x_lt hTH4775 kH4812 gaq (by decide))) b4783
          have g4818 : CG (avw K H4812 a0) := CG.congr (fun k hk j => av_eff hTH4775 kH4812 ga0 (by decide) (CG_eff [] (by decide) k hk)) g4777
          have g4819 : TU (avw K H4812 a0) (svw K H4812 a0) := TU.congr (fun k hk j => av_eff hTH4775 kH4812 ga0 (by decide) (TU_eff [] (by decide) k hk)) (fun k hk => sv_eff hTH4775 kH4812 ga0 (by decide)) g4778
          have g4820 : WD (avw K H4812 a0) := WD.congr (fun k hk j => av_eff hTH4775 kH4812 ga0 (by decide) (WD_eff [] (by decide) k hk)) g4779
          have g4821 : IM (avw K H4812 a0) := IM.congr (fun k hk j => av_eff hTH4775 kH4812 ga0 (by decide) (IM_eff [] (by decide) k hk)) g4780
          have f4822 : ∀ j : Nat, j ≠ x1.toNatClampNeg → fI H4812 f9 j = fI s.heap f9 j := fun j hj => (fI_kept (x_lt hTH4775 kH4812 gf9 (by decide))).trans (f4784 j hj)
          have f4823 : ∀ j : Nat, j ≠ x1.toNatClampNeg → fI H4812 f0 j = fI s.heap f0 j := fun j hj => (fI_kept (x_lt hTH4775 kH4812 gf0 (by decide))).trans (f4785 j hj)
          have f4824 : ∀ j : Nat, j ≠ x1.toNatClampNeg → fI H4812 f1 j = fI s.heap f1 j := fun j hj => (fI_kept (x_lt hTH4775 kH4812 gf1 (by decide))).trans (f4786 j hj)
          have f4825 : ∀ j : Nat, bt j = (fI H4812 tq j).toInt := fun j => (f4787 j).trans (congrArg Int32.toInt (fI_kept (x_lt hTH4775 kH4812 gtq (by decide))).symm)
          have m4826 := (m4788).trans (fI_kept (x_lt hTH4775 kH4812 gq4316 (by decide))).symm
          have m4827 := (m4789).trans (fI_kept (x_lt hTH4775 kH4812 gf9 (by decide))).symm
          have m4828 := (m4790).trans (fI_kept (x_lt hTH4775 kH4812 gf0 (by decide))).symm
          have m4829 := (m4791).trans (fR_kept (x_lt hTH4775 kH4812 ga0 (by decide))).symm
          have m4830 := (m4792).trans (fR_kept (x_lt hTH4775 kH4812 ga0 (by decide))).symm
          have m4831 := (m4793).trans (fR_kept (x_lt hTH4775 kH4812 ga0 (by decide))).symm
          have m4832 := (m4794).trans (fR_kept (x_lt hTH4775 kH4812 ga0 (by decide))).symm
          have m4833 := (m4795).trans (fR_kept (x_lt hTH4775 kH4812 ga0 (by decide))).symm
          have m4834 := (m4796).trans (fR_kept (x_lt hTH4775 kH4812 ga0 (by decide))).symm
          have m4835 := (m4797).trans (fI_kept (x_lt hTH4775 kH4812 ga0 (by decide))).symm
          have m4836 := (m4798).trans (fI_kept (x_lt hTH4775 kH4812 ga0 (by decide))).symm
          have m4837 := (m4799).trans (fR_kept (x_lt hTH4775 kH4812 ga0 (by decide))).symm
          have m4838 := (m4800).trans (fR_kept (x_lt hTH4775 kH4812 ga0 (by decide))).symm
          have m4839 := (m4801).trans (fR_kept (x_lt hTH4775 kH4812 ga0 (by decide))).symm
          have m4840 := (m4802).trans (fR_kept (x_lt hTH4775 kH4812 ga0 (by decide))).symm
          have m4841 := (m4803).trans (fR_kept (x_lt hTH4775 kH4812 ga0 (by decide))).symm
          have m4842 := (m4804).trans (fI_kept (x_lt hTH4775 kH4812 ga0 (by decide))).symm
          have m4843 := (m4805).trans (fI_kept (x_lt hTH4775 kH4812 ga0 (by decide))).symm
          have m4844 := (m4806).trans (fI_kept (x_lt hTH4775 kH4812 ga0 (by decide))).symm
          have m4845 := (m4807).trans (fI_kept (x_lt hTH4775 kH4812 ga0 (by decide))).symm
          have m4846 := (m4808).trans (fI_kept (x_lt hTH4775 kH4812 ga0 (by decide))).symm
          have m4847 := (m4809).trans (fI_kept (x_lt hTH4775 kH4812 ga0 (by decide))).symm
          have m4848 := (m4810).trans (fI_kept (x_lt hTH4775 kH4812 ga0 (by decide))).symm
          have m4849 := (m4811).trans (fI_kept (x_lt hTH4775 kH4812 gf1 (by decide))).symm
          refine W.eq (g2 := F0 m 104 ls4314 [.int x4813]) rfl ?_
          refine lv_if_ne (tgt := 113) hx hb dX10_readLine_104 (by decide) (fun c4850 => ?_) (fun c4850 => ?_)
          · have k4851 := i_ne c4850
            have k59_ : kK bt tp.toNatClampNeg cj4770 = 59 := (TV.sg (c := 59) cu4771.2.2.1 (by decide)).mp ⟨by omega, by omega⟩
            replace hrH4812 := hrH4812.resolve_left (fun h => absurd h.1 (by omega))
            replace z3H4723 := z3H4723.resolve_left (by omega)
            refine lv_aload_n hx hb dX10_readLine_113 rfl (lv_at hl4315 1 rfl) ?_
            refine x_V (As := []) (rest := []) C (a_X10_reads_e l K G H4812 (x4725) (x4726) (x4727) (x4728) (tp) bt hTH4812 ga0 gtq m4834 m4842 m4843 m4844 m4845 m4835 g4818 g4819 g4820 g4821 (by and_intros <;> first | assumption | omega) (hy1) f4825) yo_X10_reads wM_X10_242 ⟨⟨by decide, by decide⟩, by decide, by decide⟩ (x_rv C hTH4812 (ci := 10) rfl ga0 rg_112) rfl hl4315.1 rfl (Nat.le_of_ble_eq_true rfl) dX10_readLine_114 hSH4812 (AE_sub (fun _ _ => rfl) (by decide) hSH4812.1) (fun vH4852 H4852 locsH4852 pH4852 zH4852 kH4852 hSH4852 => ?_)
            obtain ⟨x4853, x4854, x4855, x4856, hvH4852, ex4853, ex4854, ex4855, ex4856, hrH4852, m4857, g4858, g4859, g4860, g4861, mf4862, m4863, m4864, m4865, hTH4852⟩ := pH4852
            subst hvH4852
            clear zH4852
            replace m4857 := EQN.mk m4857
            have b4866 : ∀ j : Nat, j < 3000 + mn.toNatClampNeg → fI H4852 oq j = fI s.heap oq j ∧ fI H4852 aq j = fI s.heap aq j := fun j hj => ⟨(fI_kept (x_lt hTH4812 kH4852 goq (by decide))).trans (b4815 j hj).1, (fI_kept (x_lt hTH4812 kH4852 gaq (by decide))).trans (b4815 j hj).2⟩
            have b4867 : WF (fun k => fI H4852 oq k) (fun k => fI H4852 aq k) (3000 + mn.toNatClampNeg) (3000 + mn.toNatClampNeg) 0 0 := WF.congr (fun j => fI_kept (x_lt hTH4812 kH4852 goq (by decide))) (fun j => fI_kept (x_lt hTH4812 kH4852 gaq (by decide))) b4816
            have b4868 : WF (fun k => fI H4852 oq k) (fun k => fI H4852 aq k) (3000 + mn.toNatClampNeg) (3000 + x4729.toNatClampNeg) 0 EA := WF.congr (fun j => fI_kept (x_lt hTH4812 kH4852 goq (by decide))) (fun j => fI_kept (x_lt hTH4812 kH4852 gaq (by decide))) b4817
            have f4869 : ∀ j : Nat, j ≠ x1.toNatClampNeg → fI H4852 f9 j = fI s.heap f9 j := fun j hj => (fI_kept (x_lt hTH4812 kH4852 gf9 (by decide))).trans (f4822 j hj)
            have f4870 : ∀ j : Nat, j ≠ x1.toNatClampNeg → fI H4852 f0 j = fI s.heap f0 j := fun j hj => (fI_kept (x_lt hTH4812 kH4852 gf0 (by decide))).trans (f4823 j hj)
            have f4871 : ∀ j : Nat, j ≠ x1.toNatClampNeg → fI H4852 f1 j = fI s.heap f1 j := fun j hj => (fI_kept (x_lt hTH4812 kH4852 gf1 (by decide))).trans (f4824 j hj)
            have f4872 : ∀ j : Nat, bt j = (fI H4852 tq j).toInt := fun j => (f4825 j).trans (congrArg Int32.toInt (fI_kept (x_lt hTH4812 kH4852 gtq (by decide))).symm)
            have m4873 := (m4826).trans (fI_kept (x_lt hTH4812 kH4852 gq4316 (by decide))).symm
            have m4874 := (m4827).trans (fI_kept (x_lt hTH4812 kH4852 gf9 (by decide))).symm
            have m4875 := (m4828).trans (fI_kept (x_lt hTH4812 kH4852 gf0 (by decide))).symm
            have m4876 := (m4849).trans (fI_kept (x_lt hTH4812 kH4852 gf1 (by decide))).symm
            have m4877 := (m4829).trans (MF.r mf4862 (k := 32) (by decide) (by decide)).symm
            have m4878 := (m4830).trans (MF.r mf4862 (k := 33) (by decide) (by decide)).symm
            have m4879 := (m4831).trans (MF.r mf4862 (k := 29) (by decide) (by decide)).symm
            have m4880 := (m4832).trans (MF.r mf4862 (k := 30) (by decide) (by decide)).symm
            have m4881 := (m4833).trans (MF.r mf4862 (k := 31) (by decide) (by decide)).symm
            have m4882 := (m4834).trans (MF.r mf4862 (k := 17) (by decide) (by decide)).symm
            have m4883 := (m4835).trans (MF.i mf4862 (k := 18) (by decide) (by decide)).symm
            have m4884 := (m4836).trans (MF.i mf4862 (k := 34) (by decide) (by decide)).symm
            have m4885 := (m4837).trans (MF.r mf4862 (k := 25) (by decide) (by decide)).symm
            have m4886 := (m4838).trans (MF.r mf4862 (k := 26) (by decide) (by decide)).symm
            have m4887 := (m4839).trans (MF.r mf4862 (k := 27) (by decide) (by decide)).symm
            have m4888 := (m4840).trans (MF.r mf4862 (k := 28) (by decide) (by decide)).symm
            have m4889 := (m4841).trans (MF.r mf4862 (k := 37) (by decide) (by decide)).symm
            have m4890 := (m4846).trans (MF.i mf4862 (k := 35) (by decide) (by decide)).symm
            have m4891 := (m4847).trans (MF.i mf4862 (k := 36) (by decide) (by decide)).symm
            have m4892 := (m4848).trans (MF.i mf4862 (k := 38) (by decide) (by decide)).symm
            have mf4893 : MF K s.heap H4852 a0 [19, 20, 21, 22, 35, 36, 38, 39, 40] := MF.trans mf4814 mf4862 (by decide)
            have bx4853 := ty_fi (x := x4853) (k := 19) ex4853 hTH4852 ga0 rg_112 rfl
            have bx4854 := ty_fi (x := x4854) (k := 20) ex4854 hTH4852 ga0 rg_112 rfl
            have bx4855 := ty_fi (x := x4855) (k := 21) ex4855 hTH4852 ga0 rg_112 rfl
            have bx4856 := ty_fi (x := x4856) (k := 22) ex4856 hTH4852 ga0 rg_112 rfl
            have cn_x4854 := i_cl (x := x4854) (by omega)
            have cn_x4726 := i_cl (x := x4726) (by omega)
            have cu4894 : CU bt tp.toNatClampNeg (cj4770 + 1) x4854 x4853 x4855 x4856 := CU.next cu4771 m4863 m4864 m4865 (by omega)
            obtain ⟨r1H4852, r2H4852, r3H4852, r4H4852, r5H4852⟩ := hrH4852
            clear z3H4723 z4H4723
            refine W.eq (g2 := F0 m 117 ls4314 []) rfl ?_
            refine lv_iconst (v := 0) hx hb dX10_readLine_117 (by decide) ?_
            have cx_x4729 := i_cl (x := x4729) (by omega)
            exact x_iret C hQ dX10_readLine_118 hSH4852 (by decide) (by decide) (⟨0, x4853, x4854, x4855, x4856, x4729, x4730, rfl, by decide, ex4853, ex4854, ex4855, ex4856, m4890, m4891, Or.inr (by and_intros <;> first | assumption | omega), m4877, m4878, m4879, m4880, m4881, m4857, g4858, g4859, g4860, g4861, mf4893, b4866, f4869, f4870, f4871, Or.inr (LNW.mk (a := fun k => fI H4852 f9 k) (b := fun k => fI H4852 f0 k) (c := fun k => fI H4852 f1 k) m4874 m4875 m4876 (by omega) (by omega) (by omega) (by omega) (WF.cast b4867 (by omega) (by omega)) (WF.cast b4868 (by omega) (by omega))), Or.inr ⟨_, (ln_go (HD.get hb0) rfl rfl (hs_n2 (by omega) hx0 ho4421) (wn_yes kw_ rfl ho4772)).trans (if_pos k59_), by omega, cu4894⟩, Or.inr (m4744.resolve_left (by omega)), hTH4852⟩)
          · have k4851 := i_eq c4850
            refine lv_aload_n hx hb dX10_readLine_107 rfl (lv_at hl4315 1 rfl) ?_
            refine lv_iconst (v := 1) hx hb dX10_readLine_108 (by decide) ?_
            refine x_V (As := [.int 1]) (rest := []) C (a_X10_fails l K G H4812 (1) hTH4812 ga0 g4818 g4819 g4820 g4821) yo_X10_fails wM_X10_235 ⟨⟨by decide, by decide⟩, by decide, by decide⟩ (x_rv C hTH4812 (ci := 10) rfl ga0 rg_112) rfl hl4315.1 rfl (Nat.le_of_ble_eq_true rfl) dX10_readLine_109 hSH4812 (AE_sub (fun _ _ => rfl) (by decide) hSH4812.1) (fun vH4895 H4895 locsH4895 pH4895 zH4895 kH4895 hSH4895 => ?_)
            obtain ⟨x4896, hvH4895, bx4896, g4897, g4898, g4899, g4900, mf4901, hTH4895⟩ := pH4895
            subst hvH4895
            clear zH4895
            have b4902 : ∀ j : Nat, j < 3000 + mn.toNatClampNeg → fI H4895 oq j = fI s.heap oq j ∧ fI H4895 aq j = fI s.heap aq j := fun j hj => ⟨(fI_kept (x_lt hTH4812 kH4895 goq (by decide))).trans (b4815 j hj).1, (fI_kept (x_lt hTH4812 kH4895 gaq (by decide))).trans (b4815 j hj).2⟩
            have b4903 : WF (fun k => fI H4895 oq k) (fun k => fI H4895 aq k) (3000 + mn.toNatClampNeg) (3000 + mn.toNatClampNeg) 0 0 := WF.congr (fun j => fI_kept (x_lt hTH4812 kH4895 goq (by decide))) (fun j => fI_kept (x_lt hTH4812 kH4895 gaq (by decide))) b4816
            have b4904 : WF (fun k => fI H4895 oq k) (fun k => fI H4895 aq k) (3000 + mn.toNatClampNeg) (3000 + x4729.toNatClampNeg) 0 EA := WF.congr (fun j => fI_kept (x_lt hTH4812 kH4895 goq (by decide))) (fun j => fI_kept (x_lt hTH4812 kH4895 gaq (by decide))) b4817
            have f4905 : ∀ j : Nat, j ≠ x1.toNatClampNeg → fI H4895 f9 j = fI s.heap f9 j := fun j hj => (fI_kept (x_lt hTH4812 kH4895 gf9 (by decide))).trans (f4822 j hj)
            have f4906 : ∀ j : Nat, j ≠ x1.toNatClampNeg → fI H4895 f0 j = fI s.heap f0 j := fun j hj => (fI_kept (x_lt hTH4812 kH4895 gf0 (by decide))).trans (f4823 j hj)
            have f4907 : ∀ j : Nat, j ≠ x1.toNatClampNeg → fI H4895 f1 j = fI s.heap f1 j := fun j hj => (fI_kept (x_lt hTH4812 kH4895 gf1 (by decide))).trans (f4824 j hj)
            have f4908 : ∀ j : Nat, bt j = (fI H4895 tq j).toInt := fun j => (f4825 j).trans (congrArg Int32.toInt (fI_kept (x_lt hTH4812 kH4895 gtq (by decide))).symm)
            have m4909 := (m4826).trans (fI_kept (x_lt hTH4812 kH4895 gq4316 (by decide))).symm
            have m4910 := (m4827).trans (fI_kept (x_lt hTH4812 kH4895 gf9 (by decide))).symm
            have m4911 := (m4828).trans (fI_kept (x_lt hTH4812 kH4895 gf0 (by decide))).symm
            have m4912 := (m4849).trans (fI_kept (x_lt hTH4812 kH4895 gf1 (by decide))).symm
            have m4913 := (m4829).trans (MF.r mf4901 (k := 32) (by decide) (by decide)).symm
            have m4914 := (m4830).trans (MF.r mf4901 (k := 33) (by decide) (by decide)).symm
            have m4915 := (m4831).trans (MF.r mf4901 (k := 29) (by decide) (by decide)).symm
            have m4916 := (m4832).trans (MF.r mf4901 (k := 30) (by decide) (by decide)).symm
            have m4917 := (m4833).trans (MF.r mf4901 (k := 31) (by decide) (by decide)).symm
            have m4918 := (m4834).trans (MF.r mf4901 (k := 17) (by decide) (by decide)).symm
            have m4919 := (m4835).trans (MF.i mf4901 (k := 18) (by decide) (by decide)).symm
            have m4920 := (m4836).trans (MF.i mf4901 (k := 34) (by decide) (by decide)).symm
            have m4921 := (m4837).trans (MF.r mf4901 (k := 25) (by decide) (by decide)).symm
            have m4922 := (m4838).trans (MF.r mf4901 (k := 26) (by decide) (by decide)).symm
            have m4923 := (m4839).trans (MF.r mf4901 (k := 27) (by decide) (by decide)).symm
            have m4924 := (m4840).trans (MF.r mf4901 (k := 28) (by decide) (by decide)).symm
            have m4925 := (m4841).trans (MF.r mf4901 (k := 37) (by decide) (by decide)).symm
            have m4926 := (m4842).trans (MF.i mf4901 (k := 19) (by decide) (by decide)).symm
            have m4927 := (m4843).trans (MF.i mf4901 (k := 20) (by decide) (by decide)).symm
            have m4928 := (m4844).trans (MF.i mf4901 (k := 21) (by decide) (by decide)).symm
            have m4929 := (m4845).trans (MF.i mf4901 (k := 22) (by decide) (by decide)).symm
            have m4930 := (m4846).trans (MF.i mf4901 (k := 35) (by decide) (by decide)).symm
            have m4931 := (m4847).trans (MF.i mf4901 (k := 36) (by decide) (by decide)).symm
            have m4932 := (m4848).trans (MF.i mf4901 (k := 38) (by decide) (by decide)).symm
            have mf4933 : MF K s.heap H4895 a0 [19, 20, 21, 22, 35, 36, 38, 39, 40] := MF.trans mf4814 mf4901 (by decide)
            refine W.eq (g2 := F0 m 112 ls4314 [.int x4896]) rfl ?_
            have k59_ : kK bt tp.toNatClampNeg cj4770 ≠ 59 := fun e => by have z_ := (TV.sg (c := 59) cu4771.2.2.1 (by decide)).mpr e; omega
            exact x_iret C hQ dX10_readLine_112 hSH4895 (by decide) (by decide) (⟨x4896, x4725, x4726, x4727, x4728, x4729, x4730, rfl, by omega, m4926, m4927, m4928, m4929, m4930, m4931, Or.inl (by omega), m4913, m4914, m4915, m4916, m4917, m4918, g4897, g4898, g4899, g4900, mf4933, b4902, f4905, f4906, f4907, Or.inl (by omega), Or.inl ⟨(ln_go (HD.get hb0) rfl rfl (hs_n2 (by omega) hx0 ho4421) (wn_yes kw_ rfl ho4772)).trans (if_neg k59_), by omega⟩, Or.inl (by omega), hTH4895⟩)
        · have k4769 := i_eq c4768
          refine lv_iconst (v := (-1)) hx hb dX10_readLine_86 (by decide) ?_
          exact x_iret C hQ dX10_readLine_87 hSH4723 (by decide) (by decide) (⟨(-1), x4725, x4726, x4727, x4728, x4729, x4730, rfl, by decide, ex4725, ex4726, ex4727, ex4728, ex4729, ex4730, Or.inl (by omega), m4732, m4733, m4754, m4755, m4756, m4735, g4736, g4737, g4738, g4739, mf4765, b4766, f4745, f4746, f4747, Or.inl (by omega), Or.inl ⟨ln_no2 (HD.get hb0) rfl rfl (hs_n2 (by omega) hx0 ho4421) (wn_no kw_ rfl (RC.no m4743 (by omega))), by omega⟩, Or.inl (by omega), hTH4723⟩)
    · have k4457 := i_eq c4456
      refine lv_aload_n hx hb dX10_readLine_45 rfl (lv_at hl4315 1 rfl) ?_
      refine x_V (As := []) (rest := []) C (a_X10_readSum_e l K G H4424 (x4382) (x4383) (x4384) (x4385) (mn) (tp) (jb) (cj4419) bt hTH4424 ga0 goq m4436 gaq m4437 gtq m4441 m4450 m4451 m4452 m4453 m4442 m4444 m4445 g4426 g4427 g4428 g4429 (by and_intros <;> first | assumption | omega) (by and_intros <;> first | assumption | omega) (cu4420) (hy1) f4434) yo_X10_readSum wM_X10_255 ⟨⟨by decide, by decide⟩, by decide, by decide⟩ (x_rv C hTH4424 (ci := 10) rfl ga0 rg_112) rfl hl4315.1 rfl (Nat.le_of_ble_eq_true rfl) dX10_readLine_46 hSH4424 (AE_sub (fun _ _ => rfl) (by decide) hSH4424.1) (fun vH4934 H4934 locsH4934 pH4934 zH4934 kH4934 hSH4934 => ?_)
      obtain ⟨x4935, x4936, x4937, x4938, x4939, x4940, hvH4934, bx4935, ex4936, ex4937, ex4938, ex4939, ex4940, hrH4934, m4941, m4942, m4943, g4944, g4945, g4946, g4947, mf4948, m4949, m4950, m4951, hTH4934⟩ := pH4934
      subst hvH4934
      clear zH4934
      replace m4941 := EQN.mk m4941
      replace m4942 := EQN.mk m4942
      replace m4943 := EQN.mk m4943
      have f4952 : ∀ j : Nat, j ≠ x1.toNatClampNeg → fI H4934 f9 j = fI s.heap f9 j := fun j hj => (fI_kept (x_lt hTH4424 kH4934 gf9 (by decide))).trans (f4431 j hj)
      have f4953 : ∀ j : Nat, j ≠ x1.toNatClampNeg → fI H4934 f0 j = fI s.heap f0 j := fun j hj => (fI_kept (x_lt hTH4424 kH4934 gf0 (by decide))).trans (f4432 j hj)
      have f4954 : ∀ j : Nat, j ≠ x1.toNatClampNeg → fI H4934 f1 j = fI s.heap f1 j := fun j hj => (fI_kept (x_lt hTH4424 kH4934 gf1 (by decide))).trans (f4433 j hj)
      have f4955 : ∀ j : Nat, bt j = (fI H4934 tq j).toInt := fun j => (f4434 j).trans (congrArg Int32.toInt (fI_kept (x_lt hTH4424 kH4934 gtq (by decide))).symm)
      have m4956 := (m4435).trans (fI_kept (x_lt hTH4424 kH4934 gq4316 (by decide))).symm
      have m4957 := (m4454).trans (fI_kept (x_lt hTH4424 kH4934 gf9 (by decide))).symm
      have m4958 := (m4436).trans (MF.r mf4948 (k := 32) (by decide) (by decide)).symm
      have m4959 := (m4437).trans (MF.r mf4948 (k := 33) (by decide) (by decide)).symm
      have m4960 := (m4438).trans (MF.r mf4948 (k := 29) (by decide) (by decide)).symm
      have m4961 := (m4439).trans (MF.r mf4948 (k := 30) (by decide) (by decide)).symm
      have m4962 := (m4440).trans (MF.r mf4948 (k := 31) (by decide) (by decide)).symm
      have m4963 := (m4441).trans (MF.r mf4948 (k := 17) (by decide) (by decide)).symm
      have m4964 := (m4443).trans (MF.i mf4948 (k := 36) (by decide) (by decide)).symm
      have m4965 := (m4444).trans (MF.i mf4948 (k := 18) (by decide) (by decide)).symm
      have m4966 := (m4445).trans (MF.i mf4948 (k := 34) (by decide) (by decide)).symm
      have m4967 := (m4446).trans (MF.r mf4948 (k := 25) (by decide) (by decide)).symm
      have m4968 := (m4447).trans (MF.r mf4948 (k := 26) (by decide) (by decide)).symm
      have m4969 := (m4448).trans (MF.r mf4948 (k := 27) (by decide) (by decide)).symm
      have m4970 := (m4449).trans (MF.r mf4948 (k := 28) (by decide) (by decide)).symm
      have mf4971 : MF K s.heap H4934 a0 [19, 20, 21, 22, 35, 36, 38, 39, 40] := MF.trans mf4425 mf4948 (by decide)
      have bx4936 := ty_fi (x := x4936) (k := 19) ex4936 hTH4934 ga0 rg_112 rfl
      have bx4937 := ty_fi (x := x4937) (k := 20) ex4937 hTH4934 ga0 rg_112 rfl
      have bx4938 := ty_fi (x := x4938) (k := 21) ex4938 hTH4934 ga0 rg_112 rfl
      have bx4939 := ty_fi (x := x4939) (k := 22) ex4939 hTH4934 ga0 rg_112 rfl
      have bx4940 := ty_fi (x := x4940) (k := 35) ex4940 hTH4934 ga0 rg_112 rfl
      have b4972 : ∀ j : Nat, j < 3000 + mn.toNatClampNeg → fI H4934 oq j = fI s.heap oq j ∧ fI H4934 aq j = fI s.heap aq j := fun j hj => ⟨(m4949 j (by omega)).1.trans (b4430 j hj).1, (m4949 j (by omega)).2.trans (b4430 j hj).2⟩
      refine W.eq (g2 := F0 m 49 ls4314 [.int x4935]) rfl ?_
      refine lv_iconst (v := (-1)) hx hb dX10_readLine_49 (by decide) ?_
      refine lv_icmp_ne (tgt := 55) hx hb dX10_readLine_50 (by decide) (fun c4973 => ?_) (fun c4973 => ?_)
      · have k4974 := i_ne c4973
        replace hrH4934 := hrH4934.resolve_left (by omega)
        obtain ⟨rzH4934, z1H4934, z2H4934, z3H4934, z4H4934, y1H4934, y2H4934, y3H4934⟩ := hrH4934
        clear z3H4380 z4H4380
        have ws0 : WF (fun k => fI H4934 oq k) (fun k => fI H4934 aq k) (3000 + mn.toNatClampNeg) (3000 + x4940.toNatClampNeg) 0 1 := by
          rcases m4950 with h | h
          · exfalso; omega
          · exact h
        obtain ⟨cj4975, ho4977, cu4976⟩ := RC.yes m4951 (by omega)
        refine lv_aload_n hx hb dX10_readLine_55 rfl (lv_at hl4315 1 rfl) ?_
        refine x_gr C hTH4934 (ci := 10) (k := 30) rfl inX10 (by decide) wF_X10_77 ga0 rg_112 rfl dX10_readLine_56 (fun q4978 eq4978 gq4978 => ?_)
        have uq4978 : f0 = q4978 := (m4961).trans eq4978.symm
        subst uq4978
        clear eq4978
        refine lv_iload_n hx hb dX10_readLine_59 rfl (lv_at hl4315 2 rfl) ?_
        refine lv_aload_n hx hb dX10_readLine_60 rfl (lv_at hl4315 1 rfl) ?_
        refine x_gi C hTH4934 (ci := 10) (k := 35) rfl inX10 (by decide) wF_X10_228 ga0 rg_112 rfl dX10_readLine_61 (fun x4979 ex4979 bx4979 => ?_)
        have ux4979 : x4940 = x4979 := (ex4940).trans ex4979.symm
        subst ux4979
        refine x_iast C hTH4934 hSH4934 gf0 rg_134 (by omega) (by show _ < ((112 : Nat) : Int); omega) ⟨by have := i_rng x4940; omega, by have := i_rng x4940; omega⟩ (AE_in gf0 (by decide)) dX10_readLine_64 (fun H4980 locsH4980 hTH4980 hSH4980 wH4980 => ?_)
        have mf4981 : MF K s.heap H4980 a0 [19, 20, 21, 22, 35, 36, 38, 39, 40] := MF.arr wH4980 (G_ne ga0 gf0 (by decide)) mf4971
        have g4982 : CG (avw K H4980 a0) := CG.putL hTH4934 ga0 wH4980 gf0 (by decide) (by omega) g4944
        have g4983 : TU (avw K H4980 a0) (svw K H4980 a0) := TU.congr (fun k hk j => av_arr hTH4934 ga0 wH4980 gf0 (by decide) (TU_ok 134 (by decide) k hk)) (fun k hk => sv_arr ga0 wH4980 gf0 (by decide)) g4945
        have g4984 : WD (avw K H4980 a0) := WD.congr (fun k hk j => av_arr hTH4934 ga0 wH4980 gf0 (by decide) (WD_ok 134 (by decide) k hk)) g4946
        have g4985 : IM (avw K H4980 a0) := IM.congr (fun k hk j => av_arr hTH4934 ga0 wH4980 gf0 (by decide) (IM_ok 134 (by decide) k hk)) g4947
        have b4986 : ∀ j : Nat, j < 3000 + mn.toNatClampNeg → fI H4980 oq j = fI s.heap oq j ∧ fI H4980 aq j = fI s.heap aq j := fun j hj => ⟨(Wr.neI wH4980 (Or.inl (G_ne goq gf0 (by decide)))).trans (b4972 j hj).1, (Wr.neI wH4980 (Or.inl (G_ne gaq gf0 (by decide)))).trans (b4972 j hj).2⟩
        have b4987 : WF (fun k => fI H4980 oq k) (fun k => fI H4980 aq k) (3000 + mn.toNatClampNeg) (3000 + x4940.toNatClampNeg) 0 1 := WF.congr (fun j => Wr.neI wH4980 (Or.inl (G_ne goq gf0 (by decide)))) (fun j => Wr.neI wH4980 (Or.inl (G_ne gaq gf0 (by decide)))) ws0
        have f4988 : ∀ j : Nat, j ≠ x1.toNatClampNeg → fI H4980 f9 j = fI s.heap f9 j := fun j hj => (Wr.neI wH4980 (Or.inl (G_ne gf9 gf0 (by decide)))).trans (f4952 j hj)
        have f4989 : ∀ j : Nat, j ≠ x1.toNatClampNeg → fI H4980 f0 j = fI s.heap f0 j := fun j hj => (Wr.neI wH4980 (Or.inr hj)).trans (f4953 j hj)
        have f4990 : ∀ j : Nat, j ≠ x1.toNatClampNeg → fI H4980 f1 j = fI s.heap f1 j := fun j hj => (Wr.neI wH4980 (Or.inl (G_ne gf1 gf0 (by decide)))).trans (f4954 j hj)
        have f4991 : ∀ j : Nat, bt j = (fI H4980 tq j).toInt := fun j => (f4955 j).trans (congrArg Int32.toInt (Wr.neI wH4980 (Or.inl (G_ne gtq gf0 (by decide)))).symm)
        have m4992 := m4956.trans (Wr.neI wH4980 (Or.inl (G_ne gq4316 gf0 (by decide)))).symm
        have m4993 := m4957.trans (Wr.neI wH4980 (Or.inl (G_ne gf9 gf0 (by decide)))).symm
        have m4994 := m4941.trans (Wr.neR wH4980 (Or.inl (G_ne ga0 gf0 (by decide)))).symm
        have m4995 := m4942.trans (Wr.neR wH4980 (Or.inl (G_ne ga0 gf0 (by decide)))).symm
        have m4996 := m4960.trans (Wr.neR wH4980 (Or.inl (G_ne ga0 gf0 (by decide)))).symm
        have m4997 := m4961.trans (Wr.neR wH4980 (Or.inl (G_ne ga0 gf0 (by decide)))).symm
        have m4998 := m4962.trans (Wr.neR wH4980 (Or.inl (G_ne ga0 gf0 (by decide)))).symm
        have m4999 := m4943.trans (Wr.neR wH4980 (Or.inl (G_ne ga0 gf0 (by decide)))).symm
        have m5000 := m4964.trans (Wr.neI wH4980 (Or.inl (G_ne ga0 gf0 (by decide)))).symm
        have m5001 := m4965.trans (Wr.neI wH4980 (Or.inl (G_ne ga0 gf0 (by decide)))).symm
        have m5002 := m4966.trans (Wr.neI wH4980 (Or.inl (G_ne ga0 gf0 (by decide)))).symm
        have m5003 := m4967.trans (Wr.neR wH4980 (Or.inl (G_ne ga0 gf0 (by decide)))).symm
        have m5004 := m4968.trans (Wr.neR wH4980 (Or.inl (G_ne ga0 gf0 (by decide)))).symm
        have m5005 := m4969.trans (Wr.neR wH4980 (Or.inl (G_ne ga0 gf0 (by decide)))).symm
        have m5006 := m4970.trans (Wr.neR wH4980 (Or.inl (G_ne ga0 gf0 (by decide)))).symm
        have m5007 := ex4936.trans (Wr.neI wH4980 (Or.inl (G_ne ga0 gf0 (by decide)))).symm
        have m5008 := ex4937.trans (Wr.neI wH4980 (Or.inl (G_ne ga0 gf0 (by decide)))).symm
        have m5009 := ex4938.trans (Wr.neI wH4980 (Or.inl (G_ne ga0 gf0 (by decide)))).symm
        have m5010 := ex4939.trans (Wr.neI wH4980 (Or.inl (G_ne ga0 gf0 (by decide)))).symm
        have m5011 := ex4940.trans (Wr.neI wH4980 (Or.inl (G_ne ga0 gf0 (by decide)))).symm
        have m5012 := Wr.I wH4980
        have m5012 := m5012.symm
        refine lv_aload_n hx hb dX10_readLine_65 rfl (lv_at hl4315 1 rfl) ?_
        refine lv_bipush (v := 6) hx hb dX10_readLine_66 (by decide) ?_
        refine x_V (As := [.int 6]) (rest := []) C (a_X10_isWord_e l K G H4980 (6) (x4938) (x4939) hTH4980 ga0 m5009 m5010) yo_X10_isWord wM_X10_264 ⟨⟨by decide, by decide⟩, by decide, by decide⟩ (x_rv C hTH4980 (ci := 10) rfl ga0 rg_112) rfl hl4315.1 rfl (Nat.le_of_ble_eq_true rfl) dX10_readLine_68 hSH4980 (AE_sub (fun _ _ => rfl) (by decide) hSH4980.1) (fun vH5013 H5013 locsH5013 pH5013 zH5013 kH5013 hSH5013 => ?_)
        obtain ⟨x5014, hvH5013, bx5014, hrH5013, hTH5013⟩ := pH5013
        subst hvH5013
        clear zH5013
        have mf5015 : MF K s.heap H5013 a0 [19, 20, 21, 22, 35, 36, 38, 39, 40] := MF.eff (x_lt hTH4980 kH5013 ga0 (by decide)) mf4981
        have b5016 : ∀ j : Nat, j < 3000 + mn.toNatClampNeg → fI H5013 oq j = fI s.heap oq j ∧ fI H5013 aq j = fI s.heap aq j := fun j hj => ⟨(fI_kept (x_lt hTH4980 kH5013 goq (by decide))).trans (b4986 j hj).1, (fI_kept (x_lt hTH4980 kH5013 gaq (by decide))).trans (b4986 j hj).2⟩
        have b5017 : WF (fun k => fI H5013 oq k) (fun k => fI H5013 aq k) (3000 + mn.toNatClampNeg) (3000 + x4940.toNatClampNeg) 0 1 := WF.congr (fun j => fI_kept (x_lt hTH4980 kH5013 goq (by decide))) (fun j => fI_kept (x_lt hTH4980 kH5013 gaq (by decide))) b4987
        have g5018 : CG (avw K H5013 a0) := CG.congr (fun k hk j => av_eff hTH4980 kH5013 ga0 (by decide) (CG_eff [] (by decide) k hk)) g4982
        have g5019 : TU (avw K H5013 a0) (svw K H5013 a0) := TU.congr (fun k hk j => av_eff hTH4980 kH5013 ga0 (by decide) (TU_eff [] (by decide) k hk)) (fun k hk => sv_eff hTH4980 kH5013 ga0 (by decide)) g4983
        have g5020 : WD (avw K H5013 a0) := WD.congr (fun k hk j => av_eff hTH4980 kH5013 ga0 (by decide) (WD_eff [] (by decide) k hk)) g4984
        have g5021 : IM (avw K H5013 a0) := IM.congr (fun k hk j => av_eff hTH4980 kH5013 ga0 (by decide) (IM_eff [] (by decide) k hk)) g4985
        have f5022 : ∀ j : Nat, j ≠ x1.toNatClampNeg → fI H5013 f9 j = fI s.heap f9 j := fun j hj => (fI_kept (x_lt hTH4980 kH5013 gf9 (by decide))).trans (f4988 j hj)
        have f5023 : ∀ j : Nat, j ≠ x1.toNatClampNeg → fI H5013 f0 j = fI s.heap f0 j := fun j hj => (fI_kept (x_lt hTH4980 kH5013 gf0 (by decide))).trans (f4989 j hj)
        have f5024 : ∀ j : Nat, j ≠ x1.toNatClampNeg → fI H5013 f1 j = fI s.heap f1 j := fun j hj => (fI_kept (x_lt hTH4980 kH5013 gf1 (by decide))).trans (f4990 j hj)
        have f5025 : ∀ j : Nat, bt j = (fI H5013 tq j).toInt := fun j => (f4991 j).trans (congrArg Int32.toInt (fI_kept (x_lt hTH4980 kH5013 gtq (by decide))).symm)
        have m5026 := (m4992).trans (fI_kept (x_lt hTH4980 kH5013 gq4316 (by decide))).symm
        have m5027 := (m4993).trans (fI_kept (x_lt hTH4980 kH5013 gf9 (by decide))).symm
        have m5028 := (m4994).trans (fR_kept (x_lt hTH4980 kH5013 ga0 (by decide))).symm
        have m5029 := (m4995).trans (fR_kept (x_lt hTH4980 kH5013 ga0 (by decide))).symm
        have m5030 := (m4996).trans (fR_kept (x_lt hTH4980 kH5013 ga0 (by decide))).symm
        have m5031 := (m4997).trans (fR_kept (x_lt hTH4980 kH5013 ga0 (by decide))).symm
        have m5032 := (m4998).trans (fR_kept (x_lt hTH4980 kH5013 ga0 (by decide))).symm
        have m5033 := (m4999).trans (fR_kept (x_lt hTH4980 kH5013 ga0 (by decide))).symm
        have m5034 := (m5000).trans (fI_kept (x_lt hTH4980 kH5013 ga0 (by decide))).symm
        have m5035 := (m5001).trans (fI_kept (x_lt hTH4980 kH5013 ga0 (by decide))).symm
        have m5036 := (m5002).trans (fI_kept (x_lt hTH4980 kH5013 ga0 (by decide))).symm
        have m5037 := (m5003).trans (fR_kept (x_lt hTH4980 kH5013 ga0 (by decide))).symm
        have m5038 := (m5004).trans (fR_kept (x_lt hTH4980 kH5013 ga0 (by decide))).symm
        have m5039 := (m5005).trans (fR_kept (x_lt hTH4980 kH5013 ga0 (by decide))).symm
        have m5040 := (m5006).trans (fR_kept (x_lt hTH4980 kH5013 ga0 (by decide))).symm
        have m5041 := (m5007).trans (fI_kept (x_lt hTH4980 kH5013 ga0 (by decide))).symm
        have m5042 := (m5008).trans (fI_kept (x_lt hTH4980 kH5013 ga0 (by decide))).symm
        have m5043 := (m5009).trans (fI_kept (x_lt hTH4980 kH5013 ga0 (by decide))).symm
        have m5044 := (m5010).trans (fI_kept (x_lt hTH4980 kH5013 ga0 (by decide))).symm
        have m5045 := (m5011).trans (fI_kept (x_lt hTH4980 kH5013 ga0 (by decide))).symm
        have m5046 := (m5012).trans (fI_kept (x_lt hTH4980 kH5013 gf0 (by decide))).symm
        refine W.eq (g2 := F0 m 71 ls4314 [.int x5014]) rfl ?_
        refine lv_if_eq (tgt := 88) hx hb dX10_readLine_71 (by decide) (fun c5047 => ?_) (fun c5047 => ?_)
        · have k5048 := i_eq c5047
          have kw_ : kK bt tp.toNatClampNeg cj4975 ≠ 7 := fun e => by have z2 := (TV.wd cu4976.2.2.1).mpr (by omega); have z1 := TV.wv cu4976.2.2.1 z2; omega
          clear hrH5013
          have wa0 : WF (fun k => fI H5013 oq k) (fun k => fI H5013 aq k) (3000 + x4940.toNatClampNeg) (3000 + x4940.toNatClampNeg) 0 0 := WF.nil
          refine lv_aload_n hx hb dX10_readLine_88 rfl (lv_at hl4315 1 rfl) ?_
          refine x_gr C hTH5013 (ci := 10) (k := 31) rfl inX10 (by decide) wF_X10_80 ga0 rg_112 rfl dX10_readLine_89 (fun q5049 eq5049 gq5049 => ?_)
          have uq5049 : f1 = q5049 := (m5032).trans eq5049.symm
          subst uq5049
          clear eq5049
          refine lv_iload_n hx hb dX10_readLine_92 rfl (lv_at hl4315 2 rfl) ?_
          refine lv_aload_n hx hb dX10_readLine_93 rfl (lv_at hl4315 1 rfl) ?_
          refine x_gi C hTH5013 (ci := 10) (k := 35) rfl inX10 (by decide) wF_X10_228 ga0 rg_112 rfl dX10_readLine_94 (fun x5050 ex5050 bx5050 => ?_)
          have ux5050 : x4940 = x5050 := (m5045).trans ex5050.symm
          subst ux5050
          refine x_iast C hTH5013 hSH5013 gf1 rg_135 (by omega) (by show _ < ((112 : Nat) : Int); omega) ⟨by have := i_rng x4940; omega, by have := i_rng x4940; omega⟩ (AE_in gf1 (by decide)) dX10_readLine_97 (fun H5051 locsH5051 hTH5051 hSH5051 wH5051 => ?_)
          have mf5052 : MF K s.heap H5051 a0 [19, 20, 21, 22, 35, 36, 38, 39, 40] := MF.arr wH5051 (G_ne ga0 gf1 (by decide)) mf5015
          have g5053 : CG (avw K H5051 a0) := CG.putL hTH5013 ga0 wH5051 gf1 (by decide) (by omega) g5018
          have g5054 : TU (avw K H5051 a0) (svw K H5051 a0) := TU.congr (fun k hk j => av_arr hTH5013 ga0 wH5051 gf1 (by decide) (TU_ok 135 (by decide) k hk)) (fun k hk => sv_arr ga0 wH5051 gf1 (by decide)) g5019
          have g5055 : WD (avw K H5051 a0) := WD.congr (fun k hk j => av_arr hTH5013 ga0 wH5051 gf1 (by decide) (WD_ok 135 (by decide) k hk)) g5020
          have g5056 : IM (avw K H5051 a0) := IM.congr (fun k hk j => av_arr hTH5013 ga0 wH5051 gf1 (by decide) (IM_ok 135 (by decide) k hk)) g5021
          have b5057 : ∀ j : Nat, j < 3000 + mn.toNatClampNeg → fI H5051 oq j = fI s.heap oq j ∧ fI H5051 aq j = fI s.heap aq j := fun j hj => ⟨(Wr.neI wH5051 (Or.inl (G_ne goq gf1 (by decide)))).trans (b5016 j hj).1, (Wr.neI wH5051 (Or.inl (G_ne gaq gf1 (by decide)))).trans (b5016 j hj).2⟩
          have b5058 : WF (fun k => fI H5051 oq k) (fun k => fI H5051 aq k) (3000 + mn.toNatClampNeg) (3000 + x4940.toNatClampNeg) 0 1 := WF.congr (fun j => Wr.neI wH5051 (Or.inl (G_ne goq gf1 (by decide)))) (fun j => Wr.neI wH5051 (Or.inl (G_ne gaq gf1 (by decide)))) b5017
          have b5059 : WF (fun k => fI H5051 oq k) (fun k => fI H5051 aq k) (3000 + x4940.toNatClampNeg) (3000 + x4940.toNatClampNeg) 0 0 := WF.congr (fun j => Wr.neI wH5051 (Or.inl (G_ne goq gf1 (by decide)))) (fun j => Wr.neI wH5051 (Or.inl (G_ne gaq gf1 (by decide)))) wa0
          have f5060 : ∀ j : Nat, j ≠ x1.toNatClampNeg → fI H5051 f9 j = fI s.heap f9 j := fun j hj => (Wr.neI wH5051 (Or.inl (G_ne gf9 gf1 (by decide)))).trans (f5022 j hj)
          have f5061 : ∀ j : Nat, j ≠ x1.toNatClampNeg → fI H5051 f0 j = fI s.heap f0 j := fun j hj => (Wr.neI wH5051 (Or.inl (G_ne gf0 gf1 (by decide)))).trans (f5023 j hj)
          have f5062 : ∀ j : Nat, j ≠ x1.toNatClampNeg → fI H5051 f1 j = fI s.heap f1 j := fun j hj => (Wr.neI wH5051 (Or.inr hj)).trans (f5024 j hj)
          have f5063 : ∀ j : Nat, bt j = (fI H5051 tq j).toInt := fun j => (f5025 j).trans (congrArg Int32.toInt (Wr.neI wH5051 (Or.inl (G_ne gtq gf1 (by decide)))).symm)
          have m5064 := m5026.trans (Wr.neI wH5051 (Or.inl (G_ne gq4316 gf1 (by decide)))).symm
          have m5065 := m5027.trans (Wr.neI wH5051 (Or.inl (G_ne gf9 gf1 (by decide)))).symm
          have m5066 := m5028.trans (Wr.neR wH5051 (Or.inl (G_ne ga0 gf1 (by decide)))).symm
          have m5067 := m5029.trans (Wr.neR wH5051 (Or.inl (G_ne ga0 gf1 (by decide)))).symm
          have m5068 := m5030.trans (Wr.neR wH5051 (Or.inl (G_ne ga0 gf1 (by decide)))).symm
          have m5069 := m5031.trans (Wr.neR wH5051 (Or.inl (G_ne ga0 gf1 (by decide)))).symm
          have m5070 := m5032.trans (Wr.neR wH5051 (Or.inl (G_ne ga0 gf1 (by decide)))).symm
          have m5071 := m5033.trans (Wr.neR wH5051 (Or.inl (G_ne ga0 gf1 (by decide)))).symm
          have m5072 := m5034.trans (Wr.neI wH5051 (Or.inl (G_ne ga0 gf1 (by decide)))).symm
          have m5073 := m5035.trans (Wr.neI wH5051 (Or.inl (G_ne ga0 gf1 (by decide)))).symm
          have m5074 := m5036.trans (Wr.neI wH5051 (Or.inl (G_ne ga0 gf1 (by decide)))).symm
          have m5075 := m5037.trans (Wr.neR wH5051 (Or.inl (G_ne ga0 gf1 (by decide)))).symm
          have m5076 := m5038.trans (Wr.neR wH5051 (Or.inl (G_ne ga0 gf1 (by decide)))).symm
          have m5077 := m5039.trans (Wr.neR wH5051 (Or.inl (G_ne ga0 gf1 (by decide)))).symm
          have m5078 := m5040.trans (Wr.neR wH5051 (Or.inl (G_ne ga0 gf1 (by decide)))).symm
          have m5079 := m5041.trans (Wr.neI wH5051 (Or.inl (G_ne ga0 gf1 (by decide)))).symm
          have m5080 := m5042.trans (Wr.neI wH5051 (Or.inl (G_ne ga0 gf1 (by decide)))).symm
          have m5081 := m5043.trans (Wr.neI wH5051 (Or.inl (G_ne ga0 gf1 (by decide)))).symm
          have m5082 := m5044.trans (Wr.neI wH5051 (Or.inl (G_ne ga0 gf1 (by decide)))).symm
          have m5083 := m5045.trans (Wr.neI wH5051 (Or.inl (G_ne ga0 gf1 (by decide)))).symm
          have m5084 := m5046.trans (Wr.neI wH5051 (Or.inl (G_ne gf0 gf1 (by decide)))).symm
          have m5085 := Wr.I wH5051
          have m5085 := m5085.symm
          refine lv_aload_n hx hb dX10_readLine_98 rfl (lv_at hl4315 1 rfl) ?_
          refine lv_bipush (v := 59) hx hb dX10_readLine_99 (by decide) ?_
          refine x_V (As := [.int 59]) (rest := []) C (a_X10_isSign_e l K G H5051 (59) (x4938) (x4939) hTH5051 ga0 m5081 m5082) yo_X10_isSign wM_X10_249 ⟨⟨by decide, by decide⟩, by decide, by decide⟩ (x_rv C hTH5051 (ci := 10) rfl ga0 rg_112) rfl hl4315.1 rfl (Nat.le_of_ble_eq_true rfl) dX10_readLine_101 hSH5051 (AE_sub (fun _ _ => rfl) (by decide) hSH5051.1) (fun vH5086 H5086 locsH5086 pH5086 zH5086 kH5086 hSH5086 => ?_)
          obtain ⟨x5087, hvH5086, bx5087, hrH5086, hTH5086⟩ := pH5086
          subst hvH5086
          clear zH5086
          have mf5088 : MF K s.heap H5086 a0 [19, 20, 21, 22, 35, 36, 38, 39, 40] := MF.eff (x_lt hTH5051 kH5086 ga0 (by decide)) mf5052
          have b5089 : ∀ j : Nat, j < 3000 + mn.toNatClampNeg → fI H5086 oq j = fI s.heap oq j ∧ fI H5086 aq j = fI s.heap aq j := fun j hj => ⟨(fI_kept (x_lt hTH5051 kH5086 goq (by decide))).trans (b5057 j hj).1, (fI_kept (x_lt hTH5051 kH5086 gaq (by decide))).trans (b5057 j hj).2⟩
          have b5090 : WF (fun k => fI H5086 oq k) (fun k => fI H5086 aq k) (3000 + mn.toNatClampNeg) (3000 + x4940.toNatClampNeg) 0 1 := WF.congr (fun j => fI_kept (x_lt hTH5051 kH5086 goq (by decide))) (fun j => fI_kept (x_lt hTH5051 kH5086 gaq (by decide))) b5058
          have b5091 : WF (fun k => fI H5086 oq k) (fun k => fI H5086 aq k) (3000 + x4940.toNatClampNeg) (3000 + x4940.toNatClampNeg) 0 0 := WF.congr (fun j => fI_kept (x_lt hTH5051 kH5086 goq (by decide))) (fun j => fI_kept (x_lt hTH5051 kH5086 gaq (by decide))) b5059
          have g5092 : CG (avw K H5086 a0) := CG.congr (fun k hk j => av_eff hTH5051 kH5086 ga0 (by decide) (CG_eff [] (by decide) k hk)) g5053
          have g5093 : TU (avw K H5086 a0) (svw K H5086 a0) := TU.congr (fun k hk j => av_eff hTH5051 kH5086 ga0 (by decide) (TU_eff [] (by decide) k hk)) (fun k hk => sv_eff hTH5051 kH5086 ga0 (by decide)) g5054
          have g5094 : WD (avw K H5086 a0) := WD.congr (fun k hk j => av_eff hTH5051 kH5086 ga0 (by decide) (WD_eff [] (by decide) k hk)) g5055
          have g5095 : IM (avw K H5086 a0) := IM.congr (fun k hk j => av_eff hTH5051 kH5086 ga0 (by decide) (IM_eff [] (by decide) k hk)) g5056
          have f5096 : ∀ j : Nat, j ≠ x1.toNatClampNeg → fI H5086 f9 j = fI s.heap f9 j := fun j hj => (fI_kept (x_lt hTH5051 kH5086 gf9 (by decide))).trans (f5060 j hj)
          have f5097 : ∀ j : Nat, j ≠ x1.toNatClampNeg → fI H5086 f0 j = fI s.heap f0 j := fun j hj => (fI_kept (x_lt hTH5051 kH5086 gf0 (by decide))).trans (f5061 j hj)
          have f5098 : ∀ j : Nat, j ≠ x1.toNatClampNeg → fI H5086 f1 j = fI s.heap f1 j := fun j hj => (fI_kept (x_lt hTH5051 kH5086 gf1 (by decide))).trans (f5062 j hj)
          have f5099 : ∀ j : Nat, bt j = (fI H5086 tq j).toInt := fun j => (f5063 j).trans (congrArg Int32.toInt (fI_kept (x_lt hTH5051 kH5086 gtq (by decide))).symm)
          have m5100 := (m5064).trans (fI_kept (x_lt hTH5051 kH5086 gq4316 (by decide))).symm
          have m5101 := (m5065).trans (fI_kept (x_lt hTH5051 kH5086 gf9 (by decide))).symm
          have m5102 := (m5066).trans (fR_kept (x_lt hTH5051 kH5086 ga0 (by decide))).symm
          have m5103 := (m5067).trans (fR_kept (x_lt hTH5051 kH5086 ga0 (by decide))).symm
          have m5104 := (m5068).trans (fR_kept (x_lt hTH5051 kH5086 ga0 (by decide))).symm
          have m5105 := (m5069).trans (fR_kept (x_lt hTH5051 kH5086 ga0 (by decide))).symm
          have m5106 := (m5070).trans (fR_kept (x_lt hTH5051 kH5086 ga0 (by decide))).symm
          have m5107 := (m5071).trans (fR_kept (x_lt hTH5051 kH5086 ga0 (by decide))).symm
          have m5108 := (m5072).trans (fI_kept (x_lt hTH5051 kH5086 ga0 (by decide))).symm
          have m5109 := (m5073).trans (fI_kept (x_lt hTH5051 kH5086 ga0 (by decide))).symm
          have m5110 := (m5074).trans (fI_kept (x_lt hTH5051 kH5086 ga0 (by decide))).symm
          have m5111 := (m5075).trans (fR_kept (x_lt hTH5051 kH5086 ga0 (by decide))).symm
          have m5112 := (m5076).trans (fR_kept (x_lt hTH5051 kH5086 ga0 (by decide))).symm
          have m5113 := (m5077).trans (fR_kept (x_lt hTH5051 kH5086 ga0 (by decide))).symm
          have m5114 := (m5078).trans (fR_kept (x_lt hTH5051 kH5086 ga0 (by decide))).symm
          have m5115 := (m5079).trans (fI_kept (x_lt hTH5051 kH5086 ga0 (by decide))).symm
          have m5116 := (m5080).trans (fI_kept (x_lt hTH5051 kH5086 ga0 (by decide))).symm
          have m5117 := (m5081).trans (fI_kept (x_lt hTH5051 kH5086 ga0 (by decide))).symm
          have m5118 := (m5082).trans (fI_kept (x_lt hTH5051 kH5086 ga0 (by decide))).symm
          have m5119 := (m5083).trans (fI_kept (x_lt hTH5051 kH5086 ga0 (by decide))).symm
          have m5120 := (m5084).trans (fI_kept (x_lt hTH5051 kH5086 gf0 (by decide))).symm
          have m5121 := (m5085).trans (fI_kept (x_lt hTH5051 kH5086 gf1 (by decide))).symm
          refine W.eq (g2 := F0 m 104 ls4314 [.int x5087]) rfl ?_
          refine lv_if_ne (tgt := 113) hx hb dX10_readLine_104 (by decide) (fun c5122 => ?_) (fun c5122 => ?_)
          · have k5123 := i_ne c5122
            have k59_ : kK bt tp.toNatClampNeg cj4975 = 59 := (TV.sg (c := 59) cu4976.2.2.1 (by decide)).mp ⟨by omega, by omega⟩
            replace hrH5086 := hrH5086.resolve_left (fun h => absurd h.1 (by omega))
            replace z3H4934 := z3H4934.resolve_left (by omega)
            refine lv_aload_n hx hb dX10_readLine_113 rfl (lv_at hl4315 1 rfl) ?_
            refine x_V (As := []) (rest := []) C (a_X10_reads_e l K G H5086 (x4936) (x4937) (x4938) (x4939) (tp) bt hTH5086 ga0 gtq m5107 m5115 m5116 m5117 m5118 m5109 g5092 g5093 g5094 g5095 (by and_intros <;> first | assumption | omega) (hy1) f5099) yo_X10_reads wM_X10_242 ⟨⟨by decide, by decide⟩, by decide, by decide⟩ (x_rv C hTH5086 (ci := 10) rfl ga0 rg_112) rfl hl4315.1 rfl (Nat.le_of_ble_eq_true rfl) dX10_readLine_114 hSH5086 (AE_sub (fun _ _ => rfl) (by decide) hSH5086.1) (fun vH5124 H5124 locsH5124 pH5124 zH5124 kH5124 hSH5124 => ?_)
            obtain ⟨x5125, x5126, x5127, x5128, hvH5124, ex5125, ex5126, ex5127, ex5128, hrH5124, m5129, g5130, g5131, g5132, g5133, mf5134, m5135, m5136, m5137, hTH5124⟩ := pH5124
            subst hvH5124
            clear zH5124
            replace m5129 := EQN.mk m5129
            have b5138 : ∀ j : Nat, j < 3000 + mn.toNatClampNeg → fI H5124 oq j = fI s.heap oq j ∧ fI H5124 aq j = fI s.heap aq j := fun j hj => ⟨(fI_kept (x_lt hTH5086 kH5124 goq (by decide))).trans (b5089 j hj).1, (fI_kept (x_lt hTH5086 kH5124 gaq (by decide))).trans (b5089 j hj).2⟩
            have b5139 : WF (fun k => fI H5124 oq k) (fun k => fI H5124 aq k) (3000 + mn.toNatClampNeg) (3000 + x4940.toNatClampNeg) 0 1 := WF.congr (fun j => fI_kept (x_lt hTH5086 kH5124 goq (by decide))) (fun j => fI_kept (x_lt hTH5086 kH5124 gaq (by decide))) b5090
            have b5140 : WF (fun k => fI H5124 oq k) (fun k => fI H5124 aq k) (3000 + x4940.toNatClampNeg) (3000 + x4940.toNatClampNeg) 0 0 := WF.congr (fun j => fI_kept (x_lt hTH5086 kH5124 goq (by decide))) (fun j => fI_kept (x_lt hTH5086 kH5124 gaq (by decide))) b5091
            have f5141 : ∀ j : Nat, j ≠ x1.toNatClampNeg → fI H5124 f9 j = fI s.heap f9 j := fun j hj => (fI_kept (x_lt hTH5086 kH5124 gf9 (by decide))).trans (f5096 j hj)
            have f5142 : ∀ j : Nat, j ≠ x1.toNatClampNeg → fI H5124 f0 j = fI s.heap f0 j := fun j hj => (fI_kept (x_lt hTH5086 kH5124 gf0 (by decide))).trans (f5097 j hj)
            have f5143 : ∀ j : Nat, j ≠ x1.toNatClampNeg → fI H5124 f1 j = fI s.heap f1 j := fun j hj => (fI_kept (x_lt hTH5086 kH5124 gf1 (by decide))).trans (f5098 j hj)
            have f5144 : ∀ j : Nat, bt j = (fI H5124 tq j).toInt := fun j => (f5099 j).trans (congrArg Int32.toInt (fI_kept (x_lt hTH5086 kH5124 gtq (by decide))).symm)
            have m5145 := (m5100).trans (fI_kept (x_lt hTH5086 kH5124 gq4316 (by decide))).symm
            have m5146 := (m5101).trans (fI_kept (x_lt hTH5086 kH5124 gf9 (by decide))).symm
            have m5147 := (m5120).trans (fI_kept (x_lt hTH5086 kH5124 gf0 (by decide))).symm
            have m5148 := (m5121).trans (fI_kept (x_lt hTH5086 kH5124 gf1 (by decide))).symm
            have m5149 := (m5102).trans (MF.r mf5134 (k := 32) (by decide) (by decide)).symm
            have m5150 := (m5103).trans (MF.r mf5134 (k := 33) (by decide) (by decide)).symm
            have m5151 := (m5104).trans (MF.r mf5134 (k := 29) (by decide) (by decide)).symm
            have m5152 := (m5105).trans (MF.r mf5134 (k := 30) (by decide) (by decide)).symm
            have m5153 := (m5106).trans (MF.r mf5134 (k := 31) (by decide) (by decide)).symm
            have m5154 := (m5107).trans (MF.r mf5134 (k := 17) (by decide) (by decide)).symm
            have m5155 := (m5108).trans (MF.i mf5134 (k := 36) (by decide) (by decide)).symm
            have m5156 := (m5109).trans (MF.i mf5134 (k := 18) (by decide) (by decide)).symm
            have m5157 := (m5110).trans (MF.i mf5134 (k := 34) (by decide) (by decide)).symm
            have m5158 := (m5111).trans (MF.r mf5134 (k := 25) (by decide) (by decide)).symm
            have m5159 := (m5112).trans (MF.r mf5134 (k := 26) (by decide) (by decide)).symm
            have m5160 := (m5113).trans (MF.r mf5134 (k := 27) (by decide) (by decide)).symm
            have m5161 := (m5114).trans (MF.r mf5134 (k := 28) (by decide) (by decide)).symm
            have m5162 := (m5119).trans (MF.i mf5134 (k := 35) (by decide) (by decide)).symm
            have mf5163 : MF K s.heap H5124 a0 [19, 20, 21, 22, 35, 36, 38, 39, 40] := MF.trans mf5088 mf5134 (by decide)
            have bx5125 := ty_fi (x := x5125) (k := 19) ex5125 hTH5124 ga0 rg_112 rfl
            have bx5126 := ty_fi (x := x5126) (k := 20) ex5126 hTH5124 ga0 rg_112 rfl
            have bx5127 := ty_fi (x := x5127) (k := 21) ex5127 hTH5124 ga0 rg_112 rfl
            have bx5128 := ty_fi (x := x5128) (k := 22) ex5128 hTH5124 ga0 rg_112 rfl
            have cn_x5126 := i_cl (x := x5126) (by omega)
            have cn_x4937 := i_cl (x := x4937) (by omega)
            have cu5164 : CU bt tp.toNatClampNeg (cj4975 + 1) x5126 x5125 x5127 x5128 := CU.next cu4976 m5135 m5136 m5137 (by omega)
            obtain ⟨r1H5124, r2H5124, r3H5124, r4H5124, r5H5124⟩ := hrH5124
            clear z3H4934 z4H4934
            refine W.eq (g2 := F0 m 117 ls4314 []) rfl ?_
            refine lv_iconst (v := 0) hx hb dX10_readLine_117 (by decide) ?_
            have cx_x4940 := i_cl (x := x4940) (by omega)
            exact x_iret C hQ dX10_readLine_118 hSH5124 (by decide) (by decide) (⟨0, x5125, x5126, x5127, x5128, x4940, on, rfl, by decide, ex5125, ex5126, ex5127, ex5128, m5162, m5155, Or.inr (by and_intros <;> first | assumption | omega), m5149, m5150, m5151, m5152, m5153, m5129, g5130, g5131, g5132, g5133, mf5163, b5138, f5141, f5142, f5143, Or.inr (LNW.mk (a := fun k => fI H5124 f9 k) (b := fun k => fI H5124 f0 k) (c := fun k => fI H5124 f1 k) m5146 m5147 m5148 (by omega) (by omega) (by omega) (by omega) (WF.cast b5139 (by omega) (by omega)) (WF.cast b5140 (by omega) (by omega))), Or.inr ⟨_, (ln_go (HD.get hb0) rfl rfl ((hs_n1 (by omega) hx0 ho4421).trans ho4977) (wn_0 kw_)).trans (if_pos k59_), by omega, cu5164⟩, Or.inr (by omega), hTH5124⟩)
          · have k5123 := i_eq c5122
            refine lv_aload_n hx hb dX10_readLine_107 rfl (lv_at hl4315 1 rfl) ?_
            refine lv_iconst (v := 1) hx hb dX10_readLine_108 (by decide) ?_
            refine x_V (As := [.int 1]) (rest := []) C (a_X10_fails l K G H5086 (1) hTH5086 ga0 g5092 g5093 g5094 g5095) yo_X10_fails wM_X10_235 ⟨⟨by decide, by decide⟩, by decide, by decide⟩ (x_rv C hTH5086 (ci := 10) rfl ga0 rg_112) rfl hl4315.1 rfl (Nat.le_of_ble_eq_true rfl) dX10_readLine_109 hSH5086 (AE_sub (fun _ _ => rfl) (by decide) hSH5086.1) (fun vH5165 H5165 locsH5165 pH5165 zH5165 kH5165 hSH5165 => ?_)
            obtain ⟨x5166, hvH5165, bx5166, g5167, g5168, g5169, g5170, mf5171, hTH5165⟩ := pH5165
            subst hvH5165
            clear zH5165
            have b5172 : ∀ j : Nat, j < 3000 + mn.toNatClampNeg → fI H5165 oq j = fI s.heap oq j ∧ fI H5165 aq j = fI s.heap aq j := fun j hj => ⟨(fI_kept (x_lt hTH5086 kH5165 goq (by decide))).trans (b5089 j hj).1, (fI_kept (x_lt hTH5086 kH5165 gaq (by decide))).trans (b5089 j hj).2⟩
            have b5173 : WF (fun k => fI H5165 oq k) (fun k => fI H5165 aq k) (3000 + mn.toNatClampNeg) (3000 + x4940.toNatClampNeg) 0 1 := WF.congr (fun j => fI_kept (x_lt hTH5086 kH5165 goq (by decide))) (fun j => fI_kept (x_lt hTH5086 kH5165 gaq (by decide))) b5090
            have b5174 : WF (fun k => fI H5165 oq k) (fun k => fI H5165 aq k) (3000 + x4940.toNatClampNeg) (3000 + x4940.toNatClampNeg) 0 0 := WF.congr (fun j => fI_kept (x_lt hTH5086 kH5165 goq (by decide))) (fun j => fI_kept (x_lt hTH5086 kH5165 gaq (by decide))) b5091
            have f5175 : ∀ j : Nat, j ≠ x1.toNatClampNeg → fI H5165 f9 j = fI s.heap f9 j := fun j hj => (fI_kept (x_lt hTH5086 kH5165 gf9 (by decide))).trans (f5096 j hj)
            have f5176 : ∀ j : Nat, j ≠ x1.toNatClampNeg → fI H5165 f0 j = fI s.heap f0 j := fun j hj => (fI_kept (x_lt hTH5086 kH5165 gf0 (by decide))).trans (f5097 j hj)
            have f5177 : ∀ j : Nat, j ≠ x1.toNatClampNeg → fI H5165 f1 j = fI s.heap f1 j := fun j hj => (fI_kept (x_lt hTH5086 kH5165 gf1 (by decide))).trans (f5098 j hj)
            have f5178 : ∀ j : Nat, bt j = (fI H5165 tq j).toInt := fun j => (f5099 j).trans (congrArg Int32.toInt (fI_kept (x_lt hTH5086 kH5165 gtq (by decide))).symm)
            have m5179 := (m5100).trans (fI_kept (x_lt hTH5086 kH5165 gq4316 (by decide))).symm
            have m5180 := (m5101).trans (fI_kept (x_lt hTH5086 kH5165 gf9 (by decide))).symm
            have m5181 := (m5120).trans (fI_kept (x_lt hTH5086 kH5165 gf0 (by decide))).symm
            have m5182 := (m5121).trans (fI_kept (x_lt hTH5086 kH5165 gf1 (by decide))).symm
            have m5183 := (m5102).trans (MF.r mf5171 (k := 32) (by decide) (by decide)).symm
            have m5184 := (m5103).trans (MF.r mf5171 (k := 33) (by decide) (by decide)).symm
            have m5185 := (m5104).trans (MF.r mf5171 (k := 29) (by decide) (by decide)).symm
            have m5186 := (m5105).trans (MF.r mf5171 (k := 30) (by decide) (by decide)).symm
            have m5187 := (m5106).trans (MF.r mf5171 (k := 31) (by decide) (by decide)).symm
            have m5188 := (m5107).trans (MF.r mf5171 (k := 17) (by decide) (by decide)).symm
            have m5189 := (m5108).trans (MF.i mf5171 (k := 36) (by decide) (by decide)).symm
            have m5190 := (m5109).trans (MF.i mf5171 (k := 18) (by decide) (by decide)).symm
            have m5191 := (m5110).trans (MF.i mf5171 (k := 34) (by decide) (by decide)).symm
            have m5192 := (m5111).trans (MF.r mf5171 (k := 25) (by decide) (by decide)).symm
            have m5193 := (m5112).trans (MF.r mf5171 (k := 26) (by decide) (by decide)).symm
            have m5194 := (m5113).trans (MF.r mf5171 (k := 27) (by decide) (by decide)).symm
            have m5195 := (m5114).trans (MF.r mf5171 (k := 28) (by decide) (by decide)).symm
            have m5196 := (m5115).trans (MF.i mf5171 (k := 19) (by decide) (by decide)).symm
            have m5197 := (m5116).trans (MF.i mf5171 (k := 20) (by decide) (by decide)).symm
            have m5198 := (m5117).trans (MF.i mf5171 (k := 21) (by decide) (by decide)).symm
            have m5199 := (m5118).trans (MF.i mf5171 (k := 22) (by decide) (by decide)).symm
            have m5200 := (m5119).trans (MF.i mf5171 (k := 35) (by decide) (by decide)).symm
            have mf5201 : MF K s.heap H5165 a0 [19, 20, 21, 22, 35, 36, 38, 39, 40] := MF.trans mf5088 mf5171 (by decide)
            refine W.eq (g2 := F0 m 112 ls4314 [.int x5166]) rfl ?_
            have k59_ : kK bt tp.toNatClampNeg cj4975 ≠ 59 := fun e => by have z_ := (TV.sg (c := 59) cu4976.2.2.1 (by decide)).mpr e; omega
            exact x_iret C hQ dX10_readLine_112 hSH5165 (by decide) (by decide) (⟨x5166, x4936, x4937, x4938, x4939, x4940, on, rfl, by omega, m5196, m5197, m5198, m5199, m5200, m5189, Or.inl (by omega), m5183, m5184, m5185, m5186, m5187, m5188, g5167, g5168, g5169, g5170, mf5201, b5172, f5175, f5176, f5177, Or.inl (by omega), Or.inl ⟨(ln_go (HD.get hb0) rfl rfl ((hs_n1 (by omega) hx0 ho4421).trans ho4977) (wn_0 kw_)).trans (if_neg k59_), by omega⟩, Or.inl (by omega), hTH5165⟩)
        · have k5048 := i_ne c5047
          replace hrH5013 := hrH5013.resolve_left (fun h => absurd h.1 (by omega))
          replace z3H4934 := z3H4934.resolve_left (by omega)
          have kw_ : kK bt tp.toNatClampNeg cj4975 = 7 := by have z1 := TV.wv cu4976.2.2.1 (by omega); omega
          refine lv_aload_n hx hb dX10_readLine_74 rfl (lv_at hl4315 1 rfl) ?_
          refine x_V (As := []) (rest := []) C (a_X10_reads_e l K G H5013 (x4936) (x4937) (x4938) (x4939) (tp) bt hTH5013 ga0 gtq m5033 m5041 m5042 m5043 m5044 m5035 g5018 g5019 g5020 g5021 (by and_intros <;> first | assumption | omega) (hy1) f5025) yo_X10_reads wM_X10_242 ⟨⟨by decide, by decide⟩, by decide, by decide⟩ (x_rv C hTH5013 (ci := 10) rfl ga0 rg_112) rfl hl4315.1 rfl (Nat.le_of_ble_eq_true rfl) dX10_readLine_75 hSH5013 (AE_sub (fun _ _ => rfl) (by decide) hSH5013.1) (fun vH5202 H5202 locsH5202 pH5202 zH5202 kH5202 hSH5202 => ?_)
          obtain ⟨x5203, x5204, x5205, x5206, hvH5202, ex5203, ex5204, ex5205, ex5206, hrH5202, m5207, g5208, g5209, g5210, g5211, mf5212, m5213, m5214, m5215, hTH5202⟩ := pH5202
          subst hvH5202
          clear zH5202
          replace m5207 := EQN.mk m5207
          have b5216 : ∀ j : Nat, j < 3000 + mn.toNatClampNeg → fI H5202 oq j = fI s.heap oq j ∧ fI H5202 aq j = fI s.heap aq j := fun j hj => ⟨(fI_kept (x_lt hTH5013 kH5202 goq (by decide))).trans (b5016 j hj).1, (fI_kept (x_lt hTH5013 kH5202 gaq (by decide))).trans (b5016 j hj).2⟩
          have b5217 : WF (fun k => fI H5202 oq k) (fun k => fI H5202 aq k) (3000 + mn.toNatClampNeg) (3000 + x4940.toNatClampNeg) 0 1 := WF.congr (fun j => fI_kept (x_lt hTH5013 kH5202 goq (by decide))) (fun j => fI_kept (x_lt hTH5013 kH5202 gaq (by decide))) b5017
          have f5218 : ∀ j : Nat, j ≠ x1.toNatClampNeg → fI H5202 f9 j = fI s.heap f9 j := fun j hj => (fI_kept (x_lt hTH5013 kH5202 gf9 (by decide))).trans (f5022 j hj)
          have f5219 : ∀ j : Nat, j ≠ x1.toNatClampNeg → fI H5202 f0 j = fI s.heap f0 j := fun j hj => (fI_kept (x_lt hTH5013 kH5202 gf0 (by decide))).trans (f5023 j hj)
          have f5220 : ∀ j : Nat, j ≠ x1.toNatClampNeg → fI H5202 f1 j = fI s.heap f1 j := fun j hj => (fI_kept (x_lt hTH5013 kH5202 gf1 (by decide))).trans (f5024 j hj)
          have f5221 : ∀ j : Nat, bt j = (fI H5202 tq j).toInt := fun j => (f5025 j).trans (congrArg Int32.toInt (fI_kept (x_lt hTH5013 kH5202 gtq (by decide))).symm)
          have m5222 := (m5026).trans (fI_kept (x_lt hTH5013 kH5202 gq4316 (by decide))).symm
          have m5223 := (m5027).trans (fI_kept (x_lt hTH5013 kH5202 gf9 (by decide))).symm
          have m5224 := (m5046).trans (fI_kept (x_lt hTH5013 kH5202 gf0 (by decide))).symm
          have m5225 := (m5028).trans (MF.r mf5212 (k := 32) (by decide) (by decide)).symm
          have m5226 := (m5029).trans (MF.r mf5212 (k := 33) (by decide) (by decide)).symm
          have m5227 := (m5030).trans (MF.r mf5212 (k := 29) (by decide) (by decide)).symm
          have m5228 := (m5031).trans (MF.r mf5212 (k := 30) (by decide) (by decide)).symm
          have m5229 := (m5032).trans (MF.r mf5212 (k := 31) (by decide) (by decide)).symm
          have m5230 := (m5033).trans (MF.r mf5212 (k := 17) (by decide) (by decide)).symm
          have m5231 := (m5034).trans (MF.i mf5212 (k := 36) (by decide) (by decide)).symm
          have m5232 := (m5035).trans (MF.i mf5212 (k := 18) (by decide) (by decide)).symm
          have m5233 := (m5036).trans (MF.i mf5212 (k := 34) (by decide) (by decide)).symm
          have m5234 := (m5037).trans (MF.r mf5212 (k := 25) (by decide) (by decide)).symm
          have m5235 := (m5038).trans (MF.r mf5212 (k := 26) (by decide) (by decide)).symm
          have m5236 := (m5039).trans (MF.r mf5212 (k := 27) (by decide) (by decide)).symm
          have m5237 := (m5040).trans (MF.r mf5212 (k := 28) (by decide) (by decide)).symm
          have m5238 := (m5045).trans (MF.i mf5212 (k := 35) (by decide) (by decide)).symm
          have mf5239 : MF K s.heap H5202 a0 [19, 20, 21, 22, 35, 36, 38, 39, 40] := MF.trans mf5015 mf5212 (by decide)
          have bx5203 := ty_fi (x := x5203) (k := 19) ex5203 hTH5202 ga0 rg_112 rfl
          have bx5204 := ty_fi (x := x5204) (k := 20) ex5204 hTH5202 ga0 rg_112 rfl
          have bx5205 := ty_fi (x := x5205) (k := 21) ex5205 hTH5202 ga0 rg_112 rfl
          have bx5206 := ty_fi (x := x5206) (k := 22) ex5206 hTH5202 ga0 rg_112 rfl
          have cn_x5204 := i_cl (x := x5204) (by omega)
          have cn_x4937 := i_cl (x := x4937) (by omega)
          have cu5240 : CU bt tp.toNatClampNeg (cj4975 + 1) x5204 x5203 x5205 x5206 := CU.next cu4976 m5213 m5214 m5215 (by omega)
          obtain ⟨r1H5202, r2H5202, r3H5202, r4H5202, r5H5202⟩ := hrH5202
          clear z3H4934 z4H4934
          refine W.eq (g2 := F0 m 78 ls4314 []) rfl ?_
          refine lv_aload_n hx hb dX10_readLine_78 rfl (lv_at hl4315 1 rfl) ?_
          obtain ⟨q5241, eq5241⟩ : ∃ z : Nat, EQN z (fR H5202 a0 (K.1.2 10 37)) := ⟨_, rfl⟩
          have gq5241 := ty_fr (q := q5241) (k := 37) (u := 138) eq5241 hTH5202 ga0 rg_112 rfl
          replace eq5241 := EQN.mk eq5241
          obtain ⟨x5242, ex5242⟩ : ∃ z : Int32, z = fI H5202 a0 (K.1.2 10 38) := ⟨_, rfl⟩
          have bx5242 := ty_fi (x := x5242) (k := 38) ex5242 hTH5202 ga0 rg_112 rfl
          refine x_V (As := []) (rest := []) C (a_X10_readAny_e l K G H5202 (x5203) (x5204) (x5205) (x5206) (x4940) (on) (x5242) (tp) (jb) ((cj4975 + 1)) bt hTH5202 ga0 goq m5225 gaq m5226 gq5241 eq5241 gtq m5207 ex5203 ex5204 ex5205 ex5206 m5238 m5231 ex5242 m5232 m5233 g5208 g5209 g5210 g5211 (by and_intros <;> first | assumption | omega) (by and_intros <;> first | assumption | omega) (by and_intros <;> first | assumption | omega) (cu5240) (hy1) f5221) yo_X10_readAny wM_X10_282 ⟨⟨by decide, by decide⟩, by decide, by decide⟩ (x_rv C hTH5202 (ci := 10) rfl ga0 rg_112) rfl hl4315.1 rfl (Nat.le_of_ble_eq_true rfl) dX10_readLine_79 hSH5202 (AE_sub (fun _ _ => rfl) (by decide) hSH5202.1) (fun vH5243 H5243 locsH5243 pH5243 zH5243 kH5243 hSH5243 => ?_)
          obtain ⟨x5244, x5245, x5246, x5247, x5248, x5249, x5250, x5251, hvH5243, bx5244, ex5245, ex5246, ex5247, ex5248, ex5249, ex5250, ex5251, hrH5243, m5252, m5253, m5254, m5255, g5256, g5257, g5258, g5259, mf5260, m5261, m5262, m5263, m5264, hTH5243⟩ := pH5243
          subst hvH5243
          clear zH5243
          replace m5252 := EQN.mk m5252
          replace m5253 := EQN.mk m5253
          replace m5254 := EQN.mk m5254
          replace m5255 := EQN.mk m5255
          have f5265 : ∀ j : Nat, j ≠ x1.toNatClampNeg → fI H5243 f9 j = fI s.heap f9 j := fun j hj => (fI_kept (x_lt hTH5202 kH5243 gf9 (by decide))).trans (f5218 j hj)
          have f5266 : ∀ j : Nat, j ≠ x1.toNatClampNeg → fI H5243 f0 j = fI s.heap f0 j := fun j hj => (fI_kept (x_lt hTH5202 kH5243 gf0 (by decide))).trans (f5219 j hj)
          have f5267 : ∀ j : Nat, j ≠ x1.toNatClampNeg → fI H5243 f1 j = fI s.heap f1 j := fun j hj => (fI_kept (x_lt hTH5202 kH5243 gf1 (by decide))).trans (f5220 j hj)
          have f5268 : ∀ j : Nat, bt j = (fI H5243 tq j).toInt := fun j => (f5221 j).trans (congrArg Int32.toInt (fI_kept (x_lt hTH5202 kH5243 gtq (by decide))).symm)
          have m5269 := (m5222).trans (fI_kept (x_lt hTH5202 kH5243 gq4316 (by decide))).symm
          have m5270 := (m5223).trans (fI_kept (x_lt hTH5202 kH5243 gf9 (by decide))).symm
          have m5271 := (m5224).trans (fI_kept (x_lt hTH5202 kH5243 gf0 (by decide))).symm
          have m5272 := (m5225).trans (MF.r mf5260 (k := 32) (by decide) (by decide)).symm
          have m5273 := (m5226).trans (MF.r mf5260 (k := 33) (by decide) (by decide)).symm
          have m5274 := (m5227).trans (MF.r mf5260 (k := 29) (by decide) (by decide)).symm
          have m5275 := (m5228).trans (MF.r mf5260 (k := 30) (by decide) (by decide)).symm
          have m5276 := (m5229).trans (MF.r mf5260 (k := 31) (by decide) (by decide)).symm
          have m5277 := (m5207).trans (MF.r mf5260 (k := 17) (by decide) (by decide)).symm
          have m5278 := (m5232).trans (MF.i mf5260 (k := 18) (by decide) (by decide)).symm
          have m5279 := (m5233).trans (MF.i mf5260 (k := 34) (by decide) (by decide)).symm
          have m5280 := (m5234).trans (MF.r mf5260 (k := 25) (by decide) (by decide)).symm
          have m5281 := (m5235).trans (MF.r mf5260 (k := 26) (by decide) (by decide)).symm
          have m5282 := (m5236).trans (MF.r mf5260 (k := 27) (by decide) (by decide)).symm
          have m5283 := (m5237).trans (MF.r mf5260 (k := 28) (by decide) (by decide)).symm
          have m5284 := (eq5241).trans (MF.r mf5260 (k := 37) (by decide) (by decide)).symm
          have mf5285 : MF K s.heap H5243 a0 [19, 20, 21, 22, 35, 36, 38, 39, 40] := MF.trans mf5239 mf5260 (by decide)
          have bx5245 := ty_fi (x := x5245) (k := 19) ex5245 hTH5243 ga0 rg_112 rfl
          have bx5246 := ty_fi (x := x5246) (k := 20) ex5246 hTH5243 ga0 rg_112 rfl
          have bx5247 := ty_fi (x := x5247) (k := 21) ex5247 hTH5243 ga0 rg_112 rfl
          have bx5248 := ty_fi (x := x5248) (k := 22) ex5248 hTH5243 ga0 rg_112 rfl
          have bx5249 := ty_fi (x := x5249) (k := 35) ex5249 hTH5243 ga0 rg_112 rfl
          have bx5250 := ty_fi (x := x5250) (k := 36) ex5250 hTH5243 ga0 rg_112 rfl
          have bx5251 := ty_fi (x := x5251) (k := 38) ex5251 hTH5243 ga0 rg_112 rfl
          have csm5261 := i_cl (x := x4940) (by omega)
          have b5286 : ∀ j : Nat, j < 3000 + mn.toNatClampNeg → fI H5243 oq j = fI s.heap oq j ∧ fI H5243 aq j = fI s.heap aq j := fun j hj => ⟨(m5261 j (by omega)).1.trans (b5216 j hj).1, (m5261 j (by omega)).2.trans (b5216 j hj).2⟩
          have b5287 : WF (fun k => fI H5243 oq k) (fun k => fI H5243 aq k) (3000 + mn.toNatClampNeg) (3000 + x4940.toNatClampNeg) 0 1 := WF.keep b5217 (fun j hj => (m5261 j (by omega)).1) (fun j hj => (m5261 j (by omega)).2)
          refine W.eq (g2 := F0 m 82 ls4314 [.int x5244]) rfl ?_
          refine lv_iconst (v := (-1)) hx hb dX10_readLine_82 (by decide) ?_
          refine lv_icmp_ne (tgt := 88) hx hb dX10_readLine_83 (by decide) (fun c5288 => ?_) (fun c5288 => ?_)
          · have k5289 := i_ne c5288
            replace hrH5243 := hrH5243.resolve_left (by omega)
            obtain ⟨rzH5243, ⟨z1H5243, z2H5243, z3H5243, z4H5243⟩, y1H5243, y2H5243, y3H5243⟩ := hrH5243
            clear r4H5202 r5H5202
            obtain ⟨EA, wa0⟩ : ∃ E, WF (fun k => fI H5243 oq k) (fun k => fI H5243 aq k) (3000 + x4940.toNatClampNeg) (3000 + x5249.toNatClampNeg) 0 E := by
              rcases m5262 with h | h
              · exfalso; omega
              · exact h
            obtain ⟨cj5290, ho5292, cu5291⟩ := RC.yes m5263 (by omega)
            refine lv_aload_n hx hb dX10_readLine_88 rfl (lv_at hl4315 1 rfl) ?_
            refine x_gr C hTH5243 (ci := 10) (k := 31) rfl inX10 (by decide) wF_X10_80 ga0 rg_112 rfl dX10_readLine_89 (fun q5293 eq5293 gq5293 => ?_)
            have uq5293 : f1 = q5293 := (m5276).trans eq5293.symm
            subst uq5293
            clear eq5293
            refine lv_iload_n hx hb dX10_readLine_92 rfl (lv_at hl4315 2 rfl) ?_
            refine lv_aload_n hx hb dX10_readLine_93 rfl (lv_at hl4315 1 rfl) ?_
            refine x_gi C hTH5243 (ci := 10) (k := 35) rfl inX10 (by decide) wF_X10_228 ga0 rg_112 rfl dX10_readLine_94 (fun x5294 ex5294 bx5294 => ?_)
            have ux5294 : x5249 = x5294 := (ex5249).trans ex5294.symm
            subst ux5294
            refine x_iast C hTH5243 hSH5243 gf1 rg_135 (by omega) (by show _ < ((112 : Nat) : Int); omega) ⟨by have := i_rng x5249; omega, by have := i_rng x5249; omega⟩ (AE_in gf1 (by decide)) dX10_readLine_97 (fun H5295 locsH5295 hTH5295 hSH5295 wH5295 => ?_)
            have mf5296 : MF K s.heap H5295 a0 [19, 20, 21, 22, 35, 36, 38, 39, 40] := MF.arr wH5295 (G_ne ga0 gf1 (by decide)) mf5285
            have g5297 : CG (avw K H5295 a0) := CG.putL hTH5243 ga0 wH5295 gf1 (by decide) (by omega) g5256
            have g5298 : TU (avw K H5295 a0) (svw K H5295 a0) := TU.congr (fun k hk j => av_arr hTH5243 ga0 wH5295 gf1 (by decide) (TU_ok 135 (by decide) k hk)) (fun k hk => sv_arr ga0 wH5295 gf1 (by decide)) g5257
            have g5299 : WD (avw K H5295 a0) := WD.congr (fun k hk j => av_arr hTH5243 ga0 wH5295 gf1 (by decide) (WD_ok 135 (by decide) k hk)) g5258
            have g5300 : IM (avw K H5295 a0) := IM.congr (fun k hk j => av_arr hTH5243 ga0 wH5295 gf1 (by decide) (IM_ok 135 (by decide) k hk)) g5259
            have b5301 : ∀ j : Nat, j < 3000 + mn.toNatClampNeg → fI H5295 oq j = fI s.heap oq j ∧ fI H5295 aq j = fI s.heap aq j := fun j hj => ⟨(Wr.neI wH5295 (Or.inl (G_ne goq gf1 (by decide)))).trans (b5286 j hj).1, (Wr.neI wH5295 (Or.inl (G_ne gaq gf1 (by decide)))).trans (b5286 j hj).2⟩
            have b5302 : WF (fun k => fI H5295 oq k) (fun k => fI H5295 aq k) (3000 + mn.toNatClampNeg) (3000 + x4940.toNatClampNeg) 0 1 := WF.congr (fun j => Wr.neI wH5295 (Or.inl (G_ne goq gf1 (by decide)))) (fun j => Wr.neI wH5295 (Or.inl (G_ne gaq gf1 (by decide)))) b5287
            have b5303 : WF (fun k => fI H5295 oq k) (fun k => fI H5295 aq k) (3000 + x4940.toNatClampNeg) (3000 + x5249.toNatClampNeg) 0 EA := WF.congr (fun j => Wr.neI wH5295 (Or.inl (G_ne goq gf1 (by decide)))) (fun j => Wr.neI wH5295 (Or.inl (G_ne gaq gf1 (by decide)))) wa0
            have f5304 : ∀ j : Nat, j ≠ x1.toNatClampNeg → fI H5295 f9 j = fI s.heap f9 j := fun j hj => (Wr.neI wH5295 (Or.inl (G_ne gf9 gf1 (by decide)))).trans (f5265 j hj)
            have f5305 : ∀ j : Nat, j ≠ x1.toNatClampNeg → fI H5295 f0 j = fI s.heap f0 j := fun j hj => (Wr.neI wH5295 (Or.inl (G_ne gf0 gf1 (by decide)))).trans (f5266 j hj)
            have f5306 : ∀ j : Nat, j ≠ x1.toNatClampNeg → fI H5295 f1 j = fI s.heap f1 j := fun j hj => (Wr.neI wH5295 (Or.inr hj)).trans (f5267 j hj)
            have f5307 : ∀ j : Nat, bt j = (fI H5295 tq j).toInt := fun j => (f5268 j).trans (congrArg Int32.toInt (Wr.neI wH5295 (Or.inl (G_ne gtq gf1 (by decide)))).symm)
            have m5308 := m5269.trans (Wr.neI wH5295 (Or.inl (G_ne gq4316 gf1 (by decide)))).symm
            have m5309 := m5270.trans (Wr.neI wH5295 (Or.inl (G_ne gf9 gf1 (by decide)))).symm
            have m5310 := m5271.trans (Wr.neI wH5295 (Or.inl (G_ne gf0 gf1 (by decide)))).symm
            have m5311 := m5252.trans (Wr.neR wH5295 (Or.inl (G_ne ga0 gf1 (by decide)))).symm
            have m5312 := m5253.trans (Wr.neR wH5295 (Or.inl (G_ne ga0 gf1 (by decide)))).symm
            have m5313 := m5274.trans (Wr.neR wH5295 (Or.inl (G_ne ga0 gf1 (by decide)))).symm
            have m5314 := m5275.trans (Wr.neR wH5295 (Or.inl (G_ne ga0 gf1 (by decide)))).symm
            have m5315 := m5276.trans (Wr.neR wH5295 (Or.inl (G_ne ga0 gf1 (by decide)))).symm
            have m5316 := m5255.trans (Wr.neR wH5295 (Or.inl (G_ne ga0 gf1 (by decide)))).symm
            have m5317 := m5278.trans (Wr.neI wH5295 (Or.inl (G_ne ga0 gf1 (by decide)))).symm
            have m5318 := m5279.trans (Wr.neI wH5295 (Or.inl (G_ne ga0 gf1 (by decide)))).symm
            have m5319 := m5280.trans (Wr.neR wH5295 (Or.inl (G_ne ga0 gf1 (by decide)))).symm
            have m5320 := m5281.trans (Wr.neR wH5295 (Or.inl (G_ne ga0 gf1 (by decide)))).symm
            have m5321 := m5282.trans (Wr.neR wH5295 (Or.inl (G_ne ga0 gf1 (by decide)))).symm
            have m5322 := m5283.trans (Wr.neR wH5295 (Or.inl (G_ne ga0 gf1 (by decide)))).symm
            have m5323 := m5254.trans (Wr.neR wH5295 (Or.inl (G_ne ga0 gf1 (by decide)))).symm
            have m5324 := ex5245.trans (Wr.neI wH5295 (Or.inl (G_ne ga0 gf1 (by decide)))).symm
            have m5325 := ex5246.trans (Wr.neI wH5295 (Or.inl (G_ne ga0 gf1 (by decide)))).symm
            have m5326 := ex5247.trans (Wr.neI wH5295 (Or.inl (G_ne ga0 gf1 (by decide)))).symm
            have m5327 := ex5248.trans (Wr.neI wH5295 (Or.inl (G_ne ga0 gf1 (by decide)))).symm
            have m5328 := ex5249.trans (Wr.neI wH5295 (Or.inl (G_ne ga0 gf1 (by decide)))).symm
            have m5329 := ex5250.trans (Wr.neI wH5295 (Or.inl (G_ne ga0 gf1 (by decide)))).symm
            have m5330 := ex5251.trans (Wr.neI wH5295 (Or.inl (G_ne ga0 gf1 (by decide)))).symm
            have m5331 := Wr.I wH5295
            have m5331 := m5331.symm
            refine lv_aload_n hx hb dX10_readLine_98 rfl (lv_at hl4315 1 rfl) ?_
            refine lv_bipush (v := 59) hx hb dX10_readLine_99 (by decide) ?_
            refine x_V (As := [.int 59]) (rest := []) C (a_X10_isSign_e l K G H5295 (59) (x5247) (x5248) hTH5295 ga0 m5326 m5327) yo_X10_isSign wM_X10_249 ⟨⟨by decide, by decide⟩, by decide, by decide⟩ (x_rv C hTH5295 (ci := 10) rfl ga0 rg_112) rfl hl4315.1 rfl (Nat.le_of_ble_eq_true rfl) dX10_readLine_101 hSH5295 (AE_sub (fun _ _ => rfl) (by decide) hSH5295.1) (fun vH5332 H5332 locsH5332 pH5332 zH5332 kH5332 hSH5332 => ?_)
            obtain ⟨x5333, hvH5332, bx5333, hrH5332, hTH5332⟩ := pH5332
            subst hvH5332
            clear zH5332
            have mf5334 : MF K s.heap H5332 a0 [19, 20, 21, 22, 35, 36, 38, 39, 40] := MF.eff (x_lt hTH5295 kH5332 ga0 (by decide)) mf5296
            have b5335 : ∀ j : Nat, j < 3000 + mn.toNatClampNeg → fI H5332 oq j = fI s.heap oq j ∧ fI H5332 aq j = fI s.heap aq j := fun j hj => ⟨(fI_kept (x_lt hTH5295 kH5332 goq (by decide))).trans (b5301 j hj).1, (fI_kept (x_lt hTH5295 kH5332 gaq (by decide))).trans (b5301 j hj).2⟩
            have b5336 : WF (fun k => fI H5332 oq k) (fun k => fI H5332 aq k) (3000 + mn.toNatClampNeg) (3000 + x4940.toNatClampNeg) 0 1 := WF.congr (fun j => fI_kept (x_lt hTH5295 kH5332 goq (by decide))) (fun j => fI_kept (x_lt hTH5295 kH5332 gaq (by decide))) b5302
            have b5337 : WF (fun k => fI H5332 oq k) (fun k => fI H5332 aq k) (3000 + x4940.toNatClampNeg) (3000 + x5249.toNatClampNeg) 0 EA := WF.congr (fun j => fI_kept (x_lt hTH5295 kH5332 goq (by decide))) (fun j => fI_kept (x_lt hTH5295 kH5332 gaq (by decide))) b5303
            have g5338 : CG (avw K H5332 a0) := CG.congr (fun k hk j => av_eff hTH5295 kH5332 ga0 (by decide) (CG_eff [] (by decide) k hk)) g5297
            have g5339 : TU (avw K H5332 a0) (svw K H5332 a0) := TU.congr (fun k hk j => av_eff hTH5295 kH5332 ga0 (by decide) (TU_eff [] (by decide) k hk)) (fun k hk => sv_eff hTH5295 kH5332 ga0 (by decide)) g5298
            have g5340 : WD (avw K H5332 a0) := WD.congr (fun k hk j => av_eff hTH5295 kH5332 ga0 (by decide) (WD_eff [] (by decide) k hk)) g5299
            have g5341 : IM (avw K H5332 a0) := IM.congr (fun k hk j => av_eff hTH5295 kH5332 ga0 (by decide) (IM_eff [] (by decide) k hk)) g5300
            have f5342 : ∀ j : Nat, j ≠ x1.toNatClampNeg → fI H5332 f9 j = fI s.heap f9 j := fun j hj => (fI_kept (x_lt hTH5295 kH5332 gf9 (by decide))).trans (f5304 j hj)
            have f5343 : ∀ j : Nat, j ≠ x1.toNatClampNeg → fI H5332 f0 j = fI s.heap f0 j := fun j hj => (fI_kept (x_lt hTH5295 kH5332 gf0 (by decide))).trans (f5305 j hj)
            have f5344 : ∀ j : Nat, j ≠ x1.toNatClampNeg → fI H5332 f1 j = fI s.heap f1 j := fun j hj => (fI_kept (x_lt hTH5295 kH5332 gf1 (by decide))).trans (f5306 j hj)
            have f5345 : ∀ j : Nat, bt j = (fI H5332 tq j).toInt := fun j => (f5307 j).trans (congrArg Int32.toInt (fI_kept (x_lt hTH5295 kH5332 gtq (by decide))).symm)
            have m5346 := (m5308).trans (fI_kept (x_lt hTH5295 kH5332 gq4316 (by decide))).symm
            have m5347 := (m5309).trans (fI_kept (x_lt hTH5295 kH5332 gf9 (by decide))).symm
            have m5348 := (m5310).trans (fI_kept (x_lt hTH5295 kH5332 gf0 (by decide))).symm
            have m5349 := (m5311).trans (fR_kept (x_lt hTH5295 kH5332 ga0 (by decide))).symm
            have m5350 := (m5312).trans (fR_kept (x_lt hTH5295 kH5332 ga0 (by decide))).symm
            have m5351 := (m5313).trans (fR_kept (x_lt hTH5295 kH5332 ga0 (by decide))).symm
            have m5352 := (m5314).trans (fR_kept (x_lt hTH5295 kH5332 ga0 (by decide))).symm
            have m5353 := (m5315).trans (fR_kept (x_lt hTH5295 kH5332 ga0 (by decide))).symm
            have m5354 := (m5316).trans (fR_kept (x_lt hTH5295 kH5332 ga0 (by decide))).symm
            have m5355 := (m5317).trans (fI_kept (x_lt hTH5295 kH5332 ga0 (by decide))).symm
            have m5356 := (m5318).trans (fI_kept (x_lt hTH5295 kH5332 ga0 (by decide))).symm
            have m5357 := (m5319).trans (fR_kept (x_lt hTH5295 kH5332 ga0 (by decide))).symm
            have m5358 := (m5320).trans (fR_kept (x_lt hTH5295 kH5332 ga0 (by decide))).symm
            have m5359 := (m5321).trans (fR_kept (x_lt hTH5295 kH5332 ga0 (by decide))).symm
            have m5360 := (m5322).trans (fR_kept (x_lt hTH5295 kH5332 ga0 (by decide))).symm
            have m5361 := (m5323).trans (fR_kept (x_lt hTH5295 kH5332 ga0 (by decide))).symm
            have m5362 := (m5324).trans (fI_kept (x_lt hTH5295 kH5332 ga0 (by decide))).symm
            have m5363 := (m5325).trans (fI_kept (x_lt hTH5295 kH5332 ga0 (by decide))).symm
            have m5364 := (m5326).trans (fI_kept (x_lt hTH5295 kH5332 ga0 (by decide))).symm
            have m5365 := (m5327).trans (fI_kept (x_lt hTH5295 kH5332 ga0 (by decide))).symm
            have m5366 := (m5328).trans (fI_kept (x_lt hTH5295 kH5332 ga0 (by decide))).symm
            have m5367 := (m5329).trans (fI_kept (x_lt hTH5295 kH5332 ga0 (by decide))).symm
            have m5368 := (m5330).trans (fI_kept (x_lt hTH5295 kH5332 ga0 (by decide))).symm
            have m5369 := (m5331).trans (fI_kept (x_lt hTH5295 kH5332 gf1 (by decide))).symm
            refine W.eq (g2 := F0 m 104 ls4314 [.int x5333]) rfl ?_
            refine lv_if_ne (tgt := 113) hx hb dX10_readLine_104 (by decide) (fun c5370 => ?_) (fun c5370 => ?_)
            · have k5371 := i_ne c5370
              have k59_ : kK bt tp.toNatClampNeg cj5290 = 59 := (TV.sg (c := 59) cu5291.2.2.1 (by decide)).mp ⟨by omega, by omega⟩
              replace hrH5332 := hrH5332.resolve_left (fun h => absurd h.1 (by omega))
              replace z3H5243 := z3H5243.resolve_left (by omega)
              refine lv_aload_n hx hb dX10_readLine_113 rfl (lv_at hl4315 1 rfl) ?_
              refine x_V (As := []) (rest := []) C (a_X10_reads_e l K G H5332 (x5245) (x5246) (x5247) (x5248) (tp) bt hTH5332 ga0 gtq m5354 m5362 m5363 m5364 m5365 m5355 g5338 g5339 g5340 g5341 (by and_intros <;> first | assumption | omega) (hy1) f5345) yo_X10_reads wM_X10_242 ⟨⟨by decide, by decide⟩, by decide, by decide⟩ (x_rv C hTH5332 (ci := 10) rfl ga0 rg_112) rfl hl4315.1 rfl (Nat.le_of_ble_eq_true rfl) dX10_readLine_114 hSH5332 (AE_sub (fun _ _ => rfl) (by decide) hSH5332.1) (fun vH5372 H5372 locsH5372 pH5372 zH5372 kH5372 hSH5372 => ?_)
              obtain ⟨x5373, x5374, x5375, x5376, hvH5372, ex5373, ex5374, ex5375, ex5376, hrH5372, m5377, g5378, g5379, g5380, g5381, mf5382, m5383, m5384, m5385, hTH5372⟩ := pH5372
              subst hvH5372
              clear zH5372
              replace m5377 := EQN.mk m5377
              have b5386 : ∀ j : Nat, j < 3000 + mn.toNatClampNeg → fI H5372 oq j = fI s.heap oq j ∧ fI H5372 aq j = fI s.heap aq j := fun j hj => ⟨(fI_kept (x_lt hTH5332 kH5372 goq (by decide))).trans (b5335 j hj).1, (fI_kept (x_lt hTH5332 kH5372 gaq (by decide))).trans (b5335 j hj).2⟩
              have b5387 : WF (fun k => fI H5372 oq k) (fun k => fI H5372 aq k) (3000 + mn.toNatClampNeg) (3000 + x4940.toNatClampNeg) 0 1 := WF.congr (fun j => fI_kept (x_lt hTH5332 kH5372 goq (by decide))) (fun j => fI_kept (x_lt hTH5332 kH5372 gaq (by decide))) b5336
              have b5388 : WF (fun k => fI H5372 oq k) (fun k => fI H5372 aq k) (3000 + x4940.toNatClampNeg) (3000 + x5249.toNatClampNeg) 0 EA := WF.congr (fun j => fI_kept (x_lt hTH5332 kH5372 goq (by decide))) (fun j => fI_kept (x_lt hTH5332 kH5372 gaq (by decide))) b5337
              have f5389 : ∀ j : Nat, j ≠ x1.toNatClampNeg → fI H5372 f9 j = fI s.heap f9 j := fun j hj => (fI_kept (x_lt hTH5332 kH5372 gf9 (by decide))).trans (f5342 j hj)
              have f5390 : ∀ j : Nat, j ≠ x1.toNatClampNeg → fI H5372 f0 j = fI s.heap f0 j := fun j hj => (fI_kept (x_lt hTH5332 kH5372 gf0 (by decide))).trans (f5343 j hj)
              have f5391 : ∀ j : Nat, j ≠ x1.toNatClampNeg → fI H5372 f1 j = fI s.heap f1 j := fun j hj => (fI_kept (x_lt hTH5332 kH5372 gf1 (by decide))).trans (f5344 j hj)
              have f5392 : ∀ j : Nat, bt j = (fI H5372 tq j).toInt := fun j => (f5345 j).trans (congrArg Int32.toInt (fI_kept (x_lt hTH5332 kH5372 gtq (by decide))).symm)
              have m5393 := (m5346).trans (fI_kept (x_lt hTH5332 kH5372 gq4316 (by decide))).symm
              have m5394 := (m5347).trans (fI_kept (x_lt hTH5332 kH5372 gf9 (by decide))).symm
              have m5395 := (m5348).trans (fI_kept (x_lt hTH5332 kH5372 gf0 (by decide))).symm
              have m5396 := (m5369).trans (fI_kept (x_lt hTH5332 kH5372 gf1 (by decide))).symm
              have m5397 := (m5349).trans (MF.r mf5382 (k := 32) (by decide) (by decide)).symm
              have m5398 := (m5350).trans (MF.r mf5382 (k := 33) (by decide) (by decide)).symm
              have m5399 := (m5351).trans (MF.r mf5382 (k := 29) (by decide) (by decide)).symm
              have m5400 := (m5352).trans (MF.r mf5382 (k := 30) (by decide) (by decide)).symm
              have m5401 := (m5353).trans (MF.r mf5382 (k := 31) (by decide) (by decide)).symm
              have m5402 := (m5354).trans (MF.r mf5382 (k := 17) (by decide) (by decide)).symm
              have m5403 := (m5355).trans (MF.i mf5382 (k := 18) (by decide) (by decide)).symm
              have m5404 := (m5356).trans (MF.i mf5382 (k := 34) (by decide) (by decide)).symm
              have m5405 := (m5357).trans (MF.r mf5382 (k := 25) (by decide) (by decide)).symm
              have m5406 := (m5358).trans (MF.r mf5382 (k := 26) (by decide) (by decide)).symm
              have m5407 := (m5359).trans (MF.r mf5382 (k := 27) (by decide) (by decide)).symm
              have m5408 := (m5360).trans (MF.r mf5382 (k := 28) (by decide) (by decide)).symm
              have m5409 := (m5361).trans (MF.r mf5382 (k := 37) (by decide) (by decide)).symm
              have m5410 := (m5366).trans (MF.i mf5382 (k := 35) (by decide) (by decide)).symm
              have m5411 := (m5367).trans (MF.i mf5382 (k := 36) (by decide) (by decide)).symm
              have m5412 := (m5368).trans (MF.i mf5382 (k := 38) (by decide) (by decide)).symm
              have mf5413 : MF K s.heap H5372 a0 [19, 20, 21, 22, 35, 36, 38, 39, 40] := MF.trans mf5334 mf5382 (by decide)
              have bx5373 := ty_fi (x := x5373) (k := 19) ex5373 hTH5372 ga0 rg_112 rfl
              have bx5374 := ty_fi (x := x5374) (k := 20) ex5374 hTH5372 ga0 rg_112 rfl
              have bx5375 := ty_fi (x := x5375) (k := 21) ex5375 hTH5372 ga0 rg_112 rfl
              have bx5376 := ty_fi (x := x5376) (k := 22) ex5376 hTH5372 ga0 rg_112 rfl
              have cn_x5374 := i_cl (x := x5374) (by omega)
              have cn_x5246 := i_cl (x := x5246) (by omega)
              have cu5414 : CU bt tp.toNatClampNeg (cj5290 + 1) x5374 x5373 x5375 x5376 := CU.next cu5291 m5383 m5384 m5385 (by omega)
              obtain ⟨r1H5372, r2H5372, r3H5372, r4H5372, r5H5372⟩ := hrH5372
              clear z3H5243 z4H5243
              refine W.eq (g2 := F0 m 117 ls4314 []) rfl ?_
              refine lv_iconst (v := 0) hx hb dX10_readLine_117 (by decide) ?_
              have cx_x5249 := i_cl (x := x5249) (by omega)
              exact x_iret C hQ dX10_readLine_118 hSH5372 (by decide) (by decide) (⟨0, x5373, x5374, x5375, x5376, x5249, x5250, rfl, by decide, ex5373, ex5374, ex5375, ex5376, m5410, m5411, Or.inr (by and_intros <;> first | assumption | omega), m5397, m5398, m5399, m5400, m5401, m5377, g5378, g5379, g5380, g5381, mf5413, b5386, f5389, f5390, f5391, Or.inr (LNW.mk (a := fun k => fI H5372 f9 k) (b := fun k => fI H5372 f0 k) (c := fun k => fI H5372 f1 k) m5394 m5395 m5396 (by omega) (by omega) (by omega) (by omega) (WF.cast b5387 (by omega) (by omega)) (WF.cast b5388 (by omega) (by omega))), Or.inr ⟨_, (ln_go (HD.get hb0) rfl rfl ((hs_n1 (by omega) hx0 ho4421).trans ho4977) (wn_yes kw_ rfl ho5292)).trans (if_pos k59_), by omega, cu5414⟩, Or.inr (m5264.resolve_left (by omega)), hTH5372⟩)
            · have k5371 := i_eq c5370
              refine lv_aload_n hx hb dX10_readLine_107 rfl (lv_at hl4315 1 rfl) ?_
              refine lv_iconst (v := 1) hx hb dX10_readLine_108 (by decide) ?_
              refine x_V (As := [.int 1]) (rest := []) C (a_X10_fails l K G H5332 (1) hTH5332 ga0 g5338 g5339 g5340 g5341) yo_X10_fails wM_X10_235 ⟨⟨by decide, by decide⟩, by decide, by decide⟩ (x_rv C hTH5332 (ci := 10) rfl ga0 rg_112) rfl hl4315.1 rfl (Nat.le_of_ble_eq_true rfl) dX10_readLine_109 hSH5332 (AE_sub (fun _ _ => rfl) (by decide) hSH5332.1) (fun vH5415 H5415 locsH5415 pH5415 zH5415 kH5415 hSH5415 => ?_)
              obtain ⟨x5416, hvH5415, bx5416, g5417, g5418, g5419, g5420, mf5421, hTH5415⟩ := pH5415
              subst hvH5415
              clear zH5415
              have b5422 : ∀ j : Nat, j < 3000 + mn.toNatClampNeg → fI H5415 oq j = fI s.heap oq j ∧ fI H5415 aq j = fI s.heap aq j := fun j hj => ⟨(fI_kept (x_lt hTH5332 kH5415 goq (by decide))).trans (b5335 j hj).1, (fI_kept (x_lt hTH5332 kH5415 gaq (by decide))).trans (b5335 j hj).2⟩
              have b5423 : WF (fun k => fI H5415 oq k) (fun k => fI H5415 aq k) (3000 + mn.toNatClampNeg) (3000 + x4940.toNatClampNeg) 0 1 := WF.congr (fun j => fI_kept (x_lt hTH5332 kH5415 goq (by decide))) (fun j => fI_kept (x_lt hTH5332 kH5415 gaq (by decide))) b5336
              have b5424 : WF (fun k => fI H5415 oq k) (fun k => fI H5415 aq k) (3000 + x4940.toNatClampNeg) (3000 + x5249.toNatClampNeg) 0 EA := WF.congr (fun j => fI_kept (x_lt hTH5332 kH5415 goq (by decide))) (fun j => fI_kept (x_lt hTH5332 kH5415 gaq (by decide))) b5337
              have f5425 : ∀ j : Nat, j ≠ x1.toNatClampNeg → fI H5415 f9 j = fI s.heap f9 j := fun j hj => (fI_kept (x_lt hTH5332 kH5415 gf9 (by decide))).trans (f5342 j hj)
              have f5426 : ∀ j : Nat, j ≠ x1.toNatClampNeg → fI H5415 f0 j = fI s.heap f0 j := fun j hj => (fI_kept (x_lt hTH5332 kH5415 gf0 (by decide))).trans (f5343 j hj)
              have f5427 : ∀ j : Nat, j ≠ x1.toNatClampNeg → fI H5415 f1 j = fI s.heap f1 j := fun j hj => (fI_kept (x_lt hTH5332 kH5415 gf1 (by decide))).trans (f5344 j hj)
              have f5428 : ∀ j : Nat, bt j = (fI H5415 tq j).toInt := fun j => (f5345 j).trans (congrArg Int32.toInt (fI_kept (x_lt hTH5332 kH5415 gtq (by decide))).symm)
              have m5429 := (m5346).trans (fI_kept (x_lt hTH5332 kH5415 gq4316 (by decide))).symm
              have m5430 := (m5347).trans (fI_kept (x_lt hTH5332 kH5415 gf9 (by decide))).symm
              have m5431 := (m5348).trans (fI_kept (x_lt hTH5332 kH5415 gf0 (by decide))).symm
              have m5432 := (m5369).trans (fI_kept (x_lt hTH5332 kH5415 gf1 (by decide))).symm
              have m5433 := (m5349).trans (MF.r mf5421 (k := 32) (by decide) (by decide)).symm
              have m5434 := (m5350).trans (MF.r mf5421 (k := 33) (by decide) (by decide)).symm
              have m5435 := (m5351).trans (MF.r mf5421 (k := 29) (by decide) (by decide)).symm
              have m5436 := (m5352).trans (MF.r mf5421 (k := 30) (by decide) (by decide)).symm
              have m5437 := (m5353).trans (MF.r mf5421 (k := 31) (by decide) (by decide)).symm
              have m5438 := (m5354).trans (MF.r mf5421 (k := 17) (by decide) (by decide)).symm
              have m5439 := (m5355).trans (MF.i mf5421 (k := 18) (by decide) (by decide)).symm
              have m5440 := (m5356).trans (MF.i mf5421 (k := 34) (by decide) (by decide)).symm
              have m5441 := (m5357).trans (MF.r mf5421 (k := 25) (by decide) (by decide)).symm
              have m5442 := (m5358).trans (MF.r mf5421 (k := 26) (by decide) (by decide)).symm
              have m5443 := (m5359).trans (MF.r mf5421 (k := 27) (by decide) (by decide)).symm
              have m5444 := (m5360).trans (MF.r mf5421 (k := 28) (by decide) (by decide)).symm
              have m5445 := (m5361).trans (MF.r mf5421 (k := 37) (by decide) (by decide)).symm
              have m5446 := (m5362).trans (MF.i mf5421 (k := 19) (by decide) (by decide)).symm
              have m5447 := (m5363).trans (MF.i mf5421 (k := 20) (by decide) (by decide)).symm
              have m5448 := (m5364).trans (MF.i mf5421 (k := 21) (by decide) (by decide)).symm
              have m5449 := (m5365).trans (MF.i mf5421 (k := 22) (by decide) (by decide)).symm
              have m5450 := (m5366).trans (MF.i mf5421 (k := 35) (by decide) (by decide)).symm
              have m5451 := (m5367).trans (MF.i mf5421 (k := 36) (by decide) (by decide)).symm
              have m5452 := (m5368).trans (MF.i mf5421 (k := 38) (by decide) (by decide)).symm
              have mf5453 : MF K s.heap H5415 a0 [19, 20, 21, 22, 35, 36, 38, 39, 40] := MF.trans mf5334 mf5421 (by decide)
              refine W.eq (g2 := F0 m 112 ls4314 [.int x5416]) rfl ?_
              have k59_ : kK bt tp.toNatClampNeg cj5290 ≠ 59 := fun e => by have z_ := (TV.sg (c := 59) cu5291.2.2.1 (by decide)).mpr e; omega
              exact x_iret C hQ dX10_readLine_112 hSH5415 (by decide) (by decide) (⟨x5416, x5245, x5246, x5247, x5248, x5249, x5250, rfl, by omega, m5446, m5447, m5448, m5449, m5450, m5451, Or.inl (by omega), m5433, m5434, m5435, m5436, m5437, m5438, g5417, g5418, g5419, g5420, mf5453, b5422, f5425, f5426, f5427, Or.inl (by omega), Or.inl ⟨(ln_go (HD.get hb0) rfl rfl ((hs_n1 (by omega) hx0 ho4421).trans ho4977) (wn_yes kw_ rfl ho5292)).trans (if_neg k59_), by omega⟩, Or.inl (by omega), hTH5415⟩)
          · have k5289 := i_eq c5288
            refine lv_iconst (v := (-1)) hx hb dX10_readLine_86 (by decide) ?_
            exact x_iret C hQ dX10_readLine_87 hSH5243 (by decide) (by decide) (⟨(-1), x5245, x5246, x5247, x5248, x5249, x5250, rfl, by decide, ex5245, ex5246, ex5247, ex5248, ex5249, ex5250, Or.inl (by omega), m5252, m5253, m5274, m5275, m5276, m5255, g5256, g5257, g5258, g5259, mf5285, b5286, f5265, f5266, f5267, Or.inl (by omega), Or.inl ⟨ln_no2 (HD.get hb0) rfl rfl ((hs_n1 (by omega) hx0 ho4421).trans ho4977) (wn_no kw_ rfl (RC.no m5263 (by omega))), by omega⟩, Or.inl (by omega), hTH5243⟩)
      · have k4974 := i_eq c4973
        refine lv_iconst (v := (-1)) hx hb dX10_readLine_53 (by decide) ?_
        exact x_iret C hQ dX10_readLine_54 hSH4934 (by decide) (by decide) (⟨(-1), x4936, x4937, x4938, x4939, x4940, on, rfl, by decide, ex4936, ex4937, ex4938, ex4939, ex4940, m4964, Or.inl (by omega), m4941, m4942, m4960, m4961, m4962, m4943, g4944, g4945, g4946, g4947, mf4971, b4972, f4952, f4953, f4954, Or.inl (by omega), Or.inl ⟨ln_no1 (HD.get hb0) rfl rfl ((hs_n1 (by omega) hx0 ho4421).trans (RC.no m4951 (by omega))), by omega⟩, Or.inl (by omega), hTH4934⟩)
  · have k4418 := i_eq c4417
    refine lv_iconst (v := (-1)) hx hb dX10_readLine_26 (by decide) ?_
    exact x_iret C hQ dX10_readLine_27 hSH4380 (by decide) (by decide) (⟨(-1), x4382, x4383, x4384, x4385, mn, on, rfl, by decide, ex4382, ex4383, ex4384, ex4385, m4408, m4409, Or.inl (by omega), m4402, m4403, m4404, m4405, m4406, m4386, g4390, g4391, g4392, g4393, mf4416, b4396, f4397, f4398, f4399, Or.inl (by omega), Or.inl ⟨ln_no1 (HD.get hb0) rfl rfl (hs_n0 hx0 (RC.no m4395 (by omega))), by omega⟩, Or.inl (by omega), hTH4380⟩)
