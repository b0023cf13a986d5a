set_option maxHeartbeats 4000000 in
set_option maxRecDepth 100000 in
theorem a_X10_readLine_g (l : Launch) (K : KE) (G : Nat → Option Nat) (H : Heap) {a0 : Nat} (x1 : Int32) {oq : Nat} {aq : Nat} {f9 : Nat} {f0 : Nat} {f1 : Nat} {tq : Nat} {l1 : Nat} {l2 : Nat} {l3 : Nat} {lsq : Nat} (sp : Int32) (fr : Int32) (tk : Int32) (vl : Int32) (mn : Int32) (on : Int32) (tp : Int32) (jb : Int32) (ci : Nat) (bt : Nat → Int) (hT : TY K G H) (ga0 : G a0 = some 112) (hx1 : 96 ≤ x1.toInt ∧ x1.toInt ≤ 111) (goq : G oq = some 136) (eoq : @Eq Ad oq (fR H a0 (K.1.2 10 32))) (gaq : G aq = some 137) (eaq : @Eq Ad aq (fR H a0 (K.1.2 10 33))) (gf9 : G f9 = some 133) (ef9 : @Eq Ad f9 (fR H a0 (K.1.2 10 29))) (gf0 : G f0 = some 134) (ef0 : @Eq Ad f0 (fR H a0 (K.1.2 10 30))) (gf1 : G f1 = some 135) (ef1 : @Eq Ad f1 (fR H a0 (K.1.2 10 31))) (gtq : G tq = some 126) (etq : @Eq Ad tq (fR H a0 (K.1.2 10 17))) (gl1 : G l1 = some 130) (el1 : @Eq Ad l1 (fR H a0 (K.1.2 10 26))) (gl2 : G l2 = some 131) (el2 : @Eq Ad l2 (fR H a0 (K.1.2 10 27))) (gl3 : G l3 = some 132) (el3 : @Eq Ad l3 (fR H a0 (K.1.2 10 28))) (glsq : G lsq = some 129) (elsq : @Eq Ad lsq (fR H a0 (K.1.2 10 25))) (esp : sp = fI H a0 (K.1.2 10 19)) (efr : fr = fI H a0 (K.1.2 10 20)) (etk : tk = fI H a0 (K.1.2 10 21)) (evl : vl = fI H a0 (K.1.2 10 22)) (emn : mn = fI H a0 (K.1.2 10 35)) (eon : on = fI H a0 (K.1.2 10 36)) (etp : tp = fI H a0 (K.1.2 10 18)) (ejb : jb = fI H a0 (K.1.2 10 34)) (hg_CG : CG (avw K H a0)) (hg_TU : TU (avw K H a0) (svw K H a0)) (hg_WD : WD (avw K H a0)) (hg_IM : IM (avw K H a0)) (hp0 : (sp.toInt ≤ tp.toInt ∧ fr.toInt ≤ sp.toInt ∧ (tk.toInt = 0 ∨ fr.toInt < sp.toInt) ∧ (tk.toInt ≠ 2 ∨ (0 ≤ vl.toInt ∧ vl.toInt ≤ 23)))) (hp1 : mn.toInt ≤ fr.toInt) (hp2 : tk.toInt = 2) (hp3 : (jb.toInt = 0 ∧ vl.toInt ≤ 3) ∨ (jb.toInt = 1 ∧ (vl.toInt = 4 ∨ vl.toInt = 5 ∨ vl.toInt = 17))) (hp4 : on.toInt = 0) (hy0 : CU bt tp.toNatClampNeg ci fr sp tk vl) (hy1 : ∀ j : Nat, j < tp.toNatClampNeg → 0 ≤ bt j) (hv_bt : ∀ j : Nat, bt j = (fI H tq j).toInt) : MX l K yX10_readLine cX10_readLine 3 (some .int) 8 172 0 0 [.ref a0, .int x1] H (AE G [112, 136, 137, 138, 129, 130, 131, 132, 133, 134, 135] H.size) (fun v H1 => ∃ (r : Int32) (t0 : Int32) (t1 : Int32) (t2 : Int32) (t3 : Int32) (t4 : Int32) (t5 : Int32), v = some (.int r) ∧ ((-1) ≤ r.toInt ∧ r.toInt ≤ 0) ∧ t0 = fI H1 a0 (K.1.2 10 19) ∧ t1 = fI H1 a0 (K.1.2 10 20) ∧ t2 = fI H1 a0 (K.1.2 10 21) ∧ t3 = fI H1 a0 (K.1.2 10 22) ∧ t4 = fI H1 a0 (K.1.2 10 35) ∧ t5 = fI H1 a0 (K.1.2 10 36) ∧ (r.toInt = -1 ∨ (r.toInt = 0 ∧ (t0.toInt ≤ tp.toInt ∧ t1.toInt ≤ t0.toInt ∧ (t2.toInt = 0 ∨ t1.toInt < t0.toInt) ∧ (t2.toInt ≠ 2 ∨ (0 ≤ t3.toInt ∧ t3.toInt ≤ 23))) ∧ t4.toInt + fr.toInt ≤ mn.toInt + t1.toInt ∧ mn.toInt ≤ t4.toInt ∧ fr.toInt < t1.toInt)) ∧ @Eq Ad oq (fR H1 a0 (K.1.2 10 32)) ∧ @Eq Ad aq (fR H1 a0 (K.1.2 10 33)) ∧ @Eq Ad f9 (fR H1 a0 (K.1.2 10 29)) ∧ @Eq Ad f0 (fR H1 a0 (K.1.2 10 30)) ∧ @Eq Ad f1 (fR H1 a0 (K.1.2 10 31)) ∧ @Eq Ad tq (fR H1 a0 (K.1.2 10 17)) ∧ @Eq Ad l1 (fR H1 a0 (K.1.2 10 26)) ∧ @Eq Ad l2 (fR H1 a0 (K.1.2 10 27)) ∧ @Eq Ad l3 (fR H1 a0 (K.1.2 10 28)) ∧ @Eq Ad lsq (fR H1 a0 (K.1.2 10 25)) ∧ (CG (avw K H1 a0)) ∧ (TU (avw K H1 a0) (svw K H1 a0)) ∧ (WD (avw K H1 a0)) ∧ (IM (avw K H1 a0)) ∧ MF K H H1 a0 [19, 20, 21, 22, 35, 36, 38, 39, 40] ∧ (∀ j : Nat, j < 3000 + mn.toNatClampNeg → fI H1 oq j = fI H oq j ∧ fI H1 aq j = fI H aq j) ∧ (∀ j : Nat, j ≠ x1.toNatClampNeg → fI H1 lsq j = fI H lsq j) ∧ (∀ j : Nat, j ≠ x1.toNatClampNeg → fI H1 l1 j = fI H l1 j) ∧ (∀ j : Nat, j ≠ x1.toNatClampNeg → fI H1 l2 j = fI H l2 j) ∧ (∀ j : Nat, j ≠ x1.toNatClampNeg → fI H1 l3 j = fI H l3 j) ∧ (∀ j : Nat, j ≠ x1.toNatClampNeg → fI H1 f9 j = fI H f9 j) ∧ (∀ j : Nat, j ≠ x1.toNatClampNeg → fI H1 f0 j = fI H f0 j) ∧ (∀ j : Nat, j ≠ x1.toNatClampNeg → fI H1 f1 j = fI H f1 j) ∧ (r.toInt = -1 ∨ LNW (fun k => fI H1 f9 k) (fun k => fI H1 f0 k) (fun k => fI H1 f1 k) (fun k => fI H1 oq k) (fun k => fI H1 aq k) x1.toNatClampNeg mn.toInt t4.toInt) ∧ (RC (lnI (kK bt tp.toNatClampNeg) (vV bt tp.toNatClampNeg) (1 - jb.toInt) ci) r bt tp.toNatClampNeg t1 t0 t2 t3) ∧ (r.toInt = -1 ∨ t5.toInt = 0) ∧ (r.toInt = -1 ∨ LNR (kK bt tp.toNatClampNeg) (vV bt tp.toNatClampNeg) (1 - jb.toInt) ci (fI H1 lsq x1.toNatClampNeg) (fI H1 l1 x1.toNatClampNeg) (fI H1 l2 x1.toNatClampNeg) (fI H1 l3 x1.toNatClampNeg) (fI H1 f9 x1.toNatClampNeg) (fI H1 f0 x1.toNatClampNeg) (fI H1 f1 x1.toNatClampNeg) (fun i => fI H1 oq i) (fun i => fI H1 aq i) 3000) ∧ (r.toInt = -1 ∨ ((fI H1 f0 x1.toNatClampNeg).toInt ≤ t4.toInt ∧ (fI H1 f1 x1.toNatClampNeg).toInt ≤ t4.toInt)) ∧ TY K G H1) := by
  refine MX.of (by decide +kernel) (Nat.le_of_ble_eq_true rfl) ?_
  intro p e s m below meth c ls Q C hH hl hQ
  subst hH
  have C : CX p K s m _ meth c RX10 cX10_readLine 3 (some .int) "readLine" := C
  obtain ⟨hx, hb, hml, hown, hts, hKT, hr, hlocks, hnm⟩ := id C
  have hl : lv_has ls 3 [(0, .ref a0), (1, .int x1)] := hl
  have hS : va_S (AE G [112, 136, 137, 138, 129, 130, 131, 132, 133, 134, 135] s.heap.size) s.heap s.heap [] := va_S.rf
  have n_m1 : ((-1) : Int32).toInt = -1 := rfl
  have n_0 : (0 : Int32).toInt = 0 := rfl
  have n_1 : (1 : Int32).toInt = 1 := rfl
  have n_6 : (6 : Int32).toInt = 6 := rfl
  have n_59 : (59 : Int32).toInt = 59 := rfl
  have bsp := ty_fi (x := sp) (k := 19) esp hT ga0 rg_112 rfl
  have bfr := ty_fi (x := fr) (k := 20) efr hT ga0 rg_112 rfl
  have btk := ty_fi (x := tk) (k := 21) etk hT ga0 rg_112 rfl
  have bvl := ty_fi (x := vl) (k := 22) evl hT ga0 rg_112 rfl
  have bmn := ty_fi (x := mn) (k := 35) emn hT ga0 rg_112 rfl
  have bon := ty_fi (x := on) (k := 36) eon hT ga0 rg_112 rfl
  have btp := ty_fi (x := tp) (k := 18) etp hT ga0 rg_112 rfl
  have bjb := ty_fi (x := jb) (k := 34) ejb hT ga0 rg_112 rfl
  have hap : ∀ x y, x < 74 → y < 74 → x ≠ y → K.1.2 10 x ≠ K.1.2 10 y := x_apart hKT hts inX10 tyX10 tyX10_ok nmX10 rfl
  have mf0 : MF K s.heap s.heap a0 [19, 20, 21, 22, 35, 36, 38, 39, 40] := fun _ _ _ => rfl
  replace eoq := EQN.mk eoq
  replace eaq := EQN.mk eaq
  replace ef9 := EQN.mk ef9
  replace ef0 := EQN.mk ef0
  replace ef1 := EQN.mk ef1
  replace etq := EQN.mk etq
  replace el1 := EQN.mk el1
  replace el2 := EQN.mk el2
  replace el3 := EQN.mk el3
  replace elsq := EQN.mk elsq
  have f0_us : ∀ j : Nat, j ≠ x1.toNatClampNeg → fI s.heap lsq j = fI s.heap lsq j := fun _ _ => rfl
  have f0_v1 : ∀ j : Nat, j ≠ x1.toNatClampNeg → fI s.heap l1 j = fI s.heap l1 j := fun _ _ => rfl
  have f0_v2 : ∀ j : Nat, j ≠ x1.toNatClampNeg → fI s.heap l2 j = fI s.heap l2 j := fun _ _ => rfl
  have f0_v3 : ∀ j : Nat, j ≠ x1.toNatClampNeg → fI s.heap l3 j = fI s.heap l3 j := fun _ _ => rfl
  have f0_u9 : ∀ j : Nat, j ≠ x1.toNatClampNeg → fI s.heap f9 j = fI s.heap f9 j := fun _ _ => rfl
  have f0_u0 : ∀ j : Nat, j ≠ x1.toNatClampNeg → fI s.heap f0 j = fI s.heap f0 j := fun _ _ => rfl
  have f0_u1 : ∀ j : Nat, j ≠ x1.toNatClampNeg → fI s.heap f1 j = fI s.heap f1 j := fun _ _ => rfl
  have f0_bt := hv_bt
  obtain ⟨hb0, hx0⟩ := TV.bg (j := jb.toInt) hy0.2.2.1 (by omega) (by omega)
  replace hb0 := HD.mk hb0
  have pf00 : ∀ j : Nat, j < 3000 + mn.toNatClampNeg → fI s.heap oq j = fI s.heap oq j ∧ fI s.heap aq j = fI s.heap aq j := fun _ _ => ⟨rfl, rfl⟩
  have hmn := i_cl (x := mn) (by omega)
  obtain ⟨j1, j2, j3, j4⟩ := hp0
  replace j3 := j3.resolve_left (by omega)
  replace j4 := j4.resolve_left (by omega)
  refine lv_aload_n hx hb dX10_readLine_0 rfl (lv_at hl 0 rfl) ?_
  refine x_gi C hT (ci := 10) (k := 22) rfl inX10 (by decide) wF_X10_205 ga0 rg_112 rfl dX10_readLine_1 (fun x4813 ex4813 bx4813 => ?_)
  have ux4813 : vl = x4813 := (evl).trans ex4813.symm
  subst ux4813
  refine lv_istore_n (lv' := [(2, .int vl), (0, .ref a0), (1, .int x1)]) hx hb dX10_readLine_4 rfl hl (by decide) rfl (fun ls4814 hl4815 => ?_)
  refine lv_aload_n hx hb dX10_readLine_5 rfl (lv_at hl4815 1 rfl) ?_
  refine x_gr C hT (ci := 10) (k := 25) rfl inX10 (by decide) wF_X10_62 ga0 rg_112 rfl dX10_readLine_6 (fun q4816 eq4816 gq4816 => ?_)
  have uq4816 : lsq = q4816 := (elsq).trans eq4816.symm
  subst uq4816
  clear eq4816
  refine lv_iload_n hx hb dX10_readLine_9 rfl (lv_at hl4815 2 rfl) ?_
  refine lv_iload_n hx hb dX10_readLine_10 rfl (lv_at hl4815 0 rfl) ?_
  refine x_iast C hT hS glsq rg_129 (by omega) (by show _ < ((112 : Nat) : Int); omega) (i_rng vl) (AE_in glsq (by decide)) dX10_readLine_11 (fun H4817 locsH4817 hTH4817 hSH4817 wH4817 => ?_)
  have mf4818 : MF K s.heap H4817 a0 [19, 20, 21, 22, 35, 36, 38, 39, 40] := MF.arr wH4817 (G_ne ga0 glsq (by decide)) mf0
  have g4819 : CG (avw K H4817 a0) := CG.congr (fun k hk j => av_arr hT ga0 wH4817 glsq (by decide) (CG_ok 129 (by decide) k hk)) hg_CG
  have g4820 : TU (avw K H4817 a0) (svw K H4817 a0) := TU.congr (fun k hk j => av_arr hT ga0 wH4817 glsq (by decide) (TU_ok 129 (by decide) k hk)) (fun k hk => sv_arr ga0 wH4817 glsq (by decide)) hg_TU
  have g4821 : WD (avw K H4817 a0) := WD.congr (fun k hk j => av_arr hT ga0 wH4817 glsq (by decide) (WD_ok 129 (by decide) k hk)) hg_WD
  have g4822 : IM (avw K H4817 a0) := IM.congr (fun k hk j => av_arr hT ga0 wH4817 glsq (by decide) (IM_ok 129 (by decide) k hk)) hg_IM
  have b4823 : ∀ j : Nat, j < 3000 + mn.toNatClampNeg → fI H4817 oq j = fI s.heap oq j ∧ fI H4817 aq j = fI s.heap aq j := fun j hj => ⟨(Wr.neI wH4817 (Or.inl (G_ne goq glsq (by decide)))).trans (pf00 j hj).1, (Wr.neI wH4817 (Or.inl (G_ne gaq glsq (by decide)))).trans (pf00 j hj).2⟩
  have f4824 : ∀ j : Nat, j ≠ x1.toNatClampNeg → fI H4817 lsq j = fI s.heap lsq j := fun j hj => (Wr.neI wH4817 (Or.inr hj)).trans (f0_us j hj)
  have f4825 : ∀ j : Nat, j ≠ x1.toNatClampNeg → fI H4817 l1 j = fI s.heap l1 j := fun j hj => (Wr.neI wH4817 (Or.inl (G_ne gl1 glsq (by decide)))).trans (f0_v1 j hj)
  have f4826 : ∀ j : Nat, j ≠ x1.toNatClampNeg → fI H4817 l2 j = fI s.heap l2 j := fun j hj => (Wr.neI wH4817 (Or.inl (G_ne gl2 glsq (by decide)))).trans (f0_v2 j hj)
  have f4827 : ∀ j : Nat, j ≠ x1.toNatClampNeg → fI H4817 l3 j = fI s.heap l3 j := fun j hj => (Wr.neI wH4817 (Or.inl (G_ne gl3 glsq (by decide)))).trans (f0_v3 j hj)
  have f4828 : ∀ j : Nat, j ≠ x1.toNatClampNeg → fI H4817 f9 j = fI s.heap f9 j := fun j hj => (Wr.neI wH4817 (Or.inl (G_ne gf9 glsq (by decide)))).trans (f0_u9 j hj)
  have f4829 : ∀ j : Nat, j ≠ x1.toNatClampNeg → fI H4817 f0 j = fI s.heap f0 j := fun j hj => (Wr.neI wH4817 (Or.inl (G_ne gf0 glsq (by decide)))).trans (f0_u0 j hj)
  have f4830 : ∀ j : Nat, j ≠ x1.toNatClampNeg → fI H4817 f1 j = fI s.heap f1 j := fun j hj => (Wr.neI wH4817 (Or.inl (G_ne gf1 glsq (by decide)))).trans (f0_u1 j hj)
  have f4831 : ∀ j : Nat, bt j = (fI H4817 tq j).toInt := fun j => (f0_bt j).trans (congrArg Int32.toInt (Wr.neI wH4817 (Or.inl (G_ne gtq glsq (by decide)))).symm)
  have m4832 := eoq.trans (Wr.neR wH4817 (Or.inl (G_ne ga0 glsq (by decide)))).symm
  have m4833 := eaq.trans (Wr.neR wH4817 (Or.inl (G_ne ga0 glsq (by decide)))).symm
  have m4834 := ef9.trans (Wr.neR wH4817 (Or.inl (G_ne ga0 glsq (by decide)))).symm
  have m4835 := ef0.trans (Wr.neR wH4817 (Or.inl (G_ne ga0 glsq (by decide)))).symm
  have m4836 := ef1.trans (Wr.neR wH4817 (Or.inl (G_ne ga0 glsq (by decide)))).symm
  have m4837 := etq.trans (Wr.neR wH4817 (Or.inl (G_ne ga0 glsq (by decide)))).symm
  have m4838 := el1.trans (Wr.neR wH4817 (Or.inl (G_ne ga0 glsq (by decide)))).symm
  have m4839 := el2.trans (Wr.neR wH4817 (Or.inl (G_ne ga0 glsq (by decide)))).symm
  have m4840 := el3.trans (Wr.neR wH4817 (Or.inl (G_ne ga0 glsq (by decide)))).symm
  have m4841 := elsq.trans (Wr.neR wH4817 (Or.inl (G_ne ga0 glsq (by decide)))).symm
  have m4842 := esp.trans (Wr.neI wH4817 (Or.inl (G_ne ga0 glsq (by decide)))).symm
  have m4843 := efr.trans (Wr.neI wH4817 (Or.inl (G_ne ga0 glsq (by decide)))).symm
  have m4844 := etk.trans (Wr.neI wH4817 (Or.inl (G_ne ga0 glsq (by decide)))).symm
  have m4845 := evl.trans (Wr.neI wH4817 (Or.inl (G_ne ga0 glsq (by decide)))).symm
  have m4846 := emn.trans (Wr.neI wH4817 (Or.inl (G_ne ga0 glsq (by decide)))).symm
  have m4847 := eon.trans (Wr.neI wH4817 (Or.inl (G_ne ga0 glsq (by decide)))).symm
  have m4848 := etp.trans (Wr.neI wH4817 (Or.inl (G_ne ga0 glsq (by decide)))).symm
  have m4849 := ejb.trans (Wr.neI wH4817 (Or.inl (G_ne ga0 glsq (by decide)))).symm
  have m4850 := Wr.I wH4817
  have m4850 := m4850.symm
  refine lv_aload_n hx hb dX10_readLine_12 rfl (lv_at hl4815 1 rfl) ?_
  refine x_V (As := []) (rest := []) C (a_X10_reads_e l K G H4817 (sp) (fr) (tk) (vl) (tp) bt hTH4817 ga0 gtq m4837 m4842 m4843 m4844 m4845 m4848 g4819 g4820 g4821 g4822 (by and_intros <;> first | assumption | omega) (hy1) f4831) yo_X10_reads wM_X10_242 ⟨⟨by decide, by decide⟩, by decide, by decide⟩ (x_rv C hTH4817 (ci := 10) rfl ga0 rg_112) rfl hl4815.1 rfl (Nat.le_of_ble_eq_true rfl) dX10_readLine_13 hSH4817 (AE_sub (fun _ _ => rfl) (by decide) hSH4817.1) (fun vH4851 H4851 locsH4851 pH4851 zH4851 kH4851 hSH4851 => ?_)
  obtain ⟨x4852, x4853, x4854, x4855, hvH4851, ex4852, ex4853, ex4854, ex4855, hrH4851, m4856, g4857, g4858, g4859, g4860, mf4861, m4862, m4863, m4864, hTH4851⟩ := pH4851
  subst hvH4851
  clear zH4851
  replace m4856 := EQN.mk m4856
  have b4865 : ∀ j : Nat, j < 3000 + mn.toNatClampNeg → fI H4851 oq j = fI s.heap oq j ∧ fI H4851 aq j = fI s.heap aq j := fun j hj => ⟨(fI_kept (x_lt hTH4817 kH4851 goq (by decide))).trans (b4823 j hj).1, (fI_kept (x_lt hTH4817 kH4851 gaq (by decide))).trans (b4823 j hj).2⟩
  have f4866 : ∀ j : Nat, j ≠ x1.toNatClampNeg → fI H4851 lsq j = fI s.heap lsq j := fun j hj => (fI_kept (x_lt hTH4817 kH4851 glsq (by decide))).trans (f4824 j hj)
  have f4867 : ∀ j : Nat, j ≠ x1.toNatClampNeg → fI H4851 l1 j = fI s.heap l1 j := fun j hj => (fI_kept (x_lt hTH4817 kH4851 gl1 (by decide))).trans (f4825 j hj)
  have f4868 : ∀ j : Nat, j ≠ x1.toNatClampNeg → fI H4851 l2 j = fI s.heap l2 j := fun j hj => (fI_kept (x_lt hTH4817 kH4851 gl2 (by decide))).trans (f4826 j hj)
  have f4869 : ∀ j : Nat, j ≠ x1.toNatClampNeg → fI H4851 l3 j = fI s.heap l3 j := fun j hj => (fI_kept (x_lt hTH4817 kH4851 gl3 (by decide))).trans (f4827 j hj)
  have f4870 : ∀ j : Nat, j ≠ x1.toNatClampNeg → fI H4851 f9 j = fI s.heap f9 j := fun j hj => (fI_kept (x_lt hTH4817 kH4851 gf9 (by decide))).trans (f4828 j hj)
  have f4871 : ∀ j : Nat, j ≠ x1.toNatClampNeg → fI H4851 f0 j = fI s.heap f0 j := fun j hj => (fI_kept (x_lt hTH4817 kH4851 gf0 (by decide))).trans (f4829 j hj)
  have f4872 : ∀ j : Nat, j ≠ x1.toNatClampNeg → fI H4851 f1 j = fI s.heap f1 j := fun j hj => (fI_kept (x_lt hTH4817 kH4851 gf1 (by decide))).trans (f4830 j hj)
  have f4873 : ∀ j : Nat, bt j = (fI H4851 tq j).toInt := fun j => (f4831 j).trans (congrArg Int32.toInt (fI_kept (x_lt hTH4817 kH4851 gtq (by decide))).symm)
  have m4874 := (m4850).trans (fI_kept (x_lt hTH4817 kH4851 glsq (by decide))).symm
  have m4875 := (m4832).trans (MF.r mf4861 (k := 32) (by decide) (by decide)).symm
  have m4876 := (m4833).trans (MF.r mf4861 (k := 33) (by decide) (by decide)).symm
  have m4877 := (m4834).trans (MF.r mf4861 (k := 29) (by decide) (by decide)).symm
  have m4878 := (m4835).trans (MF.r mf4861 (k := 30) (by decide) (by decide)).symm
  have m4879 := (m4836).trans (MF.r mf4861 (k := 31) (by decide) (by decide)).symm
  have m4880 := (m4837).trans (MF.r mf4861 (k := 17) (by decide) (by decide)).symm
  have m4881 := (m4838).trans (MF.r mf4861 (k := 26) (by decide) (by decide)).symm
  have m4882 := (m4839).trans (MF.r mf4861 (k := 27) (by decide) (by decide)).symm
  have m4883 := (m4840).trans (MF.r mf4861 (k := 28) (by decide) (by decide)).symm
  have m4884 := (m4841).trans (MF.r mf4861 (k := 25) (by decide) (by decide)).symm
  have m4885 := (m4846).trans (MF.i mf4861 (k := 35) (by decide) (by decide)).symm
  have m4886 := (m4847).trans (MF.i mf4861 (k := 36) (by decide) (by decide)).symm
  have m4887 := (m4848).trans (MF.i mf4861 (k := 18) (by decide) (by decide)).symm
  have m4888 := (m4849).trans (MF.i mf4861 (k := 34) (by decide) (by decide)).symm
  have mf4889 : MF K s.heap H4851 a0 [19, 20, 21, 22, 35, 36, 38, 39, 40] := MF.trans mf4818 mf4861 (by decide)
  have bx4852 := ty_fi (x := x4852) (k := 19) ex4852 hTH4851 ga0 rg_112 rfl
  have bx4853 := ty_fi (x := x4853) (k := 20) ex4853 hTH4851 ga0 rg_112 rfl
  have bx4854 := ty_fi (x := x4854) (k := 21) ex4854 hTH4851 ga0 rg_112 rfl
  have bx4855 := ty_fi (x := x4855) (k := 22) ex4855 hTH4851 ga0 rg_112 rfl
  have cn_x4853 := i_cl (x := x4853) bx4853.1
  have cn_fr := i_cl (x := fr) (by omega)
  have cu4890 : CU bt tp.toNatClampNeg (ci + 1) x4853 x4852 x4854 x4855 := CU.next hy0 m4862 m4863 m4864 (by omega)
  obtain ⟨r1H4851, r2H4851, r3H4851, r4H4851, r5H4851⟩ := hrH4851
  refine W.eq (g2 := F0 m 16 ls4814 []) rfl ?_
  refine lv_aload_n hx hb dX10_readLine_16 rfl (lv_at hl4815 1 rfl) ?_
  refine lv_iload_n hx hb dX10_readLine_17 rfl (lv_at hl4815 2 rfl) ?_
  refine lv_iload_n hx hb dX10_readLine_18 rfl (lv_at hl4815 0 rfl) ?_
  refine x_V (As := [.int x1, .int vl]) (rest := []) C (a_X10_readNumbers_g l K G H4851 (x1) (vl) (x4852) (x4853) (x4854) (x4855) (tp) (jb) ((ci + 1)) bt hTH4851 ga0 (by omega) gtq m4856 gl1 m4881 gl2 m4882 gl3 m4883 ex4852 ex4853 ex4854 ex4855 m4887 m4888 g4857 g4858 g4859 g4860 (by and_intros <;> first | assumption | omega) (by and_intros <;> first | assumption | omega) (cu4890) (hy1) f4873) yo_X10_readNumbers wM_X10_279 ⟨⟨by decide, by decide⟩, by decide, by decide⟩ (x_rv C hTH4851 (ci := 10) rfl ga0 rg_112) rfl hl4815.1 rfl (Nat.le_of_ble_eq_true rfl) dX10_readLine_19 hSH4851 (AE_sub (fun _ _ => rfl) (by decide) hSH4851.1) (fun vH4891 H4891 locsH4891 pH4891 zH4891 kH4891 hSH4891 => ?_)
  obtain ⟨x4892, x4893, x4894, x4895, x4896, hvH4891, ex4893, ex4894, ex4895, ex4896, hrH4891, m4897, m4898, m4899, m4900, g4901, g4902, g4903, g4904, mf4905, m4906, m4907, m4908, m4909, m4910, m4911, m4912, hTH4891⟩ := pH4891
  subst hvH4891
  clear zH4891
  replace m4897 := EQN.mk m4897
  replace m4898 := EQN.mk m4898
  replace m4899 := EQN.mk m4899
  replace m4900 := EQN.mk m4900
  clear f4824 f4825 f4826 f4827 f4828 f4829 f4830 f4831 m4832 m4833 m4834 m4835 m4836 m4837 m4838 m4839 m4840 m4841 m4842 m4843 m4844 m4845 m4846 m4847 m4848 m4849 m4850
  have b4913 : ∀ j : Nat, j < 3000 + mn.toNatClampNeg → fI H4891 oq j = fI s.heap oq j ∧ fI H4891 aq j = fI s.heap aq j := fun j hj => ⟨(fI_kept (x_lt hTH4851 kH4891 goq (by decide))).trans (b4865 j hj).1, (fI_kept (x_lt hTH4851 kH4891 gaq (by decide))).trans (b4865 j hj).2⟩
  have f4914 : ∀ j : Nat, j ≠ x1.toNatClampNeg → fI H4891 lsq j = fI s.heap lsq j := fun j hj => (fI_kept (x_lt hTH4851 kH4891 glsq (by decide))).trans (f4866 j hj)
  have f4915 : ∀ j : Nat, j ≠ x1.toNatClampNeg → fI H4891 f9 j = fI s.heap f9 j := fun j hj => (fI_kept (x_lt hTH4851 kH4891 gf9 (by decide))).trans (f4870 j hj)
  have f4916 : ∀ j : Nat, j ≠ x1.toNatClampNeg → fI H4891 f0 j = fI s.heap f0 j := fun j hj => (fI_kept (x_lt hTH4851 kH4891 gf0 (by decide))).trans (f4871 j hj)
  have f4917 : ∀ j : Nat, j ≠ x1.toNatClampNeg → fI H4891 f1 j = fI s.heap f1 j := fun j hj => (fI_kept (x_lt hTH4851 kH4891 gf1 (by decide))).trans (f4872 j hj)
  have f4918 : ∀ j : Nat, bt j = (fI H4891 tq j).toInt := fun j => (f4873 j).trans (congrArg Int32.toInt (fI_kept (x_lt hTH4851 kH4891 gtq (by decide))).symm)
  have m4919 := (m4874).trans (fI_kept (x_lt hTH4851 kH4891 glsq (by decide))).symm
  have m4920 := (m4875).trans (MF.r mf4905 (k := 32) (by decide) (by decide)).symm
  have m4921 := (m4876).trans (MF.r mf4905 (k := 33) (by decide) (by decide)).symm
  have m4922 := (m4877).trans (MF.r mf4905 (k := 29) (by decide) (by decide)).symm
  have m4923 := (m4878).trans (MF.r mf4905 (k := 30) (by decide) (by decide)).symm
  have m4924 := (m4879).trans (MF.r mf4905 (k := 31) (by decide) (by decide)).symm
  have m4925 := (m4856).trans (MF.r mf4905 (k := 17) (by decide) (by decide)).symm
  have m4926 := (m4881).trans (MF.r mf4905 (k := 26) (by decide) (by decide)).symm
  have m4927 := (m4882).trans (MF.r mf4905 (k := 27) (by decide) (by decide)).symm
  have m4928 := (m4883).trans (MF.r mf4905 (k := 28) (by decide) (by decide)).symm
  have m4929 := (m4884).trans (MF.r mf4905 (k := 25) (by decide) (by decide)).symm
  have m4930 := (m4885).trans (MF.i mf4905 (k := 35) (by decide) (by decide)).symm
  have m4931 := (m4886).trans (MF.i mf4905 (k := 36) (by decide) (by decide)).symm
  have m4932 := (m4887).trans (MF.i mf4905 (k := 18) (by decide) (by decide)).symm
  have m4933 := (m4888).trans (MF.i mf4905 (k := 34) (by decide) (by decide)).symm
  have mf4934 : MF K s.heap H4891 a0 [19, 20, 21, 22, 35, 36, 38, 39, 40] := MF.trans mf4889 mf4905 (by decide)
  have bx4893 := ty_fi (x := x4893) (k := 19) ex4893 hTH4891 ga0 rg_112 rfl
  have bx4894 := ty_fi (x := x4894) (k := 20) ex4894 hTH4891 ga0 rg_112 rfl
  have bx4895 := ty_fi (x := x4895) (k := 21) ex4895 hTH4891 ga0 rg_112 rfl
  have bx4896 := ty_fi (x := x4896) (k := 22) ex4896 hTH4891 ga0 rg_112 rfl
  refine W.eq (g2 := F0 m 22 ls4814 [.int x4892]) rfl ?_
  have f4935 : ∀ j : Nat, j ≠ x1.toNatClampNeg → fI H4891 l1 j = fI s.heap l1 j := fun j hj => (m4910 j hj).trans (f4867 j hj)
  have f4936 : ∀ j : Nat, j ≠ x1.toNatClampNeg → fI H4891 l2 j = fI s.heap l2 j := fun j hj => (m4911 j hj).trans (f4868 j hj)
  have f4937 : ∀ j : Nat, j ≠ x1.toNatClampNeg → fI H4891 l3 j = fI s.heap l3 j := fun j hj => (m4912 j hj).trans (f4869 j hj)
  obtain ⟨x4938, ex4938⟩ : ∃ z : Int32, z = fI H4891 l1 x1.toNatClampNeg := ⟨_, rfl⟩
  obtain ⟨x4939, ex4939⟩ : ∃ z : Int32, z = fI H4891 l2 x1.toNatClampNeg := ⟨_, rfl⟩
  obtain ⟨x4940, ex4940⟩ : ∃ z : Int32, z = fI H4891 l3 x1.toNatClampNeg := ⟨_, rfl⟩
  refine lv_iconst (v := (-1)) hx hb dX10_readLine_22 (by decide) ?_
  refine lv_icmp_ne (tgt := 28) hx hb dX10_readLine_23 (by decide) (fun c4941 => ?_) (fun c4941 => ?_)
  · have k4942 := i_ne c4941
    replace hrH4891 := hrH4891.resolve_left (by omega)
    obtain ⟨⟨z1H4891, z2H4891, z3H4891, z4H4891⟩, y1H4891⟩ := hrH4891
    clear r4H4851 r5H4851
    obtain ⟨cj4943, ho4945, cu4944⟩ := RC.yes m4906 (by omega)
    have np1_ : x4938.toInt = hn1 (vV bt tp.toNatClampNeg) (1 - jb.toInt) vl.toInt (ci + 1) := by rw [ex4938]; exact m4907.resolve_left (by omega)
    have np2_ : (1 - jb.toInt) ≠ 0 ∨ vl.toInt ≠ 5 ∨ x4939.toInt = (vV bt tp.toNatClampNeg) (ci + 1 + 1) := by rw [ex4939]; exact (m4908.resolve_left (by omega)).imp (fun z => by omega) id
    have np3_ : (1 - jb.toInt) ≠ 0 ∨ x4940.toInt = hn3 (vV bt tp.toNatClampNeg) vl.toInt (ci + 1) := by rw [ex4940]; exact (m4909.resolve_left (by omega)).imp (fun z => by omega) id
    refine lv_aload_n hx hb dX10_readLine_28 rfl (lv_at hl4815 1 rfl) ?_
    refine x_gr C hTH4891 (ci := 10) (k := 29) rfl inX10 (by decide) wF_X10_74 ga0 rg_112 rfl dX10_readLine_29 (fun q4946 eq4946 gq4946 => ?_)
    have uq4946 : f9 = q4946 := (m4922).trans eq4946.symm
    subst uq4946
    clear eq4946
    refine lv_iload_n hx hb dX10_readLine_32 rfl (lv_at hl4815 2 rfl) ?_
    refine lv_aload_n hx hb dX10_readLine_33 rfl (lv_at hl4815 1 rfl) ?_
    refine x_gi C hTH4891 (ci := 10) (k := 35) rfl inX10 (by decide) wF_X10_228 ga0 rg_112 rfl dX10_readLine_34 (fun x4947 ex4947 bx4947 => ?_)
    have ux4947 : mn = x4947 := (m4930).trans ex4947.symm
    subst ux4947
    refine x_iast C hTH4891 hSH4891 gf9 rg_133 (by omega) (by show _ < ((112 : Nat) : Int); omega) ⟨by have := i_rng mn; omega, by have := i_rng mn; omega⟩ (AE_in gf9 (by decide)) dX10_readLine_37 (fun H4948 locsH4948 hTH4948 hSH4948 wH4948 => ?_)
    clear f4866 f4867 f4868 f4869 f4870 f4871 f4872 f4873 m4856 m4874 m4875 m4876 m4877 m4878 m4879 m4881 m4882 m4883 m4884 m4885 m4886 m4887 m4888
    have mf4949 : MF K s.heap H4948 a0 [19, 20, 21, 22, 35, 36, 38, 39, 40] := MF.arr wH4948 (G_ne ga0 gf9 (by decide)) mf4934
    have ciH4948 := i_cl (x := x1) (by omega)
    have g4950 : CG (avw K H4948 a0) := CG.putL hTH4891 ga0 wH4948 gf9 (by decide) (by omega) g4901
    have g4951 : TU (avw K H4948 a0) (svw K H4948 a0) := TU.congr (fun k hk j => av_arr hTH4891 ga0 wH4948 gf9 (by decide) (TU_ok 133 (by decide) k hk)) (fun k hk => sv_arr ga0 wH4948 gf9 (by decide)) g4902
    have g4952 : WD (avw K H4948 a0) := WD.congr (fun k hk j => av_arr hTH4891 ga0 wH4948 gf9 (by decide) (WD_ok 133 (by decide) k hk)) g4903
    have g4953 : IM (avw K H4948 a0) := IM.congr (fun k hk j => av_arr hTH4891 ga0 wH4948 gf9 (by decide) (IM_ok 133 (by decide) k hk)) g4904
    have b4954 : ∀ j : Nat, j < 3000 + mn.toNatClampNeg → fI H4948 oq j = fI s.heap oq j ∧ fI H4948 aq j = fI s.heap aq j := fun j hj => ⟨(Wr.neI wH4948 (Or.inl (G_ne goq gf9 (by decide)))).trans (b4913 j hj).1, (Wr.neI wH4948 (Or.inl (G_ne gaq gf9 (by decide)))).trans (b4913 j hj).2⟩
    have f4955 : ∀ j : Nat, j ≠ x1.toNatClampNeg → fI H4948 lsq j = fI s.heap lsq j := fun j hj => (Wr.neI wH4948 (Or.inl (G_ne glsq gf9 (by decide)))).trans (f4914 j hj)
    have f4956 : ∀ j : Nat, j ≠ x1.toNatClampNeg → fI H4948 f9 j = fI s.heap f9 j := fun j hj => (Wr.neI wH4948 (Or.inr hj)).trans (f4915 j hj)
    have f4957 : ∀ j : Nat, j ≠ x1.toNatClampNeg → fI H4948 f0 j = fI s.heap f0 j := fun j hj => (Wr.neI wH4948 (Or.inl (G_ne gf0 gf9 (by decide)))).trans (f4916 j hj)
    have f4958 : ∀ j : Nat, j ≠ x1.toNatClampNeg → fI H4948 f1 j = fI s.heap f1 j := fun j hj => (Wr.neI wH4948 (Or.inl (G_ne gf1 gf9 (by decide)))).trans (f4917 j hj)
    have f4959 : ∀ j : Nat, bt j = (fI H4948 tq j).toInt := fun j => (f4918 j).trans (congrArg Int32.toInt (Wr.neI wH4948 (Or.inl (G_ne gtq gf9 (by decide)))).symm)
    have f4960 : ∀ j : Nat, j ≠ x1.toNatClampNeg → fI H4948 l1 j = fI s.heap l1 j := fun j hj => (Wr.neI wH4948 (Or.inl (G_ne gl1 gf9 (by decide)))).trans (f4935 j hj)
    have f4961 : ∀ j : Nat, j ≠ x1.toNatClampNeg → fI H4948 l2 j = fI s.heap l2 j := fun j hj => (Wr.neI wH4948 (Or.inl (G_ne gl2 gf9 (by decide)))).trans (f4936 j hj)
    have f4962 : ∀ j : Nat, j ≠ x1.toNatClampNeg → fI H4948 l3 j = fI s.heap l3 j := fun j hj => (Wr.neI wH4948 (Or.inl (G_ne gl3 gf9 (by decide)))).trans (f4937 j hj)
    have m4963 := m4919.trans (Wr.neI wH4948 (Or.inl (G_ne glsq gf9 (by decide)))).symm
    have m4964 := m4920.trans (Wr.neR wH4948 (Or.inl (G_ne ga0 gf9 (by decide)))).symm
    have m4965 := m4921.trans (Wr.neR wH4948 (Or.inl (G_ne ga0 gf9 (by decide)))).symm
    have m4966 := m4922.trans (Wr.neR wH4948 (Or.inl (G_ne ga0 gf9 (by decide)))).symm
    have m4967 := m4923.trans (Wr.neR wH4948 (Or.inl (G_ne ga0 gf9 (by decide)))).symm
    have m4968 := m4924.trans (Wr.neR wH4948 (Or.inl (G_ne ga0 gf9 (by decide)))).symm
    have m4969 := m4897.trans (Wr.neR wH4948 (Or.inl (G_ne ga0 gf9 (by decide)))).symm
    have m4970 := m4898.trans (Wr.neR wH4948 (Or.inl (G_ne ga0 gf9 (by decide)))).symm
    have m4971 := m4899.trans (Wr.neR wH4948 (Or.inl (G_ne ga0 gf9 (by decide)))).symm
    have m4972 := m4900.trans (Wr.neR wH4948 (Or.inl (G_ne ga0 gf9 (by decide)))).symm
    have m4973 := m4929.trans (Wr.neR wH4948 (Or.inl (G_ne ga0 gf9 (by decide)))).symm
    have m4974 := m4930.trans (Wr.neI wH4948 (Or.inl (G_ne ga0 gf9 (by decide)))).symm
    have m4975 := m4931.trans (Wr.neI wH4948 (Or.inl (G_ne ga0 gf9 (by decide)))).symm
    have m4976 := m4932.trans (Wr.neI wH4948 (Or.inl (G_ne ga0 gf9 (by decide)))).symm
    have m4977 := m4933.trans (Wr.neI wH4948 (Or.inl (G_ne ga0 gf9 (by decide)))).symm
    have m4978 := ex4893.trans (Wr.neI wH4948 (Or.inl (G_ne ga0 gf9 (by decide)))).symm
    have m4979 := ex4894.trans (Wr.neI wH4948 (Or.inl (G_ne ga0 gf9 (by decide)))).symm
    have m4980 := ex4895.trans (Wr.neI wH4948 (Or.inl (G_ne ga0 gf9 (by decide)))).symm
    have m4981 := ex4896.trans (Wr.neI wH4948 (Or.inl (G_ne ga0 gf9 (by decide)))).symm
    have m4982 := ex4938.trans (Wr.neI wH4948 (Or.inl (G_ne gl1 gf9 (by decide)))).symm
    have m4983 := ex4939.trans (Wr.neI wH4948 (Or.inl (G_ne gl2 gf9 (by decide)))).symm
    have m4984 := ex4940.trans (Wr.neI wH4948 (Or.inl (G_ne gl3 gf9 (by decide)))).symm
    have m4985 := Wr.I wH4948
    have m4985 := m4985.symm
    refine lv_aload_n hx hb dX10_readLine_38 rfl (lv_at hl4815 1 rfl) ?_
    refine x_gi C hTH4948 (ci := 10) (k := 34) rfl inX10 (by decide) wF_X10_231 ga0 rg_112 rfl dX10_readLine_39 (fun x4986 ex4986 bx4986 => ?_)
    have ux4986 : jb = x4986 := (m4977).trans ex4986.symm
    subst ux4986
    refine lv_if_ne (tgt := 55) hx hb dX10_readLine_42 (by decide) (fun c4987 => ?_) (fun c4987 => ?_)
    · have k4988 := i_ne c4987
      have ws0 : WF (fun k => fI H4948 oq k) (fun k => fI H4948 aq k) (3000 + mn.toNatClampNeg) (3000 + mn.toNatClampNeg) 0 0 := WF.nil
      refine lv_aload_n hx hb dX10_readLine_55 rfl (lv_at hl4815 1 rfl) ?_
      refine x_gr C hTH4948 (ci := 10) (k := 30) rfl inX10 (by decide) wF_X10_77 ga0 rg_112 rfl dX10_readLine_56 (fun q4989 eq4989 gq4989 => ?_)
      have uq4989 : f0 = q4989 := (m4967).trans eq4989.symm
      subst uq4989
      clear eq4989
      refine lv_iload_n hx hb dX10_readLine_59 rfl (lv_at hl4815 2 rfl) ?_
      refine lv_aload_n hx hb dX10_readLine_60 rfl (lv_at hl4815 1 rfl) ?_
      refine x_gi C hTH4948 (ci := 10) (k := 35) rfl inX10 (by decide) wF_X10_228 ga0 rg_112 rfl dX10_readLine_61 (fun x4990 ex4990 bx4990 => ?_)
      have ux4990 : mn = x4990 := (m4974).trans ex4990.symm
      subst ux4990
      refine x_iast C hTH4948 hSH4948 gf0 rg_134 (by omega) (by show _ < ((112 : Nat) : Int); omega) ⟨by have := i_rng mn; omega, by have := i_rng mn; omega⟩ (AE_in gf0 (by decide)) dX10_readLine_64 (fun H4991 locsH4991 hTH4991 hSH4991 wH4991 => ?_)
      clear f4914 f4915 f4916 f4917 f4918 f4935 f4936 f4937 m4897 m4898 m4899 m4900 m4919 m4920 m4921 m4922 m4923 m4924 m4929 m4930 m4931 m4932 m4933
      have mf4992 : MF K s.heap H4991 a0 [19, 20, 21, 22, 35, 36, 38, 39, 40] := MF.arr wH4991 (G_ne ga0 gf0 (by decide)) mf4949
      have g4993 : CG (avw K H4991 a0) := CG.putL hTH4948 ga0 wH4991 gf0 (by decide) (by omega) g4950
      have g4994 : TU (avw K H4991 a0) (svw K H4991 a0) := TU.congr (fun k hk j => av_arr hTH4948 ga0 wH4991 gf0 (by decide) (TU_ok 134 (by decide) k hk)) (fun k hk => sv_arr ga0 wH4991 gf0 (by decide)) g4951
      have g4995 : WD (avw K H4991 a0) := WD.congr (fun k hk j => av_arr hTH4948 ga0 wH4991 gf0 (by decide) (WD_ok 134 (by decide) k hk)) g4952
      have g4996 : IM (avw K H4991 a0) := IM.congr (fun k hk j => av_arr hTH4948 ga0 wH4991 gf0 (by decide) (IM_ok 134 (by decide) k hk)) g4953
      have b4997 : ∀ j : Nat, j < 3000 + mn.toNatClampNeg → fI H4991 oq j = fI s.heap oq j ∧ fI H4991 aq j = fI s.heap aq j := fun j hj => ⟨(Wr.neI wH4991 (Or.inl (G_ne goq gf0 (by decide)))).trans (b4954 j hj).1, (Wr.neI wH4991 (Or.inl (G_ne gaq gf0 (by decide)))).trans (b4954 j hj).2⟩
      have b4998 : WF (fun k => fI H4991 oq k) (fun k => fI H4991 aq k) (3000 + mn.toNatClampNeg) (3000 + mn.toNatClampNeg) 0 0 := WF.congr (fun j => Wr.neI wH4991 (Or.inl (G_ne goq gf0 (by decide)))) (fun j => Wr.neI wH4991 (Or.inl (G_ne gaq gf0 (by decide)))) ws0
      have f4999 : ∀ j : Nat, j ≠ x1.toNatClampNeg → fI H4991 lsq j = fI s.heap lsq j := fun j hj => (Wr.neI wH4991 (Or.inl (G_ne glsq gf0 (by decide)))).trans (f4955 j hj)
      have f5000 : ∀ j : Nat, j ≠ x1.toNatClampNeg → fI H4991 f9 j = fI s.heap f9 j := fun j hj => (Wr.neI wH4991 (Or.inl (G_ne gf9 gf0 (by decide)))).trans (f4956 j hj)
      have f5001 : ∀ j : Nat, j ≠ x1.toNatClampNeg → fI H4991 f0 j = fI s.heap f0 j := fun j hj => (Wr.neI wH4991 (Or.inr hj)).trans (f4957 j hj)
      have f5002 : ∀ j : Nat, j ≠ x1.toNatClampNeg → fI H4991 f1 j = fI s.heap f1 j := fun j hj => (Wr.neI wH4991 (Or.inl (G_ne gf1 gf0 (by decide)))).trans (f4958 j hj)
      have f5003 : ∀ j : Nat, bt j = (fI H4991 tq j).toInt := fun j => (f4959 j).trans (congrArg Int32.toInt (Wr.neI wH4991 (Or.inl (G_ne gtq gf0 (by decide)))).symm)
      have f5004 : ∀ j : Nat, j ≠ x1.toNatClampNeg → fI H4991 l1 j = fI s.heap l1 j := fun j hj => (Wr.neI wH4991 (Or.inl (G_ne gl1 gf0 (by decide)))).trans (f4960 j hj)
      have f5005 : ∀ j : Nat, j ≠ x1.toNatClampNeg → fI H4991 l2 j = fI s.heap l2 j := fun j hj => (Wr.neI wH4991 (Or.inl (G_ne gl2 gf0 (by decide)))).trans (f4961 j hj)
      have f5006 : ∀ j : Nat, j ≠ x1.toNatClampNeg → fI H4991 l3 j = fI s.heap l3 j := fun j hj => (Wr.neI wH4991 (Or.inl (G_ne gl3 gf0 (by decide)))).trans (f4962 j hj)
      have m5007 := m4963.trans (Wr.neI wH4991 (Or.inl (G_ne glsq gf0 (by decide)))).symm
      have m5008 := m4964.trans (Wr.neR wH4991 (Or.inl (G_ne ga0 gf0 (by decide)))).symm
      have m5009 := m4965.trans (Wr.neR wH4991 (Or.inl (G_ne ga0 gf0 (by decide)))).symm
      have m5010 := m4966.trans (Wr.neR wH4991 (Or.inl (G_ne ga0 gf0 (by decide)))).symm
      have m5011 := m4967.trans (Wr.neR wH4991 (Or.inl (G_ne ga0 gf0 (by decide)))).symm
      have m5012 := m4968.trans (Wr.neR wH4991 (Or.inl (G_ne ga0 gf0 (by decide)))).symm
      have m5013 := m4969.trans (Wr.neR wH4991 (Or.inl (G_ne ga0 gf0 (by decide)))).symm
      have m5014 := m4970.trans (Wr.neR wH4991 (Or.inl (G_ne ga0 gf0 (by decide)))).symm
      have m5015 := m4971.trans (Wr.neR wH4991 (Or.inl (G_ne ga0 gf0 (by decide)))).symm
      have m5016 := m4972.trans (Wr.neR wH4991 (Or.inl (G_ne ga0 gf0 (by decide)))).symm
      have m5017 := m4973.trans (Wr.neR wH4991 (Or.inl (G_ne ga0 gf0 (by decide)))).symm
      have m5018 := m4974.trans (Wr.neI wH4991 (Or.inl (G_ne ga0 gf0 (by decide)))).symm
      have m5019 := m4975.trans (Wr.neI wH4991 (Or.inl (G_ne ga0 gf0 (by decide)))).symm
      have m5020 := m4976.trans (Wr.neI wH4991 (Or.inl (G_ne ga0 gf0 (by decide)))).symm
      have m5021 := m4977.trans (Wr.neI wH4991 (Or.inl (G_ne ga0 gf0 (by decide)))).symm
      have m5022 := m4978.trans (Wr.neI wH4991 (Or.inl (G_ne ga0 gf0 (by decide)))).symm
      have m5023 := m4979.trans (Wr.neI wH4991 (Or.inl (G_ne ga0 gf0 (by decide)))).symm
      have m5024 := m4980.trans (Wr.neI wH4991 (Or.inl (G_ne ga0 gf0 (by decide)))).symm
      have m5025 := m4981.trans (Wr.neI wH4991 (Or.inl (G_ne ga0 gf0 (by decide)))).symm
      have m5026 := m4982.trans (Wr.neI wH4991 (Or.inl (G_ne gl1 gf0 (by decide)))).symm
      have m5027 := m4983.trans (Wr.neI wH4991 (Or.inl (G_ne gl2 gf0 (by decide)))).symm
      have m5028 := m4984.trans (Wr.neI wH4991 (Or.inl (G_ne gl3 gf0 (by decide)))).symm
      have m5029 := m4985.trans (Wr.neI wH4991 (Or.inl (G_ne gf9 gf0 (by decide)))).symm
      have m5030 := Wr.I wH4991
      have m5030 := m5030.symm
      refine lv_aload_n hx hb dX10_readLine_65 rfl (lv_at hl4815 1 rfl) ?_
      refine lv_bipush (v := 6) hx hb dX10_readLine_66 (by decide) ?_
      refine x_V (As := [.int 6]) (rest := []) C (a_X10_isWord_e l K G H4991 (6) (x4895) (x4896) hTH4991 ga0 m5024 m5025) yo_X10_isWord wM_X10_264 ⟨⟨by decide, by decide⟩, by decide, by decide⟩ (x_rv C hTH4991 (ci := 10) rfl ga0 rg_112) rfl hl4815.1 rfl (Nat.le_of_ble_eq_true rfl) dX10_readLine_68 hSH4991 (AE_sub (fun _ _ => rfl) (by decide) hSH4991.1) (fun vH5031 H5031 locsH5031 pH5031 zH5031 kH5031 hSH5031 => ?_)
      obtain ⟨x5032, hvH5031, bx5032, hrH5031, hTH5031⟩ := pH5031
      subst hvH5031
      clear zH5031
      clear f4955 f4956 f4957 f4958 f4959 f4960 f4961 f4962 m4963 m4964 m4965 m4966 m4967 m4968 m4969 m4970 m4971 m4972 m4973 m4974 m4975 m4976 m4977 m4978 m4979 m4980 m4981 m4982 m4983 m4984 m4985
      have mf5033 : MF K s.heap H5031 a0 [19, 20, 21, 22, 35, 36, 38, 39, 40] := MF.eff (x_lt hTH4991 kH5031 ga0 (by decide)) mf4992
      have b5034 : ∀ j : Nat, j < 3000 + mn.toNatClampNeg → fI H5031 oq j = fI s.heap oq j ∧ fI H5031 aq j = fI s.heap aq j := fun j hj => ⟨(fI_kept (x_lt hTH4991 kH5031 goq (by decide))).trans (b4997 j hj).1, (fI_kept (x_lt hTH4991 kH5031 gaq (by decide))).trans (b4997 j hj).2⟩
      have b5035 : WF (fun k => fI H5031 oq k) (fun k => fI H5031 aq k) (3000 + mn.toNatClampNeg) (3000 + mn.toNatClampNeg) 0 0 := WF.congr (fun j => fI_kept (x_lt hTH4991 kH5031 goq (by decide))) (fun j => fI_kept (x_lt hTH4991 kH5031 gaq (by decide))) b4998
      have g5036 : CG (avw K H5031 a0) := CG.congr (fun k hk j => av_eff hTH4991 kH5031 ga0 (by decide) (CG_eff [] (by decide) k hk)) g4993
      have g5037 : TU (avw K H5031 a0) (svw K H5031 a0) := TU.congr (fun k hk j => av_eff hTH4991 kH5031 ga0 (by decide) (TU_eff [] (by decide) k hk)) (fun k hk => sv_eff hTH4991 kH5031 ga0 (by decide)) g4994
      have g5038 : WD (avw K H5031 a0) := WD.congr (fun k hk j => av_eff hTH4991 kH5031 ga0 (by decide) (WD_eff [] (by decide) k hk)) g4995
      have g5039 : IM (avw K H5031 a0) := IM.congr (fun k hk j => av_eff hTH4991 kH5031 ga0 (by decide) (IM_eff [] (by decide) k hk)) g4996
      have f5040 : ∀ j : Nat, j ≠ x1.toNatClampNeg → fI H5031 lsq j = fI s.heap lsq j := fun j hj => (fI_kept (x_lt hTH4991 kH5031 glsq (by decide))).trans (f4999 j hj)
      have f5041 : ∀ j : Nat, j ≠ x1.toNatClampNeg → fI H5031 f9 j = fI s.heap f9 j := fun j hj => (fI_kept (x_lt hTH4991 kH5031 gf9 (by decide))).trans (f5000 j hj)
      have f5042 : ∀ j : Nat, j ≠ x1.toNatClampNeg → fI H5031 f0 j = fI s.heap f0 j := fun j hj => (fI_kept (x_lt hTH4991 kH5031 gf0 (by decide))).trans (f5001 j hj)
      have f5043 : ∀ j : Nat, j ≠ x1.toNatClampNeg → fI H5031 f1 j = fI s.heap f1 j := fun j hj => (fI_kept (x_lt hTH4991 kH5031 gf1 (by decide))).trans (f5002 j hj)
      have f5044 : ∀ j : Nat, bt j = (fI H5031 tq j).toInt := fun j => (f5003 j).trans (congrArg Int32.toInt (fI_kept (x_lt hTH4991 kH5031 gtq (by decide))).symm)
      have f5045 : ∀ j : Nat, j ≠ x1.toNatClampNeg → fI H5031 l1 j = fI s.heap l1 j := fun j hj => (fI_kept (x_lt hTH4991 kH5031 gl1 (by decide))).trans (f5004 j hj)
      have f5046 : ∀ j : Nat, j ≠ x1.toNatClampNeg → fI H5031 l2 j = fI s.heap l2 j := fun j hj => (fI_kept (x_lt hTH4991 kH5031 gl2 (by decide))).trans (f5005 j hj)
      have f5047 : ∀ j : Nat, j ≠ x1.toNatClampNeg → fI H5031 l3 j = fI s.heap l3 j := fun j hj => (fI_kept (x_lt hTH4991 kH5031 gl3 (by decide))).trans (f5006 j hj)
      have m5048 := (m5007).trans (fI_kept (x_lt hTH4991 kH5031 glsq (by decide))).symm
      have m5049 := (m5008).trans (fR_kept (x_lt hTH4991 kH5031 ga0 (by decide))).symm
      have m5050 := (m5009).trans (fR_kept (x_lt hTH4991 kH5031 ga0 (by decide))).symm
      have m5051 := (m5010).trans (fR_kept (x_lt hTH4991 kH5031 ga0 (by decide))).symm
      have m5052 := (m5011).trans (fR_kept (x_lt hTH4991 kH5031 ga0 (by decide))).symm
      have m5053 := (m5012).trans (fR_kept (x_lt hTH4991 kH5031 ga0 (by decide))).symm
      have m5054 := (m5013).trans (fR_kept (x_lt hTH4991 kH5031 ga0 (by decide))).symm
      have m5055 := (m5014).trans (fR_kept (x_lt hTH4991 kH5031 ga0 (by decide))).symm
      have m5056 := (m5015).trans (fR_kept (x_lt hTH4991 kH5031 ga0 (by decide))).symm
      have m5057 := (m5016).trans (fR_kept (x_lt hTH4991 kH5031 ga0 (by decide))).symm
      have m5058 := (m5017).trans (fR_kept (x_lt hTH4991 kH5031 ga0 (by decide))).symm
      have m5059 := (m5018).trans (fI_kept (x_lt hTH4991 kH5031 ga0 (by decide))).symm
      have m5060 := (m5019).trans (fI_kept (x_lt hTH4991 kH5031 ga0 (by decide))).symm
      have m5061 := (m5020).trans (fI_kept (x_lt hTH4991 kH5031 ga0 (by decide))).symm
      have m5062 := (m5021).trans (fI_kept (x_lt hTH4991 kH5031 ga0 (by decide))).symm
      have m5063 := (m5022).trans (fI_kept (x_lt hTH4991 kH5031 ga0 (by decide))).symm
      have m5064 := (m5023).trans (fI_kept (x_lt hTH4991 kH5031 ga0 (by decide))).symm
      have m5065 := (m5024).trans (fI_kept (x_lt hTH4991 kH5031 ga0 (by decide))).symm
      have m5066 := (m5025).trans (fI_kept (x_lt hTH4991 kH5031 ga0 (by decide))).symm
      have m5067 := (m5026).trans (fI_kept (x_lt hTH4991 kH5031 gl1 (by decide))).symm
      have m5068 := (m5027).trans (fI_kept (x_lt hTH4991 kH5031 gl2 (by decide))).symm
      have m5069 := (m5028).trans (fI_kept (x_lt hTH4991 kH5031 gl3 (by decide))).symm
      have m5070 := (m5029).trans (fI_kept (x_lt hTH4991 kH5031 gf9 (by decide))).symm
      have m5071 := (m5030).trans (fI_kept (x_lt hTH4991 kH5031 gf0 (by decide))).symm
      refine W.eq (g2 := F0 m 71 ls4814 [.int x5032]) rfl ?_
      refine lv_if_eq (tgt := 88) hx hb dX10_readLine_71 (by decide) (fun c5072 => ?_) (fun c5072 => ?_)
      · have k5073 := i_eq c5072
        have kw_ : kK bt tp.toNatClampNeg cj4943 ≠ 7 := fun e => by have z2 := (TV.wd cu4944.2.2.1).mpr (by omega); have z1 := TV.wv cu4944.2.2.1 z2; omega
        clear hrH5031
        have wa0 : WF (fun k => fI H5031 oq k) (fun k => fI H5031 aq k) (3000 + mn.toNatClampNeg) (3000 + mn.toNatClampNeg) 0 0 := WF.nil
        refine lv_aload_n hx hb dX10_readLine_88 rfl (lv_at hl4815 1 rfl) ?_
        refine x_gr C hTH5031 (ci := 10) (k := 31) rfl inX10 (by decide) wF_X10_80 ga0 rg_112 rfl dX10_readLine_89 (fun q5074 eq5074 gq5074 => ?_)
        have uq5074 : f1 = q5074 := (m5053).trans eq5074.symm
        subst uq5074
        clear eq5074
        refine lv_iload_n hx hb dX10_readLine_92 rfl (lv_at hl4815 2 rfl) ?_
        refine lv_aload_n hx hb dX10_readLine_93 rfl (lv_at hl4815 1 rfl) ?_
        refine x_gi C hTH5031 (ci := 10) (k := 35) rfl inX10 (by decide) wF_X10_228 ga0 rg_112 rfl dX10_readLine_94 (fun x5075 ex5075 bx5075 => ?_)
        have ux5075 : mn = x5075 := (m5059).trans ex5075.symm
        subst ux5075
        refine x_iast C hTH5031 hSH5031 gf1 rg_135 (by omega) (by show _ < ((112 : Nat) : Int); omega) ⟨by have := i_rng mn; omega, by have := i_rng mn; omega⟩ (AE_in gf1 (by decide)) dX10_readLine_97 (fun H5076 locsH5076 hTH5076 hSH5076 wH5076 => ?_)
        clear f4999 f5000 f5001 f5002 f5003 f5004 f5005 f5006 m5007 m5008 m5009 m5010 m5011 m5012 m5013 m5014 m5015 m5016 m5017 m5018 m5019 m5020 m5021 m5022 m5023 m5024 m5025 m5026 m5027 m5028 m5029 m5030
        have mf5077 : MF K s.heap H5076 a0 [19, 20, 21, 22, 35, 36, 38, 39, 40] := MF.arr wH5076 (G_ne ga0 gf1 (by decide)) mf5033
        have g5078 : CG (avw K H5076 a0) := CG.putL hTH5031 ga0 wH5076 gf1 (by decide) (by omega) g5036
        have g5079 : TU (avw K H5076 a0) (svw K H5076 a0) := TU.congr (fun k hk j => av_arr hTH5031 ga0 wH5076 gf1 (by decide) (TU_ok 135 (by decide) k hk)) (fun k hk => sv_arr ga0 wH5076 gf1 (by decide)) g5037
        have g5080 : WD (avw K H5076 a0) := WD.congr (fun k hk j => av_arr hTH5031 ga0 wH5076 gf1 (by decide) (WD_ok 135 (by decide) k hk)) g5038
        have g5081 : IM (avw K H5076 a0) := IM.congr (fun k hk j => av_arr hTH5031 ga0 wH5076 gf1 (by decide) (IM_ok 135 (by decide) k hk)) g5039
        have b5082 : ∀ j : Nat, j < 3000 + mn.toNatClampNeg → fI H5076 oq j = fI s.heap oq j ∧ fI H5076 aq j = fI s.heap aq j := fun j hj => ⟨(Wr.neI wH5076 (Or.inl (G_ne goq gf1 (by decide)))).trans (b5034 j hj).1, (Wr.neI wH5076 (Or.inl (G_ne gaq gf1 (by decide)))).trans (b5034 j hj).2⟩
        have b5083 : WF (fun k => fI H5076 oq k) (fun k => fI H5076 aq k) (3000 + mn.toNatClampNeg) (3000 + mn.toNatClampNeg) 0 0 := WF.congr (fun j => Wr.neI wH5076 (Or.inl (G_ne goq gf1 (by decide)))) (fun j => Wr.neI wH5076 (Or.inl (G_ne gaq gf1 (by decide)))) b5035
        have b5084 : WF (fun k => fI H5076 oq k) (fun k => fI H5076 aq k) (3000 + mn.toNatClampNeg) (3000 + mn.toNatClampNeg) 0 0 := WF.congr (fun j => Wr.neI wH5076 (Or.inl (G_ne goq gf1 (by decide)))) (fun j => Wr.neI wH5076 (Or.inl (G_ne gaq gf1 (by decide)))) wa0
        have f5085 : ∀ j : Nat, j ≠ x1.toNatClampNeg → fI H5076 lsq j = fI s.heap lsq j := fun j hj => (Wr.neI wH5076 (Or.inl (G_ne glsq gf1 (by decide)))).trans (f5040 j hj)
        have f5086 : ∀ j : Nat, j ≠ x1.toNatClampNeg → fI H5076 f9 j = fI s.heap f9 j := fun j hj => (Wr.neI wH5076 (Or.inl (G_ne gf9 gf1 (by decide)))).trans (f5041 j hj)
        have f5087 : ∀ j : Nat, j ≠ x1.toNatClampNeg → fI H5076 f0 j = fI s.heap f0 j := fun j hj => (Wr.neI wH5076 (Or.inl (G_ne gf0 gf1 (by decide)))).trans (f5042 j hj)
        have f5088 : ∀ j : Nat, j ≠ x1.toNatClampNeg → fI H5076 f1 j = fI s.heap f1 j := fun j hj => (Wr.neI wH5076 (Or.inr hj)).trans (f5043 j hj)
        have f5089 : ∀ j : Nat, bt j = (fI H5076 tq j).toInt := fun j => (f5044 j).trans (congrArg Int32.toInt (Wr.neI wH5076 (Or.inl (G_ne gtq gf1 (by decide)))).symm)
        have f5090 : ∀ j : Nat, j ≠ x1.toNatClampNeg → fI H5076 l1 j = fI s.heap l1 j := fun j hj => (Wr.neI wH5076 (Or.inl (G_ne gl1 gf1 (by decide)))).trans (f5045 j hj)
        have f5091 : ∀ j : Nat, j ≠ x1.toNatClampNeg → fI H5076 l2 j = fI s.heap l2 j := fun j hj => (Wr.neI wH5076 (Or.inl (G_ne gl2 gf1 (by decide)))).trans (f5046 j hj)
        have f5092 : ∀ j : Nat, j ≠ x1.toNatClampNeg → fI H5076 l3 j = fI s.heap l3 j := fun j hj => (Wr.neI wH5076 (Or.inl (G_ne gl3 gf1 (by decide)))).trans (f5047 j hj)
        have m5093 := m5048.trans (Wr.neI wH5076 (Or.inl (G_ne glsq gf1 (by decide)))).symm
        have m5094 := m5049.trans (Wr.neR wH5076 (Or.inl (G_ne ga0 gf1 (by decide)))).symm
        have m5095 := m5050.trans (Wr.neR wH5076 (Or.inl (G_ne ga0 gf1 (by decide)))).symm
        have m5096 := m5051.trans (Wr.neR wH5076 (Or.inl (G_ne ga0 gf1 (by decide)))).symm
        have m5097 := m5052.trans (Wr.neR wH5076 (Or.inl (G_ne ga0 gf1 (by decide)))).symm
        have m5098 := m5053.trans (Wr.neR wH5076 (Or.inl (G_ne ga0 gf1 (by decide)))).symm
        have m5099 := m5054.trans (Wr.neR wH5076 (Or.inl (G_ne ga0 gf1 (by decide)))).symm
        have m5100 := m5055.trans (Wr.neR wH5076 (Or.inl (G_ne ga0 gf1 (by decide)))).symm
        have m5101 := m5056.trans (Wr.neR wH5076 (Or.inl (G_ne ga0 gf1 (by decide)))).symm
        have m5102 := m5057.trans (Wr.neR wH5076 (Or.inl (G_ne ga0 gf1 (by decide)))).symm
        have m5103 := m5058.trans (Wr.neR wH5076 (Or.inl (G_ne ga0 gf1 (by decide)))).symm
        have m5104 := m5059.trans (Wr.neI wH5076 (Or.inl (G_ne ga0 gf1 (by decide)))).symm
        have m5105 := m5060.trans (Wr.neI wH5076 (Or.inl (G_ne ga0 gf1 (by decide)))).symm
        have m5106 := m5061.trans (Wr.neI wH5076 (Or.inl (G_ne ga0 gf1 (by decide)))).symm
        have m5107 := m5062.trans (Wr.neI wH5076 (Or.inl (G_ne ga0 gf1 (by decide)))).symm
        have m5108 := m5063.trans (Wr.neI wH5076 (Or.inl (G_ne ga0 gf1 (by decide)))).symm
        have m5109 := m5064.trans (Wr.neI wH5076 (Or.inl (G_ne ga0 gf1 (by decide)))).symm
        have m5110 := m5065.trans (Wr.neI wH5076 (Or.inl (G_ne ga0 gf1 (by decide)))).symm
        have m5111 := m5066.trans (Wr.neI wH5076 (Or.inl (G_ne ga0 gf1 (by decide)))).symm
        have m5112 := m5067.trans (Wr.neI wH5076 (Or.inl (G_ne gl1 gf1 (by decide)))).symm
        have m5113 := m5068.trans (Wr.neI wH5076 (Or.inl (G_ne gl2 gf1 (by decide)))).symm
        have m5114 := m5069.trans (Wr.neI wH5076 (Or.inl (G_ne gl3 gf1 (by decide)))).symm
        have m5115 := m5070.trans (Wr.neI wH5076 (Or.inl (G_ne gf9 gf1 (by decide)))).symm
        have m5116 := m5071.trans (Wr.neI wH5076 (Or.inl (G_ne gf0 gf1 (by decide)))).symm
        have m5117 := Wr.I wH5076
        have m5117 := m5117.symm
        refine lv_aload_n hx hb dX10_readLine_98 rfl (lv_at hl4815 1 rfl) ?_
        refine lv_bipush (v := 59) hx hb dX10_readLine_99 (by decide) ?_
        refine x_V (As := [.int 59]) (rest := []) C (a_X10_isSign_e l K G H5076 (59) (x4895) (x4896) hTH5076 ga0 m5110 m5111) yo_X10_isSign wM_X10_249 ⟨⟨by decide, by decide⟩, by decide, by decide⟩ (x_rv C hTH5076 (ci := 10) rfl ga0 rg_112) rfl hl4815.1 rfl (Nat.le_of_ble_eq_true rfl) dX10_readLine_101 hSH5076 (AE_sub (fun _ _ => rfl) (by decide) hSH5076.1) (fun vH5118 H5118 locsH5118 pH5118 zH5118 kH5118 hSH5118 => ?_)
        obtain ⟨x5119, hvH5118, bx5119, hrH5118, hTH5118⟩ := pH5118
        subst hvH5118
        clear zH5118
        clear f5040 f5041 f5042 f5043 f5044 f5045 f5046 f5047 m5048 m5049 m5050 m5051 m5052 m5053 m5054 m5055 m5056 m5057 m5058 m5059 m5060 m5061 m5062 m5063 m5064 m5065 m5066 m5067 m5068 m5069 m5070 m5071
        have mf5120 : MF K s.heap H5118 a0 [19, 20, 21, 22, 35, 36, 38, 39, 40] := MF.eff (x_lt hTH5076 kH5118 ga0 (by decide)) mf5077
        have b5121 : ∀ j : Nat, j < 3000 + mn.toNatClampNeg → fI H5118 oq j = fI s.heap oq j ∧ fI H5118 aq j = fI s.heap aq j := fun j hj => ⟨(fI_kept (x_lt hTH5076 kH5118 goq (by decide))).trans (b5082 j hj).1, (fI_kept (x_lt hTH5076 kH5118 gaq (by decide))).trans (b5082 j hj).2⟩
        have b5122 : WF (fun k => fI H5118 oq k) (fun k => fI H5118 aq k) (3000 + mn.toNatClampNeg) (3000 + mn.toNatClampNeg) 0 0 := WF.congr (fun j => fI_kept (x_lt hTH5076 kH5118 goq (by decide))) (fun j => fI_kept (x_lt hTH5076 kH5118 gaq (by decide))) b5083
        have b5123 : WF (fun k => fI H5118 oq k) (fun k => fI H5118 aq k) (3000 + mn.toNatClampNeg) (3000 + mn.toNatClampNeg) 0 0 := WF.congr (fun j => fI_kept (x_lt hTH5076 kH5118 goq (by decide))) (fun j => fI_kept (x_lt hTH5076 kH5118 gaq (by decide))) b5084
        have g5124 : CG (avw K H5118 a0) := CG.congr (fun k hk j => av_eff hTH5076 kH5118 ga0 (by decide) (CG_eff [] (by decide) k hk)) g5078
        have g5125 : TU (avw K H5118 a0) (svw K H5118 a0) := TU.congr (fun k hk j => av_eff hTH5076 kH5118 ga0 (by decide) (TU_eff [] (by decide) k hk)) (fun k hk => sv_eff hTH5076 kH5118 ga0 (by decide)) g5079
        have g5126 : WD (avw K H5118 a0) := WD.congr (fun k hk j => av_eff hTH5076 kH5118 ga0 (by decide) (WD_eff [] (by decide) k hk)) g5080
        have g5127 : IM (avw K H5118 a0) := IM.congr (fun k hk j => av_eff hTH5076 kH5118 ga0 (by decide) (IM_eff [] (by decide) k hk)) g5081
        have f5128 : ∀ j : Nat, j ≠ x1.toNatClampNeg → fI H5118 lsq j = fI s.heap lsq j := fun j hj => (fI_kept (x_lt hTH5076 kH5118 glsq (by decide))).trans (f5085 j hj)
        have f5129 : ∀ j : Nat, j ≠ x1.toNatClampNeg → fI H5118 f9 j = fI s.heap f9 j := fun j hj => (fI_kept (x_lt hTH5076 kH5118 gf9 (by decide))).trans (f5086 j hj)
        have f5130 : ∀ j : Nat, j ≠ x1.toNatClampNeg → fI H5118 f0 j = fI s.heap f0 j := fun j hj => (fI_kept (x_lt hTH5076 kH5118 gf0 (by decide))).trans (f5087 j hj)
        have f5131 : ∀ j : Nat, j ≠ x1.toNatClampNeg → fI H5118 f1 j = fI s.heap f1 j := fun j hj => (fI_kept (x_lt hTH5076 kH5118 gf1 (by decide))).trans (f5088 j hj)
        have f5132 : ∀ j : Nat, bt j = (fI H5118 tq j).toInt := fun j => (f5089 j).trans (congrArg Int32.toInt (fI_kept (x_lt hTH5076 kH5118 gtq (by decide))).symm)
        have f5133 : ∀ j : Nat, j ≠ x1.toNatClampNeg → fI H5118 l1 j = fI s.heap l1 j := fun j hj => (fI_kept (x_lt hTH5076 kH5118 gl1 (by decide))).trans (f5090 j hj)
        have f5134 : ∀ j : Nat, j ≠ x1.toNatClampNeg → fI H5118 l2 j = fI s.heap l2 j := fun j hj => (fI_kept (x_lt hTH5076 kH5118 gl2 (by decide))).trans (f5091 j hj)
        have f5135 : ∀ j : Nat, j ≠ x1.toNatClampNeg → fI H5118 l3 j = fI s.heap l3 j := fun j hj => (fI_kept (x_lt hTH5076 kH5118 gl3 (by decide))).trans (f5092 j hj)
        have m5136 := (m5093).trans (fI_kept (x_lt hTH5076 kH5118 glsq (by decide))).symm
        have m5137 := (m5094).trans (fR_kept (x_lt hTH5076 kH5118 ga0 (by decide))).symm
        have m5138 := (m5095).trans (fR_kept (x_lt hTH5076 kH5118 ga0 (by decide))).symm
        have m5139 := (m5096).trans (fR_kept (x_lt hTH5076 kH5118 ga0 (by decide))).symm
        have m5140 := (m5097).trans (fR_kept (x_lt hTH5076 kH5118 ga0 (by decide))).symm
        have m5141 := (m5098).trans (fR_kept (x_lt hTH5076 kH5118 ga0 (by decide))).symm
        have m5142 := (m5099).trans (fR_kept (x_lt hTH5076 kH5118 ga0 (by decide))).symm
        have m5143 := (m5100).trans (fR_kept (x_lt hTH5076 kH5118 ga0 (by decide))).symm
        have m5144 := (m5101).trans (fR_kept (x_lt hTH5076 kH5118 ga0 (by decide))).symm
        have m5145 := (m5102).trans (fR_kept (x_lt hTH5076 kH5118 ga0 (by decide))).symm
        have m5146 := (m5103).trans (fR_kept (x_lt hTH5076 kH5118 ga0 (by decide))).symm
        have m5147 := (m5104).trans (fI_kept (x_lt hTH5076 kH5118 ga0 (by decide))).symm
        have m5148 := (m5105).trans (fI_kept (x_lt hTH5076 kH5118 ga0 (by decide))).symm
        have m5149 := (m5106).trans (fI_kept (x_lt hTH5076 kH5118 ga0 (by decide))).symm
        have m5150 := (m5107).trans (fI_kept (x_lt hTH5076 kH5118 ga0 (by decide))).symm
        have m5151 := (m5108).trans (fI_kept (x_lt hTH5076 kH5118 ga0 (by decide))).symm
        have m5152 := (m5109).trans (fI_kept (x_lt hTH5076 kH5118 ga0 (by decide))).symm
        have m5153 := (m5110).trans (fI_kept (x_lt hTH5076 kH5118 ga0 (by decide))).symm
        have m5154 := (m5111).trans (fI_kept (x_lt hTH5076 kH5118 ga0 (by decide))).symm
        have m5155 := (m5112).trans (fI_kept (x_lt hTH5076 kH5118 gl1 (by decide))).symm
        have m5156 := (m5113).trans (fI_kept (x_lt hTH5076 kH5118 gl2 (by decide))).symm
        have m5157 := (m5114).trans (fI_kept (x_lt hTH5076 kH5118 gl3 (by decide))).symm
        have m5158 := (m5115).trans (fI_kept (x_lt hTH5076 kH5118 gf9 (by decide))).symm
        have m5159 := (m5116).trans (fI_kept (x_lt hTH5076 kH5118 gf0 (by decide))).symm
        have m5160 := (m5117).trans (fI_kept (x_lt hTH5076 kH5118 gf1 (by decide))).symm
        refine W.eq (g2 := F0 m 104 ls4814 [.int x5119]) rfl ?_
        refine lv_if_ne (tgt := 113) hx hb dX10_readLine_104 (by decide) (fun c5161 => ?_) (fun c5161 => ?_)
        · have k5162 := i_ne c5161
          have k59_ : kK bt tp.toNatClampNeg cj4943 = 59 := (TV.sg (c := 59) cu4944.2.2.1 (by decide)).mp ⟨by omega, by omega⟩
          replace hrH5118 := hrH5118.resolve_left (fun h => absurd h.1 (by omega))
          replace z3H4891 := z3H4891.resolve_left (by omega)
          refine lv_aload_n hx hb dX10_readLine_113 rfl (lv_at hl4815 1 rfl) ?_
          refine x_V (As := []) (rest := []) C (a_X10_reads_e l K G H5118 (x4893) (x4894) (x4895) (x4896) (tp) bt hTH5118 ga0 gtq m5142 m5151 m5152 m5153 m5154 m5149 g5124 g5125 g5126 g5127 (by and_intros <;> first | assumption | omega) (hy1) f5132) yo_X10_reads wM_X10_242 ⟨⟨by decide, by decide⟩, by decide, by decide⟩ (x_rv C hTH5118 (ci := 10) rfl ga0 rg_112) rfl hl4815.1 rfl (Nat.le_of_ble_eq_true rfl) dX10_readLine_114 hSH5118 (AE_sub (fun _ _ => rfl) (by decide) hSH5118.1) (fun vH5163 H5163 locsH5163 pH5163 zH5163 kH5163 hSH5163 => ?_)
          obtain ⟨x5164, x5165, x5166, x5167, hvH5163, ex5164, ex5165, ex5166, ex5167, hrH5163, m5168, g5169, g5170, g5171, g5172, mf5173, m5174, m5175, m5176, hTH5163⟩ := pH5163
          subst hvH5163
          clear zH5163
          replace m5168 := EQN.mk m5168
          clear f5085 f5086 f5087 f5088 f5089 f5090 f5091 f5092 m5093 m5094 m5095 m5096 m5097 m5098 m5099 m5100 m5101 m5102 m5103 m5104 m5105 m5106 m5107 m5108 m5109 m5110 m5111 m5112 m5113 m5114 m5115 m5116 m5117
          have b5177 : ∀ j : Nat, j < 3000 + mn.toNatClampNeg → fI H5163 oq j = fI s.heap oq j ∧ fI H5163 aq j = fI s.heap aq j := fun j hj => ⟨(fI_kept (x_lt hTH5118 kH5163 goq (by decide))).trans (b5121 j hj).1, (fI_kept (x_lt hTH5118 kH5163 gaq (by decide))).trans (b5121 j hj).2⟩
          have b5178 : WF (fun k => fI H5163 oq k) (fun k => fI H5163 aq k) (3000 + mn.toNatClampNeg) (3000 + mn.toNatClampNeg) 0 0 := WF.congr (fun j => fI_kept (x_lt hTH5118 kH5163 goq (by decide))) (fun j => fI_kept (x_lt hTH5118 kH5163 gaq (by decide))) b5122
          have b5179 : WF (fun k => fI H5163 oq k) (fun k => fI H5163 aq k) (3000 + mn.toNatClampNeg) (3000 + mn.toNatClampNeg) 0 0 := WF.congr (fun j => fI_kept (x_lt hTH5118 kH5163 goq (by decide))) (fun j => fI_kept (x_lt hTH5118 kH5163 gaq (by decide))) b5123
          have f5180 : ∀ j : Nat, j ≠ x1.toNatClampNeg → fI H5163 lsq j = fI s.heap lsq j := fun j hj => (fI_kept (x_lt hTH5118 kH5163 glsq (by decide))).trans (f5128 j hj)
          have f5181 : ∀ j : Nat, j ≠ x1.toNatClampNeg → fI H5163 f9 j = fI s.heap f9 j := fun j hj => (fI_kept (x_lt hTH5118 kH5163 gf9 (by decide))).trans (f5129 j hj)
          have f5182 : ∀ j : Nat, j ≠ x1.toNatClampNeg → fI H5163 f0 j = fI s.heap f0 j := fun j hj => (fI_kept (x_lt hTH5118 kH5163 gf0 (by decide))).trans (f5130 j hj)
          have f5183 : ∀ j : Nat, j ≠ x1.toNatClampNeg → fI H5163 f1 j = fI s.heap f1 j := fun j hj => (fI_kept (x_lt hTH5118 kH5163 gf1 (by decide))).trans (f5131 j hj)
          have f5184 : ∀ j : Nat, bt j = (fI H5163 tq j).toInt := fun j => (f5132 j).trans (congrArg Int32.toInt (fI_kept (x_lt hTH5118 kH5163 gtq (by decide))).symm)
          have f5185 : ∀ j : Nat, j ≠ x1.toNatClampNeg → fI H5163 l1 j = fI s.heap l1 j := fun j hj => (fI_kept (x_lt hTH5118 kH5163 gl1 (by decide))).trans (f5133 j hj)
          have f5186 : ∀ j : Nat, j ≠ x1.toNatClampNeg → fI H5163 l2 j = fI s.heap l2 j := fun j hj => (fI_kept (x_lt hTH5118 kH5163 gl2 (by decide))).trans (f5134 j hj)
          have f5187 : ∀ j : Nat, j ≠ x1.toNatClampNeg → fI H5163 l3 j = fI s.heap l3 j := fun j hj => (fI_kept (x_lt hTH5118 kH5163 gl3 (by decide))).trans (f5135 j hj)
          have m5188 := (m5136).trans (fI_kept (x_lt hTH5118 kH5163 glsq (by decide))).symm
          have m5189 := (m5155).trans (fI_kept (x_lt hTH5118 kH5163 gl1 (by decide))).symm
          have m5190 := (m5156).trans (fI_kept (x_lt hTH5118 kH5163 gl2 (by decide))).symm
          have m5191 := (m5157).trans (fI_kept (x_lt hTH5118 kH5163 gl3 (by decide))).symm
          have m5192 := (m5158).trans (fI_kept (x_lt hTH5118 kH5163 gf9 (by decide))).symm
          have m5193 := (m5159).trans (fI_kept (x_lt hTH5118 kH5163 gf0 (by decide))).symm
          have m5194 := (m5160).trans (fI_kept (x_lt hTH5118 kH5163 gf1 (by decide))).symm
          have m5195 := (m5137).trans (MF.r mf5173 (k := 32) (by decide) (by decide)).symm
          have m5196 := (m5138).trans (MF.r mf5173 (k := 33) (by decide) (by decide)).symm
          have m5197 := (m5139).trans (MF.r mf5173 (k := 29) (by decide) (by decide)).symm
          have m5198 := (m5140).trans (MF.r mf5173 (k := 30) (by decide) (by decide)).symm
          have m5199 := (m5141).trans (MF.r mf5173 (k := 31) (by decide) (by decide)).symm
          have m5200 := (m5142).trans (MF.r mf5173 (k := 17) (by decide) (by decide)).symm
          have m5201 := (m5143).trans (MF.r mf5173 (k := 26) (by decide) (by decide)).symm
          have m5202 := (m5144).trans (MF.r mf5173 (k := 27) (by decide) (by decide)).symm
          have m5203 := (m5145).trans (MF.r mf5173 (k := 28) (by decide) (by decide)).symm
          have m5204 := (m5146).trans (MF.r mf5173 (k := 25) (by decide) (by decide)).symm
          have m5205 := (m5147).trans (MF.i mf5173 (k := 35) (by decide) (by decide)).symm
          have m5206 := (m5148).trans (MF.i mf5173 (k := 36) (by decide) (by decide)).symm
          have m5207 := (m5149).trans (MF.i mf5173 (k := 18) (by decide) (by decide)).symm
          have m5208 := (m5150).trans (MF.i mf5173 (k := 34) (by decide) (by decide)).symm
          have mf5209 : MF K s.heap H5163 a0 [19, 20, 21, 22, 35, 36, 38, 39, 40] := MF.trans mf5120 mf5173 (by decide)
          have bx5164 := ty_fi (x := x5164) (k := 19) ex5164 hTH5163 ga0 rg_112 rfl
          have bx5165 := ty_fi (x := x5165) (k := 20) ex5165 hTH5163 ga0 rg_112 rfl
          have bx5166 := ty_fi (x := x5166) (k := 21) ex5166 hTH5163 ga0 rg_112 rfl
          have bx5167 := ty_fi (x := x5167) (k := 22) ex5167 hTH5163 ga0 rg_112 rfl
          have cn_x5165 := i_cl (x := x5165) bx5165.1
          have cn_x4894 := i_cl (x := x4894) bx4894.1
          have cu5210 : CU bt tp.toNatClampNeg (cj4943 + 1) x5165 x5164 x5166 x5167 := CU.next cu4944 m5174 m5175 m5176 (by omega)
          obtain ⟨r1H5163, r2H5163, r3H5163, r4H5163, r5H5163⟩ := hrH5163
          clear z3H4891 z4H4891
          refine W.eq (g2 := F0 m 117 ls4814 []) rfl ?_
          refine lv_iconst (v := 0) hx hb dX10_readLine_117 (by decide) ?_
          have lcn_ := lcn_at (i := ci) (m := ci + 1) rfl rfl (hs_n2 (by omega) hx0 ho4945)
          have hS_ : ((1 - jb.toInt) ≠ 0 ∧ RZ (1 - jb.toInt) (fun i => fI H5163 oq i) (fun i => fI H5163 aq i) (3000 + (fI H5163 f9 x1.toNatClampNeg).toNatClampNeg) (3000 + (fI H5163 f0 x1.toNatClampNeg).toNatClampNeg) [lfs (kK bt tp.toNatClampNeg) (vV bt tp.toNatClampNeg) (1 - jb.toInt) ci]) ∨ ((1 - jb.toInt) = 0 ∧ fI H5163 f9 x1.toNatClampNeg = fI H5163 f0 x1.toNatClampNeg) := Or.inr ⟨by omega, by rw [← m5192, ← m5193]⟩
          have hW_ : (lhw (kK bt tp.toNatClampNeg) (vV bt tp.toNatClampNeg) (1 - jb.toInt) ci = true ∧ (fI H5163 f0 x1.toNatClampNeg).toInt < (fI H5163 f1 x1.toNatClampNeg).toInt ∧ RZ (1 - jb.toInt) (fun i => fI H5163 oq i) (fun i => fI H5163 aq i) (3000 + (fI H5163 f0 x1.toNatClampNeg).toNatClampNeg) (3000 + (fI H5163 f1 x1.toNatClampNeg).toNatClampNeg) [lfw (kK bt tp.toNatClampNeg) (vV bt tp.toNatClampNeg) (1 - jb.toInt) ci]) ∨ (lhw (kK bt tp.toNatClampNeg) (vV bt tp.toNatClampNeg) (1 - jb.toInt) ci = false ∧ fI H5163 f1 x1.toNatClampNeg = fI H5163 f0 x1.toNatClampNeg) := Or.inr ⟨decide_eq_false (by rw [lcn_]; exact kw_), by rw [← m5194, ← m5193]⟩
          exact x_iret C hQ dX10_readLine_118 hSH5163 (by decide) (by decide) (⟨0, x5164, x5165, x5166, x5167, mn, on, rfl, by decide, ex5164, ex5165, ex5166, ex5167, m5205, m5206, Or.inr (by and_intros <;> first | assumption | omega), m5195, m5196, m5197, m5198, m5199, m5168, m5201, m5202, m5203, m5204, g5169, g5170, g5171, g5172, mf5209, b5177, f5180, f5185, f5186, f5187, f5181, f5182, f5183, Or.inr (LNW.mk (a := fun k => fI H5163 f9 k) (b := fun k => fI H5163 f0 k) (c := fun k => fI H5163 f1 k) m5192 m5193 m5194 (by omega) (by omega) (by omega) (by omega) (WF.cast b5178 (by omega) (by omega)) (WF.cast b5179 (by omega) (by omega))), Or.inr ⟨_, (ln_go (HD.get hb0) rfl rfl (hs_n2 (by omega) hx0 ho4945) (wn_0 kw_)).trans (if_pos k59_), by omega, cu5210⟩, Or.inr (by omega), Or.inr (LNR.mk (by rw [← m5188]; exact hx0) (by rw [← m5188]; omega) (by rw [← m5188, ← m5189]; exact np1_) (by rw [← m5188, ← m5190]; exact np2_) (by rw [← m5188, ← m5191]; exact np3_) hS_ hW_), Or.inr ⟨by rw [← m5193]; omega, by rw [← m5194]; omega⟩, hTH5163⟩)
        · have k5162 := i_eq c5161
          refine lv_aload_n hx hb dX10_readLine_107 rfl (lv_at hl4815 1 rfl) ?_
          refine lv_iconst (v := 1) hx hb dX10_readLine_108 (by decide) ?_
          refine x_V (As := [.int 1]) (rest := []) C (a_X10_fails l K G H5118 (1) hTH5118 ga0 g5124 g5125 g5126 g5127) yo_X10_fails wM_X10_235 ⟨⟨by decide, by decide⟩, by decide, by decide⟩ (x_rv C hTH5118 (ci := 10) rfl ga0 rg_112) rfl hl4815.1 rfl (Nat.le_of_ble_eq_true rfl) dX10_readLine_109 hSH5118 (AE_sub (fun _ _ => rfl) (by decide) hSH5118.1) (fun vH5211 H5211 locsH5211 pH5211 zH5211 kH5211 hSH5211 => ?_)
          obtain ⟨x5212, hvH5211, bx5212, g5213, g5214, g5215, g5216, mf5217, hTH5211⟩ := pH5211
          subst hvH5211
          clear zH5211
          clear f5085 f5086 f5087 f5088 f5089 f5090 f5091 f5092 m5093 m5094 m5095 m5096 m5097 m5098 m5099 m5100 m5101 m5102 m5103 m5104 m5105 m5106 m5107 m5108 m5109 m5110 m5111 m5112 m5113 m5114 m5115 m5116 m5117
          have b5218 : ∀ j : Nat, j < 3000 + mn.toNatClampNeg → fI H5211 oq j = fI s.heap oq j ∧ fI H5211 aq j = fI s.heap aq j := fun j hj => ⟨(fI_kept (x_lt hTH5118 kH5211 goq (by decide))).trans (b5121 j hj).1, (fI_kept (x_lt hTH5118 kH5211 gaq (by decide))).trans (b5121 j hj).2⟩
          have b5219 : WF (fun k => fI H5211 oq k) (fun k => fI H5211 aq k) (3000 + mn.toNatClampNeg) (3000 + mn.toNatClampNeg) 0 0 := WF.congr (fun j => fI_kept (x_lt hTH5118 kH5211 goq (by decide))) (fun j => fI_kept (x_lt hTH5118 kH5211 gaq (by decide))) b5122
          have b5220 : WF (fun k => fI H5211 oq k) (fun k => fI H5211 aq k) (3000 + mn.toNatClampNeg) (3000 + mn.toNatClampNeg) 0 0 := WF.congr (fun j => fI_kept (x_lt hTH5118 kH5211 goq (by decide))) (fun j => fI_kept (x_lt hTH5118 kH5211 gaq (by decide))) b5123
          have f5221 : ∀ j : Nat, j ≠ x1.toNatClampNeg → fI H5211 lsq j = fI s.heap lsq j := fun j hj => (fI_kept (x_lt hTH5118 kH5211 glsq (by decide))).trans (f5128 j hj)
          have f5222 : ∀ j : Nat, j ≠ x1.toNatClampNeg → fI H5211 f9 j = fI s.heap f9 j := fun j hj => (fI_kept (x_lt hTH5118 kH5211 gf9 (by decide))).trans (f5129 j hj)
          have f5223 : ∀ j : Nat, j ≠ x1.toNatClampNeg → fI H5211 f0 j = fI s.heap f0 j := fun j hj => (fI_kept (x_lt hTH5118 kH5211 gf0 (by decide))).trans (f5130 j hj)
          have f5224 : ∀ j : Nat, j ≠ x1.toNatClampNeg → fI H5211 f1 j = fI s.heap f1 j := fun j hj => (fI_kept (x_lt hTH5118 kH5211 gf1 (by decide))).trans (f5131 j hj)
          have f5225 : ∀ j : Nat, bt j = (fI H5211 tq j).toInt := fun j => (f5132 j).trans (congrArg Int32.toInt (fI_kept (x_lt hTH5118 kH5211 gtq (by decide))).symm)
          have f5226 : ∀ j : Nat, j ≠ x1.toNatClampNeg → fI H5211 l1 j = fI s.heap l1 j := fun j hj => (fI_kept (x_lt hTH5118 kH5211 gl1 (by decide))).trans (f5133 j hj)
          have f5227 : ∀ j : Nat, j ≠ x1.toNatClampNeg → fI H5211 l2 j = fI s.heap l2 j := fun j hj => (fI_kept (x_lt hTH5118 kH5211 gl2 (by decide))).trans (f5134 j hj)
          have f5228 : ∀ j : Nat, j ≠ x1.toNatClampNeg → fI H5211 l3 j = fI s.heap l3 j := fun j hj => (fI_kept (x_lt hTH5118 kH5211 gl3 (by decide))).trans (f5135 j hj)
          have m5229 := (m5136).trans (fI_kept (x_lt hTH5118 kH5211 glsq (by decide))).symm
          have m5230 := (m5155).trans (fI_kept (x_lt hTH5118 kH5211 gl1 (by decide))).symm
          have m5231 := (m5156).trans (fI_kept (x_lt hTH5118 kH5211 gl2 (by decide))).symm
          have m5232 := (m5157).trans (fI_kept (x_lt hTH5118 kH5211 gl3 (by decide))).symm
          have m5233 := (m5158).trans (fI_kept (x_lt hTH5118 kH5211 gf9 (by decide))).symm
          have m5234 := (m5159).trans (fI_kept (x_lt hTH5118 kH5211 gf0 (by decide))).symm
          have m5235 := (m5160).trans (fI_kept (x_lt hTH5118 kH5211 gf1 (by decide))).symm
          have m5236 := (m5137).trans (MF.r mf5217 (k := 32) (by decide) (by decide)).symm
          have m5237 := (m5138).trans (MF.r mf5217 (k := 33) (by decide) (by decide)).symm
          have m5238 := (m5139).trans (MF.r mf5217 (k := 29) (by decide) (by decide)).symm
          have m5239 := (m5140).trans (MF.r mf5217 (k := 30) (by decide) (by decide)).symm
          have m5240 := (m5141).trans (MF.r mf5217 (k := 31) (by decide) (by decide)).symm
          have m5241 := (m5142).trans (MF.r mf5217 (k := 17) (by decide) (by decide)).symm
          have m5242 := (m5143).trans (MF.r mf5217 (k := 26) (by decide) (by decide)).symm
          have m5243 := (m5144).trans (MF.r mf5217 (k := 27) (by decide) (by decide)).symm
          have m5244 := (m5145).trans (MF.r mf5217 (k := 28) (by decide) (by decide)).symm
          have m5245 := (m5146).trans (MF.r mf5217 (k := 25) (by decide) (by decide)).symm
          have m5246 := (m5147).trans (MF.i mf5217 (k := 35) (by decide) (by decide)).symm
          have m5247 := (m5148).trans (MF.i mf5217 (k := 36) (by decide) (by decide)).symm
          have m5248 := (m5149).trans (MF.i mf5217 (k := 18) (by decide) (by decide)).symm
          have m5249 := (m5150).trans (MF.i mf5217 (k := 34) (by decide) (by decide)).symm
          have m5250 := (m5151).trans (MF.i mf5217 (k := 19) (by decide) (by decide)).symm
          have m5251 := (m5152).trans (MF.i mf5217 (k := 20) (by decide) (by decide)).symm
          have m5252 := (m5153).trans (MF.i mf5217 (k := 21) (by decide) (by decide)).symm
          have m5253 := (m5154).trans (MF.i mf5217 (k := 22) (by decide) (by decide)).symm
          have mf5254 : MF K s.heap H5211 a0 [19, 20, 21, 22, 35, 36, 38, 39, 40] := MF.trans mf5120 mf5217 (by decide)
          refine W.eq (g2 := F0 m 112 ls4814 [.int x5212]) rfl ?_
          have k59_ : kK bt tp.toNatClampNeg cj4943 ≠ 59 := fun e => by have z_ := (TV.sg (c := 59) cu4944.2.2.1 (by decide)).mpr e; omega
          exact x_iret C hQ dX10_readLine_112 hSH5211 (by decide) (by decide) (⟨x5212, x4893, x4894, x4895, x4896, mn, on, rfl, by omega, m5250, m5251, m5252, m5253, m5246, m5247, Or.inl (by omega), m5236, m5237, m5238, m5239, m5240, m5241, m5242, m5243, m5244, m5245, g5213, g5214, g5215, g5216, mf5254, b5218, f5221, f5226, f5227, f5228, f5222, f5223, f5224, Or.inl (by omega), Or.inl ⟨(ln_go (HD.get hb0) rfl rfl (hs_n2 (by omega) hx0 ho4945) (wn_0 kw_)).trans (if_neg k59_), by omega⟩, Or.inl (by omega), Or.inl (by omega), Or.inl (by omega), hTH5211⟩)
      · have k5073 := i_ne c5072
        replace hrH5031 := hrH5031.resolve_left (fun h => absurd h.1 (by omega))
        replace z3H4891 := z3H4891.resolve_left (by omega)
        have kw_ : kK bt tp.toNatClampNeg cj4943 = 7 := by have z1 := TV.wv cu4944.2.2.1 (by omega); omega
        refine lv_aload_n hx hb dX10_readLine_74 rfl (lv_at hl4815 1 rfl) ?_
        refine x_V (As := []) (rest := []) C (a_X10_reads_e l K G H5031 (x4893) (x4894) (x4895) (x4896) (tp) bt hTH5031 ga0 gtq m5054 m5063 m5064 m5065 m5066 m5061 g5036 g5037 g5038 g5039 (by and_intros <;> first | assumption | omega) (hy1) f5044) yo_X10_reads wM_X10_242 ⟨⟨by decide, by decide⟩, by decide, by decide⟩ (x_rv C hTH5031 (ci := 10) rfl ga0 rg_112) rfl hl4815.1 rfl (Nat.le_of_ble_eq_true rfl) dX10_readLine_75 hSH5031 (AE_sub (fun _ _ => rfl) (by decide) hSH5031.1) (fun vH5255 H5255 locsH5255 pH5255 zH5255 kH5255 hSH5255 => ?_)
        obtain ⟨x5256, x5257, x5258, x5259, hvH5255, ex5256, ex5257, ex5258, ex5259, hrH5255, m5260, g5261, g5262, g5263, g5264, mf5265, m5266, m5267, m5268, hTH5255⟩ := pH5255
        subst hvH5255
        clear zH5255
        replace m5260 := EQN.mk m5260
        clear f4999 f5000 f5001 f5002 f5003 f5004 f5005 f5006 m5007 m5008 m5009 m5010 m5011 m5012 m5013 m5014 m5015 m5016 m5017 m5018 m5019 m5020 m5021 m5022 m5023 m5024 m5025 m5026 m5027 m5028 m5029 m5030
        have b5269 : ∀ j : Nat, j < 3000 + mn.toNatClampNeg → fI H5255 oq j = fI s.heap oq j ∧ fI H5255 aq j = fI s.heap aq j := fun j hj => ⟨(fI_kept (x_lt hTH5031 kH5255 goq (by decide))).trans (b5034 j hj).1, (fI_kept (x_lt hTH5031 kH5255 gaq (by decide))).trans (b5034 j hj).2⟩
        have b5270 : WF (fun k => fI H5255 oq k) (fun k => fI H5255 aq k) (3000 + mn.toNatClampNeg) (3000 + mn.toNatClampNeg) 0 0 := WF.congr (fun j => fI_kept (x_lt hTH5031 kH5255 goq (by decide))) (fun j => fI_kept (x_lt hTH5031 kH5255 gaq (by decide))) b5035
        have f5271 : ∀ j : Nat, j ≠ x1.toNatClampNeg → fI H5255 lsq j = fI s.heap lsq j := fun j hj => (fI_kept (x_lt hTH5031 kH5255 glsq (by decide))).trans (f5040 j hj)
        have f5272 : ∀ j : Nat, j ≠ x1.toNatClampNeg → fI H5255 f9 j = fI s.heap f9 j := fun j hj => (fI_kept (x_lt hTH5031 kH5255 gf9 (by decide))).trans (f5041 j hj)
        have f5273 : ∀ j : Nat, j ≠ x1.toNatClampNeg → fI H5255 f0 j = fI s.heap f0 j := fun j hj => (fI_kept (x_lt hTH5031 kH5255 gf0 (by decide))).trans (f5042 j hj)
        have f5274 : ∀ j : Nat, j ≠ x1.toNatClampNeg → fI H5255 f1 j = fI s.heap f1 j := fun j hj => (fI_kept (x_lt hTH5031 kH5255 gf1 (by decide))).trans (f5043 j hj)
        have f5275 : ∀ j : Nat, bt j = (fI H5255 tq j).toInt := fun j => (f5044 j).trans (congrArg Int32.toInt (fI_kept (x_lt hTH5031 kH5255 gtq (by decide))).symm)
        have f5276 : ∀ j : Nat, j ≠ x1.toNatClampNeg → fI H5255 l1 j = fI s.heap l1 j := fun j hj => (fI_kept (x_lt hTH5031 kH5255 gl1 (by decide))).trans (f5045 j hj)
        have f5277 : ∀ j : Nat, j ≠ x1.toNatClampNeg → fI H5255 l2 j = fI s.heap l2 j := fun j hj => (fI_kept (x_lt hTH5031 kH5255 gl2 (by decide))).trans (f5046 j hj)
        have f5278 : ∀ j : Nat, j ≠ x1.toNatClampNeg → fI H5255 l3 j = fI s.heap l3 j := fun j hj => (fI_kept (x_lt hTH5031 kH5255 gl3 (by decide))).trans (f5047 j hj)
        have m5279 := (m5048).trans (fI_kept (x_lt hTH5031 kH5255 glsq (by decide))).symm
        have m5280 := (m5067).trans (fI_kept (x_lt hTH5031 kH5255 gl1 (by decide))).symm
        have m5281 := (m5068).trans (fI_kept (x_lt hTH5031 kH5255 gl2 (by decide))).symm
        have m5282 := (m5069).trans (fI_kept (x_lt hTH5031 kH5255 gl3 (by decide))).symm
        have m5283 := (m5070).trans (fI_kept (x_lt hTH5031 kH5255 gf9 (by decide))).symm
        have m5284 := (m5071).trans (fI_kept (x_lt hTH5031 kH5255 gf0 (by decide))).symm
        have m5285 := (m5049).trans (MF.r mf5265 (k := 32) (by decide) (by decide)).symm
        have m5286 := (m5050).trans (MF.r mf5265 (k := 33) (by decide) (by decide)).symm
        have m5287 := (m5051).trans (MF.r mf5265 (k := 29) (by decide) (by decide)).symm
        have m5288 := (m5052).trans (MF.r mf5265 (k := 30) (by decide) (by decide)).symm
        have m5289 := (m5053).trans (MF.r mf5265 (k := 31) (by decide) (by decide)).symm
        have m5290 := (m5054).trans (MF.r mf5265 (k := 17) (by decide) (by decide)).symm
        have m5291 := (m5055).trans (MF.r mf5265 (k := 26) (by decide) (by decide)).symm
        have m5292 := (m5056).trans (MF.r mf5265 (k := 27) (by decide) (by decide)).symm
        have m5293 := (m5057).trans (MF.r mf5265 (k := 28) (by decide) (by decide)).symm
        have m5294 := (m5058).trans (MF.r mf5265 (k := 25) (by decide) (by decide)).symm
        have m5295 := (m5059).trans (MF.i mf5265 (k := 35) (by decide) (by decide)).symm
        have m5296 := (m5060).trans (MF.i mf5265 (k := 36) (by decide) (by decide)).symm
        have m5297 := (m5061).trans (MF.i mf5265 (k := 18) (by decide) (by decide)).symm
        have m5298 := (m5062).trans (MF.i mf5265 (k := 34) (by decide) (by decide)).symm
        have mf5299 : MF K s.heap H5255 a0 [19, 20, 21, 22, 35, 36, 38, 39, 40] := MF.trans mf5033 mf5265 (by decide)
        have bx5256 := ty_fi (x := x5256) (k := 19) ex5256 hTH5255 ga0 rg_112 rfl
        have bx5257 := ty_fi (x := x5257) (k := 20) ex5257 hTH5255 ga0 rg_112 rfl
        have bx5258 := ty_fi (x := x5258) (k := 21) ex5258 hTH5255 ga0 rg_112 rfl
        have bx5259 := ty_fi (x := x5259) (k := 22) ex5259 hTH5255 ga0 rg_112 rfl
        have cn_x5257 := i_cl (x := x5257) bx5257.1
        have cn_x4894 := i_cl (x := x4894) bx4894.1
        have cu5300 : CU bt tp.toNatClampNeg (cj4943 + 1) x5257 x5256 x5258 x5259 := CU.next cu4944 m5266 m5267 m5268 (by omega)
        obtain ⟨r1H5255, r2H5255, r3H5255, r4H5255, r5H5255⟩ := hrH5255
        clear z3H4891 z4H4891
        refine W.eq (g2 := F0 m 78 ls4814 []) rfl ?_
        refine lv_aload_n hx hb dX10_readLine_78 rfl (lv_at hl4815 1 rfl) ?_
        obtain ⟨q5301, eq5301⟩ : ∃ z : Nat, EQN z (fR H5255 a0 (K.1.2 10 37)) := ⟨_, rfl⟩
        have gq5301 := ty_fr (q := q5301) (k := 37) (u := 138) eq5301 hTH5255 ga0 rg_112 rfl
        replace eq5301 := EQN.mk eq5301
        obtain ⟨x5302, ex5302⟩ : ∃ z : Int32, z = fI H5255 a0 (K.1.2 10 38) := ⟨_, rfl⟩
        have bx5302 := ty_fi (x := x5302) (k := 38) ex5302 hTH5255 ga0 rg_112 rfl
        refine x_V (As := []) (rest := []) C (a_X10_readAny_g l K G H5255 (x5256) (x5257) (x5258) (x5259) (mn) (on) (x5302) (tp) (jb) ((cj4943 + 1)) bt hTH5255 ga0 goq m5285 gaq m5286 gq5301 eq5301 gtq m5260 ex5256 ex5257 ex5258 ex5259 m5295 m5296 ex5302 m5297 m5298 g5261 g5262 g5263 g5264 (by and_intros <;> first | assumption | omega) (by and_intros <;> first | assumption | omega) (by and_intros <;> first | assumption | omega) (cu5300) (hy1) f5275) yo_X10_readAny wM_X10_282 ⟨⟨by decide, by decide⟩, by decide, by decide⟩ (x_rv C hTH5255 (ci := 10) rfl ga0 rg_112) rfl hl4815.1 rfl (Nat.le_of_ble_eq_true rfl) dX10_readLine_79 hSH5255 (AE_sub (fun _ _ => rfl) (by decide) hSH5255.1) (fun vH5303 H5303 locsH5303 pH5303 zH5303 kH5303 hSH5303 => ?_)
        obtain ⟨x5304, x5305, x5306, x5307, x5308, x5309, x5310, x5311, hvH5303, bx5304, ex5305, ex5306, ex5307, ex5308, ex5309, ex5310, ex5311, hrH5303, m5312, m5313, m5314, m5315, g5316, g5317, g5318, g5319, mf5320, m5321, m5322, m5323, m5324, m5325, hTH5303⟩ := pH5303
        subst hvH5303
        clear zH5303
        replace m5312 := EQN.mk m5312
        replace m5313 := EQN.mk m5313
        replace m5314 := EQN.mk m5314
        replace m5315 := EQN.mk m5315
        clear f5040 f5041 f5042 f5043 f5044 f5045 f5046 f5047 m5048 m5049 m5050 m5051 m5052 m5053 m5054 m5055 m5056 m5057 m5058 m5059 m5060 m5061 m5062 m5063 m5064 m5065 m5066 m5067 m5068 m5069 m5070 m5071
        have f5326 : ∀ j : Nat, j ≠ x1.toNatClampNeg → fI H5303 lsq j = fI s.heap lsq j := fun j hj => (fI_kept (x_lt hTH5255 kH5303 glsq (by decide))).trans (f5271 j hj)
        have f5327 : ∀ j : Nat, j ≠ x1.toNatClampNeg → fI H5303 f9 j = fI s.heap f9 j := fun j hj => (fI_kept (x_lt hTH5255 kH5303 gf9 (by decide))).trans (f5272 j hj)
        have f5328 : ∀ j : Nat, j ≠ x1.toNatClampNeg → fI H5303 f0 j = fI s.heap f0 j := fun j hj => (fI_kept (x_lt hTH5255 kH5303 gf0 (by decide))).trans (f5273 j hj)
        have f5329 : ∀ j : Nat, j ≠ x1.toNatClampNeg → fI H5303 f1 j = fI s.heap f1 j := fun j hj => (fI_kept (x_lt hTH5255 kH5303 gf1 (by decide))).trans (f5274 j hj)
        have f5330 : ∀ j : Nat, bt j = (fI H5303 tq j).toInt := fun j => (f5275 j).trans (congrArg Int32.toInt (fI_kept (x_lt hTH5255 kH5303 gtq (by decide))).symm)
        have f5331 : ∀ j : Nat, j ≠ x1.toNatClampNeg → fI H5303 l1 j = fI s.heap l1 j := fun j hj => (fI_kept (x_lt hTH5255 kH5303 gl1 (by decide))).trans (f5276 j hj)
        have f5332 : ∀ j : Nat, j ≠ x1.toNatClampNeg → fI H5303 l2 j = fI s.heap l2 j := fun j hj => (fI_kept (x_lt hTH5255 kH5303 gl2 (by decide))).trans (f5277 j hj)
        have f5333 : ∀ j : Nat, j ≠ x1.toNatClampNeg → fI H5303 l3 j = fI s.heap l3 j := fun j hj => (fI_kept (x_lt hTH5255 kH5303 gl3 (by decide))).trans (f5278 j hj)
        have m5334 := (m5279).trans (fI_kept (x_lt hTH5255 kH5303 glsq (by decide))).symm
        have m5335 := (m5280).trans (fI_kept (x_lt hTH5255 kH5303 gl1 (by decide))).symm
        have m5336 := (m5281).trans (fI_kept (x_lt hTH5255 kH5303 gl2 (by decide))).symm
        have m5337 := (m5282).trans (fI_kept (x_lt hTH5255 kH5303 gl3 (by decide))).symm
        have m5338 := (m5283).trans (fI_kept (x_lt hTH5255 kH5303 gf9 (by decide))).symm
        have m5339 := (m5284).trans (fI_kept (x_lt hTH5255 kH5303 gf0 (by decide))).symm
        have m5340 := (m5285).trans (MF.r mf5320 (k := 32) (by decide) (by decide)).symm
        have m5341 := (m5286).trans (MF.r mf5320 (k := 33) (by decide) (by decide)).symm
        have m5342 := (m5287).trans (MF.r mf5320 (k := 29) (by decide) (by decide)).symm
        have m5343 := (m5288).trans (MF.r mf5320 (k := 30) (by decide) (by decide)).symm
        have m5344 := (m5289).trans (MF.r mf5320 (k := 31) (by decide) (by decide)).symm
        have m5345 := (m5260).trans (MF.r mf5320 (k := 17) (by decide) (by decide)).symm
        have m5346 := (m5291).trans (MF.r mf5320 (k := 26) (by decide) (by decide)).symm
        have m5347 := (m5292).trans (MF.r mf5320 (k := 27) (by decide) (by decide)).symm
        have m5348 := (m5293).trans (MF.r mf5320 (k := 28) (by decide) (by decide)).symm
        have m5349 := (m5294).trans (MF.r mf5320 (k := 25) (by decide) (by decide)).symm
        have m5350 := (m5297).trans (MF.i mf5320 (k := 18) (by decide) (by decide)).symm
        have m5351 := (m5298).trans (MF.i mf5320 (k := 34) (by decide) (by decide)).symm
        have m5352 := (eq5301).trans (MF.r mf5320 (k := 37) (by decide) (by decide)).symm
        have mf5353 : MF K s.heap H5303 a0 [19, 20, 21, 22, 35, 36, 38, 39, 40] := MF.trans mf5299 mf5320 (by decide)
        have bx5305 := ty_fi (x := x5305) (k := 19) ex5305 hTH5303 ga0 rg_112 rfl
        have bx5306 := ty_fi (x := x5306) (k := 20) ex5306 hTH5303 ga0 rg_112 rfl
        have bx5307 := ty_fi (x := x5307) (k := 21) ex5307 hTH5303 ga0 rg_112 rfl
        have bx5308 := ty_fi (x := x5308) (k := 22) ex5308 hTH5303 ga0 rg_112 rfl
        have bx5309 := ty_fi (x := x5309) (k := 35) ex5309 hTH5303 ga0 rg_112 rfl
        have bx5310 := ty_fi (x := x5310) (k := 36) ex5310 hTH5303 ga0 rg_112 rfl
        have bx5311 := ty_fi (x := x5311) (k := 38) ex5311 hTH5303 ga0 rg_112 rfl
        have b5354 : ∀ j : Nat, j < 3000 + mn.toNatClampNeg → fI H5303 oq j = fI s.heap oq j ∧ fI H5303 aq j = fI s.heap aq j := fun j hj => ⟨(m5321 j (by omega)).1.trans (b5269 j hj).1, (m5321 j (by omega)).2.trans (b5269 j hj).2⟩
        have b5355 : WF (fun k => fI H5303 oq k) (fun k => fI H5303 aq k) (3000 + mn.toNatClampNeg) (3000 + mn.toNatClampNeg) 0 0 := WF.keep b5270 (fun j hj => (m5321 j (by omega)).1) (fun j hj => (m5321 j (by omega)).2)
        refine W.eq (g2 := F0 m 82 ls4814 [.int x5304]) rfl ?_
        refine lv_iconst (v := (-1)) hx hb dX10_readLine_82 (by decide) ?_
        refine lv_icmp_ne (tgt := 88) hx hb dX10_readLine_83 (by decide) (fun c5356 => ?_) (fun c5356 => ?_)
        · have k5357 := i_ne c5356
          replace hrH5303 := hrH5303.resolve_left (by omega)
          obtain ⟨rzH5303, ⟨z1H5303, z2H5303, z3H5303, z4H5303⟩, y1H5303, y2H5303, y3H5303⟩ := hrH5303
          clear r4H5255 r5H5255
          obtain ⟨EA, wa0⟩ : ∃ E, WF (fun k => fI H5303 oq k) (fun k => fI H5303 aq k) (3000 + mn.toNatClampNeg) (3000 + x5309.toNatClampNeg) 0 E := by
            rcases m5322 with h | h
            · exfalso; omega
            · exact h
          obtain ⟨cj5358, ho5360, cu5359⟩ := RC.yes m5323 (by omega)
          have rs5361 : RZ (1 - jb.toInt) (fun k => fI H5303 oq k) (fun k => fI H5303 aq k) (3000 + mn.toNatClampNeg) (3000 + x5309.toNatClampNeg) ([orG (kK bt tp.toNatClampNeg) (paS (kK bt tp.toNatClampNeg) (vV bt tp.toNatClampNeg) (1 - jb.toInt) 8) (paF (kK bt tp.toNatClampNeg) (vV bt tp.toNatClampNeg) (1 - jb.toInt) 8) (cj4943 + 1)]) := m5325.resolve_left (by omega)
          refine lv_aload_n hx hb dX10_readLine_88 rfl (lv_at hl4815 1 rfl) ?_
          refine x_gr C hTH5303 (ci := 10) (k := 31) rfl inX10 (by decide) wF_X10_80 ga0 rg_112 rfl dX10_readLine_89 (fun q5362 eq5362 gq5362 => ?_)
          have uq5362 : f1 = q5362 := (m5344).trans eq5362.symm
          subst uq5362
          clear eq5362
          refine lv_iload_n hx hb dX10_readLine_92 rfl (lv_at hl4815 2 rfl) ?_
          refine lv_aload_n hx hb dX10_readLine_93 rfl (lv_at hl4815 1 rfl) ?_
          refine x_gi C hTH5303 (ci := 10) (k := 35) rfl inX10 (by decide) wF_X10_228 ga0 rg_112 rfl dX10_readLine_94 (fun x5363 ex5363 bx5363 => ?_)
          have ux5363 : x5309 = x5363 := (ex5309).trans ex5363.symm
          subst ux5363
          refine x_iast C hTH5303 hSH5303 gf1 rg_135 (by omega) (by show _ < ((112 : Nat) : Int); omega) ⟨Int.le_trans (by decide) bx5309.1, Int.le_trans bx5309.2 (by decide)⟩ (AE_in gf1 (by decide)) dX10_readLine_97 (fun H5364 locsH5364 hTH5364 hSH5364 wH5364 => ?_)
          clear f5271 f5272 f5273 f5274 f5275 f5276 f5277 f5278 m5260 m5279 m5280 m5281 m5282 m5283 m5284 m5285 m5286 m5287 m5288 m5289 m5291 m5292 m5293 m5294 m5295 m5296 m5297 m5298
          have mf5365 : MF K s.heap H5364 a0 [19, 20, 21, 22, 35, 36, 38, 39, 40] := MF.arr wH5364 (G_ne ga0 gf1 (by decide)) mf5353
          have g5366 : CG (avw K H5364 a0) := CG.putL hTH5303 ga0 wH5364 gf1 (by decide) (by omega) g5316
          have g5367 : TU (avw K H5364 a0) (svw K H5364 a0) := TU.congr (fun k hk j => av_arr hTH5303 ga0 wH5364 gf1 (by decide) (TU_ok 135 (by decide) k hk)) (fun k hk => sv_arr ga0 wH5364 gf1 (by decide)) g5317
          have g5368 : WD (avw K H5364 a0) := WD.congr (fun k hk j => av_arr hTH5303 ga0 wH5364 gf1 (by decide) (WD_ok 135 (by decide) k hk)) g5318
          have g5369 : IM (avw K H5364 a0) := IM.congr (fun k hk j => av_arr hTH5303 ga0 wH5364 gf1 (by decide) (IM_ok 135 (by decide) k hk)) g5319
          have b5370 : ∀ j : Nat, j < 3000 + mn.toNatClampNeg → fI H5364 oq j = fI s.heap oq j ∧ fI H5364 aq j = fI s.heap aq j := fun j hj => ⟨(Wr.neI wH5364 (Or.inl (G_ne goq gf1 (by decide)))).trans (b5354 j hj).1, (Wr.neI wH5364 (Or.inl (G_ne gaq gf1 (by decide)))).trans (b5354 j hj).2⟩
          have b5371 : WF (fun k => fI H5364 oq k) (fun k => fI H5364 aq k) (3000 + mn.toNatClampNeg) (3000 + mn.toNatClampNeg) 0 0 := WF.congr (fun j => Wr.neI wH5364 (Or.inl (G_ne goq gf1 (by decide)))) (fun j => Wr.neI wH5364 (Or.inl (G_ne gaq gf1 (by decide)))) b5355
          have b5372 : WF (fun k => fI H5364 oq k) (fun k => fI H5364 aq k) (3000 + mn.toNatClampNeg) (3000 + x5309.toNatClampNeg) 0 EA := WF.congr (fun j => Wr.neI wH5364 (Or.inl (G_ne goq gf1 (by decide)))) (fun j => Wr.neI wH5364 (Or.inl (G_ne gaq gf1 (by decide)))) wa0
          have b5373 : RZ (1 - jb.toInt) (fun k => fI H5364 oq k) (fun k => fI H5364 aq k) (3000 + mn.toNatClampNeg) (3000 + x5309.toNatClampNeg) ([orG (kK bt tp.toNatClampNeg) (paS (kK bt tp.toNatClampNeg) (vV bt tp.toNatClampNeg) (1 - jb.toInt) 8) (paF (kK bt tp.toNatClampNeg) (vV bt tp.toNatClampNeg) (1 - jb.toInt) 8) (cj4943 + 1)]) := RZ.congr (fun j => Wr.neI wH5364 (Or.inl (G_ne goq gf1 (by decide)))) (fun j => Wr.neI wH5364 (Or.inl (G_ne gaq gf1 (by decide)))) rs5361
          have f5374 : ∀ j : Nat, j ≠ x1.toNatClampNeg → fI H5364 lsq j = fI s.heap lsq j := fun j hj => (Wr.neI wH5364 (Or.inl (G_ne glsq gf1 (by decide)))).trans (f5326 j hj)
          have f5375 : ∀ j : Nat, j ≠ x1.toNatClampNeg → fI H5364 f9 j = fI s.heap f9 j := fun j hj => (Wr.neI wH5364 (Or.inl (G_ne gf9 gf1 (by decide)))).trans (f5327 j hj)
          have f5376 : ∀ j : Nat, j ≠ x1.toNatClampNeg → fI H5364 f0 j = fI s.heap f0 j := fun j hj => (Wr.neI wH5364 (Or.inl (G_ne gf0 gf1 (by decide)))).trans (f5328 j hj)
          have f5377 : ∀ j : Nat, j ≠ x1.toNatClampNeg → fI H5364 f1 j = fI s.heap f1 j := fun j hj => (Wr.neI wH5364 (Or.inr hj)).trans (f5329 j hj)
          have f5378 : ∀ j : Nat, bt j = (fI H5364 tq j).toInt := fun j => (f5330 j).trans (congrArg Int32.toInt (Wr.neI wH5364 (Or.inl (G_ne gtq gf1 (by decide)))).symm)
          have f5379 : ∀ j : Nat, j ≠ x1.toNatClampNeg → fI H5364 l1 j = fI s.heap l1 j := fun j hj => (Wr.neI wH5364 (Or.inl (G_ne gl1 gf1 (by decide)))).trans (f5331 j hj)
          have f5380 : ∀ j : Nat, j ≠ x1.toNatClampNeg → fI H5364 l2 j = fI s.heap l2 j := fun j hj => (Wr.neI wH5364 (Or.inl (G_ne gl2 gf1 (by decide)))).trans (f5332 j hj)
          have f5381 : ∀ j : Nat, j ≠ x1.toNatClampNeg → fI H5364 l3 j = fI s.heap l3 j := fun j hj => (Wr.neI wH5364 (Or.inl (G_ne gl3 gf1 (by decide)))).trans (f5333 j hj)
          have m5382 := m5334.trans (Wr.neI wH5364 (Or.inl (G_ne glsq gf1 (by decide)))).symm
          have m5383 := m5335.trans (Wr.neI wH5364 (Or.inl (G_ne gl1 gf1 (by decide)))).symm
          have m5384 := m5336.trans (Wr.neI wH5364 (Or.inl (G_ne gl2 gf1 (by decide)))).symm
          have m5385 := m5337.trans (Wr.neI wH5364 (Or.inl (G_ne gl3 gf1 (by decide)))).symm
          have m5386 := m5338.trans (Wr.neI wH5364 (Or.inl (G_ne gf9 gf1 (by decide)))).symm
          have m5387 := m5339.trans (Wr.neI wH5364 (Or.inl (G_ne gf0 gf1 (by decide)))).symm
          have m5388 := m5312.trans (Wr.neR wH5364 (Or.inl (G_ne ga0 gf1 (by decide)))).symm
          have m5389 := m5313.trans (Wr.neR wH5364 (Or.inl (G_ne ga0 gf1 (by decide)))).symm
          have m5390 := m5342.trans (Wr.neR wH5364 (Or.inl (G_ne ga0 gf1 (by decide)))).symm
          have m5391 := m5343.trans (Wr.neR wH5364 (Or.inl (G_ne ga0 gf1 (by decide)))).symm
          have m5392 := m5344.trans (Wr.neR wH5364 (Or.inl (G_ne ga0 gf1 (by decide)))).symm
          have m5393 := m5315.trans (Wr.neR wH5364 (Or.inl (G_ne ga0 gf1 (by decide)))).symm
          have m5394 := m5346.trans (Wr.neR wH5364 (Or.inl (G_ne ga0 gf1 (by decide)))).symm
          have m5395 := m5347.trans (Wr.neR wH5364 (Or.inl (G_ne ga0 gf1 (by decide)))).symm
          have m5396 := m5348.trans (Wr.neR wH5364 (Or.inl (G_ne ga0 gf1 (by decide)))).symm
          have m5397 := m5349.trans (Wr.neR wH5364 (Or.inl (G_ne ga0 gf1 (by decide)))).symm
          have m5398 := m5350.trans (Wr.neI wH5364 (Or.inl (G_ne ga0 gf1 (by decide)))).symm
          have m5399 := m5351.trans (Wr.neI wH5364 (Or.inl (G_ne ga0 gf1 (by decide)))).symm
          have m5400 := m5314.trans (Wr.neR wH5364 (Or.inl (G_ne ga0 gf1 (by decide)))).symm
          have m5401 := ex5305.trans (Wr.neI wH5364 (Or.inl (G_ne ga0 gf1 (by decide)))).symm
          have m5402 := ex5306.trans (Wr.neI wH5364 (Or.inl (G_ne ga0 gf1 (by decide)))).symm
          have m5403 := ex5307.trans (Wr.neI wH5364 (Or.inl (G_ne ga0 gf1 (by decide)))).symm
          have m5404 := ex5308.trans (Wr.neI wH5364 (Or.inl (G_ne ga0 gf1 (by decide)))).symm
          have m5405 := ex5309.trans (Wr.neI wH5364 (Or.inl (G_ne ga0 gf1 (by decide)))).symm
          have m5406 := ex5310.trans (Wr.neI wH5364 (Or.inl (G_ne ga0 gf1 (by decide)))).symm
          have m5407 := ex5311.trans (Wr.neI wH5364 (Or.inl (G_ne ga0 gf1 (by decide)))).symm
          have m5408 := Wr.I wH5364
          have m5408 := m5408.symm
          refine lv_aload_n hx hb dX10_readLine_98 rfl (lv_at hl4815 1 rfl) ?_
          refine lv_bipush (v := 59) hx hb dX10_readLine_99 (by decide) ?_
          refine x_V (As := [.int 59]) (rest := []) C (a_X10_isSign_e l K G H5364 (59) (x5307) (x5308) hTH5364 ga0 m5403 m5404) yo_X10_isSign wM_X10_249 ⟨⟨by decide, by decide⟩, by decide, by decide⟩ (x_rv C hTH5364 (ci := 10) rfl ga0 rg_112) rfl hl4815.1 rfl (Nat.le_of_ble_eq_true rfl) dX10_readLine_101 hSH5364 (AE_sub (fun _ _ => rfl) (by decide) hSH5364.1) (fun vH5409 H5409 locsH5409 pH5409 zH5409 kH5409 hSH5409 => ?_)
          obtain ⟨x5410, hvH5409, bx5410, hrH5409, hTH5409⟩ := pH5409
          subst hvH5409
          clear zH5409
          clear f5326 f5327 f5328 f5329 f5330 f5331 f5332 f5333 m5312 m5313 m5314 m5315 m5334 m5335 m5336 m5337 m5338 m5339 m5342 m5343 m5344 m5346 m5347 m5348 m5349 m5350 m5351
          have mf5411 : MF K s.heap H5409 a0 [19, 20, 21, 22, 35, 36, 38, 39, 40] := MF.eff (x_lt hTH5364 kH5409 ga0 (by decide)) mf5365
          have b5412 : ∀ j : Nat, j < 3000 + mn.toNatClampNeg → fI H5409 oq j = fI s.heap oq j ∧ fI H5409 aq j = fI s.heap aq j := fun j hj => ⟨(fI_kept (x_lt hTH5364 kH5409 goq (by decide))).trans (b5370 j hj).1, (fI_kept (x_lt hTH5364 kH5409 gaq (by decide))).trans (b5370 j hj).2⟩
          have b5413 : WF (fun k => fI H5409 oq k) (fun k => fI H5409 aq k) (3000 + mn.toNatClampNeg) (3000 + mn.toNatClampNeg) 0 0 := WF.congr (fun j => fI_kept (x_lt hTH5364 kH5409 goq (by decide))) (fun j => fI_kept (x_lt hTH5364 kH5409 gaq (by decide))) b5371
          have b5414 : WF (fun k => fI H5409 oq k) (fun k => fI H5409 aq k) (3000 + mn.toNatClampNeg) (3000 + x5309.toNatClampNeg) 0 EA := WF.congr (fun j => fI_kept (x_lt hTH5364 kH5409 goq (by decide))) (fun j => fI_kept (x_lt hTH5364 kH5409 gaq (by decide))) b5372
          have b5415 : RZ (1 - jb.toInt) (fun k => fI H5409 oq k) (fun k => fI H5409 aq k) (3000 + mn.toNatClampNeg) (3000 + x5309.toNatClampNeg) ([orG (kK bt tp.toNatClampNeg) (paS (kK bt tp.toNatClampNeg) (vV bt tp.toNatClampNeg) (1 - jb.toInt) 8) (paF (kK bt tp.toNatClampNeg) (vV bt tp.toNatClampNeg) (1 - jb.toInt) 8) (cj4943 + 1)]) := RZ.congr (fun j => fI_kept (x_lt hTH5364 kH5409 goq (by decide))) (fun j => fI_kept (x_lt hTH5364 kH5409 gaq (by decide))) b5373
          have g5416 : CG (avw K H5409 a0) := CG.congr (fun k hk j => av_eff hTH5364 kH5409 ga0 (by decide) (CG_eff [] (by decide) k hk)) g5366
          have g5417 : TU (avw K H5409 a0) (svw K H5409 a0) := TU.congr (fun k hk j => av_eff hTH5364 kH5409 ga0 (by decide) (TU_eff [] (by decide) k hk)) (fun k hk => sv_eff hTH5364 kH5409 ga0 (by decide)) g5367
          have g5418 : WD (avw K H5409 a0) := WD.congr (fun k hk j => av_eff hTH5364 kH5409 ga0 (by decide) (WD_eff [] (by decide) k hk)) g5368
          have g5419 : IM (avw K H5409 a0) := IM.congr (fun k hk j => av_eff hTH5364 kH5409 ga0 (by decide) (IM_eff [] (by decide) k hk)) g5369
          have f5420 : ∀ j : Nat, j ≠ x1.toNatClampNeg → fI H5409 lsq j = fI s.heap lsq j := fun j hj => (fI_kept (x_lt hTH5364 kH5409 glsq (by decide))).trans (f5374 j hj)
          have f5421 : ∀ j : Nat, j ≠ x1.toNatClampNeg → fI H5409 f9 j = fI s.heap f9 j := fun j hj => (fI_kept (x_lt hTH5364 kH5409 gf9 (by decide))).trans (f5375 j hj)
          have f5422 : ∀ j : Nat, j ≠ x1.toNatClampNeg → fI H5409 f0 j = fI s.heap f0 j := fun j hj => (fI_kept (x_lt hTH5364 kH5409 gf0 (by decide))).trans (f5376 j hj)
          have f5423 : ∀ j : Nat, j ≠ x1.toNatClampNeg → fI H5409 f1 j = fI s.heap f1 j := fun j hj => (fI_kept (x_lt hTH5364 kH5409 gf1 (by decide))).trans (f5377 j hj)
          have f5424 : ∀ j : Nat, bt j = (fI H5409 tq j).toInt := fun j => (f5378 j).trans (congrArg Int32.toInt (fI_kept (x_lt hTH5364 kH5409 gtq (by decide))).symm)
          have f5425 : ∀ j : Nat, j ≠ x1.toNatClampNeg → fI H5409 l1 j = fI s.heap l1 j := fun j hj => (fI_kept (x_lt hTH5364 kH5409 gl1 (by decide))).trans (f5379 j hj)
          have f5426 : ∀ j : Nat, j ≠ x1.toNatClampNeg → fI H5409 l2 j = fI s.heap l2 j := fun j hj => (fI_kept (x_lt hTH5364 kH5409 gl2 (by decide))).trans (f5380 j hj)
          have f5427 : ∀ j : Nat, j ≠ x1.toNatClampNeg → fI H5409 l3 j = fI s.heap l3 j := fun j hj => (fI_kept (x_lt hTH5364 kH5409 gl3 (by decide))).trans (f5381 j hj)
          have m5428 := (m5382).trans (fI_kept (x_lt hTH5364 kH5409 glsq (by decide))).symm
          have m5429 := (m5383).trans (fI_kept (x_lt hTH5364 kH5409 gl1 (by decide))).symm
          have m5430 := (m5384).trans (fI_kept (x_lt hTH5364 kH5409 gl2 (by decide))).symm
          have m5431 := (m5385).trans (fI_kept (x_lt hTH5364 kH5409 gl3 (by decide))).symm
          have m5432 := (m5386).trans (fI_kept (x_lt hTH5364 kH5409 gf9 (by decide))).symm
          have m5433 := (m5387).trans (fI_kept (x_lt hTH5364 kH5409 gf0 (by decide))).symm
          have m5434 := (m5388).trans (fR_kept (x_lt hTH5364 kH5409 ga0 (by decide))).symm
          have m5435 := (m5389).trans (fR_kept (x_lt hTH5364 kH5409 ga0 (by decide))).symm
          have m5436 := (m5390).trans (fR_kept (x_lt hTH5364 kH5409 ga0 (by decide))).symm
          have m5437 := (m5391).trans (fR_kept (x_lt hTH5364 kH5409 ga0 (by decide))).symm
          have m5438 := (m5392).trans (fR_kept (x_lt hTH5364 kH5409 ga0 (by decide))).symm
          have m5439 := (m5393).trans (fR_kept (x_lt hTH5364 kH5409 ga0 (by decide))).symm
          have m5440 := (m5394).trans (fR_kept (x_lt hTH5364 kH5409 ga0 (by decide))).symm
          have m5441 := (m5395).trans (fR_kept (x_lt hTH5364 kH5409 ga0 (by decide))).symm
          have m5442 := (m5396).trans (fR_kept (x_lt hTH5364 kH5409 ga0 (by decide))).symm
          have m5443 := (m5397).trans (fR_kept (x_lt hTH5364 kH5409 ga0 (by decide))).symm
          have m5444 := (m5398).trans (fI_kept (x_lt hTH5364 kH5409 ga0 (by decide))).symm
          have m5445 := (m5399).trans (fI_kept (x_lt hTH5364 kH5409 ga0 (by decide))).symm
          have m5446 := (m5400).trans (fR_kept (x_lt hTH5364 kH5409 ga0 (by decide))).symm
          have m5447 := (m5401).trans (fI_kept (x_lt hTH5364 kH5409 ga0 (by decide))).symm
          have m5448 := (m5402).trans (fI_kept (x_lt hTH5364 kH5409 ga0 (by decide))).symm
          have m5449 := (m5403).trans (fI_kept (x_lt hTH5364 kH5409 ga0 (by decide))).symm
          have m5450 := (m5404).trans (fI_kept (x_lt hTH5364 kH5409 ga0 (by decide))).symm
          have m5451 := (m5405).trans (fI_kept (x_lt hTH5364 kH5409 ga0 (by decide))).symm
          have m5452 := (m5406).trans (fI_kept (x_lt hTH5364 kH5409 ga0 (by decide))).symm
          have m5453 := (m5407).trans (fI_kept (x_lt hTH5364 kH5409 ga0 (by decide))).symm
          have m5454 := (m5408).trans (fI_kept (x_lt hTH5364 kH5409 gf1 (by decide))).symm
          refine W.eq (g2 := F0 m 104 ls4814 [.int x5410]) rfl ?_
          refine lv_if_ne (tgt := 113) hx hb dX10_readLine_104 (by decide) (fun c5455 => ?_) (fun c5455 => ?_)
          · have k5456 := i_ne c5455
            have k59_ : kK bt tp.toNatClampNeg cj5358 = 59 := (TV.sg (c := 59) cu5359.2.2.1 (by decide)).mp ⟨by omega, by omega⟩
            replace hrH5409 := hrH5409.resolve_left (fun h => absurd h.1 (by omega))
            replace z3H5303 := z3H5303.resolve_left (by omega)
            refine lv_aload_n hx hb dX10_readLine_113 rfl (lv_at hl4815 1 rfl) ?_
            refine x_V (As := []) (rest := []) C (a_X10_reads_e l K G H5409 (x5305) (x5306) (x5307) (x5308) (tp) bt hTH5409 ga0 gtq m5439 m5447 m5448 m5449 m5450 m5444 g5416 g5417 g5418 g5419 (by and_intros <;> first | assumption | omega) (hy1) f5424) yo_X10_reads wM_X10_242 ⟨⟨by decide, by decide⟩, by decide, by decide⟩ (x_rv C hTH5409 (ci := 10) rfl ga0 rg_112) rfl hl4815.1 rfl (Nat.le_of_ble_eq_true rfl) dX10_readLine_114 hSH5409 (AE_sub (fun _ _ => rfl) (by decide) hSH5409.1) (fun vH5457 H5457 locsH5457 pH5457 zH5457 kH5457 hSH5457 => ?_)
            obtain ⟨x5458, x5459, x5460, x5461, hvH5457, ex5458, ex5459, ex5460, ex5461, hrH5457, m5462, g5463, g5464, g5465, g5466, mf5467, m5468, m5469, m5470, hTH5457⟩ := pH5457
            subst hvH5457
            clear zH5457
            replace m5462 := EQN.mk m5462
            clear f5374 f5375 f5376 f5377 f5378 f5379 f5380 f5381 m5382 m5383 m5384 m5385 m5386 m5387 m5388 m5389 m5390 m5391 m5392 m5393 m5394 m5395 m5396 m5397 m5398 m5399 m5400 m5401 m5402 m5403 m5404 m5405 m5406 m5407 m5408
            have b5471 : ∀ j : Nat, j < 3000 + mn.toNatClampNeg → fI H5457 oq j = fI s.heap oq j ∧ fI H5457 aq j = fI s.heap aq j := fun j hj => ⟨(fI_kept (x_lt hTH5409 kH5457 goq (by decide))).trans (b5412 j hj).1, (fI_kept (x_lt hTH5409 kH5457 gaq (by decide))).trans (b5412 j hj).2⟩
            have b5472 : WF (fun k => fI H5457 oq k) (fun k => fI H5457 aq k) (3000 + mn.toNatClampNeg) (3000 + mn.toNatClampNeg) 0 0 := WF.congr (fun j => fI_kept (x_lt hTH5409 kH5457 goq (by decide))) (fun j => fI_kept (x_lt hTH5409 kH5457 gaq (by decide))) b5413
            have b5473 : WF (fun k => fI H5457 oq k) (fun k => fI H5457 aq k) (3000 + mn.toNatClampNeg) (3000 + x5309.toNatClampNeg) 0 EA := WF.congr (fun j => fI_kept (x_lt hTH5409 kH5457 goq (by decide))) (fun j => fI_kept (x_lt hTH5409 kH5457 gaq (by decide))) b5414
            have b5474 : RZ (1 - jb.toInt) (fun k => fI H5457 oq k) (fun k => fI H5457 aq k) (3000 + mn.toNatClampNeg) (3000 + x5309.toNatClampNeg) ([orG (kK bt tp.toNatClampNeg) (paS (kK bt tp.toNatClampNeg) (vV bt tp.toNatClampNeg) (1 - jb.toInt) 8) (paF (kK bt tp.toNatClampNeg) (vV bt tp.toNatClampNeg) (1 - jb.toInt) 8) (cj4943 + 1)]) := RZ.congr (fun j => fI_kept (x_lt hTH5409 kH5457 goq (by decide))) (fun j => fI_kept (x_lt hTH5409 kH5457 gaq (by decide))) b5415
            have f5475 : ∀ j : Nat, j ≠ x1.toNatClampNeg → fI H5457 lsq j = fI s.heap lsq j := fun j hj => (fI_kept (x_lt hTH5409 kH5457 glsq (by decide))).trans (f5420 j hj)
            have f5476 : ∀ j : Nat, j ≠ x1.toNatClampNeg → fI H5457 f9 j = fI s.heap f9 j := fun j hj => (fI_kept (x_lt hTH5409 kH5457 gf9 (by decide))).trans (f5421 j hj)
            have f5477 : ∀ j : Nat, j ≠ x1.toNatClampNeg → fI H5457 f0 j = fI s.heap f0 j := fun j hj => (fI_kept (x_lt hTH5409 kH5457 gf0 (by decide))).trans (f5422 j hj)
            have f5478 : ∀ j : Nat, j ≠ x1.toNatClampNeg → fI H5457 f1 j = fI s.heap f1 j := fun j hj => (fI_kept (x_lt hTH5409 kH5457 gf1 (by decide))).trans (f5423 j hj)
            have f5479 : ∀ j : Nat, bt j = (fI H5457 tq j).toInt := fun j => (f5424 j).trans (congrArg Int32.toInt (fI_kept (x_lt hTH5409 kH5457 gtq (by decide))).symm)
            have f5480 : ∀ j : Nat, j ≠ x1.toNatClampNeg → fI H5457 l1 j = fI s.heap l1 j := fun j hj => (fI_kept (x_lt hTH5409 kH5457 gl1 (by decide))).trans (f5425 j hj)
            have f5481 : ∀ j : Nat, j ≠ x1.toNatClampNeg → fI H5457 l2 j = fI s.heap l2 j := fun j hj => (fI_kept (x_lt hTH5409 kH5457 gl2 (by decide))).trans (f5426 j hj)
            have f5482 : ∀ j : Nat, j ≠ x1.toNatClampNeg → fI H5457 l3 j = fI s.heap l3 j := fun j hj => (fI_kept (x_lt hTH5409 kH5457 gl3 (by decide))).trans (f5427 j hj)
            have m5483 := (m5428).trans (fI_kept (x_lt hTH5409 kH5457 glsq (by decide))).symm
            have m5484 := (m5429).trans (fI_kept (x_lt hTH5409 kH5457 gl1 (by decide))).symm
            have m5485 := (m5430).trans (fI_kept (x_lt hTH5409 kH5457 gl2 (by decide))).symm
            have m5486 := (m5431).trans (fI_kept (x_lt hTH5409 kH5457 gl3 (by decide))).symm
            have m5487 := (m5432).trans (fI_kept (x_lt hTH5409 kH5457 gf9 (by decide))).symm
            have m5488 := (m5433).trans (fI_kept (x_lt hTH5409 kH5457 gf0 (by decide))).symm
            have m5489 := (m5454).trans (fI_kept (x_lt hTH5409 kH5457 gf1 (by decide))).symm
            have m5490 := (m5434).trans (MF.r mf5467 (k := 32) (by decide) (by decide)).symm
            have m5491 := (m5435).trans (MF.r mf5467 (k := 33) (by decide) (by decide)).symm
            have m5492 := (m5436).trans (MF.r mf5467 (k := 29) (by decide) (by decide)).symm
            have m5493 := (m5437).trans (MF.r mf5467 (k := 30) (by decide) (by decide)).symm
            have m5494 := (m5438).trans (MF.r mf5467 (k := 31) (by decide) (by decide)).symm
            have m5495 := (m5439).trans (MF.r mf5467 (k := 17) (by decide) (by decide)).symm
            have m5496 := (m5440).trans (MF.r mf5467 (k := 26) (by decide) (by decide)).symm
            have m5497 := (m5441).trans (MF.r mf5467 (k := 27) (by decide) (by decide)).symm
            have m5498 := (m5442).trans (MF.r mf5467 (k := 28) (by decide) (by decide)).symm
            have m5499 := (m5443).trans (MF.r mf5467 (k := 25) (by decide) (by decide)).symm
            have m5500 := (m5444).trans (MF.i mf5467 (k := 18) (by decide) (by decide)).symm
            have m5501 := (m5445).trans (MF.i mf5467 (k := 34) (by decide) (by decide)).symm
            have m5502 := (m5446).trans (MF.r mf5467 (k := 37) (by decide) (by decide)).symm
            have m5503 := (m5451).trans (MF.i mf5467 (k := 35) (by decide) (by decide)).symm
            have m5504 := (m5452).trans (MF.i mf5467 (k := 36) (by decide) (by decide)).symm
            have m5505 := (m5453).trans (MF.i mf5467 (k := 38) (by decide) (by decide)).symm
            have mf5506 : MF K s.heap H5457 a0 [19, 20, 21, 22, 35, 36, 38, 39, 40] := MF.trans mf5411 mf5467 (by decide)
            have bx5458 := ty_fi (x := x5458) (k := 19) ex5458 hTH5457 ga0 rg_112 rfl
            have bx5459 := ty_fi (x := x5459) (k := 20) ex5459 hTH5457 ga0 rg_112 rfl
            have bx5460 := ty_fi (x := x5460) (k := 21) ex5460 hTH5457 ga0 rg_112 rfl
            have bx5461 := ty_fi (x := x5461) (k := 22) ex5461 hTH5457 ga0 rg_112 rfl
            have cn_x5459 := i_cl (x := x5459) bx5459.1
            have cn_x5306 := i_cl (x := x5306) bx5306.1
            have cu5507 : CU bt tp.toNatClampNeg (cj5358 + 1) x5459 x5458 x5460 x5461 := CU.next cu5359 m5468 m5469 m5470 (by omega)
            obtain ⟨r1H5457, r2H5457, r3H5457, r4H5457, r5H5457⟩ := hrH5457
            clear z3H5303 z4H5303
            refine W.eq (g2 := F0 m 117 ls4814 []) rfl ?_
            refine lv_iconst (v := 0) hx hb dX10_readLine_117 (by decide) ?_
            have cx_x5309 := i_cl (x := x5309) bx5309.1
            have cn_x5309 := i_cl (x := x5309) bx5309.1
            have lcn_ := lcn_at (i := ci) (m := ci + 1) rfl rfl (hs_n2 (by omega) hx0 ho4945)
            have hS_ : ((1 - jb.toInt) ≠ 0 ∧ RZ (1 - jb.toInt) (fun i => fI H5457 oq i) (fun i => fI H5457 aq i) (3000 + (fI H5457 f9 x1.toNatClampNeg).toNatClampNeg) (3000 + (fI H5457 f0 x1.toNatClampNeg).toNatClampNeg) [lfs (kK bt tp.toNatClampNeg) (vV bt tp.toNatClampNeg) (1 - jb.toInt) ci]) ∨ ((1 - jb.toInt) = 0 ∧ fI H5457 f9 x1.toNatClampNeg = fI H5457 f0 x1.toNatClampNeg) := Or.inr ⟨by omega, by rw [← m5487, ← m5488]⟩
            have lt_ := RZ.lt b5474
            have hW_ : (lhw (kK bt tp.toNatClampNeg) (vV bt tp.toNatClampNeg) (1 - jb.toInt) ci = true ∧ (fI H5457 f0 x1.toNatClampNeg).toInt < (fI H5457 f1 x1.toNatClampNeg).toInt ∧ RZ (1 - jb.toInt) (fun i => fI H5457 oq i) (fun i => fI H5457 aq i) (3000 + (fI H5457 f0 x1.toNatClampNeg).toNatClampNeg) (3000 + (fI H5457 f1 x1.toNatClampNeg).toNatClampNeg) [lfw (kK bt tp.toNatClampNeg) (vV bt tp.toNatClampNeg) (1 - jb.toInt) ci]) ∨ (lhw (kK bt tp.toNatClampNeg) (vV bt tp.toNatClampNeg) (1 - jb.toInt) ci = false ∧ fI H5457 f1 x1.toNatClampNeg = fI H5457 f0 x1.toNatClampNeg) := Or.inl ⟨decide_eq_true (by rw [lcn_]; exact kw_), by rw [← m5488, ← m5489]; omega, RZ.cast b5474 (by rw [← m5488] <;> omega) (by rw [← m5489] <;> omega) (congrArg (fun z => [orG (kK bt tp.toNatClampNeg) (paS (kK bt tp.toNatClampNeg) (vV bt tp.toNatClampNeg) (1 - jb.toInt) 8) (paF (kK bt tp.toNatClampNeg) (vV bt tp.toNatClampNeg) (1 - jb.toInt) 8) (z + 1)]) lcn_)⟩
            exact x_iret C hQ dX10_readLine_118 hSH5457 (by decide) (by decide) (⟨0, x5458, x5459, x5460, x5461, x5309, x5310, rfl, by decide, ex5458, ex5459, ex5460, ex5461, m5503, m5504, Or.inr (by and_intros <;> first | assumption | omega), m5490, m5491, m5492, m5493, m5494, m5462, m5496, m5497, m5498, m5499, g5463, g5464, g5465, g5466, mf5506, b5471, f5475, f5480, f5481, f5482, f5476, f5477, f5478, Or.inr (LNW.mk (a := fun k => fI H5457 f9 k) (b := fun k => fI H5457 f0 k) (c := fun k => fI H5457 f1 k) m5487 m5488 m5489 (by omega) (by omega) (by omega) (by omega) (WF.cast b5472 (by omega) (by omega)) (WF.cast b5473 (by omega) (by omega))), Or.inr ⟨_, (ln_go (HD.get hb0) rfl rfl (hs_n2 (by omega) hx0 ho4945) (wn_yes kw_ rfl ho5360)).trans (if_pos k59_), by omega, cu5507⟩, Or.inr (m5324.resolve_left (by omega)), Or.inr (LNR.mk (by rw [← m5483]; exact hx0) (by rw [← m5483]; omega) (by rw [← m5483, ← m5484]; exact np1_) (by rw [← m5483, ← m5485]; exact np2_) (by rw [← m5483, ← m5486]; exact np3_) hS_ hW_), Or.inr ⟨by rw [← m5488]; omega, by rw [← m5489]; omega⟩, hTH5457⟩)
          · have k5456 := i_eq c5455
            refine lv_aload_n hx hb dX10_readLine_107 rfl (lv_at hl4815 1 rfl) ?_
            refine lv_iconst (v := 1) hx hb dX10_readLine_108 (by decide) ?_
            refine x_V (As := [.int 1]) (rest := []) C (a_X10_fails l K G H5409 (1) hTH5409 ga0 g5416 g5417 g5418 g5419) yo_X10_fails wM_X10_235 ⟨⟨by decide, by decide⟩, by decide, by decide⟩ (x_rv C hTH5409 (ci := 10) rfl ga0 rg_112) rfl hl4815.1 rfl (Nat.le_of_ble_eq_true rfl) dX10_readLine_109 hSH5409 (AE_sub (fun _ _ => rfl) (by decide) hSH5409.1) (fun vH5508 H5508 locsH5508 pH5508 zH5508 kH5508 hSH5508 => ?_)
            obtain ⟨x5509, hvH5508, bx5509, g5510, g5511, g5512, g5513, mf5514, hTH5508⟩ := pH5508
            subst hvH5508
            clear zH5508
            clear f5374 f5375 f5376 f5377 f5378 f5379 f5380 f5381 m5382 m5383 m5384 m5385 m5386 m5387 m5388 m5389 m5390 m5391 m5392 m5393 m5394 m5395 m5396 m5397 m5398 m5399 m5400 m5401 m5402 m5403 m5404 m5405 m5406 m5407 m5408
            have b5515 : ∀ j : Nat, j < 3000 + mn.toNatClampNeg → fI H5508 oq j = fI s.heap oq j ∧ fI H5508 aq j = fI s.heap aq j := fun j hj => ⟨(fI_kept (x_lt hTH5409 kH5508 goq (by decide))).trans (b5412 j hj).1, (fI_kept (x_lt hTH5409 kH5508 gaq (by decide))).trans (b5412 j hj).2⟩
            have b5516 : WF (fun k => fI H5508 oq k) (fun k => fI H5508 aq k) (3000 + mn.toNatClampNeg) (3000 + mn.toNatClampNeg) 0 0 := WF.congr (fun j => fI_kept (x_lt hTH5409 kH5508 goq (by decide))) (fun j => fI_kept (x_lt hTH5409 kH5508 gaq (by decide))) b5413
            have b5517 : WF (fun k => fI H5508 oq k) (fun k => fI H5508 aq k) (3000 + mn.toNatClampNeg) (3000 + x5309.toNatClampNeg) 0 EA := WF.congr (fun j => fI_kept (x_lt hTH5409 kH5508 goq (by decide))) (fun j => fI_kept (x_lt hTH5409 kH5508 gaq (by decide))) b5414
            have b5518 : RZ (1 - jb.toInt) (fun k => fI H5508 oq k) (fun k => fI H5508 aq k) (3000 + mn.toNatClampNeg) (3000 + x5309.toNatClampNeg) ([orG (kK bt tp.toNatClampNeg) (paS (kK bt tp.toNatClampNeg) (vV bt tp.toNatClampNeg) (1 - jb.toInt) 8) (paF (kK bt tp.toNatClampNeg) (vV bt tp.toNatClampNeg) (1 - jb.toInt) 8) (cj4943 + 1)]) := RZ.congr (fun j => fI_kept (x_lt hTH5409 kH5508 goq (by decide))) (fun j => fI_kept (x_lt hTH5409 kH5508 gaq (by decide))) b5415
            have f5519 : ∀ j : Nat, j ≠ x1.toNatClampNeg → fI H5508 lsq j = fI s.heap lsq j := fun j hj => (fI_kept (x_lt hTH5409 kH5508 glsq (by decide))).trans (f5420 j hj)
            have f5520 : ∀ j : Nat, j ≠ x1.toNatClampNeg → fI H5508 f9 j = fI s.heap f9 j := fun j hj => (fI_kept (x_lt hTH5409 kH5508 gf9 (by decide))).trans (f5421 j hj)
            have f5521 : ∀ j : Nat, j ≠ x1.toNatClampNeg → fI H5508 f0 j = fI s.heap f0 j := fun j hj => (fI_kept (x_lt hTH5409 kH5508 gf0 (by decide))).trans (f5422 j hj)
            have f5522 : ∀ j : Nat, j ≠ x1.toNatClampNeg → fI H5508 f1 j = fI s.heap f1 j := fun j hj => (fI_kept (x_lt hTH5409 kH5508 gf1 (by decide))).trans (f5423 j hj)
            have f5523 : ∀ j : Nat, bt j = (fI H5508 tq j).toInt := fun j => (f5424 j).trans (congrArg Int32.toInt (fI_kept (x_lt hTH5409 kH5508 gtq (by decide))).symm)
            have f5524 : ∀ j : Nat, j ≠ x1.toNatClampNeg → fI H5508 l1 j = fI s.heap l1 j := fun j hj => (fI_kept (x_lt hTH5409 kH5508 gl1 (by decide))).trans (f5425 j hj)
            have f5525 : ∀ j : Nat, j ≠ x1.toNatClampNeg → fI H5508 l2 j = fI s.heap l2 j := fun j hj => (fI_kept (x_lt hTH5409 kH5508 gl2 (by decide))).trans (f5426 j hj)
            have f5526 : ∀ j : Nat, j ≠ x1.toNatClampNeg → fI H5508 l3 j = fI s.heap l3 j := fun j hj => (fI_kept (x_lt hTH5409 kH5508 gl3 (by decide))).trans (f5427 j hj)
            have m5527 := (m5428).trans (fI_kept (x_lt hTH5409 kH5508 glsq (by decide))).symm
            have m5528 := (m5429).trans (fI_kept (x_lt hTH5409 kH5508 gl1 (by decide))).symm
            have m5529 := (m5430).trans (fI_kept (x_lt hTH5409 kH5508 gl2 (by decide))).symm
            have m5530 := (m5431).trans (fI_kept (x_lt hTH5409 kH5508 gl3 (by decide))).symm
            have m5531 := (m5432).trans (fI_kept (x_lt hTH5409 kH5508 gf9 (by decide))).symm
            have m5532 := (m5433).trans (fI_kept (x_lt hTH5409 kH5508 gf0 (by decide))).symm
            have m5533 := (m5454).trans (fI_kept (x_lt hTH5409 kH5508 gf1 (by decide))).symm
            have m5534 := (m5434).trans (MF.r mf5514 (k := 32) (by decide) (by decide)).symm
            have m5535 := (m5435).trans (MF.r mf5514 (k := 33) (by decide) (by decide)).symm
            have m5536 := (m5436).trans (MF.r mf5514 (k := 29) (by decide) (by decide)).symm
            have m5537 := (m5437).trans (MF.r mf5514 (k := 30) (by decide) (by decide)).symm
            have m5538 := (m5438).trans (MF.r mf5514 (k := 31) (by decide) (by decide)).symm
            have m5539 := (m5439).trans (MF.r mf5514 (k := 17) (by decide) (by decide)).symm
            have m5540 := (m5440).trans (MF.r mf5514 (k := 26) (by decide) (by decide)).symm
            have m5541 := (m5441).trans (MF.r mf5514 (k := 27) (by decide) (by decide)).symm
            have m5542 := (m5442).trans (MF.r mf5514 (k := 28) (by decide) (by decide)).symm
            have m5543 := (m5443).trans (MF.r mf5514 (k := 25) (by decide) (by decide)).symm
            have m5544 := (m5444).trans (MF.i mf5514 (k := 18) (by decide) (by decide)).symm
            have m5545 := (m5445).trans (MF.i mf5514 (k := 34) (by decide) (by decide)).symm
            have m5546 := (m5446).trans (MF.r mf5514 (k := 37) (by decide) (by decide)).symm
            have m5547 := (m5447).trans (MF.i mf5514 (k := 19) (by decide) (by decide)).symm
            have m5548 := (m5448).trans (MF.i mf5514 (k := 20) (by decide) (by decide)).symm
            have m5549 := (m5449).trans (MF.i mf5514 (k := 21) (by decide) (by decide)).symm
            have m5550 := (m5450).trans (MF.i mf5514 (k := 22) (by decide) (by decide)).symm
            have m5551 := (m5451).trans (MF.i mf5514 (k := 35) (by decide) (by decide)).symm
            have m5552 := (m5452).trans (MF.i mf5514 (k := 36) (by decide) (by decide)).symm
            have m5553 := (m5453).trans (MF.i mf5514 (k := 38) (by decide) (by decide)).symm
            have mf5554 : MF K s.heap H5508 a0 [19, 20, 21, 22, 35, 36, 38, 39, 40] := MF.trans mf5411 mf5514 (by decide)
            refine W.eq (g2 := F0 m 112 ls4814 [.int x5509]) rfl ?_
            have k59_ : kK bt tp.toNatClampNeg cj5358 ≠ 59 := fun e => by have z_ := (TV.sg (c := 59) cu5359.2.2.1 (by decide)).mpr e; omega
            exact x_iret C hQ dX10_readLine_112 hSH5508 (by decide) (by decide) (⟨x5509, x5305, x5306, x5307, x5308, x5309, x5310, rfl, by omega, m5547, m5548, m5549, m5550, m5551, m5552, Or.inl (by omega), m5534, m5535, m5536, m5537, m5538, m5539, m5540, m5541, m5542, m5543, g5510, g5511, g5512, g5513, mf5554, b5515, f5519, f5524, f5525, f5526, f5520, f5521, f5522, Or.inl (by omega), Or.inl ⟨(ln_go (HD.get hb0) rfl rfl (hs_n2 (by omega) hx0 ho4945) (wn_yes kw_ rfl ho5360)).trans (if_neg k59_), by omega⟩, Or.inl (by omega), Or.inl (by omega), Or.inl (by omega), hTH5508⟩)
        · have k5357 := i_eq c5356
          refine lv_iconst (v := (-1)) hx hb dX10_readLine_86 (by decide) ?_
          exact x_iret C hQ dX10_readLine_87 hSH5303 (by decide) (by decide) (⟨(-1), x5305, x5306, x5307, x5308, x5309, x5310, rfl, by decide, ex5305, ex5306, ex5307, ex5308, ex5309, ex5310, Or.inl (by omega), m5312, m5313, m5342, m5343, m5344, m5315, m5346, m5347, m5348, m5349, g5316, g5317, g5318, g5319, mf5353, b5354, f5326, f5331, f5332, f5333, f5327, f5328, f5329, Or.inl (by omega), Or.inl ⟨ln_no2 (HD.get hb0) rfl rfl (hs_n2 (by omega) hx0 ho4945) (wn_no kw_ rfl (RC.no m5323 (by omega))), by omega⟩, Or.inl (by omega), Or.inl (by omega), Or.inl (by omega), hTH5303⟩)
    · have k4988 := i_eq c4987
      refine lv_aload_n hx hb dX10_readLine_45 rfl (lv_at hl4815 1 rfl) ?_
      refine x_V (As := []) (rest := []) C (a_X10_readSum_g l K G H4948 (x4893) (x4894) (x4895) (x4896) (mn) (tp) (jb) (cj4943) bt hTH4948 ga0 goq m4964 gaq m4965 gtq m4969 m4978 m4979 m4980 m4981 m4974 m4976 m4977 g4950 g4951 g4952 g4953 (by and_intros <;> first | assumption | omega) (by and_intros <;> first | assumption | omega) (cu4944) (hy1) f4959) yo_X10_readSum wM_X10_255 ⟨⟨by decide, by decide⟩, by decide, by decide⟩ (x_rv C hTH4948 (ci := 10) rfl ga0 rg_112) rfl hl4815.1 rfl (Nat.le_of_ble_eq_true rfl) dX10_readLine_46 hSH4948 (AE_sub (fun _ _ => rfl) (by decide) hSH4948.1) (fun vH5555 H5555 locsH5555 pH5555 zH5555 kH5555 hSH5555 => ?_)
      obtain ⟨x5556, x5557, x5558, x5559, x5560, x5561, hvH5555, bx5556, ex5557, ex5558, ex5559, ex5560, ex5561, hrH5555, m5562, m5563, m5564, g5565, g5566, g5567, g5568, mf5569, m5570, m5571, m5572, m5573, hTH5555⟩ := pH5555
      subst hvH5555
      clear zH5555
      replace m5562 := EQN.mk m5562
      replace m5563 := EQN.mk m5563
      replace m5564 := EQN.mk m5564
      clear f4914 f4915 f4916 f4917 f4918 f4935 f4936 f4937 m4897 m4898 m4899 m4900 m4919 m4920 m4921 m4922 m4923 m4924 m4929 m4930 m4931 m4932 m4933
      have f5574 : ∀ j : Nat, j ≠ x1.toNatClampNeg → fI H5555 lsq j = fI s.heap lsq j := fun j hj => (fI_kept (x_lt hTH4948 kH5555 glsq (by decide))).trans (f4955 j hj)
      have f5575 : ∀ j : Nat, j ≠ x1.toNatClampNeg → fI H5555 f9 j = fI s.heap f9 j := fun j hj => (fI_kept (x_lt hTH4948 kH5555 gf9 (by decide))).trans (f4956 j hj)
      have f5576 : ∀ j : Nat, j ≠ x1.toNatClampNeg → fI H5555 f0 j = fI s.heap f0 j := fun j hj => (fI_kept (x_lt hTH4948 kH5555 gf0 (by decide))).trans (f4957 j hj)
      have f5577 : ∀ j : Nat, j ≠ x1.toNatClampNeg → fI H5555 f1 j = fI s.heap f1 j := fun j hj => (fI_kept (x_lt hTH4948 kH5555 gf1 (by decide))).trans (f4958 j hj)
      have f5578 : ∀ j : Nat, bt j = (fI H5555 tq j).toInt := fun j => (f4959 j).trans (congrArg Int32.toInt (fI_kept (x_lt hTH4948 kH5555 gtq (by decide))).symm)
      have f5579 : ∀ j : Nat, j ≠ x1.toNatClampNeg → fI H5555 l1 j = fI s.heap l1 j := fun j hj => (fI_kept (x_lt hTH4948 kH5555 gl1 (by decide))).trans (f4960 j hj)
      have f5580 : ∀ j : Nat, j ≠ x1.toNatClampNeg → fI H5555 l2 j = fI s.heap l2 j := fun j hj => (fI_kept (x_lt hTH4948 kH5555 gl2 (by decide))).trans (f4961 j hj)
      have f5581 : ∀ j : Nat, j ≠ x1.toNatClampNeg → fI H5555 l3 j = fI s.heap l3 j := fun j hj => (fI_kept (x_lt hTH4948 kH5555 gl3 (by decide))).trans (f4962 j hj)
      have m5582 := (m4963).trans (fI_kept (x_lt hTH4948 kH5555 glsq (by decide))).symm
      have m5583 := (m4982).trans (fI_kept (x_lt hTH4948 kH5555 gl1 (by decide))).symm
      have m5584 := (m4983).trans (fI_kept (x_lt hTH4948 kH5555 gl2 (by decide))).symm
      have m5585 := (m4984).trans (fI_kept (x_lt hTH4948 kH5555 gl3 (by decide))).symm
      have m5586 := (m4985).trans (fI_kept (x_lt hTH4948 kH5555 gf9 (by decide))).symm
      have m5587 := (m4964).trans (MF.r mf5569 (k := 32) (by decide) (by decide)).symm
      have m5588 := (m4965).trans (MF.r mf5569 (k := 33) (by decide) (by decide)).symm
      have m5589 := (m4966).trans (MF.r mf5569 (k := 29) (by decide) (by decide)).symm
      have m5590 := (m4967).trans (MF.r mf5569 (k := 30) (by decide) (by decide)).symm
      have m5591 := (m4968).trans (MF.r mf5569 (k := 31) (by decide) (by decide)).symm
      have m5592 := (m4969).trans (MF.r mf5569 (k := 17) (by decide) (by decide)).symm
      have m5593 := (m4970).trans (MF.r mf5569 (k := 26) (by decide) (by decide)).symm
      have m5594 := (m4971).trans (MF.r mf5569 (k := 27) (by decide) (by decide)).symm
      have m5595 := (m4972).trans (MF.r mf5569 (k := 28) (by decide) (by decide)).symm
      have m5596 := (m4973).trans (MF.r mf5569 (k := 25) (by decide) (by decide)).symm
      have m5597 := (m4975).trans (MF.i mf5569 (k := 36) (by decide) (by decide)).symm
      have m5598 := (m4976).trans (MF.i mf5569 (k := 18) (by decide) (by decide)).symm
      have m5599 := (m4977).trans (MF.i mf5569 (k := 34) (by decide) (by decide)).symm
      have mf5600 : MF K s.heap H5555 a0 [19, 20, 21, 22, 35, 36, 38, 39, 40] := MF.trans mf4949 mf5569 (by decide)
      have bx5557 := ty_fi (x := x5557) (k := 19) ex5557 hTH5555 ga0 rg_112 rfl
      have bx5558 := ty_fi (x := x5558) (k := 20) ex5558 hTH5555 ga0 rg_112 rfl
      have bx5559 := ty_fi (x := x5559) (k := 21) ex5559 hTH5555 ga0 rg_112 rfl
      have bx5560 := ty_fi (x := x5560) (k := 22) ex5560 hTH5555 ga0 rg_112 rfl
      have bx5561 := ty_fi (x := x5561) (k := 35) ex5561 hTH5555 ga0 rg_112 rfl
      have b5601 : ∀ j : Nat, j < 3000 + mn.toNatClampNeg → fI H5555 oq j = fI s.heap oq j ∧ fI H5555 aq j = fI s.heap aq j := fun j hj => ⟨(m5570 j (by omega)).1.trans (b4954 j hj).1, (m5570 j (by omega)).2.trans (b4954 j hj).2⟩
      refine W.eq (g2 := F0 m 49 ls4814 [.int x5556]) rfl ?_
      refine lv_iconst (v := (-1)) hx hb dX10_readLine_49 (by decide) ?_
      refine lv_icmp_ne (tgt := 55) hx hb dX10_readLine_50 (by decide) (fun c5602 => ?_) (fun c5602 => ?_)
      · have k5603 := i_ne c5602
        replace hrH5555 := hrH5555.resolve_left (by omega)
        obtain ⟨rzH5555, z1H5555, z2H5555, z3H5555, z4H5555, y1H5555, y2H5555, y3H5555⟩ := hrH5555
        clear z3H4891 z4H4891
        have ws0 : WF (fun k => fI H5555 oq k) (fun k => fI H5555 aq k) (3000 + mn.toNatClampNeg) (3000 + x5561.toNatClampNeg) 0 1 := by
          rcases m5571 with h | h
          · exfalso; omega
          · exact h
        obtain ⟨cj5604, ho5606, cu5605⟩ := RC.yes m5572 (by omega)
        have rs5607 : RZ (1 - jb.toInt) (fun k => fI H5555 oq k) (fun k => fI H5555 aq k) (3000 + mn.toNatClampNeg) (3000 + x5561.toNatClampNeg) ([(smG (kK bt tp.toNatClampNeg) (vV bt tp.toNatClampNeg) (1 - jb.toInt) cj4943)]) := m5573.resolve_left (by omega)
        refine lv_aload_n hx hb dX10_readLine_55 rfl (lv_at hl4815 1 rfl) ?_
        refine x_gr C hTH5555 (ci := 10) (k := 30) rfl inX10 (by decide) wF_X10_77 ga0 rg_112 rfl dX10_readLine_56 (fun q5608 eq5608 gq5608 => ?_)
        have uq5608 : f0 = q5608 := (m5590).trans eq5608.symm
        subst uq5608
        clear eq5608
        refine lv_iload_n hx hb dX10_readLine_59 rfl (lv_at hl4815 2 rfl) ?_
        refine lv_aload_n hx hb dX10_readLine_60 rfl (lv_at hl4815 1 rfl) ?_
        refine x_gi C hTH5555 (ci := 10) (k := 35) rfl inX10 (by decide) wF_X10_228 ga0 rg_112 rfl dX10_readLine_61 (fun x5609 ex5609 bx5609 => ?_)
        have ux5609 : x5561 = x5609 := (ex5561).trans ex5609.symm
        subst ux5609
        refine x_iast C hTH5555 hSH5555 gf0 rg_134 (by omega) (by show _ < ((112 : Nat) : Int); omega) ⟨Int.le_trans (by decide) bx5561.1, Int.le_trans bx5561.2 (by decide)⟩ (AE_in gf0 (by decide)) dX10_readLine_64 (fun H5610 locsH5610 hTH5610 hSH5610 wH5610 => ?_)
        clear f4955 f4956 f4957 f4958 f4959 f4960 f4961 f4962 m4963 m4964 m4965 m4966 m4967 m4968 m4969 m4970 m4971 m4972 m4973 m4974 m4975 m4976 m4977 m4978 m4979 m4980 m4981 m4982 m4983 m4984 m4985
        have mf5611 : MF K s.heap H5610 a0 [19, 20, 21, 22, 35, 36, 38, 39, 40] := MF.arr wH5610 (G_ne ga0 gf0 (by decide)) mf5600
        have g5612 : CG (avw K H5610 a0) := CG.putL hTH5555 ga0 wH5610 gf0 (by decide) (by omega) g5565
        have g5613 : TU (avw K H5610 a0) (svw K H5610 a0) := TU.congr (fun k hk j => av_arr hTH5555 ga0 wH5610 gf0 (by decide) (TU_ok 134 (by decide) k hk)) (fun k hk => sv_arr ga0 wH5610 gf0 (by decide)) g5566
        have g5614 : WD (avw K H5610 a0) := WD.congr (fun k hk j => av_arr hTH5555 ga0 wH5610 gf0 (by decide) (WD_ok 134 (by decide) k hk)) g5567
        have g5615 : IM (avw K H5610 a0) := IM.congr (fun k hk j => av_arr hTH5555 ga0 wH5610 gf0 (by decide) (IM_ok 134 (by decide) k hk)) g5568
        have b5616 : ∀ j : Nat, j < 3000 + mn.toNatClampNeg → fI H5610 oq j = fI s.heap oq j ∧ fI H5610 aq j = fI s.heap aq j := fun j hj => ⟨(Wr.neI wH5610 (Or.inl (G_ne goq gf0 (by decide)))).trans (b5601 j hj).1, (Wr.neI wH5610 (Or.inl (G_ne gaq gf0 (by decide)))).trans (b5601 j hj).2⟩
        have b5617 : WF (fun k => fI H5610 oq k) (fun k => fI H5610 aq k) (3000 + mn.toNatClampNeg) (3000 + x5561.toNatClampNeg) 0 1 := WF.congr (fun j => Wr.neI wH5610 (Or.inl (G_ne goq gf0 (by decide)))) (fun j => Wr.neI wH5610 (Or.inl (G_ne gaq gf0 (by decide)))) ws0
        have b5618 : RZ (1 - jb.toInt) (fun k => fI H5610 oq k) (fun k => fI H5610 aq k) (3000 + mn.toNatClampNeg) (3000 + x5561.toNatClampNeg) ([(smG (kK bt tp.toNatClampNeg) (vV bt tp.toNatClampNeg) (1 - jb.toInt) cj4943)]) := RZ.congr (fun j => Wr.neI wH5610 (Or.inl (G_ne goq gf0 (by decide)))) (fun j => Wr.neI wH5610 (Or.inl (G_ne gaq gf0 (by decide)))) rs5607
        have f5619 : ∀ j : Nat, j ≠ x1.toNatClampNeg → fI H5610 lsq j = fI s.heap lsq j := fun j hj => (Wr.neI wH5610 (Or.inl (G_ne glsq gf0 (by decide)))).trans (f5574 j hj)
        have f5620 : ∀ j : Nat, j ≠ x1.toNatClampNeg → fI H5610 f9 j = fI s.heap f9 j := fun j hj => (Wr.neI wH5610 (Or.inl (G_ne gf9 gf0 (by decide)))).trans (f5575 j hj)
        have f5621 : ∀ j : Nat, j ≠ x1.toNatClampNeg → fI H5610 f0 j = fI s.heap f0 j := fun j hj => (Wr.neI wH5610 (Or.inr hj)).trans (f5576 j hj)
        have f5622 : ∀ j : Nat, j ≠ x1.toNatClampNeg → fI H5610 f1 j = fI s.heap f1 j := fun j hj => (Wr.neI wH5610 (Or.inl (G_ne gf1 gf0 (by decide)))).trans (f5577 j hj)
        have f5623 : ∀ j : Nat, bt j = (fI H5610 tq j).toInt := fun j => (f5578 j).trans (congrArg Int32.toInt (Wr.neI wH5610 (Or.inl (G_ne gtq gf0 (by decide)))).symm)
        have f5624 : ∀ j : Nat, j ≠ x1.toNatClampNeg → fI H5610 l1 j = fI s.heap l1 j := fun j hj => (Wr.neI wH5610 (Or.inl (G_ne gl1 gf0 (by decide)))).trans (f5579 j hj)
        have f5625 : ∀ j : Nat, j ≠ x1.toNatClampNeg → fI H5610 l2 j = fI s.heap l2 j := fun j hj => (Wr.neI wH5610 (Or.inl (G_ne gl2 gf0 (by decide)))).trans (f5580 j hj)
        have f5626 : ∀ j : Nat, j ≠ x1.toNatClampNeg → fI H5610 l3 j = fI s.heap l3 j := fun j hj => (Wr.neI wH5610 (Or.inl (G_ne gl3 gf0 (by decide)))).trans (f5581 j hj)
        have m5627 := m5582.trans (Wr.neI wH5610 (Or.inl (G_ne glsq gf0 (by decide)))).symm
        have m5628 := m5583.trans (Wr.neI wH5610 (Or.inl (G_ne gl1 gf0 (by decide)))).symm
        have m5629 := m5584.trans (Wr.neI wH5610 (Or.inl (G_ne gl2 gf0 (by decide)))).symm
        have m5630 := m5585.trans (Wr.neI wH5610 (Or.inl (G_ne gl3 gf0 (by decide)))).symm
        have m5631 := m5586.trans (Wr.neI wH5610 (Or.inl (G_ne gf9 gf0 (by decide)))).symm
        have m5632 := m5562.trans (Wr.neR wH5610 (Or.inl (G_ne ga0 gf0 (by decide)))).symm
        have m5633 := m5563.trans (Wr.neR wH5610 (Or.inl (G_ne ga0 gf0 (by decide)))).symm
        have m5634 := m5589.trans (Wr.neR wH5610 (Or.inl (G_ne ga0 gf0 (by decide)))).symm
        have m5635 := m5590.trans (Wr.neR wH5610 (Or.inl (G_ne ga0 gf0 (by decide)))).symm
        have m5636 := m5591.trans (Wr.neR wH5610 (Or.inl (G_ne ga0 gf0 (by decide)))).symm
        have m5637 := m5564.trans (Wr.neR wH5610 (Or.inl (G_ne ga0 gf0 (by decide)))).symm
        have m5638 := m5593.trans (Wr.neR wH5610 (Or.inl (G_ne ga0 gf0 (by decide)))).symm
        have m5639 := m5594.trans (Wr.neR wH5610 (Or.inl (G_ne ga0 gf0 (by decide)))).symm
        have m5640 := m5595.trans (Wr.neR wH5610 (Or.inl (G_ne ga0 gf0 (by decide)))).symm
        have m5641 := m5596.trans (Wr.neR wH5610 (Or.inl (G_ne ga0 gf0 (by decide)))).symm
        have m5642 := m5597.trans (Wr.neI wH5610 (Or.inl (G_ne ga0 gf0 (by decide)))).symm
        have m5643 := m5598.trans (Wr.neI wH5610 (Or.inl (G_ne ga0 gf0 (by decide)))).symm
        have m5644 := m5599.trans (Wr.neI wH5610 (Or.inl (G_ne ga0 gf0 (by decide)))).symm
        have m5645 := ex5557.trans (Wr.neI wH5610 (Or.inl (G_ne ga0 gf0 (by decide)))).symm
        have m5646 := ex5558.trans (Wr.neI wH5610 (Or.inl (G_ne ga0 gf0 (by decide)))).symm
        have m5647 := ex5559.trans (Wr.neI wH5610 (Or.inl (G_ne ga0 gf0 (by decide)))).symm
        have m5648 := ex5560.trans (Wr.neI wH5610 (Or.inl (G_ne ga0 gf0 (by decide)))).symm
        have m5649 := ex5561.trans (Wr.neI wH5610 (Or.inl (G_ne ga0 gf0 (by decide)))).symm
        have m5650 := Wr.I wH5610
        have m5650 := m5650.symm
        refine lv_aload_n hx hb dX10_readLine_65 rfl (lv_at hl4815 1 rfl) ?_
        refine lv_bipush (v := 6) hx hb dX10_readLine_66 (by decide) ?_
        refine x_V (As := [.int 6]) (rest := []) C (a_X10_isWord_e l K G H5610 (6) (x5559) (x5560) hTH5610 ga0 m5647 m5648) yo_X10_isWord wM_X10_264 ⟨⟨by decide, by decide⟩, by decide, by decide⟩ (x_rv C hTH5610 (ci := 10) rfl ga0 rg_112) rfl hl4815.1 rfl (Nat.le_of_ble_eq_true rfl) dX10_readLine_68 hSH5610 (AE_sub (fun _ _ => rfl) (by decide) hSH5610.1) (fun vH5651 H5651 locsH5651 pH5651 zH5651 kH5651 hSH5651 => ?_)
        obtain ⟨x5652, hvH5651, bx5652, hrH5651, hTH5651⟩ := pH5651
        subst hvH5651
        clear zH5651
        clear f5574 f5575 f5576 f5577 f5578 f5579 f5580 f5581 m5562 m5563 m5564 m5582 m5583 m5584 m5585 m5586 m5589 m5590 m5591 m5593 m5594 m5595 m5596 m5597 m5598 m5599
        have mf5653 : MF K s.heap H5651 a0 [19, 20, 21, 22, 35, 36, 38, 39, 40] := MF.eff (x_lt hTH5610 kH5651 ga0 (by decide)) mf5611
        have b5654 : ∀ j : Nat, j < 3000 + mn.toNatClampNeg → fI H5651 oq j = fI s.heap oq j ∧ fI H5651 aq j = fI s.heap aq j := fun j hj => ⟨(fI_kept (x_lt hTH5610 kH5651 goq (by decide))).trans (b5616 j hj).1, (fI_kept (x_lt hTH5610 kH5651 gaq (by decide))).trans (b5616 j hj).2⟩
        have b5655 : WF (fun k => fI H5651 oq k) (fun k => fI H5651 aq k) (3000 + mn.toNatClampNeg) (3000 + x5561.toNatClampNeg) 0 1 := WF.congr (fun j => fI_kept (x_lt hTH5610 kH5651 goq (by decide))) (fun j => fI_kept (x_lt hTH5610 kH5651 gaq (by decide))) b5617
        have b5656 : RZ (1 - jb.toInt) (fun k => fI H5651 oq k) (fun k => fI H5651 aq k) (3000 + mn.toNatClampNeg) (3000 + x5561.toNatClampNeg) ([(smG (kK bt tp.toNatClampNeg) (vV bt tp.toNatClampNeg) (1 - jb.toInt) cj4943)]) := RZ.congr (fun j => fI_kept (x_lt hTH5610 kH5651 goq (by decide))) (fun j => fI_kept (x_lt hTH5610 kH5651 gaq (by decide))) b5618
        have g5657 : CG (avw K H5651 a0) := CG.congr (fun k hk j => av_eff hTH5610 kH5651 ga0 (by decide) (CG_eff [] (by decide) k hk)) g5612
        have g5658 : TU (avw K H5651 a0) (svw K H5651 a0) := TU.congr (fun k hk j => av_eff hTH5610 kH5651 ga0 (by decide) (TU_eff [] (by decide) k hk)) (fun k hk => sv_eff hTH5610 kH5651 ga0 (by decide)) g5613
        have g5659 : WD (avw K H5651 a0) := WD.congr (fun k hk j => av_eff hTH5610 kH5651 ga0 (by decide) (WD_eff [] (by decide) k hk)) g5614
        have g5660 : IM (avw K H5651 a0) := IM.congr (fun k hk j => av_eff hTH5610 kH5651 ga0 (by decide) (IM_eff [] (by decide) k hk)) g5615
        have f5661 : ∀ j : Nat, j ≠ x1.toNatClampNeg → fI H5651 lsq j = fI s.heap lsq j := fun j hj => (fI_kept (x_lt hTH5610 kH5651 glsq (by decide))).trans (f5619 j hj)
        have f5662 : ∀ j : Nat, j ≠ x1.toNatClampNeg → fI H5651 f9 j = fI s.heap f9 j := fun j hj => (fI_kept (x_lt hTH5610 kH5651 gf9 (by decide))).trans (f5620 j hj)
        have f5663 : ∀ j : Nat, j ≠ x1.toNatClampNeg → fI H5651 f0 j = fI s.heap f0 j := fun j hj => (fI_kept (x_lt hTH5610 kH5651 gf0 (by decide))).trans (f5621 j hj)
        have f5664 : ∀ j : Nat, j ≠ x1.toNatClampNeg → fI H5651 f1 j = fI s.heap f1 j := fun j hj => (fI_kept (x_lt hTH5610 kH5651 gf1 (by decide))).trans (f5622 j hj)
        have f5665 : ∀ j : Nat, bt j = (fI H5651 tq j).toInt := fun j => (f5623 j).trans (congrArg Int32.toInt (fI_kept (x_lt hTH5610 kH5651 gtq (by decide))).symm)
        have f5666 : ∀ j : Nat, j ≠ x1.toNatClampNeg → fI H5651 l1 j = fI s.heap l1 j := fun j hj => (fI_kept (x_lt hTH5610 kH5651 gl1 (by decide))).trans (f5624 j hj)
        have f5667 : ∀ j : Nat, j ≠ x1.toNatClampNeg → fI H5651 l2 j = fI s.heap l2 j := fun j hj => (fI_kept (x_lt hTH5610 kH5651 gl2 (by decide))).trans (f5625 j hj)
        have f5668 : ∀ j : Nat, j ≠ x1.toNatClampNeg → fI H5651 l3 j = fI s.heap l3 j := fun j hj => (fI_kept (x_lt hTH5610 kH5651 gl3 (by decide))).trans (f5626 j hj)
        have m5669 := (m5627).trans (fI_kept (x_lt hTH5610 kH5651 glsq (by decide))).symm
        have m5670 := (m5628).trans (fI_kept (x_lt hTH5610 kH5651 gl1 (by decide))).symm
        have m5671 := (m5629).trans (fI_kept (x_lt hTH5610 kH5651 gl2 (by decide))).symm
        have m5672 := (m5630).trans (fI_kept (x_lt hTH5610 kH5651 gl3 (by decide))).symm
        have m5673 := (m5631).trans (fI_kept (x_lt hTH5610 kH5651 gf9 (by decide))).symm
        have m5674 := (m5632).trans (fR_kept (x_lt hTH5610 kH5651 ga0 (by decide))).symm
        have m5675 := (m5633).trans (fR_kept (x_lt hTH5610 kH5651 ga0 (by decide))).symm
        have m5676 := (m5634).trans (fR_kept (x_lt hTH5610 kH5651 ga0 (by decide))).symm
        have m5677 := (m5635).trans (fR_kept (x_lt hTH5610 kH5651 ga0 (by decide))).symm
        have m5678 := (m5636).trans (fR_kept (x_lt hTH5610 kH5651 ga0 (by decide))).symm
        have m5679 := (m5637).trans (fR_kept (x_lt hTH5610 kH5651 ga0 (by decide))).symm
        have m5680 := (m5638).trans (fR_kept (x_lt hTH5610 kH5651 ga0 (by decide))).symm
        have m5681 := (m5639).trans (fR_kept (x_lt hTH5610 kH5651 ga0 (by decide))).symm
        have m5682 := (m5640).trans (fR_kept (x_lt hTH5610 kH5651 ga0 (by decide))).symm
        have m5683 := (m5641).trans (fR_kept (x_lt hTH5610 kH5651 ga0 (by decide))).symm
        have m5684 := (m5642).trans (fI_kept (x_lt hTH5610 kH5651 ga0 (by decide))).symm
        have m5685 := (m5643).trans (fI_kept (x_lt hTH5610 kH5651 ga0 (by decide))).symm
        have m5686 := (m5644).trans (fI_kept (x_lt hTH5610 kH5651 ga0 (by decide))).symm
        have m5687 := (m5645).trans (fI_kept (x_lt hTH5610 kH5651 ga0 (by decide))).symm
        have m5688 := (m5646).trans (fI_kept (x_lt hTH5610 kH5651 ga0 (by decide))).symm
        have m5689 := (m5647).trans (fI_kept (x_lt hTH5610 kH5651 ga0 (by decide))).symm
        have m5690 := (m5648).trans (fI_kept (x_lt hTH5610 kH5651 ga0 (by decide))).symm
        have m5691 := (m5649).trans (fI_kept (x_lt hTH5610 kH5651 ga0 (by decide))).symm
        have m5692 := (m5650).trans (fI_kept (x_lt hTH5610 kH5651 gf0 (by decide))).symm
        refine W.eq (g2 := F0 m 71 ls4814 [.int x5652]) rfl ?_
        refine lv_if_eq (tgt := 88) hx hb dX10_readLine_71 (by decide) (fun c5693 => ?_) (fun c5693 => ?_)
        · have k5694 := i_eq c5693
          have kw_ : kK bt tp.toNatClampNeg cj5604 ≠ 7 := fun e => by have z2 := (TV.wd cu5605.2.2.1).mpr (by omega); have z1 := TV.wv cu5605.2.2.1 z2; omega
          clear hrH5651
          have wa0 : WF (fun k => fI H5651 oq k) (fun k => fI H5651 aq k) (3000 + x5561.toNatClampNeg) (3000 + x5561.toNatClampNeg) 0 0 := WF.nil
          refine lv_aload_n hx hb dX10_readLine_88 rfl (lv_at hl4815 1 rfl) ?_
          refine x_gr C hTH5651 (ci := 10) (k := 31) rfl inX10 (by decide) wF_X10_80 ga0 rg_112 rfl dX10_readLine_89 (fun q5695 eq5695 gq5695 => ?_)
          have uq5695 : f1 = q5695 := (m5678).trans eq5695.symm
          subst uq5695
          clear eq5695
          refine lv_iload_n hx hb dX10_readLine_92 rfl (lv_at hl4815 2 rfl) ?_
          refine lv_aload_n hx hb dX10_readLine_93 rfl (lv_at hl4815 1 rfl) ?_
          refine x_gi C hTH5651 (ci := 10) (k := 35) rfl inX10 (by decide) wF_X10_228 ga0 rg_112 rfl dX10_readLine_94 (fun x5696 ex5696 bx5696 => ?_)
          have ux5696 : x5561 = x5696 := (m5691).trans ex5696.symm
          subst ux5696
          refine x_iast C hTH5651 hSH5651 gf1 rg_135 (by omega) (by show _ < ((112 : Nat) : Int); omega) ⟨Int.le_trans (by decide) bx5561.1, Int.le_trans bx5561.2 (by decide)⟩ (AE_in gf1 (by decide)) dX10_readLine_97 (fun H5697 locsH5697 hTH5697 hSH5697 wH5697 => ?_)
          clear f5619 f5620 f5621 f5622 f5623 f5624 f5625 f5626 m5627 m5628 m5629 m5630 m5631 m5632 m5633 m5634 m5635 m5636 m5637 m5638 m5639 m5640 m5641 m5642 m5643 m5644 m5645 m5646 m5647 m5648 m5649 m5650
          have mf5698 : MF K s.heap H5697 a0 [19, 20, 21, 22, 35, 36, 38, 39, 40] := MF.arr wH5697 (G_ne ga0 gf1 (by decide)) mf5653
          have g5699 : CG (avw K H5697 a0) := CG.putL hTH5651 ga0 wH5697 gf1 (by decide) (by omega) g5657
          have g5700 : TU (avw K H5697 a0) (svw K H5697 a0) := TU.congr (fun k hk j => av_arr hTH5651 ga0 wH5697 gf1 (by decide) (TU_ok 135 (by decide) k hk)) (fun k hk => sv_arr ga0 wH5697 gf1 (by decide)) g5658
          have g5701 : WD (avw K H5697 a0) := WD.congr (fun k hk j => av_arr hTH5651 ga0 wH5697 gf1 (by decide) (WD_ok 135 (by decide) k hk)) g5659
          have g5702 : IM (avw K H5697 a0) := IM.congr (fun k hk j => av_arr hTH5651 ga0 wH5697 gf1 (by decide) (IM_ok 135 (by decide) k hk)) g5660
          have b5703 : ∀ j : Nat, j < 3000 + mn.toNatClampNeg → fI H5697 oq j = fI s.heap oq j ∧ fI H5697 aq j = fI s.heap aq j := fun j hj => ⟨(Wr.neI wH5697 (Or.inl (G_ne goq gf1 (by decide)))).trans (b5654 j hj).1, (Wr.neI wH5697 (Or.inl (G_ne gaq gf1 (by decide)))).trans (b5654 j hj).2⟩
          have b5704 : WF (fun k => fI H5697 oq k) (fun k => fI H5697 aq k) (3000 + mn.toNatClampNeg) (3000 + x5561.toNatClampNeg) 0 1 := WF.congr (fun j => Wr.neI wH5697 (Or.inl (G_ne goq gf1 (by decide)))) (fun j => Wr.neI wH5697 (Or.inl (G_ne gaq gf1 (by decide)))) b5655
          have b5705 : RZ (1 - jb.toInt) (fun k => fI H5697 oq k) (fun k => fI H5697 aq k) (3000 + mn.toNatClampNeg) (3000 + x5561.toNatClampNeg) ([(smG (kK bt tp.toNatClampNeg) (vV bt tp.toNatClampNeg) (1 - jb.toInt) cj4943)]) := RZ.congr (fun j => Wr.neI wH5697 (Or.inl (G_ne goq gf1 (by decide)))) (fun j => Wr.neI wH5697 (Or.inl (G_ne gaq gf1 (by decide)))) b5656
          have b5706 : WF (fun k => fI H5697 oq k) (fun k => fI H5697 aq k) (3000 + x5561.toNatClampNeg) (3000 + x5561.toNatClampNeg) 0 0 := WF.congr (fun j => Wr.neI wH5697 (Or.inl (G_ne goq gf1 (by decide)))) (fun j => Wr.neI wH5697 (Or.inl (G_ne gaq gf1 (by decide)))) wa0
          have f5707 : ∀ j : Nat, j ≠ x1.toNatClampNeg → fI H5697 lsq j = fI s.heap lsq j := fun j hj => (Wr.neI wH5697 (Or.inl (G_ne glsq gf1 (by decide)))).trans (f5661 j hj)
          have f5708 : ∀ j : Nat, j ≠ x1.toNatClampNeg → fI H5697 f9 j = fI s.heap f9 j := fun j hj => (Wr.neI wH5697 (Or.inl (G_ne gf9 gf1 (by decide)))).trans (f5662 j hj)
          have f5709 : ∀ j : Nat, j ≠ x1.toNatClampNeg → fI H5697 f0 j = fI s.heap f0 j := fun j hj => (Wr.neI wH5697 (Or.inl (G_ne gf0 gf1 (by decide)))).trans (f5663 j hj)
          have f5710 : ∀ j : Nat, j ≠ x1.toNatClampNeg → fI H5697 f1 j = fI s.heap f1 j := fun j hj => (Wr.neI wH5697 (Or.inr hj)).trans (f5664 j hj)
          have f5711 : ∀ j : Nat, bt j = (fI H5697 tq j).toInt := fun j => (f5665 j).trans (congrArg Int32.toInt (Wr.neI wH5697 (Or.inl (G_ne gtq gf1 (by decide)))).symm)
          have f5712 : ∀ j : Nat, j ≠ x1.toNatClampNeg → fI H5697 l1 j = fI s.heap l1 j := fun j hj => (Wr.neI wH5697 (Or.inl (G_ne gl1 gf1 (by decide)))).trans (f5666 j hj)
          have f5713 : ∀ j : Nat, j ≠ x1.toNatClampNeg → fI H5697 l2 j = fI s.heap l2 j := fun j hj => (Wr.neI wH5697 (Or.inl (G_ne gl2 gf1 (by decide)))).trans (f5667 j hj)
          have f5714 : ∀ j : Nat, j ≠ x1.toNatClampNeg → fI H5697 l3 j = fI s.heap l3 j := fun j hj => (Wr.neI wH5697 (Or.inl (G_ne gl3 gf1 (by decide)))).trans (f5668 j hj)
          have m5715 := m5669.trans (Wr.neI wH5697 (Or.inl (G_ne glsq gf1 (by decide)))).symm
          have m5716 := m5670.trans (Wr.neI wH5697 (Or.inl (G_ne gl1 gf1 (by decide)))).symm
          have m5717 := m5671.trans (Wr.neI wH5697 (Or.inl (G_ne gl2 gf1 (by decide)))).symm
          have m5718 := m5672.trans (Wr.neI wH5697 (Or.inl (G_ne gl3 gf1 (by decide)))).symm
          have m5719 := m5673.trans (Wr.neI wH5697 (Or.inl (G_ne gf9 gf1 (by decide)))).symm
          have m5720 := m5674.trans (Wr.neR wH5697 (Or.inl (G_ne ga0 gf1 (by decide)))).symm
          have m5721 := m5675.trans (Wr.neR wH5697 (Or.inl (G_ne ga0 gf1 (by decide)))).symm
          have m5722 := m5676.trans (Wr.neR wH5697 (Or.inl (G_ne ga0 gf1 (by decide)))).symm
          have m5723 := m5677.trans (Wr.neR wH5697 (Or.inl (G_ne ga0 gf1 (by decide)))).symm
          have m5724 := m5678.trans (Wr.neR wH5697 (Or.inl (G_ne ga0 gf1 (by decide)))).symm
          have m5725 := m5679.trans (Wr.neR wH5697 (Or.inl (G_ne ga0 gf1 (by decide)))).symm
          have m5726 := m5680.trans (Wr.neR wH5697 (Or.inl (G_ne ga0 gf1 (by decide)))).symm
          have m5727 := m5681.trans (Wr.neR wH5697 (Or.inl (G_ne ga0 gf1 (by decide)))).symm
          have m5728 := m5682.trans (Wr.neR wH5697 (Or.inl (G_ne ga0 gf1 (by decide)))).symm
          have m5729 := m5683.trans (Wr.neR wH5697 (Or.inl (G_ne ga0 gf1 (by decide)))).symm
          have m5730 := m5684.trans (Wr.neI wH5697 (Or.inl (G_ne ga0 gf1 (by decide)))).symm
          have m5731 := m5685.trans (Wr.neI wH5697 (Or.inl (G_ne ga0 gf1 (by decide)))).symm
          have m5732 := m5686.trans (Wr.neI wH5697 (Or.inl (G_ne ga0 gf1 (by decide)))).symm
          have m5733 := m5687.trans (Wr.neI wH5697 (Or.inl (G_ne ga0 gf1 (by decide)))).symm
          have m5734 := m5688.trans (Wr.neI wH5697 (Or.inl (G_ne ga0 gf1 (by decide)))).symm
          have m5735 := m5689.trans (Wr.neI wH5697 (Or.inl (G_ne ga0 gf1 (by decide)))).symm
          have m5736 := m5690.trans (Wr.neI wH5697 (Or.inl (G_ne ga0 gf1 (by decide)))).symm
          have m5737 := m5691.trans (Wr.neI wH5697 (Or.inl (G_ne ga0 gf1 (by decide)))).symm
          have m5738 := m5692.trans (Wr.neI wH5697 (Or.inl (G_ne gf0 gf1 (by decide)))).symm
          have m5739 := Wr.I wH5697
          have m5739 := m5739.symm
          refine lv_aload_n hx hb dX10_readLine_98 rfl (lv_at hl4815 1 rfl) ?_
          refine lv_bipush (v := 59) hx hb dX10_readLine_99 (by decide) ?_
          refine x_V (As := [.int 59]) (rest := []) C (a_X10_isSign_e l K G H5697 (59) (x5559) (x5560) hTH5697 ga0 m5735 m5736) yo_X10_isSign wM_X10_249 ⟨⟨by decide, by decide⟩, by decide, by decide⟩ (x_rv C hTH5697 (ci := 10) rfl ga0 rg_112) rfl hl4815.1 rfl (Nat.le_of_ble_eq_true rfl) dX10_readLine_101 hSH5697 (AE_sub (fun _ _ => rfl) (by decide) hSH5697.1) (fun vH5740 H5740 locsH5740 pH5740 zH5740 kH5740 hSH5740 => ?_)
          obtain ⟨x5741, hvH5740, bx5741, hrH5740, hTH5740⟩ := pH5740
          subst hvH5740
          clear zH5740
          clear f5661 f5662 f5663 f5664 f5665 f5666 f5667 f5668 m5669 m5670 m5671 m5672 m5673 m5674 m5675 m5676 m5677 m5678 m5679 m5680 m5681 m5682 m5683 m5684 m5685 m5686 m5687 m5688 m5689 m5690 m5691 m5692
          have mf5742 : MF K s.heap H5740 a0 [19, 20, 21, 22, 35, 36, 38, 39, 40] := MF.eff (x_lt hTH5697 kH5740 ga0 (by decide)) mf5698
          have b5743 : ∀ j : Nat, j < 3000 + mn.toNatClampNeg → fI H5740 oq j = fI s.heap oq j ∧ fI H5740 aq j = fI s.heap aq j := fun j hj => ⟨(fI_kept (x_lt hTH5697 kH5740 goq (by decide))).trans (b5703 j hj).1, (fI_kept (x_lt hTH5697 kH5740 gaq (by decide))).trans (b5703 j hj).2⟩
          have b5744 : WF (fun k => fI H5740 oq k) (fun k => fI H5740 aq k) (3000 + mn.toNatClampNeg) (3000 + x5561.toNatClampNeg) 0 1 := WF.congr (fun j => fI_kept (x_lt hTH5697 kH5740 goq (by decide))) (fun j => fI_kept (x_lt hTH5697 kH5740 gaq (by decide))) b5704
          have b5745 : RZ (1 - jb.toInt) (fun k => fI H5740 oq k) (fun k => fI H5740 aq k) (3000 + mn.toNatClampNeg) (3000 + x5561.toNatClampNeg) ([(smG (kK bt tp.toNatClampNeg) (vV bt tp.toNatClampNeg) (1 - jb.toInt) cj4943)]) := RZ.congr (fun j => fI_kept (x_lt hTH5697 kH5740 goq (by decide))) (fun j => fI_kept (x_lt hTH5697 kH5740 gaq (by decide))) b5705
          have b5746 : WF (fun k => fI H5740 oq k) (fun k => fI H5740 aq k) (3000 + x5561.toNatClampNeg) (3000 + x5561.toNatClampNeg) 0 0 := WF.congr (fun j => fI_kept (x_lt hTH5697 kH5740 goq (by decide))) (fun j => fI_kept (x_lt hTH5697 kH5740 gaq (by decide))) b5706
          have g5747 : CG (avw K H5740 a0) := CG.congr (fun k hk j => av_eff hTH5697 kH5740 ga0 (by decide) (CG_eff [] (by decide) k hk)) g5699
          have g5748 : TU (avw K H5740 a0) (svw K H5740 a0) := TU.congr (fun k hk j => av_eff hTH5697 kH5740 ga0 (by decide) (TU_eff [] (by decide) k hk)) (fun k hk => sv_eff hTH5697 kH5740 ga0 (by decide)) g5700
          have g5749 : WD (avw K H5740 a0) := WD.congr (fun k hk j => av_eff hTH5697 kH5740 ga0 (by decide) (WD_eff [] (by decide) k hk)) g5701
          have g5750 : IM (avw K H5740 a0) := IM.congr (fun k hk j => av_eff hTH5697 kH5740 ga0 (by decide) (IM_eff [] (by decide) k hk)) g5702
          have f5751 : ∀ j : Nat, j ≠ x1.toNatClampNeg → fI H5740 lsq j = fI s.heap lsq j := fun j hj => (fI_kept (x_lt hTH5697 kH5740 glsq (by decide))).trans (f5707 j hj)
          have f5752 : ∀ j : Nat, j ≠ x1.toNatClampNeg → fI H5740 f9 j = fI s.heap f9 j := fun j hj => (fI_kept (x_lt hTH5697 kH5740 gf9 (by decide))).trans (f5708 j hj)
          have f5753 : ∀ j : Nat, j ≠ x1.toNatClampNeg → fI H5740 f0 j = fI s.heap f0 j := fun j hj => (fI_kept (x_lt hTH5697 kH5740 gf0 (by decide))).trans (f5709 j hj)
          have f5754 : ∀ j : Nat, j ≠ x1.toNatClampNeg → fI H5740 f1 j = fI s.heap f1 j := fun j hj => (fI_kept (x_lt hTH5697 kH5740 gf1 (by decide))).trans (f5710 j hj)
          have f5755 : ∀ j : Nat, bt j = (fI H5740 tq j).toInt := fun j => (f5711 j).trans (congrArg Int32.toInt (fI_kept (x_lt hTH5697 kH5740 gtq (by decide))).symm)
          have f5756 : ∀ j : Nat, j ≠ x1.toNatClampNeg → fI H5740 l1 j = fI s.heap l1 j := fun j hj => (fI_kept (x_lt hTH5697 kH5740 gl1 (by decide))).trans (f5712 j hj)
          have f5757 : ∀ j : Nat, j ≠ x1.toNatClampNeg → fI H5740 l2 j = fI s.heap l2 j := fun j hj => (fI_kept (x_lt hTH5697 kH5740 gl2 (by decide))).trans (f5713 j hj)
          have f5758 : ∀ j : Nat, j ≠ x1.toNatClampNeg → fI H5740 l3 j = fI s.heap l3 j := fun j hj => (fI_kept (x_lt hTH5697 kH5740 gl3 (by decide))).trans (f5714 j hj)
          have m5759 := (m5715).trans (fI_kept (x_lt hTH5697 kH5740 glsq (by decide))).symm
          have m5760 := (m5716).trans (fI_kept (x_lt hTH5697 kH5740 gl1 (by decide))).symm
          have m5761 := (m5717).trans (fI_kept (x_lt hTH5697 kH5740 gl2 (by decide))).symm
          have m5762 := (m5718).trans (fI_kept (x_lt hTH5697 kH5740 gl3 (by decide))).symm
          have m5763 := (m5719).trans (fI_kept (x_lt hTH5697 kH5740 gf9 (by decide))).symm
          have m5764 := (m5720).trans (fR_kept (x_lt hTH5697 kH5740 ga0 (by decide))).symm
          have m5765 := (m5721).trans (fR_kept (x_lt hTH5697 kH5740 ga0 (by decide))).symm
          have m5766 := (m5722).trans (fR_kept (x_lt hTH5697 kH5740 ga0 (by decide))).symm
          have m5767 := (m5723).trans (fR_kept (x_lt hTH5697 kH5740 ga0 (by decide))).symm
          have m5768 := (m5724).trans (fR_kept (x_lt hTH5697 kH5740 ga0 (by decide))).symm
          have m5769 := (m5725).trans (fR_kept (x_lt hTH5697 kH5740 ga0 (by decide))).symm
          have m5770 := (m5726).trans (fR_kept (x_lt hTH5697 kH5740 ga0 (by decide))).symm
          have m5771 := (m5727).trans (fR_kept (x_lt hTH5697 kH5740 ga0 (by decide))).symm
          have m5772 := (m5728).trans (fR_kept (x_lt hTH5697 kH5740 ga0 (by decide))).symm
          have m5773 := (m5729).trans (fR_kept (x_lt hTH5697 kH5740 ga0 (by decide))).symm
          have m5774 := (m5730).trans (fI_kept (x_lt hTH5697 kH5740 ga0 (by decide))).symm
          have m5775 := (m5731).trans (fI_kept (x_lt hTH5697 kH5740 ga0 (by decide))).symm
          have m5776 := (m5732).trans (fI_kept (x_lt hTH5697 kH5740 ga0 (by decide))).symm
          have m5777 := (m5733).trans (fI_kept (x_lt hTH5697 kH5740 ga0 (by decide))).symm
          have m5778 := (m5734).trans (fI_kept (x_lt hTH5697 kH5740 ga0 (by decide))).symm
          have m5779 := (m5735).trans (fI_kept (x_lt hTH5697 kH5740 ga0 (by decide))).symm
          have m5780 := (m5736).trans (fI_kept (x_lt hTH5697 kH5740 ga0 (by decide))).symm
          have m5781 := (m5737).trans (fI_kept (x_lt hTH5697 kH5740 ga0 (by decide))).symm
          have m5782 := (m5738).trans (fI_kept (x_lt hTH5697 kH5740 gf0 (by decide))).symm
          have m5783 := (m5739).trans (fI_kept (x_lt hTH5697 kH5740 gf1 (by decide))).symm
          refine W.eq (g2 := F0 m 104 ls4814 [.int x5741]) rfl ?_
          refine lv_if_ne (tgt := 113) hx hb dX10_readLine_104 (by decide) (fun c5784 => ?_) (fun c5784 => ?_)
          · have k5785 := i_ne c5784
            have k59_ : kK bt tp.toNatClampNeg cj5604 = 59 := (TV.sg (c := 59) cu5605.2.2.1 (by decide)).mp ⟨by omega, by omega⟩
            replace hrH5740 := hrH5740.resolve_left (fun h => absurd h.1 (by omega))
            replace z3H5555 := z3H5555.resolve_left (by omega)
            refine lv_aload_n hx hb dX10_readLine_113 rfl (lv_at hl4815 1 rfl) ?_
            refine x_V (As := []) (rest := []) C (a_X10_reads_e l K G H5740 (x5557) (x5558) (x5559) (x5560) (tp) bt hTH5740 ga0 gtq m5769 m5777 m5778 m5779 m5780 m5775 g5747 g5748 g5749 g5750 (by and_intros <;> first | assumption | omega) (hy1) f5755) yo_X10_reads wM_X10_242 ⟨⟨by decide, by decide⟩, by decide, by decide⟩ (x_rv C hTH5740 (ci := 10) rfl ga0 rg_112) rfl hl4815.1 rfl (Nat.le_of_ble_eq_true rfl) dX10_readLine_114 hSH5740 (AE_sub (fun _ _ => rfl) (by decide) hSH5740.1) (fun vH5786 H5786 locsH5786 pH5786 zH5786 kH5786 hSH5786 => ?_)
            obtain ⟨x5787, x5788, x5789, x5790, hvH5786, ex5787, ex5788, ex5789, ex5790, hrH5786, m5791, g5792, g5793, g5794, g5795, mf5796, m5797, m5798, m5799, hTH5786⟩ := pH5786
            subst hvH5786
            clear zH5786
            replace m5791 := EQN.mk m5791
            clear f5707 f5708 f5709 f5710 f5711 f5712 f5713 f5714 m5715 m5716 m5717 m5718 m5719 m5720 m5721 m5722 m5723 m5724 m5725 m5726 m5727 m5728 m5729 m5730 m5731 m5732 m5733 m5734 m5735 m5736 m5737 m5738 m5739
            have b5800 : ∀ j : Nat, j < 3000 + mn.toNatClampNeg → fI H5786 oq j = fI s.heap oq j ∧ fI H5786 aq j = fI s.heap aq j := fun j hj => ⟨(fI_kept (x_lt hTH5740 kH5786 goq (by decide))).trans (b5743 j hj).1, (fI_kept (x_lt hTH5740 kH5786 gaq (by decide))).trans (b5743 j hj).2⟩
            have b5801 : WF (fun k => fI H5786 oq k) (fun k => fI H5786 aq k) (3000 + mn.toNatClampNeg) (3000 + x5561.toNatClampNeg) 0 1 := WF.congr (fun j => fI_kept (x_lt hTH5740 kH5786 goq (by decide))) (fun j => fI_kept (x_lt hTH5740 kH5786 gaq (by decide))) b5744
            have b5802 : RZ (1 - jb.toInt) (fun k => fI H5786 oq k) (fun k => fI H5786 aq k) (3000 + mn.toNatClampNeg) (3000 + x5561.toNatClampNeg) ([(smG (kK bt tp.toNatClampNeg) (vV bt tp.toNatClampNeg) (1 - jb.toInt) cj4943)]) := RZ.congr (fun j => fI_kept (x_lt hTH5740 kH5786 goq (by decide))) (fun j => fI_kept (x_lt hTH5740 kH5786 gaq (by decide))) b5745
            have b5803 : WF (fun k => fI H5786 oq k) (fun k => fI H5786 aq k) (3000 + x5561.toNatClampNeg) (3000 + x5561.toNatClampNeg) 0 0 := WF.congr (fun j => fI_kept (x_lt hTH5740 kH5786 goq (by decide))) (fun j => fI_kept (x_lt hTH5740 kH5786 gaq (by decide))) b5746
            have f5804 : ∀ j : Nat, j ≠ x1.toNatClampNeg → fI H5786 lsq j = fI s.heap lsq j := fun j hj => (fI_kept (x_lt hTH5740 kH5786 glsq (by decide))).trans (f5751 j hj)
            have f5805 : ∀ j : Nat, j ≠ x1.toNatClampNeg → fI H5786 f9 j = fI s.heap f9 j := fun j hj => (fI_kept (x_lt hTH5740 kH5786 gf9 (by decide))).trans (f5752 j hj)
            have f5806 : ∀ j : Nat, j ≠ x1.toNatClampNeg → fI H5786 f0 j = fI s.heap f0 j := fun j hj => (fI_kept (x_lt hTH5740 kH5786 gf0 (by decide))).trans (f5753 j hj)
            have f5807 : ∀ j : Nat, j ≠ x1.toNatClampNeg → fI H5786 f1 j = fI s.heap f1 j := fun j hj => (fI_kept (x_lt hTH5740 kH5786 gf1 (by decide))).trans (f5754 j hj)
            have f5808 : ∀ j : Nat, bt j = (fI H5786 tq j).toInt := fun j => (f5755 j).trans (congrArg Int32.toInt (fI_kept (x_lt hTH5740 kH5786 gtq (by decide))).symm)
            have f5809 : ∀ j : Nat, j ≠ x1.toNatClampNeg → fI H5786 l1 j = fI s.heap l1 j := fun j hj => (fI_kept (x_lt hTH5740 kH5786 gl1 (by decide))).trans (f5756 j hj)
            have f5810 : ∀ j : Nat, j ≠ x1.toNatClampNeg → fI H5786 l2 j = fI s.heap l2 j := fun j hj => (fI_kept (x_lt hTH5740 kH5786 gl2 (by decide))).trans (f5757 j hj)
            have f5811 : ∀ j : Nat, j ≠ x1.toNatClampNeg → fI H5786 l3 j = fI s.heap l3 j := fun j hj => (fI_kept (x_lt hTH5740 kH5786 gl3 (by decide))).trans (f5758 j hj)
            have m5812 := (m5759).trans (fI_kept (x_lt hTH5740 kH5786 glsq (by decide))).symm
            have m5813 := (m5760).trans (fI_kept (x_lt hTH5740 kH5786 gl1 (by decide))).symm
            have m5814 := (m5761).trans (fI_kept (x_lt hTH5740 kH5786 gl2 (by decide))).symm
            have m5815 := (m5762).trans (fI_kept (x_lt hTH5740 kH5786 gl3 (by decide))).symm
            have m5816 := (m5763).trans (fI_kept (x_lt hTH5740 kH5786 gf9 (by decide))).symm
            have m5817 := (m5782).trans (fI_kept (x_lt hTH5740 kH5786 gf0 (by decide))).symm
            have m5818 := (m5783).trans (fI_kept (x_lt hTH5740 kH5786 gf1 (by decide))).symm
            have m5819 := (m5764).trans (MF.r mf5796 (k := 32) (by decide) (by decide)).symm
            have m5820 := (m5765).trans (MF.r mf5796 (k := 33) (by decide) (by decide)).symm
            have m5821 := (m5766).trans (MF.r mf5796 (k := 29) (by decide) (by decide)).symm
            have m5822 := (m5767).trans (MF.r mf5796 (k := 30) (by decide) (by decide)).symm
            have m5823 := (m5768).trans (MF.r mf5796 (k := 31) (by decide) (by decide)).symm
            have m5824 := (m5769).trans (MF.r mf5796 (k := 17) (by decide) (by decide)).symm
            have m5825 := (m5770).trans (MF.r mf5796 (k := 26) (by decide) (by decide)).symm
            have m5826 := (m5771).trans (MF.r mf5796 (k := 27) (by decide) (by decide)).symm
            have m5827 := (m5772).trans (MF.r mf5796 (k := 28) (by decide) (by decide)).symm
            have m5828 := (m5773).trans (MF.r mf5796 (k := 25) (by decide) (by decide)).symm
            have m5829 := (m5774).trans (MF.i mf5796 (k := 36) (by decide) (by decide)).symm
            have m5830 := (m5775).trans (MF.i mf5796 (k := 18) (by decide) (by decide)).symm
            have m5831 := (m5776).trans (MF.i mf5796 (k := 34) (by decide) (by decide)).symm
            have m5832 := (m5781).trans (MF.i mf5796 (k := 35) (by decide) (by decide)).symm
            have mf5833 : MF K s.heap H5786 a0 [19, 20, 21, 22, 35, 36, 38, 39, 40] := MF.trans mf5742 mf5796 (by decide)
            have bx5787 := ty_fi (x := x5787) (k := 19) ex5787 hTH5786 ga0 rg_112 rfl
            have bx5788 := ty_fi (x := x5788) (k := 20) ex5788 hTH5786 ga0 rg_112 rfl
            have bx5789 := ty_fi (x := x5789) (k := 21) ex5789 hTH5786 ga0 rg_112 rfl
            have bx5790 := ty_fi (x := x5790) (k := 22) ex5790 hTH5786 ga0 rg_112 rfl
            have cn_x5788 := i_cl (x := x5788) bx5788.1
            have cn_x5558 := i_cl (x := x5558) bx5558.1
            have cu5834 : CU bt tp.toNatClampNeg (cj5604 + 1) x5788 x5787 x5789 x5790 := CU.next cu5605 m5797 m5798 m5799 (by omega)
            obtain ⟨r1H5786, r2H5786, r3H5786, r4H5786, r5H5786⟩ := hrH5786
            clear z3H5555 z4H5555
            refine W.eq (g2 := F0 m 117 ls4814 []) rfl ?_
            refine lv_iconst (v := 0) hx hb dX10_readLine_117 (by decide) ?_
            have cx_x5561 := i_cl (x := x5561) bx5561.1
            have cn_x5561 := i_cl (x := x5561) bx5561.1
            have cn_x5561 := i_cl (x := x5561) bx5561.1
            have lcn_ := lcn_at (i := ci) (m := ci + 1) rfl rfl ((hs_n1 (by omega) hx0 ho4945).trans ho5606)
            have hS_ : ((1 - jb.toInt) ≠ 0 ∧ RZ (1 - jb.toInt) (fun i => fI H5786 oq i) (fun i => fI H5786 aq i) (3000 + (fI H5786 f9 x1.toNatClampNeg).toNatClampNeg) (3000 + (fI H5786 f0 x1.toNatClampNeg).toNatClampNeg) [lfs (kK bt tp.toNatClampNeg) (vV bt tp.toNatClampNeg) (1 - jb.toInt) ci]) ∨ ((1 - jb.toInt) = 0 ∧ fI H5786 f9 x1.toNatClampNeg = fI H5786 f0 x1.toNatClampNeg) := Or.inl ⟨by omega, RZ.cast b5802 (by rw [← m5816] <;> omega) (by rw [← m5817] <;> omega) (congrArg (fun z => [smG (kK bt tp.toNatClampNeg) (vV bt tp.toNatClampNeg) (1 - jb.toInt) z]) (lhd_hn (by omega) hx0 rfl ho4945))⟩
            have hW_ : (lhw (kK bt tp.toNatClampNeg) (vV bt tp.toNatClampNeg) (1 - jb.toInt) ci = true ∧ (fI H5786 f0 x1.toNatClampNeg).toInt < (fI H5786 f1 x1.toNatClampNeg).toInt ∧ RZ (1 - jb.toInt) (fun i => fI H5786 oq i) (fun i => fI H5786 aq i) (3000 + (fI H5786 f0 x1.toNatClampNeg).toNatClampNeg) (3000 + (fI H5786 f1 x1.toNatClampNeg).toNatClampNeg) [lfw (kK bt tp.toNatClampNeg) (vV bt tp.toNatClampNeg) (1 - jb.toInt) ci]) ∨ (lhw (kK bt tp.toNatClampNeg) (vV bt tp.toNatClampNeg) (1 - jb.toInt) ci = false ∧ fI H5786 f1 x1.toNatClampNeg = fI H5786 f0 x1.toNatClampNeg) := Or.inr ⟨decide_eq_false (by rw [lcn_]; exact kw_), by rw [← m5818, ← m5817]⟩
            exact x_iret C hQ dX10_readLine_118 hSH5786 (by decide) (by decide) (⟨0, x5787, x5788, x5789, x5790, x5561, on, rfl, by decide, ex5787, ex5788, ex5789, ex5790, m5832, m5829, Or.inr (by and_intros <;> first | assumption | omega), m5819, m5820, m5821, m5822, m5823, m5791, m5825, m5826, m5827, m5828, g5792, g5793, g5794, g5795, mf5833, b5800, f5804, f5809, f5810, f5811, f5805, f5806, f5807, Or.inr (LNW.mk (a := fun k => fI H5786 f9 k) (b := fun k => fI H5786 f0 k) (c := fun k => fI H5786 f1 k) m5816 m5817 m5818 (by omega) (by omega) (by omega) (by omega) (WF.cast b5801 (by omega) (by omega)) (WF.cast b5803 (by omega) (by omega))), Or.inr ⟨_, (ln_go (HD.get hb0) rfl rfl ((hs_n1 (by omega) hx0 ho4945).trans ho5606) (wn_0 kw_)).trans (if_pos k59_), by omega, cu5834⟩, Or.inr (by omega), Or.inr (LNR.mk (by rw [← m5812]; exact hx0) (by rw [← m5812]; omega) (by rw [← m5812, ← m5813]; exact np1_) (by rw [← m5812, ← m5814]; exact np2_) (by rw [← m5812, ← m5815]; exact np3_) hS_ hW_), Or.inr ⟨by rw [← m5817]; omega, by rw [← m5818]; omega⟩, hTH5786⟩)
          · have k5785 := i_eq c5784
            refine lv_aload_n hx hb dX10_readLine_107 rfl (lv_at hl4815 1 rfl) ?_
            refine lv_iconst (v := 1) hx hb dX10_readLine_108 (by decide) ?_
            refine x_V (As := [.int 1]) (rest := []) C (a_X10_fails l K G H5740 (1) hTH5740 ga0 g5747 g5748 g5749 g5750) yo_X10_fails wM_X10_235 ⟨⟨by decide, by decide⟩, by decide, by decide⟩ (x_rv C hTH5740 (ci := 10) rfl ga0 rg_112) rfl hl4815.1 rfl (Nat.le_of_ble_eq_true rfl) dX10_readLine_109 hSH5740 (AE_sub (fun _ _ => rfl) (by decide) hSH5740.1) (fun vH5835 H5835 locsH5835 pH5835 zH5835 kH5835 hSH5835 => ?_)
            obtain ⟨x5836, hvH5835, bx5836, g5837, g5838, g5839, g5840, mf5841, hTH5835⟩ := pH5835
            subst hvH5835
            clear zH5835
            clear f5707 f5708 f5709 f5710 f5711 f5712 f5713 f5714 m5715 m5716 m5717 m5718 m5719 m5720 m5721 m5722 m5723 m5724 m5725 m5726 m5727 m5728 m5729 m5730 m5731 m5732 m5733 m5734 m5735 m5736 m5737 m5738 m5739
            have b5842 : ∀ j : Nat, j < 3000 + mn.toNatClampNeg → fI H5835 oq j = fI s.heap oq j ∧ fI H5835 aq j = fI s.heap aq j := fun j hj => ⟨(fI_kept (x_lt hTH5740 kH5835 goq (by decide))).trans (b5743 j hj).1, (fI_kept (x_lt hTH5740 kH5835 gaq (by decide))).trans (b5743 j hj).2⟩
            have b5843 : WF (fun k => fI H5835 oq k) (fun k => fI H5835 aq k) (3000 + mn.toNatClampNeg) (3000 + x5561.toNatClampNeg) 0 1 := WF.congr (fun j => fI_kept (x_lt hTH5740 kH5835 goq (by decide))) (fun j => fI_kept (x_lt hTH5740 kH5835 gaq (by decide))) b5744
            have b5844 : RZ (1 - jb.toInt) (fun k => fI H5835 oq k) (fun k => fI H5835 aq k) (3000 + mn.toNatClampNeg) (3000 + x5561.toNatClampNeg) ([(smG (kK bt tp.toNatClampNeg) (vV bt tp.toNatClampNeg) (1 - jb.toInt) cj4943)]) := RZ.congr (fun j => fI_kept (x_lt hTH5740 kH5835 goq (by decide))) (fun j => fI_kept (x_lt hTH5740 kH5835 gaq (by decide))) b5745
            have b5845 : WF (fun k => fI H5835 oq k) (fun k => fI H5835 aq k) (3000 + x5561.toNatClampNeg) (3000 + x5561.toNatClampNeg) 0 0 := WF.congr (fun j => fI_kept (x_lt hTH5740 kH5835 goq (by decide))) (fun j => fI_kept (x_lt hTH5740 kH5835 gaq (by decide))) b5746
            have f5846 : ∀ j : Nat, j ≠ x1.toNatClampNeg → fI H5835 lsq j = fI s.heap lsq j := fun j hj => (fI_kept (x_lt hTH5740 kH5835 glsq (by decide))).trans (f5751 j hj)
            have f5847 : ∀ j : Nat, j ≠ x1.toNatClampNeg → fI H5835 f9 j = fI s.heap f9 j := fun j hj => (fI_kept (x_lt hTH5740 kH5835 gf9 (by decide))).trans (f5752 j hj)
            have f5848 : ∀ j : Nat, j ≠ x1.toNatClampNeg → fI H5835 f0 j = fI s.heap f0 j := fun j hj => (fI_kept (x_lt hTH5740 kH5835 gf0 (by decide))).trans (f5753 j hj)
            have f5849 : ∀ j : Nat, j ≠ x1.toNatClampNeg → fI H5835 f1 j = fI s.heap f1 j := fun j hj => (fI_kept (x_lt hTH5740 kH5835 gf1 (by decide))).trans (f5754 j hj)
            have f5850 : ∀ j : Nat, bt j = (fI H5835 tq j).toInt := fun j => (f5755 j).trans (congrArg Int32.toInt (fI_kept (x_lt hTH5740 kH5835 gtq (by decide))).symm)
            have f5851 : ∀ j : Nat, j ≠ x1.toNatClampNeg → fI H5835 l1 j = fI s.heap l1 j := fun j hj => (fI_kept (x_lt hTH5740 kH5835 gl1 (by decide))).trans (f5756 j hj)
            have f5852 : ∀ j : Nat, j ≠ x1.toNatClampNeg → fI H5835 l2 j = fI s.heap l2 j := fun j hj => (fI_kept (x_lt hTH5740 kH5835 gl2 (by decide))).trans (f5757 j hj)
            have f5853 : ∀ j : Nat, j ≠ x1.toNatClampNeg → fI H5835 l3 j = fI s.heap l3 j := fun j hj => (fI_kept (x_lt hTH5740 kH5835 gl3 (by decide))).trans (f5758 j hj)
            have m5854 := (m5759).trans (fI_kept (x_lt hTH5740 kH5835 glsq (by decide))).symm
            have m5855 := (m5760).trans (fI_kept (x_lt hTH5740 kH5835 gl1 (by decide))).symm
            have m5856 := (m5761).trans (fI_kept (x_lt hTH5740 kH5835 gl2 (by decide))).symm
            have m5857 := (m5762).trans (fI_kept (x_lt hTH5740 kH5835 gl3 (by decide))).symm
            have m5858 := (m5763).trans (fI_kept (x_lt hTH5740 kH5835 gf9 (by decide))).symm
            have m5859 := (m5782).trans (fI_kept (x_lt hTH5740 kH5835 gf0 (by decide))).symm
            have m5860 := (m5783).trans (fI_kept (x_lt hTH5740 kH5835 gf1 (by decide))).symm
            have m5861 := (m5764).trans (MF.r mf5841 (k := 32) (by decide) (by decide)).symm
            have m5862 := (m5765).trans (MF.r mf5841 (k := 33) (by decide) (by decide)).symm
            have m5863 := (m5766).trans (MF.r mf5841 (k := 29) (by decide) (by decide)).symm
            have m5864 := (m5767).trans (MF.r mf5841 (k := 30) (by decide) (by decide)).symm
            have m5865 := (m5768).trans (MF.r mf5841 (k := 31) (by decide) (by decide)).symm
            have m5866 := (m5769).trans (MF.r mf5841 (k := 17) (by decide) (by decide)).symm
            have m5867 := (m5770).trans (MF.r mf5841 (k := 26) (by decide) (by decide)).symm
            have m5868 := (m5771).trans (MF.r mf5841 (k := 27) (by decide) (by decide)).symm
            have m5869 := (m5772).trans (MF.r mf5841 (k := 28) (by decide) (by decide)).symm
            have m5870 := (m5773).trans (MF.r mf5841 (k := 25) (by decide) (by decide)).symm
            have m5871 := (m5774).trans (MF.i mf5841 (k := 36) (by decide) (by decide)).symm
            have m5872 := (m5775).trans (MF.i mf5841 (k := 18) (by decide) (by decide)).symm
            have m5873 := (m5776).trans (MF.i mf5841 (k := 34) (by decide) (by decide)).symm
            have m5874 := (m5777).trans (MF.i mf5841 (k := 19) (by decide) (by decide)).symm
            have m5875 := (m5778).trans (MF.i mf5841 (k := 20) (by decide) (by decide)).symm
            have m5876 := (m5779).trans (MF.i mf5841 (k := 21) (by decide) (by decide)).symm
            have m5877 := (m5780).trans (MF.i mf5841 (k := 22) (by decide) (by decide)).symm
            have m5878 := (m5781).trans (MF.i mf5841 (k := 35) (by decide) (by decide)).symm
            have mf5879 : MF K s.heap H5835 a0 [19, 20, 21, 22, 35, 36, 38, 39, 40] := MF.trans mf5742 mf5841 (by decide)
            refine W.eq (g2 := F0 m 112 ls4814 [.int x5836]) rfl ?_
            have k59_ : kK bt tp.toNatClampNeg cj5604 ≠ 59 := fun e => by have z_ := (TV.sg (c := 59) cu5605.2.2.1 (by decide)).mpr e; omega
            exact x_iret C hQ dX10_readLine_112 hSH5835 (by decide) (by decide) (⟨x5836, x5557, x5558, x5559, x5560, x5561, on, rfl, by omega, m5874, m5875, m5876, m5877, m5878, m5871, Or.inl (by omega), m5861, m5862, m5863, m5864, m5865, m5866, m5867, m5868, m5869, m5870, g5837, g5838, g5839, g5840, mf5879, b5842, f5846, f5851, f5852, f5853, f5847, f5848, f5849, Or.inl (by omega), Or.inl ⟨(ln_go (HD.get hb0) rfl rfl ((hs_n1 (by omega) hx0 ho4945).trans ho5606) (wn_0 kw_)).trans (if_neg k59_), by omega⟩, Or.inl (by omega), Or.inl (by omega), Or.inl (by omega), hTH5835⟩)
        · have k5694 := i_ne c5693
          replace hrH5651 := hrH5651.resolve_left (fun h => absurd h.1 (by omega))
          replace z3H5555 := z3H5555.resolve_left (by omega)
          have kw_ : kK bt tp.toNatClampNeg cj5604 = 7 := by have z1 := TV.wv cu5605.2.2.1 (by omega); omega
          refine lv_aload_n hx hb dX10_readLine_74 rfl (lv_at hl4815 1 rfl) ?_
          refine x_V (As := []) (rest := []) C (a_X10_reads_e l K G H5651 (x5557) (x5558) (x5559) (x5560) (tp) bt hTH5651 ga0 gtq m5679 m5687 m5688 m5689 m5690 m5685 g5657 g5658 g5659 g5660 (by and_intros <;> first | assumption | omega) (hy1) f5665) yo_X10_reads wM_X10_242 ⟨⟨by decide, by decide⟩, by decide, by decide⟩ (x_rv C hTH5651 (ci := 10) rfl ga0 rg_112) rfl hl4815.1 rfl (Nat.le_of_ble_eq_true rfl) dX10_readLine_75 hSH5651 (AE_sub (fun _ _ => rfl) (by decide) hSH5651.1) (fun vH5880 H5880 locsH5880 pH5880 zH5880 kH5880 hSH5880 => ?_)
          obtain ⟨x5881, x5882, x5883, x5884, hvH5880, ex5881, ex5882, ex5883, ex5884, hrH5880, m5885, g5886, g5887, g5888, g5889, mf5890, m5891, m5892, m5893, hTH5880⟩ := pH5880
          subst hvH5880
          clear zH5880
          replace m5885 := EQN.mk m5885
          clear f5619 f5620 f5621 f5622 f5623 f5624 f5625 f5626 m5627 m5628 m5629 m5630 m5631 m5632 m5633 m5634 m5635 m5636 m5637 m5638 m5639 m5640 m5641 m5642 m5643 m5644 m5645 m5646 m5647 m5648 m5649 m5650
          have b5894 : ∀ j : Nat, j < 3000 + mn.toNatClampNeg → fI H5880 oq j = fI s.heap oq j ∧ fI H5880 aq j = fI s.heap aq j := fun j hj => ⟨(fI_kept (x_lt hTH5651 kH5880 goq (by decide))).trans (b5654 j hj).1, (fI_kept (x_lt hTH5651 kH5880 gaq (by decide))).trans (b5654 j hj).2⟩
          have b5895 : WF (fun k => fI H5880 oq k) (fun k => fI H5880 aq k) (3000 + mn.toNatClampNeg) (3000 + x5561.toNatClampNeg) 0 1 := WF.congr (fun j => fI_kept (x_lt hTH5651 kH5880 goq (by decide))) (fun j => fI_kept (x_lt hTH5651 kH5880 gaq (by decide))) b5655
          have b5896 : RZ (1 - jb.toInt) (fun k => fI H5880 oq k) (fun k => fI H5880 aq k) (3000 + mn.toNatClampNeg) (3000 + x5561.toNatClampNeg) ([(smG (kK bt tp.toNatClampNeg) (vV bt tp.toNatClampNeg) (1 - jb.toInt) cj4943)]) := RZ.congr (fun j => fI_kept (x_lt hTH5651 kH5880 goq (by decide))) (fun j => fI_kept (x_lt hTH5651 kH5880 gaq (by decide))) b5656
          have f5897 : ∀ j : Nat, j ≠ x1.toNatClampNeg → fI H5880 lsq j = fI s.heap lsq j := fun j hj => (fI_kept (x_lt hTH5651 kH5880 glsq (by decide))).trans (f5661 j hj)
          have f5898 : ∀ j : Nat, j ≠ x1.toNatClampNeg → fI H5880 f9 j = fI s.heap f9 j := fun j hj => (fI_kept (x_lt hTH5651 kH5880 gf9 (by decide))).trans (f5662 j hj)
          have f5899 : ∀ j : Nat, j ≠ x1.toNatClampNeg → fI H5880 f0 j = fI s.heap f0 j := fun j hj => (fI_kept (x_lt hTH5651 kH5880 gf0 (by decide))).trans (f5663 j hj)
          have f5900 : ∀ j : Nat, j ≠ x1.toNatClampNeg → fI H5880 f1 j = fI s.heap f1 j := fun j hj => (fI_kept (x_lt hTH5651 kH5880 gf1 (by decide))).trans (f5664 j hj)
          have f5901 : ∀ j : Nat, bt j = (fI H5880 tq j).toInt := fun j => (f5665 j).trans (congrArg Int32.toInt (fI_kept (x_lt hTH5651 kH5880 gtq (by decide))).symm)
          have f5902 : ∀ j : Nat, j ≠ x1.toNatClampNeg → fI H5880 l1 j = fI s.heap l1 j := fun j hj => (fI_kept (x_lt hTH5651 kH5880 gl1 (by decide))).trans (f5666 j hj)
          have f5903 : ∀ j : Nat, j ≠ x1.toNatClampNeg → fI H5880 l2 j = fI s.heap l2 j := fun j hj => (fI_kept (x_lt hTH5651 kH5880 gl2 (by decide))).trans (f5667 j hj)
          have f5904 : ∀ j : Nat, j ≠ x1.toNatClampNeg → fI H5880 l3 j = fI s.heap l3 j := fun j hj => (fI_kept (x_lt hTH5651 kH5880 gl3 (by decide))).trans (f5668 j hj)
          have m5905 := (m5669).trans (fI_kept (x_lt hTH5651 kH5880 glsq (by decide))).symm
          have m5906 := (m5670).trans (fI_kept (x_lt hTH5651 kH5880 gl1 (by decide))).symm
          have m5907 := (m5671).trans (fI_kept (x_lt hTH5651 kH5880 gl2 (by decide))).symm
          have m5908 := (m5672).trans (fI_kept (x_lt hTH5651 kH5880 gl3 (by decide))).symm
          have m5909 := (m5673).trans (fI_kept (x_lt hTH5651 kH5880 gf9 (by decide))).symm
          have m5910 := (m5692).trans (fI_kept (x_lt hTH5651 kH5880 gf0 (by decide))).symm
          have m5911 := (m5674).trans (MF.r mf5890 (k := 32) (by decide) (by decide)).symm
          have m5912 := (m5675).trans (MF.r mf5890 (k := 33) (by decide) (by decide)).symm
          have m5913 := (m5676).trans (MF.r mf5890 (k := 29) (by decide) (by decide)).symm
          have m5914 := (m5677).trans (MF.r mf5890 (k := 30) (by decide) (by decide)).symm
          have m5915 := (m5678).trans (MF.r mf5890 (k := 31) (by decide) (by decide)).symm
          have m5916 := (m5679).trans (MF.r mf5890 (k := 17) (by decide) (by decide)).symm
          have m5917 := (m5680).trans (MF.r mf5890 (k := 26) (by decide) (by decide)).symm
          have m5918 := (m5681).trans (MF.r mf5890 (k := 27) (by decide) (by decide)).symm
          have m5919 := (m5682).trans (MF.r mf5890 (k := 28) (by decide) (by decide)).symm
          have m5920 := (m5683).trans (MF.r mf5890 (k := 25) (by decide) (by decide)).symm
          have m5921 := (m5684).trans (MF.i mf5890 (k := 36) (by decide) (by decide)).symm
          have m5922 := (m5685).trans (MF.i mf5890 (k := 18) (by decide) (by decide)).symm
          have m5923 := (m5686).trans (MF.i mf5890 (k := 34) (by decide) (by decide)).symm
          have m5924 := (m5691).trans (MF.i mf5890 (k := 35) (by decide) (by decide)).symm
          have mf5925 : MF K s.heap H5880 a0 [19, 20, 21, 22, 35, 36, 38, 39, 40] := MF.trans mf5653 mf5890 (by decide)
          have bx5881 := ty_fi (x := x5881) (k := 19) ex5881 hTH5880 ga0 rg_112 rfl
          have bx5882 := ty_fi (x := x5882) (k := 20) ex5882 hTH5880 ga0 rg_112 rfl
          have bx5883 := ty_fi (x := x5883) (k := 21) ex5883 hTH5880 ga0 rg_112 rfl
          have bx5884 := ty_fi (x := x5884) (k := 22) ex5884 hTH5880 ga0 rg_112 rfl
          have cn_x5882 := i_cl (x := x5882) bx5882.1
          have cn_x5558 := i_cl (x := x5558) bx5558.1
          have cu5926 : CU bt tp.toNatClampNeg (cj5604 + 1) x5882 x5881 x5883 x5884 := CU.next cu5605 m5891 m5892 m5893 (by omega)
          obtain ⟨r1H5880, r2H5880, r3H5880, r4H5880, r5H5880⟩ := hrH5880
          clear z3H5555 z4H5555
          refine W.eq (g2 := F0 m 78 ls4814 []) rfl ?_
          refine lv_aload_n hx hb dX10_readLine_78 rfl (lv_at hl4815 1 rfl) ?_
          obtain ⟨q5927, eq5927⟩ : ∃ z : Nat, EQN z (fR H5880 a0 (K.1.2 10 37)) := ⟨_, rfl⟩
          have gq5927 := ty_fr (q := q5927) (k := 37) (u := 138) eq5927 hTH5880 ga0 rg_112 rfl
          replace eq5927 := EQN.mk eq5927
          obtain ⟨x5928, ex5928⟩ : ∃ z : Int32, z = fI H5880 a0 (K.1.2 10 38) := ⟨_, rfl⟩
          have bx5928 := ty_fi (x := x5928) (k := 38) ex5928 hTH5880 ga0 rg_112 rfl
          refine x_V (As := []) (rest := []) C (a_X10_readAny_g l K G H5880 (x5881) (x5882) (x5883) (x5884) (x5561) (on) (x5928) (tp) (jb) ((cj5604 + 1)) bt hTH5880 ga0 goq m5911 gaq m5912 gq5927 eq5927 gtq m5885 ex5881 ex5882 ex5883 ex5884 m5924 m5921 ex5928 m5922 m5923 g5886 g5887 g5888 g5889 (by and_intros <;> first | assumption | omega) (by and_intros <;> first | assumption | omega) (by and_intros <;> first | assumption | omega) (cu5926) (hy1) f5901) yo_X10_readAny wM_X10_282 ⟨⟨by decide, by decide⟩, by decide, by decide⟩ (x_rv C hTH5880 (ci := 10) rfl ga0 rg_112) rfl hl4815.1 rfl (Nat.le_of_ble_eq_true rfl) dX10_readLine_79 hSH5880 (AE_sub (fun _ _ => rfl) (by decide) hSH5880.1) (fun vH5929 H5929 locsH5929 pH5929 zH5929 kH5929 hSH5929 => ?_)
          obtain ⟨x5930, x5931, x5932, x5933, x5934, x5935, x5936, x5937, hvH5929, bx5930, ex5931, ex5932, ex5933, ex5934, ex5935, ex5936, ex5937, hrH5929, m5938, m5939, m5940, m5941, g5942, g5943, g5944, g5945, mf5946, m5947, m5948, m5949, m5950, m5951, hTH5929⟩ := pH5929
          subst hvH5929
          clear zH5929
          replace m5938 := EQN.mk m5938
          replace m5939 := EQN.mk m5939
          replace m5940 := EQN.mk m5940
          replace m5941 := EQN.mk m5941
          clear f5661 f5662 f5663 f5664 f5665 f5666 f5667 f5668 m5669 m5670 m5671 m5672 m5673 m5674 m5675 m5676 m5677 m5678 m5679 m5680 m5681 m5682 m5683 m5684 m5685 m5686 m5687 m5688 m5689 m5690 m5691 m5692
          have f5952 : ∀ j : Nat, j ≠ x1.toNatClampNeg → fI H5929 lsq j = fI s.heap lsq j := fun j hj => (fI_kept (x_lt hTH5880 kH5929 glsq (by decide))).trans (f5897 j hj)
          have f5953 : ∀ j : Nat, j ≠ x1.toNatClampNeg → fI H5929 f9 j = fI s.heap f9 j := fun j hj => (fI_kept (x_lt hTH5880 kH5929 gf9 (by decide))).trans (f5898 j hj)
          have f5954 : ∀ j : Nat, j ≠ x1.toNatClampNeg → fI H5929 f0 j = fI s.heap f0 j := fun j hj => (fI_kept (x_lt hTH5880 kH5929 gf0 (by decide))).trans (f5899 j hj)
          have f5955 : ∀ j : Nat, j ≠ x1.toNatClampNeg → fI H5929 f1 j = fI s.heap f1 j := fun j hj => (fI_kept (x_lt hTH5880 kH5929 gf1 (by decide))).trans (f5900 j hj)
          have f5956 : ∀ j : Nat, bt j = (fI H5929 tq j).toInt := fun j => (f5901 j).trans (congrArg Int32.toInt (fI_kept (x_lt hTH5880 kH5929 gtq (by decide))).symm)
          have f5957 : ∀ j : Nat, j ≠ x1.toNatClampNeg → fI H5929 l1 j = fI s.heap l1 j := fun j hj => (fI_kept (x_lt hTH5880 kH5929 gl1 (by decide))).trans (f5902 j hj)
          have f5958 : ∀ j : Nat, j ≠ x1.toNatClampNeg → fI H5929 l2 j = fI s.heap l2 j := fun j hj => (fI_kept (x_lt hTH5880 kH5929 gl2 (by decide))).trans (f5903 j hj)
          have f5959 : ∀ j : Nat, j ≠ x1.toNatClampNeg → fI H5929 l3 j = fI s.heap l3 j := fun j hj => (fI_kept (x_lt hTH5880 kH5929 gl3 (by decide))).trans (f5904 j hj)
          have m5960 := (m5905).trans (fI_kept (x_lt hTH5880 kH5929 glsq (by decide))).symm
          have m5961 := (m5906).trans (fI_kept (x_lt hTH5880 kH5929 gl1 (by decide))).symm
          have m5962 := (m5907).trans (fI_kept (x_lt hTH5880 kH5929 gl2 (by decide))).symm
          have m5963 := (m5908).trans (fI_kept (x_lt hTH5880 kH5929 gl3 (by decide))).symm
          have m5964 := (m5909).trans (fI_kept (x_lt hTH5880 kH5929 gf9 (by decide))).symm
          have m5965 := (m5910).trans (fI_kept (x_lt hTH5880 kH5929 gf0 (by decide))).symm
          have m5966 := (m5911).trans (MF.r mf5946 (k := 32) (by decide) (by decide)).symm
          have m5967 := (m5912).trans (MF.r mf5946 (k := 33) (by decide) (by decide)).symm
          have m5968 := (m5913).trans (MF.r mf5946 (k := 29) (by decide) (by decide)).symm
          have m5969 := (m5914).trans (MF.r mf5946 (k := 30) (by decide) (by decide)).symm
          have m5970 := (m5915).trans (MF.r mf5946 (k := 31) (by decide) (by decide)).symm
          have m5971 := (m5885).trans (MF.r mf5946 (k := 17) (by decide) (by decide)).symm
          have m5972 := (m5917).trans (MF.r mf5946 (k := 26) (by decide) (by decide)).symm
          have m5973 := (m5918).trans (MF.r mf5946 (k := 27) (by decide) (by decide)).symm
          have m5974 := (m5919).trans (MF.r mf5946 (k := 28) (by decide) (by decide)).symm
          have m5975 := (m5920).trans (MF.r mf5946 (k := 25) (by decide) (by decide)).symm
          have m5976 := (m5922).trans (MF.i mf5946 (k := 18) (by decide) (by decide)).symm
          have m5977 := (m5923).trans (MF.i mf5946 (k := 34) (by decide) (by decide)).symm
          have m5978 := (eq5927).trans (MF.r mf5946 (k := 37) (by decide) (by decide)).symm
          have mf5979 : MF K s.heap H5929 a0 [19, 20, 21, 22, 35, 36, 38, 39, 40] := MF.trans mf5925 mf5946 (by decide)
          have bx5931 := ty_fi (x := x5931) (k := 19) ex5931 hTH5929 ga0 rg_112 rfl
          have bx5932 := ty_fi (x := x5932) (k := 20) ex5932 hTH5929 ga0 rg_112 rfl
          have bx5933 := ty_fi (x := x5933) (k := 21) ex5933 hTH5929 ga0 rg_112 rfl
          have bx5934 := ty_fi (x := x5934) (k := 22) ex5934 hTH5929 ga0 rg_112 rfl
          have bx5935 := ty_fi (x := x5935) (k := 35) ex5935 hTH5929 ga0 rg_112 rfl
          have bx5936 := ty_fi (x := x5936) (k := 36) ex5936 hTH5929 ga0 rg_112 rfl
          have bx5937 := ty_fi (x := x5937) (k := 38) ex5937 hTH5929 ga0 rg_112 rfl
          have csm5947 := i_cl (x := x5561) bx5561.1
          have b5980 : ∀ j : Nat, j < 3000 + mn.toNatClampNeg → fI H5929 oq j = fI s.heap oq j ∧ fI H5929 aq j = fI s.heap aq j := fun j hj => ⟨(m5947 j (by omega)).1.trans (b5894 j hj).1, (m5947 j (by omega)).2.trans (b5894 j hj).2⟩
          have b5981 : WF (fun k => fI H5929 oq k) (fun k => fI H5929 aq k) (3000 + mn.toNatClampNeg) (3000 + x5561.toNatClampNeg) 0 1 := WF.keep b5895 (fun j hj => (m5947 j (by omega)).1) (fun j hj => (m5947 j (by omega)).2)
          have cs_tp := i_cl (x := tp) (by omega)
          have b5982 : RZ (1 - jb.toInt) (fun k => fI H5929 oq k) (fun k => fI H5929 aq k) (3000 + mn.toNatClampNeg) (3000 + x5561.toNatClampNeg) ([(smG (kK bt tp.toNatClampNeg) (vV bt tp.toNatClampNeg) (1 - jb.toInt) cj4943)]) := RZ.keep b5896 (fun j hj => (m5947 j (by omega)).1) (fun j hj => (m5947 j (by omega)).2)
          refine W.eq (g2 := F0 m 82 ls4814 [.int x5930]) rfl ?_
          refine lv_iconst (v := (-1)) hx hb dX10_readLine_82 (by decide) ?_
          refine lv_icmp_ne (tgt := 88) hx hb dX10_readLine_83 (by decide) (fun c5983 => ?_) (fun c5983 => ?_)
          · have k5984 := i_ne c5983
            replace hrH5929 := hrH5929.resolve_left (by omega)
            obtain ⟨rzH5929, ⟨z1H5929, z2H5929, z3H5929, z4H5929⟩, y1H5929, y2H5929, y3H5929⟩ := hrH5929
            clear r4H5880 r5H5880
            obtain ⟨EA, wa0⟩ : ∃ E, WF (fun k => fI H5929 oq k) (fun k => fI H5929 aq k) (3000 + x5561.toNatClampNeg) (3000 + x5935.toNatClampNeg) 0 E := by
              rcases m5948 with h | h
              · exfalso; omega
              · exact h
            obtain ⟨cj5985, ho5987, cu5986⟩ := RC.yes m5949 (by omega)
            have rs5988 : RZ (1 - jb.toInt) (fun k => fI H5929 oq k) (fun k => fI H5929 aq k) (3000 + x5561.toNatClampNeg) (3000 + x5935.toNatClampNeg) ([orG (kK bt tp.toNatClampNeg) (paS (kK bt tp.toNatClampNeg) (vV bt tp.toNatClampNeg) (1 - jb.toInt) 8) (paF (kK bt tp.toNatClampNeg) (vV bt tp.toNatClampNeg) (1 - jb.toInt) 8) (cj5604 + 1)]) := m5951.resolve_left (by omega)
            refine lv_aload_n hx hb dX10_readLine_88 rfl (lv_at hl4815 1 rfl) ?_
            refine x_gr C hTH5929 (ci := 10) (k := 31) rfl inX10 (by decide) wF_X10_80 ga0 rg_112 rfl dX10_readLine_89 (fun q5989 eq5989 gq5989 => ?_)
            have uq5989 : f1 = q5989 := (m5970).trans eq5989.symm
            subst uq5989
            clear eq5989
            refine lv_iload_n hx hb dX10_readLine_92 rfl (lv_at hl4815 2 rfl) ?_
            refine lv_aload_n hx hb dX10_readLine_93 rfl (lv_at hl4815 1 rfl) ?_
            refine x_gi C hTH5929 (ci := 10) (k := 35) rfl inX10 (by decide) wF_X10_228 ga0 rg_112 rfl dX10_readLine_94 (fun x5990 ex5990 bx5990 => ?_)
            have ux5990 : x5935 = x5990 := (ex5935).trans ex5990.symm
            subst ux5990
            refine x_iast C hTH5929 hSH5929 gf1 rg_135 (by omega) (by show _ < ((112 : Nat) : Int); omega) ⟨Int.le_trans (by decide) bx5935.1, Int.le_trans bx5935.2 (by decide)⟩ (AE_in gf1 (by decide)) dX10_readLine_97 (fun H5991 locsH5991 hTH5991 hSH5991 wH5991 => ?_)
            clear f5897 f5898 f5899 f5900 f5901 f5902 f5903 f5904 m5885 m5905 m5906 m5907 m5908 m5909 m5910 m5911 m5912 m5913 m5914 m5915 m5917 m5918 m5919 m5920 m5921 m5922 m5923 m5924
            have mf5992 : MF K s.heap H5991 a0 [19, 20, 21, 22, 35, 36, 38, 39, 40] := MF.arr wH5991 (G_ne ga0 gf1 (by decide)) mf5979
            have g5993 : CG (avw K H5991 a0) := CG.putL hTH5929 ga0 wH5991 gf1 (by decide) (by omega) g5942
            have g5994 : TU (avw K H5991 a0) (svw K H5991 a0) := TU.congr (fun k hk j => av_arr hTH5929 ga0 wH5991 gf1 (by decide) (TU_ok 135 (by decide) k hk)) (fun k hk => sv_arr ga0 wH5991 gf1 (by decide)) g5943
            have g5995 : WD (avw K H5991 a0) := WD.congr (fun k hk j => av_arr hTH5929 ga0 wH5991 gf1 (by decide) (WD_ok 135 (by decide) k hk)) g5944
            have g5996 : IM (avw K H5991 a0) := IM.congr (fun k hk j => av_arr hTH5929 ga0 wH5991 gf1 (by decide) (IM_ok 135 (by decide) k hk)) g5945
            have b5997 : ∀ j : Nat, j < 3000 + mn.toNatClampNeg → fI H5991 oq j = fI s.heap oq j ∧ fI H5991 aq j = fI s.heap aq j := fun j hj => ⟨(Wr.neI wH5991 (Or.inl (G_ne goq gf1 (by decide)))).trans (b5980 j hj).1, (Wr.neI wH5991 (Or.inl (G_ne gaq gf1 (by decide)))).trans (b5980 j hj).2⟩
            have b5998 : WF (fun k => fI H5991 oq k) (fun k => fI H5991 aq k) (3000 + mn.toNatClampNeg) (3000 + x5561.toNatClampNeg) 0 1 := WF.congr (fun j => Wr.neI wH5991 (Or.inl (G_ne goq gf1 (by decide)))) (fun j => Wr.neI wH5991 (Or.inl (G_ne gaq gf1 (by decide)))) b5981
            have b5999 : RZ (1 - jb.toInt) (fun k => fI H5991 oq k) (fun k => fI H5991 aq k) (3000 + mn.toNatClampNeg) (3000 + x5561.toNatClampNeg) ([(smG (kK bt tp.toNatClampNeg) (vV bt tp.toNatClampNeg) (1 - jb.toInt) cj4943)]) := RZ.congr (fun j => Wr.neI wH5991 (Or.inl (G_ne goq gf1 (by decide)))) (fun j => Wr.neI wH5991 (Or.inl (G_ne gaq gf1 (by decide)))) b5982
            have b6000 : WF (fun k => fI H5991 oq k) (fun k => fI H5991 aq k) (3000 + x5561.toNatClampNeg) (3000 + x5935.toNatClampNeg) 0 EA := WF.congr (fun j => Wr.neI wH5991 (Or.inl (G_ne goq gf1 (by decide)))) (fun j => Wr.neI wH5991 (Or.inl (G_ne gaq gf1 (by decide)))) wa0
            have b6001 : RZ (1 - jb.toInt) (fun k => fI H5991 oq k) (fun k => fI H5991 aq k) (3000 + x5561.toNatClampNeg) (3000 + x5935.toNatClampNeg) ([orG (kK bt tp.toNatClampNeg) (paS (kK bt tp.toNatClampNeg) (vV bt tp.toNatClampNeg) (1 - jb.toInt) 8) (paF (kK bt tp.toNatClampNeg) (vV bt tp.toNatClampNeg) (1 - jb.toInt) 8) (cj5604 + 1)]) := RZ.congr (fun j => Wr.neI wH5991 (Or.inl (G_ne goq gf1 (by decide)))) (fun j => Wr.neI wH5991 (Or.inl (G_ne gaq gf1 (by decide)))) rs5988
            have f6002 : ∀ j : Nat, j ≠ x1.toNatClampNeg → fI H5991 lsq j = fI s.heap lsq j := fun j hj => (Wr.neI wH5991 (Or.inl (G_ne glsq gf1 (by decide)))).trans (f5952 j hj)
            have f6003 : ∀ j : Nat, j ≠ x1.toNatClampNeg → fI H5991 f9 j = fI s.heap f9 j := fun j hj => (Wr.neI wH5991 (Or.inl (G_ne gf9 gf1 (by decide)))).trans (f5953 j hj)
            have f6004 : ∀ j : Nat, j ≠ x1.toNatClampNeg → fI H5991 f0 j = fI s.heap f0 j := fun j hj => (Wr.neI wH5991 (Or.inl (G_ne gf0 gf1 (by decide)))).trans (f5954 j hj)
            have f6005 : ∀ j : Nat, j ≠ x1.toNatClampNeg → fI H5991 f1 j = fI s.heap f1 j := fun j hj => (Wr.neI wH5991 (Or.inr hj)).trans (f5955 j hj)
            have f6006 : ∀ j : Nat, bt j = (fI H5991 tq j).toInt := fun j => (f5956 j).trans (congrArg Int32.toInt (Wr.neI wH5991 (Or.inl (G_ne gtq gf1 (by decide)))).symm)
            have f6007 : ∀ j : Nat, j ≠ x1.toNatClampNeg → fI H5991 l1 j = fI s.heap l1 j := fun j hj => (Wr.neI wH5991 (Or.inl (G_ne gl1 gf1 (by decide)))).trans (f5957 j hj)
            have f6008 : ∀ j : Nat, j ≠ x1.toNatClampNeg → fI H5991 l2 j = fI s.heap l2 j := fun j hj => (Wr.neI wH5991 (Or.inl (G_ne gl2 gf1 (by decide)))).trans (f5958 j hj)
            have f6009 : ∀ j : Nat, j ≠ x1.toNatClampNeg → fI H5991 l3 j = fI s.heap l3 j := fun j hj => (Wr.neI wH5991 (Or.inl (G_ne gl3 gf1 (by decide)))).trans (f5959 j hj)
            have m6010 := m5960.trans (Wr.neI wH5991 (Or.inl (G_ne glsq gf1 (by decide)))).symm
            have m6011 := m5961.trans (Wr.neI wH5991 (Or.inl (G_ne gl1 gf1 (by decide)))).symm
            have m6012 := m5962.trans (Wr.neI wH5991 (Or.inl (G_ne gl2 gf1 (by decide)))).symm
            have m6013 := m5963.trans (Wr.neI wH5991 (Or.inl (G_ne gl3 gf1 (by decide)))).symm
            have m6014 := m5964.trans (Wr.neI wH5991 (Or.inl (G_ne gf9 gf1 (by decide)))).symm
            have m6015 := m5965.trans (Wr.neI wH5991 (Or.inl (G_ne gf0 gf1 (by decide)))).symm
            have m6016 := m5938.trans (Wr.neR wH5991 (Or.inl (G_ne ga0 gf1 (by decide)))).symm
            have m6017 := m5939.trans (Wr.neR wH5991 (Or.inl (G_ne ga0 gf1 (by decide)))).symm
            have m6018 := m5968.trans (Wr.neR wH5991 (Or.inl (G_ne ga0 gf1 (by decide)))).symm
            have m6019 := m5969.trans (Wr.neR wH5991 (Or.inl (G_ne ga0 gf1 (by decide)))).symm
            have m6020 := m5970.trans (Wr.neR wH5991 (Or.inl (G_ne ga0 gf1 (by decide)))).symm
            have m6021 := m5941.trans (Wr.neR wH5991 (Or.inl (G_ne ga0 gf1 (by decide)))).symm
            have m6022 := m5972.trans (Wr.neR wH5991 (Or.inl (G_ne ga0 gf1 (by decide)))).symm
            have m6023 := m5973.trans (Wr.neR wH5991 (Or.inl (G_ne ga0 gf1 (by decide)))).symm
            have m6024 := m5974.trans (Wr.neR wH5991 (Or.inl (G_ne ga0 gf1 (by decide)))).symm
            have m6025 := m5975.trans (Wr.neR wH5991 (Or.inl (G_ne ga0 gf1 (by decide)))).symm
            have m6026 := m5976.trans (Wr.neI wH5991 (Or.inl (G_ne ga0 gf1 (by decide)))).symm
            have m6027 := m5977.trans (Wr.neI wH5991 (Or.inl (G_ne ga0 gf1 (by decide)))).symm
            have m6028 := m5940.trans (Wr.neR wH5991 (Or.inl (G_ne ga0 gf1 (by decide)))).symm
            have m6029 := ex5931.trans (Wr.neI wH5991 (Or.inl (G_ne ga0 gf1 (by decide)))).symm
            have m6030 := ex5932.trans (Wr.neI wH5991 (Or.inl (G_ne ga0 gf1 (by decide)))).symm
            have m6031 := ex5933.trans (Wr.neI wH5991 (Or.inl (G_ne ga0 gf1 (by decide)))).symm
            have m6032 := ex5934.trans (Wr.neI wH5991 (Or.inl (G_ne ga0 gf1 (by decide)))).symm
            have m6033 := ex5935.trans (Wr.neI wH5991 (Or.inl (G_ne ga0 gf1 (by decide)))).symm
            have m6034 := ex5936.trans (Wr.neI wH5991 (Or.inl (G_ne ga0 gf1 (by decide)))).symm
            have m6035 := ex5937.trans (Wr.neI wH5991 (Or.inl (G_ne ga0 gf1 (by decide)))).symm
            have m6036 := Wr.I wH5991
            have m6036 := m6036.symm
            refine lv_aload_n hx hb dX10_readLine_98 rfl (lv_at hl4815 1 rfl) ?_
            refine lv_bipush (v := 59) hx hb dX10_readLine_99 (by decide) ?_
            refine x_V (As := [.int 59]) (rest := []) C (a_X10_isSign_e l K G H5991 (59) (x5933) (x5934) hTH5991 ga0 m6031 m6032) yo_X10_isSign wM_X10_249 ⟨⟨by decide, by decide⟩, by decide, by decide⟩ (x_rv C hTH5991 (ci := 10) rfl ga0 rg_112) rfl hl4815.1 rfl (Nat.le_of_ble_eq_true rfl) dX10_readLine_101 hSH5991 (AE_sub (fun _ _ => rfl) (by decide) hSH5991.1) (fun vH6037 H6037 locsH6037 pH6037 zH6037 kH6037 hSH6037 => ?_)
            obtain ⟨x6038, hvH6037, bx6038, hrH6037, hTH6037⟩ := pH6037
            subst hvH6037
            clear zH6037
            clear f5952 f5953 f5954 f5955 f5956 f5957 f5958 f5959 m5938 m5939 m5940 m5941 m5960 m5961 m5962 m5963 m5964 m5965 m5968 m5969 m5970 m5972 m5973 m5974 m5975 m5976 m5977
            have mf6039 : MF K s.heap H6037 a0 [19, 20, 21, 22, 35, 36, 38, 39, 40] := MF.eff (x_lt hTH5991 kH6037 ga0 (by decide)) mf5992
            have b6040 : ∀ j : Nat, j < 3000 + mn.toNatClampNeg → fI H6037 oq j = fI s.heap oq j ∧ fI H6037 aq j = fI s.heap aq j := fun j hj => ⟨(fI_kept (x_lt hTH5991 kH6037 goq (by decide))).trans (b5997 j hj).1, (fI_kept (x_lt hTH5991 kH6037 gaq (by decide))).trans (b5997 j hj).2⟩
            have b6041 : WF (fun k => fI H6037 oq k) (fun k => fI H6037 aq k) (3000 + mn.toNatClampNeg) (3000 + x5561.toNatClampNeg) 0 1 := WF.congr (fun j => fI_kept (x_lt hTH5991 kH6037 goq (by decide))) (fun j => fI_kept (x_lt hTH5991 kH6037 gaq (by decide))) b5998
            have b6042 : RZ (1 - jb.toInt) (fun k => fI H6037 oq k) (fun k => fI H6037 aq k) (3000 + mn.toNatClampNeg) (3000 + x5561.toNatClampNeg) ([(smG (kK bt tp.toNatClampNeg) (vV bt tp.toNatClampNeg) (1 - jb.toInt) cj4943)]) := RZ.congr (fun j => fI_kept (x_lt hTH5991 kH6037 goq (by decide))) (fun j => fI_kept (x_lt hTH5991 kH6037 gaq (by decide))) b5999
            have b6043 : WF (fun k => fI H6037 oq k) (fun k => fI H6037 aq k) (3000 + x5561.toNatClampNeg) (3000 + x5935.toNatClampNeg) 0 EA := WF.congr (fun j => fI_kept (x_lt hTH5991 kH6037 goq (by decide))) (fun j => fI_kept (x_lt hTH5991 kH6037 gaq (by decide))) b6000
            have b6044 : RZ (1 - jb.toInt) (fun k => fI H6037 oq k) (fun k => fI H6037 aq k) (3000 + x5561.toNatClampNeg) (3000 + x5935.toNatClampNeg) ([orG (kK bt tp.toNatClampNeg) (paS (kK bt tp.toNatClampNeg) (vV bt tp.toNatClampNeg) (1 - jb.toInt) 8) (paF (kK bt tp.toNatClampNeg) (vV bt tp.toNatClampNeg) (1 - jb.toInt) 8) (cj5604 + 1)]) := RZ.congr (fun j => fI_kept (x_lt hTH5991 kH6037 goq (by decide))) (fun j => fI_kept (x_lt hTH5991 kH6037 gaq (by decide))) b6001
            have g6045 : CG (avw K H6037 a0) := CG.congr (fun k hk j => av_eff hTH5991 kH6037 ga0 (by decide) (CG_eff [] (by decide) k hk)) g5993
            have g6046 : TU (avw K H6037 a0) (svw K H6037 a0) := TU.congr (fun k hk j => av_eff hTH5991 kH6037 ga0 (by decide) (TU_eff [] (by decide) k hk)) (fun k hk => sv_eff hTH5991 kH6037 ga0 (by decide)) g5994
            have g6047 : WD (avw K H6037 a0) := WD.congr (fun k hk j => av_eff hTH5991 kH6037 ga0 (by decide) (WD_eff [] (by decide) k hk)) g5995
            have g6048 : IM (avw K H6037 a0) := IM.congr (fun k hk j => av_eff hTH5991 kH6037 ga0 (by decide) (IM_eff [] (by decide) k hk)) g5996
            have f6049 : ∀ j : Nat, j ≠ x1.toNatClampNeg → fI H6037 lsq j = fI s.heap lsq j := fun j hj => (fI_kept (x_lt hTH5991 kH6037 glsq (by decide))).trans (f6002 j hj)
            have f6050 : ∀ j : Nat, j ≠ x1.toNatClampNeg → fI H6037 f9 j = fI s.heap f9 j := fun j hj => (fI_kept (x_lt hTH5991 kH6037 gf9 (by decide))).trans (f6003 j hj)
            have f6051 : ∀ j : Nat, j ≠ x1.toNatClampNeg → fI H6037 f0 j = fI s.heap f0 j := fun j hj => (fI_kept (x_lt hTH5991 kH6037 gf0 (by decide))).trans (f6004 j hj)
            have f6052 : ∀ j : Nat, j ≠ x1.toNatClampNeg → fI H6037 f1 j = fI s.heap f1 j := fun j hj => (fI_kept (x_lt hTH5991 kH6037 gf1 (by decide))).trans (f6005 j hj)
            have f6053 : ∀ j : Nat, bt j = (fI H6037 tq j).toInt := fun j => (f6006 j).trans (congrArg Int32.toInt (fI_kept (x_lt hTH5991 kH6037 gtq (by decide))).symm)
            have f6054 : ∀ j : Nat, j ≠ x1.toNatClampNeg → fI H6037 l1 j = fI s.heap l1 j := fun j hj => (fI_kept (x_lt hTH5991 kH6037 gl1 (by decide))).trans (f6007 j hj)
            have f6055 : ∀ j : Nat, j ≠ x1.toNatClampNeg → fI H6037 l2 j = fI s.heap l2 j := fun j hj => (fI_kept (x_lt hTH5991 kH6037 gl2 (by decide))).trans (f6008 j hj)
            have f6056 : ∀ j : Nat, j ≠ x1.toNatClampNeg → fI H6037 l3 j = fI s.heap l3 j := fun j hj => (fI_kept (x_lt hTH5991 kH6037 gl3 (by decide))).trans (f6009 j hj)
            have m6057 := (m6010).trans (fI_kept (x_lt hTH5991 kH6037 glsq (by decide))).symm
            have m6058 := (m6011).trans (fI_kept (x_lt hTH5991 kH6037 gl1 (by decide))).symm
            have m6059 := (m6012).trans (fI_kept (x_lt hTH5991 kH6037 gl2 (by decide))).symm
            have m6060 := (m6013).trans (fI_kept (x_lt hTH5991 kH6037 gl3 (by decide))).symm
            have m6061 := (m6014).trans (fI_kept (x_lt hTH5991 kH6037 gf9 (by decide))).symm
            have m6062 := (m6015).trans (fI_kept (x_lt hTH5991 kH6037 gf0 (by decide))).symm
            have m6063 := (m6016).trans (fR_kept (x_lt hTH5991 kH6037 ga0 (by decide))).symm
            have m6064 := (m6017).trans (fR_kept (x_lt hTH5991 kH6037 ga0 (by decide))).symm
            have m6065 := (m6018).trans (fR_kept (x_lt hTH5991 kH6037 ga0 (by decide))).symm
            have m6066 := (m6019).trans (fR_kept (x_lt hTH5991 kH6037 ga0 (by decide))).symm
            have m6067 := (m6020).trans (fR_kept (x_lt hTH5991 kH6037 ga0 (by decide))).symm
            have m6068 := (m6021).trans (fR_kept (x_lt hTH5991 kH6037 ga0 (by decide))).symm
            have m6069 := (m6022).trans (fR_kept (x_lt hTH5991 kH6037 ga0 (by decide))).symm
            have m6070 := (m6023).trans (fR_kept (x_lt hTH5991 kH6037 ga0 (by decide))).symm
            have m6071 := (m6024).trans (fR_kept (x_lt hTH5991 kH6037 ga0 (by decide))).symm
            have m6072 := (m6025).trans (fR_kept (x_lt hTH5991 kH6037 ga0 (by decide))).symm
            have m6073 := (m6026).trans (fI_kept (x_lt hTH5991 kH6037 ga0 (by decide))).symm
            have m6074 := (m6027).trans (fI_kept (x_lt hTH5991 kH6037 ga0 (by decide))).symm
            have m6075 := (m6028).trans (fR_kept (x_lt hTH5991 kH6037 ga0 (by decide))).symm
            have m6076 := (m6029).trans (fI_kept (x_lt hTH5991 kH6037 ga0 (by decide))).symm
            have m6077 := (m6030).trans (fI_kept (x_lt hTH5991 kH6037 ga0 (by decide))).symm
            have m6078 := (m6031).trans (fI_kept (x_lt hTH5991 kH6037 ga0 (by decide))).symm
            have m6079 := (m6032).trans (fI_kept (x_lt hTH5991 kH6037 ga0 (by decide))).symm
            have m6080 := (m6033).trans (fI_kept (x_lt hTH5991 kH6037 ga0 (by decide))).symm
            have m6081 := (m6034).trans (fI_kept (x_lt hTH5991 kH6037 ga0 (by decide))).symm
            have m6082 := (m6035).trans (fI_kept (x_lt hTH5991 kH6037 ga0 (by decide))).symm
            have m6083 := (m6036).trans (fI_kept (x_lt hTH5991 kH6037 gf1 (by decide))).symm
            refine W.eq (g2 := F0 m 104 ls4814 [.int x6038]) rfl ?_
            refine lv_if_ne (tgt := 113) hx hb dX10_readLine_104 (by decide) (fun c6084 => ?_) (fun c6084 => ?_)
            · have k6085 := i_ne c6084
              have k59_ : kK bt tp.toNatClampNeg cj5985 = 59 := (TV.sg (c := 59) cu5986.2.2.1 (by decide)).mp ⟨by omega, by omega⟩
              replace hrH6037 := hrH6037.resolve_left (fun h => absurd h.1 (by omega))
              replace z3H5929 := z3H5929.resolve_left (by omega)
              refine lv_aload_n hx hb dX10_readLine_113 rfl (lv_at hl4815 1 rfl) ?_
              refine x_V (As := []) (rest := []) C (a_X10_reads_e l K G H6037 (x5931) (x5932) (x5933) (x5934) (tp) bt hTH6037 ga0 gtq m6068 m6076 m6077 m6078 m6079 m6073 g6045 g6046 g6047 g6048 (by and_intros <;> first | assumption | omega) (hy1) f6053) yo_X10_reads wM_X10_242 ⟨⟨by decide, by decide⟩, by decide, by decide⟩ (x_rv C hTH6037 (ci := 10) rfl ga0 rg_112) rfl hl4815.1 rfl (Nat.le_of_ble_eq_true rfl) dX10_readLine_114 hSH6037 (AE_sub (fun _ _ => rfl) (by decide) hSH6037.1) (fun vH6086 H6086 locsH6086 pH6086 zH6086 kH6086 hSH6086 => ?_)
              obtain ⟨x6087, x6088, x6089, x6090, hvH6086, ex6087, ex6088, ex6089, ex6090, hrH6086, m6091, g6092, g6093, g6094, g6095, mf6096, m6097, m6098, m6099, hTH6086⟩ := pH6086
              subst hvH6086
              clear zH6086
              replace m6091 := EQN.mk m6091
              clear f6002 f6003 f6004 f6005 f6006 f6007 f6008 f6009 m6010 m6011 m6012 m6013 m6014 m6015 m6016 m6017 m6018 m6019 m6020 m6021 m6022 m6023 m6024 m6025 m6026 m6027 m6028 m6029 m6030 m6031 m6032 m6033 m6034 m6035 m6036
              have b6100 : ∀ j : Nat, j < 3000 + mn.toNatClampNeg → fI H6086 oq j = fI s.heap oq j ∧ fI H6086 aq j = fI s.heap aq j := fun j hj => ⟨(fI_kept (x_lt hTH6037 kH6086 goq (by decide))).trans (b6040 j hj).1, (fI_kept (x_lt hTH6037 kH6086 gaq (by decide))).trans (b6040 j hj).2⟩
              have b6101 : WF (fun k => fI H6086 oq k) (fun k => fI H6086 aq k) (3000 + mn.toNatClampNeg) (3000 + x5561.toNatClampNeg) 0 1 := WF.congr (fun j => fI_kept (x_lt hTH6037 kH6086 goq (by decide))) (fun j => fI_kept (x_lt hTH6037 kH6086 gaq (by decide))) b6041
              have b6102 : RZ (1 - jb.toInt) (fun k => fI H6086 oq k) (fun k => fI H6086 aq k) (3000 + mn.toNatClampNeg) (3000 + x5561.toNatClampNeg) ([(smG (kK bt tp.toNatClampNeg) (vV bt tp.toNatClampNeg) (1 - jb.toInt) cj4943)]) := RZ.congr (fun j => fI_kept (x_lt hTH6037 kH6086 goq (by decide))) (fun j => fI_kept (x_lt hTH6037 kH6086 gaq (by decide))) b6042
              have b6103 : WF (fun k => fI H6086 oq k) (fun k => fI H6086 aq k) (3000 + x5561.toNatClampNeg) (3000 + x5935.toNatClampNeg) 0 EA := WF.congr (fun j => fI_kept (x_lt hTH6037 kH6086 goq (by decide))) (fun j => fI_kept (x_lt hTH6037 kH6086 gaq (by decide))) b6043
              have b6104 : RZ (1 - jb.toInt) (fun k => fI H6086 oq k) (fun k => fI H6086 aq k) (3000 + x5561.toNatClampNeg) (3000 + x5935.toNatClampNeg) ([orG (kK bt tp.toNatClampNeg) (paS (kK bt tp.toNatClampNeg) (vV bt tp.toNatClampNeg) (1 - jb.toInt) 8) (paF (kK bt tp.toNatClampNeg) (vV bt tp.toNatClampNeg) (1 - jb.toInt) 8) (cj5604 + 1)]) := RZ.congr (fun j => fI_kept (x_lt hTH6037 kH6086 goq (by decide))) (fun j => fI_kept (x_lt hTH6037 kH6086 gaq (by decide))) b6044
              have f6105 : ∀ j : Nat, j ≠ x1.toNatClampNeg → fI H6086 lsq j = fI s.heap lsq j := fun j hj => (fI_kept (x_lt hTH6037 kH6086 glsq (by decide))).trans (f6049 j hj)
              have f6106 : ∀ j : Nat, j ≠ x1.toNatClampNeg → fI H6086 f9 j = fI s.heap f9 j := fun j hj => (fI_kept (x_lt hTH6037 kH6086 gf9 (by decide))).trans (f6050 j hj)
              have f6107 : ∀ j : Nat, j ≠ x1.toNatClampNeg → fI H6086 f0 j = fI s.heap f0 j := fun j hj => (fI_kept (x_lt hTH6037 kH6086 gf0 (by decide))).trans (f6051 j hj)
              have f6108 : ∀ j : Nat, j ≠ x1.toNatClampNeg → fI H6086 f1 j = fI s.heap f1 j := fun j hj => (fI_kept (x_lt hTH6037 kH6086 gf1 (by decide))).trans (f6052 j hj)
              have f6109 : ∀ j : Nat, bt j = (fI H6086 tq j).toInt := fun j => (f6053 j).trans (congrArg Int32.toInt (fI_kept (x_lt hTH6037 kH6086 gtq (by decide))).symm)
              have f6110 : ∀ j : Nat, j ≠ x1.toNatClampNeg → fI H6086 l1 j = fI s.heap l1 j := fun j hj => (fI_kept (x_lt hTH6037 kH6086 gl1 (by decide))).trans (f6054 j hj)
              have f6111 : ∀ j : Nat, j ≠ x1.toNatClampNeg → fI H6086 l2 j = fI s.heap l2 j := fun j hj => (fI_kept (x_lt hTH6037 kH6086 gl2 (by decide))).trans (f6055 j hj)
              have f6112 : ∀ j : Nat, j ≠ x1.toNatClampNeg → fI H6086 l3 j = fI s.heap l3 j := fun j hj => (fI_kept (x_lt hTH6037 kH6086 gl3 (by decide))).trans (f6056 j hj)
              have m6113 := (m6057).trans (fI_kept (x_lt hTH6037 kH6086 glsq (by decide))).symm
              have m6114 := (m6058).trans (fI_kept (x_lt hTH6037 kH6086 gl1 (by decide))).symm
              have m6115 := (m6059).trans (fI_kept (x_lt hTH6037 kH6086 gl2 (by decide))).symm
              have m6116 := (m6060).trans (fI_kept (x_lt hTH6037 kH6086 gl3 (by decide))).symm
              have m6117 := (m6061).trans (fI_kept (x_lt hTH6037 kH6086 gf9 (by decide))).symm
              have m6118 := (m6062).trans (fI_kept (x_lt hTH6037 kH6086 gf0 (by decide))).symm
              have m6119 := (m6083).trans (fI_kept (x_lt hTH6037 kH6086 gf1 (by decide))).symm
              have m6120 := (m6063).trans (MF.r mf6096 (k := 32) (by decide) (by decide)).symm
              have m6121 := (m6064).trans (MF.r mf6096 (k := 33) (by decide) (by decide)).symm
              have m6122 := (m6065).trans (MF.r mf6096 (k := 29) (by decide) (by decide)).symm
              have m6123 := (m6066).trans (MF.r mf6096 (k := 30) (by decide) (by decide)).symm
              have m6124 := (m6067).trans (MF.r mf6096 (k := 31) (by decide) (by decide)).symm
              have m6125 := (m6068).trans (MF.r mf6096 (k := 17) (by decide) (by decide)).symm
              have m6126 := (m6069).trans (MF.r mf6096 (k := 26) (by decide) (by decide)).symm
              have m6127 := (m6070).trans (MF.r mf6096 (k := 27) (by decide) (by decide)).symm
              have m6128 := (m6071).trans (MF.r mf6096 (k := 28) (by decide) (by decide)).symm
              have m6129 := (m6072).trans (MF.r mf6096 (k := 25) (by decide) (by decide)).symm
              have m6130 := (m6073).trans (MF.i mf6096 (k := 18) (by decide) (by decide)).symm
              have m6131 := (m6074).trans (MF.i mf6096 (k := 34) (by decide) (by decide)).symm
              have m6132 := (m6075).trans (MF.r mf6096 (k := 37) (by decide) (by decide)).symm
              have m6133 := (m6080).trans (MF.i mf6096 (k := 35) (by decide) (by decide)).symm
              have m6134 := (m6081).trans (MF.i mf6096 (k := 36) (by decide) (by decide)).symm
              have m6135 := (m6082).trans (MF.i mf6096 (k := 38) (by decide) (by decide)).symm
              have mf6136 : MF K s.heap H6086 a0 [19, 20, 21, 22, 35, 36, 38, 39, 40] := MF.trans mf6039 mf6096 (by decide)
              have bx6087 := ty_fi (x := x6087) (k := 19) ex6087 hTH6086 ga0 rg_112 rfl
              have bx6088 := ty_fi (x := x6088) (k := 20) ex6088 hTH6086 ga0 rg_112 rfl
              have bx6089 := ty_fi (x := x6089) (k := 21) ex6089 hTH6086 ga0 rg_112 rfl
              have bx6090 := ty_fi (x := x6090) (k := 22) ex6090 hTH6086 ga0 rg_112 rfl
              have cn_x6088 := i_cl (x := x6088) bx6088.1
              have cn_x5932 := i_cl (x := x5932) bx5932.1
              have cu6137 : CU bt tp.toNatClampNeg (cj5985 + 1) x6088 x6087 x6089 x6090 := CU.next cu5986 m6097 m6098 m6099 (by omega)
              obtain ⟨r1H6086, r2H6086, r3H6086, r4H6086, r5H6086⟩ := hrH6086
              clear z3H5929 z4H5929
              refine W.eq (g2 := F0 m 117 ls4814 []) rfl ?_
              refine lv_iconst (v := 0) hx hb dX10_readLine_117 (by decide) ?_
              have cx_x5935 := i_cl (x := x5935) bx5935.1
              have cn_x5561 := i_cl (x := x5561) bx5561.1
              have cn_x5935 := i_cl (x := x5935) bx5935.1
              have lcn_ := lcn_at (i := ci) (m := ci + 1) rfl rfl ((hs_n1 (by omega) hx0 ho4945).trans ho5606)
              have hS_ : ((1 - jb.toInt) ≠ 0 ∧ RZ (1 - jb.toInt) (fun i => fI H6086 oq i) (fun i => fI H6086 aq i) (3000 + (fI H6086 f9 x1.toNatClampNeg).toNatClampNeg) (3000 + (fI H6086 f0 x1.toNatClampNeg).toNatClampNeg) [lfs (kK bt tp.toNatClampNeg) (vV bt tp.toNatClampNeg) (1 - jb.toInt) ci]) ∨ ((1 - jb.toInt) = 0 ∧ fI H6086 f9 x1.toNatClampNeg = fI H6086 f0 x1.toNatClampNeg) := Or.inl ⟨by omega, RZ.cast b6102 (by rw [← m6117] <;> omega) (by rw [← m6118] <;> omega) (congrArg (fun z => [smG (kK bt tp.toNatClampNeg) (vV bt tp.toNatClampNeg) (1 - jb.toInt) z]) (lhd_hn (by omega) hx0 rfl ho4945))⟩
              have lt_ := RZ.lt b6104
              have hW_ : (lhw (kK bt tp.toNatClampNeg) (vV bt tp.toNatClampNeg) (1 - jb.toInt) ci = true ∧ (fI H6086 f0 x1.toNatClampNeg).toInt < (fI H6086 f1 x1.toNatClampNeg).toInt ∧ RZ (1 - jb.toInt) (fun i => fI H6086 oq i) (fun i => fI H6086 aq i) (3000 + (fI H6086 f0 x1.toNatClampNeg).toNatClampNeg) (3000 + (fI H6086 f1 x1.toNatClampNeg).toNatClampNeg) [lfw (kK bt tp.toNatClampNeg) (vV bt tp.toNatClampNeg) (1 - jb.toInt) ci]) ∨ (lhw (kK bt tp.toNatClampNeg) (vV bt tp.toNatClampNeg) (1 - jb.toInt) ci = false ∧ fI H6086 f1 x1.toNatClampNeg = fI H6086 f0 x1.toNatClampNeg) := Or.inl ⟨decide_eq_true (by rw [lcn_]; exact kw_), by rw [← m6118, ← m6119]; omega, RZ.cast b6104 (by rw [← m6118] <;> omega) (by rw [← m6119] <;> omega) (congrArg (fun z => [orG (kK bt tp.toNatClampNeg) (paS (kK bt tp.toNatClampNeg) (vV bt tp.toNatClampNeg) (1 - jb.toInt) 8) (paF (kK bt tp.toNatClampNeg) (vV bt tp.toNatClampNeg) (1 - jb.toInt) 8) (z + 1)]) lcn_)⟩
              exact x_iret C hQ dX10_readLine_118 hSH6086 (by decide) (by decide) (⟨0, x6087, x6088, x6089, x6090, x5935, x5936, rfl, by decide, ex6087, ex6088, ex6089, ex6090, m6133, m6134, Or.inr (by and_intros <;> first | assumption | omega), m6120, m6121, m6122, m6123, m6124, m6091, m6126, m6127, m6128, m6129, g6092, g6093, g6094, g6095, mf6136, b6100, f6105, f6110, f6111, f6112, f6106, f6107, f6108, Or.inr (LNW.mk (a := fun k => fI H6086 f9 k) (b := fun k => fI H6086 f0 k) (c := fun k => fI H6086 f1 k) m6117 m6118 m6119 (by omega) (by omega) (by omega) (by omega) (WF.cast b6101 (by omega) (by omega)) (WF.cast b6103 (by omega) (by omega))), Or.inr ⟨_, (ln_go (HD.get hb0) rfl rfl ((hs_n1 (by omega) hx0 ho4945).trans ho5606) (wn_yes kw_ rfl ho5987)).trans (if_pos k59_), by omega, cu6137⟩, Or.inr (m5950.resolve_left (by omega)), Or.inr (LNR.mk (by rw [← m6113]; exact hx0) (by rw [← m6113]; omega) (by rw [← m6113, ← m6114]; exact np1_) (by rw [← m6113, ← m6115]; exact np2_) (by rw [← m6113, ← m6116]; exact np3_) hS_ hW_), Or.inr ⟨by rw [← m6118]; omega, by rw [← m6119]; omega⟩, hTH6086⟩)
            · have k6085 := i_eq c6084
              refine lv_aload_n hx hb dX10_readLine_107 rfl (lv_at hl4815 1 rfl) ?_
              refine lv_iconst (v := 1) hx hb dX10_readLine_108 (by decide) ?_
              refine x_V (As := [.int 1]) (rest := []) C (a_X10_fails l K G H6037 (1) hTH6037 ga0 g6045 g6046 g6047 g6048) yo_X10_fails wM_X10_235 ⟨⟨by decide, by decide⟩, by decide, by decide⟩ (x_rv C hTH6037 (ci := 10) rfl ga0 rg_112) rfl hl4815.1 rfl (Nat.le_of_ble_eq_true rfl) dX10_readLine_109 hSH6037 (AE_sub (fun _ _ => rfl) (by decide) hSH6037.1) (fun vH6138 H6138 locsH6138 pH6138 zH6138 kH6138 hSH6138 => ?_)
              obtain ⟨x6139, hvH6138, bx6139, g6140, g6141, g6142, g6143, mf6144, hTH6138⟩ := pH6138
              subst hvH6138
              clear zH6138
              clear f6002 f6003 f6004 f6005 f6006 f6007 f6008 f6009 m6010 m6011 m6012 m6013 m6014 m6015 m6016 m6017 m6018 m6019 m6020 m6021 m6022 m6023 m6024 m6025 m6026 m6027 m6028 m6029 m6030 m6031 m6032 m6033 m6034 m6035 m6036
              have b6145 : ∀ j : Nat, j < 3000 + mn.toNatClampNeg → fI H6138 oq j = fI s.heap oq j ∧ fI H6138 aq j = fI s.heap aq j := fun j hj => ⟨(fI_kept (x_lt hTH6037 kH6138 goq (by decide))).trans (b6040 j hj).1, (fI_kept (x_lt hTH6037 kH6138 gaq (by decide))).trans (b6040 j hj).2⟩
              have b6146 : WF (fun k => fI H6138 oq k) (fun k => fI H6138 aq k) (3000 + mn.toNatClampNeg) (3000 + x5561.toNatClampNeg) 0 1 := WF.congr (fun j => fI_kept (x_lt hTH6037 kH6138 goq (by decide))) (fun j => fI_kept (x_lt hTH6037 kH6138 gaq (by decide))) b6041
              have b6147 : RZ (1 - jb.toInt) (fun k => fI H6138 oq k) (fun k => fI H6138 aq k) (3000 + mn.toNatClampNeg) (3000 + x5561.toNatClampNeg) ([(smG (kK bt tp.toNatClampNeg) (vV bt tp.toNatClampNeg) (1 - jb.toInt) cj4943)]) := RZ.congr (fun j => fI_kept (x_lt hTH6037 kH6138 goq (by decide))) (fun j => fI_kept (x_lt hTH6037 kH6138 gaq (by decide))) b6042
              have b6148 : WF (fun k => fI H6138 oq k) (fun k => fI H6138 aq k) (3000 + x5561.toNatClampNeg) (3000 + x5935.toNatClampNeg) 0 EA := WF.congr (fun j => fI_kept (x_lt hTH6037 kH6138 goq (by decide))) (fun j => fI_kept (x_lt hTH6037 kH6138 gaq (by decide))) b6043
              have b6149 : RZ (1 - jb.toInt) (fun k => fI H6138 oq k) (fun k => fI H6138 aq k) (3000 + x5561.toNatClampNeg) (3000 + x5935.toNatClampNeg) ([orG (kK bt tp.toNatClampNeg) (paS (kK bt tp.toNatClampNeg) (vV bt tp.toNatClampNeg) (1 - jb.toInt) 8) (paF (kK bt tp.toNatClampNeg) (vV bt tp.toNatClampNeg) (1 - jb.toInt) 8) (cj5604 + 1)]) := RZ.congr (fun j => fI_kept (x_lt hTH6037 kH6138 goq (by decide))) (fun j => fI_kept (x_lt hTH6037 kH6138 gaq (by decide))) b6044
              have f6150 : ∀ j : Nat, j ≠ x1.toNatClampNeg → fI H6138 lsq j = fI s.heap lsq j := fun j hj => (fI_kept (x_lt hTH6037 kH6138 glsq (by decide))).trans (f6049 j hj)
              have f6151 : ∀ j : Nat, j ≠ x1.toNatClampNeg → fI H6138 f9 j = fI s.heap f9 j := fun j hj => (fI_kept (x_lt hTH6037 kH6138 gf9 (by decide))).trans (f6050 j hj)
              have f6152 : ∀ j : Nat, j ≠ x1.toNatClampNeg → fI H6138 f0 j = fI s.heap f0 j := fun j hj => (fI_kept (x_lt hTH6037 kH6138 gf0 (by decide))).trans (f6051 j hj)
              have f6153 : ∀ j : Nat, j ≠ x1.toNatClampNeg → fI H6138 f1 j = fI s.heap f1 j := fun j hj => (fI_kept (x_lt hTH6037 kH6138 gf1 (by decide))).trans (f6052 j hj)
              have f6154 : ∀ j : Nat, bt j = (fI H6138 tq j).toInt := fun j => (f6053 j).trans (congrArg Int32.toInt (fI_kept (x_lt hTH6037 kH6138 gtq (by decide))).symm)
              have f6155 : ∀ j : Nat, j ≠ x1.toNatClampNeg → fI H6138 l1 j = fI s.heap l1 j := fun j hj => (fI_kept (x_lt hTH6037 kH6138 gl1 (by decide))).trans (f6054 j hj)
              have f6156 : ∀ j : Nat, j ≠ x1.toNatClampNeg → fI H6138 l2 j = fI s.heap l2 j := fun j hj => (fI_kept (x_lt hTH6037 kH6138 gl2 (by decide))).trans (f6055 j hj)
              have f6157 : ∀ j : Nat, j ≠ x1.toNatClampNeg → fI H6138 l3 j = fI s.heap l3 j := fun j hj => (fI_kept (x_lt hTH6037 kH6138 gl3 (by decide))).trans (f6056 j hj)
              have m6158 := (m6057).trans (fI_kept (x_lt hTH6037 kH6138 glsq (by decide))).symm
              have m6159 := (m6058).trans (fI_kept (x_lt hTH6037 kH6138 gl1 (by decide))).symm
              have m6160 := (m6059).trans (fI_kept (x_lt hTH6037 kH6138 gl2 (by decide))).symm
              have m6161 := (m6060).trans (fI_kept (x_lt hTH6037 kH6138 gl3 (by decide))).symm
              have m6162 := (m6061).trans (fI_kept (x_lt hTH6037 kH6138 gf9 (by decide))).symm
              have m6163 := (m6062).trans (fI_kept (x_lt hTH6037 kH6138 gf0 (by decide))).symm
              have m6164 := (m6083).trans (fI_kept (x_lt hTH6037 kH6138 gf1 (by decide))).symm
              have m6165 := (m6063).trans (MF.r mf6144 (k := 32) (by decide) (by decide)).symm
              have m6166 := (m6064).trans (MF.r mf6144 (k := 33) (by decide) (by decide)).symm
              have m6167 := (m6065).trans (MF.r mf6144 (k := 29) (by decide) (by decide)).symm
              have m6168 := (m6066).trans (MF.r mf6144 (k := 30) (by decide) (by decide)).symm
              have m6169 := (m6067).trans (MF.r mf6144 (k := 31) (by decide) (by decide)).symm
              have m6170 := (m6068).trans (MF.r mf6144 (k := 17) (by decide) (by decide)).symm
              have m6171 := (m6069).trans (MF.r mf6144 (k := 26) (by decide) (by decide)).symm
              have m6172 := (m6070).trans (MF.r mf6144 (k := 27) (by decide) (by decide)).symm
              have m6173 := (m6071).trans (MF.r mf6144 (k := 28) (by decide) (by decide)).symm
              have m6174 := (m6072).trans (MF.r mf6144 (k := 25) (by decide) (by decide)).symm
              have m6175 := (m6073).trans (MF.i mf6144 (k := 18) (by decide) (by decide)).symm
              have m6176 := (m6074).trans (MF.i mf6144 (k := 34) (by decide) (by decide)).symm
              have m6177 := (m6075).trans (MF.r mf6144 (k := 37) (by decide) (by decide)).symm
              have m6178 := (m6076).trans (MF.i mf6144 (k := 19) (by decide) (by decide)).symm
              have m6179 := (m6077).trans (MF.i mf6144 (k := 20) (by decide) (by decide)).symm
              have m6180 := (m6078).trans (MF.i mf6144 (k := 21) (by decide) (by decide)).symm
              have m6181 := (m6079).trans (MF.i mf6144 (k := 22) (by decide) (by decide)).symm
              have m6182 := (m6080).trans (MF.i mf6144 (k := 35) (by decide) (by decide)).symm
              have m6183 := (m6081).trans (MF.i mf6144 (k := 36) (by decide) (by decide)).symm
              have m6184 := (m6082).trans (MF.i mf6144 (k := 38) (by decide) (by decide)).symm
              have mf6185 : MF K s.heap H6138 a0 [19, 20, 21, 22, 35, 36, 38, 39, 40] := MF.trans mf6039 mf6144 (by decide)
              refine W.eq (g2 := F0 m 112 ls4814 [.int x6139]) rfl ?_
              have k59_ : kK bt tp.toNatClampNeg cj5985 ≠ 59 := fun e => by have z_ := (TV.sg (c := 59) cu5986.2.2.1 (by decide)).mpr e; omega
              exact x_iret C hQ dX10_readLine_112 hSH6138 (by decide) (by decide) (⟨x6139, x5931, x5932, x5933, x5934, x5935, x5936, rfl, by omega, m6178, m6179, m6180, m6181, m6182, m6183, Or.inl (by omega), m6165, m6166, m6167, m6168, m6169, m6170, m6171, m6172, m6173, m6174, g6140, g6141, g6142, g6143, mf6185, b6145, f6150, f6155, f6156, f6157, f6151, f6152, f6153, Or.inl (by omega), Or.inl ⟨(ln_go (HD.get hb0) rfl rfl ((hs_n1 (by omega) hx0 ho4945).trans ho5606) (wn_yes kw_ rfl ho5987)).trans (if_neg k59_), by omega⟩, Or.inl (by omega), Or.inl (by omega), Or.inl (by omega), hTH6138⟩)
          · have k5984 := i_eq c5983
            refine lv_iconst (v := (-1)) hx hb dX10_readLine_86 (by decide) ?_
            exact x_iret C hQ dX10_readLine_87 hSH5929 (by decide) (by decide) (⟨(-1), x5931, x5932, x5933, x5934, x5935, x5936, rfl, by decide, ex5931, ex5932, ex5933, ex5934, ex5935, ex5936, Or.inl (by omega), m5938, m5939, m5968, m5969, m5970, m5941, m5972, m5973, m5974, m5975, g5942, g5943, g5944, g5945, mf5979, b5980, f5952, f5957, f5958, f5959, f5953, f5954, f5955, Or.inl (by omega), Or.inl ⟨ln_no2 (HD.get hb0) rfl rfl ((hs_n1 (by omega) hx0 ho4945).trans ho5606) (wn_no kw_ rfl (RC.no m5949 (by omega))), by omega⟩, Or.inl (by omega), Or.inl (by omega), Or.inl (by omega), hTH5929⟩)
      · have k5603 := i_eq c5602
        refine lv_iconst (v := (-1)) hx hb dX10_readLine_53 (by decide) ?_
        exact x_iret C hQ dX10_readLine_54 hSH5555 (by decide) (by decide) (⟨(-1), x5557, x5558, x5559, x5560, x5561, on, rfl, by decide, ex5557, ex5558, ex5559, ex5560, ex5561, m5597, Or.inl (by omega), m5562, m5563, m5589, m5590, m5591, m5564, m5593, m5594, m5595, m5596, g5565, g5566, g5567, g5568, mf5600, b5601, f5574, f5579, f5580, f5581, f5575, f5576, f5577, Or.inl (by omega), Or.inl ⟨ln_no1 (HD.get hb0) rfl rfl ((hs_n1 (by omega) hx0 ho4945).trans (RC.no m5572 (by omega))), by omega⟩, Or.inl (by omega), Or.inl (by omega), Or.inl (by omega), hTH5555⟩)
  · have k4942 := i_eq c4941
    refine lv_iconst (v := (-1)) hx hb dX10_readLine_26 (by decide) ?_
    exact x_iret C hQ dX10_readLine_27 hSH4891 (by decide) (by decide) (⟨(-1), x4893, x4894, x4895, x4896, mn, on, rfl, by decide, ex4893, ex4894, ex4895, ex4896, m4930, m4931, Or.inl (by omega), m4920, m4921, m4922, m4923, m4924, m4897, m4898, m4899, m4900, m4929, g4901, g4902, g4903, g4904, mf4934, b4913, f4914, f4935, f4936, f4937, f4915, f4916, f4917, Or.inl (by omega), Or.inl ⟨ln_no1 (HD.get hb0) rfl rfl (hs_n0 hx0 (RC.no m4906 (by omega))), by omega⟩, Or.inl (by omega), Or.inl (by omega), Or.inl (by omega), hTH4891⟩)
