set_option maxHeartbeats 4000000 in
set_option maxRecDepth 100000 in
theorem a_X10_readText_g (l : Launch) (K : KE) (G : Nat → Option Nat) (H : Heap) {a0 : Nat} {oq : Nat} {aq : Nat} {f9 : Nat} {f0 : Nat} {f1 : Nat} {tq : Nat} {l1 : Nat} {l2 : Nat} {l3 : Nat} {lsq : Nat} (sp : Int32) (fr : Int32) (tk : Int32) (vl : Int32) (mn : Int32) (on : Int32) (tp : Int32) (jb : Int32) (ci : Nat) (bt : Nat → Int) (hT : TY K G H) (ga0 : G a0 = some 112) (goq : G oq = some 136) (eoq : @Eq Ad oq (fR H a0 (K.1.2 10 32))) (gaq : G aq = some 137) (eaq : @Eq Ad aq (fR H a0 (K.1.2 10 33))) (gf9 : G f9 = some 133) (ef9 : @Eq Ad f9 (fR H a0 (K.1.2 10 29))) (gf0 : G f0 = some 134) (ef0 : @Eq Ad f0 (fR H a0 (K.1.2 10 30))) (gf1 : G f1 = some 135) (ef1 : @Eq Ad f1 (fR H a0 (K.1.2 10 31))) (gtq : G tq = some 126) (etq : @Eq Ad tq (fR H a0 (K.1.2 10 17))) (gl1 : G l1 = some 130) (el1 : @Eq Ad l1 (fR H a0 (K.1.2 10 26))) (gl2 : G l2 = some 131) (el2 : @Eq Ad l2 (fR H a0 (K.1.2 10 27))) (gl3 : G l3 = some 132) (el3 : @Eq Ad l3 (fR H a0 (K.1.2 10 28))) (glsq : G lsq = some 129) (elsq : @Eq Ad lsq (fR H a0 (K.1.2 10 25))) (esp : sp = fI H a0 (K.1.2 10 19)) (efr : fr = fI H a0 (K.1.2 10 20)) (etk : tk = fI H a0 (K.1.2 10 21)) (evl : vl = fI H a0 (K.1.2 10 22)) (emn : mn = fI H a0 (K.1.2 10 35)) (eon : on = fI H a0 (K.1.2 10 36)) (etp : tp = fI H a0 (K.1.2 10 18)) (ejb : jb = fI H a0 (K.1.2 10 34)) (hg_CG : CG (avw K H a0)) (hg_TU : TU (avw K H a0) (svw K H a0)) (hg_WD : WD (avw K H a0)) (hg_IM : IM (avw K H a0)) (hp0 : (sp.toInt ≤ tp.toInt ∧ fr.toInt ≤ sp.toInt ∧ (tk.toInt = 0 ∨ fr.toInt < sp.toInt) ∧ (tk.toInt ≠ 2 ∨ (0 ≤ vl.toInt ∧ vl.toInt ≤ 23)))) (hp1 : mn.toInt ≤ fr.toInt) (hp2 : on.toInt = 0) (hp3 : ci = 0) (hy0 : CU bt tp.toNatClampNeg ci fr sp tk vl) (hy1 : ∀ j : Nat, j < tp.toNatClampNeg → 0 ≤ bt j) (hv_bt : ∀ j : Nat, bt j = (fI H tq j).toInt) : MX l K yX10_readText cX10_readText 2 (some .int) 9 194 0 0 [.ref a0] H (AE G [112, 136, 137, 138, 129, 130, 131, 132, 133, 134, 135] H.size) (fun v H1 => ∃ (r : Int32) (t0 : Int32) (t1 : Int32) (t2 : Int32) (t3 : Int32) (t4 : Int32) (t5 : Int32), v = some (.int r) ∧ ((-1) ≤ r.toInt ∧ r.toInt ≤ 16) ∧ t0 = fI H1 a0 (K.1.2 10 19) ∧ t1 = fI H1 a0 (K.1.2 10 20) ∧ t2 = fI H1 a0 (K.1.2 10 21) ∧ t3 = fI H1 a0 (K.1.2 10 22) ∧ t4 = fI H1 a0 (K.1.2 10 35) ∧ t5 = fI H1 a0 (K.1.2 10 36) ∧ (-1 ≤ r.toInt) ∧ @Eq Ad oq (fR H1 a0 (K.1.2 10 32)) ∧ @Eq Ad aq (fR H1 a0 (K.1.2 10 33)) ∧ @Eq Ad f9 (fR H1 a0 (K.1.2 10 29)) ∧ @Eq Ad f0 (fR H1 a0 (K.1.2 10 30)) ∧ @Eq Ad f1 (fR H1 a0 (K.1.2 10 31)) ∧ @Eq Ad tq (fR H1 a0 (K.1.2 10 17)) ∧ @Eq Ad l1 (fR H1 a0 (K.1.2 10 26)) ∧ @Eq Ad l2 (fR H1 a0 (K.1.2 10 27)) ∧ @Eq Ad l3 (fR H1 a0 (K.1.2 10 28)) ∧ @Eq Ad lsq (fR H1 a0 (K.1.2 10 25)) ∧ (CG (avw K H1 a0)) ∧ (TU (avw K H1 a0) (svw K H1 a0)) ∧ (WD (avw K H1 a0)) ∧ (IM (avw K H1 a0)) ∧ MF K H H1 a0 [19, 20, 21, 22, 35, 36, 38, 39, 40] ∧ (r.toInt = -1 ∨ DL (fun k => fI H1 f9 k) (fun k => fI H1 f0 k) (fun k => fI H1 f1 k) (fun k => fI H1 oq k) (fun k => fI H1 aq k) r.toNatClampNeg t4.toInt) ∧ (RT (txS (kK bt tp.toNatClampNeg) (vV bt tp.toNatClampNeg) (1 - jb.toInt) 18 0 ci) r) ∧ (r.toInt = -1 ∨ ∃ i, TXRW H1 lsq l1 l2 l3 f9 f0 f1 oq aq (kK bt tp.toNatClampNeg) (vV bt tp.toNatClampNeg) (1 - jb.toInt) r.toNatClampNeg i t4.toNatClampNeg) ∧ (FRD H1 H lsq l1 l2 l3 f9 f0 f1 oq aq) ∧ TY K G H1) := by
  refine MX.of (by decide +kernel) (Nat.le_of_ble_eq_true rfl) ?_
  intro p e s m below meth c ls Q C hH hl hQ
  subst hH
  have C : CX p K s m _ meth c RX10 cX10_readText 2 (some .int) "readText" := C
  obtain ⟨hx, hb, hml, hown, hts, hKT, hr, hlocks, hnm⟩ := id C
  have hl : lv_has ls 2 [(0, .ref a0)] := hl
  have hS : va_S (AE G [112, 136, 137, 138, 129, 130, 131, 132, 133, 134, 135] s.heap.size) s.heap s.heap [] := va_S.rf
  have n_m1 : ((-1) : Int32).toInt = -1 := rfl
  have n_0 : (0 : Int32).toInt = 0 := rfl
  have n_1 : (1 : Int32).toInt = 1 := rfl
  have n_3 : (3 : Int32).toInt = 3 := rfl
  have n_16 : (16 : Int32).toInt = 16 := rfl
  have n_96 : (96 : Int32).toInt = 96 := rfl
  have bsp := ty_fi (x := sp) (k := 19) esp hT ga0 rg_112 rfl
  have bfr := ty_fi (x := fr) (k := 20) efr hT ga0 rg_112 rfl
  have btk := ty_fi (x := tk) (k := 21) etk hT ga0 rg_112 rfl
  have bvl := ty_fi (x := vl) (k := 22) evl hT ga0 rg_112 rfl
  have bmn := ty_fi (x := mn) (k := 35) emn hT ga0 rg_112 rfl
  have bon := ty_fi (x := on) (k := 36) eon hT ga0 rg_112 rfl
  have btp := ty_fi (x := tp) (k := 18) etp hT ga0 rg_112 rfl
  have bjb := ty_fi (x := jb) (k := 34) ejb hT ga0 rg_112 rfl
  have hap : ∀ x y, x < 74 → y < 74 → x ≠ y → K.1.2 10 x ≠ K.1.2 10 y := x_apart hKT hts inX10 tyX10 tyX10_ok nmX10 rfl
  have mf0 : MF K s.heap s.heap a0 [19, 20, 21, 22, 35, 36, 38, 39, 40] := fun _ _ _ => rfl
  replace eoq := EQN.mk eoq
  replace eaq := EQN.mk eaq
  replace ef9 := EQN.mk ef9
  replace ef0 := EQN.mk ef0
  replace ef1 := EQN.mk ef1
  replace etq := EQN.mk etq
  replace el1 := EQN.mk el1
  replace el2 := EQN.mk el2
  replace el3 := EQN.mk el3
  replace elsq := EQN.mk elsq
  have f0_bt := hv_bt
  have J2 : ∀ (nf : Nat) (cj : Nat) (ls2186 : Array Slot) (H2185 : Heap) (locsH2185 : List Loc) (x2188 : Int32) (x2189 : Int32) (x2190 : Int32) (x2191 : Int32) (x2192 : Int32) (x2193 : Int32) (x2194 : Int32), lv_has ls2186 2 [(0, .ref a0), (1, .int x2188)] → TY K G H2185 → va_S (AE G [112, 136, 137, 138, 129, 130, 131, 132, 133, 134, 135] s.heap.size) s.heap H2185 locsH2185 → (0 ≤ x2188.toInt ∧ x2188.toInt ≤ 16) → (0 ≤ x2189.toInt ∧ x2189.toInt ≤ 500) → (0 ≤ x2190.toInt ∧ x2190.toInt ≤ 500) → (0 ≤ x2193.toInt ∧ x2193.toInt ≤ 500) → (0 ≤ x2194.toInt ∧ x2194.toInt ≤ 8) → (x2189 = fI H2185 a0 (K.1.2 10 19)) → (x2190 = fI H2185 a0 (K.1.2 10 20)) → (x2191 = fI H2185 a0 (K.1.2 10 21)) → (x2192 = fI H2185 a0 (K.1.2 10 22)) → (x2193 = fI H2185 a0 (K.1.2 10 35)) → (x2194 = fI H2185 a0 (K.1.2 10 36)) → (EQN oq (fR H2185 a0 (K.1.2 10 32))) → (EQN aq (fR H2185 a0 (K.1.2 10 33))) → (EQN f9 (fR H2185 a0 (K.1.2 10 29))) → (EQN f0 (fR H2185 a0 (K.1.2 10 30))) → (EQN f1 (fR H2185 a0 (K.1.2 10 31))) → (EQN tq (fR H2185 a0 (K.1.2 10 17))) → (EQN l1 (fR H2185 a0 (K.1.2 10 26))) → (EQN l2 (fR H2185 a0 (K.1.2 10 27))) → (EQN l3 (fR H2185 a0 (K.1.2 10 28))) → (EQN lsq (fR H2185 a0 (K.1.2 10 25))) → (tp = fI H2185 a0 (K.1.2 10 18)) → (jb = fI H2185 a0 (K.1.2 10 34)) → (MF K s.heap H2185 a0 [19, 20, 21, 22, 35, 36, 38, 39, 40]) → (CG (avw K H2185 a0)) → (TU (avw K H2185 a0) (svw K H2185 a0)) → (WD (avw K H2185 a0)) → (IM (avw K H2185 a0)) → (∀ j : Nat, bt j = (fI H2185 tq j).toInt) → (500 - x2190.toInt < (nf : Int)) → ((x2189.toInt ≤ tp.toInt ∧ x2190.toInt ≤ x2189.toInt ∧ (x2191.toInt = 0 ∨ x2190.toInt < x2189.toInt) ∧ (x2191.toInt ≠ 2 ∨ (0 ≤ x2192.toInt ∧ x2192.toInt ≤ 23))) ∧ x2193.toInt ≤ x2190.toInt ∧ x2194.toInt = 0) → (DL (fun k => fI H2185 f9 k) (fun k => fI H2185 f0 k) (fun k => fI H2185 f1 k) (fun k => fI H2185 oq k) (fun k => fI H2185 aq k) x2188.toNatClampNeg x2193.toInt) → (CU bt tp.toNatClampNeg cj x2190 x2189 x2191 x2192) → (txS (kK bt tp.toNatClampNeg) (vV bt tp.toNatClampNeg) (1 - jb.toInt) 18 0 ci = txS (kK bt tp.toNatClampNeg) (vV bt tp.toNatClampNeg) (1 - jb.toInt) (18 - x2188.toNatClampNeg) x2188.toNatClampNeg cj) → (HD (TXRW H2185 lsq l1 l2 l3 f9 f0 f1 oq aq (kK bt tp.toNatClampNeg) (vV bt tp.toNatClampNeg) (1 - jb.toInt) x2188.toNatClampNeg cj x2193.toNatClampNeg)) → (HD (FRD H2185 s.heap lsq l1 l2 l3 f9 f0 f1 oq aq)) → W p l e ({ frames := 9, cells := 0, slots := 0, locals := 194 } : Room) s m (([.ref a0] : List Value).toArray) below meth c H2185 locsH2185 0 0 Q (F0 m 2 ls2186 []) := by
    intro nf
    induction nf with
    | zero =>
      intro cj ls2186 H2185 locsH2185 x2188 x2189 x2190 x2191 x2192 x2193 x2194 hl2187 hTH2185 hSH2185 bx2188 bx2189 bx2190 bx2193 bx2194 ex2189 ex2190 ex2191 ex2192 ex2193 ex2194 cy2195_0 cy2195_1 cy2195_2 cy2195_3 cy2195_4 cy2195_5 cy2195_6 cy2195_7 cy2195_8 cy2195_9 cy2195_10 cy2195_11 mfy2195 gy2195_CG gy2195_TU gy2195_WD gy2195_IM fy2195_bt hm2 iv2 hDL hcu2 hsp2 hTR hFR
      have rx2191 := i_rng x2191
      have rx2192 := i_rng x2192
      exfalso
      omega
    | succ nf ih2 =>
      intro cj ls2186 H2185 locsH2185 x2188 x2189 x2190 x2191 x2192 x2193 x2194 hl2187 hTH2185 hSH2185 bx2188 bx2189 bx2190 bx2193 bx2194 ex2189 ex2190 ex2191 ex2192 ex2193 ex2194 cy2195_0 cy2195_1 cy2195_2 cy2195_3 cy2195_4 cy2195_5 cy2195_6 cy2195_7 cy2195_8 cy2195_9 cy2195_10 cy2195_11 mfy2195 gy2195_CG gy2195_TU gy2195_WD gy2195_IM fy2195_bt hm2 iv2 hDL hcu2 hsp2 hTR hFR
      have rx2191 := i_rng x2191
      have rx2192 := i_rng x2192
      obtain ⟨⟨i1, i2, i3, i4⟩, i5, i6⟩ := iv2
      refine lv_aload_n hx hb dX10_readText_2 rfl (lv_at hl2187 0 rfl) ?_
      refine x_V (As := []) (rest := []) C (a_X10_isBegin_e l K G H2185 (x2191) (x2192) (jb) hTH2185 ga0 ex2191 ex2192 cy2195_11) yo_X10_isBegin wM_X10_285 ⟨⟨by decide, by decide⟩, by decide, by decide⟩ (x_rv C hTH2185 (ci := 10) rfl ga0 rg_112) rfl hl2187.1 rfl (Nat.le_of_ble_eq_true rfl) dX10_readText_3 hSH2185 (AE_sub (fun _ _ => rfl) (by decide) hSH2185.1) (fun vH2196 H2196 locsH2196 pH2196 zH2196 kH2196 hSH2196 => ?_)
      obtain ⟨x2197, hvH2196, bx2197, hrH2196, hTH2196⟩ := pH2196
      subst hvH2196
      clear zH2196
      have mf2198 : MF K s.heap H2196 a0 [19, 20, 21, 22, 35, 36, 38, 39, 40] := MF.eff (x_lt hTH2185 kH2196 ga0 (by decide)) mfy2195
      have g2199 : CG (avw K H2196 a0) := CG.congr (fun k hk j => av_eff hTH2185 kH2196 ga0 (by decide) (CG_eff [] (by decide) k hk)) gy2195_CG
      have g2200 : TU (avw K H2196 a0) (svw K H2196 a0) := TU.congr (fun k hk j => av_eff hTH2185 kH2196 ga0 (by decide) (TU_eff [] (by decide) k hk)) (fun k hk => sv_eff hTH2185 kH2196 ga0 (by decide)) gy2195_TU
      have g2201 : WD (avw K H2196 a0) := WD.congr (fun k hk j => av_eff hTH2185 kH2196 ga0 (by decide) (WD_eff [] (by decide) k hk)) gy2195_WD
      have g2202 : IM (avw K H2196 a0) := IM.congr (fun k hk j => av_eff hTH2185 kH2196 ga0 (by decide) (IM_eff [] (by decide) k hk)) gy2195_IM
      have f2203 : ∀ j : Nat, bt j = (fI H2196 tq j).toInt := fun j => (fy2195_bt j).trans (congrArg Int32.toInt (fI_kept (x_lt hTH2185 kH2196 gtq (by decide))).symm)
      have m2204 := (ex2189).trans (fI_kept (x_lt hTH2185 kH2196 ga0 (by decide))).symm
      have m2205 := (ex2190).trans (fI_kept (x_lt hTH2185 kH2196 ga0 (by decide))).symm
      have m2206 := (ex2191).trans (fI_kept (x_lt hTH2185 kH2196 ga0 (by decide))).symm
      have m2207 := (ex2192).trans (fI_kept (x_lt hTH2185 kH2196 ga0 (by decide))).symm
      have m2208 := (ex2193).trans (fI_kept (x_lt hTH2185 kH2196 ga0 (by decide))).symm
      have m2209 := (ex2194).trans (fI_kept (x_lt hTH2185 kH2196 ga0 (by decide))).symm
      have m2210 := (cy2195_0).trans (fR_kept (x_lt hTH2185 kH2196 ga0 (by decide))).symm
      have m2211 := (cy2195_1).trans (fR_kept (x_lt hTH2185 kH2196 ga0 (by decide))).symm
      have m2212 := (cy2195_2).trans (fR_kept (x_lt hTH2185 kH2196 ga0 (by decide))).symm
      have m2213 := (cy2195_3).trans (fR_kept (x_lt hTH2185 kH2196 ga0 (by decide))).symm
      have m2214 := (cy2195_4).trans (fR_kept (x_lt hTH2185 kH2196 ga0 (by decide))).symm
      have m2215 := (cy2195_5).trans (fR_kept (x_lt hTH2185 kH2196 ga0 (by decide))).symm
      have m2216 := (cy2195_6).trans (fR_kept (x_lt hTH2185 kH2196 ga0 (by decide))).symm
      have m2217 := (cy2195_7).trans (fR_kept (x_lt hTH2185 kH2196 ga0 (by decide))).symm
      have m2218 := (cy2195_8).trans (fR_kept (x_lt hTH2185 kH2196 ga0 (by decide))).symm
      have m2219 := (cy2195_9).trans (fR_kept (x_lt hTH2185 kH2196 ga0 (by decide))).symm
      have m2220 := (cy2195_10).trans (fI_kept (x_lt hTH2185 kH2196 ga0 (by decide))).symm
      have m2221 := (cy2195_11).trans (fI_kept (x_lt hTH2185 kH2196 ga0 (by decide))).symm
      replace hDL := DL.congr (fun j => fI_kept (x_lt hTH2185 kH2196 gf9 (by decide))) (fun j => fI_kept (x_lt hTH2185 kH2196 gf0 (by decide))) (fun j => fI_kept (x_lt hTH2185 kH2196 gf1 (by decide))) (fun j => fI_kept (x_lt hTH2185 kH2196 goq (by decide))) (fun j => fI_kept (x_lt hTH2185 kH2196 gaq (by decide))) hDL
      replace hTR := HD.mk (TXRW.kept (HD.get hTR) (fun l => fI_kept (x_lt hTH2185 kH2196 glsq (by decide))) (fun l => fI_kept (x_lt hTH2185 kH2196 gl1 (by decide))) (fun l => fI_kept (x_lt hTH2185 kH2196 gl2 (by decide))) (fun l => fI_kept (x_lt hTH2185 kH2196 gl3 (by decide))) (fun l => fI_kept (x_lt hTH2185 kH2196 gf9 (by decide))) (fun l => fI_kept (x_lt hTH2185 kH2196 gf0 (by decide))) (fun l => fI_kept (x_lt hTH2185 kH2196 gf1 (by decide))) (fun l => fI_kept (x_lt hTH2185 kH2196 goq (by decide))) (fun l => fI_kept (x_lt hTH2185 kH2196 gaq (by decide))))
      replace hFR := HD.mk (FRD.kept (HD.get hFR) (fun l => fI_kept (x_lt hTH2185 kH2196 glsq (by decide))) (fun l => fI_kept (x_lt hTH2185 kH2196 gl1 (by decide))) (fun l => fI_kept (x_lt hTH2185 kH2196 gl2 (by decide))) (fun l => fI_kept (x_lt hTH2185 kH2196 gl3 (by decide))) (fun l => fI_kept (x_lt hTH2185 kH2196 gf9 (by decide))) (fun l => fI_kept (x_lt hTH2185 kH2196 gf0 (by decide))) (fun l => fI_kept (x_lt hTH2185 kH2196 gf1 (by decide))) (fun l => fI_kept (x_lt hTH2185 kH2196 goq (by decide))) (fun l => fI_kept (x_lt hTH2185 kH2196 gaq (by decide))))
      refine W.eq (g2 := F0 m 6 ls2186 [.int x2197]) rfl ?_
      refine lv_if_eq (tgt := 42) hx hb dX10_readText_6 (by decide) (fun c2222 => ?_) (fun c2222 => ?_)
      · have k2223 := i_eq c2222
        refine lv_aload_n hx hb dX10_readText_42 rfl (lv_at hl2187 0 rfl) ?_
        refine x_gi C hTH2196 (ci := 10) (k := 21) rfl inX10 (by decide) wF_X10_202 ga0 rg_112 rfl dX10_readText_43 (fun x2224 ex2224 bx2224 => ?_)
        have ux2224 : x2191 = x2224 := (m2206).trans ex2224.symm
        subst ux2224
        refine lv_if_ne (tgt := 53) hx hb dX10_readText_46 (by decide) (fun c2225 => ?_) (fun c2225 => ?_)
        · have k2226 := i_ne c2225
          refine lv_aload_n hx hb dX10_readText_53 rfl (lv_at hl2187 0 rfl) ?_
          refine lv_iconst (v := 1) hx hb dX10_readText_54 (by decide) ?_
          refine x_V (As := [.int 1]) (rest := []) C (a_X10_fails l K G H2196 (1) hTH2196 ga0 g2199 g2200 g2201 g2202) yo_X10_fails wM_X10_235 ⟨⟨by decide, by decide⟩, by decide, by decide⟩ (x_rv C hTH2196 (ci := 10) rfl ga0 rg_112) rfl hl2187.1 rfl (Nat.le_of_ble_eq_true rfl) dX10_readText_55 hSH2196 (AE_sub (fun _ _ => rfl) (by decide) hSH2196.1) (fun vH2227 H2227 locsH2227 pH2227 zH2227 kH2227 hSH2227 => ?_)
          obtain ⟨x2228, hvH2227, bx2228, g2229, g2230, g2231, g2232, mf2233, hTH2227⟩ := pH2227
          subst hvH2227
          clear zH2227
          have f2234 : ∀ j : Nat, bt j = (fI H2227 tq j).toInt := fun j => (f2203 j).trans (congrArg Int32.toInt (fI_kept (x_lt hTH2196 kH2227 gtq (by decide))).symm)
          have m2235 := (m2204).trans (MF.i mf2233 (k := 19) (by decide) (by decide)).symm
          have m2236 := (m2205).trans (MF.i mf2233 (k := 20) (by decide) (by decide)).symm
          have m2237 := (m2206).trans (MF.i mf2233 (k := 21) (by decide) (by decide)).symm
          have m2238 := (m2207).trans (MF.i mf2233 (k := 22) (by decide) (by decide)).symm
          have m2239 := (m2208).trans (MF.i mf2233 (k := 35) (by decide) (by decide)).symm
          have m2240 := (m2209).trans (MF.i mf2233 (k := 36) (by decide) (by decide)).symm
          have m2241 := (m2210).trans (MF.r mf2233 (k := 32) (by decide) (by decide)).symm
          have m2242 := (m2211).trans (MF.r mf2233 (k := 33) (by decide) (by decide)).symm
          have m2243 := (m2212).trans (MF.r mf2233 (k := 29) (by decide) (by decide)).symm
          have m2244 := (m2213).trans (MF.r mf2233 (k := 30) (by decide) (by decide)).symm
          have m2245 := (m2214).trans (MF.r mf2233 (k := 31) (by decide) (by decide)).symm
          have m2246 := (m2215).trans (MF.r mf2233 (k := 17) (by decide) (by decide)).symm
          have m2247 := (m2216).trans (MF.r mf2233 (k := 26) (by decide) (by decide)).symm
          have m2248 := (m2217).trans (MF.r mf2233 (k := 27) (by decide) (by decide)).symm
          have m2249 := (m2218).trans (MF.r mf2233 (k := 28) (by decide) (by decide)).symm
          have m2250 := (m2219).trans (MF.r mf2233 (k := 25) (by decide) (by decide)).symm
          have m2251 := (m2220).trans (MF.i mf2233 (k := 18) (by decide) (by decide)).symm
          have m2252 := (m2221).trans (MF.i mf2233 (k := 34) (by decide) (by decide)).symm
          have mf2253 : MF K s.heap H2227 a0 [19, 20, 21, 22, 35, 36, 38, 39, 40] := MF.trans mf2198 mf2233 (by decide)
          replace hTR := HD.mk (TXRW.kept (HD.get hTR) (fun l => fI_kept (x_lt hTH2196 kH2227 glsq (by decide))) (fun l => fI_kept (x_lt hTH2196 kH2227 gl1 (by decide))) (fun l => fI_kept (x_lt hTH2196 kH2227 gl2 (by decide))) (fun l => fI_kept (x_lt hTH2196 kH2227 gl3 (by decide))) (fun l => fI_kept (x_lt hTH2196 kH2227 gf9 (by decide))) (fun l => fI_kept (x_lt hTH2196 kH2227 gf0 (by decide))) (fun l => fI_kept (x_lt hTH2196 kH2227 gf1 (by decide))) (fun l => fI_kept (x_lt hTH2196 kH2227 goq (by decide))) (fun l => fI_kept (x_lt hTH2196 kH2227 gaq (by decide))))
          replace hFR := HD.mk (FRD.kept (HD.get hFR) (fun l => fI_kept (x_lt hTH2196 kH2227 glsq (by decide))) (fun l => fI_kept (x_lt hTH2196 kH2227 gl1 (by decide))) (fun l => fI_kept (x_lt hTH2196 kH2227 gl2 (by decide))) (fun l => fI_kept (x_lt hTH2196 kH2227 gl3 (by decide))) (fun l => fI_kept (x_lt hTH2196 kH2227 gf9 (by decide))) (fun l => fI_kept (x_lt hTH2196 kH2227 gf0 (by decide))) (fun l => fI_kept (x_lt hTH2196 kH2227 gf1 (by decide))) (fun l => fI_kept (x_lt hTH2196 kH2227 goq (by decide))) (fun l => fI_kept (x_lt hTH2196 kH2227 gaq (by decide))))
          refine W.eq (g2 := F0 m 58 ls2186 [.int x2228]) rfl ?_
          exact x_iret C hQ dX10_readText_58 hSH2227 (by decide) (by decide) (⟨x2228, x2189, x2190, x2191, x2192, x2193, x2194, rfl, by omega, m2235, m2236, m2237, m2238, m2239, m2240, by omega, m2241, m2242, m2243, m2244, m2245, m2246, m2247, m2248, m2249, m2250, g2229, g2230, g2231, g2232, mf2253, Or.inl (by omega), Or.inl ⟨hsp2.trans (tx_no (fun e => by have z_ := (TV.en hcu2.2.2.1).mpr e; omega) (Or.inr (ln_no0 (TV.nb (j := jb.toInt) hcu2.2.2.1 (by omega) (by omega))))), by omega⟩, Or.inl (by omega), (HD.get hFR), hTH2227⟩)
        · have k2226 := i_eq c2225
          refine lv_iload_n hx hb dX10_readText_49 rfl (lv_at hl2187 1 rfl) ?_
          refine lv_goto (tgt := 58) hx hb dX10_readText_50 (by decide) ?_
          have cn_x2188 := i_cl (x := x2188) bx2188.1
          exact x_iret C hQ dX10_readText_58 hSH2196 (by decide) (by decide) (⟨x2188, x2189, x2190, x2191, x2192, x2193, x2194, rfl, by omega, m2204, m2205, m2206, m2207, m2208, m2209, by omega, m2210, m2211, m2212, m2213, m2214, m2215, m2216, m2217, m2218, m2219, g2199, g2200, g2201, g2202, mf2198, Or.inr hDL, Or.inr ⟨x2188.toNatClampNeg, hsp2.trans (tx_end (by omega) ((TV.en hcu2.2.2.1).mp (by omega))), by omega⟩, (by first | exact Or.inl (by omega) | exact Or.inr ⟨_, TXRW.cast (HD.get hTR) rfl (rfl) (Nat.le_refl _)⟩), (HD.get hFR), hTH2196⟩)
      · have k2223 := i_ne c2222
        replace hrH2196 := hrH2196.resolve_left (fun h => absurd h.1 (by omega))
        have k26_ : kK bt tp.toNatClampNeg cj ≠ 26 := fun e => by have z_ := (TV.en hcu2.2.2.1).mpr e; omega
        refine lv_iload_n hx hb dX10_readText_9 rfl (lv_at hl2187 1 rfl) ?_
        refine lv_bipush (v := 16) hx hb dX10_readText_10 (by decide) ?_
        refine lv_icmp_ne (tgt := 21) hx hb dX10_readText_12 (by decide) (fun c2254 => ?_) (fun c2254 => ?_)
        · have k2255 := i_ne c2254
          refine lv_aload_n hx hb dX10_readText_21 rfl (lv_at hl2187 0 rfl) ?_
          refine lv_bipush (v := 96) hx hb dX10_readText_22 (by decide) ?_
          refine lv_iload_n hx hb dX10_readText_24 rfl (lv_at hl2187 1 rfl) ?_
          refine lv_iadd hx hb dX10_readText_25 ?_
          refine lv_topi (fun x2256 ex2256 => ?_)
          have tx2256 := i_add ex2256 (by omega)
          refine x_V (As := [.int x2256]) (rest := []) C (a_X10_readLine_g l K G H2196 (x2256) (x2189) (x2190) (x2191) (x2192) (x2193) (x2194) (tp) (jb) (cj) bt hTH2196 ga0 (by omega) goq m2210 gaq m2211 gf9 m2212 gf0 m2213 gf1 m2214 gtq m2215 gl1 m2216 gl2 m2217 gl3 m2218 glsq m2219 m2204 m2205 m2206 m2207 m2208 m2209 m2220 m2221 g2199 g2200 g2201 g2202 (by and_intros <;> first | assumption | omega) (by and_intros <;> first | assumption | omega) (by and_intros <;> first | assumption | omega) (by and_intros <;> first | assumption | omega) (by and_intros <;> first | assumption | omega) (hcu2) (hy1) f2203) yo_X10_readLine wM_X10_289 ⟨⟨by decide, by decide⟩, by decide, by decide⟩ (x_rv C hTH2196 (ci := 10) rfl ga0 rg_112) rfl hl2187.1 rfl (Nat.le_of_ble_eq_true rfl) dX10_readText_26 hSH2196 (AE_sub (fun _ _ => rfl) (by decide) hSH2196.1) (fun vH2257 H2257 locsH2257 pH2257 zH2257 kH2257 hSH2257 => ?_)
          obtain ⟨x2258, x2259, x2260, x2261, x2262, x2263, x2264, hvH2257, bx2258, ex2259, ex2260, ex2261, ex2262, ex2263, ex2264, hrH2257, m2265, m2266, m2267, m2268, m2269, m2270, m2271, m2272, m2273, m2274, g2275, g2276, g2277, g2278, mf2279, m2280, m2281, m2282, m2283, m2284, m2285, m2286, m2287, m2288, m2289, m2290, m2291, m2292, hTH2257⟩ := pH2257
          subst hvH2257
          clear zH2257
          replace m2265 := EQN.mk m2265
          replace m2266 := EQN.mk m2266
          replace m2267 := EQN.mk m2267
          replace m2268 := EQN.mk m2268
          replace m2269 := EQN.mk m2269
          replace m2270 := EQN.mk m2270
          replace m2271 := EQN.mk m2271
          replace m2272 := EQN.mk m2272
          replace m2273 := EQN.mk m2273
          replace m2274 := EQN.mk m2274
          have f2293 : ∀ j : Nat, bt j = (fI H2257 tq j).toInt := fun j => (f2203 j).trans (congrArg Int32.toInt (fI_kept (x_lt hTH2196 kH2257 gtq (by decide))).symm)
          have m2294 := (m2210).trans (MF.r mf2279 (k := 32) (by decide) (by decide)).symm
          have m2295 := (m2211).trans (MF.r mf2279 (k := 33) (by decide) (by decide)).symm
          have m2296 := (m2212).trans (MF.r mf2279 (k := 29) (by decide) (by decide)).symm
          have m2297 := (m2213).trans (MF.r mf2279 (k := 30) (by decide) (by decide)).symm
          have m2298 := (m2214).trans (MF.r mf2279 (k := 31) (by decide) (by decide)).symm
          have m2299 := (m2215).trans (MF.r mf2279 (k := 17) (by decide) (by decide)).symm
          have m2300 := (m2216).trans (MF.r mf2279 (k := 26) (by decide) (by decide)).symm
          have m2301 := (m2217).trans (MF.r mf2279 (k := 27) (by decide) (by decide)).symm
          have m2302 := (m2218).trans (MF.r mf2279 (k := 28) (by decide) (by decide)).symm
          have m2303 := (m2219).trans (MF.r mf2279 (k := 25) (by decide) (by decide)).symm
          have m2304 := (m2220).trans (MF.i mf2279 (k := 18) (by decide) (by decide)).symm
          have m2305 := (m2221).trans (MF.i mf2279 (k := 34) (by decide) (by decide)).symm
          have mf2306 : MF K s.heap H2257 a0 [19, 20, 21, 22, 35, 36, 38, 39, 40] := MF.trans mf2198 mf2279 (by decide)
          have bx2259 := ty_fi (x := x2259) (k := 19) ex2259 hTH2257 ga0 rg_112 rfl
          have bx2260 := ty_fi (x := x2260) (k := 20) ex2260 hTH2257 ga0 rg_112 rfl
          have bx2261 := ty_fi (x := x2261) (k := 21) ex2261 hTH2257 ga0 rg_112 rfl
          have bx2262 := ty_fi (x := x2262) (k := 22) ex2262 hTH2257 ga0 rg_112 rfl
          have bx2263 := ty_fi (x := x2263) (k := 35) ex2263 hTH2257 ga0 rg_112 rfl
          have bx2264 := ty_fi (x := x2264) (k := 36) ex2264 hTH2257 ga0 rg_112 rfl
          refine W.eq (g2 := F0 m 29 ls2186 [.int x2258]) rfl ?_
          have cn_x2256 := i_cl (x := x2256) (by omega)
          have cn_x2193 := i_cl (x := x2193) bx2193.1
          have hFR2 : HD (FRD H2257 s.heap lsq l1 l2 l3 f9 f0 f1 oq aq) := HD.mk (FRD.trans (FRD.go (x := x2256.toNatClampNeg) (m := x2193.toNatClampNeg) (by omega) m2281 m2282 m2283 m2284 m2285 m2286 m2287 m2280) (HD.get hFR))
          refine lv_iconst (v := (-1)) hx hb dX10_readText_29 (by decide) ?_
          refine lv_icmp_ne (tgt := 35) hx hb dX10_readText_30 (by decide) (fun c2307 => ?_) (fun c2307 => ?_)
          · have k2308 := i_ne c2307
            replace hrH2257 := hrH2257.resolve_left (by omega)
            obtain ⟨rzH2257, ⟨z1H2257, z2H2257, z3H2257, z4H2257⟩, y1H2257, y2H2257, y3H2257⟩ := hrH2257
            clear i3 i4
            obtain ⟨cj2309, ho2311, cu2310⟩ := RC.yes m2289 (by omega)
            refine lv_iload_n hx hb dX10_readText_35 rfl (lv_at hl2187 1 rfl) ?_
            refine lv_iconst (v := 1) hx hb dX10_readText_36 (by decide) ?_
            refine lv_iadd hx hb dX10_readText_37 ?_
            refine lv_topi (fun x2312 ex2312 => ?_)
            have tx2312 := i_add ex2312 (by omega)
            refine lv_istore_n (lv' := [(1, .int x2312), (0, .ref a0)]) hx hb dX10_readText_38 rfl hl2187 (by decide) rfl (fun ls2313 hl2314 => ?_)
            refine lv_goto (tgt := 2) hx hb dX10_readText_39 (by decide) ?_
            have cx_x2188 := i_cl (x := x2188) bx2188.1
            have cx_x2312 := i_cl (x := x2312) (by omega)
            have dn : DL (fun k => fI H2257 f9 k) (fun k => fI H2257 f0 k) (fun k => fI H2257 f1 k) (fun k => fI H2257 oq k) (fun k => fI H2257 aq k) (x2188.toNatClampNeg + 1) x2263.toInt := DL.push hDL (l := x2256.toNatClampNeg) (M := x2193.toNatClampNeg) (by omega) (by omega) m2285 m2286 m2287 m2280 (m2288.resolve_left (by omega))
            have cn_x2188 := i_cl (x := x2188) bx2188.1
            have cn_x2193 := i_cl (x := x2193) bx2193.1
            have cn_x2188 := i_cl (x := x2188) bx2188.1
            have cn_x2263 := i_cl (x := x2263) bx2263.1
            have lnb_ := m2292.resolve_left (by omega)
            have lnc_ := i_rng (fI H2257 f1 x2256.toNatClampNeg)
            have lnd_ : (fI H2257 f1 x2256.toNatClampNeg).toNatClampNeg ≤ x2263.toNatClampNeg := by show (fI H2257 f1 _).toInt.toNat ≤ _; omega
            exact ih2 cj2309 ls2313 H2257 locsH2257 (x2312) (x2259) (x2260) (x2261) (x2262) (x2263) (x2264) (lv_sub hl2314 [1, 0] rfl) hTH2257 hSH2257 ⟨by have := i_rng x2312; omega, by have := i_rng x2312; omega⟩ bx2259 bx2260 bx2263 bx2264 ex2259 ex2260 ex2261 ex2262 ex2263 ex2264 m2265 m2266 m2267 m2268 m2269 m2270 m2271 m2272 m2273 m2274 m2304 m2305 mf2306 g2275 g2276 g2277 g2278 f2293 (by omega) (by and_intros <;> first | assumption | omega) (DL.cast dn (by omega) (by omega)) cu2310 (hsp2.trans (tx_go (by omega) k26_ (by omega) ho2311 (by omega))) (HD.mk (TXRW.go (HD.get hTR) (n1 := x2312.toNatClampNeg) (x := x2256.toNatClampNeg) (m1 := x2263.toNatClampNeg) (by omega) (by omega) ho2311 (m2291.resolve_left (by omega)) m2281 m2282 m2283 m2284 m2285 m2286 m2287 m2280 (by omega) lnd_)) hFR2
          · have k2308 := i_eq c2307
            refine lv_iconst (v := (-1)) hx hb dX10_readText_33 (by decide) ?_
            exact x_iret C hQ dX10_readText_34 hSH2257 (by decide) (by decide) (⟨(-1), x2259, x2260, x2261, x2262, x2263, x2264, rfl, by decide, ex2259, ex2260, ex2261, ex2262, ex2263, ex2264, by omega, m2265, m2266, m2267, m2268, m2269, m2270, m2271, m2272, m2273, m2274, g2275, g2276, g2277, g2278, mf2306, Or.inl (by omega), Or.inl ⟨hsp2.trans (tx_no k26_ (Or.inr (RC.no m2289 (by omega)))), by omega⟩, Or.inl (by omega), (HD.get hFR2), hTH2257⟩)
        · have k2255 := i_eq c2254
          refine lv_aload_n hx hb dX10_readText_15 rfl (lv_at hl2187 0 rfl) ?_
          refine lv_iconst (v := 3) hx hb dX10_readText_16 (by decide) ?_
          refine x_V (As := [.int 3]) (rest := []) C (a_X10_fails l K G H2196 (3) hTH2196 ga0 g2199 g2200 g2201 g2202) yo_X10_fails wM_X10_235 ⟨⟨by decide, by decide⟩, by decide, by decide⟩ (x_rv C hTH2196 (ci := 10) rfl ga0 rg_112) rfl hl2187.1 rfl (Nat.le_of_ble_eq_true rfl) dX10_readText_17 hSH2196 (AE_sub (fun _ _ => rfl) (by decide) hSH2196.1) (fun vH2315 H2315 locsH2315 pH2315 zH2315 kH2315 hSH2315 => ?_)
          obtain ⟨x2316, hvH2315, bx2316, g2317, g2318, g2319, g2320, mf2321, hTH2315⟩ := pH2315
          subst hvH2315
          clear zH2315
          have f2322 : ∀ j : Nat, bt j = (fI H2315 tq j).toInt := fun j => (f2203 j).trans (congrArg Int32.toInt (fI_kept (x_lt hTH2196 kH2315 gtq (by decide))).symm)
          have m2323 := (m2204).trans (MF.i mf2321 (k := 19) (by decide) (by decide)).symm
          have m2324 := (m2205).trans (MF.i mf2321 (k := 20) (by decide) (by decide)).symm
          have m2325 := (m2206).trans (MF.i mf2321 (k := 21) (by decide) (by decide)).symm
          have m2326 := (m2207).trans (MF.i mf2321 (k := 22) (by decide) (by decide)).symm
          have m2327 := (m2208).trans (MF.i mf2321 (k := 35) (by decide) (by decide)).symm
          have m2328 := (m2209).trans (MF.i mf2321 (k := 36) (by decide) (by decide)).symm
          have m2329 := (m2210).trans (MF.r mf2321 (k := 32) (by decide) (by decide)).symm
          have m2330 := (m2211).trans (MF.r mf2321 (k := 33) (by decide) (by decide)).symm
          have m2331 := (m2212).trans (MF.r mf2321 (k := 29) (by decide) (by decide)).symm
          have m2332 := (m2213).trans (MF.r mf2321 (k := 30) (by decide) (by decide)).symm
          have m2333 := (m2214).trans (MF.r mf2321 (k := 31) (by decide) (by decide)).symm
          have m2334 := (m2215).trans (MF.r mf2321 (k := 17) (by decide) (by decide)).symm
          have m2335 := (m2216).trans (MF.r mf2321 (k := 26) (by decide) (by decide)).symm
          have m2336 := (m2217).trans (MF.r mf2321 (k := 27) (by decide) (by decide)).symm
          have m2337 := (m2218).trans (MF.r mf2321 (k := 28) (by decide) (by decide)).symm
          have m2338 := (m2219).trans (MF.r mf2321 (k := 25) (by decide) (by decide)).symm
          have m2339 := (m2220).trans (MF.i mf2321 (k := 18) (by decide) (by decide)).symm
          have m2340 := (m2221).trans (MF.i mf2321 (k := 34) (by decide) (by decide)).symm
          have mf2341 : MF K s.heap H2315 a0 [19, 20, 21, 22, 35, 36, 38, 39, 40] := MF.trans mf2198 mf2321 (by decide)
          replace hTR := HD.mk (TXRW.kept (HD.get hTR) (fun l => fI_kept (x_lt hTH2196 kH2315 glsq (by decide))) (fun l => fI_kept (x_lt hTH2196 kH2315 gl1 (by decide))) (fun l => fI_kept (x_lt hTH2196 kH2315 gl2 (by decide))) (fun l => fI_kept (x_lt hTH2196 kH2315 gl3 (by decide))) (fun l => fI_kept (x_lt hTH2196 kH2315 gf9 (by decide))) (fun l => fI_kept (x_lt hTH2196 kH2315 gf0 (by decide))) (fun l => fI_kept (x_lt hTH2196 kH2315 gf1 (by decide))) (fun l => fI_kept (x_lt hTH2196 kH2315 goq (by decide))) (fun l => fI_kept (x_lt hTH2196 kH2315 gaq (by decide))))
          replace hFR := HD.mk (FRD.kept (HD.get hFR) (fun l => fI_kept (x_lt hTH2196 kH2315 glsq (by decide))) (fun l => fI_kept (x_lt hTH2196 kH2315 gl1 (by decide))) (fun l => fI_kept (x_lt hTH2196 kH2315 gl2 (by decide))) (fun l => fI_kept (x_lt hTH2196 kH2315 gl3 (by decide))) (fun l => fI_kept (x_lt hTH2196 kH2315 gf9 (by decide))) (fun l => fI_kept (x_lt hTH2196 kH2315 gf0 (by decide))) (fun l => fI_kept (x_lt hTH2196 kH2315 gf1 (by decide))) (fun l => fI_kept (x_lt hTH2196 kH2315 goq (by decide))) (fun l => fI_kept (x_lt hTH2196 kH2315 gaq (by decide))))
          refine W.eq (g2 := F0 m 20 ls2186 [.int x2316]) rfl ?_
          have cn_x2188 := i_cl (x := x2188) bx2188.1
          exact x_iret C hQ dX10_readText_20 hSH2315 (by decide) (by decide) (⟨x2316, x2189, x2190, x2191, x2192, x2193, x2194, rfl, by omega, m2323, m2324, m2325, m2326, m2327, m2328, by omega, m2329, m2330, m2331, m2332, m2333, m2334, m2335, m2336, m2337, m2338, g2317, g2318, g2319, g2320, mf2341, Or.inl (by omega), Or.inl ⟨hsp2.trans (tx_no k26_ (Or.inl (by omega))), by omega⟩, Or.inl (by omega), (HD.get hFR), hTH2315⟩)
  refine lv_iconst (v := 0) hx hb dX10_readText_0 (by decide) ?_
  refine lv_istore_n (lv' := [(1, .int 0), (0, .ref a0)]) hx hb dX10_readText_1 rfl hl (by decide) rfl (fun ls2342 hl2343 => ?_)
  exact J2 ((500 - fr.toInt).toNat + 1) ci ls2342 s.heap [] (0) (sp) (fr) (tk) (vl) (mn) (on) (lv_sub hl2343 [1, 0] rfl) hT hS (by decide) ⟨by have := i_rng sp; omega, by have := i_rng sp; omega⟩ ⟨by have := i_rng fr; omega, by have := i_rng fr; omega⟩ ⟨by have := i_rng mn; omega, by have := i_rng mn; omega⟩ ⟨by have := i_rng on; omega, by have := i_rng on; omega⟩ esp efr etk evl emn eon eoq eaq ef9 ef0 ef1 etq el1 el2 el3 elsq etp ejb mf0 hg_CG hg_TU hg_WD hg_IM f0_bt (by omega) (by and_intros <;> first | assumption | omega) (DL.nil (by rfl)) hy0 rfl (HD.mk (TXRW.nil rfl (by omega))) (HD.mk FRD.rf)
