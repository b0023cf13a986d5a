set_option maxHeartbeats 4000000 in
set_option maxRecDepth 100000 in
theorem a_X10_readAny_g (l : Launch) (K : KE) (G : Nat → Option Nat) (H : Heap) {a0 : Nat} {oq : Nat} {aq : Nat} {pq : Nat} {tq : Nat} (sp : Int32) (fr : Int32) (tk : Int32) (vl : Int32) (mn : Int32) (on : Int32) (pn : Int32) (tp : Int32) (jb : Int32) (ci : Nat) (bt : Nat → Int) (hT : TY K G H) (ga0 : G a0 = some 112) (goq : G oq = some 136) (eoq : @Eq Ad oq (fR H a0 (K.1.2 10 32))) (gaq : G aq = some 137) (eaq : @Eq Ad aq (fR H a0 (K.1.2 10 33))) (gpq : G pq = some 138) (epq : @Eq Ad pq (fR H a0 (K.1.2 10 37))) (gtq : G tq = some 126) (etq : @Eq Ad tq (fR H a0 (K.1.2 10 17))) (esp : sp = fI H a0 (K.1.2 10 19)) (efr : fr = fI H a0 (K.1.2 10 20)) (etk : tk = fI H a0 (K.1.2 10 21)) (evl : vl = fI H a0 (K.1.2 10 22)) (emn : mn = fI H a0 (K.1.2 10 35)) (eon : on = fI H a0 (K.1.2 10 36)) (epn : pn = fI H a0 (K.1.2 10 38)) (etp : tp = fI H a0 (K.1.2 10 18)) (ejb : jb = fI H a0 (K.1.2 10 34)) (hg_CG : CG (avw K H a0)) (hg_TU : TU (avw K H a0) (svw K H a0)) (hg_WD : WD (avw K H a0)) (hg_IM : IM (avw K H a0)) (hp0 : (sp.toInt ≤ tp.toInt ∧ fr.toInt ≤ sp.toInt ∧ (tk.toInt = 0 ∨ fr.toInt < sp.toInt) ∧ (tk.toInt ≠ 2 ∨ (0 ≤ vl.toInt ∧ vl.toInt ≤ 23)))) (hp1 : mn.toInt ≤ fr.toInt) (hp2 : on.toInt = 0) (hy0 : CU bt tp.toNatClampNeg ci fr sp tk vl) (hy1 : ∀ j : Nat, j < tp.toNatClampNeg → 0 ≤ bt j) (hv_bt : ∀ j : Nat, bt j = (fI H tq j).toInt) : MX l K yX10_readAny cX10_readAny 4 (some .int) 7 149 0 0 [.ref a0] H (AE G [112, 136, 137, 138] H.size) (fun v H1 => ∃ (r : Int32) (t0 : Int32) (t1 : Int32) (t2 : Int32) (t3 : Int32) (t4 : Int32) (t5 : Int32) (t6 : Int32), v = some (.int r) ∧ ((-1) ≤ r.toInt ∧ r.toInt ≤ 0) ∧ t0 = fI H1 a0 (K.1.2 10 19) ∧ t1 = fI H1 a0 (K.1.2 10 20) ∧ t2 = fI H1 a0 (K.1.2 10 21) ∧ t3 = fI H1 a0 (K.1.2 10 22) ∧ t4 = fI H1 a0 (K.1.2 10 35) ∧ t5 = fI H1 a0 (K.1.2 10 36) ∧ t6 = fI H1 a0 (K.1.2 10 38) ∧ (r.toInt = -1 ∨ (r.toInt = 0 ∧ (t0.toInt ≤ tp.toInt ∧ t1.toInt ≤ t0.toInt ∧ (t2.toInt = 0 ∨ t1.toInt < t0.toInt) ∧ (t2.toInt ≠ 2 ∨ (0 ≤ t3.toInt ∧ t3.toInt ≤ 23))) ∧ t4.toInt + fr.toInt ≤ mn.toInt + t1.toInt ∧ mn.toInt ≤ t4.toInt ∧ fr.toInt ≤ t1.toInt)) ∧ @Eq Ad oq (fR H1 a0 (K.1.2 10 32)) ∧ @Eq Ad aq (fR H1 a0 (K.1.2 10 33)) ∧ @Eq Ad pq (fR H1 a0 (K.1.2 10 37)) ∧ @Eq Ad tq (fR H1 a0 (K.1.2 10 17)) ∧ (CG (avw K H1 a0)) ∧ (TU (avw K H1 a0) (svw K H1 a0)) ∧ (WD (avw K H1 a0)) ∧ (IM (avw K H1 a0)) ∧ MF K H H1 a0 [19, 20, 21, 22, 35, 36, 38, 39, 40] ∧ (∀ j : Nat, j < 3000 + mn.toNatClampNeg → fI H1 oq j = fI H oq j ∧ fI H1 aq j = fI H aq j) ∧ (r.toInt = -1 ∨ ∃ E, WF (fun k => fI H1 oq k) (fun k => fI H1 aq k) (3000 + mn.toNatClampNeg) (3000 + t4.toNatClampNeg) 0 E) ∧ (RC (lpI (paS (kK bt tp.toNatClampNeg) (vV bt tp.toNatClampNeg) (1 - jb.toInt) 8) (cAO (kK bt tp.toNatClampNeg)) ci) r bt tp.toNatClampNeg t1 t0 t2 t3) ∧ (r.toInt = -1 ∨ t5.toInt = 0) ∧ (r.toInt = -1 ∨ RZ (1 - jb.toInt) (fun k => fI H1 oq k) (fun k => fI H1 aq k) (3000 + mn.toNatClampNeg) (3000 + t4.toNatClampNeg) ([orG (kK bt tp.toNatClampNeg) (paS (kK bt tp.toNatClampNeg) (vV bt tp.toNatClampNeg) (1 - jb.toInt) 8) (paF (kK bt tp.toNatClampNeg) (vV bt tp.toNatClampNeg) (1 - jb.toInt) 8) ci])) ∧ TY K G H1) := by
  refine MX.of (by decide +kernel) (Nat.le_of_ble_eq_true rfl) ?_
  intro p e s m below meth c ls Q C hH hl hQ
  subst hH
  have C : CX p K s m _ meth c RX10 cX10_readAny 4 (some .int) "readAny" := C
  obtain ⟨hx, hb, hml, hown, hts, hKT, hr, hlocks, hnm⟩ := id C
  have hl : lv_has ls 4 [(0, .ref a0)] := hl
  have hS : va_S (AE G [112, 136, 137, 138] s.heap.size) s.heap s.heap [] := va_S.rf
  have n_m1 : ((-1) : Int32).toInt = -1 := rfl
  have n_0 : (0 : Int32).toInt = 0 := rfl
  have n_1 : (1 : Int32).toInt = 1 := rfl
  have n_3 : (3 : Int32).toInt = 3 := rfl
  have n_7 : (7 : Int32).toInt = 7 := rfl
  have n_8 : (8 : Int32).toInt = 8 := rfl
  have n_9 : (9 : Int32).toInt = 9 := rfl
  have n_10 : (10 : Int32).toInt = 10 := rfl
  have n_11 : (11 : Int32).toInt = 11 := rfl
  have n_12 : (12 : Int32).toInt = 12 := rfl
  have n_40 : (40 : Int32).toInt = 40 := rfl
  have n_41 : (41 : Int32).toInt = 41 := rfl
  have bsp := ty_fi (x := sp) (k := 19) esp hT ga0 rg_112 rfl
  have bfr := ty_fi (x := fr) (k := 20) efr hT ga0 rg_112 rfl
  have btk := ty_fi (x := tk) (k := 21) etk hT ga0 rg_112 rfl
  have bvl := ty_fi (x := vl) (k := 22) evl hT ga0 rg_112 rfl
  have bmn := ty_fi (x := mn) (k := 35) emn hT ga0 rg_112 rfl
  have bon := ty_fi (x := on) (k := 36) eon hT ga0 rg_112 rfl
  have bpn := ty_fi (x := pn) (k := 38) epn hT ga0 rg_112 rfl
  have btp := ty_fi (x := tp) (k := 18) etp hT ga0 rg_112 rfl
  have bjb := ty_fi (x := jb) (k := 34) ejb hT ga0 rg_112 rfl
  have hap : ∀ x y, x < 74 → y < 74 → x ≠ y → K.1.2 10 x ≠ K.1.2 10 y := x_apart hKT hts inX10 tyX10 tyX10_ok nmX10 rfl
  have mf0 : MF K s.heap s.heap a0 [19, 20, 21, 22, 35, 36, 38, 39, 40] := fun _ _ _ => rfl
  replace eoq := EQN.mk eoq
  replace eaq := EQN.mk eaq
  replace epq := EQN.mk epq
  replace etq := EQN.mk etq
  have f0_bt := hv_bt
  have J9 : ∀ (nf : Nat) (B : Nat) (cj : Nat) (ms : List Bool) (t_ : CL) (f_ : EF) (dl : List EF) (ls7548 : Array Slot) (H7547 : Heap) (locsH7547 : List Loc) (x7550 : Int32) (x7551 : Int32) (x7552 : Int32) (x7553 : Int32) (x7554 : Int32) (x7555 : Int32) (x7556 : Int32) (x7557 : Int32) (x7558 : Int32), lv_has ls7548 4 [(0, .ref a0), (1, .int x7550), (2, .int x7551)] → TY K G H7547 → va_S (AE G [112, 136, 137, 138] s.heap.size) s.heap H7547 locsH7547 → (0 ≤ x7550.toInt ∧ x7550.toInt ≤ 8) → (0 ≤ x7551.toInt ∧ x7551.toInt ≤ 1) → (0 ≤ x7552.toInt ∧ x7552.toInt ≤ 500) → (0 ≤ x7553.toInt ∧ x7553.toInt ≤ 500) → (0 ≤ x7556.toInt ∧ x7556.toInt ≤ 500) → (0 ≤ x7557.toInt ∧ x7557.toInt ≤ 8) → (0 ≤ x7558.toInt ∧ x7558.toInt ≤ 40) → (x7552 = fI H7547 a0 (K.1.2 10 19)) → (x7553 = fI H7547 a0 (K.1.2 10 20)) → (x7554 = fI H7547 a0 (K.1.2 10 21)) → (x7555 = fI H7547 a0 (K.1.2 10 22)) → (x7556 = fI H7547 a0 (K.1.2 10 35)) → (x7557 = fI H7547 a0 (K.1.2 10 36)) → (x7558 = fI H7547 a0 (K.1.2 10 38)) → (EQN oq (fR H7547 a0 (K.1.2 10 32))) → (EQN aq (fR H7547 a0 (K.1.2 10 33))) → (EQN pq (fR H7547 a0 (K.1.2 10 37))) → (EQN tq (fR H7547 a0 (K.1.2 10 17))) → (tp = fI H7547 a0 (K.1.2 10 18)) → (jb = fI H7547 a0 (K.1.2 10 34)) → (∀ j : Nat, j < 3000 + mn.toNatClampNeg → fI H7547 oq j = fI s.heap oq j ∧ fI H7547 aq j = fI s.heap aq j) → (WF (fun k => fI H7547 oq k) (fun k => fI H7547 aq k) (3000 + mn.toNatClampNeg) (3000 + x7556.toNatClampNeg) 0 (B + 1 - x7551.toNatClampNeg)) → (PQ (fun j => fI H7547 pq j) (x7558.toNatClampNeg) (x7557.toInt) (x7550.toInt) (B) (x7551.toInt)) → (PX (fun j => fI H7547 pq j) (x7558.toNatClampNeg) (x7557.toInt) (ms)) → (CXP (fun j => fI H7547 pq j) (t_) (x7558.toNatClampNeg)) → (RZ (1 - jb.toInt) (fun k => fI H7547 oq k) (fun k => fI H7547 aq k) (3000 + mn.toNatClampNeg) (3000 + x7556.toNatClampNeg) (dl)) → (MF K s.heap H7547 a0 [19, 20, 21, 22, 35, 36, 38, 39, 40]) → (CG (avw K H7547 a0)) → (TU (avw K H7547 a0) (svw K H7547 a0)) → (WD (avw K H7547 a0)) → (IM (avw K H7547 a0)) → (∀ j : Nat, bt j = (fI H7547 tq j).toInt) → (500 - x7553.toInt < (nf : Int)) → ((x7552.toInt ≤ tp.toInt ∧ x7553.toInt ≤ x7552.toInt ∧ (x7554.toInt = 0 ∨ x7553.toInt < x7552.toInt) ∧ (x7554.toInt ≠ 2 ∨ (0 ≤ x7555.toInt ∧ x7555.toInt ≤ 23))) ∧ x7556.toInt + x7558.toInt + fr.toInt ≤ mn.toInt + x7553.toInt ∧ mn.toInt ≤ x7556.toInt ∧ fr.toInt ≤ x7553.toInt) → (CU bt tp.toNatClampNeg cj x7553 x7552 x7554 x7555) → (HD (x7551.toInt ≠ 0 → lpI (paS (kK bt tp.toNatClampNeg) (vV bt tp.toNatClampNeg) (1 - jb.toInt) 8) (cAO (kK bt tp.toNatClampNeg)) ci = duI (kK bt tp.toNatClampNeg) (vV bt tp.toNatClampNeg) (1 - jb.toInt) ms cj)) → (HD (x7551.toInt = 0 → lpI (paS (kK bt tp.toNatClampNeg) (vV bt tp.toNatClampNeg) (1 - jb.toInt) 8) (cAO (kK bt tp.toNatClampNeg)) ci = coI (kK bt tp.toNatClampNeg) (vV bt tp.toNatClampNeg) (1 - jb.toInt) ms cj)) → (HD (CXO t_)) → (HD (x7551.toInt ≠ 0 → dl = opL t_ ∧ duF (kK bt tp.toNatClampNeg) (vV bt tp.toNatClampNeg) (1 - jb.toInt) [] ci = duF (kK bt tp.toNatClampNeg) (vV bt tp.toNatClampNeg) (1 - jb.toInt) t_ cj)) → (HD (x7551.toInt = 0 → dl = f_ :: opL t_ ∧ B01 f_ ∧ hT9 t_ ∧ duF (kK bt tp.toNatClampNeg) (vV bt tp.toNatClampNeg) (1 - jb.toInt) [] ci = coF (kK bt tp.toNatClampNeg) (vV bt tp.toNatClampNeg) (1 - jb.toInt) t_ false f_ cj)) → W p l e ({ frames := 7, cells := 0, slots := 0, locals := 149 } : Room) s m (([.ref a0] : List Value).toArray) below meth c H7547 locsH7547 0 0 Q (F0 m 9 ls7548 []) := by
    intro nf
    induction nf with
    | zero =>
      intro B cj ms t_ f_ dl ls7548 H7547 locsH7547 x7550 x7551 x7552 x7553 x7554 x7555 x7556 x7557 x7558 hl7549 hTH7547 hSH7547 bx7550 bx7551 bx7552 bx7553 bx7556 bx7557 bx7558 ex7552 ex7553 ex7554 ex7555 ex7556 ex7557 ex7558 cy7559_0 cy7559_1 cy7559_2 cy7559_3 cy7559_4 cy7559_5 by7559_pf by7559_wf by7559_pq by7559_px by7559_cx by7559_rs mfy7559 gy7559_CG gy7559_TU gy7559_WD gy7559_IM fy7559_bt hm9 iv9 hcu9 hdu9 hco9 hxo9 hgd9 hgc9
      have rx7554 := i_rng x7554
      have rx7555 := i_rng x7555
      exfalso
      omega
    | succ nf ih9 =>
      intro B cj ms t_ f_ dl ls7548 H7547 locsH7547 x7550 x7551 x7552 x7553 x7554 x7555 x7556 x7557 x7558 hl7549 hTH7547 hSH7547 bx7550 bx7551 bx7552 bx7553 bx7556 bx7557 bx7558 ex7552 ex7553 ex7554 ex7555 ex7556 ex7557 ex7558 cy7559_0 cy7559_1 cy7559_2 cy7559_3 cy7559_4 cy7559_5 by7559_pf by7559_wf by7559_pq by7559_px by7559_cx by7559_rs mfy7559 gy7559_CG gy7559_TU gy7559_WD gy7559_IM fy7559_bt hm9 iv9 hcu9 hdu9 hco9 hxo9 hgd9 hgc9
      have rx7554 := i_rng x7554
      have rx7555 := i_rng x7555
      obtain ⟨⟨i1, i2, i3, i4⟩, i5, i6, i7⟩ := iv9
      have cdue := i_cl (x := x7551) bx7551.1
      have J175 : ∀  (ls7561 : Array Slot) (H7560 : Heap) (locsH7560 : List Loc) (x7564 : Int32) (x7565 : Int32) (x7566 : Int32) (x7567 : Int32) (x7568 : Int32) (x7569 : Int32) (x7570 : Int32), lv_has ls7561 4 [(0, .ref a0), (1, .int x7550), (2, .int x7551)] → TY K G H7560 → va_S (AE G [112, 136, 137, 138] s.heap.size) s.heap H7560 locsH7560 → (0 ≤ x7551.toInt ∧ x7551.toInt ≤ 0) → (0 ≤ x7564.toInt ∧ x7564.toInt ≤ 500) → (0 ≤ x7565.toInt ∧ x7565.toInt ≤ 500) → (0 ≤ x7568.toInt ∧ x7568.toInt ≤ 500) → (0 ≤ x7569.toInt ∧ x7569.toInt ≤ 8) → (0 ≤ x7570.toInt ∧ x7570.toInt ≤ 40) → (x7564 = fI H7560 a0 (K.1.2 10 19)) → (x7565 = fI H7560 a0 (K.1.2 10 20)) → (x7566 = fI H7560 a0 (K.1.2 10 21)) → (x7567 = fI H7560 a0 (K.1.2 10 22)) → (x7568 = fI H7560 a0 (K.1.2 10 35)) → (x7569 = fI H7560 a0 (K.1.2 10 36)) → (x7570 = fI H7560 a0 (K.1.2 10 38)) → (EQN oq (fR H7560 a0 (K.1.2 10 32))) → (EQN aq (fR H7560 a0 (K.1.2 10 33))) → (EQN pq (fR H7560 a0 (K.1.2 10 37))) → (EQN tq (fR H7560 a0 (K.1.2 10 17))) → (tp = fI H7560 a0 (K.1.2 10 18)) → (jb = fI H7560 a0 (K.1.2 10 34)) → (∀ j : Nat, j < 3000 + mn.toNatClampNeg → fI H7560 oq j = fI s.heap oq j ∧ fI H7560 aq j = fI s.heap aq j) → (WF (fun k => fI H7560 oq k) (fun k => fI H7560 aq k) (3000 + mn.toNatClampNeg) (3000 + x7568.toNatClampNeg) 0 (B + 1 - x7551.toNatClampNeg)) → (PQ (fun j => fI H7560 pq j) (x7570.toNatClampNeg) (x7569.toInt) (x7550.toInt) (B) (x7551.toInt)) → (PX (fun j => fI H7560 pq j) (x7570.toNatClampNeg) (x7569.toInt) (ms)) → (CXP (fun j => fI H7560 pq j) (t_) (x7570.toNatClampNeg)) → (RZ (1 - jb.toInt) (fun k => fI H7560 oq k) (fun k => fI H7560 aq k) (3000 + mn.toNatClampNeg) (3000 + x7568.toNatClampNeg) (dl)) → (MF K s.heap H7560 a0 [19, 20, 21, 22, 35, 36, 38, 39, 40]) → (CG (avw K H7560 a0)) → (TU (avw K H7560 a0) (svw K H7560 a0)) → (WD (avw K H7560 a0)) → (IM (avw K H7560 a0)) → (∀ j : Nat, bt j = (fI H7560 tq j).toInt) → ((x7564.toInt ≤ tp.toInt ∧ x7565.toInt ≤ x7564.toInt ∧ (x7566.toInt = 0 ∨ x7565.toInt < x7564.toInt) ∧ (x7566.toInt ≠ 2 ∨ (0 ≤ x7567.toInt ∧ x7567.toInt ≤ 23))) ∧ x7568.toInt + x7570.toInt + fr.toInt ≤ mn.toInt + x7565.toInt ∧ mn.toInt ≤ x7568.toInt ∧ fr.toInt ≤ x7565.toInt ∧ x7565.toInt = x7553.toInt) → (CU bt tp.toNatClampNeg cj x7565 x7564 x7566 x7567) → (kK bt tp.toNatClampNeg cj ≠ 9) → (kK bt tp.toNatClampNeg cj ≠ 8) → (lpI (paS (kK bt tp.toNatClampNeg) (vV bt tp.toNatClampNeg) (1 - jb.toInt) 8) (cAO (kK bt tp.toNatClampNeg)) ci = coI (kK bt tp.toNatClampNeg) (vV bt tp.toNatClampNeg) (1 - jb.toInt) ms cj) → (HD (dl = f_ :: opL t_ ∧ B01 f_ ∧ hT9 t_ ∧ duF (kK bt tp.toNatClampNeg) (vV bt tp.toNatClampNeg) (1 - jb.toInt) [] ci = coF (kK bt tp.toNatClampNeg) (vV bt tp.toNatClampNeg) (1 - jb.toInt) t_ false f_ cj)) → W p l e ({ frames := 7, cells := 0, slots := 0, locals := 149 } : Room) s m (([.ref a0] : List Value).toArray) below meth c H7560 locsH7560 0 0 Q (F0 m 175 ls7561 []) := by
        intro  ls7561 H7560 locsH7560 x7564 x7565 x7566 x7567 x7568 x7569 x7570 hl7562 hTH7560 hSH7560 b7563 bx7564 bx7565 bx7568 bx7569 bx7570 ex7564 ex7565 ex7566 ex7567 ex7568 ex7569 ex7570 cy7571_0 cy7571_1 cy7571_2 cy7571_3 cy7571_4 cy7571_5 by7571_pf by7571_wf by7571_pq by7571_px by7571_cx by7571_rs mfy7571 gy7571_CG gy7571_TU gy7571_WD gy7571_IM fy7571_bt iv175 hcu175 ha175 ho175 hco175 hg175
        clear i1 i2 i3 i4 i5 i6 i7
        obtain ⟨⟨i1, i2, i3, i4⟩, i5, i6, i7, i8⟩ := iv175
        refine lv_aload_n hx hb dX10_readAny_175 rfl (lv_at hl7562 0 rfl) ?_
        have rsd7572 : RZ (1 - jb.toInt) (fun k => fI H7560 oq k) (fun k => fI H7560 aq k) (3000 + mn.toNatClampNeg) (3000 + x7568.toNatClampNeg) (f_ :: opL t_) := RZ.cast by7571_rs rfl rfl (HD.get hg175).1.symm
        refine lv_bipush (v := 10) hx hb dX10_readAny_176 (by decide) ?_
        have cc_x7570 := i_cl (x := x7570) bx7570.1
        have cc_x7568 := i_cl (x := x7568) bx7568.1
        have pqc : PQ (fun j => fI H7560 pq j) (x7570.toNatClampNeg) (x7569.toInt) (x7550.toInt) (B) (x7551.toInt) := PQ.cast by7571_pq (by omega) (by omega) rfl rfl rfl
        have hcb := pqc.2.2.2.1
        have hco := pqc.2.1
        have hck := pqc.2.2.1
        have pxc7573 : PX (fun j => fI H7560 pq j) (x7570.toNatClampNeg) (x7569.toInt) (ms) := PX.cast by7571_px (by omega) (by omega)
        have hnh : nh ms = true := by rw [← pxc7573.1]; exact nh_0 pqc.1 (pqc.2.2.2.2.resolve_left (by omega))
        have cn_x7570 := i_cl (x := x7570) bx7570.1
        have cn_x7570 := i_cl (x := x7570) bx7570.1
        have cxc7574 : CXP (fun j => fI H7560 pq j) (t_) (x7570.toNatClampNeg) := CXP.cast by7571_cx (by omega)
        refine x_V (As := [.int 10]) (rest := []) C (a_X10_settles_g l K G H7560 (10) (mn) (x7570) (x7568) (x7569) (jb) (t_) (f_) hTH7560 ga0 (by decide) goq cy7571_0 gaq cy7571_1 gpq cy7571_2 ex7570 ex7568 ex7569 cy7571_5 gy7571_CG gy7571_TU gy7571_WD gy7571_IM (WF.castE by7571_wf (by omega) (by omega) (by omega)) (RZ.cast rsd7572 (by omega) (by omega) rfl) (by and_intros <;> first | assumption | omega) (by and_intros <;> first | assumption | omega) (pqc.1) (pqc.2.1) (cxc7574) ((HD.get hxo9)) ((HD.get hg175).2.1)) yo_X10_settles wM_X10_273 ⟨⟨by decide, by decide⟩, by decide, by decide⟩ (x_rv C hTH7560 (ci := 10) rfl ga0 rg_112) rfl hl7562.1 rfl (Nat.le_of_ble_eq_true rfl) dX10_readAny_178 hSH7560 (AE_sub (fun _ _ => rfl) (by decide) hSH7560.1) (fun vH7575 H7575 locsH7575 pH7575 zH7575 kH7575 hSH7575 => ?_)
        obtain ⟨x7576, x7577, x7578, hvH7575, ex7576, ex7577, ex7578, hrH7575, m7579, m7580, m7581, g7582, g7583, g7584, g7585, mf7586, m7587, m7588, m7589, m7590, m7591, m7592, m7593, m7594, m7595, hTH7575⟩ := pH7575
        subst hvH7575
        clear zH7575
        replace m7579 := EQN.mk m7579
        replace m7580 := EQN.mk m7580
        replace m7581 := EQN.mk m7581
        have b7596 : PQ (fun j => fI H7575 pq j) (x7570.toNatClampNeg) (x7569.toInt) (x7550.toInt) (B) (x7551.toInt) := PQ.congr (fun j => fI_kept (x_lt hTH7560 kH7575 gpq (by decide))) pqc
        have b7597 : PX (fun j => fI H7575 pq j) (x7570.toNatClampNeg) (x7569.toInt) (ms) := PX.congr (fun j => fI_kept (x_lt hTH7560 kH7575 gpq (by decide))) pxc7573
        have b7598 : CXP (fun j => fI H7575 pq j) (t_) (x7570.toNatClampNeg) := CXP.congr (fun j => fI_kept (x_lt hTH7560 kH7575 gpq (by decide))) cxc7574
        have f7599 : ∀ j : Nat, bt j = (fI H7575 tq j).toInt := fun j => (fy7571_bt j).trans (congrArg Int32.toInt (fI_kept (x_lt hTH7560 kH7575 gtq (by decide))).symm)
        have m7600 := (ex7564).trans (MF.i mf7586 (k := 19) (by decide) (by decide)).symm
        have m7601 := (ex7565).trans (MF.i mf7586 (k := 20) (by decide) (by decide)).symm
        have m7602 := (ex7566).trans (MF.i mf7586 (k := 21) (by decide) (by decide)).symm
        have m7603 := (ex7567).trans (MF.i mf7586 (k := 22) (by decide) (by decide)).symm
        have m7604 := (cy7571_0).trans (MF.r mf7586 (k := 32) (by decide) (by decide)).symm
        have m7605 := (cy7571_1).trans (MF.r mf7586 (k := 33) (by decide) (by decide)).symm
        have m7606 := (cy7571_2).trans (MF.r mf7586 (k := 37) (by decide) (by decide)).symm
        have m7607 := (cy7571_3).trans (MF.r mf7586 (k := 17) (by decide) (by decide)).symm
        have m7608 := (cy7571_4).trans (MF.i mf7586 (k := 18) (by decide) (by decide)).symm
        have m7609 := (cy7571_5).trans (MF.i mf7586 (k := 34) (by decide) (by decide)).symm
        have mf7610 : MF K s.heap H7575 a0 [19, 20, 21, 22, 35, 36, 38, 39, 40] := MF.trans mfy7571 mf7586 (by decide)
        have bx7576 := ty_fi (x := x7576) (k := 38) ex7576 hTH7575 ga0 rg_112 rfl
        have bx7577 := ty_fi (x := x7577) (k := 35) ex7577 hTH7575 ga0 rg_112 rfl
        have bx7578 := ty_fi (x := x7578) (k := 36) ex7578 hTH7575 ga0 rg_112 rfl
        obtain ⟨raH7575, rbH7575, rcH7575⟩ := hrH7575
        replace rcH7575 := rcH7575.resolve_left (fun h => absurd (n_10.symm.trans h.1) (by decide))
        replace m7590 := HD.mk m7590
        replace m7592 := HD.mk m7592
        have cs_mn := i_cl (x := mn) (by omega)
        have b7611 : ∀ j : Nat, j < 3000 + mn.toNatClampNeg → fI H7575 oq j = fI s.heap oq j ∧ fI H7575 aq j = fI s.heap aq j := fun j hj => ⟨(m7587 j (by omega)).1.trans (by7571_pf j hj).1, (m7587 j (by omega)).2.trans (by7571_pf j hj).2⟩
        have b7612 : WF (fun k => fI H7575 oq k) (fun k => fI H7575 aq k) (3000 + mn.toNatClampNeg) (3000 + x7568.toNatClampNeg) 0 (B + 1 - x7551.toNatClampNeg) := WF.keep by7571_wf (fun j hj => (m7587 j (by omega)).1) (fun j hj => (m7587 j (by omega)).2)
        have b7613 : RZ (1 - jb.toInt) (fun k => fI H7575 oq k) (fun k => fI H7575 aq k) (3000 + mn.toNatClampNeg) (3000 + x7568.toNatClampNeg) (f_ :: opL t_) := RZ.keep rsd7572 (fun j hj => (m7587 j (by omega)).1) (fun j hj => (m7587 j (by omega)).2)
        refine W.eq (g2 := F0 m 181 ls7561 []) rfl ?_
        have cc_x7576 := i_cl (x := x7576) bx7576.1
        have cc_x7577 := i_cl (x := x7577) bx7577.1
        have eqp : ∀ j : Nat, fI H7575 pq j = fI H7560 pq j := fun j => fI_kept (x_lt hTH7560 kH7575 gpq (by decide))
        have pq0 : PQ (fun j => fI H7560 pq j) (x7576.toNatClampNeg) (x7578.toInt) (x7550.toInt) (cB (fun j => fI H7560 pq j) x7576.toNatClampNeg) 0 := PQ.settle (w := 10) pqc (by omega) m7588 m7589 (by decide) ((m7590.out).imp (fun h => by omega) (fun h => by show (fI _ pq _).toInt ≠ 10; rw [n_10] at h; exact h)) ((m7592.out).imp (fun h => by omega) (fun h => by show (fI _ pq _).toInt = 10; rw [n_10] at h; exact h)) (Or.inr (by omega))
        have pqn : PQ (fun j => fI H7575 pq j) (x7576.toNatClampNeg) (x7578.toInt) (x7550.toInt) (cB (fun j => fI H7560 pq j) x7576.toNatClampNeg) (0) := PQ.congr eqp pq0
        have t10 : HD (x7576.toNatClampNeg = 0 ∨ (fI H7575 pq (x7576.toNatClampNeg - 1)).toInt = 11 ∨ (fI H7575 pq (x7576.toNatClampNeg - 1)).toInt = 12) := PQ.top10 pqn ((m7590.out).imp (fun h => by omega) (fun h => by show (fI _ pq _).toInt ≠ 10; rw [eqp]; rw [n_10] at h; exact h))
        have pq10 := pqn
        have px7614 : PX (fun j => fI H7560 pq j) (x7576.toNatClampNeg) (x7578.toInt) (ms) := PX.settleX pxc7573 hnh m7594 m7593 (by omega)
        have px7615 : PX (fun j => fI H7575 pq j) (x7576.toNatClampNeg) (x7578.toInt) (ms) := PX.congr eqp px7614
        obtain ⟨t81, f81, hs81, rs81, cx81⟩ := m7595
        rw [n_10] at hs81
        have hq81 := stL_10 (kk := (kK bt tp.toNatClampNeg)) (vv := (vV bt tp.toNatClampNeg)) (lw := (1 - jb.toInt)) (j := cj) hs81 (HD.get hg175).2.2.1 (HD.get hxo9)
        have hk81 := stL_ok (by decide) hs81 (HD.get hxo9) (HD.get hg175).2.1
        have ce81 : duF (kK bt tp.toNatClampNeg) (vV bt tp.toNatClampNeg) (1 - jb.toInt) [] ci = coF (kK bt tp.toNatClampNeg) (vV bt tp.toNatClampNeg) (1 - jb.toInt) t81 false f81 cj := ((HD.get hg175).2.2.2).trans hq81.1
        have cy81 : CXP (fun j => fI H7575 pq j) (t81) (x7576.toNatClampNeg) := CXP.congr eqp cx81
        refine lv_aload_n hx hb dX10_readAny_181 rfl (lv_at hl7562 0 rfl) ?_
        refine lv_bipush (v := 11) hx hb dX10_readAny_182 (by decide) ?_
        have pqc : PQ (fun j => fI H7575 pq j) (x7576.toNatClampNeg) (x7578.toInt) (x7550.toInt) (cB (fun j => fI H7560 pq j) x7576.toNatClampNeg) (0) := PQ.cast pqn (by omega) (by omega) rfl rfl rfl
        have hcb := pqc.2.2.2.1
        have hco := pqc.2.1
        have hck := pqc.2.2.1
        have pxc7616 : PX (fun j => fI H7575 pq j) (x7576.toNatClampNeg) (x7578.toInt) (ms) := PX.cast px7615 (by omega) (by omega)
        have cn_x7576 := i_cl (x := x7576) bx7576.1
        have cn_x7576 := i_cl (x := x7576) bx7576.1
        have cxc7617 : CXP (fun j => fI H7575 pq j) (t81) (x7576.toNatClampNeg) := CXP.cast cy81 (by omega)
        refine x_V (As := [.int 11]) (rest := []) C (a_X10_settles_g l K G H7575 (11) (mn) (x7576) (x7577) (x7578) (jb) (t81) (f81) hTH7575 ga0 (by decide) goq m7579 gaq m7580 gpq m7581 ex7576 ex7577 ex7578 m7609 g7582 g7583 g7584 g7585 (WF.castE m7591 (by omega) (by omega) (by omega)) (RZ.cast rs81 (by omega) (by omega) rfl) (by and_intros <;> first | assumption | omega) (by and_intros <;> first | assumption | omega) (pqc.1) (pqc.2.1) (cxc7617) (hk81.1) (hk81.2)) yo_X10_settles wM_X10_273 ⟨⟨by decide, by decide⟩, by decide, by decide⟩ (x_rv C hTH7575 (ci := 10) rfl ga0 rg_112) rfl hl7562.1 rfl (Nat.le_of_ble_eq_true rfl) dX10_readAny_184 hSH7575 (AE_sub (fun _ _ => rfl) (by decide) hSH7575.1) (fun vH7618 H7618 locsH7618 pH7618 zH7618 kH7618 hSH7618 => ?_)
        obtain ⟨x7619, x7620, x7621, hvH7618, ex7619, ex7620, ex7621, hrH7618, m7622, m7623, m7624, g7625, g7626, g7627, g7628, mf7629, m7630, m7631, m7632, m7633, m7634, m7635, m7636, m7637, m7638, hTH7618⟩ := pH7618
        subst hvH7618
        clear zH7618
        replace m7622 := EQN.mk m7622
        replace m7623 := EQN.mk m7623
        replace m7624 := EQN.mk m7624
        have b7639 : PQ (fun j => fI H7618 pq j) (x7576.toNatClampNeg) (x7578.toInt) (x7550.toInt) (cB (fun j => fI H7560 pq j) x7576.toNatClampNeg) (0) := PQ.congr (fun j => fI_kept (x_lt hTH7575 kH7618 gpq (by decide))) pqc
        have b7640 : PX (fun j => fI H7618 pq j) (x7576.toNatClampNeg) (x7578.toInt) (ms) := PX.congr (fun j => fI_kept (x_lt hTH7575 kH7618 gpq (by decide))) pxc7616
        have b7641 : CXP (fun j => fI H7618 pq j) (t81) (x7576.toNatClampNeg) := CXP.congr (fun j => fI_kept (x_lt hTH7575 kH7618 gpq (by decide))) cxc7617
        have f7642 : ∀ j : Nat, bt j = (fI H7618 tq j).toInt := fun j => (f7599 j).trans (congrArg Int32.toInt (fI_kept (x_lt hTH7575 kH7618 gtq (by decide))).symm)
        have m7643 := (m7600).trans (MF.i mf7629 (k := 19) (by decide) (by decide)).symm
        have m7644 := (m7601).trans (MF.i mf7629 (k := 20) (by decide) (by decide)).symm
        have m7645 := (m7602).trans (MF.i mf7629 (k := 21) (by decide) (by decide)).symm
        have m7646 := (m7603).trans (MF.i mf7629 (k := 22) (by decide) (by decide)).symm
        have m7647 := (m7579).trans (MF.r mf7629 (k := 32) (by decide) (by decide)).symm
        have m7648 := (m7580).trans (MF.r mf7629 (k := 33) (by decide) (by decide)).symm
        have m7649 := (m7581).trans (MF.r mf7629 (k := 37) (by decide) (by decide)).symm
        have m7650 := (m7607).trans (MF.r mf7629 (k := 17) (by decide) (by decide)).symm
        have m7651 := (m7608).trans (MF.i mf7629 (k := 18) (by decide) (by decide)).symm
        have m7652 := (m7609).trans (MF.i mf7629 (k := 34) (by decide) (by decide)).symm
        have mf7653 : MF K s.heap H7618 a0 [19, 20, 21, 22, 35, 36, 38, 39, 40] := MF.trans mf7610 mf7629 (by decide)
        have bx7619 := ty_fi (x := x7619) (k := 38) ex7619 hTH7618 ga0 rg_112 rfl
        have bx7620 := ty_fi (x := x7620) (k := 35) ex7620 hTH7618 ga0 rg_112 rfl
        have bx7621 := ty_fi (x := x7621) (k := 36) ex7621 hTH7618 ga0 rg_112 rfl
        obtain ⟨raH7618, rbH7618, rcH7618⟩ := hrH7618
        replace rcH7618 := rcH7618.resolve_left (fun h => absurd (n_11.symm.trans h.1) (by decide))
        replace m7633 := HD.mk m7633
        replace m7635 := HD.mk m7635
        have b7654 : ∀ j : Nat, j < 3000 + mn.toNatClampNeg → fI H7618 oq j = fI s.heap oq j ∧ fI H7618 aq j = fI s.heap aq j := fun j hj => ⟨(m7630 j (by omega)).1.trans (b7611 j hj).1, (m7630 j (by omega)).2.trans (b7611 j hj).2⟩
        have b7655 : WF (fun k => fI H7618 oq k) (fun k => fI H7618 aq k) (3000 + mn.toNatClampNeg) (3000 + x7577.toNatClampNeg) 0 (cB (fun j => fI H7560 pq j) x7576.toNatClampNeg + 1) := WF.keep m7591 (fun j hj => (m7630 j (by omega)).1) (fun j hj => (m7630 j (by omega)).2)
        have b7656 : RZ (1 - jb.toInt) (fun k => fI H7618 oq k) (fun k => fI H7618 aq k) (3000 + mn.toNatClampNeg) (3000 + x7577.toNatClampNeg) (f81 :: opL t81) := RZ.keep rs81 (fun j hj => (m7630 j (by omega)).1) (fun j hj => (m7630 j (by omega)).2)
        refine W.eq (g2 := F0 m 187 ls7561 []) rfl ?_
        have cc_x7619 := i_cl (x := x7619) bx7619.1
        have cc_x7620 := i_cl (x := x7620) bx7620.1
        have eqp : ∀ j : Nat, fI H7618 pq j = fI H7575 pq j := fun j => fI_kept (x_lt hTH7575 kH7618 gpq (by decide))
        have pq0 : PQ (fun j => fI H7575 pq j) (x7619.toNatClampNeg) (x7621.toInt) (x7550.toInt) (cB (fun j => fI H7575 pq j) x7619.toNatClampNeg) 0 := PQ.settle (w := 11) pqc (by omega) m7631 m7632 (by decide) ((m7633.out).imp (fun h => by omega) (fun h => by show (fI _ pq _).toInt ≠ 11; rw [n_11] at h; exact h)) ((m7635.out).imp (fun h => by omega) (fun h => by show (fI _ pq _).toInt = 11; rw [n_11] at h; exact h)) (Or.inr (by omega))
        have pqn : PQ (fun j => fI H7618 pq j) (x7619.toNatClampNeg) (x7621.toInt) (x7550.toInt) (cB (fun j => fI H7575 pq j) x7619.toNatClampNeg) (0) := PQ.congr eqp pq0
        have t11 : HD (x7619.toNatClampNeg = 0 ∨ (fI H7618 pq (x7619.toNatClampNeg - 1)).toInt = 12) := PQ.top11 (PQ.congr eqp pq10) (by show _ ∨ (fI _ pq _).toInt = 11 ∨ (fI _ pq _).toInt = 12; rw [eqp]; exact t10) (by omega) ((m7635.out).imp (fun h => by omega) (fun h => by show (fI _ pq _).toInt = 11; rw [eqp]; rw [n_11] at h; exact h)) ((m7633.out).imp (fun h => by omega) (fun h => by show (fI _ pq _).toInt ≠ 11; rw [eqp]; rw [n_11] at h; exact h))
        have px7657 : PX (fun j => fI H7575 pq j) (x7619.toNatClampNeg) (x7621.toInt) (ms) := PX.settleX pxc7616 hnh m7637 m7636 (by omega)
        have px7658 : PX (fun j => fI H7618 pq j) (x7619.toNatClampNeg) (x7621.toInt) (ms) := PX.congr eqp px7657
        obtain ⟨t82, f82, hs82, rs82, cx82⟩ := m7638
        rw [n_11] at hs82
        have hq82 := stL_11 (kk := (kK bt tp.toNatClampNeg)) (vv := (vV bt tp.toNatClampNeg)) (lw := (1 - jb.toInt)) (j := cj) hs82 hq81.2 hk81.1 ha175
        have hk82 := stL_ok (by decide) hs82 hk81.1 hk81.2
        have ce82 : duF (kK bt tp.toNatClampNeg) (vV bt tp.toNatClampNeg) (1 - jb.toInt) [] ci = coF (kK bt tp.toNatClampNeg) (vV bt tp.toNatClampNeg) (1 - jb.toInt) t82 false f82 cj := (ce81).trans hq82.1
        have cy82 : CXP (fun j => fI H7618 pq j) (t82) (x7619.toNatClampNeg) := CXP.congr eqp cx82
        refine lv_iload_n hx hb dX10_readAny_187 rfl (lv_at hl7562 1 rfl) ?_
        refine lv_if_ne (tgt := 193) hx hb dX10_readAny_188 (by decide) (fun c7659 => ?_) (fun c7659 => ?_)
        · have k7660 := i_ne c7659
          refine lv_aload_n hx hb dX10_readAny_193 rfl (lv_at hl7562 0 rfl) ?_
          refine lv_bipush (v := 41) hx hb dX10_readAny_194 (by decide) ?_
          refine x_V (As := [.int 41]) (rest := []) C (a_X10_isSign_e l K G H7618 (41) (x7566) (x7567) hTH7618 ga0 m7645 m7646) yo_X10_isSign wM_X10_249 ⟨⟨by decide, by decide⟩, by decide, by decide⟩ (x_rv C hTH7618 (ci := 10) rfl ga0 rg_112) rfl hl7562.1 rfl (Nat.le_of_ble_eq_true rfl) dX10_readAny_196 hSH7618 (AE_sub (fun _ _ => rfl) (by decide) hSH7618.1) (fun vH7661 H7661 locsH7661 pH7661 zH7661 kH7661 hSH7661 => ?_)
          obtain ⟨x7662, hvH7661, bx7662, hrH7661, hTH7661⟩ := pH7661
          subst hvH7661
          clear zH7661
          clear f7599 m7579 m7580 m7581 m7600 m7601 m7602 m7603 m7607 m7608 m7609
          have mf7663 : MF K s.heap H7661 a0 [19, 20, 21, 22, 35, 36, 38, 39, 40] := MF.eff (x_lt hTH7618 kH7661 ga0 (by decide)) mf7653
          have b7664 : PQ (fun j => fI H7661 pq j) (x7619.toNatClampNeg) (x7621.toInt) (x7550.toInt) (cB (fun j => fI H7575 pq j) x7619.toNatClampNeg) (0) := PQ.congr (fun j => fI_kept (x_lt hTH7618 kH7661 gpq (by decide))) pqn
          have b7665 : PX (fun j => fI H7661 pq j) (x7619.toNatClampNeg) (x7621.toInt) (ms) := PX.congr (fun j => fI_kept (x_lt hTH7618 kH7661 gpq (by decide))) px7658
          have b7666 : CXP (fun j => fI H7661 pq j) (t82) (x7619.toNatClampNeg) := CXP.congr (fun j => fI_kept (x_lt hTH7618 kH7661 gpq (by decide))) cy82
          have b7667 : ∀ j : Nat, j < 3000 + mn.toNatClampNeg → fI H7661 oq j = fI s.heap oq j ∧ fI H7661 aq j = fI s.heap aq j := fun j hj => ⟨(fI_kept (x_lt hTH7618 kH7661 goq (by decide))).trans (b7654 j hj).1, (fI_kept (x_lt hTH7618 kH7661 gaq (by decide))).trans (b7654 j hj).2⟩
          have b7668 : WF (fun k => fI H7661 oq k) (fun k => fI H7661 aq k) (3000 + mn.toNatClampNeg) (3000 + x7620.toNatClampNeg) 0 (cB (fun j => fI H7575 pq j) x7619.toNatClampNeg + 1) := WF.congr (fun j => fI_kept (x_lt hTH7618 kH7661 goq (by decide))) (fun j => fI_kept (x_lt hTH7618 kH7661 gaq (by decide))) m7634
          have b7669 : RZ (1 - jb.toInt) (fun k => fI H7661 oq k) (fun k => fI H7661 aq k) (3000 + mn.toNatClampNeg) (3000 + x7620.toNatClampNeg) (f82 :: opL t82) := RZ.congr (fun j => fI_kept (x_lt hTH7618 kH7661 goq (by decide))) (fun j => fI_kept (x_lt hTH7618 kH7661 gaq (by decide))) rs82
          have g7670 : CG (avw K H7661 a0) := CG.congr (fun k hk j => av_eff hTH7618 kH7661 ga0 (by decide) (CG_eff [] (by decide) k hk)) g7625
          have g7671 : TU (avw K H7661 a0) (svw K H7661 a0) := TU.congr (fun k hk j => av_eff hTH7618 kH7661 ga0 (by decide) (TU_eff [] (by decide) k hk)) (fun k hk => sv_eff hTH7618 kH7661 ga0 (by decide)) g7626
          have g7672 : WD (avw K H7661 a0) := WD.congr (fun k hk j => av_eff hTH7618 kH7661 ga0 (by decide) (WD_eff [] (by decide) k hk)) g7627
          have g7673 : IM (avw K H7661 a0) := IM.congr (fun k hk j => av_eff hTH7618 kH7661 ga0 (by decide) (IM_eff [] (by decide) k hk)) g7628
          have f7674 : ∀ j : Nat, bt j = (fI H7661 tq j).toInt := fun j => (f7642 j).trans (congrArg Int32.toInt (fI_kept (x_lt hTH7618 kH7661 gtq (by decide))).symm)
          have m7675 := (m7643).trans (fI_kept (x_lt hTH7618 kH7661 ga0 (by decide))).symm
          have m7676 := (m7644).trans (fI_kept (x_lt hTH7618 kH7661 ga0 (by decide))).symm
          have m7677 := (m7645).trans (fI_kept (x_lt hTH7618 kH7661 ga0 (by decide))).symm
          have m7678 := (m7646).trans (fI_kept (x_lt hTH7618 kH7661 ga0 (by decide))).symm
          have m7679 := (m7622).trans (fR_kept (x_lt hTH7618 kH7661 ga0 (by decide))).symm
          have m7680 := (m7623).trans (fR_kept (x_lt hTH7618 kH7661 ga0 (by decide))).symm
          have m7681 := (m7624).trans (fR_kept (x_lt hTH7618 kH7661 ga0 (by decide))).symm
          have m7682 := (m7650).trans (fR_kept (x_lt hTH7618 kH7661 ga0 (by decide))).symm
          have m7683 := (m7651).trans (fI_kept (x_lt hTH7618 kH7661 ga0 (by decide))).symm
          have m7684 := (m7652).trans (fI_kept (x_lt hTH7618 kH7661 ga0 (by decide))).symm
          have m7685 := (ex7619).trans (fI_kept (x_lt hTH7618 kH7661 ga0 (by decide))).symm
          have m7686 := (ex7620).trans (fI_kept (x_lt hTH7618 kH7661 ga0 (by decide))).symm
          have m7687 := (ex7621).trans (fI_kept (x_lt hTH7618 kH7661 ga0 (by decide))).symm
          refine W.eq (g2 := F0 m 199 ls7561 [.int x7662]) rfl ?_
          refine lv_if_ne (tgt := 208) hx hb dX10_readAny_199 (by decide) (fun c7688 => ?_) (fun c7688 => ?_)
          · have k7689 := i_ne c7688
            replace hrH7661 := hrH7661.resolve_left (fun h => absurd h.1 (by omega))
            replace i3 := i3.resolve_left (by omega)
            clear i4
            have kw_ : kK bt tp.toNatClampNeg cj = 41 := (TV.sg (c := 41) hcu175.2.2.1 (by decide)).mp ⟨by omega, by omega⟩
            have hk0 : x7619.toNatClampNeg ≠ 0 := fun e => by have h := b7664.2.2.1; rw [e] at h; change ((0 : Nat) : Int) = _ at h; omega
            have e11 : ∀ j : Nat, fI H7661 pq j = fI H7618 pq j := fun j => fI_kept (x_lt hTH7618 kH7661 gpq (by decide))
            have t12 : (fI H7661 pq (x7619.toNatClampNeg - 1)).toInt = 12 := by rw [e11]; exact t11.out.resolve_left hk0
            have hs12 := (c_step (f := fun j => fI H7661 pq j) (n := x7619.toNatClampNeg - 1) (m := x7619.toNatClampNeg) (by omega)).2.2 t12
            have hc12 := b7664.2.1
            obtain ⟨d9, g9, t9, ht9, hd9, hx9⟩ := CXP.top (m := x7619.toNatClampNeg - 1) b7666 (by omega)
            have hd12 : d9 = 12 := by rw [← hd9]; exact t12
            subst hd12
            have ce9 : duF (kK bt tp.toNatClampNeg) (vV bt tp.toNatClampNeg) (1 - jb.toInt) [] ci = coF (kK bt tp.toNatClampNeg) (vV bt tp.toNatClampNeg) (1 - jb.toInt) t9 false f82 (cj + 1) := (ce82).trans (by rw [ht9]; exact coF_close kw_ rfl)
            have rs9 : RZ (1 - jb.toInt) (fun k => fI H7661 oq k) (fun k => fI H7661 aq k) (3000 + mn.toNatClampNeg) (3000 + x7620.toNatClampNeg) (f82 :: opL t9) := RZ.cast b7669 rfl rfl (by rw [ht9]; exact congrArg _ (opL_o (Or.inr rfl)).symm)
            have cxo9 : CXO t9 := CXO.tl hk82.1 ht9
            refine lv_aload_n hx hb dX10_readAny_208 rfl (lv_at hl7562 0 rfl) ?_
            refine lv_aload_n hx hb dX10_readAny_209 rfl (lv_at hl7562 0 rfl) ?_
            refine x_gi C hTH7661 (ci := 10) (k := 38) rfl inX10 (by decide) wF_X10_258 ga0 rg_112 rfl dX10_readAny_210 (fun x7690 ex7690 bx7690 => ?_)
            have ux7690 : x7619 = x7690 := (m7685).trans ex7690.symm
            subst ux7690
            refine lv_iconst (v := 1) hx hb dX10_readAny_213 (by decide) ?_
            refine lv_isub hx hb dX10_readAny_214 ?_
            refine lv_topi (fun x7691 ex7691 => ?_)
            have tx7691 := i_sub ex7691 (by omega)
            have fz7693 : 0 ≤ x7691.toInt ∧ x7691.toInt ≤ 40 := by have := i_rng x7691; omega
            refine x_put C hTH7661 hSH7661 (ci := 10) (k := 38) (v := .int x7691) (ty0 := tyX10) rfl inX10 tyX10_ok nmX10 (by decide) rfl wF_X10_258 ga0 rg_112 rfl rfl (okI fz7693.1 fz7693.2) rfl rfl (AE_in ga0 (by decide)) dX10_readAny_215 (fun H7692 locsH7692 hTH7692 hSH7692 wH7692 => ?_)
            clear f7642 m7622 m7623 m7624 m7643 m7644 m7645 m7646 m7650 m7651 m7652
            have ep7694 : ∀ j : Nat, fI H7692 pq j = fI H7661 pq j := fun j => (Wr.neI wH7692 (Or.inl (G_ne gpq ga0 (by decide))))
            have mf7695 : MF K s.heap H7692 a0 [19, 20, 21, 22, 35, 36, 38, 39, 40] := MF.fld hap wH7692 (by decide) (by decide) mf7663
            have g7696 : CG (avw K H7692 a0) := CG.congr (fun k hk j => av_fld hTH7661 ga0 hap wH7692 (by decide) (CG_ok 112 (by decide) k hk) (CG_ne 38 (by decide) k hk)) g7670
            have g7697 : TU (avw K H7692 a0) (svw K H7692 a0) := TU.congr (fun k hk j => av_fld hTH7661 ga0 hap wH7692 (by decide) (TU_ok 112 (by decide) k hk) (TU_ne 38 (by decide) k hk)) (fun k hk => sv_fld hap wH7692 (by decide) (TU_slt k hk) (TU_sne 38 (by decide) k hk)) g7671
            have g7698 : WD (avw K H7692 a0) := WD.congr (fun k hk j => av_fld hTH7661 ga0 hap wH7692 (by decide) (WD_ok 112 (by decide) k hk) (WD_ne 38 (by decide) k hk)) g7672
            have g7699 : IM (avw K H7692 a0) := IM.congr (fun k hk j => av_fld hTH7661 ga0 hap wH7692 (by decide) (IM_ok 112 (by decide) k hk) (IM_ne 38 (by decide) k hk)) g7673
            have b7700 : PQ (fun j => fI H7692 pq j) (x7619.toNatClampNeg) (x7621.toInt) (x7550.toInt) (cB (fun j => fI H7575 pq j) x7619.toNatClampNeg) (0) := PQ.congr (fun j => Wr.neI wH7692 (Or.inl (G_ne gpq ga0 (by decide)))) b7664
            have b7701 : PX (fun j => fI H7692 pq j) (x7619.toNatClampNeg) (x7621.toInt) (ms) := PX.congr (fun j => Wr.neI wH7692 (Or.inl (G_ne gpq ga0 (by decide)))) b7665
            have b7702 : CXP (fun j => fI H7692 pq j) (t9) (x7619.toNatClampNeg - 1) := CXP.congr (fun j => Wr.neI wH7692 (Or.inl (G_ne gpq ga0 (by decide)))) hx9
            have b7703 : ∀ j : Nat, j < 3000 + mn.toNatClampNeg → fI H7692 oq j = fI s.heap oq j ∧ fI H7692 aq j = fI s.heap aq j := fun j hj => ⟨(Wr.neI wH7692 (Or.inl (G_ne goq ga0 (by decide)))).trans (b7667 j hj).1, (Wr.neI wH7692 (Or.inl (G_ne gaq ga0 (by decide)))).trans (b7667 j hj).2⟩
            have b7704 : WF (fun k => fI H7692 oq k) (fun k => fI H7692 aq k) (3000 + mn.toNatClampNeg) (3000 + x7620.toNatClampNeg) 0 (cB (fun j => fI H7575 pq j) x7619.toNatClampNeg + 1) := WF.congr (fun j => Wr.neI wH7692 (Or.inl (G_ne goq ga0 (by decide)))) (fun j => Wr.neI wH7692 (Or.inl (G_ne gaq ga0 (by decide)))) b7668
            have b7705 : RZ (1 - jb.toInt) (fun k => fI H7692 oq k) (fun k => fI H7692 aq k) (3000 + mn.toNatClampNeg) (3000 + x7620.toNatClampNeg) (f82 :: opL t9) := RZ.congr (fun j => Wr.neI wH7692 (Or.inl (G_ne goq ga0 (by decide)))) (fun j => Wr.neI wH7692 (Or.inl (G_ne gaq ga0 (by decide)))) rs9
            have f7706 : ∀ j : Nat, bt j = (fI H7692 tq j).toInt := fun j => (f7674 j).trans (congrArg Int32.toInt (Wr.neI wH7692 (Or.inl (G_ne gtq ga0 (by decide)))).symm)
            have m7707 := m7675.trans (Wr.neI wH7692 (Or.inr (x_apart hKT hts inX10 tyX10 tyX10_ok nmX10 rfl 19 38 (by decide) (by decide) (by decide)))).symm
            have m7708 := m7676.trans (Wr.neI wH7692 (Or.inr (x_apart hKT hts inX10 tyX10 tyX10_ok nmX10 rfl 20 38 (by decide) (by decide) (by decide)))).symm
            have m7709 := m7677.trans (Wr.neI wH7692 (Or.inr (x_apart hKT hts inX10 tyX10 tyX10_ok nmX10 rfl 21 38 (by decide) (by decide) (by decide)))).symm
            have m7710 := m7678.trans (Wr.neI wH7692 (Or.inr (x_apart hKT hts inX10 tyX10 tyX10_ok nmX10 rfl 22 38 (by decide) (by decide) (by decide)))).symm
            have m7711 := m7679.trans (Wr.neR wH7692 (Or.inr (x_apart hKT hts inX10 tyX10 tyX10_ok nmX10 rfl 32 38 (by decide) (by decide) (by decide)))).symm
            have m7712 := m7680.trans (Wr.neR wH7692 (Or.inr (x_apart hKT hts inX10 tyX10 tyX10_ok nmX10 rfl 33 38 (by decide) (by decide) (by decide)))).symm
            have m7713 := m7681.trans (Wr.neR wH7692 (Or.inr (x_apart hKT hts inX10 tyX10 tyX10_ok nmX10 rfl 37 38 (by decide) (by decide) (by decide)))).symm
            have m7714 := m7682.trans (Wr.neR wH7692 (Or.inr (x_apart hKT hts inX10 tyX10 tyX10_ok nmX10 rfl 17 38 (by decide) (by decide) (by decide)))).symm
            have m7715 := m7683.trans (Wr.neI wH7692 (Or.inr (x_apart hKT hts inX10 tyX10 tyX10_ok nmX10 rfl 18 38 (by decide) (by decide) (by decide)))).symm
            have m7716 := m7684.trans (Wr.neI wH7692 (Or.inr (x_apart hKT hts inX10 tyX10 tyX10_ok nmX10 rfl 34 38 (by decide) (by decide) (by decide)))).symm
            have m7718 := m7686.trans (Wr.neI wH7692 (Or.inr (x_apart hKT hts inX10 tyX10 tyX10_ok nmX10 rfl 35 38 (by decide) (by decide) (by decide)))).symm
            have m7719 := m7687.trans (Wr.neI wH7692 (Or.inr (x_apart hKT hts inX10 tyX10 tyX10_ok nmX10 rfl 36 38 (by decide) (by decide) (by decide)))).symm
            have m7720 := Wr.I wH7692
            have m7720 := m7720.symm
            refine lv_iload_n hx hb dX10_readAny_218 rfl (lv_at hl7562 1 rfl) ?_
            refine lv_iconst (v := 1) hx hb dX10_readAny_219 (by decide) ?_
            refine lv_isub hx hb dX10_readAny_220 ?_
            refine lv_topi (fun x7721 ex7721 => ?_)
            have tx7721 := i_sub ex7721 (by omega)
            refine lv_istore_n (lv' := [(1, .int x7721), (0, .ref a0), (2, .int x7551)]) hx hb dX10_readAny_221 rfl hl7562 (by decide) rfl (fun ls7722 hl7723 => ?_)
            refine lv_aload_n hx hb dX10_readAny_222 rfl (lv_at hl7723 1 rfl) ?_
            refine lv_aload_n hx hb dX10_readAny_223 rfl (lv_at hl7723 1 rfl) ?_
            refine x_gi C hTH7692 (ci := 10) (k := 36) rfl inX10 (by decide) wF_X10_261 ga0 rg_112 rfl dX10_readAny_224 (fun x7724 ex7724 bx7724 => ?_)
            have ux7724 : x7621 = x7724 := (m7719).trans ex7724.symm
            subst ux7724
            refine lv_iconst (v := 1) hx hb dX10_readAny_227 (by decide) ?_
            refine lv_isub hx hb dX10_readAny_228 ?_
            refine lv_topi (fun x7725 ex7725 => ?_)
            have tx7725 := i_sub ex7725 (by omega)
            have fz7727 : 0 ≤ x7725.toInt ∧ x7725.toInt ≤ 8 := by have := i_rng x7725; omega
            refine x_put C hTH7692 hSH7692 (ci := 10) (k := 36) (v := .int x7725) (ty0 := tyX10) rfl inX10 tyX10_ok nmX10 (by decide) rfl wF_X10_261 ga0 rg_112 rfl rfl (okI fz7727.1 fz7727.2) rfl rfl (AE_in ga0 (by decide)) dX10_readAny_229 (fun H7726 locsH7726 hTH7726 hSH7726 wH7726 => ?_)
            clear f7674 m7675 m7676 m7677 m7678 m7679 m7680 m7681 m7682 m7683 m7684 m7685 m7686 m7687
            have ep7728 : ∀ j : Nat, fI H7726 pq j = fI H7661 pq j := fun j => (Wr.neI wH7726 (Or.inl (G_ne gpq ga0 (by decide)))).trans (ep7694 j)
            have mf7729 : MF K s.heap H7726 a0 [19, 20, 21, 22, 35, 36, 38, 39, 40] := MF.fld hap wH7726 (by decide) (by decide) mf7695
            have g7730 : CG (avw K H7726 a0) := CG.congr (fun k hk j => av_fld hTH7692 ga0 hap wH7726 (by decide) (CG_ok 112 (by decide) k hk) (CG_ne 36 (by decide) k hk)) g7696
            have g7731 : TU (avw K H7726 a0) (svw K H7726 a0) := TU.congr (fun k hk j => av_fld hTH7692 ga0 hap wH7726 (by decide) (TU_ok 112 (by decide) k hk) (TU_ne 36 (by decide) k hk)) (fun k hk => sv_fld hap wH7726 (by decide) (TU_slt k hk) (TU_sne 36 (by decide) k hk)) g7697
            have g7732 : WD (avw K H7726 a0) := WD.congr (fun k hk j => av_fld hTH7692 ga0 hap wH7726 (by decide) (WD_ok 112 (by decide) k hk) (WD_ne 36 (by decide) k hk)) g7698
            have g7733 : IM (avw K H7726 a0) := IM.congr (fun k hk j => av_fld hTH7692 ga0 hap wH7726 (by decide) (IM_ok 112 (by decide) k hk) (IM_ne 36 (by decide) k hk)) g7699
            have b7734 : PQ (fun j => fI H7726 pq j) (x7619.toNatClampNeg) (x7621.toInt) (x7550.toInt) (cB (fun j => fI H7575 pq j) x7619.toNatClampNeg) (0) := PQ.congr (fun j => Wr.neI wH7726 (Or.inl (G_ne gpq ga0 (by decide)))) b7700
            have b7735 : PX (fun j => fI H7726 pq j) (x7619.toNatClampNeg) (x7621.toInt) (ms) := PX.congr (fun j => Wr.neI wH7726 (Or.inl (G_ne gpq ga0 (by decide)))) b7701
            have b7736 : CXP (fun j => fI H7726 pq j) (t9) (x7619.toNatClampNeg - 1) := CXP.congr (fun j => Wr.neI wH7726 (Or.inl (G_ne gpq ga0 (by decide)))) b7702
            have b7737 : ∀ j : Nat, j < 3000 + mn.toNatClampNeg → fI H7726 oq j = fI s.heap oq j ∧ fI H7726 aq j = fI s.heap aq j := fun j hj => ⟨(Wr.neI wH7726 (Or.inl (G_ne goq ga0 (by decide)))).trans (b7703 j hj).1, (Wr.neI wH7726 (Or.inl (G_ne gaq ga0 (by decide)))).trans (b7703 j hj).2⟩
            have b7738 : WF (fun k => fI H7726 oq k) (fun k => fI H7726 aq k) (3000 + mn.toNatClampNeg) (3000 + x7620.toNatClampNeg) 0 (cB (fun j => fI H7575 pq j) x7619.toNatClampNeg + 1) := WF.congr (fun j => Wr.neI wH7726 (Or.inl (G_ne goq ga0 (by decide)))) (fun j => Wr.neI wH7726 (Or.inl (G_ne gaq ga0 (by decide)))) b7704
            have b7739 : RZ (1 - jb.toInt) (fun k => fI H7726 oq k) (fun k => fI H7726 aq k) (3000 + mn.toNatClampNeg) (3000 + x7620.toNatClampNeg) (f82 :: opL t9) := RZ.congr (fun j => Wr.neI wH7726 (Or.inl (G_ne goq ga0 (by decide)))) (fun j => Wr.neI wH7726 (Or.inl (G_ne gaq ga0 (by decide)))) b7705
            have f7740 : ∀ j : Nat, bt j = (fI H7726 tq j).toInt := fun j => (f7706 j).trans (congrArg Int32.toInt (Wr.neI wH7726 (Or.inl (G_ne gtq ga0 (by decide)))).symm)
            have m7741 := m7707.trans (Wr.neI wH7726 (Or.inr (x_apart hKT hts inX10 tyX10 tyX10_ok nmX10 rfl 19 36 (by decide) (by decide) (by decide)))).symm
            have m7742 := m7708.trans (Wr.neI wH7726 (Or.inr (x_apart hKT hts inX10 tyX10 tyX10_ok nmX10 rfl 20 36 (by decide) (by decide) (by decide)))).symm
            have m7743 := m7709.trans (Wr.neI wH7726 (Or.inr (x_apart hKT hts inX10 tyX10 tyX10_ok nmX10 rfl 21 36 (by decide) (by decide) (by decide)))).symm
            have m7744 := m7710.trans (Wr.neI wH7726 (Or.inr (x_apart hKT hts inX10 tyX10 tyX10_ok nmX10 rfl 22 36 (by decide) (by decide) (by decide)))).symm
            have m7745 := m7711.trans (Wr.neR wH7726 (Or.inr (x_apart hKT hts inX10 tyX10 tyX10_ok nmX10 rfl 32 36 (by decide) (by decide) (by decide)))).symm
            have m7746 := m7712.trans (Wr.neR wH7726 (Or.inr (x_apart hKT hts inX10 tyX10 tyX10_ok nmX10 rfl 33 36 (by decide) (by decide) (by decide)))).symm
            have m7747 := m7713.trans (Wr.neR wH7726 (Or.inr (x_apart hKT hts inX10 tyX10 tyX10_ok nmX10 rfl 37 36 (by decide) (by decide) (by decide)))).symm
            have m7748 := m7714.trans (Wr.neR wH7726 (Or.inr (x_apart hKT hts inX10 tyX10 tyX10_ok nmX10 rfl 17 36 (by decide) (by decide) (by decide)))).symm
            have m7749 := m7715.trans (Wr.neI wH7726 (Or.inr (x_apart hKT hts inX10 tyX10 tyX10_ok nmX10 rfl 18 36 (by decide) (by decide) (by decide)))).symm
            have m7750 := m7716.trans (Wr.neI wH7726 (Or.inr (x_apart hKT hts inX10 tyX10 tyX10_ok nmX10 rfl 34 36 (by decide) (by decide) (by decide)))).symm
            have m7751 := m7718.trans (Wr.neI wH7726 (Or.inr (x_apart hKT hts inX10 tyX10 tyX10_ok nmX10 rfl 35 36 (by decide) (by decide) (by decide)))).symm
            have m7753 := m7720.trans (Wr.neI wH7726 (Or.inr (x_apart hKT hts inX10 tyX10 tyX10_ok nmX10 rfl 38 36 (by decide) (by decide) (by decide)))).symm
            have m7754 := Wr.I wH7726
            have m7754 := m7754.symm
            have cc_x7691 := i_cl (x := x7691) (by omega)
            have pqp : PQ (fun j => fI H7726 pq j) (x7691.toNatClampNeg) (x7725.toInt) (x7721.toInt) (cB (fun j => fI H7575 pq j) x7619.toNatClampNeg) (1) := PQ.pop12 b7734 (by show (fI _ pq _).toInt = 12; rw [show x7691.toNatClampNeg = x7619.toNatClampNeg - 1 by omega, ep7728]; exact t12) (by omega) (by omega) (by omega)
            obtain ⟨htu, pxp⟩ : ms = true :: (mkL (fun j => fI H7726 pq j) (x7691.toNatClampNeg)) ∧ PX (fun j => fI H7726 pq j) (x7691.toNatClampNeg) (x7725.toInt) ((mkL (fun j => fI H7726 pq j) (x7691.toNatClampNeg))) := PX.pop b7735 (by show (fI _ pq _).toInt = 12; rw [show x7691.toNatClampNeg = x7619.toNatClampNeg - 1 by omega, ep7728]; exact t12) (by omega) (by omega)
            refine lv_aload_n hx hb dX10_readAny_232 rfl (lv_at hl7723 1 rfl) ?_
            refine lv_bipush (v := 9) hx hb dX10_readAny_233 (by decide) ?_
            have pqc : PQ (fun j => fI H7726 pq j) (x7691.toNatClampNeg) (x7725.toInt) (x7721.toInt) (cB (fun j => fI H7575 pq j) x7619.toNatClampNeg) (1) := PQ.cast pqp (by omega) (by omega) rfl rfl rfl
            have hcb := pqc.2.2.2.1
            have hco := pqc.2.1
            have hck := pqc.2.2.1
            have pxc7755 : PX (fun j => fI H7726 pq j) (x7691.toNatClampNeg) (x7725.toInt) ((mkL (fun j => fI H7726 pq j) (x7691.toNatClampNeg))) := PX.cast pxp (by omega) (by omega)
            have cn_x7619 := i_cl (x := x7619) bx7619.1
            have cxc7756 : CXP (fun j => fI H7726 pq j) (t9) (x7691.toNatClampNeg) := CXP.cast b7736 (by omega)
            refine x_V (As := [.int 9]) (rest := []) C (a_X10_settles_g l K G H7726 (9) (mn) (x7691) (x7620) (x7725) (jb) (t9) (f82) hTH7726 ga0 (by decide) goq m7745 gaq m7746 gpq m7747 m7753 m7751 m7754 m7750 g7730 g7731 g7732 g7733 (WF.castE b7738 (by omega) (by omega) (by omega)) (RZ.cast b7739 (by omega) (by omega) rfl) (by and_intros <;> first | assumption | omega) (by and_intros <;> first | assumption | omega) (pqc.1) (pqc.2.1) (cxc7756) (cxo9) (hk82.2)) yo_X10_settles wM_X10_273 ⟨⟨by decide, by decide⟩, by decide, by decide⟩ (x_rv C hTH7726 (ci := 10) rfl ga0 rg_112) rfl hl7723.1 rfl (Nat.le_of_ble_eq_true rfl) dX10_readAny_235 hSH7726 (AE_sub (fun _ _ => rfl) (by decide) hSH7726.1) (fun vH7757 H7757 locsH7757 pH7757 zH7757 kH7757 hSH7757 => ?_)
            obtain ⟨x7758, x7759, x7760, hvH7757, ex7758, ex7759, ex7760, hrH7757, m7761, m7762, m7763, g7764, g7765, g7766, g7767, mf7768, m7769, m7770, m7771, m7772, m7773, m7774, m7775, m7776, m7777, hTH7757⟩ := pH7757
            subst hvH7757
            clear zH7757
            replace m7761 := EQN.mk m7761
            replace m7762 := EQN.mk m7762
            replace m7763 := EQN.mk m7763
            clear f7706 m7707 m7708 m7709 m7710 m7711 m7712 m7713 m7714 m7715 m7716 m7718 m7719 m7720
            have b7778 : PQ (fun j => fI H7757 pq j) (x7691.toNatClampNeg) (x7725.toInt) (x7721.toInt) (cB (fun j => fI H7575 pq j) x7619.toNatClampNeg) (1) := PQ.congr (fun j => fI_kept (x_lt hTH7726 kH7757 gpq (by decide))) pqc
            have b7779 : PX (fun j => fI H7757 pq j) (x7691.toNatClampNeg) (x7725.toInt) ((mkL (fun j => fI H7726 pq j) (x7691.toNatClampNeg))) := PX.congr (fun j => fI_kept (x_lt hTH7726 kH7757 gpq (by decide))) pxc7755
            have b7780 : CXP (fun j => fI H7757 pq j) (t9) (x7691.toNatClampNeg) := CXP.congr (fun j => fI_kept (x_lt hTH7726 kH7757 gpq (by decide))) cxc7756
            have f7781 : ∀ j : Nat, bt j = (fI H7757 tq j).toInt := fun j => (f7740 j).trans (congrArg Int32.toInt (fI_kept (x_lt hTH7726 kH7757 gtq (by decide))).symm)
            have m7782 := (m7741).trans (MF.i mf7768 (k := 19) (by decide) (by decide)).symm
            have m7783 := (m7742).trans (MF.i mf7768 (k := 20) (by decide) (by decide)).symm
            have m7784 := (m7743).trans (MF.i mf7768 (k := 21) (by decide) (by decide)).symm
            have m7785 := (m7744).trans (MF.i mf7768 (k := 22) (by decide) (by decide)).symm
            have m7786 := (m7745).trans (MF.r mf7768 (k := 32) (by decide) (by decide)).symm
            have m7787 := (m7746).trans (MF.r mf7768 (k := 33) (by decide) (by decide)).symm
            have m7788 := (m7747).trans (MF.r mf7768 (k := 37) (by decide) (by decide)).symm
            have m7789 := (m7748).trans (MF.r mf7768 (k := 17) (by decide) (by decide)).symm
            have m7790 := (m7749).trans (MF.i mf7768 (k := 18) (by decide) (by decide)).symm
            have m7791 := (m7750).trans (MF.i mf7768 (k := 34) (by decide) (by decide)).symm
            have mf7792 : MF K s.heap H7757 a0 [19, 20, 21, 22, 35, 36, 38, 39, 40] := MF.trans mf7729 mf7768 (by decide)
            have bx7758 := ty_fi (x := x7758) (k := 38) ex7758 hTH7757 ga0 rg_112 rfl
            have bx7759 := ty_fi (x := x7759) (k := 35) ex7759 hTH7757 ga0 rg_112 rfl
            have bx7760 := ty_fi (x := x7760) (k := 36) ex7760 hTH7757 ga0 rg_112 rfl
            obtain ⟨raH7757, rbH7757, rcH7757⟩ := hrH7757
            replace rcH7757 := rcH7757.resolve_right (fun h => h.1 n_9)
            replace m7772 := HD.mk m7772
            replace m7774 := HD.mk m7774
            have b7793 : ∀ j : Nat, j < 3000 + mn.toNatClampNeg → fI H7757 oq j = fI s.heap oq j ∧ fI H7757 aq j = fI s.heap aq j := fun j hj => ⟨(m7769 j (by omega)).1.trans (b7737 j hj).1, (m7769 j (by omega)).2.trans (b7737 j hj).2⟩
            have b7794 : WF (fun k => fI H7757 oq k) (fun k => fI H7757 aq k) (3000 + mn.toNatClampNeg) (3000 + x7620.toNatClampNeg) 0 (cB (fun j => fI H7575 pq j) x7619.toNatClampNeg + 1) := WF.keep b7738 (fun j hj => (m7769 j (by omega)).1) (fun j hj => (m7769 j (by omega)).2)
            have b7795 : RZ (1 - jb.toInt) (fun k => fI H7757 oq k) (fun k => fI H7757 aq k) (3000 + mn.toNatClampNeg) (3000 + x7620.toNatClampNeg) (f82 :: opL t9) := RZ.keep b7739 (fun j hj => (m7769 j (by omega)).1) (fun j hj => (m7769 j (by omega)).2)
            refine W.eq (g2 := F0 m 238 ls7722 []) rfl ?_
            have cc_x7758 := i_cl (x := x7758) bx7758.1
            have cc_x7759 := i_cl (x := x7759) bx7759.1
            have eqp : ∀ j : Nat, fI H7757 pq j = fI H7726 pq j := fun j => fI_kept (x_lt hTH7726 kH7757 gpq (by decide))
            have pq0 : PQ (fun j => fI H7726 pq j) (x7758.toNatClampNeg) (x7760.toInt) (x7721.toInt) (cB (fun j => fI H7726 pq j) x7758.toNatClampNeg) 0 := PQ.settle (w := 9) pqc (by omega) m7770 m7771 (by decide) ((m7772.out).imp (fun h => by omega) (fun h => by show (fI _ pq _).toInt ≠ 9; rw [n_9] at h; exact h)) ((m7774.out).imp (fun h => by omega) (fun h => by show (fI _ pq _).toInt = 9; rw [n_9] at h; exact h)) (Or.inl rfl)
            have pqn : PQ (fun j => fI H7757 pq j) (x7758.toNatClampNeg) (x7760.toInt) (x7721.toInt) (cB (fun j => fI H7726 pq j) x7758.toNatClampNeg) (0) := PQ.congr eqp pq0
            obtain ⟨px7796, hdn⟩ : PX (fun j => fI H7726 pq j) (x7758.toNatClampNeg) (x7760.toInt) ((mkL (fun j => fI H7726 pq j) (x7758.toNatClampNeg))) ∧ dN (mkL (fun j => fI H7726 pq j) (x7758.toNatClampNeg)) = dN (mkL (fun j => fI H7726 pq j) (x7691.toNatClampNeg)) := PX.settle pxc7755 m7776 m7775
            have px7797 : PX (fun j => fI H7757 pq j) (x7758.toNatClampNeg) (x7760.toInt) ((mkL (fun j => fI H7726 pq j) (x7758.toNatClampNeg))) := PX.congr eqp px7796
            obtain ⟨t83, f83, hs83, rs83, cx83⟩ := m7777
            rw [n_9] at hs83
            have hq83 := stL_9 (kk := (kK bt tp.toNatClampNeg)) (vv := (vV bt tp.toNatClampNeg)) (lw := (1 - jb.toInt)) (j := (cj + 1)) hs83
            have hk83 := stL_ok (by decide) hs83 cxo9 hk82.2
            have ce83 : duF (kK bt tp.toNatClampNeg) (vV bt tp.toNatClampNeg) (1 - jb.toInt) [] ci = coF (kK bt tp.toNatClampNeg) (vV bt tp.toNatClampNeg) (1 - jb.toInt) t83 false f83 (cj + 1) := (ce9).trans hq83.1
            have cy83 : CXP (fun j => fI H7757 pq j) (t83) (x7758.toNatClampNeg) := CXP.congr eqp cx83
            refine lv_aload_n hx hb dX10_readAny_238 rfl (lv_at hl7723 1 rfl) ?_
            refine x_V (As := []) (rest := []) C (a_X10_reads_e l K G H7757 (x7564) (x7565) (x7566) (x7567) (tp) bt hTH7757 ga0 gtq m7789 m7782 m7783 m7784 m7785 m7790 g7764 g7765 g7766 g7767 (by and_intros <;> first | assumption | omega) (hy1) f7781) yo_X10_reads wM_X10_242 ⟨⟨by decide, by decide⟩, by decide, by decide⟩ (x_rv C hTH7757 (ci := 10) rfl ga0 rg_112) rfl hl7723.1 rfl (Nat.le_of_ble_eq_true rfl) dX10_readAny_239 hSH7757 (AE_sub (fun _ _ => rfl) (by decide) hSH7757.1) (fun vH7798 H7798 locsH7798 pH7798 zH7798 kH7798 hSH7798 => ?_)
            obtain ⟨x7799, x7800, x7801, x7802, hvH7798, ex7799, ex7800, ex7801, ex7802, hrH7798, m7803, g7804, g7805, g7806, g7807, mf7808, m7809, m7810, m7811, hTH7798⟩ := pH7798
            subst hvH7798
            clear zH7798
            replace m7803 := EQN.mk m7803
            clear f7740 m7741 m7742 m7743 m7744 m7745 m7746 m7747 m7748 m7749 m7750 m7751 m7753 m7754
            have b7812 : PQ (fun j => fI H7798 pq j) (x7758.toNatClampNeg) (x7760.toInt) (x7721.toInt) (cB (fun j => fI H7726 pq j) x7758.toNatClampNeg) (0) := PQ.congr (fun j => fI_kept (x_lt hTH7757 kH7798 gpq (by decide))) pqn
            have b7813 : PX (fun j => fI H7798 pq j) (x7758.toNatClampNeg) (x7760.toInt) ((mkL (fun j => fI H7726 pq j) (x7758.toNatClampNeg))) := PX.congr (fun j => fI_kept (x_lt hTH7757 kH7798 gpq (by decide))) px7797
            have b7814 : CXP (fun j => fI H7798 pq j) (t83) (x7758.toNatClampNeg) := CXP.congr (fun j => fI_kept (x_lt hTH7757 kH7798 gpq (by decide))) cy83
            have b7815 : ∀ j : Nat, j < 3000 + mn.toNatClampNeg → fI H7798 oq j = fI s.heap oq j ∧ fI H7798 aq j = fI s.heap aq j := fun j hj => ⟨(fI_kept (x_lt hTH7757 kH7798 goq (by decide))).trans (b7793 j hj).1, (fI_kept (x_lt hTH7757 kH7798 gaq (by decide))).trans (b7793 j hj).2⟩
            have b7816 : WF (fun k => fI H7798 oq k) (fun k => fI H7798 aq k) (3000 + mn.toNatClampNeg) (3000 + x7759.toNatClampNeg) 0 (cB (fun j => fI H7726 pq j) x7758.toNatClampNeg + 1) := WF.congr (fun j => fI_kept (x_lt hTH7757 kH7798 goq (by decide))) (fun j => fI_kept (x_lt hTH7757 kH7798 gaq (by decide))) m7773
            have b7817 : RZ (1 - jb.toInt) (fun k => fI H7798 oq k) (fun k => fI H7798 aq k) (3000 + mn.toNatClampNeg) (3000 + x7759.toNatClampNeg) (f83 :: opL t83) := RZ.congr (fun j => fI_kept (x_lt hTH7757 kH7798 goq (by decide))) (fun j => fI_kept (x_lt hTH7757 kH7798 gaq (by decide))) rs83
            have f7818 : ∀ j : Nat, bt j = (fI H7798 tq j).toInt := fun j => (f7781 j).trans (congrArg Int32.toInt (fI_kept (x_lt hTH7757 kH7798 gtq (by decide))).symm)
            have m7819 := (m7761).trans (MF.r mf7808 (k := 32) (by decide) (by decide)).symm
            have m7820 := (m7762).trans (MF.r mf7808 (k := 33) (by decide) (by decide)).symm
            have m7821 := (m7763).trans (MF.r mf7808 (k := 37) (by decide) (by decide)).symm
            have m7822 := (m7789).trans (MF.r mf7808 (k := 17) (by decide) (by decide)).symm
            have m7823 := (m7790).trans (MF.i mf7808 (k := 18) (by decide) (by decide)).symm
            have m7824 := (m7791).trans (MF.i mf7808 (k := 34) (by decide) (by decide)).symm
            have m7825 := (ex7758).trans (MF.i mf7808 (k := 38) (by decide) (by decide)).symm
            have m7826 := (ex7759).trans (MF.i mf7808 (k := 35) (by decide) (by decide)).symm
            have m7827 := (ex7760).trans (MF.i mf7808 (k := 36) (by decide) (by decide)).symm
            have mf7828 : MF K s.heap H7798 a0 [19, 20, 21, 22, 35, 36, 38, 39, 40] := MF.trans mf7792 mf7808 (by decide)
            have bx7799 := ty_fi (x := x7799) (k := 19) ex7799 hTH7798 ga0 rg_112 rfl
            have bx7800 := ty_fi (x := x7800) (k := 20) ex7800 hTH7798 ga0 rg_112 rfl
            have bx7801 := ty_fi (x := x7801) (k := 21) ex7801 hTH7798 ga0 rg_112 rfl
            have bx7802 := ty_fi (x := x7802) (k := 22) ex7802 hTH7798 ga0 rg_112 rfl
            have cn_x7800 := i_cl (x := x7800) bx7800.1
            have cn_x7565 := i_cl (x := x7565) bx7565.1
            have cu7829 : CU bt tp.toNatClampNeg (cj + 1) x7800 x7799 x7801 x7802 := CU.next hcu175 m7809 m7810 m7811 (by omega)
            obtain ⟨r1H7798, r2H7798, r3H7798, r4H7798, r5H7798⟩ := hrH7798
            refine W.eq (g2 := F0 m 242 ls7722 []) rfl ?_
            refine lv_goto (tgt := 9) hx hb dX10_readAny_242 (by decide) ?_
            have hpb := b7812.2.2.2.1
            exact ih9 (cB (fun j => fI H7726 pq j) x7758.toNatClampNeg) (cj + 1) (mkL (fun j => fI H7726 pq j) (x7758.toNatClampNeg)) t83 f83 (f83 :: opL t83) ls7722 H7798 locsH7798 (x7721) (x7551) (x7799) (x7800) (x7801) (x7802) (x7759) (x7760) (x7758) (lv_sub hl7723 [1, 0, 2] rfl) hTH7798 hSH7798 ⟨by have := i_rng x7721; omega, by have := i_rng x7721; omega⟩ bx7551 bx7799 bx7800 bx7759 bx7760 bx7758 ex7799 ex7800 ex7801 ex7802 m7826 m7827 m7825 m7819 m7820 m7821 m7803 m7823 m7824 b7815 (WF.castE b7816 (by omega) (by omega) (by omega)) (PQ.cast b7812 (by omega) (by omega) (by omega) (by omega) (by omega)) (PX.cast b7813 (by omega) (by omega)) (CXP.cast b7814 (by omega)) (RZ.cast b7817 (by omega) (by omega) rfl) mf7828 g7804 g7805 g7806 g7807 f7818 (by omega) (by and_intros <;> first | assumption | omega) cu7829 (HD.mk (fun h => by exfalso; omega)) (HD.mk (fun _ => hco175.trans ((co_close htu kw_).trans (co_eq hdn)))) (HD.mk hk83.1) (HD.mk (fun h => by exfalso; omega)) (HD.mk (fun _ => ⟨rfl, hk83.2, hq83.2, ce83⟩))
          · have k7689 := i_eq c7688
            refine lv_aload_n hx hb dX10_readAny_202 rfl (lv_at hl7562 0 rfl) ?_
            refine lv_iconst (v := 1) hx hb dX10_readAny_203 (by decide) ?_
            refine x_V (As := [.int 1]) (rest := []) C (a_X10_fails l K G H7661 (1) hTH7661 ga0 g7670 g7671 g7672 g7673) yo_X10_fails wM_X10_235 ⟨⟨by decide, by decide⟩, by decide, by decide⟩ (x_rv C hTH7661 (ci := 10) rfl ga0 rg_112) rfl hl7562.1 rfl (Nat.le_of_ble_eq_true rfl) dX10_readAny_204 hSH7661 (AE_sub (fun _ _ => rfl) (by decide) hSH7661.1) (fun vH7830 H7830 locsH7830 pH7830 zH7830 kH7830 hSH7830 => ?_)
            obtain ⟨x7831, hvH7830, bx7831, g7832, g7833, g7834, g7835, mf7836, hTH7830⟩ := pH7830
            subst hvH7830
            clear zH7830
            clear f7642 m7622 m7623 m7624 m7643 m7644 m7645 m7646 m7650 m7651 m7652
            have b7837 : PQ (fun j => fI H7830 pq j) (x7619.toNatClampNeg) (x7621.toInt) (x7550.toInt) (cB (fun j => fI H7575 pq j) x7619.toNatClampNeg) (0) := PQ.congr (fun j => fI_kept (x_lt hTH7661 kH7830 gpq (by decide))) b7664
            have b7838 : PX (fun j => fI H7830 pq j) (x7619.toNatClampNeg) (x7621.toInt) (ms) := PX.congr (fun j => fI_kept (x_lt hTH7661 kH7830 gpq (by decide))) b7665
            have b7839 : CXP (fun j => fI H7830 pq j) (t82) (x7619.toNatClampNeg) := CXP.congr (fun j => fI_kept (x_lt hTH7661 kH7830 gpq (by decide))) b7666
            have b7840 : ∀ j : Nat, j < 3000 + mn.toNatClampNeg → fI H7830 oq j = fI s.heap oq j ∧ fI H7830 aq j = fI s.heap aq j := fun j hj => ⟨(fI_kept (x_lt hTH7661 kH7830 goq (by decide))).trans (b7667 j hj).1, (fI_kept (x_lt hTH7661 kH7830 gaq (by decide))).trans (b7667 j hj).2⟩
            have b7841 : WF (fun k => fI H7830 oq k) (fun k => fI H7830 aq k) (3000 + mn.toNatClampNeg) (3000 + x7620.toNatClampNeg) 0 (cB (fun j => fI H7575 pq j) x7619.toNatClampNeg + 1) := WF.congr (fun j => fI_kept (x_lt hTH7661 kH7830 goq (by decide))) (fun j => fI_kept (x_lt hTH7661 kH7830 gaq (by decide))) b7668
            have b7842 : RZ (1 - jb.toInt) (fun k => fI H7830 oq k) (fun k => fI H7830 aq k) (3000 + mn.toNatClampNeg) (3000 + x7620.toNatClampNeg) (f82 :: opL t82) := RZ.congr (fun j => fI_kept (x_lt hTH7661 kH7830 goq (by decide))) (fun j => fI_kept (x_lt hTH7661 kH7830 gaq (by decide))) b7669
            have f7843 : ∀ j : Nat, bt j = (fI H7830 tq j).toInt := fun j => (f7674 j).trans (congrArg Int32.toInt (fI_kept (x_lt hTH7661 kH7830 gtq (by decide))).symm)
            have m7844 := (m7675).trans (MF.i mf7836 (k := 19) (by decide) (by decide)).symm
            have m7845 := (m7676).trans (MF.i mf7836 (k := 20) (by decide) (by decide)).symm
            have m7846 := (m7677).trans (MF.i mf7836 (k := 21) (by decide) (by decide)).symm
            have m7847 := (m7678).trans (MF.i mf7836 (k := 22) (by decide) (by decide)).symm
            have m7848 := (m7679).trans (MF.r mf7836 (k := 32) (by decide) (by decide)).symm
            have m7849 := (m7680).trans (MF.r mf7836 (k := 33) (by decide) (by decide)).symm
            have m7850 := (m7681).trans (MF.r mf7836 (k := 37) (by decide) (by decide)).symm
            have m7851 := (m7682).trans (MF.r mf7836 (k := 17) (by decide) (by decide)).symm
            have m7852 := (m7683).trans (MF.i mf7836 (k := 18) (by decide) (by decide)).symm
            have m7853 := (m7684).trans (MF.i mf7836 (k := 34) (by decide) (by decide)).symm
            have m7854 := (m7685).trans (MF.i mf7836 (k := 38) (by decide) (by decide)).symm
            have m7855 := (m7686).trans (MF.i mf7836 (k := 35) (by decide) (by decide)).symm
            have m7856 := (m7687).trans (MF.i mf7836 (k := 36) (by decide) (by decide)).symm
            have mf7857 : MF K s.heap H7830 a0 [19, 20, 21, 22, 35, 36, 38, 39, 40] := MF.trans mf7663 mf7836 (by decide)
            refine W.eq (g2 := F0 m 207 ls7561 [.int x7831]) rfl ?_
            have k41_ : kK bt tp.toNatClampNeg cj ≠ 41 := fun e => by have z_ := (TV.sg (c := 41) hcu175.2.2.1 (by decide)).mpr e; omega
            have ht1 : ∃ u, ms = true :: u := by rw [← b7838.1]; exact nh_br (by rw [b7838.1]; exact hnh) (by have := b7837.2.2.1; omega)
            exact x_iret C hQ dX10_readAny_207 hSH7830 (by decide) (by decide) (⟨x7831, x7564, x7565, x7566, x7567, x7620, x7621, x7619, rfl, by omega, m7844, m7845, m7846, m7847, m7855, m7856, m7854, Or.inl (by omega), m7848, m7849, m7850, m7851, g7832, g7833, g7834, g7835, mf7857, b7840, Or.inl (by omega), Or.inl ⟨hco175.trans (co_bad ht1 ⟨ha175, ho175⟩ k41_), by omega⟩, Or.inl (by omega), Or.inl (by omega), hTH7830⟩)
        · have k7660 := i_eq c7659
          refine lv_iconst (v := 0) hx hb dX10_readAny_191 (by decide) ?_
          have ht0 : ms = [] := by rw [← px7658.1]; exact nh_K (by rw [px7658.1]; exact hnh) (by have := pqn.2.2.1; omega)
          have htn : t82 = [] := hT1_nil hq82.2 (by rw [cy82.nb, px7658.1, ht0]; rfl)
          have hEF : orG (kK bt tp.toNatClampNeg) (paS (kK bt tp.toNatClampNeg) (vV bt tp.toNatClampNeg) (1 - jb.toInt) 8) (paF (kK bt tp.toNatClampNeg) (vV bt tp.toNatClampNeg) (1 - jb.toInt) 8) ci = f82 := (duF_0 (hco175.trans (co_end ht0 ⟨ha175, ho175⟩))).trans ((ce82).trans (by rw [htn]; exact coF_end ⟨ha175, ho175⟩))
          exact x_iret C hQ dX10_readAny_192 hSH7618 (by decide) (by decide) (⟨0, x7564, x7565, x7566, x7567, x7620, x7621, x7619, rfl, by decide, m7643, m7644, m7645, m7646, ex7620, ex7621, ex7619, Or.inr (by and_intros <;> first | assumption | omega), m7622, m7623, m7624, m7650, g7625, g7626, g7627, g7628, mf7653, b7654, Or.inr ⟨_, m7634⟩, Or.inr ⟨cj, hco175.trans (co_end ht0 ⟨ha175, ho175⟩), by omega, hcu175⟩, Or.inr (by have h := px7658.2; rw [ht0] at h; have h2 : ((0 : Nat) : Int) = _ := h; omega), Or.inr (RZ.cast rs82 (by omega) (by omega) ((congrArg (fun z => [z]) hEF).trans (show [f82] = f82 :: opL t82 from (congrArg (fun z => f82 :: opL z) htn).symm))), hTH7618⟩)
      have J139 : ∀  (ls7859 : Array Slot) (H7858 : Heap) (locsH7858 : List Loc) (x7862 : Int32) (x7863 : Int32) (x7864 : Int32) (x7865 : Int32) (x7866 : Int32) (x7867 : Int32) (x7868 : Int32), lv_has ls7859 4 [(0, .ref a0), (1, .int x7550), (2, .int x7551)] → TY K G H7858 → va_S (AE G [112, 136, 137, 138] s.heap.size) s.heap H7858 locsH7858 → (0 ≤ x7551.toInt ∧ x7551.toInt ≤ 0) → (0 ≤ x7862.toInt ∧ x7862.toInt ≤ 500) → (0 ≤ x7863.toInt ∧ x7863.toInt ≤ 500) → (0 ≤ x7866.toInt ∧ x7866.toInt ≤ 500) → (0 ≤ x7867.toInt ∧ x7867.toInt ≤ 8) → (0 ≤ x7868.toInt ∧ x7868.toInt ≤ 40) → (x7862 = fI H7858 a0 (K.1.2 10 19)) → (x7863 = fI H7858 a0 (K.1.2 10 20)) → (x7864 = fI H7858 a0 (K.1.2 10 21)) → (x7865 = fI H7858 a0 (K.1.2 10 22)) → (x7866 = fI H7858 a0 (K.1.2 10 35)) → (x7867 = fI H7858 a0 (K.1.2 10 36)) → (x7868 = fI H7858 a0 (K.1.2 10 38)) → (EQN oq (fR H7858 a0 (K.1.2 10 32))) → (EQN aq (fR H7858 a0 (K.1.2 10 33))) → (EQN pq (fR H7858 a0 (K.1.2 10 37))) → (EQN tq (fR H7858 a0 (K.1.2 10 17))) → (tp = fI H7858 a0 (K.1.2 10 18)) → (jb = fI H7858 a0 (K.1.2 10 34)) → (∀ j : Nat, j < 3000 + mn.toNatClampNeg → fI H7858 oq j = fI s.heap oq j ∧ fI H7858 aq j = fI s.heap aq j) → (WF (fun k => fI H7858 oq k) (fun k => fI H7858 aq k) (3000 + mn.toNatClampNeg) (3000 + x7866.toNatClampNeg) 0 (B + 1 - x7551.toNatClampNeg)) → (PQ (fun j => fI H7858 pq j) (x7868.toNatClampNeg) (x7867.toInt) (x7550.toInt) (B) (x7551.toInt)) → (PX (fun j => fI H7858 pq j) (x7868.toNatClampNeg) (x7867.toInt) (ms)) → (CXP (fun j => fI H7858 pq j) (t_) (x7868.toNatClampNeg)) → (RZ (1 - jb.toInt) (fun k => fI H7858 oq k) (fun k => fI H7858 aq k) (3000 + mn.toNatClampNeg) (3000 + x7866.toNatClampNeg) (dl)) → (MF K s.heap H7858 a0 [19, 20, 21, 22, 35, 36, 38, 39, 40]) → (CG (avw K H7858 a0)) → (TU (avw K H7858 a0) (svw K H7858 a0)) → (WD (avw K H7858 a0)) → (IM (avw K H7858 a0)) → (∀ j : Nat, bt j = (fI H7858 tq j).toInt) → ((x7862.toInt ≤ tp.toInt ∧ x7863.toInt ≤ x7862.toInt ∧ (x7864.toInt = 0 ∨ x7863.toInt < x7862.toInt) ∧ (x7864.toInt ≠ 2 ∨ (0 ≤ x7865.toInt ∧ x7865.toInt ≤ 23))) ∧ x7866.toInt + x7868.toInt + fr.toInt ≤ mn.toInt + x7863.toInt ∧ mn.toInt ≤ x7866.toInt ∧ fr.toInt ≤ x7863.toInt ∧ x7863.toInt = x7553.toInt) → (CU bt tp.toNatClampNeg cj x7863 x7862 x7864 x7865) → (kK bt tp.toNatClampNeg cj ≠ 9) → (lpI (paS (kK bt tp.toNatClampNeg) (vV bt tp.toNatClampNeg) (1 - jb.toInt) 8) (cAO (kK bt tp.toNatClampNeg)) ci = coI (kK bt tp.toNatClampNeg) (vV bt tp.toNatClampNeg) (1 - jb.toInt) ms cj) → (HD (dl = f_ :: opL t_ ∧ B01 f_ ∧ hT9 t_ ∧ duF (kK bt tp.toNatClampNeg) (vV bt tp.toNatClampNeg) (1 - jb.toInt) [] ci = coF (kK bt tp.toNatClampNeg) (vV bt tp.toNatClampNeg) (1 - jb.toInt) t_ false f_ cj)) → W p l e ({ frames := 7, cells := 0, slots := 0, locals := 149 } : Room) s m (([.ref a0] : List Value).toArray) below meth c H7858 locsH7858 0 0 Q (F0 m 139 ls7859 []) := by
        intro  ls7859 H7858 locsH7858 x7862 x7863 x7864 x7865 x7866 x7867 x7868 hl7860 hTH7858 hSH7858 b7861 bx7862 bx7863 bx7866 bx7867 bx7868 ex7862 ex7863 ex7864 ex7865 ex7866 ex7867 ex7868 cy7869_0 cy7869_1 cy7869_2 cy7869_3 cy7869_4 cy7869_5 by7869_pf by7869_wf by7869_pq by7869_px by7869_cx by7869_rs mfy7869 gy7869_CG gy7869_TU gy7869_WD gy7869_IM fy7869_bt iv139 hcu139 ha139 hco139 hg139
        clear i1 i2 i3 i4 i5 i6 i7
        obtain ⟨⟨i1, i2, i3, i4⟩, i5, i6, i7, i8⟩ := iv139
        refine lv_aload_n hx hb dX10_readAny_139 rfl (lv_at hl7860 0 rfl) ?_
        refine lv_bipush (v := 7) hx hb dX10_readAny_140 (by decide) ?_
        refine x_V (As := [.int 7]) (rest := []) C (a_X10_isWord_e l K G H7858 (7) (x7864) (x7865) hTH7858 ga0 ex7864 ex7865) yo_X10_isWord wM_X10_264 ⟨⟨by decide, by decide⟩, by decide, by decide⟩ (x_rv C hTH7858 (ci := 10) rfl ga0 rg_112) rfl hl7860.1 rfl (Nat.le_of_ble_eq_true rfl) dX10_readAny_142 hSH7858 (AE_sub (fun _ _ => rfl) (by decide) hSH7858.1) (fun vH7870 H7870 locsH7870 pH7870 zH7870 kH7870 hSH7870 => ?_)
        obtain ⟨x7871, hvH7870, bx7871, hrH7870, hTH7870⟩ := pH7870
        subst hvH7870
        clear zH7870
        have mf7872 : MF K s.heap H7870 a0 [19, 20, 21, 22, 35, 36, 38, 39, 40] := MF.eff (x_lt hTH7858 kH7870 ga0 (by decide)) mfy7869
        have b7873 : ∀ j : Nat, j < 3000 + mn.toNatClampNeg → fI H7870 oq j = fI s.heap oq j ∧ fI H7870 aq j = fI s.heap aq j := fun j hj => ⟨(fI_kept (x_lt hTH7858 kH7870 goq (by decide))).trans (by7869_pf j hj).1, (fI_kept (x_lt hTH7858 kH7870 gaq (by decide))).trans (by7869_pf j hj).2⟩
        have b7874 : WF (fun k => fI H7870 oq k) (fun k => fI H7870 aq k) (3000 + mn.toNatClampNeg) (3000 + x7866.toNatClampNeg) 0 (B + 1 - x7551.toNatClampNeg) := WF.congr (fun j => fI_kept (x_lt hTH7858 kH7870 goq (by decide))) (fun j => fI_kept (x_lt hTH7858 kH7870 gaq (by decide))) by7869_wf
        have b7875 : PQ (fun j => fI H7870 pq j) (x7868.toNatClampNeg) (x7867.toInt) (x7550.toInt) (B) (x7551.toInt) := PQ.congr (fun j => fI_kept (x_lt hTH7858 kH7870 gpq (by decide))) by7869_pq
        have b7876 : PX (fun j => fI H7870 pq j) (x7868.toNatClampNeg) (x7867.toInt) (ms) := PX.congr (fun j => fI_kept (x_lt hTH7858 kH7870 gpq (by decide))) by7869_px
        have b7877 : CXP (fun j => fI H7870 pq j) (t_) (x7868.toNatClampNeg) := CXP.congr (fun j => fI_kept (x_lt hTH7858 kH7870 gpq (by decide))) by7869_cx
        have b7878 : RZ (1 - jb.toInt) (fun k => fI H7870 oq k) (fun k => fI H7870 aq k) (3000 + mn.toNatClampNeg) (3000 + x7866.toNatClampNeg) (dl) := RZ.congr (fun j => fI_kept (x_lt hTH7858 kH7870 goq (by decide))) (fun j => fI_kept (x_lt hTH7858 kH7870 gaq (by decide))) by7869_rs
        have g7879 : CG (avw K H7870 a0) := CG.congr (fun k hk j => av_eff hTH7858 kH7870 ga0 (by decide) (CG_eff [] (by decide) k hk)) gy7869_CG
        have g7880 : TU (avw K H7870 a0) (svw K H7870 a0) := TU.congr (fun k hk j => av_eff hTH7858 kH7870 ga0 (by decide) (TU_eff [] (by decide) k hk)) (fun k hk => sv_eff hTH7858 kH7870 ga0 (by decide)) gy7869_TU
        have g7881 : WD (avw K H7870 a0) := WD.congr (fun k hk j => av_eff hTH7858 kH7870 ga0 (by decide) (WD_eff [] (by decide) k hk)) gy7869_WD
        have g7882 : IM (avw K H7870 a0) := IM.congr (fun k hk j => av_eff hTH7858 kH7870 ga0 (by decide) (IM_eff [] (by decide) k hk)) gy7869_IM
        have f7883 : ∀ j : Nat, bt j = (fI H7870 tq j).toInt := fun j => (fy7869_bt j).trans (congrArg Int32.toInt (fI_kept (x_lt hTH7858 kH7870 gtq (by decide))).symm)
        have m7884 := (ex7862).trans (fI_kept (x_lt hTH7858 kH7870 ga0 (by decide))).symm
        have m7885 := (ex7863).trans (fI_kept (x_lt hTH7858 kH7870 ga0 (by decide))).symm
        have m7886 := (ex7864).trans (fI_kept (x_lt hTH7858 kH7870 ga0 (by decide))).symm
        have m7887 := (ex7865).trans (fI_kept (x_lt hTH7858 kH7870 ga0 (by decide))).symm
        have m7888 := (ex7866).trans (fI_kept (x_lt hTH7858 kH7870 ga0 (by decide))).symm
        have m7889 := (ex7867).trans (fI_kept (x_lt hTH7858 kH7870 ga0 (by decide))).symm
        have m7890 := (ex7868).trans (fI_kept (x_lt hTH7858 kH7870 ga0 (by decide))).symm
        have m7891 := (cy7869_0).trans (fR_kept (x_lt hTH7858 kH7870 ga0 (by decide))).symm
        have m7892 := (cy7869_1).trans (fR_kept (x_lt hTH7858 kH7870 ga0 (by decide))).symm
        have m7893 := (cy7869_2).trans (fR_kept (x_lt hTH7858 kH7870 ga0 (by decide))).symm
        have m7894 := (cy7869_3).trans (fR_kept (x_lt hTH7858 kH7870 ga0 (by decide))).symm
        have m7895 := (cy7869_4).trans (fI_kept (x_lt hTH7858 kH7870 ga0 (by decide))).symm
        have m7896 := (cy7869_5).trans (fI_kept (x_lt hTH7858 kH7870 ga0 (by decide))).symm
        refine W.eq (g2 := F0 m 145 ls7859 [.int x7871]) rfl ?_
        refine lv_if_eq (tgt := 175) hx hb dX10_readAny_145 (by decide) (fun c7897 => ?_) (fun c7897 => ?_)
        · have k7898 := i_eq c7897
          have cl_mn := i_cl (x := mn) (by omega)
          have cl_x7866 := i_cl (x := x7866) bx7866.1
          have cl_x7868 := i_cl (x := x7868) bx7868.1
          have ko_ : kK bt tp.toNatClampNeg cj ≠ 8 := fun e => by have z2 := (TV.wd hcu139.2.2.1).mpr (by omega); have z1 := TV.wv hcu139.2.2.1 z2; omega
          exact J175  ls7859 H7870 locsH7870 (x7862) (x7863) (x7864) (x7865) (x7866) (x7867) (x7868) (lv_sub hl7860 [0, 1, 2] rfl) hTH7870 hSH7870 ⟨by have := i_rng x7551; omega, by have := i_rng x7551; omega⟩ bx7862 bx7863 bx7866 bx7867 bx7868 m7884 m7885 m7886 m7887 m7888 m7889 m7890 m7891 m7892 m7893 m7894 m7895 m7896 b7873 (WF.castE b7874 (by omega) (by omega) (by omega)) (PQ.cast b7875 (by omega) (by omega) (by omega) (by omega) (by omega)) (PX.cast b7876 (by omega) (by omega)) (CXP.cast b7877 (by omega)) (RZ.cast b7878 (by omega) (by omega) rfl) mf7872 g7879 g7880 g7881 g7882 f7883 (by and_intros <;> first | assumption | omega) hcu139 ha139 ko_ hco139 hg139
        · have k7898 := i_ne c7897
          replace hrH7870 := hrH7870.resolve_left (fun h => absurd h.1 (by omega))
          replace i3 := i3.resolve_left (by omega)
          clear i4
          have kw_ : kK bt tp.toNatClampNeg cj = 8 := by have z1 := TV.wv hcu139.2.2.1 (by omega); omega
          have rsd7899 : RZ (1 - jb.toInt) (fun k => fI H7870 oq k) (fun k => fI H7870 aq k) (3000 + mn.toNatClampNeg) (3000 + x7866.toNatClampNeg) (f_ :: opL t_) := RZ.cast b7878 rfl rfl (HD.get hg139).1.symm
          refine lv_aload_n hx hb dX10_readAny_148 rfl (lv_at hl7860 0 rfl) ?_
          refine lv_bipush (v := 10) hx hb dX10_readAny_149 (by decide) ?_
          have cc_x7868 := i_cl (x := x7868) bx7868.1
          have cc_x7866 := i_cl (x := x7866) bx7866.1
          have pqc : PQ (fun j => fI H7870 pq j) (x7868.toNatClampNeg) (x7867.toInt) (x7550.toInt) (B) (x7551.toInt) := PQ.cast b7875 (by omega) (by omega) rfl rfl rfl
          have hcb := pqc.2.2.2.1
          have hco := pqc.2.1
          have hck := pqc.2.2.1
          have pxc7900 : PX (fun j => fI H7870 pq j) (x7868.toNatClampNeg) (x7867.toInt) (ms) := PX.cast b7876 (by omega) (by omega)
          have hnh : nh ms = true := by rw [← pxc7900.1]; exact nh_0 pqc.1 (pqc.2.2.2.2.resolve_left (by omega))
          have cn_x7868 := i_cl (x := x7868) bx7868.1
          have cn_x7868 := i_cl (x := x7868) bx7868.1
          have cxc7901 : CXP (fun j => fI H7870 pq j) (t_) (x7868.toNatClampNeg) := CXP.cast b7877 (by omega)
          refine x_V (As := [.int 10]) (rest := []) C (a_X10_settles_g l K G H7870 (10) (mn) (x7868) (x7866) (x7867) (jb) (t_) (f_) hTH7870 ga0 (by decide) goq m7891 gaq m7892 gpq m7893 m7890 m7888 m7889 m7896 g7879 g7880 g7881 g7882 (WF.castE b7874 (by omega) (by omega) (by omega)) (RZ.cast rsd7899 (by omega) (by omega) rfl) (by and_intros <;> first | assumption | omega) (by and_intros <;> first | assumption | omega) (pqc.1) (pqc.2.1) (cxc7901) ((HD.get hxo9)) ((HD.get hg139).2.1)) yo_X10_settles wM_X10_273 ⟨⟨by decide, by decide⟩, by decide, by decide⟩ (x_rv C hTH7870 (ci := 10) rfl ga0 rg_112) rfl hl7860.1 rfl (Nat.le_of_ble_eq_true rfl) dX10_readAny_151 hSH7870 (AE_sub (fun _ _ => rfl) (by decide) hSH7870.1) (fun vH7902 H7902 locsH7902 pH7902 zH7902 kH7902 hSH7902 => ?_)
          obtain ⟨x7903, x7904, x7905, hvH7902, ex7903, ex7904, ex7905, hrH7902, m7906, m7907, m7908, g7909, g7910, g7911, g7912, mf7913, m7914, m7915, m7916, m7917, m7918, m7919, m7920, m7921, m7922, hTH7902⟩ := pH7902
          subst hvH7902
          clear zH7902
          replace m7906 := EQN.mk m7906
          replace m7907 := EQN.mk m7907
          replace m7908 := EQN.mk m7908
          have b7923 : PQ (fun j => fI H7902 pq j) (x7868.toNatClampNeg) (x7867.toInt) (x7550.toInt) (B) (x7551.toInt) := PQ.congr (fun j => fI_kept (x_lt hTH7870 kH7902 gpq (by decide))) pqc
          have b7924 : PX (fun j => fI H7902 pq j) (x7868.toNatClampNeg) (x7867.toInt) (ms) := PX.congr (fun j => fI_kept (x_lt hTH7870 kH7902 gpq (by decide))) pxc7900
          have b7925 : CXP (fun j => fI H7902 pq j) (t_) (x7868.toNatClampNeg) := CXP.congr (fun j => fI_kept (x_lt hTH7870 kH7902 gpq (by decide))) cxc7901
          have f7926 : ∀ j : Nat, bt j = (fI H7902 tq j).toInt := fun j => (f7883 j).trans (congrArg Int32.toInt (fI_kept (x_lt hTH7870 kH7902 gtq (by decide))).symm)
          have m7927 := (m7884).trans (MF.i mf7913 (k := 19) (by decide) (by decide)).symm
          have m7928 := (m7885).trans (MF.i mf7913 (k := 20) (by decide) (by decide)).symm
          have m7929 := (m7886).trans (MF.i mf7913 (k := 21) (by decide) (by decide)).symm
          have m7930 := (m7887).trans (MF.i mf7913 (k := 22) (by decide) (by decide)).symm
          have m7931 := (m7891).trans (MF.r mf7913 (k := 32) (by decide) (by decide)).symm
          have m7932 := (m7892).trans (MF.r mf7913 (k := 33) (by decide) (by decide)).symm
          have m7933 := (m7893).trans (MF.r mf7913 (k := 37) (by decide) (by decide)).symm
          have m7934 := (m7894).trans (MF.r mf7913 (k := 17) (by decide) (by decide)).symm
          have m7935 := (m7895).trans (MF.i mf7913 (k := 18) (by decide) (by decide)).symm
          have m7936 := (m7896).trans (MF.i mf7913 (k := 34) (by decide) (by decide)).symm
          have mf7937 : MF K s.heap H7902 a0 [19, 20, 21, 22, 35, 36, 38, 39, 40] := MF.trans mf7872 mf7913 (by decide)
          have bx7903 := ty_fi (x := x7903) (k := 38) ex7903 hTH7902 ga0 rg_112 rfl
          have bx7904 := ty_fi (x := x7904) (k := 35) ex7904 hTH7902 ga0 rg_112 rfl
          have bx7905 := ty_fi (x := x7905) (k := 36) ex7905 hTH7902 ga0 rg_112 rfl
          obtain ⟨raH7902, rbH7902, rcH7902⟩ := hrH7902
          replace rcH7902 := rcH7902.resolve_left (fun h => absurd (n_10.symm.trans h.1) (by decide))
          replace m7917 := HD.mk m7917
          replace m7919 := HD.mk m7919
          have cs_mn := i_cl (x := mn) (by omega)
          have b7938 : ∀ j : Nat, j < 3000 + mn.toNatClampNeg → fI H7902 oq j = fI s.heap oq j ∧ fI H7902 aq j = fI s.heap aq j := fun j hj => ⟨(m7914 j (by omega)).1.trans (b7873 j hj).1, (m7914 j (by omega)).2.trans (b7873 j hj).2⟩
          have b7939 : WF (fun k => fI H7902 oq k) (fun k => fI H7902 aq k) (3000 + mn.toNatClampNeg) (3000 + x7866.toNatClampNeg) 0 (B + 1 - x7551.toNatClampNeg) := WF.keep b7874 (fun j hj => (m7914 j (by omega)).1) (fun j hj => (m7914 j (by omega)).2)
          have b7940 : RZ (1 - jb.toInt) (fun k => fI H7902 oq k) (fun k => fI H7902 aq k) (3000 + mn.toNatClampNeg) (3000 + x7866.toNatClampNeg) (f_ :: opL t_) := RZ.keep rsd7899 (fun j hj => (m7914 j (by omega)).1) (fun j hj => (m7914 j (by omega)).2)
          refine W.eq (g2 := F0 m 154 ls7859 []) rfl ?_
          have cc_x7903 := i_cl (x := x7903) bx7903.1
          have cc_x7904 := i_cl (x := x7904) bx7904.1
          have eqp : ∀ j : Nat, fI H7902 pq j = fI H7870 pq j := fun j => fI_kept (x_lt hTH7870 kH7902 gpq (by decide))
          have pq0 : PQ (fun j => fI H7870 pq j) (x7903.toNatClampNeg) (x7905.toInt) (x7550.toInt) (cB (fun j => fI H7870 pq j) x7903.toNatClampNeg) 0 := PQ.settle (w := 10) pqc (by omega) m7915 m7916 (by decide) ((m7917.out).imp (fun h => by omega) (fun h => by show (fI _ pq _).toInt ≠ 10; rw [n_10] at h; exact h)) ((m7919.out).imp (fun h => by omega) (fun h => by show (fI _ pq _).toInt = 10; rw [n_10] at h; exact h)) (Or.inr (by omega))
          have pqn : PQ (fun j => fI H7902 pq j) (x7903.toNatClampNeg) (x7905.toInt) (x7550.toInt) (cB (fun j => fI H7870 pq j) x7903.toNatClampNeg) (0) := PQ.congr eqp pq0
          have t10 : HD (x7903.toNatClampNeg = 0 ∨ (fI H7902 pq (x7903.toNatClampNeg - 1)).toInt = 11 ∨ (fI H7902 pq (x7903.toNatClampNeg - 1)).toInt = 12) := PQ.top10 pqn ((m7917.out).imp (fun h => by omega) (fun h => by show (fI _ pq _).toInt ≠ 10; rw [eqp]; rw [n_10] at h; exact h))
          have pq10 := pqn
          have px7941 : PX (fun j => fI H7870 pq j) (x7903.toNatClampNeg) (x7905.toInt) (ms) := PX.settleX pxc7900 hnh m7921 m7920 (by omega)
          have px7942 : PX (fun j => fI H7902 pq j) (x7903.toNatClampNeg) (x7905.toInt) (ms) := PX.congr eqp px7941
          obtain ⟨t81, f81, hs81, rs81, cx81⟩ := m7922
          rw [n_10] at hs81
          have hq81 := stL_10 (kk := (kK bt tp.toNatClampNeg)) (vv := (vV bt tp.toNatClampNeg)) (lw := (1 - jb.toInt)) (j := cj) hs81 (HD.get hg139).2.2.1 (HD.get hxo9)
          have hk81 := stL_ok (by decide) hs81 (HD.get hxo9) (HD.get hg139).2.1
          have ce81 : duF (kK bt tp.toNatClampNeg) (vV bt tp.toNatClampNeg) (1 - jb.toInt) [] ci = coF (kK bt tp.toNatClampNeg) (vV bt tp.toNatClampNeg) (1 - jb.toInt) t81 false f81 cj := ((HD.get hg139).2.2.2).trans hq81.1
          have cy81 : CXP (fun j => fI H7902 pq j) (t81) (x7903.toNatClampNeg) := CXP.congr eqp cx81
          refine lv_aload_n hx hb dX10_readAny_154 rfl (lv_at hl7860 0 rfl) ?_
          refine lv_bipush (v := 11) hx hb dX10_readAny_155 (by decide) ?_
          have pqc : PQ (fun j => fI H7902 pq j) (x7903.toNatClampNeg) (x7905.toInt) (x7550.toInt) (cB (fun j => fI H7870 pq j) x7903.toNatClampNeg) (0) := PQ.cast pqn (by omega) (by omega) rfl rfl rfl
          have hcb := pqc.2.2.2.1
          have hco := pqc.2.1
          have hck := pqc.2.2.1
          have pxc7943 : PX (fun j => fI H7902 pq j) (x7903.toNatClampNeg) (x7905.toInt) (ms) := PX.cast px7942 (by omega) (by omega)
          have cn_x7903 := i_cl (x := x7903) bx7903.1
          have cn_x7903 := i_cl (x := x7903) bx7903.1
          have cxc7944 : CXP (fun j => fI H7902 pq j) (t81) (x7903.toNatClampNeg) := CXP.cast cy81 (by omega)
          refine x_V (As := [.int 11]) (rest := []) C (a_X10_settles_g l K G H7902 (11) (mn) (x7903) (x7904) (x7905) (jb) (t81) (f81) hTH7902 ga0 (by decide) goq m7906 gaq m7907 gpq m7908 ex7903 ex7904 ex7905 m7936 g7909 g7910 g7911 g7912 (WF.castE m7918 (by omega) (by omega) (by omega)) (RZ.cast rs81 (by omega) (by omega) rfl) (by and_intros <;> first | assumption | omega) (by and_intros <;> first | assumption | omega) (pqc.1) (pqc.2.1) (cxc7944) (hk81.1) (hk81.2)) yo_X10_settles wM_X10_273 ⟨⟨by decide, by decide⟩, by decide, by decide⟩ (x_rv C hTH7902 (ci := 10) rfl ga0 rg_112) rfl hl7860.1 rfl (Nat.le_of_ble_eq_true rfl) dX10_readAny_157 hSH7902 (AE_sub (fun _ _ => rfl) (by decide) hSH7902.1) (fun vH7945 H7945 locsH7945 pH7945 zH7945 kH7945 hSH7945 => ?_)
          obtain ⟨x7946, x7947, x7948, hvH7945, ex7946, ex7947, ex7948, hrH7945, m7949, m7950, m7951, g7952, g7953, g7954, g7955, mf7956, m7957, m7958, m7959, m7960, m7961, m7962, m7963, m7964, m7965, hTH7945⟩ := pH7945
          subst hvH7945
          clear zH7945
          replace m7949 := EQN.mk m7949
          replace m7950 := EQN.mk m7950
          replace m7951 := EQN.mk m7951
          clear f7883 m7884 m7885 m7886 m7887 m7888 m7889 m7890 m7891 m7892 m7893 m7894 m7895 m7896
          have b7966 : PQ (fun j => fI H7945 pq j) (x7903.toNatClampNeg) (x7905.toInt) (x7550.toInt) (cB (fun j => fI H7870 pq j) x7903.toNatClampNeg) (0) := PQ.congr (fun j => fI_kept (x_lt hTH7902 kH7945 gpq (by decide))) pqc
          have b7967 : PX (fun j => fI H7945 pq j) (x7903.toNatClampNeg) (x7905.toInt) (ms) := PX.congr (fun j => fI_kept (x_lt hTH7902 kH7945 gpq (by decide))) pxc7943
          have b7968 : CXP (fun j => fI H7945 pq j) (t81) (x7903.toNatClampNeg) := CXP.congr (fun j => fI_kept (x_lt hTH7902 kH7945 gpq (by decide))) cxc7944
          have f7969 : ∀ j : Nat, bt j = (fI H7945 tq j).toInt := fun j => (f7926 j).trans (congrArg Int32.toInt (fI_kept (x_lt hTH7902 kH7945 gtq (by decide))).symm)
          have m7970 := (m7927).trans (MF.i mf7956 (k := 19) (by decide) (by decide)).symm
          have m7971 := (m7928).trans (MF.i mf7956 (k := 20) (by decide) (by decide)).symm
          have m7972 := (m7929).trans (MF.i mf7956 (k := 21) (by decide) (by decide)).symm
          have m7973 := (m7930).trans (MF.i mf7956 (k := 22) (by decide) (by decide)).symm
          have m7974 := (m7906).trans (MF.r mf7956 (k := 32) (by decide) (by decide)).symm
          have m7975 := (m7907).trans (MF.r mf7956 (k := 33) (by decide) (by decide)).symm
          have m7976 := (m7908).trans (MF.r mf7956 (k := 37) (by decide) (by decide)).symm
          have m7977 := (m7934).trans (MF.r mf7956 (k := 17) (by decide) (by decide)).symm
          have m7978 := (m7935).trans (MF.i mf7956 (k := 18) (by decide) (by decide)).symm
          have m7979 := (m7936).trans (MF.i mf7956 (k := 34) (by decide) (by decide)).symm
          have mf7980 : MF K s.heap H7945 a0 [19, 20, 21, 22, 35, 36, 38, 39, 40] := MF.trans mf7937 mf7956 (by decide)
          have bx7946 := ty_fi (x := x7946) (k := 38) ex7946 hTH7945 ga0 rg_112 rfl
          have bx7947 := ty_fi (x := x7947) (k := 35) ex7947 hTH7945 ga0 rg_112 rfl
          have bx7948 := ty_fi (x := x7948) (k := 36) ex7948 hTH7945 ga0 rg_112 rfl
          obtain ⟨raH7945, rbH7945, rcH7945⟩ := hrH7945
          replace rcH7945 := rcH7945.resolve_left (fun h => absurd (n_11.symm.trans h.1) (by decide))
          replace m7960 := HD.mk m7960
          replace m7962 := HD.mk m7962
          have b7981 : ∀ j : Nat, j < 3000 + mn.toNatClampNeg → fI H7945 oq j = fI s.heap oq j ∧ fI H7945 aq j = fI s.heap aq j := fun j hj => ⟨(m7957 j (by omega)).1.trans (b7938 j hj).1, (m7957 j (by omega)).2.trans (b7938 j hj).2⟩
          have b7982 : WF (fun k => fI H7945 oq k) (fun k => fI H7945 aq k) (3000 + mn.toNatClampNeg) (3000 + x7904.toNatClampNeg) 0 (cB (fun j => fI H7870 pq j) x7903.toNatClampNeg + 1) := WF.keep m7918 (fun j hj => (m7957 j (by omega)).1) (fun j hj => (m7957 j (by omega)).2)
          have b7983 : RZ (1 - jb.toInt) (fun k => fI H7945 oq k) (fun k => fI H7945 aq k) (3000 + mn.toNatClampNeg) (3000 + x7904.toNatClampNeg) (f81 :: opL t81) := RZ.keep rs81 (fun j hj => (m7957 j (by omega)).1) (fun j hj => (m7957 j (by omega)).2)
          refine W.eq (g2 := F0 m 160 ls7859 []) rfl ?_
          have cc_x7946 := i_cl (x := x7946) bx7946.1
          have cc_x7947 := i_cl (x := x7947) bx7947.1
          have eqp : ∀ j : Nat, fI H7945 pq j = fI H7902 pq j := fun j => fI_kept (x_lt hTH7902 kH7945 gpq (by decide))
          have pq0 : PQ (fun j => fI H7902 pq j) (x7946.toNatClampNeg) (x7948.toInt) (x7550.toInt) (cB (fun j => fI H7902 pq j) x7946.toNatClampNeg) 0 := PQ.settle (w := 11) pqc (by omega) m7958 m7959 (by decide) ((m7960.out).imp (fun h => by omega) (fun h => by show (fI _ pq _).toInt ≠ 11; rw [n_11] at h; exact h)) ((m7962.out).imp (fun h => by omega) (fun h => by show (fI _ pq _).toInt = 11; rw [n_11] at h; exact h)) (Or.inr (by omega))
          have pqn : PQ (fun j => fI H7945 pq j) (x7946.toNatClampNeg) (x7948.toInt) (x7550.toInt) (cB (fun j => fI H7902 pq j) x7946.toNatClampNeg) (0) := PQ.congr eqp pq0
          have t11 : HD (x7946.toNatClampNeg = 0 ∨ (fI H7945 pq (x7946.toNatClampNeg - 1)).toInt = 12) := PQ.top11 (PQ.congr eqp pq10) (by show _ ∨ (fI _ pq _).toInt = 11 ∨ (fI _ pq _).toInt = 12; rw [eqp]; exact t10) (by omega) ((m7962.out).imp (fun h => by omega) (fun h => by show (fI _ pq _).toInt = 11; rw [eqp]; rw [n_11] at h; exact h)) ((m7960.out).imp (fun h => by omega) (fun h => by show (fI _ pq _).toInt ≠ 11; rw [eqp]; rw [n_11] at h; exact h))
          have px7984 : PX (fun j => fI H7902 pq j) (x7946.toNatClampNeg) (x7948.toInt) (ms) := PX.settleX pxc7943 hnh m7964 m7963 (by omega)
          have px7985 : PX (fun j => fI H7945 pq j) (x7946.toNatClampNeg) (x7948.toInt) (ms) := PX.congr eqp px7984
          obtain ⟨t82, f82, hs82, rs82, cx82⟩ := m7965
          rw [n_11] at hs82
          have hq82 := stL_11 (kk := (kK bt tp.toNatClampNeg)) (vv := (vV bt tp.toNatClampNeg)) (lw := (1 - jb.toInt)) (j := cj) hs82 hq81.2 hk81.1 ha139
          have hk82 := stL_ok (by decide) hs82 hk81.1 hk81.2
          have ce82 : duF (kK bt tp.toNatClampNeg) (vV bt tp.toNatClampNeg) (1 - jb.toInt) [] ci = coF (kK bt tp.toNatClampNeg) (vV bt tp.toNatClampNeg) (1 - jb.toInt) t82 false f82 cj := (ce81).trans hq82.1
          have cy82 : CXP (fun j => fI H7945 pq j) (t82) (x7946.toNatClampNeg) := CXP.congr eqp cx82
          refine lv_aload_n hx hb dX10_readAny_160 rfl (lv_at hl7860 0 rfl) ?_
          refine lv_bipush (v := 11) hx hb dX10_readAny_161 (by decide) ?_
          have pqc : PQ (fun j => fI H7945 pq j) (x7946.toNatClampNeg) (x7948.toInt) (x7550.toInt) (cB (fun j => fI H7902 pq j) x7946.toNatClampNeg) (0) := PQ.cast pqn (by omega) (by omega) rfl rfl rfl
          have hcb := pqc.2.2.2.1
          have hco := pqc.2.1
          have hck := pqc.2.2.1
          have h26 := PD.n26 pqc.1 (by omega)
          have pxc7986 : PX (fun j => fI H7945 pq j) (x7946.toNatClampNeg) (x7948.toInt) (ms) := PX.cast px7985 (by omega) (by omega)
          have cn_x7946 := i_cl (x := x7946) bx7946.1
          have cn_x7946 := i_cl (x := x7946) bx7946.1
          have cxc7987 : CXP (fun j => fI H7945 pq j) (t82) (x7946.toNatClampNeg) := CXP.cast cy82 (by omega)
          refine x_V (As := [.int 11]) (rest := []) C (a_X10_waits l K G H7945 (11) (x7946) hTH7945 ga0 gpq m7951 ex7946 g7952 g7953 g7954 g7955 (by and_intros <;> first | assumption | omega)) yo_X10_waits wM_X10_267 ⟨⟨by decide, by decide⟩, by decide, by decide⟩ (x_rv C hTH7945 (ci := 10) rfl ga0 rg_112) rfl hl7860.1 rfl (Nat.le_of_ble_eq_true rfl) dX10_readAny_163 hSH7945 (AE_sub (fun _ _ => rfl) (by decide) hSH7945.1) (fun vH7988 H7988 locsH7988 pH7988 zH7988 kH7988 hSH7988 => ?_)
          obtain ⟨x7989, hvH7988, ex7989, hrH7988, m7990, g7991, g7992, g7993, g7994, mf7995, m7996, m7997, hTH7988⟩ := pH7988
          subst hvH7988
          clear zH7988
          replace m7990 := EQN.mk m7990
          clear f7926 m7906 m7907 m7908 m7927 m7928 m7929 m7930 m7934 m7935 m7936
          have b7998 : ∀ j : Nat, j < 3000 + mn.toNatClampNeg → fI H7988 oq j = fI s.heap oq j ∧ fI H7988 aq j = fI s.heap aq j := fun j hj => ⟨(fI_kept (x_lt hTH7945 kH7988 goq (by decide))).trans (b7981 j hj).1, (fI_kept (x_lt hTH7945 kH7988 gaq (by decide))).trans (b7981 j hj).2⟩
          have b7999 : WF (fun k => fI H7988 oq k) (fun k => fI H7988 aq k) (3000 + mn.toNatClampNeg) (3000 + x7947.toNatClampNeg) 0 (cB (fun j => fI H7902 pq j) x7946.toNatClampNeg + 1) := WF.congr (fun j => fI_kept (x_lt hTH7945 kH7988 goq (by decide))) (fun j => fI_kept (x_lt hTH7945 kH7988 gaq (by decide))) m7961
          have b8000 : RZ (1 - jb.toInt) (fun k => fI H7988 oq k) (fun k => fI H7988 aq k) (3000 + mn.toNatClampNeg) (3000 + x7947.toNatClampNeg) (f82 :: opL t82) := RZ.congr (fun j => fI_kept (x_lt hTH7945 kH7988 goq (by decide))) (fun j => fI_kept (x_lt hTH7945 kH7988 gaq (by decide))) rs82
          have f8001 : ∀ j : Nat, bt j = (fI H7988 tq j).toInt := fun j => (f7969 j).trans (congrArg Int32.toInt (fI_kept (x_lt hTH7945 kH7988 gtq (by decide))).symm)
          have m8002 := (m7970).trans (MF.i mf7995 (k := 19) (by decide) (by decide)).symm
          have m8003 := (m7971).trans (MF.i mf7995 (k := 20) (by decide) (by decide)).symm
          have m8004 := (m7972).trans (MF.i mf7995 (k := 21) (by decide) (by decide)).symm
          have m8005 := (m7973).trans (MF.i mf7995 (k := 22) (by decide) (by decide)).symm
          have m8006 := (m7949).trans (MF.r mf7995 (k := 32) (by decide) (by decide)).symm
          have m8007 := (m7950).trans (MF.r mf7995 (k := 33) (by decide) (by decide)).symm
          have m8008 := (m7951).trans (MF.r mf7995 (k := 37) (by decide) (by decide)).symm
          have m8009 := (m7977).trans (MF.r mf7995 (k := 17) (by decide) (by decide)).symm
          have m8010 := (m7978).trans (MF.i mf7995 (k := 18) (by decide) (by decide)).symm
          have m8011 := (m7979).trans (MF.i mf7995 (k := 34) (by decide) (by decide)).symm
          have m8012 := (ex7947).trans (MF.i mf7995 (k := 35) (by decide) (by decide)).symm
          have m8013 := (ex7948).trans (MF.i mf7995 (k := 36) (by decide) (by decide)).symm
          have mf8014 : MF K s.heap H7988 a0 [19, 20, 21, 22, 35, 36, 38, 39, 40] := MF.trans mf7980 mf7995 (by decide)
          have bx7989 := ty_fi (x := x7989) (k := 38) ex7989 hTH7988 ga0 rg_112 rfl
          refine W.eq (g2 := F0 m 166 ls7859 []) rfl ?_
          have cc_x7989 := i_cl (x := x7989) bx7989.1
          have hwx := congrArg Int32.toInt m7996
          have pqn : PQ (fun j => fI H7988 pq j) (x7989.toNatClampNeg) (x7948.toInt) (x7550.toInt) (cB (fun j => fI H7902 pq j) x7946.toNatClampNeg + 1) (1) := PQ.push (v := 11) pqc (by show (fI _ pq _).toInt = 11; rw [← m7996]; rfl) m7997 (by omega) (Or.inr (Or.inr (Or.inr ⟨rfl, rfl, rfl, rfl, t11⟩)))
          have pxn : PX (fun j => fI H7988 pq j) (x7989.toNatClampNeg) (x7948.toInt) (ms) := PX.push (v := 11) pxc7986 (by show (fI _ pq _).toInt = 11; rw [← m7996]; rfl) m7997 (by omega) (Or.inr (Or.inr ⟨Or.inr rfl, rfl, rfl⟩))
          have cxn : CXP (fun j => fI H7988 pq j) (((11, f82) :: t82)) (x7989.toNatClampNeg) := CXP.push (g := f82) cxc7987 (by show (fI _ pq _).toInt = 11; rw [← m7996]; rfl) m7997 (by omega)
          have ceq : duF (kK bt tp.toNatClampNeg) (vV bt tp.toNatClampNeg) (1 - jb.toInt) [] ci = duF (kK bt tp.toNatClampNeg) (vV bt tp.toNatClampNeg) (1 - jb.toInt) ((11, f82) :: t82) (cj + 1) := (ce82).trans (coF_or hq82.2 kw_ rfl)
          have cxo : CXO ((11, f82) :: t82) := CXO.r hk82.1 hk82.2 hq82.2
          have rsw : RZ (1 - jb.toInt) (fun k => fI H7988 oq k) (fun k => fI H7988 aq k) (3000 + mn.toNatClampNeg) (3000 + x7947.toNatClampNeg) (opL ((11, f82) :: t82)) := RZ.cast b8000 rfl rfl (opL_a (by decide))
          refine lv_aload_n hx hb dX10_readAny_166 rfl (lv_at hl7860 0 rfl) ?_
          refine x_V (As := []) (rest := []) C (a_X10_reads_e l K G H7988 (x7862) (x7863) (x7864) (x7865) (tp) bt hTH7988 ga0 gtq m8009 m8002 m8003 m8004 m8005 m8010 g7991 g7992 g7993 g7994 (by and_intros <;> first | assumption | omega) (hy1) f8001) yo_X10_reads wM_X10_242 ⟨⟨by decide, by decide⟩, by decide, by decide⟩ (x_rv C hTH7988 (ci := 10) rfl ga0 rg_112) rfl hl7860.1 rfl (Nat.le_of_ble_eq_true rfl) dX10_readAny_167 hSH7988 (AE_sub (fun _ _ => rfl) (by decide) hSH7988.1) (fun vH8015 H8015 locsH8015 pH8015 zH8015 kH8015 hSH8015 => ?_)
          obtain ⟨x8016, x8017, x8018, x8019, hvH8015, ex8016, ex8017, ex8018, ex8019, hrH8015, m8020, g8021, g8022, g8023, g8024, mf8025, m8026, m8027, m8028, hTH8015⟩ := pH8015
          subst hvH8015
          clear zH8015
          replace m8020 := EQN.mk m8020
          clear f7969 m7949 m7950 m7951 m7970 m7971 m7972 m7973 m7977 m7978 m7979
          have b8029 : ∀ j : Nat, j < 3000 + mn.toNatClampNeg → fI H8015 oq j = fI s.heap oq j ∧ fI H8015 aq j = fI s.heap aq j := fun j hj => ⟨(fI_kept (x_lt hTH7988 kH8015 goq (by decide))).trans (b7998 j hj).1, (fI_kept (x_lt hTH7988 kH8015 gaq (by decide))).trans (b7998 j hj).2⟩
          have b8030 : WF (fun k => fI H8015 oq k) (fun k => fI H8015 aq k) (3000 + mn.toNatClampNeg) (3000 + x7947.toNatClampNeg) 0 (cB (fun j => fI H7902 pq j) x7946.toNatClampNeg + 1) := WF.congr (fun j => fI_kept (x_lt hTH7988 kH8015 goq (by decide))) (fun j => fI_kept (x_lt hTH7988 kH8015 gaq (by decide))) b7999
          have b8031 : RZ (1 - jb.toInt) (fun k => fI H8015 oq k) (fun k => fI H8015 aq k) (3000 + mn.toNatClampNeg) (3000 + x7947.toNatClampNeg) (opL ((11, f82) :: t82)) := RZ.congr (fun j => fI_kept (x_lt hTH7988 kH8015 goq (by decide))) (fun j => fI_kept (x_lt hTH7988 kH8015 gaq (by decide))) rsw
          have b8032 : PQ (fun j => fI H8015 pq j) (x7989.toNatClampNeg) (x7948.toInt) (x7550.toInt) (cB (fun j => fI H7902 pq j) x7946.toNatClampNeg + 1) (1) := PQ.congr (fun j => fI_kept (x_lt hTH7988 kH8015 gpq (by decide))) pqn
          have b8033 : PX (fun j => fI H8015 pq j) (x7989.toNatClampNeg) (x7948.toInt) (ms) := PX.congr (fun j => fI_kept (x_lt hTH7988 kH8015 gpq (by decide))) pxn
          have b8034 : CXP (fun j => fI H8015 pq j) (((11, f82) :: t82)) (x7989.toNatClampNeg) := CXP.congr (fun j => fI_kept (x_lt hTH7988 kH8015 gpq (by decide))) cxn
          have f8035 : ∀ j : Nat, bt j = (fI H8015 tq j).toInt := fun j => (f8001 j).trans (congrArg Int32.toInt (fI_kept (x_lt hTH7988 kH8015 gtq (by decide))).symm)
          have m8036 := (m8006).trans (MF.r mf8025 (k := 32) (by decide) (by decide)).symm
          have m8037 := (m8007).trans (MF.r mf8025 (k := 33) (by decide) (by decide)).symm
          have m8038 := (m7990).trans (MF.r mf8025 (k := 37) (by decide) (by decide)).symm
          have m8039 := (m8009).trans (MF.r mf8025 (k := 17) (by decide) (by decide)).symm
          have m8040 := (m8010).trans (MF.i mf8025 (k := 18) (by decide) (by decide)).symm
          have m8041 := (m8011).trans (MF.i mf8025 (k := 34) (by decide) (by decide)).symm
          have m8042 := (m8012).trans (MF.i mf8025 (k := 35) (by decide) (by decide)).symm
          have m8043 := (m8013).trans (MF.i mf8025 (k := 36) (by decide) (by decide)).symm
          have m8044 := (ex7989).trans (MF.i mf8025 (k := 38) (by decide) (by decide)).symm
          have mf8045 : MF K s.heap H8015 a0 [19, 20, 21, 22, 35, 36, 38, 39, 40] := MF.trans mf8014 mf8025 (by decide)
          have bx8016 := ty_fi (x := x8016) (k := 19) ex8016 hTH8015 ga0 rg_112 rfl
          have bx8017 := ty_fi (x := x8017) (k := 20) ex8017 hTH8015 ga0 rg_112 rfl
          have bx8018 := ty_fi (x := x8018) (k := 21) ex8018 hTH8015 ga0 rg_112 rfl
          have bx8019 := ty_fi (x := x8019) (k := 22) ex8019 hTH8015 ga0 rg_112 rfl
          have cn_x8017 := i_cl (x := x8017) bx8017.1
          have cn_x7863 := i_cl (x := x7863) bx7863.1
          have cu8046 : CU bt tp.toNatClampNeg (cj + 1) x8017 x8016 x8018 x8019 := CU.next hcu139 m8026 m8027 m8028 (by omega)
          obtain ⟨r1H8015, r2H8015, r3H8015, r4H8015, r5H8015⟩ := hrH8015
          refine W.eq (g2 := F0 m 170 ls7859 []) rfl ?_
          refine lv_iconst (v := 1) hx hb dX10_readAny_170 (by decide) ?_
          refine lv_istore_n (lv' := [(2, .int 1), (0, .ref a0), (1, .int x7550)]) hx hb dX10_readAny_171 rfl hl7860 (by decide) rfl (fun ls8047 hl8048 => ?_)
          refine lv_goto (tgt := 9) hx hb dX10_readAny_172 (by decide) ?_
          have cl_1 := i_cl (x := (1 : Int32)) (by omega)
          have ca_k1 : (1 : Int32).toNatClampNeg = 1 := rfl
          have hpb := b8032.2.2.2.1
          have lx := pxc7943.2
          exact ih9 (cB (fun j => fI H7902 pq j) x7946.toNatClampNeg + 1) (cj + 1) ms ((11, f82) :: t82) zF (opL ((11, f82) :: t82)) ls8047 H8015 locsH8015 (x7550) (1) (x8016) (x8017) (x8018) (x8019) (x7947) (x7948) (x7989) (lv_sub hl8048 [1, 2, 0] rfl) hTH8015 hSH8015 bx7550 (by decide) bx8016 bx8017 bx7947 bx7948 bx7989 ex8016 ex8017 ex8018 ex8019 m8042 m8043 m8044 m8036 m8037 m8038 m8020 m8040 m8041 b8029 (WF.castE b8030 (by omega) (by omega) (by omega)) (PQ.cast b8032 (by omega) (by omega) (by omega) (by omega) (by omega)) (PX.cast b8033 (by omega) (by omega)) (CXP.cast b8034 (by omega)) (RZ.cast b8031 (by omega) (by omega) rfl) mf8045 g8021 g8022 g8023 g8024 f8035 (by omega) (by and_intros <;> first | assumption | omega) cu8046 (HD.mk (fun _ => hco139.trans (co_ao (by omega) hnh (Or.inr kw_)))) (HD.mk (fun h => by exfalso; omega)) (HD.mk cxo) (HD.mk (fun _ => ⟨rfl, ceq⟩)) (HD.mk (fun h => by exfalso; omega))
      have J109 : ∀  (ls8050 : Array Slot) (H8049 : Heap) (locsH8049 : List Loc) (x8053 : Int32) (x8054 : Int32) (x8055 : Int32) (x8056 : Int32) (x8057 : Int32) (x8058 : Int32) (x8059 : Int32), lv_has ls8050 4 [(0, .ref a0), (1, .int x7550), (2, .int x7551)] → TY K G H8049 → va_S (AE G [112, 136, 137, 138] s.heap.size) s.heap H8049 locsH8049 → (0 ≤ x7551.toInt ∧ x7551.toInt ≤ 0) → (0 ≤ x8053.toInt ∧ x8053.toInt ≤ 500) → (0 ≤ x8054.toInt ∧ x8054.toInt ≤ 500) → (0 ≤ x8057.toInt ∧ x8057.toInt ≤ 500) → (0 ≤ x8058.toInt ∧ x8058.toInt ≤ 8) → (0 ≤ x8059.toInt ∧ x8059.toInt ≤ 40) → (x8053 = fI H8049 a0 (K.1.2 10 19)) → (x8054 = fI H8049 a0 (K.1.2 10 20)) → (x8055 = fI H8049 a0 (K.1.2 10 21)) → (x8056 = fI H8049 a0 (K.1.2 10 22)) → (x8057 = fI H8049 a0 (K.1.2 10 35)) → (x8058 = fI H8049 a0 (K.1.2 10 36)) → (x8059 = fI H8049 a0 (K.1.2 10 38)) → (EQN oq (fR H8049 a0 (K.1.2 10 32))) → (EQN aq (fR H8049 a0 (K.1.2 10 33))) → (EQN pq (fR H8049 a0 (K.1.2 10 37))) → (EQN tq (fR H8049 a0 (K.1.2 10 17))) → (tp = fI H8049 a0 (K.1.2 10 18)) → (jb = fI H8049 a0 (K.1.2 10 34)) → (∀ j : Nat, j < 3000 + mn.toNatClampNeg → fI H8049 oq j = fI s.heap oq j ∧ fI H8049 aq j = fI s.heap aq j) → (WF (fun k => fI H8049 oq k) (fun k => fI H8049 aq k) (3000 + mn.toNatClampNeg) (3000 + x8057.toNatClampNeg) 0 (B + 1 - x7551.toNatClampNeg)) → (PQ (fun j => fI H8049 pq j) (x8059.toNatClampNeg) (x8058.toInt) (x7550.toInt) (B) (x7551.toInt)) → (PX (fun j => fI H8049 pq j) (x8059.toNatClampNeg) (x8058.toInt) (ms)) → (CXP (fun j => fI H8049 pq j) (t_) (x8059.toNatClampNeg)) → (RZ (1 - jb.toInt) (fun k => fI H8049 oq k) (fun k => fI H8049 aq k) (3000 + mn.toNatClampNeg) (3000 + x8057.toNatClampNeg) (dl)) → (MF K s.heap H8049 a0 [19, 20, 21, 22, 35, 36, 38, 39, 40]) → (CG (avw K H8049 a0)) → (TU (avw K H8049 a0) (svw K H8049 a0)) → (WD (avw K H8049 a0)) → (IM (avw K H8049 a0)) → (∀ j : Nat, bt j = (fI H8049 tq j).toInt) → ((x8053.toInt ≤ tp.toInt ∧ x8054.toInt ≤ x8053.toInt ∧ (x8055.toInt = 0 ∨ x8054.toInt < x8053.toInt) ∧ (x8055.toInt ≠ 2 ∨ (0 ≤ x8056.toInt ∧ x8056.toInt ≤ 23))) ∧ x8057.toInt + x8059.toInt + fr.toInt ≤ mn.toInt + x8054.toInt ∧ mn.toInt ≤ x8057.toInt ∧ fr.toInt ≤ x8054.toInt ∧ x8054.toInt = x7553.toInt) → (CU bt tp.toNatClampNeg cj x8054 x8053 x8055 x8056) → (lpI (paS (kK bt tp.toNatClampNeg) (vV bt tp.toNatClampNeg) (1 - jb.toInt) 8) (cAO (kK bt tp.toNatClampNeg)) ci = coI (kK bt tp.toNatClampNeg) (vV bt tp.toNatClampNeg) (1 - jb.toInt) ms cj) → (HD (dl = f_ :: opL t_ ∧ B01 f_ ∧ hT9 t_ ∧ duF (kK bt tp.toNatClampNeg) (vV bt tp.toNatClampNeg) (1 - jb.toInt) [] ci = coF (kK bt tp.toNatClampNeg) (vV bt tp.toNatClampNeg) (1 - jb.toInt) t_ false f_ cj)) → W p l e ({ frames := 7, cells := 0, slots := 0, locals := 149 } : Room) s m (([.ref a0] : List Value).toArray) below meth c H8049 locsH8049 0 0 Q (F0 m 109 ls8050 []) := by
        intro  ls8050 H8049 locsH8049 x8053 x8054 x8055 x8056 x8057 x8058 x8059 hl8051 hTH8049 hSH8049 b8052 bx8053 bx8054 bx8057 bx8058 bx8059 ex8053 ex8054 ex8055 ex8056 ex8057 ex8058 ex8059 cy8060_0 cy8060_1 cy8060_2 cy8060_3 cy8060_4 cy8060_5 by8060_pf by8060_wf by8060_pq by8060_px by8060_cx by8060_rs mfy8060 gy8060_CG gy8060_TU gy8060_WD gy8060_IM fy8060_bt iv109 hcu109 hco109 hg109
        clear i1 i2 i3 i4 i5 i6 i7
        obtain ⟨⟨i1, i2, i3, i4⟩, i5, i6, i7, i8⟩ := iv109
        refine lv_aload_n hx hb dX10_readAny_109 rfl (lv_at hl8051 0 rfl) ?_
        refine lv_bipush (v := 8) hx hb dX10_readAny_110 (by decide) ?_
        refine x_V (As := [.int 8]) (rest := []) C (a_X10_isWord_e l K G H8049 (8) (x8055) (x8056) hTH8049 ga0 ex8055 ex8056) yo_X10_isWord wM_X10_264 ⟨⟨by decide, by decide⟩, by decide, by decide⟩ (x_rv C hTH8049 (ci := 10) rfl ga0 rg_112) rfl hl8051.1 rfl (Nat.le_of_ble_eq_true rfl) dX10_readAny_112 hSH8049 (AE_sub (fun _ _ => rfl) (by decide) hSH8049.1) (fun vH8061 H8061 locsH8061 pH8061 zH8061 kH8061 hSH8061 => ?_)
        obtain ⟨x8062, hvH8061, bx8062, hrH8061, hTH8061⟩ := pH8061
        subst hvH8061
        clear zH8061
        have mf8063 : MF K s.heap H8061 a0 [19, 20, 21, 22, 35, 36, 38, 39, 40] := MF.eff (x_lt hTH8049 kH8061 ga0 (by decide)) mfy8060
        have b8064 : ∀ j : Nat, j < 3000 + mn.toNatClampNeg → fI H8061 oq j = fI s.heap oq j ∧ fI H8061 aq j = fI s.heap aq j := fun j hj => ⟨(fI_kept (x_lt hTH8049 kH8061 goq (by decide))).trans (by8060_pf j hj).1, (fI_kept (x_lt hTH8049 kH8061 gaq (by decide))).trans (by8060_pf j hj).2⟩
        have b8065 : WF (fun k => fI H8061 oq k) (fun k => fI H8061 aq k) (3000 + mn.toNatClampNeg) (3000 + x8057.toNatClampNeg) 0 (B + 1 - x7551.toNatClampNeg) := WF.congr (fun j => fI_kept (x_lt hTH8049 kH8061 goq (by decide))) (fun j => fI_kept (x_lt hTH8049 kH8061 gaq (by decide))) by8060_wf
        have b8066 : PQ (fun j => fI H8061 pq j) (x8059.toNatClampNeg) (x8058.toInt) (x7550.toInt) (B) (x7551.toInt) := PQ.congr (fun j => fI_kept (x_lt hTH8049 kH8061 gpq (by decide))) by8060_pq
        have b8067 : PX (fun j => fI H8061 pq j) (x8059.toNatClampNeg) (x8058.toInt) (ms) := PX.congr (fun j => fI_kept (x_lt hTH8049 kH8061 gpq (by decide))) by8060_px
        have b8068 : CXP (fun j => fI H8061 pq j) (t_) (x8059.toNatClampNeg) := CXP.congr (fun j => fI_kept (x_lt hTH8049 kH8061 gpq (by decide))) by8060_cx
        have b8069 : RZ (1 - jb.toInt) (fun k => fI H8061 oq k) (fun k => fI H8061 aq k) (3000 + mn.toNatClampNeg) (3000 + x8057.toNatClampNeg) (dl) := RZ.congr (fun j => fI_kept (x_lt hTH8049 kH8061 goq (by decide))) (fun j => fI_kept (x_lt hTH8049 kH8061 gaq (by decide))) by8060_rs
        have g8070 : CG (avw K H8061 a0) := CG.congr (fun k hk j => av_eff hTH8049 kH8061 ga0 (by decide) (CG_eff [] (by decide) k hk)) gy8060_CG
        have g8071 : TU (avw K H8061 a0) (svw K H8061 a0) := TU.congr (fun k hk j => av_eff hTH8049 kH8061 ga0 (by decide) (TU_eff [] (by decide) k hk)) (fun k hk => sv_eff hTH8049 kH8061 ga0 (by decide)) gy8060_TU
        have g8072 : WD (avw K H8061 a0) := WD.congr (fun k hk j => av_eff hTH8049 kH8061 ga0 (by decide) (WD_eff [] (by decide) k hk)) gy8060_WD
        have g8073 : IM (avw K H8061 a0) := IM.congr (fun k hk j => av_eff hTH8049 kH8061 ga0 (by decide) (IM_eff [] (by decide) k hk)) gy8060_IM
        have f8074 : ∀ j : Nat, bt j = (fI H8061 tq j).toInt := fun j => (fy8060_bt j).trans (congrArg Int32.toInt (fI_kept (x_lt hTH8049 kH8061 gtq (by decide))).symm)
        have m8075 := (ex8053).trans (fI_kept (x_lt hTH8049 kH8061 ga0 (by decide))).symm
        have m8076 := (ex8054).trans (fI_kept (x_lt hTH8049 kH8061 ga0 (by decide))).symm
        have m8077 := (ex8055).trans (fI_kept (x_lt hTH8049 kH8061 ga0 (by decide))).symm
        have m8078 := (ex8056).trans (fI_kept (x_lt hTH8049 kH8061 ga0 (by decide))).symm
        have m8079 := (ex8057).trans (fI_kept (x_lt hTH8049 kH8061 ga0 (by decide))).symm
        have m8080 := (ex8058).trans (fI_kept (x_lt hTH8049 kH8061 ga0 (by decide))).symm
        have m8081 := (ex8059).trans (fI_kept (x_lt hTH8049 kH8061 ga0 (by decide))).symm
        have m8082 := (cy8060_0).trans (fR_kept (x_lt hTH8049 kH8061 ga0 (by decide))).symm
        have m8083 := (cy8060_1).trans (fR_kept (x_lt hTH8049 kH8061 ga0 (by decide))).symm
        have m8084 := (cy8060_2).trans (fR_kept (x_lt hTH8049 kH8061 ga0 (by decide))).symm
        have m8085 := (cy8060_3).trans (fR_kept (x_lt hTH8049 kH8061 ga0 (by decide))).symm
        have m8086 := (cy8060_4).trans (fI_kept (x_lt hTH8049 kH8061 ga0 (by decide))).symm
        have m8087 := (cy8060_5).trans (fI_kept (x_lt hTH8049 kH8061 ga0 (by decide))).symm
        refine W.eq (g2 := F0 m 115 ls8050 [.int x8062]) rfl ?_
        refine lv_if_eq (tgt := 139) hx hb dX10_readAny_115 (by decide) (fun c8088 => ?_) (fun c8088 => ?_)
        · have k8089 := i_eq c8088
          have cl_mn := i_cl (x := mn) (by omega)
          have cl_x8057 := i_cl (x := x8057) bx8057.1
          have cl_x8059 := i_cl (x := x8059) bx8059.1
          have ka_ : kK bt tp.toNatClampNeg cj ≠ 9 := fun e => by have z2 := (TV.wd hcu109.2.2.1).mpr (by omega); have z1 := TV.wv hcu109.2.2.1 z2; omega
          exact J139  ls8050 H8061 locsH8061 (x8053) (x8054) (x8055) (x8056) (x8057) (x8058) (x8059) (lv_sub hl8051 [0, 1, 2] rfl) hTH8061 hSH8061 ⟨by have := i_rng x7551; omega, by have := i_rng x7551; omega⟩ bx8053 bx8054 bx8057 bx8058 bx8059 m8075 m8076 m8077 m8078 m8079 m8080 m8081 m8082 m8083 m8084 m8085 m8086 m8087 b8064 (WF.castE b8065 (by omega) (by omega) (by omega)) (PQ.cast b8066 (by omega) (by omega) (by omega) (by omega) (by omega)) (PX.cast b8067 (by omega) (by omega)) (CXP.cast b8068 (by omega)) (RZ.cast b8069 (by omega) (by omega) rfl) mf8063 g8070 g8071 g8072 g8073 f8074 (by and_intros <;> first | assumption | omega) hcu109 ka_ hco109 hg109
        · have k8089 := i_ne c8088
          replace hrH8061 := hrH8061.resolve_left (fun h => absurd h.1 (by omega))
          replace i3 := i3.resolve_left (by omega)
          clear i4
          have kw_ : kK bt tp.toNatClampNeg cj = 9 := by have z1 := TV.wv hcu109.2.2.1 (by omega); omega
          have rsd8090 : RZ (1 - jb.toInt) (fun k => fI H8061 oq k) (fun k => fI H8061 aq k) (3000 + mn.toNatClampNeg) (3000 + x8057.toNatClampNeg) (f_ :: opL t_) := RZ.cast b8069 rfl rfl (HD.get hg109).1.symm
          refine lv_aload_n hx hb dX10_readAny_118 rfl (lv_at hl8051 0 rfl) ?_
          refine lv_bipush (v := 10) hx hb dX10_readAny_119 (by decide) ?_
          have cc_x8059 := i_cl (x := x8059) bx8059.1
          have cc_x8057 := i_cl (x := x8057) bx8057.1
          have pqc : PQ (fun j => fI H8061 pq j) (x8059.toNatClampNeg) (x8058.toInt) (x7550.toInt) (B) (x7551.toInt) := PQ.cast b8066 (by omega) (by omega) rfl rfl rfl
          have hcb := pqc.2.2.2.1
          have hco := pqc.2.1
          have hck := pqc.2.2.1
          have pxc8091 : PX (fun j => fI H8061 pq j) (x8059.toNatClampNeg) (x8058.toInt) (ms) := PX.cast b8067 (by omega) (by omega)
          have hnh : nh ms = true := by rw [← pxc8091.1]; exact nh_0 pqc.1 (pqc.2.2.2.2.resolve_left (by omega))
          have cn_x8059 := i_cl (x := x8059) bx8059.1
          have cn_x8059 := i_cl (x := x8059) bx8059.1
          have cxc8092 : CXP (fun j => fI H8061 pq j) (t_) (x8059.toNatClampNeg) := CXP.cast b8068 (by omega)
          refine x_V (As := [.int 10]) (rest := []) C (a_X10_settles_g l K G H8061 (10) (mn) (x8059) (x8057) (x8058) (jb) (t_) (f_) hTH8061 ga0 (by decide) goq m8082 gaq m8083 gpq m8084 m8081 m8079 m8080 m8087 g8070 g8071 g8072 g8073 (WF.castE b8065 (by omega) (by omega) (by omega)) (RZ.cast rsd8090 (by omega) (by omega) rfl) (by and_intros <;> first | assumption | omega) (by and_intros <;> first | assumption | omega) (pqc.1) (pqc.2.1) (cxc8092) ((HD.get hxo9)) ((HD.get hg109).2.1)) yo_X10_settles wM_X10_273 ⟨⟨by decide, by decide⟩, by decide, by decide⟩ (x_rv C hTH8061 (ci := 10) rfl ga0 rg_112) rfl hl8051.1 rfl (Nat.le_of_ble_eq_true rfl) dX10_readAny_121 hSH8061 (AE_sub (fun _ _ => rfl) (by decide) hSH8061.1) (fun vH8093 H8093 locsH8093 pH8093 zH8093 kH8093 hSH8093 => ?_)
          obtain ⟨x8094, x8095, x8096, hvH8093, ex8094, ex8095, ex8096, hrH8093, m8097, m8098, m8099, g8100, g8101, g8102, g8103, mf8104, m8105, m8106, m8107, m8108, m8109, m8110, m8111, m8112, m8113, hTH8093⟩ := pH8093
          subst hvH8093
          clear zH8093
          replace m8097 := EQN.mk m8097
          replace m8098 := EQN.mk m8098
          replace m8099 := EQN.mk m8099
          have b8114 : PQ (fun j => fI H8093 pq j) (x8059.toNatClampNeg) (x8058.toInt) (x7550.toInt) (B) (x7551.toInt) := PQ.congr (fun j => fI_kept (x_lt hTH8061 kH8093 gpq (by decide))) pqc
          have b8115 : PX (fun j => fI H8093 pq j) (x8059.toNatClampNeg) (x8058.toInt) (ms) := PX.congr (fun j => fI_kept (x_lt hTH8061 kH8093 gpq (by decide))) pxc8091
          have b8116 : CXP (fun j => fI H8093 pq j) (t_) (x8059.toNatClampNeg) := CXP.congr (fun j => fI_kept (x_lt hTH8061 kH8093 gpq (by decide))) cxc8092
          have f8117 : ∀ j : Nat, bt j = (fI H8093 tq j).toInt := fun j => (f8074 j).trans (congrArg Int32.toInt (fI_kept (x_lt hTH8061 kH8093 gtq (by decide))).symm)
          have m8118 := (m8075).trans (MF.i mf8104 (k := 19) (by decide) (by decide)).symm
          have m8119 := (m8076).trans (MF.i mf8104 (k := 20) (by decide) (by decide)).symm
          have m8120 := (m8077).trans (MF.i mf8104 (k := 21) (by decide) (by decide)).symm
          have m8121 := (m8078).trans (MF.i mf8104 (k := 22) (by decide) (by decide)).symm
          have m8122 := (m8082).trans (MF.r mf8104 (k := 32) (by decide) (by decide)).symm
          have m8123 := (m8083).trans (MF.r mf8104 (k := 33) (by decide) (by decide)).symm
          have m8124 := (m8084).trans (MF.r mf8104 (k := 37) (by decide) (by decide)).symm
          have m8125 := (m8085).trans (MF.r mf8104 (k := 17) (by decide) (by decide)).symm
          have m8126 := (m8086).trans (MF.i mf8104 (k := 18) (by decide) (by decide)).symm
          have m8127 := (m8087).trans (MF.i mf8104 (k := 34) (by decide) (by decide)).symm
          have mf8128 : MF K s.heap H8093 a0 [19, 20, 21, 22, 35, 36, 38, 39, 40] := MF.trans mf8063 mf8104 (by decide)
          have bx8094 := ty_fi (x := x8094) (k := 38) ex8094 hTH8093 ga0 rg_112 rfl
          have bx8095 := ty_fi (x := x8095) (k := 35) ex8095 hTH8093 ga0 rg_112 rfl
          have bx8096 := ty_fi (x := x8096) (k := 36) ex8096 hTH8093 ga0 rg_112 rfl
          obtain ⟨raH8093, rbH8093, rcH8093⟩ := hrH8093
          replace rcH8093 := rcH8093.resolve_left (fun h => absurd (n_10.symm.trans h.1) (by decide))
          replace m8108 := HD.mk m8108
          replace m8110 := HD.mk m8110
          have cs_mn := i_cl (x := mn) (by omega)
          have b8129 : ∀ j : Nat, j < 3000 + mn.toNatClampNeg → fI H8093 oq j = fI s.heap oq j ∧ fI H8093 aq j = fI s.heap aq j := fun j hj => ⟨(m8105 j (by omega)).1.trans (b8064 j hj).1, (m8105 j (by omega)).2.trans (b8064 j hj).2⟩
          have b8130 : WF (fun k => fI H8093 oq k) (fun k => fI H8093 aq k) (3000 + mn.toNatClampNeg) (3000 + x8057.toNatClampNeg) 0 (B + 1 - x7551.toNatClampNeg) := WF.keep b8065 (fun j hj => (m8105 j (by omega)).1) (fun j hj => (m8105 j (by omega)).2)
          have b8131 : RZ (1 - jb.toInt) (fun k => fI H8093 oq k) (fun k => fI H8093 aq k) (3000 + mn.toNatClampNeg) (3000 + x8057.toNatClampNeg) (f_ :: opL t_) := RZ.keep rsd8090 (fun j hj => (m8105 j (by omega)).1) (fun j hj => (m8105 j (by omega)).2)
          refine W.eq (g2 := F0 m 124 ls8050 []) rfl ?_
          have cc_x8094 := i_cl (x := x8094) bx8094.1
          have cc_x8095 := i_cl (x := x8095) bx8095.1
          have eqp : ∀ j : Nat, fI H8093 pq j = fI H8061 pq j := fun j => fI_kept (x_lt hTH8061 kH8093 gpq (by decide))
          have pq0 : PQ (fun j => fI H8061 pq j) (x8094.toNatClampNeg) (x8096.toInt) (x7550.toInt) (cB (fun j => fI H8061 pq j) x8094.toNatClampNeg) 0 := PQ.settle (w := 10) pqc (by omega) m8106 m8107 (by decide) ((m8108.out).imp (fun h => by omega) (fun h => by show (fI _ pq _).toInt ≠ 10; rw [n_10] at h; exact h)) ((m8110.out).imp (fun h => by omega) (fun h => by show (fI _ pq _).toInt = 10; rw [n_10] at h; exact h)) (Or.inr (by omega))
          have pqn : PQ (fun j => fI H8093 pq j) (x8094.toNatClampNeg) (x8096.toInt) (x7550.toInt) (cB (fun j => fI H8061 pq j) x8094.toNatClampNeg) (0) := PQ.congr eqp pq0
          have t10 : HD (x8094.toNatClampNeg = 0 ∨ (fI H8093 pq (x8094.toNatClampNeg - 1)).toInt = 11 ∨ (fI H8093 pq (x8094.toNatClampNeg - 1)).toInt = 12) := PQ.top10 pqn ((m8108.out).imp (fun h => by omega) (fun h => by show (fI _ pq _).toInt ≠ 10; rw [eqp]; rw [n_10] at h; exact h))
          have pq10 := pqn
          have px8132 : PX (fun j => fI H8061 pq j) (x8094.toNatClampNeg) (x8096.toInt) (ms) := PX.settleX pxc8091 hnh m8112 m8111 (by omega)
          have px8133 : PX (fun j => fI H8093 pq j) (x8094.toNatClampNeg) (x8096.toInt) (ms) := PX.congr eqp px8132
          obtain ⟨t81, f81, hs81, rs81, cx81⟩ := m8113
          rw [n_10] at hs81
          have hq81 := stL_10 (kk := (kK bt tp.toNatClampNeg)) (vv := (vV bt tp.toNatClampNeg)) (lw := (1 - jb.toInt)) (j := cj) hs81 (HD.get hg109).2.2.1 (HD.get hxo9)
          have hk81 := stL_ok (by decide) hs81 (HD.get hxo9) (HD.get hg109).2.1
          have ce81 : duF (kK bt tp.toNatClampNeg) (vV bt tp.toNatClampNeg) (1 - jb.toInt) [] ci = coF (kK bt tp.toNatClampNeg) (vV bt tp.toNatClampNeg) (1 - jb.toInt) t81 false f81 cj := ((HD.get hg109).2.2.2).trans hq81.1
          have cy81 : CXP (fun j => fI H8093 pq j) (t81) (x8094.toNatClampNeg) := CXP.congr eqp cx81
          refine lv_aload_n hx hb dX10_readAny_124 rfl (lv_at hl8051 0 rfl) ?_
          refine lv_bipush (v := 10) hx hb dX10_readAny_125 (by decide) ?_
          have pqc : PQ (fun j => fI H8093 pq j) (x8094.toNatClampNeg) (x8096.toInt) (x7550.toInt) (cB (fun j => fI H8061 pq j) x8094.toNatClampNeg) (0) := PQ.cast pqn (by omega) (by omega) rfl rfl rfl
          have hcb := pqc.2.2.2.1
          have hco := pqc.2.1
          have hck := pqc.2.2.1
          have h26 := PD.n26 pqc.1 (by omega)
          have pxc8134 : PX (fun j => fI H8093 pq j) (x8094.toNatClampNeg) (x8096.toInt) (ms) := PX.cast px8133 (by omega) (by omega)
          have cn_x8094 := i_cl (x := x8094) bx8094.1
          have cn_x8094 := i_cl (x := x8094) bx8094.1
          have cxc8135 : CXP (fun j => fI H8093 pq j) (t81) (x8094.toNatClampNeg) := CXP.cast cy81 (by omega)
          refine x_V (As := [.int 10]) (rest := []) C (a_X10_waits l K G H8093 (10) (x8094) hTH8093 ga0 gpq m8099 ex8094 g8100 g8101 g8102 g8103 (by and_intros <;> first | assumption | omega)) yo_X10_waits wM_X10_267 ⟨⟨by decide, by decide⟩, by decide, by decide⟩ (x_rv C hTH8093 (ci := 10) rfl ga0 rg_112) rfl hl8051.1 rfl (Nat.le_of_ble_eq_true rfl) dX10_readAny_127 hSH8093 (AE_sub (fun _ _ => rfl) (by decide) hSH8093.1) (fun vH8136 H8136 locsH8136 pH8136 zH8136 kH8136 hSH8136 => ?_)
          obtain ⟨x8137, hvH8136, ex8137, hrH8136, m8138, g8139, g8140, g8141, g8142, mf8143, m8144, m8145, hTH8136⟩ := pH8136
          subst hvH8136
          clear zH8136
          replace m8138 := EQN.mk m8138
          clear f8074 m8075 m8076 m8077 m8078 m8079 m8080 m8081 m8082 m8083 m8084 m8085 m8086 m8087
          have b8146 : ∀ j : Nat, j < 3000 + mn.toNatClampNeg → fI H8136 oq j = fI s.heap oq j ∧ fI H8136 aq j = fI s.heap aq j := fun j hj => ⟨(fI_kept (x_lt hTH8093 kH8136 goq (by decide))).trans (b8129 j hj).1, (fI_kept (x_lt hTH8093 kH8136 gaq (by decide))).trans (b8129 j hj).2⟩
          have b8147 : WF (fun k => fI H8136 oq k) (fun k => fI H8136 aq k) (3000 + mn.toNatClampNeg) (3000 + x8095.toNatClampNeg) 0 (cB (fun j => fI H8061 pq j) x8094.toNatClampNeg + 1) := WF.congr (fun j => fI_kept (x_lt hTH8093 kH8136 goq (by decide))) (fun j => fI_kept (x_lt hTH8093 kH8136 gaq (by decide))) m8109
          have b8148 : RZ (1 - jb.toInt) (fun k => fI H8136 oq k) (fun k => fI H8136 aq k) (3000 + mn.toNatClampNeg) (3000 + x8095.toNatClampNeg) (f81 :: opL t81) := RZ.congr (fun j => fI_kept (x_lt hTH8093 kH8136 goq (by decide))) (fun j => fI_kept (x_lt hTH8093 kH8136 gaq (by decide))) rs81
          have f8149 : ∀ j : Nat, bt j = (fI H8136 tq j).toInt := fun j => (f8117 j).trans (congrArg Int32.toInt (fI_kept (x_lt hTH8093 kH8136 gtq (by decide))).symm)
          have m8150 := (m8118).trans (MF.i mf8143 (k := 19) (by decide) (by decide)).symm
          have m8151 := (m8119).trans (MF.i mf8143 (k := 20) (by decide) (by decide)).symm
          have m8152 := (m8120).trans (MF.i mf8143 (k := 21) (by decide) (by decide)).symm
          have m8153 := (m8121).trans (MF.i mf8143 (k := 22) (by decide) (by decide)).symm
          have m8154 := (m8097).trans (MF.r mf8143 (k := 32) (by decide) (by decide)).symm
          have m8155 := (m8098).trans (MF.r mf8143 (k := 33) (by decide) (by decide)).symm
          have m8156 := (m8099).trans (MF.r mf8143 (k := 37) (by decide) (by decide)).symm
          have m8157 := (m8125).trans (MF.r mf8143 (k := 17) (by decide) (by decide)).symm
          have m8158 := (m8126).trans (MF.i mf8143 (k := 18) (by decide) (by decide)).symm
          have m8159 := (m8127).trans (MF.i mf8143 (k := 34) (by decide) (by decide)).symm
          have m8160 := (ex8095).trans (MF.i mf8143 (k := 35) (by decide) (by decide)).symm
          have m8161 := (ex8096).trans (MF.i mf8143 (k := 36) (by decide) (by decide)).symm
          have mf8162 : MF K s.heap H8136 a0 [19, 20, 21, 22, 35, 36, 38, 39, 40] := MF.trans mf8128 mf8143 (by decide)
          have bx8137 := ty_fi (x := x8137) (k := 38) ex8137 hTH8136 ga0 rg_112 rfl
          refine W.eq (g2 := F0 m 130 ls8050 []) rfl ?_
          have cc_x8137 := i_cl (x := x8137) bx8137.1
          have hwx := congrArg Int32.toInt m8144
          have pqn : PQ (fun j => fI H8136 pq j) (x8137.toNatClampNeg) (x8096.toInt) (x7550.toInt) (cB (fun j => fI H8061 pq j) x8094.toNatClampNeg + 1) (1) := PQ.push (v := 10) pqc (by show (fI _ pq _).toInt = 10; rw [← m8144]; rfl) m8145 (by omega) (Or.inr (Or.inr (Or.inl ⟨rfl, rfl, rfl, rfl, t10⟩)))
          have pxn : PX (fun j => fI H8136 pq j) (x8137.toNatClampNeg) (x8096.toInt) (ms) := PX.push (v := 10) pxc8134 (by show (fI _ pq _).toInt = 10; rw [← m8144]; rfl) m8145 (by omega) (Or.inr (Or.inr ⟨Or.inl rfl, rfl, rfl⟩))
          have cxn : CXP (fun j => fI H8136 pq j) (((10, f81) :: t81)) (x8137.toNatClampNeg) := CXP.push (g := f81) cxc8135 (by show (fI _ pq _).toInt = 10; rw [← m8144]; rfl) m8145 (by omega)
          have ceq : duF (kK bt tp.toNatClampNeg) (vV bt tp.toNatClampNeg) (1 - jb.toInt) [] ci = duF (kK bt tp.toNatClampNeg) (vV bt tp.toNatClampNeg) (1 - jb.toInt) ((10, f81) :: t81) (cj + 1) := (ce81).trans (coF_an hq81.2 kw_ rfl)
          have cxo : CXO ((10, f81) :: t81) := CXO.a hk81.1 hk81.2 hq81.2
          have rsw : RZ (1 - jb.toInt) (fun k => fI H8136 oq k) (fun k => fI H8136 aq k) (3000 + mn.toNatClampNeg) (3000 + x8095.toNatClampNeg) (opL ((10, f81) :: t81)) := RZ.cast b8148 rfl rfl (opL_a (by decide))
          refine lv_aload_n hx hb dX10_readAny_130 rfl (lv_at hl8051 0 rfl) ?_
          refine x_V (As := []) (rest := []) C (a_X10_reads_e l K G H8136 (x8053) (x8054) (x8055) (x8056) (tp) bt hTH8136 ga0 gtq m8157 m8150 m8151 m8152 m8153 m8158 g8139 g8140 g8141 g8142 (by and_intros <;> first | assumption | omega) (hy1) f8149) yo_X10_reads wM_X10_242 ⟨⟨by decide, by decide⟩, by decide, by decide⟩ (x_rv C hTH8136 (ci := 10) rfl ga0 rg_112) rfl hl8051.1 rfl (Nat.le_of_ble_eq_true rfl) dX10_readAny_131 hSH8136 (AE_sub (fun _ _ => rfl) (by decide) hSH8136.1) (fun vH8163 H8163 locsH8163 pH8163 zH8163 kH8163 hSH8163 => ?_)
          obtain ⟨x8164, x8165, x8166, x8167, hvH8163, ex8164, ex8165, ex8166, ex8167, hrH8163, m8168, g8169, g8170, g8171, g8172, mf8173, m8174, m8175, m8176, hTH8163⟩ := pH8163
          subst hvH8163
          clear zH8163
          replace m8168 := EQN.mk m8168
          clear f8117 m8097 m8098 m8099 m8118 m8119 m8120 m8121 m8125 m8126 m8127
          have b8177 : ∀ j : Nat, j < 3000 + mn.toNatClampNeg → fI H8163 oq j = fI s.heap oq j ∧ fI H8163 aq j = fI s.heap aq j := fun j hj => ⟨(fI_kept (x_lt hTH8136 kH8163 goq (by decide))).trans (b8146 j hj).1, (fI_kept (x_lt hTH8136 kH8163 gaq (by decide))).trans (b8146 j hj).2⟩
          have b8178 : WF (fun k => fI H8163 oq k) (fun k => fI H8163 aq k) (3000 + mn.toNatClampNeg) (3000 + x8095.toNatClampNeg) 0 (cB (fun j => fI H8061 pq j) x8094.toNatClampNeg + 1) := WF.congr (fun j => fI_kept (x_lt hTH8136 kH8163 goq (by decide))) (fun j => fI_kept (x_lt hTH8136 kH8163 gaq (by decide))) b8147
          have b8179 : RZ (1 - jb.toInt) (fun k => fI H8163 oq k) (fun k => fI H8163 aq k) (3000 + mn.toNatClampNeg) (3000 + x8095.toNatClampNeg) (opL ((10, f81) :: t81)) := RZ.congr (fun j => fI_kept (x_lt hTH8136 kH8163 goq (by decide))) (fun j => fI_kept (x_lt hTH8136 kH8163 gaq (by decide))) rsw
          have b8180 : PQ (fun j => fI H8163 pq j) (x8137.toNatClampNeg) (x8096.toInt) (x7550.toInt) (cB (fun j => fI H8061 pq j) x8094.toNatClampNeg + 1) (1) := PQ.congr (fun j => fI_kept (x_lt hTH8136 kH8163 gpq (by decide))) pqn
          have b8181 : PX (fun j => fI H8163 pq j) (x8137.toNatClampNeg) (x8096.toInt) (ms) := PX.congr (fun j => fI_kept (x_lt hTH8136 kH8163 gpq (by decide))) pxn
          have b8182 : CXP (fun j => fI H8163 pq j) (((10, f81) :: t81)) (x8137.toNatClampNeg) := CXP.congr (fun j => fI_kept (x_lt hTH8136 kH8163 gpq (by decide))) cxn
          have f8183 : ∀ j : Nat, bt j = (fI H8163 tq j).toInt := fun j => (f8149 j).trans (congrArg Int32.toInt (fI_kept (x_lt hTH8136 kH8163 gtq (by decide))).symm)
          have m8184 := (m8154).trans (MF.r mf8173 (k := 32) (by decide) (by decide)).symm
          have m8185 := (m8155).trans (MF.r mf8173 (k := 33) (by decide) (by decide)).symm
          have m8186 := (m8138).trans (MF.r mf8173 (k := 37) (by decide) (by decide)).symm
          have m8187 := (m8157).trans (MF.r mf8173 (k := 17) (by decide) (by decide)).symm
          have m8188 := (m8158).trans (MF.i mf8173 (k := 18) (by decide) (by decide)).symm
          have m8189 := (m8159).trans (MF.i mf8173 (k := 34) (by decide) (by decide)).symm
          have m8190 := (m8160).trans (MF.i mf8173 (k := 35) (by decide) (by decide)).symm
          have m8191 := (m8161).trans (MF.i mf8173 (k := 36) (by decide) (by decide)).symm
          have m8192 := (ex8137).trans (MF.i mf8173 (k := 38) (by decide) (by decide)).symm
          have mf8193 : MF K s.heap H8163 a0 [19, 20, 21, 22, 35, 36, 38, 39, 40] := MF.trans mf8162 mf8173 (by decide)
          have bx8164 := ty_fi (x := x8164) (k := 19) ex8164 hTH8163 ga0 rg_112 rfl
          have bx8165 := ty_fi (x := x8165) (k := 20) ex8165 hTH8163 ga0 rg_112 rfl
          have bx8166 := ty_fi (x := x8166) (k := 21) ex8166 hTH8163 ga0 rg_112 rfl
          have bx8167 := ty_fi (x := x8167) (k := 22) ex8167 hTH8163 ga0 rg_112 rfl
          have cn_x8165 := i_cl (x := x8165) bx8165.1
          have cn_x8054 := i_cl (x := x8054) bx8054.1
          have cu8194 : CU bt tp.toNatClampNeg (cj + 1) x8165 x8164 x8166 x8167 := CU.next hcu109 m8174 m8175 m8176 (by omega)
          obtain ⟨r1H8163, r2H8163, r3H8163, r4H8163, r5H8163⟩ := hrH8163
          refine W.eq (g2 := F0 m 134 ls8050 []) rfl ?_
          refine lv_iconst (v := 1) hx hb dX10_readAny_134 (by decide) ?_
          refine lv_istore_n (lv' := [(2, .int 1), (0, .ref a0), (1, .int x7550)]) hx hb dX10_readAny_135 rfl hl8051 (by decide) rfl (fun ls8195 hl8196 => ?_)
          refine lv_goto (tgt := 9) hx hb dX10_readAny_136 (by decide) ?_
          have cl_1 := i_cl (x := (1 : Int32)) (by omega)
          have ca_k1 : (1 : Int32).toNatClampNeg = 1 := rfl
          have hpb := b8180.2.2.2.1
          have lx := pxc8091.2
          exact ih9 (cB (fun j => fI H8061 pq j) x8094.toNatClampNeg + 1) (cj + 1) ms ((10, f81) :: t81) zF (opL ((10, f81) :: t81)) ls8195 H8163 locsH8163 (x7550) (1) (x8164) (x8165) (x8166) (x8167) (x8095) (x8096) (x8137) (lv_sub hl8196 [1, 2, 0] rfl) hTH8163 hSH8163 bx7550 (by decide) bx8164 bx8165 bx8095 bx8096 bx8137 ex8164 ex8165 ex8166 ex8167 m8190 m8191 m8192 m8184 m8185 m8186 m8168 m8188 m8189 b8177 (WF.castE b8178 (by omega) (by omega) (by omega)) (PQ.cast b8180 (by omega) (by omega) (by omega) (by omega) (by omega)) (PX.cast b8181 (by omega) (by omega)) (CXP.cast b8182 (by omega)) (RZ.cast b8179 (by omega) (by omega) rfl) mf8193 g8169 g8170 g8171 g8172 f8183 (by omega) (by and_intros <;> first | assumption | omega) cu8194 (HD.mk (fun _ => hco109.trans (co_ao (by omega) hnh (Or.inl kw_)))) (HD.mk (fun h => by exfalso; omega)) (HD.mk cxo) (HD.mk (fun _ => ⟨rfl, ceq⟩)) (HD.mk (fun h => by exfalso; omega))
      have J88 : ∀  (ls8198 : Array Slot) (H8197 : Heap) (locsH8197 : List Loc) (x8200 : Int32) (x8201 : Int32) (x8202 : Int32) (x8203 : Int32) (x8204 : Int32) (x8205 : Int32) (x8206 : Int32), lv_has ls8198 4 [(0, .ref a0), (1, .int x7550)] → TY K G H8197 → va_S (AE G [112, 136, 137, 138] s.heap.size) s.heap H8197 locsH8197 → (0 ≤ x8200.toInt ∧ x8200.toInt ≤ 500) → (0 ≤ x8201.toInt ∧ x8201.toInt ≤ 500) → (0 ≤ x8204.toInt ∧ x8204.toInt ≤ 500) → (0 ≤ x8205.toInt ∧ x8205.toInt ≤ 8) → (0 ≤ x8206.toInt ∧ x8206.toInt ≤ 40) → (x8200 = fI H8197 a0 (K.1.2 10 19)) → (x8201 = fI H8197 a0 (K.1.2 10 20)) → (x8202 = fI H8197 a0 (K.1.2 10 21)) → (x8203 = fI H8197 a0 (K.1.2 10 22)) → (x8204 = fI H8197 a0 (K.1.2 10 35)) → (x8205 = fI H8197 a0 (K.1.2 10 36)) → (x8206 = fI H8197 a0 (K.1.2 10 38)) → (EQN oq (fR H8197 a0 (K.1.2 10 32))) → (EQN aq (fR H8197 a0 (K.1.2 10 33))) → (EQN pq (fR H8197 a0 (K.1.2 10 37))) → (EQN tq (fR H8197 a0 (K.1.2 10 17))) → (tp = fI H8197 a0 (K.1.2 10 18)) → (jb = fI H8197 a0 (K.1.2 10 34)) → (∀ j : Nat, j < 3000 + mn.toNatClampNeg → fI H8197 oq j = fI s.heap oq j ∧ fI H8197 aq j = fI s.heap aq j) → (WF (fun k => fI H8197 oq k) (fun k => fI H8197 aq k) (3000 + mn.toNatClampNeg) (3000 + x8204.toNatClampNeg) 0 B) → (PQ (fun j => fI H8197 pq j) (x8206.toNatClampNeg) (x8205.toInt) (x7550.toInt) (B) (1)) → (PX (fun j => fI H8197 pq j) (x8206.toNatClampNeg) (x8205.toInt) (ms)) → (CXP (fun j => fI H8197 pq j) (t_) (x8206.toNatClampNeg)) → (RZ (1 - jb.toInt) (fun k => fI H8197 oq k) (fun k => fI H8197 aq k) (3000 + mn.toNatClampNeg) (3000 + x8204.toNatClampNeg) (dl)) → (MF K s.heap H8197 a0 [19, 20, 21, 22, 35, 36, 38, 39, 40]) → (CG (avw K H8197 a0)) → (TU (avw K H8197 a0) (svw K H8197 a0)) → (WD (avw K H8197 a0)) → (IM (avw K H8197 a0)) → (∀ j : Nat, bt j = (fI H8197 tq j).toInt) → ((x8200.toInt ≤ tp.toInt ∧ x8201.toInt ≤ x8200.toInt ∧ (x8202.toInt = 0 ∨ x8201.toInt < x8200.toInt) ∧ (x8202.toInt ≠ 2 ∨ (0 ≤ x8203.toInt ∧ x8203.toInt ≤ 23))) ∧ x8204.toInt + x8206.toInt + fr.toInt ≤ mn.toInt + x8201.toInt ∧ mn.toInt ≤ x8204.toInt ∧ fr.toInt ≤ x8201.toInt ∧ x8201.toInt = x7553.toInt) → (CU bt tp.toNatClampNeg cj x8201 x8200 x8202 x8203) → (kK bt tp.toNatClampNeg cj ≠ 10) → (kK bt tp.toNatClampNeg cj ≠ 40) → (lpI (paS (kK bt tp.toNatClampNeg) (vV bt tp.toNatClampNeg) (1 - jb.toInt) 8) (cAO (kK bt tp.toNatClampNeg)) ci = duI (kK bt tp.toNatClampNeg) (vV bt tp.toNatClampNeg) (1 - jb.toInt) ms cj) → (dl = opL t_ ∧ duF (kK bt tp.toNatClampNeg) (vV bt tp.toNatClampNeg) (1 - jb.toInt) [] ci = duF (kK bt tp.toNatClampNeg) (vV bt tp.toNatClampNeg) (1 - jb.toInt) t_ cj) → W p l e ({ frames := 7, cells := 0, slots := 0, locals := 149 } : Room) s m (([.ref a0] : List Value).toArray) below meth c H8197 locsH8197 0 0 Q (F0 m 88 ls8198 []) := by
        intro  ls8198 H8197 locsH8197 x8200 x8201 x8202 x8203 x8204 x8205 x8206 hl8199 hTH8197 hSH8197 bx8200 bx8201 bx8204 bx8205 bx8206 ex8200 ex8201 ex8202 ex8203 ex8204 ex8205 ex8206 cy8207_0 cy8207_1 cy8207_2 cy8207_3 cy8207_4 cy8207_5 by8207_pf by8207_wf by8207_pq by8207_px by8207_cx by8207_rs mfy8207 gy8207_CG gy8207_TU gy8207_WD gy8207_IM fy8207_bt iv88 hcu88 hn88 hb88 hdu88 hg88
        clear i1 i2 i3 i4 i5 i6 i7
        obtain ⟨⟨i1, i2, i3, i4⟩, i5, i6, i7, i8⟩ := iv88
        refine lv_aload_n hx hb dX10_readAny_88 rfl (lv_at hl8199 0 rfl) ?_
        refine x_V (As := []) (rest := []) C (a_X10_readCompared_g l K G H8197 (x8200) (x8201) (x8202) (x8203) (x8204) (tp) (jb) (cj) bt hTH8197 ga0 goq cy8207_0 gaq cy8207_1 gtq cy8207_3 ex8200 ex8201 ex8202 ex8203 ex8204 cy8207_4 cy8207_5 gy8207_CG gy8207_TU gy8207_WD gy8207_IM (by and_intros <;> first | assumption | omega) (by and_intros <;> first | assumption | omega) (hcu88) (hy1) fy8207_bt) yo_X10_readCompared wM_X10_270 ⟨⟨by decide, by decide⟩, by decide, by decide⟩ (x_rv C hTH8197 (ci := 10) rfl ga0 rg_112) rfl hl8199.1 rfl (Nat.le_of_ble_eq_true rfl) dX10_readAny_89 hSH8197 (AE_sub (fun _ _ => rfl) (by decide) hSH8197.1) (fun vH8208 H8208 locsH8208 pH8208 zH8208 kH8208 hSH8208 => ?_)
        obtain ⟨x8209, x8210, x8211, x8212, x8213, x8214, hvH8208, bx8209, ex8210, ex8211, ex8212, ex8213, ex8214, hrH8208, m8215, m8216, m8217, g8218, g8219, g8220, g8221, mf8222, m8223, m8224, m8225, m8226, hTH8208⟩ := pH8208
        subst hvH8208
        clear zH8208
        replace m8215 := EQN.mk m8215
        replace m8216 := EQN.mk m8216
        replace m8217 := EQN.mk m8217
        have b8227 : PQ (fun j => fI H8208 pq j) (x8206.toNatClampNeg) (x8205.toInt) (x7550.toInt) (B) (1) := PQ.congr (fun j => fI_kept (x_lt hTH8197 kH8208 gpq (by decide))) by8207_pq
        have b8228 : PX (fun j => fI H8208 pq j) (x8206.toNatClampNeg) (x8205.toInt) (ms) := PX.congr (fun j => fI_kept (x_lt hTH8197 kH8208 gpq (by decide))) by8207_px
        have b8229 : CXP (fun j => fI H8208 pq j) (t_) (x8206.toNatClampNeg) := CXP.congr (fun j => fI_kept (x_lt hTH8197 kH8208 gpq (by decide))) by8207_cx
        have f8230 : ∀ j : Nat, bt j = (fI H8208 tq j).toInt := fun j => (fy8207_bt j).trans (congrArg Int32.toInt (fI_kept (x_lt hTH8197 kH8208 gtq (by decide))).symm)
        have m8231 := (ex8205).trans (MF.i mf8222 (k := 36) (by decide) (by decide)).symm
        have m8232 := (ex8206).trans (MF.i mf8222 (k := 38) (by decide) (by decide)).symm
        have m8233 := (cy8207_0).trans (MF.r mf8222 (k := 32) (by decide) (by decide)).symm
        have m8234 := (cy8207_1).trans (MF.r mf8222 (k := 33) (by decide) (by decide)).symm
        have m8235 := (cy8207_2).trans (MF.r mf8222 (k := 37) (by decide) (by decide)).symm
        have m8236 := (cy8207_3).trans (MF.r mf8222 (k := 17) (by decide) (by decide)).symm
        have m8237 := (cy8207_4).trans (MF.i mf8222 (k := 18) (by decide) (by decide)).symm
        have m8238 := (cy8207_5).trans (MF.i mf8222 (k := 34) (by decide) (by decide)).symm
        have mf8239 : MF K s.heap H8208 a0 [19, 20, 21, 22, 35, 36, 38, 39, 40] := MF.trans mfy8207 mf8222 (by decide)
        have bx8210 := ty_fi (x := x8210) (k := 19) ex8210 hTH8208 ga0 rg_112 rfl
        have bx8211 := ty_fi (x := x8211) (k := 20) ex8211 hTH8208 ga0 rg_112 rfl
        have bx8212 := ty_fi (x := x8212) (k := 21) ex8212 hTH8208 ga0 rg_112 rfl
        have bx8213 := ty_fi (x := x8213) (k := 22) ex8213 hTH8208 ga0 rg_112 rfl
        have bx8214 := ty_fi (x := x8214) (k := 35) ex8214 hTH8208 ga0 rg_112 rfl
        have csm8223 := i_cl (x := x8204) bx8204.1
        have cs_mn := i_cl (x := mn) (by omega)
        have b8240 : ∀ j : Nat, j < 3000 + mn.toNatClampNeg → fI H8208 oq j = fI s.heap oq j ∧ fI H8208 aq j = fI s.heap aq j := fun j hj => ⟨(m8223 j (by omega)).1.trans (by8207_pf j hj).1, (m8223 j (by omega)).2.trans (by8207_pf j hj).2⟩
        have b8241 : WF (fun k => fI H8208 oq k) (fun k => fI H8208 aq k) (3000 + mn.toNatClampNeg) (3000 + x8204.toNatClampNeg) 0 B := WF.keep by8207_wf (fun j hj => (m8223 j (by omega)).1) (fun j hj => (m8223 j (by omega)).2)
        have b8242 : RZ (1 - jb.toInt) (fun k => fI H8208 oq k) (fun k => fI H8208 aq k) (3000 + mn.toNatClampNeg) (3000 + x8204.toNatClampNeg) (dl) := RZ.keep by8207_rs (fun j hj => (m8223 j (by omega)).1) (fun j hj => (m8223 j (by omega)).2)
        refine W.eq (g2 := F0 m 92 ls8198 [.int x8209]) rfl ?_
        refine lv_iconst (v := (-1)) hx hb dX10_readAny_92 (by decide) ?_
        refine lv_icmp_ne (tgt := 98) hx hb dX10_readAny_93 (by decide) (fun c8243 => ?_) (fun c8243 => ?_)
        · have k8244 := i_ne c8243
          replace hrH8208 := hrH8208.resolve_left (by omega)
          clear i3 i4
          obtain ⟨rz, r1, r2, r3, r4, r5, r6, r7⟩ := hrH8208
          have wu0 : WF (fun k => fI H8208 oq k) (fun k => fI H8208 aq k) (3000 + x8204.toNatClampNeg) (3000 + x8214.toNatClampNeg) 0 1 := by
            rcases m8224 with h | h
            · exfalso; omega
            · exact h
          obtain ⟨cj8245, ho8247, cu8246⟩ := RC.yes m8225 (by omega)
          have cq_x8214 := i_cl (x := x8214) bx8214.1
          have rsc98 : RZ (1 - jb.toInt) (fun k => fI H8208 oq k) (fun k => fI H8208 aq k) (3000 + mn.toNatClampNeg) (3000 + x8214.toNatClampNeg) ((cpF (kK bt tp.toNatClampNeg) (vV bt tp.toNatClampNeg) (1 - jb.toInt) cj) :: opL t_) := by have z := RZ.catc b8242 (m8226.resolve_left (by omega)) (by omega); rw [hg88.1] at z; exact z
          have ce98 : duF (kK bt tp.toNatClampNeg) (vV bt tp.toNatClampNeg) (1 - jb.toInt) [] ci = coF (kK bt tp.toNatClampNeg) (vV bt tp.toNatClampNeg) (1 - jb.toInt) t_ false (cpF (kK bt tp.toNatClampNeg) (vV bt tp.toNatClampNeg) (1 - jb.toInt) cj) cj8245 := hg88.2.trans (duF_cp ⟨hn88, hb88⟩ ho8247)
          refine lv_aload_n hx hb dX10_readAny_98 rfl (lv_at hl8199 0 rfl) ?_
          refine lv_bipush (v := 9) hx hb dX10_readAny_99 (by decide) ?_
          have cc_x8206 := i_cl (x := x8206) bx8206.1
          have pqc : PQ (fun j => fI H8208 pq j) (x8206.toNatClampNeg) (x8205.toInt) (x7550.toInt) (B) (1) := PQ.cast b8227 (by omega) (by omega) rfl rfl rfl
          have hcb := pqc.2.2.2.1
          have hco := pqc.2.1
          have hck := pqc.2.2.1
          have wct : WF (fun k => fI H8208 oq k) (fun k => fI H8208 aq k) (3000 + mn.toNatClampNeg) (3000 + x8214.toNatClampNeg) 0 (1 + B) := WF.cat (WF.castE (E' := 0 + B) b8241 rfl (z' := 3000 + x8204.toNatClampNeg) (by omega) (by omega)) (WF.lift B wu0) (by omega) (by omega)
          have pxc8248 : PX (fun j => fI H8208 pq j) (x8206.toNatClampNeg) (x8205.toInt) (ms) := PX.cast b8228 (by omega) (by omega)
          have cn_x8206 := i_cl (x := x8206) bx8206.1
          have cn_x8206 := i_cl (x := x8206) bx8206.1
          have cxc8249 : CXP (fun j => fI H8208 pq j) (t_) (x8206.toNatClampNeg) := CXP.cast b8229 (by omega)
          refine x_V (As := [.int 9]) (rest := []) C (a_X10_settles_g l K G H8208 (9) (mn) (x8206) (x8214) (x8205) (jb) (t_) ((cpF (kK bt tp.toNatClampNeg) (vV bt tp.toNatClampNeg) (1 - jb.toInt) cj)) hTH8208 ga0 (by decide) goq m8215 gaq m8216 gpq m8235 m8232 ex8214 m8231 m8238 g8218 g8219 g8220 g8221 (WF.castE wct (by omega) (by omega) (by omega)) (RZ.cast rsc98 (by omega) (by omega) rfl) (by and_intros <;> first | assumption | omega) (by and_intros <;> first | assumption | omega) (pqc.1) (pqc.2.1) (cxc8249) ((HD.get hxo9)) (cpF_01)) yo_X10_settles wM_X10_273 ⟨⟨by decide, by decide⟩, by decide, by decide⟩ (x_rv C hTH8208 (ci := 10) rfl ga0 rg_112) rfl hl8199.1 rfl (Nat.le_of_ble_eq_true rfl) dX10_readAny_101 hSH8208 (AE_sub (fun _ _ => rfl) (by decide) hSH8208.1) (fun vH8250 H8250 locsH8250 pH8250 zH8250 kH8250 hSH8250 => ?_)
          obtain ⟨x8251, x8252, x8253, hvH8250, ex8251, ex8252, ex8253, hrH8250, m8254, m8255, m8256, g8257, g8258, g8259, g8260, mf8261, m8262, m8263, m8264, m8265, m8266, m8267, m8268, m8269, m8270, hTH8250⟩ := pH8250
          subst hvH8250
          clear zH8250
          replace m8254 := EQN.mk m8254
          replace m8255 := EQN.mk m8255
          replace m8256 := EQN.mk m8256
          have b8271 : PQ (fun j => fI H8250 pq j) (x8206.toNatClampNeg) (x8205.toInt) (x7550.toInt) (B) (1) := PQ.congr (fun j => fI_kept (x_lt hTH8208 kH8250 gpq (by decide))) pqc
          have b8272 : PX (fun j => fI H8250 pq j) (x8206.toNatClampNeg) (x8205.toInt) (ms) := PX.congr (fun j => fI_kept (x_lt hTH8208 kH8250 gpq (by decide))) pxc8248
          have b8273 : CXP (fun j => fI H8250 pq j) (t_) (x8206.toNatClampNeg) := CXP.congr (fun j => fI_kept (x_lt hTH8208 kH8250 gpq (by decide))) cxc8249
          have f8274 : ∀ j : Nat, bt j = (fI H8250 tq j).toInt := fun j => (f8230 j).trans (congrArg Int32.toInt (fI_kept (x_lt hTH8208 kH8250 gtq (by decide))).symm)
          have m8275 := (m8215).trans (MF.r mf8261 (k := 32) (by decide) (by decide)).symm
          have m8276 := (m8216).trans (MF.r mf8261 (k := 33) (by decide) (by decide)).symm
          have m8277 := (m8235).trans (MF.r mf8261 (k := 37) (by decide) (by decide)).symm
          have m8278 := (m8217).trans (MF.r mf8261 (k := 17) (by decide) (by decide)).symm
          have m8279 := (m8237).trans (MF.i mf8261 (k := 18) (by decide) (by decide)).symm
          have m8280 := (m8238).trans (MF.i mf8261 (k := 34) (by decide) (by decide)).symm
          have m8281 := (ex8210).trans (MF.i mf8261 (k := 19) (by decide) (by decide)).symm
          have m8282 := (ex8211).trans (MF.i mf8261 (k := 20) (by decide) (by decide)).symm
          have m8283 := (ex8212).trans (MF.i mf8261 (k := 21) (by decide) (by decide)).symm
          have m8284 := (ex8213).trans (MF.i mf8261 (k := 22) (by decide) (by decide)).symm
          have mf8285 : MF K s.heap H8250 a0 [19, 20, 21, 22, 35, 36, 38, 39, 40] := MF.trans mf8239 mf8261 (by decide)
          have bx8251 := ty_fi (x := x8251) (k := 38) ex8251 hTH8250 ga0 rg_112 rfl
          have bx8252 := ty_fi (x := x8252) (k := 35) ex8252 hTH8250 ga0 rg_112 rfl
          have bx8253 := ty_fi (x := x8253) (k := 36) ex8253 hTH8250 ga0 rg_112 rfl
          obtain ⟨raH8250, rbH8250, rcH8250⟩ := hrH8250
          replace rcH8250 := rcH8250.resolve_right (fun h => h.1 n_9)
          replace m8265 := HD.mk m8265
          replace m8267 := HD.mk m8267
          have b8286 : ∀ j : Nat, j < 3000 + mn.toNatClampNeg → fI H8250 oq j = fI s.heap oq j ∧ fI H8250 aq j = fI s.heap aq j := fun j hj => ⟨(m8262 j (by omega)).1.trans (b8240 j hj).1, (m8262 j (by omega)).2.trans (b8240 j hj).2⟩
          have b8287 : WF (fun k => fI H8250 oq k) (fun k => fI H8250 aq k) (3000 + mn.toNatClampNeg) (3000 + x8214.toNatClampNeg) 0 (1 + B) := WF.keep wct (fun j hj => (m8262 j (by omega)).1) (fun j hj => (m8262 j (by omega)).2)
          have cs_tp := i_cl (x := tp) (by omega)
          have b8288 : RZ (1 - jb.toInt) (fun k => fI H8250 oq k) (fun k => fI H8250 aq k) (3000 + mn.toNatClampNeg) (3000 + x8214.toNatClampNeg) ((cpF (kK bt tp.toNatClampNeg) (vV bt tp.toNatClampNeg) (1 - jb.toInt) cj) :: opL t_) := RZ.keep rsc98 (fun j hj => (m8262 j (by omega)).1) (fun j hj => (m8262 j (by omega)).2)
          refine W.eq (g2 := F0 m 104 ls8198 []) rfl ?_
          have cc_x8251 := i_cl (x := x8251) bx8251.1
          have cc_x8252 := i_cl (x := x8252) bx8252.1
          have eqp : ∀ j : Nat, fI H8250 pq j = fI H8208 pq j := fun j => fI_kept (x_lt hTH8208 kH8250 gpq (by decide))
          have pq0 : PQ (fun j => fI H8208 pq j) (x8251.toNatClampNeg) (x8253.toInt) (x7550.toInt) (cB (fun j => fI H8208 pq j) x8251.toNatClampNeg) 0 := PQ.settle (w := 9) pqc (by omega) m8263 m8264 (by decide) ((m8265.out).imp (fun h => by omega) (fun h => by show (fI _ pq _).toInt ≠ 9; rw [n_9] at h; exact h)) ((m8267.out).imp (fun h => by omega) (fun h => by show (fI _ pq _).toInt = 9; rw [n_9] at h; exact h)) (Or.inl rfl)
          have pqn : PQ (fun j => fI H8250 pq j) (x8251.toNatClampNeg) (x8253.toInt) (x7550.toInt) (cB (fun j => fI H8208 pq j) x8251.toNatClampNeg) (0) := PQ.congr eqp pq0
          obtain ⟨px8289, hdn⟩ : PX (fun j => fI H8208 pq j) (x8251.toNatClampNeg) (x8253.toInt) ((mkL (fun j => fI H8208 pq j) (x8251.toNatClampNeg))) ∧ dN (mkL (fun j => fI H8208 pq j) (x8251.toNatClampNeg)) = dN ms := PX.settle pxc8248 m8269 m8268
          have px8290 : PX (fun j => fI H8250 pq j) (x8251.toNatClampNeg) (x8253.toInt) ((mkL (fun j => fI H8208 pq j) (x8251.toNatClampNeg))) := PX.congr eqp px8289
          obtain ⟨t81, f81, hs81, rs81, cx81⟩ := m8270
          rw [n_9] at hs81
          have hq81 := stL_9 (kk := (kK bt tp.toNatClampNeg)) (vv := (vV bt tp.toNatClampNeg)) (lw := (1 - jb.toInt)) (j := cj8245) hs81
          have hk81 := stL_ok (by decide) hs81 (HD.get hxo9) cpF_01
          have ce81 : duF (kK bt tp.toNatClampNeg) (vV bt tp.toNatClampNeg) (1 - jb.toInt) [] ci = coF (kK bt tp.toNatClampNeg) (vV bt tp.toNatClampNeg) (1 - jb.toInt) t81 false f81 cj8245 := (ce98).trans hq81.1
          have cy81 : CXP (fun j => fI H8250 pq j) (t81) (x8251.toNatClampNeg) := CXP.congr eqp cx81
          refine lv_iconst (v := 0) hx hb dX10_readAny_104 (by decide) ?_
          refine lv_istore_n (lv' := [(2, .int 0), (0, .ref a0), (1, .int x7550)]) hx hb dX10_readAny_105 rfl hl8199 (by decide) rfl (fun ls8291 hl8292 => ?_)
          refine lv_goto (tgt := 9) hx hb dX10_readAny_106 (by decide) ?_
          have cl_0 := i_cl (x := (0 : Int32)) (by omega)
          have ca_k0 : (0 : Int32).toNatClampNeg = 0 := rfl
          have hpb := pqn.2.2.2.1
          exact ih9 (cB (fun j => fI H8208 pq j) x8251.toNatClampNeg) cj8245 (mkL (fun j => fI H8208 pq j) (x8251.toNatClampNeg)) t81 f81 (f81 :: opL t81) ls8291 H8250 locsH8250 (x7550) (0) (x8210) (x8211) (x8212) (x8213) (x8252) (x8253) (x8251) (lv_sub hl8292 [1, 2, 0] rfl) hTH8250 hSH8250 bx7550 (by decide) bx8210 bx8211 bx8252 bx8253 bx8251 m8281 m8282 m8283 m8284 ex8252 ex8253 ex8251 m8254 m8255 m8256 m8278 m8279 m8280 b8286 (WF.castE m8266 (by omega) (by omega) (by omega)) (PQ.cast pqn (by omega) (by omega) (by omega) (by omega) (by omega)) (PX.cast px8290 (by omega) (by omega)) (CXP.cast cy81 (by omega)) (RZ.cast rs81 (by omega) (by omega) rfl) mf8285 g8257 g8258 g8259 g8260 f8274 (by omega) (by and_intros <;> first | assumption | omega) cu8246 (HD.mk (fun h => by exfalso; omega)) (HD.mk (fun _ => hdu88.trans ((du_cp ⟨hn88, hb88⟩ ho8247).trans (co_eq hdn)))) (HD.mk hk81.1) (HD.mk (fun h => by exfalso; omega)) (HD.mk (fun _ => ⟨rfl, hk81.2, hq81.2, ce81⟩))
        · have k8244 := i_eq c8243
          refine lv_iconst (v := (-1)) hx hb dX10_readAny_96 (by decide) ?_
          exact x_iret C hQ dX10_readAny_97 hSH8208 (by decide) (by decide) (⟨(-1), x8210, x8211, x8212, x8213, x8214, x8205, x8206, rfl, by decide, ex8210, ex8211, ex8212, ex8213, ex8214, m8231, m8232, Or.inl (by omega), m8215, m8216, m8235, m8217, g8218, g8219, g8220, g8221, mf8239, b8240, Or.inl (by omega), Or.inl ⟨hdu88.trans (du_no ⟨hn88, hb88⟩ (RC.no m8225 (by omega))), by omega⟩, Or.inl (by omega), Or.inl (by omega), hTH8208⟩)
      refine lv_iload_n hx hb dX10_readAny_9 rfl (lv_at hl7549 2 rfl) ?_
      refine lv_if_eq (tgt := 109) hx hb dX10_readAny_10 (by decide) (fun c8293 => ?_) (fun c8293 => ?_)
      · have k8294 := i_eq c8293
        have cl_mn := i_cl (x := mn) (by omega)
        have cl_x7556 := i_cl (x := x7556) bx7556.1
        have cl_x7558 := i_cl (x := x7558) bx7558.1
        exact J109  ls7548 H7547 locsH7547 (x7552) (x7553) (x7554) (x7555) (x7556) (x7557) (x7558) (lv_sub hl7549 [0, 1, 2] rfl) hTH7547 hSH7547 ⟨by have := i_rng x7551; omega, by have := i_rng x7551; omega⟩ bx7552 bx7553 bx7556 bx7557 bx7558 ex7552 ex7553 ex7554 ex7555 ex7556 ex7557 ex7558 cy7559_0 cy7559_1 cy7559_2 cy7559_3 cy7559_4 cy7559_5 by7559_pf (WF.castE by7559_wf (by omega) (by omega) (by omega)) (PQ.cast by7559_pq (by omega) (by omega) (by omega) (by omega) (by omega)) (PX.cast by7559_px (by omega) (by omega)) (CXP.cast by7559_cx (by omega)) (RZ.cast by7559_rs (by omega) (by omega) rfl) mfy7559 gy7559_CG gy7559_TU gy7559_WD gy7559_IM fy7559_bt (by and_intros <;> first | assumption | omega) hcu9 (HD.get hco9 (by omega)) (HD.mk (HD.get hgc9 (by omega)))
      · have k8294 := i_ne c8293
        refine lv_aload_n hx hb dX10_readAny_13 rfl (lv_at hl7549 0 rfl) ?_
        refine lv_bipush (v := 9) hx hb dX10_readAny_14 (by decide) ?_
        refine x_V (As := [.int 9]) (rest := []) C (a_X10_isWord_e l K G H7547 (9) (x7554) (x7555) hTH7547 ga0 ex7554 ex7555) yo_X10_isWord wM_X10_264 ⟨⟨by decide, by decide⟩, by decide, by decide⟩ (x_rv C hTH7547 (ci := 10) rfl ga0 rg_112) rfl hl7549.1 rfl (Nat.le_of_ble_eq_true rfl) dX10_readAny_16 hSH7547 (AE_sub (fun _ _ => rfl) (by decide) hSH7547.1) (fun vH8295 H8295 locsH8295 pH8295 zH8295 kH8295 hSH8295 => ?_)
        obtain ⟨x8296, hvH8295, bx8296, hrH8295, hTH8295⟩ := pH8295
        subst hvH8295
        clear zH8295
        have mf8297 : MF K s.heap H8295 a0 [19, 20, 21, 22, 35, 36, 38, 39, 40] := MF.eff (x_lt hTH7547 kH8295 ga0 (by decide)) mfy7559
        have b8298 : ∀ j : Nat, j < 3000 + mn.toNatClampNeg → fI H8295 oq j = fI s.heap oq j ∧ fI H8295 aq j = fI s.heap aq j := fun j hj => ⟨(fI_kept (x_lt hTH7547 kH8295 goq (by decide))).trans (by7559_pf j hj).1, (fI_kept (x_lt hTH7547 kH8295 gaq (by decide))).trans (by7559_pf j hj).2⟩
        have b8299 : WF (fun k => fI H8295 oq k) (fun k => fI H8295 aq k) (3000 + mn.toNatClampNeg) (3000 + x7556.toNatClampNeg) 0 (B + 1 - x7551.toNatClampNeg) := WF.congr (fun j => fI_kept (x_lt hTH7547 kH8295 goq (by decide))) (fun j => fI_kept (x_lt hTH7547 kH8295 gaq (by decide))) by7559_wf
        have b8300 : PQ (fun j => fI H8295 pq j) (x7558.toNatClampNeg) (x7557.toInt) (x7550.toInt) (B) (x7551.toInt) := PQ.congr (fun j => fI_kept (x_lt hTH7547 kH8295 gpq (by decide))) by7559_pq
        have b8301 : PX (fun j => fI H8295 pq j) (x7558.toNatClampNeg) (x7557.toInt) (ms) := PX.congr (fun j => fI_kept (x_lt hTH7547 kH8295 gpq (by decide))) by7559_px
        have b8302 : CXP (fun j => fI H8295 pq j) (t_) (x7558.toNatClampNeg) := CXP.congr (fun j => fI_kept (x_lt hTH7547 kH8295 gpq (by decide))) by7559_cx
        have b8303 : RZ (1 - jb.toInt) (fun k => fI H8295 oq k) (fun k => fI H8295 aq k) (3000 + mn.toNatClampNeg) (3000 + x7556.toNatClampNeg) (dl) := RZ.congr (fun j => fI_kept (x_lt hTH7547 kH8295 goq (by decide))) (fun j => fI_kept (x_lt hTH7547 kH8295 gaq (by decide))) by7559_rs
        have g8304 : CG (avw K H8295 a0) := CG.congr (fun k hk j => av_eff hTH7547 kH8295 ga0 (by decide) (CG_eff [] (by decide) k hk)) gy7559_CG
        have g8305 : TU (avw K H8295 a0) (svw K H8295 a0) := TU.congr (fun k hk j => av_eff hTH7547 kH8295 ga0 (by decide) (TU_eff [] (by decide) k hk)) (fun k hk => sv_eff hTH7547 kH8295 ga0 (by decide)) gy7559_TU
        have g8306 : WD (avw K H8295 a0) := WD.congr (fun k hk j => av_eff hTH7547 kH8295 ga0 (by decide) (WD_eff [] (by decide) k hk)) gy7559_WD
        have g8307 : IM (avw K H8295 a0) := IM.congr (fun k hk j => av_eff hTH7547 kH8295 ga0 (by decide) (IM_eff [] (by decide) k hk)) gy7559_IM
        have f8308 : ∀ j : Nat, bt j = (fI H8295 tq j).toInt := fun j => (fy7559_bt j).trans (congrArg Int32.toInt (fI_kept (x_lt hTH7547 kH8295 gtq (by decide))).symm)
        have m8309 := (ex7552).trans (fI_kept (x_lt hTH7547 kH8295 ga0 (by decide))).symm
        have m8310 := (ex7553).trans (fI_kept (x_lt hTH7547 kH8295 ga0 (by decide))).symm
        have m8311 := (ex7554).trans (fI_kept (x_lt hTH7547 kH8295 ga0 (by decide))).symm
        have m8312 := (ex7555).trans (fI_kept (x_lt hTH7547 kH8295 ga0 (by decide))).symm
        have m8313 := (ex7556).trans (fI_kept (x_lt hTH7547 kH8295 ga0 (by decide))).symm
        have m8314 := (ex7557).trans (fI_kept (x_lt hTH7547 kH8295 ga0 (by decide))).symm
        have m8315 := (ex7558).trans (fI_kept (x_lt hTH7547 kH8295 ga0 (by decide))).symm
        have m8316 := (cy7559_0).trans (fR_kept (x_lt hTH7547 kH8295 ga0 (by decide))).symm
        have m8317 := (cy7559_1).trans (fR_kept (x_lt hTH7547 kH8295 ga0 (by decide))).symm
        have m8318 := (cy7559_2).trans (fR_kept (x_lt hTH7547 kH8295 ga0 (by decide))).symm
        have m8319 := (cy7559_3).trans (fR_kept (x_lt hTH7547 kH8295 ga0 (by decide))).symm
        have m8320 := (cy7559_4).trans (fI_kept (x_lt hTH7547 kH8295 ga0 (by decide))).symm
        have m8321 := (cy7559_5).trans (fI_kept (x_lt hTH7547 kH8295 ga0 (by decide))).symm
        refine W.eq (g2 := F0 m 19 ls7548 [.int x8296]) rfl ?_
        refine lv_istore_n (lv' := [(3, .int x8296), (0, .ref a0), (1, .int x7550), (2, .int x7551)]) hx hb dX10_readAny_19 rfl hl7549 (by decide) rfl (fun ls8322 hl8323 => ?_)
        refine lv_iload_n hx hb dX10_readAny_20 rfl (lv_at hl8323 0 rfl) ?_
        refine lv_if_ne (tgt := 33) hx hb dX10_readAny_21 (by decide) (fun c8324 => ?_) (fun c8324 => ?_)
        · have k8325 := i_ne c8324
          have kw_ : kK bt tp.toNatClampNeg cj = 10 := by have z1 := TV.wv hcu9.2.2.1 (by omega); omega
          replace i3 := i3.resolve_left (by omega)
          clear i4
          refine lv_aload_n hx hb dX10_readAny_33 rfl (lv_at hl8323 1 rfl) ?_
          refine x_gi C hTH8295 (ci := 10) (k := 36) rfl inX10 (by decide) wF_X10_261 ga0 rg_112 rfl dX10_readAny_34 (fun x8326 ex8326 bx8326 => ?_)
          have ux8326 : x7557 = x8326 := (m8314).trans ex8326.symm
          subst ux8326
          refine lv_bipush (v := 8) hx hb dX10_readAny_37 (by decide) ?_
          refine lv_icmp_ne (tgt := 48) hx hb dX10_readAny_39 (by decide) (fun c8327 => ?_) (fun c8327 => ?_)
          · have k8328 := i_ne c8327
            refine lv_aload_n hx hb dX10_readAny_48 rfl (lv_at hl8323 1 rfl) ?_
            refine lv_aload_n hx hb dX10_readAny_49 rfl (lv_at hl8323 1 rfl) ?_
            refine x_gi C hTH8295 (ci := 10) (k := 36) rfl inX10 (by decide) wF_X10_261 ga0 rg_112 rfl dX10_readAny_50 (fun x8329 ex8329 bx8329 => ?_)
            have ux8329 : x7557 = x8329 := (m8314).trans ex8329.symm
            subst ux8329
            refine lv_iconst (v := 1) hx hb dX10_readAny_53 (by decide) ?_
            refine lv_iadd hx hb dX10_readAny_54 ?_
            refine lv_topi (fun x8330 ex8330 => ?_)
            have tx8330 := i_add ex8330 (by omega)
            refine x_put C hTH8295 hSH8295 (ci := 10) (k := 36) (v := .int x8330) (ty0 := tyX10) rfl inX10 tyX10_ok nmX10 (by decide) rfl wF_X10_261 ga0 rg_112 rfl rfl (okI (by omega) (by omega)) rfl rfl (AE_in ga0 (by decide)) dX10_readAny_55 (fun H8331 locsH8331 hTH8331 hSH8331 wH8331 => ?_)
            have mf8332 : MF K s.heap H8331 a0 [19, 20, 21, 22, 35, 36, 38, 39, 40] := MF.fld hap wH8331 (by decide) (by decide) mf8297
            have g8333 : CG (avw K H8331 a0) := CG.congr (fun k hk j => av_fld hTH8295 ga0 hap wH8331 (by decide) (CG_ok 112 (by decide) k hk) (CG_ne 36 (by decide) k hk)) g8304
            have g8334 : TU (avw K H8331 a0) (svw K H8331 a0) := TU.congr (fun k hk j => av_fld hTH8295 ga0 hap wH8331 (by decide) (TU_ok 112 (by decide) k hk) (TU_ne 36 (by decide) k hk)) (fun k hk => sv_fld hap wH8331 (by decide) (TU_slt k hk) (TU_sne 36 (by decide) k hk)) g8305
            have g8335 : WD (avw K H8331 a0) := WD.congr (fun k hk j => av_fld hTH8295 ga0 hap wH8331 (by decide) (WD_ok 112 (by decide) k hk) (WD_ne 36 (by decide) k hk)) g8306
            have g8336 : IM (avw K H8331 a0) := IM.congr (fun k hk j => av_fld hTH8295 ga0 hap wH8331 (by decide) (IM_ok 112 (by decide) k hk) (IM_ne 36 (by decide) k hk)) g8307
            have b8337 : ∀ j : Nat, j < 3000 + mn.toNatClampNeg → fI H8331 oq j = fI s.heap oq j ∧ fI H8331 aq j = fI s.heap aq j := fun j hj => ⟨(Wr.neI wH8331 (Or.inl (G_ne goq ga0 (by decide)))).trans (b8298 j hj).1, (Wr.neI wH8331 (Or.inl (G_ne gaq ga0 (by decide)))).trans (b8298 j hj).2⟩
            have b8338 : WF (fun k => fI H8331 oq k) (fun k => fI H8331 aq k) (3000 + mn.toNatClampNeg) (3000 + x7556.toNatClampNeg) 0 (B + 1 - x7551.toNatClampNeg) := WF.congr (fun j => Wr.neI wH8331 (Or.inl (G_ne goq ga0 (by decide)))) (fun j => Wr.neI wH8331 (Or.inl (G_ne gaq ga0 (by decide)))) b8299
            have b8339 : PQ (fun j => fI H8331 pq j) (x7558.toNatClampNeg) (x7557.toInt) (x7550.toInt) (B) (x7551.toInt) := PQ.congr (fun j => Wr.neI wH8331 (Or.inl (G_ne gpq ga0 (by decide)))) b8300
            have b8340 : PX (fun j => fI H8331 pq j) (x7558.toNatClampNeg) (x7557.toInt) (ms) := PX.congr (fun j => Wr.neI wH8331 (Or.inl (G_ne gpq ga0 (by decide)))) b8301
            have b8341 : CXP (fun j => fI H8331 pq j) (t_) (x7558.toNatClampNeg) := CXP.congr (fun j => Wr.neI wH8331 (Or.inl (G_ne gpq ga0 (by decide)))) b8302
            have b8342 : RZ (1 - jb.toInt) (fun k => fI H8331 oq k) (fun k => fI H8331 aq k) (3000 + mn.toNatClampNeg) (3000 + x7556.toNatClampNeg) (dl) := RZ.congr (fun j => Wr.neI wH8331 (Or.inl (G_ne goq ga0 (by decide)))) (fun j => Wr.neI wH8331 (Or.inl (G_ne gaq ga0 (by decide)))) b8303
            have f8343 : ∀ j : Nat, bt j = (fI H8331 tq j).toInt := fun j => (f8308 j).trans (congrArg Int32.toInt (Wr.neI wH8331 (Or.inl (G_ne gtq ga0 (by decide)))).symm)
            have m8344 := m8309.trans (Wr.neI wH8331 (Or.inr (x_apart hKT hts inX10 tyX10 tyX10_ok nmX10 rfl 19 36 (by decide) (by decide) (by decide)))).symm
            have m8345 := m8310.trans (Wr.neI wH8331 (Or.inr (x_apart hKT hts inX10 tyX10 tyX10_ok nmX10 rfl 20 36 (by decide) (by decide) (by decide)))).symm
            have m8346 := m8311.trans (Wr.neI wH8331 (Or.inr (x_apart hKT hts inX10 tyX10 tyX10_ok nmX10 rfl 21 36 (by decide) (by decide) (by decide)))).symm
            have m8347 := m8312.trans (Wr.neI wH8331 (Or.inr (x_apart hKT hts inX10 tyX10 tyX10_ok nmX10 rfl 22 36 (by decide) (by decide) (by decide)))).symm
            have m8348 := m8313.trans (Wr.neI wH8331 (Or.inr (x_apart hKT hts inX10 tyX10 tyX10_ok nmX10 rfl 35 36 (by decide) (by decide) (by decide)))).symm
            have m8350 := m8315.trans (Wr.neI wH8331 (Or.inr (x_apart hKT hts inX10 tyX10 tyX10_ok nmX10 rfl 38 36 (by decide) (by decide) (by decide)))).symm
            have m8351 := m8316.trans (Wr.neR wH8331 (Or.inr (x_apart hKT hts inX10 tyX10 tyX10_ok nmX10 rfl 32 36 (by decide) (by decide) (by decide)))).symm
            have m8352 := m8317.trans (Wr.neR wH8331 (Or.inr (x_apart hKT hts inX10 tyX10 tyX10_ok nmX10 rfl 33 36 (by decide) (by decide) (by decide)))).symm
            have m8353 := m8318.trans (Wr.neR wH8331 (Or.inr (x_apart hKT hts inX10 tyX10 tyX10_ok nmX10 rfl 37 36 (by decide) (by decide) (by decide)))).symm
            have m8354 := m8319.trans (Wr.neR wH8331 (Or.inr (x_apart hKT hts inX10 tyX10 tyX10_ok nmX10 rfl 17 36 (by decide) (by decide) (by decide)))).symm
            have m8355 := m8320.trans (Wr.neI wH8331 (Or.inr (x_apart hKT hts inX10 tyX10 tyX10_ok nmX10 rfl 18 36 (by decide) (by decide) (by decide)))).symm
            have m8356 := m8321.trans (Wr.neI wH8331 (Or.inr (x_apart hKT hts inX10 tyX10 tyX10_ok nmX10 rfl 34 36 (by decide) (by decide) (by decide)))).symm
            have m8357 := Wr.I wH8331
            have m8357 := m8357.symm
            refine lv_iload_n hx hb dX10_readAny_58 rfl (lv_at hl8323 0 rfl) ?_
            refine lv_if_ne (tgt := 66) hx hb dX10_readAny_59 (by decide) (fun c8358 => ?_) (fun c8358 => ?_)
            · have k8359 := i_ne c8358
              refine lv_aload_n hx hb dX10_readAny_66 rfl (lv_at hl8323 1 rfl) ?_
              refine lv_iload_n hx hb dX10_readAny_67 rfl (lv_at hl8323 0 rfl) ?_
              refine lv_if_eq (tgt := 76) hx hb dX10_readAny_68 (by decide) (fun c8360 => ?_) (fun c8360 => ?_)
              · have k8361 := i_eq c8360
                exfalso
                omega
              · have k8361 := i_ne c8360
                refine lv_bipush (v := 9) hx hb dX10_readAny_71 (by decide) ?_
                refine lv_goto (tgt := 78) hx hb dX10_readAny_73 (by decide) ?_
                have cc_x7558 := i_cl (x := x7558) bx7558.1
                have cc_x7556 := i_cl (x := x7556) bx7556.1
                have pqc : PQ (fun j => fI H8331 pq j) (x7558.toNatClampNeg) (x7557.toInt) (x7550.toInt) (B) (x7551.toInt) := PQ.cast b8339 (by omega) (by omega) rfl rfl rfl
                have hcb := pqc.2.2.2.1
                have hco := pqc.2.1
                have hck := pqc.2.2.1
                have h26 := PD.n26 pqc.1 (by omega)
                have pxc8362 : PX (fun j => fI H8331 pq j) (x7558.toNatClampNeg) (x7557.toInt) (ms) := PX.cast b8340 (by omega) (by omega)
                have cn_x7558 := i_cl (x := x7558) bx7558.1
                have cn_x7558 := i_cl (x := x7558) bx7558.1
                have cxc8363 : CXP (fun j => fI H8331 pq j) (t_) (x7558.toNatClampNeg) := CXP.cast b8341 (by omega)
                refine x_V (As := [.int 9]) (rest := []) C (a_X10_waits l K G H8331 (9) (x7558) hTH8331 ga0 gpq m8353 m8350 g8333 g8334 g8335 g8336 (by and_intros <;> first | assumption | omega)) yo_X10_waits wM_X10_267 ⟨⟨by decide, by decide⟩, by decide, by decide⟩ (x_rv C hTH8331 (ci := 10) rfl ga0 rg_112) rfl hl8323.1 rfl (Nat.le_of_ble_eq_true rfl) dX10_readAny_78 hSH8331 (AE_sub (fun _ _ => rfl) (by decide) hSH8331.1) (fun vH8364 H8364 locsH8364 pH8364 zH8364 kH8364 hSH8364 => ?_)
                obtain ⟨x8365, hvH8364, ex8365, hrH8364, m8366, g8367, g8368, g8369, g8370, mf8371, m8372, m8373, hTH8364⟩ := pH8364
                subst hvH8364
                clear zH8364
                replace m8366 := EQN.mk m8366
                clear f8308 m8309 m8310 m8311 m8312 m8313 m8314 m8315 m8316 m8317 m8318 m8319 m8320 m8321
                have b8374 : ∀ j : Nat, j < 3000 + mn.toNatClampNeg → fI H8364 oq j = fI s.heap oq j ∧ fI H8364 aq j = fI s.heap aq j := fun j hj => ⟨(fI_kept (x_lt hTH8331 kH8364 goq (by decide))).trans (b8337 j hj).1, (fI_kept (x_lt hTH8331 kH8364 gaq (by decide))).trans (b8337 j hj).2⟩
                have b8375 : WF (fun k => fI H8364 oq k) (fun k => fI H8364 aq k) (3000 + mn.toNatClampNeg) (3000 + x7556.toNatClampNeg) 0 (B + 1 - x7551.toNatClampNeg) := WF.congr (fun j => fI_kept (x_lt hTH8331 kH8364 goq (by decide))) (fun j => fI_kept (x_lt hTH8331 kH8364 gaq (by decide))) b8338
                have b8376 : RZ (1 - jb.toInt) (fun k => fI H8364 oq k) (fun k => fI H8364 aq k) (3000 + mn.toNatClampNeg) (3000 + x7556.toNatClampNeg) (dl) := RZ.congr (fun j => fI_kept (x_lt hTH8331 kH8364 goq (by decide))) (fun j => fI_kept (x_lt hTH8331 kH8364 gaq (by decide))) b8342
                have f8377 : ∀ j : Nat, bt j = (fI H8364 tq j).toInt := fun j => (f8343 j).trans (congrArg Int32.toInt (fI_kept (x_lt hTH8331 kH8364 gtq (by decide))).symm)
                have m8378 := (m8344).trans (MF.i mf8371 (k := 19) (by decide) (by decide)).symm
                have m8379 := (m8345).trans (MF.i mf8371 (k := 20) (by decide) (by decide)).symm
                have m8380 := (m8346).trans (MF.i mf8371 (k := 21) (by decide) (by decide)).symm
                have m8381 := (m8347).trans (MF.i mf8371 (k := 22) (by decide) (by decide)).symm
                have m8382 := (m8348).trans (MF.i mf8371 (k := 35) (by decide) (by decide)).symm
                have m8383 := (m8351).trans (MF.r mf8371 (k := 32) (by decide) (by decide)).symm
                have m8384 := (m8352).trans (MF.r mf8371 (k := 33) (by decide) (by decide)).symm
                have m8385 := (m8353).trans (MF.r mf8371 (k := 37) (by decide) (by decide)).symm
                have m8386 := (m8354).trans (MF.r mf8371 (k := 17) (by decide) (by decide)).symm
                have m8387 := (m8355).trans (MF.i mf8371 (k := 18) (by decide) (by decide)).symm
                have m8388 := (m8356).trans (MF.i mf8371 (k := 34) (by decide) (by decide)).symm
                have m8389 := (m8357).trans (MF.i mf8371 (k := 36) (by decide) (by decide)).symm
                have mf8390 : MF K s.heap H8364 a0 [19, 20, 21, 22, 35, 36, 38, 39, 40] := MF.trans mf8332 mf8371 (by decide)
                have bx8365 := ty_fi (x := x8365) (k := 38) ex8365 hTH8364 ga0 rg_112 rfl
                refine W.eq (g2 := F0 m 81 ls8322 []) rfl ?_
                have cc_x8365 := i_cl (x := x8365) bx8365.1
                have hwx := congrArg Int32.toInt m8372
                have pqn : PQ (fun j => fI H8364 pq j) (x8365.toNatClampNeg) (x7557.toInt + 1) (x7550.toInt) (B) (1) := PQ.push (v := 9) pqc (by show (fI _ pq _).toInt = 9; rw [← m8372]; rfl) m8373 (by omega) (Or.inl ⟨rfl, rfl, rfl, rfl⟩)
                have pxn : PX (fun j => fI H8364 pq j) (x8365.toNatClampNeg) (x7557.toInt + 1) ((false :: ms)) := PX.push (v := 9) pxc8362 (by show (fI _ pq _).toInt = 9; rw [← m8372]; rfl) m8373 (by omega) (Or.inl ⟨rfl, rfl, rfl⟩)
                have cxn : CXP (fun j => fI H8364 pq j) (((9, zF) :: t_)) (x8365.toNatClampNeg) := CXP.push (g := zF) cxc8363 (by show (fI _ pq _).toInt = 9; rw [← m8372]; rfl) m8373 (by omega)
                have hnbl : nb t_ < 8 := by rw [cxc8363.nb, pxc8362.1]; have := pxc8362.2; omega
                have ceq : duF (kK bt tp.toNatClampNeg) (vV bt tp.toNatClampNeg) (1 - jb.toInt) [] ci = duF (kK bt tp.toNatClampNeg) (vV bt tp.toNatClampNeg) (1 - jb.toInt) ((9, zF) :: t_) (cj + 1) := ((HD.get hgd9 (by omega)).2).trans (duF_not hnbl kw_ rfl)
                have cxo : CXO ((9, zF) :: t_) := CXO.o (HD.get hxo9) (by decide)
                have cdl : dl = opL ((9, zF) :: t_) := (HD.get hgd9 (by omega)).1.trans (opL_o (by decide)).symm
                have hkl := cK_le (f := fun j => fI H8364 pq j) (x8365.toNatClampNeg)
                have hkc := pqn.2.2.1
                have hkd := pqn.2.1
                refine lv_aload_n hx hb dX10_readAny_81 rfl (lv_at hl8323 1 rfl) ?_
                refine x_V (As := []) (rest := []) C (a_X10_reads_e l K G H8364 (x7552) (x7553) (x7554) (x7555) (tp) bt hTH8364 ga0 gtq m8386 m8378 m8379 m8380 m8381 m8387 g8367 g8368 g8369 g8370 (by and_intros <;> first | assumption | omega) (hy1) f8377) yo_X10_reads wM_X10_242 ⟨⟨by decide, by decide⟩, by decide, by decide⟩ (x_rv C hTH8364 (ci := 10) rfl ga0 rg_112) rfl hl8323.1 rfl (Nat.le_of_ble_eq_true rfl) dX10_readAny_82 hSH8364 (AE_sub (fun _ _ => rfl) (by decide) hSH8364.1) (fun vH8391 H8391 locsH8391 pH8391 zH8391 kH8391 hSH8391 => ?_)
                obtain ⟨x8392, x8393, x8394, x8395, hvH8391, ex8392, ex8393, ex8394, ex8395, hrH8391, m8396, g8397, g8398, g8399, g8400, mf8401, m8402, m8403, m8404, hTH8391⟩ := pH8391
                subst hvH8391
                clear zH8391
                replace m8396 := EQN.mk m8396
                clear f8343 m8344 m8345 m8346 m8347 m8348 m8350 m8351 m8352 m8353 m8354 m8355 m8356 m8357
                have b8405 : ∀ j : Nat, j < 3000 + mn.toNatClampNeg → fI H8391 oq j = fI s.heap oq j ∧ fI H8391 aq j = fI s.heap aq j := fun j hj => ⟨(fI_kept (x_lt hTH8364 kH8391 goq (by decide))).trans (b8374 j hj).1, (fI_kept (x_lt hTH8364 kH8391 gaq (by decide))).trans (b8374 j hj).2⟩
                have b8406 : WF (fun k => fI H8391 oq k) (fun k => fI H8391 aq k) (3000 + mn.toNatClampNeg) (3000 + x7556.toNatClampNeg) 0 (B + 1 - x7551.toNatClampNeg) := WF.congr (fun j => fI_kept (x_lt hTH8364 kH8391 goq (by decide))) (fun j => fI_kept (x_lt hTH8364 kH8391 gaq (by decide))) b8375
                have b8407 : RZ (1 - jb.toInt) (fun k => fI H8391 oq k) (fun k => fI H8391 aq k) (3000 + mn.toNatClampNeg) (3000 + x7556.toNatClampNeg) (dl) := RZ.congr (fun j => fI_kept (x_lt hTH8364 kH8391 goq (by decide))) (fun j => fI_kept (x_lt hTH8364 kH8391 gaq (by decide))) b8376
                have b8408 : PQ (fun j => fI H8391 pq j) (x8365.toNatClampNeg) (x7557.toInt + 1) (x7550.toInt) (B) (1) := PQ.congr (fun j => fI_kept (x_lt hTH8364 kH8391 gpq (by decide))) pqn
                have b8409 : PX (fun j => fI H8391 pq j) (x8365.toNatClampNeg) (x7557.toInt + 1) ((false :: ms)) := PX.congr (fun j => fI_kept (x_lt hTH8364 kH8391 gpq (by decide))) pxn
                have b8410 : CXP (fun j => fI H8391 pq j) (((9, zF) :: t_)) (x8365.toNatClampNeg) := CXP.congr (fun j => fI_kept (x_lt hTH8364 kH8391 gpq (by decide))) cxn
                have f8411 : ∀ j : Nat, bt j = (fI H8391 tq j).toInt := fun j => (f8377 j).trans (congrArg Int32.toInt (fI_kept (x_lt hTH8364 kH8391 gtq (by decide))).symm)
                have m8412 := (m8382).trans (MF.i mf8401 (k := 35) (by decide) (by decide)).symm
                have m8413 := (m8383).trans (MF.r mf8401 (k := 32) (by decide) (by decide)).symm
                have m8414 := (m8384).trans (MF.r mf8401 (k := 33) (by decide) (by decide)).symm
                have m8415 := (m8366).trans (MF.r mf8401 (k := 37) (by decide) (by decide)).symm
                have m8416 := (m8386).trans (MF.r mf8401 (k := 17) (by decide) (by decide)).symm
                have m8417 := (m8387).trans (MF.i mf8401 (k := 18) (by decide) (by decide)).symm
                have m8418 := (m8388).trans (MF.i mf8401 (k := 34) (by decide) (by decide)).symm
                have m8419 := (m8389).trans (MF.i mf8401 (k := 36) (by decide) (by decide)).symm
                have m8420 := (ex8365).trans (MF.i mf8401 (k := 38) (by decide) (by decide)).symm
                have mf8421 : MF K s.heap H8391 a0 [19, 20, 21, 22, 35, 36, 38, 39, 40] := MF.trans mf8390 mf8401 (by decide)
                have bx8392 := ty_fi (x := x8392) (k := 19) ex8392 hTH8391 ga0 rg_112 rfl
                have bx8393 := ty_fi (x := x8393) (k := 20) ex8393 hTH8391 ga0 rg_112 rfl
                have bx8394 := ty_fi (x := x8394) (k := 21) ex8394 hTH8391 ga0 rg_112 rfl
                have bx8395 := ty_fi (x := x8395) (k := 22) ex8395 hTH8391 ga0 rg_112 rfl
                have cn_x8393 := i_cl (x := x8393) bx8393.1
                have cn_x7553 := i_cl (x := x7553) bx7553.1
                have cu8422 : CU bt tp.toNatClampNeg (cj + 1) x8393 x8392 x8394 x8395 := CU.next hcu9 m8402 m8403 m8404 (by omega)
                obtain ⟨r1H8391, r2H8391, r3H8391, r4H8391, r5H8391⟩ := hrH8391
                refine W.eq (g2 := F0 m 85 ls8322 []) rfl ?_
                refine lv_goto (tgt := 9) hx hb dX10_readAny_85 (by decide) ?_
                have cl_mn := i_cl (x := mn) (by omega)
                have hpb := b8408.2.2.2.1
                have lx := pxc8362.2
                exact ih9 (B) (cj + 1) (false :: ms) ((9, zF) :: t_) zF (dl) ls8322 H8391 locsH8391 (x7550) (x7551) (x8392) (x8393) (x8394) (x8395) (x7556) (x8330) (x8365) (lv_sub hl8323 [1, 2, 3] rfl) hTH8391 hSH8391 bx7550 bx7551 bx8392 bx8393 bx7556 ⟨by have := i_rng x8330; omega, by have := i_rng x8330; omega⟩ bx8365 ex8392 ex8393 ex8394 ex8395 m8412 m8419 m8420 m8413 m8414 m8415 m8396 m8417 m8418 b8405 (WF.castE b8406 (by omega) (by omega) (by omega)) (PQ.cast b8408 (by omega) (by omega) (by omega) (by omega) (by omega)) (PX.cast b8409 (by omega) (by omega)) (CXP.cast b8410 (by omega)) (RZ.cast b8407 (by omega) (by omega) rfl) mf8421 g8397 g8398 g8399 g8400 f8411 (by omega) (by and_intros <;> first | assumption | omega) cu8422 (HD.mk (fun _ => ((HD.get hdu9 (by omega)).trans (du_not (by omega) kw_)))) (HD.mk (fun h => by exfalso; omega)) (HD.mk cxo) (HD.mk (fun _ => ⟨cdl, ceq⟩)) (HD.mk (fun h => by exfalso; omega))
            · have k8359 := i_eq c8358
              exfalso
              omega
          · have k8328 := i_eq c8327
            refine lv_aload_n hx hb dX10_readAny_42 rfl (lv_at hl8323 1 rfl) ?_
            refine lv_iconst (v := 3) hx hb dX10_readAny_43 (by decide) ?_
            refine x_V (As := [.int 3]) (rest := []) C (a_X10_fails l K G H8295 (3) hTH8295 ga0 g8304 g8305 g8306 g8307) yo_X10_fails wM_X10_235 ⟨⟨by decide, by decide⟩, by decide, by decide⟩ (x_rv C hTH8295 (ci := 10) rfl ga0 rg_112) rfl hl8323.1 rfl (Nat.le_of_ble_eq_true rfl) dX10_readAny_44 hSH8295 (AE_sub (fun _ _ => rfl) (by decide) hSH8295.1) (fun vH8423 H8423 locsH8423 pH8423 zH8423 kH8423 hSH8423 => ?_)
            obtain ⟨x8424, hvH8423, bx8424, g8425, g8426, g8427, g8428, mf8429, hTH8423⟩ := pH8423
            subst hvH8423
            clear zH8423
            have b8430 : ∀ j : Nat, j < 3000 + mn.toNatClampNeg → fI H8423 oq j = fI s.heap oq j ∧ fI H8423 aq j = fI s.heap aq j := fun j hj => ⟨(fI_kept (x_lt hTH8295 kH8423 goq (by decide))).trans (b8298 j hj).1, (fI_kept (x_lt hTH8295 kH8423 gaq (by decide))).trans (b8298 j hj).2⟩
            have b8431 : WF (fun k => fI H8423 oq k) (fun k => fI H8423 aq k) (3000 + mn.toNatClampNeg) (3000 + x7556.toNatClampNeg) 0 (B + 1 - x7551.toNatClampNeg) := WF.congr (fun j => fI_kept (x_lt hTH8295 kH8423 goq (by decide))) (fun j => fI_kept (x_lt hTH8295 kH8423 gaq (by decide))) b8299
            have b8432 : PQ (fun j => fI H8423 pq j) (x7558.toNatClampNeg) (x7557.toInt) (x7550.toInt) (B) (x7551.toInt) := PQ.congr (fun j => fI_kept (x_lt hTH8295 kH8423 gpq (by decide))) b8300
            have b8433 : PX (fun j => fI H8423 pq j) (x7558.toNatClampNeg) (x7557.toInt) (ms) := PX.congr (fun j => fI_kept (x_lt hTH8295 kH8423 gpq (by decide))) b8301
            have b8434 : CXP (fun j => fI H8423 pq j) (t_) (x7558.toNatClampNeg) := CXP.congr (fun j => fI_kept (x_lt hTH8295 kH8423 gpq (by decide))) b8302
            have b8435 : RZ (1 - jb.toInt) (fun k => fI H8423 oq k) (fun k => fI H8423 aq k) (3000 + mn.toNatClampNeg) (3000 + x7556.toNatClampNeg) (dl) := RZ.congr (fun j => fI_kept (x_lt hTH8295 kH8423 goq (by decide))) (fun j => fI_kept (x_lt hTH8295 kH8423 gaq (by decide))) b8303
            have f8436 : ∀ j : Nat, bt j = (fI H8423 tq j).toInt := fun j => (f8308 j).trans (congrArg Int32.toInt (fI_kept (x_lt hTH8295 kH8423 gtq (by decide))).symm)
            have m8437 := (m8309).trans (MF.i mf8429 (k := 19) (by decide) (by decide)).symm
            have m8438 := (m8310).trans (MF.i mf8429 (k := 20) (by decide) (by decide)).symm
            have m8439 := (m8311).trans (MF.i mf8429 (k := 21) (by decide) (by decide)).symm
            have m8440 := (m8312).trans (MF.i mf8429 (k := 22) (by decide) (by decide)).symm
            have m8441 := (m8313).trans (MF.i mf8429 (k := 35) (by decide) (by decide)).symm
            have m8442 := (m8314).trans (MF.i mf8429 (k := 36) (by decide) (by decide)).symm
            have m8443 := (m8315).trans (MF.i mf8429 (k := 38) (by decide) (by decide)).symm
            have m8444 := (m8316).trans (MF.r mf8429 (k := 32) (by decide) (by decide)).symm
            have m8445 := (m8317).trans (MF.r mf8429 (k := 33) (by decide) (by decide)).symm
            have m8446 := (m8318).trans (MF.r mf8429 (k := 37) (by decide) (by decide)).symm
            have m8447 := (m8319).trans (MF.r mf8429 (k := 17) (by decide) (by decide)).symm
            have m8448 := (m8320).trans (MF.i mf8429 (k := 18) (by decide) (by decide)).symm
            have m8449 := (m8321).trans (MF.i mf8429 (k := 34) (by decide) (by decide)).symm
            have mf8450 : MF K s.heap H8423 a0 [19, 20, 21, 22, 35, 36, 38, 39, 40] := MF.trans mf8297 mf8429 (by decide)
            refine W.eq (g2 := F0 m 47 ls8322 [.int x8424]) rfl ?_
            have lx := b8433.2
            exact x_iret C hQ dX10_readAny_47 hSH8423 (by decide) (by decide) (⟨x8424, x7552, x7553, x7554, x7555, x7556, x7557, x7558, rfl, by omega, m8437, m8438, m8439, m8440, m8441, m8442, m8443, Or.inl (by omega), m8444, m8445, m8446, m8447, g8425, g8426, g8427, g8428, mf8450, b8430, Or.inl (by omega), Or.inl ⟨(HD.get hdu9 (by omega)).trans (du_deep (by omega) (Or.inl kw_)), by omega⟩, Or.inl (by omega), Or.inl (by omega), hTH8423⟩)
        · have k8325 := i_eq c8324
          have kn_ : kK bt tp.toNatClampNeg cj ≠ 10 := fun e => by have z2 := (TV.wd hcu9.2.2.1).mpr (by omega); have z1 := TV.wv hcu9.2.2.1 z2; omega
          clear hrH8295
          refine lv_aload_n hx hb dX10_readAny_24 rfl (lv_at hl8323 1 rfl) ?_
          refine lv_bipush (v := 40) hx hb dX10_readAny_25 (by decide) ?_
          refine x_V (As := [.int 40]) (rest := []) C (a_X10_isSign_e l K G H8295 (40) (x7554) (x7555) hTH8295 ga0 m8311 m8312) yo_X10_isSign wM_X10_249 ⟨⟨by decide, by decide⟩, by decide, by decide⟩ (x_rv C hTH8295 (ci := 10) rfl ga0 rg_112) rfl hl8323.1 rfl (Nat.le_of_ble_eq_true rfl) dX10_readAny_27 hSH8295 (AE_sub (fun _ _ => rfl) (by decide) hSH8295.1) (fun vH8451 H8451 locsH8451 pH8451 zH8451 kH8451 hSH8451 => ?_)
          obtain ⟨x8452, hvH8451, bx8452, hrH8451, hTH8451⟩ := pH8451
          subst hvH8451
          clear zH8451
          have mf8453 : MF K s.heap H8451 a0 [19, 20, 21, 22, 35, 36, 38, 39, 40] := MF.eff (x_lt hTH8295 kH8451 ga0 (by decide)) mf8297
          have b8454 : ∀ j : Nat, j < 3000 + mn.toNatClampNeg → fI H8451 oq j = fI s.heap oq j ∧ fI H8451 aq j = fI s.heap aq j := fun j hj => ⟨(fI_kept (x_lt hTH8295 kH8451 goq (by decide))).trans (b8298 j hj).1, (fI_kept (x_lt hTH8295 kH8451 gaq (by decide))).trans (b8298 j hj).2⟩
          have b8455 : WF (fun k => fI H8451 oq k) (fun k => fI H8451 aq k) (3000 + mn.toNatClampNeg) (3000 + x7556.toNatClampNeg) 0 (B + 1 - x7551.toNatClampNeg) := WF.congr (fun j => fI_kept (x_lt hTH8295 kH8451 goq (by decide))) (fun j => fI_kept (x_lt hTH8295 kH8451 gaq (by decide))) b8299
          have b8456 : PQ (fun j => fI H8451 pq j) (x7558.toNatClampNeg) (x7557.toInt) (x7550.toInt) (B) (x7551.toInt) := PQ.congr (fun j => fI_kept (x_lt hTH8295 kH8451 gpq (by decide))) b8300
          have b8457 : PX (fun j => fI H8451 pq j) (x7558.toNatClampNeg) (x7557.toInt) (ms) := PX.congr (fun j => fI_kept (x_lt hTH8295 kH8451 gpq (by decide))) b8301
          have b8458 : CXP (fun j => fI H8451 pq j) (t_) (x7558.toNatClampNeg) := CXP.congr (fun j => fI_kept (x_lt hTH8295 kH8451 gpq (by decide))) b8302
          have b8459 : RZ (1 - jb.toInt) (fun k => fI H8451 oq k) (fun k => fI H8451 aq k) (3000 + mn.toNatClampNeg) (3000 + x7556.toNatClampNeg) (dl) := RZ.congr (fun j => fI_kept (x_lt hTH8295 kH8451 goq (by decide))) (fun j => fI_kept (x_lt hTH8295 kH8451 gaq (by decide))) b8303
          have g8460 : CG (avw K H8451 a0) := CG.congr (fun k hk j => av_eff hTH8295 kH8451 ga0 (by decide) (CG_eff [] (by decide) k hk)) g8304
          have g8461 : TU (avw K H8451 a0) (svw K H8451 a0) := TU.congr (fun k hk j => av_eff hTH8295 kH8451 ga0 (by decide) (TU_eff [] (by decide) k hk)) (fun k hk => sv_eff hTH8295 kH8451 ga0 (by decide)) g8305
          have g8462 : WD (avw K H8451 a0) := WD.congr (fun k hk j => av_eff hTH8295 kH8451 ga0 (by decide) (WD_eff [] (by decide) k hk)) g8306
          have g8463 : IM (avw K H8451 a0) := IM.congr (fun k hk j => av_eff hTH8295 kH8451 ga0 (by decide) (IM_eff [] (by decide) k hk)) g8307
          have f8464 : ∀ j : Nat, bt j = (fI H8451 tq j).toInt := fun j => (f8308 j).trans (congrArg Int32.toInt (fI_kept (x_lt hTH8295 kH8451 gtq (by decide))).symm)
          have m8465 := (m8309).trans (fI_kept (x_lt hTH8295 kH8451 ga0 (by decide))).symm
          have m8466 := (m8310).trans (fI_kept (x_lt hTH8295 kH8451 ga0 (by decide))).symm
          have m8467 := (m8311).trans (fI_kept (x_lt hTH8295 kH8451 ga0 (by decide))).symm
          have m8468 := (m8312).trans (fI_kept (x_lt hTH8295 kH8451 ga0 (by decide))).symm
          have m8469 := (m8313).trans (fI_kept (x_lt hTH8295 kH8451 ga0 (by decide))).symm
          have m8470 := (m8314).trans (fI_kept (x_lt hTH8295 kH8451 ga0 (by decide))).symm
          have m8471 := (m8315).trans (fI_kept (x_lt hTH8295 kH8451 ga0 (by decide))).symm
          have m8472 := (m8316).trans (fR_kept (x_lt hTH8295 kH8451 ga0 (by decide))).symm
          have m8473 := (m8317).trans (fR_kept (x_lt hTH8295 kH8451 ga0 (by decide))).symm
          have m8474 := (m8318).trans (fR_kept (x_lt hTH8295 kH8451 ga0 (by decide))).symm
          have m8475 := (m8319).trans (fR_kept (x_lt hTH8295 kH8451 ga0 (by decide))).symm
          have m8476 := (m8320).trans (fI_kept (x_lt hTH8295 kH8451 ga0 (by decide))).symm
          have m8477 := (m8321).trans (fI_kept (x_lt hTH8295 kH8451 ga0 (by decide))).symm
          refine W.eq (g2 := F0 m 30 ls8322 [.int x8452]) rfl ?_
          refine lv_if_eq (tgt := 88) hx hb dX10_readAny_30 (by decide) (fun c8478 => ?_) (fun c8478 => ?_)
          · have k8479 := i_eq c8478
            have cl_mn := i_cl (x := mn) (by omega)
            have cl_x7556 := i_cl (x := x7556) bx7556.1
            have cl_x7558 := i_cl (x := x7558) bx7558.1
            have kb_ : kK bt tp.toNatClampNeg cj ≠ 40 := fun e => by have z_ := (TV.sg (c := 40) hcu9.2.2.1 (by decide)).mpr e; omega
            exact J88  ls8322 H8451 locsH8451 (x7552) (x7553) (x7554) (x7555) (x7556) (x7557) (x7558) (lv_sub hl8323 [1, 2] rfl) hTH8451 hSH8451 bx7552 bx7553 bx7556 bx7557 bx7558 m8465 m8466 m8467 m8468 m8469 m8470 m8471 m8472 m8473 m8474 m8475 m8476 m8477 b8454 (WF.castE b8455 (by omega) (by omega) (by omega)) (PQ.cast b8456 (by omega) (by omega) (by omega) (by omega) (by omega)) (PX.cast b8457 (by omega) (by omega)) (CXP.cast b8458 (by omega)) (RZ.cast b8459 (by omega) (by omega) rfl) mf8453 g8460 g8461 g8462 g8463 f8464 (by and_intros <;> first | assumption | omega) hcu9 kn_ kb_ (HD.get hdu9 (by omega)) (HD.get hgd9 (by omega))
          · have k8479 := i_ne c8478
            have kw_ : kK bt tp.toNatClampNeg cj = 40 := (TV.sg (c := 40) hcu9.2.2.1 (by decide)).mp ⟨by omega, by omega⟩
            replace i3 := i3.resolve_left (by omega)
            clear i4
            refine lv_aload_n hx hb dX10_readAny_33 rfl (lv_at hl8323 1 rfl) ?_
            refine x_gi C hTH8451 (ci := 10) (k := 36) rfl inX10 (by decide) wF_X10_261 ga0 rg_112 rfl dX10_readAny_34 (fun x8480 ex8480 bx8480 => ?_)
            have ux8480 : x7557 = x8480 := (m8470).trans ex8480.symm
            subst ux8480
            refine lv_bipush (v := 8) hx hb dX10_readAny_37 (by decide) ?_
            refine lv_icmp_ne (tgt := 48) hx hb dX10_readAny_39 (by decide) (fun c8481 => ?_) (fun c8481 => ?_)
            · have k8482 := i_ne c8481
              refine lv_aload_n hx hb dX10_readAny_48 rfl (lv_at hl8323 1 rfl) ?_
              refine lv_aload_n hx hb dX10_readAny_49 rfl (lv_at hl8323 1 rfl) ?_
              refine x_gi C hTH8451 (ci := 10) (k := 36) rfl inX10 (by decide) wF_X10_261 ga0 rg_112 rfl dX10_readAny_50 (fun x8483 ex8483 bx8483 => ?_)
              have ux8483 : x7557 = x8483 := (m8470).trans ex8483.symm
              subst ux8483
              refine lv_iconst (v := 1) hx hb dX10_readAny_53 (by decide) ?_
              refine lv_iadd hx hb dX10_readAny_54 ?_
              refine lv_topi (fun x8484 ex8484 => ?_)
              have tx8484 := i_add ex8484 (by omega)
              refine x_put C hTH8451 hSH8451 (ci := 10) (k := 36) (v := .int x8484) (ty0 := tyX10) rfl inX10 tyX10_ok nmX10 (by decide) rfl wF_X10_261 ga0 rg_112 rfl rfl (okI (by omega) (by omega)) rfl rfl (AE_in ga0 (by decide)) dX10_readAny_55 (fun H8485 locsH8485 hTH8485 hSH8485 wH8485 => ?_)
              clear f8308 m8309 m8310 m8311 m8312 m8313 m8314 m8315 m8316 m8317 m8318 m8319 m8320 m8321
              have mf8486 : MF K s.heap H8485 a0 [19, 20, 21, 22, 35, 36, 38, 39, 40] := MF.fld hap wH8485 (by decide) (by decide) mf8453
              have g8487 : CG (avw K H8485 a0) := CG.congr (fun k hk j => av_fld hTH8451 ga0 hap wH8485 (by decide) (CG_ok 112 (by decide) k hk) (CG_ne 36 (by decide) k hk)) g8460
              have g8488 : TU (avw K H8485 a0) (svw K H8485 a0) := TU.congr (fun k hk j => av_fld hTH8451 ga0 hap wH8485 (by decide) (TU_ok 112 (by decide) k hk) (TU_ne 36 (by decide) k hk)) (fun k hk => sv_fld hap wH8485 (by decide) (TU_slt k hk) (TU_sne 36 (by decide) k hk)) g8461
              have g8489 : WD (avw K H8485 a0) := WD.congr (fun k hk j => av_fld hTH8451 ga0 hap wH8485 (by decide) (WD_ok 112 (by decide) k hk) (WD_ne 36 (by decide) k hk)) g8462
              have g8490 : IM (avw K H8485 a0) := IM.congr (fun k hk j => av_fld hTH8451 ga0 hap wH8485 (by decide) (IM_ok 112 (by decide) k hk) (IM_ne 36 (by decide) k hk)) g8463
              have b8491 : ∀ j : Nat, j < 3000 + mn.toNatClampNeg → fI H8485 oq j = fI s.heap oq j ∧ fI H8485 aq j = fI s.heap aq j := fun j hj => ⟨(Wr.neI wH8485 (Or.inl (G_ne goq ga0 (by decide)))).trans (b8454 j hj).1, (Wr.neI wH8485 (Or.inl (G_ne gaq ga0 (by decide)))).trans (b8454 j hj).2⟩
              have b8492 : WF (fun k => fI H8485 oq k) (fun k => fI H8485 aq k) (3000 + mn.toNatClampNeg) (3000 + x7556.toNatClampNeg) 0 (B + 1 - x7551.toNatClampNeg) := WF.congr (fun j => Wr.neI wH8485 (Or.inl (G_ne goq ga0 (by decide)))) (fun j => Wr.neI wH8485 (Or.inl (G_ne gaq ga0 (by decide)))) b8455
              have b8493 : PQ (fun j => fI H8485 pq j) (x7558.toNatClampNeg) (x7557.toInt) (x7550.toInt) (B) (x7551.toInt) := PQ.congr (fun j => Wr.neI wH8485 (Or.inl (G_ne gpq ga0 (by decide)))) b8456
              have b8494 : PX (fun j => fI H8485 pq j) (x7558.toNatClampNeg) (x7557.toInt) (ms) := PX.congr (fun j => Wr.neI wH8485 (Or.inl (G_ne gpq ga0 (by decide)))) b8457
              have b8495 : CXP (fun j => fI H8485 pq j) (t_) (x7558.toNatClampNeg) := CXP.congr (fun j => Wr.neI wH8485 (Or.inl (G_ne gpq ga0 (by decide)))) b8458
              have b8496 : RZ (1 - jb.toInt) (fun k => fI H8485 oq k) (fun k => fI H8485 aq k) (3000 + mn.toNatClampNeg) (3000 + x7556.toNatClampNeg) (dl) := RZ.congr (fun j => Wr.neI wH8485 (Or.inl (G_ne goq ga0 (by decide)))) (fun j => Wr.neI wH8485 (Or.inl (G_ne gaq ga0 (by decide)))) b8459
              have f8497 : ∀ j : Nat, bt j = (fI H8485 tq j).toInt := fun j => (f8464 j).trans (congrArg Int32.toInt (Wr.neI wH8485 (Or.inl (G_ne gtq ga0 (by decide)))).symm)
              have m8498 := m8465.trans (Wr.neI wH8485 (Or.inr (x_apart hKT hts inX10 tyX10 tyX10_ok nmX10 rfl 19 36 (by decide) (by decide) (by decide)))).symm
              have m8499 := m8466.trans (Wr.neI wH8485 (Or.inr (x_apart hKT hts inX10 tyX10 tyX10_ok nmX10 rfl 20 36 (by decide) (by decide) (by decide)))).symm
              have m8500 := m8467.trans (Wr.neI wH8485 (Or.inr (x_apart hKT hts inX10 tyX10 tyX10_ok nmX10 rfl 21 36 (by decide) (by decide) (by decide)))).symm
              have m8501 := m8468.trans (Wr.neI wH8485 (Or.inr (x_apart hKT hts inX10 tyX10 tyX10_ok nmX10 rfl 22 36 (by decide) (by decide) (by decide)))).symm
              have m8502 := m8469.trans (Wr.neI wH8485 (Or.inr (x_apart hKT hts inX10 tyX10 tyX10_ok nmX10 rfl 35 36 (by decide) (by decide) (by decide)))).symm
              have m8504 := m8471.trans (Wr.neI wH8485 (Or.inr (x_apart hKT hts inX10 tyX10 tyX10_ok nmX10 rfl 38 36 (by decide) (by decide) (by decide)))).symm
              have m8505 := m8472.trans (Wr.neR wH8485 (Or.inr (x_apart hKT hts inX10 tyX10 tyX10_ok nmX10 rfl 32 36 (by decide) (by decide) (by decide)))).symm
              have m8506 := m8473.trans (Wr.neR wH8485 (Or.inr (x_apart hKT hts inX10 tyX10 tyX10_ok nmX10 rfl 33 36 (by decide) (by decide) (by decide)))).symm
              have m8507 := m8474.trans (Wr.neR wH8485 (Or.inr (x_apart hKT hts inX10 tyX10 tyX10_ok nmX10 rfl 37 36 (by decide) (by decide) (by decide)))).symm
              have m8508 := m8475.trans (Wr.neR wH8485 (Or.inr (x_apart hKT hts inX10 tyX10 tyX10_ok nmX10 rfl 17 36 (by decide) (by decide) (by decide)))).symm
              have m8509 := m8476.trans (Wr.neI wH8485 (Or.inr (x_apart hKT hts inX10 tyX10 tyX10_ok nmX10 rfl 18 36 (by decide) (by decide) (by decide)))).symm
              have m8510 := m8477.trans (Wr.neI wH8485 (Or.inr (x_apart hKT hts inX10 tyX10 tyX10_ok nmX10 rfl 34 36 (by decide) (by decide) (by decide)))).symm
              have m8511 := Wr.I wH8485
              have m8511 := m8511.symm
              refine lv_iload_n hx hb dX10_readAny_58 rfl (lv_at hl8323 0 rfl) ?_
              refine lv_if_ne (tgt := 66) hx hb dX10_readAny_59 (by decide) (fun c8512 => ?_) (fun c8512 => ?_)
              · have k8513 := i_ne c8512
                exfalso
                omega
              · have k8513 := i_eq c8512
                refine lv_iload_n hx hb dX10_readAny_62 rfl (lv_at hl8323 2 rfl) ?_
                refine lv_iconst (v := 1) hx hb dX10_readAny_63 (by decide) ?_
                refine lv_iadd hx hb dX10_readAny_64 ?_
                refine lv_topi (fun x8514 ex8514 => ?_)
                have tx8514 := i_add ex8514 (by omega)
                refine lv_istore_n (lv' := [(1, .int x8514), (3, .int x8296), (0, .ref a0), (2, .int x7551)]) hx hb dX10_readAny_65 rfl hl8323 (by decide) rfl (fun ls8515 hl8516 => ?_)
                refine lv_aload_n hx hb dX10_readAny_66 rfl (lv_at hl8516 2 rfl) ?_
                refine lv_iload_n hx hb dX10_readAny_67 rfl (lv_at hl8516 1 rfl) ?_
                refine lv_if_eq (tgt := 76) hx hb dX10_readAny_68 (by decide) (fun c8517 => ?_) (fun c8517 => ?_)
                · have k8518 := i_eq c8517
                  refine lv_bipush (v := 12) hx hb dX10_readAny_76 (by decide) ?_
                  have cc_x7558 := i_cl (x := x7558) bx7558.1
                  have cc_x7556 := i_cl (x := x7556) bx7556.1
                  have pqc : PQ (fun j => fI H8485 pq j) (x7558.toNatClampNeg) (x7557.toInt) (x7550.toInt) (B) (x7551.toInt) := PQ.cast b8493 (by omega) (by omega) rfl rfl rfl
                  have hcb := pqc.2.2.2.1
                  have hco := pqc.2.1
                  have hck := pqc.2.2.1
                  have h26 := PD.n26 pqc.1 (by omega)
                  have pxc8519 : PX (fun j => fI H8485 pq j) (x7558.toNatClampNeg) (x7557.toInt) (ms) := PX.cast b8494 (by omega) (by omega)
                  have cn_x7558 := i_cl (x := x7558) bx7558.1
                  have cn_x7558 := i_cl (x := x7558) bx7558.1
                  have cxc8520 : CXP (fun j => fI H8485 pq j) (t_) (x7558.toNatClampNeg) := CXP.cast b8495 (by omega)
                  refine x_V (As := [.int 12]) (rest := []) C (a_X10_waits l K G H8485 (12) (x7558) hTH8485 ga0 gpq m8507 m8504 g8487 g8488 g8489 g8490 (by and_intros <;> first | assumption | omega)) yo_X10_waits wM_X10_267 ⟨⟨by decide, by decide⟩, by decide, by decide⟩ (x_rv C hTH8485 (ci := 10) rfl ga0 rg_112) rfl hl8516.1 rfl (Nat.le_of_ble_eq_true rfl) dX10_readAny_78 hSH8485 (AE_sub (fun _ _ => rfl) (by decide) hSH8485.1) (fun vH8521 H8521 locsH8521 pH8521 zH8521 kH8521 hSH8521 => ?_)
                  obtain ⟨x8522, hvH8521, ex8522, hrH8521, m8523, g8524, g8525, g8526, g8527, mf8528, m8529, m8530, hTH8521⟩ := pH8521
                  subst hvH8521
                  clear zH8521
                  replace m8523 := EQN.mk m8523
                  clear f8464 m8465 m8466 m8467 m8468 m8469 m8470 m8471 m8472 m8473 m8474 m8475 m8476 m8477
                  have b8531 : ∀ j : Nat, j < 3000 + mn.toNatClampNeg → fI H8521 oq j = fI s.heap oq j ∧ fI H8521 aq j = fI s.heap aq j := fun j hj => ⟨(fI_kept (x_lt hTH8485 kH8521 goq (by decide))).trans (b8491 j hj).1, (fI_kept (x_lt hTH8485 kH8521 gaq (by decide))).trans (b8491 j hj).2⟩
                  have b8532 : WF (fun k => fI H8521 oq k) (fun k => fI H8521 aq k) (3000 + mn.toNatClampNeg) (3000 + x7556.toNatClampNeg) 0 (B + 1 - x7551.toNatClampNeg) := WF.congr (fun j => fI_kept (x_lt hTH8485 kH8521 goq (by decide))) (fun j => fI_kept (x_lt hTH8485 kH8521 gaq (by decide))) b8492
                  have b8533 : RZ (1 - jb.toInt) (fun k => fI H8521 oq k) (fun k => fI H8521 aq k) (3000 + mn.toNatClampNeg) (3000 + x7556.toNatClampNeg) (dl) := RZ.congr (fun j => fI_kept (x_lt hTH8485 kH8521 goq (by decide))) (fun j => fI_kept (x_lt hTH8485 kH8521 gaq (by decide))) b8496
                  have f8534 : ∀ j : Nat, bt j = (fI H8521 tq j).toInt := fun j => (f8497 j).trans (congrArg Int32.toInt (fI_kept (x_lt hTH8485 kH8521 gtq (by decide))).symm)
                  have m8535 := (m8498).trans (MF.i mf8528 (k := 19) (by decide) (by decide)).symm
                  have m8536 := (m8499).trans (MF.i mf8528 (k := 20) (by decide) (by decide)).symm
                  have m8537 := (m8500).trans (MF.i mf8528 (k := 21) (by decide) (by decide)).symm
                  have m8538 := (m8501).trans (MF.i mf8528 (k := 22) (by decide) (by decide)).symm
                  have m8539 := (m8502).trans (MF.i mf8528 (k := 35) (by decide) (by decide)).symm
                  have m8540 := (m8505).trans (MF.r mf8528 (k := 32) (by decide) (by decide)).symm
                  have m8541 := (m8506).trans (MF.r mf8528 (k := 33) (by decide) (by decide)).symm
                  have m8542 := (m8507).trans (MF.r mf8528 (k := 37) (by decide) (by decide)).symm
                  have m8543 := (m8508).trans (MF.r mf8528 (k := 17) (by decide) (by decide)).symm
                  have m8544 := (m8509).trans (MF.i mf8528 (k := 18) (by decide) (by decide)).symm
                  have m8545 := (m8510).trans (MF.i mf8528 (k := 34) (by decide) (by decide)).symm
                  have m8546 := (m8511).trans (MF.i mf8528 (k := 36) (by decide) (by decide)).symm
                  have mf8547 : MF K s.heap H8521 a0 [19, 20, 21, 22, 35, 36, 38, 39, 40] := MF.trans mf8486 mf8528 (by decide)
                  have bx8522 := ty_fi (x := x8522) (k := 38) ex8522 hTH8521 ga0 rg_112 rfl
                  refine W.eq (g2 := F0 m 81 ls8515 []) rfl ?_
                  have cc_x8522 := i_cl (x := x8522) bx8522.1
                  have hwx := congrArg Int32.toInt m8529
                  have pqn : PQ (fun j => fI H8521 pq j) (x8522.toNatClampNeg) (x7557.toInt + 1) (x7550.toInt + 1) (B) (1) := PQ.push (v := 12) pqc (by show (fI _ pq _).toInt = 12; rw [← m8529]; rfl) m8530 (by omega) (Or.inr (Or.inl ⟨rfl, rfl, rfl, rfl⟩))
                  have pxn : PX (fun j => fI H8521 pq j) (x8522.toNatClampNeg) (x7557.toInt + 1) ((true :: ms)) := PX.push (v := 12) pxc8519 (by show (fI _ pq _).toInt = 12; rw [← m8529]; rfl) m8530 (by omega) (Or.inr (Or.inl ⟨rfl, rfl, rfl⟩))
                  have cxn : CXP (fun j => fI H8521 pq j) (((12, zF) :: t_)) (x8522.toNatClampNeg) := CXP.push (g := zF) cxc8520 (by show (fI _ pq _).toInt = 12; rw [← m8529]; rfl) m8530 (by omega)
                  have hnbl : nb t_ < 8 := by rw [cxc8520.nb, pxc8519.1]; have := pxc8519.2; omega
                  have ceq : duF (kK bt tp.toNatClampNeg) (vV bt tp.toNatClampNeg) (1 - jb.toInt) [] ci = duF (kK bt tp.toNatClampNeg) (vV bt tp.toNatClampNeg) (1 - jb.toInt) ((12, zF) :: t_) (cj + 1) := ((HD.get hgd9 (by omega)).2).trans (duF_br hnbl kw_ rfl)
                  have cxo : CXO ((12, zF) :: t_) := CXO.o (HD.get hxo9) (by decide)
                  have cdl : dl = opL ((12, zF) :: t_) := (HD.get hgd9 (by omega)).1.trans (opL_o (by decide)).symm
                  have hkl := cK_le (f := fun j => fI H8521 pq j) (x8522.toNatClampNeg)
                  have hkc := pqn.2.2.1
                  have hkd := pqn.2.1
                  refine lv_aload_n hx hb dX10_readAny_81 rfl (lv_at hl8516 2 rfl) ?_
                  refine x_V (As := []) (rest := []) C (a_X10_reads_e l K G H8521 (x7552) (x7553) (x7554) (x7555) (tp) bt hTH8521 ga0 gtq m8543 m8535 m8536 m8537 m8538 m8544 g8524 g8525 g8526 g8527 (by and_intros <;> first | assumption | omega) (hy1) f8534) yo_X10_reads wM_X10_242 ⟨⟨by decide, by decide⟩, by decide, by decide⟩ (x_rv C hTH8521 (ci := 10) rfl ga0 rg_112) rfl hl8516.1 rfl (Nat.le_of_ble_eq_true rfl) dX10_readAny_82 hSH8521 (AE_sub (fun _ _ => rfl) (by decide) hSH8521.1) (fun vH8548 H8548 locsH8548 pH8548 zH8548 kH8548 hSH8548 => ?_)
                  obtain ⟨x8549, x8550, x8551, x8552, hvH8548, ex8549, ex8550, ex8551, ex8552, hrH8548, m8553, g8554, g8555, g8556, g8557, mf8558, m8559, m8560, m8561, hTH8548⟩ := pH8548
                  subst hvH8548
                  clear zH8548
                  replace m8553 := EQN.mk m8553
                  clear f8497 m8498 m8499 m8500 m8501 m8502 m8504 m8505 m8506 m8507 m8508 m8509 m8510 m8511
                  have b8562 : ∀ j : Nat, j < 3000 + mn.toNatClampNeg → fI H8548 oq j = fI s.heap oq j ∧ fI H8548 aq j = fI s.heap aq j := fun j hj => ⟨(fI_kept (x_lt hTH8521 kH8548 goq (by decide))).trans (b8531 j hj).1, (fI_kept (x_lt hTH8521 kH8548 gaq (by decide))).trans (b8531 j hj).2⟩
                  have b8563 : WF (fun k => fI H8548 oq k) (fun k => fI H8548 aq k) (3000 + mn.toNatClampNeg) (3000 + x7556.toNatClampNeg) 0 (B + 1 - x7551.toNatClampNeg) := WF.congr (fun j => fI_kept (x_lt hTH8521 kH8548 goq (by decide))) (fun j => fI_kept (x_lt hTH8521 kH8548 gaq (by decide))) b8532
                  have b8564 : RZ (1 - jb.toInt) (fun k => fI H8548 oq k) (fun k => fI H8548 aq k) (3000 + mn.toNatClampNeg) (3000 + x7556.toNatClampNeg) (dl) := RZ.congr (fun j => fI_kept (x_lt hTH8521 kH8548 goq (by decide))) (fun j => fI_kept (x_lt hTH8521 kH8548 gaq (by decide))) b8533
                  have b8565 : PQ (fun j => fI H8548 pq j) (x8522.toNatClampNeg) (x7557.toInt + 1) (x7550.toInt + 1) (B) (1) := PQ.congr (fun j => fI_kept (x_lt hTH8521 kH8548 gpq (by decide))) pqn
                  have b8566 : PX (fun j => fI H8548 pq j) (x8522.toNatClampNeg) (x7557.toInt + 1) ((true :: ms)) := PX.congr (fun j => fI_kept (x_lt hTH8521 kH8548 gpq (by decide))) pxn
                  have b8567 : CXP (fun j => fI H8548 pq j) (((12, zF) :: t_)) (x8522.toNatClampNeg) := CXP.congr (fun j => fI_kept (x_lt hTH8521 kH8548 gpq (by decide))) cxn
                  have f8568 : ∀ j : Nat, bt j = (fI H8548 tq j).toInt := fun j => (f8534 j).trans (congrArg Int32.toInt (fI_kept (x_lt hTH8521 kH8548 gtq (by decide))).symm)
                  have m8569 := (m8539).trans (MF.i mf8558 (k := 35) (by decide) (by decide)).symm
                  have m8570 := (m8540).trans (MF.r mf8558 (k := 32) (by decide) (by decide)).symm
                  have m8571 := (m8541).trans (MF.r mf8558 (k := 33) (by decide) (by decide)).symm
                  have m8572 := (m8523).trans (MF.r mf8558 (k := 37) (by decide) (by decide)).symm
                  have m8573 := (m8543).trans (MF.r mf8558 (k := 17) (by decide) (by decide)).symm
                  have m8574 := (m8544).trans (MF.i mf8558 (k := 18) (by decide) (by decide)).symm
                  have m8575 := (m8545).trans (MF.i mf8558 (k := 34) (by decide) (by decide)).symm
                  have m8576 := (m8546).trans (MF.i mf8558 (k := 36) (by decide) (by decide)).symm
                  have m8577 := (ex8522).trans (MF.i mf8558 (k := 38) (by decide) (by decide)).symm
                  have mf8578 : MF K s.heap H8548 a0 [19, 20, 21, 22, 35, 36, 38, 39, 40] := MF.trans mf8547 mf8558 (by decide)
                  have bx8549 := ty_fi (x := x8549) (k := 19) ex8549 hTH8548 ga0 rg_112 rfl
                  have bx8550 := ty_fi (x := x8550) (k := 20) ex8550 hTH8548 ga0 rg_112 rfl
                  have bx8551 := ty_fi (x := x8551) (k := 21) ex8551 hTH8548 ga0 rg_112 rfl
                  have bx8552 := ty_fi (x := x8552) (k := 22) ex8552 hTH8548 ga0 rg_112 rfl
                  have cn_x8550 := i_cl (x := x8550) bx8550.1
                  have cn_x7553 := i_cl (x := x7553) bx7553.1
                  have cu8579 : CU bt tp.toNatClampNeg (cj + 1) x8550 x8549 x8551 x8552 := CU.next hcu9 m8559 m8560 m8561 (by omega)
                  obtain ⟨r1H8548, r2H8548, r3H8548, r4H8548, r5H8548⟩ := hrH8548
                  refine W.eq (g2 := F0 m 85 ls8515 []) rfl ?_
                  refine lv_goto (tgt := 9) hx hb dX10_readAny_85 (by decide) ?_
                  have cl_mn := i_cl (x := mn) (by omega)
                  have hpb := b8565.2.2.2.1
                  have lx := pxc8519.2
                  exact ih9 (B) (cj + 1) (true :: ms) ((12, zF) :: t_) zF (dl) ls8515 H8548 locsH8548 (x8514) (x7551) (x8549) (x8550) (x8551) (x8552) (x7556) (x8484) (x8522) (lv_sub hl8516 [2, 0, 3] rfl) hTH8548 hSH8548 ⟨by have := i_rng x8514; omega, by have := i_rng x8514; omega⟩ bx7551 bx8549 bx8550 bx7556 ⟨by have := i_rng x8484; omega, by have := i_rng x8484; omega⟩ bx8522 ex8549 ex8550 ex8551 ex8552 m8569 m8576 m8577 m8570 m8571 m8572 m8553 m8574 m8575 b8562 (WF.castE b8563 (by omega) (by omega) (by omega)) (PQ.cast b8565 (by omega) (by omega) (by omega) (by omega) (by omega)) (PX.cast b8566 (by omega) (by omega)) (CXP.cast b8567 (by omega)) (RZ.cast b8564 (by omega) (by omega) rfl) mf8578 g8554 g8555 g8556 g8557 f8568 (by omega) (by and_intros <;> first | assumption | omega) cu8579 (HD.mk (fun _ => ((HD.get hdu9 (by omega)).trans (du_br (by omega) kw_)))) (HD.mk (fun h => by exfalso; omega)) (HD.mk cxo) (HD.mk (fun _ => ⟨cdl, ceq⟩)) (HD.mk (fun h => by exfalso; omega))
                · have k8518 := i_ne c8517
                  exfalso
                  omega
            · have k8482 := i_eq c8481
              refine lv_aload_n hx hb dX10_readAny_42 rfl (lv_at hl8323 1 rfl) ?_
              refine lv_iconst (v := 3) hx hb dX10_readAny_43 (by decide) ?_
              refine x_V (As := [.int 3]) (rest := []) C (a_X10_fails l K G H8451 (3) hTH8451 ga0 g8460 g8461 g8462 g8463) yo_X10_fails wM_X10_235 ⟨⟨by decide, by decide⟩, by decide, by decide⟩ (x_rv C hTH8451 (ci := 10) rfl ga0 rg_112) rfl hl8323.1 rfl (Nat.le_of_ble_eq_true rfl) dX10_readAny_44 hSH8451 (AE_sub (fun _ _ => rfl) (by decide) hSH8451.1) (fun vH8580 H8580 locsH8580 pH8580 zH8580 kH8580 hSH8580 => ?_)
              obtain ⟨x8581, hvH8580, bx8581, g8582, g8583, g8584, g8585, mf8586, hTH8580⟩ := pH8580
              subst hvH8580
              clear zH8580
              clear f8308 m8309 m8310 m8311 m8312 m8313 m8314 m8315 m8316 m8317 m8318 m8319 m8320 m8321
              have b8587 : ∀ j : Nat, j < 3000 + mn.toNatClampNeg → fI H8580 oq j = fI s.heap oq j ∧ fI H8580 aq j = fI s.heap aq j := fun j hj => ⟨(fI_kept (x_lt hTH8451 kH8580 goq (by decide))).trans (b8454 j hj).1, (fI_kept (x_lt hTH8451 kH8580 gaq (by decide))).trans (b8454 j hj).2⟩
              have b8588 : WF (fun k => fI H8580 oq k) (fun k => fI H8580 aq k) (3000 + mn.toNatClampNeg) (3000 + x7556.toNatClampNeg) 0 (B + 1 - x7551.toNatClampNeg) := WF.congr (fun j => fI_kept (x_lt hTH8451 kH8580 goq (by decide))) (fun j => fI_kept (x_lt hTH8451 kH8580 gaq (by decide))) b8455
              have b8589 : PQ (fun j => fI H8580 pq j) (x7558.toNatClampNeg) (x7557.toInt) (x7550.toInt) (B) (x7551.toInt) := PQ.congr (fun j => fI_kept (x_lt hTH8451 kH8580 gpq (by decide))) b8456
              have b8590 : PX (fun j => fI H8580 pq j) (x7558.toNatClampNeg) (x7557.toInt) (ms) := PX.congr (fun j => fI_kept (x_lt hTH8451 kH8580 gpq (by decide))) b8457
              have b8591 : CXP (fun j => fI H8580 pq j) (t_) (x7558.toNatClampNeg) := CXP.congr (fun j => fI_kept (x_lt hTH8451 kH8580 gpq (by decide))) b8458
              have b8592 : RZ (1 - jb.toInt) (fun k => fI H8580 oq k) (fun k => fI H8580 aq k) (3000 + mn.toNatClampNeg) (3000 + x7556.toNatClampNeg) (dl) := RZ.congr (fun j => fI_kept (x_lt hTH8451 kH8580 goq (by decide))) (fun j => fI_kept (x_lt hTH8451 kH8580 gaq (by decide))) b8459
              have f8593 : ∀ j : Nat, bt j = (fI H8580 tq j).toInt := fun j => (f8464 j).trans (congrArg Int32.toInt (fI_kept (x_lt hTH8451 kH8580 gtq (by decide))).symm)
              have m8594 := (m8465).trans (MF.i mf8586 (k := 19) (by decide) (by decide)).symm
              have m8595 := (m8466).trans (MF.i mf8586 (k := 20) (by decide) (by decide)).symm
              have m8596 := (m8467).trans (MF.i mf8586 (k := 21) (by decide) (by decide)).symm
              have m8597 := (m8468).trans (MF.i mf8586 (k := 22) (by decide) (by decide)).symm
              have m8598 := (m8469).trans (MF.i mf8586 (k := 35) (by decide) (by decide)).symm
              have m8599 := (m8470).trans (MF.i mf8586 (k := 36) (by decide) (by decide)).symm
              have m8600 := (m8471).trans (MF.i mf8586 (k := 38) (by decide) (by decide)).symm
              have m8601 := (m8472).trans (MF.r mf8586 (k := 32) (by decide) (by decide)).symm
              have m8602 := (m8473).trans (MF.r mf8586 (k := 33) (by decide) (by decide)).symm
              have m8603 := (m8474).trans (MF.r mf8586 (k := 37) (by decide) (by decide)).symm
              have m8604 := (m8475).trans (MF.r mf8586 (k := 17) (by decide) (by decide)).symm
              have m8605 := (m8476).trans (MF.i mf8586 (k := 18) (by decide) (by decide)).symm
              have m8606 := (m8477).trans (MF.i mf8586 (k := 34) (by decide) (by decide)).symm
              have mf8607 : MF K s.heap H8580 a0 [19, 20, 21, 22, 35, 36, 38, 39, 40] := MF.trans mf8453 mf8586 (by decide)
              refine W.eq (g2 := F0 m 47 ls8322 [.int x8581]) rfl ?_
              have lx := b8590.2
              exact x_iret C hQ dX10_readAny_47 hSH8580 (by decide) (by decide) (⟨x8581, x7552, x7553, x7554, x7555, x7556, x7557, x7558, rfl, by omega, m8594, m8595, m8596, m8597, m8598, m8599, m8600, Or.inl (by omega), m8601, m8602, m8603, m8604, g8582, g8583, g8584, g8585, mf8607, b8587, Or.inl (by omega), Or.inl ⟨(HD.get hdu9 (by omega)).trans (du_deep (by omega) (Or.inr kw_)), by omega⟩, Or.inl (by omega), Or.inl (by omega), hTH8580⟩)
  have pf00 : ∀ j : Nat, j < 3000 + mn.toNatClampNeg → fI s.heap oq j = fI s.heap oq j ∧ fI s.heap aq j = fI s.heap aq j := fun _ _ => ⟨rfl, rfl⟩
  have hmn := i_cl (x := mn) (by omega)
  refine lv_iconst (v := 0) hx hb dX10_readAny_0 (by decide) ?_
  refine lv_istore_n (lv' := [(1, .int 0), (0, .ref a0)]) hx hb dX10_readAny_1 rfl hl (by decide) rfl (fun ls8608 hl8609 => ?_)
  refine lv_aload_n hx hb dX10_readAny_2 rfl (lv_at hl8609 1 rfl) ?_
  refine lv_iconst (v := 0) hx hb dX10_readAny_3 (by decide) ?_
  refine x_put C hT hS (ci := 10) (k := 38) (v := .int 0) (ty0 := tyX10) rfl inX10 tyX10_ok nmX10 (by decide) rfl wF_X10_258 ga0 rg_112 rfl rfl (okI (by have := i_rng (0 : Int32); omega) (by have := i_rng (0 : Int32); omega)) rfl rfl (AE_in ga0 (by decide)) dX10_readAny_4 (fun H8610 locsH8610 hTH8610 hSH8610 wH8610 => ?_)
  have mf8611 : MF K s.heap H8610 a0 [19, 20, 21, 22, 35, 36, 38, 39, 40] := MF.fld hap wH8610 (by decide) (by decide) mf0
  have g8612 : CG (avw K H8610 a0) := CG.congr (fun k hk j => av_fld hT ga0 hap wH8610 (by decide) (CG_ok 112 (by decide) k hk) (CG_ne 38 (by decide) k hk)) hg_CG
  have g8613 : TU (avw K H8610 a0) (svw K H8610 a0) := TU.congr (fun k hk j => av_fld hT ga0 hap wH8610 (by decide) (TU_ok 112 (by decide) k hk) (TU_ne 38 (by decide) k hk)) (fun k hk => sv_fld hap wH8610 (by decide) (TU_slt k hk) (TU_sne 38 (by decide) k hk)) hg_TU
  have g8614 : WD (avw K H8610 a0) := WD.congr (fun k hk j => av_fld hT ga0 hap wH8610 (by decide) (WD_ok 112 (by decide) k hk) (WD_ne 38 (by decide) k hk)) hg_WD
  have g8615 : IM (avw K H8610 a0) := IM.congr (fun k hk j => av_fld hT ga0 hap wH8610 (by decide) (IM_ok 112 (by decide) k hk) (IM_ne 38 (by decide) k hk)) hg_IM
  have b8616 : ∀ j : Nat, j < 3000 + mn.toNatClampNeg → fI H8610 oq j = fI s.heap oq j ∧ fI H8610 aq j = fI s.heap aq j := fun j hj => ⟨(Wr.neI wH8610 (Or.inl (G_ne goq ga0 (by decide)))).trans (pf00 j hj).1, (Wr.neI wH8610 (Or.inl (G_ne gaq ga0 (by decide)))).trans (pf00 j hj).2⟩
  have f8617 : ∀ j : Nat, bt j = (fI H8610 tq j).toInt := fun j => (f0_bt j).trans (congrArg Int32.toInt (Wr.neI wH8610 (Or.inl (G_ne gtq ga0 (by decide)))).symm)
  have m8618 := eoq.trans (Wr.neR wH8610 (Or.inr (x_apart hKT hts inX10 tyX10 tyX10_ok nmX10 rfl 32 38 (by decide) (by decide) (by decide)))).symm
  have m8619 := eaq.trans (Wr.neR wH8610 (Or.inr (x_apart hKT hts inX10 tyX10 tyX10_ok nmX10 rfl 33 38 (by decide) (by decide) (by decide)))).symm
  have m8620 := epq.trans (Wr.neR wH8610 (Or.inr (x_apart hKT hts inX10 tyX10 tyX10_ok nmX10 rfl 37 38 (by decide) (by decide) (by decide)))).symm
  have m8621 := etq.trans (Wr.neR wH8610 (Or.inr (x_apart hKT hts inX10 tyX10 tyX10_ok nmX10 rfl 17 38 (by decide) (by decide) (by decide)))).symm
  have m8622 := esp.trans (Wr.neI wH8610 (Or.inr (x_apart hKT hts inX10 tyX10 tyX10_ok nmX10 rfl 19 38 (by decide) (by decide) (by decide)))).symm
  have m8623 := efr.trans (Wr.neI wH8610 (Or.inr (x_apart hKT hts inX10 tyX10 tyX10_ok nmX10 rfl 20 38 (by decide) (by decide) (by decide)))).symm
  have m8624 := etk.trans (Wr.neI wH8610 (Or.inr (x_apart hKT hts inX10 tyX10 tyX10_ok nmX10 rfl 21 38 (by decide) (by decide) (by decide)))).symm
  have m8625 := evl.trans (Wr.neI wH8610 (Or.inr (x_apart hKT hts inX10 tyX10 tyX10_ok nmX10 rfl 22 38 (by decide) (by decide) (by decide)))).symm
  have m8626 := emn.trans (Wr.neI wH8610 (Or.inr (x_apart hKT hts inX10 tyX10 tyX10_ok nmX10 rfl 35 38 (by decide) (by decide) (by decide)))).symm
  have m8627 := eon.trans (Wr.neI wH8610 (Or.inr (x_apart hKT hts inX10 tyX10 tyX10_ok nmX10 rfl 36 38 (by decide) (by decide) (by decide)))).symm
  have m8629 := etp.trans (Wr.neI wH8610 (Or.inr (x_apart hKT hts inX10 tyX10 tyX10_ok nmX10 rfl 18 38 (by decide) (by decide) (by decide)))).symm
  have m8630 := ejb.trans (Wr.neI wH8610 (Or.inr (x_apart hKT hts inX10 tyX10 tyX10_ok nmX10 rfl 34 38 (by decide) (by decide) (by decide)))).symm
  have m8631 := Wr.I wH8610
  have pqz : PQ (fun j => fI H8610 pq j) 0 (on.toInt) 0 0 1 := ⟨PD.nil, by show ((0 : Nat) : Int) ≤ _; omega, rfl, rfl, Or.inl rfl⟩
  have wfz : WF (fun k => fI H8610 oq k) (fun k => fI H8610 aq k) (3000 + mn.toNatClampNeg) (3000 + mn.toNatClampNeg) 0 0 := WF.nil
  have px00 : PX (fun j => fI H8610 pq j) (0) (on.toInt) ([]) := PX.nil (by omega)
  have cx00 : CXP (fun j => fI H8610 pq j) ([]) (0) := CXP.nil rfl
  have rs00 : RZ (1 - jb.toInt) (fun k => fI H8610 oq k) (fun k => fI H8610 aq k) (3000 + mn.toNatClampNeg) (3000 + mn.toNatClampNeg) ([]) := RZ.nil
  refine lv_iconst (v := 1) hx hb dX10_readAny_7 (by decide) ?_
  refine lv_istore_n (lv' := [(2, .int 1), (1, .int 0), (0, .ref a0)]) hx hb dX10_readAny_8 rfl hl8609 (by decide) rfl (fun ls8632 hl8633 => ?_)
  have cl_1 := i_cl (x := (1 : Int32)) (by omega)
  have ca_k0 : (0 : Int32).toNatClampNeg = 0 := rfl
  have ca_k1 : (1 : Int32).toNatClampNeg = 1 := rfl
  have hpb := pqz.2.2.2.1
  exact J9 ((500 - fr.toInt).toNat + 1) (0) ci [] [] zF [] ls8632 H8610 locsH8610 (0) (1) (sp) (fr) (tk) (vl) (mn) (on) (0) (lv_sub hl8633 [2, 1, 0] rfl) hTH8610 hSH8610 (by decide) (by decide) ⟨by have := i_rng sp; omega, by have := i_rng sp; omega⟩ ⟨by have := i_rng fr; omega, by have := i_rng fr; omega⟩ ⟨by have := i_rng mn; omega, by have := i_rng mn; omega⟩ ⟨by have := i_rng on; omega, by have := i_rng on; omega⟩ (by decide) m8622 m8623 m8624 m8625 m8626 m8627 (m8631).symm m8618 m8619 m8620 m8621 m8629 m8630 b8616 (WF.castE wfz (by omega) (by omega) (by omega)) (PQ.cast pqz (by omega) (by omega) (by omega) (by omega) (by omega)) (PX.cast px00 (by omega) (by omega)) (CXP.cast cx00 (by omega)) (RZ.cast rs00 (by omega) (by omega) rfl) mf8611 g8612 g8613 g8614 g8615 f8617 (by omega) (by and_intros <;> first | assumption | omega) hy0 (HD.mk (fun _ => du_0)) (HD.mk (fun h => by exfalso; omega)) (HD.mk trivial) (HD.mk (fun _ => ⟨rfl, rfl⟩)) (HD.mk (fun h => by exfalso; omega))
