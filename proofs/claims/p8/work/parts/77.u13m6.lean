set_option maxHeartbeats 4000000 in
set_option maxRecDepth 100000 in
theorem a_X10_readAny_e (l : Launch) (K : KE) (G : Nat → Option Nat) (H : Heap) {a0 : Nat} {oq : Nat} {aq : Nat} {pq : Nat} {tq : Nat} (sp : Int32) (fr : Int32) (tk : Int32) (vl : Int32) (mn : Int32) (on : Int32) (pn : Int32) (tp : Int32) (jb : Int32) (ci : Nat) (bt : Nat → Int) (hT : TY K G H) (ga0 : G a0 = some 112) (goq : G oq = some 136) (eoq : oq = fR H a0 (K.1.2 10 32)) (gaq : G aq = some 137) (eaq : aq = fR H a0 (K.1.2 10 33)) (gpq : G pq = some 138) (epq : pq = fR H a0 (K.1.2 10 37)) (gtq : G tq = some 126) (etq : tq = fR H a0 (K.1.2 10 17)) (esp : sp = fI H a0 (K.1.2 10 19)) (efr : fr = fI H a0 (K.1.2 10 20)) (etk : tk = fI H a0 (K.1.2 10 21)) (evl : vl = fI H a0 (K.1.2 10 22)) (emn : mn = fI H a0 (K.1.2 10 35)) (eon : on = fI H a0 (K.1.2 10 36)) (epn : pn = fI H a0 (K.1.2 10 38)) (etp : tp = fI H a0 (K.1.2 10 18)) (ejb : jb = fI H a0 (K.1.2 10 34)) (hg_CG : CG (avw K H a0)) (hg_TU : TU (avw K H a0) (svw K H a0)) (hg_WD : WD (avw K H a0)) (hg_IM : IM (avw K H a0)) (hp0 : (sp.toInt ≤ tp.toInt ∧ fr.toInt ≤ sp.toInt ∧ (tk.toInt = 0 ∨ fr.toInt < sp.toInt) ∧ (tk.toInt ≠ 2 ∨ (0 ≤ vl.toInt ∧ vl.toInt ≤ 23)))) (hp1 : mn.toInt ≤ fr.toInt) (hp2 : on.toInt = 0) (hy0 : CU bt tp.toNatClampNeg ci fr sp tk vl) (hy1 : ∀ j : Nat, j < tp.toNatClampNeg → 0 ≤ bt j) (hv_bt : ∀ j : Nat, bt j = (fI H tq j).toInt) : MX l K yX10_readAny cX10_readAny 4 (some .int) 7 149 0 0 [.ref a0] H (AE G [112, 136, 137, 138] H.size) (fun v H1 => ∃ (r : Int32) (t0 : Int32) (t1 : Int32) (t2 : Int32) (t3 : Int32) (t4 : Int32) (t5 : Int32) (t6 : Int32), v = some (.int r) ∧ ((-1) ≤ r.toInt ∧ r.toInt ≤ 0) ∧ t0 = fI H1 a0 (K.1.2 10 19) ∧ t1 = fI H1 a0 (K.1.2 10 20) ∧ t2 = fI H1 a0 (K.1.2 10 21) ∧ t3 = fI H1 a0 (K.1.2 10 22) ∧ t4 = fI H1 a0 (K.1.2 10 35) ∧ t5 = fI H1 a0 (K.1.2 10 36) ∧ t6 = fI H1 a0 (K.1.2 10 38) ∧ (r.toInt = -1 ∨ (r.toInt = 0 ∧ (t0.toInt ≤ tp.toInt ∧ t1.toInt ≤ t0.toInt ∧ (t2.toInt = 0 ∨ t1.toInt < t0.toInt) ∧ (t2.toInt ≠ 2 ∨ (0 ≤ t3.toInt ∧ t3.toInt ≤ 23))) ∧ t4.toInt + fr.toInt ≤ mn.toInt + t1.toInt ∧ mn.toInt ≤ t4.toInt ∧ fr.toInt ≤ t1.toInt)) ∧ oq = fR H1 a0 (K.1.2 10 32) ∧ aq = fR H1 a0 (K.1.2 10 33) ∧ pq = fR H1 a0 (K.1.2 10 37) ∧ tq = fR H1 a0 (K.1.2 10 17) ∧ (CG (avw K H1 a0)) ∧ (TU (avw K H1 a0) (svw K H1 a0)) ∧ (WD (avw K H1 a0)) ∧ (IM (avw K H1 a0)) ∧ MF K H H1 a0 [19, 20, 21, 22, 35, 36, 38, 39, 40] ∧ (∀ j : Nat, j < 3000 + mn.toNatClampNeg → fI H1 oq j = fI H oq j ∧ fI H1 aq j = fI H aq j) ∧ (r.toInt = -1 ∨ ∃ E, WF (fun k => fI H1 oq k) (fun k => fI H1 aq k) (3000 + mn.toNatClampNeg) (3000 + t4.toNatClampNeg) 0 E) ∧ (RC (lpI (paS (kK bt tp.toNatClampNeg) (vV bt tp.toNatClampNeg) (1 - jb.toInt) 8) (cAO (kK bt tp.toNatClampNeg)) ci) r bt tp.toNatClampNeg t1 t0 t2 t3) ∧ (r.toInt = -1 ∨ t5.toInt = 0) ∧ TY K G H1) := by
  refine MX.of (by decide +kernel) (Nat.le_of_ble_eq_true rfl) ?_
  intro p e s m below meth c ls Q C hH hl hQ
  subst hH
  have C : CX p K s m _ meth c RX10 cX10_readAny 4 (some .int) "readAny" := C
  obtain ⟨hx, hb, hml, hown, hts, hKT, hr, hlocks, hnm⟩ := id C
  have hl : lv_has ls 4 [(0, .ref a0)] := hl
  have hS : va_S (AE G [112, 136, 137, 138] s.heap.size) s.heap s.heap [] := va_S.rf
  have n_m1 : ((-1) : Int32).toInt = -1 := rfl
  have n_0 : (0 : Int32).toInt = 0 := rfl
  have n_1 : (1 : Int32).toInt = 1 := rfl
  have n_3 : (3 : Int32).toInt = 3 := rfl
  have n_7 : (7 : Int32).toInt = 7 := rfl
  have n_8 : (8 : Int32).toInt = 8 := rfl
  have n_9 : (9 : Int32).toInt = 9 := rfl
  have n_10 : (10 : Int32).toInt = 10 := rfl
  have n_11 : (11 : Int32).toInt = 11 := rfl
  have n_12 : (12 : Int32).toInt = 12 := rfl
  have n_40 : (40 : Int32).toInt = 40 := rfl
  have n_41 : (41 : Int32).toInt = 41 := rfl
  have bsp := ty_fi (x := sp) (k := 19) esp hT ga0 rg_112 rfl
  have bfr := ty_fi (x := fr) (k := 20) efr hT ga0 rg_112 rfl
  have btk := ty_fi (x := tk) (k := 21) etk hT ga0 rg_112 rfl
  have bvl := ty_fi (x := vl) (k := 22) evl hT ga0 rg_112 rfl
  have bmn := ty_fi (x := mn) (k := 35) emn hT ga0 rg_112 rfl
  have bon := ty_fi (x := on) (k := 36) eon hT ga0 rg_112 rfl
  have bpn := ty_fi (x := pn) (k := 38) epn hT ga0 rg_112 rfl
  have btp := ty_fi (x := tp) (k := 18) etp hT ga0 rg_112 rfl
  have bjb := ty_fi (x := jb) (k := 34) ejb hT ga0 rg_112 rfl
  have hap : ∀ x y, x < 74 → y < 74 → x ≠ y → K.1.2 10 x ≠ K.1.2 10 y := x_apart hKT hts inX10 tyX10 tyX10_ok nmX10 rfl
  have mf0 : MF K s.heap s.heap a0 [19, 20, 21, 22, 35, 36, 38, 39, 40] := fun _ _ _ => rfl
  replace eoq := EQN.mk eoq
  replace eaq := EQN.mk eaq
  replace epq := EQN.mk epq
  replace etq := EQN.mk etq
  have f0_bt := hv_bt
  have J9 : ∀ (nf : Nat) (B : Nat) (cj : Nat) (ms : List Bool) (ls7130 : Array Slot) (H7129 : Heap) (locsH7129 : List Loc) (x7132 : Int32) (x7133 : Int32) (x7134 : Int32) (x7135 : Int32) (x7136 : Int32) (x7137 : Int32) (x7138 : Int32) (x7139 : Int32) (x7140 : Int32), lv_has ls7130 4 [(0, .ref a0), (1, .int x7132), (2, .int x7133)] → TY K G H7129 → va_S (AE G [112, 136, 137, 138] s.heap.size) s.heap H7129 locsH7129 → (0 ≤ x7132.toInt ∧ x7132.toInt ≤ 8) → (0 ≤ x7133.toInt ∧ x7133.toInt ≤ 1) → (0 ≤ x7134.toInt ∧ x7134.toInt ≤ 500) → (0 ≤ x7135.toInt ∧ x7135.toInt ≤ 500) → (0 ≤ x7138.toInt ∧ x7138.toInt ≤ 500) → (0 ≤ x7139.toInt ∧ x7139.toInt ≤ 8) → (0 ≤ x7140.toInt ∧ x7140.toInt ≤ 40) → (x7134 = fI H7129 a0 (K.1.2 10 19)) → (x7135 = fI H7129 a0 (K.1.2 10 20)) → (x7136 = fI H7129 a0 (K.1.2 10 21)) → (x7137 = fI H7129 a0 (K.1.2 10 22)) → (x7138 = fI H7129 a0 (K.1.2 10 35)) → (x7139 = fI H7129 a0 (K.1.2 10 36)) → (x7140 = fI H7129 a0 (K.1.2 10 38)) → (EQN oq (fR H7129 a0 (K.1.2 10 32))) → (EQN aq (fR H7129 a0 (K.1.2 10 33))) → (EQN pq (fR H7129 a0 (K.1.2 10 37))) → (EQN tq (fR H7129 a0 (K.1.2 10 17))) → (tp = fI H7129 a0 (K.1.2 10 18)) → (jb = fI H7129 a0 (K.1.2 10 34)) → (∀ j : Nat, j < 3000 + mn.toNatClampNeg → fI H7129 oq j = fI s.heap oq j ∧ fI H7129 aq j = fI s.heap aq j) → (WF (fun k => fI H7129 oq k) (fun k => fI H7129 aq k) (3000 + mn.toNatClampNeg) (3000 + x7138.toNatClampNeg) 0 (B + 1 - x7133.toNatClampNeg)) → (PQ (fun j => fI H7129 pq j) (x7140.toNatClampNeg) (x7139.toInt) (x7132.toInt) (B) (x7133.toInt)) → (PX (fun j => fI H7129 pq j) (x7140.toNatClampNeg) (x7139.toInt) (ms)) → (MF K s.heap H7129 a0 [19, 20, 21, 22, 35, 36, 38, 39, 40]) → (CG (avw K H7129 a0)) → (TU (avw K H7129 a0) (svw K H7129 a0)) → (WD (avw K H7129 a0)) → (IM (avw K H7129 a0)) → (∀ j : Nat, bt j = (fI H7129 tq j).toInt) → (500 - x7135.toInt < (nf : Int)) → ((x7134.toInt ≤ tp.toInt ∧ x7135.toInt ≤ x7134.toInt ∧ (x7136.toInt = 0 ∨ x7135.toInt < x7134.toInt) ∧ (x7136.toInt ≠ 2 ∨ (0 ≤ x7137.toInt ∧ x7137.toInt ≤ 23))) ∧ x7138.toInt + x7140.toInt + fr.toInt ≤ mn.toInt + x7135.toInt ∧ mn.toInt ≤ x7138.toInt ∧ fr.toInt ≤ x7135.toInt) → (CU bt tp.toNatClampNeg cj x7135 x7134 x7136 x7137) → (HD (x7133.toInt ≠ 0 → lpI (paS (kK bt tp.toNatClampNeg) (vV bt tp.toNatClampNeg) (1 - jb.toInt) 8) (cAO (kK bt tp.toNatClampNeg)) ci = duI (kK bt tp.toNatClampNeg) (vV bt tp.toNatClampNeg) (1 - jb.toInt) ms cj)) → (HD (x7133.toInt = 0 → lpI (paS (kK bt tp.toNatClampNeg) (vV bt tp.toNatClampNeg) (1 - jb.toInt) 8) (cAO (kK bt tp.toNatClampNeg)) ci = coI (kK bt tp.toNatClampNeg) (vV bt tp.toNatClampNeg) (1 - jb.toInt) ms cj)) → W p l e ({ frames := 7, cells := 0, slots := 0, locals := 149 } : Room) s m (([.ref a0] : List Value).toArray) below meth c H7129 locsH7129 0 0 Q (F0 m 9 ls7130 []) := by
    intro nf
    induction nf with
    | zero =>
      intro B cj ms ls7130 H7129 locsH7129 x7132 x7133 x7134 x7135 x7136 x7137 x7138 x7139 x7140 hl7131 hTH7129 hSH7129 bx7132 bx7133 bx7134 bx7135 bx7138 bx7139 bx7140 ex7134 ex7135 ex7136 ex7137 ex7138 ex7139 ex7140 cy7141_0 cy7141_1 cy7141_2 cy7141_3 cy7141_4 cy7141_5 by7141_pf by7141_wf by7141_pq by7141_px mfy7141 gy7141_CG gy7141_TU gy7141_WD gy7141_IM fy7141_bt hm9 iv9 hcu9 hdu9 hco9
      have rx7136 := i_rng x7136
      have rx7137 := i_rng x7137
      exfalso
      omega
    | succ nf ih9 =>
      intro B cj ms ls7130 H7129 locsH7129 x7132 x7133 x7134 x7135 x7136 x7137 x7138 x7139 x7140 hl7131 hTH7129 hSH7129 bx7132 bx7133 bx7134 bx7135 bx7138 bx7139 bx7140 ex7134 ex7135 ex7136 ex7137 ex7138 ex7139 ex7140 cy7141_0 cy7141_1 cy7141_2 cy7141_3 cy7141_4 cy7141_5 by7141_pf by7141_wf by7141_pq by7141_px mfy7141 gy7141_CG gy7141_TU gy7141_WD gy7141_IM fy7141_bt hm9 iv9 hcu9 hdu9 hco9
      have rx7136 := i_rng x7136
      have rx7137 := i_rng x7137
      obtain ⟨⟨i1, i2, i3, i4⟩, i5, i6, i7⟩ := iv9
      have cdue := i_cl (x := x7133) (by omega)
      have J175 : ∀  (ls7143 : Array Slot) (H7142 : Heap) (locsH7142 : List Loc) (x7146 : Int32) (x7147 : Int32) (x7148 : Int32) (x7149 : Int32) (x7150 : Int32) (x7151 : Int32) (x7152 : Int32), lv_has ls7143 4 [(0, .ref a0), (1, .int x7132), (2, .int x7133)] → TY K G H7142 → va_S (AE G [112, 136, 137, 138] s.heap.size) s.heap H7142 locsH7142 → (0 ≤ x7133.toInt ∧ x7133.toInt ≤ 0) → (0 ≤ x7146.toInt ∧ x7146.toInt ≤ 500) → (0 ≤ x7147.toInt ∧ x7147.toInt ≤ 500) → (0 ≤ x7150.toInt ∧ x7150.toInt ≤ 500) → (0 ≤ x7151.toInt ∧ x7151.toInt ≤ 8) → (0 ≤ x7152.toInt ∧ x7152.toInt ≤ 40) → (x7146 = fI H7142 a0 (K.1.2 10 19)) → (x7147 = fI H7142 a0 (K.1.2 10 20)) → (x7148 = fI H7142 a0 (K.1.2 10 21)) → (x7149 = fI H7142 a0 (K.1.2 10 22)) → (x7150 = fI H7142 a0 (K.1.2 10 35)) → (x7151 = fI H7142 a0 (K.1.2 10 36)) → (x7152 = fI H7142 a0 (K.1.2 10 38)) → (EQN oq (fR H7142 a0 (K.1.2 10 32))) → (EQN aq (fR H7142 a0 (K.1.2 10 33))) → (EQN pq (fR H7142 a0 (K.1.2 10 37))) → (EQN tq (fR H7142 a0 (K.1.2 10 17))) → (tp = fI H7142 a0 (K.1.2 10 18)) → (jb = fI H7142 a0 (K.1.2 10 34)) → (∀ j : Nat, j < 3000 + mn.toNatClampNeg → fI H7142 oq j = fI s.heap oq j ∧ fI H7142 aq j = fI s.heap aq j) → (WF (fun k => fI H7142 oq k) (fun k => fI H7142 aq k) (3000 + mn.toNatClampNeg) (3000 + x7150.toNatClampNeg) 0 (B + 1 - x7133.toNatClampNeg)) → (PQ (fun j => fI H7142 pq j) (x7152.toNatClampNeg) (x7151.toInt) (x7132.toInt) (B) (x7133.toInt)) → (PX (fun j => fI H7142 pq j) (x7152.toNatClampNeg) (x7151.toInt) (ms)) → (MF K s.heap H7142 a0 [19, 20, 21, 22, 35, 36, 38, 39, 40]) → (CG (avw K H7142 a0)) → (TU (avw K H7142 a0) (svw K H7142 a0)) → (WD (avw K H7142 a0)) → (IM (avw K H7142 a0)) → (∀ j : Nat, bt j = (fI H7142 tq j).toInt) → ((x7146.toInt ≤ tp.toInt ∧ x7147.toInt ≤ x7146.toInt ∧ (x7148.toInt = 0 ∨ x7147.toInt < x7146.toInt) ∧ (x7148.toInt ≠ 2 ∨ (0 ≤ x7149.toInt ∧ x7149.toInt ≤ 23))) ∧ x7150.toInt + x7152.toInt + fr.toInt ≤ mn.toInt + x7147.toInt ∧ mn.toInt ≤ x7150.toInt ∧ fr.toInt ≤ x7147.toInt ∧ x7147.toInt = x7135.toInt) → (CU bt tp.toNatClampNeg cj x7147 x7146 x7148 x7149) → (kK bt tp.toNatClampNeg cj ≠ 9) → (kK bt tp.toNatClampNeg cj ≠ 8) → (lpI (paS (kK bt tp.toNatClampNeg) (vV bt tp.toNatClampNeg) (1 - jb.toInt) 8) (cAO (kK bt tp.toNatClampNeg)) ci = coI (kK bt tp.toNatClampNeg) (vV bt tp.toNatClampNeg) (1 - jb.toInt) ms cj) → W p l e ({ frames := 7, cells := 0, slots := 0, locals := 149 } : Room) s m (([.ref a0] : List Value).toArray) below meth c H7142 locsH7142 0 0 Q (F0 m 175 ls7143 []) := by
        intro  ls7143 H7142 locsH7142 x7146 x7147 x7148 x7149 x7150 x7151 x7152 hl7144 hTH7142 hSH7142 b7145 bx7146 bx7147 bx7150 bx7151 bx7152 ex7146 ex7147 ex7148 ex7149 ex7150 ex7151 ex7152 cy7153_0 cy7153_1 cy7153_2 cy7153_3 cy7153_4 cy7153_5 by7153_pf by7153_wf by7153_pq by7153_px mfy7153 gy7153_CG gy7153_TU gy7153_WD gy7153_IM fy7153_bt iv175 hcu175 ha175 ho175 hco175
        clear i1 i2 i3 i4 i5 i6 i7
        obtain ⟨⟨i1, i2, i3, i4⟩, i5, i6, i7, i8⟩ := iv175
        refine lv_aload_n hx hb dX10_readAny_175 rfl (lv_at hl7144 0 rfl) ?_
        refine lv_bipush (v := 10) hx hb dX10_readAny_176 (by decide) ?_
        have cc_x7152 := i_cl (x := x7152) (by omega)
        have cc_x7150 := i_cl (x := x7150) (by omega)
        have pqc : PQ (fun j => fI H7142 pq j) (x7152.toNatClampNeg) (x7151.toInt) (x7132.toInt) (B) (x7133.toInt) := PQ.cast by7153_pq (by omega) (by omega) rfl rfl rfl
        have hcb := pqc.2.2.2.1
        have hco := pqc.2.1
        have hck := pqc.2.2.1
        have pxc7154 : PX (fun j => fI H7142 pq j) (x7152.toNatClampNeg) (x7151.toInt) (ms) := PX.cast by7153_px (by omega) (by omega)
        have hnh : nh ms = true := by rw [← pxc7154.1]; exact nh_0 pqc.1 (pqc.2.2.2.2.resolve_left (by omega))
        refine x_V (As := [.int 10]) (rest := []) C (a_X10_settles_e l K G H7142 (10) (mn) (x7152) (x7150) (x7151) hTH7142 ga0 (by decide) goq cy7153_0 gaq cy7153_1 gpq cy7153_2 ex7152 ex7150 ex7151 gy7153_CG gy7153_TU gy7153_WD gy7153_IM (WF.castE by7153_wf (by omega) (by omega) (by omega)) (by and_intros <;> first | assumption | omega) (by and_intros <;> first | assumption | omega) (pqc.1) (pqc.2.1)) yo_X10_settles wM_X10_273 ⟨⟨by decide, by decide⟩, by decide, by decide⟩ (x_rv C hTH7142 (ci := 10) rfl ga0 rg_112) rfl hl7144.1 rfl (Nat.le_of_ble_eq_true rfl) dX10_readAny_178 hSH7142 (AE_sub (fun _ _ => rfl) (by decide) hSH7142.1) (fun vH7155 H7155 locsH7155 pH7155 zH7155 kH7155 hSH7155 => ?_)
        obtain ⟨x7156, x7157, x7158, hvH7155, ex7156, ex7157, ex7158, hrH7155, m7159, m7160, m7161, g7162, g7163, g7164, g7165, mf7166, m7167, m7168, m7169, m7170, m7171, m7172, m7173, m7174, hTH7155⟩ := pH7155
        subst hvH7155
        clear zH7155
        replace m7159 := EQN.mk m7159
        replace m7160 := EQN.mk m7160
        replace m7161 := EQN.mk m7161
        have b7175 : PQ (fun j => fI H7155 pq j) (x7152.toNatClampNeg) (x7151.toInt) (x7132.toInt) (B) (x7133.toInt) := PQ.congr (fun j => fI_kept (x_lt hTH7142 kH7155 gpq (by decide))) pqc
        have b7176 : PX (fun j => fI H7155 pq j) (x7152.toNatClampNeg) (x7151.toInt) (ms) := PX.congr (fun j => fI_kept (x_lt hTH7142 kH7155 gpq (by decide))) pxc7154
        have f7177 : ∀ j : Nat, bt j = (fI H7155 tq j).toInt := fun j => (fy7153_bt j).trans (congrArg Int32.toInt (fI_kept (x_lt hTH7142 kH7155 gtq (by decide))).symm)
        have m7178 := (ex7146).trans (MF.i mf7166 (k := 19) (by decide) (by decide)).symm
        have m7179 := (ex7147).trans (MF.i mf7166 (k := 20) (by decide) (by decide)).symm
        have m7180 := (ex7148).trans (MF.i mf7166 (k := 21) (by decide) (by decide)).symm
        have m7181 := (ex7149).trans (MF.i mf7166 (k := 22) (by decide) (by decide)).symm
        have m7182 := (cy7153_0).trans (MF.r mf7166 (k := 32) (by decide) (by decide)).symm
        have m7183 := (cy7153_1).trans (MF.r mf7166 (k := 33) (by decide) (by decide)).symm
        have m7184 := (cy7153_2).trans (MF.r mf7166 (k := 37) (by decide) (by decide)).symm
        have m7185 := (cy7153_3).trans (MF.r mf7166 (k := 17) (by decide) (by decide)).symm
        have m7186 := (cy7153_4).trans (MF.i mf7166 (k := 18) (by decide) (by decide)).symm
        have m7187 := (cy7153_5).trans (MF.i mf7166 (k := 34) (by decide) (by decide)).symm
        have mf7188 : MF K s.heap H7155 a0 [19, 20, 21, 22, 35, 36, 38, 39, 40] := MF.trans mfy7153 mf7166 (by decide)
        have bx7156 := ty_fi (x := x7156) (k := 38) ex7156 hTH7155 ga0 rg_112 rfl
        have bx7157 := ty_fi (x := x7157) (k := 35) ex7157 hTH7155 ga0 rg_112 rfl
        have bx7158 := ty_fi (x := x7158) (k := 36) ex7158 hTH7155 ga0 rg_112 rfl
        obtain ⟨raH7155, rbH7155, rcH7155⟩ := hrH7155
        replace rcH7155 := rcH7155.resolve_left (fun h => absurd (n_10.symm.trans h.1) (by decide))
        replace m7170 := HD.mk m7170
        replace m7172 := HD.mk m7172
        have cs_mn := i_cl (x := mn) (by omega)
        have b7189 : ∀ j : Nat, j < 3000 + mn.toNatClampNeg → fI H7155 oq j = fI s.heap oq j ∧ fI H7155 aq j = fI s.heap aq j := fun j hj => ⟨(m7167 j (by omega)).1.trans (by7153_pf j hj).1, (m7167 j (by omega)).2.trans (by7153_pf j hj).2⟩
        have b7190 : WF (fun k => fI H7155 oq k) (fun k => fI H7155 aq k) (3000 + mn.toNatClampNeg) (3000 + x7150.toNatClampNeg) 0 (B + 1 - x7133.toNatClampNeg) := WF.keep by7153_wf (fun j hj => (m7167 j (by omega)).1) (fun j hj => (m7167 j (by omega)).2)
        refine W.eq (g2 := F0 m 181 ls7143 []) rfl ?_
        have cc_x7156 := i_cl (x := x7156) (by omega)
        have cc_x7157 := i_cl (x := x7157) (by omega)
        have eqp : ∀ j : Nat, fI H7155 pq j = fI H7142 pq j := fun j => fI_kept (x_lt hTH7142 kH7155 gpq (by decide))
        have pq0 : PQ (fun j => fI H7142 pq j) (x7156.toNatClampNeg) (x7158.toInt) (x7132.toInt) (cB (fun j => fI H7142 pq j) x7156.toNatClampNeg) 0 := PQ.settle (w := 10) pqc (by omega) m7168 m7169 (by decide) ((m7170.out).imp (fun h => by omega) (fun h => by show (fI _ pq _).toInt ≠ 10; rw [n_10] at h; exact h)) ((m7172.out).imp (fun h => by omega) (fun h => by show (fI _ pq _).toInt = 10; rw [n_10] at h; exact h)) (Or.inr (by omega))
        have pqn : PQ (fun j => fI H7155 pq j) (x7156.toNatClampNeg) (x7158.toInt) (x7132.toInt) (cB (fun j => fI H7142 pq j) x7156.toNatClampNeg) (0) := PQ.congr eqp pq0
        have t10 : HD (x7156.toNatClampNeg = 0 ∨ (fI H7155 pq (x7156.toNatClampNeg - 1)).toInt = 11 ∨ (fI H7155 pq (x7156.toNatClampNeg - 1)).toInt = 12) := PQ.top10 pqn ((m7170.out).imp (fun h => by omega) (fun h => by show (fI _ pq _).toInt ≠ 10; rw [eqp]; rw [n_10] at h; exact h))
        have pq10 := pqn
        have px7191 : PX (fun j => fI H7142 pq j) (x7156.toNatClampNeg) (x7158.toInt) (ms) := PX.settleX pxc7154 hnh m7174 m7173 (by omega)
        have px7192 : PX (fun j => fI H7155 pq j) (x7156.toNatClampNeg) (x7158.toInt) (ms) := PX.congr eqp px7191
        refine lv_aload_n hx hb dX10_readAny_181 rfl (lv_at hl7144 0 rfl) ?_
        refine lv_bipush (v := 11) hx hb dX10_readAny_182 (by decide) ?_
        have pqc : PQ (fun j => fI H7155 pq j) (x7156.toNatClampNeg) (x7158.toInt) (x7132.toInt) (cB (fun j => fI H7142 pq j) x7156.toNatClampNeg) (0) := PQ.cast pqn (by omega) (by omega) rfl rfl rfl
        have hcb := pqc.2.2.2.1
        have hco := pqc.2.1
        have hck := pqc.2.2.1
        have pxc7193 : PX (fun j => fI H7155 pq j) (x7156.toNatClampNeg) (x7158.toInt) (ms) := PX.cast px7192 (by omega) (by omega)
        refine x_V (As := [.int 11]) (rest := []) C (a_X10_settles_e l K G H7155 (11) (mn) (x7156) (x7157) (x7158) hTH7155 ga0 (by decide) goq m7159 gaq m7160 gpq m7161 ex7156 ex7157 ex7158 g7162 g7163 g7164 g7165 (WF.castE m7171 (by omega) (by omega) (by omega)) (by and_intros <;> first | assumption | omega) (by and_intros <;> first | assumption | omega) (pqc.1) (pqc.2.1)) yo_X10_settles wM_X10_273 ⟨⟨by decide, by decide⟩, by decide, by decide⟩ (x_rv C hTH7155 (ci := 10) rfl ga0 rg_112) rfl hl7144.1 rfl (Nat.le_of_ble_eq_true rfl) dX10_readAny_184 hSH7155 (AE_sub (fun _ _ => rfl) (by decide) hSH7155.1) (fun vH7194 H7194 locsH7194 pH7194 zH7194 kH7194 hSH7194 => ?_)
        obtain ⟨x7195, x7196, x7197, hvH7194, ex7195, ex7196, ex7197, hrH7194, m7198, m7199, m7200, g7201, g7202, g7203, g7204, mf7205, m7206, m7207, m7208, m7209, m7210, m7211, m7212, m7213, hTH7194⟩ := pH7194
        subst hvH7194
        clear zH7194
        replace m7198 := EQN.mk m7198
        replace m7199 := EQN.mk m7199
        replace m7200 := EQN.mk m7200
        have b7214 : PQ (fun j => fI H7194 pq j) (x7156.toNatClampNeg) (x7158.toInt) (x7132.toInt) (cB (fun j => fI H7142 pq j) x7156.toNatClampNeg) (0) := PQ.congr (fun j => fI_kept (x_lt hTH7155 kH7194 gpq (by decide))) pqc
        have b7215 : PX (fun j => fI H7194 pq j) (x7156.toNatClampNeg) (x7158.toInt) (ms) := PX.congr (fun j => fI_kept (x_lt hTH7155 kH7194 gpq (by decide))) pxc7193
        have f7216 : ∀ j : Nat, bt j = (fI H7194 tq j).toInt := fun j => (f7177 j).trans (congrArg Int32.toInt (fI_kept (x_lt hTH7155 kH7194 gtq (by decide))).symm)
        have m7217 := (m7178).trans (MF.i mf7205 (k := 19) (by decide) (by decide)).symm
        have m7218 := (m7179).trans (MF.i mf7205 (k := 20) (by decide) (by decide)).symm
        have m7219 := (m7180).trans (MF.i mf7205 (k := 21) (by decide) (by decide)).symm
        have m7220 := (m7181).trans (MF.i mf7205 (k := 22) (by decide) (by decide)).symm
        have m7221 := (m7159).trans (MF.r mf7205 (k := 32) (by decide) (by decide)).symm
        have m7222 := (m7160).trans (MF.r mf7205 (k := 33) (by decide) (by decide)).symm
        have m7223 := (m7161).trans (MF.r mf7205 (k := 37) (by decide) (by decide)).symm
        have m7224 := (m7185).trans (MF.r mf7205 (k := 17) (by decide) (by decide)).symm
        have m7225 := (m7186).trans (MF.i mf7205 (k := 18) (by decide) (by decide)).symm
        have m7226 := (m7187).trans (MF.i mf7205 (k := 34) (by decide) (by decide)).symm
        have mf7227 : MF K s.heap H7194 a0 [19, 20, 21, 22, 35, 36, 38, 39, 40] := MF.trans mf7188 mf7205 (by decide)
        have bx7195 := ty_fi (x := x7195) (k := 38) ex7195 hTH7194 ga0 rg_112 rfl
        have bx7196 := ty_fi (x := x7196) (k := 35) ex7196 hTH7194 ga0 rg_112 rfl
        have bx7197 := ty_fi (x := x7197) (k := 36) ex7197 hTH7194 ga0 rg_112 rfl
        obtain ⟨raH7194, rbH7194, rcH7194⟩ := hrH7194
        replace rcH7194 := rcH7194.resolve_left (fun h => absurd (n_11.symm.trans h.1) (by decide))
        replace m7209 := HD.mk m7209
        replace m7211 := HD.mk m7211
        have b7228 : ∀ j : Nat, j < 3000 + mn.toNatClampNeg → fI H7194 oq j = fI s.heap oq j ∧ fI H7194 aq j = fI s.heap aq j := fun j hj => ⟨(m7206 j (by omega)).1.trans (b7189 j hj).1, (m7206 j (by omega)).2.trans (b7189 j hj).2⟩
        have b7229 : WF (fun k => fI H7194 oq k) (fun k => fI H7194 aq k) (3000 + mn.toNatClampNeg) (3000 + x7157.toNatClampNeg) 0 (cB (fun j => fI H7142 pq j) x7156.toNatClampNeg + 1) := WF.keep m7171 (fun j hj => (m7206 j (by omega)).1) (fun j hj => (m7206 j (by omega)).2)
        refine W.eq (g2 := F0 m 187 ls7143 []) rfl ?_
        have cc_x7195 := i_cl (x := x7195) (by omega)
        have cc_x7196 := i_cl (x := x7196) (by omega)
        have eqp : ∀ j : Nat, fI H7194 pq j = fI H7155 pq j := fun j => fI_kept (x_lt hTH7155 kH7194 gpq (by decide))
        have pq0 : PQ (fun j => fI H7155 pq j) (x7195.toNatClampNeg) (x7197.toInt) (x7132.toInt) (cB (fun j => fI H7155 pq j) x7195.toNatClampNeg) 0 := PQ.settle (w := 11) pqc (by omega) m7207 m7208 (by decide) ((m7209.out).imp (fun h => by omega) (fun h => by show (fI _ pq _).toInt ≠ 11; rw [n_11] at h; exact h)) ((m7211.out).imp (fun h => by omega) (fun h => by show (fI _ pq _).toInt = 11; rw [n_11] at h; exact h)) (Or.inr (by omega))
        have pqn : PQ (fun j => fI H7194 pq j) (x7195.toNatClampNeg) (x7197.toInt) (x7132.toInt) (cB (fun j => fI H7155 pq j) x7195.toNatClampNeg) (0) := PQ.congr eqp pq0
        have t11 : HD (x7195.toNatClampNeg = 0 ∨ (fI H7194 pq (x7195.toNatClampNeg - 1)).toInt = 12) := PQ.top11 (PQ.congr eqp pq10) (by show _ ∨ (fI _ pq _).toInt = 11 ∨ (fI _ pq _).toInt = 12; rw [eqp]; exact t10) (by omega) ((m7211.out).imp (fun h => by omega) (fun h => by show (fI _ pq _).toInt = 11; rw [eqp]; rw [n_11] at h; exact h)) ((m7209.out).imp (fun h => by omega) (fun h => by show (fI _ pq _).toInt ≠ 11; rw [eqp]; rw [n_11] at h; exact h))
        have px7230 : PX (fun j => fI H7155 pq j) (x7195.toNatClampNeg) (x7197.toInt) (ms) := PX.settleX pxc7193 hnh m7213 m7212 (by omega)
        have px7231 : PX (fun j => fI H7194 pq j) (x7195.toNatClampNeg) (x7197.toInt) (ms) := PX.congr eqp px7230
        refine lv_iload_n hx hb dX10_readAny_187 rfl (lv_at hl7144 1 rfl) ?_
        refine lv_if_ne (tgt := 193) hx hb dX10_readAny_188 (by decide) (fun c7232 => ?_) (fun c7232 => ?_)
        · have k7233 := i_ne c7232
          refine lv_aload_n hx hb dX10_readAny_193 rfl (lv_at hl7144 0 rfl) ?_
          refine lv_bipush (v := 41) hx hb dX10_readAny_194 (by decide) ?_
          refine x_V (As := [.int 41]) (rest := []) C (a_X10_isSign_e l K G H7194 (41) (x7148) (x7149) hTH7194 ga0 m7219 m7220) yo_X10_isSign wM_X10_249 ⟨⟨by decide, by decide⟩, by decide, by decide⟩ (x_rv C hTH7194 (ci := 10) rfl ga0 rg_112) rfl hl7144.1 rfl (Nat.le_of_ble_eq_true rfl) dX10_readAny_196 hSH7194 (AE_sub (fun _ _ => rfl) (by decide) hSH7194.1) (fun vH7234 H7234 locsH7234 pH7234 zH7234 kH7234 hSH7234 => ?_)
          obtain ⟨x7235, hvH7234, bx7235, hrH7234, hTH7234⟩ := pH7234
          subst hvH7234
          clear zH7234
          have mf7236 : MF K s.heap H7234 a0 [19, 20, 21, 22, 35, 36, 38, 39, 40] := MF.eff (x_lt hTH7194 kH7234 ga0 (by decide)) mf7227
          have b7237 : PQ (fun j => fI H7234 pq j) (x7195.toNatClampNeg) (x7197.toInt) (x7132.toInt) (cB (fun j => fI H7155 pq j) x7195.toNatClampNeg) (0) := PQ.congr (fun j => fI_kept (x_lt hTH7194 kH7234 gpq (by decide))) pqn
          have b7238 : PX (fun j => fI H7234 pq j) (x7195.toNatClampNeg) (x7197.toInt) (ms) := PX.congr (fun j => fI_kept (x_lt hTH7194 kH7234 gpq (by decide))) px7231
          have b7239 : ∀ j : Nat, j < 3000 + mn.toNatClampNeg → fI H7234 oq j = fI s.heap oq j ∧ fI H7234 aq j = fI s.heap aq j := fun j hj => ⟨(fI_kept (x_lt hTH7194 kH7234 goq (by decide))).trans (b7228 j hj).1, (fI_kept (x_lt hTH7194 kH7234 gaq (by decide))).trans (b7228 j hj).2⟩
          have b7240 : WF (fun k => fI H7234 oq k) (fun k => fI H7234 aq k) (3000 + mn.toNatClampNeg) (3000 + x7196.toNatClampNeg) 0 (cB (fun j => fI H7155 pq j) x7195.toNatClampNeg + 1) := WF.congr (fun j => fI_kept (x_lt hTH7194 kH7234 goq (by decide))) (fun j => fI_kept (x_lt hTH7194 kH7234 gaq (by decide))) m7210
          have g7241 : CG (avw K H7234 a0) := CG.congr (fun k hk j => av_eff hTH7194 kH7234 ga0 (by decide) (CG_eff [] (by decide) k hk)) g7201
          have g7242 : TU (avw K H7234 a0) (svw K H7234 a0) := TU.congr (fun k hk j => av_eff hTH7194 kH7234 ga0 (by decide) (TU_eff [] (by decide) k hk)) (fun k hk => sv_eff hTH7194 kH7234 ga0 (by decide)) g7202
          have g7243 : WD (avw K H7234 a0) := WD.congr (fun k hk j => av_eff hTH7194 kH7234 ga0 (by decide) (WD_eff [] (by decide) k hk)) g7203
          have g7244 : IM (avw K H7234 a0) := IM.congr (fun k hk j => av_eff hTH7194 kH7234 ga0 (by decide) (IM_eff [] (by decide) k hk)) g7204
          have f7245 : ∀ j : Nat, bt j = (fI H7234 tq j).toInt := fun j => (f7216 j).trans (congrArg Int32.toInt (fI_kept (x_lt hTH7194 kH7234 gtq (by decide))).symm)
          have m7246 := (m7217).trans (fI_kept (x_lt hTH7194 kH7234 ga0 (by decide))).symm
          have m7247 := (m7218).trans (fI_kept (x_lt hTH7194 kH7234 ga0 (by decide))).symm
          have m7248 := (m7219).trans (fI_kept (x_lt hTH7194 kH7234 ga0 (by decide))).symm
          have m7249 := (m7220).trans (fI_kept (x_lt hTH7194 kH7234 ga0 (by decide))).symm
          have m7250 := (m7198).trans (fR_kept (x_lt hTH7194 kH7234 ga0 (by decide))).symm
          have m7251 := (m7199).trans (fR_kept (x_lt hTH7194 kH7234 ga0 (by decide))).symm
          have m7252 := (m7200).trans (fR_kept (x_lt hTH7194 kH7234 ga0 (by decide))).symm
          have m7253 := (m7224).trans (fR_kept (x_lt hTH7194 kH7234 ga0 (by decide))).symm
          have m7254 := (m7225).trans (fI_kept (x_lt hTH7194 kH7234 ga0 (by decide))).symm
          have m7255 := (m7226).trans (fI_kept (x_lt hTH7194 kH7234 ga0 (by decide))).symm
          have m7256 := (ex7195).trans (fI_kept (x_lt hTH7194 kH7234 ga0 (by decide))).symm
          have m7257 := (ex7196).trans (fI_kept (x_lt hTH7194 kH7234 ga0 (by decide))).symm
          have m7258 := (ex7197).trans (fI_kept (x_lt hTH7194 kH7234 ga0 (by decide))).symm
          refine W.eq (g2 := F0 m 199 ls7143 [.int x7235]) rfl ?_
          refine lv_if_ne (tgt := 208) hx hb dX10_readAny_199 (by decide) (fun c7259 => ?_) (fun c7259 => ?_)
          · have k7260 := i_ne c7259
            replace hrH7234 := hrH7234.resolve_left (fun h => absurd h.1 (by omega))
            replace i3 := i3.resolve_left (by omega)
            clear i4
            have kw_ : kK bt tp.toNatClampNeg cj = 41 := (TV.sg (c := 41) hcu175.2.2.1 (by decide)).mp ⟨by omega, by omega⟩
            have hk0 : x7195.toNatClampNeg ≠ 0 := fun e => by have h := b7237.2.2.1; rw [e] at h; change ((0 : Nat) : Int) = _ at h; omega
            have e11 : ∀ j : Nat, fI H7234 pq j = fI H7194 pq j := fun j => fI_kept (x_lt hTH7194 kH7234 gpq (by decide))
            have t12 : (fI H7234 pq (x7195.toNatClampNeg - 1)).toInt = 12 := by rw [e11]; exact t11.out.resolve_left hk0
            have hs12 := (c_step (f := fun j => fI H7234 pq j) (n := x7195.toNatClampNeg - 1) (m := x7195.toNatClampNeg) (by omega)).2.2 t12
            have hc12 := b7237.2.1
            refine lv_aload_n hx hb dX10_readAny_208 rfl (lv_at hl7144 0 rfl) ?_
            refine lv_aload_n hx hb dX10_readAny_209 rfl (lv_at hl7144 0 rfl) ?_
            refine x_gi C hTH7234 (ci := 10) (k := 38) rfl inX10 (by decide) wF_X10_258 ga0 rg_112 rfl dX10_readAny_210 (fun x7261 ex7261 bx7261 => ?_)
            have ux7261 : x7195 = x7261 := (m7256).trans ex7261.symm
            subst ux7261
            refine lv_iconst (v := 1) hx hb dX10_readAny_213 (by decide) ?_
            refine lv_isub hx hb dX10_readAny_214 ?_
            refine lv_topi (fun x7262 ex7262 => ?_)
            have tx7262 := i_sub ex7262 (by omega)
            have fz7264 : 0 ≤ x7262.toInt ∧ x7262.toInt ≤ 40 := by have := i_rng x7262; omega
            refine x_put C hTH7234 hSH7234 (ci := 10) (k := 38) (v := .int x7262) (ty0 := tyX10) rfl inX10 tyX10_ok nmX10 (by decide) rfl wF_X10_258 ga0 rg_112 rfl rfl (okI (by have := i_rng x7262; omega) (by have := i_rng x7262; omega)) rfl rfl (AE_in ga0 (by decide)) dX10_readAny_215 (fun H7263 locsH7263 hTH7263 hSH7263 wH7263 => ?_)
            have ep7265 : ∀ j : Nat, fI H7263 pq j = fI H7234 pq j := fun j => (Wr.neI wH7263 (Or.inl (G_ne gpq ga0 (by decide))))
            have mf7266 : MF K s.heap H7263 a0 [19, 20, 21, 22, 35, 36, 38, 39, 40] := MF.fld hap wH7263 (by decide) (by decide) mf7236
            have g7267 : CG (avw K H7263 a0) := CG.congr (fun k hk j => av_fld hTH7234 ga0 hap wH7263 (by decide) (CG_ok 112 (by decide) k hk) (CG_ne 38 (by decide) k hk)) g7241
            have g7268 : TU (avw K H7263 a0) (svw K H7263 a0) := TU.congr (fun k hk j => av_fld hTH7234 ga0 hap wH7263 (by decide) (TU_ok 112 (by decide) k hk) (TU_ne 38 (by decide) k hk)) (fun k hk => sv_fld hap wH7263 (by decide) (TU_slt k hk) (TU_sne 38 (by decide) k hk)) g7242
            have g7269 : WD (avw K H7263 a0) := WD.congr (fun k hk j => av_fld hTH7234 ga0 hap wH7263 (by decide) (WD_ok 112 (by decide) k hk) (WD_ne 38 (by decide) k hk)) g7243
            have g7270 : IM (avw K H7263 a0) := IM.congr (fun k hk j => av_fld hTH7234 ga0 hap wH7263 (by decide) (IM_ok 112 (by decide) k hk) (IM_ne 38 (by decide) k hk)) g7244
            have b7271 : PQ (fun j => fI H7263 pq j) (x7195.toNatClampNeg) (x7197.toInt) (x7132.toInt) (cB (fun j => fI H7155 pq j) x7195.toNatClampNeg) (0) := PQ.congr (fun j => Wr.neI wH7263 (Or.inl (G_ne gpq ga0 (by decide)))) b7237
            have b7272 : PX (fun j => fI H7263 pq j) (x7195.toNatClampNeg) (x7197.toInt) (ms) := PX.congr (fun j => Wr.neI wH7263 (Or.inl (G_ne gpq ga0 (by decide)))) b7238
            have b7273 : ∀ j : Nat, j < 3000 + mn.toNatClampNeg → fI H7263 oq j = fI s.heap oq j ∧ fI H7263 aq j = fI s.heap aq j := fun j hj => ⟨(Wr.neI wH7263 (Or.inl (G_ne goq ga0 (by decide)))).trans (b7239 j hj).1, (Wr.neI wH7263 (Or.inl (G_ne gaq ga0 (by decide)))).trans (b7239 j hj).2⟩
            have b7274 : WF (fun k => fI H7263 oq k) (fun k => fI H7263 aq k) (3000 + mn.toNatClampNeg) (3000 + x7196.toNatClampNeg) 0 (cB (fun j => fI H7155 pq j) x7195.toNatClampNeg + 1) := WF.congr (fun j => Wr.neI wH7263 (Or.inl (G_ne goq ga0 (by decide)))) (fun j => Wr.neI wH7263 (Or.inl (G_ne gaq ga0 (by decide)))) b7240
            have f7275 : ∀ j : Nat, bt j = (fI H7263 tq j).toInt := fun j => (f7245 j).trans (congrArg Int32.toInt (Wr.neI wH7263 (Or.inl (G_ne gtq ga0 (by decide)))).symm)
            have m7276 := m7246.trans (Wr.neI wH7263 (Or.inr (x_apart hKT hts inX10 tyX10 tyX10_ok nmX10 rfl 19 38 (by decide) (by decide) (by decide)))).symm
            have m7277 := m7247.trans (Wr.neI wH7263 (Or.inr (x_apart hKT hts inX10 tyX10 tyX10_ok nmX10 rfl 20 38 (by decide) (by decide) (by decide)))).symm
            have m7278 := m7248.trans (Wr.neI wH7263 (Or.inr (x_apart hKT hts inX10 tyX10 tyX10_ok nmX10 rfl 21 38 (by decide) (by decide) (by decide)))).symm
            have m7279 := m7249.trans (Wr.neI wH7263 (Or.inr (x_apart hKT hts inX10 tyX10 tyX10_ok nmX10 rfl 22 38 (by decide) (by decide) (by decide)))).symm
            have m7280 := m7250.trans (Wr.neR wH7263 (Or.inr (x_apart hKT hts inX10 tyX10 tyX10_ok nmX10 rfl 32 38 (by decide) (by decide) (by decide)))).symm
            have m7281 := m7251.trans (Wr.neR wH7263 (Or.inr (x_apart hKT hts inX10 tyX10 tyX10_ok nmX10 rfl 33 38 (by decide) (by decide) (by decide)))).symm
            have m7282 := m7252.trans (Wr.neR wH7263 (Or.inr (x_apart hKT hts inX10 tyX10 tyX10_ok nmX10 rfl 37 38 (by decide) (by decide) (by decide)))).symm
            have m7283 := m7253.trans (Wr.neR wH7263 (Or.inr (x_apart hKT hts inX10 tyX10 tyX10_ok nmX10 rfl 17 38 (by decide) (by decide) (by decide)))).symm
            have m7284 := m7254.trans (Wr.neI wH7263 (Or.inr (x_apart hKT hts inX10 tyX10 tyX10_ok nmX10 rfl 18 38 (by decide) (by decide) (by decide)))).symm
            have m7285 := m7255.trans (Wr.neI wH7263 (Or.inr (x_apart hKT hts inX10 tyX10 tyX10_ok nmX10 rfl 34 38 (by decide) (by decide) (by decide)))).symm
            have m7287 := m7257.trans (Wr.neI wH7263 (Or.inr (x_apart hKT hts inX10 tyX10 tyX10_ok nmX10 rfl 35 38 (by decide) (by decide) (by decide)))).symm
            have m7288 := m7258.trans (Wr.neI wH7263 (Or.inr (x_apart hKT hts inX10 tyX10 tyX10_ok nmX10 rfl 36 38 (by decide) (by decide) (by decide)))).symm
            have m7289 := Wr.I wH7263
            have m7289 := m7289.symm
            refine lv_iload_n hx hb dX10_readAny_218 rfl (lv_at hl7144 1 rfl) ?_
            refine lv_iconst (v := 1) hx hb dX10_readAny_219 (by decide) ?_
            refine lv_isub hx hb dX10_readAny_220 ?_
            refine lv_topi (fun x7290 ex7290 => ?_)
            have tx7290 := i_sub ex7290 (by omega)
            refine lv_istore_n (lv' := [(1, .int x7290), (0, .ref a0), (2, .int x7133)]) hx hb dX10_readAny_221 rfl hl7144 (by decide) rfl (fun ls7291 hl7292 => ?_)
            refine lv_aload_n hx hb dX10_readAny_222 rfl (lv_at hl7292 1 rfl) ?_
            refine lv_aload_n hx hb dX10_readAny_223 rfl (lv_at hl7292 1 rfl) ?_
            refine x_gi C hTH7263 (ci := 10) (k := 36) rfl inX10 (by decide) wF_X10_261 ga0 rg_112 rfl dX10_readAny_224 (fun x7293 ex7293 bx7293 => ?_)
            have ux7293 : x7197 = x7293 := (m7288).trans ex7293.symm
            subst ux7293
            refine lv_iconst (v := 1) hx hb dX10_readAny_227 (by decide) ?_
            refine lv_isub hx hb dX10_readAny_228 ?_
            refine lv_topi (fun x7294 ex7294 => ?_)
            have tx7294 := i_sub ex7294 (by omega)
            have fz7296 : 0 ≤ x7294.toInt ∧ x7294.toInt ≤ 8 := by have := i_rng x7294; omega
            refine x_put C hTH7263 hSH7263 (ci := 10) (k := 36) (v := .int x7294) (ty0 := tyX10) rfl inX10 tyX10_ok nmX10 (by decide) rfl wF_X10_261 ga0 rg_112 rfl rfl (okI (by have := i_rng x7294; omega) (by have := i_rng x7294; omega)) rfl rfl (AE_in ga0 (by decide)) dX10_readAny_229 (fun H7295 locsH7295 hTH7295 hSH7295 wH7295 => ?_)
            have ep7297 : ∀ j : Nat, fI H7295 pq j = fI H7234 pq j := fun j => (Wr.neI wH7295 (Or.inl (G_ne gpq ga0 (by decide)))).trans (ep7265 j)
            have mf7298 : MF K s.heap H7295 a0 [19, 20, 21, 22, 35, 36, 38, 39, 40] := MF.fld hap wH7295 (by decide) (by decide) mf7266
            have g7299 : CG (avw K H7295 a0) := CG.congr (fun k hk j => av_fld hTH7263 ga0 hap wH7295 (by decide) (CG_ok 112 (by decide) k hk) (CG_ne 36 (by decide) k hk)) g7267
            have g7300 : TU (avw K H7295 a0) (svw K H7295 a0) := TU.congr (fun k hk j => av_fld hTH7263 ga0 hap wH7295 (by decide) (TU_ok 112 (by decide) k hk) (TU_ne 36 (by decide) k hk)) (fun k hk => sv_fld hap wH7295 (by decide) (TU_slt k hk) (TU_sne 36 (by decide) k hk)) g7268
            have g7301 : WD (avw K H7295 a0) := WD.congr (fun k hk j => av_fld hTH7263 ga0 hap wH7295 (by decide) (WD_ok 112 (by decide) k hk) (WD_ne 36 (by decide) k hk)) g7269
            have g7302 : IM (avw K H7295 a0) := IM.congr (fun k hk j => av_fld hTH7263 ga0 hap wH7295 (by decide) (IM_ok 112 (by decide) k hk) (IM_ne 36 (by decide) k hk)) g7270
            have b7303 : PQ (fun j => fI H7295 pq j) (x7195.toNatClampNeg) (x7197.toInt) (x7132.toInt) (cB (fun j => fI H7155 pq j) x7195.toNatClampNeg) (0) := PQ.congr (fun j => Wr.neI wH7295 (Or.inl (G_ne gpq ga0 (by decide)))) b7271
            have b7304 : PX (fun j => fI H7295 pq j) (x7195.toNatClampNeg) (x7197.toInt) (ms) := PX.congr (fun j => Wr.neI wH7295 (Or.inl (G_ne gpq ga0 (by decide)))) b7272
            have b7305 : ∀ j : Nat, j < 3000 + mn.toNatClampNeg → fI H7295 oq j = fI s.heap oq j ∧ fI H7295 aq j = fI s.heap aq j := fun j hj => ⟨(Wr.neI wH7295 (Or.inl (G_ne goq ga0 (by decide)))).trans (b7273 j hj).1, (Wr.neI wH7295 (Or.inl (G_ne gaq ga0 (by decide)))).trans (b7273 j hj).2⟩
            have b7306 : WF (fun k => fI H7295 oq k) (fun k => fI H7295 aq k) (3000 + mn.toNatClampNeg) (3000 + x7196.toNatClampNeg) 0 (cB (fun j => fI H7155 pq j) x7195.toNatClampNeg + 1) := WF.congr (fun j => Wr.neI wH7295 (Or.inl (G_ne goq ga0 (by decide)))) (fun j => Wr.neI wH7295 (Or.inl (G_ne gaq ga0 (by decide)))) b7274
            have f7307 : ∀ j : Nat, bt j = (fI H7295 tq j).toInt := fun j => (f7275 j).trans (congrArg Int32.toInt (Wr.neI wH7295 (Or.inl (G_ne gtq ga0 (by decide)))).symm)
            have m7308 := m7276.trans (Wr.neI wH7295 (Or.inr (x_apart hKT hts inX10 tyX10 tyX10_ok nmX10 rfl 19 36 (by decide) (by decide) (by decide)))).symm
            have m7309 := m7277.trans (Wr.neI wH7295 (Or.inr (x_apart hKT hts inX10 tyX10 tyX10_ok nmX10 rfl 20 36 (by decide) (by decide) (by decide)))).symm
            have m7310 := m7278.trans (Wr.neI wH7295 (Or.inr (x_apart hKT hts inX10 tyX10 tyX10_ok nmX10 rfl 21 36 (by decide) (by decide) (by decide)))).symm
            have m7311 := m7279.trans (Wr.neI wH7295 (Or.inr (x_apart hKT hts inX10 tyX10 tyX10_ok nmX10 rfl 22 36 (by decide) (by decide) (by decide)))).symm
            have m7312 := m7280.trans (Wr.neR wH7295 (Or.inr (x_apart hKT hts inX10 tyX10 tyX10_ok nmX10 rfl 32 36 (by decide) (by decide) (by decide)))).symm
            have m7313 := m7281.trans (Wr.neR wH7295 (Or.inr (x_apart hKT hts inX10 tyX10 tyX10_ok nmX10 rfl 33 36 (by decide) (by decide) (by decide)))).symm
            have m7314 := m7282.trans (Wr.neR wH7295 (Or.inr (x_apart hKT hts inX10 tyX10 tyX10_ok nmX10 rfl 37 36 (by decide) (by decide) (by decide)))).symm
            have m7315 := m7283.trans (Wr.neR wH7295 (Or.inr (x_apart hKT hts inX10 tyX10 tyX10_ok nmX10 rfl 17 36 (by decide) (by decide) (by decide)))).symm
            have m7316 := m7284.trans (Wr.neI wH7295 (Or.inr (x_apart hKT hts inX10 tyX10 tyX10_ok nmX10 rfl 18 36 (by decide) (by decide) (by decide)))).symm
            have m7317 := m7285.trans (Wr.neI wH7295 (Or.inr (x_apart hKT hts inX10 tyX10 tyX10_ok nmX10 rfl 34 36 (by decide) (by decide) (by decide)))).symm
            have m7318 := m7287.trans (Wr.neI wH7295 (Or.inr (x_apart hKT hts inX10 tyX10 tyX10_ok nmX10 rfl 35 36 (by decide) (by decide) (by decide)))).symm
            have m7320 := m7289.trans (Wr.neI wH7295 (Or.inr (x_apart hKT hts inX10 tyX10 tyX10_ok nmX10 rfl 38 36 (by decide) (by decide) (by decide)))).symm
            have m7321 := Wr.I wH7295
            have m7321 := m7321.symm
            have cc_x7262 := i_cl (x := x7262) (by omega)
            have pqp : PQ (fun j => fI H7295 pq j) (x7262.toNatClampNeg) (x7294.toInt) (x7290.toInt) (cB (fun j => fI H7155 pq j) x7195.toNatClampNeg) (1) := PQ.pop12 b7303 (by show (fI _ pq _).toInt = 12; rw [show x7262.toNatClampNeg = x7195.toNatClampNeg - 1 by omega, ep7297]; exact t12) (by omega) (by omega) (by omega)
            obtain ⟨htu, pxp⟩ : ms = true :: (mkL (fun j => fI H7295 pq j) (x7262.toNatClampNeg)) ∧ PX (fun j => fI H7295 pq j) (x7262.toNatClampNeg) (x7294.toInt) ((mkL (fun j => fI H7295 pq j) (x7262.toNatClampNeg))) := PX.pop b7304 (by show (fI _ pq _).toInt = 12; rw [show x7262.toNatClampNeg = x7195.toNatClampNeg - 1 by omega, ep7297]; exact t12) (by omega) (by omega)
            refine lv_aload_n hx hb dX10_readAny_232 rfl (lv_at hl7292 1 rfl) ?_
            refine lv_bipush (v := 9) hx hb dX10_readAny_233 (by decide) ?_
            have pqc : PQ (fun j => fI H7295 pq j) (x7262.toNatClampNeg) (x7294.toInt) (x7290.toInt) (cB (fun j => fI H7155 pq j) x7195.toNatClampNeg) (1) := PQ.cast pqp (by omega) (by omega) rfl rfl rfl
            have hcb := pqc.2.2.2.1
            have hco := pqc.2.1
            have hck := pqc.2.2.1
            have pxc7322 : PX (fun j => fI H7295 pq j) (x7262.toNatClampNeg) (x7294.toInt) ((mkL (fun j => fI H7295 pq j) (x7262.toNatClampNeg))) := PX.cast pxp (by omega) (by omega)
            refine x_V (As := [.int 9]) (rest := []) C (a_X10_settles_e l K G H7295 (9) (mn) (x7262) (x7196) (x7294) hTH7295 ga0 (by decide) goq m7312 gaq m7313 gpq m7314 m7320 m7318 m7321 g7299 g7300 g7301 g7302 (WF.castE b7306 (by omega) (by omega) (by omega)) (by and_intros <;> first | assumption | omega) (by and_intros <;> first | assumption | omega) (pqc.1) (pqc.2.1)) yo_X10_settles wM_X10_273 ⟨⟨by decide, by decide⟩, by decide, by decide⟩ (x_rv C hTH7295 (ci := 10) rfl ga0 rg_112) rfl hl7292.1 rfl (Nat.le_of_ble_eq_true rfl) dX10_readAny_235 hSH7295 (AE_sub (fun _ _ => rfl) (by decide) hSH7295.1) (fun vH7323 H7323 locsH7323 pH7323 zH7323 kH7323 hSH7323 => ?_)
            obtain ⟨x7324, x7325, x7326, hvH7323, ex7324, ex7325, ex7326, hrH7323, m7327, m7328, m7329, g7330, g7331, g7332, g7333, mf7334, m7335, m7336, m7337, m7338, m7339, m7340, m7341, m7342, hTH7323⟩ := pH7323
            subst hvH7323
            clear zH7323
            replace m7327 := EQN.mk m7327
            replace m7328 := EQN.mk m7328
            replace m7329 := EQN.mk m7329
            have b7343 : PQ (fun j => fI H7323 pq j) (x7262.toNatClampNeg) (x7294.toInt) (x7290.toInt) (cB (fun j => fI H7155 pq j) x7195.toNatClampNeg) (1) := PQ.congr (fun j => fI_kept (x_lt hTH7295 kH7323 gpq (by decide))) pqc
            have b7344 : PX (fun j => fI H7323 pq j) (x7262.toNatClampNeg) (x7294.toInt) ((mkL (fun j => fI H7295 pq j) (x7262.toNatClampNeg))) := PX.congr (fun j => fI_kept (x_lt hTH7295 kH7323 gpq (by decide))) pxc7322
            have f7345 : ∀ j : Nat, bt j = (fI H7323 tq j).toInt := fun j => (f7307 j).trans (congrArg Int32.toInt (fI_kept (x_lt hTH7295 kH7323 gtq (by decide))).symm)
            have m7346 := (m7308).trans (MF.i mf7334 (k := 19) (by decide) (by decide)).symm
            have m7347 := (m7309).trans (MF.i mf7334 (k := 20) (by decide) (by decide)).symm
            have m7348 := (m7310).trans (MF.i mf7334 (k := 21) (by decide) (by decide)).symm
            have m7349 := (m7311).trans (MF.i mf7334 (k := 22) (by decide) (by decide)).symm
            have m7350 := (m7312).trans (MF.r mf7334 (k := 32) (by decide) (by decide)).symm
            have m7351 := (m7313).trans (MF.r mf7334 (k := 33) (by decide) (by decide)).symm
            have m7352 := (m7314).trans (MF.r mf7334 (k := 37) (by decide) (by decide)).symm
            have m7353 := (m7315).trans (MF.r mf7334 (k := 17) (by decide) (by decide)).symm
            have m7354 := (m7316).trans (MF.i mf7334 (k := 18) (by decide) (by decide)).symm
            have m7355 := (m7317).trans (MF.i mf7334 (k := 34) (by decide) (by decide)).symm
            have mf7356 : MF K s.heap H7323 a0 [19, 20, 21, 22, 35, 36, 38, 39, 40] := MF.trans mf7298 mf7334 (by decide)
            have bx7324 := ty_fi (x := x7324) (k := 38) ex7324 hTH7323 ga0 rg_112 rfl
            have bx7325 := ty_fi (x := x7325) (k := 35) ex7325 hTH7323 ga0 rg_112 rfl
            have bx7326 := ty_fi (x := x7326) (k := 36) ex7326 hTH7323 ga0 rg_112 rfl
            obtain ⟨raH7323, rbH7323, rcH7323⟩ := hrH7323
            replace rcH7323 := rcH7323.resolve_right (fun h => h.1 n_9)
            replace m7338 := HD.mk m7338
            replace m7340 := HD.mk m7340
            have b7357 : ∀ j : Nat, j < 3000 + mn.toNatClampNeg → fI H7323 oq j = fI s.heap oq j ∧ fI H7323 aq j = fI s.heap aq j := fun j hj => ⟨(m7335 j (by omega)).1.trans (b7305 j hj).1, (m7335 j (by omega)).2.trans (b7305 j hj).2⟩
            have b7358 : WF (fun k => fI H7323 oq k) (fun k => fI H7323 aq k) (3000 + mn.toNatClampNeg) (3000 + x7196.toNatClampNeg) 0 (cB (fun j => fI H7155 pq j) x7195.toNatClampNeg + 1) := WF.keep b7306 (fun j hj => (m7335 j (by omega)).1) (fun j hj => (m7335 j (by omega)).2)
            refine W.eq (g2 := F0 m 238 ls7291 []) rfl ?_
            have cc_x7324 := i_cl (x := x7324) (by omega)
            have cc_x7325 := i_cl (x := x7325) (by omega)
            have eqp : ∀ j : Nat, fI H7323 pq j = fI H7295 pq j := fun j => fI_kept (x_lt hTH7295 kH7323 gpq (by decide))
            have pq0 : PQ (fun j => fI H7295 pq j) (x7324.toNatClampNeg) (x7326.toInt) (x7290.toInt) (cB (fun j => fI H7295 pq j) x7324.toNatClampNeg) 0 := PQ.settle (w := 9) pqc (by omega) m7336 m7337 (by decide) ((m7338.out).imp (fun h => by omega) (fun h => by show (fI _ pq _).toInt ≠ 9; rw [n_9] at h; exact h)) ((m7340.out).imp (fun h => by omega) (fun h => by show (fI _ pq _).toInt = 9; rw [n_9] at h; exact h)) (Or.inl rfl)
            have pqn : PQ (fun j => fI H7323 pq j) (x7324.toNatClampNeg) (x7326.toInt) (x7290.toInt) (cB (fun j => fI H7295 pq j) x7324.toNatClampNeg) (0) := PQ.congr eqp pq0
            obtain ⟨px7359, hdn⟩ : PX (fun j => fI H7295 pq j) (x7324.toNatClampNeg) (x7326.toInt) ((mkL (fun j => fI H7295 pq j) (x7324.toNatClampNeg))) ∧ dN (mkL (fun j => fI H7295 pq j) (x7324.toNatClampNeg)) = dN (mkL (fun j => fI H7295 pq j) (x7262.toNatClampNeg)) := PX.settle pxc7322 m7342 m7341
            have px7360 : PX (fun j => fI H7323 pq j) (x7324.toNatClampNeg) (x7326.toInt) ((mkL (fun j => fI H7295 pq j) (x7324.toNatClampNeg))) := PX.congr eqp px7359
            refine lv_aload_n hx hb dX10_readAny_238 rfl (lv_at hl7292 1 rfl) ?_
            refine x_V (As := []) (rest := []) C (a_X10_reads_e l K G H7323 (x7146) (x7147) (x7148) (x7149) (tp) bt hTH7323 ga0 gtq m7353 m7346 m7347 m7348 m7349 m7354 g7330 g7331 g7332 g7333 (by and_intros <;> first | assumption | omega) (hy1) f7345) yo_X10_reads wM_X10_242 ⟨⟨by decide, by decide⟩, by decide, by decide⟩ (x_rv C hTH7323 (ci := 10) rfl ga0 rg_112) rfl hl7292.1 rfl (Nat.le_of_ble_eq_true rfl) dX10_readAny_239 hSH7323 (AE_sub (fun _ _ => rfl) (by decide) hSH7323.1) (fun vH7361 H7361 locsH7361 pH7361 zH7361 kH7361 hSH7361 => ?_)
            obtain ⟨x7362, x7363, x7364, x7365, hvH7361, ex7362, ex7363, ex7364, ex7365, hrH7361, m7366, g7367, g7368, g7369, g7370, mf7371, m7372, m7373, m7374, hTH7361⟩ := pH7361
            subst hvH7361
            clear zH7361
            replace m7366 := EQN.mk m7366
            have b7375 : PQ (fun j => fI H7361 pq j) (x7324.toNatClampNeg) (x7326.toInt) (x7290.toInt) (cB (fun j => fI H7295 pq j) x7324.toNatClampNeg) (0) := PQ.congr (fun j => fI_kept (x_lt hTH7323 kH7361 gpq (by decide))) pqn
            have b7376 : PX (fun j => fI H7361 pq j) (x7324.toNatClampNeg) (x7326.toInt) ((mkL (fun j => fI H7295 pq j) (x7324.toNatClampNeg))) := PX.congr (fun j => fI_kept (x_lt hTH7323 kH7361 gpq (by decide))) px7360
            have b7377 : ∀ j : Nat, j < 3000 + mn.toNatClampNeg → fI H7361 oq j = fI s.heap oq j ∧ fI H7361 aq j = fI s.heap aq j := fun j hj => ⟨(fI_kept (x_lt hTH7323 kH7361 goq (by decide))).trans (b7357 j hj).1, (fI_kept (x_lt hTH7323 kH7361 gaq (by decide))).trans (b7357 j hj).2⟩
            have b7378 : WF (fun k => fI H7361 oq k) (fun k => fI H7361 aq k) (3000 + mn.toNatClampNeg) (3000 + x7325.toNatClampNeg) 0 (cB (fun j => fI H7295 pq j) x7324.toNatClampNeg + 1) := WF.congr (fun j => fI_kept (x_lt hTH7323 kH7361 goq (by decide))) (fun j => fI_kept (x_lt hTH7323 kH7361 gaq (by decide))) m7339
            have f7379 : ∀ j : Nat, bt j = (fI H7361 tq j).toInt := fun j => (f7345 j).trans (congrArg Int32.toInt (fI_kept (x_lt hTH7323 kH7361 gtq (by decide))).symm)
            have m7380 := (m7327).trans (MF.r mf7371 (k := 32) (by decide) (by decide)).symm
            have m7381 := (m7328).trans (MF.r mf7371 (k := 33) (by decide) (by decide)).symm
            have m7382 := (m7329).trans (MF.r mf7371 (k := 37) (by decide) (by decide)).symm
            have m7383 := (m7353).trans (MF.r mf7371 (k := 17) (by decide) (by decide)).symm
            have m7384 := (m7354).trans (MF.i mf7371 (k := 18) (by decide) (by decide)).symm
            have m7385 := (m7355).trans (MF.i mf7371 (k := 34) (by decide) (by decide)).symm
            have m7386 := (ex7324).trans (MF.i mf7371 (k := 38) (by decide) (by decide)).symm
            have m7387 := (ex7325).trans (MF.i mf7371 (k := 35) (by decide) (by decide)).symm
            have m7388 := (ex7326).trans (MF.i mf7371 (k := 36) (by decide) (by decide)).symm
            have mf7389 : MF K s.heap H7361 a0 [19, 20, 21, 22, 35, 36, 38, 39, 40] := MF.trans mf7356 mf7371 (by decide)
            have bx7362 := ty_fi (x := x7362) (k := 19) ex7362 hTH7361 ga0 rg_112 rfl
            have bx7363 := ty_fi (x := x7363) (k := 20) ex7363 hTH7361 ga0 rg_112 rfl
            have bx7364 := ty_fi (x := x7364) (k := 21) ex7364 hTH7361 ga0 rg_112 rfl
            have bx7365 := ty_fi (x := x7365) (k := 22) ex7365 hTH7361 ga0 rg_112 rfl
            have cn_x7363 := i_cl (x := x7363) (by omega)
            have cn_x7147 := i_cl (x := x7147) (by omega)
            have cu7390 : CU bt tp.toNatClampNeg (cj + 1) x7363 x7362 x7364 x7365 := CU.next hcu175 m7372 m7373 m7374 (by omega)
            obtain ⟨r1H7361, r2H7361, r3H7361, r4H7361, r5H7361⟩ := hrH7361
            refine W.eq (g2 := F0 m 242 ls7291 []) rfl ?_
            refine lv_goto (tgt := 9) hx hb dX10_readAny_242 (by decide) ?_
            have hpb := b7375.2.2.2.1
            exact ih9 (cB (fun j => fI H7295 pq j) x7324.toNatClampNeg) (cj + 1) (mkL (fun j => fI H7295 pq j) (x7324.toNatClampNeg)) ls7291 H7361 locsH7361 (x7290) (x7133) (x7362) (x7363) (x7364) (x7365) (x7325) (x7326) (x7324) (lv_sub hl7292 [1, 0, 2] rfl) hTH7361 hSH7361 ⟨by have := i_rng x7290; omega, by have := i_rng x7290; omega⟩ ⟨by have := i_rng x7133; omega, by have := i_rng x7133; omega⟩ ⟨by have := i_rng x7362; omega, by have := i_rng x7362; omega⟩ ⟨by have := i_rng x7363; omega, by have := i_rng x7363; omega⟩ ⟨by have := i_rng x7325; omega, by have := i_rng x7325; omega⟩ ⟨by have := i_rng x7326; omega, by have := i_rng x7326; omega⟩ ⟨by have := i_rng x7324; omega, by have := i_rng x7324; omega⟩ ex7362 ex7363 ex7364 ex7365 m7387 m7388 m7386 m7380 m7381 m7382 m7366 m7384 m7385 b7377 (WF.castE b7378 (by omega) (by omega) (by omega)) (PQ.cast b7375 (by omega) (by omega) (by omega) (by omega) (by omega)) (PX.cast b7376 (by omega) (by omega)) mf7389 g7367 g7368 g7369 g7370 f7379 (by omega) (by and_intros <;> first | assumption | omega) cu7390 (HD.mk (fun h => by exfalso; omega)) (HD.mk (fun _ => hco175.trans ((co_close htu kw_).trans (co_eq hdn))))
          · have k7260 := i_eq c7259
            refine lv_aload_n hx hb dX10_readAny_202 rfl (lv_at hl7144 0 rfl) ?_
            refine lv_iconst (v := 1) hx hb dX10_readAny_203 (by decide) ?_
            refine x_V (As := [.int 1]) (rest := []) C (a_X10_fails l K G H7234 (1) hTH7234 ga0 g7241 g7242 g7243 g7244) yo_X10_fails wM_X10_235 ⟨⟨by decide, by decide⟩, by decide, by decide⟩ (x_rv C hTH7234 (ci := 10) rfl ga0 rg_112) rfl hl7144.1 rfl (Nat.le_of_ble_eq_true rfl) dX10_readAny_204 hSH7234 (AE_sub (fun _ _ => rfl) (by decide) hSH7234.1) (fun vH7391 H7391 locsH7391 pH7391 zH7391 kH7391 hSH7391 => ?_)
            obtain ⟨x7392, hvH7391, bx7392, g7393, g7394, g7395, g7396, mf7397, hTH7391⟩ := pH7391
            subst hvH7391
            clear zH7391
            have b7398 : PQ (fun j => fI H7391 pq j) (x7195.toNatClampNeg) (x7197.toInt) (x7132.toInt) (cB (fun j => fI H7155 pq j) x7195.toNatClampNeg) (0) := PQ.congr (fun j => fI_kept (x_lt hTH7234 kH7391 gpq (by decide))) b7237
            have b7399 : PX (fun j => fI H7391 pq j) (x7195.toNatClampNeg) (x7197.toInt) (ms) := PX.congr (fun j => fI_kept (x_lt hTH7234 kH7391 gpq (by decide))) b7238
            have b7400 : ∀ j : Nat, j < 3000 + mn.toNatClampNeg → fI H7391 oq j = fI s.heap oq j ∧ fI H7391 aq j = fI s.heap aq j := fun j hj => ⟨(fI_kept (x_lt hTH7234 kH7391 goq (by decide))).trans (b7239 j hj).1, (fI_kept (x_lt hTH7234 kH7391 gaq (by decide))).trans (b7239 j hj).2⟩
            have b7401 : WF (fun k => fI H7391 oq k) (fun k => fI H7391 aq k) (3000 + mn.toNatClampNeg) (3000 + x7196.toNatClampNeg) 0 (cB (fun j => fI H7155 pq j) x7195.toNatClampNeg + 1) := WF.congr (fun j => fI_kept (x_lt hTH7234 kH7391 goq (by decide))) (fun j => fI_kept (x_lt hTH7234 kH7391 gaq (by decide))) b7240
            have f7402 : ∀ j : Nat, bt j = (fI H7391 tq j).toInt := fun j => (f7245 j).trans (congrArg Int32.toInt (fI_kept (x_lt hTH7234 kH7391 gtq (by decide))).symm)
            have m7403 := (m7246).trans (MF.i mf7397 (k := 19) (by decide) (by decide)).symm
            have m7404 := (m7247).trans (MF.i mf7397 (k := 20) (by decide) (by decide)).symm
            have m7405 := (m7248).trans (MF.i mf7397 (k := 21) (by decide) (by decide)).symm
            have m7406 := (m7249).trans (MF.i mf7397 (k := 22) (by decide) (by decide)).symm
            have m7407 := (m7250).trans (MF.r mf7397 (k := 32) (by decide) (by decide)).symm
            have m7408 := (m7251).trans (MF.r mf7397 (k := 33) (by decide) (by decide)).symm
            have m7409 := (m7252).trans (MF.r mf7397 (k := 37) (by decide) (by decide)).symm
            have m7410 := (m7253).trans (MF.r mf7397 (k := 17) (by decide) (by decide)).symm
            have m7411 := (m7254).trans (MF.i mf7397 (k := 18) (by decide) (by decide)).symm
            have m7412 := (m7255).trans (MF.i mf7397 (k := 34) (by decide) (by decide)).symm
            have m7413 := (m7256).trans (MF.i mf7397 (k := 38) (by decide) (by decide)).symm
            have m7414 := (m7257).trans (MF.i mf7397 (k := 35) (by decide) (by decide)).symm
            have m7415 := (m7258).trans (MF.i mf7397 (k := 36) (by decide) (by decide)).symm
            have mf7416 : MF K s.heap H7391 a0 [19, 20, 21, 22, 35, 36, 38, 39, 40] := MF.trans mf7236 mf7397 (by decide)
            refine W.eq (g2 := F0 m 207 ls7143 [.int x7392]) rfl ?_
            have k41_ : kK bt tp.toNatClampNeg cj ≠ 41 := fun e => by have z_ := (TV.sg (c := 41) hcu175.2.2.1 (by decide)).mpr e; omega
            have ht1 : ∃ u, ms = true :: u := by rw [← b7399.1]; exact nh_br (by rw [b7399.1]; exact hnh) (by have := b7398.2.2.1; omega)
            exact x_iret C hQ dX10_readAny_207 hSH7391 (by decide) (by decide) (⟨x7392, x7146, x7147, x7148, x7149, x7196, x7197, x7195, rfl, by omega, m7403, m7404, m7405, m7406, m7414, m7415, m7413, Or.inl (by omega), m7407, m7408, m7409, m7410, g7393, g7394, g7395, g7396, mf7416, b7400, Or.inl (by omega), Or.inl ⟨hco175.trans (co_bad ht1 ⟨ha175, ho175⟩ k41_), by omega⟩, Or.inl (by omega), hTH7391⟩)
        · have k7233 := i_eq c7232
          refine lv_iconst (v := 0) hx hb dX10_readAny_191 (by decide) ?_
          have ht0 : ms = [] := by rw [← px7231.1]; exact nh_K (by rw [px7231.1]; exact hnh) (by have := pqn.2.2.1; omega)
          exact x_iret C hQ dX10_readAny_192 hSH7194 (by decide) (by decide) (⟨0, x7146, x7147, x7148, x7149, x7196, x7197, x7195, rfl, by decide, m7217, m7218, m7219, m7220, ex7196, ex7197, ex7195, Or.inr (by and_intros <;> first | assumption | omega), m7198, m7199, m7200, m7224, g7201, g7202, g7203, g7204, mf7227, b7228, Or.inr ⟨_, m7210⟩, Or.inr ⟨cj, hco175.trans (co_end ht0 ⟨ha175, ho175⟩), by omega, hcu175⟩, Or.inr (by have h := px7231.2; rw [ht0] at h; have h2 : ((0 : Nat) : Int) = _ := h; omega), hTH7194⟩)
      have J139 : ∀  (ls7418 : Array Slot) (H7417 : Heap) (locsH7417 : List Loc) (x7421 : Int32) (x7422 : Int32) (x7423 : Int32) (x7424 : Int32) (x7425 : Int32) (x7426 : Int32) (x7427 : Int32), lv_has ls7418 4 [(0, .ref a0), (1, .int x7132), (2, .int x7133)] → TY K G H7417 → va_S (AE G [112, 136, 137, 138] s.heap.size) s.heap H7417 locsH7417 → (0 ≤ x7133.toInt ∧ x7133.toInt ≤ 0) → (0 ≤ x7421.toInt ∧ x7421.toInt ≤ 500) → (0 ≤ x7422.toInt ∧ x7422.toInt ≤ 500) → (0 ≤ x7425.toInt ∧ x7425.toInt ≤ 500) → (0 ≤ x7426.toInt ∧ x7426.toInt ≤ 8) → (0 ≤ x7427.toInt ∧ x7427.toInt ≤ 40) → (x7421 = fI H7417 a0 (K.1.2 10 19)) → (x7422 = fI H7417 a0 (K.1.2 10 20)) → (x7423 = fI H7417 a0 (K.1.2 10 21)) → (x7424 = fI H7417 a0 (K.1.2 10 22)) → (x7425 = fI H7417 a0 (K.1.2 10 35)) → (x7426 = fI H7417 a0 (K.1.2 10 36)) → (x7427 = fI H7417 a0 (K.1.2 10 38)) → (EQN oq (fR H7417 a0 (K.1.2 10 32))) → (EQN aq (fR H7417 a0 (K.1.2 10 33))) → (EQN pq (fR H7417 a0 (K.1.2 10 37))) → (EQN tq (fR H7417 a0 (K.1.2 10 17))) → (tp = fI H7417 a0 (K.1.2 10 18)) → (jb = fI H7417 a0 (K.1.2 10 34)) → (∀ j : Nat, j < 3000 + mn.toNatClampNeg → fI H7417 oq j = fI s.heap oq j ∧ fI H7417 aq j = fI s.heap aq j) → (WF (fun k => fI H7417 oq k) (fun k => fI H7417 aq k) (3000 + mn.toNatClampNeg) (3000 + x7425.toNatClampNeg) 0 (B + 1 - x7133.toNatClampNeg)) → (PQ (fun j => fI H7417 pq j) (x7427.toNatClampNeg) (x7426.toInt) (x7132.toInt) (B) (x7133.toInt)) → (PX (fun j => fI H7417 pq j) (x7427.toNatClampNeg) (x7426.toInt) (ms)) → (MF K s.heap H7417 a0 [19, 20, 21, 22, 35, 36, 38, 39, 40]) → (CG (avw K H7417 a0)) → (TU (avw K H7417 a0) (svw K H7417 a0)) → (WD (avw K H7417 a0)) → (IM (avw K H7417 a0)) → (∀ j : Nat, bt j = (fI H7417 tq j).toInt) → ((x7421.toInt ≤ tp.toInt ∧ x7422.toInt ≤ x7421.toInt ∧ (x7423.toInt = 0 ∨ x7422.toInt < x7421.toInt) ∧ (x7423.toInt ≠ 2 ∨ (0 ≤ x7424.toInt ∧ x7424.toInt ≤ 23))) ∧ x7425.toInt + x7427.toInt + fr.toInt ≤ mn.toInt + x7422.toInt ∧ mn.toInt ≤ x7425.toInt ∧ fr.toInt ≤ x7422.toInt ∧ x7422.toInt = x7135.toInt) → (CU bt tp.toNatClampNeg cj x7422 x7421 x7423 x7424) → (kK bt tp.toNatClampNeg cj ≠ 9) → (lpI (paS (kK bt tp.toNatClampNeg) (vV bt tp.toNatClampNeg) (1 - jb.toInt) 8) (cAO (kK bt tp.toNatClampNeg)) ci = coI (kK bt tp.toNatClampNeg) (vV bt tp.toNatClampNeg) (1 - jb.toInt) ms cj) → W p l e ({ frames := 7, cells := 0, slots := 0, locals := 149 } : Room) s m (([.ref a0] : List Value).toArray) below meth c H7417 locsH7417 0 0 Q (F0 m 139 ls7418 []) := by
        intro  ls7418 H7417 locsH7417 x7421 x7422 x7423 x7424 x7425 x7426 x7427 hl7419 hTH7417 hSH7417 b7420 bx7421 bx7422 bx7425 bx7426 bx7427 ex7421 ex7422 ex7423 ex7424 ex7425 ex7426 ex7427 cy7428_0 cy7428_1 cy7428_2 cy7428_3 cy7428_4 cy7428_5 by7428_pf by7428_wf by7428_pq by7428_px mfy7428 gy7428_CG gy7428_TU gy7428_WD gy7428_IM fy7428_bt iv139 hcu139 ha139 hco139
        clear i1 i2 i3 i4 i5 i6 i7
        obtain ⟨⟨i1, i2, i3, i4⟩, i5, i6, i7, i8⟩ := iv139
        refine lv_aload_n hx hb dX10_readAny_139 rfl (lv_at hl7419 0 rfl) ?_
        refine lv_bipush (v := 7) hx hb dX10_readAny_140 (by decide) ?_
        refine x_V (As := [.int 7]) (rest := []) C (a_X10_isWord_e l K G H7417 (7) (x7423) (x7424) hTH7417 ga0 ex7423 ex7424) yo_X10_isWord wM_X10_264 ⟨⟨by decide, by decide⟩, by decide, by decide⟩ (x_rv C hTH7417 (ci := 10) rfl ga0 rg_112) rfl hl7419.1 rfl (Nat.le_of_ble_eq_true rfl) dX10_readAny_142 hSH7417 (AE_sub (fun _ _ => rfl) (by decide) hSH7417.1) (fun vH7429 H7429 locsH7429 pH7429 zH7429 kH7429 hSH7429 => ?_)
        obtain ⟨x7430, hvH7429, bx7430, hrH7429, hTH7429⟩ := pH7429
        subst hvH7429
        clear zH7429
        have mf7431 : MF K s.heap H7429 a0 [19, 20, 21, 22, 35, 36, 38, 39, 40] := MF.eff (x_lt hTH7417 kH7429 ga0 (by decide)) mfy7428
        have b7432 : ∀ j : Nat, j < 3000 + mn.toNatClampNeg → fI H7429 oq j = fI s.heap oq j ∧ fI H7429 aq j = fI s.heap aq j := fun j hj => ⟨(fI_kept (x_lt hTH7417 kH7429 goq (by decide))).trans (by7428_pf j hj).1, (fI_kept (x_lt hTH7417 kH7429 gaq (by decide))).trans (by7428_pf j hj).2⟩
        have b7433 : WF (fun k => fI H7429 oq k) (fun k => fI H7429 aq k) (3000 + mn.toNatClampNeg) (3000 + x7425.toNatClampNeg) 0 (B + 1 - x7133.toNatClampNeg) := WF.congr (fun j => fI_kept (x_lt hTH7417 kH7429 goq (by decide))) (fun j => fI_kept (x_lt hTH7417 kH7429 gaq (by decide))) by7428_wf
        have b7434 : PQ (fun j => fI H7429 pq j) (x7427.toNatClampNeg) (x7426.toInt) (x7132.toInt) (B) (x7133.toInt) := PQ.congr (fun j => fI_kept (x_lt hTH7417 kH7429 gpq (by decide))) by7428_pq
        have b7435 : PX (fun j => fI H7429 pq j) (x7427.toNatClampNeg) (x7426.toInt) (ms) := PX.congr (fun j => fI_kept (x_lt hTH7417 kH7429 gpq (by decide))) by7428_px
        have g7436 : CG (avw K H7429 a0) := CG.congr (fun k hk j => av_eff hTH7417 kH7429 ga0 (by decide) (CG_eff [] (by decide) k hk)) gy7428_CG
        have g7437 : TU (avw K H7429 a0) (svw K H7429 a0) := TU.congr (fun k hk j => av_eff hTH7417 kH7429 ga0 (by decide) (TU_eff [] (by decide) k hk)) (fun k hk => sv_eff hTH7417 kH7429 ga0 (by decide)) gy7428_TU
        have g7438 : WD (avw K H7429 a0) := WD.congr (fun k hk j => av_eff hTH7417 kH7429 ga0 (by decide) (WD_eff [] (by decide) k hk)) gy7428_WD
        have g7439 : IM (avw K H7429 a0) := IM.congr (fun k hk j => av_eff hTH7417 kH7429 ga0 (by decide) (IM_eff [] (by decide) k hk)) gy7428_IM
        have f7440 : ∀ j : Nat, bt j = (fI H7429 tq j).toInt := fun j => (fy7428_bt j).trans (congrArg Int32.toInt (fI_kept (x_lt hTH7417 kH7429 gtq (by decide))).symm)
        have m7441 := (ex7421).trans (fI_kept (x_lt hTH7417 kH7429 ga0 (by decide))).symm
        have m7442 := (ex7422).trans (fI_kept (x_lt hTH7417 kH7429 ga0 (by decide))).symm
        have m7443 := (ex7423).trans (fI_kept (x_lt hTH7417 kH7429 ga0 (by decide))).symm
        have m7444 := (ex7424).trans (fI_kept (x_lt hTH7417 kH7429 ga0 (by decide))).symm
        have m7445 := (ex7425).trans (fI_kept (x_lt hTH7417 kH7429 ga0 (by decide))).symm
        have m7446 := (ex7426).trans (fI_kept (x_lt hTH7417 kH7429 ga0 (by decide))).symm
        have m7447 := (ex7427).trans (fI_kept (x_lt hTH7417 kH7429 ga0 (by decide))).symm
        have m7448 := (cy7428_0).trans (fR_kept (x_lt hTH7417 kH7429 ga0 (by decide))).symm
        have m7449 := (cy7428_1).trans (fR_kept (x_lt hTH7417 kH7429 ga0 (by decide))).symm
        have m7450 := (cy7428_2).trans (fR_kept (x_lt hTH7417 kH7429 ga0 (by decide))).symm
        have m7451 := (cy7428_3).trans (fR_kept (x_lt hTH7417 kH7429 ga0 (by decide))).symm
        have m7452 := (cy7428_4).trans (fI_kept (x_lt hTH7417 kH7429 ga0 (by decide))).symm
        have m7453 := (cy7428_5).trans (fI_kept (x_lt hTH7417 kH7429 ga0 (by decide))).symm
        refine W.eq (g2 := F0 m 145 ls7418 [.int x7430]) rfl ?_
        refine lv_if_eq (tgt := 175) hx hb dX10_readAny_145 (by decide) (fun c7454 => ?_) (fun c7454 => ?_)
        · have k7455 := i_eq c7454
          have cl_mn := i_cl (x := mn) (by omega)
          have cl_x7425 := i_cl (x := x7425) (by omega)
          have cl_x7427 := i_cl (x := x7427) (by omega)
          have ko_ : kK bt tp.toNatClampNeg cj ≠ 8 := fun e => by have z2 := (TV.wd hcu139.2.2.1).mpr (by omega); have z1 := TV.wv hcu139.2.2.1 z2; omega
          exact J175  ls7418 H7429 locsH7429 (x7421) (x7422) (x7423) (x7424) (x7425) (x7426) (x7427) (lv_sub hl7419 [0, 1, 2] rfl) hTH7429 hSH7429 ⟨by have := i_rng x7133; omega, by have := i_rng x7133; omega⟩ ⟨by have := i_rng x7421; omega, by have := i_rng x7421; omega⟩ ⟨by have := i_rng x7422; omega, by have := i_rng x7422; omega⟩ ⟨by have := i_rng x7425; omega, by have := i_rng x7425; omega⟩ ⟨by have := i_rng x7426; omega, by have := i_rng x7426; omega⟩ ⟨by have := i_rng x7427; omega, by have := i_rng x7427; omega⟩ m7441 m7442 m7443 m7444 m7445 m7446 m7447 m7448 m7449 m7450 m7451 m7452 m7453 b7432 (WF.castE b7433 (by omega) (by omega) (by omega)) (PQ.cast b7434 (by omega) (by omega) (by omega) (by omega) (by omega)) (PX.cast b7435 (by omega) (by omega)) mf7431 g7436 g7437 g7438 g7439 f7440 (by and_intros <;> first | assumption | omega) hcu139 ha139 ko_ hco139
        · have k7455 := i_ne c7454
          replace hrH7429 := hrH7429.resolve_left (fun h => absurd h.1 (by omega))
          replace i3 := i3.resolve_left (by omega)
          clear i4
          have kw_ : kK bt tp.toNatClampNeg cj = 8 := by have z1 := TV.wv hcu139.2.2.1 (by omega); omega
          refine lv_aload_n hx hb dX10_readAny_148 rfl (lv_at hl7419 0 rfl) ?_
          refine lv_bipush (v := 10) hx hb dX10_readAny_149 (by decide) ?_
          have cc_x7427 := i_cl (x := x7427) (by omega)
          have cc_x7425 := i_cl (x := x7425) (by omega)
          have pqc : PQ (fun j => fI H7429 pq j) (x7427.toNatClampNeg) (x7426.toInt) (x7132.toInt) (B) (x7133.toInt) := PQ.cast b7434 (by omega) (by omega) rfl rfl rfl
          have hcb := pqc.2.2.2.1
          have hco := pqc.2.1
          have hck := pqc.2.2.1
          have pxc7456 : PX (fun j => fI H7429 pq j) (x7427.toNatClampNeg) (x7426.toInt) (ms) := PX.cast b7435 (by omega) (by omega)
          have hnh : nh ms = true := by rw [← pxc7456.1]; exact nh_0 pqc.1 (pqc.2.2.2.2.resolve_left (by omega))
          refine x_V (As := [.int 10]) (rest := []) C (a_X10_settles_e l K G H7429 (10) (mn) (x7427) (x7425) (x7426) hTH7429 ga0 (by decide) goq m7448 gaq m7449 gpq m7450 m7447 m7445 m7446 g7436 g7437 g7438 g7439 (WF.castE b7433 (by omega) (by omega) (by omega)) (by and_intros <;> first | assumption | omega) (by and_intros <;> first | assumption | omega) (pqc.1) (pqc.2.1)) yo_X10_settles wM_X10_273 ⟨⟨by decide, by decide⟩, by decide, by decide⟩ (x_rv C hTH7429 (ci := 10) rfl ga0 rg_112) rfl hl7419.1 rfl (Nat.le_of_ble_eq_true rfl) dX10_readAny_151 hSH7429 (AE_sub (fun _ _ => rfl) (by decide) hSH7429.1) (fun vH7457 H7457 locsH7457 pH7457 zH7457 kH7457 hSH7457 => ?_)
          obtain ⟨x7458, x7459, x7460, hvH7457, ex7458, ex7459, ex7460, hrH7457, m7461, m7462, m7463, g7464, g7465, g7466, g7467, mf7468, m7469, m7470, m7471, m7472, m7473, m7474, m7475, m7476, hTH7457⟩ := pH7457
          subst hvH7457
          clear zH7457
          replace m7461 := EQN.mk m7461
          replace m7462 := EQN.mk m7462
          replace m7463 := EQN.mk m7463
          have b7477 : PQ (fun j => fI H7457 pq j) (x7427.toNatClampNeg) (x7426.toInt) (x7132.toInt) (B) (x7133.toInt) := PQ.congr (fun j => fI_kept (x_lt hTH7429 kH7457 gpq (by decide))) pqc
          have b7478 : PX (fun j => fI H7457 pq j) (x7427.toNatClampNeg) (x7426.toInt) (ms) := PX.congr (fun j => fI_kept (x_lt hTH7429 kH7457 gpq (by decide))) pxc7456
          have f7479 : ∀ j : Nat, bt j = (fI H7457 tq j).toInt := fun j => (f7440 j).trans (congrArg Int32.toInt (fI_kept (x_lt hTH7429 kH7457 gtq (by decide))).symm)
          have m7480 := (m7441).trans (MF.i mf7468 (k := 19) (by decide) (by decide)).symm
          have m7481 := (m7442).trans (MF.i mf7468 (k := 20) (by decide) (by decide)).symm
          have m7482 := (m7443).trans (MF.i mf7468 (k := 21) (by decide) (by decide)).symm
          have m7483 := (m7444).trans (MF.i mf7468 (k := 22) (by decide) (by decide)).symm
          have m7484 := (m7448).trans (MF.r mf7468 (k := 32) (by decide) (by decide)).symm
          have m7485 := (m7449).trans (MF.r mf7468 (k := 33) (by decide) (by decide)).symm
          have m7486 := (m7450).trans (MF.r mf7468 (k := 37) (by decide) (by decide)).symm
          have m7487 := (m7451).trans (MF.r mf7468 (k := 17) (by decide) (by decide)).symm
          have m7488 := (m7452).trans (MF.i mf7468 (k := 18) (by decide) (by decide)).symm
          have m7489 := (m7453).trans (MF.i mf7468 (k := 34) (by decide) (by decide)).symm
          have mf7490 : MF K s.heap H7457 a0 [19, 20, 21, 22, 35, 36, 38, 39, 40] := MF.trans mf7431 mf7468 (by decide)
          have bx7458 := ty_fi (x := x7458) (k := 38) ex7458 hTH7457 ga0 rg_112 rfl
          have bx7459 := ty_fi (x := x7459) (k := 35) ex7459 hTH7457 ga0 rg_112 rfl
          have bx7460 := ty_fi (x := x7460) (k := 36) ex7460 hTH7457 ga0 rg_112 rfl
          obtain ⟨raH7457, rbH7457, rcH7457⟩ := hrH7457
          replace rcH7457 := rcH7457.resolve_left (fun h => absurd (n_10.symm.trans h.1) (by decide))
          replace m7472 := HD.mk m7472
          replace m7474 := HD.mk m7474
          have cs_mn := i_cl (x := mn) (by omega)
          have b7491 : ∀ j : Nat, j < 3000 + mn.toNatClampNeg → fI H7457 oq j = fI s.heap oq j ∧ fI H7457 aq j = fI s.heap aq j := fun j hj => ⟨(m7469 j (by omega)).1.trans (b7432 j hj).1, (m7469 j (by omega)).2.trans (b7432 j hj).2⟩
          have b7492 : WF (fun k => fI H7457 oq k) (fun k => fI H7457 aq k) (3000 + mn.toNatClampNeg) (3000 + x7425.toNatClampNeg) 0 (B + 1 - x7133.toNatClampNeg) := WF.keep b7433 (fun j hj => (m7469 j (by omega)).1) (fun j hj => (m7469 j (by omega)).2)
          refine W.eq (g2 := F0 m 154 ls7418 []) rfl ?_
          have cc_x7458 := i_cl (x := x7458) (by omega)
          have cc_x7459 := i_cl (x := x7459) (by omega)
          have eqp : ∀ j : Nat, fI H7457 pq j = fI H7429 pq j := fun j => fI_kept (x_lt hTH7429 kH7457 gpq (by decide))
          have pq0 : PQ (fun j => fI H7429 pq j) (x7458.toNatClampNeg) (x7460.toInt) (x7132.toInt) (cB (fun j => fI H7429 pq j) x7458.toNatClampNeg) 0 := PQ.settle (w := 10) pqc (by omega) m7470 m7471 (by decide) ((m7472.out).imp (fun h => by omega) (fun h => by show (fI _ pq _).toInt ≠ 10; rw [n_10] at h; exact h)) ((m7474.out).imp (fun h => by omega) (fun h => by show (fI _ pq _).toInt = 10; rw [n_10] at h; exact h)) (Or.inr (by omega))
          have pqn : PQ (fun j => fI H7457 pq j) (x7458.toNatClampNeg) (x7460.toInt) (x7132.toInt) (cB (fun j => fI H7429 pq j) x7458.toNatClampNeg) (0) := PQ.congr eqp pq0
          have t10 : HD (x7458.toNatClampNeg = 0 ∨ (fI H7457 pq (x7458.toNatClampNeg - 1)).toInt = 11 ∨ (fI H7457 pq (x7458.toNatClampNeg - 1)).toInt = 12) := PQ.top10 pqn ((m7472.out).imp (fun h => by omega) (fun h => by show (fI _ pq _).toInt ≠ 10; rw [eqp]; rw [n_10] at h; exact h))
          have pq10 := pqn
          have px7493 : PX (fun j => fI H7429 pq j) (x7458.toNatClampNeg) (x7460.toInt) (ms) := PX.settleX pxc7456 hnh m7476 m7475 (by omega)
          have px7494 : PX (fun j => fI H7457 pq j) (x7458.toNatClampNeg) (x7460.toInt) (ms) := PX.congr eqp px7493
          refine lv_aload_n hx hb dX10_readAny_154 rfl (lv_at hl7419 0 rfl) ?_
          refine lv_bipush (v := 11) hx hb dX10_readAny_155 (by decide) ?_
          have pqc : PQ (fun j => fI H7457 pq j) (x7458.toNatClampNeg) (x7460.toInt) (x7132.toInt) (cB (fun j => fI H7429 pq j) x7458.toNatClampNeg) (0) := PQ.cast pqn (by omega) (by omega) rfl rfl rfl
          have hcb := pqc.2.2.2.1
          have hco := pqc.2.1
          have hck := pqc.2.2.1
          have pxc7495 : PX (fun j => fI H7457 pq j) (x7458.toNatClampNeg) (x7460.toInt) (ms) := PX.cast px7494 (by omega) (by omega)
          refine x_V (As := [.int 11]) (rest := []) C (a_X10_settles_e l K G H7457 (11) (mn) (x7458) (x7459) (x7460) hTH7457 ga0 (by decide) goq m7461 gaq m7462 gpq m7463 ex7458 ex7459 ex7460 g7464 g7465 g7466 g7467 (WF.castE m7473 (by omega) (by omega) (by omega)) (by and_intros <;> first | assumption | omega) (by and_intros <;> first | assumption | omega) (pqc.1) (pqc.2.1)) yo_X10_settles wM_X10_273 ⟨⟨by decide, by decide⟩, by decide, by decide⟩ (x_rv C hTH7457 (ci := 10) rfl ga0 rg_112) rfl hl7419.1 rfl (Nat.le_of_ble_eq_true rfl) dX10_readAny_157 hSH7457 (AE_sub (fun _ _ => rfl) (by decide) hSH7457.1) (fun vH7496 H7496 locsH7496 pH7496 zH7496 kH7496 hSH7496 => ?_)
          obtain ⟨x7497, x7498, x7499, hvH7496, ex7497, ex7498, ex7499, hrH7496, m7500, m7501, m7502, g7503, g7504, g7505, g7506, mf7507, m7508, m7509, m7510, m7511, m7512, m7513, m7514, m7515, hTH7496⟩ := pH7496
          subst hvH7496
          clear zH7496
          replace m7500 := EQN.mk m7500
          replace m7501 := EQN.mk m7501
          replace m7502 := EQN.mk m7502
          have b7516 : PQ (fun j => fI H7496 pq j) (x7458.toNatClampNeg) (x7460.toInt) (x7132.toInt) (cB (fun j => fI H7429 pq j) x7458.toNatClampNeg) (0) := PQ.congr (fun j => fI_kept (x_lt hTH7457 kH7496 gpq (by decide))) pqc
          have b7517 : PX (fun j => fI H7496 pq j) (x7458.toNatClampNeg) (x7460.toInt) (ms) := PX.congr (fun j => fI_kept (x_lt hTH7457 kH7496 gpq (by decide))) pxc7495
          have f7518 : ∀ j : Nat, bt j = (fI H7496 tq j).toInt := fun j => (f7479 j).trans (congrArg Int32.toInt (fI_kept (x_lt hTH7457 kH7496 gtq (by decide))).symm)
          have m7519 := (m7480).trans (MF.i mf7507 (k := 19) (by decide) (by decide)).symm
          have m7520 := (m7481).trans (MF.i mf7507 (k := 20) (by decide) (by decide)).symm
          have m7521 := (m7482).trans (MF.i mf7507 (k := 21) (by decide) (by decide)).symm
          have m7522 := (m7483).trans (MF.i mf7507 (k := 22) (by decide) (by decide)).symm
          have m7523 := (m7461).trans (MF.r mf7507 (k := 32) (by decide) (by decide)).symm
          have m7524 := (m7462).trans (MF.r mf7507 (k := 33) (by decide) (by decide)).symm
          have m7525 := (m7463).trans (MF.r mf7507 (k := 37) (by decide) (by decide)).symm
          have m7526 := (m7487).trans (MF.r mf7507 (k := 17) (by decide) (by decide)).symm
          have m7527 := (m7488).trans (MF.i mf7507 (k := 18) (by decide) (by decide)).symm
          have m7528 := (m7489).trans (MF.i mf7507 (k := 34) (by decide) (by decide)).symm
          have mf7529 : MF K s.heap H7496 a0 [19, 20, 21, 22, 35, 36, 38, 39, 40] := MF.trans mf7490 mf7507 (by decide)
          have bx7497 := ty_fi (x := x7497) (k := 38) ex7497 hTH7496 ga0 rg_112 rfl
          have bx7498 := ty_fi (x := x7498) (k := 35) ex7498 hTH7496 ga0 rg_112 rfl
          have bx7499 := ty_fi (x := x7499) (k := 36) ex7499 hTH7496 ga0 rg_112 rfl
          obtain ⟨raH7496, rbH7496, rcH7496⟩ := hrH7496
          replace rcH7496 := rcH7496.resolve_left (fun h => absurd (n_11.symm.trans h.1) (by decide))
          replace m7511 := HD.mk m7511
          replace m7513 := HD.mk m7513
          have b7530 : ∀ j : Nat, j < 3000 + mn.toNatClampNeg → fI H7496 oq j = fI s.heap oq j ∧ fI H7496 aq j = fI s.heap aq j := fun j hj => ⟨(m7508 j (by omega)).1.trans (b7491 j hj).1, (m7508 j (by omega)).2.trans (b7491 j hj).2⟩
          have b7531 : WF (fun k => fI H7496 oq k) (fun k => fI H7496 aq k) (3000 + mn.toNatClampNeg) (3000 + x7459.toNatClampNeg) 0 (cB (fun j => fI H7429 pq j) x7458.toNatClampNeg + 1) := WF.keep m7473 (fun j hj => (m7508 j (by omega)).1) (fun j hj => (m7508 j (by omega)).2)
          refine W.eq (g2 := F0 m 160 ls7418 []) rfl ?_
          have cc_x7497 := i_cl (x := x7497) (by omega)
          have cc_x7498 := i_cl (x := x7498) (by omega)
          have eqp : ∀ j : Nat, fI H7496 pq j = fI H7457 pq j := fun j => fI_kept (x_lt hTH7457 kH7496 gpq (by decide))
          have pq0 : PQ (fun j => fI H7457 pq j) (x7497.toNatClampNeg) (x7499.toInt) (x7132.toInt) (cB (fun j => fI H7457 pq j) x7497.toNatClampNeg) 0 := PQ.settle (w := 11) pqc (by omega) m7509 m7510 (by decide) ((m7511.out).imp (fun h => by omega) (fun h => by show (fI _ pq _).toInt ≠ 11; rw [n_11] at h; exact h)) ((m7513.out).imp (fun h => by omega) (fun h => by show (fI _ pq _).toInt = 11; rw [n_11] at h; exact h)) (Or.inr (by omega))
          have pqn : PQ (fun j => fI H7496 pq j) (x7497.toNatClampNeg) (x7499.toInt) (x7132.toInt) (cB (fun j => fI H7457 pq j) x7497.toNatClampNeg) (0) := PQ.congr eqp pq0
          have t11 : HD (x7497.toNatClampNeg = 0 ∨ (fI H7496 pq (x7497.toNatClampNeg - 1)).toInt = 12) := PQ.top11 (PQ.congr eqp pq10) (by show _ ∨ (fI _ pq _).toInt = 11 ∨ (fI _ pq _).toInt = 12; rw [eqp]; exact t10) (by omega) ((m7513.out).imp (fun h => by omega) (fun h => by show (fI _ pq _).toInt = 11; rw [eqp]; rw [n_11] at h; exact h)) ((m7511.out).imp (fun h => by omega) (fun h => by show (fI _ pq _).toInt ≠ 11; rw [eqp]; rw [n_11] at h; exact h))
          have px7532 : PX (fun j => fI H7457 pq j) (x7497.toNatClampNeg) (x7499.toInt) (ms) := PX.settleX pxc7495 hnh m7515 m7514 (by omega)
          have px7533 : PX (fun j => fI H7496 pq j) (x7497.toNatClampNeg) (x7499.toInt) (ms) := PX.congr eqp px7532
          refine lv_aload_n hx hb dX10_readAny_160 rfl (lv_at hl7419 0 rfl) ?_
          refine lv_bipush (v := 11) hx hb dX10_readAny_161 (by decide) ?_
          have pqc : PQ (fun j => fI H7496 pq j) (x7497.toNatClampNeg) (x7499.toInt) (x7132.toInt) (cB (fun j => fI H7457 pq j) x7497.toNatClampNeg) (0) := PQ.cast pqn (by omega) (by omega) rfl rfl rfl
          have hcb := pqc.2.2.2.1
          have hco := pqc.2.1
          have hck := pqc.2.2.1
          have h26 := PD.n26 pqc.1 (by omega)
          have pxc7534 : PX (fun j => fI H7496 pq j) (x7497.toNatClampNeg) (x7499.toInt) (ms) := PX.cast px7533 (by omega) (by omega)
          refine x_V (As := [.int 11]) (rest := []) C (a_X10_waits l K G H7496 (11) (x7497) hTH7496 ga0 gpq m7502 ex7497 g7503 g7504 g7505 g7506 (by and_intros <;> first | assumption | omega)) yo_X10_waits wM_X10_267 ⟨⟨by decide, by decide⟩, by decide, by decide⟩ (x_rv C hTH7496 (ci := 10) rfl ga0 rg_112) rfl hl7419.1 rfl (Nat.le_of_ble_eq_true rfl) dX10_readAny_163 hSH7496 (AE_sub (fun _ _ => rfl) (by decide) hSH7496.1) (fun vH7535 H7535 locsH7535 pH7535 zH7535 kH7535 hSH7535 => ?_)
          obtain ⟨x7536, hvH7535, ex7536, hrH7535, m7537, g7538, g7539, g7540, g7541, mf7542, m7543, m7544, hTH7535⟩ := pH7535
          subst hvH7535
          clear zH7535
          replace m7537 := EQN.mk m7537
          have b7545 : ∀ j : Nat, j < 3000 + mn.toNatClampNeg → fI H7535 oq j = fI s.heap oq j ∧ fI H7535 aq j = fI s.heap aq j := fun j hj => ⟨(fI_kept (x_lt hTH7496 kH7535 goq (by decide))).trans (b7530 j hj).1, (fI_kept (x_lt hTH7496 kH7535 gaq (by decide))).trans (b7530 j hj).2⟩
          have b7546 : WF (fun k => fI H7535 oq k) (fun k => fI H7535 aq k) (3000 + mn.toNatClampNeg) (3000 + x7498.toNatClampNeg) 0 (cB (fun j => fI H7457 pq j) x7497.toNatClampNeg + 1) := WF.congr (fun j => fI_kept (x_lt hTH7496 kH7535 goq (by decide))) (fun j => fI_kept (x_lt hTH7496 kH7535 gaq (by decide))) m7512
          have f7547 : ∀ j : Nat, bt j = (fI H7535 tq j).toInt := fun j => (f7518 j).trans (congrArg Int32.toInt (fI_kept (x_lt hTH7496 kH7535 gtq (by decide))).symm)
          have m7548 := (m7519).trans (MF.i mf7542 (k := 19) (by decide) (by decide)).symm
          have m7549 := (m7520).trans (MF.i mf7542 (k := 20) (by decide) (by decide)).symm
          have m7550 := (m7521).trans (MF.i mf7542 (k := 21) (by decide) (by decide)).symm
          have m7551 := (m7522).trans (MF.i mf7542 (k := 22) (by decide) (by decide)).symm
          have m7552 := (m7500).trans (MF.r mf7542 (k := 32) (by decide) (by decide)).symm
          have m7553 := (m7501).trans (MF.r mf7542 (k := 33) (by decide) (by decide)).symm
          have m7554 := (m7502).trans (MF.r mf7542 (k := 37) (by decide) (by decide)).symm
          have m7555 := (m7526).trans (MF.r mf7542 (k := 17) (by decide) (by decide)).symm
          have m7556 := (m7527).trans (MF.i mf7542 (k := 18) (by decide) (by decide)).symm
          have m7557 := (m7528).trans (MF.i mf7542 (k := 34) (by decide) (by decide)).symm
          have m7558 := (ex7498).trans (MF.i mf7542 (k := 35) (by decide) (by decide)).symm
          have m7559 := (ex7499).trans (MF.i mf7542 (k := 36) (by decide) (by decide)).symm
          have mf7560 : MF K s.heap H7535 a0 [19, 20, 21, 22, 35, 36, 38, 39, 40] := MF.trans mf7529 mf7542 (by decide)
          have bx7536 := ty_fi (x := x7536) (k := 38) ex7536 hTH7535 ga0 rg_112 rfl
          refine W.eq (g2 := F0 m 166 ls7418 []) rfl ?_
          have cc_x7536 := i_cl (x := x7536) (by omega)
          have hwx := congrArg Int32.toInt m7543
          have pqn : PQ (fun j => fI H7535 pq j) (x7536.toNatClampNeg) (x7499.toInt) (x7132.toInt) (cB (fun j => fI H7457 pq j) x7497.toNatClampNeg + 1) (1) := PQ.push (v := 11) pqc (by show (fI _ pq _).toInt = 11; rw [← m7543]; rfl) m7544 (by omega) (Or.inr (Or.inr (Or.inr ⟨rfl, rfl, rfl, rfl, t11⟩)))
          have pxn : PX (fun j => fI H7535 pq j) (x7536.toNatClampNeg) (x7499.toInt) (ms) := PX.push (v := 11) pxc7534 (by show (fI _ pq _).toInt = 11; rw [← m7543]; rfl) m7544 (by omega) (Or.inr (Or.inr ⟨Or.inr rfl, rfl, rfl⟩))
          refine lv_aload_n hx hb dX10_readAny_166 rfl (lv_at hl7419 0 rfl) ?_
          refine x_V (As := []) (rest := []) C (a_X10_reads_e l K G H7535 (x7421) (x7422) (x7423) (x7424) (tp) bt hTH7535 ga0 gtq m7555 m7548 m7549 m7550 m7551 m7556 g7538 g7539 g7540 g7541 (by and_intros <;> first | assumption | omega) (hy1) f7547) yo_X10_reads wM_X10_242 ⟨⟨by decide, by decide⟩, by decide, by decide⟩ (x_rv C hTH7535 (ci := 10) rfl ga0 rg_112) rfl hl7419.1 rfl (Nat.le_of_ble_eq_true rfl) dX10_readAny_167 hSH7535 (AE_sub (fun _ _ => rfl) (by decide) hSH7535.1) (fun vH7561 H7561 locsH7561 pH7561 zH7561 kH7561 hSH7561 => ?_)
          obtain ⟨x7562, x7563, x7564, x7565, hvH7561, ex7562, ex7563, ex7564, ex7565, hrH7561, m7566, g7567, g7568, g7569, g7570, mf7571, m7572, m7573, m7574, hTH7561⟩ := pH7561
          subst hvH7561
          clear zH7561
          replace m7566 := EQN.mk m7566
          have b7575 : ∀ j : Nat, j < 3000 + mn.toNatClampNeg → fI H7561 oq j = fI s.heap oq j ∧ fI H7561 aq j = fI s.heap aq j := fun j hj => ⟨(fI_kept (x_lt hTH7535 kH7561 goq (by decide))).trans (b7545 j hj).1, (fI_kept (x_lt hTH7535 kH7561 gaq (by decide))).trans (b7545 j hj).2⟩
          have b7576 : WF (fun k => fI H7561 oq k) (fun k => fI H7561 aq k) (3000 + mn.toNatClampNeg) (3000 + x7498.toNatClampNeg) 0 (cB (fun j => fI H7457 pq j) x7497.toNatClampNeg + 1) := WF.congr (fun j => fI_kept (x_lt hTH7535 kH7561 goq (by decide))) (fun j => fI_kept (x_lt hTH7535 kH7561 gaq (by decide))) b7546
          have b7577 : PQ (fun j => fI H7561 pq j) (x7536.toNatClampNeg) (x7499.toInt) (x7132.toInt) (cB (fun j => fI H7457 pq j) x7497.toNatClampNeg + 1) (1) := PQ.congr (fun j => fI_kept (x_lt hTH7535 kH7561 gpq (by decide))) pqn
          have b7578 : PX (fun j => fI H7561 pq j) (x7536.toNatClampNeg) (x7499.toInt) (ms) := PX.congr (fun j => fI_kept (x_lt hTH7535 kH7561 gpq (by decide))) pxn
          have f7579 : ∀ j : Nat, bt j = (fI H7561 tq j).toInt := fun j => (f7547 j).trans (congrArg Int32.toInt (fI_kept (x_lt hTH7535 kH7561 gtq (by decide))).symm)
          have m7580 := (m7552).trans (MF.r mf7571 (k := 32) (by decide) (by decide)).symm
          have m7581 := (m7553).trans (MF.r mf7571 (k := 33) (by decide) (by decide)).symm
          have m7582 := (m7537).trans (MF.r mf7571 (k := 37) (by decide) (by decide)).symm
          have m7583 := (m7555).trans (MF.r mf7571 (k := 17) (by decide) (by decide)).symm
          have m7584 := (m7556).trans (MF.i mf7571 (k := 18) (by decide) (by decide)).symm
          have m7585 := (m7557).trans (MF.i mf7571 (k := 34) (by decide) (by decide)).symm
          have m7586 := (m7558).trans (MF.i mf7571 (k := 35) (by decide) (by decide)).symm
          have m7587 := (m7559).trans (MF.i mf7571 (k := 36) (by decide) (by decide)).symm
          have m7588 := (ex7536).trans (MF.i mf7571 (k := 38) (by decide) (by decide)).symm
          have mf7589 : MF K s.heap H7561 a0 [19, 20, 21, 22, 35, 36, 38, 39, 40] := MF.trans mf7560 mf7571 (by decide)
          have bx7562 := ty_fi (x := x7562) (k := 19) ex7562 hTH7561 ga0 rg_112 rfl
          have bx7563 := ty_fi (x := x7563) (k := 20) ex7563 hTH7561 ga0 rg_112 rfl
          have bx7564 := ty_fi (x := x7564) (k := 21) ex7564 hTH7561 ga0 rg_112 rfl
          have bx7565 := ty_fi (x := x7565) (k := 22) ex7565 hTH7561 ga0 rg_112 rfl
          have cn_x7563 := i_cl (x := x7563) (by omega)
          have cn_x7422 := i_cl (x := x7422) (by omega)
          have cu7590 : CU bt tp.toNatClampNeg (cj + 1) x7563 x7562 x7564 x7565 := CU.next hcu139 m7572 m7573 m7574 (by omega)
          obtain ⟨r1H7561, r2H7561, r3H7561, r4H7561, r5H7561⟩ := hrH7561
          refine W.eq (g2 := F0 m 170 ls7418 []) rfl ?_
          refine lv_iconst (v := 1) hx hb dX10_readAny_170 (by decide) ?_
          refine lv_istore_n (lv' := [(2, .int 1), (0, .ref a0), (1, .int x7132)]) hx hb dX10_readAny_171 rfl hl7419 (by decide) rfl (fun ls7591 hl7592 => ?_)
          refine lv_goto (tgt := 9) hx hb dX10_readAny_172 (by decide) ?_
          have cl_1 := i_cl (x := (1 : Int32)) (by omega)
          have ca_k1 : (1 : Int32).toNatClampNeg = 1 := rfl
          have hpb := b7577.2.2.2.1
          have lx := pxc7495.2
          exact ih9 (cB (fun j => fI H7457 pq j) x7497.toNatClampNeg + 1) (cj + 1) ms ls7591 H7561 locsH7561 (x7132) (1) (x7562) (x7563) (x7564) (x7565) (x7498) (x7499) (x7536) (lv_sub hl7592 [1, 2, 0] rfl) hTH7561 hSH7561 ⟨by have := i_rng x7132; omega, by have := i_rng x7132; omega⟩ (by decide) ⟨by have := i_rng x7562; omega, by have := i_rng x7562; omega⟩ ⟨by have := i_rng x7563; omega, by have := i_rng x7563; omega⟩ ⟨by have := i_rng x7498; omega, by have := i_rng x7498; omega⟩ ⟨by have := i_rng x7499; omega, by have := i_rng x7499; omega⟩ ⟨by have := i_rng x7536; omega, by have := i_rng x7536; omega⟩ ex7562 ex7563 ex7564 ex7565 m7586 m7587 m7588 m7580 m7581 m7582 m7566 m7584 m7585 b7575 (WF.castE b7576 (by omega) (by omega) (by omega)) (PQ.cast b7577 (by omega) (by omega) (by omega) (by omega) (by omega)) (PX.cast b7578 (by omega) (by omega)) mf7589 g7567 g7568 g7569 g7570 f7579 (by omega) (by and_intros <;> first | assumption | omega) cu7590 (HD.mk (fun _ => hco139.trans (co_ao (by omega) hnh (Or.inr kw_)))) (HD.mk (fun h => by exfalso; omega))
      have J109 : ∀  (ls7594 : Array Slot) (H7593 : Heap) (locsH7593 : List Loc) (x7597 : Int32) (x7598 : Int32) (x7599 : Int32) (x7600 : Int32) (x7601 : Int32) (x7602 : Int32) (x7603 : Int32), lv_has ls7594 4 [(0, .ref a0), (1, .int x7132), (2, .int x7133)] → TY K G H7593 → va_S (AE G [112, 136, 137, 138] s.heap.size) s.heap H7593 locsH7593 → (0 ≤ x7133.toInt ∧ x7133.toInt ≤ 0) → (0 ≤ x7597.toInt ∧ x7597.toInt ≤ 500) → (0 ≤ x7598.toInt ∧ x7598.toInt ≤ 500) → (0 ≤ x7601.toInt ∧ x7601.toInt ≤ 500) → (0 ≤ x7602.toInt ∧ x7602.toInt ≤ 8) → (0 ≤ x7603.toInt ∧ x7603.toInt ≤ 40) → (x7597 = fI H7593 a0 (K.1.2 10 19)) → (x7598 = fI H7593 a0 (K.1.2 10 20)) → (x7599 = fI H7593 a0 (K.1.2 10 21)) → (x7600 = fI H7593 a0 (K.1.2 10 22)) → (x7601 = fI H7593 a0 (K.1.2 10 35)) → (x7602 = fI H7593 a0 (K.1.2 10 36)) → (x7603 = fI H7593 a0 (K.1.2 10 38)) → (EQN oq (fR H7593 a0 (K.1.2 10 32))) → (EQN aq (fR H7593 a0 (K.1.2 10 33))) → (EQN pq (fR H7593 a0 (K.1.2 10 37))) → (EQN tq (fR H7593 a0 (K.1.2 10 17))) → (tp = fI H7593 a0 (K.1.2 10 18)) → (jb = fI H7593 a0 (K.1.2 10 34)) → (∀ j : Nat, j < 3000 + mn.toNatClampNeg → fI H7593 oq j = fI s.heap oq j ∧ fI H7593 aq j = fI s.heap aq j) → (WF (fun k => fI H7593 oq k) (fun k => fI H7593 aq k) (3000 + mn.toNatClampNeg) (3000 + x7601.toNatClampNeg) 0 (B + 1 - x7133.toNatClampNeg)) → (PQ (fun j => fI H7593 pq j) (x7603.toNatClampNeg) (x7602.toInt) (x7132.toInt) (B) (x7133.toInt)) → (PX (fun j => fI H7593 pq j) (x7603.toNatClampNeg) (x7602.toInt) (ms)) → (MF K s.heap H7593 a0 [19, 20, 21, 22, 35, 36, 38, 39, 40]) → (CG (avw K H7593 a0)) → (TU (avw K H7593 a0) (svw K H7593 a0)) → (WD (avw K H7593 a0)) → (IM (avw K H7593 a0)) → (∀ j : Nat, bt j = (fI H7593 tq j).toInt) → ((x7597.toInt ≤ tp.toInt ∧ x7598.toInt ≤ x7597.toInt ∧ (x7599.toInt = 0 ∨ x7598.toInt < x7597.toInt) ∧ (x7599.toInt ≠ 2 ∨ (0 ≤ x7600.toInt ∧ x7600.toInt ≤ 23))) ∧ x7601.toInt + x7603.toInt + fr.toInt ≤ mn.toInt + x7598.toInt ∧ mn.toInt ≤ x7601.toInt ∧ fr.toInt ≤ x7598.toInt ∧ x7598.toInt = x7135.toInt) → (CU bt tp.toNatClampNeg cj x7598 x7597 x7599 x7600) → (lpI (paS (kK bt tp.toNatClampNeg) (vV bt tp.toNatClampNeg) (1 - jb.toInt) 8) (cAO (kK bt tp.toNatClampNeg)) ci = coI (kK bt tp.toNatClampNeg) (vV bt tp.toNatClampNeg) (1 - jb.toInt) ms cj) → W p l e ({ frames := 7, cells := 0, slots := 0, locals := 149 } : Room) s m (([.ref a0] : List Value).toArray) below meth c H7593 locsH7593 0 0 Q (F0 m 109 ls7594 []) := by
        intro  ls7594 H7593 locsH7593 x7597 x7598 x7599 x7600 x7601 x7602 x7603 hl7595 hTH7593 hSH7593 b7596 bx7597 bx7598 bx7601 bx7602 bx7603 ex7597 ex7598 ex7599 ex7600 ex7601 ex7602 ex7603 cy7604_0 cy7604_1 cy7604_2 cy7604_3 cy7604_4 cy7604_5 by7604_pf by7604_wf by7604_pq by7604_px mfy7604 gy7604_CG gy7604_TU gy7604_WD gy7604_IM fy7604_bt iv109 hcu109 hco109
        clear i1 i2 i3 i4 i5 i6 i7
        obtain ⟨⟨i1, i2, i3, i4⟩, i5, i6, i7, i8⟩ := iv109
        refine lv_aload_n hx hb dX10_readAny_109 rfl (lv_at hl7595 0 rfl) ?_
        refine lv_bipush (v := 8) hx hb dX10_readAny_110 (by decide) ?_
        refine x_V (As := [.int 8]) (rest := []) C (a_X10_isWord_e l K G H7593 (8) (x7599) (x7600) hTH7593 ga0 ex7599 ex7600) yo_X10_isWord wM_X10_264 ⟨⟨by decide, by decide⟩, by decide, by decide⟩ (x_rv C hTH7593 (ci := 10) rfl ga0 rg_112) rfl hl7595.1 rfl (Nat.le_of_ble_eq_true rfl) dX10_readAny_112 hSH7593 (AE_sub (fun _ _ => rfl) (by decide) hSH7593.1) (fun vH7605 H7605 locsH7605 pH7605 zH7605 kH7605 hSH7605 => ?_)
        obtain ⟨x7606, hvH7605, bx7606, hrH7605, hTH7605⟩ := pH7605
        subst hvH7605
        clear zH7605
        have mf7607 : MF K s.heap H7605 a0 [19, 20, 21, 22, 35, 36, 38, 39, 40] := MF.eff (x_lt hTH7593 kH7605 ga0 (by decide)) mfy7604
        have b7608 : ∀ j : Nat, j < 3000 + mn.toNatClampNeg → fI H7605 oq j = fI s.heap oq j ∧ fI H7605 aq j = fI s.heap aq j := fun j hj => ⟨(fI_kept (x_lt hTH7593 kH7605 goq (by decide))).trans (by7604_pf j hj).1, (fI_kept (x_lt hTH7593 kH7605 gaq (by decide))).trans (by7604_pf j hj).2⟩
        have b7609 : WF (fun k => fI H7605 oq k) (fun k => fI H7605 aq k) (3000 + mn.toNatClampNeg) (3000 + x7601.toNatClampNeg) 0 (B + 1 - x7133.toNatClampNeg) := WF.congr (fun j => fI_kept (x_lt hTH7593 kH7605 goq (by decide))) (fun j => fI_kept (x_lt hTH7593 kH7605 gaq (by decide))) by7604_wf
        have b7610 : PQ (fun j => fI H7605 pq j) (x7603.toNatClampNeg) (x7602.toInt) (x7132.toInt) (B) (x7133.toInt) := PQ.congr (fun j => fI_kept (x_lt hTH7593 kH7605 gpq (by decide))) by7604_pq
        have b7611 : PX (fun j => fI H7605 pq j) (x7603.toNatClampNeg) (x7602.toInt) (ms) := PX.congr (fun j => fI_kept (x_lt hTH7593 kH7605 gpq (by decide))) by7604_px
        have g7612 : CG (avw K H7605 a0) := CG.congr (fun k hk j => av_eff hTH7593 kH7605 ga0 (by decide) (CG_eff [] (by decide) k hk)) gy7604_CG
        have g7613 : TU (avw K H7605 a0) (svw K H7605 a0) := TU.congr (fun k hk j => av_eff hTH7593 kH7605 ga0 (by decide) (TU_eff [] (by decide) k hk)) (fun k hk => sv_eff hTH7593 kH7605 ga0 (by decide)) gy7604_TU
        have g7614 : WD (avw K H7605 a0) := WD.congr (fun k hk j => av_eff hTH7593 kH7605 ga0 (by decide) (WD_eff [] (by decide) k hk)) gy7604_WD
        have g7615 : IM (avw K H7605 a0) := IM.congr (fun k hk j => av_eff hTH7593 kH7605 ga0 (by decide) (IM_eff [] (by decide) k hk)) gy7604_IM
        have f7616 : ∀ j : Nat, bt j = (fI H7605 tq j).toInt := fun j => (fy7604_bt j).trans (congrArg Int32.toInt (fI_kept (x_lt hTH7593 kH7605 gtq (by decide))).symm)
        have m7617 := (ex7597).trans (fI_kept (x_lt hTH7593 kH7605 ga0 (by decide))).symm
        have m7618 := (ex7598).trans (fI_kept (x_lt hTH7593 kH7605 ga0 (by decide))).symm
        have m7619 := (ex7599).trans (fI_kept (x_lt hTH7593 kH7605 ga0 (by decide))).symm
        have m7620 := (ex7600).trans (fI_kept (x_lt hTH7593 kH7605 ga0 (by decide))).symm
        have m7621 := (ex7601).trans (fI_kept (x_lt hTH7593 kH7605 ga0 (by decide))).symm
        have m7622 := (ex7602).trans (fI_kept (x_lt hTH7593 kH7605 ga0 (by decide))).symm
        have m7623 := (ex7603).trans (fI_kept (x_lt hTH7593 kH7605 ga0 (by decide))).symm
        have m7624 := (cy7604_0).trans (fR_kept (x_lt hTH7593 kH7605 ga0 (by decide))).symm
        have m7625 := (cy7604_1).trans (fR_kept (x_lt hTH7593 kH7605 ga0 (by decide))).symm
        have m7626 := (cy7604_2).trans (fR_kept (x_lt hTH7593 kH7605 ga0 (by decide))).symm
        have m7627 := (cy7604_3).trans (fR_kept (x_lt hTH7593 kH7605 ga0 (by decide))).symm
        have m7628 := (cy7604_4).trans (fI_kept (x_lt hTH7593 kH7605 ga0 (by decide))).symm
        have m7629 := (cy7604_5).trans (fI_kept (x_lt hTH7593 kH7605 ga0 (by decide))).symm
        refine W.eq (g2 := F0 m 115 ls7594 [.int x7606]) rfl ?_
        refine lv_if_eq (tgt := 139) hx hb dX10_readAny_115 (by decide) (fun c7630 => ?_) (fun c7630 => ?_)
        · have k7631 := i_eq c7630
          have cl_mn := i_cl (x := mn) (by omega)
          have cl_x7601 := i_cl (x := x7601) (by omega)
          have cl_x7603 := i_cl (x := x7603) (by omega)
          have ka_ : kK bt tp.toNatClampNeg cj ≠ 9 := fun e => by have z2 := (TV.wd hcu109.2.2.1).mpr (by omega); have z1 := TV.wv hcu109.2.2.1 z2; omega
          exact J139  ls7594 H7605 locsH7605 (x7597) (x7598) (x7599) (x7600) (x7601) (x7602) (x7603) (lv_sub hl7595 [0, 1, 2] rfl) hTH7605 hSH7605 ⟨by have := i_rng x7133; omega, by have := i_rng x7133; omega⟩ ⟨by have := i_rng x7597; omega, by have := i_rng x7597; omega⟩ ⟨by have := i_rng x7598; omega, by have := i_rng x7598; omega⟩ ⟨by have := i_rng x7601; omega, by have := i_rng x7601; omega⟩ ⟨by have := i_rng x7602; omega, by have := i_rng x7602; omega⟩ ⟨by have := i_rng x7603; omega, by have := i_rng x7603; omega⟩ m7617 m7618 m7619 m7620 m7621 m7622 m7623 m7624 m7625 m7626 m7627 m7628 m7629 b7608 (WF.castE b7609 (by omega) (by omega) (by omega)) (PQ.cast b7610 (by omega) (by omega) (by omega) (by omega) (by omega)) (PX.cast b7611 (by omega) (by omega)) mf7607 g7612 g7613 g7614 g7615 f7616 (by and_intros <;> first | assumption | omega) hcu109 ka_ hco109
        · have k7631 := i_ne c7630
          replace hrH7605 := hrH7605.resolve_left (fun h => absurd h.1 (by omega))
          replace i3 := i3.resolve_left (by omega)
          clear i4
          have kw_ : kK bt tp.toNatClampNeg cj = 9 := by have z1 := TV.wv hcu109.2.2.1 (by omega); omega
          refine lv_aload_n hx hb dX10_readAny_118 rfl (lv_at hl7595 0 rfl) ?_
          refine lv_bipush (v := 10) hx hb dX10_readAny_119 (by decide) ?_
          have cc_x7603 := i_cl (x := x7603) (by omega)
          have cc_x7601 := i_cl (x := x7601) (by omega)
          have pqc : PQ (fun j => fI H7605 pq j) (x7603.toNatClampNeg) (x7602.toInt) (x7132.toInt) (B) (x7133.toInt) := PQ.cast b7610 (by omega) (by omega) rfl rfl rfl
          have hcb := pqc.2.2.2.1
          have hco := pqc.2.1
          have hck := pqc.2.2.1
          have pxc7632 : PX (fun j => fI H7605 pq j) (x7603.toNatClampNeg) (x7602.toInt) (ms) := PX.cast b7611 (by omega) (by omega)
          have hnh : nh ms = true := by rw [← pxc7632.1]; exact nh_0 pqc.1 (pqc.2.2.2.2.resolve_left (by omega))
          refine x_V (As := [.int 10]) (rest := []) C (a_X10_settles_e l K G H7605 (10) (mn) (x7603) (x7601) (x7602) hTH7605 ga0 (by decide) goq m7624 gaq m7625 gpq m7626 m7623 m7621 m7622 g7612 g7613 g7614 g7615 (WF.castE b7609 (by omega) (by omega) (by omega)) (by and_intros <;> first | assumption | omega) (by and_intros <;> first | assumption | omega) (pqc.1) (pqc.2.1)) yo_X10_settles wM_X10_273 ⟨⟨by decide, by decide⟩, by decide, by decide⟩ (x_rv C hTH7605 (ci := 10) rfl ga0 rg_112) rfl hl7595.1 rfl (Nat.le_of_ble_eq_true rfl) dX10_readAny_121 hSH7605 (AE_sub (fun _ _ => rfl) (by decide) hSH7605.1) (fun vH7633 H7633 locsH7633 pH7633 zH7633 kH7633 hSH7633 => ?_)
          obtain ⟨x7634, x7635, x7636, hvH7633, ex7634, ex7635, ex7636, hrH7633, m7637, m7638, m7639, g7640, g7641, g7642, g7643, mf7644, m7645, m7646, m7647, m7648, m7649, m7650, m7651, m7652, hTH7633⟩ := pH7633
          subst hvH7633
          clear zH7633
          replace m7637 := EQN.mk m7637
          replace m7638 := EQN.mk m7638
          replace m7639 := EQN.mk m7639
          have b7653 : PQ (fun j => fI H7633 pq j) (x7603.toNatClampNeg) (x7602.toInt) (x7132.toInt) (B) (x7133.toInt) := PQ.congr (fun j => fI_kept (x_lt hTH7605 kH7633 gpq (by decide))) pqc
          have b7654 : PX (fun j => fI H7633 pq j) (x7603.toNatClampNeg) (x7602.toInt) (ms) := PX.congr (fun j => fI_kept (x_lt hTH7605 kH7633 gpq (by decide))) pxc7632
          have f7655 : ∀ j : Nat, bt j = (fI H7633 tq j).toInt := fun j => (f7616 j).trans (congrArg Int32.toInt (fI_kept (x_lt hTH7605 kH7633 gtq (by decide))).symm)
          have m7656 := (m7617).trans (MF.i mf7644 (k := 19) (by decide) (by decide)).symm
          have m7657 := (m7618).trans (MF.i mf7644 (k := 20) (by decide) (by decide)).symm
          have m7658 := (m7619).trans (MF.i mf7644 (k := 21) (by decide) (by decide)).symm
          have m7659 := (m7620).trans (MF.i mf7644 (k := 22) (by decide) (by decide)).symm
          have m7660 := (m7624).trans (MF.r mf7644 (k := 32) (by decide) (by decide)).symm
          have m7661 := (m7625).trans (MF.r mf7644 (k := 33) (by decide) (by decide)).symm
          have m7662 := (m7626).trans (MF.r mf7644 (k := 37) (by decide) (by decide)).symm
          have m7663 := (m7627).trans (MF.r mf7644 (k := 17) (by decide) (by decide)).symm
          have m7664 := (m7628).trans (MF.i mf7644 (k := 18) (by decide) (by decide)).symm
          have m7665 := (m7629).trans (MF.i mf7644 (k := 34) (by decide) (by decide)).symm
          have mf7666 : MF K s.heap H7633 a0 [19, 20, 21, 22, 35, 36, 38, 39, 40] := MF.trans mf7607 mf7644 (by decide)
          have bx7634 := ty_fi (x := x7634) (k := 38) ex7634 hTH7633 ga0 rg_112 rfl
          have bx7635 := ty_fi (x := x7635) (k := 35) ex7635 hTH7633 ga0 rg_112 rfl
          have bx7636 := ty_fi (x := x7636) (k := 36) ex7636 hTH7633 ga0 rg_112 rfl
          obtain ⟨raH7633, rbH7633, rcH7633⟩ := hrH7633
          replace rcH7633 := rcH7633.resolve_left (fun h => absurd (n_10.symm.trans h.1) (by decide))
          replace m7648 := HD.mk m7648
          replace m7650 := HD.mk m7650
          have cs_mn := i_cl (x := mn) (by omega)
          have b7667 : ∀ j : Nat, j < 3000 + mn.toNatClampNeg → fI H7633 oq j = fI s.heap oq j ∧ fI H7633 aq j = fI s.heap aq j := fun j hj => ⟨(m7645 j (by omega)).1.trans (b7608 j hj).1, (m7645 j (by omega)).2.trans (b7608 j hj).2⟩
          have b7668 : WF (fun k => fI H7633 oq k) (fun k => fI H7633 aq k) (3000 + mn.toNatClampNeg) (3000 + x7601.toNatClampNeg) 0 (B + 1 - x7133.toNatClampNeg) := WF.keep b7609 (fun j hj => (m7645 j (by omega)).1) (fun j hj => (m7645 j (by omega)).2)
          refine W.eq (g2 := F0 m 124 ls7594 []) rfl ?_
          have cc_x7634 := i_cl (x := x7634) (by omega)
          have cc_x7635 := i_cl (x := x7635) (by omega)
          have eqp : ∀ j : Nat, fI H7633 pq j = fI H7605 pq j := fun j => fI_kept (x_lt hTH7605 kH7633 gpq (by decide))
          have pq0 : PQ (fun j => fI H7605 pq j) (x7634.toNatClampNeg) (x7636.toInt) (x7132.toInt) (cB (fun j => fI H7605 pq j) x7634.toNatClampNeg) 0 := PQ.settle (w := 10) pqc (by omega) m7646 m7647 (by decide) ((m7648.out).imp (fun h => by omega) (fun h => by show (fI _ pq _).toInt ≠ 10; rw [n_10] at h; exact h)) ((m7650.out).imp (fun h => by omega) (fun h => by show (fI _ pq _).toInt = 10; rw [n_10] at h; exact h)) (Or.inr (by omega))
          have pqn : PQ (fun j => fI H7633 pq j) (x7634.toNatClampNeg) (x7636.toInt) (x7132.toInt) (cB (fun j => fI H7605 pq j) x7634.toNatClampNeg) (0) := PQ.congr eqp pq0
          have t10 : HD (x7634.toNatClampNeg = 0 ∨ (fI H7633 pq (x7634.toNatClampNeg - 1)).toInt = 11 ∨ (fI H7633 pq (x7634.toNatClampNeg - 1)).toInt = 12) := PQ.top10 pqn ((m7648.out).imp (fun h => by omega) (fun h => by show (fI _ pq _).toInt ≠ 10; rw [eqp]; rw [n_10] at h; exact h))
          have pq10 := pqn
          have px7669 : PX (fun j => fI H7605 pq j) (x7634.toNatClampNeg) (x7636.toInt) (ms) := PX.settleX pxc7632 hnh m7652 m7651 (by omega)
          have px7670 : PX (fun j => fI H7633 pq j) (x7634.toNatClampNeg) (x7636.toInt) (ms) := PX.congr eqp px7669
          refine lv_aload_n hx hb dX10_readAny_124 rfl (lv_at hl7595 0 rfl) ?_
          refine lv_bipush (v := 10) hx hb dX10_readAny_125 (by decide) ?_
          have pqc : PQ (fun j => fI H7633 pq j) (x7634.toNatClampNeg) (x7636.toInt) (x7132.toInt) (cB (fun j => fI H7605 pq j) x7634.toNatClampNeg) (0) := PQ.cast pqn (by omega) (by omega) rfl rfl rfl
          have hcb := pqc.2.2.2.1
          have hco := pqc.2.1
          have hck := pqc.2.2.1
          have h26 := PD.n26 pqc.1 (by omega)
          have pxc7671 : PX (fun j => fI H7633 pq j) (x7634.toNatClampNeg) (x7636.toInt) (ms) := PX.cast px7670 (by omega) (by omega)
          refine x_V (As := [.int 10]) (rest := []) C (a_X10_waits l K G H7633 (10) (x7634) hTH7633 ga0 gpq m7639 ex7634 g7640 g7641 g7642 g7643 (by and_intros <;> first | assumption | omega)) yo_X10_waits wM_X10_267 ⟨⟨by decide, by decide⟩, by decide, by decide⟩ (x_rv C hTH7633 (ci := 10) rfl ga0 rg_112) rfl hl7595.1 rfl (Nat.le_of_ble_eq_true rfl) dX10_readAny_127 hSH7633 (AE_sub (fun _ _ => rfl) (by decide) hSH7633.1) (fun vH7672 H7672 locsH7672 pH7672 zH7672 kH7672 hSH7672 => ?_)
          obtain ⟨x7673, hvH7672, ex7673, hrH7672, m7674, g7675, g7676, g7677, g7678, mf7679, m7680, m7681, hTH7672⟩ := pH7672
          subst hvH7672
          clear zH7672
          replace m7674 := EQN.mk m7674
          have b7682 : ∀ j : Nat, j < 3000 + mn.toNatClampNeg → fI H7672 oq j = fI s.heap oq j ∧ fI H7672 aq j = fI s.heap aq j := fun j hj => ⟨(fI_kept (x_lt hTH7633 kH7672 goq (by decide))).trans (b7667 j hj).1, (fI_kept (x_lt hTH7633 kH7672 gaq (by decide))).trans (b7667 j hj).2⟩
          have b7683 : WF (fun k => fI H7672 oq k) (fun k => fI H7672 aq k) (3000 + mn.toNatClampNeg) (3000 + x7635.toNatClampNeg) 0 (cB (fun j => fI H7605 pq j) x7634.toNatClampNeg + 1) := WF.congr (fun j => fI_kept (x_lt hTH7633 kH7672 goq (by decide))) (fun j => fI_kept (x_lt hTH7633 kH7672 gaq (by decide))) m7649
          have f7684 : ∀ j : Nat, bt j = (fI H7672 tq j).toInt := fun j => (f7655 j).trans (congrArg Int32.toInt (fI_kept (x_lt hTH7633 kH7672 gtq (by decide))).symm)
          have m7685 := (m7656).trans (MF.i mf7679 (k := 19) (by decide) (by decide)).symm
          have m7686 := (m7657).trans (MF.i mf7679 (k := 20) (by decide) (by decide)).symm
          have m7687 := (m7658).trans (MF.i mf7679 (k := 21) (by decide) (by decide)).symm
          have m7688 := (m7659).trans (MF.i mf7679 (k := 22) (by decide) (by decide)).symm
          have m7689 := (m7637).trans (MF.r mf7679 (k := 32) (by decide) (by decide)).symm
          have m7690 := (m7638).trans (MF.r mf7679 (k := 33) (by decide) (by decide)).symm
          have m7691 := (m7639).trans (MF.r mf7679 (k := 37) (by decide) (by decide)).symm
          have m7692 := (m7663).trans (MF.r mf7679 (k := 17) (by decide) (by decide)).symm
          have m7693 := (m7664).trans (MF.i mf7679 (k := 18) (by decide) (by decide)).symm
          have m7694 := (m7665).trans (MF.i mf7679 (k := 34) (by decide) (by decide)).symm
          have m7695 := (ex7635).trans (MF.i mf7679 (k := 35) (by decide) (by decide)).symm
          have m7696 := (ex7636).trans (MF.i mf7679 (k := 36) (by decide) (by decide)).symm
          have mf7697 : MF K s.heap H7672 a0 [19, 20, 21, 22, 35, 36, 38, 39, 40] := MF.trans mf7666 mf7679 (by decide)
          have bx7673 := ty_fi (x := x7673) (k := 38) ex7673 hTH7672 ga0 rg_112 rfl
          refine W.eq (g2 := F0 m 130 ls7594 []) rfl ?_
          have cc_x7673 := i_cl (x := x7673) (by omega)
          have hwx := congrArg Int32.toInt m7680
          have pqn : PQ (fun j => fI H7672 pq j) (x7673.toNatClampNeg) (x7636.toInt) (x7132.toInt) (cB (fun j => fI H7605 pq j) x7634.toNatClampNeg + 1) (1) := PQ.push (v := 10) pqc (by show (fI _ pq _).toInt = 10; rw [← m7680]; rfl) m7681 (by omega) (Or.inr (Or.inr (Or.inl ⟨rfl, rfl, rfl, rfl, t10⟩)))
          have pxn : PX (fun j => fI H7672 pq j) (x7673.toNatClampNeg) (x7636.toInt) (ms) := PX.push (v := 10) pxc7671 (by show (fI _ pq _).toInt = 10; rw [← m7680]; rfl) m7681 (by omega) (Or.inr (Or.inr ⟨Or.inl rfl, rfl, rfl⟩))
          refine lv_aload_n hx hb dX10_readAny_130 rfl (lv_at hl7595 0 rfl) ?_
          refine x_V (As := []) (rest := []) C (a_X10_reads_e l K G H7672 (x7597) (x7598) (x7599) (x7600) (tp) bt hTH7672 ga0 gtq m7692 m7685 m7686 m7687 m7688 m7693 g7675 g7676 g7677 g7678 (by and_intros <;> first | assumption | omega) (hy1) f7684) yo_X10_reads wM_X10_242 ⟨⟨by decide, by decide⟩, by decide, by decide⟩ (x_rv C hTH7672 (ci := 10) rfl ga0 rg_112) rfl hl7595.1 rfl (Nat.le_of_ble_eq_true rfl) dX10_readAny_131 hSH7672 (AE_sub (fun _ _ => rfl) (by decide) hSH7672.1) (fun vH7698 H7698 locsH7698 pH7698 zH7698 kH7698 hSH7698 => ?_)
          obtain ⟨x7699, x7700, x7701, x7702, hvH7698, ex7699, ex7700, ex7701, ex7702, hrH7698, m7703, g7704, g7705, g7706, g7707, mf7708, m7709, m7710, m7711, hTH7698⟩ := pH7698
          subst hvH7698
          clear zH7698
          replace m7703 := EQN.mk m7703
          have b7712 : ∀ j : Nat, j < 3000 + mn.toNatClampNeg → fI H7698 oq j = fI s.heap oq j ∧ fI H7698 aq j = fI s.heap aq j := fun j hj => ⟨(fI_kept (x_lt hTH7672 kH7698 goq (by decide))).trans (b7682 j hj).1, (fI_kept (x_lt hTH7672 kH7698 gaq (by decide))).trans (b7682 j hj).2⟩
          have b7713 : WF (fun k => fI H7698 oq k) (fun k => fI H7698 aq k) (3000 + mn.toNatClampNeg) (3000 + x7635.toNatClampNeg) 0 (cB (fun j => fI H7605 pq j) x7634.toNatClampNeg + 1) := WF.congr (fun j => fI_kept (x_lt hTH7672 kH7698 goq (by decide))) (fun j => fI_kept (x_lt hTH7672 kH7698 gaq (by decide))) b7683
          have b7714 : PQ (fun j => fI H7698 pq j) (x7673.toNatClampNeg) (x7636.toInt) (x7132.toInt) (cB (fun j => fI H7605 pq j) x7634.toNatClampNeg + 1) (1) := PQ.congr (fun j => fI_kept (x_lt hTH7672 kH7698 gpq (by decide))) pqn
          have b7715 : PX (fun j => fI H7698 pq j) (x7673.toNatClampNeg) (x7636.toInt) (ms) := PX.congr (fun j => fI_kept (x_lt hTH7672 kH7698 gpq (by decide))) pxn
          have f7716 : ∀ j : Nat, bt j = (fI H7698 tq j).toInt := fun j => (f7684 j).trans (congrArg Int32.toInt (fI_kept (x_lt hTH7672 kH7698 gtq (by decide))).symm)
          have m7717 := (m7689).trans (MF.r mf7708 (k := 32) (by decide) (by decide)).symm
          have m7718 := (m7690).trans (MF.r mf7708 (k := 33) (by decide) (by decide)).symm
          have m7719 := (m7674).trans (MF.r mf7708 (k := 37) (by decide) (by decide)).symm
          have m7720 := (m7692).trans (MF.r mf7708 (k := 17) (by decide) (by decide)).symm
          have m7721 := (m7693).trans (MF.i mf7708 (k := 18) (by decide) (by decide)).symm
          have m7722 := (m7694).trans (MF.i mf7708 (k := 34) (by decide) (by decide)).symm
          have m7723 := (m7695).trans (MF.i mf7708 (k := 35) (by decide) (by decide)).symm
          have m7724 := (m7696).trans (MF.i mf7708 (k := 36) (by decide) (by decide)).symm
          have m7725 := (ex7673).trans (MF.i mf7708 (k := 38) (by decide) (by decide)).symm
          have mf7726 : MF K s.heap H7698 a0 [19, 20, 21, 22, 35, 36, 38, 39, 40] := MF.trans mf7697 mf7708 (by decide)
          have bx7699 := ty_fi (x := x7699) (k := 19) ex7699 hTH7698 ga0 rg_112 rfl
          have bx7700 := ty_fi (x := x7700) (k := 20) ex7700 hTH7698 ga0 rg_112 rfl
          have bx7701 := ty_fi (x := x7701) (k := 21) ex7701 hTH7698 ga0 rg_112 rfl
          have bx7702 := ty_fi (x := x7702) (k := 22) ex7702 hTH7698 ga0 rg_112 rfl
          have cn_x7700 := i_cl (x := x7700) (by omega)
          have cn_x7598 := i_cl (x := x7598) (by omega)
          have cu7727 : CU bt tp.toNatClampNeg (cj + 1) x7700 x7699 x7701 x7702 := CU.next hcu109 m7709 m7710 m7711 (by omega)
          obtain ⟨r1H7698, r2H7698, r3H7698, r4H7698, r5H7698⟩ := hrH7698
          refine W.eq (g2 := F0 m 134 ls7594 []) rfl ?_
          refine lv_iconst (v := 1) hx hb dX10_readAny_134 (by decide) ?_
          refine lv_istore_n (lv' := [(2, .int 1), (0, .ref a0), (1, .int x7132)]) hx hb dX10_readAny_135 rfl hl7595 (by decide) rfl (fun ls7728 hl7729 => ?_)
          refine lv_goto (tgt := 9) hx hb dX10_readAny_136 (by decide) ?_
          have cl_1 := i_cl (x := (1 : Int32)) (by omega)
          have ca_k1 : (1 : Int32).toNatClampNeg = 1 := rfl
          have hpb := b7714.2.2.2.1
          have lx := pxc7632.2
          exact ih9 (cB (fun j => fI H7605 pq j) x7634.toNatClampNeg + 1) (cj + 1) ms ls7728 H7698 locsH7698 (x7132) (1) (x7699) (x7700) (x7701) (x7702) (x7635) (x7636) (x7673) (lv_sub hl7729 [1, 2, 0] rfl) hTH7698 hSH7698 ⟨by have := i_rng x7132; omega, by have := i_rng x7132; omega⟩ (by decide) ⟨by have := i_rng x7699; omega, by have := i_rng x7699; omega⟩ ⟨by have := i_rng x7700; omega, by have := i_rng x7700; omega⟩ ⟨by have := i_rng x7635; omega, by have := i_rng x7635; omega⟩ ⟨by have := i_rng x7636; omega, by have := i_rng x7636; omega⟩ ⟨by have := i_rng x7673; omega, by have := i_rng x7673; omega⟩ ex7699 ex7700 ex7701 ex7702 m7723 m7724 m7725 m7717 m7718 m7719 m7703 m7721 m7722 b7712 (WF.castE b7713 (by omega) (by omega) (by omega)) (PQ.cast b7714 (by omega) (by omega) (by omega) (by omega) (by omega)) (PX.cast b7715 (by omega) (by omega)) mf7726 g7704 g7705 g7706 g7707 f7716 (by omega) (by and_intros <;> first | assumption | omega) cu7727 (HD.mk (fun _ => hco109.trans (co_ao (by omega) hnh (Or.inl kw_)))) (HD.mk (fun h => by exfalso; omega))
      have J88 : ∀  (ls7731 : Array Slot) (H7730 : Heap) (locsH7730 : List Loc) (x7733 : Int32) (x7734 : Int32) (x7735 : Int32) (x7736 : Int32) (x7737 : Int32) (x7738 : Int32) (x7739 : Int32), lv_has ls7731 4 [(0, .ref a0), (1, .int x7132)] → TY K G H7730 → va_S (AE G [112, 136, 137, 138] s.heap.size) s.heap H7730 locsH7730 → (0 ≤ x7733.toInt ∧ x7733.toInt ≤ 500) → (0 ≤ x7734.toInt ∧ x7734.toInt ≤ 500) → (0 ≤ x7737.toInt ∧ x7737.toInt ≤ 500) → (0 ≤ x7738.toInt ∧ x7738.toInt ≤ 8) → (0 ≤ x7739.toInt ∧ x7739.toInt ≤ 40) → (x7733 = fI H7730 a0 (K.1.2 10 19)) → (x7734 = fI H7730 a0 (K.1.2 10 20)) → (x7735 = fI H7730 a0 (K.1.2 10 21)) → (x7736 = fI H7730 a0 (K.1.2 10 22)) → (x7737 = fI H7730 a0 (K.1.2 10 35)) → (x7738 = fI H7730 a0 (K.1.2 10 36)) → (x7739 = fI H7730 a0 (K.1.2 10 38)) → (EQN oq (fR H7730 a0 (K.1.2 10 32))) → (EQN aq (fR H7730 a0 (K.1.2 10 33))) → (EQN pq (fR H7730 a0 (K.1.2 10 37))) → (EQN tq (fR H7730 a0 (K.1.2 10 17))) → (tp = fI H7730 a0 (K.1.2 10 18)) → (jb = fI H7730 a0 (K.1.2 10 34)) → (∀ j : Nat, j < 3000 + mn.toNatClampNeg → fI H7730 oq j = fI s.heap oq j ∧ fI H7730 aq j = fI s.heap aq j) → (WF (fun k => fI H7730 oq k) (fun k => fI H7730 aq k) (3000 + mn.toNatClampNeg) (3000 + x7737.toNatClampNeg) 0 B) → (PQ (fun j => fI H7730 pq j) (x7739.toNatClampNeg) (x7738.toInt) (x7132.toInt) (B) (1)) → (PX (fun j => fI H7730 pq j) (x7739.toNatClampNeg) (x7738.toInt) (ms)) → (MF K s.heap H7730 a0 [19, 20, 21, 22, 35, 36, 38, 39, 40]) → (CG (avw K H7730 a0)) → (TU (avw K H7730 a0) (svw K H7730 a0)) → (WD (avw K H7730 a0)) → (IM (avw K H7730 a0)) → (∀ j : Nat, bt j = (fI H7730 tq j).toInt) → ((x7733.toInt ≤ tp.toInt ∧ x7734.toInt ≤ x7733.toInt ∧ (x7735.toInt = 0 ∨ x7734.toInt < x7733.toInt) ∧ (x7735.toInt ≠ 2 ∨ (0 ≤ x7736.toInt ∧ x7736.toInt ≤ 23))) ∧ x7737.toInt + x7739.toInt + fr.toInt ≤ mn.toInt + x7734.toInt ∧ mn.toInt ≤ x7737.toInt ∧ fr.toInt ≤ x7734.toInt ∧ x7734.toInt = x7135.toInt) → (CU bt tp.toNatClampNeg cj x7734 x7733 x7735 x7736) → (kK bt tp.toNatClampNeg cj ≠ 10) → (kK bt tp.toNatClampNeg cj ≠ 40) → (lpI (paS (kK bt tp.toNatClampNeg) (vV bt tp.toNatClampNeg) (1 - jb.toInt) 8) (cAO (kK bt tp.toNatClampNeg)) ci = duI (kK bt tp.toNatClampNeg) (vV bt tp.toNatClampNeg) (1 - jb.toInt) ms cj) → W p l e ({ frames := 7, cells := 0, slots := 0, locals := 149 } : Room) s m (([.ref a0] : List Value).toArray) below meth c H7730 locsH7730 0 0 Q (F0 m 88 ls7731 []) := by
        intro  ls7731 H7730 locsH7730 x7733 x7734 x7735 x7736 x7737 x7738 x7739 hl7732 hTH7730 hSH7730 bx7733 bx7734 bx7737 bx7738 bx7739 ex7733 ex7734 ex7735 ex7736 ex7737 ex7738 ex7739 cy7740_0 cy7740_1 cy7740_2 cy7740_3 cy7740_4 cy7740_5 by7740_pf by7740_wf by7740_pq by7740_px mfy7740 gy7740_CG gy7740_TU gy7740_WD gy7740_IM fy7740_bt iv88 hcu88 hn88 hb88 hdu88
        clear i1 i2 i3 i4 i5 i6 i7
        obtain ⟨⟨i1, i2, i3, i4⟩, i5, i6, i7, i8⟩ := iv88
        refine lv_aload_n hx hb dX10_readAny_88 rfl (lv_at hl7732 0 rfl) ?_
        refine x_V (As := []) (rest := []) C (a_X10_readCompared_e l K G H7730 (x7733) (x7734) (x7735) (x7736) (x7737) (tp) (jb) (cj) bt hTH7730 ga0 goq cy7740_0 gaq cy7740_1 gtq cy7740_3 ex7733 ex7734 ex7735 ex7736 ex7737 cy7740_4 cy7740_5 gy7740_CG gy7740_TU gy7740_WD gy7740_IM (by and_intros <;> first | assumption | omega) (by and_intros <;> first | assumption | omega) (hcu88) (hy1) fy7740_bt) yo_X10_readCompared wM_X10_270 ⟨⟨by decide, by decide⟩, by decide, by decide⟩ (x_rv C hTH7730 (ci := 10) rfl ga0 rg_112) rfl hl7732.1 rfl (Nat.le_of_ble_eq_true rfl) dX10_readAny_89 hSH7730 (AE_sub (fun _ _ => rfl) (by decide) hSH7730.1) (fun vH7741 H7741 locsH7741 pH7741 zH7741 kH7741 hSH7741 => ?_)
        obtain ⟨x7742, x7743, x7744, x7745, x7746, x7747, hvH7741, bx7742, ex7743, ex7744, ex7745, ex7746, ex7747, hrH7741, m7748, m7749, m7750, g7751, g7752, g7753, g7754, mf7755, m7756, m7757, m7758, hTH7741⟩ := pH7741
        subst hvH7741
        clear zH7741
        replace m7748 := EQN.mk m7748
        replace m7749 := EQN.mk m7749
        replace m7750 := EQN.mk m7750
        have b7759 : PQ (fun j => fI H7741 pq j) (x7739.toNatClampNeg) (x7738.toInt) (x7132.toInt) (B) (1) := PQ.congr (fun j => fI_kept (x_lt hTH7730 kH7741 gpq (by decide))) by7740_pq
        have b7760 : PX (fun j => fI H7741 pq j) (x7739.toNatClampNeg) (x7738.toInt) (ms) := PX.congr (fun j => fI_kept (x_lt hTH7730 kH7741 gpq (by decide))) by7740_px
        have f7761 : ∀ j : Nat, bt j = (fI H7741 tq j).toInt := fun j => (fy7740_bt j).trans (congrArg Int32.toInt (fI_kept (x_lt hTH7730 kH7741 gtq (by decide))).symm)
        have m7762 := (ex7738).trans (MF.i mf7755 (k := 36) (by decide) (by decide)).symm
        have m7763 := (ex7739).trans (MF.i mf7755 (k := 38) (by decide) (by decide)).symm
        have m7764 := (cy7740_0).trans (MF.r mf7755 (k := 32) (by decide) (by decide)).symm
        have m7765 := (cy7740_1).trans (MF.r mf7755 (k := 33) (by decide) (by decide)).symm
        have m7766 := (cy7740_2).trans (MF.r mf7755 (k := 37) (by decide) (by decide)).symm
        have m7767 := (cy7740_3).trans (MF.r mf7755 (k := 17) (by decide) (by decide)).symm
        have m7768 := (cy7740_4).trans (MF.i mf7755 (k := 18) (by decide) (by decide)).symm
        have m7769 := (cy7740_5).trans (MF.i mf7755 (k := 34) (by decide) (by decide)).symm
        have mf7770 : MF K s.heap H7741 a0 [19, 20, 21, 22, 35, 36, 38, 39, 40] := MF.trans mfy7740 mf7755 (by decide)
        have bx7743 := ty_fi (x := x7743) (k := 19) ex7743 hTH7741 ga0 rg_112 rfl
        have bx7744 := ty_fi (x := x7744) (k := 20) ex7744 hTH7741 ga0 rg_112 rfl
        have bx7745 := ty_fi (x := x7745) (k := 21) ex7745 hTH7741 ga0 rg_112 rfl
        have bx7746 := ty_fi (x := x7746) (k := 22) ex7746 hTH7741 ga0 rg_112 rfl
        have bx7747 := ty_fi (x := x7747) (k := 35) ex7747 hTH7741 ga0 rg_112 rfl
        have csm7756 := i_cl (x := x7737) (by omega)
        have cs_mn := i_cl (x := mn) (by omega)
        have b7771 : ∀ j : Nat, j < 3000 + mn.toNatClampNeg → fI H7741 oq j = fI s.heap oq j ∧ fI H7741 aq j = fI s.heap aq j := fun j hj => ⟨(m7756 j (by omega)).1.trans (by7740_pf j hj).1, (m7756 j (by omega)).2.trans (by7740_pf j hj).2⟩
        have b7772 : WF (fun k => fI H7741 oq k) (fun k => fI H7741 aq k) (3000 + mn.toNatClampNeg) (3000 + x7737.toNatClampNeg) 0 B := WF.keep by7740_wf (fun j hj => (m7756 j (by omega)).1) (fun j hj => (m7756 j (by omega)).2)
        refine W.eq (g2 := F0 m 92 ls7731 [.int x7742]) rfl ?_
        refine lv_iconst (v := (-1)) hx hb dX10_readAny_92 (by decide) ?_
        refine lv_icmp_ne (tgt := 98) hx hb dX10_readAny_93 (by decide) (fun c7773 => ?_) (fun c7773 => ?_)
        · have k7774 := i_ne c7773
          replace hrH7741 := hrH7741.resolve_left (by omega)
          clear i3 i4
          obtain ⟨rz, r1, r2, r3, r4, r5, r6, r7⟩ := hrH7741
          have wu0 : WF (fun k => fI H7741 oq k) (fun k => fI H7741 aq k) (3000 + x7737.toNatClampNeg) (3000 + x7747.toNatClampNeg) 0 1 := by
            rcases m7757 with h | h
            · exfalso; omega
            · exact h
          obtain ⟨cj7775, ho7777, cu7776⟩ := RC.yes m7758 (by omega)
          refine lv_aload_n hx hb dX10_readAny_98 rfl (lv_at hl7732 0 rfl) ?_
          refine lv_bipush (v := 9) hx hb dX10_readAny_99 (by decide) ?_
          have cc_x7739 := i_cl (x := x7739) (by omega)
          have cc_x7747 := i_cl (x := x7747) (by omega)
          have pqc : PQ (fun j => fI H7741 pq j) (x7739.toNatClampNeg) (x7738.toInt) (x7132.toInt) (B) (1) := PQ.cast b7759 (by omega) (by omega) rfl rfl rfl
          have hcb := pqc.2.2.2.1
          have hco := pqc.2.1
          have hck := pqc.2.2.1
          have wct : WF (fun k => fI H7741 oq k) (fun k => fI H7741 aq k) (3000 + mn.toNatClampNeg) (3000 + x7747.toNatClampNeg) 0 (1 + B) := WF.cat (WF.castE (E' := 0 + B) b7772 rfl (z' := 3000 + x7737.toNatClampNeg) (by omega) (by omega)) (WF.lift B wu0) (by omega) (by omega)
          have pxc7778 : PX (fun j => fI H7741 pq j) (x7739.toNatClampNeg) (x7738.toInt) (ms) := PX.cast b7760 (by omega) (by omega)
          refine x_V (As := [.int 9]) (rest := []) C (a_X10_settles_e l K G H7741 (9) (mn) (x7739) (x7747) (x7738) hTH7741 ga0 (by decide) goq m7748 gaq m7749 gpq m7766 m7763 ex7747 m7762 g7751 g7752 g7753 g7754 (WF.castE wct (by omega) (by omega) (by omega)) (by and_intros <;> first | assumption | omega) (by and_intros <;> first | assumption | omega) (pqc.1) (pqc.2.1)) yo_X10_settles wM_X10_273 ⟨⟨by decide, by decide⟩, by decide, by decide⟩ (x_rv C hTH7741 (ci := 10) rfl ga0 rg_112) rfl hl7732.1 rfl (Nat.le_of_ble_eq_true rfl) dX10_readAny_101 hSH7741 (AE_sub (fun _ _ => rfl) (by decide) hSH7741.1) (fun vH7779 H7779 locsH7779 pH7779 zH7779 kH7779 hSH7779 => ?_)
          obtain ⟨x7780, x7781, x7782, hvH7779, ex7780, ex7781, ex7782, hrH7779, m7783, m7784, m7785, g7786, g7787, g7788, g7789, mf7790, m7791, m7792, m7793, m7794, m7795, m7796, m7797, m7798, hTH7779⟩ := pH7779
          subst hvH7779
          clear zH7779
          replace m7783 := EQN.mk m7783
          replace m7784 := EQN.mk m7784
          replace m7785 := EQN.mk m7785
          have b7799 : PQ (fun j => fI H7779 pq j) (x7739.toNatClampNeg) (x7738.toInt) (x7132.toInt) (B) (1) := PQ.congr (fun j => fI_kept (x_lt hTH7741 kH7779 gpq (by decide))) pqc
          have b7800 : PX (fun j => fI H7779 pq j) (x7739.toNatClampNeg) (x7738.toInt) (ms) := PX.congr (fun j => fI_kept (x_lt hTH7741 kH7779 gpq (by decide))) pxc7778
          have f7801 : ∀ j : Nat, bt j = (fI H7779 tq j).toInt := fun j => (f7761 j).trans (congrArg Int32.toInt (fI_kept (x_lt hTH7741 kH7779 gtq (by decide))).symm)
          have m7802 := (m7748).trans (MF.r mf7790 (k := 32) (by decide) (by decide)).symm
          have m7803 := (m7749).trans (MF.r mf7790 (k := 33) (by decide) (by decide)).symm
          have m7804 := (m7766).trans (MF.r mf7790 (k := 37) (by decide) (by decide)).symm
          have m7805 := (m7750).trans (MF.r mf7790 (k := 17) (by decide) (by decide)).symm
          have m7806 := (m7768).trans (MF.i mf7790 (k := 18) (by decide) (by decide)).symm
          have m7807 := (m7769).trans (MF.i mf7790 (k := 34) (by decide) (by decide)).symm
          have m7808 := (ex7743).trans (MF.i mf7790 (k := 19) (by decide) (by decide)).symm
          have m7809 := (ex7744).trans (MF.i mf7790 (k := 20) (by decide) (by decide)).symm
          have m7810 := (ex7745).trans (MF.i mf7790 (k := 21) (by decide) (by decide)).symm
          have m7811 := (ex7746).trans (MF.i mf7790 (k := 22) (by decide) (by decide)).symm
          have mf7812 : MF K s.heap H7779 a0 [19, 20, 21, 22, 35, 36, 38, 39, 40] := MF.trans mf7770 mf7790 (by decide)
          have bx7780 := ty_fi (x := x7780) (k := 38) ex7780 hTH7779 ga0 rg_112 rfl
          have bx7781 := ty_fi (x := x7781) (k := 35) ex7781 hTH7779 ga0 rg_112 rfl
          have bx7782 := ty_fi (x := x7782) (k := 36) ex7782 hTH7779 ga0 rg_112 rfl
          obtain ⟨raH7779, rbH7779, rcH7779⟩ := hrH7779
          replace rcH7779 := rcH7779.resolve_right (fun h => h.1 n_9)
          replace m7794 := HD.mk m7794
          replace m7796 := HD.mk m7796
          have b7813 : ∀ j : Nat, j < 3000 + mn.toNatClampNeg → fI H7779 oq j = fI s.heap oq j ∧ fI H7779 aq j = fI s.heap aq j := fun j hj => ⟨(m7791 j (by omega)).1.trans (b7771 j hj).1, (m7791 j (by omega)).2.trans (b7771 j hj).2⟩
          have b7814 : WF (fun k => fI H7779 oq k) (fun k => fI H7779 aq k) (3000 + mn.toNatClampNeg) (3000 + x7747.toNatClampNeg) 0 (1 + B) := WF.keep wct (fun j hj => (m7791 j (by omega)).1) (fun j hj => (m7791 j (by omega)).2)
          refine W.eq (g2 := F0 m 104 ls7731 []) rfl ?_
          have cc_x7780 := i_cl (x := x7780) (by omega)
          have cc_x7781 := i_cl (x := x7781) (by omega)
          have eqp : ∀ j : Nat, fI H7779 pq j = fI H7741 pq j := fun j => fI_kept (x_lt hTH7741 kH7779 gpq (by decide))
          have pq0 : PQ (fun j => fI H7741 pq j) (x7780.toNatClampNeg) (x7782.toInt) (x7132.toInt) (cB (fun j => fI H7741 pq j) x7780.toNatClampNeg) 0 := PQ.settle (w := 9) pqc (by omega) m7792 m7793 (by decide) ((m7794.out).imp (fun h => by omega) (fun h => by show (fI _ pq _).toInt ≠ 9; rw [n_9] at h; exact h)) ((m7796.out).imp (fun h => by omega) (fun h => by show (fI _ pq _).toInt = 9; rw [n_9] at h; exact h)) (Or.inl rfl)
          have pqn : PQ (fun j => fI H7779 pq j) (x7780.toNatClampNeg) (x7782.toInt) (x7132.toInt) (cB (fun j => fI H7741 pq j) x7780.toNatClampNeg) (0) := PQ.congr eqp pq0
          obtain ⟨px7815, hdn⟩ : PX (fun j => fI H7741 pq j) (x7780.toNatClampNeg) (x7782.toInt) ((mkL (fun j => fI H7741 pq j) (x7780.toNatClampNeg))) ∧ dN (mkL (fun j => fI H7741 pq j) (x7780.toNatClampNeg)) = dN ms := PX.settle pxc7778 m7798 m7797
          have px7816 : PX (fun j => fI H7779 pq j) (x7780.toNatClampNeg) (x7782.toInt) ((mkL (fun j => fI H7741 pq j) (x7780.toNatClampNeg))) := PX.congr eqp px7815
          refine lv_iconst (v := 0) hx hb dX10_readAny_104 (by decide) ?_
          refine lv_istore_n (lv' := [(2, .int 0), (0, .ref a0), (1, .int x7132)]) hx hb dX10_readAny_105 rfl hl7732 (by decide) rfl (fun ls7817 hl7818 => ?_)
          refine lv_goto (tgt := 9) hx hb dX10_readAny_106 (by decide) ?_
          have cl_0 := i_cl (x := (0 : Int32)) (by omega)
          have ca_k0 : (0 : Int32).toNatClampNeg = 0 := rfl
          have hpb := pqn.2.2.2.1
          exact ih9 (cB (fun j => fI H7741 pq j) x7780.toNatClampNeg) cj7775 (mkL (fun j => fI H7741 pq j) (x7780.toNatClampNeg)) ls7817 H7779 locsH7779 (x7132) (0) (x7743) (x7744) (x7745) (x7746) (x7781) (x7782) (x7780) (lv_sub hl7818 [1, 2, 0] rfl) hTH7779 hSH7779 ⟨by have := i_rng x7132; omega, by have := i_rng x7132; omega⟩ (by decide) ⟨by have := i_rng x7743; omega, by have := i_rng x7743; omega⟩ ⟨by have := i_rng x7744; omega, by have := i_rng x7744; omega⟩ ⟨by have := i_rng x7781; omega, by have := i_rng x7781; omega⟩ ⟨by have := i_rng x7782; omega, by have := i_rng x7782; omega⟩ ⟨by have := i_rng x7780; omega, by have := i_rng x7780; omega⟩ m7808 m7809 m7810 m7811 ex7781 ex7782 ex7780 m7783 m7784 m7785 m7805 m7806 m7807 b7813 (WF.castE m7795 (by omega) (by omega) (by omega)) (PQ.cast pqn (by omega) (by omega) (by omega) (by omega) (by omega)) (PX.cast px7816 (by omega) (by omega)) mf7812 g7786 g7787 g7788 g7789 f7801 (by omega) (by and_intros <;> first | assumption | omega) cu7776 (HD.mk (fun h => by exfalso; omega)) (HD.mk (fun _ => hdu88.trans ((du_cp ⟨hn88, hb88⟩ ho7777).trans (co_eq hdn))))
        · have k7774 := i_eq c7773
          refine lv_iconst (v := (-1)) hx hb dX10_readAny_96 (by decide) ?_
          exact x_iret C hQ dX10_readAny_97 hSH7741 (by decide) (by decide) (⟨(-1), x7743, x7744, x7745, x7746, x7747, x7738, x7739, rfl, by decide, ex7743, ex7744, ex7745, ex7746, ex7747, m7762, m7763, Or.inl (by omega), m7748, m7749, m7766, m7750, g7751, g7752, g7753, g7754, mf7770, b7771, Or.inl (by omega), Or.inl ⟨hdu88.trans (du_no ⟨hn88, hb88⟩ (RC.no m7758 (by omega))), by omega⟩, Or.inl (by omega), hTH7741⟩)
      refine lv_iload_n hx hb dX10_readAny_9 rfl (lv_at hl7131 2 rfl) ?_
      refine lv_if_eq (tgt := 109) hx hb dX10_readAny_10 (by decide) (fun c7819 => ?_) (fun c7819 => ?_)
      · have k7820 := i_eq c7819
        have cl_mn := i_cl (x := mn) (by omega)
        have cl_x7138 := i_cl (x := x7138) (by omega)
        have cl_x7140 := i_cl (x := x7140) (by omega)
        exact J109  ls7130 H7129 locsH7129 (x7134) (x7135) (x7136) (x7137) (x7138) (x7139) (x7140) (lv_sub hl7131 [0, 1, 2] rfl) hTH7129 hSH7129 ⟨by have := i_rng x7133; omega, by have := i_rng x7133; omega⟩ ⟨by have := i_rng x7134; omega, by have := i_rng x7134; omega⟩ ⟨by have := i_rng x7135; omega, by have := i_rng x7135; omega⟩ ⟨by have := i_rng x7138; omega, by have := i_rng x7138; omega⟩ ⟨by have := i_rng x7139; omega, by have := i_rng x7139; omega⟩ ⟨by have := i_rng x7140; omega, by have := i_rng x7140; omega⟩ ex7134 ex7135 ex7136 ex7137 ex7138 ex7139 ex7140 cy7141_0 cy7141_1 cy7141_2 cy7141_3 cy7141_4 cy7141_5 by7141_pf (WF.castE by7141_wf (by omega) (by omega) (by omega)) (PQ.cast by7141_pq (by omega) (by omega) (by omega) (by omega) (by omega)) (PX.cast by7141_px (by omega) (by omega)) mfy7141 gy7141_CG gy7141_TU gy7141_WD gy7141_IM fy7141_bt (by and_intros <;> first | assumption | omega) hcu9 (HD.get hco9 (by omega))
      · have k7820 := i_ne c7819
        refine lv_aload_n hx hb dX10_readAny_13 rfl (lv_at hl7131 0 rfl) ?_
        refine lv_bipush (v := 9) hx hb dX10_readAny_14 (by decide) ?_
        refine x_V (As := [.int 9]) (rest := []) C (a_X10_isWord_e l K G H7129 (9) (x7136) (x7137) hTH7129 ga0 ex7136 ex7137) yo_X10_isWord wM_X10_264 ⟨⟨by decide, by decide⟩, by decide, by decide⟩ (x_rv C hTH7129 (ci := 10) rfl ga0 rg_112) rfl hl7131.1 rfl (Nat.le_of_ble_eq_true rfl) dX10_readAny_16 hSH7129 (AE_sub (fun _ _ => rfl) (by decide) hSH7129.1) (fun vH7821 H7821 locsH7821 pH7821 zH7821 kH7821 hSH7821 => ?_)
        obtain ⟨x7822, hvH7821, bx7822, hrH7821, hTH7821⟩ := pH7821
        subst hvH7821
        clear zH7821
        have mf7823 : MF K s.heap H7821 a0 [19, 20, 21, 22, 35, 36, 38, 39, 40] := MF.eff (x_lt hTH7129 kH7821 ga0 (by decide)) mfy7141
        have b7824 : ∀ j : Nat, j < 3000 + mn.toNatClampNeg → fI H7821 oq j = fI s.heap oq j ∧ fI H7821 aq j = fI s.heap aq j := fun j hj => ⟨(fI_kept (x_lt hTH7129 kH7821 goq (by decide))).trans (by7141_pf j hj).1, (fI_kept (x_lt hTH7129 kH7821 gaq (by decide))).trans (by7141_pf j hj).2⟩
        have b7825 : WF (fun k => fI H7821 oq k) (fun k => fI H7821 aq k) (3000 + mn.toNatClampNeg) (3000 + x7138.toNatClampNeg) 0 (B + 1 - x7133.toNatClampNeg) := WF.congr (fun j => fI_kept (x_lt hTH7129 kH7821 goq (by decide))) (fun j => fI_kept (x_lt hTH7129 kH7821 gaq (by decide))) by7141_wf
        have b7826 : PQ (fun j => fI H7821 pq j) (x7140.toNatClampNeg) (x7139.toInt) (x7132.toInt) (B) (x7133.toInt) := PQ.congr (fun j => fI_kept (x_lt hTH7129 kH7821 gpq (by decide))) by7141_pq
        have b7827 : PX (fun j => fI H7821 pq j) (x7140.toNatClampNeg) (x7139.toInt) (ms) := PX.congr (fun j => fI_kept (x_lt hTH7129 kH7821 gpq (by decide))) by7141_px
        have g7828 : CG (avw K H7821 a0) := CG.congr (fun k hk j => av_eff hTH7129 kH7821 ga0 (by decide) (CG_eff [] (by decide) k hk)) gy7141_CG
        have g7829 : TU (avw K H7821 a0) (svw K H7821 a0) := TU.congr (fun k hk j => av_eff hTH7129 kH7821 ga0 (by decide) (TU_eff [] (by decide) k hk)) (fun k hk => sv_eff hTH7129 kH7821 ga0 (by decide)) gy7141_TU
        have g7830 : WD (avw K H7821 a0) := WD.congr (fun k hk j => av_eff hTH7129 kH7821 ga0 (by decide) (WD_eff [] (by decide) k hk)) gy7141_WD
        have g7831 : IM (avw K H7821 a0) := IM.congr (fun k hk j => av_eff hTH7129 kH7821 ga0 (by decide) (IM_eff [] (by decide) k hk)) gy7141_IM
        have f7832 : ∀ j : Nat, bt j = (fI H7821 tq j).toInt := fun j => (fy7141_bt j).trans (congrArg Int32.toInt (fI_kept (x_lt hTH7129 kH7821 gtq (by decide))).symm)
        have m7833 := (ex7134).trans (fI_kept (x_lt hTH7129 kH7821 ga0 (by decide))).symm
        have m7834 := (ex7135).trans (fI_kept (x_lt hTH7129 kH7821 ga0 (by decide))).symm
        have m7835 := (ex7136).trans (fI_kept (x_lt hTH7129 kH7821 ga0 (by decide))).symm
        have m7836 := (ex7137).trans (fI_kept (x_lt hTH7129 kH7821 ga0 (by decide))).symm
        have m7837 := (ex7138).trans (fI_kept (x_lt hTH7129 kH7821 ga0 (by decide))).symm
        have m7838 := (ex7139).trans (fI_kept (x_lt hTH7129 kH7821 ga0 (by decide))).symm
        have m7839 := (ex7140).trans (fI_kept (x_lt hTH7129 kH7821 ga0 (by decide))).symm
        have m7840 := (cy7141_0).trans (fR_kept (x_lt hTH7129 kH7821 ga0 (by decide))).symm
        have m7841 := (cy7141_1).trans (fR_kept (x_lt hTH7129 kH7821 ga0 (by decide))).symm
        have m7842 := (cy7141_2).trans (fR_kept (x_lt hTH7129 kH7821 ga0 (by decide))).symm
        have m7843 := (cy7141_3).trans (fR_kept (x_lt hTH7129 kH7821 ga0 (by decide))).symm
        have m7844 := (cy7141_4).trans (fI_kept (x_lt hTH7129 kH7821 ga0 (by decide))).symm
        have m7845 := (cy7141_5).trans (fI_kept (x_lt hTH7129 kH7821 ga0 (by decide))).symm
        refine W.eq (g2 := F0 m 19 ls7130 [.int x7822]) rfl ?_
        refine lv_istore_n (lv' := [(3, .int x7822), (0, .ref a0), (1, .int x7132), (2, .int x7133)]) hx hb dX10_readAny_19 rfl hl7131 (by decide) rfl (fun ls7846 hl7847 => ?_)
        refine lv_iload_n hx hb dX10_readAny_20 rfl (lv_at hl7847 0 rfl) ?_
        refine lv_if_ne (tgt := 33) hx hb dX10_readAny_21 (by decide) (fun c7848 => ?_) (fun c7848 => ?_)
        · have k7849 := i_ne c7848
          have kw_ : kK bt tp.toNatClampNeg cj = 10 := by have z1 := TV.wv hcu9.2.2.1 (by omega); omega
          replace i3 := i3.resolve_left (by omega)
          clear i4
          refine lv_aload_n hx hb dX10_readAny_33 rfl (lv_at hl7847 1 rfl) ?_
          refine x_gi C hTH7821 (ci := 10) (k := 36) rfl inX10 (by decide) wF_X10_261 ga0 rg_112 rfl dX10_readAny_34 (fun x7850 ex7850 bx7850 => ?_)
          have ux7850 : x7139 = x7850 := (m7838).trans ex7850.symm
          subst ux7850
          refine lv_bipush (v := 8) hx hb dX10_readAny_37 (by decide) ?_
          refine lv_icmp_ne (tgt := 48) hx hb dX10_readAny_39 (by decide) (fun c7851 => ?_) (fun c7851 => ?_)
          · have k7852 := i_ne c7851
            refine lv_aload_n hx hb dX10_readAny_48 rfl (lv_at hl7847 1 rfl) ?_
            refine lv_aload_n hx hb dX10_readAny_49 rfl (lv_at hl7847 1 rfl) ?_
            refine x_gi C hTH7821 (ci := 10) (k := 36) rfl inX10 (by decide) wF_X10_261 ga0 rg_112 rfl dX10_readAny_50 (fun x7853 ex7853 bx7853 => ?_)
            have ux7853 : x7139 = x7853 := (m7838).trans ex7853.symm
            subst ux7853
            refine lv_iconst (v := 1) hx hb dX10_readAny_53 (by decide) ?_
            refine lv_iadd hx hb dX10_readAny_54 ?_
            refine lv_topi (fun x7854 ex7854 => ?_)
            have tx7854 := i_add ex7854 (by omega)
            refine x_put C hTH7821 hSH7821 (ci := 10) (k := 36) (v := .int x7854) (ty0 := tyX10) rfl inX10 tyX10_ok nmX10 (by decide) rfl wF_X10_261 ga0 rg_112 rfl rfl (okI (by have := i_rng x7854; omega) (by have := i_rng x7854; omega)) rfl rfl (AE_in ga0 (by decide)) dX10_readAny_55 (fun H7855 locsH7855 hTH7855 hSH7855 wH7855 => ?_)
            have mf7856 : MF K s.heap H7855 a0 [19, 20, 21, 22, 35, 36, 38, 39, 40] := MF.fld hap wH7855 (by decide) (by decide) mf7823
            have g7857 : CG (avw K H7855 a0) := CG.congr (fun k hk j => av_fld hTH7821 ga0 hap wH7855 (by decide) (CG_ok 112 (by decide) k hk) (CG_ne 36 (by decide) k hk)) g7828
            have g7858 : TU (avw K H7855 a0) (svw K H7855 a0) := TU.congr (fun k hk j => av_fld hTH7821 ga0 hap wH7855 (by decide) (TU_ok 112 (by decide) k hk) (TU_ne 36 (by decide) k hk)) (fun k hk => sv_fld hap wH7855 (by decide) (TU_slt k hk) (TU_sne 36 (by decide) k hk)) g7829
            have g7859 : WD (avw K H7855 a0) := WD.congr (fun k hk j => av_fld hTH7821 ga0 hap wH7855 (by decide) (WD_ok 112 (by decide) k hk) (WD_ne 36 (by decide) k hk)) g7830
            have g7860 : IM (avw K H7855 a0) := IM.congr (fun k hk j => av_fld hTH7821 ga0 hap wH7855 (by decide) (IM_ok 112 (by decide) k hk) (IM_ne 36 (by decide) k hk)) g7831
            have b7861 : ∀ j : Nat, j < 3000 + mn.toNatClampNeg → fI H7855 oq j = fI s.heap oq j ∧ fI H7855 aq j = fI s.heap aq j := fun j hj => ⟨(Wr.neI wH7855 (Or.inl (G_ne goq ga0 (by decide)))).trans (b7824 j hj).1, (Wr.neI wH7855 (Or.inl (G_ne gaq ga0 (by decide)))).trans (b7824 j hj).2⟩
            have b7862 : WF (fun k => fI H7855 oq k) (fun k => fI H7855 aq k) (3000 + mn.toNatClampNeg) (3000 + x7138.toNatClampNeg) 0 (B + 1 - x7133.toNatClampNeg) := WF.congr (fun j => Wr.neI wH7855 (Or.inl (G_ne goq ga0 (by decide)))) (fun j => Wr.neI wH7855 (Or.inl (G_ne gaq ga0 (by decide)))) b7825
            have b7863 : PQ (fun j => fI H7855 pq j) (x7140.toNatClampNeg) (x7139.toInt) (x7132.toInt) (B) (x7133.toInt) := PQ.congr (fun j => Wr.neI wH7855 (Or.inl (G_ne gpq ga0 (by decide)))) b7826
            have b7864 : PX (fun j => fI H7855 pq j) (x7140.toNatClampNeg) (x7139.toInt) (ms) := PX.congr (fun j => Wr.neI wH7855 (Or.inl (G_ne gpq ga0 (by decide)))) b7827
            have f7865 : ∀ j : Nat, bt j = (fI H7855 tq j).toInt := fun j => (f7832 j).trans (congrArg Int32.toInt (Wr.neI wH7855 (Or.inl (G_ne gtq ga0 (by decide)))).symm)
            have m7866 := m7833.trans (Wr.neI wH7855 (Or.inr (x_apart hKT hts inX10 tyX10 tyX10_ok nmX10 rfl 19 36 (by decide) (by decide) (by decide)))).symm
            have m7867 := m7834.trans (Wr.neI wH7855 (Or.inr (x_apart hKT hts inX10 tyX10 tyX10_ok nmX10 rfl 20 36 (by decide) (by decide) (by decide)))).symm
            have m7868 := m7835.trans (Wr.neI wH7855 (Or.inr (x_apart hKT hts inX10 tyX10 tyX10_ok nmX10 rfl 21 36 (by decide) (by decide) (by decide)))).symm
            have m7869 := m7836.trans (Wr.neI wH7855 (Or.inr (x_apart hKT hts inX10 tyX10 tyX10_ok nmX10 rfl 22 36 (by decide) (by decide) (by decide)))).symm
            have m7870 := m7837.trans (Wr.neI wH7855 (Or.inr (x_apart hKT hts inX10 tyX10 tyX10_ok nmX10 rfl 35 36 (by decide) (by decide) (by decide)))).symm
            have m7872 := m7839.trans (Wr.neI wH7855 (Or.inr (x_apart hKT hts inX10 tyX10 tyX10_ok nmX10 rfl 38 36 (by decide) (by decide) (by decide)))).symm
            have m7873 := m7840.trans (Wr.neR wH7855 (Or.inr (x_apart hKT hts inX10 tyX10 tyX10_ok nmX10 rfl 32 36 (by decide) (by decide) (by decide)))).symm
            have m7874 := m7841.trans (Wr.neR wH7855 (Or.inr (x_apart hKT hts inX10 tyX10 tyX10_ok nmX10 rfl 33 36 (by decide) (by decide) (by decide)))).symm
            have m7875 := m7842.trans (Wr.neR wH7855 (Or.inr (x_apart hKT hts inX10 tyX10 tyX10_ok nmX10 rfl 37 36 (by decide) (by decide) (by decide)))).symm
            have m7876 := m7843.trans (Wr.neR wH7855 (Or.inr (x_apart hKT hts inX10 tyX10 tyX10_ok nmX10 rfl 17 36 (by decide) (by decide) (by decide)))).symm
            have m7877 := m7844.trans (Wr.neI wH7855 (Or.inr (x_apart hKT hts inX10 tyX10 tyX10_ok nmX10 rfl 18 36 (by decide) (by decide) (by decide)))).symm
            have m7878 := m7845.trans (Wr.neI wH7855 (Or.inr (x_apart hKT hts inX10 tyX10 tyX10_ok nmX10 rfl 34 36 (by decide) (by decide) (by decide)))).symm
            have m7879 := Wr.I wH7855
            have m7879 := m7879.symm
            refine lv_iload_n hx hb dX10_readAny_58 rfl (lv_at hl7847 0 rfl) ?_
            refine lv_if_ne (tgt := 66) hx hb dX10_readAny_59 (by decide) (fun c7880 => ?_) (fun c7880 => ?_)
            · have k7881 := i_ne c7880
              refine lv_aload_n hx hb dX10_readAny_66 rfl (lv_at hl7847 1 rfl) ?_
              refine lv_iload_n hx hb dX10_readAny_67 rfl (lv_at hl7847 0 rfl) ?_
              refine lv_if_eq (tgt := 76) hx hb dX10_readAny_68 (by decide) (fun c7882 => ?_) (fun c7882 => ?_)
              · have k7883 := i_eq c7882
                exfalso
                omega
              · have k7883 := i_ne c7882
                refine lv_bipush (v := 9) hx hb dX10_readAny_71 (by decide) ?_
                refine lv_goto (tgt := 78) hx hb dX10_readAny_73 (by decide) ?_
                have cc_x7140 := i_cl (x := x7140) (by omega)
                have cc_x7138 := i_cl (x := x7138) (by omega)
                have pqc : PQ (fun j => fI H7855 pq j) (x7140.toNatClampNeg) (x7139.toInt) (x7132.toInt) (B) (x7133.toInt) := PQ.cast b7863 (by omega) (by omega) rfl rfl rfl
                have hcb := pqc.2.2.2.1
                have hco := pqc.2.1
                have hck := pqc.2.2.1
                have h26 := PD.n26 pqc.1 (by omega)
                have pxc7884 : PX (fun j => fI H7855 pq j) (x7140.toNatClampNeg) (x7139.toInt) (ms) := PX.cast b7864 (by omega) (by omega)
                refine x_V (As := [.int 9]) (rest := []) C (a_X10_waits l K G H7855 (9) (x7140) hTH7855 ga0 gpq m7875 m7872 g7857 g7858 g7859 g7860 (by and_intros <;> first | assumption | omega)) yo_X10_waits wM_X10_267 ⟨⟨by decide, by decide⟩, by decide, by decide⟩ (x_rv C hTH7855 (ci := 10) rfl ga0 rg_112) rfl hl7847.1 rfl (Nat.le_of_ble_eq_true rfl) dX10_readAny_78 hSH7855 (AE_sub (fun _ _ => rfl) (by decide) hSH7855.1) (fun vH7885 H7885 locsH7885 pH7885 zH7885 kH7885 hSH7885 => ?_)
                obtain ⟨x7886, hvH7885, ex7886, hrH7885, m7887, g7888, g7889, g7890, g7891, mf7892, m7893, m7894, hTH7885⟩ := pH7885
                subst hvH7885
                clear zH7885
                replace m7887 := EQN.mk m7887
                have b7895 : ∀ j : Nat, j < 3000 + mn.toNatClampNeg → fI H7885 oq j = fI s.heap oq j ∧ fI H7885 aq j = fI s.heap aq j := fun j hj => ⟨(fI_kept (x_lt hTH7855 kH7885 goq (by decide))).trans (b7861 j hj).1, (fI_kept (x_lt hTH7855 kH7885 gaq (by decide))).trans (b7861 j hj).2⟩
                have b7896 : WF (fun k => fI H7885 oq k) (fun k => fI H7885 aq k) (3000 + mn.toNatClampNeg) (3000 + x7138.toNatClampNeg) 0 (B + 1 - x7133.toNatClampNeg) := WF.congr (fun j => fI_kept (x_lt hTH7855 kH7885 goq (by decide))) (fun j => fI_kept (x_lt hTH7855 kH7885 gaq (by decide))) b7862
                have f7897 : ∀ j : Nat, bt j = (fI H7885 tq j).toInt := fun j => (f7865 j).trans (congrArg Int32.toInt (fI_kept (x_lt hTH7855 kH7885 gtq (by decide))).symm)
                have m7898 := (m7866).trans (MF.i mf7892 (k := 19) (by decide) (by decide)).symm
                have m7899 := (m7867).trans (MF.i mf7892 (k := 20) (by decide) (by decide)).symm
                have m7900 := (m7868).trans (MF.i mf7892 (k := 21) (by decide) (by decide)).symm
                have m7901 := (m7869).trans (MF.i mf7892 (k := 22) (by decide) (by decide)).symm
                have m7902 := (m7870).trans (MF.i mf7892 (k := 35) (by decide) (by decide)).symm
                have m7903 := (m7873).trans (MF.r mf7892 (k := 32) (by decide) (by decide)).symm
                have m7904 := (m7874).trans (MF.r mf7892 (k := 33) (by decide) (by decide)).symm
                have m7905 := (m7875).trans (MF.r mf7892 (k := 37) (by decide) (by decide)).symm
                have m7906 := (m7876).trans (MF.r mf7892 (k := 17) (by decide) (by decide)).symm
                have m7907 := (m7877).trans (MF.i mf7892 (k := 18) (by decide) (by decide)).symm
                have m7908 := (m7878).trans (MF.i mf7892 (k := 34) (by decide) (by decide)).symm
                have m7909 := (m7879).trans (MF.i mf7892 (k := 36) (by decide) (by decide)).symm
                have mf7910 : MF K s.heap H7885 a0 [19, 20, 21, 22, 35, 36, 38, 39, 40] := MF.trans mf7856 mf7892 (by decide)
                have bx7886 := ty_fi (x := x7886) (k := 38) ex7886 hTH7885 ga0 rg_112 rfl
                refine W.eq (g2 := F0 m 81 ls7846 []) rfl ?_
                have cc_x7886 := i_cl (x := x7886) (by omega)
                have hwx := congrArg Int32.toInt m7893
                have pqn : PQ (fun j => fI H7885 pq j) (x7886.toNatClampNeg) (x7139.toInt + 1) (x7132.toInt) (B) (1) := PQ.push (v := 9) pqc (by show (fI _ pq _).toInt = 9; rw [← m7893]; rfl) m7894 (by omega) (Or.inl ⟨rfl, rfl, rfl, rfl⟩)
                have pxn : PX (fun j => fI H7885 pq j) (x7886.toNatClampNeg) (x7139.toInt + 1) ((false :: ms)) := PX.push (v := 9) pxc7884 (by show (fI _ pq _).toInt = 9; rw [← m7893]; rfl) m7894 (by omega) (Or.inl ⟨rfl, rfl, rfl⟩)
                have hkl := cK_le (f := fun j => fI H7885 pq j) (x7886.toNatClampNeg)
                have hkc := pqn.2.2.1
                have hkd := pqn.2.1
                refine lv_aload_n hx hb dX10_readAny_81 rfl (lv_at hl7847 1 rfl) ?_
                refine x_V (As := []) (rest := []) C (a_X10_reads_e l K G H7885 (x7134) (x7135) (x7136) (x7137) (tp) bt hTH7885 ga0 gtq m7906 m7898 m7899 m7900 m7901 m7907 g7888 g7889 g7890 g7891 (by and_intros <;> first | assumption | omega) (hy1) f7897) yo_X10_reads wM_X10_242 ⟨⟨by decide, by decide⟩, by decide, by decide⟩ (x_rv C hTH7885 (ci := 10) rfl ga0 rg_112) rfl hl7847.1 rfl (Nat.le_of_ble_eq_true rfl) dX10_readAny_82 hSH7885 (AE_sub (fun _ _ => rfl) (by decide) hSH7885.1) (fun vH7911 H7911 locsH7911 pH7911 zH7911 kH7911 hSH7911 => ?_)
                obtain ⟨x7912, x7913, x7914, x7915, hvH7911, ex7912, ex7913, ex7914, ex7915, hrH7911, m7916, g7917, g7918, g7919, g7920, mf7921, m7922, m7923, m7924, hTH7911⟩ := pH7911
                subst hvH7911
                clear zH7911
                replace m7916 := EQN.mk m7916
                have b7925 : ∀ j : Nat, j < 3000 + mn.toNatClampNeg → fI H7911 oq j = fI s.heap oq j ∧ fI H7911 aq j = fI s.heap aq j := fun j hj => ⟨(fI_kept (x_lt hTH7885 kH7911 goq (by decide))).trans (b7895 j hj).1, (fI_kept (x_lt hTH7885 kH7911 gaq (by decide))).trans (b7895 j hj).2⟩
                have b7926 : WF (fun k => fI H7911 oq k) (fun k => fI H7911 aq k) (3000 + mn.toNatClampNeg) (3000 + x7138.toNatClampNeg) 0 (B + 1 - x7133.toNatClampNeg) := WF.congr (fun j => fI_kept (x_lt hTH7885 kH7911 goq (by decide))) (fun j => fI_kept (x_lt hTH7885 kH7911 gaq (by decide))) b7896
                have b7927 : PQ (fun j => fI H7911 pq j) (x7886.toNatClampNeg) (x7139.toInt + 1) (x7132.toInt) (B) (1) := PQ.congr (fun j => fI_kept (x_lt hTH7885 kH7911 gpq (by decide))) pqn
                have b7928 : PX (fun j => fI H7911 pq j) (x7886.toNatClampNeg) (x7139.toInt + 1) ((false :: ms)) := PX.congr (fun j => fI_kept (x_lt hTH7885 kH7911 gpq (by decide))) pxn
                have f7929 : ∀ j : Nat, bt j = (fI H7911 tq j).toInt := fun j => (f7897 j).trans (congrArg Int32.toInt (fI_kept (x_lt hTH7885 kH7911 gtq (by decide))).symm)
                have m7930 := (m7902).trans (MF.i mf7921 (k := 35) (by decide) (by decide)).symm
                have m7931 := (m7903).trans (MF.r mf7921 (k := 32) (by decide) (by decide)).symm
                have m7932 := (m7904).trans (MF.r mf7921 (k := 33) (by decide) (by decide)).symm
                have m7933 := (m7887).trans (MF.r mf7921 (k := 37) (by decide) (by decide)).symm
                have m7934 := (m7906).trans (MF.r mf7921 (k := 17) (by decide) (by decide)).symm
                have m7935 := (m7907).trans (MF.i mf7921 (k := 18) (by decide) (by decide)).symm
                have m7936 := (m7908).trans (MF.i mf7921 (k := 34) (by decide) (by decide)).symm
                have m7937 := (m7909).trans (MF.i mf7921 (k := 36) (by decide) (by decide)).symm
                have m7938 := (ex7886).trans (MF.i mf7921 (k := 38) (by decide) (by decide)).symm
                have mf7939 : MF K s.heap H7911 a0 [19, 20, 21, 22, 35, 36, 38, 39, 40] := MF.trans mf7910 mf7921 (by decide)
                have bx7912 := ty_fi (x := x7912) (k := 19) ex7912 hTH7911 ga0 rg_112 rfl
                have bx7913 := ty_fi (x := x7913) (k := 20) ex7913 hTH7911 ga0 rg_112 rfl
                have bx7914 := ty_fi (x := x7914) (k := 21) ex7914 hTH7911 ga0 rg_112 rfl
                have bx7915 := ty_fi (x := x7915) (k := 22) ex7915 hTH7911 ga0 rg_112 rfl
                have cn_x7913 := i_cl (x := x7913) (by omega)
                have cn_x7135 := i_cl (x := x7135) (by omega)
                have cu7940 : CU bt tp.toNatClampNeg (cj + 1) x7913 x7912 x7914 x7915 := CU.next hcu9 m7922 m7923 m7924 (by omega)
                obtain ⟨r1H7911, r2H7911, r3H7911, r4H7911, r5H7911⟩ := hrH7911
                refine W.eq (g2 := F0 m 85 ls7846 []) rfl ?_
                refine lv_goto (tgt := 9) hx hb dX10_readAny_85 (by decide) ?_
                have cl_mn := i_cl (x := mn) (by omega)
                have hpb := b7927.2.2.2.1
                have lx := pxc7884.2
                exact ih9 (B) (cj + 1) (false :: ms) ls7846 H7911 locsH7911 (x7132) (x7133) (x7912) (x7913) (x7914) (x7915) (x7138) (x7854) (x7886) (lv_sub hl7847 [1, 2, 3] rfl) hTH7911 hSH7911 ⟨by have := i_rng x7132; omega, by have := i_rng x7132; omega⟩ ⟨by have := i_rng x7133; omega, by have := i_rng x7133; omega⟩ ⟨by have := i_rng x7912; omega, by have := i_rng x7912; omega⟩ ⟨by have := i_rng x7913; omega, by have := i_rng x7913; omega⟩ ⟨by have := i_rng x7138; omega, by have := i_rng x7138; omega⟩ ⟨by have := i_rng x7854; omega, by have := i_rng x7854; omega⟩ ⟨by have := i_rng x7886; omega, by have := i_rng x7886; omega⟩ ex7912 ex7913 ex7914 ex7915 m7930 m7937 m7938 m7931 m7932 m7933 m7916 m7935 m7936 b7925 (WF.castE b7926 (by omega) (by omega) (by omega)) (PQ.cast b7927 (by omega) (by omega) (by omega) (by omega) (by omega)) (PX.cast b7928 (by omega) (by omega)) mf7939 g7917 g7918 g7919 g7920 f7929 (by omega) (by and_intros <;> first | assumption | omega) cu7940 (HD.mk (fun _ => ((HD.get hdu9 (by omega)).trans (du_not (by omega) kw_)))) (HD.mk (fun h => by exfalso; omega))
            · have k7881 := i_eq c7880
              exfalso
              omega
          · have k7852 := i_eq c7851
            refine lv_aload_n hx hb dX10_readAny_42 rfl (lv_at hl7847 1 rfl) ?_
            refine lv_iconst (v := 3) hx hb dX10_readAny_43 (by decide) ?_
            refine x_V (As := [.int 3]) (rest := []) C (a_X10_fails l K G H7821 (3) hTH7821 ga0 g7828 g7829 g7830 g7831) yo_X10_fails wM_X10_235 ⟨⟨by decide, by decide⟩, by decide, by decide⟩ (x_rv C hTH7821 (ci := 10) rfl ga0 rg_112) rfl hl7847.1 rfl (Nat.le_of_ble_eq_true rfl) dX10_readAny_44 hSH7821 (AE_sub (fun _ _ => rfl) (by decide) hSH7821.1) (fun vH7941 H7941 locsH7941 pH7941 zH7941 kH7941 hSH7941 => ?_)
            obtain ⟨x7942, hvH7941, bx7942, g7943, g7944, g7945, g7946, mf7947, hTH7941⟩ := pH7941
            subst hvH7941
            clear zH7941
            have b7948 : ∀ j : Nat, j < 3000 + mn.toNatClampNeg → fI H7941 oq j = fI s.heap oq j ∧ fI H7941 aq j = fI s.heap aq j := fun j hj => ⟨(fI_kept (x_lt hTH7821 kH7941 goq (by decide))).trans (b7824 j hj).1, (fI_kept (x_lt hTH7821 kH7941 gaq (by decide))).trans (b7824 j hj).2⟩
            have b7949 : WF (fun k => fI H7941 oq k) (fun k => fI H7941 aq k) (3000 + mn.toNatClampNeg) (3000 + x7138.toNatClampNeg) 0 (B + 1 - x7133.toNatClampNeg) := WF.congr (fun j => fI_kept (x_lt hTH7821 kH7941 goq (by decide))) (fun j => fI_kept (x_lt hTH7821 kH7941 gaq (by decide))) b7825
            have b7950 : PQ (fun j => fI H7941 pq j) (x7140.toNatClampNeg) (x7139.toInt) (x7132.toInt) (B) (x7133.toInt) := PQ.congr (fun j => fI_kept (x_lt hTH7821 kH7941 gpq (by decide))) b7826
            have b7951 : PX (fun j => fI H7941 pq j) (x7140.toNatClampNeg) (x7139.toInt) (ms) := PX.congr (fun j => fI_kept (x_lt hTH7821 kH7941 gpq (by decide))) b7827
            have f7952 : ∀ j : Nat, bt j = (fI H7941 tq j).toInt := fun j => (f7832 j).trans (congrArg Int32.toInt (fI_kept (x_lt hTH7821 kH7941 gtq (by decide))).symm)
            have m7953 := (m7833).trans (MF.i mf7947 (k := 19) (by decide) (by decide)).symm
            have m7954 := (m7834).trans (MF.i mf7947 (k := 20) (by decide) (by decide)).symm
            have m7955 := (m7835).trans (MF.i mf7947 (k := 21) (by decide) (by decide)).symm
            have m7956 := (m7836).trans (MF.i mf7947 (k := 22) (by decide) (by decide)).symm
            have m7957 := (m7837).trans (MF.i mf7947 (k := 35) (by decide) (by decide)).symm
            have m7958 := (m7838).trans (MF.i mf7947 (k := 36) (by decide) (by decide)).symm
            have m7959 := (m7839).trans (MF.i mf7947 (k := 38) (by decide) (by decide)).symm
            have m7960 := (m7840).trans (MF.r mf7947 (k := 32) (by decide) (by decide)).symm
            have m7961 := (m7841).trans (MF.r mf7947 (k := 33) (by decide) (by decide)).symm
            have m7962 := (m7842).trans (MF.r mf7947 (k := 37) (by decide) (by decide)).symm
            have m7963 := (m7843).trans (MF.r mf7947 (k := 17) (by decide) (by decide)).symm
            have m7964 := (m7844).trans (MF.i mf7947 (k := 18) (by decide) (by decide)).symm
            have m7965 := (m7845).trans (MF.i mf7947 (k := 34) (by decide) (by decide)).symm
            have mf7966 : MF K s.heap H7941 a0 [19, 20, 21, 22, 35, 36, 38, 39, 40] := MF.trans mf7823 mf7947 (by decide)
            refine W.eq (g2 := F0 m 47 ls7846 [.int x7942]) rfl ?_
            have lx := b7951.2
            exact x_iret C hQ dX10_readAny_47 hSH7941 (by decide) (by decide) (⟨x7942, x7134, x7135, x7136, x7137, x7138, x7139, x7140, rfl, by omega, m7953, m7954, m7955, m7956, m7957, m7958, m7959, Or.inl (by omega), m7960, m7961, m7962, m7963, g7943, g7944, g7945, g7946, mf7966, b7948, Or.inl (by omega), Or.inl ⟨(HD.get hdu9 (by omega)).trans (du_deep (by omega) (Or.inl kw_)), by omega⟩, Or.inl (by omega), hTH7941⟩)
        · have k7849 := i_eq c7848
          have kn_ : kK bt tp.toNatClampNeg cj ≠ 10 := fun e => by have z2 := (TV.wd hcu9.2.2.1).mpr (by omega); have z1 := TV.wv hcu9.2.2.1 z2; omega
          clear hrH7821
          refine lv_aload_n hx hb dX10_readAny_24 rfl (lv_at hl7847 1 rfl) ?_
          refine lv_bipush (v := 40) hx hb dX10_readAny_25 (by decide) ?_
          refine x_V (As := [.int 40]) (rest := []) C (a_X10_isSign_e l K G H7821 (40) (x7136) (x7137) hTH7821 ga0 m7835 m7836) yo_X10_isSign wM_X10_249 ⟨⟨by decide, by decide⟩, by decide, by decide⟩ (x_rv C hTH7821 (ci := 10) rfl ga0 rg_112) rfl hl7847.1 rfl (Nat.le_of_ble_eq_true rfl) dX10_readAny_27 hSH7821 (AE_sub (fun _ _ => rfl) (by decide) hSH7821.1) (fun vH7967 H7967 locsH7967 pH7967 zH7967 kH7967 hSH7967 => ?_)
          obtain ⟨x7968, hvH7967, bx7968, hrH7967, hTH7967⟩ := pH7967
          subst hvH7967
          clear zH7967
          have mf7969 : MF K s.heap H7967 a0 [19, 20, 21, 22, 35, 36, 38, 39, 40] := MF.eff (x_lt hTH7821 kH7967 ga0 (by decide)) mf7823
          have b7970 : ∀ j : Nat, j < 3000 + mn.toNatClampNeg → fI H7967 oq j = fI s.heap oq j ∧ fI H7967 aq j = fI s.heap aq j := fun j hj => ⟨(fI_kept (x_lt hTH7821 kH7967 goq (by decide))).trans (b7824 j hj).1, (fI_kept (x_lt hTH7821 kH7967 gaq (by decide))).trans (b7824 j hj).2⟩
          have b7971 : WF (fun k => fI H7967 oq k) (fun k => fI H7967 aq k) (3000 + mn.toNatClampNeg) (3000 + x7138.toNatClampNeg) 0 (B + 1 - x7133.toNatClampNeg) := WF.congr (fun j => fI_kept (x_lt hTH7821 kH7967 goq (by decide))) (fun j => fI_kept (x_lt hTH7821 kH7967 gaq (by decide))) b7825
          have b7972 : PQ (fun j => fI H7967 pq j) (x7140.toNatClampNeg) (x7139.toInt) (x7132.toInt) (B) (x7133.toInt) := PQ.congr (fun j => fI_kept (x_lt hTH7821 kH7967 gpq (by decide))) b7826
          have b7973 : PX (fun j => fI H7967 pq j) (x7140.toNatClampNeg) (x7139.toInt) (ms) := PX.congr (fun j => fI_kept (x_lt hTH7821 kH7967 gpq (by decide))) b7827
          have g7974 : CG (avw K H7967 a0) := CG.congr (fun k hk j => av_eff hTH7821 kH7967 ga0 (by decide) (CG_eff [] (by decide) k hk)) g7828
          have g7975 : TU (avw K H7967 a0) (svw K H7967 a0) := TU.congr (fun k hk j => av_eff hTH7821 kH7967 ga0 (by decide) (TU_eff [] (by decide) k hk)) (fun k hk => sv_eff hTH7821 kH7967 ga0 (by decide)) g7829
          have g7976 : WD (avw K H7967 a0) := WD.congr (fun k hk j => av_eff hTH7821 kH7967 ga0 (by decide) (WD_eff [] (by decide) k hk)) g7830
          have g7977 : IM (avw K H7967 a0) := IM.congr (fun k hk j => av_eff hTH7821 kH7967 ga0 (by decide) (IM_eff [] (by decide) k hk)) g7831
          have f7978 : ∀ j : Nat, bt j = (fI H7967 tq j).toInt := fun j => (f7832 j).trans (congrArg Int32.toInt (fI_kept (x_lt hTH7821 kH7967 gtq (by decide))).symm)
          have m7979 := (m7833).trans (fI_kept (x_lt hTH7821 kH7967 ga0 (by decide))).symm
          have m7980 := (m7834).trans (fI_kept (x_lt hTH7821 kH7967 ga0 (by decide))).symm
          have m7981 := (m7835).trans (fI_kept (x_lt hTH7821 kH7967 ga0 (by decide))).symm
          have m7982 := (m7836).trans (fI_kept (x_lt hTH7821 kH7967 ga0 (by decide))).symm
          have m7983 := (m7837).trans (fI_kept (x_lt hTH7821 kH7967 ga0 (by decide))).symm
          have m7984 := (m7838).trans (fI_kept (x_lt hTH7821 kH7967 ga0 (by decide))).symm
          have m7985 := (m7839).trans (fI_kept (x_lt hTH7821 kH7967 ga0 (by decide))).symm
          have m7986 := (m7840).trans (fR_kept (x_lt hTH7821 kH7967 ga0 (by decide))).symm
          have m7987 := (m7841).trans (fR_kept (x_lt hTH7821 kH7967 ga0 (by decide))).symm
          have m7988 := (m7842).trans (fR_kept (x_lt hTH7821 kH7967 ga0 (by decide))).symm
          have m7989 := (m7843).trans (fR_kept (x_lt hTH7821 kH7967 ga0 (by decide))).symm
          have m7990 := (m7844).trans (fI_kept (x_lt hTH7821 kH7967 ga0 (by decide))).symm
          have m7991 := (m7845).trans (fI_kept (x_lt hTH7821 kH7967 ga0 (by decide))).symm
          refine W.eq (g2 := F0 m 30 ls7846 [.int x7968]) rfl ?_
          refine lv_if_eq (tgt := 88) hx hb dX10_readAny_30 (by decide) (fun c7992 => ?_) (fun c7992 => ?_)
          · have k7993 := i_eq c7992
            have cl_mn := i_cl (x := mn) (by omega)
            have cl_x7138 := i_cl (x := x7138) (by omega)
            have cl_x7140 := i_cl (x := x7140) (by omega)
            have kb_ : kK bt tp.toNatClampNeg cj ≠ 40 := fun e => by have z_ := (TV.sg (c := 40) hcu9.2.2.1 (by decide)).mpr e; omega
            exact J88  ls7846 H7967 locsH7967 (x7134) (x7135) (x7136) (x7137) (x7138) (x7139) (x7140) (lv_sub hl7847 [1, 2] rfl) hTH7967 hSH7967 ⟨by have := i_rng x7134; omega, by have := i_rng x7134; omega⟩ ⟨by have := i_rng x7135; omega, by have := i_rng x7135; omega⟩ ⟨by have := i_rng x7138; omega, by have := i_rng x7138; omega⟩ ⟨by have := i_rng x7139; omega, by have := i_rng x7139; omega⟩ ⟨by have := i_rng x7140; omega, by have := i_rng x7140; omega⟩ m7979 m7980 m7981 m7982 m7983 m7984 m7985 m7986 m7987 m7988 m7989 m7990 m7991 b7970 (WF.castE b7971 (by omega) (by omega) (by omega)) (PQ.cast b7972 (by omega) (by omega) (by omega) (by omega) (by omega)) (PX.cast b7973 (by omega) (by omega)) mf7969 g7974 g7975 g7976 g7977 f7978 (by and_intros <;> first | assumption | omega) hcu9 kn_ kb_ (HD.get hdu9 (by omega))
          · have k7993 := i_ne c7992
            have kw_ : kK bt tp.toNatClampNeg cj = 40 := (TV.sg (c := 40) hcu9.2.2.1 (by decide)).mp ⟨by omega, by omega⟩
            replace i3 := i3.resolve_left (by omega)
            clear i4
            refine lv_aload_n hx hb dX10_readAny_33 rfl (lv_at hl7847 1 rfl) ?_
            refine x_gi C hTH7967 (ci := 10) (k := 36) rfl inX10 (by decide) wF_X10_261 ga0 rg_112 rfl dX10_readAny_34 (fun x7994 ex7994 bx7994 => ?_)
            have ux7994 : x7139 = x7994 := (m7984).trans ex7994.symm
            subst ux7994
            refine lv_bipush (v := 8) hx hb dX10_readAny_37 (by decide) ?_
            refine lv_icmp_ne (tgt := 48) hx hb dX10_readAny_39 (by decide) (fun c7995 => ?_) (fun c7995 => ?_)
            · have k7996 := i_ne c7995
              refine lv_aload_n hx hb dX10_readAny_48 rfl (lv_at hl7847 1 rfl) ?_
              refine lv_aload_n hx hb dX10_readAny_49 rfl (lv_at hl7847 1 rfl) ?_
              refine x_gi C hTH7967 (ci := 10) (k := 36) rfl inX10 (by decide) wF_X10_261 ga0 rg_112 rfl dX10_readAny_50 (fun x7997 ex7997 bx7997 => ?_)
              have ux7997 : x7139 = x7997 := (m7984).trans ex7997.symm
              subst ux7997
              refine lv_iconst (v := 1) hx hb dX10_readAny_53 (by decide) ?_
              refine lv_iadd hx hb dX10_readAny_54 ?_
              refine lv_topi (fun x7998 ex7998 => ?_)
              have tx7998 := i_add ex7998 (by omega)
              refine x_put C hTH7967 hSH7967 (ci := 10) (k := 36) (v := .int x7998) (ty0 := tyX10) rfl inX10 tyX10_ok nmX10 (by decide) rfl wF_X10_261 ga0 rg_112 rfl rfl (okI (by have := i_rng x7998; omega) (by have := i_rng x7998; omega)) rfl rfl (AE_in ga0 (by decide)) dX10_readAny_55 (fun H7999 locsH7999 hTH7999 hSH7999 wH7999 => ?_)
              have mf8000 : MF K s.heap H7999 a0 [19, 20, 21, 22, 35, 36, 38, 39, 40] := MF.fld hap wH7999 (by decide) (by decide) mf7969
              have g8001 : CG (avw K H7999 a0) := CG.congr (fun k hk j => av_fld hTH7967 ga0 hap wH7999 (by decide) (CG_ok 112 (by decide) k hk) (CG_ne 36 (by decide) k hk)) g7974
              have g8002 : TU (avw K H7999 a0) (svw K H7999 a0) := TU.congr (fun k hk j => av_fld hTH7967 ga0 hap wH7999 (by decide) (TU_ok 112 (by decide) k hk) (TU_ne 36 (by decide) k hk)) (fun k hk => sv_fld hap wH7999 (by decide) (TU_slt k hk) (TU_sne 36 (by decide) k hk)) g7975
              have g8003 : WD (avw K H7999 a0) := WD.congr (fun k hk j => av_fld hTH7967 ga0 hap wH7999 (by decide) (WD_ok 112 (by decide) k hk) (WD_ne 36 (by decide) k hk)) g7976
              have g8004 : IM (avw K H7999 a0) := IM.congr (fun k hk j => av_fld hTH7967 ga0 hap wH7999 (by decide) (IM_ok 112 (by decide) k hk) (IM_ne 36 (by decide) k hk)) g7977
              have b8005 : ∀ j : Nat, j < 3000 + mn.toNatClampNeg → fI H7999 oq j = fI s.heap oq j ∧ fI H7999 aq j = fI s.heap aq j := fun j hj => ⟨(Wr.neI wH7999 (Or.inl (G_ne goq ga0 (by decide)))).trans (b7970 j hj).1, (Wr.neI wH7999 (Or.inl (G_ne gaq ga0 (by decide)))).trans (b7970 j hj).2⟩
              have b8006 : WF (fun k => fI H7999 oq k) (fun k => fI H7999 aq k) (3000 + mn.toNatClampNeg) (3000 + x7138.toNatClampNeg) 0 (B + 1 - x7133.toNatClampNeg) := WF.congr (fun j => Wr.neI wH7999 (Or.inl (G_ne goq ga0 (by decide)))) (fun j => Wr.neI wH7999 (Or.inl (G_ne gaq ga0 (by decide)))) b7971
              have b8007 : PQ (fun j => fI H7999 pq j) (x7140.toNatClampNeg) (x7139.toInt) (x7132.toInt) (B) (x7133.toInt) := PQ.congr (fun j => Wr.neI wH7999 (Or.inl (G_ne gpq ga0 (by decide)))) b7972
              have b8008 : PX (fun j => fI H7999 pq j) (x7140.toNatClampNeg) (x7139.toInt) (ms) := PX.congr (fun j => Wr.neI wH7999 (Or.inl (G_ne gpq ga0 (by decide)))) b7973
              have f8009 : ∀ j : Nat, bt j = (fI H7999 tq j).toInt := fun j => (f7978 j).trans (congrArg Int32.toInt (Wr.neI wH7999 (Or.inl (G_ne gtq ga0 (by decide)))).symm)
              have m8010 := m7979.trans (Wr.neI wH7999 (Or.inr (x_apart hKT hts inX10 tyX10 tyX10_ok nmX10 rfl 19 36 (by decide) (by decide) (by decide)))).symm
              have m8011 := m7980.trans (Wr.neI wH7999 (Or.inr (x_apart hKT hts inX10 tyX10 tyX10_ok nmX10 rfl 20 36 (by decide) (by decide) (by decide)))).symm
              have m8012 := m7981.trans (Wr.neI wH7999 (Or.inr (x_apart hKT hts inX10 tyX10 tyX10_ok nmX10 rfl 21 36 (by decide) (by decide) (by decide)))).symm
              have m8013 := m7982.trans (Wr.neI wH7999 (Or.inr (x_apart hKT hts inX10 tyX10 tyX10_ok nmX10 rfl 22 36 (by decide) (by decide) (by decide)))).symm
              have m8014 := m7983.trans (Wr.neI wH7999 (Or.inr (x_apart hKT hts inX10 tyX10 tyX10_ok nmX10 rfl 35 36 (by decide) (by decide) (by decide)))).symm
              have m8016 := m7985.trans (Wr.neI wH7999 (Or.inr (x_apart hKT hts inX10 tyX10 tyX10_ok nmX10 rfl 38 36 (by decide) (by decide) (by decide)))).symm
              have m8017 := m7986.trans (Wr.neR wH7999 (Or.inr (x_apart hKT hts inX10 tyX10 tyX10_ok nmX10 rfl 32 36 (by decide) (by decide) (by decide)))).symm
              have m8018 := m7987.trans (Wr.neR wH7999 (Or.inr (x_apart hKT hts inX10 tyX10 tyX10_ok nmX10 rfl 33 36 (by decide) (by decide) (by decide)))).symm
              have m8019 := m7988.trans (Wr.neR wH7999 (Or.inr (x_apart hKT hts inX10 tyX10 tyX10_ok nmX10 rfl 37 36 (by decide) (by decide) (by decide)))).symm
              have m8020 := m7989.trans (Wr.neR wH7999 (Or.inr (x_apart hKT hts inX10 tyX10 tyX10_ok nmX10 rfl 17 36 (by decide) (by decide) (by decide)))).symm
              have m8021 := m7990.trans (Wr.neI wH7999 (Or.inr (x_apart hKT hts inX10 tyX10 tyX10_ok nmX10 rfl 18 36 (by decide) (by decide) (by decide)))).symm
              have m8022 := m7991.trans (Wr.neI wH7999 (Or.inr (x_apart hKT hts inX10 tyX10 tyX10_ok nmX10 rfl 34 36 (by decide) (by decide) (by decide)))).symm
              have m8023 := Wr.I wH7999
              have m8023 := m8023.symm
              refine lv_iload_n hx hb dX10_readAny_58 rfl (lv_at hl7847 0 rfl) ?_
              refine lv_if_ne (tgt := 66) hx hb dX10_readAny_59 (by decide) (fun c8024 => ?_) (fun c8024 => ?_)
              · have k8025 := i_ne c8024
                exfalso
                omega
              · have k8025 := i_eq c8024
                refine lv_iload_n hx hb dX10_readAny_62 rfl (lv_at hl7847 2 rfl) ?_
                refine lv_iconst (v := 1) hx hb dX10_readAny_63 (by decide) ?_
                refine lv_iadd hx hb dX10_readAny_64 ?_
                refine lv_topi (fun x8026 ex8026 => ?_)
                have tx8026 := i_add ex8026 (by omega)
                refine lv_istore_n (lv' := [(1, .int x8026), (3, .int x7822), (0, .ref a0), (2, .int x7133)]) hx hb dX10_readAny_65 rfl hl7847 (by decide) rfl (fun ls8027 hl8028 => ?_)
                refine lv_aload_n hx hb dX10_readAny_66 rfl (lv_at hl8028 2 rfl) ?_
                refine lv_iload_n hx hb dX10_readAny_67 rfl (lv_at hl8028 1 rfl) ?_
                refine lv_if_eq (tgt := 76) hx hb dX10_readAny_68 (by decide) (fun c8029 => ?_) (fun c8029 => ?_)
                · have k8030 := i_eq c8029
                  refine lv_bipush (v := 12) hx hb dX10_readAny_76 (by decide) ?_
                  have cc_x7140 := i_cl (x := x7140) (by omega)
                  have cc_x7138 := i_cl (x := x7138) (by omega)
                  have pqc : PQ (fun j => fI H7999 pq j) (x7140.toNatClampNeg) (x7139.toInt) (x7132.toInt) (B) (x7133.toInt) := PQ.cast b8007 (by omega) (by omega) rfl rfl rfl
                  have hcb := pqc.2.2.2.1
                  have hco := pqc.2.1
                  have hck := pqc.2.2.1
                  have h26 := PD.n26 pqc.1 (by omega)
                  have pxc8031 : PX (fun j => fI H7999 pq j) (x7140.toNatClampNeg) (x7139.toInt) (ms) := PX.cast b8008 (by omega) (by omega)
                  refine x_V (As := [.int 12]) (rest := []) C (a_X10_waits l K G H7999 (12) (x7140) hTH7999 ga0 gpq m8019 m8016 g8001 g8002 g8003 g8004 (by and_intros <;> first | assumption | omega)) yo_X10_waits wM_X10_267 ⟨⟨by decide, by decide⟩, by decide, by decide⟩ (x_rv C hTH7999 (ci := 10) rfl ga0 rg_112) rfl hl8028.1 rfl (Nat.le_of_ble_eq_true rfl) dX10_readAny_78 hSH7999 (AE_sub (fun _ _ => rfl) (by decide) hSH7999.1) (fun vH8032 H8032 locsH8032 pH8032 zH8032 kH8032 hSH8032 => ?_)
                  obtain ⟨x8033, hvH8032, ex8033, hrH8032, m8034, g8035, g8036, g8037, g8038, mf8039, m8040, m8041, hTH8032⟩ := pH8032
                  subst hvH8032
                  clear zH8032
                  replace m8034 := EQN.mk m8034
                  have b8042 : ∀ j : Nat, j < 3000 + mn.toNatClampNeg → fI H8032 oq j = fI s.heap oq j ∧ fI H8032 aq j = fI s.heap aq j := fun j hj => ⟨(fI_kept (x_lt hTH7999 kH8032 goq (by decide))).trans (b8005 j hj).1, (fI_kept (x_lt hTH7999 kH8032 gaq (by decide))).trans (b8005 j hj).2⟩
                  have b8043 : WF (fun k => fI H8032 oq k) (fun k => fI H8032 aq k) (3000 + mn.toNatClampNeg) (3000 + x7138.toNatClampNeg) 0 (B + 1 - x7133.toNatClampNeg) := WF.congr (fun j => fI_kept (x_lt hTH7999 kH8032 goq (by decide))) (fun j => fI_kept (x_lt hTH7999 kH8032 gaq (by decide))) b8006
                  have f8044 : ∀ j : Nat, bt j = (fI H8032 tq j).toInt := fun j => (f8009 j).trans (congrArg Int32.toInt (fI_kept (x_lt hTH7999 kH8032 gtq (by decide))).symm)
                  have m8045 := (m8010).trans (MF.i mf8039 (k := 19) (by decide) (by decide)).symm
                  have m8046 := (m8011).trans (MF.i mf8039 (k := 20) (by decide) (by decide)).symm
                  have m8047 := (m8012).trans (MF.i mf8039 (k := 21) (by decide) (by decide)).symm
                  have m8048 := (m8013).trans (MF.i mf8039 (k := 22) (by decide) (by decide)).symm
                  have m8049 := (m8014).trans (MF.i mf8039 (k := 35) (by decide) (by decide)).symm
                  have m8050 := (m8017).trans (MF.r mf8039 (k := 32) (by decide) (by decide)).symm
                  have m8051 := (m8018).trans (MF.r mf8039 (k := 33) (by decide) (by decide)).symm
                  have m8052 := (m8019).trans (MF.r mf8039 (k := 37) (by decide) (by decide)).symm
                  have m8053 := (m8020).trans (MF.r mf8039 (k := 17) (by decide) (by decide)).symm
                  have m8054 := (m8021).trans (MF.i mf8039 (k := 18) (by decide) (by decide)).symm
                  have m8055 := (m8022).trans (MF.i mf8039 (k := 34) (by decide) (by decide)).symm
                  have m8056 := (m8023).trans (MF.i mf8039 (k := 36) (by decide) (by decide)).symm
                  have mf8057 : MF K s.heap H8032 a0 [19, 20, 21, 22, 35, 36, 38, 39, 40] := MF.trans mf8000 mf8039 (by decide)
                  have bx8033 := ty_fi (x := x8033) (k := 38) ex8033 hTH8032 ga0 rg_112 rfl
                  refine W.eq (g2 := F0 m 81 ls8027 []) rfl ?_
                  have cc_x8033 := i_cl (x := x8033) (by omega)
                  have hwx := congrArg Int32.toInt m8040
                  have pqn : PQ (fun j => fI H8032 pq j) (x8033.toNatClampNeg) (x7139.toInt + 1) (x7132.toInt + 1) (B) (1) := PQ.push (v := 12) pqc (by show (fI _ pq _).toInt = 12; rw [← m8040]; rfl) m8041 (by omega) (Or.inr (Or.inl ⟨rfl, rfl, rfl, rfl⟩))
                  have pxn : PX (fun j => fI H8032 pq j) (x8033.toNatClampNeg) (x7139.toInt + 1) ((true :: ms)) := PX.push (v := 12) pxc8031 (by show (fI _ pq _).toInt = 12; rw [← m8040]; rfl) m8041 (by omega) (Or.inr (Or.inl ⟨rfl, rfl, rfl⟩))
                  have hkl := cK_le (f := fun j => fI H8032 pq j) (x8033.toNatClampNeg)
                  have hkc := pqn.2.2.1
                  have hkd := pqn.2.1
                  refine lv_aload_n hx hb dX10_readAny_81 rfl (lv_at hl8028 2 rfl) ?_
                  refine x_V (As := []) (rest := []) C (a_X10_reads_e l K G H8032 (x7134) (x7135) (x7136) (x7137) (tp) bt hTH8032 ga0 gtq m8053 m8045 m8046 m8047 m8048 m8054 g8035 g8036 g8037 g8038 (by and_intros <;> first | assumption | omega) (hy1) f8044) yo_X10_reads wM_X10_242 ⟨⟨by decide, by decide⟩, by decide, by decide⟩ (x_rv C hTH8032 (ci := 10) rfl ga0 rg_112) rfl hl8028.1 rfl (Nat.le_of_ble_eq_true rfl) dX10_readAny_82 hSH8032 (AE_sub (fun _ _ => rfl) (by decide) hSH8032.1) (fun vH8058 H8058 locsH8058 pH8058 zH8058 kH8058 hSH8058 => ?_)
                  obtain ⟨x8059, x8060, x8061, x8062, hvH8058, ex8059, ex8060, ex8061, ex8062, hrH8058, m8063, g8064, g8065, g8066, g8067, mf8068, m8069, m8070, m8071, hTH8058⟩ := pH8058
                  subst hvH8058
                  clear zH8058
                  replace m8063 := EQN.mk m8063
                  have b8072 : ∀ j : Nat, j < 3000 + mn.toNatClampNeg → fI H8058 oq j = fI s.heap oq j ∧ fI H8058 aq j = fI s.heap aq j := fun j hj => ⟨(fI_kept (x_lt hTH8032 kH8058 goq (by decide))).trans (b8042 j hj).1, (fI_kept (x_lt hTH8032 kH8058 gaq (by decide))).trans (b8042 j hj).2⟩
                  have b8073 : WF (fun k => fI H8058 oq k) (fun k => fI H8058 aq k) (3000 + mn.toNatClampNeg) (3000 + x7138.toNatClampNeg) 0 (B + 1 - x7133.toNatClampNeg) := WF.congr (fun j => fI_kept (x_lt hTH8032 kH8058 goq (by decide))) (fun j => fI_kept (x_lt hTH8032 kH8058 gaq (by decide))) b8043
                  have b8074 : PQ (fun j => fI H8058 pq j) (x8033.toNatClampNeg) (x7139.toInt + 1) (x7132.toInt + 1) (B) (1) := PQ.congr (fun j => fI_kept (x_lt hTH8032 kH8058 gpq (by decide))) pqn
                  have b8075 : PX (fun j => fI H8058 pq j) (x8033.toNatClampNeg) (x7139.toInt + 1) ((true :: ms)) := PX.congr (fun j => fI_kept (x_lt hTH8032 kH8058 gpq (by decide))) pxn
                  have f8076 : ∀ j : Nat, bt j = (fI H8058 tq j).toInt := fun j => (f8044 j).trans (congrArg Int32.toInt (fI_kept (x_lt hTH8032 kH8058 gtq (by decide))).symm)
                  have m8077 := (m8049).trans (MF.i mf8068 (k := 35) (by decide) (by decide)).symm
                  have m8078 := (m8050).trans (MF.r mf8068 (k := 32) (by decide) (by decide)).symm
                  have m8079 := (m8051).trans (MF.r mf8068 (k := 33) (by decide) (by decide)).symm
                  have m8080 := (m8034).trans (MF.r mf8068 (k := 37) (by decide) (by decide)).symm
                  have m8081 := (m8053).trans (MF.r mf8068 (k := 17) (by decide) (by decide)).symm
                  have m8082 := (m8054).trans (MF.i mf8068 (k := 18) (by decide) (by decide)).symm
                  have m8083 := (m8055).trans (MF.i mf8068 (k := 34) (by decide) (by decide)).symm
                  have m8084 := (m8056).trans (MF.i mf8068 (k := 36) (by decide) (by decide)).symm
                  have m8085 := (ex8033).trans (MF.i mf8068 (k := 38) (by decide) (by decide)).symm
                  have mf8086 : MF K s.heap H8058 a0 [19, 20, 21, 22, 35, 36, 38, 39, 40] := MF.trans mf8057 mf8068 (by decide)
                  have bx8059 := ty_fi (x := x8059) (k := 19) ex8059 hTH8058 ga0 rg_112 rfl
                  have bx8060 := ty_fi (x := x8060) (k := 20) ex8060 hTH8058 ga0 rg_112 rfl
                  have bx8061 := ty_fi (x := x8061) (k := 21) ex8061 hTH8058 ga0 rg_112 rfl
                  have bx8062 := ty_fi (x := x8062) (k := 22) ex8062 hTH8058 ga0 rg_112 rfl
                  have cn_x8060 := i_cl (x := x8060) (by omega)
                  have cn_x7135 := i_cl (x := x7135) (by omega)
                  have cu8087 : CU bt tp.toNatClampNeg (cj + 1) x8060 x8059 x8061 x8062 := CU.next hcu9 m8069 m8070 m8071 (by omega)
                  obtain ⟨r1H8058, r2H8058, r3H8058, r4H8058, r5H8058⟩ := hrH8058
                  refine W.eq (g2 := F0 m 85 ls8027 []) rfl ?_
                  refine lv_goto (tgt := 9) hx hb dX10_readAny_85 (by decide) ?_
                  have cl_mn := i_cl (x := mn) (by omega)
                  have hpb := b8074.2.2.2.1
                  have lx := pxc8031.2
                  exact ih9 (B) (cj + 1) (true :: ms) ls8027 H8058 locsH8058 (x8026) (x7133) (x8059) (x8060) (x8061) (x8062) (x7138) (x7998) (x8033) (lv_sub hl8028 [2, 0, 3] rfl) hTH8058 hSH8058 ⟨by have := i_rng x8026; omega, by have := i_rng x8026; omega⟩ ⟨by have := i_rng x7133; omega, by have := i_rng x7133; omega⟩ ⟨by have := i_rng x8059; omega, by have := i_rng x8059; omega⟩ ⟨by have := i_rng x8060; omega, by have := i_rng x8060; omega⟩ ⟨by have := i_rng x7138; omega, by have := i_rng x7138; omega⟩ ⟨by have := i_rng x7998; omega, by have := i_rng x7998; omega⟩ ⟨by have := i_rng x8033; omega, by have := i_rng x8033; omega⟩ ex8059 ex8060 ex8061 ex8062 m8077 m8084 m8085 m8078 m8079 m8080 m8063 m8082 m8083 b8072 (WF.castE b8073 (by omega) (by omega) (by omega)) (PQ.cast b8074 (by omega) (by omega) (by omega) (by omega) (by omega)) (PX.cast b8075 (by omega) (by omega)) mf8086 g8064 g8065 g8066 g8067 f8076 (by omega) (by and_intros <;> first | assumption | omega) cu8087 (HD.mk (fun _ => ((HD.get hdu9 (by omega)).trans (du_br (by omega) kw_)))) (HD.mk (fun h => by exfalso; omega))
                · have k8030 := i_ne c8029
                  exfalso
                  omega
            · have k7996 := i_eq c7995
              refine lv_aload_n hx hb dX10_readAny_42 rfl (lv_at hl7847 1 rfl) ?_
              refine lv_iconst (v := 3) hx hb dX10_readAny_43 (by decide) ?_
              refine x_V (As := [.int 3]) (rest := []) C (a_X10_fails l K G H7967 (3) hTH7967 ga0 g7974 g7975 g7976 g7977) yo_X10_fails wM_X10_235 ⟨⟨by decide, by decide⟩, by decide, by decide⟩ (x_rv C hTH7967 (ci := 10) rfl ga0 rg_112) rfl hl7847.1 rfl (Nat.le_of_ble_eq_true rfl) dX10_readAny_44 hSH7967 (AE_sub (fun _ _ => rfl) (by decide) hSH7967.1) (fun vH8088 H8088 locsH8088 pH8088 zH8088 kH8088 hSH8088 => ?_)
              obtain ⟨x8089, hvH8088, bx8089, g8090, g8091, g8092, g8093, mf8094, hTH8088⟩ := pH8088
              subst hvH8088
              clear zH8088
              have b8095 : ∀ j : Nat, j < 3000 + mn.toNatClampNeg → fI H8088 oq j = fI s.heap oq j ∧ fI H8088 aq j = fI s.heap aq j := fun j hj => ⟨(fI_kept (x_lt hTH7967 kH8088 goq (by decide))).trans (b7970 j hj).1, (fI_kept (x_lt hTH7967 kH8088 gaq (by decide))).trans (b7970 j hj).2⟩
              have b8096 : WF (fun k => fI H8088 oq k) (fun k => fI H8088 aq k) (3000 + mn.toNatClampNeg) (3000 + x7138.toNatClampNeg) 0 (B + 1 - x7133.toNatClampNeg) := WF.congr (fun j => fI_kept (x_lt hTH7967 kH8088 goq (by decide))) (fun j => fI_kept (x_lt hTH7967 kH8088 gaq (by decide))) b7971
              have b8097 : PQ (fun j => fI H8088 pq j) (x7140.toNatClampNeg) (x7139.toInt) (x7132.toInt) (B) (x7133.toInt) := PQ.congr (fun j => fI_kept (x_lt hTH7967 kH8088 gpq (by decide))) b7972
              have b8098 : PX (fun j => fI H8088 pq j) (x7140.toNatClampNeg) (x7139.toInt) (ms) := PX.congr (fun j => fI_kept (x_lt hTH7967 kH8088 gpq (by decide))) b7973
              have f8099 : ∀ j : Nat, bt j = (fI H8088 tq j).toInt := fun j => (f7978 j).trans (congrArg Int32.toInt (fI_kept (x_lt hTH7967 kH8088 gtq (by decide))).symm)
              have m8100 := (m7979).trans (MF.i mf8094 (k := 19) (by decide) (by decide)).symm
              have m8101 := (m7980).trans (MF.i mf8094 (k := 20) (by decide) (by decide)).symm
              have m8102 := (m7981).trans (MF.i mf8094 (k := 21) (by decide) (by decide)).symm
              have m8103 := (m7982).trans (MF.i mf8094 (k := 22) (by decide) (by decide)).symm
              have m8104 := (m7983).trans (MF.i mf8094 (k := 35) (by decide) (by decide)).symm
              have m8105 := (m7984).trans (MF.i mf8094 (k := 36) (by decide) (by decide)).symm
              have m8106 := (m7985).trans (MF.i mf8094 (k := 38) (by decide) (by decide)).symm
              have m8107 := (m7986).trans (MF.r mf8094 (k := 32) (by decide) (by decide)).symm
              have m8108 := (m7987).trans (MF.r mf8094 (k := 33) (by decide) (by decide)).symm
              have m8109 := (m7988).trans (MF.r mf8094 (k := 37) (by decide) (by decide)).symm
              have m8110 := (m7989).trans (MF.r mf8094 (k := 17) (by decide) (by decide)).symm
              have m8111 := (m7990).trans (MF.i mf8094 (k := 18) (by decide) (by decide)).symm
              have m8112 := (m7991).trans (MF.i mf8094 (k := 34) (by decide) (by decide)).symm
              have mf8113 : MF K s.heap H8088 a0 [19, 20, 21, 22, 35, 36, 38, 39, 40] := MF.trans mf7969 mf8094 (by decide)
              refine W.eq (g2 := F0 m 47 ls7846 [.int x8089]) rfl ?_
              have lx := b8098.2
              exact x_iret C hQ dX10_readAny_47 hSH8088 (by decide) (by decide) (⟨x8089, x7134, x7135, x7136, x7137, x7138, x7139, x7140, rfl, by omega, m8100, m8101, m8102, m8103, m8104, m8105, m8106, Or.inl (by omega), m8107, m8108, m8109, m8110, g8090, g8091, g8092, g8093, mf8113, b8095, Or.inl (by omega), Or.inl ⟨(HD.get hdu9 (by omega)).trans (du_deep (by omega) (Or.inr kw_)), by omega⟩, Or.inl (by omega), hTH8088⟩)
  have pf00 : ∀ j : Nat, j < 3000 + mn.toNatClampNeg → fI s.heap oq j = fI s.heap oq j ∧ fI s.heap aq j = fI s.heap aq j := fun _ _ => ⟨rfl, rfl⟩
  have hmn := i_cl (x := mn) (by omega)
  refine lv_iconst (v := 0) hx hb dX10_readAny_0 (by decide) ?_
  refine lv_istore_n (lv' := [(1, .int 0), (0, .ref a0)]) hx hb dX10_readAny_1 rfl hl (by decide) rfl (fun ls8114 hl8115 => ?_)
  refine lv_aload_n hx hb dX10_readAny_2 rfl (lv_at hl8115 1 rfl) ?_
  refine lv_iconst (v := 0) hx hb dX10_readAny_3 (by decide) ?_
  refine x_put C hT hS (ci := 10) (k := 38) (v := .int 0) (ty0 := tyX10) rfl inX10 tyX10_ok nmX10 (by decide) rfl wF_X10_258 ga0 rg_112 rfl rfl (okI (by have := i_rng (0 : Int32); omega) (by have := i_rng (0 : Int32); omega)) rfl rfl (AE_in ga0 (by decide)) dX10_readAny_4 (fun H8116 locsH8116 hTH8116 hSH8116 wH8116 => ?_)
  have mf8117 : MF K s.heap H8116 a0 [19, 20, 21, 22, 35, 36, 38, 39, 40] := MF.fld hap wH8116 (by decide) (by decide) mf0
  have g8118 : CG (avw K H8116 a0) := CG.congr (fun k hk j => av_fld hT ga0 hap wH8116 (by decide) (CG_ok 112 (by decide) k hk) (CG_ne 38 (by decide) k hk)) hg_CG
  have g8119 : TU (avw K H8116 a0) (svw K H8116 a0) := TU.congr (fun k hk j => av_fld hT ga0 hap wH8116 (by decide) (TU_ok 112 (by decide) k hk) (TU_ne 38 (by decide) k hk)) (fun k hk => sv_fld hap wH8116 (by decide) (TU_slt k hk) (TU_sne 38 (by decide) k hk)) hg_TU
  have g8120 : WD (avw K H8116 a0) := WD.congr (fun k hk j => av_fld hT ga0 hap wH8116 (by decide) (WD_ok 112 (by decide) k hk) (WD_ne 38 (by decide) k hk)) hg_WD
  have g8121 : IM (avw K H8116 a0) := IM.congr (fun k hk j => av_fld hT ga0 hap wH8116 (by decide) (IM_ok 112 (by decide) k hk) (IM_ne 38 (by decide) k hk)) hg_IM
  have b8122 : ∀ j : Nat, j < 3000 + mn.toNatClampNeg → fI H8116 oq j = fI s.heap oq j ∧ fI H8116 aq j = fI s.heap aq j := fun j hj => ⟨(Wr.neI wH8116 (Or.inl (G_ne goq ga0 (by decide)))).trans (pf00 j hj).1, (Wr.neI wH8116 (Or.inl (G_ne gaq ga0 (by decide)))).trans (pf00 j hj).2⟩
  have f8123 : ∀ j : Nat, bt j = (fI H8116 tq j).toInt := fun j => (f0_bt j).trans (congrArg Int32.toInt (Wr.neI wH8116 (Or.inl (G_ne gtq ga0 (by decide)))).symm)
  have m8124 := eoq.trans (Wr.neR wH8116 (Or.inr (x_apart hKT hts inX10 tyX10 tyX10_ok nmX10 rfl 32 38 (by decide) (by decide) (by decide)))).symm
  have m8125 := eaq.trans (Wr.neR wH8116 (Or.inr (x_apart hKT hts inX10 tyX10 tyX10_ok nmX10 rfl 33 38 (by decide) (by decide) (by decide)))).symm
  have m8126 := epq.trans (Wr.neR wH8116 (Or.inr (x_apart hKT hts inX10 tyX10 tyX10_ok nmX10 rfl 37 38 (by decide) (by decide) (by decide)))).symm
  have m8127 := etq.trans (Wr.neR wH8116 (Or.inr (x_apart hKT hts inX10 tyX10 tyX10_ok nmX10 rfl 17 38 (by decide) (by decide) (by decide)))).symm
  have m8128 := esp.trans (Wr.neI wH8116 (Or.inr (x_apart hKT hts inX10 tyX10 tyX10_ok nmX10 rfl 19 38 (by decide) (by decide) (by decide)))).symm
  have m8129 := efr.trans (Wr.neI wH8116 (Or.inr (x_apart hKT hts inX10 tyX10 tyX10_ok nmX10 rfl 20 38 (by decide) (by decide) (by decide)))).symm
  have m8130 := etk.trans (Wr.neI wH8116 (Or.inr (x_apart hKT hts inX10 tyX10 tyX10_ok nmX10 rfl 21 38 (by decide) (by decide) (by decide)))).symm
  have m8131 := evl.trans (Wr.neI wH8116 (Or.inr (x_apart hKT hts inX10 tyX10 tyX10_ok nmX10 rfl 22 38 (by decide) (by decide) (by decide)))).symm
  have m8132 := emn.trans (Wr.neI wH8116 (Or.inr (x_apart hKT hts inX10 tyX10 tyX10_ok nmX10 rfl 35 38 (by decide) (by decide) (by decide)))).symm
  have m8133 := eon.trans (Wr.neI wH8116 (Or.inr (x_apart hKT hts inX10 tyX10 tyX10_ok nmX10 rfl 36 38 (by decide) (by decide) (by decide)))).symm
  have m8135 := etp.trans (Wr.neI wH8116 (Or.inr (x_apart hKT hts inX10 tyX10 tyX10_ok nmX10 rfl 18 38 (by decide) (by decide) (by decide)))).symm
  have m8136 := ejb.trans (Wr.neI wH8116 (Or.inr (x_apart hKT hts inX10 tyX10 tyX10_ok nmX10 rfl 34 38 (by decide) (by decide) (by decide)))).symm
  have m8137 := Wr.I wH8116
  have pqz : PQ (fun j => fI H8116 pq j) 0 (on.toInt) 0 0 1 := ⟨PD.nil, by show ((0 : Nat) : Int) ≤ _; omega, rfl, rfl, Or.inl rfl⟩
  have wfz : WF (fun k => fI H8116 oq k) (fun k => fI H8116 aq k) (3000 + mn.toNatClampNeg) (3000 + mn.toNatClampNeg) 0 0 := WF.nil
  have px00 : PX (fun j => fI H8116 pq j) (0) (on.toInt) ([]) := PX.nil (by omega)
  refine lv_iconst (v := 1) hx hb dX10_readAny_7 (by decide) ?_
  refine lv_istore_n (lv' := [(2, .int 1), (1, .int 0), (0, .ref a0)]) hx hb dX10_readAny_8 rfl hl8115 (by decide) rfl (fun ls8138 hl8139 => ?_)
  have cl_1 := i_cl (x := (1 : Int32)) (by omega)
  have ca_k0 : (0 : Int32).toNatClampNeg = 0 := rfl
  have ca_k1 : (1 : Int32).toNatClampNeg = 1 := rfl
  have hpb := pqz.2.2.2.1
  exact J9 ((500 - fr.toInt).toNat + 1) (0) ci [] ls8138 H8116 locsH8116 (0) (1) (sp) (fr) (tk) (vl) (mn) (on) (0) (lv_sub hl8139 [2, 1, 0] rfl) hTH8116 hSH8116 (by decide) (by decide) ⟨by have := i_rng sp; omega, by have := i_rng sp; omega⟩ ⟨by have := i_rng fr; omega, by have := i_rng fr; omega⟩ ⟨by have := i_rng mn; omega, by have := i_rng mn; omega⟩ ⟨by have := i_rng on; omega, by have := i_rng on; omega⟩ (by decide) m8128 m8129 m8130 m8131 m8132 m8133 (m8137).symm m8124 m8125 m8126 m8127 m8135 m8136 b8122 (WF.castE wfz (by omega) (by omega) (by omega)) (PQ.cast pqz (by omega) (by omega) (by omega) (by omega) (by omega)) (PX.cast px00 (by omega) (by omega)) mf8117 g8118 g8119 g8120 g8121 f8123 (by omega) (by and_intros <;> first | assumption | omega) hy0 (HD.mk (fun _ => du_0)) (HD.mk (fun h => by exfalso; omega))
