/-- the draft's lines: a from, b sum, c to -/
def LNW (a b c f g : Nat → Int32) (l : Nat) (m m1 : Int) : Prop := (a l).toInt = m ∧ m ≤ (b l).toInt ∧ (b l).toInt ≤ m1 ∧ (c l).toInt = m1 ∧ (∃ E, WF f g (3000 + (a l).toNatClampNeg) (3000 + (b l).toNatClampNeg) 0 E) ∧ ∃ E, WF f g (3000 + (b l).toNatClampNeg) (3000 + (c l).toNatClampNeg) 0 E
theorem LNW.mk {a b c f g : Nat → Int32} {l : Nat} {m m1 : Int} {x y z : Int32} {E F : Nat} (h9 : x = a l) (h0 : y = b l) (h1 : z = c l) (hm : x.toInt = m) (hy : m ≤ y.toInt) (hy1 : y.toInt ≤ m1) (hz : z.toInt = m1) (w : WF f g (3000 + x.toNatClampNeg) (3000 + y.toNatClampNeg) 0 E) (w1 : WF f g (3000 + y.toNatClampNeg) (3000 + z.toNatClampNeg) 0 F) : LNW a b c f g l m m1 := by
  subst h9 h0 h1
  exact ⟨hm, hy, hy1, hz, ⟨E, w⟩, F, w1⟩
def DL (a b c f g : Nat → Int32) (n : Nat) (m : Int) : Prop := ∀ i : Nat, i < n → 0 ≤ (a (96 + i)).toInt ∧ (a (96 + i)).toInt ≤ (b (96 + i)).toInt ∧ (b (96 + i)).toInt ≤ (c (96 + i)).toInt ∧ (c (96 + i)).toInt ≤ m ∧ (∃ E, WF f g (3000 + (a (96 + i)).toNatClampNeg) (3000 + (b (96 + i)).toNatClampNeg) 0 E) ∧ ∃ E, WF f g (3000 + (b (96 + i)).toNatClampNeg) (3000 + (c (96 + i)).toNatClampNeg) 0 E
theorem DL.nil {a b c f g : Nat → Int32} {n : Nat} {m : Int} (hn : n = 0) : DL a b c f g n m := fun i hi => by omega
theorem DL.cast {a b c f g : Nat → Int32} {n n' : Nat} {m m' : Int} (h : DL a b c f g n m) (hn : n' = n) (hm : m' = m) : DL a b c f g n' m' := by rw [hn, hm]; exact h
theorem DL.congr {a b c f g a1 b1 c1 f1 g1 : Nat → Int32} {n : Nat} {m : Int} (ha : ∀ j, a1 j = a j) (hb : ∀ j, b1 j = b j) (hc : ∀ j, c1 j = c j) (hf : ∀ j, f1 j = f j) (hg : ∀ j, g1 j = g j) (h : DL a b c f g n m) : DL a1 b1 c1 f1 g1 n m := by
  rw [show a1 = a from funext ha, show b1 = b from funext hb, show c1 = c from funext hc, show f1 = f from funext hf, show g1 = g from funext hg]
  exact h
theorem DL.push {a b c f g a1 b1 c1 f1 g1 : Nat → Int32} {n l M : Nat} {m m1 : Int} (h : DL a b c f g n m) (hl : l = 96 + n) (hM : (M : Int) = m) (ha : ∀ j, j ≠ l → a1 j = a j) (hb : ∀ j, j ≠ l → b1 j = b j) (hc : ∀ j, j ≠ l → c1 j = c j) (hf : ∀ j, j < 3000 + M → f1 j = f j ∧ g1 j = g j) (hL : LNW a1 b1 c1 f1 g1 l m m1) : DL a1 b1 c1 f1 g1 (n + 1) m1 := by
  have cl : ∀ (y : Int32) (N : Nat), y.toInt ≤ (N : Int) → y.toNatClampNeg ≤ N := fun y N hy => by show y.toInt.toNat ≤ N; omega
  obtain ⟨k1, k2, k3, k4, k5, k6⟩ := hL
  intro i hi
  by_cases e : i = n
  · subst e
    rw [← hl]
    exact ⟨by omega, by omega, by omega, by omega, k5, k6⟩
  · obtain ⟨q1, q2, q3, q4, ⟨E, q5⟩, F, q6⟩ := h i (by omega)
    rw [ha (96 + i) (by omega), hb (96 + i) (by omega), hc (96 + i) (by omega)]
    have c1 := cl (b (96 + i)) M (by omega)
    have c2 := cl (c (96 + i)) M (by omega)
    exact ⟨q1, q2, q3, by omega, ⟨E, q5.keep (fun j hj => (hf j (by omega)).1) (fun j hj => (hf j (by omega)).2)⟩, F, q6.keep (fun j hj => (hf j (by omega)).1) (fun j hj => (hf j (by omega)).2)⟩
theorem CG.putL {K : KE} {G : Nat → Option Nat} {H H1 : Heap} {b q i t : Nat} {x : Int32} (hT : TY K G H) (gb : G b = some 112) (w : Wr H H1 q i (.int x)) (gq : G q = some t) (ht : t = 133 ∨ t = 134 ∨ t = 135) (hi : 96 ≤ i) (h : CG (avw K H b)) : CG (avw K H1 b) := by
  have h112 : 112 ≠ t := by omega
  have ek : ∀ k ∈ ([24, 32, 33] : List Nat), ∀ j, avw K H1 b k j = avw K H b k j := by
    intro k hk j
    refine av_arr hT gb w gq h112 ?_
    rcases ht with rfl | rfl | rfl
    · exact List.all_eq_true.mp (show ([24, 32, 33] : List Nat).all (fun k => arOk k 133) = true by decide) k hk
    · exact List.all_eq_true.mp (show ([24, 32, 33] : List Nat).all (fun k => arOk k 134) = true by decide) k hk
    · exact List.all_eq_true.mp (show ([24, 32, 33] : List Nat).all (fun k => arOk k 135) = true by decide) k hk
  have el : ∀ k j, j < 96 → avw K H1 b k j = avw K H b k j := by
    intro k j hj
    unfold avw
    rw [Wr.neR w (Or.inl (G_ne gb gq h112))]
    exact Wr.neI w (Or.inr (by omega))
  intro row l h1 h2 h3
  have e32 : avw K H1 b 32 = avw K H b 32 := funext (ek 32 (by decide))
  have e33 : avw K H1 b 33 = avw K H b 33 := funext (ek 33 (by decide))
  rw [ek 24 (by decide)] at h3
  rw [el 29 _ (by omega), el 30 _ (by omega), el 31 _ (by omega), e32, e33]
  exact h row l h1 h2 h3
set_option maxHeartbeats 4000000 in
set_option maxRecDepth 100000 in
theorem a_X10_readLine (l : Launch) (K : KE) (G : Nat → Option Nat) (H : Heap) {a0 : Nat} (x1 : Int32) {oq : Nat} {aq : Nat} {f9 : Nat} {f0 : Nat} {f1 : Nat} (sp : Int32) (fr : Int32) (tk : Int32) (vl : Int32) (mn : Int32) (tp : Int32) (jb : Int32) (hT : TY K G H) (ga0 : G a0 = some 112) (hx1 : 96 ≤ x1.toInt ∧ x1.toInt ≤ 111) (goq : G oq = some 136) (eoq : oq = fR H a0 (K.1.2 10 32)) (gaq : G aq = some 137) (eaq : aq = fR H a0 (K.1.2 10 33)) (gf9 : G f9 = some 133) (ef9 : f9 = fR H a0 (K.1.2 10 29)) (gf0 : G f0 = some 134) (ef0 : f0 = fR H a0 (K.1.2 10 30)) (gf1 : G f1 = some 135) (ef1 : f1 = fR H a0 (K.1.2 10 31)) (esp : sp = fI H a0 (K.1.2 10 19)) (efr : fr = fI H a0 (K.1.2 10 20)) (etk : tk = fI H a0 (K.1.2 10 21)) (evl : vl = fI H a0 (K.1.2 10 22)) (emn : mn = fI H a0 (K.1.2 10 35)) (etp : tp = fI H a0 (K.1.2 10 18)) (ejb : jb = fI H a0 (K.1.2 10 34)) (hg_CG : CG (avw K H a0)) (hg_TU : TU (avw K H a0) (svw K H a0)) (hg_WD : WD (avw K H a0)) (hg_IM : IM (avw K H a0)) (hp0 : (sp.toInt ≤ tp.toInt ∧ fr.toInt ≤ sp.toInt ∧ (tk.toInt = 0 ∨ fr.toInt < sp.toInt) ∧ (tk.toInt ≠ 2 ∨ (0 ≤ vl.toInt ∧ vl.toInt ≤ 23)))) (hp1 : mn.toInt ≤ fr.toInt) (hp2 : tk.toInt = 2) : MX l K yX10_readLine cX10_readLine 3 (some .int) 8 172 0 0 [.ref a0, .int x1] H (AE G [112, 136, 137, 138, 129, 130, 131, 132, 133, 134, 135] H.size) (fun v H1 => ∃ (r : Int32) (t0 : Int32) (t1 : Int32) (t2 : Int32) (t3 : Int32) (t4 : Int32), v = some (.int r) ∧ ((-1) ≤ r.toInt ∧ r.toInt ≤ 0) ∧ t0 = fI H1 a0 (K.1.2 10 19) ∧ t1 = fI H1 a0 (K.1.2 10 20) ∧ t2 = fI H1 a0 (K.1.2 10 21) ∧ t3 = fI H1 a0 (K.1.2 10 22) ∧ t4 = fI H1 a0 (K.1.2 10 35) ∧ (r.toInt = -1 ∨ (r.toInt = 0 ∧ (t0.toInt ≤ tp.toInt ∧ t1.toInt ≤ t0.toInt ∧ (t2.toInt = 0 ∨ t1.toInt < t0.toInt) ∧ (t2.toInt ≠ 2 ∨ (0 ≤ t3.toInt ∧ t3.toInt ≤ 23))) ∧ t4.toInt + fr.toInt ≤ mn.toInt + t1.toInt ∧ mn.toInt ≤ t4.toInt ∧ fr.toInt < t1.toInt)) ∧ oq = fR H1 a0 (K.1.2 10 32) ∧ aq = fR H1 a0 (K.1.2 10 33) ∧ f9 = fR H1 a0 (K.1.2 10 29) ∧ f0 = fR H1 a0 (K.1.2 10 30) ∧ f1 = fR H1 a0 (K.1.2 10 31) ∧ (CG (avw K H1 a0)) ∧ (TU (avw K H1 a0) (svw K H1 a0)) ∧ (WD (avw K H1 a0)) ∧ (IM (avw K H1 a0)) ∧ MF K H H1 a0 [19, 20, 21, 22, 35, 36, 38, 39, 40] ∧ (∀ j : Nat, j < 3000 + mn.toNatClampNeg → fI H1 oq j = fI H oq j ∧ fI H1 aq j = fI H aq j) ∧ (∀ j : Nat, j ≠ x1.toNatClampNeg → fI H1 f9 j = fI H f9 j) ∧ (∀ j : Nat, j ≠ x1.toNatClampNeg → fI H1 f0 j = fI H f0 j) ∧ (∀ j : Nat, j ≠ x1.toNatClampNeg → fI H1 f1 j = fI H f1 j) ∧ (r.toInt = -1 ∨ LNW (fun k => fI H1 f9 k) (fun k => fI H1 f0 k) (fun k => fI H1 f1 k) (fun k => fI H1 oq k) (fun k => fI H1 aq k) x1.toNatClampNeg mn.toInt t4.toInt) ∧ TY K G H1) := by
  refine MX.of (by decide +kernel) (Nat.le_of_ble_eq_true rfl) ?_
  intro p e s m below meth c ls Q C hH hl hQ
  subst hH
  have C : CX p K s m _ meth c RX10 cX10_readLine 3 (some .int) "readLine" := C
  obtain ⟨hx, hb, hml, hown, hts, hKT, hr, hlocks, hnm⟩ := id C
  have hl : lv_has ls 3 [(0, .ref a0), (1, .int x1)] := hl
  have hS : va_S (AE G [112, 136, 137, 138, 129, 130, 131, 132, 133, 134, 135] s.heap.size) s.heap s.heap [] := va_S.rf
  have n_m1 : ((-1) : Int32).toInt = -1 := rfl
  have n_0 : (0 : Int32).toInt = 0 := rfl
  have n_1 : (1 : Int32).toInt = 1 := rfl
  have n_6 : (6 : Int32).toInt = 6 := rfl
  have n_59 : (59 : Int32).toInt = 59 := rfl
  have bsp := ty_fi (x := sp) (k := 19) esp hT ga0 rg_112 rfl
  have bfr := ty_fi (x := fr) (k := 20) efr hT ga0 rg_112 rfl
  have btk := ty_fi (x := tk) (k := 21) etk hT ga0 rg_112 rfl
  have bvl := ty_fi (x := vl) (k := 22) evl hT ga0 rg_112 rfl
  have bmn := ty_fi (x := mn) (k := 35) emn hT ga0 rg_112 rfl
  have btp := ty_fi (x := tp) (k := 18) etp hT ga0 rg_112 rfl
  have bjb := ty_fi (x := jb) (k := 34) ejb hT ga0 rg_112 rfl
  have hap : ∀ x y, x < 74 → y < 74 → x ≠ y → K.1.2 10 x ≠ K.1.2 10 y := x_apart hKT hts inX10 tyX10 tyX10_ok nmX10 rfl
  have mf0 : MF K s.heap s.heap a0 [19, 20, 21, 22, 35, 36, 38, 39, 40] := fun _ _ _ => rfl
  replace eoq := EQN.mk eoq
  replace eaq := EQN.mk eaq
  replace ef9 := EQN.mk ef9
  replace ef0 := EQN.mk ef0
  replace ef1 := EQN.mk ef1
  have f0_u9 : ∀ j : Nat, j ≠ x1.toNatClampNeg → fI s.heap f9 j = fI s.heap f9 j := fun _ _ => rfl
  have f0_u0 : ∀ j : Nat, j ≠ x1.toNatClampNeg → fI s.heap f0 j = fI s.heap f0 j := fun _ _ => rfl
  have f0_u1 : ∀ j : Nat, j ≠ x1.toNatClampNeg → fI s.heap f1 j = fI s.heap f1 j := fun _ _ => rfl
  have pf00 : ∀ j : Nat, j < 3000 + mn.toNatClampNeg → fI s.heap oq j = fI s.heap oq j ∧ fI s.heap aq j = fI s.heap aq j := fun _ _ => ⟨rfl, rfl⟩
  have hmn := i_cl (x := mn) (by omega)
  obtain ⟨j1, j2, j3, j4⟩ := hp0
  replace j3 := j3.resolve_left (by omega)
  replace j4 := j4.resolve_left (by omega)
  refine lv_aload_n hx hb dX10_readLine_0 rfl (lv_at hl 0 rfl) ?_
  refine x_gi C hT (ci := 10) (k := 22) rfl inX10 (by decide) wF_X10_205 ga0 rg_112 rfl dX10_readLine_1 (fun x3661 ex3661 bx3661 => ?_)
  have ux3661 : vl = x3661 := (evl).trans ex3661.symm
  subst ux3661
  refine lv_istore_n (lv' := [(2, .int vl), (0, .ref a0), (1, .int x1)]) hx hb dX10_readLine_4 rfl hl (by decide) rfl (fun ls3662 hl3663 => ?_)
  refine lv_aload_n hx hb dX10_readLine_5 rfl (lv_at hl3663 1 rfl) ?_
  refine x_gr C hT (ci := 10) (k := 25) rfl inX10 (by decide) wF_X10_62 ga0 rg_112 rfl dX10_readLine_6 (fun q3664 eq3664 gq3664 => ?_)
  replace eq3664 := EQN.mk eq3664
  refine lv_iload_n hx hb dX10_readLine_9 rfl (lv_at hl3663 2 rfl) ?_
  refine lv_iload_n hx hb dX10_readLine_10 rfl (lv_at hl3663 0 rfl) ?_
  refine x_iast C hT hS gq3664 rg_129 (by omega) (by show _ < ((112 : Nat) : Int); omega) ⟨by have := i_rng vl; omega, by have := i_rng vl; omega⟩ (AE_in gq3664 (by decide)) dX10_readLine_11 (fun H3665 locsH3665 hTH3665 hSH3665 wH3665 => ?_)
  have mf3666 : MF K s.heap H3665 a0 [19, 20, 21, 22, 35, 36, 38, 39, 40] := MF.arr wH3665 (G_ne ga0 gq3664 (by decide)) mf0
  have g3667 : CG (avw K H3665 a0) := CG.congr (fun k hk j => av_arr hT ga0 wH3665 gq3664 (by decide) (CG_ok 129 (by decide) k hk)) hg_CG
  have g3668 : TU (avw K H3665 a0) (svw K H3665 a0) := TU.congr (fun k hk j => av_arr hT ga0 wH3665 gq3664 (by decide) (TU_ok 129 (by decide) k hk)) (fun k hk => sv_arr ga0 wH3665 gq3664 (by decide)) hg_TU
  have g3669 : WD (avw K H3665 a0) := WD.congr (fun k hk j => av_arr hT ga0 wH3665 gq3664 (by decide) (WD_ok 129 (by decide) k hk)) hg_WD
  have g3670 : IM (avw K H3665 a0) := IM.congr (fun k hk j => av_arr hT ga0 wH3665 gq3664 (by decide) (IM_ok 129 (by decide) k hk)) hg_IM
  have b3671 : ∀ j : Nat, j < 3000 + mn.toNatClampNeg → fI H3665 oq j = fI s.heap oq j ∧ fI H3665 aq j = fI s.heap aq j := fun j hj => ⟨(Wr.neI wH3665 (Or.inl (G_ne goq gq3664 (by decide)))).trans (pf00 j hj).1, (Wr.neI wH3665 (Or.inl (G_ne gaq gq3664 (by decide)))).trans (pf00 j hj).2⟩
  have f3672 : ∀ j : Nat, j ≠ x1.toNatClampNeg → fI H3665 f9 j = fI s.heap f9 j := fun j hj => (Wr.neI wH3665 (Or.inl (G_ne gf9 gq3664 (by decide)))).trans (f0_u9 j hj)
  have f3673 : ∀ j : Nat, j ≠ x1.toNatClampNeg → fI H3665 f0 j = fI s.heap f0 j := fun j hj => (Wr.neI wH3665 (Or.inl (G_ne gf0 gq3664 (by decide)))).trans (f0_u0 j hj)
  have f3674 : ∀ j : Nat, j ≠ x1.toNatClampNeg → fI H3665 f1 j = fI s.heap f1 j := fun j hj => (Wr.neI wH3665 (Or.inl (G_ne gf1 gq3664 (by decide)))).trans (f0_u1 j hj)
  have m3675 := eoq.trans (Wr.neR wH3665 (Or.inl (G_ne ga0 gq3664 (by decide)))).symm
  have m3676 := eaq.trans (Wr.neR wH3665 (Or.inl (G_ne ga0 gq3664 (by decide)))).symm
  have m3677 := ef9.trans (Wr.neR wH3665 (Or.inl (G_ne ga0 gq3664 (by decide)))).symm
  have m3678 := ef0.trans (Wr.neR wH3665 (Or.inl (G_ne ga0 gq3664 (by decide)))).symm
  have m3679 := ef1.trans (Wr.neR wH3665 (Or.inl (G_ne ga0 gq3664 (by decide)))).symm
  have m3680 := esp.trans (Wr.neI wH3665 (Or.inl (G_ne ga0 gq3664 (by decide)))).symm
  have m3681 := efr.trans (Wr.neI wH3665 (Or.inl (G_ne ga0 gq3664 (by decide)))).symm
  have m3682 := etk.trans (Wr.neI wH3665 (Or.inl (G_ne ga0 gq3664 (by decide)))).symm
  have m3683 := evl.trans (Wr.neI wH3665 (Or.inl (G_ne ga0 gq3664 (by decide)))).symm
  have m3684 := emn.trans (Wr.neI wH3665 (Or.inl (G_ne ga0 gq3664 (by decide)))).symm
  have m3685 := etp.trans (Wr.neI wH3665 (Or.inl (G_ne ga0 gq3664 (by decide)))).symm
  have m3686 := ejb.trans (Wr.neI wH3665 (Or.inl (G_ne ga0 gq3664 (by decide)))).symm
  have m3687 := eq3664.trans (Wr.neR wH3665 (Or.inl (G_ne ga0 gq3664 (by decide)))).symm
  have m3688 := Wr.I wH3665
  have m3688 := m3688.symm
  refine lv_aload_n hx hb dX10_readLine_12 rfl (lv_at hl3663 1 rfl) ?_
  obtain ⟨q3689, eq3689⟩ : ∃ z : Nat, EQN z (fR H3665 a0 (K.1.2 10 17)) := ⟨_, rfl⟩
  have gq3689 := ty_fr (q := q3689) (k := 17) (u := 126) eq3689 hTH3665 ga0 rg_112 rfl
  replace eq3689 := EQN.mk eq3689
  refine x_V (As := []) (rest := []) C (a_X10_reads l K G H3665 (sp) (fr) (tk) (vl) (tp) hTH3665 ga0 gq3689 eq3689 m3680 m3681 m3682 m3683 m3685 g3667 g3668 g3669 g3670 (by and_intros <;> first | assumption | omega)) yo_X10_reads wM_X10_242 ⟨⟨by decide, by decide⟩, by decide, by decide⟩ (x_rv C hTH3665 (ci := 10) rfl ga0 rg_112) rfl hl3663.1 rfl (Nat.le_of_ble_eq_true rfl) dX10_readLine_13 hSH3665 (AE_sub (fun _ _ => rfl) (by decide) hSH3665.1) (fun vH3690 H3690 locsH3690 pH3690 zH3690 kH3690 hSH3690 => ?_)
  obtain ⟨x3691, x3692, x3693, x3694, hvH3690, ex3691, ex3692, ex3693, ex3694, hrH3690, m3695, g3696, g3697, g3698, g3699, mf3700, hTH3690⟩ := pH3690
  subst hvH3690
  clear zH3690
  replace m3695 := EQN.mk m3695
  have b3701 : ∀ j : Nat, j < 3000 + mn.toNatClampNeg → fI H3690 oq j = fI s.heap oq j ∧ fI H3690 aq j = fI s.heap aq j := fun j hj => ⟨(fI_kept (x_lt hTH3665 kH3690 goq (by decide))).trans (b3671 j hj).1, (fI_kept (x_lt hTH3665 kH3690 gaq (by decide))).trans (b3671 j hj).2⟩
  have f3702 : ∀ j : Nat, j ≠ x1.toNatClampNeg → fI H3690 f9 j = fI s.heap f9 j := fun j hj => (fI_kept (x_lt hTH3665 kH3690 gf9 (by decide))).trans (f3672 j hj)
  have f3703 : ∀ j : Nat, j ≠ x1.toNatClampNeg → fI H3690 f0 j = fI s.heap f0 j := fun j hj => (fI_kept (x_lt hTH3665 kH3690 gf0 (by decide))).trans (f3673 j hj)
  have f3704 : ∀ j : Nat, j ≠ x1.toNatClampNeg → fI H3690 f1 j = fI s.heap f1 j := fun j hj => (fI_kept (x_lt hTH3665 kH3690 gf1 (by decide))).trans (f3674 j hj)
  have m3705 := (m3688).trans (fI_kept (x_lt hTH3665 kH3690 gq3664 (by decide))).symm
  have m3706 := (m3675).trans (MF.r mf3700 (k := 32) (by decide) (by decide)).symm
  have m3707 := (m3676).trans (MF.r mf3700 (k := 33) (by decide) (by decide)).symm
  have m3708 := (m3677).trans (MF.r mf3700 (k := 29) (by decide) (by decide)).symm
  have m3709 := (m3678).trans (MF.r mf3700 (k := 30) (by decide) (by decide)).symm
  have m3710 := (m3679).trans (MF.r mf3700 (k := 31) (by decide) (by decide)).symm
  have m3711 := (m3684).trans (MF.i mf3700 (k := 35) (by decide) (by decide)).symm
  have m3712 := (m3685).trans (MF.i mf3700 (k := 18) (by decide) (by decide)).symm
  have m3713 := (m3686).trans (MF.i mf3700 (k := 34) (by decide) (by decide)).symm
  have m3714 := (m3687).trans (MF.r mf3700 (k := 25) (by decide) (by decide)).symm
  have m3715 := (eq3689).trans (MF.r mf3700 (k := 17) (by decide) (by decide)).symm
  have mf3716 : MF K s.heap H3690 a0 [19, 20, 21, 22, 35, 36, 38, 39, 40] := MF.trans mf3666 mf3700 (by decide)
  have bx3691 := ty_fi (x := x3691) (k := 19) ex3691 hTH3690 ga0 rg_112 rfl
  have bx3692 := ty_fi (x := x3692) (k := 20) ex3692 hTH3690 ga0 rg_112 rfl
  have bx3693 := ty_fi (x := x3693) (k := 21) ex3693 hTH3690 ga0 rg_112 rfl
  have bx3694 := ty_fi (x := x3694) (k := 22) ex3694 hTH3690 ga0 rg_112 rfl
  obtain ⟨r1H3690, r2H3690, r3H3690, r4H3690, r5H3690, r6H3690, r7H3690⟩ := hrH3690
  refine W.eq (g2 := F0 m 16 ls3662 []) rfl ?_
  refine lv_aload_n hx hb dX10_readLine_16 rfl (lv_at hl3663 1 rfl) ?_
  refine lv_iload_n hx hb dX10_readLine_17 rfl (lv_at hl3663 2 rfl) ?_
  refine lv_iload_n hx hb dX10_readLine_18 rfl (lv_at hl3663 0 rfl) ?_
  refine x_V (As := [.int x1, .int vl]) (rest := []) C (a_X10_readNumbers l K G H3690 (x1) (vl) (x3691) (x3692) (x3693) (x3694) (tp) hTH3690 ga0 (by omega) gq3689 m3695 ex3691 ex3692 ex3693 ex3694 m3712 g3696 g3697 g3698 g3699 (by and_intros <;> first | assumption | omega)) yo_X10_readNumbers wM_X10_279 ⟨⟨by decide, by decide⟩, by decide, by decide⟩ (x_rv C hTH3690 (ci := 10) rfl ga0 rg_112) rfl hl3663.1 rfl (Nat.le_of_ble_eq_true rfl) dX10_readLine_19 hSH3690 (AE_sub (fun _ _ => rfl) (by decide) hSH3690.1) (fun vH3717 H3717 locsH3717 pH3717 zH3717 kH3717 hSH3717 => ?_)
  obtain ⟨x3718, x3719, x3720, x3721, x3722, hvH3717, ex3719, ex3720, ex3721, ex3722, hrH3717, m3723, g3724, g3725, g3726, g3727, mf3728, hTH3717⟩ := pH3717
  subst hvH3717
  clear zH3717
  replace m3723 := EQN.mk m3723
  have b3729 : ∀ j : Nat, j < 3000 + mn.toNatClampNeg → fI H3717 oq j = fI s.heap oq j ∧ fI H3717 aq j = fI s.heap aq j := fun j hj => ⟨(fI_kept (x_lt hTH3690 kH3717 goq (by decide))).trans (b3701 j hj).1, (fI_kept (x_lt hTH3690 kH3717 gaq (by decide))).trans (b3701 j hj).2⟩
  have f3730 : ∀ j : Nat, j ≠ x1.toNatClampNeg → fI H3717 f9 j = fI s.heap f9 j := fun j hj => (fI_kept (x_lt hTH3690 kH3717 gf9 (by decide))).trans (f3702 j hj)
  have f3731 : ∀ j : Nat, j ≠ x1.toNatClampNeg → fI H3717 f0 j = fI s.heap f0 j := fun j hj => (fI_kept (x_lt hTH3690 kH3717 gf0 (by decide))).trans (f3703 j hj)
  have f3732 : ∀ j : Nat, j ≠ x1.toNatClampNeg → fI H3717 f1 j = fI s.heap f1 j := fun j hj => (fI_kept (x_lt hTH3690 kH3717 gf1 (by decide))).trans (f3704 j hj)
  have m3733 := (m3705).trans (fI_kept (x_lt hTH3690 kH3717 gq3664 (by decide))).symm
  have m3734 := (m3706).trans (MF.r mf3728 (k := 32) (by decide) (by decide)).symm
  have m3735 := (m3707).trans (MF.r mf3728 (k := 33) (by decide) (by decide)).symm
  have m3736 := (m3708).trans (MF.r mf3728 (k := 29) (by decide) (by decide)).symm
  have m3737 := (m3709).trans (MF.r mf3728 (k := 30) (by decide) (by decide)).symm
  have m3738 := (m3710).trans (MF.r mf3728 (k := 31) (by decide) (by decide)).symm
  have m3739 := (m3711).trans (MF.i mf3728 (k := 35) (by decide) (by decide)).symm
  have m3740 := (m3712).trans (MF.i mf3728 (k := 18) (by decide) (by decide)).symm
  have m3741 := (m3713).trans (MF.i mf3728 (k := 34) (by decide) (by decide)).symm
  have m3742 := (m3714).trans (MF.r mf3728 (k := 25) (by decide) (by decide)).symm
  have m3743 := (m3695).trans (MF.r mf3728 (k := 17) (by decide) (by decide)).symm
  have mf3744 : MF K s.heap H3717 a0 [19, 20, 21, 22, 35, 36, 38, 39, 40] := MF.trans mf3716 mf3728 (by decide)
  have bx3719 := ty_fi (x := x3719) (k := 19) ex3719 hTH3717 ga0 rg_112 rfl
  have bx3720 := ty_fi (x := x3720) (k := 20) ex3720 hTH3717 ga0 rg_112 rfl
  have bx3721 := ty_fi (x := x3721) (k := 21) ex3721 hTH3717 ga0 rg_112 rfl
  have bx3722 := ty_fi (x := x3722) (k := 22) ex3722 hTH3717 ga0 rg_112 rfl
  refine W.eq (g2 := F0 m 22 ls3662 [.int x3718]) rfl ?_
  refine lv_iconst (v := (-1)) hx hb dX10_readLine_22 (by decide) ?_
  refine lv_icmp_ne (tgt := 28) hx hb dX10_readLine_23 (by decide) (fun c3745 => ?_) (fun c3745 => ?_)
  · have k3746 := i_ne c3745
    replace hrH3717 := hrH3717.resolve_left (by omega)
    obtain ⟨⟨z1H3717, z2H3717, z3H3717, z4H3717⟩, y1H3717⟩ := hrH3717
    clear r4H3690 r5H3690
    refine lv_aload_n hx hb dX10_readLine_28 rfl (lv_at hl3663 1 rfl) ?_
    refine x_gr C hTH3717 (ci := 10) (k := 29) rfl inX10 (by decide) wF_X10_74 ga0 rg_112 rfl dX10_readLine_29 (fun q3747 eq3747 gq3747 => ?_)
    have uq3747 : f9 = q3747 := (m3736).trans eq3747.symm
    subst uq3747
    clear eq3747
    refine lv_iload_n hx hb dX10_readLine_32 rfl (lv_at hl3663 2 rfl) ?_
    refine lv_aload_n hx hb dX10_readLine_33 rfl (lv_at hl3663 1 rfl) ?_
    refine x_gi C hTH3717 (ci := 10) (k := 35) rfl inX10 (by decide) wF_X10_228 ga0 rg_112 rfl dX10_readLine_34 (fun x3748 ex3748 bx3748 => ?_)
    have ux3748 : mn = x3748 := (m3739).trans ex3748.symm
    subst ux3748
    refine x_iast C hTH3717 hSH3717 gf9 rg_133 (by omega) (by show _ < ((112 : Nat) : Int); omega) ⟨by have := i_rng mn; omega, by have := i_rng mn; omega⟩ (AE_in gf9 (by decide)) dX10_readLine_37 (fun H3749 locsH3749 hTH3749 hSH3749 wH3749 => ?_)
    have mf3750 : MF K s.heap H3749 a0 [19, 20, 21, 22, 35, 36, 38, 39, 40] := MF.arr wH3749 (G_ne ga0 gf9 (by decide)) mf3744
    have ciH3749 := i_cl (x := x1) (by omega)
    have g3751 : CG (avw K H3749 a0) := CG.putL hTH3717 ga0 wH3749 gf9 (by decide) (by omega) g3724
    have g3752 : TU (avw K H3749 a0) (svw K H3749 a0) := TU.congr (fun k hk j => av_arr hTH3717 ga0 wH3749 gf9 (by decide) (TU_ok 133 (by decide) k hk)) (fun k hk => sv_arr ga0 wH3749 gf9 (by decide)) g3725
    have g3753 : WD (avw K H3749 a0) := WD.congr (fun k hk j => av_arr hTH3717 ga0 wH3749 gf9 (by decide) (WD_ok 133 (by decide) k hk)) g3726
    have g3754 : IM (avw K H3749 a0) := IM.congr (fun k hk j => av_arr hTH3717 ga0 wH3749 gf9 (by decide) (IM_ok 133 (by decide) k hk)) g3727
    have b3755 : ∀ j : Nat, j < 3000 + mn.toNatClampNeg → fI H3749 oq j = fI s.heap oq j ∧ fI H3749 aq j = fI s.heap aq j := fun j hj => ⟨(Wr.neI wH3749 (Or.inl (G_ne goq gf9 (by decide)))).trans (b3729 j hj).1, (Wr.neI wH3749 (Or.inl (G_ne gaq gf9 (by decide)))).trans (b3729 j hj).2⟩
    have f3756 : ∀ j : Nat, j ≠ x1.toNatClampNeg → fI H3749 f9 j = fI s.heap f9 j := fun j hj => (Wr.neI wH3749 (Or.inr hj)).trans (f3730 j hj)
    have f3757 : ∀ j : Nat, j ≠ x1.toNatClampNeg → fI H3749 f0 j = fI s.heap f0 j := fun j hj => (Wr.neI wH3749 (Or.inl (G_ne gf0 gf9 (by decide)))).trans (f3731 j hj)
    have f3758 : ∀ j : Nat, j ≠ x1.toNatClampNeg → fI H3749 f1 j = fI s.heap f1 j := fun j hj => (Wr.neI wH3749 (Or.inl (G_ne gf1 gf9 (by decide)))).trans (f3732 j hj)
    have m3759 := m3733.trans (Wr.neI wH3749 (Or.inl (G_ne gq3664 gf9 (by decide)))).symm
    have m3760 := m3734.trans (Wr.neR wH3749 (Or.inl (G_ne ga0 gf9 (by decide)))).symm
    have m3761 := m3735.trans (Wr.neR wH3749 (Or.inl (G_ne ga0 gf9 (by decide)))).symm
    have m3762 := m3736.trans (Wr.neR wH3749 (Or.inl (G_ne ga0 gf9 (by decide)))).symm
    have m3763 := m3737.trans (Wr.neR wH3749 (Or.inl (G_ne ga0 gf9 (by decide)))).symm
    have m3764 := m3738.trans (Wr.neR wH3749 (Or.inl (G_ne ga0 gf9 (by decide)))).symm
    have m3765 := m3739.trans (Wr.neI wH3749 (Or.inl (G_ne ga0 gf9 (by decide)))).symm
    have m3766 := m3740.trans (Wr.neI wH3749 (Or.inl (G_ne ga0 gf9 (by decide)))).symm
    have m3767 := m3741.trans (Wr.neI wH3749 (Or.inl (G_ne ga0 gf9 (by decide)))).symm
    have m3768 := m3742.trans (Wr.neR wH3749 (Or.inl (G_ne ga0 gf9 (by decide)))).symm
    have m3769 := m3723.trans (Wr.neR wH3749 (Or.inl (G_ne ga0 gf9 (by decide)))).symm
    have m3770 := ex3719.trans (Wr.neI wH3749 (Or.inl (G_ne ga0 gf9 (by decide)))).symm
    have m3771 := ex3720.trans (Wr.neI wH3749 (Or.inl (G_ne ga0 gf9 (by decide)))).symm
    have m3772 := ex3721.trans (Wr.neI wH3749 (Or.inl (G_ne ga0 gf9 (by decide)))).symm
    have m3773 := ex3722.trans (Wr.neI wH3749 (Or.inl (G_ne ga0 gf9 (by decide)))).symm
    have m3774 := Wr.I wH3749
    have m3774 := m3774.symm
    refine lv_aload_n hx hb dX10_readLine_38 rfl (lv_at hl3663 1 rfl) ?_
    refine x_gi C hTH3749 (ci := 10) (k := 34) rfl inX10 (by decide) wF_X10_231 ga0 rg_112 rfl dX10_readLine_39 (fun x3775 ex3775 bx3775 => ?_)
    have ux3775 : jb = x3775 := (m3767).trans ex3775.symm
    subst ux3775
    refine lv_if_ne (tgt := 55) hx hb dX10_readLine_42 (by decide) (fun c3776 => ?_) (fun c3776 => ?_)
    · have k3777 := i_ne c3776
      have ws0 : WF (fun k => fI H3749 oq k) (fun k => fI H3749 aq k) (3000 + mn.toNatClampNeg) (3000 + mn.toNatClampNeg) 0 0 := WF.nil
      refine lv_aload_n hx hb dX10_readLine_55 rfl (lv_at hl3663 1 rfl) ?_
      refine x_gr C hTH3749 (ci := 10) (k := 30) rfl inX10 (by decide) wF_X10_77 ga0 rg_112 rfl dX10_readLine_56 (fun q3778 eq3778 gq3778 => ?_)
      have uq3778 : f0 = q3778 := (m3763).trans eq3778.symm
      subst uq3778
      clear eq3778
      refine lv_iload_n hx hb dX10_readLine_59 rfl (lv_at hl3663 2 rfl) ?_
      refine lv_aload_n hx hb dX10_readLine_60 rfl (lv_at hl3663 1 rfl) ?_
      refine x_gi C hTH3749 (ci := 10) (k := 35) rfl inX10 (by decide) wF_X10_228 ga0 rg_112 rfl dX10_readLine_61 (fun x3779 ex3779 bx3779 => ?_)
      have ux3779 : mn = x3779 := (m3765).trans ex3779.symm
      subst ux3779
      refine x_iast C hTH3749 hSH3749 gf0 rg_134 (by omega) (by show _ < ((112 : Nat) : Int); omega) ⟨by have := i_rng mn; omega, by have := i_rng mn; omega⟩ (AE_in gf0 (by decide)) dX10_readLine_64 (fun H3780 locsH3780 hTH3780 hSH3780 wH3780 => ?_)
      have mf3781 : MF K s.heap H3780 a0 [19, 20, 21, 22, 35, 36, 38, 39, 40] := MF.arr wH3780 (G_ne ga0 gf0 (by decide)) mf3750
      have g3782 : CG (avw K H3780 a0) := CG.putL hTH3749 ga0 wH3780 gf0 (by decide) (by omega) g3751
      have g3783 : TU (avw K H3780 a0) (svw K H3780 a0) := TU.congr (fun k hk j => av_arr hTH3749 ga0 wH3780 gf0 (by decide) (TU_ok 134 (by decide) k hk)) (fun k hk => sv_arr ga0 wH3780 gf0 (by decide)) g3752
      have g3784 : WD (avw K H3780 a0) := WD.congr (fun k hk j => av_arr hTH3749 ga0 wH3780 gf0 (by decide) (WD_ok 134 (by decide) k hk)) g3753
      have g3785 : IM (avw K H3780 a0) := IM.congr (fun k hk j => av_arr hTH3749 ga0 wH3780 gf0 (by decide) (IM_ok 134 (by decide) k hk)) g3754
      have b3786 : ∀ j : Nat, j < 3000 + mn.toNatClampNeg → fI H3780 oq j = fI s.heap oq j ∧ fI H3780 aq j = fI s.heap aq j := fun j hj => ⟨(Wr.neI wH3780 (Or.inl (G_ne goq gf0 (by decide)))).trans (b3755 j hj).1, (Wr.neI wH3780 (Or.inl (G_ne gaq gf0 (by decide)))).trans (b3755 j hj).2⟩
      have b3787 : WF (fun k => fI H3780 oq k) (fun k => fI H3780 aq k) (3000 + mn.toNatClampNeg) (3000 + mn.toNatClampNeg) 0 0 := WF.congr (fun j => Wr.neI wH3780 (Or.inl (G_ne goq gf0 (by decide)))) (fun j => Wr.neI wH3780 (Or.inl (G_ne gaq gf0 (by decide)))) ws0
      have f3788 : ∀ j : Nat, j ≠ x1.toNatClampNeg → fI H3780 f9 j = fI s.heap f9 j := fun j hj => (Wr.neI wH3780 (Or.inl (G_ne gf9 gf0 (by decide)))).trans (f3756 j hj)
      have f3789 : ∀ j : Nat, j ≠ x1.toNatClampNeg → fI H3780 f0 j = fI s.heap f0 j := fun j hj => (Wr.neI wH3780 (Or.inr hj)).trans (f3757 j hj)
      have f3790 : ∀ j : Nat, j ≠ x1.toNatClampNeg → fI H3780 f1 j = fI s.heap f1 j := fun j hj => (Wr.neI wH3780 (Or.inl (G_ne gf1 gf0 (by decide)))).trans (f3758 j hj)
      have m3791 := m3759.trans (Wr.neI wH3780 (Or.inl (G_ne gq3664 gf0 (by decide)))).symm
      have m3792 := m3760.trans (Wr.neR wH3780 (Or.inl (G_ne ga0 gf0 (by decide)))).symm
      have m3793 := m3761.trans (Wr.neR wH3780 (Or.inl (G_ne ga0 gf0 (by decide)))).symm
      have m3794 := m3762.trans (Wr.neR wH3780 (Or.inl (G_ne ga0 gf0 (by decide)))).symm
      have m3795 := m3763.trans (Wr.neR wH3780 (Or.inl (G_ne ga0 gf0 (by decide)))).symm
      have m3796 := m3764.trans (Wr.neR wH3780 (Or.inl (G_ne ga0 gf0 (by decide)))).symm
      have m3797 := m3765.trans (Wr.neI wH3780 (Or.inl (G_ne ga0 gf0 (by decide)))).symm
      have m3798 := m3766.trans (Wr.neI wH3780 (Or.inl (G_ne ga0 gf0 (by decide)))).symm
      have m3799 := m3767.trans (Wr.neI wH3780 (Or.inl (G_ne ga0 gf0 (by decide)))).symm
      have m3800 := m3768.trans (Wr.neR wH3780 (Or.inl (G_ne ga0 gf0 (by decide)))).symm
      have m3801 := m3769.trans (Wr.neR wH3780 (Or.inl (G_ne ga0 gf0 (by decide)))).symm
      have m3802 := m3770.trans (Wr.neI wH3780 (Or.inl (G_ne ga0 gf0 (by decide)))).symm
      have m3803 := m3771.trans (Wr.neI wH3780 (Or.inl (G_ne ga0 gf0 (by decide)))).symm
      have m3804 := m3772.trans (Wr.neI wH3780 (Or.inl (G_ne ga0 gf0 (by decide)))).symm
      have m3805 := m3773.trans (Wr.neI wH3780 (Or.inl (G_ne ga0 gf0 (by decide)))).symm
      have m3806 := m3774.trans (Wr.neI wH3780 (Or.inl (G_ne gf9 gf0 (by decide)))).symm
      have m3807 := Wr.I wH3780
      have m3807 := m3807.symm
      refine lv_aload_n hx hb dX10_readLine_65 rfl (lv_at hl3663 1 rfl) ?_
      refine lv_bipush (v := 6) hx hb dX10_readLine_66 (by decide) ?_
      refine x_V (As := [.int 6]) (rest := []) C (a_X10_isWord l K G H3780 (6) (x3721) (x3722) hTH3780 ga0 m3804 m3805) yo_X10_isWord wM_X10_264 ⟨⟨by decide, by decide⟩, by decide, by decide⟩ (x_rv C hTH3780 (ci := 10) rfl ga0 rg_112) rfl hl3663.1 rfl (Nat.le_of_ble_eq_true rfl) dX10_readLine_68 hSH3780 (AE_sub (fun _ _ => rfl) (by decide) hSH3780.1) (fun vH3808 H3808 locsH3808 pH3808 zH3808 kH3808 hSH3808 => ?_)
      obtain ⟨x3809, hvH3808, bx3809, hrH3808, hTH3808⟩ := pH3808
      subst hvH3808
      clear zH3808
      have mf3810 : MF K s.heap H3808 a0 [19, 20, 21, 22, 35, 36, 38, 39, 40] := MF.eff (x_lt hTH3780 kH3808 ga0 (by decide)) mf3781
      have b3811 : ∀ j : Nat, j < 3000 + mn.toNatClampNeg → fI H3808 oq j = fI s.heap oq j ∧ fI H3808 aq j = fI s.heap aq j := fun j hj => ⟨(fI_kept (x_lt hTH3780 kH3808 goq (by decide))).trans (b3786 j hj).1, (fI_kept (x_lt hTH3780 kH3808 gaq (by decide))).trans (b3786 j hj).2⟩
      have b3812 : WF (fun k => fI H3808 oq k) (fun k => fI H3808 aq k) (3000 + mn.toNatClampNeg) (3000 + mn.toNatClampNeg) 0 0 := WF.congr (fun j => fI_kept (x_lt hTH3780 kH3808 goq (by decide))) (fun j => fI_kept (x_lt hTH3780 kH3808 gaq (by decide))) b3787
      have g3813 : CG (avw K H3808 a0) := CG.congr (fun k hk j => av_eff hTH3780 kH3808 ga0 (by decide) (CG_eff [] (by decide) k hk)) g3782
      have g3814 : TU (avw K H3808 a0) (svw K H3808 a0) := TU.congr (fun k hk j => av_eff hTH3780 kH3808 ga0 (by decide) (TU_eff [] (by decide) k hk)) (fun k hk => sv_eff hTH3780 kH3808 ga0 (by decide)) g3783
      have g3815 : WD (avw K H3808 a0) := WD.congr (fun k hk j => av_eff hTH3780 kH3808 ga0 (by decide) (WD_eff [] (by decide) k hk)) g3784
      have g3816 : IM (avw K H3808 a0) := IM.congr (fun k hk j => av_eff hTH3780 kH3808 ga0 (by decide) (IM_eff [] (by decide) k hk)) g3785
      have f3817 : ∀ j : Nat, j ≠ x1.toNatClampNeg → fI H3808 f9 j = fI s.heap f9 j := fun j hj => (fI_kept (x_lt hTH3780 kH3808 gf9 (by decide))).trans (f3788 j hj)
      have f3818 : ∀ j : Nat, j ≠ x1.toNatClampNeg → fI H3808 f0 j = fI s.heap f0 j := fun j hj => (fI_kept (x_lt hTH3780 kH3808 gf0 (by decide))).trans (f3789 j hj)
      have f3819 : ∀ j : Nat, j ≠ x1.toNatClampNeg → fI H3808 f1 j = fI s.heap f1 j := fun j hj => (fI_kept (x_lt hTH3780 kH3808 gf1 (by decide))).trans (f3790 j hj)
      have m3820 := (m3791).trans (fI_kept (x_lt hTH3780 kH3808 gq3664 (by decide))).symm
      have m3821 := (m3792).trans (fR_kept (x_lt hTH3780 kH3808 ga0 (by decide))).symm
      have m3822 := (m3793).trans (fR_kept (x_lt hTH3780 kH3808 ga0 (by decide))).symm
      have m3823 := (m3794).trans (fR_kept (x_lt hTH3780 kH3808 ga0 (by decide))).symm
      have m3824 := (m3795).trans (fR_kept (x_lt hTH3780 kH3808 ga0 (by decide))).symm
      have m3825 := (m3796).trans (fR_kept (x_lt hTH3780 kH3808 ga0 (by decide))).symm
      have m3826 := (m3797).trans (fI_kept (x_lt hTH3780 kH3808 ga0 (by decide))).symm
      have m3827 := (m3798).trans (fI_kept (x_lt hTH3780 kH3808 ga0 (by decide))).symm
      have m3828 := (m3799).trans (fI_kept (x_lt hTH3780 kH3808 ga0 (by decide))).symm
      have m3829 := (m3800).trans (fR_kept (x_lt hTH3780 kH3808 ga0 (by decide))).symm
      have m3830 := (m3801).trans (fR_kept (x_lt hTH3780 kH3808 ga0 (by decide))).symm
      have m3831 := (m3802).trans (fI_kept (x_lt hTH3780 kH3808 ga0 (by decide))).symm
      have m3832 := (m3803).trans (fI_kept (x_lt hTH3780 kH3808 ga0 (by decide))).symm
      have m3833 := (m3804).trans (fI_kept (x_lt hTH3780 kH3808 ga0 (by decide))).symm
      have m3834 := (m3805).trans (fI_kept (x_lt hTH3780 kH3808 ga0 (by decide))).symm
      have m3835 := (m3806).trans (fI_kept (x_lt hTH3780 kH3808 gf9 (by decide))).symm
      have m3836 := (m3807).trans (fI_kept (x_lt hTH3780 kH3808 gf0 (by decide))).symm
      refine W.eq (g2 := F0 m 71 ls3662 [.int x3809]) rfl ?_
      refine lv_if_eq (tgt := 88) hx hb dX10_readLine_71 (by decide) (fun c3837 => ?_) (fun c3837 => ?_)
      · have k3838 := i_eq c3837
        clear hrH3808
        have wa0 : WF (fun k => fI H3808 oq k) (fun k => fI H3808 aq k) (3000 + mn.toNatClampNeg) (3000 + mn.toNatClampNeg) 0 0 := WF.nil
        refine lv_aload_n hx hb dX10_readLine_88 rfl (lv_at hl3663 1 rfl) ?_
        refine x_gr C hTH3808 (ci := 10) (k := 31) rfl inX10 (by decide) wF_X10_80 ga0 rg_112 rfl dX10_readLine_89 (fun q3839 eq3839 gq3839 => ?_)
        have uq3839 : f1 = q3839 := (m3825).trans eq3839.symm
        subst uq3839
        clear eq3839
        refine lv_iload_n hx hb dX10_readLine_92 rfl (lv_at hl3663 2 rfl) ?_
        refine lv_aload_n hx hb dX10_readLine_93 rfl (lv_at hl3663 1 rfl) ?_
        refine x_gi C hTH3808 (ci := 10) (k := 35) rfl inX10 (by decide) wF_X10_228 ga0 rg_112 rfl dX10_readLine_94 (fun x3840 ex3840 bx3840 => ?_)
        have ux3840 : mn = x3840 := (m3826).trans ex3840.symm
        subst ux3840
        refine x_iast C hTH3808 hSH3808 gf1 rg_135 (by omega) (by show _ < ((112 : Nat) : Int); omega) ⟨by have := i_rng mn; omega, by have := i_rng mn; omega⟩ (AE_in gf1 (by decide)) dX10_readLine_97 (fun H3841 locsH3841 hTH3841 hSH3841 wH3841 => ?_)
        have mf3842 : MF K s.heap H3841 a0 [19, 20, 21, 22, 35, 36, 38, 39, 40] := MF.arr wH3841 (G_ne ga0 gf1 (by decide)) mf3810
        have g3843 : CG (avw K H3841 a0) := CG.putL hTH3808 ga0 wH3841 gf1 (by decide) (by omega) g3813
        have g3844 : TU (avw K H3841 a0) (svw K H3841 a0) := TU.congr (fun k hk j => av_arr hTH3808 ga0 wH3841 gf1 (by decide) (TU_ok 135 (by decide) k hk)) (fun k hk => sv_arr ga0 wH3841 gf1 (by decide)) g3814
        have g3845 : WD (avw K H3841 a0) := WD.congr (fun k hk j => av_arr hTH3808 ga0 wH3841 gf1 (by decide) (WD_ok 135 (by decide) k hk)) g3815
        have g3846 : IM (avw K H3841 a0) := IM.congr (fun k hk j => av_arr hTH3808 ga0 wH3841 gf1 (by decide) (IM_ok 135 (by decide) k hk)) g3816
        have b3847 : ∀ j : Nat, j < 3000 + mn.toNatClampNeg → fI H3841 oq j = fI s.heap oq j ∧ fI H3841 aq j = fI s.heap aq j := fun j hj => ⟨(Wr.neI wH3841 (Or.inl (G_ne goq gf1 (by decide)))).trans (b3811 j hj).1, (Wr.neI wH3841 (Or.inl (G_ne gaq gf1 (by decide)))).trans (b3811 j hj).2⟩
        have b3848 : WF (fun k => fI H3841 oq k) (fun k => fI H3841 aq k) (3000 + mn.toNatClampNeg) (3000 + mn.toNatClampNeg) 0 0 := WF.congr (fun j => Wr.neI wH3841 (Or.inl (G_ne goq gf1 (by decide)))) (fun j => Wr.neI wH3841 (Or.inl (G_ne gaq gf1 (by decide)))) b3812
        have b3849 : WF (fun k => fI H3841 oq k) (fun k => fI H3841 aq k) (3000 + mn.toNatClampNeg) (3000 + mn.toNatClampNeg) 0 0 := WF.congr (fun j => Wr.neI wH3841 (Or.inl (G_ne goq gf1 (by decide)))) (fun j => Wr.neI wH3841 (Or.inl (G_ne gaq gf1 (by decide)))) wa0
        have f3850 : ∀ j : Nat, j ≠ x1.toNatClampNeg → fI H3841 f9 j = fI s.heap f9 j := fun j hj => (Wr.neI wH3841 (Or.inl (G_ne gf9 gf1 (by decide)))).trans (f3817 j hj)
        have f3851 : ∀ j : Nat, j ≠ x1.toNatClampNeg → fI H3841 f0 j = fI s.heap f0 j := fun j hj => (Wr.neI wH3841 (Or.inl (G_ne gf0 gf1 (by decide)))).trans (f3818 j hj)
        have f3852 : ∀ j : Nat, j ≠ x1.toNatClampNeg → fI H3841 f1 j = fI s.heap f1 j := fun j hj => (Wr.neI wH3841 (Or.inr hj)).trans (f3819 j hj)
        have m3853 := m3820.trans (Wr.neI wH3841 (Or.inl (G_ne gq3664 gf1 (by decide)))).symm
        have m3854 := m3821.trans (Wr.neR wH3841 (Or.inl (G_ne ga0 gf1 (by decide)))).symm
        have m3855 := m3822.trans (Wr.neR wH3841 (Or.inl (G_ne ga0 gf1 (by decide)))).symm
        have m3856 := m3823.trans (Wr.neR wH3841 (Or.inl (G_ne ga0 gf1 (by decide)))).symm
        have m3857 := m3824.trans (Wr.neR wH3841 (Or.inl (G_ne ga0 gf1 (by decide)))).symm
        have m3858 := m3825.trans (Wr.neR wH3841 (Or.inl (G_ne ga0 gf1 (by decide)))).symm
        have m3859 := m3826.trans (Wr.neI wH3841 (Or.inl (G_ne ga0 gf1 (by decide)))).symm
        have m3860 := m3827.trans (Wr.neI wH3841 (Or.inl (G_ne ga0 gf1 (by decide)))).symm
        have m3861 := m3828.trans (Wr.neI wH3841 (Or.inl (G_ne ga0 gf1 (by decide)))).symm
        have m3862 := m3829.trans (Wr.neR wH3841 (Or.inl (G_ne ga0 gf1 (by decide)))).symm
        have m3863 := m3830.trans (Wr.neR wH3841 (Or.inl (G_ne ga0 gf1 (by decide)))).symm
        have m3864 := m3831.trans (Wr.neI wH3841 (Or.inl (G_ne ga0 gf1 (by decide)))).symm
        have m3865 := m3832.trans (Wr.neI wH3841 (Or.inl (G_ne ga0 gf1 (by decide)))).symm
        have m3866 := m3833.trans (Wr.neI wH3841 (Or.inl (G_ne ga0 gf1 (by decide)))).symm
        have m3867 := m3834.trans (Wr.neI wH3841 (Or.inl (G_ne ga0 gf1 (by decide)))).symm
        have m3868 := m3835.trans (Wr.neI wH3841 (Or.inl (G_ne gf9 gf1 (by decide)))).symm
        have m3869 := m3836.trans (Wr.neI wH3841 (Or.inl (G_ne gf0 gf1 (by decide)))).symm
        have m3870 := Wr.I wH3841
        have m3870 := m3870.symm
        refine lv_aload_n hx hb dX10_readLine_98 rfl (lv_at hl3663 1 rfl) ?_
        refine lv_bipush (v := 59) hx hb dX10_readLine_99 (by decide) ?_
        refine x_V (As := [.int 59]) (rest := []) C (a_X10_isSign l K G H3841 (59) (x3721) (x3722) hTH3841 ga0 m3866 m3867) yo_X10_isSign wM_X10_249 ⟨⟨by decide, by decide⟩, by decide, by decide⟩ (x_rv C hTH3841 (ci := 10) rfl ga0 rg_112) rfl hl3663.1 rfl (Nat.le_of_ble_eq_true rfl) dX10_readLine_101 hSH3841 (AE_sub (fun _ _ => rfl) (by decide) hSH3841.1) (fun vH3871 H3871 locsH3871 pH3871 zH3871 kH3871 hSH3871 => ?_)
        obtain ⟨x3872, hvH3871, bx3872, hrH3871, hTH3871⟩ := pH3871
        subst hvH3871
        clear zH3871
        have mf3873 : MF K s.heap H3871 a0 [19, 20, 21, 22, 35, 36, 38, 39, 40] := MF.eff (x_lt hTH3841 kH3871 ga0 (by decide)) mf3842
        have b3874 : ∀ j : Nat, j < 3000 + mn.toNatClampNeg → fI H3871 oq j = fI s.heap oq j ∧ fI H3871 aq j = fI s.heap aq j := fun j hj => ⟨(fI_kept (x_lt hTH3841 kH3871 goq (by decide))).trans (b3847 j hj).1, (fI_kept (x_lt hTH3841 kH3871 gaq (by decide))).trans (b3847 j hj).2⟩
        have b3875 : WF (fun k => fI H3871 oq k) (fun k => fI H3871 aq k) (3000 + mn.toNatClampNeg) (3000 + mn.toNatClampNeg) 0 0 := WF.congr (fun j => fI_kept (x_lt hTH3841 kH3871 goq (by decide))) (fun j => fI_kept (x_lt hTH3841 kH3871 gaq (by decide))) b3848
        have b3876 : WF (fun k => fI H3871 oq k) (fun k => fI H3871 aq k) (3000 + mn.toNatClampNeg) (3000 + mn.toNatClampNeg) 0 0 := WF.congr (fun j => fI_kept (x_lt hTH3841 kH3871 goq (by decide))) (fun j => fI_kept (x_lt hTH3841 kH3871 gaq (by decide))) b3849
        have g3877 : CG (avw K H3871 a0) := CG.congr (fun k hk j => av_eff hTH3841 kH3871 ga0 (by decide) (CG_eff [] (by decide) k hk)) g3843
        have g3878 : TU (avw K H3871 a0) (svw K H3871 a0) := TU.congr (fun k hk j => av_eff hTH3841 kH3871 ga0 (by decide) (TU_eff [] (by decide) k hk)) (fun k hk => sv_eff hTH3841 kH3871 ga0 (by decide)) g3844
        have g3879 : WD (avw K H3871 a0) := WD.congr (fun k hk j => av_eff hTH3841 kH3871 ga0 (by decide) (WD_eff [] (by decide) k hk)) g3845
        have g3880 : IM (avw K H3871 a0) := IM.congr (fun k hk j => av_eff hTH3841 kH3871 ga0 (by decide) (IM_eff [] (by decide) k hk)) g3846
        have f3881 : ∀ j : Nat, j ≠ x1.toNatClampNeg → fI H3871 f9 j = fI s.heap f9 j := fun j hj => (fI_kept (x_lt hTH3841 kH3871 gf9 (by decide))).trans (f3850 j hj)
        have f3882 : ∀ j : Nat, j ≠ x1.toNatClampNeg → fI H3871 f0 j = fI s.heap f0 j := fun j hj => (fI_kept (x_lt hTH3841 kH3871 gf0 (by decide))).trans (f3851 j hj)
        have f3883 : ∀ j : Nat, j ≠ x1.toNatClampNeg → fI H3871 f1 j = fI s.heap f1 j := fun j hj => (fI_kept (x_lt hTH3841 kH3871 gf1 (by decide))).trans (f3852 j hj)
        have m3884 := (m3853).trans (fI_kept (x_lt hTH3841 kH3871 gq3664 (by decide))).symm
        have m3885 := (m3854).trans (fR_kept (x_lt hTH3841 kH3871 ga0 (by decide))).symm
        have m3886 := (m3855).trans (fR_kept (x_lt hTH3841 kH3871 ga0 (by decide))).symm
        have m3887 := (m3856).trans (fR_kept (x_lt hTH3841 kH3871 ga0 (by decide))).symm
        have m3888 := (m3857).trans (fR_kept (x_lt hTH3841 kH3871 ga0 (by decide))).symm
        have m3889 := (m3858).trans (fR_kept (x_lt hTH3841 kH3871 ga0 (by decide))).symm
        have m3890 := (m3859).trans (fI_kept (x_lt hTH3841 kH3871 ga0 (by decide))).symm
        have m3891 := (m3860).trans (fI_kept (x_lt hTH3841 kH3871 ga0 (by decide))).symm
        have m3892 := (m3861).trans (fI_kept (x_lt hTH3841 kH3871 ga0 (by decide))).symm
        have m3893 := (m3862).trans (fR_kept (x_lt hTH3841 kH3871 ga0 (by decide))).symm
        have m3894 := (m3863).trans (fR_kept (x_lt hTH3841 kH3871 ga0 (by decide))).symm
        have m3895 := (m3864).trans (fI_kept (x_lt hTH3841 kH3871 ga0 (by decide))).symm
        have m3896 := (m3865).trans (fI_kept (x_lt hTH3841 kH3871 ga0 (by decide))).symm
        have m3897 := (m3866).trans (fI_kept (x_lt hTH3841 kH3871 ga0 (by decide))).symm
        have m3898 := (m3867).trans (fI_kept (x_lt hTH3841 kH3871 ga0 (by decide))).symm
        have m3899 := (m3868).trans (fI_kept (x_lt hTH3841 kH3871 gf9 (by decide))).symm
        have m3900 := (m3869).trans (fI_kept (x_lt hTH3841 kH3871 gf0 (by decide))).symm
        have m3901 := (m3870).trans (fI_kept (x_lt hTH3841 kH3871 gf1 (by decide))).symm
        refine W.eq (g2 := F0 m 104 ls3662 [.int x3872]) rfl ?_
        refine lv_if_ne (tgt := 113) hx hb dX10_readLine_104 (by decide) (fun c3902 => ?_) (fun c3902 => ?_)
        · have k3903 := i_ne c3902
          replace hrH3871 := hrH3871.resolve_left (fun h => absurd h.1 (by omega))
          replace z3H3717 := z3H3717.resolve_left (by omega)
          refine lv_aload_n hx hb dX10_readLine_113 rfl (lv_at hl3663 1 rfl) ?_
          refine x_V (As := []) (rest := []) C (a_X10_reads l K G H3871 (x3719) (x3720) (x3721) (x3722) (tp) hTH3871 ga0 gq3689 m3894 m3895 m3896 m3897 m3898 m3891 g3877 g3878 g3879 g3880 (by and_intros <;> first | assumption | omega)) yo_X10_reads wM_X10_242 ⟨⟨by decide, by decide⟩, by decide, by decide⟩ (x_rv C hTH3871 (ci := 10) rfl ga0 rg_112) rfl hl3663.1 rfl (Nat.le_of_ble_eq_true rfl) dX10_readLine_114 hSH3871 (AE_sub (fun _ _ => rfl) (by decide) hSH3871.1) (fun vH3904 H3904 locsH3904 pH3904 zH3904 kH3904 hSH3904 => ?_)
          obtain ⟨x3905, x3906, x3907, x3908, hvH3904, ex3905, ex3906, ex3907, ex3908, hrH3904, m3909, g3910, g3911, g3912, g3913, mf3914, hTH3904⟩ := pH3904
          subst hvH3904
          clear zH3904
          replace m3909 := EQN.mk m3909
          have b3915 : ∀ j : Nat, j < 3000 + mn.toNatClampNeg → fI H3904 oq j = fI s.heap oq j ∧ fI H3904 aq j = fI s.heap aq j := fun j hj => ⟨(fI_kept (x_lt hTH3871 kH3904 goq (by decide))).trans (b3874 j hj).1, (fI_kept (x_lt hTH3871 kH3904 gaq (by decide))).trans (b3874 j hj).2⟩
          have b3916 : WF (fun k => fI H3904 oq k) (fun k => fI H3904 aq k) (3000 + mn.toNatClampNeg) (3000 + mn.toNatClampNeg) 0 0 := WF.congr (fun j => fI_kept (x_lt hTH3871 kH3904 goq (by decide))) (fun j => fI_kept (x_lt hTH3871 kH3904 gaq (by decide))) b3875
          have b3917 : WF (fun k => fI H3904 oq k) (fun k => fI H3904 aq k) (3000 + mn.toNatClampNeg) (3000 + mn.toNatClampNeg) 0 0 := WF.congr (fun j => fI_kept (x_lt hTH3871 kH3904 goq (by decide))) (fun j => fI_kept (x_lt hTH3871 kH3904 gaq (by decide))) b3876
          have f3918 : ∀ j : Nat, j ≠ x1.toNatClampNeg → fI H3904 f9 j = fI s.heap f9 j := fun j hj => (fI_kept (x_lt hTH3871 kH3904 gf9 (by decide))).trans (f3881 j hj)
          have f3919 : ∀ j : Nat, j ≠ x1.toNatClampNeg → fI H3904 f0 j = fI s.heap f0 j := fun j hj => (fI_kept (x_lt hTH3871 kH3904 gf0 (by decide))).trans (f3882 j hj)
          have f3920 : ∀ j : Nat, j ≠ x1.toNatClampNeg → fI H3904 f1 j = fI s.heap f1 j := fun j hj => (fI_kept (x_lt hTH3871 kH3904 gf1 (by decide))).trans (f3883 j hj)
          have m3921 := (m3884).trans (fI_kept (x_lt hTH3871 kH3904 gq3664 (by decide))).symm
          have m3922 := (m3899).trans (fI_kept (x_lt hTH3871 kH3904 gf9 (by decide))).symm
          have m3923 := (m3900).trans (fI_kept (x_lt hTH3871 kH3904 gf0 (by decide))).symm
          have m3924 := (m3901).trans (fI_kept (x_lt hTH3871 kH3904 gf1 (by decide))).symm
          have m3925 := (m3885).trans (MF.r mf3914 (k := 32) (by decide) (by decide)).symm
          have m3926 := (m3886).trans (MF.r mf3914 (k := 33) (by decide) (by decide)).symm
          have m3927 := (m3887).trans (MF.r mf3914 (k := 29) (by decide) (by decide)).symm
          have m3928 := (m3888).trans (MF.r mf3914 (k := 30) (by decide) (by decide)).symm
          have m3929 := (m3889).trans (MF.r mf3914 (k := 31) (by decide) (by decide)).symm
          have m3930 := (m3890).trans (MF.i mf3914 (k := 35) (by decide) (by decide)).symm
          have m3931 := (m3891).trans (MF.i mf3914 (k := 18) (by decide) (by decide)).symm
          have m3932 := (m3892).trans (MF.i mf3914 (k := 34) (by decide) (by decide)).symm
          have m3933 := (m3893).trans (MF.r mf3914 (k := 25) (by decide) (by decide)).symm
          have m3934 := (m3894).trans (MF.r mf3914 (k := 17) (by decide) (by decide)).symm
          have mf3935 : MF K s.heap H3904 a0 [19, 20, 21, 22, 35, 36, 38, 39, 40] := MF.trans mf3873 mf3914 (by decide)
          have bx3905 := ty_fi (x := x3905) (k := 19) ex3905 hTH3904 ga0 rg_112 rfl
          have bx3906 := ty_fi (x := x3906) (k := 20) ex3906 hTH3904 ga0 rg_112 rfl
          have bx3907 := ty_fi (x := x3907) (k := 21) ex3907 hTH3904 ga0 rg_112 rfl
          have bx3908 := ty_fi (x := x3908) (k := 22) ex3908 hTH3904 ga0 rg_112 rfl
          obtain ⟨r1H3904, r2H3904, r3H3904, r4H3904, r5H3904, r6H3904, r7H3904⟩ := hrH3904
          clear z3H3717 z4H3717
          refine W.eq (g2 := F0 m 117 ls3662 []) rfl ?_
          refine lv_iconst (v := 0) hx hb dX10_readLine_117 (by decide) ?_
          exact x_iret C hQ dX10_readLine_118 hSH3904 (by decide) (by decide) (⟨0, x3905, x3906, x3907, x3908, mn, rfl, by decide, ex3905, ex3906, ex3907, ex3908, m3930, Or.inr (by and_intros <;> first | assumption | omega), m3925, m3926, m3927, m3928, m3929, g3910, g3911, g3912, g3913, mf3935, b3915, f3918, f3919, f3920, Or.inr (LNW.mk (a := fun k => fI H3904 f9 k) (b := fun k => fI H3904 f0 k) (c := fun k => fI H3904 f1 k) m3922 m3923 m3924 (by omega) (by omega) (by omega) (by omega) (WF.cast b3916 (by omega) (by omega)) (WF.cast b3917 (by omega) (by omega))), hTH3904⟩)
        · have k3903 := i_eq c3902
          refine lv_aload_n hx hb dX10_readLine_107 rfl (lv_at hl3663 1 rfl) ?_
          refine lv_iconst (v := 1) hx hb dX10_readLine_108 (by decide) ?_
          refine x_V (As := [.int 1]) (rest := []) C (a_X10_fails l K G H3871 (1) hTH3871 ga0 g3877 g3878 g3879 g3880) yo_X10_fails wM_X10_235 ⟨⟨by decide, by decide⟩, by decide, by decide⟩ (x_rv C hTH3871 (ci := 10) rfl ga0 rg_112) rfl hl3663.1 rfl (Nat.le_of_ble_eq_true rfl) dX10_readLine_109 hSH3871 (AE_sub (fun _ _ => rfl) (by decide) hSH3871.1) (fun vH3936 H3936 locsH3936 pH3936 zH3936 kH3936 hSH3936 => ?_)
          obtain ⟨x3937, hvH3936, bx3937, g3938, g3939, g3940, g3941, mf3942, hTH3936⟩ := pH3936
          subst hvH3936
          clear zH3936
          have b3943 : ∀ j : Nat, j < 3000 + mn.toNatClampNeg → fI H3936 oq j = fI s.heap oq j ∧ fI H3936 aq j = fI s.heap aq j := fun j hj => ⟨(fI_kept (x_lt hTH3871 kH3936 goq (by decide))).trans (b3874 j hj).1, (fI_kept (x_lt hTH3871 kH3936 gaq (by decide))).trans (b3874 j hj).2⟩
          have b3944 : WF (fun k => fI H3936 oq k) (fun k => fI H3936 aq k) (3000 + mn.toNatClampNeg) (3000 + mn.toNatClampNeg) 0 0 := WF.congr (fun j => fI_kept (x_lt hTH3871 kH3936 goq (by decide))) (fun j => fI_kept (x_lt hTH3871 kH3936 gaq (by decide))) b3875
          have b3945 : WF (fun k => fI H3936 oq k) (fun k => fI H3936 aq k) (3000 + mn.toNatClampNeg) (3000 + mn.toNatClampNeg) 0 0 := WF.congr (fun j => fI_kept (x_lt hTH3871 kH3936 goq (by decide))) (fun j => fI_kept (x_lt hTH3871 kH3936 gaq (by decide))) b3876
          have f3946 : ∀ j : Nat, j ≠ x1.toNatClampNeg → fI H3936 f9 j = fI s.heap f9 j := fun j hj => (fI_kept (x_lt hTH3871 kH3936 gf9 (by decide))).trans (f3881 j hj)
          have f3947 : ∀ j : Nat, j ≠ x1.toNatClampNeg → fI H3936 f0 j = fI s.heap f0 j := fun j hj => (fI_kept (x_lt hTH3871 kH3936 gf0 (by decide))).trans (f3882 j hj)
          have f3948 : ∀ j : Nat, j ≠ x1.toNatClampNeg → fI H3936 f1 j = fI s.heap f1 j := fun j hj => (fI_kept (x_lt hTH3871 kH3936 gf1 (by decide))).trans (f3883 j hj)
          have m3949 := (m3884).trans (fI_kept (x_lt hTH3871 kH3936 gq3664 (by decide))).symm
          have m3950 := (m3899).trans (fI_kept (x_lt hTH3871 kH3936 gf9 (by decide))).symm
          have m3951 := (m3900).trans (fI_kept (x_lt hTH3871 kH3936 gf0 (by decide))).symm
          have m3952 := (m3901).trans (fI_kept (x_lt hTH3871 kH3936 gf1 (by decide))).symm
          have m3953 := (m3885).trans (MF.r mf3942 (k := 32) (by decide) (by decide)).symm
          have m3954 := (m3886).trans (MF.r mf3942 (k := 33) (by decide) (by decide)).symm
          have m3955 := (m3887).trans (MF.r mf3942 (k := 29) (by decide) (by decide)).symm
          have m3956 := (m3888).trans (MF.r mf3942 (k := 30) (by decide) (by decide)).symm
          have m3957 := (m3889).trans (MF.r mf3942 (k := 31) (by decide) (by decide)).symm
          have m3958 := (m3890).trans (MF.i mf3942 (k := 35) (by decide) (by decide)).symm
          have m3959 := (m3891).trans (MF.i mf3942 (k := 18) (by decide) (by decide)).symm
          have m3960 := (m3892).trans (MF.i mf3942 (k := 34) (by decide) (by decide)).symm
          have m3961 := (m3893).trans (MF.r mf3942 (k := 25) (by decide) (by decide)).symm
          have m3962 := (m3894).trans (MF.r mf3942 (k := 17) (by decide) (by decide)).symm
          have m3963 := (m3895).trans (MF.i mf3942 (k := 19) (by decide) (by decide)).symm
          have m3964 := (m3896).trans (MF.i mf3942 (k := 20) (by decide) (by decide)).symm
          have m3965 := (m3897).trans (MF.i mf3942 (k := 21) (by decide) (by decide)).symm
          have m3966 := (m3898).trans (MF.i mf3942 (k := 22) (by decide) (by decide)).symm
          have mf3967 : MF K s.heap H3936 a0 [19, 20, 21, 22, 35, 36, 38, 39, 40] := MF.trans mf3873 mf3942 (by decide)
          refine W.eq (g2 := F0 m 112 ls3662 [.int x3937]) rfl ?_
          exact x_iret C hQ dX10_readLine_112 hSH3936 (by decide) (by decide) (⟨x3937, x3719, x3720, x3721, x3722, mn, rfl, by omega, m3963, m3964, m3965, m3966, m3958, Or.inl (by omega), m3953, m3954, m3955, m3956, m3957, g3938, g3939, g3940, g3941, mf3967, b3943, f3946, f3947, f3948, Or.inl (by omega), hTH3936⟩)
      · have k3838 := i_ne c3837
        replace hrH3808 := hrH3808.resolve_left (by omega)
        replace z3H3717 := z3H3717.resolve_left (by omega)
        refine lv_aload_n hx hb dX10_readLine_74 rfl (lv_at hl3663 1 rfl) ?_
        refine x_V (As := []) (rest := []) C (a_X10_reads l K G H3808 (x3719) (x3720) (x3721) (x3722) (tp) hTH3808 ga0 gq3689 m3830 m3831 m3832 m3833 m3834 m3827 g3813 g3814 g3815 g3816 (by and_intros <;> first | assumption | omega)) yo_X10_reads wM_X10_242 ⟨⟨by decide, by decide⟩, by decide, by decide⟩ (x_rv C hTH3808 (ci := 10) rfl ga0 rg_112) rfl hl3663.1 rfl (Nat.le_of_ble_eq_true rfl) dX10_readLine_75 hSH3808 (AE_sub (fun _ _ => rfl) (by decide) hSH3808.1) (fun vH3968 H3968 locsH3968 pH3968 zH3968 kH3968 hSH3968 => ?_)
        obtain ⟨x3969, x3970, x3971, x3972, hvH3968, ex3969, ex3970, ex3971, ex3972, hrH3968, m3973, g3974, g3975, g3976, g3977, mf3978, hTH3968⟩ := pH3968
        subst hvH3968
        clear zH3968
        replace m3973 := EQN.mk m3973
        have b3979 : ∀ j : Nat, j < 3000 + mn.toNatClampNeg → fI H3968 oq j = fI s.heap oq j ∧ fI H3968 aq j = fI s.heap aq j := fun j hj => ⟨(fI_kept (x_lt hTH3808 kH3968 goq (by decide))).trans (b3811 j hj).1, (fI_kept (x_lt hTH3808 kH3968 gaq (by decide))).trans (b3811 j hj).2⟩
        have b3980 : WF (fun k => fI H3968 oq k) (fun k => fI H3968 aq k) (3000 + mn.toNatClampNeg) (3000 + mn.toNatClampNeg) 0 0 := WF.congr (fun j => fI_kept (x_lt hTH3808 kH3968 goq (by decide))) (fun j => fI_kept (x_lt hTH3808 kH3968 gaq (by decide))) b3812
        have f3981 : ∀ j : Nat, j ≠ x1.toNatClampNeg → fI H3968 f9 j = fI s.heap f9 j := fun j hj => (fI_kept (x_lt hTH3808 kH3968 gf9 (by decide))).trans (f3817 j hj)
        have f3982 : ∀ j : Nat, j ≠ x1.toNatClampNeg → fI H3968 f0 j = fI s.heap f0 j := fun j hj => (fI_kept (x_lt hTH3808 kH3968 gf0 (by decide))).trans (f3818 j hj)
        have f3983 : ∀ j : Nat, j ≠ x1.toNatClampNeg → fI H3968 f1 j = fI s.heap f1 j := fun j hj => (fI_kept (x_lt hTH3808 kH3968 gf1 (by decide))).trans (f3819 j hj)
        have m3984 := (m3820).trans (fI_kept (x_lt hTH3808 kH3968 gq3664 (by decide))).symm
        have m3985 := (m3835).trans (fI_kept (x_lt hTH3808 kH3968 gf9 (by decide))).symm
        have m3986 := (m3836).trans (fI_kept (x_lt hTH3808 kH3968 gf0 (by decide))).symm
        have m3987 := (m3821).trans (MF.r mf3978 (k := 32) (by decide) (by decide)).symm
        have m3988 := (m3822).trans (MF.r mf3978 (k := 33) (by decide) (by decide)).symm
        have m3989 := (m3823).trans (MF.r mf3978 (k := 29) (by decide) (by decide)).symm
        have m3990 := (m3824).trans (MF.r mf3978 (k := 30) (by decide) (by decide)).symm
        have m3991 := (m3825).trans (MF.r mf3978 (k := 31) (by decide) (by decide)).symm
        have m3992 := (m3826).trans (MF.i mf3978 (k := 35) (by decide) (by decide)).symm
        have m3993 := (m3827).trans (MF.i mf3978 (k := 18) (by decide) (by decide)).symm
        have m3994 := (m3828).trans (MF.i mf3978 (k := 34) (by decide) (by decide)).symm
        have m3995 := (m3829).trans (MF.r mf3978 (k := 25) (by decide) (by decide)).symm
        have m3996 := (m3830).trans (MF.r mf3978 (k := 17) (by decide) (by decide)).symm
        have mf3997 : MF K s.heap H3968 a0 [19, 20, 21, 22, 35, 36, 38, 39, 40] := MF.trans mf3810 mf3978 (by decide)
        have bx3969 := ty_fi (x := x3969) (k := 19) ex3969 hTH3968 ga0 rg_112 rfl
        have bx3970 := ty_fi (x := x3970) (k := 20) ex3970 hTH3968 ga0 rg_112 rfl
        have bx3971 := ty_fi (x := x3971) (k := 21) ex3971 hTH3968 ga0 rg_112 rfl
        have bx3972 := ty_fi (x := x3972) (k := 22) ex3972 hTH3968 ga0 rg_112 rfl
        obtain ⟨r1H3968, r2H3968, r3H3968, r4H3968, r5H3968, r6H3968, r7H3968⟩ := hrH3968
        clear z3H3717 z4H3717
        refine W.eq (g2 := F0 m 78 ls3662 []) rfl ?_
        refine lv_aload_n hx hb dX10_readLine_78 rfl (lv_at hl3663 1 rfl) ?_
        obtain ⟨q3998, eq3998⟩ : ∃ z : Nat, EQN z (fR H3968 a0 (K.1.2 10 37)) := ⟨_, rfl⟩
        have gq3998 := ty_fr (q := q3998) (k := 37) (u := 138) eq3998 hTH3968 ga0 rg_112 rfl
        replace eq3998 := EQN.mk eq3998
        obtain ⟨x3999, ex3999⟩ : ∃ z : Int32, z = fI H3968 a0 (K.1.2 10 36) := ⟨_, rfl⟩
        have bx3999 := ty_fi (x := x3999) (k := 36) ex3999 hTH3968 ga0 rg_112 rfl
        obtain ⟨x4000, ex4000⟩ : ∃ z : Int32, z = fI H3968 a0 (K.1.2 10 38) := ⟨_, rfl⟩
        have bx4000 := ty_fi (x := x4000) (k := 38) ex4000 hTH3968 ga0 rg_112 rfl
        refine x_V (As := []) (rest := []) C (a_X10_readAny l K G H3968 (x3969) (x3970) (x3971) (x3972) (mn) (x3999) (x4000) (tp) (jb) hTH3968 ga0 goq m3987 gaq m3988 gq3998 eq3998 ex3969 ex3970 ex3971 ex3972 m3992 ex3999 ex4000 m3993 m3994 g3974 g3975 g3976 g3977 (by and_intros <;> first | assumption | omega) (by and_intros <;> first | assumption | omega)) yo_X10_readAny wM_X10_282 ⟨⟨by decide, by decide⟩, by decide, by decide⟩ (x_rv C hTH3968 (ci := 10) rfl ga0 rg_112) rfl hl3663.1 rfl (Nat.le_of_ble_eq_true rfl) dX10_readLine_79 hSH3968 (AE_sub (fun _ _ => rfl) (by decide) hSH3968.1) (fun vH4001 H4001 locsH4001 pH4001 zH4001 kH4001 hSH4001 => ?_)
        obtain ⟨x4002, x4003, x4004, x4005, x4006, x4007, x4008, x4009, hvH4001, bx4002, ex4003, ex4004, ex4005, ex4006, ex4007, ex4008, ex4009, hrH4001, m4010, m4011, m4012, g4013, g4014, g4015, g4016, mf4017, m4018, m4019, hTH4001⟩ := pH4001
        subst hvH4001
        clear zH4001
        replace m4010 := EQN.mk m4010
        replace m4011 := EQN.mk m4011
        replace m4012 := EQN.mk m4012
        have f4020 : ∀ j : Nat, j ≠ x1.toNatClampNeg → fI H4001 f9 j = fI s.heap f9 j := fun j hj => (fI_kept (x_lt hTH3968 kH4001 gf9 (by decide))).trans (f3981 j hj)
        have f4021 : ∀ j : Nat, j ≠ x1.toNatClampNeg → fI H4001 f0 j = fI s.heap f0 j := fun j hj => (fI_kept (x_lt hTH3968 kH4001 gf0 (by decide))).trans (f3982 j hj)
        have f4022 : ∀ j : Nat, j ≠ x1.toNatClampNeg → fI H4001 f1 j = fI s.heap f1 j := fun j hj => (fI_kept (x_lt hTH3968 kH4001 gf1 (by decide))).trans (f3983 j hj)
        have m4023 := (m3984).trans (fI_kept (x_lt hTH3968 kH4001 gq3664 (by decide))).symm
        have m4024 := (m3985).trans (fI_kept (x_lt hTH3968 kH4001 gf9 (by decide))).symm
        have m4025 := (m3986).trans (fI_kept (x_lt hTH3968 kH4001 gf0 (by decide))).symm
        have m4026 := (m3987).trans (MF.r mf4017 (k := 32) (by decide) (by decide)).symm
        have m4027 := (m3988).trans (MF.r mf4017 (k := 33) (by decide) (by decide)).symm
        have m4028 := (m3989).trans (MF.r mf4017 (k := 29) (by decide) (by decide)).symm
        have m4029 := (m3990).trans (MF.r mf4017 (k := 30) (by decide) (by decide)).symm
        have m4030 := (m3991).trans (MF.r mf4017 (k := 31) (by decide) (by decide)).symm
        have m4031 := (m3993).trans (MF.i mf4017 (k := 18) (by decide) (by decide)).symm
        have m4032 := (m3994).trans (MF.i mf4017 (k := 34) (by decide) (by decide)).symm
        have m4033 := (m3995).trans (MF.r mf4017 (k := 25) (by decide) (by decide)).symm
        have m4034 := (m3973).trans (MF.r mf4017 (k := 17) (by decide) (by decide)).symm
        have m4035 := (eq3998).trans (MF.r mf4017 (k := 37) (by decide) (by decide)).symm
        have mf4036 : MF K s.heap H4001 a0 [19, 20, 21, 22, 35, 36, 38, 39, 40] := MF.trans mf3997 mf4017 (by decide)
        have bx4003 := ty_fi (x := x4003) (k := 19) ex4003 hTH4001 ga0 rg_112 rfl
        have bx4004 := ty_fi (x := x4004) (k := 20) ex4004 hTH4001 ga0 rg_112 rfl
        have bx4005 := ty_fi (x := x4005) (k := 21) ex4005 hTH4001 ga0 rg_112 rfl
        have bx4006 := ty_fi (x := x4006) (k := 22) ex4006 hTH4001 ga0 rg_112 rfl
        have bx4007 := ty_fi (x := x4007) (k := 35) ex4007 hTH4001 ga0 rg_112 rfl
        have bx4008 := ty_fi (x := x4008) (k := 36) ex4008 hTH4001 ga0 rg_112 rfl
        have bx4009 := ty_fi (x := x4009) (k := 38) ex4009 hTH4001 ga0 rg_112 rfl
        have b4037 : ∀ j : Nat, j < 3000 + mn.toNatClampNeg → fI H4001 oq j = fI s.heap oq j ∧ fI H4001 aq j = fI s.heap aq j := fun j hj => ⟨(m4018 j (by omega)).1.trans (b3979 j hj).1, (m4018 j (by omega)).2.trans (b3979 j hj).2⟩
        have b4038 : WF (fun k => fI H4001 oq k) (fun k => fI H4001 aq k) (3000 + mn.toNatClampNeg) (3000 + mn.toNatClampNeg) 0 0 := WF.keep b3980 (fun j hj => (m4018 j (by omega)).1) (fun j hj => (m4018 j (by omega)).2)
        refine W.eq (g2 := F0 m 82 ls3662 [.int x4002]) rfl ?_
        refine lv_iconst (v := (-1)) hx hb dX10_readLine_82 (by decide) ?_
        refine lv_icmp_ne (tgt := 88) hx hb dX10_readLine_83 (by decide) (fun c4039 => ?_) (fun c4039 => ?_)
        · have k4040 := i_ne c4039
          replace hrH4001 := hrH4001.resolve_left (by omega)
          obtain ⟨rzH4001, ⟨z1H4001, z2H4001, z3H4001, z4H4001⟩, y1H4001, y2H4001, y3H4001⟩ := hrH4001
          clear r4H3968 r5H3968
          obtain ⟨EA, wa0⟩ : ∃ E, WF (fun k => fI H4001 oq k) (fun k => fI H4001 aq k) (3000 + mn.toNatClampNeg) (3000 + x4007.toNatClampNeg) 0 E := by
            rcases m4019 with h | h
            · exfalso; omega
            · exact h
          refine lv_aload_n hx hb dX10_readLine_88 rfl (lv_at hl3663 1 rfl) ?_
          refine x_gr C hTH4001 (ci := 10) (k := 31) rfl inX10 (by decide) wF_X10_80 ga0 rg_112 rfl dX10_readLine_89 (fun q4041 eq4041 gq4041 => ?_)
          have uq4041 : f1 = q4041 := (m4030).trans eq4041.symm
          subst uq4041
          clear eq4041
          refine lv_iload_n hx hb dX10_readLine_92 rfl (lv_at hl3663 2 rfl) ?_
          refine lv_aload_n hx hb dX10_readLine_93 rfl (lv_at hl3663 1 rfl) ?_
          refine x_gi C hTH4001 (ci := 10) (k := 35) rfl inX10 (by decide) wF_X10_228 ga0 rg_112 rfl dX10_readLine_94 (fun x4042 ex4042 bx4042 => ?_)
          have ux4042 : x4007 = x4042 := (ex4007).trans ex4042.symm
          subst ux4042
          refine x_iast C hTH4001 hSH4001 gf1 rg_135 (by omega) (by show _ < ((112 : Nat) : Int); omega) ⟨by have := i_rng x4007; omega, by have := i_rng x4007; omega⟩ (AE_in gf1 (by decide)) dX10_readLine_97 (fun H4043 locsH4043 hTH4043 hSH4043 wH4043 => ?_)
          have mf4044 : MF K s.heap H4043 a0 [19, 20, 21, 22, 35, 36, 38, 39, 40] := MF.arr wH4043 (G_ne ga0 gf1 (by decide)) mf4036
          have g4045 : CG (avw K H4043 a0) := CG.putL hTH4001 ga0 wH4043 gf1 (by decide) (by omega) g4013
          have g4046 : TU (avw K H4043 a0) (svw K H4043 a0) := TU.congr (fun k hk j => av_arr hTH4001 ga0 wH4043 gf1 (by decide) (TU_ok 135 (by decide) k hk)) (fun k hk => sv_arr ga0 wH4043 gf1 (by decide)) g4014
          have g4047 : WD (avw K H4043 a0) := WD.congr (fun k hk j => av_arr hTH4001 ga0 wH4043 gf1 (by decide) (WD_ok 135 (by decide) k hk)) g4015
          have g4048 : IM (avw K H4043 a0) := IM.congr (fun k hk j => av_arr hTH4001 ga0 wH4043 gf1 (by decide) (IM_ok 135 (by decide) k hk)) g4016
          have b4049 : ∀ j : Nat, j < 3000 + mn.toNatClampNeg → fI H4043 oq j = fI s.heap oq j ∧ fI H4043 aq j = fI s.heap aq j := fun j hj => ⟨(Wr.neI wH4043 (Or.inl (G_ne goq gf1 (by decide)))).trans (b4037 j hj).1, (Wr.neI wH4043 (Or.inl (G_ne gaq gf1 (by decide)))).trans (b4037 j hj).2⟩
          have b4050 : WF (fun k => fI H4043 oq k) (fun k => fI H4043 aq k) (3000 + mn.toNatClampNeg) (3000 + mn.toNatClampNeg) 0 0 := WF.congr (fun j => Wr.neI wH4043 (Or.inl (G_ne goq gf1 (by decide)))) (fun j => Wr.neI wH4043 (Or.inl (G_ne gaq gf1 (by decide)))) b4038
          have b4051 : WF (fun k => fI H4043 oq k) (fun k => fI H4043 aq k) (3000 + mn.toNatClampNeg) (3000 + x4007.toNatClampNeg) 0 EA := WF.congr (fun j => Wr.neI wH4043 (Or.inl (G_ne goq gf1 (by decide)))) (fun j => Wr.neI wH4043 (Or.inl (G_ne gaq gf1 (by decide)))) wa0
          have f4052 : ∀ j : Nat, j ≠ x1.toNatClampNeg → fI H4043 f9 j = fI s.heap f9 j := fun j hj => (Wr.neI wH4043 (Or.inl (G_ne gf9 gf1 (by decide)))).trans (f4020 j hj)
          have f4053 : ∀ j : Nat, j ≠ x1.toNatClampNeg → fI H4043 f0 j = fI s.heap f0 j := fun j hj => (Wr.neI wH4043 (Or.inl (G_ne gf0 gf1 (by decide)))).trans (f4021 j hj)
          have f4054 : ∀ j : Nat, j ≠ x1.toNatClampNeg → fI H4043 f1 j = fI s.heap f1 j := fun j hj => (Wr.neI wH4043 (Or.inr hj)).trans (f4022 j hj)
          have m4055 := m4023.trans (Wr.neI wH4043 (Or.inl (G_ne gq3664 gf1 (by decide)))).symm
          have m4056 := m4024.trans (Wr.neI wH4043 (Or.inl (G_ne gf9 gf1 (by decide)))).symm
          have m4057 := m4025.trans (Wr.neI wH4043 (Or.inl (G_ne gf0 gf1 (by decide)))).symm
          have m4058 := m4010.trans (Wr.neR wH4043 (Or.inl (G_ne ga0 gf1 (by decide)))).symm
          have m4059 := m4011.trans (Wr.neR wH4043 (Or.inl (G_ne ga0 gf1 (by decide)))).symm
          have m4060 := m4028.trans (Wr.neR wH4043 (Or.inl (G_ne ga0 gf1 (by decide)))).symm
          have m4061 := m4029.trans (Wr.neR wH4043 (Or.inl (G_ne ga0 gf1 (by decide)))).symm
          have m4062 := m4030.trans (Wr.neR wH4043 (Or.inl (G_ne ga0 gf1 (by decide)))).symm
          have m4063 := m4031.trans (Wr.neI wH4043 (Or.inl (G_ne ga0 gf1 (by decide)))).symm
          have m4064 := m4032.trans (Wr.neI wH4043 (Or.inl (G_ne ga0 gf1 (by decide)))).symm
          have m4065 := m4033.trans (Wr.neR wH4043 (Or.inl (G_ne ga0 gf1 (by decide)))).symm
          have m4066 := m4034.trans (Wr.neR wH4043 (Or.inl (G_ne ga0 gf1 (by decide)))).symm
          have m4067 := m4012.trans (Wr.neR wH4043 (Or.inl (G_ne ga0 gf1 (by decide)))).symm
          have m4068 := ex4003.trans (Wr.neI wH4043 (Or.inl (G_ne ga0 gf1 (by decide)))).symm
          have m4069 := ex4004.trans (Wr.neI wH4043 (Or.inl (G_ne ga0 gf1 (by decide)))).symm
          have m4070 := ex4005.trans (Wr.neI wH4043 (Or.inl (G_ne ga0 gf1 (by decide)))).symm
          have m4071 := ex4006.trans (Wr.neI wH4043 (Or.inl (G_ne ga0 gf1 (by decide)))).symm
          have m4072 := ex4007.trans (Wr.neI wH4043 (Or.inl (G_ne ga0 gf1 (by decide)))).symm
          have m4073 := ex4008.trans (Wr.neI wH4043 (Or.inl (G_ne ga0 gf1 (by decide)))).symm
          have m4074 := ex4009.trans (Wr.neI wH4043 (Or.inl (G_ne ga0 gf1 (by decide)))).symm
          have m4075 := Wr.I wH4043
          have m4075 := m4075.symm
          refine lv_aload_n hx hb dX10_readLine_98 rfl (lv_at hl3663 1 rfl) ?_
          refine lv_bipush (v := 59) hx hb dX10_readLine_99 (by decide) ?_
          refine x_V (As := [.int 59]) (rest := []) C (a_X10_isSign l K G H4043 (59) (x4005) (x4006) hTH4043 ga0 m4070 m4071) yo_X10_isSign wM_X10_249 ⟨⟨by decide, by decide⟩, by decide, by decide⟩ (x_rv C hTH4043 (ci := 10) rfl ga0 rg_112) rfl hl3663.1 rfl (Nat.le_of_ble_eq_true rfl) dX10_readLine_101 hSH4043 (AE_sub (fun _ _ => rfl) (by decide) hSH4043.1) (fun vH4076 H4076 locsH4076 pH4076 zH4076 kH4076 hSH4076 => ?_)
          obtain ⟨x4077, hvH4076, bx4077, hrH4076, hTH4076⟩ := pH4076
          subst hvH4076
          clear zH4076
          have mf4078 : MF K s.heap H4076 a0 [19, 20, 21, 22, 35, 36, 38, 39, 40] := MF.eff (x_lt hTH4043 kH4076 ga0 (by decide)) mf4044
          have b4079 : ∀ j : Nat, j < 3000 + mn.toNatClampNeg → fI H4076 oq j = fI s.heap oq j ∧ fI H4076 aq j = fI s.heap aq j := fun j hj => ⟨(fI_kept (x_lt hTH4043 kH4076 goq (by decide))).trans (b4049 j hj).1, (fI_kept (x_lt hTH4043 kH4076 gaq (by decide))).trans (b4049 j hj).2⟩
          have b4080 : WF (fun k => fI H4076 oq k) (fun k => fI H4076 aq k) (3000 + mn.toNatClampNeg) (3000 + mn.toNatClampNeg) 0 0 := WF.congr (fun j => fI_kept (x_lt hTH4043 kH4076 goq (by decide))) (fun j => fI_kept (x_lt hTH4043 kH4076 gaq (by decide))) b4050
          have b4081 : WF (fun k => fI H4076 oq k) (fun k => fI H4076 aq k) (3000 + mn.toNatClampNeg) (3000 + x4007.toNatClampNeg) 0 EA := WF.congr (fun j => fI_kept (x_lt hTH4043 kH4076 goq (by decide))) (fun j => fI_kept (x_lt hTH4043 kH4076 gaq (by decide))) b4051
          have g4082 : CG (avw K H4076 a0) := CG.congr (fun k hk j => av_eff hTH4043 kH4076 ga0 (by decide) (CG_eff [] (by decide) k hk)) g4045
          have g4083 : TU (avw K H4076 a0) (svw K H4076 a0) := TU.congr (fun k hk j => av_eff hTH4043 kH4076 ga0 (by decide) (TU_eff [] (by decide) k hk)) (fun k hk => sv_eff hTH4043 kH4076 ga0 (by decide)) g4046
          have g4084 : WD (avw K H4076 a0) := WD.congr (fun k hk j => av_eff hTH4043 kH4076 ga0 (by decide) (WD_eff [] (by decide) k hk)) g4047
          have g4085 : IM (avw K H4076 a0) := IM.congr (fun k hk j => av_eff hTH4043 kH4076 ga0 (by decide) (IM_eff [] (by decide) k hk)) g4048
          have f4086 : ∀ j : Nat, j ≠ x1.toNatClampNeg → fI H4076 f9 j = fI s.heap f9 j := fun j hj => (fI_kept (x_lt hTH4043 kH4076 gf9 (by decide))).trans (f4052 j hj)
          have f4087 : ∀ j : Nat, j ≠ x1.toNatClampNeg → fI H4076 f0 j = fI s.heap f0 j := fun j hj => (fI_kept (x_lt hTH4043 kH4076 gf0 (by decide))).trans (f4053 j hj)
          have f4088 : ∀ j : Nat, j ≠ x1.toNatClampNeg → fI H4076 f1 j = fI s.heap f1 j := fun j hj => (fI_kept (x_lt hTH4043 kH4076 gf1 (by decide))).trans (f4054 j hj)
          have m4089 := (m4055).trans (fI_kept (x_lt hTH4043 kH4076 gq3664 (by decide))).symm
          have m4090 := (m4056).trans (fI_kept (x_lt hTH4043 kH4076 gf9 (by decide))).symm
          have m4091 := (m4057).trans (fI_kept (x_lt hTH4043 kH4076 gf0 (by decide))).symm
          have m4092 := (m4058).trans (fR_kept (x_lt hTH4043 kH4076 ga0 (by decide))).symm
          have m4093 := (m4059).trans (fR_kept (x_lt hTH4043 kH4076 ga0 (by decide))).symm
          have m4094 := (m4060).trans (fR_kept (x_lt hTH4043 kH4076 ga0 (by decide))).symm
          have m4095 := (m4061).trans (fR_kept (x_lt hTH4043 kH4076 ga0 (by decide))).symm
          have m4096 := (m4062).trans (fR_kept (x_lt hTH4043 kH4076 ga0 (by decide))).symm
          have m4097 := (m4063).trans (fI_kept (x_lt hTH4043 kH4076 ga0 (by decide))).symm
          have m4098 := (m4064).trans (fI_kept (x_lt hTH4043 kH4076 ga0 (by decide))).symm
          have m4099 := (m4065).trans (fR_kept (x_lt hTH4043 kH4076 ga0 (by decide))).symm
          have m4100 := (m4066).trans (fR_kept (x_lt hTH4043 kH4076 ga0 (by decide))).symm
          have m4101 := (m4067).trans (fR_kept (x_lt hTH4043 kH4076 ga0 (by decide))).symm
          have m4102 := (m4068).trans (fI_kept (x_lt hTH4043 kH4076 ga0 (by decide))).symm
          have m4103 := (m4069).trans (fI_kept (x_lt hTH4043 kH4076 ga0 (by decide))).symm
          have m4104 := (m4070).trans (fI_kept (x_lt hTH4043 kH4076 ga0 (by decide))).symm
          have m4105 := (m4071).trans (fI_kept (x_lt hTH4043 kH4076 ga0 (by decide))).symm
          have m4106 := (m4072).trans (fI_kept (x_lt hTH4043 kH4076 ga0 (by decide))).symm
          have m4107 := (m4073).trans (fI_kept (x_lt hTH4043 kH4076 ga0 (by decide))).symm
          have m4108 := (m4074).trans (fI_kept (x_lt hTH4043 kH4076 ga0 (by decide))).symm
          have m4109 := (m4075).trans (fI_kept (x_lt hTH4043 kH4076 gf1 (by decide))).symm
          refine W.eq (g2 := F0 m 104 ls3662 [.int x4077]) rfl ?_
          refine lv_if_ne (tgt := 113) hx hb dX10_readLine_104 (by decide) (fun c4110 => ?_) (fun c4110 => ?_)
          · have k4111 := i_ne c4110
            replace hrH4076 := hrH4076.resolve_left (fun h => absurd h.1 (by omega))
            replace z3H4001 := z3H4001.resolve_left (by omega)
            refine lv_aload_n hx hb dX10_readLine_113 rfl (lv_at hl3663 1 rfl) ?_
            refine x_V (As := []) (rest := []) C (a_X10_reads l K G H4076 (x4003) (x4004) (x4005) (x4006) (tp) hTH4076 ga0 gq3689 m4100 m4102 m4103 m4104 m4105 m4097 g4082 g4083 g4084 g4085 (by and_intros <;> first | assumption | omega)) yo_X10_reads wM_X10_242 ⟨⟨by decide, by decide⟩, by decide, by decide⟩ (x_rv C hTH4076 (ci := 10) rfl ga0 rg_112) rfl hl3663.1 rfl (Nat.le_of_ble_eq_true rfl) dX10_readLine_114 hSH4076 (AE_sub (fun _ _ => rfl) (by decide) hSH4076.1) (fun vH4112 H4112 locsH4112 pH4112 zH4112 kH4112 hSH4112 => ?_)
            obtain ⟨x4113, x4114, x4115, x4116, hvH4112, ex4113, ex4114, ex4115, ex4116, hrH4112, m4117, g4118, g4119, g4120, g4121, mf4122, hTH4112⟩ := pH4112
            subst hvH4112
            clear zH4112
            replace m4117 := EQN.mk m4117
            have b4123 : ∀ j : Nat, j < 3000 + mn.toNatClampNeg → fI H4112 oq j = fI s.heap oq j ∧ fI H4112 aq j = fI s.heap aq j := fun j hj => ⟨(fI_kept (x_lt hTH4076 kH4112 goq (by decide))).trans (b4079 j hj).1, (fI_kept (x_lt hTH4076 kH4112 gaq (by decide))).trans (b4079 j hj).2⟩
            have b4124 : WF (fun k => fI H4112 oq k) (fun k => fI H4112 aq k) (3000 + mn.toNatClampNeg) (3000 + mn.toNatClampNeg) 0 0 := WF.congr (fun j => fI_kept (x_lt hTH4076 kH4112 goq (by decide))) (fun j => fI_kept (x_lt hTH4076 kH4112 gaq (by decide))) b4080
            have b4125 : WF (fun k => fI H4112 oq k) (fun k => fI H4112 aq k) (3000 + mn.toNatClampNeg) (3000 + x4007.toNatClampNeg) 0 EA := WF.congr (fun j => fI_kept (x_lt hTH4076 kH4112 goq (by decide))) (fun j => fI_kept (x_lt hTH4076 kH4112 gaq (by decide))) b4081
            have f4126 : ∀ j : Nat, j ≠ x1.toNatClampNeg → fI H4112 f9 j = fI s.heap f9 j := fun j hj => (fI_kept (x_lt hTH4076 kH4112 gf9 (by decide))).trans (f4086 j hj)
            have f4127 : ∀ j : Nat, j ≠ x1.toNatClampNeg → fI H4112 f0 j = fI s.heap f0 j := fun j hj => (fI_kept (x_lt hTH4076 kH4112 gf0 (by decide))).trans (f4087 j hj)
            have f4128 : ∀ j : Nat, j ≠ x1.toNatClampNeg → fI H4112 f1 j = fI s.heap f1 j := fun j hj => (fI_kept (x_lt hTH4076 kH4112 gf1 (by decide))).trans (f4088 j hj)
            have m4129 := (m4089).trans (fI_kept (x_lt hTH4076 kH4112 gq3664 (by decide))).symm
            have m4130 := (m4090).trans (fI_kept (x_lt hTH4076 kH4112 gf9 (by decide))).symm
            have m4131 := (m4091).trans (fI_kept (x_lt hTH4076 kH4112 gf0 (by decide))).symm
            have m4132 := (m4109).trans (fI_kept (x_lt hTH4076 kH4112 gf1 (by decide))).symm
            have m4133 := (m4092).trans (MF.r mf4122 (k := 32) (by decide) (by decide)).symm
            have m4134 := (m4093).trans (MF.r mf4122 (k := 33) (by decide) (by decide)).symm
            have m4135 := (m4094).trans (MF.r mf4122 (k := 29) (by decide) (by decide)).symm
            have m4136 := (m4095).trans (MF.r mf4122 (k := 30) (by decide) (by decide)).symm
            have m4137 := (m4096).trans (MF.r mf4122 (k := 31) (by decide) (by decide)).symm
            have m4138 := (m4097).trans (MF.i mf4122 (k := 18) (by decide) (by decide)).symm
            have m4139 := (m4098).trans (MF.i mf4122 (k := 34) (by decide) (by decide)).symm
            have m4140 := (m4099).trans (MF.r mf4122 (k := 25) (by decide) (by decide)).symm
            have m4141 := (m4100).trans (MF.r mf4122 (k := 17) (by decide) (by decide)).symm
            have m4142 := (m4101).trans (MF.r mf4122 (k := 37) (by decide) (by decide)).symm
            have m4143 := (m4106).trans (MF.i mf4122 (k := 35) (by decide) (by decide)).symm
            have m4144 := (m4107).trans (MF.i mf4122 (k := 36) (by decide) (by decide)).symm
            have m4145 := (m4108).trans (MF.i mf4122 (k := 38) (by decide) (by decide)).symm
            have mf4146 : MF K s.heap H4112 a0 [19, 20, 21, 22, 35, 36, 38, 39, 40] := MF.trans mf4078 mf4122 (by decide)
            have bx4113 := ty_fi (x := x4113) (k := 19) ex4113 hTH4112 ga0 rg_112 rfl
            have bx4114 := ty_fi (x := x4114) (k := 20) ex4114 hTH4112 ga0 rg_112 rfl
            have bx4115 := ty_fi (x := x4115) (k := 21) ex4115 hTH4112 ga0 rg_112 rfl
            have bx4116 := ty_fi (x := x4116) (k := 22) ex4116 hTH4112 ga0 rg_112 rfl
            obtain ⟨r1H4112, r2H4112, r3H4112, r4H4112, r5H4112, r6H4112, r7H4112⟩ := hrH4112
            clear z3H4001 z4H4001
            refine W.eq (g2 := F0 m 117 ls3662 []) rfl ?_
            refine lv_iconst (v := 0) hx hb dX10_readLine_117 (by decide) ?_
            have cx_x4007 := i_cl (x := x4007) (by omega)
            exact x_iret C hQ dX10_readLine_118 hSH4112 (by decide) (by decide) (⟨0, x4113, x4114, x4115, x4116, x4007, rfl, by decide, ex4113, ex4114, ex4115, ex4116, m4143, Or.inr (by and_intros <;> first | assumption | omega), m4133, m4134, m4135, m4136, m4137, g4118, g4119, g4120, g4121, mf4146, b4123, f4126, f4127, f4128, Or.inr (LNW.mk (a := fun k => fI H4112 f9 k) (b := fun k => fI H4112 f0 k) (c := fun k => fI H4112 f1 k) m4130 m4131 m4132 (by omega) (by omega) (by omega) (by omega) (WF.cast b4124 (by omega) (by omega)) (WF.cast b4125 (by omega) (by omega))), hTH4112⟩)
          · have k4111 := i_eq c4110
            refine lv_aload_n hx hb dX10_readLine_107 rfl (lv_at hl3663 1 rfl) ?_
            refine lv_iconst (v := 1) hx hb dX10_readLine_108 (by decide) ?_
            refine x_V (As := [.int 1]) (rest := []) C (a_X10_fails l K G H4076 (1) hTH4076 ga0 g4082 g4083 g4084 g4085) yo_X10_fails wM_X10_235 ⟨⟨by decide, by decide⟩, by decide, by decide⟩ (x_rv C hTH4076 (ci := 10) rfl ga0 rg_112) rfl hl3663.1 rfl (Nat.le_of_ble_eq_true rfl) dX10_readLine_109 hSH4076 (AE_sub (fun _ _ => rfl) (by decide) hSH4076.1) (fun vH4147 H4147 locsH4147 pH4147 zH4147 kH4147 hSH4147 => ?_)
            obtain ⟨x4148, hvH4147, bx4148, g4149, g4150, g4151, g4152, mf4153, hTH4147⟩ := pH4147
            subst hvH4147
            clear zH4147
            have b4154 : ∀ j : Nat, j < 3000 + mn.toNatClampNeg → fI H4147 oq j = fI s.heap oq j ∧ fI H4147 aq j = fI s.heap aq j := fun j hj => ⟨(fI_kept (x_lt hTH4076 kH4147 goq (by decide))).trans (b4079 j hj).1, (fI_kept (x_lt hTH4076 kH4147 gaq (by decide))).trans (b4079 j hj).2⟩
            have b4155 : WF (fun k => fI H4147 oq k) (fun k => fI H4147 aq k) (3000 + mn.toNatClampNeg) (3000 + mn.toNatClampNeg) 0 0 := WF.congr (fun j => fI_kept (x_lt hTH4076 kH4147 goq (by decide))) (fun j => fI_kept (x_lt hTH4076 kH4147 gaq (by decide))) b4080
            have b4156 : WF (fun k => fI H4147 oq k) (fun k => fI H4147 aq k) (3000 + mn.toNatClampNeg) (3000 + x4007.toNatClampNeg) 0 EA := WF.congr (fun j => fI_kept (x_lt hTH4076 kH4147 goq (by decide))) (fun j => fI_kept (x_lt hTH4076 kH4147 gaq (by decide))) b4081
            have f4157 : ∀ j : Nat, j ≠ x1.toNatClampNeg → fI H4147 f9 j = fI s.heap f9 j := fun j hj => (fI_kept (x_lt hTH4076 kH4147 gf9 (by decide))).trans (f4086 j hj)
            have f4158 : ∀ j : Nat, j ≠ x1.toNatClampNeg → fI H4147 f0 j = fI s.heap f0 j := fun j hj => (fI_kept (x_lt hTH4076 kH4147 gf0 (by decide))).trans (f4087 j hj)
            have f4159 : ∀ j : Nat, j ≠ x1.toNatClampNeg → fI H4147 f1 j = fI s.heap f1 j := fun j hj => (fI_kept (x_lt hTH4076 kH4147 gf1 (by decide))).trans (f4088 j hj)
            have m4160 := (m4089).trans (fI_kept (x_lt hTH4076 kH4147 gq3664 (by decide))).symm
            have m4161 := (m4090).trans (fI_kept (x_lt hTH4076 kH4147 gf9 (by decide))).symm
            have m4162 := (m4091).trans (fI_kept (x_lt hTH4076 kH4147 gf0 (by decide))).symm
            have m4163 := (m4109).trans (fI_kept (x_lt hTH4076 kH4147 gf1 (by decide))).symm
            have m4164 := (m4092).trans (MF.r mf4153 (k := 32) (by decide) (by decide)).symm
            have m4165 := (m4093).trans (MF.r mf4153 (k := 33) (by decide) (by decide)).symm
            have m4166 := (m4094).trans (MF.r mf4153 (k := 29) (by decide) (by decide)).symm
            have m4167 := (m4095).trans (MF.r mf4153 (k := 30) (by decide) (by decide)).symm
            have m4168 := (m4096).trans (MF.r mf4153 (k := 31) (by decide) (by decide)).symm
            have m4169 := (m4097).trans (MF.i mf4153 (k := 18) (by decide) (by decide)).symm
            have m4170 := (m4098).trans (MF.i mf4153 (k := 34) (by decide) (by decide)).symm
            have m4171 := (m4099).trans (MF.r mf4153 (k := 25) (by decide) (by decide)).symm
            have m4172 := (m4100).trans (MF.r mf4153 (k := 17) (by decide) (by decide)).symm
            have m4173 := (m4101).trans (MF.r mf4153 (k := 37) (by decide) (by decide)).symm
            have m4174 := (m4102).trans (MF.i mf4153 (k := 19) (by decide) (by decide)).symm
            have m4175 := (m4103).trans (MF.i mf4153 (k := 20) (by decide) (by decide)).symm
            have m4176 := (m4104).trans (MF.i mf4153 (k := 21) (by decide) (by decide)).symm
            have m4177 := (m4105).trans (MF.i mf4153 (k := 22) (by decide) (by decide)).symm
            have m4178 := (m4106).trans (MF.i mf4153 (k := 35) (by decide) (by decide)).symm
            have m4179 := (m4107).trans (MF.i mf4153 (k := 36) (by decide) (by decide)).symm
            have m4180 := (m4108).trans (MF.i mf4153 (k := 38) (by decide) (by decide)).symm
            have mf4181 : MF K s.heap H4147 a0 [19, 20, 21, 22, 35, 36, 38, 39, 40] := MF.trans mf4078 mf4153 (by decide)
            refine W.eq (g2 := F0 m 112 ls3662 [.int x4148]) rfl ?_
            exact x_iret C hQ dX10_readLine_112 hSH4147 (by decide) (by decide) (⟨x4148, x4003, x4004, x4005, x4006, x4007, rfl, by omega, m4174, m4175, m4176, m4177, m4178, Or.inl (by omega), m4164, m4165, m4166, m4167, m4168, g4149, g4150, g4151, g4152, mf4181, b4154, f4157, f4158, f4159, Or.inl (by omega), hTH4147⟩)
        · have k4040 := i_eq c4039
          refine lv_iconst (v := (-1)) hx hb dX10_readLine_86 (by decide) ?_
          exact x_iret C hQ dX10_readLine_87 hSH4001 (by decide) (by decide) (⟨(-1), x4003, x4004, x4005, x4006, x4007, rfl, by decide, ex4003, ex4004, ex4005, ex4006, ex4007, Or.inl (by omega), m4010, m4011, m4028, m4029, m4030, g4013, g4014, g4015, g4016, mf4036, b4037, f4020, f4021, f4022, Or.inl (by omega), hTH4001⟩)
    · have k3777 := i_eq c3776
      refine lv_aload_n hx hb dX10_readLine_45 rfl (lv_at hl3663 1 rfl) ?_
      refine x_V (As := []) (rest := []) C (a_X10_readSum l K G H3749 (x3719) (x3720) (x3721) (x3722) (mn) (tp) (jb) hTH3749 ga0 goq m3760 gaq m3761 m3770 m3771 m3772 m3773 m3765 m3766 m3767 g3751 g3752 g3753 g3754 (by and_intros <;> first | assumption | omega) (by and_intros <;> first | assumption | omega)) yo_X10_readSum wM_X10_255 ⟨⟨by decide, by decide⟩, by decide, by decide⟩ (x_rv C hTH3749 (ci := 10) rfl ga0 rg_112) rfl hl3663.1 rfl (Nat.le_of_ble_eq_true rfl) dX10_readLine_46 hSH3749 (AE_sub (fun _ _ => rfl) (by decide) hSH3749.1) (fun vH4182 H4182 locsH4182 pH4182 zH4182 kH4182 hSH4182 => ?_)
      obtain ⟨x4183, x4184, x4185, x4186, x4187, x4188, hvH4182, bx4183, ex4184, ex4185, ex4186, ex4187, ex4188, hrH4182, m4189, m4190, g4191, g4192, g4193, g4194, mf4195, m4196, m4197, hTH4182⟩ := pH4182
      subst hvH4182
      clear zH4182
      replace m4189 := EQN.mk m4189
      replace m4190 := EQN.mk m4190
      have f4198 : ∀ j : Nat, j ≠ x1.toNatClampNeg → fI H4182 f9 j = fI s.heap f9 j := fun j hj => (fI_kept (x_lt hTH3749 kH4182 gf9 (by decide))).trans (f3756 j hj)
      have f4199 : ∀ j : Nat, j ≠ x1.toNatClampNeg → fI H4182 f0 j = fI s.heap f0 j := fun j hj => (fI_kept (x_lt hTH3749 kH4182 gf0 (by decide))).trans (f3757 j hj)
      have f4200 : ∀ j : Nat, j ≠ x1.toNatClampNeg → fI H4182 f1 j = fI s.heap f1 j := fun j hj => (fI_kept (x_lt hTH3749 kH4182 gf1 (by decide))).trans (f3758 j hj)
      have m4201 := (m3759).trans (fI_kept (x_lt hTH3749 kH4182 gq3664 (by decide))).symm
      have m4202 := (m3774).trans (fI_kept (x_lt hTH3749 kH4182 gf9 (by decide))).symm
      have m4203 := (m3760).trans (MF.r mf4195 (k := 32) (by decide) (by decide)).symm
      have m4204 := (m3761).trans (MF.r mf4195 (k := 33) (by decide) (by decide)).symm
      have m4205 := (m3762).trans (MF.r mf4195 (k := 29) (by decide) (by decide)).symm
      have m4206 := (m3763).trans (MF.r mf4195 (k := 30) (by decide) (by decide)).symm
      have m4207 := (m3764).trans (MF.r mf4195 (k := 31) (by decide) (by decide)).symm
      have m4208 := (m3766).trans (MF.i mf4195 (k := 18) (by decide) (by decide)).symm
      have m4209 := (m3767).trans (MF.i mf4195 (k := 34) (by decide) (by decide)).symm
      have m4210 := (m3768).trans (MF.r mf4195 (k := 25) (by decide) (by decide)).symm
      have m4211 := (m3769).trans (MF.r mf4195 (k := 17) (by decide) (by decide)).symm
      have mf4212 : MF K s.heap H4182 a0 [19, 20, 21, 22, 35, 36, 38, 39, 40] := MF.trans mf3750 mf4195 (by decide)
      have bx4184 := ty_fi (x := x4184) (k := 19) ex4184 hTH4182 ga0 rg_112 rfl
      have bx4185 := ty_fi (x := x4185) (k := 20) ex4185 hTH4182 ga0 rg_112 rfl
      have bx4186 := ty_fi (x := x4186) (k := 21) ex4186 hTH4182 ga0 rg_112 rfl
      have bx4187 := ty_fi (x := x4187) (k := 22) ex4187 hTH4182 ga0 rg_112 rfl
      have bx4188 := ty_fi (x := x4188) (k := 35) ex4188 hTH4182 ga0 rg_112 rfl
      have b4213 : ∀ j : Nat, j < 3000 + mn.toNatClampNeg → fI H4182 oq j = fI s.heap oq j ∧ fI H4182 aq j = fI s.heap aq j := fun j hj => ⟨(m4196 j (by omega)).1.trans (b3755 j hj).1, (m4196 j (by omega)).2.trans (b3755 j hj).2⟩
      refine W.eq (g2 := F0 m 49 ls3662 [.int x4183]) rfl ?_
      refine lv_iconst (v := (-1)) hx hb dX10_readLine_49 (by decide) ?_
      refine lv_icmp_ne (tgt := 55) hx hb dX10_readLine_50 (by decide) (fun c4214 => ?_) (fun c4214 => ?_)
      · have k4215 := i_ne c4214
        replace hrH4182 := hrH4182.resolve_left (by omega)
        obtain ⟨rzH4182, z1H4182, z2H4182, z3H4182, z4H4182, y1H4182, y2H4182, y3H4182⟩ := hrH4182
        clear z3H3717 z4H3717
        have ws0 : WF (fun k => fI H4182 oq k) (fun k => fI H4182 aq k) (3000 + mn.toNatClampNeg) (3000 + x4188.toNatClampNeg) 0 1 := by
          rcases m4197 with h | h
          · exfalso; omega
          · exact h
        refine lv_aload_n hx hb dX10_readLine_55 rfl (lv_at hl3663 1 rfl) ?_
        refine x_gr C hTH4182 (ci := 10) (k := 30) rfl inX10 (by decide) wF_X10_77 ga0 rg_112 rfl dX10_readLine_56 (fun q4216 eq4216 gq4216 => ?_)
        have uq4216 : f0 = q4216 := (m4206).trans eq4216.symm
        subst uq4216
        clear eq4216
        refine lv_iload_n hx hb dX10_readLine_59 rfl (lv_at hl3663 2 rfl) ?_
        refine lv_aload_n hx hb dX10_readLine_60 rfl (lv_at hl3663 1 rfl) ?_
        refine x_gi C hTH4182 (ci := 10) (k := 35) rfl inX10 (by decide) wF_X10_228 ga0 rg_112 rfl dX10_readLine_61 (fun x4217 ex4217 bx4217 => ?_)
        have ux4217 : x4188 = x4217 := (ex4188).trans ex4217.symm
        subst ux4217
        refine x_iast C hTH4182 hSH4182 gf0 rg_134 (by omega) (by show _ < ((112 : Nat) : Int); omega) ⟨by have := i_rng x4188; omega, by have := i_rng x4188; omega⟩ (AE_in gf0 (by decide)) dX10_readLine_64 (fun H4218 locsH4218 hTH4218 hSH4218 wH4218 => ?_)
        have mf4219 : MF K s.heap H4218 a0 [19, 20, 21, 22, 35, 36, 38, 39, 40] := MF.arr wH4218 (G_ne ga0 gf0 (by decide)) mf4212
        have g4220 : CG (avw K H4218 a0) := CG.putL hTH4182 ga0 wH4218 gf0 (by decide) (by omega) g4191
        have g4221 : TU (avw K H4218 a0) (svw K H4218 a0) := TU.congr (fun k hk j => av_arr hTH4182 ga0 wH4218 gf0 (by decide) (TU_ok 134 (by decide) k hk)) (fun k hk => sv_arr ga0 wH4218 gf0 (by decide)) g4192
        have g4222 : WD (avw K H4218 a0) := WD.congr (fun k hk j => av_arr hTH4182 ga0 wH4218 gf0 (by decide) (WD_ok 134 (by decide) k hk)) g4193
        have g4223 : IM (avw K H4218 a0) := IM.congr (fun k hk j => av_arr hTH4182 ga0 wH4218 gf0 (by decide) (IM_ok 134 (by decide) k hk)) g4194
        have b4224 : ∀ j : Nat, j < 3000 + mn.toNatClampNeg → fI H4218 oq j = fI s.heap oq j ∧ fI H4218 aq j = fI s.heap aq j := fun j hj => ⟨(Wr.neI wH4218 (Or.inl (G_ne goq gf0 (by decide)))).trans (b4213 j hj).1, (Wr.neI wH4218 (Or.inl (G_ne gaq gf0 (by decide)))).trans (b4213 j hj).2⟩
        have b4225 : WF (fun k => fI H4218 oq k) (fun k => fI H4218 aq k) (3000 + mn.toNatClampNeg) (3000 + x4188.toNatClampNeg) 0 1 := WF.congr (fun j => Wr.neI wH4218 (Or.inl (G_ne goq gf0 (by decide)))) (fun j => Wr.neI wH4218 (Or.inl (G_ne gaq gf0 (by decide)))) ws0
        have f4226 : ∀ j : Nat, j ≠ x1.toNatClampNeg → fI H4218 f9 j = fI s.heap f9 j := fun j hj => (Wr.neI wH4218 (Or.inl (G_ne gf9 gf0 (by decide)))).trans (f4198 j hj)
        have f4227 : ∀ j : Nat, j ≠ x1.toNatClampNeg → fI H4218 f0 j = fI s.heap f0 j := fun j hj => (Wr.neI wH4218 (Or.inr hj)).trans (f4199 j hj)
        have f4228 : ∀ j : Nat, j ≠ x1.toNatClampNeg → fI H4218 f1 j = fI s.heap f1 j := fun j hj => (Wr.neI wH4218 (Or.inl (G_ne gf1 gf0 (by decide)))).trans (f4200 j hj)
        have m4229 := m4201.trans (Wr.neI wH4218 (Or.inl (G_ne gq3664 gf0 (by decide)))).symm
        have m4230 := m4202.trans (Wr.neI wH4218 (Or.inl (G_ne gf9 gf0 (by decide)))).symm
        have m4231 := m4189.trans (Wr.neR wH4218 (Or.inl (G_ne ga0 gf0 (by decide)))).symm
        have m4232 := m4190.trans (Wr.neR wH4218 (Or.inl (G_ne ga0 gf0 (by decide)))).symm
        have m4233 := m4205.trans (Wr.neR wH4218 (Or.inl (G_ne ga0 gf0 (by decide)))).symm
        have m4234 := m4206.trans (Wr.neR wH4218 (Or.inl (G_ne ga0 gf0 (by decide)))).symm
        have m4235 := m4207.trans (Wr.neR wH4218 (Or.inl (G_ne ga0 gf0 (by decide)))).symm
        have m4236 := m4208.trans (Wr.neI wH4218 (Or.inl (G_ne ga0 gf0 (by decide)))).symm
        have m4237 := m4209.trans (Wr.neI wH4218 (Or.inl (G_ne ga0 gf0 (by decide)))).symm
        have m4238 := m4210.trans (Wr.neR wH4218 (Or.inl (G_ne ga0 gf0 (by decide)))).symm
        have m4239 := m4211.trans (Wr.neR wH4218 (Or.inl (G_ne ga0 gf0 (by decide)))).symm
        have m4240 := ex4184.trans (Wr.neI wH4218 (Or.inl (G_ne ga0 gf0 (by decide)))).symm
        have m4241 := ex4185.trans (Wr.neI wH4218 (Or.inl (G_ne ga0 gf0 (by decide)))).symm
        have m4242 := ex4186.trans (Wr.neI wH4218 (Or.inl (G_ne ga0 gf0 (by decide)))).symm
        have m4243 := ex4187.trans (Wr.neI wH4218 (Or.inl (G_ne ga0 gf0 (by decide)))).symm
        have m4244 := ex4188.trans (Wr.neI wH4218 (Or.inl (G_ne ga0 gf0 (by decide)))).symm
        have m4245 := Wr.I wH4218
        have m4245 := m4245.symm
        refine lv_aload_n hx hb dX10_readLine_65 rfl (lv_at hl3663 1 rfl) ?_
        refine lv_bipush (v := 6) hx hb dX10_readLine_66 (by decide) ?_
        refine x_V (As := [.int 6]) (rest := []) C (a_X10_isWord l K G H4218 (6) (x4186) (x4187) hTH4218 ga0 m4242 m4243) yo_X10_isWord wM_X10_264 ⟨⟨by decide, by decide⟩, by decide, by decide⟩ (x_rv C hTH4218 (ci := 10) rfl ga0 rg_112) rfl hl3663.1 rfl (Nat.le_of_ble_eq_true rfl) dX10_readLine_68 hSH4218 (AE_sub (fun _ _ => rfl) (by decide) hSH4218.1) (fun vH4246 H4246 locsH4246 pH4246 zH4246 kH4246 hSH4246 => ?_)
        obtain ⟨x4247, hvH4246, bx4247, hrH4246, hTH4246⟩ := pH4246
        subst hvH4246
        clear zH4246
        have mf4248 : MF K s.heap H4246 a0 [19, 20, 21, 22, 35, 36, 38, 39, 40] := MF.eff (x_lt hTH4218 kH4246 ga0 (by decide)) mf4219
        have b4249 : ∀ j : Nat, j < 3000 + mn.toNatClampNeg → fI H4246 oq j = fI s.heap oq j ∧ fI H4246 aq j = fI s.heap aq j := fun j hj => ⟨(fI_kept (x_lt hTH4218 kH4246 goq (by decide))).trans (b4224 j hj).1, (fI_kept (x_lt hTH4218 kH4246 gaq (by decide))).trans (b4224 j hj).2⟩
        have b4250 : WF (fun k => fI H4246 oq k) (fun k => fI H4246 aq k) (3000 + mn.toNatClampNeg) (3000 + x4188.toNatClampNeg) 0 1 := WF.congr (fun j => fI_kept (x_lt hTH4218 kH4246 goq (by decide))) (fun j => fI_kept (x_lt hTH4218 kH4246 gaq (by decide))) b4225
        have g4251 : CG (avw K H4246 a0) := CG.congr (fun k hk j => av_eff hTH4218 kH4246 ga0 (by decide) (CG_eff [] (by decide) k hk)) g4220
        have g4252 : TU (avw K H4246 a0) (svw K H4246 a0) := TU.congr (fun k hk j => av_eff hTH4218 kH4246 ga0 (by decide) (TU_eff [] (by decide) k hk)) (fun k hk => sv_eff hTH4218 kH4246 ga0 (by decide)) g4221
        have g4253 : WD (avw K H4246 a0) := WD.congr (fun k hk j => av_eff hTH4218 kH4246 ga0 (by decide) (WD_eff [] (by decide) k hk)) g4222
        have g4254 : IM (avw K H4246 a0) := IM.congr (fun k hk j => av_eff hTH4218 kH4246 ga0 (by decide) (IM_eff [] (by decide) k hk)) g4223
        have f4255 : ∀ j : Nat, j ≠ x1.toNatClampNeg → fI H4246 f9 j = fI s.heap f9 j := fun j hj => (fI_kept (x_lt hTH4218 kH4246 gf9 (by decide))).trans (f4226 j hj)
        have f4256 : ∀ j : Nat, j ≠ x1.toNatClampNeg → fI H4246 f0 j = fI s.heap f0 j := fun j hj => (fI_kept (x_lt hTH4218 kH4246 gf0 (by decide))).trans (f4227 j hj)
        have f4257 : ∀ j : Nat, j ≠ x1.toNatClampNeg → fI H4246 f1 j = fI s.heap f1 j := fun j hj => (fI_kept (x_lt hTH4218 kH4246 gf1 (by decide))).trans (f4228 j hj)
        have m4258 := (m4229).trans (fI_kept (x_lt hTH4218 kH4246 gq3664 (by decide))).symm
        have m4259 := (m4230).trans (fI_kept (x_lt hTH4218 kH4246 gf9 (by decide))).symm
        have m4260 := (m4231).trans (fR_kept (x_lt hTH4218 kH4246 ga0 (by decide))).symm
        have m4261 := (m4232).trans (fR_kept (x_lt hTH4218 kH4246 ga0 (by decide))).symm
        have m4262 := (m4233).trans (fR_kept (x_lt hTH4218 kH4246 ga0 (by decide))).symm
        have m4263 := (m4234).trans (fR_kept (x_lt hTH4218 kH4246 ga0 (by decide))).symm
        have m4264 := (m4235).trans (fR_kept (x_lt hTH4218 kH4246 ga0 (by decide))).symm
        have m4265 := (m4236).trans (fI_kept (x_lt hTH4218 kH4246 ga0 (by decide))).symm
        have m4266 := (m4237).trans (fI_kept (x_lt hTH4218 kH4246 ga0 (by decide))).symm
        have m4267 := (m4238).trans (fR_kept (x_lt hTH4218 kH4246 ga0 (by decide))).symm
        have m4268 := (m4239).trans (fR_kept (x_lt hTH4218 kH4246 ga0 (by decide))).symm
        have m4269 := (m4240).trans (fI_kept (x_lt hTH4218 kH4246 ga0 (by decide))).symm
        have m4270 := (m4241).trans (fI_kept (x_lt hTH4218 kH4246 ga0 (by decide))).symm
        have m4271 := (m4242).trans (fI_kept (x_lt hTH4218 kH4246 ga0 (by decide))).symm
        have m4272 := (m4243).trans (fI_kept (x_lt hTH4218 kH4246 ga0 (by decide))).symm
        have m4273 := (m4244).trans (fI_kept (x_lt hTH4218 kH4246 ga0 (by decide))).symm
        have m4274 := (m4245).trans (fI_kept (x_lt hTH4218 kH4246 gf0 (by decide))).symm
        refine W.eq (g2 := F0 m 71 ls3662 [.int x4247]) rfl ?_
        refine lv_if_eq (tgt := 88) hx hb dX10_readLine_71 (by decide) (fun c4275 => ?_) (fun c4275 => ?_)
        · have k4276 := i_eq c4275
          clear hrH4246
          have wa0 : WF (fun k => fI H4246 oq k) (fun k => fI H4246 aq k) (3000 + x4188.toNatClampNeg) (3000 + x4188.toNatClampNeg) 0 0 := WF.nil
          refine lv_aload_n hx hb dX10_readLine_88 rfl (lv_at hl3663 1 rfl) ?_
          refine x_gr C hTH4246 (ci := 10) (k := 31) rfl inX10 (by decide) wF_X10_80 ga0 rg_112 rfl dX10_readLine_89 (fun q4277 eq4277 gq4277 => ?_)
          have uq4277 : f1 = q4277 := (m4264).trans eq4277.symm
          subst uq4277
          clear eq4277
          refine lv_iload_n hx hb dX10_readLine_92 rfl (lv_at hl3663 2 rfl) ?_
          refine lv_aload_n hx hb dX10_readLine_93 rfl (lv_at hl3663 1 rfl) ?_
          refine x_gi C hTH4246 (ci := 10) (k := 35) rfl inX10 (by decide) wF_X10_228 ga0 rg_112 rfl dX10_readLine_94 (fun x4278 ex4278 bx4278 => ?_)
          have ux4278 : x4188 = x4278 := (m4273).trans ex4278.symm
          subst ux4278
          refine x_iast C hTH4246 hSH4246 gf1 rg_135 (by omega) (by show _ < ((112 : Nat) : Int); omega) ⟨by have := i_rng x4188; omega, by have := i_rng x4188; omega⟩ (AE_in gf1 (by decide)) dX10_readLine_97 (fun H4279 locsH4279 hTH4279 hSH4279 wH4279 => ?_)
          have mf4280 : MF K s.heap H4279 a0 [19, 20, 21, 22, 35, 36, 38, 39, 40] := MF.arr wH4279 (G_ne ga0 gf1 (by decide)) mf4248
          have g4281 : CG (avw K H4279 a0) := CG.putL hTH4246 ga0 wH4279 gf1 (by decide) (by omega) g4251
          have g4282 : TU (avw K H4279 a0) (svw K H4279 a0) := TU.congr (fun k hk j => av_arr hTH4246 ga0 wH4279 gf1 (by decide) (TU_ok 135 (by decide) k hk)) (fun k hk => sv_arr ga0 wH4279 gf1 (by decide)) g4252
          have g4283 : WD (avw K H4279 a0) := WD.congr (fun k hk j => av_arr hTH4246 ga0 wH4279 gf1 (by decide) (WD_ok 135 (by decide) k hk)) g4253
          have g4284 : IM (avw K H4279 a0) := IM.congr (fun k hk j => av_arr hTH4246 ga0 wH4279 gf1 (by decide) (IM_ok 135 (by decide) k hk)) g4254
          have b4285 : ∀ j : Nat, j < 3000 + mn.toNatClampNeg → fI H4279 oq j = fI s.heap oq j ∧ fI H4279 aq j = fI s.heap aq j := fun j hj => ⟨(Wr.neI wH4279 (Or.inl (G_ne goq gf1 (by decide)))).trans (b4249 j hj).1, (Wr.neI wH4279 (Or.inl (G_ne gaq gf1 (by decide)))).trans (b4249 j hj).2⟩
          have b4286 : WF (fun k => fI H4279 oq k) (fun k => fI H4279 aq k) (3000 + mn.toNatClampNeg) (3000 + x4188.toNatClampNeg) 0 1 := WF.congr (fun j => Wr.neI wH4279 (Or.inl (G_ne goq gf1 (by decide)))) (fun j => Wr.neI wH4279 (Or.inl (G_ne gaq gf1 (by decide)))) b4250
          have b4287 : WF (fun k => fI H4279 oq k) (fun k => fI H4279 aq k) (3000 + x4188.toNatClampNeg) (3000 + x4188.toNatClampNeg) 0 0 := WF.congr (fun j => Wr.neI wH4279 (Or.inl (G_ne goq gf1 (by decide)))) (fun j => Wr.neI wH4279 (Or.inl (G_ne gaq gf1 (by decide)))) wa0
          have f4288 : ∀ j : Nat, j ≠ x1.toNatClampNeg → fI H4279 f9 j = fI s.heap f9 j := fun j hj => (Wr.neI wH4279 (Or.inl (G_ne gf9 gf1 (by decide)))).trans (f4255 j hj)
          have f4289 : ∀ j : Nat, j ≠ x1.toNatClampNeg → fI H4279 f0 j = fI s.heap f0 j := fun j hj => (Wr.neI wH4279 (Or.inl (G_ne gf0 gf1 (by decide)))).trans (f4256 j hj)
          have f4290 : ∀ j : Nat, j ≠ x1.toNatClampNeg → fI H4279 f1 j = fI s.heap f1 j := fun j hj => (Wr.neI wH4279 (Or.inr hj)).trans (f4257 j hj)
          have m4291 := m4258.trans (Wr.neI wH4279 (Or.inl (G_ne gq3664 gf1 (by decide)))).symm
          have m4292 := m4259.trans (Wr.neI wH4279 (Or.inl (G_ne gf9 gf1 (by decide)))).symm
          have m4293 := m4260.trans (Wr.neR wH4279 (Or.inl (G_ne ga0 gf1 (by decide)))).symm
          have m4294 := m4261.trans (Wr.neR wH4279 (Or.inl (G_ne ga0 gf1 (by decide)))).symm
          have m4295 := m4262.trans (Wr.neR wH4279 (Or.inl (G_ne ga0 gf1 (by decide)))).symm
          have m4296 := m4263.trans (Wr.neR wH4279 (Or.inl (G_ne ga0 gf1 (by decide)))).symm
          have m4297 := m4264.trans (Wr.neR wH4279 (Or.inl (G_ne ga0 gf1 (by decide)))).symm
          have m4298 := m4265.trans (Wr.neI wH4279 (Or.inl (G_ne ga0 gf1 (by decide)))).symm
          have m4299 := m4266.trans (Wr.neI wH4279 (Or.inl (G_ne ga0 gf1 (by decide)))).symm
          have m4300 := m4267.trans (Wr.neR wH4279 (Or.inl (G_ne ga0 gf1 (by decide)))).symm
          have m4301 := m4268.trans (Wr.neR wH4279 (Or.inl (G_ne ga0 gf1 (by decide)))).symm
          have m4302 := m4269.trans (Wr.neI wH4279 (Or.inl (G_ne ga0 gf1 (by decide)))).symm
          have m4303 := m4270.trans (Wr.neI wH4279 (Or.inl (G_ne ga0 gf1 (by decide)))).symm
          have m4304 := m4271.trans (Wr.neI wH4279 (Or.inl (G_ne ga0 gf1 (by decide)))).symm
          have m4305 := m4272.trans (Wr.neI wH4279 (Or.inl (G_ne ga0 gf1 (by decide)))).symm
          have m4306 := m4273.trans (Wr.neI wH4279 (Or.inl (G_ne ga0 gf1 (by decide)))).symm
          have m4307 := m4274.trans (Wr.neI wH4279 (Or.inl (G_ne gf0 gf1 (by decide)))).symm
          have m4308 := Wr.I wH4279
          have m4308 := m4308.symm
          refine lv_aload_n hx hb dX10_readLine_98 rfl (lv_at hl3663 1 rfl) ?_
          refine lv_bipush (v := 59) hx hb dX10_readLine_99 (by decide) ?_
          refine x_V (As := [.int 59]) (rest := []) C (a_X10_isSign l K G H4279 (59) (x4186) (x4187) hTH4279 ga0 m4304 m4305) yo_X10_isSign wM_X10_249 ⟨⟨by decide, by decide⟩, by decide, by decide⟩ (x_rv C hTH4279 (ci := 10) rfl ga0 rg_112) rfl hl3663.1 rfl (Nat.le_of_ble_eq_true rfl) dX10_readLine_101 hSH4279 (AE_sub (fun _ _ => rfl) (by decide) hSH4279.1) (fun vH4309 H4309 locsH4309 pH4309 zH4309 kH4309 hSH4309 => ?_)
          obtain ⟨x4310, hvH4309, bx4310, hrH4309, hTH4309⟩ := pH4309
          subst hvH4309
          clear zH4309
          have mf4311 : MF K s.heap H4309 a0 [19, 20, 21, 22, 35, 36, 38, 39, 40] := MF.eff (x_lt hTH4279 kH4309 ga0 (by decide)) mf4280
          have b4312 : ∀ j : Nat, j < 3000 + mn.toNatClampNeg → fI H4309 oq j = fI s.heap oq j ∧ fI H4309 aq j = fI s.heap aq j := fun j hj => ⟨(fI_kept (x_lt hTH4279 kH4309 goq (by decide))).trans (b4285 j hj).1, (fI_kept (x_lt hTH4279 kH4309 gaq (by decide))).trans (b4285 j hj).2⟩
          have b4313 : WF (fun k => fI H4309 oq k) (fun k => fI H4309 aq k) (3000 + mn.toNatClampNeg) (3000 + x4188.toNatClampNeg) 0 1 := WF.congr (fun j => fI_kept (x_lt hTH4279 kH4309 goq (by decide))) (fun j => fI_kept (x_lt hTH4279 kH4309 gaq (by decide))) b4286
          have b4314 : WF (fun k => fI H4309 oq k) (fun k => fI H4309 aq k) (3000 + x4188.toNatClampNeg) (3000 + x4188.toNatClampNeg) 0 0 := WF.congr (fun j => fI_kept (x_lt hTH4279 kH4309 goq (by decide))) (fun j => fI_kept (x_lt hTH4279 kH4309 gaq (by decide))) b4287
          have g4315 : CG (avw K H4309 a0) := CG.congr (fun k hk j => av_eff hTH4279 kH4309 ga0 (by decide) (CG_eff [] (by decide) k hk)) g4281
          have g4316 : TU (avw K H4309 a0) (svw K H4309 a0) := TU.congr (fun k hk j => av_eff hTH4279 kH4309 ga0 (by decide) (TU_eff [] (by decide) k hk)) (fun k hk => sv_eff hTH4279 kH4309 ga0 (by decide)) g4282
          have g4317 : WD (avw K H4309 a0) := WD.congr (fun k hk j => av_eff hTH4279 kH4309 ga0 (by decide) (WD_eff [] (by decide) k hk)) g4283
          have g4318 : IM (avw K H4309 a0) := IM.congr (fun k hk j => av_eff hTH4279 kH4309 ga0 (by decide) (IM_eff [] (by decide) k hk)) g4284
          have f4319 : ∀ j : Nat, j ≠ x1.toNatClampNeg → fI H4309 f9 j = fI s.heap f9 j := fun j hj => (fI_kept (x_lt hTH4279 kH4309 gf9 (by decide))).trans (f4288 j hj)
          have f4320 : ∀ j : Nat, j ≠ x1.toNatClampNeg → fI H4309 f0 j = fI s.heap f0 j := fun j hj => (fI_kept (x_lt hTH4279 kH4309 gf0 (by decide))).trans (f4289 j hj)
          have f4321 : ∀ j : Nat, j ≠ x1.toNatClampNeg → fI H4309 f1 j = fI s.heap f1 j := fun j hj => (fI_kept (x_lt hTH4279 kH4309 gf1 (by decide))).trans (f4290 j hj)
          have m4322 := (m4291).trans (fI_kept (x_lt hTH4279 kH4309 gq3664 (by decide))).symm
          have m4323 := (m4292).trans (fI_kept (x_lt hTH4279 kH4309 gf9 (by decide))).symm
          have m4324 := (m4293).trans (fR_kept (x_lt hTH4279 kH4309 ga0 (by decide))).symm
          have m4325 := (m4294).trans (fR_kept (x_lt hTH4279 kH4309 ga0 (by decide))).symm
          have m4326 := (m4295).trans (fR_kept (x_lt hTH4279 kH4309 ga0 (by decide))).symm
          have m4327 := (m4296).trans (fR_kept (x_lt hTH4279 kH4309 ga0 (by decide))).symm
          have m4328 := (m4297).trans (fR_kept (x_lt hTH4279 kH4309 ga0 (by decide))).symm
          have m4329 := (m4298).trans (fI_kept (x_lt hTH4279 kH4309 ga0 (by decide))).symm
          have m4330 := (m4299).trans (fI_kept (x_lt hTH4279 kH4309 ga0 (by decide))).symm
          have m4331 := (m4300).trans (fR_kept (x_lt hTH4279 kH4309 ga0 (by decide))).symm
          have m4332 := (m4301).trans (fR_kept (x_lt hTH4279 kH4309 ga0 (by decide))).symm
          have m4333 := (m4302).trans (fI_kept (x_lt hTH4279 kH4309 ga0 (by decide))).symm
          have m4334 := (m4303).trans (fI_kept (x_lt hTH4279 kH4309 ga0 (by decide))).symm
          have m4335 := (m4304).trans (fI_kept (x_lt hTH4279 kH4309 ga0 (by decide))).symm
          have m4336 := (m4305).trans (fI_kept (x_lt hTH4279 kH4309 ga0 (by decide))).symm
          have m4337 := (m4306).trans (fI_kept (x_lt hTH4279 kH4309 ga0 (by decide))).symm
          have m4338 := (m4307).trans (fI_kept (x_lt hTH4279 kH4309 gf0 (by decide))).symm
          have m4339 := (m4308).trans (fI_kept (x_lt hTH4279 kH4309 gf1 (by decide))).symm
          refine W.eq (g2 := F0 m 104 ls3662 [.int x4310]) rfl ?_
          refine lv_if_ne (tgt := 113) hx hb dX10_readLine_104 (by decide) (fun c4340 => ?_) (fun c4340 => ?_)
          · have k4341 := i_ne c4340
            replace hrH4309 := hrH4309.resolve_left (fun h => absurd h.1 (by omega))
            replace z3H4182 := z3H4182.resolve_left (by omega)
            refine lv_aload_n hx hb dX10_readLine_113 rfl (lv_at hl3663 1 rfl) ?_
            refine x_V (As := []) (rest := []) C (a_X10_reads l K G H4309 (x4184) (x4185) (x4186) (x4187) (tp) hTH4309 ga0 gq3689 m4332 m4333 m4334 m4335 m4336 m4329 g4315 g4316 g4317 g4318 (by and_intros <;> first | assumption | omega)) yo_X10_reads wM_X10_242 ⟨⟨by decide, by decide⟩, by decide, by decide⟩ (x_rv C hTH4309 (ci := 10) rfl ga0 rg_112) rfl hl3663.1 rfl (Nat.le_of_ble_eq_true rfl) dX10_readLine_114 hSH4309 (AE_sub (fun _ _ => rfl) (by decide) hSH4309.1) (fun vH4342 H4342 locsH4342 pH4342 zH4342 kH4342 hSH4342 => ?_)
            obtain ⟨x4343, x4344, x4345, x4346, hvH4342, ex4343, ex4344, ex4345, ex4346, hrH4342, m4347, g4348, g4349, g4350, g4351, mf4352, hTH4342⟩ := pH4342
            subst hvH4342
            clear zH4342
            replace m4347 := EQN.mk m4347
            have b4353 : ∀ j : Nat, j < 3000 + mn.toNatClampNeg → fI H4342 oq j = fI s.heap oq j ∧ fI H4342 aq j = fI s.heap aq j := fun j hj => ⟨(fI_kept (x_lt hTH4309 kH4342 goq (by decide))).trans (b4312 j hj).1, (fI_kept (x_lt hTH4309 kH4342 gaq (by decide))).trans (b4312 j hj).2⟩
            have b4354 : WF (fun k => fI H4342 oq k) (fun k => fI H4342 aq k) (3000 + mn.toNatClampNeg) (3000 + x4188.toNatClampNeg) 0 1 := WF.congr (fun j => fI_kept (x_lt hTH4309 kH4342 goq (by decide))) (fun j => fI_kept (x_lt hTH4309 kH4342 gaq (by decide))) b4313
            have b4355 : WF (fun k => fI H4342 oq k) (fun k => fI H4342 aq k) (3000 + x4188.toNatClampNeg) (3000 + x4188.toNatClampNeg) 0 0 := WF.congr (fun j => fI_kept (x_lt hTH4309 kH4342 goq (by decide))) (fun j => fI_kept (x_lt hTH4309 kH4342 gaq (by decide))) b4314
            have f4356 : ∀ j : Nat, j ≠ x1.toNatClampNeg → fI H4342 f9 j = fI s.heap f9 j := fun j hj => (fI_kept (x_lt hTH4309 kH4342 gf9 (by decide))).trans (f4319 j hj)
            have f4357 : ∀ j : Nat, j ≠ x1.toNatClampNeg → fI H4342 f0 j = fI s.heap f0 j := fun j hj => (fI_kept (x_lt hTH4309 kH4342 gf0 (by decide))).trans (f4320 j hj)
            have f4358 : ∀ j : Nat, j ≠ x1.toNatClampNeg → fI H4342 f1 j = fI s.heap f1 j := fun j hj => (fI_kept (x_lt hTH4309 kH4342 gf1 (by decide))).trans (f4321 j hj)
            have m4359 := (m4322).trans (fI_kept (x_lt hTH4309 kH4342 gq3664 (by decide))).symm
            have m4360 := (m4323).trans (fI_kept (x_lt hTH4309 kH4342 gf9 (by decide))).symm
            have m4361 := (m4338).trans (fI_kept (x_lt hTH4309 kH4342 gf0 (by decide))).symm
            have m4362 := (m4339).trans (fI_kept (x_lt hTH4309 kH4342 gf1 (by decide))).symm
            have m4363 := (m4324).trans (MF.r mf4352 (k := 32) (by decide) (by decide)).symm
            have m4364 := (m4325).trans (MF.r mf4352 (k := 33) (by decide) (by decide)).symm
            have m4365 := (m4326).trans (MF.r mf4352 (k := 29) (by decide) (by decide)).symm
            have m4366 := (m4327).trans (MF.r mf4352 (k := 30) (by decide) (by decide)).symm
            have m4367 := (m4328).trans (MF.r mf4352 (k := 31) (by decide) (by decide)).symm
            have m4368 := (m4329).trans (MF.i mf4352 (k := 18) (by decide) (by decide)).symm
            have m4369 := (m4330).trans (MF.i mf4352 (k := 34) (by decide) (by decide)).symm
            have m4370 := (m4331).trans (MF.r mf4352 (k := 25) (by decide) (by decide)).symm
            have m4371 := (m4332).trans (MF.r mf4352 (k := 17) (by decide) (by decide)).symm
            have m4372 := (m4337).trans (MF.i mf4352 (k := 35) (by decide) (by decide)).symm
            have mf4373 : MF K s.heap H4342 a0 [19, 20, 21, 22, 35, 36, 38, 39, 40] := MF.trans mf4311 mf4352 (by decide)
            have bx4343 := ty_fi (x := x4343) (k := 19) ex4343 hTH4342 ga0 rg_112 rfl
            have bx4344 := ty_fi (x := x4344) (k := 20) ex4344 hTH4342 ga0 rg_112 rfl
            have bx4345 := ty_fi (x := x4345) (k := 21) ex4345 hTH4342 ga0 rg_112 rfl
            have bx4346 := ty_fi (x := x4346) (k := 22) ex4346 hTH4342 ga0 rg_112 rfl
            obtain ⟨r1H4342, r2H4342, r3H4342, r4H4342, r5H4342, r6H4342, r7H4342⟩ := hrH4342
            clear z3H4182 z4H4182
            refine W.eq (g2 := F0 m 117 ls3662 []) rfl ?_
            refine lv_iconst (v := 0) hx hb dX10_readLine_117 (by decide) ?_
            have cx_x4188 := i_cl (x := x4188) (by omega)
            exact x_iret C hQ dX10_readLine_118 hSH4342 (by decide) (by decide) (⟨0, x4343, x4344, x4345, x4346, x4188, rfl, by decide, ex4343, ex4344, ex4345, ex4346, m4372, Or.inr (by and_intros <;> first | assumption | omega), m4363, m4364, m4365, m4366, m4367, g4348, g4349, g4350, g4351, mf4373, b4353, f4356, f4357, f4358, Or.inr (LNW.mk (a := fun k => fI H4342 f9 k) (b := fun k => fI H4342 f0 k) (c := fun k => fI H4342 f1 k) m4360 m4361 m4362 (by omega) (by omega) (by omega) (by omega) (WF.cast b4354 (by omega) (by omega)) (WF.cast b4355 (by omega) (by omega))), hTH4342⟩)
          · have k4341 := i_eq c4340
            refine lv_aload_n hx hb dX10_readLine_107 rfl (lv_at hl3663 1 rfl) ?_
            refine lv_iconst (v := 1) hx hb dX10_readLine_108 (by decide) ?_
            refine x_V (As := [.int 1]) (rest := []) C (a_X10_fails l K G H4309 (1) hTH4309 ga0 g4315 g4316 g4317 g4318) yo_X10_fails wM_X10_235 ⟨⟨by decide, by decide⟩, by decide, by decide⟩ (x_rv C hTH4309 (ci := 10) rfl ga0 rg_112) rfl hl3663.1 rfl (Nat.le_of_ble_eq_true rfl) dX10_readLine_109 hSH4309 (AE_sub (fun _ _ => rfl) (by decide) hSH4309.1) (fun vH4374 H4374 locsH4374 pH4374 zH4374 kH4374 hSH4374 => ?_)
            obtain ⟨x4375, hvH4374, bx4375, g4376, g4377, g4378, g4379, mf4380, hTH4374⟩ := pH4374
            subst hvH4374
            clear zH4374
            have b4381 : ∀ j : Nat, j < 3000 + mn.toNatClampNeg → fI H4374 oq j = fI s.heap oq j ∧ fI H4374 aq j = fI s.heap aq j := fun j hj => ⟨(fI_kept (x_lt hTH4309 kH4374 goq (by decide))).trans (b4312 j hj).1, (fI_kept (x_lt hTH4309 kH4374 gaq (by decide))).trans (b4312 j hj).2⟩
            have b4382 : WF (fun k => fI H4374 oq k) (fun k => fI H4374 aq k) (3000 + mn.toNatClampNeg) (3000 + x4188.toNatClampNeg) 0 1 := WF.congr (fun j => fI_kept (x_lt hTH4309 kH4374 goq (by decide))) (fun j => fI_kept (x_lt hTH4309 kH4374 gaq (by decide))) b4313
            have b4383 : WF (fun k => fI H4374 oq k) (fun k => fI H4374 aq k) (3000 + x4188.toNatClampNeg) (3000 + x4188.toNatClampNeg) 0 0 := WF.congr (fun j => fI_kept (x_lt hTH4309 kH4374 goq (by decide))) (fun j => fI_kept (x_lt hTH4309 kH4374 gaq (by decide))) b4314
            have f4384 : ∀ j : Nat, j ≠ x1.toNatClampNeg → fI H4374 f9 j = fI s.heap f9 j := fun j hj => (fI_kept (x_lt hTH4309 kH4374 gf9 (by decide))).trans (f4319 j hj)
            have f4385 : ∀ j : Nat, j ≠ x1.toNatClampNeg → fI H4374 f0 j = fI s.heap f0 j := fun j hj => (fI_kept (x_lt hTH4309 kH4374 gf0 (by decide))).trans (f4320 j hj)
            have f4386 : ∀ j : Nat, j ≠ x1.toNatClampNeg → fI H4374 f1 j = fI s.heap f1 j := fun j hj => (fI_kept (x_lt hTH4309 kH4374 gf1 (by decide))).trans (f4321 j hj)
            have m4387 := (m4322).trans (fI_kept (x_lt hTH4309 kH4374 gq3664 (by decide))).symm
            have m4388 := (m4323).trans (fI_kept (x_lt hTH4309 kH4374 gf9 (by decide))).symm
            have m4389 := (m4338).trans (fI_kept (x_lt hTH4309 kH4374 gf0 (by decide))).symm
            have m4390 := (m4339).trans (fI_kept (x_lt hTH4309 kH4374 gf1 (by decide))).symm
            have m4391 := (m4324).trans (MF.r mf4380 (k := 32) (by decide) (by decide)).symm
            have m4392 := (m4325).trans (MF.r mf4380 (k := 33) (by decide) (by decide)).symm
            have m4393 := (m4326).trans (MF.r mf4380 (k := 29) (by decide) (by decide)).symm
            have m4394 := (m4327).trans (MF.r mf4380 (k := 30) (by decide) (by decide)).symm
            have m4395 := (m4328).trans (MF.r mf4380 (k := 31) (by decide) (by decide)).symm
            have m4396 := (m4329).trans (MF.i mf4380 (k := 18) (by decide) (by decide)).symm
            have m4397 := (m4330).trans (MF.i mf4380 (k := 34) (by decide) (by decide)).symm
            have m4398 := (m4331).trans (MF.r mf4380 (k := 25) (by decide) (by decide)).symm
            have m4399 := (m4332).trans (MF.r mf4380 (k := 17) (by decide) (by decide)).symm
            have m4400 := (m4333).trans (MF.i mf4380 (k := 19) (by decide) (by decide)).symm
            have m4401 := (m4334).trans (MF.i mf4380 (k := 20) (by decide) (by decide)).symm
            have m4402 := (m4335).trans (MF.i mf4380 (k := 21) (by decide) (by decide)).symm
            have m4403 := (m4336).trans (MF.i mf4380 (k := 22) (by decide) (by decide)).symm
            have m4404 := (m4337).trans (MF.i mf4380 (k := 35) (by decide) (by decide)).symm
            have mf4405 : MF K s.heap H4374 a0 [19, 20, 21, 22, 35, 36, 38, 39, 40] := MF.trans mf4311 mf4380 (by decide)
            refine W.eq (g2 := F0 m 112 ls3662 [.int x4375]) rfl ?_
            exact x_iret C hQ dX10_readLine_112 hSH4374 (by decide) (by decide) (⟨x4375, x4184, x4185, x4186, x4187, x4188, rfl, by omega, m4400, m4401, m4402, m4403, m4404, Or.inl (by omega), m4391, m4392, m4393, m4394, m4395, g4376, g4377, g4378, g4379, mf4405, b4381, f4384, f4385, f4386, Or.inl (by omega), hTH4374⟩)
        · have k4276 := i_ne c4275
          replace hrH4246 := hrH4246.resolve_left (by omega)
          replace z3H4182 := z3H4182.resolve_left (by omega)
          refine lv_aload_n hx hb dX10_readLine_74 rfl (lv_at hl3663 1 rfl) ?_
          refine x_V (As := []) (rest := []) C (a_X10_reads l K G H4246 (x4184) (x4185) (x4186) (x4187) (tp) hTH4246 ga0 gq3689 m4268 m4269 m4270 m4271 m4272 m4265 g4251 g4252 g4253 g4254 (by and_intros <;> first | assumption | omega)) yo_X10_reads wM_X10_242 ⟨⟨by decide, by decide⟩, by decide, by decide⟩ (x_rv C hTH4246 (ci := 10) rfl ga0 rg_112) rfl hl3663.1 rfl (Nat.le_of_ble_eq_true rfl) dX10_readLine_75 hSH4246 (AE_sub (fun _ _ => rfl) (by decide) hSH4246.1) (fun vH4406 H4406 locsH4406 pH4406 zH4406 kH4406 hSH4406 => ?_)
          obtain ⟨x4407, x4408, x4409, x4410, hvH4406, ex4407, ex4408, ex4409, ex4410, hrH4406, m4411, g4412, g4413, g4414, g4415, mf4416, hTH4406⟩ := pH4406
          subst hvH4406
          clear zH4406
          replace m4411 := EQN.mk m4411
          have b4417 : ∀ j : Nat, j < 3000 + mn.toNatClampNeg → fI H4406 oq j = fI s.heap oq j ∧ fI H4406 aq j = fI s.heap aq j := fun j hj => ⟨(fI_kept (x_lt hTH4246 kH4406 goq (by decide))).trans (b4249 j hj).1, (fI_kept (x_lt hTH4246 kH4406 gaq (by decide))).trans (b4249 j hj).2⟩
          have b4418 : WF (fun k => fI H4406 oq k) (fun k => fI H4406 aq k) (3000 + mn.toNatClampNeg) (3000 + x4188.toNatClampNeg) 0 1 := WF.congr (fun j => fI_kept (x_lt hTH4246 kH4406 goq (by decide))) (fun j => fI_kept (x_lt hTH4246 kH4406 gaq (by decide))) b4250
          have f4419 : ∀ j : Nat, j ≠ x1.toNatClampNeg → fI H4406 f9 j = fI s.heap f9 j := fun j hj => (fI_kept (x_lt hTH4246 kH4406 gf9 (by decide))).trans (f4255 j hj)
          have f4420 : ∀ j : Nat, j ≠ x1.toNatClampNeg → fI H4406 f0 j = fI s.heap f0 j := fun j hj => (fI_kept (x_lt hTH4246 kH4406 gf0 (by decide))).trans (f4256 j hj)
          have f4421 : ∀ j : Nat, j ≠ x1.toNatClampNeg → fI H4406 f1 j = fI s.heap f1 j := fun j hj => (fI_kept (x_lt hTH4246 kH4406 gf1 (by decide))).trans (f4257 j hj)
          have m4422 := (m4258).trans (fI_kept (x_lt hTH4246 kH4406 gq3664 (by decide))).symm
          have m4423 := (m4259).trans (fI_kept (x_lt hTH4246 kH4406 gf9 (by decide))).symm
          have m4424 := (m4274).trans (fI_kept (x_lt hTH4246 kH4406 gf0 (by decide))).symm
          have m4425 := (m4260).trans (MF.r mf4416 (k := 32) (by decide) (by decide)).symm
          have m4426 := (m4261).trans (MF.r mf4416 (k := 33) (by decide) (by decide)).symm
          have m4427 := (m4262).trans (MF.r mf4416 (k := 29) (by decide) (by decide)).symm
          have m4428 := (m4263).trans (MF.r mf4416 (k := 30) (by decide) (by decide)).symm
          have m4429 := (m4264).trans (MF.r mf4416 (k := 31) (by decide) (by decide)).symm
          have m4430 := (m4265).trans (MF.i mf4416 (k := 18) (by decide) (by decide)).symm
          have m4431 := (m4266).trans (MF.i mf4416 (k := 34) (by decide) (by decide)).symm
          have m4432 := (m4267).trans (MF.r mf4416 (k := 25) (by decide) (by decide)).symm
          have m4433 := (m4268).trans (MF.r mf4416 (k := 17) (by decide) (by decide)).symm
          have m4434 := (m4273).trans (MF.i mf4416 (k := 35) (by decide) (by decide)).symm
          have mf4435 : MF K s.heap H4406 a0 [19, 20, 21, 22, 35, 36, 38, 39, 40] := MF.trans mf4248 mf4416 (by decide)
          have bx4407 := ty_fi (x := x4407) (k := 19) ex4407 hTH4406 ga0 rg_112 rfl
          have bx4408 := ty_fi (x := x4408) (k := 20) ex4408 hTH4406 ga0 rg_112 rfl
          have bx4409 := ty_fi (x := x4409) (k := 21) ex4409 hTH4406 ga0 rg_112 rfl
          have bx4410 := ty_fi (x := x4410) (k := 22) ex4410 hTH4406 ga0 rg_112 rfl
          obtain ⟨r1H4406, r2H4406, r3H4406, r4H4406, r5H4406, r6H4406, r7H4406⟩ := hrH4406
          clear z3H4182 z4H4182
          refine W.eq (g2 := F0 m 78 ls3662 []) rfl ?_
          refine lv_aload_n hx hb dX10_readLine_78 rfl (lv_at hl3663 1 rfl) ?_
          obtain ⟨q4436, eq4436⟩ : ∃ z : Nat, EQN z (fR H4406 a0 (K.1.2 10 37)) := ⟨_, rfl⟩
          have gq4436 := ty_fr (q := q4436) (k := 37) (u := 138) eq4436 hTH4406 ga0 rg_112 rfl
          replace eq4436 := EQN.mk eq4436
          obtain ⟨x4437, ex4437⟩ : ∃ z : Int32, z = fI H4406 a0 (K.1.2 10 36) := ⟨_, rfl⟩
          have bx4437 := ty_fi (x := x4437) (k := 36) ex4437 hTH4406 ga0 rg_112 rfl
          obtain ⟨x4438, ex4438⟩ : ∃ z : Int32, z = fI H4406 a0 (K.1.2 10 38) := ⟨_, rfl⟩
          have bx4438 := ty_fi (x := x4438) (k := 38) ex4438 hTH4406 ga0 rg_112 rfl
          refine x_V (As := []) (rest := []) C (a_X10_readAny l K G H4406 (x4407) (x4408) (x4409) (x4410) (x4188) (x4437) (x4438) (tp) (jb) hTH4406 ga0 goq m4425 gaq m4426 gq4436 eq4436 ex4407 ex4408 ex4409 ex4410 m4434 ex4437 ex4438 m4430 m4431 g4412 g4413 g4414 g4415 (by and_intros <;> first | assumption | omega) (by and_intros <;> first | assumption | omega)) yo_X10_readAny wM_X10_282 ⟨⟨by decide, by decide⟩, by decide, by decide⟩ (x_rv C hTH4406 (ci := 10) rfl ga0 rg_112) rfl hl3663.1 rfl (Nat.le_of_ble_eq_true rfl) dX10_readLine_79 hSH4406 (AE_sub (fun _ _ => rfl) (by decide) hSH4406.1) (fun vH4439 H4439 locsH4439 pH4439 zH4439 kH4439 hSH4439 => ?_)
          obtain ⟨x4440, x4441, x4442, x4443, x4444, x4445, x4446, x4447, hvH4439, bx4440, ex4441, ex4442, ex4443, ex4444, ex4445, ex4446, ex4447, hrH4439, m4448, m4449, m4450, g4451, g4452, g4453, g4454, mf4455, m4456, m4457, hTH4439⟩ := pH4439
          subst hvH4439
          clear zH4439
          replace m4448 := EQN.mk m4448
          replace m4449 := EQN.mk m4449
          replace m4450 := EQN.mk m4450
          have f4458 : ∀ j : Nat, j ≠ x1.toNatClampNeg → fI H4439 f9 j = fI s.heap f9 j := fun j hj => (fI_kept (x_lt hTH4406 kH4439 gf9 (by decide))).trans (f4419 j hj)
          have f4459 : ∀ j : Nat, j ≠ x1.toNatClampNeg → fI H4439 f0 j = fI s.heap f0 j := fun j hj => (fI_kept (x_lt hTH4406 kH4439 gf0 (by decide))).trans (f4420 j hj)
          have f4460 : ∀ j : Nat, j ≠ x1.toNatClampNeg → fI H4439 f1 j = fI s.heap f1 j := fun j hj => (fI_kept (x_lt hTH4406 kH4439 gf1 (by decide))).trans (f4421 j hj)
          have m4461 := (m4422).trans (fI_kept (x_lt hTH4406 kH4439 gq3664 (by decide))).symm
          have m4462 := (m4423).trans (fI_kept (x_lt hTH4406 kH4439 gf9 (by decide))).symm
          have m4463 := (m4424).trans (fI_kept (x_lt hTH4406 kH4439 gf0 (by decide))).symm
          have m4464 := (m4425).trans (MF.r mf4455 (k := 32) (by decide) (by decide)).symm
          have m4465 := (m4426).trans (MF.r mf4455 (k := 33) (by decide) (by decide)).symm
          have m4466 := (m4427).trans (MF.r mf4455 (k := 29) (by decide) (by decide)).symm
          have m4467 := (m4428).trans (MF.r mf4455 (k := 30) (by decide) (by decide)).symm
          have m4468 := (m4429).trans (MF.r mf4455 (k := 31) (by decide) (by decide)).symm
          have m4469 := (m4430).trans (MF.i mf4455 (k := 18) (by decide) (by decide)).symm
          have m4470 := (m4431).trans (MF.i mf4455 (k := 34) (by decide) (by decide)).symm
          have m4471 := (m4432).trans (MF.r mf4455 (k := 25) (by decide) (by decide)).symm
          have m4472 := (m4411).trans (MF.r mf4455 (k := 17) (by decide) (by decide)).symm
          have m4473 := (eq4436).trans (MF.r mf4455 (k := 37) (by decide) (by decide)).symm
          have mf4474 : MF K s.heap H4439 a0 [19, 20, 21, 22, 35, 36, 38, 39, 40] := MF.trans mf4435 mf4455 (by decide)
          have bx4441 := ty_fi (x := x4441) (k := 19) ex4441 hTH4439 ga0 rg_112 rfl
          have bx4442 := ty_fi (x := x4442) (k := 20) ex4442 hTH4439 ga0 rg_112 rfl
          have bx4443 := ty_fi (x := x4443) (k := 21) ex4443 hTH4439 ga0 rg_112 rfl
          have bx4444 := ty_fi (x := x4444) (k := 22) ex4444 hTH4439 ga0 rg_112 rfl
          have bx4445 := ty_fi (x := x4445) (k := 35) ex4445 hTH4439 ga0 rg_112 rfl
          have bx4446 := ty_fi (x := x4446) (k := 36) ex4446 hTH4439 ga0 rg_112 rfl
          have bx4447 := ty_fi (x := x4447) (k := 38) ex4447 hTH4439 ga0 rg_112 rfl
          have csm4456 := i_cl (x := x4188) (by omega)
          have b4475 : ∀ j : Nat, j < 3000 + mn.toNatClampNeg → fI H4439 oq j = fI s.heap oq j ∧ fI H4439 aq j = fI s.heap aq j := fun j hj => ⟨(m4456 j (by omega)).1.trans (b4417 j hj).1, (m4456 j (by omega)).2.trans (b4417 j hj).2⟩
          have b4476 : WF (fun k => fI H4439 oq k) (fun k => fI H4439 aq k) (3000 + mn.toNatClampNeg) (3000 + x4188.toNatClampNeg) 0 1 := WF.keep b4418 (fun j hj => (m4456 j (by omega)).1) (fun j hj => (m4456 j (by omega)).2)
          refine W.eq (g2 := F0 m 82 ls3662 [.int x4440]) rfl ?_
          refine lv_iconst (v := (-1)) hx hb dX10_readLine_82 (by decide) ?_
          refine lv_icmp_ne (tgt := 88) hx hb dX10_readLine_83 (by decide) (fun c4477 => ?_) (fun c4477 => ?_)
          · have k4478 := i_ne c4477
            replace hrH4439 := hrH4439.resolve_left (by omega)
            obtain ⟨rzH4439, ⟨z1H4439, z2H4439, z3H4439, z4H4439⟩, y1H4439, y2H4439, y3H4439⟩ := hrH4439
            clear r4H4406 r5H4406
            obtain ⟨EA, wa0⟩ : ∃ E, WF (fun k => fI H4439 oq k) (fun k => fI H4439 aq k) (3000 + x4188.toNatClampNeg) (3000 + x4445.toNatClampNeg) 0 E := by
              rcases m4457 with h | h
              · exfalso; omega
              · exact h
            refine lv_aload_n hx hb dX10_readLine_88 rfl (lv_at hl3663 1 rfl) ?_
            refine x_gr C hTH4439 (ci := 10) (k := 31) rfl inX10 (by decide) wF_X10_80 ga0 rg_112 rfl dX10_readLine_89 (fun q4479 eq4479 gq4479 => ?_)
            have uq4479 : f1 = q4479 := (m4468).trans eq4479.symm
            subst uq4479
            clear eq4479
            refine lv_iload_n hx hb dX10_readLine_92 rfl (lv_at hl3663 2 rfl) ?_
            refine lv_aload_n hx hb dX10_readLine_93 rfl (lv_at hl3663 1 rfl) ?_
            refine x_gi C hTH4439 (ci := 10) (k := 35) rfl inX10 (by decide) wF_X10_228 ga0 rg_112 rfl dX10_readLine_94 (fun x4480 ex4480 bx4480 => ?_)
            have ux4480 : x4445 = x4480 := (ex4445).trans ex4480.symm
            subst ux4480
            refine x_iast C hTH4439 hSH4439 gf1 rg_135 (by omega) (by show _ < ((112 : Nat) : Int); omega) ⟨by have := i_rng x4445; omega, by have := i_rng x4445; omega⟩ (AE_in gf1 (by decide)) dX10_readLine_97 (fun H4481 locsH4481 hTH4481 hSH4481 wH4481 => ?_)
            have mf4482 : MF K s.heap H4481 a0 [19, 20, 21, 22, 35, 36, 38, 39, 40] := MF.arr wH4481 (G_ne ga0 gf1 (by decide)) mf4474
            have g4483 : CG (avw K H4481 a0) := CG.putL hTH4439 ga0 wH4481 gf1 (by decide) (by omega) g4451
            have g4484 : TU (avw K H4481 a0) (svw K H4481 a0) := TU.congr (fun k hk j => av_arr hTH4439 ga0 wH4481 gf1 (by decide) (TU_ok 135 (by decide) k hk)) (fun k hk => sv_arr ga0 wH4481 gf1 (by decide)) g4452
            have g4485 : WD (avw K H4481 a0) := WD.congr (fun k hk j => av_arr hTH4439 ga0 wH4481 gf1 (by decide) (WD_ok 135 (by decide) k hk)) g4453
            have g4486 : IM (avw K H4481 a0) := IM.congr (fun k hk j => av_arr hTH4439 ga0 wH4481 gf1 (by decide) (IM_ok 135 (by decide) k hk)) g4454
            have b4487 : ∀ j : Nat, j < 3000 + mn.toNatClampNeg → fI H4481 oq j = fI s.heap oq j ∧ fI H4481 aq j = fI s.heap aq j := fun j hj => ⟨(Wr.neI wH4481 (Or.inl (G_ne goq gf1 (by decide)))).trans (b4475 j hj).1, (Wr.neI wH4481 (Or.inl (G_ne gaq gf1 (by decide)))).trans (b4475 j hj).2⟩
            have b4488 : WF (fun k => fI H4481 oq k) (fun k => fI H4481 aq k) (3000 + mn.toNatClampNeg) (3000 + x4188.toNatClampNeg) 0 1 := WF.congr (fun j => Wr.neI wH4481 (Or.inl (G_ne goq gf1 (by decide)))) (fun j => Wr.neI wH4481 (Or.inl (G_ne gaq gf1 (by decide)))) b4476
            have b4489 : WF (fun k => fI H4481 oq k) (fun k => fI H4481 aq k) (3000 + x4188.toNatClampNeg) (3000 + x4445.toNatClampNeg) 0 EA := WF.congr (fun j => Wr.neI wH4481 (Or.inl (G_ne goq gf1 (by decide)))) (fun j => Wr.neI wH4481 (Or.inl (G_ne gaq gf1 (by decide)))) wa0
            have f4490 : ∀ j : Nat, j ≠ x1.toNatClampNeg → fI H4481 f9 j = fI s.heap f9 j := fun j hj => (Wr.neI wH4481 (Or.inl (G_ne gf9 gf1 (by decide)))).trans (f4458 j hj)
            have f4491 : ∀ j : Nat, j ≠ x1.toNatClampNeg → fI H4481 f0 j = fI s.heap f0 j := fun j hj => (Wr.neI wH4481 (Or.inl (G_ne gf0 gf1 (by decide)))).trans (f4459 j hj)
            have f4492 : ∀ j : Nat, j ≠ x1.toNatClampNeg → fI H4481 f1 j = fI s.heap f1 j := fun j hj => (Wr.neI wH4481 (Or.inr hj)).trans (f4460 j hj)
            have m4493 := m4461.trans (Wr.neI wH4481 (Or.inl (G_ne gq3664 gf1 (by decide)))).symm
            have m4494 := m4462.trans (Wr.neI wH4481 (Or.inl (G_ne gf9 gf1 (by decide)))).symm
            have m4495 := m4463.trans (Wr.neI wH4481 (Or.inl (G_ne gf0 gf1 (by decide)))).symm
            have m4496 := m4448.trans (Wr.neR wH4481 (Or.inl (G_ne ga0 gf1 (by decide)))).symm
            have m4497 := m4449.trans (Wr.neR wH4481 (Or.inl (G_ne ga0 gf1 (by decide)))).symm
            have m4498 := m4466.trans (Wr.neR wH4481 (Or.inl (G_ne ga0 gf1 (by decide)))).symm
            have m4499 := m4467.trans (Wr.neR wH4481 (Or.inl (G_ne ga0 gf1 (by decide)))).symm
            have m4500 := m4468.trans (Wr.neR wH4481 (Or.inl (G_ne ga0 gf1 (by decide)))).symm
            have m4501 := m4469.trans (Wr.neI wH4481 (Or.inl (G_ne ga0 gf1 (by decide)))).symm
            have m4502 := m4470.trans (Wr.neI wH4481 (Or.inl (G_ne ga0 gf1 (by decide)))).symm
            have m4503 := m4471.trans (Wr.neR wH4481 (Or.inl (G_ne ga0 gf1 (by decide)))).symm
            have m4504 := m4472.trans (Wr.neR wH4481 (Or.inl (G_ne ga0 gf1 (by decide)))).symm
            have m4505 := m4450.trans (Wr.neR wH4481 (Or.inl (G_ne ga0 gf1 (by decide)))).symm
            have m4506 := ex4441.trans (Wr.neI wH4481 (Or.inl (G_ne ga0 gf1 (by decide)))).symm
            have m4507 := ex4442.trans (Wr.neI wH4481 (Or.inl (G_ne ga0 gf1 (by decide)))).symm
            have m4508 := ex4443.trans (Wr.neI wH4481 (Or.inl (G_ne ga0 gf1 (by decide)))).symm
            have m4509 := ex4444.trans (Wr.neI wH4481 (Or.inl (G_ne ga0 gf1 (by decide)))).symm
            have m4510 := ex4445.trans (Wr.neI wH4481 (Or.inl (G_ne ga0 gf1 (by decide)))).symm
            have m4511 := ex4446.trans (Wr.neI wH4481 (Or.inl (G_ne ga0 gf1 (by decide)))).symm
            have m4512 := ex4447.trans (Wr.neI wH4481 (Or.inl (G_ne ga0 gf1 (by decide)))).symm
            have m4513 := Wr.I wH4481
            have m4513 := m4513.symm
            refine lv_aload_n hx hb dX10_readLine_98 rfl (lv_at hl3663 1 rfl) ?_
            refine lv_bipush (v := 59) hx hb dX10_readLine_99 (by decide) ?_
            refine x_V (As := [.int 59]) (rest := []) C (a_X10_isSign l K G H4481 (59) (x4443) (x4444) hTH4481 ga0 m4508 m4509) yo_X10_isSign wM_X10_249 ⟨⟨by decide, by decide⟩, by decide, by decide⟩ (x_rv C hTH4481 (ci := 10) rfl ga0 rg_112) rfl hl3663.1 rfl (Nat.le_of_ble_eq_true rfl) dX10_readLine_101 hSH4481 (AE_sub (fun _ _ => rfl) (by decide) hSH4481.1) (fun vH4514 H4514 locsH4514 pH4514 zH4514 kH4514 hSH4514 => ?_)
            obtain ⟨x4515, hvH4514, bx4515, hrH4514, hTH4514⟩ := pH4514
            subst hvH4514
            clear zH4514
            have mf4516 : MF K s.heap H4514 a0 [19, 20, 21, 22, 35, 36, 38, 39, 40] := MF.eff (x_lt hTH4481 kH4514 ga0 (by decide)) mf4482
            have b4517 : ∀ j : Nat, j < 3000 + mn.toNatClampNeg → fI H4514 oq j = fI s.heap oq j ∧ fI H4514 aq j = fI s.heap aq j := fun j hj => ⟨(fI_kept (x_lt hTH4481 kH4514 goq (by decide))).trans (b4487 j hj).1, (fI_kept (x_lt hTH4481 kH4514 gaq (by decide))).trans (b4487 j hj).2⟩
            have b4518 : WF (fun k => fI H4514 oq k) (fun k => fI H4514 aq k) (3000 + mn.toNatClampNeg) (3000 + x4188.toNatClampNeg) 0 1 := WF.congr (fun j => fI_kept (x_lt hTH4481 kH4514 goq (by decide))) (fun j => fI_kept (x_lt hTH4481 kH4514 gaq (by decide))) b4488
            have b4519 : WF (fun k => fI H4514 oq k) (fun k => fI H4514 aq k) (3000 + x4188.toNatClampNeg) (3000 + x4445.toNatClampNeg) 0 EA := WF.congr (fun j => fI_kept (x_lt hTH4481 kH4514 goq (by decide))) (fun j => fI_kept (x_lt hTH4481 kH4514 gaq (by decide))) b4489
            have g4520 : CG (avw K H4514 a0) := CG.congr (fun k hk j => av_eff hTH4481 kH4514 ga0 (by decide) (CG_eff [] (by decide) k hk)) g4483
            have g4521 : TU (avw K H4514 a0) (svw K H4514 a0) := TU.congr (fun k hk j => av_eff hTH4481 kH4514 ga0 (by decide) (TU_eff [] (by decide) k hk)) (fun k hk => sv_eff hTH4481 kH4514 ga0 (by decide)) g4484
            have g4522 : WD (avw K H4514 a0) := WD.congr (fun k hk j => av_eff hTH4481 kH4514 ga0 (by decide) (WD_eff [] (by decide) k hk)) g4485
            have g4523 : IM (avw K H4514 a0) := IM.congr (fun k hk j => av_eff hTH4481 kH4514 ga0 (by decide) (IM_eff [] (by decide) k hk)) g4486
            have f4524 : ∀ j : Nat, j ≠ x1.toNatClampNeg → fI H4514 f9 j = fI s.heap f9 j := fun j hj => (fI_kept (x_lt hTH4481 kH4514 gf9 (by decide))).trans (f4490 j hj)
            have f4525 : ∀ j : Nat, j ≠ x1.toNatClampNeg → fI H4514 f0 j = fI s.heap f0 j := fun j hj => (fI_kept (x_lt hTH4481 kH4514 gf0 (by decide))).trans (f4491 j hj)
            have f4526 : ∀ j : Nat, j ≠ x1.toNatClampNeg → fI H4514 f1 j = fI s.heap f1 j := fun j hj => (fI_kept (x_lt hTH4481 kH4514 gf1 (by decide))).trans (f4492 j hj)
            have m4527 := (m4493).trans (fI_kept (x_lt hTH4481 kH4514 gq3664 (by decide))).symm
            have m4528 := (m4494).trans (fI_kept (x_lt hTH4481 kH4514 gf9 (by decide))).symm
            have m4529 := (m4495).trans (fI_kept (x_lt hTH4481 kH4514 gf0 (by decide))).symm
            have m4530 := (m4496).trans (fR_kept (x_lt hTH4481 kH4514 ga0 (by decide))).symm
            have m4531 := (m4497).trans (fR_kept (x_lt hTH4481 kH4514 ga0 (by decide))).symm
            have m4532 := (m4498).trans (fR_kept (x_lt hTH4481 kH4514 ga0 (by decide))).symm
            have m4533 := (m4499).trans (fR_kept (x_lt hTH4481 kH4514 ga0 (by decide))).symm
            have m4534 := (m4500).trans (fR_kept (x_lt hTH4481 kH4514 ga0 (by decide))).symm
            have m4535 := (m4501).trans (fI_kept (x_lt hTH4481 kH4514 ga0 (by decide))).symm
            have m4536 := (m4502).trans (fI_kept (x_lt hTH4481 kH4514 ga0 (by decide))).symm
            have m4537 := (m4503).trans (fR_kept (x_lt hTH4481 kH4514 ga0 (by decide))).symm
            have m4538 := (m4504).trans (fR_kept (x_lt hTH4481 kH4514 ga0 (by decide))).symm
            have m4539 := (m4505).trans (fR_kept (x_lt hTH4481 kH4514 ga0 (by decide))).symm
            have m4540 := (m4506).trans (fI_kept (x_lt hTH4481 kH4514 ga0 (by decide))).symm
            have m4541 := (m4507).trans (fI_kept (x_lt hTH4481 kH4514 ga0 (by decide))).symm
            have m4542 := (m4508).trans (fI_kept (x_lt hTH4481 kH4514 ga0 (by decide))).symm
            have m4543 := (m4509).trans (fI_kept (x_lt hTH4481 kH4514 ga0 (by decide))).symm
            have m4544 := (m4510).trans (fI_kept (x_lt hTH4481 kH4514 ga0 (by decide))).symm
            have m4545 := (m4511).trans (fI_kept (x_lt hTH4481 kH4514 ga0 (by decide))).symm
            have m4546 := (m4512).trans (fI_kept (x_lt hTH4481 kH4514 ga0 (by decide))).symm
            have m4547 := (m4513).trans (fI_kept (x_lt hTH4481 kH4514 gf1 (by decide))).symm
            refine W.eq (g2 := F0 m 104 ls3662 [.int x4515]) rfl ?_
            refine lv_if_ne (tgt := 113) hx hb dX10_readLine_104 (by decide) (fun c4548 => ?_) (fun c4548 => ?_)
            · have k4549 := i_ne c4548
              replace hrH4514 := hrH4514.resolve_left (fun h => absurd h.1 (by omega))
              replace z3H4439 := z3H4439.resolve_left (by omega)
              refine lv_aload_n hx hb dX10_readLine_113 rfl (lv_at hl3663 1 rfl) ?_
              refine x_V (As := []) (rest := []) C (a_X10_reads l K G H4514 (x4441) (x4442) (x4443) (x4444) (tp) hTH4514 ga0 gq3689 m4538 m4540 m4541 m4542 m4543 m4535 g4520 g4521 g4522 g4523 (by and_intros <;> first | assumption | omega)) yo_X10_reads wM_X10_242 ⟨⟨by decide, by decide⟩, by decide, by decide⟩ (x_rv C hTH4514 (ci := 10) rfl ga0 rg_112) rfl hl3663.1 rfl (Nat.le_of_ble_eq_true rfl) dX10_readLine_114 hSH4514 (AE_sub (fun _ _ => rfl) (by decide) hSH4514.1) (fun vH4550 H4550 locsH4550 pH4550 zH4550 kH4550 hSH4550 => ?_)
              obtain ⟨x4551, x4552, x4553, x4554, hvH4550, ex4551, ex4552, ex4553, ex4554, hrH4550, m4555, g4556, g4557, g4558, g4559, mf4560, hTH4550⟩ := pH4550
              subst hvH4550
              clear zH4550
              replace m4555 := EQN.mk m4555
              have b4561 : ∀ j : Nat, j < 3000 + mn.toNatClampNeg → fI H4550 oq j = fI s.heap oq j ∧ fI H4550 aq j = fI s.heap aq j := fun j hj => ⟨(fI_kept (x_lt hTH4514 kH4550 goq (by decide))).trans (b4517 j hj).1, (fI_kept (x_lt hTH4514 kH4550 gaq (by decide))).trans (b4517 j hj).2⟩
              have b4562 : WF (fun k => fI H4550 oq k) (fun k => fI H4550 aq k) (3000 + mn.toNatClampNeg) (3000 + x4188.toNatClampNeg) 0 1 := WF.congr (fun j => fI_kept (x_lt hTH4514 kH4550 goq (by decide))) (fun j => fI_kept (x_lt hTH4514 kH4550 gaq (by decide))) b4518
              have b4563 : WF (fun k => fI H4550 oq k) (fun k => fI H4550 aq k) (3000 + x4188.toNatClampNeg) (3000 + x4445.toNatClampNeg) 0 EA := WF.congr (fun j => fI_kept (x_lt hTH4514 kH4550 goq (by decide))) (fun j => fI_kept (x_lt hTH4514 kH4550 gaq (by decide))) b4519
              have f4564 : ∀ j : Nat, j ≠ x1.toNatClampNeg → fI H4550 f9 j = fI s.heap f9 j := fun j hj => (fI_kept (x_lt hTH4514 kH4550 gf9 (by decide))).trans (f4524 j hj)
              have f4565 : ∀ j : Nat, j ≠ x1.toNatClampNeg → fI H4550 f0 j = fI s.heap f0 j := fun j hj => (fI_kept (x_lt hTH4514 kH4550 gf0 (by decide))).trans (f4525 j hj)
              have f4566 : ∀ j : Nat, j ≠ x1.toNatClampNeg → fI H4550 f1 j = fI s.heap f1 j := fun j hj => (fI_kept (x_lt hTH4514 kH4550 gf1 (by decide))).trans (f4526 j hj)
              have m4567 := (m4527).trans (fI_kept (x_lt hTH4514 kH4550 gq3664 (by decide))).symm
              have m4568 := (m4528).trans (fI_kept (x_lt hTH4514 kH4550 gf9 (by decide))).symm
              have m4569 := (m4529).trans (fI_kept (x_lt hTH4514 kH4550 gf0 (by decide))).symm
              have m4570 := (m4547).trans (fI_kept (x_lt hTH4514 kH4550 gf1 (by decide))).symm
              have m4571 := (m4530).trans (MF.r mf4560 (k := 32) (by decide) (by decide)).symm
              have m4572 := (m4531).trans (MF.r mf4560 (k := 33) (by decide) (by decide)).symm
              have m4573 := (m4532).trans (MF.r mf4560 (k := 29) (by decide) (by decide)).symm
              have m4574 := (m4533).trans (MF.r mf4560 (k := 30) (by decide) (by decide)).symm
              have m4575 := (m4534).trans (MF.r mf4560 (k := 31) (by decide) (by decide)).symm
              have m4576 := (m4535).trans (MF.i mf4560 (k := 18) (by decide) (by decide)).symm
              have m4577 := (m4536).trans (MF.i mf4560 (k := 34) (by decide) (by decide)).symm
              have m4578 := (m4537).trans (MF.r mf4560 (k := 25) (by decide) (by decide)).symm
              have m4579 := (m4538).trans (MF.r mf4560 (k := 17) (by decide) (by decide)).symm
              have m4580 := (m4539).trans (MF.r mf4560 (k := 37) (by decide) (by decide)).symm
              have m4581 := (m4544).trans (MF.i mf4560 (k := 35) (by decide) (by decide)).symm
              have m4582 := (m4545).trans (MF.i mf4560 (k := 36) (by decide) (by decide)).symm
              have m4583 := (m4546).trans (MF.i mf4560 (k := 38) (by decide) (by decide)).symm
              have mf4584 : MF K s.heap H4550 a0 [19, 20, 21, 22, 35, 36, 38, 39, 40] := MF.trans mf4516 mf4560 (by decide)
              have bx4551 := ty_fi (x := x4551) (k := 19) ex4551 hTH4550 ga0 rg_112 rfl
              have bx4552 := ty_fi (x := x4552) (k := 20) ex4552 hTH4550 ga0 rg_112 rfl
              have bx4553 := ty_fi (x := x4553) (k := 21) ex4553 hTH4550 ga0 rg_112 rfl
              have bx4554 := ty_fi (x := x4554) (k := 22) ex4554 hTH4550 ga0 rg_112 rfl
              obtain ⟨r1H4550, r2H4550, r3H4550, r4H4550, r5H4550, r6H4550, r7H4550⟩ := hrH4550
              clear z3H4439 z4H4439
              refine W.eq (g2 := F0 m 117 ls3662 []) rfl ?_
              refine lv_iconst (v := 0) hx hb dX10_readLine_117 (by decide) ?_
              have cx_x4445 := i_cl (x := x4445) (by omega)
              exact x_iret C hQ dX10_readLine_118 hSH4550 (by decide) (by decide) (⟨0, x4551, x4552, x4553, x4554, x4445, rfl, by decide, ex4551, ex4552, ex4553, ex4554, m4581, Or.inr (by and_intros <;> first | assumption | omega), m4571, m4572, m4573, m4574, m4575, g4556, g4557, g4558, g4559, mf4584, b4561, f4564, f4565, f4566, Or.inr (LNW.mk (a := fun k => fI H4550 f9 k) (b := fun k => fI H4550 f0 k) (c := fun k => fI H4550 f1 k) m4568 m4569 m4570 (by omega) (by omega) (by omega) (by omega) (WF.cast b4562 (by omega) (by omega)) (WF.cast b4563 (by omega) (by omega))), hTH4550⟩)
            · have k4549 := i_eq c4548
              refine lv_aload_n hx hb dX10_readLine_107 rfl (lv_at hl3663 1 rfl) ?_
              refine lv_iconst (v := 1) hx hb dX10_readLine_108 (by decide) ?_
              refine x_V (As := [.int 1]) (rest := []) C (a_X10_fails l K G H4514 (1) hTH4514 ga0 g4520 g4521 g4522 g4523) yo_X10_fails wM_X10_235 ⟨⟨by decide, by decide⟩, by decide, by decide⟩ (x_rv C hTH4514 (ci := 10) rfl ga0 rg_112) rfl hl3663.1 rfl (Nat.le_of_ble_eq_true rfl) dX10_readLine_109 hSH4514 (AE_sub (fun _ _ => rfl) (by decide) hSH4514.1) (fun vH4585 H4585 locsH4585 pH4585 zH4585 kH4585 hSH4585 => ?_)
              obtain ⟨x4586, hvH4585, bx4586, g4587, g4588, g4589, g4590, mf4591, hTH4585⟩ := pH4585
              subst hvH4585
              clear zH4585
              have b4592 : ∀ j : Nat, j < 3000 + mn.toNatClampNeg → fI H4585 oq j = fI s.heap oq j ∧ fI H4585 aq j = fI s.heap aq j := fun j hj => ⟨(fI_kept (x_lt hTH4514 kH4585 goq (by decide))).trans (b4517 j hj).1, (fI_kept (x_lt hTH4514 kH4585 gaq (by decide))).trans (b4517 j hj).2⟩
              have b4593 : WF (fun k => fI H4585 oq k) (fun k => fI H4585 aq k) (3000 + mn.toNatClampNeg) (3000 + x4188.toNatClampNeg) 0 1 := WF.congr (fun j => fI_kept (x_lt hTH4514 kH4585 goq (by decide))) (fun j => fI_kept (x_lt hTH4514 kH4585 gaq (by decide))) b4518
              have b4594 : WF (fun k => fI H4585 oq k) (fun k => fI H4585 aq k) (3000 + x4188.toNatClampNeg) (3000 + x4445.toNatClampNeg) 0 EA := WF.congr (fun j => fI_kept (x_lt hTH4514 kH4585 goq (by decide))) (fun j => fI_kept (x_lt hTH4514 kH4585 gaq (by decide))) b4519
              have f4595 : ∀ j : Nat, j ≠ x1.toNatClampNeg → fI H4585 f9 j = fI s.heap f9 j := fun j hj => (fI_kept (x_lt hTH4514 kH4585 gf9 (by decide))).trans (f4524 j hj)
              have f4596 : ∀ j : Nat, j ≠ x1.toNatClampNeg → fI H4585 f0 j = fI s.heap f0 j := fun j hj => (fI_kept (x_lt hTH4514 kH4585 gf0 (by decide))).trans (f4525 j hj)
              have f4597 : ∀ j : Nat, j ≠ x1.toNatClampNeg → fI H4585 f1 j = fI s.heap f1 j := fun j hj => (fI_kept (x_lt hTH4514 kH4585 gf1 (by decide))).trans (f4526 j hj)
              have m4598 := (m4527).trans (fI_kept (x_lt hTH4514 kH4585 gq3664 (by decide))).symm
              have m4599 := (m4528).trans (fI_kept (x_lt hTH4514 kH4585 gf9 (by decide))).symm
              have m4600 := (m4529).trans (fI_kept (x_lt hTH4514 kH4585 gf0 (by decide))).symm
              have m4601 := (m4547).trans (fI_kept (x_lt hTH4514 kH4585 gf1 (by decide))).symm
              have m4602 := (m4530).trans (MF.r mf4591 (k := 32) (by decide) (by decide)).symm
              have m4603 := (m4531).trans (MF.r mf4591 (k := 33) (by decide) (by decide)).symm
              have m4604 := (m4532).trans (MF.r mf4591 (k := 29) (by decide) (by decide)).symm
              have m4605 := (m4533).trans (MF.r mf4591 (k := 30) (by decide) (by decide)).symm
              have m4606 := (m4534).trans (MF.r mf4591 (k := 31) (by decide) (by decide)).symm
              have m4607 := (m4535).trans (MF.i mf4591 (k := 18) (by decide) (by decide)).symm
              have m4608 := (m4536).trans (MF.i mf4591 (k := 34) (by decide) (by decide)).symm
              have m4609 := (m4537).trans (MF.r mf4591 (k := 25) (by decide) (by decide)).symm
              have m4610 := (m4538).trans (MF.r mf4591 (k := 17) (by decide) (by decide)).symm
              have m4611 := (m4539).trans (MF.r mf4591 (k := 37) (by decide) (by decide)).symm
              have m4612 := (m4540).trans (MF.i mf4591 (k := 19) (by decide) (by decide)).symm
              have m4613 := (m4541).trans (MF.i mf4591 (k := 20) (by decide) (by decide)).symm
              have m4614 := (m4542).trans (MF.i mf4591 (k := 21) (by decide) (by decide)).symm
              have m4615 := (m4543).trans (MF.i mf4591 (k := 22) (by decide) (by decide)).symm
              have m4616 := (m4544).trans (MF.i mf4591 (k := 35) (by decide) (by decide)).symm
              have m4617 := (m4545).trans (MF.i mf4591 (k := 36) (by decide) (by decide)).symm
              have m4618 := (m4546).trans (MF.i mf4591 (k := 38) (by decide) (by decide)).symm
              have mf4619 : MF K s.heap H4585 a0 [19, 20, 21, 22, 35, 36, 38, 39, 40] := MF.trans mf4516 mf4591 (by decide)
              refine W.eq (g2 := F0 m 112 ls3662 [.int x4586]) rfl ?_
              exact x_iret C hQ dX10_readLine_112 hSH4585 (by decide) (by decide) (⟨x4586, x4441, x4442, x4443, x4444, x4445, rfl, by omega, m4612, m4613, m4614, m4615, m4616, Or.inl (by omega), m4602, m4603, m4604, m4605, m4606, g4587, g4588, g4589, g4590, mf4619, b4592, f4595, f4596, f4597, Or.inl (by omega), hTH4585⟩)
          · have k4478 := i_eq c4477
            refine lv_iconst (v := (-1)) hx hb dX10_readLine_86 (by decide) ?_
            exact x_iret C hQ dX10_readLine_87 hSH4439 (by decide) (by decide) (⟨(-1), x4441, x4442, x4443, x4444, x4445, rfl, by decide, ex4441, ex4442, ex4443, ex4444, ex4445, Or.inl (by omega), m4448, m4449, m4466, m4467, m4468, g4451, g4452, g4453, g4454, mf4474, b4475, f4458, f4459, f4460, Or.inl (by omega), hTH4439⟩)
      · have k4215 := i_eq c4214
        refine lv_iconst (v := (-1)) hx hb dX10_readLine_53 (by decide) ?_
        exact x_iret C hQ dX10_readLine_54 hSH4182 (by decide) (by decide) (⟨(-1), x4184, x4185, x4186, x4187, x4188, rfl, by decide, ex4184, ex4185, ex4186, ex4187, ex4188, Or.inl (by omega), m4189, m4190, m4205, m4206, m4207, g4191, g4192, g4193, g4194, mf4212, b4213, f4198, f4199, f4200, Or.inl (by omega), hTH4182⟩)
  · have k3746 := i_eq c3745
    refine lv_iconst (v := (-1)) hx hb dX10_readLine_26 (by decide) ?_
    exact x_iret C hQ dX10_readLine_27 hSH3717 (by decide) (by decide) (⟨(-1), x3719, x3720, x3721, x3722, mn, rfl, by decide, ex3719, ex3720, ex3721, ex3722, m3739, Or.inl (by omega), m3734, m3735, m3736, m3737, m3738, g3724, g3725, g3726, g3727, mf3744, b3729, f3730, f3731, f3732, Or.inl (by omega), hTH3717⟩)

set_option maxHeartbeats 4000000 in
set_option maxRecDepth 100000 in
theorem a_X10_readText (l : Launch) (K : KE) (G : Nat → Option Nat) (H : Heap) {a0 : Nat} {oq : Nat} {aq : Nat} {f9 : Nat} {f0 : Nat} {f1 : Nat} (sp : Int32) (fr : Int32) (tk : Int32) (vl : Int32) (mn : Int32) (tp : Int32) (jb : Int32) (hT : TY K G H) (ga0 : G a0 = some 112) (goq : G oq = some 136) (eoq : oq = fR H a0 (K.1.2 10 32)) (gaq : G aq = some 137) (eaq : aq = fR H a0 (K.1.2 10 33)) (gf9 : G f9 = some 133) (ef9 : f9 = fR H a0 (K.1.2 10 29)) (gf0 : G f0 = some 134) (ef0 : f0 = fR H a0 (K.1.2 10 30)) (gf1 : G f1 = some 135) (ef1 : f1 = fR H a0 (K.1.2 10 31)) (esp : sp = fI H a0 (K.1.2 10 19)) (efr : fr = fI H a0 (K.1.2 10 20)) (etk : tk = fI H a0 (K.1.2 10 21)) (evl : vl = fI H a0 (K.1.2 10 22)) (emn : mn = fI H a0 (K.1.2 10 35)) (etp : tp = fI H a0 (K.1.2 10 18)) (ejb : jb = fI H a0 (K.1.2 10 34)) (hg_CG : CG (avw K H a0)) (hg_TU : TU (avw K H a0) (svw K H a0)) (hg_WD : WD (avw K H a0)) (hg_IM : IM (avw K H a0)) (hp0 : (sp.toInt ≤ tp.toInt ∧ fr.toInt ≤ sp.toInt ∧ (tk.toInt = 0 ∨ fr.toInt < sp.toInt) ∧ (tk.toInt ≠ 2 ∨ (0 ≤ vl.toInt ∧ vl.toInt ≤ 23)))) (hp1 : mn.toInt ≤ fr.toInt) : MX l K yX10_readText cX10_readText 2 (some .int) 9 194 0 0 [.ref a0] H (AE G [112, 136, 137, 138, 129, 130, 131, 132, 133, 134, 135] H.size) (fun v H1 => ∃ (r : Int32) (t0 : Int32) (t1 : Int32) (t2 : Int32) (t3 : Int32) (t4 : Int32), v = some (.int r) ∧ ((-1) ≤ r.toInt ∧ r.toInt ≤ 16) ∧ t0 = fI H1 a0 (K.1.2 10 19) ∧ t1 = fI H1 a0 (K.1.2 10 20) ∧ t2 = fI H1 a0 (K.1.2 10 21) ∧ t3 = fI H1 a0 (K.1.2 10 22) ∧ t4 = fI H1 a0 (K.1.2 10 35) ∧ (-1 ≤ r.toInt) ∧ oq = fR H1 a0 (K.1.2 10 32) ∧ aq = fR H1 a0 (K.1.2 10 33) ∧ f9 = fR H1 a0 (K.1.2 10 29) ∧ f0 = fR H1 a0 (K.1.2 10 30) ∧ f1 = fR H1 a0 (K.1.2 10 31) ∧ (CG (avw K H1 a0)) ∧ (TU (avw K H1 a0) (svw K H1 a0)) ∧ (WD (avw K H1 a0)) ∧ (IM (avw K H1 a0)) ∧ MF K H H1 a0 [19, 20, 21, 22, 35, 36, 38, 39, 40] ∧ (r.toInt = -1 ∨ DL (fun k => fI H1 f9 k) (fun k => fI H1 f0 k) (fun k => fI H1 f1 k) (fun k => fI H1 oq k) (fun k => fI H1 aq k) r.toNatClampNeg t4.toInt) ∧ TY K G H1) := by
  refine MX.of (by decide +kernel) (Nat.le_of_ble_eq_true rfl) ?_
  intro p e s m below meth c ls Q C hH hl hQ
  subst hH
  have C : CX p K s m _ meth c RX10 cX10_readText 2 (some .int) "readText" := C
  obtain ⟨hx, hb, hml, hown, hts, hKT, hr, hlocks, hnm⟩ := id C
  have hl : lv_has ls 2 [(0, .ref a0)] := hl
  have hS : va_S (AE G [112, 136, 137, 138, 129, 130, 131, 132, 133, 134, 135] s.heap.size) s.heap s.heap [] := va_S.rf
  have n_m1 : ((-1) : Int32).toInt = -1 := rfl
  have n_0 : (0 : Int32).toInt = 0 := rfl
  have n_1 : (1 : Int32).toInt = 1 := rfl
  have n_3 : (3 : Int32).toInt = 3 := rfl
  have n_16 : (16 : Int32).toInt = 16 := rfl
  have n_96 : (96 : Int32).toInt = 96 := rfl
  have bsp := ty_fi (x := sp) (k := 19) esp hT ga0 rg_112 rfl
  have bfr := ty_fi (x := fr) (k := 20) efr hT ga0 rg_112 rfl
  have btk := ty_fi (x := tk) (k := 21) etk hT ga0 rg_112 rfl
  have bvl := ty_fi (x := vl) (k := 22) evl hT ga0 rg_112 rfl
  have bmn := ty_fi (x := mn) (k := 35) emn hT ga0 rg_112 rfl
  have btp := ty_fi (x := tp) (k := 18) etp hT ga0 rg_112 rfl
  have bjb := ty_fi (x := jb) (k := 34) ejb hT ga0 rg_112 rfl
  have hap : ∀ x y, x < 74 → y < 74 → x ≠ y → K.1.2 10 x ≠ K.1.2 10 y := x_apart hKT hts inX10 tyX10 tyX10_ok nmX10 rfl
  have mf0 : MF K s.heap s.heap a0 [19, 20, 21, 22, 35, 36, 38, 39, 40] := fun _ _ _ => rfl
  replace eoq := EQN.mk eoq
  replace eaq := EQN.mk eaq
  replace ef9 := EQN.mk ef9
  replace ef0 := EQN.mk ef0
  replace ef1 := EQN.mk ef1
  have J2 : ∀ (nf : Nat)  (ls1598 : Array Slot) (H1597 : Heap) (locsH1597 : List Loc) (x1600 : Int32) (x1601 : Int32) (x1602 : Int32) (x1603 : Int32) (x1604 : Int32) (x1605 : Int32), lv_has ls1598 2 [(0, .ref a0), (1, .int x1600)] → TY K G H1597 → va_S (AE G [112, 136, 137, 138, 129, 130, 131, 132, 133, 134, 135] s.heap.size) s.heap H1597 locsH1597 → (0 ≤ x1600.toInt ∧ x1600.toInt ≤ 16) → (0 ≤ x1601.toInt ∧ x1601.toInt ≤ 500) → (0 ≤ x1602.toInt ∧ x1602.toInt ≤ 500) → (0 ≤ x1605.toInt ∧ x1605.toInt ≤ 500) → (x1601 = fI H1597 a0 (K.1.2 10 19)) → (x1602 = fI H1597 a0 (K.1.2 10 20)) → (x1603 = fI H1597 a0 (K.1.2 10 21)) → (x1604 = fI H1597 a0 (K.1.2 10 22)) → (x1605 = fI H1597 a0 (K.1.2 10 35)) → (EQN oq (fR H1597 a0 (K.1.2 10 32))) → (EQN aq (fR H1597 a0 (K.1.2 10 33))) → (EQN f9 (fR H1597 a0 (K.1.2 10 29))) → (EQN f0 (fR H1597 a0 (K.1.2 10 30))) → (EQN f1 (fR H1597 a0 (K.1.2 10 31))) → (tp = fI H1597 a0 (K.1.2 10 18)) → (jb = fI H1597 a0 (K.1.2 10 34)) → (MF K s.heap H1597 a0 [19, 20, 21, 22, 35, 36, 38, 39, 40]) → (CG (avw K H1597 a0)) → (TU (avw K H1597 a0) (svw K H1597 a0)) → (WD (avw K H1597 a0)) → (IM (avw K H1597 a0)) → (500 - x1602.toInt < (nf : Int)) → ((x1601.toInt ≤ tp.toInt ∧ x1602.toInt ≤ x1601.toInt ∧ (x1603.toInt = 0 ∨ x1602.toInt < x1601.toInt) ∧ (x1603.toInt ≠ 2 ∨ (0 ≤ x1604.toInt ∧ x1604.toInt ≤ 23))) ∧ x1605.toInt ≤ x1602.toInt) → (DL (fun k => fI H1597 f9 k) (fun k => fI H1597 f0 k) (fun k => fI H1597 f1 k) (fun k => fI H1597 oq k) (fun k => fI H1597 aq k) x1600.toNatClampNeg x1605.toInt) → W p l e ({ frames := 9, cells := 0, slots := 0, locals := 194 } : Room) s m (([.ref a0] : List Value).toArray) below meth c H1597 locsH1597 0 0 Q (F0 m 2 ls1598 []) := by
    intro nf
    induction nf with
    | zero =>
      intro  ls1598 H1597 locsH1597 x1600 x1601 x1602 x1603 x1604 x1605 hl1599 hTH1597 hSH1597 bx1600 bx1601 bx1602 bx1605 ex1601 ex1602 ex1603 ex1604 ex1605 cy1606_0 cy1606_1 cy1606_2 cy1606_3 cy1606_4 cy1606_5 cy1606_6 mfy1606 gy1606_CG gy1606_TU gy1606_WD gy1606_IM hm2 iv2 hDL
      have rx1603 := i_rng x1603
      have rx1604 := i_rng x1604
      exfalso
      omega
    | succ nf ih2 =>
      intro  ls1598 H1597 locsH1597 x1600 x1601 x1602 x1603 x1604 x1605 hl1599 hTH1597 hSH1597 bx1600 bx1601 bx1602 bx1605 ex1601 ex1602 ex1603 ex1604 ex1605 cy1606_0 cy1606_1 cy1606_2 cy1606_3 cy1606_4 cy1606_5 cy1606_6 mfy1606 gy1606_CG gy1606_TU gy1606_WD gy1606_IM hm2 iv2 hDL
      have rx1603 := i_rng x1603
      have rx1604 := i_rng x1604
      obtain ⟨⟨i1, i2, i3, i4⟩, i5⟩ := iv2
      refine lv_aload_n hx hb dX10_readText_2 rfl (lv_at hl1599 0 rfl) ?_
      refine x_V (As := []) (rest := []) C (a_X10_isBegin l K G H1597 (x1603) (x1604) hTH1597 ga0 ex1603 ex1604) yo_X10_isBegin wM_X10_285 ⟨⟨by decide, by decide⟩, by decide, by decide⟩ (x_rv C hTH1597 (ci := 10) rfl ga0 rg_112) rfl hl1599.1 rfl (Nat.le_of_ble_eq_true rfl) dX10_readText_3 hSH1597 (AE_sub (fun _ _ => rfl) (by decide) hSH1597.1) (fun vH1607 H1607 locsH1607 pH1607 zH1607 kH1607 hSH1607 => ?_)
      obtain ⟨x1608, hvH1607, bx1608, hrH1607, hTH1607⟩ := pH1607
      subst hvH1607
      clear zH1607
      have mf1609 : MF K s.heap H1607 a0 [19, 20, 21, 22, 35, 36, 38, 39, 40] := MF.eff (x_lt hTH1597 kH1607 ga0 (by decide)) mfy1606
      have g1610 : CG (avw K H1607 a0) := CG.congr (fun k hk j => av_eff hTH1597 kH1607 ga0 (by decide) (CG_eff [] (by decide) k hk)) gy1606_CG
      have g1611 : TU (avw K H1607 a0) (svw K H1607 a0) := TU.congr (fun k hk j => av_eff hTH1597 kH1607 ga0 (by decide) (TU_eff [] (by decide) k hk)) (fun k hk => sv_eff hTH1597 kH1607 ga0 (by decide)) gy1606_TU
      have g1612 : WD (avw K H1607 a0) := WD.congr (fun k hk j => av_eff hTH1597 kH1607 ga0 (by decide) (WD_eff [] (by decide) k hk)) gy1606_WD
      have g1613 : IM (avw K H1607 a0) := IM.congr (fun k hk j => av_eff hTH1597 kH1607 ga0 (by decide) (IM_eff [] (by decide) k hk)) gy1606_IM
      have m1614 := (ex1601).trans (fI_kept (x_lt hTH1597 kH1607 ga0 (by decide))).symm
      have m1615 := (ex1602).trans (fI_kept (x_lt hTH1597 kH1607 ga0 (by decide))).symm
      have m1616 := (ex1603).trans (fI_kept (x_lt hTH1597 kH1607 ga0 (by decide))).symm
      have m1617 := (ex1604).trans (fI_kept (x_lt hTH1597 kH1607 ga0 (by decide))).symm
      have m1618 := (ex1605).trans (fI_kept (x_lt hTH1597 kH1607 ga0 (by decide))).symm
      have m1619 := (cy1606_0).trans (fR_kept (x_lt hTH1597 kH1607 ga0 (by decide))).symm
      have m1620 := (cy1606_1).trans (fR_kept (x_lt hTH1597 kH1607 ga0 (by decide))).symm
      have m1621 := (cy1606_2).trans (fR_kept (x_lt hTH1597 kH1607 ga0 (by decide))).symm
      have m1622 := (cy1606_3).trans (fR_kept (x_lt hTH1597 kH1607 ga0 (by decide))).symm
      have m1623 := (cy1606_4).trans (fR_kept (x_lt hTH1597 kH1607 ga0 (by decide))).symm
      have m1624 := (cy1606_5).trans (fI_kept (x_lt hTH1597 kH1607 ga0 (by decide))).symm
      have m1625 := (cy1606_6).trans (fI_kept (x_lt hTH1597 kH1607 ga0 (by decide))).symm
      replace hDL := DL.congr (fun j => fI_kept (x_lt hTH1597 kH1607 gf9 (by decide))) (fun j => fI_kept (x_lt hTH1597 kH1607 gf0 (by decide))) (fun j => fI_kept (x_lt hTH1597 kH1607 gf1 (by decide))) (fun j => fI_kept (x_lt hTH1597 kH1607 goq (by decide))) (fun j => fI_kept (x_lt hTH1597 kH1607 gaq (by decide))) hDL
      refine W.eq (g2 := F0 m 6 ls1598 [.int x1608]) rfl ?_
      refine lv_if_eq (tgt := 42) hx hb dX10_readText_6 (by decide) (fun c1626 => ?_) (fun c1626 => ?_)
      · have k1627 := i_eq c1626
        refine lv_aload_n hx hb dX10_readText_42 rfl (lv_at hl1599 0 rfl) ?_
        refine x_gi C hTH1607 (ci := 10) (k := 21) rfl inX10 (by decide) wF_X10_202 ga0 rg_112 rfl dX10_readText_43 (fun x1628 ex1628 bx1628 => ?_)
        have ux1628 : x1603 = x1628 := (m1616).trans ex1628.symm
        subst ux1628
        refine lv_if_ne (tgt := 53) hx hb dX10_readText_46 (by decide) (fun c1629 => ?_) (fun c1629 => ?_)
        · have k1630 := i_ne c1629
          refine lv_aload_n hx hb dX10_readText_53 rfl (lv_at hl1599 0 rfl) ?_
          refine lv_iconst (v := 1) hx hb dX10_readText_54 (by decide) ?_
          refine x_V (As := [.int 1]) (rest := []) C (a_X10_fails l K G H1607 (1) hTH1607 ga0 g1610 g1611 g1612 g1613) yo_X10_fails wM_X10_235 ⟨⟨by decide, by decide⟩, by decide, by decide⟩ (x_rv C hTH1607 (ci := 10) rfl ga0 rg_112) rfl hl1599.1 rfl (Nat.le_of_ble_eq_true rfl) dX10_readText_55 hSH1607 (AE_sub (fun _ _ => rfl) (by decide) hSH1607.1) (fun vH1631 H1631 locsH1631 pH1631 zH1631 kH1631 hSH1631 => ?_)
          obtain ⟨x1632, hvH1631, bx1632, g1633, g1634, g1635, g1636, mf1637, hTH1631⟩ := pH1631
          subst hvH1631
          clear zH1631
          have m1638 := (m1614).trans (MF.i mf1637 (k := 19) (by decide) (by decide)).symm
          have m1639 := (m1615).trans (MF.i mf1637 (k := 20) (by decide) (by decide)).symm
          have m1640 := (m1616).trans (MF.i mf1637 (k := 21) (by decide) (by decide)).symm
          have m1641 := (m1617).trans (MF.i mf1637 (k := 22) (by decide) (by decide)).symm
          have m1642 := (m1618).trans (MF.i mf1637 (k := 35) (by decide) (by decide)).symm
          have m1643 := (m1619).trans (MF.r mf1637 (k := 32) (by decide) (by decide)).symm
          have m1644 := (m1620).trans (MF.r mf1637 (k := 33) (by decide) (by decide)).symm
          have m1645 := (m1621).trans (MF.r mf1637 (k := 29) (by decide) (by decide)).symm
          have m1646 := (m1622).trans (MF.r mf1637 (k := 30) (by decide) (by decide)).symm
          have m1647 := (m1623).trans (MF.r mf1637 (k := 31) (by decide) (by decide)).symm
          have m1648 := (m1624).trans (MF.i mf1637 (k := 18) (by decide) (by decide)).symm
          have m1649 := (m1625).trans (MF.i mf1637 (k := 34) (by decide) (by decide)).symm
          have mf1650 : MF K s.heap H1631 a0 [19, 20, 21, 22, 35, 36, 38, 39, 40] := MF.trans mf1609 mf1637 (by decide)
          refine W.eq (g2 := F0 m 58 ls1598 [.int x1632]) rfl ?_
          exact x_iret C hQ dX10_readText_58 hSH1631 (by decide) (by decide) (⟨x1632, x1601, x1602, x1603, x1604, x1605, rfl, by omega, m1638, m1639, m1640, m1641, m1642, by omega, m1643, m1644, m1645, m1646, m1647, g1633, g1634, g1635, g1636, mf1650, Or.inl (by omega), hTH1631⟩)
        · have k1630 := i_eq c1629
          refine lv_iload_n hx hb dX10_readText_49 rfl (lv_at hl1599 1 rfl) ?_
          refine lv_goto (tgt := 58) hx hb dX10_readText_50 (by decide) ?_
          exact x_iret C hQ dX10_readText_58 hSH1607 (by decide) (by decide) (⟨x1600, x1601, x1602, x1603, x1604, x1605, rfl, by omega, m1614, m1615, m1616, m1617, m1618, by omega, m1619, m1620, m1621, m1622, m1623, g1610, g1611, g1612, g1613, mf1609, Or.inr hDL, hTH1607⟩)
      · have k1627 := i_ne c1626
        replace hrH1607 := hrH1607.resolve_left (by omega)
        refine lv_iload_n hx hb dX10_readText_9 rfl (lv_at hl1599 1 rfl) ?_
        refine lv_bipush (v := 16) hx hb dX10_readText_10 (by decide) ?_
        refine lv_icmp_ne (tgt := 21) hx hb dX10_readText_12 (by decide) (fun c1651 => ?_) (fun c1651 => ?_)
        · have k1652 := i_ne c1651
          refine lv_aload_n hx hb dX10_readText_21 rfl (lv_at hl1599 0 rfl) ?_
          refine lv_bipush (v := 96) hx hb dX10_readText_22 (by decide) ?_
          refine lv_iload_n hx hb dX10_readText_24 rfl (lv_at hl1599 1 rfl) ?_
          refine lv_iadd hx hb dX10_readText_25 ?_
          refine lv_topi (fun x1653 ex1653 => ?_)
          have tx1653 := i_add ex1653 (by omega)
          refine x_V (As := [.int x1653]) (rest := []) C (a_X10_readLine l K G H1607 (x1653) (x1601) (x1602) (x1603) (x1604) (x1605) (tp) (jb) hTH1607 ga0 (by omega) goq m1619 gaq m1620 gf9 m1621 gf0 m1622 gf1 m1623 m1614 m1615 m1616 m1617 m1618 m1624 m1625 g1610 g1611 g1612 g1613 (by and_intros <;> first | assumption | omega) (by and_intros <;> first | assumption | omega) (by and_intros <;> first | assumption | omega)) yo_X10_readLine wM_X10_289 ⟨⟨by decide, by decide⟩, by decide, by decide⟩ (x_rv C hTH1607 (ci := 10) rfl ga0 rg_112) rfl hl1599.1 rfl (Nat.le_of_ble_eq_true rfl) dX10_readText_26 hSH1607 (AE_sub (fun _ _ => rfl) (by decide) hSH1607.1) (fun vH1654 H1654 locsH1654 pH1654 zH1654 kH1654 hSH1654 => ?_)
          obtain ⟨x1655, x1656, x1657, x1658, x1659, x1660, hvH1654, bx1655, ex1656, ex1657, ex1658, ex1659, ex1660, hrH1654, m1661, m1662, m1663, m1664, m1665, g1666, g1667, g1668, g1669, mf1670, m1671, m1672, m1673, m1674, m1675, hTH1654⟩ := pH1654
          subst hvH1654
          clear zH1654
          replace m1661 := EQN.mk m1661
          replace m1662 := EQN.mk m1662
          replace m1663 := EQN.mk m1663
          replace m1664 := EQN.mk m1664
          replace m1665 := EQN.mk m1665
          have m1676 := (m1619).trans (MF.r mf1670 (k := 32) (by decide) (by decide)).symm
          have m1677 := (m1620).trans (MF.r mf1670 (k := 33) (by decide) (by decide)).symm
          have m1678 := (m1621).trans (MF.r mf1670 (k := 29) (by decide) (by decide)).symm
          have m1679 := (m1622).trans (MF.r mf1670 (k := 30) (by decide) (by decide)).symm
          have m1680 := (m1623).trans (MF.r mf1670 (k := 31) (by decide) (by decide)).symm
          have m1681 := (m1624).trans (MF.i mf1670 (k := 18) (by decide) (by decide)).symm
          have m1682 := (m1625).trans (MF.i mf1670 (k := 34) (by decide) (by decide)).symm
          have mf1683 : MF K s.heap H1654 a0 [19, 20, 21, 22, 35, 36, 38, 39, 40] := MF.trans mf1609 mf1670 (by decide)
          have bx1656 := ty_fi (x := x1656) (k := 19) ex1656 hTH1654 ga0 rg_112 rfl
          have bx1657 := ty_fi (x := x1657) (k := 20) ex1657 hTH1654 ga0 rg_112 rfl
          have bx1658 := ty_fi (x := x1658) (k := 21) ex1658 hTH1654 ga0 rg_112 rfl
          have bx1659 := ty_fi (x := x1659) (k := 22) ex1659 hTH1654 ga0 rg_112 rfl
          have bx1660 := ty_fi (x := x1660) (k := 35) ex1660 hTH1654 ga0 rg_112 rfl
          refine W.eq (g2 := F0 m 29 ls1598 [.int x1655]) rfl ?_
          refine lv_iconst (v := (-1)) hx hb dX10_readText_29 (by decide) ?_
          refine lv_icmp_ne (tgt := 35) hx hb dX10_readText_30 (by decide) (fun c1684 => ?_) (fun c1684 => ?_)
          · have k1685 := i_ne c1684
            replace hrH1654 := hrH1654.resolve_left (by omega)
            obtain ⟨rzH1654, ⟨z1H1654, z2H1654, z3H1654, z4H1654⟩, y1H1654, y2H1654, y3H1654⟩ := hrH1654
            clear i3 i4
            refine lv_iload_n hx hb dX10_readText_35 rfl (lv_at hl1599 1 rfl) ?_
            refine lv_iconst (v := 1) hx hb dX10_readText_36 (by decide) ?_
            refine lv_iadd hx hb dX10_readText_37 ?_
            refine lv_topi (fun x1686 ex1686 => ?_)
            have tx1686 := i_add ex1686 (by omega)
            refine lv_istore_n (lv' := [(1, .int x1686), (0, .ref a0)]) hx hb dX10_readText_38 rfl hl1599 (by decide) rfl (fun ls1687 hl1688 => ?_)
            refine lv_goto (tgt := 2) hx hb dX10_readText_39 (by decide) ?_
            have cx_x1653 := i_cl (x := x1653) (by omega)
            have cx_x1600 := i_cl (x := x1600) (by omega)
            have cx_x1605 := i_cl (x := x1605) (by omega)
            have cx_x1686 := i_cl (x := x1686) (by omega)
            have dn : DL (fun k => fI H1654 f9 k) (fun k => fI H1654 f0 k) (fun k => fI H1654 f1 k) (fun k => fI H1654 oq k) (fun k => fI H1654 aq k) (x1600.toNatClampNeg + 1) x1660.toInt := DL.push hDL (l := x1653.toNatClampNeg) (M := x1605.toNatClampNeg) (by omega) (by omega) m1672 m1673 m1674 m1671 (m1675.resolve_left (by omega))
            exact ih2  ls1687 H1654 locsH1654 (x1686) (x1656) (x1657) (x1658) (x1659) (x1660) (lv_sub hl1688 [1, 0] rfl) hTH1654 hSH1654 ⟨by have := i_rng x1686; omega, by have := i_rng x1686; omega⟩ ⟨by have := i_rng x1656; omega, by have := i_rng x1656; omega⟩ ⟨by have := i_rng x1657; omega, by have := i_rng x1657; omega⟩ ⟨by have := i_rng x1660; omega, by have := i_rng x1660; omega⟩ ex1656 ex1657 ex1658 ex1659 ex1660 m1661 m1662 m1663 m1664 m1665 m1681 m1682 mf1683 g1666 g1667 g1668 g1669 (by omega) (by and_intros <;> first | assumption | omega) (DL.cast dn (by omega) (by omega))
          · have k1685 := i_eq c1684
            refine lv_iconst (v := (-1)) hx hb dX10_readText_33 (by decide) ?_
            exact x_iret C hQ dX10_readText_34 hSH1654 (by decide) (by decide) (⟨(-1), x1656, x1657, x1658, x1659, x1660, rfl, by decide, ex1656, ex1657, ex1658, ex1659, ex1660, by omega, m1661, m1662, m1663, m1664, m1665, g1666, g1667, g1668, g1669, mf1683, Or.inl (by omega), hTH1654⟩)
        · have k1652 := i_eq c1651
          refine lv_aload_n hx hb dX10_readText_15 rfl (lv_at hl1599 0 rfl) ?_
          refine lv_iconst (v := 3) hx hb dX10_readText_16 (by decide) ?_
          refine x_V (As := [.int 3]) (rest := []) C (a_X10_fails l K G H1607 (3) hTH1607 ga0 g1610 g1611 g1612 g1613) yo_X10_fails wM_X10_235 ⟨⟨by decide, by decide⟩, by decide, by decide⟩ (x_rv C hTH1607 (ci := 10) rfl ga0 rg_112) rfl hl1599.1 rfl (Nat.le_of_ble_eq_true rfl) dX10_readText_17 hSH1607 (AE_sub (fun _ _ => rfl) (by decide) hSH1607.1) (fun vH1689 H1689 locsH1689 pH1689 zH1689 kH1689 hSH1689 => ?_)
          obtain ⟨x1690, hvH1689, bx1690, g1691, g1692, g1693, g1694, mf1695, hTH1689⟩ := pH1689
          subst hvH1689
          clear zH1689
          have m1696 := (m1614).trans (MF.i mf1695 (k := 19) (by decide) (by decide)).symm
          have m1697 := (m1615).trans (MF.i mf1695 (k := 20) (by decide) (by decide)).symm
          have m1698 := (m1616).trans (MF.i mf1695 (k := 21) (by decide) (by decide)).symm
          have m1699 := (m1617).trans (MF.i mf1695 (k := 22) (by decide) (by decide)).symm
          have m1700 := (m1618).trans (MF.i mf1695 (k := 35) (by decide) (by decide)).symm
          have m1701 := (m1619).trans (MF.r mf1695 (k := 32) (by decide) (by decide)).symm
          have m1702 := (m1620).trans (MF.r mf1695 (k := 33) (by decide) (by decide)).symm
          have m1703 := (m1621).trans (MF.r mf1695 (k := 29) (by decide) (by decide)).symm
          have m1704 := (m1622).trans (MF.r mf1695 (k := 30) (by decide) (by decide)).symm
          have m1705 := (m1623).trans (MF.r mf1695 (k := 31) (by decide) (by decide)).symm
          have m1706 := (m1624).trans (MF.i mf1695 (k := 18) (by decide) (by decide)).symm
          have m1707 := (m1625).trans (MF.i mf1695 (k := 34) (by decide) (by decide)).symm
          have mf1708 : MF K s.heap H1689 a0 [19, 20, 21, 22, 35, 36, 38, 39, 40] := MF.trans mf1609 mf1695 (by decide)
          refine W.eq (g2 := F0 m 20 ls1598 [.int x1690]) rfl ?_
          exact x_iret C hQ dX10_readText_20 hSH1689 (by decide) (by decide) (⟨x1690, x1601, x1602, x1603, x1604, x1605, rfl, by omega, m1696, m1697, m1698, m1699, m1700, by omega, m1701, m1702, m1703, m1704, m1705, g1691, g1692, g1693, g1694, mf1708, Or.inl (by omega), hTH1689⟩)
  refine lv_iconst (v := 0) hx hb dX10_readText_0 (by decide) ?_
  refine lv_istore_n (lv' := [(1, .int 0), (0, .ref a0)]) hx hb dX10_readText_1 rfl hl (by decide) rfl (fun ls1709 hl1710 => ?_)
  exact J2 ((500 - fr.toInt).toNat + 1)  ls1709 s.heap [] (0) (sp) (fr) (tk) (vl) (mn) (lv_sub hl1710 [1, 0] rfl) hT hS (by decide) ⟨by have := i_rng sp; omega, by have := i_rng sp; omega⟩ ⟨by have := i_rng fr; omega, by have := i_rng fr; omega⟩ ⟨by have := i_rng mn; omega, by have := i_rng mn; omega⟩ esp efr etk evl emn eoq eaq ef9 ef0 ef1 etp ejb mf0 hg_CG hg_TU hg_WD hg_IM (by omega) (by and_intros <;> first | assumption | omega) (DL.nil (by rfl))
