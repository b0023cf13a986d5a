theorem TXA.mk {b : Nat → Int} {L : Nat} {x1 x2 r : Int32} {lw : Int} (hc : (x1.toInt = 0 ∧ 0 ≤ x2.toInt ∧ x2.toInt ≤ 1) ∨ (x1.toInt = 1 ∧ 0 ≤ x2.toInt ∧ x2.toInt ≤ 3)) (hl : (if x1.toInt = 0 then 1 else 0) = lw) (h : RT (txS (kK b L) (vV b L) lw 18 0 0) r) : TXA b L x1 x2 r := Or.inl ⟨hc, by rw [hl]; exact h⟩
theorem TXA.cast {b : Nat → Int} {L : Nat} {x1 x2 r q : Int32} (h : TXA b L x1 x2 r) (e : q.toInt = r.toInt) : TXA b L x1 x2 q := by
  have : q = r := Int32.toInt_inj.mp e
  rw [this]; exact h
set_option maxHeartbeats 4000000 in
set_option maxRecDepth 100000 in
theorem a_X10_text_e (l : Launch) (K : KE) (G : Nat → Option Nat) (H : Heap) {a0 : Nat} (x1 : Int32) (x2 : Int32) {oq : Nat} {aq : Nat} {f9 : Nat} {f0 : Nat} {f1 : Nat} {mq : Nat} {tq : Nat} (mn : Int32) (tp : Int32) (bt : Nat → Int) (hT : TY K G H) (ga0 : G a0 = some 112) (goq : G oq = some 136) (eoq : oq = fR H a0 (K.1.2 10 32)) (gaq : G aq = some 137) (eaq : aq = fR H a0 (K.1.2 10 33)) (gf9 : G f9 = some 133) (ef9 : f9 = fR H a0 (K.1.2 10 29)) (gf0 : G f0 = some 134) (ef0 : f0 = fR H a0 (K.1.2 10 30)) (gf1 : G f1 = some 135) (ef1 : f1 = fR H a0 (K.1.2 10 31)) (gmq : G mq = some 128) (emq : mq = fR H a0 (K.1.2 10 24)) (gtq : G tq = some 126) (etq : tq = fR H a0 (K.1.2 10 17)) (emn : mn = fI H a0 (K.1.2 10 35)) (etp : tp = fI H a0 (K.1.2 10 18)) (hg_CG : CG (avw K H a0)) (hg_TU : TU (avw K H a0) (svw K H a0)) (hg_WD : WD (avw K H a0)) (hg_IM : IM (avw K H a0)) (hy0 : True) (hy1 : ∀ j : Nat, j < tp.toNatClampNeg → 0 ≤ bt j) (hv_bt : ∀ j : Nat, bt j = (fI H tq j).toInt) : MX l K yX10_text cX10_text 7 (some .int) 10 215 0 0 [.ref a0, .int x1, .int x2] H (AE G [112, 136, 137, 138, 129, 130, 131, 132, 133, 134, 135, 128] H.size) (fun v H1 => ∃ (r : Int32) (t0 : Int32) (t1 : Int32), v = some (.int r) ∧ t0 = fI H1 a0 (K.1.2 10 35) ∧ t1 = fI H1 a0 (K.1.2 10 18) ∧ (t1.toInt = 0) ∧ oq = fR H1 a0 (K.1.2 10 32) ∧ aq = fR H1 a0 (K.1.2 10 33) ∧ f9 = fR H1 a0 (K.1.2 10 29) ∧ f0 = fR H1 a0 (K.1.2 10 30) ∧ f1 = fR H1 a0 (K.1.2 10 31) ∧ mq = fR H1 a0 (K.1.2 10 24) ∧ tq = fR H1 a0 (K.1.2 10 17) ∧ (CG (avw K H1 a0)) ∧ (TU (avw K H1 a0) (svw K H1 a0)) ∧ (WD (avw K H1 a0)) ∧ (IM (avw K H1 a0)) ∧ MF K H H1 a0 [0, 18, 19, 20, 21, 22, 34, 35, 36, 38, 39, 40, 41, 42] ∧ (TXA bt tp.toNatClampNeg x1 x2 r) ∧ TY K G H1) := by
  refine MX.of (by decide +kernel) (Nat.le_of_ble_eq_true rfl) ?_
  intro p e s m below meth c ls Q C hH hl hQ
  subst hH
  have C : CX p K s m _ meth c RX10 cX10_text 7 (some .int) "text" := C
  obtain ⟨hx, hb, hml, hown, hts, hKT, hr, hlocks, hnm⟩ := id C
  have hl : lv_has ls 7 [(0, .ref a0), (1, .int x1), (2, .int x2)] := hl
  have hS : va_S (AE G [112, 136, 137, 138, 129, 130, 131, 132, 133, 134, 135, 128] s.heap.size) s.heap s.heap [] := va_S.rf
  have n_m1 : ((-1) : Int32).toInt = -1 := rfl
  have n_0 : (0 : Int32).toInt = 0 := rfl
  have n_1 : (1 : Int32).toInt = 1 := rfl
  have n_2 : (2 : Int32).toInt = 2 := rfl
  have n_3 : (3 : Int32).toInt = 3 := rfl
  have n_16 : (16 : Int32).toInt = 16 := rfl
  have n_96 : (96 : Int32).toInt = 96 := rfl
  have n_500 : (500 : Int32).toInt = 500 := rfl
  have n_3000 : (3000 : Int32).toInt = 3000 := rfl
  have bmn := ty_fi (x := mn) (k := 35) emn hT ga0 rg_112 rfl
  have btp := ty_fi (x := tp) (k := 18) etp hT ga0 rg_112 rfl
  have hap : ∀ x y, x < 74 → y < 74 → x ≠ y → K.1.2 10 x ≠ K.1.2 10 y := x_apart hKT hts inX10 tyX10 tyX10_ok nmX10 rfl
  have mf0 : MF K s.heap s.heap a0 [0, 18, 19, 20, 21, 22, 34, 35, 36, 38, 39, 40, 41, 42] := fun _ _ _ => rfl
  replace eoq := EQN.mk eoq
  replace eaq := EQN.mk eaq
  replace ef9 := EQN.mk ef9
  replace ef0 := EQN.mk ef0
  replace ef1 := EQN.mk ef1
  replace emq := EQN.mk emq
  replace etq := EQN.mk etq
  have f0_bt := hv_bt
  have J149 : ∀  (ls12752 : Array Slot) (H12751 : Heap) (locsH12751 : List Loc) (x12754 : Int32) (x12755 : Int32) (x12756 : Int32) (x12757 : Int32), lv_has ls12752 7 [(0, .ref a0), (4, .int x12754), (5, .int x12755)] → TY K G H12751 → va_S (AE G [112, 136, 137, 138, 129, 130, 131, 132, 133, 134, 135, 128] s.heap.size) s.heap H12751 locsH12751 → (0 ≤ x12754.toInt ∧ x12754.toInt ≤ 16) → (0 ≤ x12755.toInt ∧ x12755.toInt ≤ 5) → (0 ≤ x12756.toInt ∧ x12756.toInt ≤ 500) → (0 ≤ x12757.toInt ∧ x12757.toInt ≤ 0) → (x12756 = fI H12751 a0 (K.1.2 10 35)) → (x12757 = fI H12751 a0 (K.1.2 10 18)) → (EQN oq (fR H12751 a0 (K.1.2 10 32))) → (EQN aq (fR H12751 a0 (K.1.2 10 33))) → (EQN f9 (fR H12751 a0 (K.1.2 10 29))) → (EQN f0 (fR H12751 a0 (K.1.2 10 30))) → (EQN f1 (fR H12751 a0 (K.1.2 10 31))) → (EQN mq (fR H12751 a0 (K.1.2 10 24))) → (EQN tq (fR H12751 a0 (K.1.2 10 17))) → (MF K s.heap H12751 a0 [0, 18, 19, 20, 21, 22, 34, 35, 36, 38, 39, 40, 41, 42]) → (CG (avw K H12751 a0)) → (TU (avw K H12751 a0) (svw K H12751 a0)) → (WD (avw K H12751 a0)) → (IM (avw K H12751 a0)) → (∀ j : Nat, bt j = (fI H12751 tq j).toInt) → (x12757.toInt = 0) → (DL (fun k => fI H12751 f9 k) (fun k => fI H12751 f0 k) (fun k => fI H12751 f1 k) (fun k => fI H12751 oq k) (fun k => fI H12751 aq k) x12754.toNatClampNeg x12756.toInt) → (HD (TXA bt tp.toNatClampNeg x1 x2 x12754)) → W p l e ({ frames := 10, cells := 0, slots := 0, locals := 215 } : Room) s m (([.ref a0, .int x1, .int x2] : List Value).toArray) below meth c H12751 locsH12751 0 0 Q (F0 m 149 ls12752 []) := by
    intro  ls12752 H12751 locsH12751 x12754 x12755 x12756 x12757 hl12753 hTH12751 hSH12751 bx12754 bx12755 bx12756 bx12757 ex12756 ex12757 cy12758_0 cy12758_1 cy12758_2 cy12758_3 cy12758_4 cy12758_5 cy12758_6 mfy12758 gy12758_CG gy12758_TU gy12758_WD gy12758_IM fy12758_bt iv149 hDL htx149
    have J329 : ∀ (nf : Nat) (ls12760 : Array Slot) (H12759 : Heap) (locsH12759 : List Loc) (x12762 : Int32) (x12763 : Int32) (x12764 : Int32), lv_has ls12760 7 [(0, .ref a0), (4, .int x12754), (5, .int x12755), (6, .int x12762)] → TY K G H12759 → va_S (AE G [112, 136, 137, 138, 129, 130, 131, 132, 133, 134, 135, 128] s.heap.size) s.heap H12759 locsH12759 → (0 ≤ x12762.toInt ∧ x12762.toInt ≤ 500) → (0 ≤ x12763.toInt ∧ x12763.toInt ≤ 500) → (0 ≤ x12764.toInt ∧ x12764.toInt ≤ 0) → (x12763 = fI H12759 a0 (K.1.2 10 35)) → (x12764 = fI H12759 a0 (K.1.2 10 18)) → (EQN oq (fR H12759 a0 (K.1.2 10 32))) → (EQN aq (fR H12759 a0 (K.1.2 10 33))) → (EQN f9 (fR H12759 a0 (K.1.2 10 29))) → (EQN f0 (fR H12759 a0 (K.1.2 10 30))) → (EQN f1 (fR H12759 a0 (K.1.2 10 31))) → (EQN mq (fR H12759 a0 (K.1.2 10 24))) → (EQN tq (fR H12759 a0 (K.1.2 10 17))) → (CP (fun k => fI H12759 f9 k) (fun k => fI H12751 f9 k) (16 * x12755.toNatClampNeg) (96) (x12754.toNatClampNeg)) → (CP (fun k => fI H12759 f0 k) (fun k => fI H12751 f0 k) (16 * x12755.toNatClampNeg) (96) (x12754.toNatClampNeg)) → (CP (fun k => fI H12759 f1 k) (fun k => fI H12751 f1 k) (16 * x12755.toNatClampNeg) (96) (x12754.toNatClampNeg)) → (CP (fun k => fI H12759 oq k) (fun k => fI H12751 oq k) (500 * x12755.toNatClampNeg) (3000) (x12762.toNatClampNeg)) → (CP (fun k => fI H12759 aq k) (fun k => fI H12751 aq k) (500 * x12755.toNatClampNeg) (3000) (x12762.toNatClampNeg)) → (CP (fun k => fI H12759 mq k) (fun k => fI H12751 mq k) (0) (0) (0)) → (MF K s.heap H12759 a0 [0, 18, 19, 20, 21, 22, 34, 35, 36, 38, 39, 40, 41, 42]) → (TU (avw K H12759 a0) (svw K H12759 a0)) → (WD (avw K H12759 a0)) → (IM (avw K H12759 a0)) → (∀ j : Nat, bt j = (fI H12759 tq j).toInt) → (500 - x12762.toInt < (nf : Int)) → (x12763.toInt = x12756.toInt ∧ x12764.toInt = 0) → W p l e ({ frames := 10, cells := 0, slots := 0, locals := 215 } : Room) s m (([.ref a0, .int x1, .int x2] : List Value).toArray) below meth c H12759 locsH12759 0 0 Q (F0 m 329 ls12760 []) := by
      intro nf
      induction nf with
      | zero =>
        intro ls12760 H12759 locsH12759 x12762 x12763 x12764 hl12761 hTH12759 hSH12759 bx12762 bx12763 bx12764 ex12763 ex12764 cy12765_0 cy12765_1 cy12765_2 cy12765_3 cy12765_4 cy12765_5 cy12765_6 by12765_c9 by12765_c0 by12765_c1 by12765_co by12765_ca by12765_cm mfy12765 gy12765_TU gy12765_WD gy12765_IM fy12765_bt hm329 iv329
        exfalso
        omega
      | succ nf ih329 =>
        intro ls12760 H12759 locsH12759 x12762 x12763 x12764 hl12761 hTH12759 hSH12759 bx12762 bx12763 bx12764 ex12763 ex12764 cy12765_0 cy12765_1 cy12765_2 cy12765_3 cy12765_4 cy12765_5 cy12765_6 by12765_c9 by12765_c0 by12765_c1 by12765_co by12765_ca by12765_cm mfy12765 gy12765_TU gy12765_WD gy12765_IM fy12765_bt hm329 iv329
        refine lv_iload hx hb dX10_text_329 (lv_at hl12761 3 rfl) ?_
        refine lv_aload_n hx hb dX10_text_331 rfl (lv_at hl12761 0 rfl) ?_
        refine x_gi C hTH12759 (ci := 10) (k := 35) rfl inX10 (by decide) wF_X10_228 ga0 rg_112 rfl dX10_text_332 (fun x12766 ex12766 bx12766 => ?_)
        have ux12766 : x12763 = x12766 := (ex12763).trans ex12766.symm
        subst ux12766
        refine lv_icmp_ge (tgt := 394) hx hb dX10_text_335 (by decide) (fun c12767 => ?_) (fun c12767 => ?_)
        · have k12768 := i_le c12767
          refine lv_aload_n hx hb dX10_text_394 rfl (lv_at hl12761 0 rfl) ?_
          refine x_gr C hTH12759 (ci := 10) (k := 24) rfl inX10 (by decide) wF_X10_59 ga0 rg_112 rfl dX10_text_395 (fun q12769 eq12769 gq12769 => ?_)
          have uq12769 : mq = q12769 := (cy12765_5).trans eq12769.symm
          subst uq12769
          clear eq12769
          refine lv_iload hx hb dX10_text_398 (lv_at hl12761 2 rfl) ?_
          refine lv_iload hx hb dX10_text_400 (lv_at hl12761 1 rfl) ?_
          refine x_iast C hTH12759 hSH12759 gmq rg_128 (by omega) (by show _ < ((7 : Nat) : Int); omega) ⟨by have := i_rng x12754; omega, by have := i_rng x12754; omega⟩ (AE_in gmq (by decide)) dX10_text_402 (fun H12770 locsH12770 hTH12770 hSH12770 wH12770 => ?_)
          have mf12771 : MF K s.heap H12770 a0 [0, 18, 19, 20, 21, 22, 34, 35, 36, 38, 39, 40, 41, 42] := MF.arr wH12770 (G_ne ga0 gmq (by decide)) mfy12765
          have g12772 : TU (avw K H12770 a0) (svw K H12770 a0) := TU.congr (fun k hk j => av_arr hTH12759 ga0 wH12770 gmq (by decide) (TU_ok 128 (by decide) k hk)) (fun k hk => sv_arr ga0 wH12770 gmq (by decide)) gy12765_TU
          have g12773 : WD (avw K H12770 a0) := WD.congr (fun k hk j => av_arr hTH12759 ga0 wH12770 gmq (by decide) (WD_ok 128 (by decide) k hk)) gy12765_WD
          have g12774 : IM (avw K H12770 a0) := IM.congr (fun k hk j => av_arr hTH12759 ga0 wH12770 gmq (by decide) (IM_ok 128 (by decide) k hk)) gy12765_IM
          have b12775 : CP (fun k => fI H12770 f9 k) (fun k => fI H12751 f9 k) (16 * x12755.toNatClampNeg) (96) (x12754.toNatClampNeg) := CP.congr (fun j => Wr.neI wH12770 (Or.inl (G_ne gf9 gmq (by decide)))) by12765_c9
          have b12776 : CP (fun k => fI H12770 f0 k) (fun k => fI H12751 f0 k) (16 * x12755.toNatClampNeg) (96) (x12754.toNatClampNeg) := CP.congr (fun j => Wr.neI wH12770 (Or.inl (G_ne gf0 gmq (by decide)))) by12765_c0
          have b12777 : CP (fun k => fI H12770 f1 k) (fun k => fI H12751 f1 k) (16 * x12755.toNatClampNeg) (96) (x12754.toNatClampNeg) := CP.congr (fun j => Wr.neI wH12770 (Or.inl (G_ne gf1 gmq (by decide)))) by12765_c1
          have b12778 : CP (fun k => fI H12770 oq k) (fun k => fI H12751 oq k) (500 * x12755.toNatClampNeg) (3000) (x12762.toNatClampNeg) := CP.congr (fun j => Wr.neI wH12770 (Or.inl (G_ne goq gmq (by decide)))) by12765_co
          have b12779 : CP (fun k => fI H12770 aq k) (fun k => fI H12751 aq k) (500 * x12755.toNatClampNeg) (3000) (x12762.toNatClampNeg) := CP.congr (fun j => Wr.neI wH12770 (Or.inl (G_ne gaq gmq (by decide)))) by12765_ca
          have f12780 : ∀ j : Nat, bt j = (fI H12770 tq j).toInt := fun j => (fy12765_bt j).trans (congrArg Int32.toInt (Wr.neI wH12770 (Or.inl (G_ne gtq gmq (by decide)))).symm)
          have m12781 := ex12763.trans (Wr.neI wH12770 (Or.inl (G_ne ga0 gmq (by decide)))).symm
          have m12782 := ex12764.trans (Wr.neI wH12770 (Or.inl (G_ne ga0 gmq (by decide)))).symm
          have m12783 := cy12765_0.trans (Wr.neR wH12770 (Or.inl (G_ne ga0 gmq (by decide)))).symm
          have m12784 := cy12765_1.trans (Wr.neR wH12770 (Or.inl (G_ne ga0 gmq (by decide)))).symm
          have m12785 := cy12765_2.trans (Wr.neR wH12770 (Or.inl (G_ne ga0 gmq (by decide)))).symm
          have m12786 := cy12765_3.trans (Wr.neR wH12770 (Or.inl (G_ne ga0 gmq (by decide)))).symm
          have m12787 := cy12765_4.trans (Wr.neR wH12770 (Or.inl (G_ne ga0 gmq (by decide)))).symm
          have m12788 := cy12765_5.trans (Wr.neR wH12770 (Or.inl (G_ne ga0 gmq (by decide)))).symm
          have m12789 := cy12765_6.trans (Wr.neR wH12770 (Or.inl (G_ne ga0 gmq (by decide)))).symm
          have m12790 := Wr.I wH12770
          have m12790 := m12790.symm
          clear by12765_c0 by12765_c1 by12765_c9 by12765_ca by12765_co cy12765_0 cy12765_1 cy12765_2 cy12765_3 cy12765_4 cy12765_5 cy12765_6 ex12763 ex12764 fy12765_bt gy12765_IM gy12765_TU gy12765_WD hTH12759 mfy12765
          have cf_x12754 := i_cl (x := x12754) (by omega)
          have cf_x12755 := i_cl (x := x12755) (by omega)
          have cf_x12762 := i_cl (x := x12762) (by omega)
          have cf_x12763 := i_cl (x := x12763) (by omega)
          have cgz : CG (avw K H12770 a0) := CG.fin (row := x12755.toNatClampNeg) (n := x12754.toNatClampNeg) (i := x12762.toNatClampNeg) hTH12751 ga0 cy12758_5 cy12758_2 cy12758_3 cy12758_4 cy12758_0 cy12758_1 m12788 m12785 m12786 m12787 m12783 m12784 gy12758_CG  hDL (by omega) (by omega) (by omega) (by omega) (CP.cast b12775 (by omega) (by omega) (by omega)) (CP.cast b12776 (by omega) (by omega) (by omega)) (CP.cast b12777 (by omega) (by omega) (by omega)) (CP.cast b12778 (by omega) (by omega) (by omega)) (CP.cast b12779 (by omega) (by omega) (by omega)) (by rw [Wr.I wH12770]; omega) (fun j hj => (Wr.neI wH12770 (Or.inr hj)).trans (by12765_cm.2 j (Or.inr (by omega))))
          refine lv_iload hx hb dX10_text_403 (lv_at hl12761 1 rfl) ?_
          exact x_iret C hQ dX10_text_405 hSH12770 (by decide) (by decide) (⟨x12754, x12763, x12764, rfl, m12781, m12782, by omega, m12783, m12784, m12785, m12786, m12787, m12788, m12789, cgz, g12772, g12773, g12774, mf12771, ((HD.get htx149).cast (by omega)), hTH12770⟩)
        · have k12768 := i_nle c12767
          have hrw : 0 ≤ x12755.toInt ∧ x12755.toInt ≤ 5 := ⟨by omega, by omega⟩
          have hlw : 0 ≤ x12762.toInt ∧ x12762.toInt ≤ 499 := ⟨by omega, by omega⟩
          refine lv_aload_n hx hb dX10_text_338 rfl (lv_at hl12761 0 rfl) ?_
          refine x_gr C hTH12759 (ci := 10) (k := 32) rfl inX10 (by decide) wF_X10_83 ga0 rg_112 rfl dX10_text_339 (fun q12791 eq12791 gq12791 => ?_)
          have uq12791 : oq = q12791 := (cy12765_0).trans eq12791.symm
          subst uq12791
          clear eq12791
          refine lv_sipush (v := 500) hx hb dX10_text_342 (by decide) ?_
          refine lv_iload hx hb dX10_text_345 (lv_at hl12761 2 rfl) ?_
          refine lv_imul hx hb dX10_text_347 ?_
          refine lv_topi (fun x12792 ex12792 => ?_)
          have tx12792 := i_mul ex12792 (by rw [n_500]; omega)
          rw [n_500] at tx12792
          refine lv_iload hx hb dX10_text_348 (lv_at hl12761 3 rfl) ?_
          refine lv_iadd hx hb dX10_text_350 ?_
          refine lv_topi (fun x12793 ex12793 => ?_)
          have tx12793 := i_add ex12793 (by omega)
          refine lv_aload_n hx hb dX10_text_351 rfl (lv_at hl12761 0 rfl) ?_
          refine x_gr C hTH12759 (ci := 10) (k := 32) rfl inX10 (by decide) wF_X10_83 ga0 rg_112 rfl dX10_text_352 (fun q12794 eq12794 gq12794 => ?_)
          have uq12794 : oq = q12794 := (cy12765_0).trans eq12794.symm
          subst uq12794
          clear eq12794
          refine lv_sipush (v := 3000) hx hb dX10_text_355 (by decide) ?_
          refine lv_iload hx hb dX10_text_358 (lv_at hl12761 3 rfl) ?_
          refine lv_iadd hx hb dX10_text_360 ?_
          refine lv_topi (fun x12795 ex12795 => ?_)
          have tx12795 := i_add ex12795 (by omega)
          refine x_ai C hTH12759 goq rg_136 ⟨by omega, by show _ < ((3500 : Nat) : Int); omega⟩ dX10_text_361 (fun x12796 ex12796 bx12796 => ?_)
          refine x_iast C hTH12759 hSH12759 goq rg_136 (by omega) (by show _ < ((3500 : Nat) : Int); omega) ⟨by have := i_rng x12796; omega, by have := i_rng x12796; omega⟩ (AE_in goq (by decide)) dX10_text_362 (fun H12797 locsH12797 hTH12797 hSH12797 wH12797 => ?_)
          have mf12798 : MF K s.heap H12797 a0 [0, 18, 19, 20, 21, 22, 34, 35, 36, 38, 39, 40, 41, 42] := MF.arr wH12797 (G_ne ga0 goq (by decide)) mfy12765
          have g12799 : TU (avw K H12797 a0) (svw K H12797 a0) := TU.congr (fun k hk j => av_arr hTH12759 ga0 wH12797 goq (by decide) (TU_ok 136 (by decide) k hk)) (fun k hk => sv_arr ga0 wH12797 goq (by decide)) gy12765_TU
          have g12800 : WD (avw K H12797 a0) := WD.congr (fun k hk j => av_arr hTH12759 ga0 wH12797 goq (by decide) (WD_ok 136 (by decide) k hk)) gy12765_WD
          have g12801 : IM (avw K H12797 a0) := IM.congr (fun k hk j => av_arr hTH12759 ga0 wH12797 goq (by decide) (IM_ok 136 (by decide) k hk)) gy12765_IM
          have b12802 : CP (fun k => fI H12797 f9 k) (fun k => fI H12751 f9 k) (16 * x12755.toNatClampNeg) (96) (x12754.toNatClampNeg) := CP.congr (fun j => Wr.neI wH12797 (Or.inl (G_ne gf9 goq (by decide)))) by12765_c9
          have b12803 : CP (fun k => fI H12797 f0 k) (fun k => fI H12751 f0 k) (16 * x12755.toNatClampNeg) (96) (x12754.toNatClampNeg) := CP.congr (fun j => Wr.neI wH12797 (Or.inl (G_ne gf0 goq (by decide)))) by12765_c0
          have b12804 : CP (fun k => fI H12797 f1 k) (fun k => fI H12751 f1 k) (16 * x12755.toNatClampNeg) (96) (x12754.toNatClampNeg) := CP.congr (fun j => Wr.neI wH12797 (Or.inl (G_ne gf1 goq (by decide)))) by12765_c1
          have b12805 : CP (fun k => fI H12797 oq k) (fun k => fI H12751 oq k) (500 * x12755.toNatClampNeg) (3000) (x12762.toNatClampNeg + 1) := CP.step by12765_co (i := x12793.toNatClampNeg) (k := x12795.toNatClampNeg) (x := x12796) (ix500 tx12792 tx12793 hrw.1 hlw.1) (le500 hrw hlw) (ixk n_3000 tx12795 hlw.1) ex12796 (Wr.I wH12797) (fun j hj => Wr.neI wH12797 (Or.inr hj))
          have b12806 : CP (fun k => fI H12797 aq k) (fun k => fI H12751 aq k) (500 * x12755.toNatClampNeg) (3000) (x12762.toNatClampNeg) := CP.congr (fun j => Wr.neI wH12797 (Or.inl (G_ne gaq goq (by decide)))) by12765_ca
          have b12807 : CP (fun k => fI H12797 mq k) (fun k => fI H12751 mq k) (0) (0) (0) := CP.congr (fun j => Wr.neI wH12797 (Or.inl (G_ne gmq goq (by decide)))) by12765_cm
          have f12808 : ∀ j : Nat, bt j = (fI H12797 tq j).toInt := fun j => (fy12765_bt j).trans (congrArg Int32.toInt (Wr.neI wH12797 (Or.inl (G_ne gtq goq (by decide)))).symm)
          have m12809 := ex12763.trans (Wr.neI wH12797 (Or.inl (G_ne ga0 goq (by decide)))).symm
          have m12810 := ex12764.trans (Wr.neI wH12797 (Or.inl (G_ne ga0 goq (by decide)))).symm
          have m12811 := cy12765_0.trans (Wr.neR wH12797 (Or.inl (G_ne ga0 goq (by decide)))).symm
          have m12812 := cy12765_1.trans (Wr.neR wH12797 (Or.inl (G_ne ga0 goq (by decide)))).symm
          have m12813 := cy12765_2.trans (Wr.neR wH12797 (Or.inl (G_ne ga0 goq (by decide)))).symm
          have m12814 := cy12765_3.trans (Wr.neR wH12797 (Or.inl (G_ne ga0 goq (by decide)))).symm
          have m12815 := cy12765_4.trans (Wr.neR wH12797 (Or.inl (G_ne ga0 goq (by decide)))).symm
          have m12816 := cy12765_5.trans (Wr.neR wH12797 (Or.inl (G_ne ga0 goq (by decide)))).symm
          have m12817 := cy12765_6.trans (Wr.neR wH12797 (Or.inl (G_ne ga0 goq (by decide)))).symm
          have m12819 := Wr.I wH12797
          have m12819 := m12819.symm
          clear by12765_c0 by12765_c1 by12765_c9 by12765_ca by12765_co cy12765_0 cy12765_1 cy12765_2 cy12765_3 cy12765_4 cy12765_5 cy12765_6 ex12763 ex12764 ex12796 fy12765_bt gy12765_IM gy12765_TU gy12765_WD hTH12759 mfy12765
          clear tx12792 tx12793 tx12795 bx12796 ex12792 ex12793 ex12795
          refine lv_aload_n hx hb dX10_text_363 rfl (lv_at hl12761 0 rfl) ?_
          refine x_gr C hTH12797 (ci := 10) (k := 33) rfl inX10 (by decide) wF_X10_86 ga0 rg_112 rfl dX10_text_364 (fun q12820 eq12820 gq12820 => ?_)
          have uq12820 : aq = q12820 := (m12812).trans eq12820.symm
          subst uq12820
          clear eq12820
          refine lv_sipush (v := 500) hx hb dX10_text_367 (by decide) ?_
          refine lv_iload hx hb dX10_text_370 (lv_at hl12761 2 rfl) ?_
          refine lv_imul hx hb dX10_text_372 ?_
          refine lv_topi (fun x12821 ex12821 => ?_)
          have tx12821 := i_mul ex12821 (by rw [n_500]; omega)
          rw [n_500] at tx12821
          refine lv_iload hx hb dX10_text_373 (lv_at hl12761 3 rfl) ?_
          refine lv_iadd hx hb dX10_text_375 ?_
          refine lv_topi (fun x12822 ex12822 => ?_)
          have tx12822 := i_add ex12822 (by omega)
          refine lv_aload_n hx hb dX10_text_376 rfl (lv_at hl12761 0 rfl) ?_
          refine x_gr C hTH12797 (ci := 10) (k := 33) rfl inX10 (by decide) wF_X10_86 ga0 rg_112 rfl dX10_text_377 (fun q12823 eq12823 gq12823 => ?_)
          have uq12823 : aq = q12823 := (m12812).trans eq12823.symm
          subst uq12823
          clear eq12823
          refine lv_sipush (v := 3000) hx hb dX10_text_380 (by decide) ?_
          refine lv_iload hx hb dX10_text_383 (lv_at hl12761 3 rfl) ?_
          refine lv_iadd hx hb dX10_text_385 ?_
          refine lv_topi (fun x12824 ex12824 => ?_)
          have tx12824 := i_add ex12824 (by omega)
          refine x_ai C hTH12797 gaq rg_137 ⟨by omega, by show _ < ((3500 : Nat) : Int); omega⟩ dX10_text_386 (fun x12825 ex12825 bx12825 => ?_)
          refine x_iast C hTH12797 hSH12797 gaq rg_137 (by omega) (by show _ < ((3500 : Nat) : Int); omega) ⟨by have := i_rng x12825; omega, by have := i_rng x12825; omega⟩ (AE_in gaq (by decide)) dX10_text_387 (fun H12826 locsH12826 hTH12826 hSH12826 wH12826 => ?_)
          have mf12827 : MF K s.heap H12826 a0 [0, 18, 19, 20, 21, 22, 34, 35, 36, 38, 39, 40, 41, 42] := MF.arr wH12826 (G_ne ga0 gaq (by decide)) mf12798
          have g12828 : TU (avw K H12826 a0) (svw K H12826 a0) := TU.congr (fun k hk j => av_arr hTH12797 ga0 wH12826 gaq (by decide) (TU_ok 137 (by decide) k hk)) (fun k hk => sv_arr ga0 wH12826 gaq (by decide)) g12799
          have g12829 : WD (avw K H12826 a0) := WD.congr (fun k hk j => av_arr hTH12797 ga0 wH12826 gaq (by decide) (WD_ok 137 (by decide) k hk)) g12800
          have g12830 : IM (avw K H12826 a0) := IM.congr (fun k hk j => av_arr hTH12797 ga0 wH12826 gaq (by decide) (IM_ok 137 (by decide) k hk)) g12801
          have b12831 : CP (fun k => fI H12826 f9 k) (fun k => fI H12751 f9 k) (16 * x12755.toNatClampNeg) (96) (x12754.toNatClampNeg) := CP.congr (fun j => Wr.neI wH12826 (Or.inl (G_ne gf9 gaq (by decide)))) b12802
          have b12832 : CP (fun k => fI H12826 f0 k) (fun k => fI H12751 f0 k) (16 * x12755.toNatClampNeg) (96) (x12754.toNatClampNeg) := CP.congr (fun j => Wr.neI wH12826 (Or.inl (G_ne gf0 gaq (by decide)))) b12803
          have b12833 : CP (fun k => fI H12826 f1 k) (fun k => fI H12751 f1 k) (16 * x12755.toNatClampNeg) (96) (x12754.toNatClampNeg) := CP.congr (fun j => Wr.neI wH12826 (Or.inl (G_ne gf1 gaq (by decide)))) b12804
          have b12834 : CP (fun k => fI H12826 oq k) (fun k => fI H12751 oq k) (500 * x12755.toNatClampNeg) (3000) (x12762.toNatClampNeg + 1) := CP.congr (fun j => Wr.neI wH12826 (Or.inl (G_ne goq gaq (by decide)))) b12805
          have b12835 : CP (fun k => fI H12826 aq k) (fun k => fI H12751 aq k) (500 * x12755.toNatClampNeg) (3000) (x12762.toNatClampNeg + 1) := CP.step b12806 (i := x12822.toNatClampNeg) (k := x12824.toNatClampNeg) (x := x12825) (ix500 tx12821 tx12822 hrw.1 hlw.1) (le500 hrw hlw) (ixk n_3000 tx12824 hlw.1) ex12825 (Wr.I wH12826) (fun j hj => Wr.neI wH12826 (Or.inr hj))
          have b12836 : CP (fun k => fI H12826 mq k) (fun k => fI H12751 mq k) (0) (0) (0) := CP.congr (fun j => Wr.neI wH12826 (Or.inl (G_ne gmq gaq (by decide)))) b12807
          have f12837 : ∀ j : Nat, bt j = (fI H12826 tq j).toInt := fun j => (f12808 j).trans (congrArg Int32.toInt (Wr.neI wH12826 (Or.inl (G_ne gtq gaq (by decide)))).symm)
          have m12838 := m12809.trans (Wr.neI wH12826 (Or.inl (G_ne ga0 gaq (by decide)))).symm
          have m12839 := m12810.trans (Wr.neI wH12826 (Or.inl (G_ne ga0 gaq (by decide)))).symm
          have m12840 := m12811.trans (Wr.neR wH12826 (Or.inl (G_ne ga0 gaq (by decide)))).symm
          have m12841 := m12812.trans (Wr.neR wH12826 (Or.inl (G_ne ga0 gaq (by decide)))).symm
          have m12842 := m12813.trans (Wr.neR wH12826 (Or.inl (G_ne ga0 gaq (by decide)))).symm
          have m12843 := m12814.trans (Wr.neR wH12826 (Or.inl (G_ne ga0 gaq (by decide)))).symm
          have m12844 := m12815.trans (Wr.neR wH12826 (Or.inl (G_ne ga0 gaq (by decide)))).symm
          have m12845 := m12816.trans (Wr.neR wH12826 (Or.inl (G_ne ga0 gaq (by decide)))).symm
          have m12846 := m12817.trans (Wr.neR wH12826 (Or.inl (G_ne ga0 gaq (by decide)))).symm
          have m12847 := m12819.trans (Wr.neI wH12826 (Or.inl (G_ne goq gaq (by decide)))).symm
          have m12849 := Wr.I wH12826
          have m12849 := m12849.symm
          clear b12802 b12803 b12804 b12805 b12806 b12807 ex12825 f12808 g12799 g12800 g12801 hTH12797 m12809 m12810 m12811 m12812 m12813 m12814 m12815 m12816 m12817 m12819 mf12798
          clear tx12821 tx12822 tx12824 bx12825 ex12821 ex12822 ex12824
          obtain ⟨x12850, ex12850⟩ : ∃ y : Int32, y = x12762 + 1 := ⟨_, rfl⟩
          have tx12850 := i_add ex12850 (by omega)
          refine lv_iinc (v := x12850) (lv' := [(6, .int x12850), (0, .ref a0), (4, .int x12754), (5, .int x12755)]) hx hb dX10_text_388 hl12761 (k := 3) rfl (by rw [ex12850]; rfl) (by decide) rfl (fun ls12851 hl12852 => ?_)
          refine lv_goto (tgt := 329) hx hb dX10_text_391 (by decide) ?_
          have cl_x12754 := i_cl (x := x12754) (by omega)
          have cl_x12755 := i_cl (x := x12755) (by omega)
          have cl_x12762 := i_cl (x := x12762) (by omega)
          have cl_x12850 := i_cl (x := x12850) (by omega)
          exact ih329 ls12851 H12826 locsH12826 (x12850) (x12763) (x12764) (lv_sub hl12852 [1, 2, 3, 0] rfl) hTH12826 hSH12826 ⟨by have := i_rng x12850; omega, by have := i_rng x12850; omega⟩ ⟨by have := i_rng x12763; omega, by have := i_rng x12763; omega⟩ ⟨by have := i_rng x12764; omega, by have := i_rng x12764; omega⟩ m12838 m12839 m12840 m12841 m12842 m12843 m12844 m12845 m12846 (CP.cast b12831 (by omega) (by omega) (by omega)) (CP.cast b12832 (by omega) (by omega) (by omega)) (CP.cast b12833 (by omega) (by omega) (by omega)) (CP.cast b12834 (by omega) (by omega) (by omega)) (CP.cast b12835 (by omega) (by omega) (by omega)) (CP.cast b12836 (by omega) (by omega) (by omega)) mf12827 g12828 g12829 g12830 f12837 (by omega) (by omega)
    have J152 : ∀ (nf : Nat) (ls12854 : Array Slot) (H12853 : Heap) (locsH12853 : List Loc) (x12856 : Int32) (x12857 : Int32) (x12858 : Int32), lv_has ls12854 7 [(0, .ref a0), (4, .int x12754), (5, .int x12755), (6, .int x12856)] → TY K G H12853 → va_S (AE G [112, 136, 137, 138, 129, 130, 131, 132, 133, 134, 135, 128] s.heap.size) s.heap H12853 locsH12853 → (0 ≤ x12856.toInt ∧ x12856.toInt ≤ 16) → (0 ≤ x12857.toInt ∧ x12857.toInt ≤ 500) → (0 ≤ x12858.toInt ∧ x12858.toInt ≤ 0) → (x12857 = fI H12853 a0 (K.1.2 10 35)) → (x12858 = fI H12853 a0 (K.1.2 10 18)) → (EQN oq (fR H12853 a0 (K.1.2 10 32))) → (EQN aq (fR H12853 a0 (K.1.2 10 33))) → (EQN f9 (fR H12853 a0 (K.1.2 10 29))) → (EQN f0 (fR H12853 a0 (K.1.2 10 30))) → (EQN f1 (fR H12853 a0 (K.1.2 10 31))) → (EQN mq (fR H12853 a0 (K.1.2 10 24))) → (EQN tq (fR H12853 a0 (K.1.2 10 17))) → (CP (fun k => fI H12853 f9 k) (fun k => fI H12751 f9 k) (16 * x12755.toNatClampNeg) (96) (x12856.toNatClampNeg)) → (CP (fun k => fI H12853 f0 k) (fun k => fI H12751 f0 k) (16 * x12755.toNatClampNeg) (96) (x12856.toNatClampNeg)) → (CP (fun k => fI H12853 f1 k) (fun k => fI H12751 f1 k) (16 * x12755.toNatClampNeg) (96) (x12856.toNatClampNeg)) → (CP (fun k => fI H12853 oq k) (fun k => fI H12751 oq k) (500 * x12755.toNatClampNeg) (3000) (0)) → (CP (fun k => fI H12853 aq k) (fun k => fI H12751 aq k) (500 * x12755.toNatClampNeg) (3000) (0)) → (CP (fun k => fI H12853 mq k) (fun k => fI H12751 mq k) (0) (0) (0)) → (MF K s.heap H12853 a0 [0, 18, 19, 20, 21, 22, 34, 35, 36, 38, 39, 40, 41, 42]) → (TU (avw K H12853 a0) (svw K H12853 a0)) → (WD (avw K H12853 a0)) → (IM (avw K H12853 a0)) → (∀ j : Nat, bt j = (fI H12853 tq j).toInt) → (16 - x12856.toInt < (nf : Int)) → (x12857.toInt = x12756.toInt ∧ x12858.toInt = 0 ∧ x12856.toInt ≤ x12754.toInt) → W p l e ({ frames := 10, cells := 0, slots := 0, locals := 215 } : Room) s m (([.ref a0, .int x1, .int x2] : List Value).toArray) below meth c H12853 locsH12853 0 0 Q (F0 m 152 ls12854 []) := by
      intro nf
      induction nf with
      | zero =>
        intro ls12854 H12853 locsH12853 x12856 x12857 x12858 hl12855 hTH12853 hSH12853 bx12856 bx12857 bx12858 ex12857 ex12858 cy12859_0 cy12859_1 cy12859_2 cy12859_3 cy12859_4 cy12859_5 cy12859_6 by12859_c9 by12859_c0 by12859_c1 by12859_co by12859_ca by12859_cm mfy12859 gy12859_TU gy12859_WD gy12859_IM fy12859_bt hm152 iv152
        exfalso
        omega
      | succ nf ih152 =>
        intro ls12854 H12853 locsH12853 x12856 x12857 x12858 hl12855 hTH12853 hSH12853 bx12856 bx12857 bx12858 ex12857 ex12858 cy12859_0 cy12859_1 cy12859_2 cy12859_3 cy12859_4 cy12859_5 cy12859_6 by12859_c9 by12859_c0 by12859_c1 by12859_co by12859_ca by12859_cm mfy12859 gy12859_TU gy12859_WD gy12859_IM fy12859_bt hm152 iv152
        refine lv_iload hx hb dX10_text_152 (lv_at hl12855 3 rfl) ?_
        refine lv_iload hx hb dX10_text_154 (lv_at hl12855 1 rfl) ?_
        refine lv_icmp_ge (tgt := 326) hx hb dX10_text_156 (by decide) (fun c12860 => ?_) (fun c12860 => ?_)
        · have k12861 := i_le c12860
          refine lv_iconst (v := 0) hx hb dX10_text_326 (by decide) ?_
          refine lv_istore (lv' := [(6, .int 0), (0, .ref a0), (4, .int x12754), (5, .int x12755)]) hx hb dX10_text_327 hl12855 (by decide) rfl (fun ls12862 hl12863 => ?_)
          have cl00 : (0 : Int32).toNatClampNeg = 0 := rfl
          have cl_x12754 := i_cl (x := x12754) (by omega)
          have cl_x12755 := i_cl (x := x12755) (by omega)
          have cl_x12856 := i_cl (x := x12856) (by omega)
          have cl_0 := i_cl (x := (0 : Int32)) (by omega)
          have cl_0 := i_cl (x := (0 : Int32)) (by omega)
          exact J329 ((500 - (0 : Int32).toInt).toNat + 1) ls12862 H12853 locsH12853 (0) (x12857) (x12858) (lv_sub hl12863 [1, 2, 3, 0] rfl) hTH12853 hSH12853 (by decide) ⟨by have := i_rng x12857; omega, by have := i_rng x12857; omega⟩ ⟨by have := i_rng x12858; omega, by have := i_rng x12858; omega⟩ ex12857 ex12858 cy12859_0 cy12859_1 cy12859_2 cy12859_3 cy12859_4 cy12859_5 cy12859_6 (CP.cast by12859_c9 (by omega) (by omega) (by omega)) (CP.cast by12859_c0 (by omega) (by omega) (by omega)) (CP.cast by12859_c1 (by omega) (by omega) (by omega)) (CP.cast by12859_co (by omega) (by omega) (by omega)) (CP.cast by12859_ca (by omega) (by omega) (by omega)) (CP.cast by12859_cm (by omega) (by omega) (by omega)) mfy12859 gy12859_TU gy12859_WD gy12859_IM fy12859_bt (by omega) (by omega)
        · have k12861 := i_nle c12860
          have hrw : 0 ≤ x12755.toInt ∧ x12755.toInt ≤ 5 := ⟨by omega, by omega⟩
          have hlw : 0 ≤ x12856.toInt ∧ x12856.toInt ≤ 15 := ⟨by omega, by omega⟩
          refine lv_aload_n hx hb dX10_text_159 rfl (lv_at hl12855 0 rfl) ?_
          refine x_gr C hTH12853 (ci := 10) (k := 25) rfl inX10 (by decide) wF_X10_62 ga0 rg_112 rfl dX10_text_160 (fun q12864 eq12864 gq12864 => ?_)
          replace eq12864 := EQN.mk eq12864
          refine lv_bipush (v := 16) hx hb dX10_text_163 (by decide) ?_
          refine lv_iload hx hb dX10_text_165 (lv_at hl12855 2 rfl) ?_
          refine lv_imul hx hb dX10_text_167 ?_
          refine lv_topi (fun x12865 ex12865 => ?_)
          have tx12865 := i_mul ex12865 (by rw [n_16]; omega)
          rw [n_16] at tx12865
          refine lv_iload hx hb dX10_text_168 (lv_at hl12855 3 rfl) ?_
          refine lv_iadd hx hb dX10_text_170 ?_
          refine lv_topi (fun x12866 ex12866 => ?_)
          have tx12866 := i_add ex12866 (by omega)
          refine lv_aload_n hx hb dX10_text_171 rfl (lv_at hl12855 0 rfl) ?_
          refine x_gr C hTH12853 (ci := 10) (k := 25) rfl inX10 (by decide) wF_X10_62 ga0 rg_112 rfl dX10_text_172 (fun q12867 eq12867 gq12867 => ?_)
          have uq12867 : q12864 = q12867 := (eq12864).trans eq12867.symm
          subst uq12867
          clear eq12867
          refine lv_bipush (v := 96) hx hb dX10_text_175 (by decide) ?_
          refine lv_iload hx hb dX10_text_177 (lv_at hl12855 3 rfl) ?_
          refine lv_iadd hx hb dX10_text_179 ?_
          refine lv_topi (fun x12868 ex12868 => ?_)
          have tx12868 := i_add ex12868 (by omega)
          refine x_ai C hTH12853 gq12864 rg_129 ⟨by omega, by show _ < ((112 : Nat) : Int); omega⟩ dX10_text_180 (fun x12869 ex12869 bx12869 => ?_)
          refine x_iast C hTH12853 hSH12853 gq12864 rg_129 (by omega) (by show _ < ((112 : Nat) : Int); omega) ⟨by have := i_rng x12869; omega, by have := i_rng x12869; omega⟩ (AE_in gq12864 (by decide)) dX10_text_181 (fun H12870 locsH12870 hTH12870 hSH12870 wH12870 => ?_)
          have mf12871 : MF K s.heap H12870 a0 [0, 18, 19, 20, 21, 22, 34, 35, 36, 38, 39, 40, 41, 42] := MF.arr wH12870 (G_ne ga0 gq12864 (by decide)) mfy12859
          have g12872 : TU (avw K H12870 a0) (svw K H12870 a0) := TU.congr (fun k hk j => av_arr hTH12853 ga0 wH12870 gq12864 (by decide) (TU_ok 129 (by decide) k hk)) (fun k hk => sv_arr ga0 wH12870 gq12864 (by decide)) gy12859_TU
          have g12873 : WD (avw K H12870 a0) := WD.congr (fun k hk j => av_arr hTH12853 ga0 wH12870 gq12864 (by decide) (WD_ok 129 (by decide) k hk)) gy12859_WD
          have g12874 : IM (avw K H12870 a0) := IM.congr (fun k hk j => av_arr hTH12853 ga0 wH12870 gq12864 (by decide) (IM_ok 129 (by decide) k hk)) gy12859_IM
          have b12875 : CP (fun k => fI H12870 f9 k) (fun k => fI H12751 f9 k) (16 * x12755.toNatClampNeg) (96) (x12856.toNatClampNeg) := CP.congr (fun j => Wr.neI wH12870 (Or.inl (G_ne gf9 gq12864 (by decide)))) by12859_c9
          have b12876 : CP (fun k => fI H12870 f0 k) (fun k => fI H12751 f0 k) (16 * x12755.toNatClampNeg) (96) (x12856.toNatClampNeg) := CP.congr (fun j => Wr.neI wH12870 (Or.inl (G_ne gf0 gq12864 (by decide)))) by12859_c0
          have b12877 : CP (fun k => fI H12870 f1 k) (fun k => fI H12751 f1 k) (16 * x12755.toNatClampNeg) (96) (x12856.toNatClampNeg) := CP.congr (fun j => Wr.neI wH12870 (Or.inl (G_ne gf1 gq12864 (by decide)))) by12859_c1
          have b12878 : CP (fun k => fI H12870 oq k) (fun k => fI H12751 oq k) (500 * x12755.toNatClampNeg) (3000) (0) := CP.congr (fun j => Wr.neI wH12870 (Or.inl (G_ne goq gq12864 (by decide)))) by12859_co
          have b12879 : CP (fun k => fI H12870 aq k) (fun k => fI H12751 aq k) (500 * x12755.toNatClampNeg) (3000) (0) := CP.congr (fun j => Wr.neI wH12870 (Or.inl (G_ne gaq gq12864 (by decide)))) by12859_ca
          have b12880 : CP (fun k => fI H12870 mq k) (fun k => fI H12751 mq k) (0) (0) (0) := CP.congr (fun j => Wr.neI wH12870 (Or.inl (G_ne gmq gq12864 (by decide)))) by12859_cm
          have f12881 : ∀ j : Nat, bt j = (fI H12870 tq j).toInt := fun j => (fy12859_bt j).trans (congrArg Int32.toInt (Wr.neI wH12870 (Or.inl (G_ne gtq gq12864 (by decide)))).symm)
          have m12882 := ex12857.trans (Wr.neI wH12870 (Or.inl (G_ne ga0 gq12864 (by decide)))).symm
          have m12883 := ex12858.trans (Wr.neI wH12870 (Or.inl (G_ne ga0 gq12864 (by decide)))).symm
          have m12884 := cy12859_0.trans (Wr.neR wH12870 (Or.inl (G_ne ga0 gq12864 (by decide)))).symm
          have m12885 := cy12859_1.trans (Wr.neR wH12870 (Or.inl (G_ne ga0 gq12864 (by decide)))).symm
          have m12886 := cy12859_2.trans (Wr.neR wH12870 (Or.inl (G_ne ga0 gq12864 (by decide)))).symm
          have m12887 := cy12859_3.trans (Wr.neR wH12870 (Or.inl (G_ne ga0 gq12864 (by decide)))).symm
          have m12888 := cy12859_4.trans (Wr.neR wH12870 (Or.inl (G_ne ga0 gq12864 (by decide)))).symm
          have m12889 := cy12859_5.trans (Wr.neR wH12870 (Or.inl (G_ne ga0 gq12864 (by decide)))).symm
          have m12890 := cy12859_6.trans (Wr.neR wH12870 (Or.inl (G_ne ga0 gq12864 (by decide)))).symm
          have m12891 := eq12864.trans (Wr.neR wH12870 (Or.inl (G_ne ga0 gq12864 (by decide)))).symm
          have m12893 := Wr.I wH12870
          have m12893 := m12893.symm
          clear by12859_c0 by12859_c1 by12859_c9 by12859_ca by12859_cm by12859_co cy12859_0 cy12859_1 cy12859_2 cy12859_3 cy12859_4 cy12859_5 cy12859_6 eq12864 ex12857 ex12858 ex12869 fy12859_bt gy12859_IM gy12859_TU gy12859_WD hTH12853 mfy12859
          clear tx12865 tx12866 tx12868 bx12869 ex12865 ex12866 ex12868
          refine lv_aload_n hx hb dX10_text_182 rfl (lv_at hl12855 0 rfl) ?_
          refine x_gr C hTH12870 (ci := 10) (k := 26) rfl inX10 (by decide) wF_X10_65 ga0 rg_112 rfl dX10_text_183 (fun q12894 eq12894 gq12894 => ?_)
          replace eq12894 := EQN.mk eq12894
          refine lv_bipush (v := 16) hx hb dX10_text_186 (by decide) ?_
          refine lv_iload hx hb dX10_text_188 (lv_at hl12855 2 rfl) ?_
          refine lv_imul hx hb dX10_text_190 ?_
          refine lv_topi (fun x12895 ex12895 => ?_)
          have tx12895 := i_mul ex12895 (by rw [n_16]; omega)
          rw [n_16] at tx12895
          refine lv_iload hx hb dX10_text_191 (lv_at hl12855 3 rfl) ?_
          refine lv_iadd hx hb dX10_text_193 ?_
          refine lv_topi (fun x12896 ex12896 => ?_)
          have tx12896 := i_add ex12896 (by omega)
          refine lv_aload_n hx hb dX10_text_194 rfl (lv_at hl12855 0 rfl) ?_
          refine x_gr C hTH12870 (ci := 10) (k := 26) rfl inX10 (by decide) wF_X10_65 ga0 rg_112 rfl dX10_text_195 (fun q12897 eq12897 gq12897 => ?_)
          have uq12897 : q12894 = q12897 := (eq12894).trans eq12897.symm
          subst uq12897
          clear eq12897
          refine lv_bipush (v := 96) hx hb dX10_text_198 (by decide) ?_
          refine lv_iload hx hb dX10_text_200 (lv_at hl12855 3 rfl) ?_
          refine lv_iadd hx hb dX10_text_202 ?_
          refine lv_topi (fun x12898 ex12898 => ?_)
          have tx12898 := i_add ex12898 (by omega)
          refine x_ai C hTH12870 gq12894 rg_130 ⟨by omega, by show _ < ((112 : Nat) : Int); omega⟩ dX10_text_203 (fun x12899 ex12899 bx12899 => ?_)
          refine x_iast C hTH12870 hSH12870 gq12894 rg_130 (by omega) (by show _ < ((112 : Nat) : Int); omega) ⟨by have := i_rng x12899; omega, by have := i_rng x12899; omega⟩ (AE_in gq12894 (by decide)) dX10_text_204 (fun H12900 locsH12900 hTH12900 hSH12900 wH12900 => ?_)
          have mf12901 : MF K s.heap H12900 a0 [0, 18, 19, 20, 21, 22, 34, 35, 36, 38, 39, 40, 41, 42] := MF.arr wH12900 (G_ne ga0 gq12894 (by decide)) mf12871
          have g12902 : TU (avw K H12900 a0) (svw K H12900 a0) := TU.congr (fun k hk j => av_arr hTH12870 ga0 wH12900 gq12894 (by decide) (TU_ok 130 (by decide) k hk)) (fun k hk => sv_arr ga0 wH12900 gq12894 (by decide)) g12872
          have g12903 : WD (avw K H12900 a0) := WD.congr (fun k hk j => av_arr hTH12870 ga0 wH12900 gq12894 (by decide) (WD_ok 130 (by decide) k hk)) g12873
          have g12904 : IM (avw K H12900 a0) := IM.congr (fun k hk j => av_arr hTH12870 ga0 wH12900 gq12894 (by decide) (IM_ok 130 (by decide) k hk)) g12874
          have b12905 : CP (fun k => fI H12900 f9 k) (fun k => fI H12751 f9 k) (16 * x12755.toNatClampNeg) (96) (x12856.toNatClampNeg) := CP.congr (fun j => Wr.neI wH12900 (Or.inl (G_ne gf9 gq12894 (by decide)))) b12875
          have b12906 : CP (fun k => fI H12900 f0 k) (fun k => fI H12751 f0 k) (16 * x12755.toNatClampNeg) (96) (x12856.toNatClampNeg) := CP.congr (fun j => Wr.neI wH12900 (Or.inl (G_ne gf0 gq12894 (by decide)))) b12876
          have b12907 : CP (fun k => fI H12900 f1 k) (fun k => fI H12751 f1 k) (16 * x12755.toNatClampNeg) (96) (x12856.toNatClampNeg) := CP.congr (fun j => Wr.neI wH12900 (Or.inl (G_ne gf1 gq12894 (by decide)))) b12877
          have b12908 : CP (fun k => fI H12900 oq k) (fun k => fI H12751 oq k) (500 * x12755.toNatClampNeg) (3000) (0) := CP.congr (fun j => Wr.neI wH12900 (Or.inl (G_ne goq gq12894 (by decide)))) b12878
          have b12909 : CP (fun k => fI H12900 aq k) (fun k => fI H12751 aq k) (500 * x12755.toNatClampNeg) (3000) (0) := CP.congr (fun j => Wr.neI wH12900 (Or.inl (G_ne gaq gq12894 (by decide)))) b12879
          have b12910 : CP (fun k => fI H12900 mq k) (fun k => fI H12751 mq k) (0) (0) (0) := CP.congr (fun j => Wr.neI wH12900 (Or.inl (G_ne gmq gq12894 (by decide)))) b12880
          have f12911 : ∀ j : Nat, bt j = (fI H12900 tq j).toInt := fun j => (f12881 j).trans (congrArg Int32.toInt (Wr.neI wH12900 (Or.inl (G_ne gtq gq12894 (by decide)))).symm)
          have m12912 := m12882.trans (Wr.neI wH12900 (Or.inl (G_ne ga0 gq12894 (by decide)))).symm
          have m12913 := m12883.trans (Wr.neI wH12900 (Or.inl (G_ne ga0 gq12894 (by decide)))).symm
          have m12914 := m12884.trans (Wr.neR wH12900 (Or.inl (G_ne ga0 gq12894 (by decide)))).symm
          have m12915 := m12885.trans (Wr.neR wH12900 (Or.inl (G_ne ga0 gq12894 (by decide)))).symm
          have m12916 := m12886.trans (Wr.neR wH12900 (Or.inl (G_ne ga0 gq12894 (by decide)))).symm
          have m12917 := m12887.trans (Wr.neR wH12900 (Or.inl (G_ne ga0 gq12894 (by decide)))).symm
          have m12918 := m12888.trans (Wr.neR wH12900 (Or.inl (G_ne ga0 gq12894 (by decide)))).symm
          have m12919 := m12889.trans (Wr.neR wH12900 (Or.inl (G_ne ga0 gq12894 (by decide)))).symm
          have m12920 := m12890.trans (Wr.neR wH12900 (Or.inl (G_ne ga0 gq12894 (by decide)))).symm
          have m12921 := m12891.trans (Wr.neR wH12900 (Or.inl (G_ne ga0 gq12894 (by decide)))).symm
          have m12922 := m12893.trans (Wr.neI wH12900 (Or.inl (G_ne gq12864 gq12894 (by decide)))).symm
          have m12923 := eq12894.trans (Wr.neR wH12900 (Or.inl (G_ne ga0 gq12894 (by decide)))).symm
          have m12925 := Wr.I wH12900
          have m12925 := m12925.symm
          clear b12875 b12876 b12877 b12878 b12879 b12880 eq12894 ex12899 f12881 g12872 g12873 g12874 hTH12870 m12882 m12883 m12884 m12885 m12886 m12887 m12888 m12889 m12890 m12891 m12893 mf12871
          clear tx12895 tx12896 tx12898 bx12899 ex12895 ex12896 ex12898
          refine lv_aload_n hx hb dX10_text_205 rfl (lv_at hl12855 0 rfl) ?_
          refine x_gr C hTH12900 (ci := 10) (k := 27) rfl inX10 (by decide) wF_X10_68 ga0 rg_112 rfl dX10_text_206 (fun q12926 eq12926 gq12926 => ?_)
          replace eq12926 := EQN.mk eq12926
          refine lv_bipush (v := 16) hx hb dX10_text_209 (by decide) ?_
          refine lv_iload hx hb dX10_text_211 (lv_at hl12855 2 rfl) ?_
          refine lv_imul hx hb dX10_text_213 ?_
          refine lv_topi (fun x12927 ex12927 => ?_)
          have tx12927 := i_mul ex12927 (by rw [n_16]; omega)
          rw [n_16] at tx12927
          refine lv_iload hx hb dX10_text_214 (lv_at hl12855 3 rfl) ?_
          refine lv_iadd hx hb dX10_text_216 ?_
          refine lv_topi (fun x12928 ex12928 => ?_)
          have tx12928 := i_add ex12928 (by omega)
          refine lv_aload_n hx hb dX10_text_217 rfl (lv_at hl12855 0 rfl) ?_
          refine x_gr C hTH12900 (ci := 10) (k := 27) rfl inX10 (by decide) wF_X10_68 ga0 rg_112 rfl dX10_text_218 (fun q12929 eq12929 gq12929 => ?_)
          have uq12929 : q12926 = q12929 := (eq12926).trans eq12929.symm
          subst uq12929
          clear eq12929
          refine lv_bipush (v := 96) hx hb dX10_text_221 (by decide) ?_
          refine lv_iload hx hb dX10_text_223 (lv_at hl12855 3 rfl) ?_
          refine lv_iadd hx hb dX10_text_225 ?_
          refine lv_topi (fun x12930 ex12930 => ?_)
          have tx12930 := i_add ex12930 (by omega)
          refine x_ai C hTH12900 gq12926 rg_131 ⟨by omega, by show _ < ((112 : Nat) : Int); omega⟩ dX10_text_226 (fun x12931 ex12931 bx12931 => ?_)
          refine x_iast C hTH12900 hSH12900 gq12926 rg_131 (by omega) (by show _ < ((112 : Nat) : Int); omega) ⟨by have := i_rng x12931; omega, by have := i_rng x12931; omega⟩ (AE_in gq12926 (by decide)) dX10_text_227 (fun H12932 locsH12932 hTH12932 hSH12932 wH12932 => ?_)
          have mf12933 : MF K s.heap H12932 a0 [0, 18, 19, 20, 21, 22, 34, 35, 36, 38, 39, 40, 41, 42] := MF.arr wH12932 (G_ne ga0 gq12926 (by decide)) mf12901
          have g12934 : TU (avw K H12932 a0) (svw K H12932 a0) := TU.congr (fun k hk j => av_arr hTH12900 ga0 wH12932 gq12926 (by decide) (TU_ok 131 (by decide) k hk)) (fun k hk => sv_arr ga0 wH12932 gq12926 (by decide)) g12902
          have g12935 : WD (avw K H12932 a0) := WD.congr (fun k hk j => av_arr hTH12900 ga0 wH12932 gq12926 (by decide) (WD_ok 131 (by decide) k hk)) g12903
          have g12936 : IM (avw K H12932 a0) := IM.congr (fun k hk j => av_arr hTH12900 ga0 wH12932 gq12926 (by decide) (IM_ok 131 (by decide) k hk)) g12904
          have b12937 : CP (fun k => fI H12932 f9 k) (fun k => fI H12751 f9 k) (16 * x12755.toNatClampNeg) (96) (x12856.toNatClampNeg) := CP.congr (fun j => Wr.neI wH12932 (Or.inl (G_ne gf9 gq12926 (by decide)))) b12905
          have b12938 : CP (fun k => fI H12932 f0 k) (fun k => fI H12751 f0 k) (16 * x12755.toNatClampNeg) (96) (x12856.toNatClampNeg) := CP.congr (fun j => Wr.neI wH12932 (Or.inl (G_ne gf0 gq12926 (by decide)))) b12906
          have b12939 : CP (fun k => fI H12932 f1 k) (fun k => fI H12751 f1 k) (16 * x12755.toNatClampNeg) (96) (x12856.toNatClampNeg) := CP.congr (fun j => Wr.neI wH12932 (Or.inl (G_ne gf1 gq12926 (by decide)))) b12907
          have b12940 : CP (fun k => fI H12932 oq k) (fun k => fI H12751 oq k) (500 * x12755.toNatClampNeg) (3000) (0) := CP.congr (fun j => Wr.neI wH12932 (Or.inl (G_ne goq gq12926 (by decide)))) b12908
          have b12941 : CP (fun k => fI H12932 aq k) (fun k => fI H12751 aq k) (500 * x12755.toNatClampNeg) (3000) (0) := CP.congr (fun j => Wr.neI wH12932 (Or.inl (G_ne gaq gq12926 (by decide)))) b12909
          have b12942 : CP (fun k => fI H12932 mq k) (fun k => fI H12751 mq k) (0) (0) (0) := CP.congr (fun j => Wr.neI wH12932 (Or.inl (G_ne gmq gq12926 (by decide)))) b12910
          have f12943 : ∀ j : Nat, bt j = (fI H12932 tq j).toInt := fun j => (f12911 j).trans (congrArg Int32.toInt (Wr.neI wH12932 (Or.inl (G_ne gtq gq12926 (by decide)))).symm)
          have m12944 := m12912.trans (Wr.neI wH12932 (Or.inl (G_ne ga0 gq12926 (by decide)))).symm
          have m12945 := m12913.trans (Wr.neI wH12932 (Or.inl (G_ne ga0 gq12926 (by decide)))).symm
          have m12946 := m12914.trans (Wr.neR wH12932 (Or.inl (G_ne ga0 gq12926 (by decide)))).symm
          have m12947 := m12915.trans (Wr.neR wH12932 (Or.inl (G_ne ga0 gq12926 (by decide)))).symm
          have m12948 := m12916.trans (Wr.neR wH12932 (Or.inl (G_ne ga0 gq12926 (by decide)))).symm
          have m12949 := m12917.trans (Wr.neR wH12932 (Or.inl (G_ne ga0 gq12926 (by decide)))).symm
          have m12950 := m12918.trans (Wr.neR wH12932 (Or.inl (G_ne ga0 gq12926 (by decide)))).symm
          have m12951 := m12919.trans (Wr.neR wH12932 (Or.inl (G_ne ga0 gq12926 (by decide)))).symm
          have m12952 := m12920.trans (Wr.neR wH12932 (Or.inl (G_ne ga0 gq12926 (by decide)))).symm
          have m12953 := m12921.trans (Wr.neR wH12932 (Or.inl (G_ne ga0 gq12926 (by decide)))).symm
          have m12954 := m12922.trans (Wr.neI wH12932 (Or.inl (G_ne gq12864 gq12926 (by decide)))).symm
          have m12955 := m12923.trans (Wr.neR wH12932 (Or.inl (G_ne ga0 gq12926 (by decide)))).symm
          have m12956 := m12925.trans (Wr.neI wH12932 (Or.inl (G_ne gq12894 gq12926 (by decide)))).symm
          have m12957 := eq12926.trans (Wr.neR wH12932 (Or.inl (G_ne ga0 gq12926 (by decide)))).symm
          have m12959 := Wr.I wH12932
          have m12959 := m12959.symm
          clear b12905 b12906 b12907 b12908 b12909 b12910 eq12926 ex12931 f12911 g12902 g12903 g12904 hTH12900 m12912 m12913 m12914 m12915 m12916 m12917 m12918 m12919 m12920 m12921 m12922 m12923 m12925 mf12901
          clear tx12927 tx12928 tx12930 bx12931 ex12927 ex12928 ex12930
          refine lv_aload_n hx hb dX10_text_228 rfl (lv_at hl12855 0 rfl) ?_
          refine x_gr C hTH12932 (ci := 10) (k := 28) rfl inX10 (by decide) wF_X10_71 ga0 rg_112 rfl dX10_text_229 (fun q12960 eq12960 gq12960 => ?_)
          replace eq12960 := EQN.mk eq12960
          refine lv_bipush (v := 16) hx hb dX10_text_232 (by decide) ?_
          refine lv_iload hx hb dX10_text_234 (lv_at hl12855 2 rfl) ?_
          refine lv_imul hx hb dX10_text_236 ?_
          refine lv_topi (fun x12961 ex12961 => ?_)
          have tx12961 := i_mul ex12961 (by rw [n_16]; omega)
          rw [n_16] at tx12961
          refine lv_iload hx hb dX10_text_237 (lv_at hl12855 3 rfl) ?_
          refine lv_iadd hx hb dX10_text_239 ?_
          refine lv_topi (fun x12962 ex12962 => ?_)
          have tx12962 := i_add ex12962 (by omega)
          refine lv_aload_n hx hb dX10_text_240 rfl (lv_at hl12855 0 rfl) ?_
          refine x_gr C hTH12932 (ci := 10) (k := 28) rfl inX10 (by decide) wF_X10_71 ga0 rg_112 rfl dX10_text_241 (fun q12963 eq12963 gq12963 => ?_)
          have uq12963 : q12960 = q12963 := (eq12960).trans eq12963.symm
          subst uq12963
          clear eq12963
          refine lv_bipush (v := 96) hx hb dX10_text_244 (by decide) ?_
          refine lv_iload hx hb dX10_text_246 (lv_at hl12855 3 rfl) ?_
          refine lv_iadd hx hb dX10_text_248 ?_
          refine lv_topi (fun x12964 ex12964 => ?_)
          have tx12964 := i_add ex12964 (by omega)
          refine x_ai C hTH12932 gq12960 rg_132 ⟨by omega, by show _ < ((112 : Nat) : Int); omega⟩ dX10_text_249 (fun x12965 ex12965 bx12965 => ?_)
          refine x_iast C hTH12932 hSH12932 gq12960 rg_132 (by omega) (by show _ < ((112 : Nat) : Int); omega) ⟨by have := i_rng x12965; omega, by have := i_rng x12965; omega⟩ (AE_in gq12960 (by decide)) dX10_text_250 (fun H12966 locsH12966 hTH12966 hSH12966 wH12966 => ?_)
          have mf12967 : MF K s.heap H12966 a0 [0, 18, 19, 20, 21, 22, 34, 35, 36, 38, 39, 40, 41, 42] := MF.arr wH12966 (G_ne ga0 gq12960 (by decide)) mf12933
          have g12968 : TU (avw K H12966 a0) (svw K H12966 a0) := TU.congr (fun k hk j => av_arr hTH12932 ga0 wH12966 gq12960 (by decide) (TU_ok 132 (by decide) k hk)) (fun k hk => sv_arr ga0 wH12966 gq12960 (by decide)) g12934
          have g12969 : WD (avw K H12966 a0) := WD.congr (fun k hk j => av_arr hTH12932 ga0 wH12966 gq12960 (by decide) (WD_ok 132 (by decide) k hk)) g12935
          have g12970 : IM (avw K H12966 a0) := IM.congr (fun k hk j => av_arr hTH12932 ga0 wH12966 gq12960 (by decide) (IM_ok 132 (by decide) k hk)) g12936
          have b12971 : CP (fun k => fI H12966 f9 k) (fun k => fI H12751 f9 k) (16 * x12755.toNatClampNeg) (96) (x12856.toNatClampNeg) := CP.congr (fun j => Wr.neI wH12966 (Or.inl (G_ne gf9 gq12960 (by decide)))) b12937
          have b12972 : CP (fun k => fI H12966 f0 k) (fun k => fI H12751 f0 k) (16 * x12755.toNatClampNeg) (96) (x12856.toNatClampNeg) := CP.congr (fun j => Wr.neI wH12966 (Or.inl (G_ne gf0 gq12960 (by decide)))) b12938
          have b12973 : CP (fun k => fI H12966 f1 k) (fun k => fI H12751 f1 k) (16 * x12755.toNatClampNeg) (96) (x12856.toNatClampNeg) := CP.congr (fun j => Wr.neI wH12966 (Or.inl (G_ne gf1 gq12960 (by decide)))) b12939
          have b12974 : CP (fun k => fI H12966 oq k) (fun k => fI H12751 oq k) (500 * x12755.toNatClampNeg) (3000) (0) := CP.congr (fun j => Wr.neI wH12966 (Or.inl (G_ne goq gq12960 (by decide)))) b12940
          have b12975 : CP (fun k => fI H12966 aq k) (fun k => fI H12751 aq k) (500 * x12755.toNatClampNeg) (3000) (0) := CP.congr (fun j => Wr.neI wH12966 (Or.inl (G_ne gaq gq12960 (by decide)))) b12941
          have b12976 : CP (fun k => fI H12966 mq k) (fun k => fI H12751 mq k) (0) (0) (0) := CP.congr (fun j => Wr.neI wH12966 (Or.inl (G_ne gmq gq12960 (by decide)))) b12942
          have f12977 : ∀ j : Nat, bt j = (fI H12966 tq j).toInt := fun j => (f12943 j).trans (congrArg Int32.toInt (Wr.neI wH12966 (Or.inl (G_ne gtq gq12960 (by decide)))).symm)
          have m12978 := m12944.trans (Wr.neI wH12966 (Or.inl (G_ne ga0 gq12960 (by decide)))).symm
          have m12979 := m12945.trans (Wr.neI wH12966 (Or.inl (G_ne ga0 gq12960 (by decide)))).symm
          have m12980 := m12946.trans (Wr.neR wH12966 (Or.inl (G_ne ga0 gq12960 (by decide)))).symm
          have m12981 := m12947.trans (Wr.neR wH12966 (Or.inl (G_ne ga0 gq12960 (by decide)))).symm
          have m12982 := m12948.trans (Wr.neR wH12966 (Or.inl (G_ne ga0 gq12960 (by decide)))).symm
          have m12983 := m12949.trans (Wr.neR wH12966 (Or.inl (G_ne ga0 gq12960 (by decide)))).symm
          have m12984 := m12950.trans (Wr.neR wH12966 (Or.inl (G_ne ga0 gq12960 (by decide)))).symm
          have m12985 := m12951.trans (Wr.neR wH12966 (Or.inl (G_ne ga0 gq12960 (by decide)))).symm
          have m12986 := m12952.trans (Wr.neR wH12966 (Or.inl (G_ne ga0 gq12960 (by decide)))).symm
          have m12987 := m12953.trans (Wr.neR wH12966 (Or.inl (G_ne ga0 gq12960 (by decide)))).symm
          have m12988 := m12954.trans (Wr.neI wH12966 (Or.inl (G_ne gq12864 gq12960 (by decide)))).symm
          have m12989 := m12955.trans (Wr.neR wH12966 (Or.inl (G_ne ga0 gq12960 (by decide)))).symm
          have m12990 := m12956.trans (Wr.neI wH12966 (Or.inl (G_ne gq12894 gq12960 (by decide)))).symm
          have m12991 := m12957.trans (Wr.neR wH12966 (Or.inl (G_ne ga0 gq12960 (by decide)))).symm
          have m12992 := m12959.trans (Wr.neI wH12966 (Or.inl (G_ne gq12926 gq12960 (by decide)))).symm
          have m12993 := eq12960.trans (Wr.neR wH12966 (Or.inl (G_ne ga0 gq12960 (by decide)))).symm
          have m12995 := Wr.I wH12966
          have m12995 := m12995.symm
          clear b12937 b12938 b12939 b12940 b12941 b12942 eq12960 ex12965 f12943 g12934 g12935 g12936 hTH12932 m12944 m12945 m12946 m12947 m12948 m12949 m12950 m12951 m12952 m12953 m12954 m12955 m12956 m12957 m12959 mf12933
          clear tx12961 tx12962 tx12964 bx12965 ex12961 ex12962 ex12964
          refine lv_aload_n hx hb dX10_text_251 rfl (lv_at hl12855 0 rfl) ?_
          refine x_gr C hTH12966 (ci := 10) (k := 29) rfl inX10 (by decide) wF_X10_74 ga0 rg_112 rfl dX10_text_252 (fun q12996 eq12996 gq12996 => ?_)
          have uq12996 : f9 = q12996 := (m12982).trans eq12996.symm
          subst uq12996
          clear eq12996
          refine lv_bipush (v := 16) hx hb dX10_text_255 (by decide) ?_
          refine lv_iload hx hb dX10_text_257 (lv_at hl12855 2 rfl) ?_
          refine lv_imul hx hb dX10_text_259 ?_
          refine lv_topi (fun x12997 ex12997 => ?_)
          have tx12997 := i_mul ex12997 (by rw [n_16]; omega)
          rw [n_16] at tx12997
          refine lv_iload hx hb dX10_text_260 (lv_at hl12855 3 rfl) ?_
          refine lv_iadd hx hb dX10_text_262 ?_
          refine lv_topi (fun x12998 ex12998 => ?_)
          have tx12998 := i_add ex12998 (by omega)
          refine lv_aload_n hx hb dX10_text_263 rfl (lv_at hl12855 0 rfl) ?_
          refine x_gr C hTH12966 (ci := 10) (k := 29) rfl inX10 (by decide) wF_X10_74 ga0 rg_112 rfl dX10_text_264 (fun q12999 eq12999 gq12999 => ?_)
          have uq12999 : f9 = q12999 := (m12982).trans eq12999.symm
          subst uq12999
          clear eq12999
          refine lv_bipush (v := 96) hx hb dX10_text_267 (by decide) ?_
          refine lv_iload hx hb dX10_text_269 (lv_at hl12855 3 rfl) ?_
          refine lv_iadd hx hb dX10_text_271 ?_
          refine lv_topi (fun x13000 ex13000 => ?_)
          have tx13000 := i_add ex13000 (by omega)
          refine x_ai C hTH12966 gf9 rg_133 ⟨by omega, by show _ < ((112 : Nat) : Int); omega⟩ dX10_text_272 (fun x13001 ex13001 bx13001 => ?_)
          refine x_iast C hTH12966 hSH12966 gf9 rg_133 (by omega) (by show _ < ((112 : Nat) : Int); omega) ⟨by have := i_rng x13001; omega, by have := i_rng x13001; omega⟩ (AE_in gf9 (by decide)) dX10_text_273 (fun H13002 locsH13002 hTH13002 hSH13002 wH13002 => ?_)
          have mf13003 : MF K s.heap H13002 a0 [0, 18, 19, 20, 21, 22, 34, 35, 36, 38, 39, 40, 41, 42] := MF.arr wH13002 (G_ne ga0 gf9 (by decide)) mf12967
          have g13004 : TU (avw K H13002 a0) (svw K H13002 a0) := TU.congr (fun k hk j => av_arr hTH12966 ga0 wH13002 gf9 (by decide) (TU_ok 133 (by decide) k hk)) (fun k hk => sv_arr ga0 wH13002 gf9 (by decide)) g12968
          have g13005 : WD (avw K H13002 a0) := WD.congr (fun k hk j => av_arr hTH12966 ga0 wH13002 gf9 (by decide) (WD_ok 133 (by decide) k hk)) g12969
          have g13006 : IM (avw K H13002 a0) := IM.congr (fun k hk j => av_arr hTH12966 ga0 wH13002 gf9 (by decide) (IM_ok 133 (by decide) k hk)) g12970
          have b13007 : CP (fun k => fI H13002 f9 k) (fun k => fI H12751 f9 k) (16 * x12755.toNatClampNeg) (96) (x12856.toNatClampNeg + 1) := CP.step b12971 (i := x12998.toNatClampNeg) (k := x13000.toNatClampNeg) (x := x13001) (ix16 tx12997 tx12998 hrw.1 hlw.1) (le16 hrw hlw) (ixk n_96 tx13000 hlw.1) ex13001 (Wr.I wH13002) (fun j hj => Wr.neI wH13002 (Or.inr hj))
          have b13008 : CP (fun k => fI H13002 f0 k) (fun k => fI H12751 f0 k) (16 * x12755.toNatClampNeg) (96) (x12856.toNatClampNeg) := CP.congr (fun j => Wr.neI wH13002 (Or.inl (G_ne gf0 gf9 (by decide)))) b12972
          have b13009 : CP (fun k => fI H13002 f1 k) (fun k => fI H12751 f1 k) (16 * x12755.toNatClampNeg) (96) (x12856.toNatClampNeg) := CP.congr (fun j => Wr.neI wH13002 (Or.inl (G_ne gf1 gf9 (by decide)))) b12973
          have b13010 : CP (fun k => fI H13002 oq k) (fun k => fI H12751 oq k) (500 * x12755.toNatClampNeg) (3000) (0) := CP.congr (fun j => Wr.neI wH13002 (Or.inl (G_ne goq gf9 (by decide)))) b12974
          have b13011 : CP (fun k => fI H13002 aq k) (fun k => fI H12751 aq k) (500 * x12755.toNatClampNeg) (3000) (0) := CP.congr (fun j => Wr.neI wH13002 (Or.inl (G_ne gaq gf9 (by decide)))) b12975
          have b13012 : CP (fun k => fI H13002 mq k) (fun k => fI H12751 mq k) (0) (0) (0) := CP.congr (fun j => Wr.neI wH13002 (Or.inl (G_ne gmq gf9 (by decide)))) b12976
          have f13013 : ∀ j : Nat, bt j = (fI H13002 tq j).toInt := fun j => (f12977 j).trans (congrArg Int32.toInt (Wr.neI wH13002 (Or.inl (G_ne gtq gf9 (by decide)))).symm)
          have m13014 := m12978.trans (Wr.neI wH13002 (Or.inl (G_ne ga0 gf9 (by decide)))).symm
          have m13015 := m12979.trans (Wr.neI wH13002 (Or.inl (G_ne ga0 gf9 (by decide)))).symm
          have m13016 := m12980.trans (Wr.neR wH13002 (Or.inl (G_ne ga0 gf9 (by decide)))).symm
          have m13017 := m12981.trans (Wr.neR wH13002 (Or.inl (G_ne ga0 gf9 (by decide)))).symm
          have m13018 := m12982.trans (Wr.neR wH13002 (Or.inl (G_ne ga0 gf9 (by decide)))).symm
          have m13019 := m12983.trans (Wr.neR wH13002 (Or.inl (G_ne ga0 gf9 (by decide)))).symm
          have m13020 := m12984.trans (Wr.neR wH13002 (Or.inl (G_ne ga0 gf9 (by decide)))).symm
          have m13021 := m12985.trans (Wr.neR wH13002 (Or.inl (G_ne ga0 gf9 (by decide)))).symm
          have m13022 := m12986.trans (Wr.neR wH13002 (Or.inl (G_ne ga0 gf9 (by decide)))).symm
          have m13023 := m12987.trans (Wr.neR wH13002 (Or.inl (G_ne ga0 gf9 (by decide)))).symm
          have m13024 := m12988.trans (Wr.neI wH13002 (Or.inl (G_ne gq12864 gf9 (by decide)))).symm
          have m13025 := m12989.trans (Wr.neR wH13002 (Or.inl (G_ne ga0 gf9 (by decide)))).symm
          have m13026 := m12990.trans (Wr.neI wH13002 (Or.inl (G_ne gq12894 gf9 (by decide)))).symm
          have m13027 := m12991.trans (Wr.neR wH13002 (Or.inl (G_ne ga0 gf9 (by decide)))).symm
          have m13028 := m12992.trans (Wr.neI wH13002 (Or.inl (G_ne gq12926 gf9 (by decide)))).symm
          have m13029 := m12993.trans (Wr.neR wH13002 (Or.inl (G_ne ga0 gf9 (by decide)))).symm
          have m13030 := m12995.trans (Wr.neI wH13002 (Or.inl (G_ne gq12960 gf9 (by decide)))).symm
          have m13032 := Wr.I wH13002
          have m13032 := m13032.symm
          clear b12971 b12972 b12973 b12974 b12975 b12976 ex13001 f12977 g12968 g12969 g12970 hTH12966 m12978 m12979 m12980 m12981 m12982 m12983 m12984 m12985 m12986 m12987 m12988 m12989 m12990 m12991 m12992 m12993 m12995 mf12967
          clear tx12997 tx12998 tx13000 bx13001 ex12997 ex12998 ex13000
          refine lv_aload_n hx hb dX10_text_274 rfl (lv_at hl12855 0 rfl) ?_
          refine x_gr C hTH13002 (ci := 10) (k := 30) rfl inX10 (by decide) wF_X10_77 ga0 rg_112 rfl dX10_text_275 (fun q13033 eq13033 gq13033 => ?_)
          have uq13033 : f0 = q13033 := (m13019).trans eq13033.symm
          subst uq13033
          clear eq13033
          refine lv_bipush (v := 16) hx hb dX10_text_278 (by decide) ?_
          refine lv_iload hx hb dX10_text_280 (lv_at hl12855 2 rfl) ?_
          refine lv_imul hx hb dX10_text_282 ?_
          refine lv_topi (fun x13034 ex13034 => ?_)
          have tx13034 := i_mul ex13034 (by rw [n_16]; omega)
          rw [n_16] at tx13034
          refine lv_iload hx hb dX10_text_283 (lv_at hl12855 3 rfl) ?_
          refine lv_iadd hx hb dX10_text_285 ?_
          refine lv_topi (fun x13035 ex13035 => ?_)
          have tx13035 := i_add ex13035 (by omega)
          refine lv_aload_n hx hb dX10_text_286 rfl (lv_at hl12855 0 rfl) ?_
          refine x_gr C hTH13002 (ci := 10) (k := 30) rfl inX10 (by decide) wF_X10_77 ga0 rg_112 rfl dX10_text_287 (fun q13036 eq13036 gq13036 => ?_)
          have uq13036 : f0 = q13036 := (m13019).trans eq13036.symm
          subst uq13036
          clear eq13036
          refine lv_bipush (v := 96) hx hb dX10_text_290 (by decide) ?_
          refine lv_iload hx hb dX10_text_292 (lv_at hl12855 3 rfl) ?_
          refine lv_iadd hx hb dX10_text_294 ?_
          refine lv_topi (fun x13037 ex13037 => ?_)
          have tx13037 := i_add ex13037 (by omega)
          refine x_ai C hTH13002 gf0 rg_134 ⟨by omega, by show _ < ((112 : Nat) : Int); omega⟩ dX10_text_295 (fun x13038 ex13038 bx13038 => ?_)
          refine x_iast C hTH13002 hSH13002 gf0 rg_134 (by omega) (by show _ < ((112 : Nat) : Int); omega) ⟨by have := i_rng x13038; omega, by have := i_rng x13038; omega⟩ (AE_in gf0 (by decide)) dX10_text_296 (fun H13039 locsH13039 hTH13039 hSH13039 wH13039 => ?_)
          have mf13040 : MF K s.heap H13039 a0 [0, 18, 19, 20, 21, 22, 34, 35, 36, 38, 39, 40, 41, 42] := MF.arr wH13039 (G_ne ga0 gf0 (by decide)) mf13003
          have g13041 : TU (avw K H13039 a0) (svw K H13039 a0) := TU.congr (fun k hk j => av_arr hTH13002 ga0 wH13039 gf0 (by decide) (TU_ok 134 (by decide) k hk)) (fun k hk => sv_arr ga0 wH13039 gf0 (by decide)) g13004
          have g13042 : WD (avw K H13039 a0) := WD.congr (fun k hk j => av_arr hTH13002 ga0 wH13039 gf0 (by decide) (WD_ok 134 (by decide) k hk)) g13005
          have g13043 : IM (avw K H13039 a0) := IM.congr (fun k hk j => av_arr hTH13002 ga0 wH13039 gf0 (by decide) (IM_ok 134 (by decide) k hk)) g13006
          have b13044 : CP (fun k => fI H13039 f9 k) (fun k => fI H12751 f9 k) (16 * x12755.toNatClampNeg) (96) (x12856.toNatClampNeg + 1) := CP.congr (fun j => Wr.neI wH13039 (Or.inl (G_ne gf9 gf0 (by decide)))) b13007
          have b13045 : CP (fun k => fI H13039 f0 k) (fun k => fI H12751 f0 k) (16 * x12755.toNatClampNeg) (96) (x12856.toNatClampNeg + 1) := CP.step b13008 (i := x13035.toNatClampNeg) (k := x13037.toNatClampNeg) (x := x13038) (ix16 tx13034 tx13035 hrw.1 hlw.1) (le16 hrw hlw) (ixk n_96 tx13037 hlw.1) ex13038 (Wr.I wH13039) (fun j hj => Wr.neI wH13039 (Or.inr hj))
          have b13046 : CP (fun k => fI H13039 f1 k) (fun k => fI H12751 f1 k) (16 * x12755.toNatClampNeg) (96) (x12856.toNatClampNeg) := CP.congr (fun j => Wr.neI wH13039 (Or.inl (G_ne gf1 gf0 (by decide)))) b13009
          have b13047 : CP (fun k => fI H13039 oq k) (fun k => fI H12751 oq k) (500 * x12755.toNatClampNeg) (3000) (0) := CP.congr (fun j => Wr.neI wH13039 (Or.inl (G_ne goq gf0 (by decide)))) b13010
          have b13048 : CP (fun k => fI H13039 aq k) (fun k => fI H12751 aq k) (500 * x12755.toNatClampNeg) (3000) (0) := CP.congr (fun j => Wr.neI wH13039 (Or.inl (G_ne gaq gf0 (by decide)))) b13011
          have b13049 : CP (fun k => fI H13039 mq k) (fun k => fI H12751 mq k) (0) (0) (0) := CP.congr (fun j => Wr.neI wH13039 (Or.inl (G_ne gmq gf0 (by decide)))) b13012
          have f13050 : ∀ j : Nat, bt j = (fI H13039 tq j).toInt := fun j => (f13013 j).trans (congrArg Int32.toInt (Wr.neI wH13039 (Or.inl (G_ne gtq gf0 (by decide)))).symm)
          have m13051 := m13014.trans (Wr.neI wH13039 (Or.inl (G_ne ga0 gf0 (by decide)))).symm
          have m13052 := m13015.trans (Wr.neI wH13039 (Or.inl (G_ne ga0 gf0 (by decide)))).symm
          have m13053 := m13016.trans (Wr.neR wH13039 (Or.inl (G_ne ga0 gf0 (by decide)))).symm
          have m13054 := m13017.trans (Wr.neR wH13039 (Or.inl (G_ne ga0 gf0 (by decide)))).symm
          have m13055 := m13018.trans (Wr.neR wH13039 (Or.inl (G_ne ga0 gf0 (by decide)))).symm
          have m13056 := m13019.trans (Wr.neR wH13039 (Or.inl (G_ne ga0 gf0 (by decide)))).symm
          have m13057 := m13020.trans (Wr.neR wH13039 (Or.inl (G_ne ga0 gf0 (by decide)))).symm
          have m13058 := m13021.trans (Wr.neR wH13039 (Or.inl (G_ne ga0 gf0 (by decide)))).symm
          have m13059 := m13022.trans (Wr.neR wH13039 (Or.inl (G_ne ga0 gf0 (by decide)))).symm
          have m13060 := m13023.trans (Wr.neR wH13039 (Or.inl (G_ne ga0 gf0 (by decide)))).symm
          have m13061 := m13024.trans (Wr.neI wH13039 (Or.inl (G_ne gq12864 gf0 (by decide)))).symm
          have m13062 := m13025.trans (Wr.neR wH13039 (Or.inl (G_ne ga0 gf0 (by decide)))).symm
          have m13063 := m13026.trans (Wr.neI wH13039 (Or.inl (G_ne gq12894 gf0 (by decide)))).symm
          have m13064 := m13027.trans (Wr.neR wH13039 (Or.inl (G_ne ga0 gf0 (by decide)))).symm
          have m13065 := m13028.trans (Wr.neI wH13039 (Or.inl (G_ne gq12926 gf0 (by decide)))).symm
          have m13066 := m13029.trans (Wr.neR wH13039 (Or.inl (G_ne ga0 gf0 (by decide)))).symm
          have m13067 := m13030.trans (Wr.neI wH13039 (Or.inl (G_ne gq12960 gf0 (by decide)))).symm
          have m13068 := m13032.trans (Wr.neI wH13039 (Or.inl (G_ne gf9 gf0 (by decide)))).symm
          have m13070 := Wr.I wH13039
          have m13070 := m13070.symm
          clear b13007 b13008 b13009 b13010 b13011 b13012 ex13038 f13013 g13004 g13005 g13006 hTH13002 m13014 m13015 m13016 m13017 m13018 m13019 m13020 m13021 m13022 m13023 m13024 m13025 m13026 m13027 m13028 m13029 m13030 m13032 mf13003
          clear tx13034 tx13035 tx13037 bx13038 ex13034 ex13035 ex13037
          refine lv_aload_n hx hb dX10_text_297 rfl (lv_at hl12855 0 rfl) ?_
          refine x_gr C hTH13039 (ci := 10) (k := 31) rfl inX10 (by decide) wF_X10_80 ga0 rg_112 rfl dX10_text_298 (fun q13071 eq13071 gq13071 => ?_)
          have uq13071 : f1 = q13071 := (m13057).trans eq13071.symm
          subst uq13071
          clear eq13071
          refine lv_bipush (v := 16) hx hb dX10_text_301 (by decide) ?_
          refine lv_iload hx hb dX10_text_303 (lv_at hl12855 2 rfl) ?_
          refine lv_imul hx hb dX10_text_305 ?_
          refine lv_topi (fun x13072 ex13072 => ?_)
          have tx13072 := i_mul ex13072 (by rw [n_16]; omega)
          rw [n_16] at tx13072
          refine lv_iload hx hb dX10_text_306 (lv_at hl12855 3 rfl) ?_
          refine lv_iadd hx hb dX10_text_308 ?_
          refine lv_topi (fun x13073 ex13073 => ?_)
          have tx13073 := i_add ex13073 (by omega)
          refine lv_aload_n hx hb dX10_text_309 rfl (lv_at hl12855 0 rfl) ?_
          refine x_gr C hTH13039 (ci := 10) (k := 31) rfl inX10 (by decide) wF_X10_80 ga0 rg_112 rfl dX10_text_310 (fun q13074 eq13074 gq13074 => ?_)
          have uq13074 : f1 = q13074 := (m13057).trans eq13074.symm
          subst uq13074
          clear eq13074
          refine lv_bipush (v := 96) hx hb dX10_text_313 (by decide) ?_
          refine lv_iload hx hb dX10_text_315 (lv_at hl12855 3 rfl) ?_
          refine lv_iadd hx hb dX10_text_317 ?_
          refine lv_topi (fun x13075 ex13075 => ?_)
          have tx13075 := i_add ex13075 (by omega)
          refine x_ai C hTH13039 gf1 rg_135 ⟨by omega, by show _ < ((112 : Nat) : Int); omega⟩ dX10_text_318 (fun x13076 ex13076 bx13076 => ?_)
          refine x_iast C hTH13039 hSH13039 gf1 rg_135 (by omega) (by show _ < ((112 : Nat) : Int); omega) ⟨by have := i_rng x13076; omega, by have := i_rng x13076; omega⟩ (AE_in gf1 (by decide)) dX10_text_319 (fun H13077 locsH13077 hTH13077 hSH13077 wH13077 => ?_)
          have mf13078 : MF K s.heap H13077 a0 [0, 18, 19, 20, 21, 22, 34, 35, 36, 38, 39, 40, 41, 42] := MF.arr wH13077 (G_ne ga0 gf1 (by decide)) mf13040
          have g13079 : TU (avw K H13077 a0) (svw K H13077 a0) := TU.congr (fun k hk j => av_arr hTH13039 ga0 wH13077 gf1 (by decide) (TU_ok 135 (by decide) k hk)) (fun k hk => sv_arr ga0 wH13077 gf1 (by decide)) g13041
          have g13080 : WD (avw K H13077 a0) := WD.congr (fun k hk j => av_arr hTH13039 ga0 wH13077 gf1 (by decide) (WD_ok 135 (by decide) k hk)) g13042
          have g13081 : IM (avw K H13077 a0) := IM.congr (fun k hk j => av_arr hTH13039 ga0 wH13077 gf1 (by decide) (IM_ok 135 (by decide) k hk)) g13043
          have b13082 : CP (fun k => fI H13077 f9 k) (fun k => fI H12751 f9 k) (16 * x12755.toNatClampNeg) (96) (x12856.toNatClampNeg + 1) := CP.congr (fun j => Wr.neI wH13077 (Or.inl (G_ne gf9 gf1 (by decide)))) b13044
          have b13083 : CP (fun k => fI H13077 f0 k) (fun k => fI H12751 f0 k) (16 * x12755.toNatClampNeg) (96) (x12856.toNatClampNeg + 1) := CP.congr (fun j => Wr.neI wH13077 (Or.inl (G_ne gf0 gf1 (by decide)))) b13045
          have b13084 : CP (fun k => fI H13077 f1 k) (fun k => fI H12751 f1 k) (16 * x12755.toNatClampNeg) (96) (x12856.toNatClampNeg + 1) := CP.step b13046 (i := x13073.toNatClampNeg) (k := x13075.toNatClampNeg) (x := x13076) (ix16 tx13072 tx13073 hrw.1 hlw.1) (le16 hrw hlw) (ixk n_96 tx13075 hlw.1) ex13076 (Wr.I wH13077) (fun j hj => Wr.neI wH13077 (Or.inr hj))
          have b13085 : CP (fun k => fI H13077 oq k) (fun k => fI H12751 oq k) (500 * x12755.toNatClampNeg) (3000) (0) := CP.congr (fun j => Wr.neI wH13077 (Or.inl (G_ne goq gf1 (by decide)))) b13047
          have b13086 : CP (fun k => fI H13077 aq k) (fun k => fI H12751 aq k) (500 * x12755.toNatClampNeg) (3000) (0) := CP.congr (fun j => Wr.neI wH13077 (Or.inl (G_ne gaq gf1 (by decide)))) b13048
          have b13087 : CP (fun k => fI H13077 mq k) (fun k => fI H12751 mq k) (0) (0) (0) := CP.congr (fun j => Wr.neI wH13077 (Or.inl (G_ne gmq gf1 (by decide)))) b13049
          have f13088 : ∀ j : Nat, bt j = (fI H13077 tq j).toInt := fun j => (f13050 j).trans (congrArg Int32.toInt (Wr.neI wH13077 (Or.inl (G_ne gtq gf1 (by decide)))).symm)
          have m13089 := m13051.trans (Wr.neI wH13077 (Or.inl (G_ne ga0 gf1 (by decide)))).symm
          have m13090 := m13052.trans (Wr.neI wH13077 (Or.inl (G_ne ga0 gf1 (by decide)))).symm
          have m13091 := m13053.trans (Wr.neR wH13077 (Or.inl (G_ne ga0 gf1 (by decide)))).symm
          have m13092 := m13054.trans (Wr.neR wH13077 (Or.inl (G_ne ga0 gf1 (by decide)))).symm
          have m13093 := m13055.trans (Wr.neR wH13077 (Or.inl (G_ne ga0 gf1 (by decide)))).symm
          have m13094 := m13056.trans (Wr.neR wH13077 (Or.inl (G_ne ga0 gf1 (by decide)))).symm
          have m13095 := m13057.trans (Wr.neR wH13077 (Or.inl (G_ne ga0 gf1 (by decide)))).symm
          have m13096 := m13058.trans (Wr.neR wH13077 (Or.inl (G_ne ga0 gf1 (by decide)))).symm
          have m13097 := m13059.trans (Wr.neR wH13077 (Or.inl (G_ne ga0 gf1 (by decide)))).symm
          have m13098 := m13060.trans (Wr.neR wH13077 (Or.inl (G_ne ga0 gf1 (by decide)))).symm
          have m13099 := m13061.trans (Wr.neI wH13077 (Or.inl (G_ne gq12864 gf1 (by decide)))).symm
          have m13100 := m13062.trans (Wr.neR wH13077 (Or.inl (G_ne ga0 gf1 (by decide)))).symm
          have m13101 := m13063.trans (Wr.neI wH13077 (Or.inl (G_ne gq12894 gf1 (by decide)))).symm
          have m13102 := m13064.trans (Wr.neR wH13077 (Or.inl (G_ne ga0 gf1 (by decide)))).symm
          have m13103 := m13065.trans (Wr.neI wH13077 (Or.inl (G_ne gq12926 gf1 (by decide)))).symm
          have m13104 := m13066.trans (Wr.neR wH13077 (Or.inl (G_ne ga0 gf1 (by decide)))).symm
          have m13105 := m13067.trans (Wr.neI wH13077 (Or.inl (G_ne gq12960 gf1 (by decide)))).symm
          have m13106 := m13068.trans (Wr.neI wH13077 (Or.inl (G_ne gf9 gf1 (by decide)))).symm
          have m13107 := m13070.trans (Wr.neI wH13077 (Or.inl (G_ne gf0 gf1 (by decide)))).symm
          have m13109 := Wr.I wH13077
          have m13109 := m13109.symm
          clear b13044 b13045 b13046 b13047 b13048 b13049 ex13076 f13050 g13041 g13042 g13043 hTH13039 m13051 m13052 m13053 m13054 m13055 m13056 m13057 m13058 m13059 m13060 m13061 m13062 m13063 m13064 m13065 m13066 m13067 m13068 m13070 mf13040
          clear tx13072 tx13073 tx13075 bx13076 ex13072 ex13073 ex13075
          obtain ⟨x13110, ex13110⟩ : ∃ y : Int32, y = x12856 + 1 := ⟨_, rfl⟩
          have tx13110 := i_add ex13110 (by omega)
          refine lv_iinc (v := x13110) (lv' := [(6, .int x13110), (0, .ref a0), (4, .int x12754), (5, .int x12755)]) hx hb dX10_text_320 hl12855 (k := 3) rfl (by rw [ex13110]; rfl) (by decide) rfl (fun ls13111 hl13112 => ?_)
          refine lv_goto (tgt := 152) hx hb dX10_text_323 (by decide) ?_
          have cl_x12755 := i_cl (x := x12755) (by omega)
          have cl_x12856 := i_cl (x := x12856) (by omega)
          have cl_x13110 := i_cl (x := x13110) (by omega)
          exact ih152 ls13111 H13077 locsH13077 (x13110) (x12857) (x12858) (lv_sub hl13112 [1, 2, 3, 0] rfl) hTH13077 hSH13077 ⟨by have := i_rng x13110; omega, by have := i_rng x13110; omega⟩ ⟨by have := i_rng x12857; omega, by have := i_rng x12857; omega⟩ ⟨by have := i_rng x12858; omega, by have := i_rng x12858; omega⟩ m13089 m13090 m13091 m13092 m13093 m13094 m13095 m13096 m13097 (CP.cast b13082 (by omega) (by omega) (by omega)) (CP.cast b13083 (by omega) (by omega) (by omega)) (CP.cast b13084 (by omega) (by omega) (by omega)) (CP.cast b13085 (by omega) (by omega) (by omega)) (CP.cast b13086 (by omega) (by omega) (by omega)) (CP.cast b13087 (by omega) (by omega) (by omega)) mf13078 g13079 g13080 g13081 f13088 (by omega) (by omega)
    refine lv_iconst (v := 0) hx hb dX10_text_149 (by decide) ?_
    refine lv_istore (lv' := [(6, .int 0), (0, .ref a0), (4, .int x12754), (5, .int x12755)]) hx hb dX10_text_150 hl12753 (by decide) rfl (fun ls13113 hl13114 => ?_)
    have c9z : CP (fun k => fI H12751 f9 k) (fun k => fI H12751 f9 k) (16 * x12755.toNatClampNeg) (96) (0) := CP.rf rfl
    have c0z : CP (fun k => fI H12751 f0 k) (fun k => fI H12751 f0 k) (16 * x12755.toNatClampNeg) (96) (0) := CP.rf rfl
    have c1z : CP (fun k => fI H12751 f1 k) (fun k => fI H12751 f1 k) (16 * x12755.toNatClampNeg) (96) (0) := CP.rf rfl
    have coz : CP (fun k => fI H12751 oq k) (fun k => fI H12751 oq k) (500 * x12755.toNatClampNeg) (3000) (0) := CP.rf rfl
    have caz : CP (fun k => fI H12751 aq k) (fun k => fI H12751 aq k) (500 * x12755.toNatClampNeg) (3000) (0) := CP.rf rfl
    have cmz : CP (fun k => fI H12751 mq k) (fun k => fI H12751 mq k) (0) (0) (0) := CP.rf rfl
    have cl00 : (0 : Int32).toNatClampNeg = 0 := rfl
    have cl_0 := i_cl (x := (0 : Int32)) (by omega)
    have cl_x12755 := i_cl (x := x12755) (by omega)
    have cl_0 := i_cl (x := (0 : Int32)) (by omega)
    have cl_0 := i_cl (x := (0 : Int32)) (by omega)
    exact J152 ((16 - (0 : Int32).toInt).toNat + 1) ls13113 H12751 locsH12751 (0) (x12756) (x12757) (lv_sub hl13114 [1, 2, 3, 0] rfl) hTH12751 hSH12751 (by decide) ⟨by have := i_rng x12756; omega, by have := i_rng x12756; omega⟩ ⟨by have := i_rng x12757; omega, by have := i_rng x12757; omega⟩ ex12756 ex12757 cy12758_0 cy12758_1 cy12758_2 cy12758_3 cy12758_4 cy12758_5 cy12758_6 (CP.cast c9z (by omega) (by omega) (by omega)) (CP.cast c0z (by omega) (by omega) (by omega)) (CP.cast c1z (by omega) (by omega) (by omega)) (CP.cast coz (by omega) (by omega) (by omega)) (CP.cast caz (by omega) (by omega) (by omega)) (CP.cast cmz (by omega) (by omega) (by omega)) mfy12758 gy12758_TU gy12758_WD gy12758_IM fy12758_bt (by omega) (by omega)
  refine lv_aload_n hx hb dX10_text_0 rfl (lv_at hl 0 rfl) ?_
  refine lv_iconst (v := 0) hx hb dX10_text_1 (by decide) ?_
  refine x_put C hT hS (ci := 10) (k := 0) (v := .int 0) (ty0 := tyX10) rfl inX10 tyX10_ok nmX10 (by decide) rfl wF_X10_167 ga0 rg_112 rfl rfl (okI (by have := i_rng (0 : Int32); omega) (by have := i_rng (0 : Int32); omega)) rfl rfl (AE_in ga0 (by decide)) dX10_text_2 (fun H13115 locsH13115 hTH13115 hSH13115 wH13115 => ?_)
  have mf13116 : MF K s.heap H13115 a0 [0, 18, 19, 20, 21, 22, 34, 35, 36, 38, 39, 40, 41, 42] := MF.fld hap wH13115 (by decide) (by decide) mf0
  have g13117 : CG (avw K H13115 a0) := CG.congr (fun k hk j => av_fld hT ga0 hap wH13115 (by decide) (CG_ok 112 (by decide) k hk) (CG_ne 0 (by decide) k hk)) hg_CG
  have g13118 : TU (avw K H13115 a0) (svw K H13115 a0) := TU.congr (fun k hk j => av_fld hT ga0 hap wH13115 (by decide) (TU_ok 112 (by decide) k hk) (TU_ne 0 (by decide) k hk)) (fun k hk => sv_fld hap wH13115 (by decide) (TU_slt k hk) (TU_sne 0 (by decide) k hk)) hg_TU
  have g13119 : WD (avw K H13115 a0) := WD.congr (fun k hk j => av_fld hT ga0 hap wH13115 (by decide) (WD_ok 112 (by decide) k hk) (WD_ne 0 (by decide) k hk)) hg_WD
  have g13120 : IM (avw K H13115 a0) := IM.congr (fun k hk j => av_fld hT ga0 hap wH13115 (by decide) (IM_ok 112 (by decide) k hk) (IM_ne 0 (by decide) k hk)) hg_IM
  have f13121 : ∀ j : Nat, bt j = (fI H13115 tq j).toInt := fun j => (f0_bt j).trans (congrArg Int32.toInt (Wr.neI wH13115 (Or.inl (G_ne gtq ga0 (by decide)))).symm)
  have m13122 := eoq.trans (Wr.neR wH13115 (Or.inr (x_apart hKT hts inX10 tyX10 tyX10_ok nmX10 rfl 32 0 (by decide) (by decide) (by decide)))).symm
  have m13123 := eaq.trans (Wr.neR wH13115 (Or.inr (x_apart hKT hts inX10 tyX10 tyX10_ok nmX10 rfl 33 0 (by decide) (by decide) (by decide)))).symm
  have m13124 := ef9.trans (Wr.neR wH13115 (Or.inr (x_apart hKT hts inX10 tyX10 tyX10_ok nmX10 rfl 29 0 (by decide) (by decide) (by decide)))).symm
  have m13125 := ef0.trans (Wr.neR wH13115 (Or.inr (x_apart hKT hts inX10 tyX10 tyX10_ok nmX10 rfl 30 0 (by decide) (by decide) (by decide)))).symm
  have m13126 := ef1.trans (Wr.neR wH13115 (Or.inr (x_apart hKT hts inX10 tyX10 tyX10_ok nmX10 rfl 31 0 (by decide) (by decide) (by decide)))).symm
  have m13127 := emq.trans (Wr.neR wH13115 (Or.inr (x_apart hKT hts inX10 tyX10 tyX10_ok nmX10 rfl 24 0 (by decide) (by decide) (by decide)))).symm
  have m13128 := etq.trans (Wr.neR wH13115 (Or.inr (x_apart hKT hts inX10 tyX10 tyX10_ok nmX10 rfl 17 0 (by decide) (by decide) (by decide)))).symm
  have m13129 := emn.trans (Wr.neI wH13115 (Or.inr (x_apart hKT hts inX10 tyX10 tyX10_ok nmX10 rfl 35 0 (by decide) (by decide) (by decide)))).symm
  have m13130 := etp.trans (Wr.neI wH13115 (Or.inr (x_apart hKT hts inX10 tyX10 tyX10_ok nmX10 rfl 18 0 (by decide) (by decide) (by decide)))).symm
  have m13131 := Wr.I wH13115
  clear eaq ef0 ef1 ef9 emn emq eoq etp etq f0_bt mf0
  refine lv_aload_n hx hb dX10_text_5 rfl (lv_at hl 0 rfl) ?_
  refine lv_iconst (v := 0) hx hb dX10_text_6 (by decide) ?_
  refine x_put C hTH13115 hSH13115 (ci := 10) (k := 41) (v := .int 0) (ty0 := tyX10) rfl inX10 tyX10_ok nmX10 (by decide) rfl wF_X10_292 ga0 rg_112 rfl rfl (okI (by have := i_rng (0 : Int32); omega) (by have := i_rng (0 : Int32); omega)) rfl rfl (AE_in ga0 (by decide)) dX10_text_7 (fun H13132 locsH13132 hTH13132 hSH13132 wH13132 => ?_)
  have mf13133 : MF K s.heap H13132 a0 [0, 18, 19, 20, 21, 22, 34, 35, 36, 38, 39, 40, 41, 42] := MF.fld hap wH13132 (by decide) (by decide) mf13116
  have g13134 : CG (avw K H13132 a0) := CG.congr (fun k hk j => av_fld hTH13115 ga0 hap wH13132 (by decide) (CG_ok 112 (by decide) k hk) (CG_ne 41 (by decide) k hk)) g13117
  have g13135 : TU (avw K H13132 a0) (svw K H13132 a0) := TU.congr (fun k hk j => av_fld hTH13115 ga0 hap wH13132 (by decide) (TU_ok 112 (by decide) k hk) (TU_ne 41 (by decide) k hk)) (fun k hk => sv_fld hap wH13132 (by decide) (TU_slt k hk) (TU_sne 41 (by decide) k hk)) g13118
  have g13136 : WD (avw K H13132 a0) := WD.congr (fun k hk j => av_fld hTH13115 ga0 hap wH13132 (by decide) (WD_ok 112 (by decide) k hk) (WD_ne 41 (by decide) k hk)) g13119
  have g13137 : IM (avw K H13132 a0) := IM.congr (fun k hk j => av_fld hTH13115 ga0 hap wH13132 (by decide) (IM_ok 112 (by decide) k hk) (IM_ne 41 (by decide) k hk)) g13120
  have f13138 : ∀ j : Nat, bt j = (fI H13132 tq j).toInt := fun j => (f13121 j).trans (congrArg Int32.toInt (Wr.neI wH13132 (Or.inl (G_ne gtq ga0 (by decide)))).symm)
  have m13139 := m13122.trans (Wr.neR wH13132 (Or.inr (x_apart hKT hts inX10 tyX10 tyX10_ok nmX10 rfl 32 41 (by decide) (by decide) (by decide)))).symm
  have m13140 := m13123.trans (Wr.neR wH13132 (Or.inr (x_apart hKT hts inX10 tyX10 tyX10_ok nmX10 rfl 33 41 (by decide) (by decide) (by decide)))).symm
  have m13141 := m13124.trans (Wr.neR wH13132 (Or.inr (x_apart hKT hts inX10 tyX10 tyX10_ok nmX10 rfl 29 41 (by decide) (by decide) (by decide)))).symm
  have m13142 := m13125.trans (Wr.neR wH13132 (Or.inr (x_apart hKT hts inX10 tyX10 tyX10_ok nmX10 rfl 30 41 (by decide) (by decide) (by decide)))).symm
  have m13143 := m13126.trans (Wr.neR wH13132 (Or.inr (x_apart hKT hts inX10 tyX10 tyX10_ok nmX10 rfl 31 41 (by decide) (by decide) (by decide)))).symm
  have m13144 := m13127.trans (Wr.neR wH13132 (Or.inr (x_apart hKT hts inX10 tyX10 tyX10_ok nmX10 rfl 24 41 (by decide) (by decide) (by decide)))).symm
  have m13145 := m13128.trans (Wr.neR wH13132 (Or.inr (x_apart hKT hts inX10 tyX10 tyX10_ok nmX10 rfl 17 41 (by decide) (by decide) (by decide)))).symm
  have m13146 := m13129.trans (Wr.neI wH13132 (Or.inr (x_apart hKT hts inX10 tyX10 tyX10_ok nmX10 rfl 35 41 (by decide) (by decide) (by decide)))).symm
  have m13147 := m13130.trans (Wr.neI wH13132 (Or.inr (x_apart hKT hts inX10 tyX10 tyX10_ok nmX10 rfl 18 41 (by decide) (by decide) (by decide)))).symm
  have m13148 := (Wr.neI wH13132 (Or.inr (x_apart hKT hts inX10 tyX10 tyX10_ok nmX10 rfl 0 41 (by decide) (by decide) (by decide)))).trans m13131
  have m13149 := Wr.I wH13132
  clear f13121 g13117 g13118 g13119 g13120 hTH13115 m13122 m13123 m13124 m13125 m13126 m13127 m13128 m13129 m13130 m13131 mf13116
  refine lv_aload_n hx hb dX10_text_10 rfl (lv_at hl 0 rfl) ?_
  refine lv_iconst (v := (-1)) hx hb dX10_text_11 (by decide) ?_
  refine x_put C hTH13132 hSH13132 (ci := 10) (k := 42) (v := .int (-1)) (ty0 := tyX10) rfl inX10 tyX10_ok nmX10 (by decide) rfl wF_X10_92 ga0 rg_112 rfl rfl (okI (by have := i_rng ((-1) : Int32); omega) (by have := i_rng ((-1) : Int32); omega)) rfl rfl (AE_in ga0 (by decide)) dX10_text_12 (fun H13150 locsH13150 hTH13150 hSH13150 wH13150 => ?_)
  have mf13151 : MF K s.heap H13150 a0 [0, 18, 19, 20, 21, 22, 34, 35, 36, 38, 39, 40, 41, 42] := MF.fld hap wH13150 (by decide) (by decide) mf13133
  have g13152 : CG (avw K H13150 a0) := CG.congr (fun k hk j => av_fld hTH13132 ga0 hap wH13150 (by decide) (CG_ok 112 (by decide) k hk) (CG_ne 42 (by decide) k hk)) g13134
  have g13153 : TU (avw K H13150 a0) (svw K H13150 a0) := TU.congr (fun k hk j => av_fld hTH13132 ga0 hap wH13150 (by decide) (TU_ok 112 (by decide) k hk) (TU_ne 42 (by decide) k hk)) (fun k hk => sv_fld hap wH13150 (by decide) (TU_slt k hk) (TU_sne 42 (by decide) k hk)) g13135
  have g13154 : WD (avw K H13150 a0) := WD.congr (fun k hk j => av_fld hTH13132 ga0 hap wH13150 (by decide) (WD_ok 112 (by decide) k hk) (WD_ne 42 (by decide) k hk)) g13136
  have g13155 : IM (avw K H13150 a0) := IM.congr (fun k hk j => av_fld hTH13132 ga0 hap wH13150 (by decide) (IM_ok 112 (by decide) k hk) (IM_ne 42 (by decide) k hk)) g13137
  have f13156 : ∀ j : Nat, bt j = (fI H13150 tq j).toInt := fun j => (f13138 j).trans (congrArg Int32.toInt (Wr.neI wH13150 (Or.inl (G_ne gtq ga0 (by decide)))).symm)
  have m13157 := m13139.trans (Wr.neR wH13150 (Or.inr (x_apart hKT hts inX10 tyX10 tyX10_ok nmX10 rfl 32 42 (by decide) (by decide) (by decide)))).symm
  have m13158 := m13140.trans (Wr.neR wH13150 (Or.inr (x_apart hKT hts inX10 tyX10 tyX10_ok nmX10 rfl 33 42 (by decide) (by decide) (by decide)))).symm
  have m13159 := m13141.trans (Wr.neR wH13150 (Or.inr (x_apart hKT hts inX10 tyX10 tyX10_ok nmX10 rfl 29 42 (by decide) (by decide) (by decide)))).symm
  have m13160 := m13142.trans (Wr.neR wH13150 (Or.inr (x_apart hKT hts inX10 tyX10 tyX10_ok nmX10 rfl 30 42 (by decide) (by decide) (by decide)))).symm
  have m13161 := m13143.trans (Wr.neR wH13150 (Or.inr (x_apart hKT hts inX10 tyX10 tyX10_ok nmX10 rfl 31 42 (by decide) (by decide) (by decide)))).symm
  have m13162 := m13144.trans (Wr.neR wH13150 (Or.inr (x_apart hKT hts inX10 tyX10 tyX10_ok nmX10 rfl 24 42 (by decide) (by decide) (by decide)))).symm
  have m13163 := m13145.trans (Wr.neR wH13150 (Or.inr (x_apart hKT hts inX10 tyX10 tyX10_ok nmX10 rfl 17 42 (by decide) (by decide) (by decide)))).symm
  have m13164 := m13146.trans (Wr.neI wH13150 (Or.inr (x_apart hKT hts inX10 tyX10 tyX10_ok nmX10 rfl 35 42 (by decide) (by decide) (by decide)))).symm
  have m13165 := m13147.trans (Wr.neI wH13150 (Or.inr (x_apart hKT hts inX10 tyX10 tyX10_ok nmX10 rfl 18 42 (by decide) (by decide) (by decide)))).symm
  have m13166 := (Wr.neI wH13150 (Or.inr (x_apart hKT hts inX10 tyX10 tyX10_ok nmX10 rfl 0 42 (by decide) (by decide) (by decide)))).trans m13148
  have m13167 := (Wr.neI wH13150 (Or.inr (x_apart hKT hts inX10 tyX10 tyX10_ok nmX10 rfl 41 42 (by decide) (by decide) (by decide)))).trans m13149
  have m13168 := Wr.I wH13150
  clear f13138 g13134 g13135 g13136 g13137 hTH13132 m13139 m13140 m13141 m13142 m13143 m13144 m13145 m13146 m13147 m13148 m13149 mf13133
  refine lv_iload_n hx hb dX10_text_15 rfl (lv_at hl 1 rfl) ?_
  refine lv_if_ne (tgt := 29) hx hb dX10_text_16 (by decide) (fun c13169 => ?_) (fun c13169 => ?_)
  · have k13170 := i_ne c13169
    refine lv_iload_n hx hb dX10_text_29 rfl (lv_at hl 1 rfl) ?_
    refine lv_iconst (v := 1) hx hb dX10_text_30 (by decide) ?_
    refine lv_icmp_ne (tgt := 48) hx hb dX10_text_31 (by decide) (fun c13171 => ?_) (fun c13171 => ?_)
    · have k13172 := i_ne c13171
      refine lv_iconst (v := 0) hx hb dX10_text_48 (by decide) ?_
      refine lv_istore_n (lv' := [(3, .int 0), (0, .ref a0), (1, .int x1), (2, .int x2)]) hx hb dX10_text_49 rfl hl (by decide) rfl (fun ls13173 hl13174 => ?_)
      refine lv_aload_n hx hb dX10_text_50 rfl (lv_at hl13174 1 rfl) ?_
      refine lv_iload_n hx hb dX10_text_51 rfl (lv_at hl13174 2 rfl) ?_
      refine lv_iconst (v := 1) hx hb dX10_text_52 (by decide) ?_
      refine lv_icmp_ne (tgt := 60) hx hb dX10_text_53 (by decide) (fun c13175 => ?_) (fun c13175 => ?_)
      · have k13176 := i_ne c13175
        refine lv_iconst (v := 0) hx hb dX10_text_60 (by decide) ?_
        refine x_put C hTH13150 hSH13150 (ci := 10) (k := 34) (v := .int 0) (ty0 := tyX10) rfl inX10 tyX10_ok nmX10 (by decide) rfl wF_X10_231 ga0 rg_112 rfl rfl (okI (by have := i_rng (0 : Int32); omega) (by have := i_rng (0 : Int32); omega)) rfl rfl (AE_in ga0 (by decide)) dX10_text_61 (fun H13177 locsH13177 hTH13177 hSH13177 wH13177 => ?_)
        have mf13178 : MF K s.heap H13177 a0 [0, 18, 19, 20, 21, 22, 34, 35, 36, 38, 39, 40, 41, 42] := MF.fld hap wH13177 (by decide) (by decide) mf13151
        have g13179 : CG (avw K H13177 a0) := CG.congr (fun k hk j => av_fld hTH13150 ga0 hap wH13177 (by decide) (CG_ok 112 (by decide) k hk) (CG_ne 34 (by decide) k hk)) g13152
        have g13180 : TU (avw K H13177 a0) (svw K H13177 a0) := TU.congr (fun k hk j => av_fld hTH13150 ga0 hap wH13177 (by decide) (TU_ok 112 (by decide) k hk) (TU_ne 34 (by decide) k hk)) (fun k hk => sv_fld hap wH13177 (by decide) (TU_slt k hk) (TU_sne 34 (by decide) k hk)) g13153
        have g13181 : WD (avw K H13177 a0) := WD.congr (fun k hk j => av_fld hTH13150 ga0 hap wH13177 (by decide) (WD_ok 112 (by decide) k hk) (WD_ne 34 (by decide) k hk)) g13154
        have g13182 : IM (avw K H13177 a0) := IM.congr (fun k hk j => av_fld hTH13150 ga0 hap wH13177 (by decide) (IM_ok 112 (by decide) k hk) (IM_ne 34 (by decide) k hk)) g13155
        have f13183 : ∀ j : Nat, bt j = (fI H13177 tq j).toInt := fun j => (f13156 j).trans (congrArg Int32.toInt (Wr.neI wH13177 (Or.inl (G_ne gtq ga0 (by decide)))).symm)
        have m13184 := m13157.trans (Wr.neR wH13177 (Or.inr (x_apart hKT hts inX10 tyX10 tyX10_ok nmX10 rfl 32 34 (by decide) (by decide) (by decide)))).symm
        have m13185 := m13158.trans (Wr.neR wH13177 (Or.inr (x_apart hKT hts inX10 tyX10 tyX10_ok nmX10 rfl 33 34 (by decide) (by decide) (by decide)))).symm
        have m13186 := m13159.trans (Wr.neR wH13177 (Or.inr (x_apart hKT hts inX10 tyX10 tyX10_ok nmX10 rfl 29 34 (by decide) (by decide) (by decide)))).symm
        have m13187 := m13160.trans (Wr.neR wH13177 (Or.inr (x_apart hKT hts inX10 tyX10 tyX10_ok nmX10 rfl 30 34 (by decide) (by decide) (by decide)))).symm
        have m13188 := m13161.trans (Wr.neR wH13177 (Or.inr (x_apart hKT hts inX10 tyX10 tyX10_ok nmX10 rfl 31 34 (by decide) (by decide) (by decide)))).symm
        have m13189 := m13162.trans (Wr.neR wH13177 (Or.inr (x_apart hKT hts inX10 tyX10 tyX10_ok nmX10 rfl 24 34 (by decide) (by decide) (by decide)))).symm
        have m13190 := m13163.trans (Wr.neR wH13177 (Or.inr (x_apart hKT hts inX10 tyX10 tyX10_ok nmX10 rfl 17 34 (by decide) (by decide) (by decide)))).symm
        have m13191 := m13164.trans (Wr.neI wH13177 (Or.inr (x_apart hKT hts inX10 tyX10 tyX10_ok nmX10 rfl 35 34 (by decide) (by decide) (by decide)))).symm
        have m13192 := m13165.trans (Wr.neI wH13177 (Or.inr (x_apart hKT hts inX10 tyX10 tyX10_ok nmX10 rfl 18 34 (by decide) (by decide) (by decide)))).symm
        have m13193 := (Wr.neI wH13177 (Or.inr (x_apart hKT hts inX10 tyX10 tyX10_ok nmX10 rfl 0 34 (by decide) (by decide) (by decide)))).trans m13166
        have m13194 := (Wr.neI wH13177 (Or.inr (x_apart hKT hts inX10 tyX10 tyX10_ok nmX10 rfl 41 34 (by decide) (by decide) (by decide)))).trans m13167
        have m13195 := (Wr.neI wH13177 (Or.inr (x_apart hKT hts inX10 tyX10 tyX10_ok nmX10 rfl 42 34 (by decide) (by decide) (by decide)))).trans m13168
        have m13196 := Wr.I wH13177
        clear f13156 g13152 g13153 g13154 g13155 hTH13150 m13157 m13158 m13159 m13160 m13161 m13162 m13163 m13164 m13165 m13166 m13167 m13168 mf13151
        refine lv_aload_n hx hb dX10_text_64 rfl (lv_at hl13174 1 rfl) ?_
        refine lv_iconst (v := 0) hx hb dX10_text_65 (by decide) ?_
        refine x_put C hTH13177 hSH13177 (ci := 10) (k := 19) (v := .int 0) (ty0 := tyX10) rfl inX10 tyX10_ok nmX10 (by decide) rfl wF_X10_192 ga0 rg_112 rfl rfl (okI (by have := i_rng (0 : Int32); omega) (by have := i_rng (0 : Int32); omega)) rfl rfl (AE_in ga0 (by decide)) dX10_text_66 (fun H13197 locsH13197 hTH13197 hSH13197 wH13197 => ?_)
        have mf13198 : MF K s.heap H13197 a0 [0, 18, 19, 20, 21, 22, 34, 35, 36, 38, 39, 40, 41, 42] := MF.fld hap wH13197 (by decide) (by decide) mf13178
        have g13199 : CG (avw K H13197 a0) := CG.congr (fun k hk j => av_fld hTH13177 ga0 hap wH13197 (by decide) (CG_ok 112 (by decide) k hk) (CG_ne 19 (by decide) k hk)) g13179
        have g13200 : TU (avw K H13197 a0) (svw K H13197 a0) := TU.congr (fun k hk j => av_fld hTH13177 ga0 hap wH13197 (by decide) (TU_ok 112 (by decide) k hk) (TU_ne 19 (by decide) k hk)) (fun k hk => sv_fld hap wH13197 (by decide) (TU_slt k hk) (TU_sne 19 (by decide) k hk)) g13180
        have g13201 : WD (avw K H13197 a0) := WD.congr (fun k hk j => av_fld hTH13177 ga0 hap wH13197 (by decide) (WD_ok 112 (by decide) k hk) (WD_ne 19 (by decide) k hk)) g13181
        have g13202 : IM (avw K H13197 a0) := IM.congr (fun k hk j => av_fld hTH13177 ga0 hap wH13197 (by decide) (IM_ok 112 (by decide) k hk) (IM_ne 19 (by decide) k hk)) g13182
        have f13203 : ∀ j : Nat, bt j = (fI H13197 tq j).toInt := fun j => (f13183 j).trans (congrArg Int32.toInt (Wr.neI wH13197 (Or.inl (G_ne gtq ga0 (by decide)))).symm)
        have m13204 := m13184.trans (Wr.neR wH13197 (Or.inr (x_apart hKT hts inX10 tyX10 tyX10_ok nmX10 rfl 32 19 (by decide) (by decide) (by decide)))).symm
        have m13205 := m13185.trans (Wr.neR wH13197 (Or.inr (x_apart hKT hts inX10 tyX10 tyX10_ok nmX10 rfl 33 19 (by decide) (by decide) (by decide)))).symm
        have m13206 := m13186.trans (Wr.neR wH13197 (Or.inr (x_apart hKT hts inX10 tyX10 tyX10_ok nmX10 rfl 29 19 (by decide) (by decide) (by decide)))).symm
        have m13207 := m13187.trans (Wr.neR wH13197 (Or.inr (x_apart hKT hts inX10 tyX10 tyX10_ok nmX10 rfl 30 19 (by decide) (by decide) (by decide)))).symm
        have m13208 := m13188.trans (Wr.neR wH13197 (Or.inr (x_apart hKT hts inX10 tyX10 tyX10_ok nmX10 rfl 31 19 (by decide) (by decide) (by decide)))).symm
        have m13209 := m13189.trans (Wr.neR wH13197 (Or.inr (x_apart hKT hts inX10 tyX10 tyX10_ok nmX10 rfl 24 19 (by decide) (by decide) (by decide)))).symm
        have m13210 := m13190.trans (Wr.neR wH13197 (Or.inr (x_apart hKT hts inX10 tyX10 tyX10_ok nmX10 rfl 17 19 (by decide) (by decide) (by decide)))).symm
        have m13211 := m13191.trans (Wr.neI wH13197 (Or.inr (x_apart hKT hts inX10 tyX10 tyX10_ok nmX10 rfl 35 19 (by decide) (by decide) (by decide)))).symm
        have m13212 := m13192.trans (Wr.neI wH13197 (Or.inr (x_apart hKT hts inX10 tyX10 tyX10_ok nmX10 rfl 18 19 (by decide) (by decide) (by decide)))).symm
        have m13213 := (Wr.neI wH13197 (Or.inr (x_apart hKT hts inX10 tyX10 tyX10_ok nmX10 rfl 0 19 (by decide) (by decide) (by decide)))).trans m13193
        have m13214 := (Wr.neI wH13197 (Or.inr (x_apart hKT hts inX10 tyX10 tyX10_ok nmX10 rfl 41 19 (by decide) (by decide) (by decide)))).trans m13194
        have m13215 := (Wr.neI wH13197 (Or.inr (x_apart hKT hts inX10 tyX10 tyX10_ok nmX10 rfl 42 19 (by decide) (by decide) (by decide)))).trans m13195
        have m13216 := (Wr.neI wH13197 (Or.inr (x_apart hKT hts inX10 tyX10 tyX10_ok nmX10 rfl 34 19 (by decide) (by decide) (by decide)))).trans m13196
        have m13217 := Wr.I wH13197
        clear f13183 g13179 g13180 g13181 g13182 hTH13177 m13184 m13185 m13186 m13187 m13188 m13189 m13190 m13191 m13192 m13193 m13194 m13195 m13196 mf13178
        refine lv_aload_n hx hb dX10_text_69 rfl (lv_at hl13174 1 rfl) ?_
        refine lv_iconst (v := 0) hx hb dX10_text_70 (by decide) ?_
        refine x_put C hTH13197 hSH13197 (ci := 10) (k := 35) (v := .int 0) (ty0 := tyX10) rfl inX10 tyX10_ok nmX10 (by decide) rfl wF_X10_228 ga0 rg_112 rfl rfl (okI (by have := i_rng (0 : Int32); omega) (by have := i_rng (0 : Int32); omega)) rfl rfl (AE_in ga0 (by decide)) dX10_text_71 (fun H13218 locsH13218 hTH13218 hSH13218 wH13218 => ?_)
        have mf13219 : MF K s.heap H13218 a0 [0, 18, 19, 20, 21, 22, 34, 35, 36, 38, 39, 40, 41, 42] := MF.fld hap wH13218 (by decide) (by decide) mf13198
        have g13220 : CG (avw K H13218 a0) := CG.congr (fun k hk j => av_fld hTH13197 ga0 hap wH13218 (by decide) (CG_ok 112 (by decide) k hk) (CG_ne 35 (by decide) k hk)) g13199
        have g13221 : TU (avw K H13218 a0) (svw K H13218 a0) := TU.congr (fun k hk j => av_fld hTH13197 ga0 hap wH13218 (by decide) (TU_ok 112 (by decide) k hk) (TU_ne 35 (by decide) k hk)) (fun k hk => sv_fld hap wH13218 (by decide) (TU_slt k hk) (TU_sne 35 (by decide) k hk)) g13200
        have g13222 : WD (avw K H13218 a0) := WD.congr (fun k hk j => av_fld hTH13197 ga0 hap wH13218 (by decide) (WD_ok 112 (by decide) k hk) (WD_ne 35 (by decide) k hk)) g13201
        have g13223 : IM (avw K H13218 a0) := IM.congr (fun k hk j => av_fld hTH13197 ga0 hap wH13218 (by decide) (IM_ok 112 (by decide) k hk) (IM_ne 35 (by decide) k hk)) g13202
        have f13224 : ∀ j : Nat, bt j = (fI H13218 tq j).toInt := fun j => (f13203 j).trans (congrArg Int32.toInt (Wr.neI wH13218 (Or.inl (G_ne gtq ga0 (by decide)))).symm)
        have m13225 := m13204.trans (Wr.neR wH13218 (Or.inr (x_apart hKT hts inX10 tyX10 tyX10_ok nmX10 rfl 32 35 (by decide) (by decide) (by decide)))).symm
        have m13226 := m13205.trans (Wr.neR wH13218 (Or.inr (x_apart hKT hts inX10 tyX10 tyX10_ok nmX10 rfl 33 35 (by decide) (by decide) (by decide)))).symm
        have m13227 := m13206.trans (Wr.neR wH13218 (Or.inr (x_apart hKT hts inX10 tyX10 tyX10_ok nmX10 rfl 29 35 (by decide) (by decide) (by decide)))).symm
        have m13228 := m13207.trans (Wr.neR wH13218 (Or.inr (x_apart hKT hts inX10 tyX10 tyX10_ok nmX10 rfl 30 35 (by decide) (by decide) (by decide)))).symm
        have m13229 := m13208.trans (Wr.neR wH13218 (Or.inr (x_apart hKT hts inX10 tyX10 tyX10_ok nmX10 rfl 31 35 (by decide) (by decide) (by decide)))).symm
        have m13230 := m13209.trans (Wr.neR wH13218 (Or.inr (x_apart hKT hts inX10 tyX10 tyX10_ok nmX10 rfl 24 35 (by decide) (by decide) (by decide)))).symm
        have m13231 := m13210.trans (Wr.neR wH13218 (Or.inr (x_apart hKT hts inX10 tyX10 tyX10_ok nmX10 rfl 17 35 (by decide) (by decide) (by decide)))).symm
        have m13233 := m13212.trans (Wr.neI wH13218 (Or.inr (x_apart hKT hts inX10 tyX10 tyX10_ok nmX10 rfl 18 35 (by decide) (by decide) (by decide)))).symm
        have m13234 := (Wr.neI wH13218 (Or.inr (x_apart hKT hts inX10 tyX10 tyX10_ok nmX10 rfl 0 35 (by decide) (by decide) (by decide)))).trans m13213
        have m13235 := (Wr.neI wH13218 (Or.inr (x_apart hKT hts inX10 tyX10 tyX10_ok nmX10 rfl 41 35 (by decide) (by decide) (by decide)))).trans m13214
        have m13236 := (Wr.neI wH13218 (Or.inr (x_apart hKT hts inX10 tyX10 tyX10_ok nmX10 rfl 42 35 (by decide) (by decide) (by decide)))).trans m13215
        have m13237 := (Wr.neI wH13218 (Or.inr (x_apart hKT hts inX10 tyX10 tyX10_ok nmX10 rfl 34 35 (by decide) (by decide) (by decide)))).trans m13216
        have m13238 := (Wr.neI wH13218 (Or.inr (x_apart hKT hts inX10 tyX10 tyX10_ok nmX10 rfl 19 35 (by decide) (by decide) (by decide)))).trans m13217
        have m13239 := Wr.I wH13218
        clear f13203 g13199 g13200 g13201 g13202 hTH13197 m13204 m13205 m13206 m13207 m13208 m13209 m13210 m13211 m13212 m13213 m13214 m13215 m13216 m13217 mf13198
        refine lv_aload_n hx hb dX10_text_74 rfl (lv_at hl13174 1 rfl) ?_
        refine lv_iconst (v := 0) hx hb dX10_text_75 (by decide) ?_
        refine x_put C hTH13218 hSH13218 (ci := 10) (k := 36) (v := .int 0) (ty0 := tyX10) rfl inX10 tyX10_ok nmX10 (by decide) rfl wF_X10_261 ga0 rg_112 rfl rfl (okI (by have := i_rng (0 : Int32); omega) (by have := i_rng (0 : Int32); omega)) rfl rfl (AE_in ga0 (by decide)) dX10_text_76 (fun H13240 locsH13240 hTH13240 hSH13240 wH13240 => ?_)
        have mf13241 : MF K s.heap H13240 a0 [0, 18, 19, 20, 21, 22, 34, 35, 36, 38, 39, 40, 41, 42] := MF.fld hap wH13240 (by decide) (by decide) mf13219
        have g13242 : CG (avw K H13240 a0) := CG.congr (fun k hk j => av_fld hTH13218 ga0 hap wH13240 (by decide) (CG_ok 112 (by decide) k hk) (CG_ne 36 (by decide) k hk)) g13220
        have g13243 : TU (avw K H13240 a0) (svw K H13240 a0) := TU.congr (fun k hk j => av_fld hTH13218 ga0 hap wH13240 (by decide) (TU_ok 112 (by decide) k hk) (TU_ne 36 (by decide) k hk)) (fun k hk => sv_fld hap wH13240 (by decide) (TU_slt k hk) (TU_sne 36 (by decide) k hk)) g13221
        have g13244 : WD (avw K H13240 a0) := WD.congr (fun k hk j => av_fld hTH13218 ga0 hap wH13240 (by decide) (WD_ok 112 (by decide) k hk) (WD_ne 36 (by decide) k hk)) g13222
        have g13245 : IM (avw K H13240 a0) := IM.congr (fun k hk j => av_fld hTH13218 ga0 hap wH13240 (by decide) (IM_ok 112 (by decide) k hk) (IM_ne 36 (by decide) k hk)) g13223
        have f13246 : ∀ j : Nat, bt j = (fI H13240 tq j).toInt := fun j => (f13224 j).trans (congrArg Int32.toInt (Wr.neI wH13240 (Or.inl (G_ne gtq ga0 (by decide)))).symm)
        have m13247 := m13225.trans (Wr.neR wH13240 (Or.inr (x_apart hKT hts inX10 tyX10 tyX10_ok nmX10 rfl 32 36 (by decide) (by decide) (by decide)))).symm
        have m13248 := m13226.trans (Wr.neR wH13240 (Or.inr (x_apart hKT hts inX10 tyX10 tyX10_ok nmX10 rfl 33 36 (by decide) (by decide) (by decide)))).symm
        have m13249 := m13227.trans (Wr.neR wH13240 (Or.inr (x_apart hKT hts inX10 tyX10 tyX10_ok nmX10 rfl 29 36 (by decide) (by decide) (by decide)))).symm
        have m13250 := m13228.trans (Wr.neR wH13240 (Or.inr (x_apart hKT hts inX10 tyX10 tyX10_ok nmX10 rfl 30 36 (by decide) (by decide) (by decide)))).symm
        have m13251 := m13229.trans (Wr.neR wH13240 (Or.inr (x_apart hKT hts inX10 tyX10 tyX10_ok nmX10 rfl 31 36 (by decide) (by decide) (by decide)))).symm
        have m13252 := m13230.trans (Wr.neR wH13240 (Or.inr (x_apart hKT hts inX10 tyX10 tyX10_ok nmX10 rfl 24 36 (by decide) (by decide) (by decide)))).symm
        have m13253 := m13231.trans (Wr.neR wH13240 (Or.inr (x_apart hKT hts inX10 tyX10 tyX10_ok nmX10 rfl 17 36 (by decide) (by decide) (by decide)))).symm
        have m13254 := m13233.trans (Wr.neI wH13240 (Or.inr (x_apart hKT hts inX10 tyX10 tyX10_ok nmX10 rfl 18 36 (by decide) (by decide) (by decide)))).symm
        have m13255 := (Wr.neI wH13240 (Or.inr (x_apart hKT hts inX10 tyX10 tyX10_ok nmX10 rfl 0 36 (by decide) (by decide) (by decide)))).trans m13234
        have m13256 := (Wr.neI wH13240 (Or.inr (x_apart hKT hts inX10 tyX10 tyX10_ok nmX10 rfl 41 36 (by decide) (by decide) (by decide)))).trans m13235
        have m13257 := (Wr.neI wH13240 (Or.inr (x_apart hKT hts inX10 tyX10 tyX10_ok nmX10 rfl 42 36 (by decide) (by decide) (by decide)))).trans m13236
        have m13258 := (Wr.neI wH13240 (Or.inr (x_apart hKT hts inX10 tyX10 tyX10_ok nmX10 rfl 34 36 (by decide) (by decide) (by decide)))).trans m13237
        have m13259 := (Wr.neI wH13240 (Or.inr (x_apart hKT hts inX10 tyX10 tyX10_ok nmX10 rfl 19 36 (by decide) (by decide) (by decide)))).trans m13238
        have m13260 := (Wr.neI wH13240 (Or.inr (x_apart hKT hts inX10 tyX10 tyX10_ok nmX10 rfl 35 36 (by decide) (by decide) (by decide)))).trans m13239
        have m13261 := Wr.I wH13240
        clear f13224 g13220 g13221 g13222 g13223 hTH13218 m13225 m13226 m13227 m13228 m13229 m13230 m13231 m13233 m13234 m13235 m13236 m13237 m13238 m13239 mf13219
        refine lv_aload_n hx hb dX10_text_79 rfl (lv_at hl13174 1 rfl) ?_
        obtain ⟨x13262, ex13262⟩ : ∃ z : Int32, z = fI H13240 a0 (K.1.2 10 20) := ⟨_, rfl⟩
        have bx13262 := ty_fi (x := x13262) (k := 20) ex13262 hTH13240 ga0 rg_112 rfl
        obtain ⟨x13263, ex13263⟩ : ∃ z : Int32, z = fI H13240 a0 (K.1.2 10 21) := ⟨_, rfl⟩
        have bx13263 := ty_fi (x := x13263) (k := 21) ex13263 hTH13240 ga0 rg_112 rfl
        obtain ⟨x13264, ex13264⟩ : ∃ z : Int32, z = fI H13240 a0 (K.1.2 10 22) := ⟨_, rfl⟩
        have bx13264 := ty_fi (x := x13264) (k := 22) ex13264 hTH13240 ga0 rg_112 rfl
        refine x_V (As := []) (rest := []) C (a_X10_reads_e l K G H13240 (0) (x13262) (x13263) (x13264) (tp) bt hTH13240 ga0 gtq m13253 (m13259).symm ex13262 ex13263 ex13264 m13254 g13242 g13243 g13244 g13245 (by omega) (hy1) f13246) yo_X10_reads wM_X10_242 ⟨⟨by decide, by decide⟩, by decide, by decide⟩ (x_rv C hTH13240 (ci := 10) rfl ga0 rg_112) rfl hl13174.1 rfl (Nat.le_of_ble_eq_true rfl) dX10_text_80 hSH13240 (AE_sub (fun _ _ => rfl) (by decide) hSH13240.1) (fun vH13265 H13265 locsH13265 pH13265 zH13265 kH13265 hSH13265 => ?_)
        obtain ⟨x13266, x13267, x13268, x13269, hvH13265, ex13266, ex13267, ex13268, ex13269, hrH13265, m13270, g13271, g13272, g13273, g13274, mf13275, m13276, m13277, m13278, hTH13265⟩ := pH13265
        subst hvH13265
        clear zH13265
        replace m13270 := EQN.mk m13270
        have f13279 : ∀ j : Nat, bt j = (fI H13265 tq j).toInt := fun j => (f13246 j).trans (congrArg Int32.toInt (fI_kept (x_lt hTH13240 kH13265 gtq (by decide))).symm)
        have m13280 := (m13247).trans (MF.r mf13275 (k := 32) (by decide) (by decide)).symm
        have m13281 := (m13248).trans (MF.r mf13275 (k := 33) (by decide) (by decide)).symm
        have m13282 := (m13249).trans (MF.r mf13275 (k := 29) (by decide) (by decide)).symm
        have m13283 := (m13250).trans (MF.r mf13275 (k := 30) (by decide) (by decide)).symm
        have m13284 := (m13251).trans (MF.r mf13275 (k := 31) (by decide) (by decide)).symm
        have m13285 := (m13252).trans (MF.r mf13275 (k := 24) (by decide) (by decide)).symm
        have m13286 := (m13253).trans (MF.r mf13275 (k := 17) (by decide) (by decide)).symm
        have m13287 := (m13254).trans (MF.i mf13275 (k := 18) (by decide) (by decide)).symm
        have m13288 := (MF.i mf13275 (k := 0) (by decide) (by decide)).trans m13255
        have m13289 := (MF.i mf13275 (k := 41) (by decide) (by decide)).trans m13256
        have m13290 := (MF.i mf13275 (k := 42) (by decide) (by decide)).trans m13257
        have m13291 := (MF.i mf13275 (k := 34) (by decide) (by decide)).trans m13258
        have m13292 := (MF.i mf13275 (k := 35) (by decide) (by decide)).trans m13260
        have m13293 := (MF.i mf13275 (k := 36) (by decide) (by decide)).trans m13261
        have mf13294 : MF K s.heap H13265 a0 [0, 18, 19, 20, 21, 22, 34, 35, 36, 38, 39, 40, 41, 42] := MF.trans mf13241 mf13275 (by decide)
        have bx13266 := ty_fi (x := x13266) (k := 19) ex13266 hTH13265 ga0 rg_112 rfl
        have bx13267 := ty_fi (x := x13267) (k := 20) ex13267 hTH13265 ga0 rg_112 rfl
        have bx13268 := ty_fi (x := x13268) (k := 21) ex13268 hTH13265 ga0 rg_112 rfl
        have bx13269 := ty_fi (x := x13269) (k := 22) ex13269 hTH13265 ga0 rg_112 rfl
        have cu13295 : CU bt tp.toNatClampNeg 0 x13267 x13266 x13268 x13269 := ⟨m13276, m13277, m13278, Nat.zero_le _⟩
        obtain ⟨r1H13265, r2H13265, r3H13265, r4H13265, r5H13265⟩ := hrH13265
        refine W.eq (g2 := F0 m 83 ls13173 []) rfl ?_
        refine lv_iload_n hx hb dX10_text_83 rfl (lv_at hl13174 0 rfl) ?_
        refine lv_if_eq (tgt := 94) hx hb dX10_text_84 (by decide) (fun c13296 => ?_) (fun c13296 => ?_)
        · have k13297 := i_eq c13296
          refine lv_iconst (v := (-1)) hx hb dX10_text_94 (by decide) ?_
          refine lv_istore (lv' := [(4, .int (-1)), (3, .int 0), (0, .ref a0), (1, .int x1), (2, .int x2)]) hx hb dX10_text_95 hl13174 (by decide) rfl (fun ls13298 hl13299 => ?_)
          refine lv_aload_n hx hb dX10_text_97 rfl (lv_at hl13299 2 rfl) ?_
          refine lv_iconst (v := 0) hx hb dX10_text_98 (by decide) ?_
          refine x_put C hTH13265 hSH13265 (ci := 10) (k := 18) (v := .int 0) (ty0 := tyX10) rfl inX10 tyX10_ok nmX10 (by decide) rfl wF_X10_185 ga0 rg_112 rfl rfl (okI (by have := i_rng (0 : Int32); omega) (by have := i_rng (0 : Int32); omega)) rfl rfl (AE_in ga0 (by decide)) dX10_text_99 (fun H13300 locsH13300 hTH13300 hSH13300 wH13300 => ?_)
          have mf13301 : MF K s.heap H13300 a0 [0, 18, 19, 20, 21, 22, 34, 35, 36, 38, 39, 40, 41, 42] := MF.fld hap wH13300 (by decide) (by decide) mf13294
          have g13302 : CG (avw K H13300 a0) := CG.congr (fun k hk j => av_fld hTH13265 ga0 hap wH13300 (by decide) (CG_ok 112 (by decide) k hk) (CG_ne 18 (by decide) k hk)) g13271
          have g13303 : TU (avw K H13300 a0) (svw K H13300 a0) := TU.congr (fun k hk j => av_fld hTH13265 ga0 hap wH13300 (by decide) (TU_ok 112 (by decide) k hk) (TU_ne 18 (by decide) k hk)) (fun k hk => sv_fld hap wH13300 (by decide) (TU_slt k hk) (TU_sne 18 (by decide) k hk)) g13272
          have g13304 : WD (avw K H13300 a0) := WD.congr (fun k hk j => av_fld hTH13265 ga0 hap wH13300 (by decide) (WD_ok 112 (by decide) k hk) (WD_ne 18 (by decide) k hk)) g13273
          have g13305 : IM (avw K H13300 a0) := IM.congr (fun k hk j => av_fld hTH13265 ga0 hap wH13300 (by decide) (IM_ok 112 (by decide) k hk) (IM_ne 18 (by decide) k hk)) g13274
          have f13306 : ∀ j : Nat, bt j = (fI H13300 tq j).toInt := fun j => (f13279 j).trans (congrArg Int32.toInt (Wr.neI wH13300 (Or.inl (G_ne gtq ga0 (by decide)))).symm)
          have m13307 := m13280.trans (Wr.neR wH13300 (Or.inr (x_apart hKT hts inX10 tyX10 tyX10_ok nmX10 rfl 32 18 (by decide) (by decide) (by decide)))).symm
          have m13308 := m13281.trans (Wr.neR wH13300 (Or.inr (x_apart hKT hts inX10 tyX10 tyX10_ok nmX10 rfl 33 18 (by decide) (by decide) (by decide)))).symm
          have m13309 := m13282.trans (Wr.neR wH13300 (Or.inr (x_apart hKT hts inX10 tyX10 tyX10_ok nmX10 rfl 29 18 (by decide) (by decide) (by decide)))).symm
          have m13310 := m13283.trans (Wr.neR wH13300 (Or.inr (x_apart hKT hts inX10 tyX10 tyX10_ok nmX10 rfl 30 18 (by decide) (by decide) (by decide)))).symm
          have m13311 := m13284.trans (Wr.neR wH13300 (Or.inr (x_apart hKT hts inX10 tyX10 tyX10_ok nmX10 rfl 31 18 (by decide) (by decide) (by decide)))).symm
          have m13312 := m13285.trans (Wr.neR wH13300 (Or.inr (x_apart hKT hts inX10 tyX10 tyX10_ok nmX10 rfl 24 18 (by decide) (by decide) (by decide)))).symm
          have m13313 := m13270.trans (Wr.neR wH13300 (Or.inr (x_apart hKT hts inX10 tyX10 tyX10_ok nmX10 rfl 17 18 (by decide) (by decide) (by decide)))).symm
          have m13315 := (Wr.neI wH13300 (Or.inr (x_apart hKT hts inX10 tyX10 tyX10_ok nmX10 rfl 0 18 (by decide) (by decide) (by decide)))).trans m13288
          have m13316 := (Wr.neI wH13300 (Or.inr (x_apart hKT hts inX10 tyX10 tyX10_ok nmX10 rfl 41 18 (by decide) (by decide) (by decide)))).trans m13289
          have m13317 := (Wr.neI wH13300 (Or.inr (x_apart hKT hts inX10 tyX10 tyX10_ok nmX10 rfl 42 18 (by decide) (by decide) (by decide)))).trans m13290
          have m13318 := (Wr.neI wH13300 (Or.inr (x_apart hKT hts inX10 tyX10 tyX10_ok nmX10 rfl 34 18 (by decide) (by decide) (by decide)))).trans m13291
          have m13319 := (Wr.neI wH13300 (Or.inr (x_apart hKT hts inX10 tyX10 tyX10_ok nmX10 rfl 35 18 (by decide) (by decide) (by decide)))).trans m13292
          have m13320 := (Wr.neI wH13300 (Or.inr (x_apart hKT hts inX10 tyX10 tyX10_ok nmX10 rfl 36 18 (by decide) (by decide) (by decide)))).trans m13293
          have m13321 := ex13266.trans (Wr.neI wH13300 (Or.inr (x_apart hKT hts inX10 tyX10 tyX10_ok nmX10 rfl 19 18 (by decide) (by decide) (by decide)))).symm
          have m13322 := ex13267.trans (Wr.neI wH13300 (Or.inr (x_apart hKT hts inX10 tyX10 tyX10_ok nmX10 rfl 20 18 (by decide) (by decide) (by decide)))).symm
          have m13323 := ex13268.trans (Wr.neI wH13300 (Or.inr (x_apart hKT hts inX10 tyX10 tyX10_ok nmX10 rfl 21 18 (by decide) (by decide) (by decide)))).symm
          have m13324 := ex13269.trans (Wr.neI wH13300 (Or.inr (x_apart hKT hts inX10 tyX10 tyX10_ok nmX10 rfl 22 18 (by decide) (by decide) (by decide)))).symm
          have m13325 := Wr.I wH13300
          clear ex13266 ex13267 ex13268 ex13269 f13279 g13271 g13272 g13273 g13274 hTH13265 m13270 m13280 m13281 m13282 m13283 m13284 m13285 m13287 m13288 m13289 m13290 m13291 m13292 m13293 mf13294
          refine lv_iload_n hx hb dX10_text_102 rfl (lv_at hl13299 1 rfl) ?_
          refine lv_if_eq (tgt := 128) hx hb dX10_text_103 (by decide) (fun c13326 => ?_) (fun c13326 => ?_)
          · have k13327 := i_eq c13326
            refine lv_iload hx hb dX10_text_128 (lv_at hl13299 0 rfl) ?_
            refine lv_iconst (v := (-1)) hx hb dX10_text_130 (by decide) ?_
            refine lv_icmp_ne (tgt := 136) hx hb dX10_text_131 (by decide) (fun c13328 => ?_) (fun c13328 => ?_)
            · have k13329 := i_ne c13328
              exfalso
              omega
            · have k13329 := i_eq c13328
              refine lv_iconst (v := (-1)) hx hb dX10_text_134 (by decide) ?_
              exact x_iret C hQ dX10_text_135 hSH13300 (by decide) (by decide) (⟨(-1), 0, 0, rfl, (m13319).symm, (m13325).symm, by omega, m13307, m13308, m13309, m13310, m13311, m13312, m13313, g13302, g13303, g13304, g13305, mf13301, Or.inr ⟨by omega, by omega, by omega⟩, hTH13300⟩)
          · have k13327 := i_ne c13326
            exfalso
            omega
        · have k13297 := i_ne c13296
          exfalso
          omega
      · have k13176 := i_eq c13175
        refine lv_iconst (v := 1) hx hb dX10_text_56 (by decide) ?_
        refine lv_goto (tgt := 61) hx hb dX10_text_57 (by decide) ?_
        refine x_put C hTH13150 hSH13150 (ci := 10) (k := 34) (v := .int 1) (ty0 := tyX10) rfl inX10 tyX10_ok nmX10 (by decide) rfl wF_X10_231 ga0 rg_112 rfl rfl (okI (by have := i_rng (1 : Int32); omega) (by have := i_rng (1 : Int32); omega)) rfl rfl (AE_in ga0 (by decide)) dX10_text_61 (fun H13330 locsH13330 hTH13330 hSH13330 wH13330 => ?_)
        have mf13331 : MF K s.heap H13330 a0 [0, 18, 19, 20, 21, 22, 34, 35, 36, 38, 39, 40, 41, 42] := MF.fld hap wH13330 (by decide) (by decide) mf13151
        have g13332 : CG (avw K H13330 a0) := CG.congr (fun k hk j => av_fld hTH13150 ga0 hap wH13330 (by decide) (CG_ok 112 (by decide) k hk) (CG_ne 34 (by decide) k hk)) g13152
        have g13333 : TU (avw K H13330 a0) (svw K H13330 a0) := TU.congr (fun k hk j => av_fld hTH13150 ga0 hap wH13330 (by decide) (TU_ok 112 (by decide) k hk) (TU_ne 34 (by decide) k hk)) (fun k hk => sv_fld hap wH13330 (by decide) (TU_slt k hk) (TU_sne 34 (by decide) k hk)) g13153
        have g13334 : WD (avw K H13330 a0) := WD.congr (fun k hk j => av_fld hTH13150 ga0 hap wH13330 (by decide) (WD_ok 112 (by decide) k hk) (WD_ne 34 (by decide) k hk)) g13154
        have g13335 : IM (avw K H13330 a0) := IM.congr (fun k hk j => av_fld hTH13150 ga0 hap wH13330 (by decide) (IM_ok 112 (by decide) k hk) (IM_ne 34 (by decide) k hk)) g13155
        have f13336 : ∀ j : Nat, bt j = (fI H13330 tq j).toInt := fun j => (f13156 j).trans (congrArg Int32.toInt (Wr.neI wH13330 (Or.inl (G_ne gtq ga0 (by decide)))).symm)
        have m13337 := m13157.trans (Wr.neR wH13330 (Or.inr (x_apart hKT hts inX10 tyX10 tyX10_ok nmX10 rfl 32 34 (by decide) (by decide) (by decide)))).symm
        have m13338 := m13158.trans (Wr.neR wH13330 (Or.inr (x_apart hKT hts inX10 tyX10 tyX10_ok nmX10 rfl 33 34 (by decide) (by decide) (by decide)))).symm
        have m13339 := m13159.trans (Wr.neR wH13330 (Or.inr (x_apart hKT hts inX10 tyX10 tyX10_ok nmX10 rfl 29 34 (by decide) (by decide) (by decide)))).symm
        have m13340 := m13160.trans (Wr.neR wH13330 (Or.inr (x_apart hKT hts inX10 tyX10 tyX10_ok nmX10 rfl 30 34 (by decide) (by decide) (by decide)))).symm
        have m13341 := m13161.trans (Wr.neR wH13330 (Or.inr (x_apart hKT hts inX10 tyX10 tyX10_ok nmX10 rfl 31 34 (by decide) (by decide) (by decide)))).symm
        have m13342 := m13162.trans (Wr.neR wH13330 (Or.inr (x_apart hKT hts inX10 tyX10 tyX10_ok nmX10 rfl 24 34 (by decide) (by decide) (by decide)))).symm
        have m13343 := m13163.trans (Wr.neR wH13330 (Or.inr (x_apart hKT hts inX10 tyX10 tyX10_ok nmX10 rfl 17 34 (by decide) (by decide) (by decide)))).symm
        have m13344 := m13164.trans (Wr.neI wH13330 (Or.inr (x_apart hKT hts inX10 tyX10 tyX10_ok nmX10 rfl 35 34 (by decide) (by decide) (by decide)))).symm
        have m13345 := m13165.trans (Wr.neI wH13330 (Or.inr (x_apart hKT hts inX10 tyX10 tyX10_ok nmX10 rfl 18 34 (by decide) (by decide) (by decide)))).symm
        have m13346 := (Wr.neI wH13330 (Or.inr (x_apart hKT hts inX10 tyX10 tyX10_ok nmX10 rfl 0 34 (by decide) (by decide) (by decide)))).trans m13166
        have m13347 := (Wr.neI wH13330 (Or.inr (x_apart hKT hts inX10 tyX10 tyX10_ok nmX10 rfl 41 34 (by decide) (by decide) (by decide)))).trans m13167
        have m13348 := (Wr.neI wH13330 (Or.inr (x_apart hKT hts inX10 tyX10 tyX10_ok nmX10 rfl 42 34 (by decide) (by decide) (by decide)))).trans m13168
        have m13349 := Wr.I wH13330
        clear f13156 g13152 g13153 g13154 g13155 hTH13150 m13157 m13158 m13159 m13160 m13161 m13162 m13163 m13164 m13165 m13166 m13167 m13168 mf13151
        refine lv_aload_n hx hb dX10_text_64 rfl (lv_at hl13174 1 rfl) ?_
        refine lv_iconst (v := 0) hx hb dX10_text_65 (by decide) ?_
        refine x_put C hTH13330 hSH13330 (ci := 10) (k := 19) (v := .int 0) (ty0 := tyX10) rfl inX10 tyX10_ok nmX10 (by decide) rfl wF_X10_192 ga0 rg_112 rfl rfl (okI (by have := i_rng (0 : Int32); omega) (by have := i_rng (0 : Int32); omega)) rfl rfl (AE_in ga0 (by decide)) dX10_text_66 (fun H13350 locsH13350 hTH13350 hSH13350 wH13350 => ?_)
        have mf13351 : MF K s.heap H13350 a0 [0, 18, 19, 20, 21, 22, 34, 35, 36, 38, 39, 40, 41, 42] := MF.fld hap wH13350 (by decide) (by decide) mf13331
        have g13352 : CG (avw K H13350 a0) := CG.congr (fun k hk j => av_fld hTH13330 ga0 hap wH13350 (by decide) (CG_ok 112 (by decide) k hk) (CG_ne 19 (by decide) k hk)) g13332
        have g13353 : TU (avw K H13350 a0) (svw K H13350 a0) := TU.congr (fun k hk j => av_fld hTH13330 ga0 hap wH13350 (by decide) (TU_ok 112 (by decide) k hk) (TU_ne 19 (by decide) k hk)) (fun k hk => sv_fld hap wH13350 (by decide) (TU_slt k hk) (TU_sne 19 (by decide) k hk)) g13333
        have g13354 : WD (avw K H13350 a0) := WD.congr (fun k hk j => av_fld hTH13330 ga0 hap wH13350 (by decide) (WD_ok 112 (by decide) k hk) (WD_ne 19 (by decide) k hk)) g13334
        have g13355 : IM (avw K H13350 a0) := IM.congr (fun k hk j => av_fld hTH13330 ga0 hap wH13350 (by decide) (IM_ok 112 (by decide) k hk) (IM_ne 19 (by decide) k hk)) g13335
        have f13356 : ∀ j : Nat, bt j = (fI H13350 tq j).toInt := fun j => (f13336 j).trans (congrArg Int32.toInt (Wr.neI wH13350 (Or.inl (G_ne gtq ga0 (by decide)))).symm)
        have m13357 := m13337.trans (Wr.neR wH13350 (Or.inr (x_apart hKT hts inX10 tyX10 tyX10_ok nmX10 rfl 32 19 (by decide) (by decide) (by decide)))).symm
        have m13358 := m13338.trans (Wr.neR wH13350 (Or.inr (x_apart hKT hts inX10 tyX10 tyX10_ok nmX10 rfl 33 19 (by decide) (by decide) (by decide)))).symm
        have m13359 := m13339.trans (Wr.neR wH13350 (Or.inr (x_apart hKT hts inX10 tyX10 tyX10_ok nmX10 rfl 29 19 (by decide) (by decide) (by decide)))).symm
        have m13360 := m13340.trans (Wr.neR wH13350 (Or.inr (x_apart hKT hts inX10 tyX10 tyX10_ok nmX10 rfl 30 19 (by decide) (by decide) (by decide)))).symm
        have m13361 := m13341.trans (Wr.neR wH13350 (Or.inr (x_apart hKT hts inX10 tyX10 tyX10_ok nmX10 rfl 31 19 (by decide) (by decide) (by decide)))).symm
        have m13362 := m13342.trans (Wr.neR wH13350 (Or.inr (x_apart hKT hts inX10 tyX10 tyX10_ok nmX10 rfl 24 19 (by decide) (by decide) (by decide)))).symm
        have m13363 := m13343.trans (Wr.neR wH13350 (Or.inr (x_apart hKT hts inX10 tyX10 tyX10_ok nmX10 rfl 17 19 (by decide) (by decide) (by decide)))).symm
        have m13364 := m13344.trans (Wr.neI wH13350 (Or.inr (x_apart hKT hts inX10 tyX10 tyX10_ok nmX10 rfl 35 19 (by decide) (by decide) (by decide)))).symm
        have m13365 := m13345.trans (Wr.neI wH13350 (Or.inr (x_apart hKT hts inX10 tyX10 tyX10_ok nmX10 rfl 18 19 (by decide) (by decide) (by decide)))).symm
        have m13366 := (Wr.neI wH13350 (Or.inr (x_apart hKT hts inX10 tyX10 tyX10_ok nmX10 rfl 0 19 (by decide) (by decide) (by decide)))).trans m13346
        have m13367 := (Wr.neI wH13350 (Or.inr (x_apart hKT hts inX10 tyX10 tyX10_ok nmX10 rfl 41 19 (by decide) (by decide) (by decide)))).trans m13347
        have m13368 := (Wr.neI wH13350 (Or.inr (x_apart hKT hts inX10 tyX10 tyX10_ok nmX10 rfl 42 19 (by decide) (by decide) (by decide)))).trans m13348
        have m13369 := (Wr.neI wH13350 (Or.inr (x_apart hKT hts inX10 tyX10 tyX10_ok nmX10 rfl 34 19 (by decide) (by decide) (by decide)))).trans m13349
        have m13370 := Wr.I wH13350
        clear f13336 g13332 g13333 g13334 g13335 hTH13330 m13337 m13338 m13339 m13340 m13341 m13342 m13343 m13344 m13345 m13346 m13347 m13348 m13349 mf13331
        refine lv_aload_n hx hb dX10_text_69 rfl (lv_at hl13174 1 rfl) ?_
        refine lv_iconst (v := 0) hx hb dX10_text_70 (by decide) ?_
        refine x_put C hTH13350 hSH13350 (ci := 10) (k := 35) (v := .int 0) (ty0 := tyX10) rfl inX10 tyX10_ok nmX10 (by decide) rfl wF_X10_228 ga0 rg_112 rfl rfl (okI (by have := i_rng (0 : Int32); omega) (by have := i_rng (0 : Int32); omega)) rfl rfl (AE_in ga0 (by decide)) dX10_text_71 (fun H13371 locsH13371 hTH13371 hSH13371 wH13371 => ?_)
        have mf13372 : MF K s.heap H13371 a0 [0, 18, 19, 20, 21, 22, 34, 35, 36, 38, 39, 40, 41, 42] := MF.fld hap wH13371 (by decide) (by decide) mf13351
        have g13373 : CG (avw K H13371 a0) := CG.congr (fun k hk j => av_fld hTH13350 ga0 hap wH13371 (by decide) (CG_ok 112 (by decide) k hk) (CG_ne 35 (by decide) k hk)) g13352
        have g13374 : TU (avw K H13371 a0) (svw K H13371 a0) := TU.congr (fun k hk j => av_fld hTH13350 ga0 hap wH13371 (by decide) (TU_ok 112 (by decide) k hk) (TU_ne 35 (by decide) k hk)) (fun k hk => sv_fld hap wH13371 (by decide) (TU_slt k hk) (TU_sne 35 (by decide) k hk)) g13353
        have g13375 : WD (avw K H13371 a0) := WD.congr (fun k hk j => av_fld hTH13350 ga0 hap wH13371 (by decide) (WD_ok 112 (by decide) k hk) (WD_ne 35 (by decide) k hk)) g13354
        have g13376 : IM (avw K H13371 a0) := IM.congr (fun k hk j => av_fld hTH13350 ga0 hap wH13371 (by decide) (IM_ok 112 (by decide) k hk) (IM_ne 35 (by decide) k hk)) g13355
        have f13377 : ∀ j : Nat, bt j = (fI H13371 tq j).toInt := fun j => (f13356 j).trans (congrArg Int32.toInt (Wr.neI wH13371 (Or.inl (G_ne gtq ga0 (by decide)))).symm)
        have m13378 := m13357.trans (Wr.neR wH13371 (Or.inr (x_apart hKT hts inX10 tyX10 tyX10_ok nmX10 rfl 32 35 (by decide) (by decide) (by decide)))).symm
        have m13379 := m13358.trans (Wr.neR wH13371 (Or.inr (x_apart hKT hts inX10 tyX10 tyX10_ok nmX10 rfl 33 35 (by decide) (by decide) (by decide)))).symm
        have m13380 := m13359.trans (Wr.neR wH13371 (Or.inr (x_apart hKT hts inX10 tyX10 tyX10_ok nmX10 rfl 29 35 (by decide) (by decide) (by decide)))).symm
        have m13381 := m13360.trans (Wr.neR wH13371 (Or.inr (x_apart hKT hts inX10 tyX10 tyX10_ok nmX10 rfl 30 35 (by decide) (by decide) (by decide)))).symm
        have m13382 := m13361.trans (Wr.neR wH13371 (Or.inr (x_apart hKT hts inX10 tyX10 tyX10_ok nmX10 rfl 31 35 (by decide) (by decide) (by decide)))).symm
        have m13383 := m13362.trans (Wr.neR wH13371 (Or.inr (x_apart hKT hts inX10 tyX10 tyX10_ok nmX10 rfl 24 35 (by decide) (by decide) (by decide)))).symm
        have m13384 := m13363.trans (Wr.neR wH13371 (Or.inr (x_apart hKT hts inX10 tyX10 tyX10_ok nmX10 rfl 17 35 (by decide) (by decide) (by decide)))).symm
        have m13386 := m13365.trans (Wr.neI wH13371 (Or.inr (x_apart hKT hts inX10 tyX10 tyX10_ok nmX10 rfl 18 35 (by decide) (by decide) (by decide)))).symm
        have m13387 := (Wr.neI wH13371 (Or.inr (x_apart hKT hts inX10 tyX10 tyX10_ok nmX10 rfl 0 35 (by decide) (by decide) (by decide)))).trans m13366
        have m13388 := (Wr.neI wH13371 (Or.inr (x_apart hKT hts inX10 tyX10 tyX10_ok nmX10 rfl 41 35 (by decide) (by decide) (by decide)))).trans m13367
        have m13389 := (Wr.neI wH13371 (Or.inr (x_apart hKT hts inX10 tyX10 tyX10_ok nmX10 rfl 42 35 (by decide) (by decide) (by decide)))).trans m13368
        have m13390 := (Wr.neI wH13371 (Or.inr (x_apart hKT hts inX10 tyX10 tyX10_ok nmX10 rfl 34 35 (by decide) (by decide) (by decide)))).trans m13369
        have m13391 := (Wr.neI wH13371 (Or.inr (x_apart hKT hts inX10 tyX10 tyX10_ok nmX10 rfl 19 35 (by decide) (by decide) (by decide)))).trans m13370
        have m13392 := Wr.I wH13371
        clear f13356 g13352 g13353 g13354 g13355 hTH13350 m13357 m13358 m13359 m13360 m13361 m13362 m13363 m13364 m13365 m13366 m13367 m13368 m13369 m13370 mf13351
        refine lv_aload_n hx hb dX10_text_74 rfl (lv_at hl13174 1 rfl) ?_
        refine lv_iconst (v := 0) hx hb dX10_text_75 (by decide) ?_
        refine x_put C hTH13371 hSH13371 (ci := 10) (k := 36) (v := .int 0) (ty0 := tyX10) rfl inX10 tyX10_ok nmX10 (by decide) rfl wF_X10_261 ga0 rg_112 rfl rfl (okI (by have := i_rng (0 : Int32); omega) (by have := i_rng (0 : Int32); omega)) rfl rfl (AE_in ga0 (by decide)) dX10_text_76 (fun H13393 locsH13393 hTH13393 hSH13393 wH13393 => ?_)
        have mf13394 : MF K s.heap H13393 a0 [0, 18, 19, 20, 21, 22, 34, 35, 36, 38, 39, 40, 41, 42] := MF.fld hap wH13393 (by decide) (by decide) mf13372
        have g13395 : CG (avw K H13393 a0) := CG.congr (fun k hk j => av_fld hTH13371 ga0 hap wH13393 (by decide) (CG_ok 112 (by decide) k hk) (CG_ne 36 (by decide) k hk)) g13373
        have g13396 : TU (avw K H13393 a0) (svw K H13393 a0) := TU.congr (fun k hk j => av_fld hTH13371 ga0 hap wH13393 (by decide) (TU_ok 112 (by decide) k hk) (TU_ne 36 (by decide) k hk)) (fun k hk => sv_fld hap wH13393 (by decide) (TU_slt k hk) (TU_sne 36 (by decide) k hk)) g13374
        have g13397 : WD (avw K H13393 a0) := WD.congr (fun k hk j => av_fld hTH13371 ga0 hap wH13393 (by decide) (WD_ok 112 (by decide) k hk) (WD_ne 36 (by decide) k hk)) g13375
        have g13398 : IM (avw K H13393 a0) := IM.congr (fun k hk j => av_fld hTH13371 ga0 hap wH13393 (by decide) (IM_ok 112 (by decide) k hk) (IM_ne 36 (by decide) k hk)) g13376
        have f13399 : ∀ j : Nat, bt j = (fI H13393 tq j).toInt := fun j => (f13377 j).trans (congrArg Int32.toInt (Wr.neI wH13393 (Or.inl (G_ne gtq ga0 (by decide)))).symm)
        have m13400 := m13378.trans (Wr.neR wH13393 (Or.inr (x_apart hKT hts inX10 tyX10 tyX10_ok nmX10 rfl 32 36 (by decide) (by decide) (by decide)))).symm
        have m13401 := m13379.trans (Wr.neR wH13393 (Or.inr (x_apart hKT hts inX10 tyX10 tyX10_ok nmX10 rfl 33 36 (by decide) (by decide) (by decide)))).symm
        have m13402 := m13380.trans (Wr.neR wH13393 (Or.inr (x_apart hKT hts inX10 tyX10 tyX10_ok nmX10 rfl 29 36 (by decide) (by decide) (by decide)))).symm
        have m13403 := m13381.trans (Wr.neR wH13393 (Or.inr (x_apart hKT hts inX10 tyX10 tyX10_ok nmX10 rfl 30 36 (by decide) (by decide) (by decide)))).symm
        have m13404 := m13382.trans (Wr.neR wH13393 (Or.inr (x_apart hKT hts inX10 tyX10 tyX10_ok nmX10 rfl 31 36 (by decide) (by decide) (by decide)))).symm
        have m13405 := m13383.trans (Wr.neR wH13393 (Or.inr (x_apart hKT hts inX10 tyX10 tyX10_ok nmX10 rfl 24 36 (by decide) (by decide) (by decide)))).symm
        have m13406 := m13384.trans (Wr.neR wH13393 (Or.inr (x_apart hKT hts inX10 tyX10 tyX10_ok nmX10 rfl 17 36 (by decide) (by decide) (by decide)))).symm
        have m13407 := m13386.trans (Wr.neI wH13393 (Or.inr (x_apart hKT hts inX10 tyX10 tyX10_ok nmX10 rfl 18 36 (by decide) (by decide) (by decide)))).symm
        have m13408 := (Wr.neI wH13393 (Or.inr (x_apart hKT hts inX10 tyX10 tyX10_ok nmX10 rfl 0 36 (by decide) (by decide) (by decide)))).trans m13387
        have m13409 := (Wr.neI wH13393 (Or.inr (x_apart hKT hts inX10 tyX10 tyX10_ok nmX10 rfl 41 36 (by decide) (by decide) (by decide)))).trans m13388
        have m13410 := (Wr.neI wH13393 (Or.inr (x_apart hKT hts inX10 tyX10 tyX10_ok nmX10 rfl 42 36 (by decide) (by decide) (by decide)))).trans m13389
        have m13411 := (Wr.neI wH13393 (Or.inr (x_apart hKT hts inX10 tyX10 tyX10_ok nmX10 rfl 34 36 (by decide) (by decide) (by decide)))).trans m13390
        have m13412 := (Wr.neI wH13393 (Or.inr (x_apart hKT hts inX10 tyX10 tyX10_ok nmX10 rfl 19 36 (by decide) (by decide) (by decide)))).trans m13391
        have m13413 := (Wr.neI wH13393 (Or.inr (x_apart hKT hts inX10 tyX10 tyX10_ok nmX10 rfl 35 36 (by decide) (by decide) (by decide)))).trans m13392
        have m13414 := Wr.I wH13393
        clear f13377 g13373 g13374 g13375 g13376 hTH13371 m13378 m13379 m13380 m13381 m13382 m13383 m13384 m13386 m13387 m13388 m13389 m13390 m13391 m13392 mf13372
        refine lv_aload_n hx hb dX10_text_79 rfl (lv_at hl13174 1 rfl) ?_
        obtain ⟨x13415, ex13415⟩ : ∃ z : Int32, z = fI H13393 a0 (K.1.2 10 20) := ⟨_, rfl⟩
        have bx13415 := ty_fi (x := x13415) (k := 20) ex13415 hTH13393 ga0 rg_112 rfl
        obtain ⟨x13416, ex13416⟩ : ∃ z : Int32, z = fI H13393 a0 (K.1.2 10 21) := ⟨_, rfl⟩
        have bx13416 := ty_fi (x := x13416) (k := 21) ex13416 hTH13393 ga0 rg_112 rfl
        obtain ⟨x13417, ex13417⟩ : ∃ z : Int32, z = fI H13393 a0 (K.1.2 10 22) := ⟨_, rfl⟩
        have bx13417 := ty_fi (x := x13417) (k := 22) ex13417 hTH13393 ga0 rg_112 rfl
        refine x_V (As := []) (rest := []) C (a_X10_reads_e l K G H13393 (0) (x13415) (x13416) (x13417) (tp) bt hTH13393 ga0 gtq m13406 (m13412).symm ex13415 ex13416 ex13417 m13407 g13395 g13396 g13397 g13398 (by omega) (hy1) f13399) yo_X10_reads wM_X10_242 ⟨⟨by decide, by decide⟩, by decide, by decide⟩ (x_rv C hTH13393 (ci := 10) rfl ga0 rg_112) rfl hl13174.1 rfl (Nat.le_of_ble_eq_true rfl) dX10_text_80 hSH13393 (AE_sub (fun _ _ => rfl) (by decide) hSH13393.1) (fun vH13418 H13418 locsH13418 pH13418 zH13418 kH13418 hSH13418 => ?_)
        obtain ⟨x13419, x13420, x13421, x13422, hvH13418, ex13419, ex13420, ex13421, ex13422, hrH13418, m13423, g13424, g13425, g13426, g13427, mf13428, m13429, m13430, m13431, hTH13418⟩ := pH13418
        subst hvH13418
        clear zH13418
        replace m13423 := EQN.mk m13423
        have f13432 : ∀ j : Nat, bt j = (fI H13418 tq j).toInt := fun j => (f13399 j).trans (congrArg Int32.toInt (fI_kept (x_lt hTH13393 kH13418 gtq (by decide))).symm)
        have m13433 := (m13400).trans (MF.r mf13428 (k := 32) (by decide) (by decide)).symm
        have m13434 := (m13401).trans (MF.r mf13428 (k := 33) (by decide) (by decide)).symm
        have m13435 := (m13402).trans (MF.r mf13428 (k := 29) (by decide) (by decide)).symm
        have m13436 := (m13403).trans (MF.r mf13428 (k := 30) (by decide) (by decide)).symm
        have m13437 := (m13404).trans (MF.r mf13428 (k := 31) (by decide) (by decide)).symm
        have m13438 := (m13405).trans (MF.r mf13428 (k := 24) (by decide) (by decide)).symm
        have m13439 := (m13406).trans (MF.r mf13428 (k := 17) (by decide) (by decide)).symm
        have m13440 := (m13407).trans (MF.i mf13428 (k := 18) (by decide) (by decide)).symm
        have m13441 := (MF.i mf13428 (k := 0) (by decide) (by decide)).trans m13408
        have m13442 := (MF.i mf13428 (k := 41) (by decide) (by decide)).trans m13409
        have m13443 := (MF.i mf13428 (k := 42) (by decide) (by decide)).trans m13410
        have m13444 := (MF.i mf13428 (k := 34) (by decide) (by decide)).trans m13411
        have m13445 := (MF.i mf13428 (k := 35) (by decide) (by decide)).trans m13413
        have m13446 := (MF.i mf13428 (k := 36) (by decide) (by decide)).trans m13414
        have mf13447 : MF K s.heap H13418 a0 [0, 18, 19, 20, 21, 22, 34, 35, 36, 38, 39, 40, 41, 42] := MF.trans mf13394 mf13428 (by decide)
        have bx13419 := ty_fi (x := x13419) (k := 19) ex13419 hTH13418 ga0 rg_112 rfl
        have bx13420 := ty_fi (x := x13420) (k := 20) ex13420 hTH13418 ga0 rg_112 rfl
        have bx13421 := ty_fi (x := x13421) (k := 21) ex13421 hTH13418 ga0 rg_112 rfl
        have bx13422 := ty_fi (x := x13422) (k := 22) ex13422 hTH13418 ga0 rg_112 rfl
        have cu13448 : CU bt tp.toNatClampNeg 0 x13420 x13419 x13421 x13422 := ⟨m13429, m13430, m13431, Nat.zero_le _⟩
        obtain ⟨r1H13418, r2H13418, r3H13418, r4H13418, r5H13418⟩ := hrH13418
        refine W.eq (g2 := F0 m 83 ls13173 []) rfl ?_
        refine lv_iload_n hx hb dX10_text_83 rfl (lv_at hl13174 0 rfl) ?_
        refine lv_if_eq (tgt := 94) hx hb dX10_text_84 (by decide) (fun c13449 => ?_) (fun c13449 => ?_)
        · have k13450 := i_eq c13449
          refine lv_iconst (v := (-1)) hx hb dX10_text_94 (by decide) ?_
          refine lv_istore (lv' := [(4, .int (-1)), (3, .int 0), (0, .ref a0), (1, .int x1), (2, .int x2)]) hx hb dX10_text_95 hl13174 (by decide) rfl (fun ls13451 hl13452 => ?_)
          refine lv_aload_n hx hb dX10_text_97 rfl (lv_at hl13452 2 rfl) ?_
          refine lv_iconst (v := 0) hx hb dX10_text_98 (by decide) ?_
          refine x_put C hTH13418 hSH13418 (ci := 10) (k := 18) (v := .int 0) (ty0 := tyX10) rfl inX10 tyX10_ok nmX10 (by decide) rfl wF_X10_185 ga0 rg_112 rfl rfl (okI (by have := i_rng (0 : Int32); omega) (by have := i_rng (0 : Int32); omega)) rfl rfl (AE_in ga0 (by decide)) dX10_text_99 (fun H13453 locsH13453 hTH13453 hSH13453 wH13453 => ?_)
          have mf13454 : MF K s.heap H13453 a0 [0, 18, 19, 20, 21, 22, 34, 35, 36, 38, 39, 40, 41, 42] := MF.fld hap wH13453 (by decide) (by decide) mf13447
          have g13455 : CG (avw K H13453 a0) := CG.congr (fun k hk j => av_fld hTH13418 ga0 hap wH13453 (by decide) (CG_ok 112 (by decide) k hk) (CG_ne 18 (by decide) k hk)) g13424
          have g13456 : TU (avw K H13453 a0) (svw K H13453 a0) := TU.congr (fun k hk j => av_fld hTH13418 ga0 hap wH13453 (by decide) (TU_ok 112 (by decide) k hk) (TU_ne 18 (by decide) k hk)) (fun k hk => sv_fld hap wH13453 (by decide) (TU_slt k hk) (TU_sne 18 (by decide) k hk)) g13425
          have g13457 : WD (avw K H13453 a0) := WD.congr (fun k hk j => av_fld hTH13418 ga0 hap wH13453 (by decide) (WD_ok 112 (by decide) k hk) (WD_ne 18 (by decide) k hk)) g13426
          have g13458 : IM (avw K H13453 a0) := IM.congr (fun k hk j => av_fld hTH13418 ga0 hap wH13453 (by decide) (IM_ok 112 (by decide) k hk) (IM_ne 18 (by decide) k hk)) g13427
          have f13459 : ∀ j : Nat, bt j = (fI H13453 tq j).toInt := fun j => (f13432 j).trans (congrArg Int32.toInt (Wr.neI wH13453 (Or.inl (G_ne gtq ga0 (by decide)))).symm)
          have m13460 := m13433.trans (Wr.neR wH13453 (Or.inr (x_apart hKT hts inX10 tyX10 tyX10_ok nmX10 rfl 32 18 (by decide) (by decide) (by decide)))).symm
          have m13461 := m13434.trans (Wr.neR wH13453 (Or.inr (x_apart hKT hts inX10 tyX10 tyX10_ok nmX10 rfl 33 18 (by decide) (by decide) (by decide)))).symm
          have m13462 := m13435.trans (Wr.neR wH13453 (Or.inr (x_apart hKT hts inX10 tyX10 tyX10_ok nmX10 rfl 29 18 (by decide) (by decide) (by decide)))).symm
          have m13463 := m13436.trans (Wr.neR wH13453 (Or.inr (x_apart hKT hts inX10 tyX10 tyX10_ok nmX10 rfl 30 18 (by decide) (by decide) (by decide)))).symm
          have m13464 := m13437.trans (Wr.neR wH13453 (Or.inr (x_apart hKT hts inX10 tyX10 tyX10_ok nmX10 rfl 31 18 (by decide) (by decide) (by decide)))).symm
          have m13465 := m13438.trans (Wr.neR wH13453 (Or.inr (x_apart hKT hts inX10 tyX10 tyX10_ok nmX10 rfl 24 18 (by decide) (by decide) (by decide)))).symm
          have m13466 := m13423.trans (Wr.neR wH13453 (Or.inr (x_apart hKT hts inX10 tyX10 tyX10_ok nmX10 rfl 17 18 (by decide) (by decide) (by decide)))).symm
          have m13468 := (Wr.neI wH13453 (Or.inr (x_apart hKT hts inX10 tyX10 tyX10_ok nmX10 rfl 0 18 (by decide) (by decide) (by decide)))).trans m13441
          have m13469 := (Wr.neI wH13453 (Or.inr (x_apart hKT hts inX10 tyX10 tyX10_ok nmX10 rfl 41 18 (by decide) (by decide) (by decide)))).trans m13442
          have m13470 := (Wr.neI wH13453 (Or.inr (x_apart hKT hts inX10 tyX10 tyX10_ok nmX10 rfl 42 18 (by decide) (by decide) (by decide)))).trans m13443
          have m13471 := (Wr.neI wH13453 (Or.inr (x_apart hKT hts inX10 tyX10 tyX10_ok nmX10 rfl 34 18 (by decide) (by decide) (by decide)))).trans m13444
          have m13472 := (Wr.neI wH13453 (Or.inr (x_apart hKT hts inX10 tyX10 tyX10_ok nmX10 rfl 35 18 (by decide) (by decide) (by decide)))).trans m13445
          have m13473 := (Wr.neI wH13453 (Or.inr (x_apart hKT hts inX10 tyX10 tyX10_ok nmX10 rfl 36 18 (by decide) (by decide) (by decide)))).trans m13446
          have m13474 := ex13419.trans (Wr.neI wH13453 (Or.inr (x_apart hKT hts inX10 tyX10 tyX10_ok nmX10 rfl 19 18 (by decide) (by decide) (by decide)))).symm
          have m13475 := ex13420.trans (Wr.neI wH13453 (Or.inr (x_apart hKT hts inX10 tyX10 tyX10_ok nmX10 rfl 20 18 (by decide) (by decide) (by decide)))).symm
          have m13476 := ex13421.trans (Wr.neI wH13453 (Or.inr (x_apart hKT hts inX10 tyX10 tyX10_ok nmX10 rfl 21 18 (by decide) (by decide) (by decide)))).symm
          have m13477 := ex13422.trans (Wr.neI wH13453 (Or.inr (x_apart hKT hts inX10 tyX10 tyX10_ok nmX10 rfl 22 18 (by decide) (by decide) (by decide)))).symm
          have m13478 := Wr.I wH13453
          clear ex13419 ex13420 ex13421 ex13422 f13432 g13424 g13425 g13426 g13427 hTH13418 m13423 m13433 m13434 m13435 m13436 m13437 m13438 m13440 m13441 m13442 m13443 m13444 m13445 m13446 mf13447
          refine lv_iload_n hx hb dX10_text_102 rfl (lv_at hl13452 1 rfl) ?_
          refine lv_if_eq (tgt := 128) hx hb dX10_text_103 (by decide) (fun c13479 => ?_) (fun c13479 => ?_)
          · have k13480 := i_eq c13479
            refine lv_iload hx hb dX10_text_128 (lv_at hl13452 0 rfl) ?_
            refine lv_iconst (v := (-1)) hx hb dX10_text_130 (by decide) ?_
            refine lv_icmp_ne (tgt := 136) hx hb dX10_text_131 (by decide) (fun c13481 => ?_) (fun c13481 => ?_)
            · have k13482 := i_ne c13481
              exfalso
              omega
            · have k13482 := i_eq c13481
              refine lv_iconst (v := (-1)) hx hb dX10_text_134 (by decide) ?_
              exact x_iret C hQ dX10_text_135 hSH13453 (by decide) (by decide) (⟨(-1), 0, 0, rfl, (m13472).symm, (m13478).symm, by omega, m13460, m13461, m13462, m13463, m13464, m13465, m13466, g13455, g13456, g13457, g13458, mf13454, Or.inr ⟨by omega, by omega, by omega⟩, hTH13453⟩)
          · have k13480 := i_ne c13479
            exfalso
            omega
        · have k13450 := i_ne c13449
          exfalso
          omega
    · have k13172 := i_eq c13171
      refine lv_aload_n hx hb dX10_text_34 rfl (lv_at hl 0 rfl) ?_
      refine lv_iload_n hx hb dX10_text_35 rfl (lv_at hl 2 rfl) ?_
      refine lv_iconst (v := 0) hx hb dX10_text_36 (by decide) ?_
      refine lv_iconst (v := 3) hx hb dX10_text_37 (by decide) ?_
      refine x_V (As := [.int x2, .int 0, .int 3]) (rest := []) C (c_X10_isIn l K G H13150 (x2) (0) (3) hTH13150 ga0) yo_X10_isIn wM_X10_177 ⟨⟨by decide, by decide⟩, by decide, by decide⟩ (x_rv C hTH13150 (ci := 10) rfl ga0 rg_112) rfl hl.1 rfl (Nat.le_of_ble_eq_true rfl) dX10_text_38 hSH13150 (AE_sub (fun _ _ => rfl) (by decide) hSH13150.1) (fun vH13483 H13483 locsH13483 pH13483 zH13483 kH13483 hSH13483 => ?_)
      have hqH13483 := pH13483.1.symm
      subst hqH13483
      rcases pH13483.2 with ⟨hvH13483, hcH13483⟩ | ⟨hvH13483, hcH13483⟩
      · subst hvH13483
        refine W.eq (g2 := F0 m 41 ls [.int 1]) rfl ?_
        refine lv_if_eq (tgt := 48) hx hb dX10_text_41 (by decide) (fun c13484 => ?_) (fun c13484 => ?_)
        · have k13485 := i_eq c13484
          exfalso
          omega
        · have k13485 := i_ne c13484
          refine lv_iconst (v := 1) hx hb dX10_text_44 (by decide) ?_
          refine lv_goto (tgt := 49) hx hb dX10_text_45 (by decide) ?_
          refine lv_istore_n (lv' := [(3, .int 1), (0, .ref a0), (1, .int x1), (2, .int x2)]) hx hb dX10_text_49 rfl hl (by decide) rfl (fun ls13486 hl13487 => ?_)
          refine lv_aload_n hx hb dX10_text_50 rfl (lv_at hl13487 1 rfl) ?_
          refine lv_iload_n hx hb dX10_text_51 rfl (lv_at hl13487 2 rfl) ?_
          refine lv_iconst (v := 1) hx hb dX10_text_52 (by decide) ?_
          refine lv_icmp_ne (tgt := 60) hx hb dX10_text_53 (by decide) (fun c13488 => ?_) (fun c13488 => ?_)
          · have k13489 := i_ne c13488
            exfalso
            omega
          · have k13489 := i_eq c13488
            refine lv_iconst (v := 1) hx hb dX10_text_56 (by decide) ?_
            refine lv_goto (tgt := 61) hx hb dX10_text_57 (by decide) ?_
            refine x_put C hTH13150 hSH13483 (ci := 10) (k := 34) (v := .int 1) (ty0 := tyX10) rfl inX10 tyX10_ok nmX10 (by decide) rfl wF_X10_231 ga0 rg_112 rfl rfl (okI (by have := i_rng (1 : Int32); omega) (by have := i_rng (1 : Int32); omega)) rfl rfl (AE_in ga0 (by decide)) dX10_text_61 (fun H13490 locsH13490 hTH13490 hSH13490 wH13490 => ?_)
            have mf13491 : MF K s.heap H13490 a0 [0, 18, 19, 20, 21, 22, 34, 35, 36, 38, 39, 40, 41, 42] := MF.fld hap wH13490 (by decide) (by decide) mf13151
            have g13492 : CG (avw K H13490 a0) := CG.congr (fun k hk j => av_fld hTH13150 ga0 hap wH13490 (by decide) (CG_ok 112 (by decide) k hk) (CG_ne 34 (by decide) k hk)) g13152
            have g13493 : TU (avw K H13490 a0) (svw K H13490 a0) := TU.congr (fun k hk j => av_fld hTH13150 ga0 hap wH13490 (by decide) (TU_ok 112 (by decide) k hk) (TU_ne 34 (by decide) k hk)) (fun k hk => sv_fld hap wH13490 (by decide) (TU_slt k hk) (TU_sne 34 (by decide) k hk)) g13153
            have g13494 : WD (avw K H13490 a0) := WD.congr (fun k hk j => av_fld hTH13150 ga0 hap wH13490 (by decide) (WD_ok 112 (by decide) k hk) (WD_ne 34 (by decide) k hk)) g13154
            have g13495 : IM (avw K H13490 a0) := IM.congr (fun k hk j => av_fld hTH13150 ga0 hap wH13490 (by decide) (IM_ok 112 (by decide) k hk) (IM_ne 34 (by decide) k hk)) g13155
            have f13496 : ∀ j : Nat, bt j = (fI H13490 tq j).toInt := fun j => (f13156 j).trans (congrArg Int32.toInt (Wr.neI wH13490 (Or.inl (G_ne gtq ga0 (by decide)))).symm)
            have m13497 := m13157.trans (Wr.neR wH13490 (Or.inr (x_apart hKT hts inX10 tyX10 tyX10_ok nmX10 rfl 32 34 (by decide) (by decide) (by decide)))).symm
            have m13498 := m13158.trans (Wr.neR wH13490 (Or.inr (x_apart hKT hts inX10 tyX10 tyX10_ok nmX10 rfl 33 34 (by decide) (by decide) (by decide)))).symm
            have m13499 := m13159.trans (Wr.neR wH13490 (Or.inr (x_apart hKT hts inX10 tyX10 tyX10_ok nmX10 rfl 29 34 (by decide) (by decide) (by decide)))).symm
            have m13500 := m13160.trans (Wr.neR wH13490 (Or.inr (x_apart hKT hts inX10 tyX10 tyX10_ok nmX10 rfl 30 34 (by decide) (by decide) (by decide)))).symm
            have m13501 := m13161.trans (Wr.neR wH13490 (Or.inr (x_apart hKT hts inX10 tyX10 tyX10_ok nmX10 rfl 31 34 (by decide) (by decide) (by decide)))).symm
            have m13502 := m13162.trans (Wr.neR wH13490 (Or.inr (x_apart hKT hts inX10 tyX10 tyX10_ok nmX10 rfl 24 34 (by decide) (by decide) (by decide)))).symm
            have m13503 := m13163.trans (Wr.neR wH13490 (Or.inr (x_apart hKT hts inX10 tyX10 tyX10_ok nmX10 rfl 17 34 (by decide) (by decide) (by decide)))).symm
            have m13504 := m13164.trans (Wr.neI wH13490 (Or.inr (x_apart hKT hts inX10 tyX10 tyX10_ok nmX10 rfl 35 34 (by decide) (by decide) (by decide)))).symm
            have m13505 := m13165.trans (Wr.neI wH13490 (Or.inr (x_apart hKT hts inX10 tyX10 tyX10_ok nmX10 rfl 18 34 (by decide) (by decide) (by decide)))).symm
            have m13506 := (Wr.neI wH13490 (Or.inr (x_apart hKT hts inX10 tyX10 tyX10_ok nmX10 rfl 0 34 (by decide) (by decide) (by decide)))).trans m13166
            have m13507 := (Wr.neI wH13490 (Or.inr (x_apart hKT hts inX10 tyX10 tyX10_ok nmX10 rfl 41 34 (by decide) (by decide) (by decide)))).trans m13167
            have m13508 := (Wr.neI wH13490 (Or.inr (x_apart hKT hts inX10 tyX10 tyX10_ok nmX10 rfl 42 34 (by decide) (by decide) (by decide)))).trans m13168
            have m13509 := Wr.I wH13490
            clear f13156 g13152 g13153 g13154 g13155 hTH13150 m13157 m13158 m13159 m13160 m13161 m13162 m13163 m13164 m13165 m13166 m13167 m13168 mf13151
            refine lv_aload_n hx hb dX10_text_64 rfl (lv_at hl13487 1 rfl) ?_
            refine lv_iconst (v := 0) hx hb dX10_text_65 (by decide) ?_
            refine x_put C hTH13490 hSH13490 (ci := 10) (k := 19) (v := .int 0) (ty0 := tyX10) rfl inX10 tyX10_ok nmX10 (by decide) rfl wF_X10_192 ga0 rg_112 rfl rfl (okI (by have := i_rng (0 : Int32); omega) (by have := i_rng (0 : Int32); omega)) rfl rfl (AE_in ga0 (by decide)) dX10_text_66 (fun H13510 locsH13510 hTH13510 hSH13510 wH13510 => ?_)
            have mf13511 : MF K s.heap H13510 a0 [0, 18, 19, 20, 21, 22, 34, 35, 36, 38, 39, 40, 41, 42] := MF.fld hap wH13510 (by decide) (by decide) mf13491
            have g13512 : CG (avw K H13510 a0) := CG.congr (fun k hk j => av_fld hTH13490 ga0 hap wH13510 (by decide) (CG_ok 112 (by decide) k hk) (CG_ne 19 (by decide) k hk)) g13492
            have g13513 : TU (avw K H13510 a0) (svw K H13510 a0) := TU.congr (fun k hk j => av_fld hTH13490 ga0 hap wH13510 (by decide) (TU_ok 112 (by decide) k hk) (TU_ne 19 (by decide) k hk)) (fun k hk => sv_fld hap wH13510 (by decide) (TU_slt k hk) (TU_sne 19 (by decide) k hk)) g13493
            have g13514 : WD (avw K H13510 a0) := WD.congr (fun k hk j => av_fld hTH13490 ga0 hap wH13510 (by decide) (WD_ok 112 (by decide) k hk) (WD_ne 19 (by decide) k hk)) g13494
            have g13515 : IM (avw K H13510 a0) := IM.congr (fun k hk j => av_fld hTH13490 ga0 hap wH13510 (by decide) (IM_ok 112 (by decide) k hk) (IM_ne 19 (by decide) k hk)) g13495
            have f13516 : ∀ j : Nat, bt j = (fI H13510 tq j).toInt := fun j => (f13496 j).trans (congrArg Int32.toInt (Wr.neI wH13510 (Or.inl (G_ne gtq ga0 (by decide)))).symm)
            have m13517 := m13497.trans (Wr.neR wH13510 (Or.inr (x_apart hKT hts inX10 tyX10 tyX10_ok nmX10 rfl 32 19 (by decide) (by decide) (by decide)))).symm
            have m13518 := m13498.trans (Wr.neR wH13510 (Or.inr (x_apart hKT hts inX10 tyX10 tyX10_ok nmX10 rfl 33 19 (by decide) (by decide) (by decide)))).symm
            have m13519 := m13499.trans (Wr.neR wH13510 (Or.inr (x_apart hKT hts inX10 tyX10 tyX10_ok nmX10 rfl 29 19 (by decide) (by decide) (by decide)))).symm
            have m13520 := m13500.trans (Wr.neR wH13510 (Or.inr (x_apart hKT hts inX10 tyX10 tyX10_ok nmX10 rfl 30 19 (by decide) (by decide) (by decide)))).symm
            have m13521 := m13501.trans (Wr.neR wH13510 (Or.inr (x_apart hKT hts inX10 tyX10 tyX10_ok nmX10 rfl 31 19 (by decide) (by decide) (by decide)))).symm
            have m13522 := m13502.trans (Wr.neR wH13510 (Or.inr (x_apart hKT hts inX10 tyX10 tyX10_ok nmX10 rfl 24 19 (by decide) (by decide) (by decide)))).symm
            have m13523 := m13503.trans (Wr.neR wH13510 (Or.inr (x_apart hKT hts inX10 tyX10 tyX10_ok nmX10 rfl 17 19 (by decide) (by decide) (by decide)))).symm
            have m13524 := m13504.trans (Wr.neI wH13510 (Or.inr (x_apart hKT hts inX10 tyX10 tyX10_ok nmX10 rfl 35 19 (by decide) (by decide) (by decide)))).symm
            have m13525 := m13505.trans (Wr.neI wH13510 (Or.inr (x_apart hKT hts inX10 tyX10 tyX10_ok nmX10 rfl 18 19 (by decide) (by decide) (by decide)))).symm
            have m13526 := (Wr.neI wH13510 (Or.inr (x_apart hKT hts inX10 tyX10 tyX10_ok nmX10 rfl 0 19 (by decide) (by decide) (by decide)))).trans m13506
            have m13527 := (Wr.neI wH13510 (Or.inr (x_apart hKT hts inX10 tyX10 tyX10_ok nmX10 rfl 41 19 (by decide) (by decide) (by decide)))).trans m13507
            have m13528 := (Wr.neI wH13510 (Or.inr (x_apart hKT hts inX10 tyX10 tyX10_ok nmX10 rfl 42 19 (by decide) (by decide) (by decide)))).trans m13508
            have m13529 := (Wr.neI wH13510 (Or.inr (x_apart hKT hts inX10 tyX10 tyX10_ok nmX10 rfl 34 19 (by decide) (by decide) (by decide)))).trans m13509
            have m13530 := Wr.I wH13510
            clear f13496 g13492 g13493 g13494 g13495 hTH13490 m13497 m13498 m13499 m13500 m13501 m13502 m13503 m13504 m13505 m13506 m13507 m13508 m13509 mf13491
            refine lv_aload_n hx hb dX10_text_69 rfl (lv_at hl13487 1 rfl) ?_
            refine lv_iconst (v := 0) hx hb dX10_text_70 (by decide) ?_
            refine x_put C hTH13510 hSH13510 (ci := 10) (k := 35) (v := .int 0) (ty0 := tyX10) rfl inX10 tyX10_ok nmX10 (by decide) rfl wF_X10_228 ga0 rg_112 rfl rfl (okI (by have := i_rng (0 : Int32); omega) (by have := i_rng (0 : Int32); omega)) rfl rfl (AE_in ga0 (by decide)) dX10_text_71 (fun H13531 locsH13531 hTH13531 hSH13531 wH13531 => ?_)
            have mf13532 : MF K s.heap H13531 a0 [0, 18, 19, 20, 21, 22, 34, 35, 36, 38, 39, 40, 41, 42] := MF.fld hap wH13531 (by decide) (by decide) mf13511
            have g13533 : CG (avw K H13531 a0) := CG.congr (fun k hk j => av_fld hTH13510 ga0 hap wH13531 (by decide) (CG_ok 112 (by decide) k hk) (CG_ne 35 (by decide) k hk)) g13512
            have g13534 : TU (avw K H13531 a0) (svw K H13531 a0) := TU.congr (fun k hk j => av_fld hTH13510 ga0 hap wH13531 (by decide) (TU_ok 112 (by decide) k hk) (TU_ne 35 (by decide) k hk)) (fun k hk => sv_fld hap wH13531 (by decide) (TU_slt k hk) (TU_sne 35 (by decide) k hk)) g13513
            have g13535 : WD (avw K H13531 a0) := WD.congr (fun k hk j => av_fld hTH13510 ga0 hap wH13531 (by decide) (WD_ok 112 (by decide) k hk) (WD_ne 35 (by decide) k hk)) g13514
            have g13536 : IM (avw K H13531 a0) := IM.congr (fun k hk j => av_fld hTH13510 ga0 hap wH13531 (by decide) (IM_ok 112 (by decide) k hk) (IM_ne 35 (by decide) k hk)) g13515
            have f13537 : ∀ j : Nat, bt j = (fI H13531 tq j).toInt := fun j => (f13516 j).trans (congrArg Int32.toInt (Wr.neI wH13531 (Or.inl (G_ne gtq ga0 (by decide)))).symm)
            have m13538 := m13517.trans (Wr.neR wH13531 (Or.inr (x_apart hKT hts inX10 tyX10 tyX10_ok nmX10 rfl 32 35 (by decide) (by decide) (by decide)))).symm
            have m13539 := m13518.trans (Wr.neR wH13531 (Or.inr (x_apart hKT hts inX10 tyX10 tyX10_ok nmX10 rfl 33 35 (by decide) (by decide) (by decide)))).symm
            have m13540 := m13519.trans (Wr.neR wH13531 (Or.inr (x_apart hKT hts inX10 tyX10 tyX10_ok nmX10 rfl 29 35 (by decide) (by decide) (by decide)))).symm
            have m13541 := m13520.trans (Wr.neR wH13531 (Or.inr (x_apart hKT hts inX10 tyX10 tyX10_ok nmX10 rfl 30 35 (by decide) (by decide) (by decide)))).symm
            have m13542 := m13521.trans (Wr.neR wH13531 (Or.inr (x_apart hKT hts inX10 tyX10 tyX10_ok nmX10 rfl 31 35 (by decide) (by decide) (by decide)))).symm
            have m13543 := m13522.trans (Wr.neR wH13531 (Or.inr (x_apart hKT hts inX10 tyX10 tyX10_ok nmX10 rfl 24 35 (by decide) (by decide) (by decide)))).symm
            have m13544 := m13523.trans (Wr.neR wH13531 (Or.inr (x_apart hKT hts inX10 tyX10 tyX10_ok nmX10 rfl 17 35 (by decide) (by decide) (by decide)))).symm
            have m13546 := m13525.trans (Wr.neI wH13531 (Or.inr (x_apart hKT hts inX10 tyX10 tyX10_ok nmX10 rfl 18 35 (by decide) (by decide) (by decide)))).symm
            have m13547 := (Wr.neI wH13531 (Or.inr (x_apart hKT hts inX10 tyX10 tyX10_ok nmX10 rfl 0 35 (by decide) (by decide) (by decide)))).trans m13526
            have m13548 := (Wr.neI wH13531 (Or.inr (x_apart hKT hts inX10 tyX10 tyX10_ok nmX10 rfl 41 35 (by decide) (by decide) (by decide)))).trans m13527
            have m13549 := (Wr.neI wH13531 (Or.inr (x_apart hKT hts inX10 tyX10 tyX10_ok nmX10 rfl 42 35 (by decide) (by decide) (by decide)))).trans m13528
            have m13550 := (Wr.neI wH13531 (Or.inr (x_apart hKT hts inX10 tyX10 tyX10_ok nmX10 rfl 34 35 (by decide) (by decide) (by decide)))).trans m13529
            have m13551 := (Wr.neI wH13531 (Or.inr (x_apart hKT hts inX10 tyX10 tyX10_ok nmX10 rfl 19 35 (by decide) (by decide) (by decide)))).trans m13530
            have m13552 := Wr.I wH13531
            clear f13516 g13512 g13513 g13514 g13515 hTH13510 m13517 m13518 m13519 m13520 m13521 m13522 m13523 m13524 m13525 m13526 m13527 m13528 m13529 m13530 mf13511
            refine lv_aload_n hx hb dX10_text_74 rfl (lv_at hl13487 1 rfl) ?_
            refine lv_iconst (v := 0) hx hb dX10_text_75 (by decide) ?_
            refine x_put C hTH13531 hSH13531 (ci := 10) (k := 36) (v := .int 0) (ty0 := tyX10) rfl inX10 tyX10_ok nmX10 (by decide) rfl wF_X10_261 ga0 rg_112 rfl rfl (okI (by have := i_rng (0 : Int32); omega) (by have := i_rng (0 : Int32); omega)) rfl rfl (AE_in ga0 (by decide)) dX10_text_76 (fun H13553 locsH13553 hTH13553 hSH13553 wH13553 => ?_)
            have mf13554 : MF K s.heap H13553 a0 [0, 18, 19, 20, 21, 22, 34, 35, 36, 38, 39, 40, 41, 42] := MF.fld hap wH13553 (by decide) (by decide) mf13532
            have g13555 : CG (avw K H13553 a0) := CG.congr (fun k hk j => av_fld hTH13531 ga0 hap wH13553 (by decide) (CG_ok 112 (by decide) k hk) (CG_ne 36 (by decide) k hk)) g13533
            have g13556 : TU (avw K H13553 a0) (svw K H13553 a0) := TU.congr (fun k hk j => av_fld hTH13531 ga0 hap wH13553 (by decide) (TU_ok 112 (by decide) k hk) (TU_ne 36 (by decide) k hk)) (fun k hk => sv_fld hap wH13553 (by decide) (TU_slt k hk) (TU_sne 36 (by decide) k hk)) g13534
            have g13557 : WD (avw K H13553 a0) := WD.congr (fun k hk j => av_fld hTH13531 ga0 hap wH13553 (by decide) (WD_ok 112 (by decide) k hk) (WD_ne 36 (by decide) k hk)) g13535
            have g13558 : IM (avw K H13553 a0) := IM.congr (fun k hk j => av_fld hTH13531 ga0 hap wH13553 (by decide) (IM_ok 112 (by decide) k hk) (IM_ne 36 (by decide) k hk)) g13536
            have f13559 : ∀ j : Nat, bt j = (fI H13553 tq j).toInt := fun j => (f13537 j).trans (congrArg Int32.toInt (Wr.neI wH13553 (Or.inl (G_ne gtq ga0 (by decide)))).symm)
            have m13560 := m13538.trans (Wr.neR wH13553 (Or.inr (x_apart hKT hts inX10 tyX10 tyX10_ok nmX10 rfl 32 36 (by decide) (by decide) (by decide)))).symm
            have m13561 := m13539.trans (Wr.neR wH13553 (Or.inr (x_apart hKT hts inX10 tyX10 tyX10_ok nmX10 rfl 33 36 (by decide) (by decide) (by decide)))).symm
            have m13562 := m13540.trans (Wr.neR wH13553 (Or.inr (x_apart hKT hts inX10 tyX10 tyX10_ok nmX10 rfl 29 36 (by decide) (by decide) (by decide)))).symm
            have m13563 := m13541.trans (Wr.neR wH13553 (Or.inr (x_apart hKT hts inX10 tyX10 tyX10_ok nmX10 rfl 30 36 (by decide) (by decide) (by decide)))).symm
            have m13564 := m13542.trans (Wr.neR wH13553 (Or.inr (x_apart hKT hts inX10 tyX10 tyX10_ok nmX10 rfl 31 36 (by decide) (by decide) (by decide)))).symm
            have m13565 := m13543.trans (Wr.neR wH13553 (Or.inr (x_apart hKT hts inX10 tyX10 tyX10_ok nmX10 rfl 24 36 (by decide) (by decide) (by decide)))).symm
            have m13566 := m13544.trans (Wr.neR wH13553 (Or.inr (x_apart hKT hts inX10 tyX10 tyX10_ok nmX10 rfl 17 36 (by decide) (by decide) (by decide)))).symm
            have m13567 := m13546.trans (Wr.neI wH13553 (Or.inr (x_apart hKT hts inX10 tyX10 tyX10_ok nmX10 rfl 18 36 (by decide) (by decide) (by decide)))).symm
            have m13568 := (Wr.neI wH13553 (Or.inr (x_apart hKT hts inX10 tyX10 tyX10_ok nmX10 rfl 0 36 (by decide) (by decide) (by decide)))).trans m13547
            have m13569 := (Wr.neI wH13553 (Or.inr (x_apart hKT hts inX10 tyX10 tyX10_ok nmX10 rfl 41 36 (by decide) (by decide) (by decide)))).trans m13548
            have m13570 := (Wr.neI wH13553 (Or.inr (x_apart hKT hts inX10 tyX10 tyX10_ok nmX10 rfl 42 36 (by decide) (by decide) (by decide)))).trans m13549
            have m13571 := (Wr.neI wH13553 (Or.inr (x_apart hKT hts inX10 tyX10 tyX10_ok nmX10 rfl 34 36 (by decide) (by decide) (by decide)))).trans m13550
            have m13572 := (Wr.neI wH13553 (Or.inr (x_apart hKT hts inX10 tyX10 tyX10_ok nmX10 rfl 19 36 (by decide) (by decide) (by decide)))).trans m13551
            have m13573 := (Wr.neI wH13553 (Or.inr (x_apart hKT hts inX10 tyX10 tyX10_ok nmX10 rfl 35 36 (by decide) (by decide) (by decide)))).trans m13552
            have m13574 := Wr.I wH13553
            clear f13537 g13533 g13534 g13535 g13536 hTH13531 m13538 m13539 m13540 m13541 m13542 m13543 m13544 m13546 m13547 m13548 m13549 m13550 m13551 m13552 mf13532
            refine lv_aload_n hx hb dX10_text_79 rfl (lv_at hl13487 1 rfl) ?_
            obtain ⟨x13575, ex13575⟩ : ∃ z : Int32, z = fI H13553 a0 (K.1.2 10 20) := ⟨_, rfl⟩
            have bx13575 := ty_fi (x := x13575) (k := 20) ex13575 hTH13553 ga0 rg_112 rfl
            obtain ⟨x13576, ex13576⟩ : ∃ z : Int32, z = fI H13553 a0 (K.1.2 10 21) := ⟨_, rfl⟩
            have bx13576 := ty_fi (x := x13576) (k := 21) ex13576 hTH13553 ga0 rg_112 rfl
            obtain ⟨x13577, ex13577⟩ : ∃ z : Int32, z = fI H13553 a0 (K.1.2 10 22) := ⟨_, rfl⟩
            have bx13577 := ty_fi (x := x13577) (k := 22) ex13577 hTH13553 ga0 rg_112 rfl
            refine x_V (As := []) (rest := []) C (a_X10_reads_e l K G H13553 (0) (x13575) (x13576) (x13577) (tp) bt hTH13553 ga0 gtq m13566 (m13572).symm ex13575 ex13576 ex13577 m13567 g13555 g13556 g13557 g13558 (by omega) (hy1) f13559) yo_X10_reads wM_X10_242 ⟨⟨by decide, by decide⟩, by decide, by decide⟩ (x_rv C hTH13553 (ci := 10) rfl ga0 rg_112) rfl hl13487.1 rfl (Nat.le_of_ble_eq_true rfl) dX10_text_80 hSH13553 (AE_sub (fun _ _ => rfl) (by decide) hSH13553.1) (fun vH13578 H13578 locsH13578 pH13578 zH13578 kH13578 hSH13578 => ?_)
            obtain ⟨x13579, x13580, x13581, x13582, hvH13578, ex13579, ex13580, ex13581, ex13582, hrH13578, m13583, g13584, g13585, g13586, g13587, mf13588, m13589, m13590, m13591, hTH13578⟩ := pH13578
            subst hvH13578
            clear zH13578
            replace m13583 := EQN.mk m13583
            have f13592 : ∀ j : Nat, bt j = (fI H13578 tq j).toInt := fun j => (f13559 j).trans (congrArg Int32.toInt (fI_kept (x_lt hTH13553 kH13578 gtq (by decide))).symm)
            have m13593 := (m13560).trans (MF.r mf13588 (k := 32) (by decide) (by decide)).symm
            have m13594 := (m13561).trans (MF.r mf13588 (k := 33) (by decide) (by decide)).symm
            have m13595 := (m13562).trans (MF.r mf13588 (k := 29) (by decide) (by decide)).symm
            have m13596 := (m13563).trans (MF.r mf13588 (k := 30) (by decide) (by decide)).symm
            have m13597 := (m13564).trans (MF.r mf13588 (k := 31) (by decide) (by decide)).symm
            have m13598 := (m13565).trans (MF.r mf13588 (k := 24) (by decide) (by decide)).symm
            have m13599 := (m13566).trans (MF.r mf13588 (k := 17) (by decide) (by decide)).symm
            have m13600 := (m13567).trans (MF.i mf13588 (k := 18) (by decide) (by decide)).symm
            have m13601 := (MF.i mf13588 (k := 0) (by decide) (by decide)).trans m13568
            have m13602 := (MF.i mf13588 (k := 41) (by decide) (by decide)).trans m13569
            have m13603 := (MF.i mf13588 (k := 42) (by decide) (by decide)).trans m13570
            have m13604 := (MF.i mf13588 (k := 34) (by decide) (by decide)).trans m13571
            have m13605 := (MF.i mf13588 (k := 35) (by decide) (by decide)).trans m13573
            have m13606 := (MF.i mf13588 (k := 36) (by decide) (by decide)).trans m13574
            have mf13607 : MF K s.heap H13578 a0 [0, 18, 19, 20, 21, 22, 34, 35, 36, 38, 39, 40, 41, 42] := MF.trans mf13554 mf13588 (by decide)
            have bx13579 := ty_fi (x := x13579) (k := 19) ex13579 hTH13578 ga0 rg_112 rfl
            have bx13580 := ty_fi (x := x13580) (k := 20) ex13580 hTH13578 ga0 rg_112 rfl
            have bx13581 := ty_fi (x := x13581) (k := 21) ex13581 hTH13578 ga0 rg_112 rfl
            have bx13582 := ty_fi (x := x13582) (k := 22) ex13582 hTH13578 ga0 rg_112 rfl
            have cu13608 : CU bt tp.toNatClampNeg 0 x13580 x13579 x13581 x13582 := ⟨m13589, m13590, m13591, Nat.zero_le _⟩
            obtain ⟨r1H13578, r2H13578, r3H13578, r4H13578, r5H13578⟩ := hrH13578
            refine W.eq (g2 := F0 m 83 ls13486 []) rfl ?_
            refine lv_iload_n hx hb dX10_text_83 rfl (lv_at hl13487 0 rfl) ?_
            refine lv_if_eq (tgt := 94) hx hb dX10_text_84 (by decide) (fun c13609 => ?_) (fun c13609 => ?_)
            · have k13610 := i_eq c13609
              exfalso
              omega
            · have k13610 := i_ne c13609
              refine lv_aload_n hx hb dX10_text_87 rfl (lv_at hl13487 1 rfl) ?_
              refine x_V (As := []) (rest := []) C (a_X10_readText_e l K G H13578 (x13579) (x13580) (x13581) (x13582) (0) (0) (tp) (1) (0) bt hTH13578 ga0 goq m13593 gaq m13594 gf9 m13595 gf0 m13596 gf1 m13597 gtq m13583 ex13579 ex13580 ex13581 ex13582 (m13605).symm (m13606).symm m13600 (m13604).symm g13584 g13585 g13586 g13587 (by omega) (by omega) (by omega) (cu13608) (hy1) f13592) yo_X10_readText wM_X10_295 ⟨⟨by decide, by decide⟩, by decide, by decide⟩ (x_rv C hTH13578 (ci := 10) rfl ga0 rg_112) rfl hl13487.1 rfl (Nat.le_of_ble_eq_true rfl) dX10_text_88 hSH13578 (AE_sub (fun _ _ => rfl) (by decide) hSH13578.1) (fun vH13611 H13611 locsH13611 pH13611 zH13611 kH13611 hSH13611 => ?_)
              obtain ⟨x13612, x13613, x13614, x13615, x13616, x13617, x13618, hvH13611, bx13612, ex13613, ex13614, ex13615, ex13616, ex13617, ex13618, hrH13611, m13619, m13620, m13621, m13622, m13623, m13624, g13625, g13626, g13627, g13628, mf13629, m13630, m13631, hTH13611⟩ := pH13611
              subst hvH13611
              clear zH13611
              replace m13619 := EQN.mk m13619
              replace m13620 := EQN.mk m13620
              replace m13621 := EQN.mk m13621
              replace m13622 := EQN.mk m13622
              replace m13623 := EQN.mk m13623
              replace m13624 := EQN.mk m13624
              have f13632 : ∀ j : Nat, bt j = (fI H13611 tq j).toInt := fun j => (f13592 j).trans (congrArg Int32.toInt (fI_kept (x_lt hTH13578 kH13611 gtq (by decide))).symm)
              have m13633 := (m13593).trans (MF.r mf13629 (k := 32) (by decide) (by decide)).symm
              have m13634 := (m13594).trans (MF.r mf13629 (k := 33) (by decide) (by decide)).symm
              have m13635 := (m13595).trans (MF.r mf13629 (k := 29) (by decide) (by decide)).symm
              have m13636 := (m13596).trans (MF.r mf13629 (k := 30) (by decide) (by decide)).symm
              have m13637 := (m13597).trans (MF.r mf13629 (k := 31) (by decide) (by decide)).symm
              have m13638 := (m13598).trans (MF.r mf13629 (k := 24) (by decide) (by decide)).symm
              have m13639 := (m13583).trans (MF.r mf13629 (k := 17) (by decide) (by decide)).symm
              have m13640 := (m13600).trans (MF.i mf13629 (k := 18) (by decide) (by decide)).symm
              have m13641 := (MF.i mf13629 (k := 0) (by decide) (by decide)).trans m13601
              have m13642 := (MF.i mf13629 (k := 41) (by decide) (by decide)).trans m13602
              have m13643 := (MF.i mf13629 (k := 42) (by decide) (by decide)).trans m13603
              have m13644 := (MF.i mf13629 (k := 34) (by decide) (by decide)).trans m13604
              have mf13645 : MF K s.heap H13611 a0 [0, 18, 19, 20, 21, 22, 34, 35, 36, 38, 39, 40, 41, 42] := MF.trans mf13607 mf13629 (by decide)
              have bx13613 := ty_fi (x := x13613) (k := 19) ex13613 hTH13611 ga0 rg_112 rfl
              have bx13614 := ty_fi (x := x13614) (k := 20) ex13614 hTH13611 ga0 rg_112 rfl
              have bx13615 := ty_fi (x := x13615) (k := 21) ex13615 hTH13611 ga0 rg_112 rfl
              have bx13616 := ty_fi (x := x13616) (k := 22) ex13616 hTH13611 ga0 rg_112 rfl
              have bx13617 := ty_fi (x := x13617) (k := 35) ex13617 hTH13611 ga0 rg_112 rfl
              have bx13618 := ty_fi (x := x13618) (k := 36) ex13618 hTH13611 ga0 rg_112 rfl
              refine W.eq (g2 := F0 m 91 ls13486 [.int x13612]) rfl ?_
              refine lv_goto (tgt := 95) hx hb dX10_text_91 (by decide) ?_
              refine lv_istore (lv' := [(4, .int x13612), (3, .int 1), (0, .ref a0), (1, .int x1), (2, .int x2)]) hx hb dX10_text_95 hl13487 (by decide) rfl (fun ls13646 hl13647 => ?_)
              refine lv_aload_n hx hb dX10_text_97 rfl (lv_at hl13647 2 rfl) ?_
              refine lv_iconst (v := 0) hx hb dX10_text_98 (by decide) ?_
              refine x_put C hTH13611 hSH13611 (ci := 10) (k := 18) (v := .int 0) (ty0 := tyX10) rfl inX10 tyX10_ok nmX10 (by decide) rfl wF_X10_185 ga0 rg_112 rfl rfl (okI (by have := i_rng (0 : Int32); omega) (by have := i_rng (0 : Int32); omega)) rfl rfl (AE_in ga0 (by decide)) dX10_text_99 (fun H13648 locsH13648 hTH13648 hSH13648 wH13648 => ?_)
              have mf13649 : MF K s.heap H13648 a0 [0, 18, 19, 20, 21, 22, 34, 35, 36, 38, 39, 40, 41, 42] := MF.fld hap wH13648 (by decide) (by decide) mf13645
              have g13650 : CG (avw K H13648 a0) := CG.congr (fun k hk j => av_fld hTH13611 ga0 hap wH13648 (by decide) (CG_ok 112 (by decide) k hk) (CG_ne 18 (by decide) k hk)) g13625
              have g13651 : TU (avw K H13648 a0) (svw K H13648 a0) := TU.congr (fun k hk j => av_fld hTH13611 ga0 hap wH13648 (by decide) (TU_ok 112 (by decide) k hk) (TU_ne 18 (by decide) k hk)) (fun k hk => sv_fld hap wH13648 (by decide) (TU_slt k hk) (TU_sne 18 (by decide) k hk)) g13626
              have g13652 : WD (avw K H13648 a0) := WD.congr (fun k hk j => av_fld hTH13611 ga0 hap wH13648 (by decide) (WD_ok 112 (by decide) k hk) (WD_ne 18 (by decide) k hk)) g13627
              have g13653 : IM (avw K H13648 a0) := IM.congr (fun k hk j => av_fld hTH13611 ga0 hap wH13648 (by decide) (IM_ok 112 (by decide) k hk) (IM_ne 18 (by decide) k hk)) g13628
              have f13654 : ∀ j : Nat, bt j = (fI H13648 tq j).toInt := fun j => (f13632 j).trans (congrArg Int32.toInt (Wr.neI wH13648 (Or.inl (G_ne gtq ga0 (by decide)))).symm)
              have m13655 := m13619.trans (Wr.neR wH13648 (Or.inr (x_apart hKT hts inX10 tyX10 tyX10_ok nmX10 rfl 32 18 (by decide) (by decide) (by decide)))).symm
              have m13656 := m13620.trans (Wr.neR wH13648 (Or.inr (x_apart hKT hts inX10 tyX10 tyX10_ok nmX10 rfl 33 18 (by decide) (by decide) (by decide)))).symm
              have m13657 := m13621.trans (Wr.neR wH13648 (Or.inr (x_apart hKT hts inX10 tyX10 tyX10_ok nmX10 rfl 29 18 (by decide) (by decide) (by decide)))).symm
              have m13658 := m13622.trans (Wr.neR wH13648 (Or.inr (x_apart hKT hts inX10 tyX10 tyX10_ok nmX10 rfl 30 18 (by decide) (by decide) (by decide)))).symm
              have m13659 := m13623.trans (Wr.neR wH13648 (Or.inr (x_apart hKT hts inX10 tyX10 tyX10_ok nmX10 rfl 31 18 (by decide) (by decide) (by decide)))).symm
              have m13660 := m13638.trans (Wr.neR wH13648 (Or.inr (x_apart hKT hts inX10 tyX10 tyX10_ok nmX10 rfl 24 18 (by decide) (by decide) (by decide)))).symm
              have m13661 := m13624.trans (Wr.neR wH13648 (Or.inr (x_apart hKT hts inX10 tyX10 tyX10_ok nmX10 rfl 17 18 (by decide) (by decide) (by decide)))).symm
              have m13663 := (Wr.neI wH13648 (Or.inr (x_apart hKT hts inX10 tyX10 tyX10_ok nmX10 rfl 0 18 (by decide) (by decide) (by decide)))).trans m13641
              have m13664 := (Wr.neI wH13648 (Or.inr (x_apart hKT hts inX10 tyX10 tyX10_ok nmX10 rfl 41 18 (by decide) (by decide) (by decide)))).trans m13642
              have m13665 := (Wr.neI wH13648 (Or.inr (x_apart hKT hts inX10 tyX10 tyX10_ok nmX10 rfl 42 18 (by decide) (by decide) (by decide)))).trans m13643
              have m13666 := (Wr.neI wH13648 (Or.inr (x_apart hKT hts inX10 tyX10 tyX10_ok nmX10 rfl 34 18 (by decide) (by decide) (by decide)))).trans m13644
              have m13667 := ex13613.trans (Wr.neI wH13648 (Or.inr (x_apart hKT hts inX10 tyX10 tyX10_ok nmX10 rfl 19 18 (by decide) (by decide) (by decide)))).symm
              have m13668 := ex13614.trans (Wr.neI wH13648 (Or.inr (x_apart hKT hts inX10 tyX10 tyX10_ok nmX10 rfl 20 18 (by decide) (by decide) (by decide)))).symm
              have m13669 := ex13615.trans (Wr.neI wH13648 (Or.inr (x_apart hKT hts inX10 tyX10 tyX10_ok nmX10 rfl 21 18 (by decide) (by decide) (by decide)))).symm
              have m13670 := ex13616.trans (Wr.neI wH13648 (Or.inr (x_apart hKT hts inX10 tyX10 tyX10_ok nmX10 rfl 22 18 (by decide) (by decide) (by decide)))).symm
              have m13671 := ex13617.trans (Wr.neI wH13648 (Or.inr (x_apart hKT hts inX10 tyX10 tyX10_ok nmX10 rfl 35 18 (by decide) (by decide) (by decide)))).symm
              have m13672 := ex13618.trans (Wr.neI wH13648 (Or.inr (x_apart hKT hts inX10 tyX10 tyX10_ok nmX10 rfl 36 18 (by decide) (by decide) (by decide)))).symm
              have m13673 := Wr.I wH13648
              clear ex13613 ex13614 ex13615 ex13616 ex13617 ex13618 f13632 g13625 g13626 g13627 g13628 hTH13611 m13619 m13620 m13621 m13622 m13623 m13624 m13638 m13640 m13641 m13642 m13643 m13644 mf13645
              refine lv_iload_n hx hb dX10_text_102 rfl (lv_at hl13647 1 rfl) ?_
              refine lv_if_eq (tgt := 128) hx hb dX10_text_103 (by decide) (fun c13674 => ?_) (fun c13674 => ?_)
              · have k13675 := i_eq c13674
                exfalso
                omega
              · have k13675 := i_ne c13674
                refine lv_iload hx hb dX10_text_106 (lv_at hl13647 0 rfl) ?_
                refine lv_iconst (v := (-1)) hx hb dX10_text_108 (by decide) ?_
                refine lv_icmp_ne (tgt := 128) hx hb dX10_text_109 (by decide) (fun c13676 => ?_) (fun c13676 => ?_)
                · have k13677 := i_ne c13676
                  refine lv_iload hx hb dX10_text_128 (lv_at hl13647 0 rfl) ?_
                  refine lv_iconst (v := (-1)) hx hb dX10_text_130 (by decide) ?_
                  refine lv_icmp_ne (tgt := 136) hx hb dX10_text_131 (by decide) (fun c13678 => ?_) (fun c13678 => ?_)
                  · have k13679 := i_ne c13678
                    refine lv_iload_n hx hb dX10_text_136 rfl (lv_at hl13647 3 rfl) ?_
                    refine lv_if_ne (tgt := 144) hx hb dX10_text_137 (by decide) (fun c13680 => ?_) (fun c13680 => ?_)
                    · have k13681 := i_ne c13680
                      refine lv_iconst (v := 2) hx hb dX10_text_144 (by decide) ?_
                      refine lv_iload_n hx hb dX10_text_145 rfl (lv_at hl13647 4 rfl) ?_
                      refine lv_iadd hx hb dX10_text_146 ?_
                      refine lv_topi (fun x13682 ex13682 => ?_)
                      have tx13682 := i_add ex13682 (by omega)
                      refine lv_istore (lv' := [(5, .int x13682), (4, .int x13612), (3, .int 1), (0, .ref a0), (1, .int x1), (2, .int x2)]) hx hb dX10_text_147 hl13647 (by decide) rfl (fun ls13683 hl13684 => ?_)
                      have hDL := m13630.resolve_left (by omega)
                      replace hDL := DL.congr (fun j => Wr.neI wH13648 (Or.inl (G_ne gf9 ga0 (by decide)))) (fun j => Wr.neI wH13648 (Or.inl (G_ne gf0 ga0 (by decide)))) (fun j => Wr.neI wH13648 (Or.inl (G_ne gf1 ga0 (by decide)))) (fun j => Wr.neI wH13648 (Or.inl (G_ne goq ga0 (by decide)))) (fun j => Wr.neI wH13648 (Or.inl (G_ne gaq ga0 (by decide)))) hDL
                      exact J149  ls13683 H13648 locsH13648 (x13612) (x13682) (x13617) (0) (lv_sub hl13684 [3, 1, 0] rfl) hTH13648 hSH13648 ⟨by have := i_rng x13612; omega, by have := i_rng x13612; omega⟩ ⟨by have := i_rng x13682; omega, by have := i_rng x13682; omega⟩ ⟨by have := i_rng x13617; omega, by have := i_rng x13617; omega⟩ (by decide) m13671 (m13673).symm m13655 m13656 m13657 m13658 m13659 m13660 m13661 mf13649 g13650 g13651 g13652 g13653 f13654 (by omega) (DL.cast hDL (by omega) (by omega)) (HD.mk (TXA.mk (by omega) (by rw [if_neg (by omega)]; rfl) m13631))
                    · have k13681 := i_eq c13680
                      exfalso
                      omega
                  · have k13679 := i_eq c13678
                    exfalso
                    omega
                · have k13677 := i_eq c13676
                  refine lv_aload_n hx hb dX10_text_112 rfl (lv_at hl13647 2 rfl) ?_
                  refine lv_aload_n hx hb dX10_text_113 rfl (lv_at hl13647 2 rfl) ?_
                  refine x_gi C hTH13648 (ci := 10) (k := 39) rfl inX10 (by decide) wF_X10_222 ga0 rg_112 rfl dX10_text_114 (fun x13685 ex13685 bx13685 => ?_)
                  refine x_put C hTH13648 hSH13648 (ci := 10) (k := 41) (v := .int x13685) (ty0 := tyX10) rfl inX10 tyX10_ok nmX10 (by decide) rfl wF_X10_292 ga0 rg_112 rfl rfl (okI (by have := i_rng x13685; omega) (by have := i_rng x13685; omega)) rfl rfl (AE_in ga0 (by decide)) dX10_text_117 (fun H13686 locsH13686 hTH13686 hSH13686 wH13686 => ?_)
                  have mf13687 : MF K s.heap H13686 a0 [0, 18, 19, 20, 21, 22, 34, 35, 36, 38, 39, 40, 41, 42] := MF.fld hap wH13686 (by decide) (by decide) mf13649
                  have g13688 : CG (avw K H13686 a0) := CG.congr (fun k hk j => av_fld hTH13648 ga0 hap wH13686 (by decide) (CG_ok 112 (by decide) k hk) (CG_ne 41 (by decide) k hk)) g13650
                  have g13689 : TU (avw K H13686 a0) (svw K H13686 a0) := TU.congr (fun k hk j => av_fld hTH13648 ga0 hap wH13686 (by decide) (TU_ok 112 (by decide) k hk) (TU_ne 41 (by decide) k hk)) (fun k hk => sv_fld hap wH13686 (by decide) (TU_slt k hk) (TU_sne 41 (by decide) k hk)) g13651
                  have g13690 : WD (avw K H13686 a0) := WD.congr (fun k hk j => av_fld hTH13648 ga0 hap wH13686 (by decide) (WD_ok 112 (by decide) k hk) (WD_ne 41 (by decide) k hk)) g13652
                  have g13691 : IM (avw K H13686 a0) := IM.congr (fun k hk j => av_fld hTH13648 ga0 hap wH13686 (by decide) (IM_ok 112 (by decide) k hk) (IM_ne 41 (by decide) k hk)) g13653
                  have f13692 : ∀ j : Nat, bt j = (fI H13686 tq j).toInt := fun j => (f13654 j).trans (congrArg Int32.toInt (Wr.neI wH13686 (Or.inl (G_ne gtq ga0 (by decide)))).symm)
                  have m13693 := m13655.trans (Wr.neR wH13686 (Or.inr (x_apart hKT hts inX10 tyX10 tyX10_ok nmX10 rfl 32 41 (by decide) (by decide) (by decide)))).symm
                  have m13694 := m13656.trans (Wr.neR wH13686 (Or.inr (x_apart hKT hts inX10 tyX10 tyX10_ok nmX10 rfl 33 41 (by decide) (by decide) (by decide)))).symm
                  have m13695 := m13657.trans (Wr.neR wH13686 (Or.inr (x_apart hKT hts inX10 tyX10 tyX10_ok nmX10 rfl 29 41 (by decide) (by decide) (by decide)))).symm
                  have m13696 := m13658.trans (Wr.neR wH13686 (Or.inr (x_apart hKT hts inX10 tyX10 tyX10_ok nmX10 rfl 30 41 (by decide) (by decide) (by decide)))).symm
                  have m13697 := m13659.trans (Wr.neR wH13686 (Or.inr (x_apart hKT hts inX10 tyX10 tyX10_ok nmX10 rfl 31 41 (by decide) (by decide) (by decide)))).symm
                  have m13698 := m13660.trans (Wr.neR wH13686 (Or.inr (x_apart hKT hts inX10 tyX10 tyX10_ok nmX10 rfl 24 41 (by decide) (by decide) (by decide)))).symm
                  have m13699 := m13661.trans (Wr.neR wH13686 (Or.inr (x_apart hKT hts inX10 tyX10 tyX10_ok nmX10 rfl 17 41 (by decide) (by decide) (by decide)))).symm
                  have m13700 := (Wr.neI wH13686 (Or.inr (x_apart hKT hts inX10 tyX10 tyX10_ok nmX10 rfl 0 41 (by decide) (by decide) (by decide)))).trans m13663
                  have m13702 := (Wr.neI wH13686 (Or.inr (x_apart hKT hts inX10 tyX10 tyX10_ok nmX10 rfl 42 41 (by decide) (by decide) (by decide)))).trans m13665
                  have m13703 := (Wr.neI wH13686 (Or.inr (x_apart hKT hts inX10 tyX10 tyX10_ok nmX10 rfl 34 41 (by decide) (by decide) (by decide)))).trans m13666
                  have m13704 := m13667.trans (Wr.neI wH13686 (Or.inr (x_apart hKT hts inX10 tyX10 tyX10_ok nmX10 rfl 19 41 (by decide) (by decide) (by decide)))).symm
                  have m13705 := m13668.trans (Wr.neI wH13686 (Or.inr (x_apart hKT hts inX10 tyX10 tyX10_ok nmX10 rfl 20 41 (by decide) (by decide) (by decide)))).symm
                  have m13706 := m13669.trans (Wr.neI wH13686 (Or.inr (x_apart hKT hts inX10 tyX10 tyX10_ok nmX10 rfl 21 41 (by decide) (by decide) (by decide)))).symm
                  have m13707 := m13670.trans (Wr.neI wH13686 (Or.inr (x_apart hKT hts inX10 tyX10 tyX10_ok nmX10 rfl 22 41 (by decide) (by decide) (by decide)))).symm
                  have m13708 := m13671.trans (Wr.neI wH13686 (Or.inr (x_apart hKT hts inX10 tyX10 tyX10_ok nmX10 rfl 35 41 (by decide) (by decide) (by decide)))).symm
                  have m13709 := m13672.trans (Wr.neI wH13686 (Or.inr (x_apart hKT hts inX10 tyX10 tyX10_ok nmX10 rfl 36 41 (by decide) (by decide) (by decide)))).symm
                  have m13710 := (Wr.neI wH13686 (Or.inr (x_apart hKT hts inX10 tyX10 tyX10_ok nmX10 rfl 18 41 (by decide) (by decide) (by decide)))).trans m13673
                  have m13711 := ex13685.trans (Wr.neI wH13686 (Or.inr (x_apart hKT hts inX10 tyX10 tyX10_ok nmX10 rfl 39 41 (by decide) (by decide) (by decide)))).symm
                  have m13712 := Wr.I wH13686
                  have m13712 := m13712.symm
                  clear ex13685 f13654 g13650 g13651 g13652 g13653 hTH13648 m13655 m13656 m13657 m13658 m13659 m13660 m13661 m13663 m13664 m13665 m13666 m13667 m13668 m13669 m13670 m13671 m13672 m13673 mf13649
                  refine lv_aload_n hx hb dX10_text_120 rfl (lv_at hl13647 2 rfl) ?_
                  refine lv_aload_n hx hb dX10_text_121 rfl (lv_at hl13647 2 rfl) ?_
                  refine x_gi C hTH13686 (ci := 10) (k := 40) rfl inX10 (by decide) wF_X10_225 ga0 rg_112 rfl dX10_text_122 (fun x13713 ex13713 bx13713 => ?_)
                  refine x_put C hTH13686 hSH13686 (ci := 10) (k := 42) (v := .int x13713) (ty0 := tyX10) rfl inX10 tyX10_ok nmX10 (by decide) rfl wF_X10_92 ga0 rg_112 rfl rfl (okI (by have := i_rng x13713; omega) (by have := i_rng x13713; omega)) rfl rfl (AE_in ga0 (by decide)) dX10_text_125 (fun H13714 locsH13714 hTH13714 hSH13714 wH13714 => ?_)
                  have mf13715 : MF K s.heap H13714 a0 [0, 18, 19, 20, 21, 22, 34, 35, 36, 38, 39, 40, 41, 42] := MF.fld hap wH13714 (by decide) (by decide) mf13687
                  have g13716 : CG (avw K H13714 a0) := CG.congr (fun k hk j => av_fld hTH13686 ga0 hap wH13714 (by decide) (CG_ok 112 (by decide) k hk) (CG_ne 42 (by decide) k hk)) g13688
                  have g13717 : TU (avw K H13714 a0) (svw K H13714 a0) := TU.congr (fun k hk j => av_fld hTH13686 ga0 hap wH13714 (by decide) (TU_ok 112 (by decide) k hk) (TU_ne 42 (by decide) k hk)) (fun k hk => sv_fld hap wH13714 (by decide) (TU_slt k hk) (TU_sne 42 (by decide) k hk)) g13689
                  have g13718 : WD (avw K H13714 a0) := WD.congr (fun k hk j => av_fld hTH13686 ga0 hap wH13714 (by decide) (WD_ok 112 (by decide) k hk) (WD_ne 42 (by decide) k hk)) g13690
                  have g13719 : IM (avw K H13714 a0) := IM.congr (fun k hk j => av_fld hTH13686 ga0 hap wH13714 (by decide) (IM_ok 112 (by decide) k hk) (IM_ne 42 (by decide) k hk)) g13691
                  have f13720 : ∀ j : Nat, bt j = (fI H13714 tq j).toInt := fun j => (f13692 j).trans (congrArg Int32.toInt (Wr.neI wH13714 (Or.inl (G_ne gtq ga0 (by decide)))).symm)
                  have m13721 := m13693.trans (Wr.neR wH13714 (Or.inr (x_apart hKT hts inX10 tyX10 tyX10_ok nmX10 rfl 32 42 (by decide) (by decide) (by decide)))).symm
                  have m13722 := m13694.trans (Wr.neR wH13714 (Or.inr (x_apart hKT hts inX10 tyX10 tyX10_ok nmX10 rfl 33 42 (by decide) (by decide) (by decide)))).symm
                  have m13723 := m13695.trans (Wr.neR wH13714 (Or.inr (x_apart hKT hts inX10 tyX10 tyX10_ok nmX10 rfl 29 42 (by decide) (by decide) (by decide)))).symm
                  have m13724 := m13696.trans (Wr.neR wH13714 (Or.inr (x_apart hKT hts inX10 tyX10 tyX10_ok nmX10 rfl 30 42 (by decide) (by decide) (by decide)))).symm
                  have m13725 := m13697.trans (Wr.neR wH13714 (Or.inr (x_apart hKT hts inX10 tyX10 tyX10_ok nmX10 rfl 31 42 (by decide) (by decide) (by decide)))).symm
                  have m13726 := m13698.trans (Wr.neR wH13714 (Or.inr (x_apart hKT hts inX10 tyX10 tyX10_ok nmX10 rfl 24 42 (by decide) (by decide) (by decide)))).symm
                  have m13727 := m13699.trans (Wr.neR wH13714 (Or.inr (x_apart hKT hts inX10 tyX10 tyX10_ok nmX10 rfl 17 42 (by decide) (by decide) (by decide)))).symm
                  have m13728 := (Wr.neI wH13714 (Or.inr (x_apart hKT hts inX10 tyX10 tyX10_ok nmX10 rfl 0 42 (by decide) (by decide) (by decide)))).trans m13700
                  have m13730 := (Wr.neI wH13714 (Or.inr (x_apart hKT hts inX10 tyX10 tyX10_ok nmX10 rfl 34 42 (by decide) (by decide) (by decide)))).trans m13703
                  have m13731 := m13704.trans (Wr.neI wH13714 (Or.inr (x_apart hKT hts inX10 tyX10 tyX10_ok nmX10 rfl 19 42 (by decide) (by decide) (by decide)))).symm
                  have m13732 := m13705.trans (Wr.neI wH13714 (Or.inr (x_apart hKT hts inX10 tyX10 tyX10_ok nmX10 rfl 20 42 (by decide) (by decide) (by decide)))).symm
                  have m13733 := m13706.trans (Wr.neI wH13714 (Or.inr (x_apart hKT hts inX10 tyX10 tyX10_ok nmX10 rfl 21 42 (by decide) (by decide) (by decide)))).symm
                  have m13734 := m13707.trans (Wr.neI wH13714 (Or.inr (x_apart hKT hts inX10 tyX10 tyX10_ok nmX10 rfl 22 42 (by decide) (by decide) (by decide)))).symm
                  have m13735 := m13708.trans (Wr.neI wH13714 (Or.inr (x_apart hKT hts inX10 tyX10 tyX10_ok nmX10 rfl 35 42 (by decide) (by decide) (by decide)))).symm
                  have m13736 := m13709.trans (Wr.neI wH13714 (Or.inr (x_apart hKT hts inX10 tyX10 tyX10_ok nmX10 rfl 36 42 (by decide) (by decide) (by decide)))).symm
                  have m13737 := (Wr.neI wH13714 (Or.inr (x_apart hKT hts inX10 tyX10 tyX10_ok nmX10 rfl 18 42 (by decide) (by decide) (by decide)))).trans m13710
                  have m13738 := m13711.trans (Wr.neI wH13714 (Or.inr (x_apart hKT hts inX10 tyX10 tyX10_ok nmX10 rfl 39 42 (by decide) (by decide) (by decide)))).symm
                  have m13739 := m13712.trans (Wr.neI wH13714 (Or.inr (x_apart hKT hts inX10 tyX10 tyX10_ok nmX10 rfl 41 42 (by decide) (by decide) (by decide)))).symm
                  have m13740 := ex13713.trans (Wr.neI wH13714 (Or.inr (x_apart hKT hts inX10 tyX10 tyX10_ok nmX10 rfl 40 42 (by decide) (by decide) (by decide)))).symm
                  have m13741 := Wr.I wH13714
                  have m13741 := m13741.symm
                  clear ex13713 f13692 g13688 g13689 g13690 g13691 hTH13686 m13693 m13694 m13695 m13696 m13697 m13698 m13699 m13700 m13702 m13703 m13704 m13705 m13706 m13707 m13708 m13709 m13710 m13711 m13712 mf13687
                  refine lv_iload hx hb dX10_text_128 (lv_at hl13647 0 rfl) ?_
                  refine lv_iconst (v := (-1)) hx hb dX10_text_130 (by decide) ?_
                  refine lv_icmp_ne (tgt := 136) hx hb dX10_text_131 (by decide) (fun c13742 => ?_) (fun c13742 => ?_)
                  · have k13743 := i_ne c13742
                    exfalso
                    omega
                  · have k13743 := i_eq c13742
                    refine lv_iconst (v := (-1)) hx hb dX10_text_134 (by decide) ?_
                    exact x_iret C hQ dX10_text_135 hSH13714 (by decide) (by decide) (⟨(-1), x13617, 0, rfl, m13735, (m13737).symm, by omega, m13721, m13722, m13723, m13724, m13725, m13726, m13727, g13716, g13717, g13718, g13719, mf13715, (TXA.mk (by omega) (by rw [if_neg (by omega)]; rfl) m13631).cast (by omega), hTH13714⟩)
      · subst hvH13483
        refine W.eq (g2 := F0 m 41 ls [.int 0]) rfl ?_
        refine lv_if_eq (tgt := 48) hx hb dX10_text_41 (by decide) (fun c13744 => ?_) (fun c13744 => ?_)
        · have k13745 := i_eq c13744
          refine lv_iconst (v := 0) hx hb dX10_text_48 (by decide) ?_
          refine lv_istore_n (lv' := [(3, .int 0), (0, .ref a0), (1, .int x1), (2, .int x2)]) hx hb dX10_text_49 rfl hl (by decide) rfl (fun ls13746 hl13747 => ?_)
          refine lv_aload_n hx hb dX10_text_50 rfl (lv_at hl13747 1 rfl) ?_
          refine lv_iload_n hx hb dX10_text_51 rfl (lv_at hl13747 2 rfl) ?_
          refine lv_iconst (v := 1) hx hb dX10_text_52 (by decide) ?_
          refine lv_icmp_ne (tgt := 60) hx hb dX10_text_53 (by decide) (fun c13748 => ?_) (fun c13748 => ?_)
          · have k13749 := i_ne c13748
            exfalso
            omega
          · have k13749 := i_eq c13748
            refine lv_iconst (v := 1) hx hb dX10_text_56 (by decide) ?_
            refine lv_goto (tgt := 61) hx hb dX10_text_57 (by decide) ?_
            refine x_put C hTH13150 hSH13483 (ci := 10) (k := 34) (v := .int 1) (ty0 := tyX10) rfl inX10 tyX10_ok nmX10 (by decide) rfl wF_X10_231 ga0 rg_112 rfl rfl (okI (by have := i_rng (1 : Int32); omega) (by have := i_rng (1 : Int32); omega)) rfl rfl (AE_in ga0 (by decide)) dX10_text_61 (fun H13750 locsH13750 hTH13750 hSH13750 wH13750 => ?_)
            have mf13751 : MF K s.heap H13750 a0 [0, 18, 19, 20, 21, 22, 34, 35, 36, 38, 39, 40, 41, 42] := MF.fld hap wH13750 (by decide) (by decide) mf13151
            have g13752 : CG (avw K H13750 a0) := CG.congr (fun k hk j => av_fld hTH13150 ga0 hap wH13750 (by decide) (CG_ok 112 (by decide) k hk) (CG_ne 34 (by decide) k hk)) g13152
            have g13753 : TU (avw K H13750 a0) (svw K H13750 a0) := TU.congr (fun k hk j => av_fld hTH13150 ga0 hap wH13750 (by decide) (TU_ok 112 (by decide) k hk) (TU_ne 34 (by decide) k hk)) (fun k hk => sv_fld hap wH13750 (by decide) (TU_slt k hk) (TU_sne 34 (by decide) k hk)) g13153
            have g13754 : WD (avw K H13750 a0) := WD.congr (fun k hk j => av_fld hTH13150 ga0 hap wH13750 (by decide) (WD_ok 112 (by decide) k hk) (WD_ne 34 (by decide) k hk)) g13154
            have g13755 : IM (avw K H13750 a0) := IM.congr (fun k hk j => av_fld hTH13150 ga0 hap wH13750 (by decide) (IM_ok 112 (by decide) k hk) (IM_ne 34 (by decide) k hk)) g13155
            have f13756 : ∀ j : Nat, bt j = (fI H13750 tq j).toInt := fun j => (f13156 j).trans (congrArg Int32.toInt (Wr.neI wH13750 (Or.inl (G_ne gtq ga0 (by decide)))).symm)
            have m13757 := m13157.trans (Wr.neR wH13750 (Or.inr (x_apart hKT hts inX10 tyX10 tyX10_ok nmX10 rfl 32 34 (by decide) (by decide) (by decide)))).symm
            have m13758 := m13158.trans (Wr.neR wH13750 (Or.inr (x_apart hKT hts inX10 tyX10 tyX10_ok nmX10 rfl 33 34 (by decide) (by decide) (by decide)))).symm
            have m13759 := m13159.trans (Wr.neR wH13750 (Or.inr (x_apart hKT hts inX10 tyX10 tyX10_ok nmX10 rfl 29 34 (by decide) (by decide) (by decide)))).symm
            have m13760 := m13160.trans (Wr.neR wH13750 (Or.inr (x_apart hKT hts inX10 tyX10 tyX10_ok nmX10 rfl 30 34 (by decide) (by decide) (by decide)))).symm
            have m13761 := m13161.trans (Wr.neR wH13750 (Or.inr (x_apart hKT hts inX10 tyX10 tyX10_ok nmX10 rfl 31 34 (by decide) (by decide) (by decide)))).symm
            have m13762 := m13162.trans (Wr.neR wH13750 (Or.inr (x_apart hKT hts inX10 tyX10 tyX10_ok nmX10 rfl 24 34 (by decide) (by decide) (by decide)))).symm
            have m13763 := m13163.trans (Wr.neR wH13750 (Or.inr (x_apart hKT hts inX10 tyX10 tyX10_ok nmX10 rfl 17 34 (by decide) (by decide) (by decide)))).symm
            have m13764 := m13164.trans (Wr.neI wH13750 (Or.inr (x_apart hKT hts inX10 tyX10 tyX10_ok nmX10 rfl 35 34 (by decide) (by decide) (by decide)))).symm
            have m13765 := m13165.trans (Wr.neI wH13750 (Or.inr (x_apart hKT hts inX10 tyX10 tyX10_ok nmX10 rfl 18 34 (by decide) (by decide) (by decide)))).symm
            have m13766 := (Wr.neI wH13750 (Or.inr (x_apart hKT hts inX10 tyX10 tyX10_ok nmX10 rfl 0 34 (by decide) (by decide) (by decide)))).trans m13166
            have m13767 := (Wr.neI wH13750 (Or.inr (x_apart hKT hts inX10 tyX10 tyX10_ok nmX10 rfl 41 34 (by decide) (by decide) (by decide)))).trans m13167
            have m13768 := (Wr.neI wH13750 (Or.inr (x_apart hKT hts inX10 tyX10 tyX10_ok nmX10 rfl 42 34 (by decide) (by decide) (by decide)))).trans m13168
            have m13769 := Wr.I wH13750
            clear f13156 g13152 g13153 g13154 g13155 hTH13150 m13157 m13158 m13159 m13160 m13161 m13162 m13163 m13164 m13165 m13166 m13167 m13168 mf13151
            refine lv_aload_n hx hb dX10_text_64 rfl (lv_at hl13747 1 rfl) ?_
            refine lv_iconst (v := 0) hx hb dX10_text_65 (by decide) ?_
            refine x_put C hTH13750 hSH13750 (ci := 10) (k := 19) (v := .int 0) (ty0 := tyX10) rfl inX10 tyX10_ok nmX10 (by decide) rfl wF_X10_192 ga0 rg_112 rfl rfl (okI (by have := i_rng (0 : Int32); omega) (by have := i_rng (0 : Int32); omega)) rfl rfl (AE_in ga0 (by decide)) dX10_text_66 (fun H13770 locsH13770 hTH13770 hSH13770 wH13770 => ?_)
            have mf13771 : MF K s.heap H13770 a0 [0, 18, 19, 20, 21, 22, 34, 35, 36, 38, 39, 40, 41, 42] := MF.fld hap wH13770 (by decide) (by decide) mf13751
            have g13772 : CG (avw K H13770 a0) := CG.congr (fun k hk j => av_fld hTH13750 ga0 hap wH13770 (by decide) (CG_ok 112 (by decide) k hk) (CG_ne 19 (by decide) k hk)) g13752
            have g13773 : TU (avw K H13770 a0) (svw K H13770 a0) := TU.congr (fun k hk j => av_fld hTH13750 ga0 hap wH13770 (by decide) (TU_ok 112 (by decide) k hk) (TU_ne 19 (by decide) k hk)) (fun k hk => sv_fld hap wH13770 (by decide) (TU_slt k hk) (TU_sne 19 (by decide) k hk)) g13753
            have g13774 : WD (avw K H13770 a0) := WD.congr (fun k hk j => av_fld hTH13750 ga0 hap wH13770 (by decide) (WD_ok 112 (by decide) k hk) (WD_ne 19 (by decide) k hk)) g13754
            have g13775 : IM (avw K H13770 a0) := IM.congr (fun k hk j => av_fld hTH13750 ga0 hap wH13770 (by decide) (IM_ok 112 (by decide) k hk) (IM_ne 19 (by decide) k hk)) g13755
            have f13776 : ∀ j : Nat, bt j = (fI H13770 tq j).toInt := fun j => (f13756 j).trans (congrArg Int32.toInt (Wr.neI wH13770 (Or.inl (G_ne gtq ga0 (by decide)))).symm)
            have m13777 := m13757.trans (Wr.neR wH13770 (Or.inr (x_apart hKT hts inX10 tyX10 tyX10_ok nmX10 rfl 32 19 (by decide) (by decide) (by decide)))).symm
            have m13778 := m13758.trans (Wr.neR wH13770 (Or.inr (x_apart hKT hts inX10 tyX10 tyX10_ok nmX10 rfl 33 19 (by decide) (by decide) (by decide)))).symm
            have m13779 := m13759.trans (Wr.neR wH13770 (Or.inr (x_apart hKT hts inX10 tyX10 tyX10_ok nmX10 rfl 29 19 (by decide) (by decide) (by decide)))).symm
            have m13780 := m13760.trans (Wr.neR wH13770 (Or.inr (x_apart hKT hts inX10 tyX10 tyX10_ok nmX10 rfl 30 19 (by decide) (by decide) (by decide)))).symm
            have m13781 := m13761.trans (Wr.neR wH13770 (Or.inr (x_apart hKT hts inX10 tyX10 tyX10_ok nmX10 rfl 31 19 (by decide) (by decide) (by decide)))).symm
            have m13782 := m13762.trans (Wr.neR wH13770 (Or.inr (x_apart hKT hts inX10 tyX10 tyX10_ok nmX10 rfl 24 19 (by decide) (by decide) (by decide)))).symm
            have m13783 := m13763.trans (Wr.neR wH13770 (Or.inr (x_apart hKT hts inX10 tyX10 tyX10_ok nmX10 rfl 17 19 (by decide) (by decide) (by decide)))).symm
            have m13784 := m13764.trans (Wr.neI wH13770 (Or.inr (x_apart hKT hts inX10 tyX10 tyX10_ok nmX10 rfl 35 19 (by decide) (by decide) (by decide)))).symm
            have m13785 := m13765.trans (Wr.neI wH13770 (Or.inr (x_apart hKT hts inX10 tyX10 tyX10_ok nmX10 rfl 18 19 (by decide) (by decide) (by decide)))).symm
            have m13786 := (Wr.neI wH13770 (Or.inr (x_apart hKT hts inX10 tyX10 tyX10_ok nmX10 rfl 0 19 (by decide) (by decide) (by decide)))).trans m13766
            have m13787 := (Wr.neI wH13770 (Or.inr (x_apart hKT hts inX10 tyX10 tyX10_ok nmX10 rfl 41 19 (by decide) (by decide) (by decide)))).trans m13767
            have m13788 := (Wr.neI wH13770 (Or.inr (x_apart hKT hts inX10 tyX10 tyX10_ok nmX10 rfl 42 19 (by decide) (by decide) (by decide)))).trans m13768
            have m13789 := (Wr.neI wH13770 (Or.inr (x_apart hKT hts inX10 tyX10 tyX10_ok nmX10 rfl 34 19 (by decide) (by decide) (by decide)))).trans m13769
            have m13790 := Wr.I wH13770
            clear f13756 g13752 g13753 g13754 g13755 hTH13750 m13757 m13758 m13759 m13760 m13761 m13762 m13763 m13764 m13765 m13766 m13767 m13768 m13769 mf13751
            refine lv_aload_n hx hb dX10_text_69 rfl (lv_at hl13747 1 rfl) ?_
            refine lv_iconst (v := 0) hx hb dX10_text_70 (by decide) ?_
            refine x_put C hTH13770 hSH13770 (ci := 10) (k := 35) (v := .int 0) (ty0 := tyX10) rfl inX10 tyX10_ok nmX10 (by decide) rfl wF_X10_228 ga0 rg_112 rfl rfl (okI (by have := i_rng (0 : Int32); omega) (by have := i_rng (0 : Int32); omega)) rfl rfl (AE_in ga0 (by decide)) dX10_text_71 (fun H13791 locsH13791 hTH13791 hSH13791 wH13791 => ?_)
            have mf13792 : MF K s.heap H13791 a0 [0, 18, 19, 20, 21, 22, 34, 35, 36, 38, 39, 40, 41, 42] := MF.fld hap wH13791 (by decide) (by decide) mf13771
            have g13793 : CG (avw K H13791 a0) := CG.congr (fun k hk j => av_fld hTH13770 ga0 hap wH13791 (by decide) (CG_ok 112 (by decide) k hk) (CG_ne 35 (by decide) k hk)) g13772
            have g13794 : TU (avw K H13791 a0) (svw K H13791 a0) := TU.congr (fun k hk j => av_fld hTH13770 ga0 hap wH13791 (by decide) (TU_ok 112 (by decide) k hk) (TU_ne 35 (by decide) k hk)) (fun k hk => sv_fld hap wH13791 (by decide) (TU_slt k hk) (TU_sne 35 (by decide) k hk)) g13773
            have g13795 : WD (avw K H13791 a0) := WD.congr (fun k hk j => av_fld hTH13770 ga0 hap wH13791 (by decide) (WD_ok 112 (by decide) k hk) (WD_ne 35 (by decide) k hk)) g13774
            have g13796 : IM (avw K H13791 a0) := IM.congr (fun k hk j => av_fld hTH13770 ga0 hap wH13791 (by decide) (IM_ok 112 (by decide) k hk) (IM_ne 35 (by decide) k hk)) g13775
            have f13797 : ∀ j : Nat, bt j = (fI H13791 tq j).toInt := fun j => (f13776 j).trans (congrArg Int32.toInt (Wr.neI wH13791 (Or.inl (G_ne gtq ga0 (by decide)))).symm)
            have m13798 := m13777.trans (Wr.neR wH13791 (Or.inr (x_apart hKT hts inX10 tyX10 tyX10_ok nmX10 rfl 32 35 (by decide) (by decide) (by decide)))).symm
            have m13799 := m13778.trans (Wr.neR wH13791 (Or.inr (x_apart hKT hts inX10 tyX10 tyX10_ok nmX10 rfl 33 35 (by decide) (by decide) (by decide)))).symm
            have m13800 := m13779.trans (Wr.neR wH13791 (Or.inr (x_apart hKT hts inX10 tyX10 tyX10_ok nmX10 rfl 29 35 (by decide) (by decide) (by decide)))).symm
            have m13801 := m13780.trans (Wr.neR wH13791 (Or.inr (x_apart hKT hts inX10 tyX10 tyX10_ok nmX10 rfl 30 35 (by decide) (by decide) (by decide)))).symm
            have m13802 := m13781.trans (Wr.neR wH13791 (Or.inr (x_apart hKT hts inX10 tyX10 tyX10_ok nmX10 rfl 31 35 (by decide) (by decide) (by decide)))).symm
            have m13803 := m13782.trans (Wr.neR wH13791 (Or.inr (x_apart hKT hts inX10 tyX10 tyX10_ok nmX10 rfl 24 35 (by decide) (by decide) (by decide)))).symm
            have m13804 := m13783.trans (Wr.neR wH13791 (Or.inr (x_apart hKT hts inX10 tyX10 tyX10_ok nmX10 rfl 17 35 (by decide) (by decide) (by decide)))).symm
            have m13806 := m13785.trans (Wr.neI wH13791 (Or.inr (x_apart hKT hts inX10 tyX10 tyX10_ok nmX10 rfl 18 35 (by decide) (by decide) (by decide)))).symm
            have m13807 := (Wr.neI wH13791 (Or.inr (x_apart hKT hts inX10 tyX10 tyX10_ok nmX10 rfl 0 35 (by decide) (by decide) (by decide)))).trans m13786
            have m13808 := (Wr.neI wH13791 (Or.inr (x_apart hKT hts inX10 tyX10 tyX10_ok nmX10 rfl 41 35 (by decide) (by decide) (by decide)))).trans m13787
            have m13809 := (Wr.neI wH13791 (Or.inr (x_apart hKT hts inX10 tyX10 tyX10_ok nmX10 rfl 42 35 (by decide) (by decide) (by decide)))).trans m13788
            have m13810 := (Wr.neI wH13791 (Or.inr (x_apart hKT hts inX10 tyX10 tyX10_ok nmX10 rfl 34 35 (by decide) (by decide) (by decide)))).trans m13789
            have m13811 := (Wr.neI wH13791 (Or.inr (x_apart hKT hts inX10 tyX10 tyX10_ok nmX10 rfl 19 35 (by decide) (by decide) (by decide)))).trans m13790
            have m13812 := Wr.I wH13791
            clear f13776 g13772 g13773 g13774 g13775 hTH13770 m13777 m13778 m13779 m13780 m13781 m13782 m13783 m13784 m13785 m13786 m13787 m13788 m13789 m13790 mf13771
            refine lv_aload_n hx hb dX10_text_74 rfl (lv_at hl13747 1 rfl) ?_
            refine lv_iconst (v := 0) hx hb dX10_text_75 (by decide) ?_
            refine x_put C hTH13791 hSH13791 (ci := 10) (k := 36) (v := .int 0) (ty0 := tyX10) rfl inX10 tyX10_ok nmX10 (by decide) rfl wF_X10_261 ga0 rg_112 rfl rfl (okI (by have := i_rng (0 : Int32); omega) (by have := i_rng (0 : Int32); omega)) rfl rfl (AE_in ga0 (by decide)) dX10_text_76 (fun H13813 locsH13813 hTH13813 hSH13813 wH13813 => ?_)
            have mf13814 : MF K s.heap H13813 a0 [0, 18, 19, 20, 21, 22, 34, 35, 36, 38, 39, 40, 41, 42] := MF.fld hap wH13813 (by decide) (by decide) mf13792
            have g13815 : CG (avw K H13813 a0) := CG.congr (fun k hk j => av_fld hTH13791 ga0 hap wH13813 (by decide) (CG_ok 112 (by decide) k hk) (CG_ne 36 (by decide) k hk)) g13793
            have g13816 : TU (avw K H13813 a0) (svw K H13813 a0) := TU.congr (fun k hk j => av_fld hTH13791 ga0 hap wH13813 (by decide) (TU_ok 112 (by decide) k hk) (TU_ne 36 (by decide) k hk)) (fun k hk => sv_fld hap wH13813 (by decide) (TU_slt k hk) (TU_sne 36 (by decide) k hk)) g13794
            have g13817 : WD (avw K H13813 a0) := WD.congr (fun k hk j => av_fld hTH13791 ga0 hap wH13813 (by decide) (WD_ok 112 (by decide) k hk) (WD_ne 36 (by decide) k hk)) g13795
            have g13818 : IM (avw K H13813 a0) := IM.congr (fun k hk j => av_fld hTH13791 ga0 hap wH13813 (by decide) (IM_ok 112 (by decide) k hk) (IM_ne 36 (by decide) k hk)) g13796
            have f13819 : ∀ j : Nat, bt j = (fI H13813 tq j).toInt := fun j => (f13797 j).trans (congrArg Int32.toInt (Wr.neI wH13813 (Or.inl (G_ne gtq ga0 (by decide)))).symm)
            have m13820 := m13798.trans (Wr.neR wH13813 (Or.inr (x_apart hKT hts inX10 tyX10 tyX10_ok nmX10 rfl 32 36 (by decide) (by decide) (by decide)))).symm
            have m13821 := m13799.trans (Wr.neR wH13813 (Or.inr (x_apart hKT hts inX10 tyX10 tyX10_ok nmX10 rfl 33 36 (by decide) (by decide) (by decide)))).symm
            have m13822 := m13800.trans (Wr.neR wH13813 (Or.inr (x_apart hKT hts inX10 tyX10 tyX10_ok nmX10 rfl 29 36 (by decide) (by decide) (by decide)))).symm
            have m13823 := m13801.trans (Wr.neR wH13813 (Or.inr (x_apart hKT hts inX10 tyX10 tyX10_ok nmX10 rfl 30 36 (by decide) (by decide) (by decide)))).symm
            have m13824 := m13802.trans (Wr.neR wH13813 (Or.inr (x_apart hKT hts inX10 tyX10 tyX10_ok nmX10 rfl 31 36 (by decide) (by decide) (by decide)))).symm
            have m13825 := m13803.trans (Wr.neR wH13813 (Or.inr (x_apart hKT hts inX10 tyX10 tyX10_ok nmX10 rfl 24 36 (by decide) (by decide) (by decide)))).symm
            have m13826 := m13804.trans (Wr.neR wH13813 (Or.inr (x_apart hKT hts inX10 tyX10 tyX10_ok nmX10 rfl 17 36 (by decide) (by decide) (by decide)))).symm
            have m13827 := m13806.trans (Wr.neI wH13813 (Or.inr (x_apart hKT hts inX10 tyX10 tyX10_ok nmX10 rfl 18 36 (by decide) (by decide) (by decide)))).symm
            have m13828 := (Wr.neI wH13813 (Or.inr (x_apart hKT hts inX10 tyX10 tyX10_ok nmX10 rfl 0 36 (by decide) (by decide) (by decide)))).trans m13807
            have m13829 := (Wr.neI wH13813 (Or.inr (x_apart hKT hts inX10 tyX10 tyX10_ok nmX10 rfl 41 36 (by decide) (by decide) (by decide)))).trans m13808
            have m13830 := (Wr.neI wH13813 (Or.inr (x_apart hKT hts inX10 tyX10 tyX10_ok nmX10 rfl 42 36 (by decide) (by decide) (by decide)))).trans m13809
            have m13831 := (Wr.neI wH13813 (Or.inr (x_apart hKT hts inX10 tyX10 tyX10_ok nmX10 rfl 34 36 (by decide) (by decide) (by decide)))).trans m13810
            have m13832 := (Wr.neI wH13813 (Or.inr (x_apart hKT hts inX10 tyX10 tyX10_ok nmX10 rfl 19 36 (by decide) (by decide) (by decide)))).trans m13811
            have m13833 := (Wr.neI wH13813 (Or.inr (x_apart hKT hts inX10 tyX10 tyX10_ok nmX10 rfl 35 36 (by decide) (by decide) (by decide)))).trans m13812
            have m13834 := Wr.I wH13813
            clear f13797 g13793 g13794 g13795 g13796 hTH13791 m13798 m13799 m13800 m13801 m13802 m13803 m13804 m13806 m13807 m13808 m13809 m13810 m13811 m13812 mf13792
            refine lv_aload_n hx hb dX10_text_79 rfl (lv_at hl13747 1 rfl) ?_
            obtain ⟨x13835, ex13835⟩ : ∃ z : Int32, z = fI H13813 a0 (K.1.2 10 20) := ⟨_, rfl⟩
            have bx13835 := ty_fi (x := x13835) (k := 20) ex13835 hTH13813 ga0 rg_112 rfl
            obtain ⟨x13836, ex13836⟩ : ∃ z : Int32, z = fI H13813 a0 (K.1.2 10 21) := ⟨_, rfl⟩
            have bx13836 := ty_fi (x := x13836) (k := 21) ex13836 hTH13813 ga0 rg_112 rfl
            obtain ⟨x13837, ex13837⟩ : ∃ z : Int32, z = fI H13813 a0 (K.1.2 10 22) := ⟨_, rfl⟩
            have bx13837 := ty_fi (x := x13837) (k := 22) ex13837 hTH13813 ga0 rg_112 rfl
            refine x_V (As := []) (rest := []) C (a_X10_reads_e l K G H13813 (0) (x13835) (x13836) (x13837) (tp) bt hTH13813 ga0 gtq m13826 (m13832).symm ex13835 ex13836 ex13837 m13827 g13815 g13816 g13817 g13818 (by omega) (hy1) f13819) yo_X10_reads wM_X10_242 ⟨⟨by decide, by decide⟩, by decide, by decide⟩ (x_rv C hTH13813 (ci := 10) rfl ga0 rg_112) rfl hl13747.1 rfl (Nat.le_of_ble_eq_true rfl) dX10_text_80 hSH13813 (AE_sub (fun _ _ => rfl) (by decide) hSH13813.1) (fun vH13838 H13838 locsH13838 pH13838 zH13838 kH13838 hSH13838 => ?_)
            obtain ⟨x13839, x13840, x13841, x13842, hvH13838, ex13839, ex13840, ex13841, ex13842, hrH13838, m13843, g13844, g13845, g13846, g13847, mf13848, m13849, m13850, m13851, hTH13838⟩ := pH13838
            subst hvH13838
            clear zH13838
            replace m13843 := EQN.mk m13843
            have f13852 : ∀ j : Nat, bt j = (fI H13838 tq j).toInt := fun j => (f13819 j).trans (congrArg Int32.toInt (fI_kept (x_lt hTH13813 kH13838 gtq (by decide))).symm)
            have m13853 := (m13820).trans (MF.r mf13848 (k := 32) (by decide) (by decide)).symm
            have m13854 := (m13821).trans (MF.r mf13848 (k := 33) (by decide) (by decide)).symm
            have m13855 := (m13822).trans (MF.r mf13848 (k := 29) (by decide) (by decide)).symm
            have m13856 := (m13823).trans (MF.r mf13848 (k := 30) (by decide) (by decide)).symm
            have m13857 := (m13824).trans (MF.r mf13848 (k := 31) (by decide) (by decide)).symm
            have m13858 := (m13825).trans (MF.r mf13848 (k := 24) (by decide) (by decide)).symm
            have m13859 := (m13826).trans (MF.r mf13848 (k := 17) (by decide) (by decide)).symm
            have m13860 := (m13827).trans (MF.i mf13848 (k := 18) (by decide) (by decide)).symm
            have m13861 := (MF.i mf13848 (k := 0) (by decide) (by decide)).trans m13828
            have m13862 := (MF.i mf13848 (k := 41) (by decide) (by decide)).trans m13829
            have m13863 := (MF.i mf13848 (k := 42) (by decide) (by decide)).trans m13830
            have m13864 := (MF.i mf13848 (k := 34) (by decide) (by decide)).trans m13831
            have m13865 := (MF.i mf13848 (k := 35) (by decide) (by decide)).trans m13833
            have m13866 := (MF.i mf13848 (k := 36) (by decide) (by decide)).trans m13834
            have mf13867 : MF K s.heap H13838 a0 [0, 18, 19, 20, 21, 22, 34, 35, 36, 38, 39, 40, 41, 42] := MF.trans mf13814 mf13848 (by decide)
            have bx13839 := ty_fi (x := x13839) (k := 19) ex13839 hTH13838 ga0 rg_112 rfl
            have bx13840 := ty_fi (x := x13840) (k := 20) ex13840 hTH13838 ga0 rg_112 rfl
            have bx13841 := ty_fi (x := x13841) (k := 21) ex13841 hTH13838 ga0 rg_112 rfl
            have bx13842 := ty_fi (x := x13842) (k := 22) ex13842 hTH13838 ga0 rg_112 rfl
            have cu13868 : CU bt tp.toNatClampNeg 0 x13840 x13839 x13841 x13842 := ⟨m13849, m13850, m13851, Nat.zero_le _⟩
            obtain ⟨r1H13838, r2H13838, r3H13838, r4H13838, r5H13838⟩ := hrH13838
            refine W.eq (g2 := F0 m 83 ls13746 []) rfl ?_
            refine lv_iload_n hx hb dX10_text_83 rfl (lv_at hl13747 0 rfl) ?_
            refine lv_if_eq (tgt := 94) hx hb dX10_text_84 (by decide) (fun c13869 => ?_) (fun c13869 => ?_)
            · have k13870 := i_eq c13869
              refine lv_iconst (v := (-1)) hx hb dX10_text_94 (by decide) ?_
              refine lv_istore (lv' := [(4, .int (-1)), (3, .int 0), (0, .ref a0), (1, .int x1), (2, .int x2)]) hx hb dX10_text_95 hl13747 (by decide) rfl (fun ls13871 hl13872 => ?_)
              refine lv_aload_n hx hb dX10_text_97 rfl (lv_at hl13872 2 rfl) ?_
              refine lv_iconst (v := 0) hx hb dX10_text_98 (by decide) ?_
              refine x_put C hTH13838 hSH13838 (ci := 10) (k := 18) (v := .int 0) (ty0 := tyX10) rfl inX10 tyX10_ok nmX10 (by decide) rfl wF_X10_185 ga0 rg_112 rfl rfl (okI (by have := i_rng (0 : Int32); omega) (by have := i_rng (0 : Int32); omega)) rfl rfl (AE_in ga0 (by decide)) dX10_text_99 (fun H13873 locsH13873 hTH13873 hSH13873 wH13873 => ?_)
              have mf13874 : MF K s.heap H13873 a0 [0, 18, 19, 20, 21, 22, 34, 35, 36, 38, 39, 40, 41, 42] := MF.fld hap wH13873 (by decide) (by decide) mf13867
              have g13875 : CG (avw K H13873 a0) := CG.congr (fun k hk j => av_fld hTH13838 ga0 hap wH13873 (by decide) (CG_ok 112 (by decide) k hk) (CG_ne 18 (by decide) k hk)) g13844
              have g13876 : TU (avw K H13873 a0) (svw K H13873 a0) := TU.congr (fun k hk j => av_fld hTH13838 ga0 hap wH13873 (by decide) (TU_ok 112 (by decide) k hk) (TU_ne 18 (by decide) k hk)) (fun k hk => sv_fld hap wH13873 (by decide) (TU_slt k hk) (TU_sne 18 (by decide) k hk)) g13845
              have g13877 : WD (avw K H13873 a0) := WD.congr (fun k hk j => av_fld hTH13838 ga0 hap wH13873 (by decide) (WD_ok 112 (by decide) k hk) (WD_ne 18 (by decide) k hk)) g13846
              have g13878 : IM (avw K H13873 a0) := IM.congr (fun k hk j => av_fld hTH13838 ga0 hap wH13873 (by decide) (IM_ok 112 (by decide) k hk) (IM_ne 18 (by decide) k hk)) g13847
              have f13879 : ∀ j : Nat, bt j = (fI H13873 tq j).toInt := fun j => (f13852 j).trans (congrArg Int32.toInt (Wr.neI wH13873 (Or.inl (G_ne gtq ga0 (by decide)))).symm)
              have m13880 := m13853.trans (Wr.neR wH13873 (Or.inr (x_apart hKT hts inX10 tyX10 tyX10_ok nmX10 rfl 32 18 (by decide) (by decide) (by decide)))).symm
              have m13881 := m13854.trans (Wr.neR wH13873 (Or.inr (x_apart hKT hts inX10 tyX10 tyX10_ok nmX10 rfl 33 18 (by decide) (by decide) (by decide)))).symm
              have m13882 := m13855.trans (Wr.neR wH13873 (Or.inr (x_apart hKT hts inX10 tyX10 tyX10_ok nmX10 rfl 29 18 (by decide) (by decide) (by decide)))).symm
              have m13883 := m13856.trans (Wr.neR wH13873 (Or.inr (x_apart hKT hts inX10 tyX10 tyX10_ok nmX10 rfl 30 18 (by decide) (by decide) (by decide)))).symm
              have m13884 := m13857.trans (Wr.neR wH13873 (Or.inr (x_apart hKT hts inX10 tyX10 tyX10_ok nmX10 rfl 31 18 (by decide) (by decide) (by decide)))).symm
              have m13885 := m13858.trans (Wr.neR wH13873 (Or.inr (x_apart hKT hts inX10 tyX10 tyX10_ok nmX10 rfl 24 18 (by decide) (by decide) (by decide)))).symm
              have m13886 := m13843.trans (Wr.neR wH13873 (Or.inr (x_apart hKT hts inX10 tyX10 tyX10_ok nmX10 rfl 17 18 (by decide) (by decide) (by decide)))).symm
              have m13888 := (Wr.neI wH13873 (Or.inr (x_apart hKT hts inX10 tyX10 tyX10_ok nmX10 rfl 0 18 (by decide) (by decide) (by decide)))).trans m13861
              have m13889 := (Wr.neI wH13873 (Or.inr (x_apart hKT hts inX10 tyX10 tyX10_ok nmX10 rfl 41 18 (by decide) (by decide) (by decide)))).trans m13862
              have m13890 := (Wr.neI wH13873 (Or.inr (x_apart hKT hts inX10 tyX10 tyX10_ok nmX10 rfl 42 18 (by decide) (by decide) (by decide)))).trans m13863
              have m13891 := (Wr.neI wH13873 (Or.inr (x_apart hKT hts inX10 tyX10 tyX10_ok nmX10 rfl 34 18 (by decide) (by decide) (by decide)))).trans m13864
              have m13892 := (Wr.neI wH13873 (Or.inr (x_apart hKT hts inX10 tyX10 tyX10_ok nmX10 rfl 35 18 (by decide) (by decide) (by decide)))).trans m13865
              have m13893 := (Wr.neI wH13873 (Or.inr (x_apart hKT hts inX10 tyX10 tyX10_ok nmX10 rfl 36 18 (by decide) (by decide) (by decide)))).trans m13866
              have m13894 := ex13839.trans (Wr.neI wH13873 (Or.inr (x_apart hKT hts inX10 tyX10 tyX10_ok nmX10 rfl 19 18 (by decide) (by decide) (by decide)))).symm
              have m13895 := ex13840.trans (Wr.neI wH13873 (Or.inr (x_apart hKT hts inX10 tyX10 tyX10_ok nmX10 rfl 20 18 (by decide) (by decide) (by decide)))).symm
              have m13896 := ex13841.trans (Wr.neI wH13873 (Or.inr (x_apart hKT hts inX10 tyX10 tyX10_ok nmX10 rfl 21 18 (by decide) (by decide) (by decide)))).symm
              have m13897 := ex13842.trans (Wr.neI wH13873 (Or.inr (x_apart hKT hts inX10 tyX10 tyX10_ok nmX10 rfl 22 18 (by decide) (by decide) (by decide)))).symm
              have m13898 := Wr.I wH13873
              clear ex13839 ex13840 ex13841 ex13842 f13852 g13844 g13845 g13846 g13847 hTH13838 m13843 m13853 m13854 m13855 m13856 m13857 m13858 m13860 m13861 m13862 m13863 m13864 m13865 m13866 mf13867
              refine lv_iload_n hx hb dX10_text_102 rfl (lv_at hl13872 1 rfl) ?_
              refine lv_if_eq (tgt := 128) hx hb dX10_text_103 (by decide) (fun c13899 => ?_) (fun c13899 => ?_)
              · have k13900 := i_eq c13899
                refine lv_iload hx hb dX10_text_128 (lv_at hl13872 0 rfl) ?_
                refine lv_iconst (v := (-1)) hx hb dX10_text_130 (by decide) ?_
                refine lv_icmp_ne (tgt := 136) hx hb dX10_text_131 (by decide) (fun c13901 => ?_) (fun c13901 => ?_)
                · have k13902 := i_ne c13901
                  exfalso
                  omega
                · have k13902 := i_eq c13901
                  refine lv_iconst (v := (-1)) hx hb dX10_text_134 (by decide) ?_
                  exact x_iret C hQ dX10_text_135 hSH13873 (by decide) (by decide) (⟨(-1), 0, 0, rfl, (m13892).symm, (m13898).symm, by omega, m13880, m13881, m13882, m13883, m13884, m13885, m13886, g13875, g13876, g13877, g13878, mf13874, Or.inr ⟨by omega, by omega, by omega⟩, hTH13873⟩)
              · have k13900 := i_ne c13899
                exfalso
                omega
            · have k13870 := i_ne c13869
              exfalso
              omega
        · have k13745 := i_ne c13744
          exfalso
          omega
  · have k13170 := i_eq c13169
    refine lv_aload_n hx hb dX10_text_19 rfl (lv_at hl 0 rfl) ?_
    refine lv_iload_n hx hb dX10_text_20 rfl (lv_at hl 2 rfl) ?_
    refine lv_iconst (v := 0) hx hb dX10_text_21 (by decide) ?_
    refine lv_iconst (v := 1) hx hb dX10_text_22 (by decide) ?_
    refine x_V (As := [.int x2, .int 0, .int 1]) (rest := []) C (c_X10_isIn l K G H13150 (x2) (0) (1) hTH13150 ga0) yo_X10_isIn wM_X10_177 ⟨⟨by decide, by decide⟩, by decide, by decide⟩ (x_rv C hTH13150 (ci := 10) rfl ga0 rg_112) rfl hl.1 rfl (Nat.le_of_ble_eq_true rfl) dX10_text_23 hSH13150 (AE_sub (fun _ _ => rfl) (by decide) hSH13150.1) (fun vH13903 H13903 locsH13903 pH13903 zH13903 kH13903 hSH13903 => ?_)
    have hqH13903 := pH13903.1.symm
    subst hqH13903
    rcases pH13903.2 with ⟨hvH13903, hcH13903⟩ | ⟨hvH13903, hcH13903⟩
    · subst hvH13903
      refine W.eq (g2 := F0 m 26 ls [.int 1]) rfl ?_
      refine lv_if_ne (tgt := 44) hx hb dX10_text_26 (by decide) (fun c13904 => ?_) (fun c13904 => ?_)
      · have k13905 := i_ne c13904
        refine lv_iconst (v := 1) hx hb dX10_text_44 (by decide) ?_
        refine lv_goto (tgt := 49) hx hb dX10_text_45 (by decide) ?_
        refine lv_istore_n (lv' := [(3, .int 1), (0, .ref a0), (1, .int x1), (2, .int x2)]) hx hb dX10_text_49 rfl hl (by decide) rfl (fun ls13906 hl13907 => ?_)
        refine lv_aload_n hx hb dX10_text_50 rfl (lv_at hl13907 1 rfl) ?_
        refine lv_iload_n hx hb dX10_text_51 rfl (lv_at hl13907 2 rfl) ?_
        refine lv_iconst (v := 1) hx hb dX10_text_52 (by decide) ?_
        refine lv_icmp_ne (tgt := 60) hx hb dX10_text_53 (by decide) (fun c13908 => ?_) (fun c13908 => ?_)
        · have k13909 := i_ne c13908
          refine lv_iconst (v := 0) hx hb dX10_text_60 (by decide) ?_
          refine x_put C hTH13150 hSH13903 (ci := 10) (k := 34) (v := .int 0) (ty0 := tyX10) rfl inX10 tyX10_ok nmX10 (by decide) rfl wF_X10_231 ga0 rg_112 rfl rfl (okI (by have := i_rng (0 : Int32); omega) (by have := i_rng (0 : Int32); omega)) rfl rfl (AE_in ga0 (by decide)) dX10_text_61 (fun H13910 locsH13910 hTH13910 hSH13910 wH13910 => ?_)
          have mf13911 : MF K s.heap H13910 a0 [0, 18, 19, 20, 21, 22, 34, 35, 36, 38, 39, 40, 41, 42] := MF.fld hap wH13910 (by decide) (by decide) mf13151
          have g13912 : CG (avw K H13910 a0) := CG.congr (fun k hk j => av_fld hTH13150 ga0 hap wH13910 (by decide) (CG_ok 112 (by decide) k hk) (CG_ne 34 (by decide) k hk)) g13152
          have g13913 : TU (avw K H13910 a0) (svw K H13910 a0) := TU.congr (fun k hk j => av_fld hTH13150 ga0 hap wH13910 (by decide) (TU_ok 112 (by decide) k hk) (TU_ne 34 (by decide) k hk)) (fun k hk => sv_fld hap wH13910 (by decide) (TU_slt k hk) (TU_sne 34 (by decide) k hk)) g13153
          have g13914 : WD (avw K H13910 a0) := WD.congr (fun k hk j => av_fld hTH13150 ga0 hap wH13910 (by decide) (WD_ok 112 (by decide) k hk) (WD_ne 34 (by decide) k hk)) g13154
          have g13915 : IM (avw K H13910 a0) := IM.congr (fun k hk j => av_fld hTH13150 ga0 hap wH13910 (by decide) (IM_ok 112 (by decide) k hk) (IM_ne 34 (by decide) k hk)) g13155
          have f13916 : ∀ j : Nat, bt j = (fI H13910 tq j).toInt := fun j => (f13156 j).trans (congrArg Int32.toInt (Wr.neI wH13910 (Or.inl (G_ne gtq ga0 (by decide)))).symm)
          have m13917 := m13157.trans (Wr.neR wH13910 (Or.inr (x_apart hKT hts inX10 tyX10 tyX10_ok nmX10 rfl 32 34 (by decide) (by decide) (by decide)))).symm
          have m13918 := m13158.trans (Wr.neR wH13910 (Or.inr (x_apart hKT hts inX10 tyX10 tyX10_ok nmX10 rfl 33 34 (by decide) (by decide) (by decide)))).symm
          have m13919 := m13159.trans (Wr.neR wH13910 (Or.inr (x_apart hKT hts inX10 tyX10 tyX10_ok nmX10 rfl 29 34 (by decide) (by decide) (by decide)))).symm
          have m13920 := m13160.trans (Wr.neR wH13910 (Or.inr (x_apart hKT hts inX10 tyX10 tyX10_ok nmX10 rfl 30 34 (by decide) (by decide) (by decide)))).symm
          have m13921 := m13161.trans (Wr.neR wH13910 (Or.inr (x_apart hKT hts inX10 tyX10 tyX10_ok nmX10 rfl 31 34 (by decide) (by decide) (by decide)))).symm
          have m13922 := m13162.trans (Wr.neR wH13910 (Or.inr (x_apart hKT hts inX10 tyX10 tyX10_ok nmX10 rfl 24 34 (by decide) (by decide) (by decide)))).symm
          have m13923 := m13163.trans (Wr.neR wH13910 (Or.inr (x_apart hKT hts inX10 tyX10 tyX10_ok nmX10 rfl 17 34 (by decide) (by decide) (by decide)))).symm
          have m13924 := m13164.trans (Wr.neI wH13910 (Or.inr (x_apart hKT hts inX10 tyX10 tyX10_ok nmX10 rfl 35 34 (by decide) (by decide) (by decide)))).symm
          have m13925 := m13165.trans (Wr.neI wH13910 (Or.inr (x_apart hKT hts inX10 tyX10 tyX10_ok nmX10 rfl 18 34 (by decide) (by decide) (by decide)))).symm
          have m13926 := (Wr.neI wH13910 (Or.inr (x_apart hKT hts inX10 tyX10 tyX10_ok nmX10 rfl 0 34 (by decide) (by decide) (by decide)))).trans m13166
          have m13927 := (Wr.neI wH13910 (Or.inr (x_apart hKT hts inX10 tyX10 tyX10_ok nmX10 rfl 41 34 (by decide) (by decide) (by decide)))).trans m13167
          have m13928 := (Wr.neI wH13910 (Or.inr (x_apart hKT hts inX10 tyX10 tyX10_ok nmX10 rfl 42 34 (by decide) (by decide) (by decide)))).trans m13168
          have m13929 := Wr.I wH13910
          clear f13156 g13152 g13153 g13154 g13155 hTH13150 m13157 m13158 m13159 m13160 m13161 m13162 m13163 m13164 m13165 m13166 m13167 m13168 mf13151
          refine lv_aload_n hx hb dX10_text_64 rfl (lv_at hl13907 1 rfl) ?_
          refine lv_iconst (v := 0) hx hb dX10_text_65 (by decide) ?_
          refine x_put C hTH13910 hSH13910 (ci := 10) (k := 19) (v := .int 0) (ty0 := tyX10) rfl inX10 tyX10_ok nmX10 (by decide) rfl wF_X10_192 ga0 rg_112 rfl rfl (okI (by have := i_rng (0 : Int32); omega) (by have := i_rng (0 : Int32); omega)) rfl rfl (AE_in ga0 (by decide)) dX10_text_66 (fun H13930 locsH13930 hTH13930 hSH13930 wH13930 => ?_)
          have mf13931 : MF K s.heap H13930 a0 [0, 18, 19, 20, 21, 22, 34, 35, 36, 38, 39, 40, 41, 42] := MF.fld hap wH13930 (by decide) (by decide) mf13911
          have g13932 : CG (avw K H13930 a0) := CG.congr (fun k hk j => av_fld hTH13910 ga0 hap wH13930 (by decide) (CG_ok 112 (by decide) k hk) (CG_ne 19 (by decide) k hk)) g13912
          have g13933 : TU (avw K H13930 a0) (svw K H13930 a0) := TU.congr (fun k hk j => av_fld hTH13910 ga0 hap wH13930 (by decide) (TU_ok 112 (by decide) k hk) (TU_ne 19 (by decide) k hk)) (fun k hk => sv_fld hap wH13930 (by decide) (TU_slt k hk) (TU_sne 19 (by decide) k hk)) g13913
          have g13934 : WD (avw K H13930 a0) := WD.congr (fun k hk j => av_fld hTH13910 ga0 hap wH13930 (by decide) (WD_ok 112 (by decide) k hk) (WD_ne 19 (by decide) k hk)) g13914
          have g13935 : IM (avw K H13930 a0) := IM.congr (fun k hk j => av_fld hTH13910 ga0 hap wH13930 (by decide) (IM_ok 112 (by decide) k hk) (IM_ne 19 (by decide) k hk)) g13915
          have f13936 : ∀ j : Nat, bt j = (fI H13930 tq j).toInt := fun j => (f13916 j).trans (congrArg Int32.toInt (Wr.neI wH13930 (Or.inl (G_ne gtq ga0 (by decide)))).symm)
          have m13937 := m13917.trans (Wr.neR wH13930 (Or.inr (x_apart hKT hts inX10 tyX10 tyX10_ok nmX10 rfl 32 19 (by decide) (by decide) (by decide)))).symm
          have m13938 := m13918.trans (Wr.neR wH13930 (Or.inr (x_apart hKT hts inX10 tyX10 tyX10_ok nmX10 rfl 33 19 (by decide) (by decide) (by decide)))).symm
          have m13939 := m13919.trans (Wr.neR wH13930 (Or.inr (x_apart hKT hts inX10 tyX10 tyX10_ok nmX10 rfl 29 19 (by decide) (by decide) (by decide)))).symm
          have m13940 := m13920.trans (Wr.neR wH13930 (Or.inr (x_apart hKT hts inX10 tyX10 tyX10_ok nmX10 rfl 30 19 (by decide) (by decide) (by decide)))).symm
          have m13941 := m13921.trans (Wr.neR wH13930 (Or.inr (x_apart hKT hts inX10 tyX10 tyX10_ok nmX10 rfl 31 19 (by decide) (by decide) (by decide)))).symm
          have m13942 := m13922.trans (Wr.neR wH13930 (Or.inr (x_apart hKT hts inX10 tyX10 tyX10_ok nmX10 rfl 24 19 (by decide) (by decide) (by decide)))).symm
          have m13943 := m13923.trans (Wr.neR wH13930 (Or.inr (x_apart hKT hts inX10 tyX10 tyX10_ok nmX10 rfl 17 19 (by decide) (by decide) (by decide)))).symm
          have m13944 := m13924.trans (Wr.neI wH13930 (Or.inr (x_apart hKT hts inX10 tyX10 tyX10_ok nmX10 rfl 35 19 (by decide) (by decide) (by decide)))).symm
          have m13945 := m13925.trans (Wr.neI wH13930 (Or.inr (x_apart hKT hts inX10 tyX10 tyX10_ok nmX10 rfl 18 19 (by decide) (by decide) (by decide)))).symm
          have m13946 := (Wr.neI wH13930 (Or.inr (x_apart hKT hts inX10 tyX10 tyX10_ok nmX10 rfl 0 19 (by decide) (by decide) (by decide)))).trans m13926
          have m13947 := (Wr.neI wH13930 (Or.inr (x_apart hKT hts inX10 tyX10 tyX10_ok nmX10 rfl 41 19 (by decide) (by decide) (by decide)))).trans m13927
          have m13948 := (Wr.neI wH13930 (Or.inr (x_apart hKT hts inX10 tyX10 tyX10_ok nmX10 rfl 42 19 (by decide) (by decide) (by decide)))).trans m13928
          have m13949 := (Wr.neI wH13930 (Or.inr (x_apart hKT hts inX10 tyX10 tyX10_ok nmX10 rfl 34 19 (by decide) (by decide) (by decide)))).trans m13929
          have m13950 := Wr.I wH13930
          clear f13916 g13912 g13913 g13914 g13915 hTH13910 m13917 m13918 m13919 m13920 m13921 m13922 m13923 m13924 m13925 m13926 m13927 m13928 m13929 mf13911
          refine lv_aload_n hx hb dX10_text_69 rfl (lv_at hl13907 1 rfl) ?_
          refine lv_iconst (v := 0) hx hb dX10_text_70 (by decide) ?_
          refine x_put C hTH13930 hSH13930 (ci := 10) (k := 35) (v := .int 0) (ty0 := tyX10) rfl inX10 tyX10_ok nmX10 (by decide) rfl wF_X10_228 ga0 rg_112 rfl rfl (okI (by have := i_rng (0 : Int32); omega) (by have := i_rng (0 : Int32); omega)) rfl rfl (AE_in ga0 (by decide)) dX10_text_71 (fun H13951 locsH13951 hTH13951 hSH13951 wH13951 => ?_)
          have mf13952 : MF K s.heap H13951 a0 [0, 18, 19, 20, 21, 22, 34, 35, 36, 38, 39, 40, 41, 42] := MF.fld hap wH13951 (by decide) (by decide) mf13931
          have g13953 : CG (avw K H13951 a0) := CG.congr (fun k hk j => av_fld hTH13930 ga0 hap wH13951 (by decide) (CG_ok 112 (by decide) k hk) (CG_ne 35 (by decide) k hk)) g13932
          have g13954 : TU (avw K H13951 a0) (svw K H13951 a0) := TU.congr (fun k hk j => av_fld hTH13930 ga0 hap wH13951 (by decide) (TU_ok 112 (by decide) k hk) (TU_ne 35 (by decide) k hk)) (fun k hk => sv_fld hap wH13951 (by decide) (TU_slt k hk) (TU_sne 35 (by decide) k hk)) g13933
          have g13955 : WD (avw K H13951 a0) := WD.congr (fun k hk j => av_fld hTH13930 ga0 hap wH13951 (by decide) (WD_ok 112 (by decide) k hk) (WD_ne 35 (by decide) k hk)) g13934
          have g13956 : IM (avw K H13951 a0) := IM.congr (fun k hk j => av_fld hTH13930 ga0 hap wH13951 (by decide) (IM_ok 112 (by decide) k hk) (IM_ne 35 (by decide) k hk)) g13935
          have f13957 : ∀ j : Nat, bt j = (fI H13951 tq j).toInt := fun j => (f13936 j).trans (congrArg Int32.toInt (Wr.neI wH13951 (Or.inl (G_ne gtq ga0 (by decide)))).symm)
          have m13958 := m13937.trans (Wr.neR wH13951 (Or.inr (x_apart hKT hts inX10 tyX10 tyX10_ok nmX10 rfl 32 35 (by decide) (by decide) (by decide)))).symm
          have m13959 := m13938.trans (Wr.neR wH13951 (Or.inr (x_apart hKT hts inX10 tyX10 tyX10_ok nmX10 rfl 33 35 (by decide) (by decide) (by decide)))).symm
          have m13960 := m13939.trans (Wr.neR wH13951 (Or.inr (x_apart hKT hts inX10 tyX10 tyX10_ok nmX10 rfl 29 35 (by decide) (by decide) (by decide)))).symm
          have m13961 := m13940.trans (Wr.neR wH13951 (Or.inr (x_apart hKT hts inX10 tyX10 tyX10_ok nmX10 rfl 30 35 (by decide) (by decide) (by decide)))).symm
          have m13962 := m13941.trans (Wr.neR wH13951 (Or.inr (x_apart hKT hts inX10 tyX10 tyX10_ok nmX10 rfl 31 35 (by decide) (by decide) (by decide)))).symm
          have m13963 := m13942.trans (Wr.neR wH13951 (Or.inr (x_apart hKT hts inX10 tyX10 tyX10_ok nmX10 rfl 24 35 (by decide) (by decide) (by decide)))).symm
          have m13964 := m13943.trans (Wr.neR wH13951 (Or.inr (x_apart hKT hts inX10 tyX10 tyX10_ok nmX10 rfl 17 35 (by decide) (by decide) (by decide)))).symm
          have m13966 := m13945.trans (Wr.neI wH13951 (Or.inr (x_apart hKT hts inX10 tyX10 tyX10_ok nmX10 rfl 18 35 (by decide) (by decide) (by decide)))).symm
          have m13967 := (Wr.neI wH13951 (Or.inr (x_apart hKT hts inX10 tyX10 tyX10_ok nmX10 rfl 0 35 (by decide) (by decide) (by decide)))).trans m13946
          have m13968 := (Wr.neI wH13951 (Or.inr (x_apart hKT hts inX10 tyX10 tyX10_ok nmX10 rfl 41 35 (by decide) (by decide) (by decide)))).trans m13947
          have m13969 := (Wr.neI wH13951 (Or.inr (x_apart hKT hts inX10 tyX10 tyX10_ok nmX10 rfl 42 35 (by decide) (by decide) (by decide)))).trans m13948
          have m13970 := (Wr.neI wH13951 (Or.inr (x_apart hKT hts inX10 tyX10 tyX10_ok nmX10 rfl 34 35 (by decide) (by decide) (by decide)))).trans m13949
          have m13971 := (Wr.neI wH13951 (Or.inr (x_apart hKT hts inX10 tyX10 tyX10_ok nmX10 rfl 19 35 (by decide) (by decide) (by decide)))).trans m13950
          have m13972 := Wr.I wH13951
          clear f13936 g13932 g13933 g13934 g13935 hTH13930 m13937 m13938 m13939 m13940 m13941 m13942 m13943 m13944 m13945 m13946 m13947 m13948 m13949 m13950 mf13931
          refine lv_aload_n hx hb dX10_text_74 rfl (lv_at hl13907 1 rfl) ?_
          refine lv_iconst (v := 0) hx hb dX10_text_75 (by decide) ?_
          refine x_put C hTH13951 hSH13951 (ci := 10) (k := 36) (v := .int 0) (ty0 := tyX10) rfl inX10 tyX10_ok nmX10 (by decide) rfl wF_X10_261 ga0 rg_112 rfl rfl (okI (by have := i_rng (0 : Int32); omega) (by have := i_rng (0 : Int32); omega)) rfl rfl (AE_in ga0 (by decide)) dX10_text_76 (fun H13973 locsH13973 hTH13973 hSH13973 wH13973 => ?_)
          have mf13974 : MF K s.heap H13973 a0 [0, 18, 19, 20, 21, 22, 34, 35, 36, 38, 39, 40, 41, 42] := MF.fld hap wH13973 (by decide) (by decide) mf13952
          have g13975 : CG (avw K H13973 a0) := CG.congr (fun k hk j => av_fld hTH13951 ga0 hap wH13973 (by decide) (CG_ok 112 (by decide) k hk) (CG_ne 36 (by decide) k hk)) g13953
          have g13976 : TU (avw K H13973 a0) (svw K H13973 a0) := TU.congr (fun k hk j => av_fld hTH13951 ga0 hap wH13973 (by decide) (TU_ok 112 (by decide) k hk) (TU_ne 36 (by decide) k hk)) (fun k hk => sv_fld hap wH13973 (by decide) (TU_slt k hk) (TU_sne 36 (by decide) k hk)) g13954
          have g13977 : WD (avw K H13973 a0) := WD.congr (fun k hk j => av_fld hTH13951 ga0 hap wH13973 (by decide) (WD_ok 112 (by decide) k hk) (WD_ne 36 (by decide) k hk)) g13955
          have g13978 : IM (avw K H13973 a0) := IM.congr (fun k hk j => av_fld hTH13951 ga0 hap wH13973 (by decide) (IM_ok 112 (by decide) k hk) (IM_ne 36 (by decide) k hk)) g13956
          have f13979 : ∀ j : Nat, bt j = (fI H13973 tq j).toInt := fun j => (f13957 j).trans (congrArg Int32.toInt (Wr.neI wH13973 (Or.inl (G_ne gtq ga0 (by decide)))).symm)
          have m13980 := m13958.trans (Wr.neR wH13973 (Or.inr (x_apart hKT hts inX10 tyX10 tyX10_ok nmX10 rfl 32 36 (by decide) (by decide) (by decide)))).symm
          have m13981 := m13959.trans (Wr.neR wH13973 (Or.inr (x_apart hKT hts inX10 tyX10 tyX10_ok nmX10 rfl 33 36 (by decide) (by decide) (by decide)))).symm
          have m13982 := m13960.trans (Wr.neR wH13973 (Or.inr (x_apart hKT hts inX10 tyX10 tyX10_ok nmX10 rfl 29 36 (by decide) (by decide) (by decide)))).symm
          have m13983 := m13961.trans (Wr.neR wH13973 (Or.inr (x_apart hKT hts inX10 tyX10 tyX10_ok nmX10 rfl 30 36 (by decide) (by decide) (by decide)))).symm
          have m13984 := m13962.trans (Wr.neR wH13973 (Or.inr (x_apart hKT hts inX10 tyX10 tyX10_ok nmX10 rfl 31 36 (by decide) (by decide) (by decide)))).symm
          have m13985 := m13963.trans (Wr.neR wH13973 (Or.inr (x_apart hKT hts inX10 tyX10 tyX10_ok nmX10 rfl 24 36 (by decide) (by decide) (by decide)))).symm
          have m13986 := m13964.trans (Wr.neR wH13973 (Or.inr (x_apart hKT hts inX10 tyX10 tyX10_ok nmX10 rfl 17 36 (by decide) (by decide) (by decide)))).symm
          have m13987 := m13966.trans (Wr.neI wH13973 (Or.inr (x_apart hKT hts inX10 tyX10 tyX10_ok nmX10 rfl 18 36 (by decide) (by decide) (by decide)))).symm
          have m13988 := (Wr.neI wH13973 (Or.inr (x_apart hKT hts inX10 tyX10 tyX10_ok nmX10 rfl 0 36 (by decide) (by decide) (by decide)))).trans m13967
          have m13989 := (Wr.neI wH13973 (Or.inr (x_apart hKT hts inX10 tyX10 tyX10_ok nmX10 rfl 41 36 (by decide) (by decide) (by decide)))).trans m13968
          have m13990 := (Wr.neI wH13973 (Or.inr (x_apart hKT hts inX10 tyX10 tyX10_ok nmX10 rfl 42 36 (by decide) (by decide) (by decide)))).trans m13969
          have m13991 := (Wr.neI wH13973 (Or.inr (x_apart hKT hts inX10 tyX10 tyX10_ok nmX10 rfl 34 36 (by decide) (by decide) (by decide)))).trans m13970
          have m13992 := (Wr.neI wH13973 (Or.inr (x_apart hKT hts inX10 tyX10 tyX10_ok nmX10 rfl 19 36 (by decide) (by decide) (by decide)))).trans m13971
          have m13993 := (Wr.neI wH13973 (Or.inr (x_apart hKT hts inX10 tyX10 tyX10_ok nmX10 rfl 35 36 (by decide) (by decide) (by decide)))).trans m13972
          have m13994 := Wr.I wH13973
          clear f13957 g13953 g13954 g13955 g13956 hTH13951 m13958 m13959 m13960 m13961 m13962 m13963 m13964 m13966 m13967 m13968 m13969 m13970 m13971 m13972 mf13952
          refine lv_aload_n hx hb dX10_text_79 rfl (lv_at hl13907 1 rfl) ?_
          obtain ⟨x13995, ex13995⟩ : ∃ z : Int32, z = fI H13973 a0 (K.1.2 10 20) := ⟨_, rfl⟩
          have bx13995 := ty_fi (x := x13995) (k := 20) ex13995 hTH13973 ga0 rg_112 rfl
          obtain ⟨x13996, ex13996⟩ : ∃ z : Int32, z = fI H13973 a0 (K.1.2 10 21) := ⟨_, rfl⟩
          have bx13996 := ty_fi (x := x13996) (k := 21) ex13996 hTH13973 ga0 rg_112 rfl
          obtain ⟨x13997, ex13997⟩ : ∃ z : Int32, z = fI H13973 a0 (K.1.2 10 22) := ⟨_, rfl⟩
          have bx13997 := ty_fi (x := x13997) (k := 22) ex13997 hTH13973 ga0 rg_112 rfl
          refine x_V (As := []) (rest := []) C (a_X10_reads_e l K G H13973 (0) (x13995) (x13996) (x13997) (tp) bt hTH13973 ga0 gtq m13986 (m13992).symm ex13995 ex13996 ex13997 m13987 g13975 g13976 g13977 g13978 (by omega) (hy1) f13979) yo_X10_reads wM_X10_242 ⟨⟨by decide, by decide⟩, by decide, by decide⟩ (x_rv C hTH13973 (ci := 10) rfl ga0 rg_112) rfl hl13907.1 rfl (Nat.le_of_ble_eq_true rfl) dX10_text_80 hSH13973 (AE_sub (fun _ _ => rfl) (by decide) hSH13973.1) (fun vH13998 H13998 locsH13998 pH13998 zH13998 kH13998 hSH13998 => ?_)
          obtain ⟨x13999, x14000, x14001, x14002, hvH13998, ex13999, ex14000, ex14001, ex14002, hrH13998, m14003, g14004, g14005, g14006, g14007, mf14008, m14009, m14010, m14011, hTH13998⟩ := pH13998
          subst hvH13998
          clear zH13998
          replace m14003 := EQN.mk m14003
          have f14012 : ∀ j : Nat, bt j = (fI H13998 tq j).toInt := fun j => (f13979 j).trans (congrArg Int32.toInt (fI_kept (x_lt hTH13973 kH13998 gtq (by decide))).symm)
          have m14013 := (m13980).trans (MF.r mf14008 (k := 32) (by decide) (by decide)).symm
          have m14014 := (m13981).trans (MF.r mf14008 (k := 33) (by decide) (by decide)).symm
          have m14015 := (m13982).trans (MF.r mf14008 (k := 29) (by decide) (by decide)).symm
          have m14016 := (m13983).trans (MF.r mf14008 (k := 30) (by decide) (by decide)).symm
          have m14017 := (m13984).trans (MF.r mf14008 (k := 31) (by decide) (by decide)).symm
          have m14018 := (m13985).trans (MF.r mf14008 (k := 24) (by decide) (by decide)).symm
          have m14019 := (m13986).trans (MF.r mf14008 (k := 17) (by decide) (by decide)).symm
          have m14020 := (m13987).trans (MF.i mf14008 (k := 18) (by decide) (by decide)).symm
          have m14021 := (MF.i mf14008 (k := 0) (by decide) (by decide)).trans m13988
          have m14022 := (MF.i mf14008 (k := 41) (by decide) (by decide)).trans m13989
          have m14023 := (MF.i mf14008 (k := 42) (by decide) (by decide)).trans m13990
          have m14024 := (MF.i mf14008 (k := 34) (by decide) (by decide)).trans m13991
          have m14025 := (MF.i mf14008 (k := 35) (by decide) (by decide)).trans m13993
          have m14026 := (MF.i mf14008 (k := 36) (by decide) (by decide)).trans m13994
          have mf14027 : MF K s.heap H13998 a0 [0, 18, 19, 20, 21, 22, 34, 35, 36, 38, 39, 40, 41, 42] := MF.trans mf13974 mf14008 (by decide)
          have bx13999 := ty_fi (x := x13999) (k := 19) ex13999 hTH13998 ga0 rg_112 rfl
          have bx14000 := ty_fi (x := x14000) (k := 20) ex14000 hTH13998 ga0 rg_112 rfl
          have bx14001 := ty_fi (x := x14001) (k := 21) ex14001 hTH13998 ga0 rg_112 rfl
          have bx14002 := ty_fi (x := x14002) (k := 22) ex14002 hTH13998 ga0 rg_112 rfl
          have cu14028 : CU bt tp.toNatClampNeg 0 x14000 x13999 x14001 x14002 := ⟨m14009, m14010, m14011, Nat.zero_le _⟩
          obtain ⟨r1H13998, r2H13998, r3H13998, r4H13998, r5H13998⟩ := hrH13998
          refine W.eq (g2 := F0 m 83 ls13906 []) rfl ?_
          refine lv_iload_n hx hb dX10_text_83 rfl (lv_at hl13907 0 rfl) ?_
          refine lv_if_eq (tgt := 94) hx hb dX10_text_84 (by decide) (fun c14029 => ?_) (fun c14029 => ?_)
          · have k14030 := i_eq c14029
            exfalso
            omega
          · have k14030 := i_ne c14029
            refine lv_aload_n hx hb dX10_text_87 rfl (lv_at hl13907 1 rfl) ?_
            refine x_V (As := []) (rest := []) C (a_X10_readText_e l K G H13998 (x13999) (x14000) (x14001) (x14002) (0) (0) (tp) (0) (0) bt hTH13998 ga0 goq m14013 gaq m14014 gf9 m14015 gf0 m14016 gf1 m14017 gtq m14003 ex13999 ex14000 ex14001 ex14002 (m14025).symm (m14026).symm m14020 (m14024).symm g14004 g14005 g14006 g14007 (by omega) (by omega) (by omega) (cu14028) (hy1) f14012) yo_X10_readText wM_X10_295 ⟨⟨by decide, by decide⟩, by decide, by decide⟩ (x_rv C hTH13998 (ci := 10) rfl ga0 rg_112) rfl hl13907.1 rfl (Nat.le_of_ble_eq_true rfl) dX10_text_88 hSH13998 (AE_sub (fun _ _ => rfl) (by decide) hSH13998.1) (fun vH14031 H14031 locsH14031 pH14031 zH14031 kH14031 hSH14031 => ?_)
            obtain ⟨x14032, x14033, x14034, x14035, x14036, x14037, x14038, hvH14031, bx14032, ex14033, ex14034, ex14035, ex14036, ex14037, ex14038, hrH14031, m14039, m14040, m14041, m14042, m14043, m14044, g14045, g14046, g14047, g14048, mf14049, m14050, m14051, hTH14031⟩ := pH14031
            subst hvH14031
            clear zH14031
            replace m14039 := EQN.mk m14039
            replace m14040 := EQN.mk m14040
            replace m14041 := EQN.mk m14041
            replace m14042 := EQN.mk m14042
            replace m14043 := EQN.mk m14043
            replace m14044 := EQN.mk m14044
            have f14052 : ∀ j : Nat, bt j = (fI H14031 tq j).toInt := fun j => (f14012 j).trans (congrArg Int32.toInt (fI_kept (x_lt hTH13998 kH14031 gtq (by decide))).symm)
            have m14053 := (m14013).trans (MF.r mf14049 (k := 32) (by decide) (by decide)).symm
            have m14054 := (m14014).trans (MF.r mf14049 (k := 33) (by decide) (by decide)).symm
            have m14055 := (m14015).trans (MF.r mf14049 (k := 29) (by decide) (by decide)).symm
            have m14056 := (m14016).trans (MF.r mf14049 (k := 30) (by decide) (by decide)).symm
            have m14057 := (m14017).trans (MF.r mf14049 (k := 31) (by decide) (by decide)).symm
            have m14058 := (m14018).trans (MF.r mf14049 (k := 24) (by decide) (by decide)).symm
            have m14059 := (m14003).trans (MF.r mf14049 (k := 17) (by decide) (by decide)).symm
            have m14060 := (m14020).trans (MF.i mf14049 (k := 18) (by decide) (by decide)).symm
            have m14061 := (MF.i mf14049 (k := 0) (by decide) (by decide)).trans m14021
            have m14062 := (MF.i mf14049 (k := 41) (by decide) (by decide)).trans m14022
            have m14063 := (MF.i mf14049 (k := 42) (by decide) (by decide)).trans m14023
            have m14064 := (MF.i mf14049 (k := 34) (by decide) (by decide)).trans m14024
            have mf14065 : MF K s.heap H14031 a0 [0, 18, 19, 20, 21, 22, 34, 35, 36, 38, 39, 40, 41, 42] := MF.trans mf14027 mf14049 (by decide)
            have bx14033 := ty_fi (x := x14033) (k := 19) ex14033 hTH14031 ga0 rg_112 rfl
            have bx14034 := ty_fi (x := x14034) (k := 20) ex14034 hTH14031 ga0 rg_112 rfl
            have bx14035 := ty_fi (x := x14035) (k := 21) ex14035 hTH14031 ga0 rg_112 rfl
            have bx14036 := ty_fi (x := x14036) (k := 22) ex14036 hTH14031 ga0 rg_112 rfl
            have bx14037 := ty_fi (x := x14037) (k := 35) ex14037 hTH14031 ga0 rg_112 rfl
            have bx14038 := ty_fi (x := x14038) (k := 36) ex14038 hTH14031 ga0 rg_112 rfl
            refine W.eq (g2 := F0 m 91 ls13906 [.int x14032]) rfl ?_
            refine lv_goto (tgt := 95) hx hb dX10_text_91 (by decide) ?_
            refine lv_istore (lv' := [(4, .int x14032), (3, .int 1), (0, .ref a0), (1, .int x1), (2, .int x2)]) hx hb dX10_text_95 hl13907 (by decide) rfl (fun ls14066 hl14067 => ?_)
            refine lv_aload_n hx hb dX10_text_97 rfl (lv_at hl14067 2 rfl) ?_
            refine lv_iconst (v := 0) hx hb dX10_text_98 (by decide) ?_
            refine x_put C hTH14031 hSH14031 (ci := 10) (k := 18) (v := .int 0) (ty0 := tyX10) rfl inX10 tyX10_ok nmX10 (by decide) rfl wF_X10_185 ga0 rg_112 rfl rfl (okI (by have := i_rng (0 : Int32); omega) (by have := i_rng (0 : Int32); omega)) rfl rfl (AE_in ga0 (by decide)) dX10_text_99 (fun H14068 locsH14068 hTH14068 hSH14068 wH14068 => ?_)
            have mf14069 : MF K s.heap H14068 a0 [0, 18, 19, 20, 21, 22, 34, 35, 36, 38, 39, 40, 41, 42] := MF.fld hap wH14068 (by decide) (by decide) mf14065
            have g14070 : CG (avw K H14068 a0) := CG.congr (fun k hk j => av_fld hTH14031 ga0 hap wH14068 (by decide) (CG_ok 112 (by decide) k hk) (CG_ne 18 (by decide) k hk)) g14045
            have g14071 : TU (avw K H14068 a0) (svw K H14068 a0) := TU.congr (fun k hk j => av_fld hTH14031 ga0 hap wH14068 (by decide) (TU_ok 112 (by decide) k hk) (TU_ne 18 (by decide) k hk)) (fun k hk => sv_fld hap wH14068 (by decide) (TU_slt k hk) (TU_sne 18 (by decide) k hk)) g14046
            have g14072 : WD (avw K H14068 a0) := WD.congr (fun k hk j => av_fld hTH14031 ga0 hap wH14068 (by decide) (WD_ok 112 (by decide) k hk) (WD_ne 18 (by decide) k hk)) g14047
            have g14073 : IM (avw K H14068 a0) := IM.congr (fun k hk j => av_fld hTH14031 ga0 hap wH14068 (by decide) (IM_ok 112 (by decide) k hk) (IM_ne 18 (by decide) k hk)) g14048
            have f14074 : ∀ j : Nat, bt j = (fI H14068 tq j).toInt := fun j => (f14052 j).trans (congrArg Int32.toInt (Wr.neI wH14068 (Or.inl (G_ne gtq ga0 (by decide)))).symm)
            have m14075 := m14039.trans (Wr.neR wH14068 (Or.inr (x_apart hKT hts inX10 tyX10 tyX10_ok nmX10 rfl 32 18 (by decide) (by decide) (by decide)))).symm
            have m14076 := m14040.trans (Wr.neR wH14068 (Or.inr (x_apart hKT hts inX10 tyX10 tyX10_ok nmX10 rfl 33 18 (by decide) (by decide) (by decide)))).symm
            have m14077 := m14041.trans (Wr.neR wH14068 (Or.inr (x_apart hKT hts inX10 tyX10 tyX10_ok nmX10 rfl 29 18 (by decide) (by decide) (by decide)))).symm
            have m14078 := m14042.trans (Wr.neR wH14068 (Or.inr (x_apart hKT hts inX10 tyX10 tyX10_ok nmX10 rfl 30 18 (by decide) (by decide) (by decide)))).symm
            have m14079 := m14043.trans (Wr.neR wH14068 (Or.inr (x_apart hKT hts inX10 tyX10 tyX10_ok nmX10 rfl 31 18 (by decide) (by decide) (by decide)))).symm
            have m14080 := m14058.trans (Wr.neR wH14068 (Or.inr (x_apart hKT hts inX10 tyX10 tyX10_ok nmX10 rfl 24 18 (by decide) (by decide) (by decide)))).symm
            have m14081 := m14044.trans (Wr.neR wH14068 (Or.inr (x_apart hKT hts inX10 tyX10 tyX10_ok nmX10 rfl 17 18 (by decide) (by decide) (by decide)))).symm
            have m14083 := (Wr.neI wH14068 (Or.inr (x_apart hKT hts inX10 tyX10 tyX10_ok nmX10 rfl 0 18 (by decide) (by decide) (by decide)))).trans m14061
            have m14084 := (Wr.neI wH14068 (Or.inr (x_apart hKT hts inX10 tyX10 tyX10_ok nmX10 rfl 41 18 (by decide) (by decide) (by decide)))).trans m14062
            have m14085 := (Wr.neI wH14068 (Or.inr (x_apart hKT hts inX10 tyX10 tyX10_ok nmX10 rfl 42 18 (by decide) (by decide) (by decide)))).trans m14063
            have m14086 := (Wr.neI wH14068 (Or.inr (x_apart hKT hts inX10 tyX10 tyX10_ok nmX10 rfl 34 18 (by decide) (by decide) (by decide)))).trans m14064
            have m14087 := ex14033.trans (Wr.neI wH14068 (Or.inr (x_apart hKT hts inX10 tyX10 tyX10_ok nmX10 rfl 19 18 (by decide) (by decide) (by decide)))).symm
            have m14088 := ex14034.trans (Wr.neI wH14068 (Or.inr (x_apart hKT hts inX10 tyX10 tyX10_ok nmX10 rfl 20 18 (by decide) (by decide) (by decide)))).symm
            have m14089 := ex14035.trans (Wr.neI wH14068 (Or.inr (x_apart hKT hts inX10 tyX10 tyX10_ok nmX10 rfl 21 18 (by decide) (by decide) (by decide)))).symm
            have m14090 := ex14036.trans (Wr.neI wH14068 (Or.inr (x_apart hKT hts inX10 tyX10 tyX10_ok nmX10 rfl 22 18 (by decide) (by decide) (by decide)))).symm
            have m14091 := ex14037.trans (Wr.neI wH14068 (Or.inr (x_apart hKT hts inX10 tyX10 tyX10_ok nmX10 rfl 35 18 (by decide) (by decide) (by decide)))).symm
            have m14092 := ex14038.trans (Wr.neI wH14068 (Or.inr (x_apart hKT hts inX10 tyX10 tyX10_ok nmX10 rfl 36 18 (by decide) (by decide) (by decide)))).symm
            have m14093 := Wr.I wH14068
            clear ex14033 ex14034 ex14035 ex14036 ex14037 ex14038 f14052 g14045 g14046 g14047 g14048 hTH14031 m14039 m14040 m14041 m14042 m14043 m14044 m14058 m14060 m14061 m14062 m14063 m14064 mf14065
            refine lv_iload_n hx hb dX10_text_102 rfl (lv_at hl14067 1 rfl) ?_
            refine lv_if_eq (tgt := 128) hx hb dX10_text_103 (by decide) (fun c14094 => ?_) (fun c14094 => ?_)
            · have k14095 := i_eq c14094
              exfalso
              omega
            · have k14095 := i_ne c14094
              refine lv_iload hx hb dX10_text_106 (lv_at hl14067 0 rfl) ?_
              refine lv_iconst (v := (-1)) hx hb dX10_text_108 (by decide) ?_
              refine lv_icmp_ne (tgt := 128) hx hb dX10_text_109 (by decide) (fun c14096 => ?_) (fun c14096 => ?_)
              · have k14097 := i_ne c14096
                refine lv_iload hx hb dX10_text_128 (lv_at hl14067 0 rfl) ?_
                refine lv_iconst (v := (-1)) hx hb dX10_text_130 (by decide) ?_
                refine lv_icmp_ne (tgt := 136) hx hb dX10_text_131 (by decide) (fun c14098 => ?_) (fun c14098 => ?_)
                · have k14099 := i_ne c14098
                  refine lv_iload_n hx hb dX10_text_136 rfl (lv_at hl14067 3 rfl) ?_
                  refine lv_if_ne (tgt := 144) hx hb dX10_text_137 (by decide) (fun c14100 => ?_) (fun c14100 => ?_)
                  · have k14101 := i_ne c14100
                    exfalso
                    omega
                  · have k14101 := i_eq c14100
                    refine lv_iload_n hx hb dX10_text_140 rfl (lv_at hl14067 4 rfl) ?_
                    refine lv_goto (tgt := 147) hx hb dX10_text_141 (by decide) ?_
                    refine lv_istore (lv' := [(5, .int x2), (4, .int x14032), (3, .int 1), (0, .ref a0), (1, .int x1), (2, .int x2)]) hx hb dX10_text_147 hl14067 (by decide) rfl (fun ls14102 hl14103 => ?_)
                    have hDL := m14050.resolve_left (by omega)
                    replace hDL := DL.congr (fun j => Wr.neI wH14068 (Or.inl (G_ne gf9 ga0 (by decide)))) (fun j => Wr.neI wH14068 (Or.inl (G_ne gf0 ga0 (by decide)))) (fun j => Wr.neI wH14068 (Or.inl (G_ne gf1 ga0 (by decide)))) (fun j => Wr.neI wH14068 (Or.inl (G_ne goq ga0 (by decide)))) (fun j => Wr.neI wH14068 (Or.inl (G_ne gaq ga0 (by decide)))) hDL
                    exact J149  ls14102 H14068 locsH14068 (x14032) (x2) (x14037) (0) (lv_sub hl14103 [3, 1, 0] rfl) hTH14068 hSH14068 ⟨by have := i_rng x14032; omega, by have := i_rng x14032; omega⟩ ⟨by have := i_rng x2; omega, by have := i_rng x2; omega⟩ ⟨by have := i_rng x14037; omega, by have := i_rng x14037; omega⟩ (by decide) m14091 (m14093).symm m14075 m14076 m14077 m14078 m14079 m14080 m14081 mf14069 g14070 g14071 g14072 g14073 f14074 (by omega) (DL.cast hDL (by omega) (by omega)) (HD.mk (TXA.mk (by omega) (by rw [if_pos (by omega)]; rfl) m14051))
                · have k14099 := i_eq c14098
                  exfalso
                  omega
              · have k14097 := i_eq c14096
                refine lv_aload_n hx hb dX10_text_112 rfl (lv_at hl14067 2 rfl) ?_
                refine lv_aload_n hx hb dX10_text_113 rfl (lv_at hl14067 2 rfl) ?_
                refine x_gi C hTH14068 (ci := 10) (k := 39) rfl inX10 (by decide) wF_X10_222 ga0 rg_112 rfl dX10_text_114 (fun x14104 ex14104 bx14104 => ?_)
                refine x_put C hTH14068 hSH14068 (ci := 10) (k := 41) (v := .int x14104) (ty0 := tyX10) rfl inX10 tyX10_ok nmX10 (by decide) rfl wF_X10_292 ga0 rg_112 rfl rfl (okI (by have := i_rng x14104; omega) (by have := i_rng x14104; omega)) rfl rfl (AE_in ga0 (by decide)) dX10_text_117 (fun H14105 locsH14105 hTH14105 hSH14105 wH14105 => ?_)
                have mf14106 : MF K s.heap H14105 a0 [0, 18, 19, 20, 21, 22, 34, 35, 36, 38, 39, 40, 41, 42] := MF.fld hap wH14105 (by decide) (by decide) mf14069
                have g14107 : CG (avw K H14105 a0) := CG.congr (fun k hk j => av_fld hTH14068 ga0 hap wH14105 (by decide) (CG_ok 112 (by decide) k hk) (CG_ne 41 (by decide) k hk)) g14070
                have g14108 : TU (avw K H14105 a0) (svw K H14105 a0) := TU.congr (fun k hk j => av_fld hTH14068 ga0 hap wH14105 (by decide) (TU_ok 112 (by decide) k hk) (TU_ne 41 (by decide) k hk)) (fun k hk => sv_fld hap wH14105 (by decide) (TU_slt k hk) (TU_sne 41 (by decide) k hk)) g14071
                have g14109 : WD (avw K H14105 a0) := WD.congr (fun k hk j => av_fld hTH14068 ga0 hap wH14105 (by decide) (WD_ok 112 (by decide) k hk) (WD_ne 41 (by decide) k hk)) g14072
                have g14110 : IM (avw K H14105 a0) := IM.congr (fun k hk j => av_fld hTH14068 ga0 hap wH14105 (by decide) (IM_ok 112 (by decide) k hk) (IM_ne 41 (by decide) k hk)) g14073
                have f14111 : ∀ j : Nat, bt j = (fI H14105 tq j).toInt := fun j => (f14074 j).trans (congrArg Int32.toInt (Wr.neI wH14105 (Or.inl (G_ne gtq ga0 (by decide)))).symm)
                have m14112 := m14075.trans (Wr.neR wH14105 (Or.inr (x_apart hKT hts inX10 tyX10 tyX10_ok nmX10 rfl 32 41 (by decide) (by decide) (by decide)))).symm
                have m14113 := m14076.trans (Wr.neR wH14105 (Or.inr (x_apart hKT hts inX10 tyX10 tyX10_ok nmX10 rfl 33 41 (by decide) (by decide) (by decide)))).symm
                have m14114 := m14077.trans (Wr.neR wH14105 (Or.inr (x_apart hKT hts inX10 tyX10 tyX10_ok nmX10 rfl 29 41 (by decide) (by decide) (by decide)))).symm
                have m14115 := m14078.trans (Wr.neR wH14105 (Or.inr (x_apart hKT hts inX10 tyX10 tyX10_ok nmX10 rfl 30 41 (by decide) (by decide) (by decide)))).symm
                have m14116 := m14079.trans (Wr.neR wH14105 (Or.inr (x_apart hKT hts inX10 tyX10 tyX10_ok nmX10 rfl 31 41 (by decide) (by decide) (by decide)))).symm
                have m14117 := m14080.trans (Wr.neR wH14105 (Or.inr (x_apart hKT hts inX10 tyX10 tyX10_ok nmX10 rfl 24 41 (by decide) (by decide) (by decide)))).symm
                have m14118 := m14081.trans (Wr.neR wH14105 (Or.inr (x_apart hKT hts inX10 tyX10 tyX10_ok nmX10 rfl 17 41 (by decide) (by decide) (by decide)))).symm
                have m14119 := (Wr.neI wH14105 (Or.inr (x_apart hKT hts inX10 tyX10 tyX10_ok nmX10 rfl 0 41 (by decide) (by decide) (by decide)))).trans m14083
                have m14121 := (Wr.neI wH14105 (Or.inr (x_apart hKT hts inX10 tyX10 tyX10_ok nmX10 rfl 42 41 (by decide) (by decide) (by decide)))).trans m14085
                have m14122 := (Wr.neI wH14105 (Or.inr (x_apart hKT hts inX10 tyX10 tyX10_ok nmX10 rfl 34 41 (by decide) (by decide) (by decide)))).trans m14086
                have m14123 := m14087.trans (Wr.neI wH14105 (Or.inr (x_apart hKT hts inX10 tyX10 tyX10_ok nmX10 rfl 19 41 (by decide) (by decide) (by decide)))).symm
                have m14124 := m14088.trans (Wr.neI wH14105 (Or.inr (x_apart hKT hts inX10 tyX10 tyX10_ok nmX10 rfl 20 41 (by decide) (by decide) (by decide)))).symm
                have m14125 := m14089.trans (Wr.neI wH14105 (Or.inr (x_apart hKT hts inX10 tyX10 tyX10_ok nmX10 rfl 21 41 (by decide) (by decide) (by decide)))).symm
                have m14126 := m14090.trans (Wr.neI wH14105 (Or.inr (x_apart hKT hts inX10 tyX10 tyX10_ok nmX10 rfl 22 41 (by decide) (by decide) (by decide)))).symm
                have m14127 := m14091.trans (Wr.neI wH14105 (Or.inr (x_apart hKT hts inX10 tyX10 tyX10_ok nmX10 rfl 35 41 (by decide) (by decide) (by decide)))).symm
                have m14128 := m14092.trans (Wr.neI wH14105 (Or.inr (x_apart hKT hts inX10 tyX10 tyX10_ok nmX10 rfl 36 41 (by decide) (by decide) (by decide)))).symm
                have m14129 := (Wr.neI wH14105 (Or.inr (x_apart hKT hts inX10 tyX10 tyX10_ok nmX10 rfl 18 41 (by decide) (by decide) (by decide)))).trans m14093
                have m14130 := ex14104.trans (Wr.neI wH14105 (Or.inr (x_apart hKT hts inX10 tyX10 tyX10_ok nmX10 rfl 39 41 (by decide) (by decide) (by decide)))).symm
                have m14131 := Wr.I wH14105
                have m14131 := m14131.symm
                clear ex14104 f14074 g14070 g14071 g14072 g14073 hTH14068 m14075 m14076 m14077 m14078 m14079 m14080 m14081 m14083 m14084 m14085 m14086 m14087 m14088 m14089 m14090 m14091 m14092 m14093 mf14069
                refine lv_aload_n hx hb dX10_text_120 rfl (lv_at hl14067 2 rfl) ?_
                refine lv_aload_n hx hb dX10_text_121 rfl (lv_at hl14067 2 rfl) ?_
                refine x_gi C hTH14105 (ci := 10) (k := 40) rfl inX10 (by decide) wF_X10_225 ga0 rg_112 rfl dX10_text_122 (fun x14132 ex14132 bx14132 => ?_)
                refine x_put C hTH14105 hSH14105 (ci := 10) (k := 42) (v := .int x14132) (ty0 := tyX10) rfl inX10 tyX10_ok nmX10 (by decide) rfl wF_X10_92 ga0 rg_112 rfl rfl (okI (by have := i_rng x14132; omega) (by have := i_rng x14132; omega)) rfl rfl (AE_in ga0 (by decide)) dX10_text_125 (fun H14133 locsH14133 hTH14133 hSH14133 wH14133 => ?_)
                have mf14134 : MF K s.heap H14133 a0 [0, 18, 19, 20, 21, 22, 34, 35, 36, 38, 39, 40, 41, 42] := MF.fld hap wH14133 (by decide) (by decide) mf14106
                have g14135 : CG (avw K H14133 a0) := CG.congr (fun k hk j => av_fld hTH14105 ga0 hap wH14133 (by decide) (CG_ok 112 (by decide) k hk) (CG_ne 42 (by decide) k hk)) g14107
                have g14136 : TU (avw K H14133 a0) (svw K H14133 a0) := TU.congr (fun k hk j => av_fld hTH14105 ga0 hap wH14133 (by decide) (TU_ok 112 (by decide) k hk) (TU_ne 42 (by decide) k hk)) (fun k hk => sv_fld hap wH14133 (by decide) (TU_slt k hk) (TU_sne 42 (by decide) k hk)) g14108
                have g14137 : WD (avw K H14133 a0) := WD.congr (fun k hk j => av_fld hTH14105 ga0 hap wH14133 (by decide) (WD_ok 112 (by decide) k hk) (WD_ne 42 (by decide) k hk)) g14109
                have g14138 : IM (avw K H14133 a0) := IM.congr (fun k hk j => av_fld hTH14105 ga0 hap wH14133 (by decide) (IM_ok 112 (by decide) k hk) (IM_ne 42 (by decide) k hk)) g14110
                have f14139 : ∀ j : Nat, bt j = (fI H14133 tq j).toInt := fun j => (f14111 j).trans (congrArg Int32.toInt (Wr.neI wH14133 (Or.inl (G_ne gtq ga0 (by decide)))).symm)
                have m14140 := m14112.trans (Wr.neR wH14133 (Or.inr (x_apart hKT hts inX10 tyX10 tyX10_ok nmX10 rfl 32 42 (by decide) (by decide) (by decide)))).symm
                have m14141 := m14113.trans (Wr.neR wH14133 (Or.inr (x_apart hKT hts inX10 tyX10 tyX10_ok nmX10 rfl 33 42 (by decide) (by decide) (by decide)))).symm
                have m14142 := m14114.trans (Wr.neR wH14133 (Or.inr (x_apart hKT hts inX10 tyX10 tyX10_ok nmX10 rfl 29 42 (by decide) (by decide) (by decide)))).symm
                have m14143 := m14115.trans (Wr.neR wH14133 (Or.inr (x_apart hKT hts inX10 tyX10 tyX10_ok nmX10 rfl 30 42 (by decide) (by decide) (by decide)))).symm
                have m14144 := m14116.trans (Wr.neR wH14133 (Or.inr (x_apart hKT hts inX10 tyX10 tyX10_ok nmX10 rfl 31 42 (by decide) (by decide) (by decide)))).symm
                have m14145 := m14117.trans (Wr.neR wH14133 (Or.inr (x_apart hKT hts inX10 tyX10 tyX10_ok nmX10 rfl 24 42 (by decide) (by decide) (by decide)))).symm
                have m14146 := m14118.trans (Wr.neR wH14133 (Or.inr (x_apart hKT hts inX10 tyX10 tyX10_ok nmX10 rfl 17 42 (by decide) (by decide) (by decide)))).symm
                have m14147 := (Wr.neI wH14133 (Or.inr (x_apart hKT hts inX10 tyX10 tyX10_ok nmX10 rfl 0 42 (by decide) (by decide) (by decide)))).trans m14119
                have m14149 := (Wr.neI wH14133 (Or.inr (x_apart hKT hts inX10 tyX10 tyX10_ok nmX10 rfl 34 42 (by decide) (by decide) (by decide)))).trans m14122
                have m14150 := m14123.trans (Wr.neI wH14133 (Or.inr (x_apart hKT hts inX10 tyX10 tyX10_ok nmX10 rfl 19 42 (by decide) (by decide) (by decide)))).symm
                have m14151 := m14124.trans (Wr.neI wH14133 (Or.inr (x_apart hKT hts inX10 tyX10 tyX10_ok nmX10 rfl 20 42 (by decide) (by decide) (by decide)))).symm
                have m14152 := m14125.trans (Wr.neI wH14133 (Or.inr (x_apart hKT hts inX10 tyX10 tyX10_ok nmX10 rfl 21 42 (by decide) (by decide) (by decide)))).symm
                have m14153 := m14126.trans (Wr.neI wH14133 (Or.inr (x_apart hKT hts inX10 tyX10 tyX10_ok nmX10 rfl 22 42 (by decide) (by decide) (by decide)))).symm
                have m14154 := m14127.trans (Wr.neI wH14133 (Or.inr (x_apart hKT hts inX10 tyX10 tyX10_ok nmX10 rfl 35 42 (by decide) (by decide) (by decide)))).symm
                have m14155 := m14128.trans (Wr.neI wH14133 (Or.inr (x_apart hKT hts inX10 tyX10 tyX10_ok nmX10 rfl 36 42 (by decide) (by decide) (by decide)))).symm
                have m14156 := (Wr.neI wH14133 (Or.inr (x_apart hKT hts inX10 tyX10 tyX10_ok nmX10 rfl 18 42 (by decide) (by decide) (by decide)))).trans m14129
                have m14157 := m14130.trans (Wr.neI wH14133 (Or.inr (x_apart hKT hts inX10 tyX10 tyX10_ok nmX10 rfl 39 42 (by decide) (by decide) (by decide)))).symm
                have m14158 := m14131.trans (Wr.neI wH14133 (Or.inr (x_apart hKT hts inX10 tyX10 tyX10_ok nmX10 rfl 41 42 (by decide) (by decide) (by decide)))).symm
                have m14159 := ex14132.trans (Wr.neI wH14133 (Or.inr (x_apart hKT hts inX10 tyX10 tyX10_ok nmX10 rfl 40 42 (by decide) (by decide) (by decide)))).symm
                have m14160 := Wr.I wH14133
                have m14160 := m14160.symm
                clear ex14132 f14111 g14107 g14108 g14109 g14110 hTH14105 m14112 m14113 m14114 m14115 m14116 m14117 m14118 m14119 m14121 m14122 m14123 m14124 m14125 m14126 m14127 m14128 m14129 m14130 m14131 mf14106
                refine lv_iload hx hb dX10_text_128 (lv_at hl14067 0 rfl) ?_
                refine lv_iconst (v := (-1)) hx hb dX10_text_130 (by decide) ?_
                refine lv_icmp_ne (tgt := 136) hx hb dX10_text_131 (by decide) (fun c14161 => ?_) (fun c14161 => ?_)
                · have k14162 := i_ne c14161
                  exfalso
                  omega
                · have k14162 := i_eq c14161
                  refine lv_iconst (v := (-1)) hx hb dX10_text_134 (by decide) ?_
                  exact x_iret C hQ dX10_text_135 hSH14133 (by decide) (by decide) (⟨(-1), x14037, 0, rfl, m14154, (m14156).symm, by omega, m14140, m14141, m14142, m14143, m14144, m14145, m14146, g14135, g14136, g14137, g14138, mf14134, (TXA.mk (by omega) (by rw [if_pos (by omega)]; rfl) m14051).cast (by omega), hTH14133⟩)
        · have k13909 := i_eq c13908
          exfalso
          omega
      · have k13905 := i_eq c13904
        exfalso
        omega
    · subst hvH13903
      refine W.eq (g2 := F0 m 26 ls [.int 0]) rfl ?_
      refine lv_if_ne (tgt := 44) hx hb dX10_text_26 (by decide) (fun c14163 => ?_) (fun c14163 => ?_)
      · have k14164 := i_ne c14163
        exfalso
        omega
      · have k14164 := i_eq c14163
        refine lv_iload_n hx hb dX10_text_29 rfl (lv_at hl 1 rfl) ?_
        refine lv_iconst (v := 1) hx hb dX10_text_30 (by decide) ?_
        refine lv_icmp_ne (tgt := 48) hx hb dX10_text_31 (by decide) (fun c14165 => ?_) (fun c14165 => ?_)
        · have k14166 := i_ne c14165
          refine lv_iconst (v := 0) hx hb dX10_text_48 (by decide) ?_
          refine lv_istore_n (lv' := [(3, .int 0), (0, .ref a0), (1, .int x1), (2, .int x2)]) hx hb dX10_text_49 rfl hl (by decide) rfl (fun ls14167 hl14168 => ?_)
          refine lv_aload_n hx hb dX10_text_50 rfl (lv_at hl14168 1 rfl) ?_
          refine lv_iload_n hx hb dX10_text_51 rfl (lv_at hl14168 2 rfl) ?_
          refine lv_iconst (v := 1) hx hb dX10_text_52 (by decide) ?_
          refine lv_icmp_ne (tgt := 60) hx hb dX10_text_53 (by decide) (fun c14169 => ?_) (fun c14169 => ?_)
          · have k14170 := i_ne c14169
            refine lv_iconst (v := 0) hx hb dX10_text_60 (by decide) ?_
            refine x_put C hTH13150 hSH13903 (ci := 10) (k := 34) (v := .int 0) (ty0 := tyX10) rfl inX10 tyX10_ok nmX10 (by decide) rfl wF_X10_231 ga0 rg_112 rfl rfl (okI (by have := i_rng (0 : Int32); omega) (by have := i_rng (0 : Int32); omega)) rfl rfl (AE_in ga0 (by decide)) dX10_text_61 (fun H14171 locsH14171 hTH14171 hSH14171 wH14171 => ?_)
            have mf14172 : MF K s.heap H14171 a0 [0, 18, 19, 20, 21, 22, 34, 35, 36, 38, 39, 40, 41, 42] := MF.fld hap wH14171 (by decide) (by decide) mf13151
            have g14173 : CG (avw K H14171 a0) := CG.congr (fun k hk j => av_fld hTH13150 ga0 hap wH14171 (by decide) (CG_ok 112 (by decide) k hk) (CG_ne 34 (by decide) k hk)) g13152
            have g14174 : TU (avw K H14171 a0) (svw K H14171 a0) := TU.congr (fun k hk j => av_fld hTH13150 ga0 hap wH14171 (by decide) (TU_ok 112 (by decide) k hk) (TU_ne 34 (by decide) k hk)) (fun k hk => sv_fld hap wH14171 (by decide) (TU_slt k hk) (TU_sne 34 (by decide) k hk)) g13153
            have g14175 : WD (avw K H14171 a0) := WD.congr (fun k hk j => av_fld hTH13150 ga0 hap wH14171 (by decide) (WD_ok 112 (by decide) k hk) (WD_ne 34 (by decide) k hk)) g13154
            have g14176 : IM (avw K H14171 a0) := IM.congr (fun k hk j => av_fld hTH13150 ga0 hap wH14171 (by decide) (IM_ok 112 (by decide) k hk) (IM_ne 34 (by decide) k hk)) g13155
            have f14177 : ∀ j : Nat, bt j = (fI H14171 tq j).toInt := fun j => (f13156 j).trans (congrArg Int32.toInt (Wr.neI wH14171 (Or.inl (G_ne gtq ga0 (by decide)))).symm)
            have m14178 := m13157.trans (Wr.neR wH14171 (Or.inr (x_apart hKT hts inX10 tyX10 tyX10_ok nmX10 rfl 32 34 (by decide) (by decide) (by decide)))).symm
            have m14179 := m13158.trans (Wr.neR wH14171 (Or.inr (x_apart hKT hts inX10 tyX10 tyX10_ok nmX10 rfl 33 34 (by decide) (by decide) (by decide)))).symm
            have m14180 := m13159.trans (Wr.neR wH14171 (Or.inr (x_apart hKT hts inX10 tyX10 tyX10_ok nmX10 rfl 29 34 (by decide) (by decide) (by decide)))).symm
            have m14181 := m13160.trans (Wr.neR wH14171 (Or.inr (x_apart hKT hts inX10 tyX10 tyX10_ok nmX10 rfl 30 34 (by decide) (by decide) (by decide)))).symm
            have m14182 := m13161.trans (Wr.neR wH14171 (Or.inr (x_apart hKT hts inX10 tyX10 tyX10_ok nmX10 rfl 31 34 (by decide) (by decide) (by decide)))).symm
            have m14183 := m13162.trans (Wr.neR wH14171 (Or.inr (x_apart hKT hts inX10 tyX10 tyX10_ok nmX10 rfl 24 34 (by decide) (by decide) (by decide)))).symm
            have m14184 := m13163.trans (Wr.neR wH14171 (Or.inr (x_apart hKT hts inX10 tyX10 tyX10_ok nmX10 rfl 17 34 (by decide) (by decide) (by decide)))).symm
            have m14185 := m13164.trans (Wr.neI wH14171 (Or.inr (x_apart hKT hts inX10 tyX10 tyX10_ok nmX10 rfl 35 34 (by decide) (by decide) (by decide)))).symm
            have m14186 := m13165.trans (Wr.neI wH14171 (Or.inr (x_apart hKT hts inX10 tyX10 tyX10_ok nmX10 rfl 18 34 (by decide) (by decide) (by decide)))).symm
            have m14187 := (Wr.neI wH14171 (Or.inr (x_apart hKT hts inX10 tyX10 tyX10_ok nmX10 rfl 0 34 (by decide) (by decide) (by decide)))).trans m13166
            have m14188 := (Wr.neI wH14171 (Or.inr (x_apart hKT hts inX10 tyX10 tyX10_ok nmX10 rfl 41 34 (by decide) (by decide) (by decide)))).trans m13167
            have m14189 := (Wr.neI wH14171 (Or.inr (x_apart hKT hts inX10 tyX10 tyX10_ok nmX10 rfl 42 34 (by decide) (by decide) (by decide)))).trans m13168
            have m14190 := Wr.I wH14171
            clear f13156 g13152 g13153 g13154 g13155 hTH13150 m13157 m13158 m13159 m13160 m13161 m13162 m13163 m13164 m13165 m13166 m13167 m13168 mf13151
            refine lv_aload_n hx hb dX10_text_64 rfl (lv_at hl14168 1 rfl) ?_
            refine lv_iconst (v := 0) hx hb dX10_text_65 (by decide) ?_
            refine x_put C hTH14171 hSH14171 (ci := 10) (k := 19) (v := .int 0) (ty0 := tyX10) rfl inX10 tyX10_ok nmX10 (by decide) rfl wF_X10_192 ga0 rg_112 rfl rfl (okI (by have := i_rng (0 : Int32); omega) (by have := i_rng (0 : Int32); omega)) rfl rfl (AE_in ga0 (by decide)) dX10_text_66 (fun H14191 locsH14191 hTH14191 hSH14191 wH14191 => ?_)
            have mf14192 : MF K s.heap H14191 a0 [0, 18, 19, 20, 21, 22, 34, 35, 36, 38, 39, 40, 41, 42] := MF.fld hap wH14191 (by decide) (by decide) mf14172
            have g14193 : CG (avw K H14191 a0) := CG.congr (fun k hk j => av_fld hTH14171 ga0 hap wH14191 (by decide) (CG_ok 112 (by decide) k hk) (CG_ne 19 (by decide) k hk)) g14173
            have g14194 : TU (avw K H14191 a0) (svw K H14191 a0) := TU.congr (fun k hk j => av_fld hTH14171 ga0 hap wH14191 (by decide) (TU_ok 112 (by decide) k hk) (TU_ne 19 (by decide) k hk)) (fun k hk => sv_fld hap wH14191 (by decide) (TU_slt k hk) (TU_sne 19 (by decide) k hk)) g14174
            have g14195 : WD (avw K H14191 a0) := WD.congr (fun k hk j => av_fld hTH14171 ga0 hap wH14191 (by decide) (WD_ok 112 (by decide) k hk) (WD_ne 19 (by decide) k hk)) g14175
            have g14196 : IM (avw K H14191 a0) := IM.congr (fun k hk j => av_fld hTH14171 ga0 hap wH14191 (by decide) (IM_ok 112 (by decide) k hk) (IM_ne 19 (by decide) k hk)) g14176
            have f14197 : ∀ j : Nat, bt j = (fI H14191 tq j).toInt := fun j => (f14177 j).trans (congrArg Int32.toInt (Wr.neI wH14191 (Or.inl (G_ne gtq ga0 (by decide)))).symm)
            have m14198 := m14178.trans (Wr.neR wH14191 (Or.inr (x_apart hKT hts inX10 tyX10 tyX10_ok nmX10 rfl 32 19 (by decide) (by decide) (by decide)))).symm
            have m14199 := m14179.trans (Wr.neR wH14191 (Or.inr (x_apart hKT hts inX10 tyX10 tyX10_ok nmX10 rfl 33 19 (by decide) (by decide) (by decide)))).symm
            have m14200 := m14180.trans (Wr.neR wH14191 (Or.inr (x_apart hKT hts inX10 tyX10 tyX10_ok nmX10 rfl 29 19 (by decide) (by decide) (by decide)))).symm
            have m14201 := m14181.trans (Wr.neR wH14191 (Or.inr (x_apart hKT hts inX10 tyX10 tyX10_ok nmX10 rfl 30 19 (by decide) (by decide) (by decide)))).symm
            have m14202 := m14182.trans (Wr.neR wH14191 (Or.inr (x_apart hKT hts inX10 tyX10 tyX10_ok nmX10 rfl 31 19 (by decide) (by decide) (by decide)))).symm
            have m14203 := m14183.trans (Wr.neR wH14191 (Or.inr (x_apart hKT hts inX10 tyX10 tyX10_ok nmX10 rfl 24 19 (by decide) (by decide) (by decide)))).symm
            have m14204 := m14184.trans (Wr.neR wH14191 (Or.inr (x_apart hKT hts inX10 tyX10 tyX10_ok nmX10 rfl 17 19 (by decide) (by decide) (by decide)))).symm
            have m14205 := m14185.trans (Wr.neI wH14191 (Or.inr (x_apart hKT hts inX10 tyX10 tyX10_ok nmX10 rfl 35 19 (by decide) (by decide) (by decide)))).symm
            have m14206 := m14186.trans (Wr.neI wH14191 (Or.inr (x_apart hKT hts inX10 tyX10 tyX10_ok nmX10 rfl 18 19 (by decide) (by decide) (by decide)))).symm
            have m14207 := (Wr.neI wH14191 (Or.inr (x_apart hKT hts inX10 tyX10 tyX10_ok nmX10 rfl 0 19 (by decide) (by decide) (by decide)))).trans m14187
            have m14208 := (Wr.neI wH14191 (Or.inr (x_apart hKT hts inX10 tyX10 tyX10_ok nmX10 rfl 41 19 (by decide) (by decide) (by decide)))).trans m14188
            have m14209 := (Wr.neI wH14191 (Or.inr (x_apart hKT hts inX10 tyX10 tyX10_ok nmX10 rfl 42 19 (by decide) (by decide) (by decide)))).trans m14189
            have m14210 := (Wr.neI wH14191 (Or.inr (x_apart hKT hts inX10 tyX10 tyX10_ok nmX10 rfl 34 19 (by decide) (by decide) (by decide)))).trans m14190
            have m14211 := Wr.I wH14191
            clear f14177 g14173 g14174 g14175 g14176 hTH14171 m14178 m14179 m14180 m14181 m14182 m14183 m14184 m14185 m14186 m14187 m14188 m14189 m14190 mf14172
            refine lv_aload_n hx hb dX10_text_69 rfl (lv_at hl14168 1 rfl) ?_
            refine lv_iconst (v := 0) hx hb dX10_text_70 (by decide) ?_
            refine x_put C hTH14191 hSH14191 (ci := 10) (k := 35) (v := .int 0) (ty0 := tyX10) rfl inX10 tyX10_ok nmX10 (by decide) rfl wF_X10_228 ga0 rg_112 rfl rfl (okI (by have := i_rng (0 : Int32); omega) (by have := i_rng (0 : Int32); omega)) rfl rfl (AE_in ga0 (by decide)) dX10_text_71 (fun H14212 locsH14212 hTH14212 hSH14212 wH14212 => ?_)
            have mf14213 : MF K s.heap H14212 a0 [0, 18, 19, 20, 21, 22, 34, 35, 36, 38, 39, 40, 41, 42] := MF.fld hap wH14212 (by decide) (by decide) mf14192
            have g14214 : CG (avw K H14212 a0) := CG.congr (fun k hk j => av_fld hTH14191 ga0 hap wH14212 (by decide) (CG_ok 112 (by decide) k hk) (CG_ne 35 (by decide) k hk)) g14193
            have g14215 : TU (avw K H14212 a0) (svw K H14212 a0) := TU.congr (fun k hk j => av_fld hTH14191 ga0 hap wH14212 (by decide) (TU_ok 112 (by decide) k hk) (TU_ne 35 (by decide) k hk)) (fun k hk => sv_fld hap wH14212 (by decide) (TU_slt k hk) (TU_sne 35 (by decide) k hk)) g14194
            have g14216 : WD (avw K H14212 a0) := WD.congr (fun k hk j => av_fld hTH14191 ga0 hap wH14212 (by decide) (WD_ok 112 (by decide) k hk) (WD_ne 35 (by decide) k hk)) g14195
            have g14217 : IM (avw K H14212 a0) := IM.congr (fun k hk j => av_fld hTH14191 ga0 hap wH14212 (by decide) (IM_ok 112 (by decide) k hk) (IM_ne 35 (by decide) k hk)) g14196
            have f14218 : ∀ j : Nat, bt j = (fI H14212 tq j).toInt := fun j => (f14197 j).trans (congrArg Int32.toInt (Wr.neI wH14212 (Or.inl (G_ne gtq ga0 (by decide)))).symm)
            have m14219 := m14198.trans (Wr.neR wH14212 (Or.inr (x_apart hKT hts inX10 tyX10 tyX10_ok nmX10 rfl 32 35 (by decide) (by decide) (by decide)))).symm
            have m14220 := m14199.trans (Wr.neR wH14212 (Or.inr (x_apart hKT hts inX10 tyX10 tyX10_ok nmX10 rfl 33 35 (by decide) (by decide) (by decide)))).symm
            have m14221 := m14200.trans (Wr.neR wH14212 (Or.inr (x_apart hKT hts inX10 tyX10 tyX10_ok nmX10 rfl 29 35 (by decide) (by decide) (by decide)))).symm
            have m14222 := m14201.trans (Wr.neR wH14212 (Or.inr (x_apart hKT hts inX10 tyX10 tyX10_ok nmX10 rfl 30 35 (by decide) (by decide) (by decide)))).symm
            have m14223 := m14202.trans (Wr.neR wH14212 (Or.inr (x_apart hKT hts inX10 tyX10 tyX10_ok nmX10 rfl 31 35 (by decide) (by decide) (by decide)))).symm
            have m14224 := m14203.trans (Wr.neR wH14212 (Or.inr (x_apart hKT hts inX10 tyX10 tyX10_ok nmX10 rfl 24 35 (by decide) (by decide) (by decide)))).symm
            have m14225 := m14204.trans (Wr.neR wH14212 (Or.inr (x_apart hKT hts inX10 tyX10 tyX10_ok nmX10 rfl 17 35 (by decide) (by decide) (by decide)))).symm
            have m14227 := m14206.trans (Wr.neI wH14212 (Or.inr (x_apart hKT hts inX10 tyX10 tyX10_ok nmX10 rfl 18 35 (by decide) (by decide) (by decide)))).symm
            have m14228 := (Wr.neI wH14212 (Or.inr (x_apart hKT hts inX10 tyX10 tyX10_ok nmX10 rfl 0 35 (by decide) (by decide) (by decide)))).trans m14207
            have m14229 := (Wr.neI wH14212 (Or.inr (x_apart hKT hts inX10 tyX10 tyX10_ok nmX10 rfl 41 35 (by decide) (by decide) (by decide)))).trans m14208
            have m14230 := (Wr.neI wH14212 (Or.inr (x_apart hKT hts inX10 tyX10 tyX10_ok nmX10 rfl 42 35 (by decide) (by decide) (by decide)))).trans m14209
            have m14231 := (Wr.neI wH14212 (Or.inr (x_apart hKT hts inX10 tyX10 tyX10_ok nmX10 rfl 34 35 (by decide) (by decide) (by decide)))).trans m14210
            have m14232 := (Wr.neI wH14212 (Or.inr (x_apart hKT hts inX10 tyX10 tyX10_ok nmX10 rfl 19 35 (by decide) (by decide) (by decide)))).trans m14211
            have m14233 := Wr.I wH14212
            clear f14197 g14193 g14194 g14195 g14196 hTH14191 m14198 m14199 m14200 m14201 m14202 m14203 m14204 m14205 m14206 m14207 m14208 m14209 m14210 m14211 mf14192
            refine lv_aload_n hx hb dX10_text_74 rfl (lv_at hl14168 1 rfl) ?_
            refine lv_iconst (v := 0) hx hb dX10_text_75 (by decide) ?_
            refine x_put C hTH14212 hSH14212 (ci := 10) (k := 36) (v := .int 0) (ty0 := tyX10) rfl inX10 tyX10_ok nmX10 (by decide) rfl wF_X10_261 ga0 rg_112 rfl rfl (okI (by have := i_rng (0 : Int32); omega) (by have := i_rng (0 : Int32); omega)) rfl rfl (AE_in ga0 (by decide)) dX10_text_76 (fun H14234 locsH14234 hTH14234 hSH14234 wH14234 => ?_)
            have mf14235 : MF K s.heap H14234 a0 [0, 18, 19, 20, 21, 22, 34, 35, 36, 38, 39, 40, 41, 42] := MF.fld hap wH14234 (by decide) (by decide) mf14213
            have g14236 : CG (avw K H14234 a0) := CG.congr (fun k hk j => av_fld hTH14212 ga0 hap wH14234 (by decide) (CG_ok 112 (by decide) k hk) (CG_ne 36 (by decide) k hk)) g14214
            have g14237 : TU (avw K H14234 a0) (svw K H14234 a0) := TU.congr (fun k hk j => av_fld hTH14212 ga0 hap wH14234 (by decide) (TU_ok 112 (by decide) k hk) (TU_ne 36 (by decide) k hk)) (fun k hk => sv_fld hap wH14234 (by decide) (TU_slt k hk) (TU_sne 36 (by decide) k hk)) g14215
            have g14238 : WD (avw K H14234 a0) := WD.congr (fun k hk j => av_fld hTH14212 ga0 hap wH14234 (by decide) (WD_ok 112 (by decide) k hk) (WD_ne 36 (by decide) k hk)) g14216
            have g14239 : IM (avw K H14234 a0) := IM.congr (fun k hk j => av_fld hTH14212 ga0 hap wH14234 (by decide) (IM_ok 112 (by decide) k hk) (IM_ne 36 (by decide) k hk)) g14217
            have f14240 : ∀ j : Nat, bt j = (fI H14234 tq j).toInt := fun j => (f14218 j).trans (congrArg Int32.toInt (Wr.neI wH14234 (Or.inl (G_ne gtq ga0 (by decide)))).symm)
            have m14241 := m14219.trans (Wr.neR wH14234 (Or.inr (x_apart hKT hts inX10 tyX10 tyX10_ok nmX10 rfl 32 36 (by decide) (by decide) (by decide)))).symm
            have m14242 := m14220.trans (Wr.neR wH14234 (Or.inr (x_apart hKT hts inX10 tyX10 tyX10_ok nmX10 rfl 33 36 (by decide) (by decide) (by decide)))).symm
            have m14243 := m14221.trans (Wr.neR wH14234 (Or.inr (x_apart hKT hts inX10 tyX10 tyX10_ok nmX10 rfl 29 36 (by decide) (by decide) (by decide)))).symm
            have m14244 := m14222.trans (Wr.neR wH14234 (Or.inr (x_apart hKT hts inX10 tyX10 tyX10_ok nmX10 rfl 30 36 (by decide) (by decide) (by decide)))).symm
            have m14245 := m14223.trans (Wr.neR wH14234 (Or.inr (x_apart hKT hts inX10 tyX10 tyX10_ok nmX10 rfl 31 36 (by decide) (by decide) (by decide)))).symm
            have m14246 := m14224.trans (Wr.neR wH14234 (Or.inr (x_apart hKT hts inX10 tyX10 tyX10_ok nmX10 rfl 24 36 (by decide) (by decide) (by decide)))).symm
            have m14247 := m14225.trans (Wr.neR wH14234 (Or.inr (x_apart hKT hts inX10 tyX10 tyX10_ok nmX10 rfl 17 36 (by decide) (by decide) (by decide)))).symm
            have m14248 := m14227.trans (Wr.neI wH14234 (Or.inr (x_apart hKT hts inX10 tyX10 tyX10_ok nmX10 rfl 18 36 (by decide) (by decide) (by decide)))).symm
            have m14249 := (Wr.neI wH14234 (Or.inr (x_apart hKT hts inX10 tyX10 tyX10_ok nmX10 rfl 0 36 (by decide) (by decide) (by decide)))).trans m14228
            have m14250 := (Wr.neI wH14234 (Or.inr (x_apart hKT hts inX10 tyX10 tyX10_ok nmX10 rfl 41 36 (by decide) (by decide) (by decide)))).trans m14229
            have m14251 := (Wr.neI wH14234 (Or.inr (x_apart hKT hts inX10 tyX10 tyX10_ok nmX10 rfl 42 36 (by decide) (by decide) (by decide)))).trans m14230
            have m14252 := (Wr.neI wH14234 (Or.inr (x_apart hKT hts inX10 tyX10 tyX10_ok nmX10 rfl 34 36 (by decide) (by decide) (by decide)))).trans m14231
            have m14253 := (Wr.neI wH14234 (Or.inr (x_apart hKT hts inX10 tyX10 tyX10_ok nmX10 rfl 19 36 (by decide) (by decide) (by decide)))).trans m14232
            have m14254 := (Wr.neI wH14234 (Or.inr (x_apart hKT hts inX10 tyX10 tyX10_ok nmX10 rfl 35 36 (by decide) (by decide) (by decide)))).trans m14233
            have m14255 := Wr.I wH14234
            clear f14218 g14214 g14215 g14216 g14217 hTH14212 m14219 m14220 m14221 m14222 m14223 m14224 m14225 m14227 m14228 m14229 m14230 m14231 m14232 m14233 mf14213
            refine lv_aload_n hx hb dX10_text_79 rfl (lv_at hl14168 1 rfl) ?_
            obtain ⟨x14256, ex14256⟩ : ∃ z : Int32, z = fI H14234 a0 (K.1.2 10 20) := ⟨_, rfl⟩
            have bx14256 := ty_fi (x := x14256) (k := 20) ex14256 hTH14234 ga0 rg_112 rfl
            obtain ⟨x14257, ex14257⟩ : ∃ z : Int32, z = fI H14234 a0 (K.1.2 10 21) := ⟨_, rfl⟩
            have bx14257 := ty_fi (x := x14257) (k := 21) ex14257 hTH14234 ga0 rg_112 rfl
            obtain ⟨x14258, ex14258⟩ : ∃ z : Int32, z = fI H14234 a0 (K.1.2 10 22) := ⟨_, rfl⟩
            have bx14258 := ty_fi (x := x14258) (k := 22) ex14258 hTH14234 ga0 rg_112 rfl
            refine x_V (As := []) (rest := []) C (a_X10_reads_e l K G H14234 (0) (x14256) (x14257) (x14258) (tp) bt hTH14234 ga0 gtq m14247 (m14253).symm ex14256 ex14257 ex14258 m14248 g14236 g14237 g14238 g14239 (by omega) (hy1) f14240) yo_X10_reads wM_X10_242 ⟨⟨by decide, by decide⟩, by decide, by decide⟩ (x_rv C hTH14234 (ci := 10) rfl ga0 rg_112) rfl hl14168.1 rfl (Nat.le_of_ble_eq_true rfl) dX10_text_80 hSH14234 (AE_sub (fun _ _ => rfl) (by decide) hSH14234.1) (fun vH14259 H14259 locsH14259 pH14259 zH14259 kH14259 hSH14259 => ?_)
            obtain ⟨x14260, x14261, x14262, x14263, hvH14259, ex14260, ex14261, ex14262, ex14263, hrH14259, m14264, g14265, g14266, g14267, g14268, mf14269, m14270, m14271, m14272, hTH14259⟩ := pH14259
            subst hvH14259
            clear zH14259
            replace m14264 := EQN.mk m14264
            have f14273 : ∀ j : Nat, bt j = (fI H14259 tq j).toInt := fun j => (f14240 j).trans (congrArg Int32.toInt (fI_kept (x_lt hTH14234 kH14259 gtq (by decide))).symm)
            have m14274 := (m14241).trans (MF.r mf14269 (k := 32) (by decide) (by decide)).symm
            have m14275 := (m14242).trans (MF.r mf14269 (k := 33) (by decide) (by decide)).symm
            have m14276 := (m14243).trans (MF.r mf14269 (k := 29) (by decide) (by decide)).symm
            have m14277 := (m14244).trans (MF.r mf14269 (k := 30) (by decide) (by decide)).symm
            have m14278 := (m14245).trans (MF.r mf14269 (k := 31) (by decide) (by decide)).symm
            have m14279 := (m14246).trans (MF.r mf14269 (k := 24) (by decide) (by decide)).symm
            have m14280 := (m14247).trans (MF.r mf14269 (k := 17) (by decide) (by decide)).symm
            have m14281 := (m14248).trans (MF.i mf14269 (k := 18) (by decide) (by decide)).symm
            have m14282 := (MF.i mf14269 (k := 0) (by decide) (by decide)).trans m14249
            have m14283 := (MF.i mf14269 (k := 41) (by decide) (by decide)).trans m14250
            have m14284 := (MF.i mf14269 (k := 42) (by decide) (by decide)).trans m14251
            have m14285 := (MF.i mf14269 (k := 34) (by decide) (by decide)).trans m14252
            have m14286 := (MF.i mf14269 (k := 35) (by decide) (by decide)).trans m14254
            have m14287 := (MF.i mf14269 (k := 36) (by decide) (by decide)).trans m14255
            have mf14288 : MF K s.heap H14259 a0 [0, 18, 19, 20, 21, 22, 34, 35, 36, 38, 39, 40, 41, 42] := MF.trans mf14235 mf14269 (by decide)
            have bx14260 := ty_fi (x := x14260) (k := 19) ex14260 hTH14259 ga0 rg_112 rfl
            have bx14261 := ty_fi (x := x14261) (k := 20) ex14261 hTH14259 ga0 rg_112 rfl
            have bx14262 := ty_fi (x := x14262) (k := 21) ex14262 hTH14259 ga0 rg_112 rfl
            have bx14263 := ty_fi (x := x14263) (k := 22) ex14263 hTH14259 ga0 rg_112 rfl
            have cu14289 : CU bt tp.toNatClampNeg 0 x14261 x14260 x14262 x14263 := ⟨m14270, m14271, m14272, Nat.zero_le _⟩
            obtain ⟨r1H14259, r2H14259, r3H14259, r4H14259, r5H14259⟩ := hrH14259
            refine W.eq (g2 := F0 m 83 ls14167 []) rfl ?_
            refine lv_iload_n hx hb dX10_text_83 rfl (lv_at hl14168 0 rfl) ?_
            refine lv_if_eq (tgt := 94) hx hb dX10_text_84 (by decide) (fun c14290 => ?_) (fun c14290 => ?_)
            · have k14291 := i_eq c14290
              refine lv_iconst (v := (-1)) hx hb dX10_text_94 (by decide) ?_
              refine lv_istore (lv' := [(4, .int (-1)), (3, .int 0), (0, .ref a0), (1, .int x1), (2, .int x2)]) hx hb dX10_text_95 hl14168 (by decide) rfl (fun ls14292 hl14293 => ?_)
              refine lv_aload_n hx hb dX10_text_97 rfl (lv_at hl14293 2 rfl) ?_
              refine lv_iconst (v := 0) hx hb dX10_text_98 (by decide) ?_
              refine x_put C hTH14259 hSH14259 (ci := 10) (k := 18) (v := .int 0) (ty0 := tyX10) rfl inX10 tyX10_ok nmX10 (by decide) rfl wF_X10_185 ga0 rg_112 rfl rfl (okI (by have := i_rng (0 : Int32); omega) (by have := i_rng (0 : Int32); omega)) rfl rfl (AE_in ga0 (by decide)) dX10_text_99 (fun H14294 locsH14294 hTH14294 hSH14294 wH14294 => ?_)
              have mf14295 : MF K s.heap H14294 a0 [0, 18, 19, 20, 21, 22, 34, 35, 36, 38, 39, 40, 41, 42] := MF.fld hap wH14294 (by decide) (by decide) mf14288
              have g14296 : CG (avw K H14294 a0) := CG.congr (fun k hk j => av_fld hTH14259 ga0 hap wH14294 (by decide) (CG_ok 112 (by decide) k hk) (CG_ne 18 (by decide) k hk)) g14265
              have g14297 : TU (avw K H14294 a0) (svw K H14294 a0) := TU.congr (fun k hk j => av_fld hTH14259 ga0 hap wH14294 (by decide) (TU_ok 112 (by decide) k hk) (TU_ne 18 (by decide) k hk)) (fun k hk => sv_fld hap wH14294 (by decide) (TU_slt k hk) (TU_sne 18 (by decide) k hk)) g14266
              have g14298 : WD (avw K H14294 a0) := WD.congr (fun k hk j => av_fld hTH14259 ga0 hap wH14294 (by decide) (WD_ok 112 (by decide) k hk) (WD_ne 18 (by decide) k hk)) g14267
              have g14299 : IM (avw K H14294 a0) := IM.congr (fun k hk j => av_fld hTH14259 ga0 hap wH14294 (by decide) (IM_ok 112 (by decide) k hk) (IM_ne 18 (by decide) k hk)) g14268
              have f14300 : ∀ j : Nat, bt j = (fI H14294 tq j).toInt := fun j => (f14273 j).trans (congrArg Int32.toInt (Wr.neI wH14294 (Or.inl (G_ne gtq ga0 (by decide)))).symm)
              have m14301 := m14274.trans (Wr.neR wH14294 (Or.inr (x_apart hKT hts inX10 tyX10 tyX10_ok nmX10 rfl 32 18 (by decide) (by decide) (by decide)))).symm
              have m14302 := m14275.trans (Wr.neR wH14294 (Or.inr (x_apart hKT hts inX10 tyX10 tyX10_ok nmX10 rfl 33 18 (by decide) (by decide) (by decide)))).symm
              have m14303 := m14276.trans (Wr.neR wH14294 (Or.inr (x_apart hKT hts inX10 tyX10 tyX10_ok nmX10 rfl 29 18 (by decide) (by decide) (by decide)))).symm
              have m14304 := m14277.trans (Wr.neR wH14294 (Or.inr (x_apart hKT hts inX10 tyX10 tyX10_ok nmX10 rfl 30 18 (by decide) (by decide) (by decide)))).symm
              have m14305 := m14278.trans (Wr.neR wH14294 (Or.inr (x_apart hKT hts inX10 tyX10 tyX10_ok nmX10 rfl 31 18 (by decide) (by decide) (by decide)))).symm
              have m14306 := m14279.trans (Wr.neR wH14294 (Or.inr (x_apart hKT hts inX10 tyX10 tyX10_ok nmX10 rfl 24 18 (by decide) (by decide) (by decide)))).symm
              have m14307 := m14264.trans (Wr.neR wH14294 (Or.inr (x_apart hKT hts inX10 tyX10 tyX10_ok nmX10 rfl 17 18 (by decide) (by decide) (by decide)))).symm
              have m14309 := (Wr.neI wH14294 (Or.inr (x_apart hKT hts inX10 tyX10 tyX10_ok nmX10 rfl 0 18 (by decide) (by decide) (by decide)))).trans m14282
              have m14310 := (Wr.neI wH14294 (Or.inr (x_apart hKT hts inX10 tyX10 tyX10_ok nmX10 rfl 41 18 (by decide) (by decide) (by decide)))).trans m14283
              have m14311 := (Wr.neI wH14294 (Or.inr (x_apart hKT hts inX10 tyX10 tyX10_ok nmX10 rfl 42 18 (by decide) (by decide) (by decide)))).trans m14284
              have m14312 := (Wr.neI wH14294 (Or.inr (x_apart hKT hts inX10 tyX10 tyX10_ok nmX10 rfl 34 18 (by decide) (by decide) (by decide)))).trans m14285
              have m14313 := (Wr.neI wH14294 (Or.inr (x_apart hKT hts inX10 tyX10 tyX10_ok nmX10 rfl 35 18 (by decide) (by decide) (by decide)))).trans m14286
              have m14314 := (Wr.neI wH14294 (Or.inr (x_apart hKT hts inX10 tyX10 tyX10_ok nmX10 rfl 36 18 (by decide) (by decide) (by decide)))).trans m14287
              have m14315 := ex14260.trans (Wr.neI wH14294 (Or.inr (x_apart hKT hts inX10 tyX10 tyX10_ok nmX10 rfl 19 18 (by decide) (by decide) (by decide)))).symm
              have m14316 := ex14261.trans (Wr.neI wH14294 (Or.inr (x_apart hKT hts inX10 tyX10 tyX10_ok nmX10 rfl 20 18 (by decide) (by decide) (by decide)))).symm
              have m14317 := ex14262.trans (Wr.neI wH14294 (Or.inr (x_apart hKT hts inX10 tyX10 tyX10_ok nmX10 rfl 21 18 (by decide) (by decide) (by decide)))).symm
              have m14318 := ex14263.trans (Wr.neI wH14294 (Or.inr (x_apart hKT hts inX10 tyX10 tyX10_ok nmX10 rfl 22 18 (by decide) (by decide) (by decide)))).symm
              have m14319 := Wr.I wH14294
              clear ex14260 ex14261 ex14262 ex14263 f14273 g14265 g14266 g14267 g14268 hTH14259 m14264 m14274 m14275 m14276 m14277 m14278 m14279 m14281 m14282 m14283 m14284 m14285 m14286 m14287 mf14288
              refine lv_iload_n hx hb dX10_text_102 rfl (lv_at hl14293 1 rfl) ?_
              refine lv_if_eq (tgt := 128) hx hb dX10_text_103 (by decide) (fun c14320 => ?_) (fun c14320 => ?_)
              · have k14321 := i_eq c14320
                refine lv_iload hx hb dX10_text_128 (lv_at hl14293 0 rfl) ?_
                refine lv_iconst (v := (-1)) hx hb dX10_text_130 (by decide) ?_
                refine lv_icmp_ne (tgt := 136) hx hb dX10_text_131 (by decide) (fun c14322 => ?_) (fun c14322 => ?_)
                · have k14323 := i_ne c14322
                  exfalso
                  omega
                · have k14323 := i_eq c14322
                  refine lv_iconst (v := (-1)) hx hb dX10_text_134 (by decide) ?_
                  exact x_iret C hQ dX10_text_135 hSH14294 (by decide) (by decide) (⟨(-1), 0, 0, rfl, (m14313).symm, (m14319).symm, by omega, m14301, m14302, m14303, m14304, m14305, m14306, m14307, g14296, g14297, g14298, g14299, mf14295, Or.inr ⟨by omega, by omega, by omega⟩, hTH14294⟩)
              · have k14321 := i_ne c14320
                exfalso
                omega
            · have k14291 := i_ne c14290
              exfalso
              omega
          · have k14170 := i_eq c14169
            exfalso
            omega
        · have k14166 := i_eq c14165
          exfalso
          omega
