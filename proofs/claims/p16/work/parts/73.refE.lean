set_option maxHeartbeats 4000000 in
set_option maxRecDepth 100000 in
theorem a_X10_text (l : Launch) (K : KE) (G : Nat → Option Nat) (H : Heap) {a0 : Nat} (x1 : Int32) (x2 : Int32) {oq : Nat} {aq : Nat} {f9 : Nat} {f0 : Nat} {f1 : Nat} {mq : Nat} (mn : Int32) (hT : TY K G H) (ga0 : G a0 = some 112) (goq : G oq = some 136) (eoq : oq = fR H a0 (K.1.2 10 32)) (gaq : G aq = some 137) (eaq : aq = fR H a0 (K.1.2 10 33)) (gf9 : G f9 = some 133) (ef9 : f9 = fR H a0 (K.1.2 10 29)) (gf0 : G f0 = some 134) (ef0 : f0 = fR H a0 (K.1.2 10 30)) (gf1 : G f1 = some 135) (ef1 : f1 = fR H a0 (K.1.2 10 31)) (gmq : G mq = some 128) (emq : mq = fR H a0 (K.1.2 10 24)) (emn : mn = fI H a0 (K.1.2 10 35)) (hg_CG : CG (avw K H a0)) (hg_TU : TU (avw K H a0) (svw K H a0)) (hg_WD : WD (avw K H a0)) (hg_IM : IM (avw K H a0)) : MX l K yX10_text cX10_text 7 (some .int) 10 215 0 0 [.ref a0, .int x1, .int x2] H (AE G [112, 136, 137, 138, 129, 130, 131, 132, 133, 134, 135, 128] H.size) (fun v H1 => ∃ (r : Int32) (t0 : Int32), v = some (.int r) ∧ t0 = fI H1 a0 (K.1.2 10 35) ∧ oq = fR H1 a0 (K.1.2 10 32) ∧ aq = fR H1 a0 (K.1.2 10 33) ∧ f9 = fR H1 a0 (K.1.2 10 29) ∧ f0 = fR H1 a0 (K.1.2 10 30) ∧ f1 = fR H1 a0 (K.1.2 10 31) ∧ mq = fR H1 a0 (K.1.2 10 24) ∧ (CG (avw K H1 a0)) ∧ (TU (avw K H1 a0) (svw K H1 a0)) ∧ (WD (avw K H1 a0)) ∧ (IM (avw K H1 a0)) ∧ TY K G H1) := by
  refine MX.of (by decide +kernel) (Nat.le_of_ble_eq_true rfl) ?_
  intro p e s m below meth c ls Q C hH hl hQ
  subst hH
  have C : CX p K s m _ meth c RX10 cX10_text 7 (some .int) "text" := C
  obtain ⟨hx, hb, hml, hown, hts, hKT, hr, hlocks, hnm⟩ := id C
  have hl : lv_has ls 7 [(0, .ref a0), (1, .int x1), (2, .int x2)] := hl
  have hS : va_S (AE G [112, 136, 137, 138, 129, 130, 131, 132, 133, 134, 135, 128] s.heap.size) s.heap s.heap [] := va_S.rf
  have n_m1 : ((-1) : Int32).toInt = -1 := rfl
  have n_0 : (0 : Int32).toInt = 0 := rfl
  have n_1 : (1 : Int32).toInt = 1 := rfl
  have n_2 : (2 : Int32).toInt = 2 := rfl
  have n_3 : (3 : Int32).toInt = 3 := rfl
  have n_16 : (16 : Int32).toInt = 16 := rfl
  have n_96 : (96 : Int32).toInt = 96 := rfl
  have n_500 : (500 : Int32).toInt = 500 := rfl
  have n_3000 : (3000 : Int32).toInt = 3000 := rfl
  have bmn := ty_fi (x := mn) (k := 35) emn hT ga0 rg_112 rfl
  have hap : ∀ x y, x < 74 → y < 74 → x ≠ y → K.1.2 10 x ≠ K.1.2 10 y := x_apart hKT hts inX10 tyX10 tyX10_ok nmX10 rfl
  replace eoq := EQN.mk eoq
  replace eaq := EQN.mk eaq
  replace ef9 := EQN.mk ef9
  replace ef0 := EQN.mk ef0
  replace ef1 := EQN.mk ef1
  replace emq := EQN.mk emq
  have J149 : ∀  (ls8614 : Array Slot) (H8613 : Heap) (locsH8613 : List Loc) (x8616 : Int32) (x8617 : Int32) (x8618 : Int32), lv_has ls8614 7 [(0, .ref a0), (4, .int x8616), (5, .int x8617)] → TY K G H8613 → va_S (AE G [112, 136, 137, 138, 129, 130, 131, 132, 133, 134, 135, 128] s.heap.size) s.heap H8613 locsH8613 → (0 ≤ x8616.toInt ∧ x8616.toInt ≤ 16) → (0 ≤ x8617.toInt ∧ x8617.toInt ≤ 5) → (0 ≤ x8618.toInt ∧ x8618.toInt ≤ 500) → (x8618 = fI H8613 a0 (K.1.2 10 35)) → (EQN oq (fR H8613 a0 (K.1.2 10 32))) → (EQN aq (fR H8613 a0 (K.1.2 10 33))) → (EQN f9 (fR H8613 a0 (K.1.2 10 29))) → (EQN f0 (fR H8613 a0 (K.1.2 10 30))) → (EQN f1 (fR H8613 a0 (K.1.2 10 31))) → (EQN mq (fR H8613 a0 (K.1.2 10 24))) → (CG (avw K H8613 a0)) → (TU (avw K H8613 a0) (svw K H8613 a0)) → (WD (avw K H8613 a0)) → (IM (avw K H8613 a0)) → (DL (fun k => fI H8613 f9 k) (fun k => fI H8613 f0 k) (fun k => fI H8613 f1 k) (fun k => fI H8613 oq k) (fun k => fI H8613 aq k) x8616.toNatClampNeg x8618.toInt) → W p l e ({ frames := 10, cells := 0, slots := 0, locals := 215 } : Room) s m (([.ref a0, .int x1, .int x2] : List Value).toArray) below meth c H8613 locsH8613 0 0 Q (F0 m 149 ls8614 []) := by
    intro  ls8614 H8613 locsH8613 x8616 x8617 x8618 hl8615 hTH8613 hSH8613 bx8616 bx8617 bx8618 ex8618 cy8619_0 cy8619_1 cy8619_2 cy8619_3 cy8619_4 cy8619_5 gy8619_CG gy8619_TU gy8619_WD gy8619_IM hDL
    have J329 : ∀ (nf : Nat) (ls8621 : Array Slot) (H8620 : Heap) (locsH8620 : List Loc) (x8623 : Int32) (x8624 : Int32), lv_has ls8621 7 [(0, .ref a0), (4, .int x8616), (5, .int x8617), (6, .int x8623)] → TY K G H8620 → va_S (AE G [112, 136, 137, 138, 129, 130, 131, 132, 133, 134, 135, 128] s.heap.size) s.heap H8620 locsH8620 → (0 ≤ x8623.toInt ∧ x8623.toInt ≤ 500) → (0 ≤ x8624.toInt ∧ x8624.toInt ≤ 500) → (x8624 = fI H8620 a0 (K.1.2 10 35)) → (EQN oq (fR H8620 a0 (K.1.2 10 32))) → (EQN aq (fR H8620 a0 (K.1.2 10 33))) → (EQN f9 (fR H8620 a0 (K.1.2 10 29))) → (EQN f0 (fR H8620 a0 (K.1.2 10 30))) → (EQN f1 (fR H8620 a0 (K.1.2 10 31))) → (EQN mq (fR H8620 a0 (K.1.2 10 24))) → (CP (fun k => fI H8620 f9 k) (fun k => fI H8613 f9 k) (16 * x8617.toNatClampNeg) (96) (x8616.toNatClampNeg)) → (CP (fun k => fI H8620 f0 k) (fun k => fI H8613 f0 k) (16 * x8617.toNatClampNeg) (96) (x8616.toNatClampNeg)) → (CP (fun k => fI H8620 f1 k) (fun k => fI H8613 f1 k) (16 * x8617.toNatClampNeg) (96) (x8616.toNatClampNeg)) → (CP (fun k => fI H8620 oq k) (fun k => fI H8613 oq k) (500 * x8617.toNatClampNeg) (3000) (x8623.toNatClampNeg)) → (CP (fun k => fI H8620 aq k) (fun k => fI H8613 aq k) (500 * x8617.toNatClampNeg) (3000) (x8623.toNatClampNeg)) → (CP (fun k => fI H8620 mq k) (fun k => fI H8613 mq k) (0) (0) (0)) → (TU (avw K H8620 a0) (svw K H8620 a0)) → (WD (avw K H8620 a0)) → (IM (avw K H8620 a0)) → (500 - x8623.toInt < (nf : Int)) → (x8624.toInt = x8618.toInt) → W p l e ({ frames := 10, cells := 0, slots := 0, locals := 215 } : Room) s m (([.ref a0, .int x1, .int x2] : List Value).toArray) below meth c H8620 locsH8620 0 0 Q (F0 m 329 ls8621 []) := by
      intro nf
      induction nf with
      | zero =>
        intro ls8621 H8620 locsH8620 x8623 x8624 hl8622 hTH8620 hSH8620 bx8623 bx8624 ex8624 cy8625_0 cy8625_1 cy8625_2 cy8625_3 cy8625_4 cy8625_5 by8625_c9 by8625_c0 by8625_c1 by8625_co by8625_ca by8625_cm gy8625_TU gy8625_WD gy8625_IM hm329 iv329
        exfalso
        omega
      | succ nf ih329 =>
        intro ls8621 H8620 locsH8620 x8623 x8624 hl8622 hTH8620 hSH8620 bx8623 bx8624 ex8624 cy8625_0 cy8625_1 cy8625_2 cy8625_3 cy8625_4 cy8625_5 by8625_c9 by8625_c0 by8625_c1 by8625_co by8625_ca by8625_cm gy8625_TU gy8625_WD gy8625_IM hm329 iv329
        refine lv_iload hx hb dX10_text_329 (lv_at hl8622 3 rfl) ?_
        refine lv_aload_n hx hb dX10_text_331 rfl (lv_at hl8622 0 rfl) ?_
        refine x_gi C hTH8620 (ci := 10) (k := 35) rfl inX10 (by decide) wF_X10_228 ga0 rg_112 rfl dX10_text_332 (fun x8626 ex8626 bx8626 => ?_)
        have ux8626 : x8624 = x8626 := (ex8624).trans ex8626.symm
        subst ux8626
        refine lv_icmp_ge (tgt := 394) hx hb dX10_text_335 (by decide) (fun c8627 => ?_) (fun c8627 => ?_)
        · have k8628 := i_le c8627
          refine lv_aload_n hx hb dX10_text_394 rfl (lv_at hl8622 0 rfl) ?_
          refine x_gr C hTH8620 (ci := 10) (k := 24) rfl inX10 (by decide) wF_X10_59 ga0 rg_112 rfl dX10_text_395 (fun q8629 eq8629 gq8629 => ?_)
          have uq8629 : mq = q8629 := (cy8625_5).trans eq8629.symm
          subst uq8629
          clear eq8629
          refine lv_iload hx hb dX10_text_398 (lv_at hl8622 2 rfl) ?_
          refine lv_iload hx hb dX10_text_400 (lv_at hl8622 1 rfl) ?_
          refine x_iast C hTH8620 hSH8620 gmq rg_128 (by omega) (by show _ < ((7 : Nat) : Int); omega) ⟨by have := i_rng x8616; omega, by have := i_rng x8616; omega⟩ (AE_in gmq (by decide)) dX10_text_402 (fun H8630 locsH8630 hTH8630 hSH8630 wH8630 => ?_)
          have g8631 : TU (avw K H8630 a0) (svw K H8630 a0) := TU.congr (fun k hk j => av_arr hTH8620 ga0 wH8630 gmq (by decide) (TU_ok 128 (by decide) k hk)) (fun k hk => sv_arr ga0 wH8630 gmq (by decide)) gy8625_TU
          have g8632 : WD (avw K H8630 a0) := WD.congr (fun k hk j => av_arr hTH8620 ga0 wH8630 gmq (by decide) (WD_ok 128 (by decide) k hk)) gy8625_WD
          have g8633 : IM (avw K H8630 a0) := IM.congr (fun k hk j => av_arr hTH8620 ga0 wH8630 gmq (by decide) (IM_ok 128 (by decide) k hk)) gy8625_IM
          have b8634 : CP (fun k => fI H8630 f9 k) (fun k => fI H8613 f9 k) (16 * x8617.toNatClampNeg) (96) (x8616.toNatClampNeg) := CP.congr (fun j => Wr.neI wH8630 (Or.inl (G_ne gf9 gmq (by decide)))) by8625_c9
          have b8635 : CP (fun k => fI H8630 f0 k) (fun k => fI H8613 f0 k) (16 * x8617.toNatClampNeg) (96) (x8616.toNatClampNeg) := CP.congr (fun j => Wr.neI wH8630 (Or.inl (G_ne gf0 gmq (by decide)))) by8625_c0
          have b8636 : CP (fun k => fI H8630 f1 k) (fun k => fI H8613 f1 k) (16 * x8617.toNatClampNeg) (96) (x8616.toNatClampNeg) := CP.congr (fun j => Wr.neI wH8630 (Or.inl (G_ne gf1 gmq (by decide)))) by8625_c1
          have b8637 : CP (fun k => fI H8630 oq k) (fun k => fI H8613 oq k) (500 * x8617.toNatClampNeg) (3000) (x8623.toNatClampNeg) := CP.congr (fun j => Wr.neI wH8630 (Or.inl (G_ne goq gmq (by decide)))) by8625_co
          have b8638 : CP (fun k => fI H8630 aq k) (fun k => fI H8613 aq k) (500 * x8617.toNatClampNeg) (3000) (x8623.toNatClampNeg) := CP.congr (fun j => Wr.neI wH8630 (Or.inl (G_ne gaq gmq (by decide)))) by8625_ca
          have m8639 := ex8624.trans (Wr.neI wH8630 (Or.inl (G_ne ga0 gmq (by decide)))).symm
          have m8640 := cy8625_0.trans (Wr.neR wH8630 (Or.inl (G_ne ga0 gmq (by decide)))).symm
          have m8641 := cy8625_1.trans (Wr.neR wH8630 (Or.inl (G_ne ga0 gmq (by decide)))).symm
          have m8642 := cy8625_2.trans (Wr.neR wH8630 (Or.inl (G_ne ga0 gmq (by decide)))).symm
          have m8643 := cy8625_3.trans (Wr.neR wH8630 (Or.inl (G_ne ga0 gmq (by decide)))).symm
          have m8644 := cy8625_4.trans (Wr.neR wH8630 (Or.inl (G_ne ga0 gmq (by decide)))).symm
          have m8645 := cy8625_5.trans (Wr.neR wH8630 (Or.inl (G_ne ga0 gmq (by decide)))).symm
          have m8646 := Wr.I wH8630
          have m8646 := m8646.symm
          clear by8625_c0 by8625_c1 by8625_c9 by8625_ca by8625_co cy8625_0 cy8625_1 cy8625_2 cy8625_3 cy8625_4 cy8625_5 ex8624 gy8625_IM gy8625_TU gy8625_WD hTH8620
          have cf_x8616 := i_cl (x := x8616) (by omega)
          have cf_x8617 := i_cl (x := x8617) (by omega)
          have cf_x8623 := i_cl (x := x8623) (by omega)
          have cf_x8624 := i_cl (x := x8624) (by omega)
          have cgz : CG (avw K H8630 a0) := CG.fin (row := x8617.toNatClampNeg) (n := x8616.toNatClampNeg) (i := x8623.toNatClampNeg) hTH8613 ga0 cy8619_5 cy8619_2 cy8619_3 cy8619_4 cy8619_0 cy8619_1 m8645 m8642 m8643 m8644 m8640 m8641 gy8619_CG  hDL (by omega) (by omega) (by omega) (by omega) (CP.cast b8634 (by omega) (by omega) (by omega)) (CP.cast b8635 (by omega) (by omega) (by omega)) (CP.cast b8636 (by omega) (by omega) (by omega)) (CP.cast b8637 (by omega) (by omega) (by omega)) (CP.cast b8638 (by omega) (by omega) (by omega)) (by rw [Wr.I wH8630]; omega) (fun j hj => (Wr.neI wH8630 (Or.inr hj)).trans (by8625_cm.2 j (Or.inr (by omega))))
          refine lv_iload hx hb dX10_text_403 (lv_at hl8622 1 rfl) ?_
          exact x_iret C hQ dX10_text_405 hSH8630 (by decide) (by decide) (⟨x8616, x8624, rfl, m8639, m8640, m8641, m8642, m8643, m8644, m8645, cgz, g8631, g8632, g8633, hTH8630⟩)
        · have k8628 := i_nle c8627
          have hrw : 0 ≤ x8617.toInt ∧ x8617.toInt ≤ 5 := ⟨by omega, by omega⟩
          have hlw : 0 ≤ x8623.toInt ∧ x8623.toInt ≤ 499 := ⟨by omega, by omega⟩
          refine lv_aload_n hx hb dX10_text_338 rfl (lv_at hl8622 0 rfl) ?_
          refine x_gr C hTH8620 (ci := 10) (k := 32) rfl inX10 (by decide) wF_X10_83 ga0 rg_112 rfl dX10_text_339 (fun q8647 eq8647 gq8647 => ?_)
          have uq8647 : oq = q8647 := (cy8625_0).trans eq8647.symm
          subst uq8647
          clear eq8647
          refine lv_sipush (v := 500) hx hb dX10_text_342 (by decide) ?_
          refine lv_iload hx hb dX10_text_345 (lv_at hl8622 2 rfl) ?_
          refine lv_imul hx hb dX10_text_347 ?_
          refine lv_topi (fun x8648 ex8648 => ?_)
          have tx8648 := i_mul ex8648 (by rw [n_500]; omega)
          rw [n_500] at tx8648
          refine lv_iload hx hb dX10_text_348 (lv_at hl8622 3 rfl) ?_
          refine lv_iadd hx hb dX10_text_350 ?_
          refine lv_topi (fun x8649 ex8649 => ?_)
          have tx8649 := i_add ex8649 (by omega)
          refine lv_aload_n hx hb dX10_text_351 rfl (lv_at hl8622 0 rfl) ?_
          refine x_gr C hTH8620 (ci := 10) (k := 32) rfl inX10 (by decide) wF_X10_83 ga0 rg_112 rfl dX10_text_352 (fun q8650 eq8650 gq8650 => ?_)
          have uq8650 : oq = q8650 := (cy8625_0).trans eq8650.symm
          subst uq8650
          clear eq8650
          refine lv_sipush (v := 3000) hx hb dX10_text_355 (by decide) ?_
          refine lv_iload hx hb dX10_text_358 (lv_at hl8622 3 rfl) ?_
          refine lv_iadd hx hb dX10_text_360 ?_
          refine lv_topi (fun x8651 ex8651 => ?_)
          have tx8651 := i_add ex8651 (by omega)
          refine x_ai C hTH8620 goq rg_136 ⟨by omega, by show _ < ((3500 : Nat) : Int); omega⟩ dX10_text_361 (fun x8652 ex8652 bx8652 => ?_)
          refine x_iast C hTH8620 hSH8620 goq rg_136 (by omega) (by show _ < ((3500 : Nat) : Int); omega) ⟨by have := i_rng x8652; omega, by have := i_rng x8652; omega⟩ (AE_in goq (by decide)) dX10_text_362 (fun H8653 locsH8653 hTH8653 hSH8653 wH8653 => ?_)
          have g8654 : TU (avw K H8653 a0) (svw K H8653 a0) := TU.congr (fun k hk j => av_arr hTH8620 ga0 wH8653 goq (by decide) (TU_ok 136 (by decide) k hk)) (fun k hk => sv_arr ga0 wH8653 goq (by decide)) gy8625_TU
          have g8655 : WD (avw K H8653 a0) := WD.congr (fun k hk j => av_arr hTH8620 ga0 wH8653 goq (by decide) (WD_ok 136 (by decide) k hk)) gy8625_WD
          have g8656 : IM (avw K H8653 a0) := IM.congr (fun k hk j => av_arr hTH8620 ga0 wH8653 goq (by decide) (IM_ok 136 (by decide) k hk)) gy8625_IM
          have b8657 : CP (fun k => fI H8653 f9 k) (fun k => fI H8613 f9 k) (16 * x8617.toNatClampNeg) (96) (x8616.toNatClampNeg) := CP.congr (fun j => Wr.neI wH8653 (Or.inl (G_ne gf9 goq (by decide)))) by8625_c9
          have b8658 : CP (fun k => fI H8653 f0 k) (fun k => fI H8613 f0 k) (16 * x8617.toNatClampNeg) (96) (x8616.toNatClampNeg) := CP.congr (fun j => Wr.neI wH8653 (Or.inl (G_ne gf0 goq (by decide)))) by8625_c0
          have b8659 : CP (fun k => fI H8653 f1 k) (fun k => fI H8613 f1 k) (16 * x8617.toNatClampNeg) (96) (x8616.toNatClampNeg) := CP.congr (fun j => Wr.neI wH8653 (Or.inl (G_ne gf1 goq (by decide)))) by8625_c1
          have b8660 : CP (fun k => fI H8653 oq k) (fun k => fI H8613 oq k) (500 * x8617.toNatClampNeg) (3000) (x8623.toNatClampNeg + 1) := CP.step by8625_co (i := x8649.toNatClampNeg) (k := x8651.toNatClampNeg) (x := x8652) (ix500 tx8648 tx8649 hrw.1 hlw.1) (le500 hrw hlw) (ixk n_3000 tx8651 hlw.1) ex8652 (Wr.I wH8653) (fun j hj => Wr.neI wH8653 (Or.inr hj))
          have b8661 : CP (fun k => fI H8653 aq k) (fun k => fI H8613 aq k) (500 * x8617.toNatClampNeg) (3000) (x8623.toNatClampNeg) := CP.congr (fun j => Wr.neI wH8653 (Or.inl (G_ne gaq goq (by decide)))) by8625_ca
          have b8662 : CP (fun k => fI H8653 mq k) (fun k => fI H8613 mq k) (0) (0) (0) := CP.congr (fun j => Wr.neI wH8653 (Or.inl (G_ne gmq goq (by decide)))) by8625_cm
          have m8663 := ex8624.trans (Wr.neI wH8653 (Or.inl (G_ne ga0 goq (by decide)))).symm
          have m8664 := cy8625_0.trans (Wr.neR wH8653 (Or.inl (G_ne ga0 goq (by decide)))).symm
          have m8665 := cy8625_1.trans (Wr.neR wH8653 (Or.inl (G_ne ga0 goq (by decide)))).symm
          have m8666 := cy8625_2.trans (Wr.neR wH8653 (Or.inl (G_ne ga0 goq (by decide)))).symm
          have m8667 := cy8625_3.trans (Wr.neR wH8653 (Or.inl (G_ne ga0 goq (by decide)))).symm
          have m8668 := cy8625_4.trans (Wr.neR wH8653 (Or.inl (G_ne ga0 goq (by decide)))).symm
          have m8669 := cy8625_5.trans (Wr.neR wH8653 (Or.inl (G_ne ga0 goq (by decide)))).symm
          have m8671 := Wr.I wH8653
          have m8671 := m8671.symm
          clear by8625_c0 by8625_c1 by8625_c9 by8625_ca by8625_co cy8625_0 cy8625_1 cy8625_2 cy8625_3 cy8625_4 cy8625_5 ex8624 ex8652 gy8625_IM gy8625_TU gy8625_WD hTH8620
          clear tx8648 tx8649 tx8651 bx8652 ex8648 ex8649 ex8651
          refine lv_aload_n hx hb dX10_text_363 rfl (lv_at hl8622 0 rfl) ?_
          refine x_gr C hTH8653 (ci := 10) (k := 33) rfl inX10 (by decide) wF_X10_86 ga0 rg_112 rfl dX10_text_364 (fun q8672 eq8672 gq8672 => ?_)
          have uq8672 : aq = q8672 := (m8665).trans eq8672.symm
          subst uq8672
          clear eq8672
          refine lv_sipush (v := 500) hx hb dX10_text_367 (by decide) ?_
          refine lv_iload hx hb dX10_text_370 (lv_at hl8622 2 rfl) ?_
          refine lv_imul hx hb dX10_text_372 ?_
          refine lv_topi (fun x8673 ex8673 => ?_)
          have tx8673 := i_mul ex8673 (by rw [n_500]; omega)
          rw [n_500] at tx8673
          refine lv_iload hx hb dX10_text_373 (lv_at hl8622 3 rfl) ?_
          refine lv_iadd hx hb dX10_text_375 ?_
          refine lv_topi (fun x8674 ex8674 => ?_)
          have tx8674 := i_add ex8674 (by omega)
          refine lv_aload_n hx hb dX10_text_376 rfl (lv_at hl8622 0 rfl) ?_
          refine x_gr C hTH8653 (ci := 10) (k := 33) rfl inX10 (by decide) wF_X10_86 ga0 rg_112 rfl dX10_text_377 (fun q8675 eq8675 gq8675 => ?_)
          have uq8675 : aq = q8675 := (m8665).trans eq8675.symm
          subst uq8675
          clear eq8675
          refine lv_sipush (v := 3000) hx hb dX10_text_380 (by decide) ?_
          refine lv_iload hx hb dX10_text_383 (lv_at hl8622 3 rfl) ?_
          refine lv_iadd hx hb dX10_text_385 ?_
          refine lv_topi (fun x8676 ex8676 => ?_)
          have tx8676 := i_add ex8676 (by omega)
          refine x_ai C hTH8653 gaq rg_137 ⟨by omega, by show _ < ((3500 : Nat) : Int); omega⟩ dX10_text_386 (fun x8677 ex8677 bx8677 => ?_)
          refine x_iast C hTH8653 hSH8653 gaq rg_137 (by omega) (by show _ < ((3500 : Nat) : Int); omega) ⟨by have := i_rng x8677; omega, by have := i_rng x8677; omega⟩ (AE_in gaq (by decide)) dX10_text_387 (fun H8678 locsH8678 hTH8678 hSH8678 wH8678 => ?_)
          have g8679 : TU (avw K H8678 a0) (svw K H8678 a0) := TU.congr (fun k hk j => av_arr hTH8653 ga0 wH8678 gaq (by decide) (TU_ok 137 (by decide) k hk)) (fun k hk => sv_arr ga0 wH8678 gaq (by decide)) g8654
          have g8680 : WD (avw K H8678 a0) := WD.congr (fun k hk j => av_arr hTH8653 ga0 wH8678 gaq (by decide) (WD_ok 137 (by decide) k hk)) g8655
          have g8681 : IM (avw K H8678 a0) := IM.congr (fun k hk j => av_arr hTH8653 ga0 wH8678 gaq (by decide) (IM_ok 137 (by decide) k hk)) g8656
          have b8682 : CP (fun k => fI H8678 f9 k) (fun k => fI H8613 f9 k) (16 * x8617.toNatClampNeg) (96) (x8616.toNatClampNeg) := CP.congr (fun j => Wr.neI wH8678 (Or.inl (G_ne gf9 gaq (by decide)))) b8657
          have b8683 : CP (fun k => fI H8678 f0 k) (fun k => fI H8613 f0 k) (16 * x8617.toNatClampNeg) (96) (x8616.toNatClampNeg) := CP.congr (fun j => Wr.neI wH8678 (Or.inl (G_ne gf0 gaq (by decide)))) b8658
          have b8684 : CP (fun k => fI H8678 f1 k) (fun k => fI H8613 f1 k) (16 * x8617.toNatClampNeg) (96) (x8616.toNatClampNeg) := CP.congr (fun j => Wr.neI wH8678 (Or.inl (G_ne gf1 gaq (by decide)))) b8659
          have b8685 : CP (fun k => fI H8678 oq k) (fun k => fI H8613 oq k) (500 * x8617.toNatClampNeg) (3000) (x8623.toNatClampNeg + 1) := CP.congr (fun j => Wr.neI wH8678 (Or.inl (G_ne goq gaq (by decide)))) b8660
          have b8686 : CP (fun k => fI H8678 aq k) (fun k => fI H8613 aq k) (500 * x8617.toNatClampNeg) (3000) (x8623.toNatClampNeg + 1) := CP.step b8661 (i := x8674.toNatClampNeg) (k := x8676.toNatClampNeg) (x := x8677) (ix500 tx8673 tx8674 hrw.1 hlw.1) (le500 hrw hlw) (ixk n_3000 tx8676 hlw.1) ex8677 (Wr.I wH8678) (fun j hj => Wr.neI wH8678 (Or.inr hj))
          have b8687 : CP (fun k => fI H8678 mq k) (fun k => fI H8613 mq k) (0) (0) (0) := CP.congr (fun j => Wr.neI wH8678 (Or.inl (G_ne gmq gaq (by decide)))) b8662
          have m8688 := m8663.trans (Wr.neI wH8678 (Or.inl (G_ne ga0 gaq (by decide)))).symm
          have m8689 := m8664.trans (Wr.neR wH8678 (Or.inl (G_ne ga0 gaq (by decide)))).symm
          have m8690 := m8665.trans (Wr.neR wH8678 (Or.inl (G_ne ga0 gaq (by decide)))).symm
          have m8691 := m8666.trans (Wr.neR wH8678 (Or.inl (G_ne ga0 gaq (by decide)))).symm
          have m8692 := m8667.trans (Wr.neR wH8678 (Or.inl (G_ne ga0 gaq (by decide)))).symm
          have m8693 := m8668.trans (Wr.neR wH8678 (Or.inl (G_ne ga0 gaq (by decide)))).symm
          have m8694 := m8669.trans (Wr.neR wH8678 (Or.inl (G_ne ga0 gaq (by decide)))).symm
          have m8695 := m8671.trans (Wr.neI wH8678 (Or.inl (G_ne goq gaq (by decide)))).symm
          have m8697 := Wr.I wH8678
          have m8697 := m8697.symm
          clear b8657 b8658 b8659 b8660 b8661 b8662 ex8677 g8654 g8655 g8656 hTH8653 m8663 m8664 m8665 m8666 m8667 m8668 m8669 m8671
          clear tx8673 tx8674 tx8676 bx8677 ex8673 ex8674 ex8676
          obtain ⟨x8698, ex8698⟩ : ∃ y : Int32, y = x8623 + 1 := ⟨_, rfl⟩
          have tx8698 := i_add ex8698 (by omega)
          refine lv_iinc (v := x8698) (lv' := [(6, .int x8698), (0, .ref a0), (4, .int x8616), (5, .int x8617)]) hx hb dX10_text_388 hl8622 (k := 3) rfl (by rw [ex8698]; rfl) (by decide) rfl (fun ls8699 hl8700 => ?_)
          refine lv_goto (tgt := 329) hx hb dX10_text_391 (by decide) ?_
          have cl_x8616 := i_cl (x := x8616) (by omega)
          have cl_x8617 := i_cl (x := x8617) (by omega)
          have cl_x8623 := i_cl (x := x8623) (by omega)
          have cl_x8698 := i_cl (x := x8698) (by omega)
          exact ih329 ls8699 H8678 locsH8678 (x8698) (x8624) (lv_sub hl8700 [1, 2, 3, 0] rfl) hTH8678 hSH8678 ⟨by have := i_rng x8698; omega, by have := i_rng x8698; omega⟩ ⟨by have := i_rng x8624; omega, by have := i_rng x8624; omega⟩ m8688 m8689 m8690 m8691 m8692 m8693 m8694 (CP.cast b8682 (by omega) (by omega) (by omega)) (CP.cast b8683 (by omega) (by omega) (by omega)) (CP.cast b8684 (by omega) (by omega) (by omega)) (CP.cast b8685 (by omega) (by omega) (by omega)) (CP.cast b8686 (by omega) (by omega) (by omega)) (CP.cast b8687 (by omega) (by omega) (by omega)) g8679 g8680 g8681 (by omega) (by omega)
    have J152 : ∀ (nf : Nat) (ls8702 : Array Slot) (H8701 : Heap) (locsH8701 : List Loc) (x8704 : Int32) (x8705 : Int32), lv_has ls8702 7 [(0, .ref a0), (4, .int x8616), (5, .int x8617), (6, .int x8704)] → TY K G H8701 → va_S (AE G [112, 136, 137, 138, 129, 130, 131, 132, 133, 134, 135, 128] s.heap.size) s.heap H8701 locsH8701 → (0 ≤ x8704.toInt ∧ x8704.toInt ≤ 16) → (0 ≤ x8705.toInt ∧ x8705.toInt ≤ 500) → (x8705 = fI H8701 a0 (K.1.2 10 35)) → (EQN oq (fR H8701 a0 (K.1.2 10 32))) → (EQN aq (fR H8701 a0 (K.1.2 10 33))) → (EQN f9 (fR H8701 a0 (K.1.2 10 29))) → (EQN f0 (fR H8701 a0 (K.1.2 10 30))) → (EQN f1 (fR H8701 a0 (K.1.2 10 31))) → (EQN mq (fR H8701 a0 (K.1.2 10 24))) → (CP (fun k => fI H8701 f9 k) (fun k => fI H8613 f9 k) (16 * x8617.toNatClampNeg) (96) (x8704.toNatClampNeg)) → (CP (fun k => fI H8701 f0 k) (fun k => fI H8613 f0 k) (16 * x8617.toNatClampNeg) (96) (x8704.toNatClampNeg)) → (CP (fun k => fI H8701 f1 k) (fun k => fI H8613 f1 k) (16 * x8617.toNatClampNeg) (96) (x8704.toNatClampNeg)) → (CP (fun k => fI H8701 oq k) (fun k => fI H8613 oq k) (500 * x8617.toNatClampNeg) (3000) (0)) → (CP (fun k => fI H8701 aq k) (fun k => fI H8613 aq k) (500 * x8617.toNatClampNeg) (3000) (0)) → (CP (fun k => fI H8701 mq k) (fun k => fI H8613 mq k) (0) (0) (0)) → (TU (avw K H8701 a0) (svw K H8701 a0)) → (WD (avw K H8701 a0)) → (IM (avw K H8701 a0)) → (16 - x8704.toInt < (nf : Int)) → (x8705.toInt = x8618.toInt ∧ x8704.toInt ≤ x8616.toInt) → W p l e ({ frames := 10, cells := 0, slots := 0, locals := 215 } : Room) s m (([.ref a0, .int x1, .int x2] : List Value).toArray) below meth c H8701 locsH8701 0 0 Q (F0 m 152 ls8702 []) := by
      intro nf
      induction nf with
      | zero =>
        intro ls8702 H8701 locsH8701 x8704 x8705 hl8703 hTH8701 hSH8701 bx8704 bx8705 ex8705 cy8706_0 cy8706_1 cy8706_2 cy8706_3 cy8706_4 cy8706_5 by8706_c9 by8706_c0 by8706_c1 by8706_co by8706_ca by8706_cm gy8706_TU gy8706_WD gy8706_IM hm152 iv152
        exfalso
        omega
      | succ nf ih152 =>
        intro ls8702 H8701 locsH8701 x8704 x8705 hl8703 hTH8701 hSH8701 bx8704 bx8705 ex8705 cy8706_0 cy8706_1 cy8706_2 cy8706_3 cy8706_4 cy8706_5 by8706_c9 by8706_c0 by8706_c1 by8706_co by8706_ca by8706_cm gy8706_TU gy8706_WD gy8706_IM hm152 iv152
        refine lv_iload hx hb dX10_text_152 (lv_at hl8703 3 rfl) ?_
        refine lv_iload hx hb dX10_text_154 (lv_at hl8703 1 rfl) ?_
        refine lv_icmp_ge (tgt := 326) hx hb dX10_text_156 (by decide) (fun c8707 => ?_) (fun c8707 => ?_)
        · have k8708 := i_le c8707
          refine lv_iconst (v := 0) hx hb dX10_text_326 (by decide) ?_
          refine lv_istore (lv' := [(6, .int 0), (0, .ref a0), (4, .int x8616), (5, .int x8617)]) hx hb dX10_text_327 hl8703 (by decide) rfl (fun ls8709 hl8710 => ?_)
          have cl00 : (0 : Int32).toNatClampNeg = 0 := rfl
          have cl_x8616 := i_cl (x := x8616) (by omega)
          have cl_x8617 := i_cl (x := x8617) (by omega)
          have cl_x8704 := i_cl (x := x8704) (by omega)
          have cl_0 := i_cl (x := (0 : Int32)) (by omega)
          have cl_0 := i_cl (x := (0 : Int32)) (by omega)
          exact J329 ((500 - (0 : Int32).toInt).toNat + 1) ls8709 H8701 locsH8701 (0) (x8705) (lv_sub hl8710 [1, 2, 3, 0] rfl) hTH8701 hSH8701 (by decide) ⟨by have := i_rng x8705; omega, by have := i_rng x8705; omega⟩ ex8705 cy8706_0 cy8706_1 cy8706_2 cy8706_3 cy8706_4 cy8706_5 (CP.cast by8706_c9 (by omega) (by omega) (by omega)) (CP.cast by8706_c0 (by omega) (by omega) (by omega)) (CP.cast by8706_c1 (by omega) (by omega) (by omega)) (CP.cast by8706_co (by omega) (by omega) (by omega)) (CP.cast by8706_ca (by omega) (by omega) (by omega)) (CP.cast by8706_cm (by omega) (by omega) (by omega)) gy8706_TU gy8706_WD gy8706_IM (by omega) (by omega)
        · have k8708 := i_nle c8707
          have hrw : 0 ≤ x8617.toInt ∧ x8617.toInt ≤ 5 := ⟨by omega, by omega⟩
          have hlw : 0 ≤ x8704.toInt ∧ x8704.toInt ≤ 15 := ⟨by omega, by omega⟩
          refine lv_aload_n hx hb dX10_text_159 rfl (lv_at hl8703 0 rfl) ?_
          refine x_gr C hTH8701 (ci := 10) (k := 25) rfl inX10 (by decide) wF_X10_62 ga0 rg_112 rfl dX10_text_160 (fun q8711 eq8711 gq8711 => ?_)
          replace eq8711 := EQN.mk eq8711
          refine lv_bipush (v := 16) hx hb dX10_text_163 (by decide) ?_
          refine lv_iload hx hb dX10_text_165 (lv_at hl8703 2 rfl) ?_
          refine lv_imul hx hb dX10_text_167 ?_
          refine lv_topi (fun x8712 ex8712 => ?_)
          have tx8712 := i_mul ex8712 (by rw [n_16]; omega)
          rw [n_16] at tx8712
          refine lv_iload hx hb dX10_text_168 (lv_at hl8703 3 rfl) ?_
          refine lv_iadd hx hb dX10_text_170 ?_
          refine lv_topi (fun x8713 ex8713 => ?_)
          have tx8713 := i_add ex8713 (by omega)
          refine lv_aload_n hx hb dX10_text_171 rfl (lv_at hl8703 0 rfl) ?_
          refine x_gr C hTH8701 (ci := 10) (k := 25) rfl inX10 (by decide) wF_X10_62 ga0 rg_112 rfl dX10_text_172 (fun q8714 eq8714 gq8714 => ?_)
          have uq8714 : q8711 = q8714 := (eq8711).trans eq8714.symm
          subst uq8714
          clear eq8714
          refine lv_bipush (v := 96) hx hb dX10_text_175 (by decide) ?_
          refine lv_iload hx hb dX10_text_177 (lv_at hl8703 3 rfl) ?_
          refine lv_iadd hx hb dX10_text_179 ?_
          refine lv_topi (fun x8715 ex8715 => ?_)
          have tx8715 := i_add ex8715 (by omega)
          refine x_ai C hTH8701 gq8711 rg_129 ⟨by omega, by show _ < ((112 : Nat) : Int); omega⟩ dX10_text_180 (fun x8716 ex8716 bx8716 => ?_)
          refine x_iast C hTH8701 hSH8701 gq8711 rg_129 (by omega) (by show _ < ((112 : Nat) : Int); omega) ⟨by have := i_rng x8716; omega, by have := i_rng x8716; omega⟩ (AE_in gq8711 (by decide)) dX10_text_181 (fun H8717 locsH8717 hTH8717 hSH8717 wH8717 => ?_)
          have g8718 : TU (avw K H8717 a0) (svw K H8717 a0) := TU.congr (fun k hk j => av_arr hTH8701 ga0 wH8717 gq8711 (by decide) (TU_ok 129 (by decide) k hk)) (fun k hk => sv_arr ga0 wH8717 gq8711 (by decide)) gy8706_TU
          have g8719 : WD (avw K H8717 a0) := WD.congr (fun k hk j => av_arr hTH8701 ga0 wH8717 gq8711 (by decide) (WD_ok 129 (by decide) k hk)) gy8706_WD
          have g8720 : IM (avw K H8717 a0) := IM.congr (fun k hk j => av_arr hTH8701 ga0 wH8717 gq8711 (by decide) (IM_ok 129 (by decide) k hk)) gy8706_IM
          have b8721 : CP (fun k => fI H8717 f9 k) (fun k => fI H8613 f9 k) (16 * x8617.toNatClampNeg) (96) (x8704.toNatClampNeg) := CP.congr (fun j => Wr.neI wH8717 (Or.inl (G_ne gf9 gq8711 (by decide)))) by8706_c9
          have b8722 : CP (fun k => fI H8717 f0 k) (fun k => fI H8613 f0 k) (16 * x8617.toNatClampNeg) (96) (x8704.toNatClampNeg) := CP.congr (fun j => Wr.neI wH8717 (Or.inl (G_ne gf0 gq8711 (by decide)))) by8706_c0
          have b8723 : CP (fun k => fI H8717 f1 k) (fun k => fI H8613 f1 k) (16 * x8617.toNatClampNeg) (96) (x8704.toNatClampNeg) := CP.congr (fun j => Wr.neI wH8717 (Or.inl (G_ne gf1 gq8711 (by decide)))) by8706_c1
          have b8724 : CP (fun k => fI H8717 oq k) (fun k => fI H8613 oq k) (500 * x8617.toNatClampNeg) (3000) (0) := CP.congr (fun j => Wr.neI wH8717 (Or.inl (G_ne goq gq8711 (by decide)))) by8706_co
          have b8725 : CP (fun k => fI H8717 aq k) (fun k => fI H8613 aq k) (500 * x8617.toNatClampNeg) (3000) (0) := CP.congr (fun j => Wr.neI wH8717 (Or.inl (G_ne gaq gq8711 (by decide)))) by8706_ca
          have b8726 : CP (fun k => fI H8717 mq k) (fun k => fI H8613 mq k) (0) (0) (0) := CP.congr (fun j => Wr.neI wH8717 (Or.inl (G_ne gmq gq8711 (by decide)))) by8706_cm
          have m8727 := ex8705.trans (Wr.neI wH8717 (Or.inl (G_ne ga0 gq8711 (by decide)))).symm
          have m8728 := cy8706_0.trans (Wr.neR wH8717 (Or.inl (G_ne ga0 gq8711 (by decide)))).symm
          have m8729 := cy8706_1.trans (Wr.neR wH8717 (Or.inl (G_ne ga0 gq8711 (by decide)))).symm
          have m8730 := cy8706_2.trans (Wr.neR wH8717 (Or.inl (G_ne ga0 gq8711 (by decide)))).symm
          have m8731 := cy8706_3.trans (Wr.neR wH8717 (Or.inl (G_ne ga0 gq8711 (by decide)))).symm
          have m8732 := cy8706_4.trans (Wr.neR wH8717 (Or.inl (G_ne ga0 gq8711 (by decide)))).symm
          have m8733 := cy8706_5.trans (Wr.neR wH8717 (Or.inl (G_ne ga0 gq8711 (by decide)))).symm
          have m8734 := eq8711.trans (Wr.neR wH8717 (Or.inl (G_ne ga0 gq8711 (by decide)))).symm
          have m8736 := Wr.I wH8717
          have m8736 := m8736.symm
          clear by8706_c0 by8706_c1 by8706_c9 by8706_ca by8706_cm by8706_co cy8706_0 cy8706_1 cy8706_2 cy8706_3 cy8706_4 cy8706_5 eq8711 ex8705 ex8716 gy8706_IM gy8706_TU gy8706_WD hTH8701
          clear tx8712 tx8713 tx8715 bx8716 ex8712 ex8713 ex8715
          refine lv_aload_n hx hb dX10_text_182 rfl (lv_at hl8703 0 rfl) ?_
          refine x_gr C hTH8717 (ci := 10) (k := 26) rfl inX10 (by decide) wF_X10_65 ga0 rg_112 rfl dX10_text_183 (fun q8737 eq8737 gq8737 => ?_)
          replace eq8737 := EQN.mk eq8737
          refine lv_bipush (v := 16) hx hb dX10_text_186 (by decide) ?_
          refine lv_iload hx hb dX10_text_188 (lv_at hl8703 2 rfl) ?_
          refine lv_imul hx hb dX10_text_190 ?_
          refine lv_topi (fun x8738 ex8738 => ?_)
          have tx8738 := i_mul ex8738 (by rw [n_16]; omega)
          rw [n_16] at tx8738
          refine lv_iload hx hb dX10_text_191 (lv_at hl8703 3 rfl) ?_
          refine lv_iadd hx hb dX10_text_193 ?_
          refine lv_topi (fun x8739 ex8739 => ?_)
          have tx8739 := i_add ex8739 (by omega)
          refine lv_aload_n hx hb dX10_text_194 rfl (lv_at hl8703 0 rfl) ?_
          refine x_gr C hTH8717 (ci := 10) (k := 26) rfl inX10 (by decide) wF_X10_65 ga0 rg_112 rfl dX10_text_195 (fun q8740 eq8740 gq8740 => ?_)
          have uq8740 : q8737 = q8740 := (eq8737).trans eq8740.symm
          subst uq8740
          clear eq8740
          refine lv_bipush (v := 96) hx hb dX10_text_198 (by decide) ?_
          refine lv_iload hx hb dX10_text_200 (lv_at hl8703 3 rfl) ?_
          refine lv_iadd hx hb dX10_text_202 ?_
          refine lv_topi (fun x8741 ex8741 => ?_)
          have tx8741 := i_add ex8741 (by omega)
          refine x_ai C hTH8717 gq8737 rg_130 ⟨by omega, by show _ < ((112 : Nat) : Int); omega⟩ dX10_text_203 (fun x8742 ex8742 bx8742 => ?_)
          refine x_iast C hTH8717 hSH8717 gq8737 rg_130 (by omega) (by show _ < ((112 : Nat) : Int); omega) ⟨by have := i_rng x8742; omega, by have := i_rng x8742; omega⟩ (AE_in gq8737 (by decide)) dX10_text_204 (fun H8743 locsH8743 hTH8743 hSH8743 wH8743 => ?_)
          have g8744 : TU (avw K H8743 a0) (svw K H8743 a0) := TU.congr (fun k hk j => av_arr hTH8717 ga0 wH8743 gq8737 (by decide) (TU_ok 130 (by decide) k hk)) (fun k hk => sv_arr ga0 wH8743 gq8737 (by decide)) g8718
          have g8745 : WD (avw K H8743 a0) := WD.congr (fun k hk j => av_arr hTH8717 ga0 wH8743 gq8737 (by decide) (WD_ok 130 (by decide) k hk)) g8719
          have g8746 : IM (avw K H8743 a0) := IM.congr (fun k hk j => av_arr hTH8717 ga0 wH8743 gq8737 (by decide) (IM_ok 130 (by decide) k hk)) g8720
          have b8747 : CP (fun k => fI H8743 f9 k) (fun k => fI H8613 f9 k) (16 * x8617.toNatClampNeg) (96) (x8704.toNatClampNeg) := CP.congr (fun j => Wr.neI wH8743 (Or.inl (G_ne gf9 gq8737 (by decide)))) b8721
          have b8748 : CP (fun k => fI H8743 f0 k) (fun k => fI H8613 f0 k) (16 * x8617.toNatClampNeg) (96) (x8704.toNatClampNeg) := CP.congr (fun j => Wr.neI wH8743 (Or.inl (G_ne gf0 gq8737 (by decide)))) b8722
          have b8749 : CP (fun k => fI H8743 f1 k) (fun k => fI H8613 f1 k) (16 * x8617.toNatClampNeg) (96) (x8704.toNatClampNeg) := CP.congr (fun j => Wr.neI wH8743 (Or.inl (G_ne gf1 gq8737 (by decide)))) b8723
          have b8750 : CP (fun k => fI H8743 oq k) (fun k => fI H8613 oq k) (500 * x8617.toNatClampNeg) (3000) (0) := CP.congr (fun j => Wr.neI wH8743 (Or.inl (G_ne goq gq8737 (by decide)))) b8724
          have b8751 : CP (fun k => fI H8743 aq k) (fun k => fI H8613 aq k) (500 * x8617.toNatClampNeg) (3000) (0) := CP.congr (fun j => Wr.neI wH8743 (Or.inl (G_ne gaq gq8737 (by decide)))) b8725
          have b8752 : CP (fun k => fI H8743 mq k) (fun k => fI H8613 mq k) (0) (0) (0) := CP.congr (fun j => Wr.neI wH8743 (Or.inl (G_ne gmq gq8737 (by decide)))) b8726
          have m8753 := m8727.trans (Wr.neI wH8743 (Or.inl (G_ne ga0 gq8737 (by decide)))).symm
          have m8754 := m8728.trans (Wr.neR wH8743 (Or.inl (G_ne ga0 gq8737 (by decide)))).symm
          have m8755 := m8729.trans (Wr.neR wH8743 (Or.inl (G_ne ga0 gq8737 (by decide)))).symm
          have m8756 := m8730.trans (Wr.neR wH8743 (Or.inl (G_ne ga0 gq8737 (by decide)))).symm
          have m8757 := m8731.trans (Wr.neR wH8743 (Or.inl (G_ne ga0 gq8737 (by decide)))).symm
          have m8758 := m8732.trans (Wr.neR wH8743 (Or.inl (G_ne ga0 gq8737 (by decide)))).symm
          have m8759 := m8733.trans (Wr.neR wH8743 (Or.inl (G_ne ga0 gq8737 (by decide)))).symm
          have m8760 := m8734.trans (Wr.neR wH8743 (Or.inl (G_ne ga0 gq8737 (by decide)))).symm
          have m8761 := m8736.trans (Wr.neI wH8743 (Or.inl (G_ne gq8711 gq8737 (by decide)))).symm
          have m8762 := eq8737.trans (Wr.neR wH8743 (Or.inl (G_ne ga0 gq8737 (by decide)))).symm
          have m8764 := Wr.I wH8743
          have m8764 := m8764.symm
          clear b8721 b8722 b8723 b8724 b8725 b8726 eq8737 ex8742 g8718 g8719 g8720 hTH8717 m8727 m8728 m8729 m8730 m8731 m8732 m8733 m8734 m8736
          clear tx8738 tx8739 tx8741 bx8742 ex8738 ex8739 ex8741
          refine lv_aload_n hx hb dX10_text_205 rfl (lv_at hl8703 0 rfl) ?_
          refine x_gr C hTH8743 (ci := 10) (k := 27) rfl inX10 (by decide) wF_X10_68 ga0 rg_112 rfl dX10_text_206 (fun q8765 eq8765 gq8765 => ?_)
          replace eq8765 := EQN.mk eq8765
          refine lv_bipush (v := 16) hx hb dX10_text_209 (by decide) ?_
          refine lv_iload hx hb dX10_text_211 (lv_at hl8703 2 rfl) ?_
          refine lv_imul hx hb dX10_text_213 ?_
          refine lv_topi (fun x8766 ex8766 => ?_)
          have tx8766 := i_mul ex8766 (by rw [n_16]; omega)
          rw [n_16] at tx8766
          refine lv_iload hx hb dX10_text_214 (lv_at hl8703 3 rfl) ?_
          refine lv_iadd hx hb dX10_text_216 ?_
          refine lv_topi (fun x8767 ex8767 => ?_)
          have tx8767 := i_add ex8767 (by omega)
          refine lv_aload_n hx hb dX10_text_217 rfl (lv_at hl8703 0 rfl) ?_
          refine x_gr C hTH8743 (ci := 10) (k := 27) rfl inX10 (by decide) wF_X10_68 ga0 rg_112 rfl dX10_text_218 (fun q8768 eq8768 gq8768 => ?_)
          have uq8768 : q8765 = q8768 := (eq8765).trans eq8768.symm
          subst uq8768
          clear eq8768
          refine lv_bipush (v := 96) hx hb dX10_text_221 (by decide) ?_
          refine lv_iload hx hb dX10_text_223 (lv_at hl8703 3 rfl) ?_
          refine lv_iadd hx hb dX10_text_225 ?_
          refine lv_topi (fun x8769 ex8769 => ?_)
          have tx8769 := i_add ex8769 (by omega)
          refine x_ai C hTH8743 gq8765 rg_131 ⟨by omega, by show _ < ((112 : Nat) : Int); omega⟩ dX10_text_226 (fun x8770 ex8770 bx8770 => ?_)
          refine x_iast C hTH8743 hSH8743 gq8765 rg_131 (by omega) (by show _ < ((112 : Nat) : Int); omega) ⟨by have := i_rng x8770; omega, by have := i_rng x8770; omega⟩ (AE_in gq8765 (by decide)) dX10_text_227 (fun H8771 locsH8771 hTH8771 hSH8771 wH8771 => ?_)
          have g8772 : TU (avw K H8771 a0) (svw K H8771 a0) := TU.congr (fun k hk j => av_arr hTH8743 ga0 wH8771 gq8765 (by decide) (TU_ok 131 (by decide) k hk)) (fun k hk => sv_arr ga0 wH8771 gq8765 (by decide)) g8744
          have g8773 : WD (avw K H8771 a0) := WD.congr (fun k hk j => av_arr hTH8743 ga0 wH8771 gq8765 (by decide) (WD_ok 131 (by decide) k hk)) g8745
          have g8774 : IM (avw K H8771 a0) := IM.congr (fun k hk j => av_arr hTH8743 ga0 wH8771 gq8765 (by decide) (IM_ok 131 (by decide) k hk)) g8746
          have b8775 : CP (fun k => fI H8771 f9 k) (fun k => fI H8613 f9 k) (16 * x8617.toNatClampNeg) (96) (x8704.toNatClampNeg) := CP.congr (fun j => Wr.neI wH8771 (Or.inl (G_ne gf9 gq8765 (by decide)))) b8747
          have b8776 : CP (fun k => fI H8771 f0 k) (fun k => fI H8613 f0 k) (16 * x8617.toNatClampNeg) (96) (x8704.toNatClampNeg) := CP.congr (fun j => Wr.neI wH8771 (Or.inl (G_ne gf0 gq8765 (by decide)))) b8748
          have b8777 : CP (fun k => fI H8771 f1 k) (fun k => fI H8613 f1 k) (16 * x8617.toNatClampNeg) (96) (x8704.toNatClampNeg) := CP.congr (fun j => Wr.neI wH8771 (Or.inl (G_ne gf1 gq8765 (by decide)))) b8749
          have b8778 : CP (fun k => fI H8771 oq k) (fun k => fI H8613 oq k) (500 * x8617.toNatClampNeg) (3000) (0) := CP.congr (fun j => Wr.neI wH8771 (Or.inl (G_ne goq gq8765 (by decide)))) b8750
          have b8779 : CP (fun k => fI H8771 aq k) (fun k => fI H8613 aq k) (500 * x8617.toNatClampNeg) (3000) (0) := CP.congr (fun j => Wr.neI wH8771 (Or.inl (G_ne gaq gq8765 (by decide)))) b8751
          have b8780 : CP (fun k => fI H8771 mq k) (fun k => fI H8613 mq k) (0) (0) (0) := CP.congr (fun j => Wr.neI wH8771 (Or.inl (G_ne gmq gq8765 (by decide)))) b8752
          have m8781 := m8753.trans (Wr.neI wH8771 (Or.inl (G_ne ga0 gq8765 (by decide)))).symm
          have m8782 := m8754.trans (Wr.neR wH8771 (Or.inl (G_ne ga0 gq8765 (by decide)))).symm
          have m8783 := m8755.trans (Wr.neR wH8771 (Or.inl (G_ne ga0 gq8765 (by decide)))).symm
          have m8784 := m8756.trans (Wr.neR wH8771 (Or.inl (G_ne ga0 gq8765 (by decide)))).symm
          have m8785 := m8757.trans (Wr.neR wH8771 (Or.inl (G_ne ga0 gq8765 (by decide)))).symm
          have m8786 := m8758.trans (Wr.neR wH8771 (Or.inl (G_ne ga0 gq8765 (by decide)))).symm
          have m8787 := m8759.trans (Wr.neR wH8771 (Or.inl (G_ne ga0 gq8765 (by decide)))).symm
          have m8788 := m8760.trans (Wr.neR wH8771 (Or.inl (G_ne ga0 gq8765 (by decide)))).symm
          have m8789 := m8761.trans (Wr.neI wH8771 (Or.inl (G_ne gq8711 gq8765 (by decide)))).symm
          have m8790 := m8762.trans (Wr.neR wH8771 (Or.inl (G_ne ga0 gq8765 (by decide)))).symm
          have m8791 := m8764.trans (Wr.neI wH8771 (Or.inl (G_ne gq8737 gq8765 (by decide)))).symm
          have m8792 := eq8765.trans (Wr.neR wH8771 (Or.inl (G_ne ga0 gq8765 (by decide)))).symm
          have m8794 := Wr.I wH8771
          have m8794 := m8794.symm
          clear b8747 b8748 b8749 b8750 b8751 b8752 eq8765 ex8770 g8744 g8745 g8746 hTH8743 m8753 m8754 m8755 m8756 m8757 m8758 m8759 m8760 m8761 m8762 m8764
          clear tx8766 tx8767 tx8769 bx8770 ex8766 ex8767 ex8769
          refine lv_aload_n hx hb dX10_text_228 rfl (lv_at hl8703 0 rfl) ?_
          refine x_gr C hTH8771 (ci := 10) (k := 28) rfl inX10 (by decide) wF_X10_71 ga0 rg_112 rfl dX10_text_229 (fun q8795 eq8795 gq8795 => ?_)
          replace eq8795 := EQN.mk eq8795
          refine lv_bipush (v := 16) hx hb dX10_text_232 (by decide) ?_
          refine lv_iload hx hb dX10_text_234 (lv_at hl8703 2 rfl) ?_
          refine lv_imul hx hb dX10_text_236 ?_
          refine lv_topi (fun x8796 ex8796 => ?_)
          have tx8796 := i_mul ex8796 (by rw [n_16]; omega)
          rw [n_16] at tx8796
          refine lv_iload hx hb dX10_text_237 (lv_at hl8703 3 rfl) ?_
          refine lv_iadd hx hb dX10_text_239 ?_
          refine lv_topi (fun x8797 ex8797 => ?_)
          have tx8797 := i_add ex8797 (by omega)
          refine lv_aload_n hx hb dX10_text_240 rfl (lv_at hl8703 0 rfl) ?_
          refine x_gr C hTH8771 (ci := 10) (k := 28) rfl inX10 (by decide) wF_X10_71 ga0 rg_112 rfl dX10_text_241 (fun q8798 eq8798 gq8798 => ?_)
          have uq8798 : q8795 = q8798 := (eq8795).trans eq8798.symm
          subst uq8798
          clear eq8798
          refine lv_bipush (v := 96) hx hb dX10_text_244 (by decide) ?_
          refine lv_iload hx hb dX10_text_246 (lv_at hl8703 3 rfl) ?_
          refine lv_iadd hx hb dX10_text_248 ?_
          refine lv_topi (fun x8799 ex8799 => ?_)
          have tx8799 := i_add ex8799 (by omega)
          refine x_ai C hTH8771 gq8795 rg_132 ⟨by omega, by show _ < ((112 : Nat) : Int); omega⟩ dX10_text_249 (fun x8800 ex8800 bx8800 => ?_)
          refine x_iast C hTH8771 hSH8771 gq8795 rg_132 (by omega) (by show _ < ((112 : Nat) : Int); omega) ⟨by have := i_rng x8800; omega, by have := i_rng x8800; omega⟩ (AE_in gq8795 (by decide)) dX10_text_250 (fun H8801 locsH8801 hTH8801 hSH8801 wH8801 => ?_)
          have g8802 : TU (avw K H8801 a0) (svw K H8801 a0) := TU.congr (fun k hk j => av_arr hTH8771 ga0 wH8801 gq8795 (by decide) (TU_ok 132 (by decide) k hk)) (fun k hk => sv_arr ga0 wH8801 gq8795 (by decide)) g8772
          have g8803 : WD (avw K H8801 a0) := WD.congr (fun k hk j => av_arr hTH8771 ga0 wH8801 gq8795 (by decide) (WD_ok 132 (by decide) k hk)) g8773
          have g8804 : IM (avw K H8801 a0) := IM.congr (fun k hk j => av_arr hTH8771 ga0 wH8801 gq8795 (by decide) (IM_ok 132 (by decide) k hk)) g8774
          have b8805 : CP (fun k => fI H8801 f9 k) (fun k => fI H8613 f9 k) (16 * x8617.toNatClampNeg) (96) (x8704.toNatClampNeg) := CP.congr (fun j => Wr.neI wH8801 (Or.inl (G_ne gf9 gq8795 (by decide)))) b8775
          have b8806 : CP (fun k => fI H8801 f0 k) (fun k => fI H8613 f0 k) (16 * x8617.toNatClampNeg) (96) (x8704.toNatClampNeg) := CP.congr (fun j => Wr.neI wH8801 (Or.inl (G_ne gf0 gq8795 (by decide)))) b8776
          have b8807 : CP (fun k => fI H8801 f1 k) (fun k => fI H8613 f1 k) (16 * x8617.toNatClampNeg) (96) (x8704.toNatClampNeg) := CP.congr (fun j => Wr.neI wH8801 (Or.inl (G_ne gf1 gq8795 (by decide)))) b8777
          have b8808 : CP (fun k => fI H8801 oq k) (fun k => fI H8613 oq k) (500 * x8617.toNatClampNeg) (3000) (0) := CP.congr (fun j => Wr.neI wH8801 (Or.inl (G_ne goq gq8795 (by decide)))) b8778
          have b8809 : CP (fun k => fI H8801 aq k) (fun k => fI H8613 aq k) (500 * x8617.toNatClampNeg) (3000) (0) := CP.congr (fun j => Wr.neI wH8801 (Or.inl (G_ne gaq gq8795 (by decide)))) b8779
          have b8810 : CP (fun k => fI H8801 mq k) (fun k => fI H8613 mq k) (0) (0) (0) := CP.congr (fun j => Wr.neI wH8801 (Or.inl (G_ne gmq gq8795 (by decide)))) b8780
          have m8811 := m8781.trans (Wr.neI wH8801 (Or.inl (G_ne ga0 gq8795 (by decide)))).symm
          have m8812 := m8782.trans (Wr.neR wH8801 (Or.inl (G_ne ga0 gq8795 (by decide)))).symm
          have m8813 := m8783.trans (Wr.neR wH8801 (Or.inl (G_ne ga0 gq8795 (by decide)))).symm
          have m8814 := m8784.trans (Wr.neR wH8801 (Or.inl (G_ne ga0 gq8795 (by decide)))).symm
          have m8815 := m8785.trans (Wr.neR wH8801 (Or.inl (G_ne ga0 gq8795 (by decide)))).symm
          have m8816 := m8786.trans (Wr.neR wH8801 (Or.inl (G_ne ga0 gq8795 (by decide)))).symm
          have m8817 := m8787.trans (Wr.neR wH8801 (Or.inl (G_ne ga0 gq8795 (by decide)))).symm
          have m8818 := m8788.trans (Wr.neR wH8801 (Or.inl (G_ne ga0 gq8795 (by decide)))).symm
          have m8819 := m8789.trans (Wr.neI wH8801 (Or.inl (G_ne gq8711 gq8795 (by decide)))).symm
          have m8820 := m8790.trans (Wr.neR wH8801 (Or.inl (G_ne ga0 gq8795 (by decide)))).symm
          have m8821 := m8791.trans (Wr.neI wH8801 (Or.inl (G_ne gq8737 gq8795 (by decide)))).symm
          have m8822 := m8792.trans (Wr.neR wH8801 (Or.inl (G_ne ga0 gq8795 (by decide)))).symm
          have m8823 := m8794.trans (Wr.neI wH8801 (Or.inl (G_ne gq8765 gq8795 (by decide)))).symm
          have m8824 := eq8795.trans (Wr.neR wH8801 (Or.inl (G_ne ga0 gq8795 (by decide)))).symm
          have m8826 := Wr.I wH8801
          have m8826 := m8826.symm
          clear b8775 b8776 b8777 b8778 b8779 b8780 eq8795 ex8800 g8772 g8773 g8774 hTH8771 m8781 m8782 m8783 m8784 m8785 m8786 m8787 m8788 m8789 m8790 m8791 m8792 m8794
          clear tx8796 tx8797 tx8799 bx8800 ex8796 ex8797 ex8799
          refine lv_aload_n hx hb dX10_text_251 rfl (lv_at hl8703 0 rfl) ?_
          refine x_gr C hTH8801 (ci := 10) (k := 29) rfl inX10 (by decide) wF_X10_74 ga0 rg_112 rfl dX10_text_252 (fun q8827 eq8827 gq8827 => ?_)
          have uq8827 : f9 = q8827 := (m8814).trans eq8827.symm
          subst uq8827
          clear eq8827
          refine lv_bipush (v := 16) hx hb dX10_text_255 (by decide) ?_
          refine lv_iload hx hb dX10_text_257 (lv_at hl8703 2 rfl) ?_
          refine lv_imul hx hb dX10_text_259 ?_
          refine lv_topi (fun x8828 ex8828 => ?_)
          have tx8828 := i_mul ex8828 (by rw [n_16]; omega)
          rw [n_16] at tx8828
          refine lv_iload hx hb dX10_text_260 (lv_at hl8703 3 rfl) ?_
          refine lv_iadd hx hb dX10_text_262 ?_
          refine lv_topi (fun x8829 ex8829 => ?_)
          have tx8829 := i_add ex8829 (by omega)
          refine lv_aload_n hx hb dX10_text_263 rfl (lv_at hl8703 0 rfl) ?_
          refine x_gr C hTH8801 (ci := 10) (k := 29) rfl inX10 (by decide) wF_X10_74 ga0 rg_112 rfl dX10_text_264 (fun q8830 eq8830 gq8830 => ?_)
          have uq8830 : f9 = q8830 := (m8814).trans eq8830.symm
          subst uq8830
          clear eq8830
          refine lv_bipush (v := 96) hx hb dX10_text_267 (by decide) ?_
          refine lv_iload hx hb dX10_text_269 (lv_at hl8703 3 rfl) ?_
          refine lv_iadd hx hb dX10_text_271 ?_
          refine lv_topi (fun x8831 ex8831 => ?_)
          have tx8831 := i_add ex8831 (by omega)
          refine x_ai C hTH8801 gf9 rg_133 ⟨by omega, by show _ < ((112 : Nat) : Int); omega⟩ dX10_text_272 (fun x8832 ex8832 bx8832 => ?_)
          refine x_iast C hTH8801 hSH8801 gf9 rg_133 (by omega) (by show _ < ((112 : Nat) : Int); omega) ⟨by have := i_rng x8832; omega, by have := i_rng x8832; omega⟩ (AE_in gf9 (by decide)) dX10_text_273 (fun H8833 locsH8833 hTH8833 hSH8833 wH8833 => ?_)
          have g8834 : TU (avw K H8833 a0) (svw K H8833 a0) := TU.congr (fun k hk j => av_arr hTH8801 ga0 wH8833 gf9 (by decide) (TU_ok 133 (by decide) k hk)) (fun k hk => sv_arr ga0 wH8833 gf9 (by decide)) g8802
          have g8835 : WD (avw K H8833 a0) := WD.congr (fun k hk j => av_arr hTH8801 ga0 wH8833 gf9 (by decide) (WD_ok 133 (by decide) k hk)) g8803
          have g8836 : IM (avw K H8833 a0) := IM.congr (fun k hk j => av_arr hTH8801 ga0 wH8833 gf9 (by decide) (IM_ok 133 (by decide) k hk)) g8804
          have b8837 : CP (fun k => fI H8833 f9 k) (fun k => fI H8613 f9 k) (16 * x8617.toNatClampNeg) (96) (x8704.toNatClampNeg + 1) := CP.step b8805 (i := x8829.toNatClampNeg) (k := x8831.toNatClampNeg) (x := x8832) (ix16 tx8828 tx8829 hrw.1 hlw.1) (le16 hrw hlw) (ixk n_96 tx8831 hlw.1) ex8832 (Wr.I wH8833) (fun j hj => Wr.neI wH8833 (Or.inr hj))
          have b8838 : CP (fun k => fI H8833 f0 k) (fun k => fI H8613 f0 k) (16 * x8617.toNatClampNeg) (96) (x8704.toNatClampNeg) := CP.congr (fun j => Wr.neI wH8833 (Or.inl (G_ne gf0 gf9 (by decide)))) b8806
          have b8839 : CP (fun k => fI H8833 f1 k) (fun k => fI H8613 f1 k) (16 * x8617.toNatClampNeg) (96) (x8704.toNatClampNeg) := CP.congr (fun j => Wr.neI wH8833 (Or.inl (G_ne gf1 gf9 (by decide)))) b8807
          have b8840 : CP (fun k => fI H8833 oq k) (fun k => fI H8613 oq k) (500 * x8617.toNatClampNeg) (3000) (0) := CP.congr (fun j => Wr.neI wH8833 (Or.inl (G_ne goq gf9 (by decide)))) b8808
          have b8841 : CP (fun k => fI H8833 aq k) (fun k => fI H8613 aq k) (500 * x8617.toNatClampNeg) (3000) (0) := CP.congr (fun j => Wr.neI wH8833 (Or.inl (G_ne gaq gf9 (by decide)))) b8809
          have b8842 : CP (fun k => fI H8833 mq k) (fun k => fI H8613 mq k) (0) (0) (0) := CP.congr (fun j => Wr.neI wH8833 (Or.inl (G_ne gmq gf9 (by decide)))) b8810
          have m8843 := m8811.trans (Wr.neI wH8833 (Or.inl (G_ne ga0 gf9 (by decide)))).symm
          have m8844 := m8812.trans (Wr.neR wH8833 (Or.inl (G_ne ga0 gf9 (by decide)))).symm
          have m8845 := m8813.trans (Wr.neR wH8833 (Or.inl (G_ne ga0 gf9 (by decide)))).symm
          have m8846 := m8814.trans (Wr.neR wH8833 (Or.inl (G_ne ga0 gf9 (by decide)))).symm
          have m8847 := m8815.trans (Wr.neR wH8833 (Or.inl (G_ne ga0 gf9 (by decide)))).symm
          have m8848 := m8816.trans (Wr.neR wH8833 (Or.inl (G_ne ga0 gf9 (by decide)))).symm
          have m8849 := m8817.trans (Wr.neR wH8833 (Or.inl (G_ne ga0 gf9 (by decide)))).symm
          have m8850 := m8818.trans (Wr.neR wH8833 (Or.inl (G_ne ga0 gf9 (by decide)))).symm
          have m8851 := m8819.trans (Wr.neI wH8833 (Or.inl (G_ne gq8711 gf9 (by decide)))).symm
          have m8852 := m8820.trans (Wr.neR wH8833 (Or.inl (G_ne ga0 gf9 (by decide)))).symm
          have m8853 := m8821.trans (Wr.neI wH8833 (Or.inl (G_ne gq8737 gf9 (by decide)))).symm
          have m8854 := m8822.trans (Wr.neR wH8833 (Or.inl (G_ne ga0 gf9 (by decide)))).symm
          have m8855 := m8823.trans (Wr.neI wH8833 (Or.inl (G_ne gq8765 gf9 (by decide)))).symm
          have m8856 := m8824.trans (Wr.neR wH8833 (Or.inl (G_ne ga0 gf9 (by decide)))).symm
          have m8857 := m8826.trans (Wr.neI wH8833 (Or.inl (G_ne gq8795 gf9 (by decide)))).symm
          have m8859 := Wr.I wH8833
          have m8859 := m8859.symm
          clear b8805 b8806 b8807 b8808 b8809 b8810 ex8832 g8802 g8803 g8804 hTH8801 m8811 m8812 m8813 m8814 m8815 m8816 m8817 m8818 m8819 m8820 m8821 m8822 m8823 m8824 m8826
          clear tx8828 tx8829 tx8831 bx8832 ex8828 ex8829 ex8831
          refine lv_aload_n hx hb dX10_text_274 rfl (lv_at hl8703 0 rfl) ?_
          refine x_gr C hTH8833 (ci := 10) (k := 30) rfl inX10 (by decide) wF_X10_77 ga0 rg_112 rfl dX10_text_275 (fun q8860 eq8860 gq8860 => ?_)
          have uq8860 : f0 = q8860 := (m8847).trans eq8860.symm
          subst uq8860
          clear eq8860
          refine lv_bipush (v := 16) hx hb dX10_text_278 (by decide) ?_
          refine lv_iload hx hb dX10_text_280 (lv_at hl8703 2 rfl) ?_
          refine lv_imul hx hb dX10_text_282 ?_
          refine lv_topi (fun x8861 ex8861 => ?_)
          have tx8861 := i_mul ex8861 (by rw [n_16]; omega)
          rw [n_16] at tx8861
          refine lv_iload hx hb dX10_text_283 (lv_at hl8703 3 rfl) ?_
          refine lv_iadd hx hb dX10_text_285 ?_
          refine lv_topi (fun x8862 ex8862 => ?_)
          have tx8862 := i_add ex8862 (by omega)
          refine lv_aload_n hx hb dX10_text_286 rfl (lv_at hl8703 0 rfl) ?_
          refine x_gr C hTH8833 (ci := 10) (k := 30) rfl inX10 (by decide) wF_X10_77 ga0 rg_112 rfl dX10_text_287 (fun q8863 eq8863 gq8863 => ?_)
          have uq8863 : f0 = q8863 := (m8847).trans eq8863.symm
          subst uq8863
          clear eq8863
          refine lv_bipush (v := 96) hx hb dX10_text_290 (by decide) ?_
          refine lv_iload hx hb dX10_text_292 (lv_at hl8703 3 rfl) ?_
          refine lv_iadd hx hb dX10_text_294 ?_
          refine lv_topi (fun x8864 ex8864 => ?_)
          have tx8864 := i_add ex8864 (by omega)
          refine x_ai C hTH8833 gf0 rg_134 ⟨by omega, by show _ < ((112 : Nat) : Int); omega⟩ dX10_text_295 (fun x8865 ex8865 bx8865 => ?_)
          refine x_iast C hTH8833 hSH8833 gf0 rg_134 (by omega) (by show _ < ((112 : Nat) : Int); omega) ⟨by have := i_rng x8865; omega, by have := i_rng x8865; omega⟩ (AE_in gf0 (by decide)) dX10_text_296 (fun H8866 locsH8866 hTH8866 hSH8866 wH8866 => ?_)
          have g8867 : TU (avw K H8866 a0) (svw K H8866 a0) := TU.congr (fun k hk j => av_arr hTH8833 ga0 wH8866 gf0 (by decide) (TU_ok 134 (by decide) k hk)) (fun k hk => sv_arr ga0 wH8866 gf0 (by decide)) g8834
          have g8868 : WD (avw K H8866 a0) := WD.congr (fun k hk j => av_arr hTH8833 ga0 wH8866 gf0 (by decide) (WD_ok 134 (by decide) k hk)) g8835
          have g8869 : IM (avw K H8866 a0) := IM.congr (fun k hk j => av_arr hTH8833 ga0 wH8866 gf0 (by decide) (IM_ok 134 (by decide) k hk)) g8836
          have b8870 : CP (fun k => fI H8866 f9 k) (fun k => fI H8613 f9 k) (16 * x8617.toNatClampNeg) (96) (x8704.toNatClampNeg + 1) := CP.congr (fun j => Wr.neI wH8866 (Or.inl (G_ne gf9 gf0 (by decide)))) b8837
          have b8871 : CP (fun k => fI H8866 f0 k) (fun k => fI H8613 f0 k) (16 * x8617.toNatClampNeg) (96) (x8704.toNatClampNeg + 1) := CP.step b8838 (i := x8862.toNatClampNeg) (k := x8864.toNatClampNeg) (x := x8865) (ix16 tx8861 tx8862 hrw.1 hlw.1) (le16 hrw hlw) (ixk n_96 tx8864 hlw.1) ex8865 (Wr.I wH8866) (fun j hj => Wr.neI wH8866 (Or.inr hj))
          have b8872 : CP (fun k => fI H8866 f1 k) (fun k => fI H8613 f1 k) (16 * x8617.toNatClampNeg) (96) (x8704.toNatClampNeg) := CP.congr (fun j => Wr.neI wH8866 (Or.inl (G_ne gf1 gf0 (by decide)))) b8839
          have b8873 : CP (fun k => fI H8866 oq k) (fun k => fI H8613 oq k) (500 * x8617.toNatClampNeg) (3000) (0) := CP.congr (fun j => Wr.neI wH8866 (Or.inl (G_ne goq gf0 (by decide)))) b8840
          have b8874 : CP (fun k => fI H8866 aq k) (fun k => fI H8613 aq k) (500 * x8617.toNatClampNeg) (3000) (0) := CP.congr (fun j => Wr.neI wH8866 (Or.inl (G_ne gaq gf0 (by decide)))) b8841
          have b8875 : CP (fun k => fI H8866 mq k) (fun k => fI H8613 mq k) (0) (0) (0) := CP.congr (fun j => Wr.neI wH8866 (Or.inl (G_ne gmq gf0 (by decide)))) b8842
          have m8876 := m8843.trans (Wr.neI wH8866 (Or.inl (G_ne ga0 gf0 (by decide)))).symm
          have m8877 := m8844.trans (Wr.neR wH8866 (Or.inl (G_ne ga0 gf0 (by decide)))).symm
          have m8878 := m8845.trans (Wr.neR wH8866 (Or.inl (G_ne ga0 gf0 (by decide)))).symm
          have m8879 := m8846.trans (Wr.neR wH8866 (Or.inl (G_ne ga0 gf0 (by decide)))).symm
          have m8880 := m8847.trans (Wr.neR wH8866 (Or.inl (G_ne ga0 gf0 (by decide)))).symm
          have m8881 := m8848.trans (Wr.neR wH8866 (Or.inl (G_ne ga0 gf0 (by decide)))).symm
          have m8882 := m8849.trans (Wr.neR wH8866 (Or.inl (G_ne ga0 gf0 (by decide)))).symm
          have m8883 := m8850.trans (Wr.neR wH8866 (Or.inl (G_ne ga0 gf0 (by decide)))).symm
          have m8884 := m8851.trans (Wr.neI wH8866 (Or.inl (G_ne gq8711 gf0 (by decide)))).symm
          have m8885 := m8852.trans (Wr.neR wH8866 (Or.inl (G_ne ga0 gf0 (by decide)))).symm
          have m8886 := m8853.trans (Wr.neI wH8866 (Or.inl (G_ne gq8737 gf0 (by decide)))).symm
          have m8887 := m8854.trans (Wr.neR wH8866 (Or.inl (G_ne ga0 gf0 (by decide)))).symm
          have m8888 := m8855.trans (Wr.neI wH8866 (Or.inl (G_ne gq8765 gf0 (by decide)))).symm
          have m8889 := m8856.trans (Wr.neR wH8866 (Or.inl (G_ne ga0 gf0 (by decide)))).symm
          have m8890 := m8857.trans (Wr.neI wH8866 (Or.inl (G_ne gq8795 gf0 (by decide)))).symm
          have m8891 := m8859.trans (Wr.neI wH8866 (Or.inl (G_ne gf9 gf0 (by decide)))).symm
          have m8893 := Wr.I wH8866
          have m8893 := m8893.symm
          clear b8837 b8838 b8839 b8840 b8841 b8842 ex8865 g8834 g8835 g8836 hTH8833 m8843 m8844 m8845 m8846 m8847 m8848 m8849 m8850 m8851 m8852 m8853 m8854 m8855 m8856 m8857 m8859
          clear tx8861 tx8862 tx8864 bx8865 ex8861 ex8862 ex8864
          refine lv_aload_n hx hb dX10_text_297 rfl (lv_at hl8703 0 rfl) ?_
          refine x_gr C hTH8866 (ci := 10) (k := 31) rfl inX10 (by decide) wF_X10_80 ga0 rg_112 rfl dX10_text_298 (fun q8894 eq8894 gq8894 => ?_)
          have uq8894 : f1 = q8894 := (m8881).trans eq8894.symm
          subst uq8894
          clear eq8894
          refine lv_bipush (v := 16) hx hb dX10_text_301 (by decide) ?_
          refine lv_iload hx hb dX10_text_303 (lv_at hl8703 2 rfl) ?_
          refine lv_imul hx hb dX10_text_305 ?_
          refine lv_topi (fun x8895 ex8895 => ?_)
          have tx8895 := i_mul ex8895 (by rw [n_16]; omega)
          rw [n_16] at tx8895
          refine lv_iload hx hb dX10_text_306 (lv_at hl8703 3 rfl) ?_
          refine lv_iadd hx hb dX10_text_308 ?_
          refine lv_topi (fun x8896 ex8896 => ?_)
          have tx8896 := i_add ex8896 (by omega)
          refine lv_aload_n hx hb dX10_text_309 rfl (lv_at hl8703 0 rfl) ?_
          refine x_gr C hTH8866 (ci := 10) (k := 31) rfl inX10 (by decide) wF_X10_80 ga0 rg_112 rfl dX10_text_310 (fun q8897 eq8897 gq8897 => ?_)
          have uq8897 : f1 = q8897 := (m8881).trans eq8897.symm
          subst uq8897
          clear eq8897
          refine lv_bipush (v := 96) hx hb dX10_text_313 (by decide) ?_
          refine lv_iload hx hb dX10_text_315 (lv_at hl8703 3 rfl) ?_
          refine lv_iadd hx hb dX10_text_317 ?_
          refine lv_topi (fun x8898 ex8898 => ?_)
          have tx8898 := i_add ex8898 (by omega)
          refine x_ai C hTH8866 gf1 rg_135 ⟨by omega, by show _ < ((112 : Nat) : Int); omega⟩ dX10_text_318 (fun x8899 ex8899 bx8899 => ?_)
          refine x_iast C hTH8866 hSH8866 gf1 rg_135 (by omega) (by show _ < ((112 : Nat) : Int); omega) ⟨by have := i_rng x8899; omega, by have := i_rng x8899; omega⟩ (AE_in gf1 (by decide)) dX10_text_319 (fun H8900 locsH8900 hTH8900 hSH8900 wH8900 => ?_)
          have g8901 : TU (avw K H8900 a0) (svw K H8900 a0) := TU.congr (fun k hk j => av_arr hTH8866 ga0 wH8900 gf1 (by decide) (TU_ok 135 (by decide) k hk)) (fun k hk => sv_arr ga0 wH8900 gf1 (by decide)) g8867
          have g8902 : WD (avw K H8900 a0) := WD.congr (fun k hk j => av_arr hTH8866 ga0 wH8900 gf1 (by decide) (WD_ok 135 (by decide) k hk)) g8868
          have g8903 : IM (avw K H8900 a0) := IM.congr (fun k hk j => av_arr hTH8866 ga0 wH8900 gf1 (by decide) (IM_ok 135 (by decide) k hk)) g8869
          have b8904 : CP (fun k => fI H8900 f9 k) (fun k => fI H8613 f9 k) (16 * x8617.toNatClampNeg) (96) (x8704.toNatClampNeg + 1) := CP.congr (fun j => Wr.neI wH8900 (Or.inl (G_ne gf9 gf1 (by decide)))) b8870
          have b8905 : CP (fun k => fI H8900 f0 k) (fun k => fI H8613 f0 k) (16 * x8617.toNatClampNeg) (96) (x8704.toNatClampNeg + 1) := CP.congr (fun j => Wr.neI wH8900 (Or.inl (G_ne gf0 gf1 (by decide)))) b8871
          have b8906 : CP (fun k => fI H8900 f1 k) (fun k => fI H8613 f1 k) (16 * x8617.toNatClampNeg) (96) (x8704.toNatClampNeg + 1) := CP.step b8872 (i := x8896.toNatClampNeg) (k := x8898.toNatClampNeg) (x := x8899) (ix16 tx8895 tx8896 hrw.1 hlw.1) (le16 hrw hlw) (ixk n_96 tx8898 hlw.1) ex8899 (Wr.I wH8900) (fun j hj => Wr.neI wH8900 (Or.inr hj))
          have b8907 : CP (fun k => fI H8900 oq k) (fun k => fI H8613 oq k) (500 * x8617.toNatClampNeg) (3000) (0) := CP.congr (fun j => Wr.neI wH8900 (Or.inl (G_ne goq gf1 (by decide)))) b8873
          have b8908 : CP (fun k => fI H8900 aq k) (fun k => fI H8613 aq k) (500 * x8617.toNatClampNeg) (3000) (0) := CP.congr (fun j => Wr.neI wH8900 (Or.inl (G_ne gaq gf1 (by decide)))) b8874
          have b8909 : CP (fun k => fI H8900 mq k) (fun k => fI H8613 mq k) (0) (0) (0) := CP.congr (fun j => Wr.neI wH8900 (Or.inl (G_ne gmq gf1 (by decide)))) b8875
          have m8910 := m8876.trans (Wr.neI wH8900 (Or.inl (G_ne ga0 gf1 (by decide)))).symm
          have m8911 := m8877.trans (Wr.neR wH8900 (Or.inl (G_ne ga0 gf1 (by decide)))).symm
          have m8912 := m8878.trans (Wr.neR wH8900 (Or.inl (G_ne ga0 gf1 (by decide)))).symm
          have m8913 := m8879.trans (Wr.neR wH8900 (Or.inl (G_ne ga0 gf1 (by decide)))).symm
          have m8914 := m8880.trans (Wr.neR wH8900 (Or.inl (G_ne ga0 gf1 (by decide)))).symm
          have m8915 := m8881.trans (Wr.neR wH8900 (Or.inl (G_ne ga0 gf1 (by decide)))).symm
          have m8916 := m8882.trans (Wr.neR wH8900 (Or.inl (G_ne ga0 gf1 (by decide)))).symm
          have m8917 := m8883.trans (Wr.neR wH8900 (Or.inl (G_ne ga0 gf1 (by decide)))).symm
          have m8918 := m8884.trans (Wr.neI wH8900 (Or.inl (G_ne gq8711 gf1 (by decide)))).symm
          have m8919 := m8885.trans (Wr.neR wH8900 (Or.inl (G_ne ga0 gf1 (by decide)))).symm
          have m8920 := m8886.trans (Wr.neI wH8900 (Or.inl (G_ne gq8737 gf1 (by decide)))).symm
          have m8921 := m8887.trans (Wr.neR wH8900 (Or.inl (G_ne ga0 gf1 (by decide)))).symm
          have m8922 := m8888.trans (Wr.neI wH8900 (Or.inl (G_ne gq8765 gf1 (by decide)))).symm
          have m8923 := m8889.trans (Wr.neR wH8900 (Or.inl (G_ne ga0 gf1 (by decide)))).symm
          have m8924 := m8890.trans (Wr.neI wH8900 (Or.inl (G_ne gq8795 gf1 (by decide)))).symm
          have m8925 := m8891.trans (Wr.neI wH8900 (Or.inl (G_ne gf9 gf1 (by decide)))).symm
          have m8926 := m8893.trans (Wr.neI wH8900 (Or.inl (G_ne gf0 gf1 (by decide)))).symm
          have m8928 := Wr.I wH8900
          have m8928 := m8928.symm
          clear b8870 b8871 b8872 b8873 b8874 b8875 ex8899 g8867 g8868 g8869 hTH8866 m8876 m8877 m8878 m8879 m8880 m8881 m8882 m8883 m8884 m8885 m8886 m8887 m8888 m8889 m8890 m8891 m8893
          clear tx8895 tx8896 tx8898 bx8899 ex8895 ex8896 ex8898
          obtain ⟨x8929, ex8929⟩ : ∃ y : Int32, y = x8704 + 1 := ⟨_, rfl⟩
          have tx8929 := i_add ex8929 (by omega)
          refine lv_iinc (v := x8929) (lv' := [(6, .int x8929), (0, .ref a0), (4, .int x8616), (5, .int x8617)]) hx hb dX10_text_320 hl8703 (k := 3) rfl (by rw [ex8929]; rfl) (by decide) rfl (fun ls8930 hl8931 => ?_)
          refine lv_goto (tgt := 152) hx hb dX10_text_323 (by decide) ?_
          have cl_x8617 := i_cl (x := x8617) (by omega)
          have cl_x8704 := i_cl (x := x8704) (by omega)
          have cl_x8929 := i_cl (x := x8929) (by omega)
          exact ih152 ls8930 H8900 locsH8900 (x8929) (x8705) (lv_sub hl8931 [1, 2, 3, 0] rfl) hTH8900 hSH8900 ⟨by have := i_rng x8929; omega, by have := i_rng x8929; omega⟩ ⟨by have := i_rng x8705; omega, by have := i_rng x8705; omega⟩ m8910 m8911 m8912 m8913 m8914 m8915 m8916 (CP.cast b8904 (by omega) (by omega) (by omega)) (CP.cast b8905 (by omega) (by omega) (by omega)) (CP.cast b8906 (by omega) (by omega) (by omega)) (CP.cast b8907 (by omega) (by omega) (by omega)) (CP.cast b8908 (by omega) (by omega) (by omega)) (CP.cast b8909 (by omega) (by omega) (by omega)) g8901 g8902 g8903 (by omega) (by omega)
    refine lv_iconst (v := 0) hx hb dX10_text_149 (by decide) ?_
    refine lv_istore (lv' := [(6, .int 0), (0, .ref a0), (4, .int x8616), (5, .int x8617)]) hx hb dX10_text_150 hl8615 (by decide) rfl (fun ls8932 hl8933 => ?_)
    have c9z : CP (fun k => fI H8613 f9 k) (fun k => fI H8613 f9 k) (16 * x8617.toNatClampNeg) (96) (0) := CP.rf rfl
    have c0z : CP (fun k => fI H8613 f0 k) (fun k => fI H8613 f0 k) (16 * x8617.toNatClampNeg) (96) (0) := CP.rf rfl
    have c1z : CP (fun k => fI H8613 f1 k) (fun k => fI H8613 f1 k) (16 * x8617.toNatClampNeg) (96) (0) := CP.rf rfl
    have coz : CP (fun k => fI H8613 oq k) (fun k => fI H8613 oq k) (500 * x8617.toNatClampNeg) (3000) (0) := CP.rf rfl
    have caz : CP (fun k => fI H8613 aq k) (fun k => fI H8613 aq k) (500 * x8617.toNatClampNeg) (3000) (0) := CP.rf rfl
    have cmz : CP (fun k => fI H8613 mq k) (fun k => fI H8613 mq k) (0) (0) (0) := CP.rf rfl
    have cl00 : (0 : Int32).toNatClampNeg = 0 := rfl
    have cl_0 := i_cl (x := (0 : Int32)) (by omega)
    have cl_x8617 := i_cl (x := x8617) (by omega)
    have cl_0 := i_cl (x := (0 : Int32)) (by omega)
    have cl_0 := i_cl (x := (0 : Int32)) (by omega)
    exact J152 ((16 - (0 : Int32).toInt).toNat + 1) ls8932 H8613 locsH8613 (0) (x8618) (lv_sub hl8933 [1, 2, 3, 0] rfl) hTH8613 hSH8613 (by decide) ⟨by have := i_rng x8618; omega, by have := i_rng x8618; omega⟩ ex8618 cy8619_0 cy8619_1 cy8619_2 cy8619_3 cy8619_4 cy8619_5 (CP.cast c9z (by omega) (by omega) (by omega)) (CP.cast c0z (by omega) (by omega) (by omega)) (CP.cast c1z (by omega) (by omega) (by omega)) (CP.cast coz (by omega) (by omega) (by omega)) (CP.cast caz (by omega) (by omega) (by omega)) (CP.cast cmz (by omega) (by omega) (by omega)) gy8619_TU gy8619_WD gy8619_IM (by omega) (by omega)
  have J61 : ∀ (ls8935 : Array Slot) (H8934 : Heap) (locsH8934 : List Loc) (x8937 : Int32) (x8938 : Int32) (x8939 : Int32), lv_has ls8935 7 [(0, .ref a0), (1, .int x1), (2, .int x2), (3, .int x8937)] → TY K G H8934 → va_S (AE G [112, 136, 137, 138, 129, 130, 131, 132, 133, 134, 135, 128] s.heap.size) s.heap H8934 locsH8934 → (0 ≤ x8937.toInt ∧ x8937.toInt ≤ 1) → (0 ≤ x8938.toInt ∧ x8938.toInt ≤ 1) → (0 ≤ x8939.toInt ∧ x8939.toInt ≤ 500) → (x8939 = fI H8934 a0 (K.1.2 10 35)) → (EQN oq (fR H8934 a0 (K.1.2 10 32))) → (EQN aq (fR H8934 a0 (K.1.2 10 33))) → (EQN f9 (fR H8934 a0 (K.1.2 10 29))) → (EQN f0 (fR H8934 a0 (K.1.2 10 30))) → (EQN f1 (fR H8934 a0 (K.1.2 10 31))) → (EQN mq (fR H8934 a0 (K.1.2 10 24))) → (CG (avw K H8934 a0)) → (TU (avw K H8934 a0) (svw K H8934 a0)) → (WD (avw K H8934 a0)) → (IM (avw K H8934 a0)) → ((x8937.toInt = 0 ∨ (x1.toInt = 0 ∧ 0 ≤ x2.toInt ∧ x2.toInt ≤ 1) ∨ (x1.toInt = 1 ∧ 0 ≤ x2.toInt ∧ x2.toInt ≤ 3))) → W p l e ({ frames := 10, cells := 0, slots := 0, locals := 215 } : Room) s m (([.ref a0, .int x1, .int x2] : List Value).toArray) below meth c H8934 locsH8934 0 0 Q (F0 m 61 ls8935 [.int x8938, .ref a0]) := by
    intro ls8935 H8934 locsH8934 x8937 x8938 x8939 hl8936 hTH8934 hSH8934 bx8937 bx8938 bx8939 ex8939 cy8940_0 cy8940_1 cy8940_2 cy8940_3 cy8940_4 cy8940_5 gy8940_CG gy8940_TU gy8940_WD gy8940_IM iv61
    refine x_put C hTH8934 hSH8934 (ci := 10) (k := 34) (v := .int x8938) (ty0 := tyX10) rfl inX10 tyX10_ok nmX10 (by decide) rfl wF_X10_231 ga0 rg_112 rfl rfl (okI (by have := i_rng x8938; omega) (by have := i_rng x8938; omega)) (by rcases i_01 (x := x8938) (by omega) with h | h <;> rw [h] <;> rfl) (by rcases i_01 (x := x8938) (by omega) with h | h <;> rw [h] <;> rfl) (AE_in ga0 (by decide)) dX10_text_61 (fun H8941 locsH8941 hTH8941 hSH8941 wH8941 => ?_)
    have g8942 : CG (avw K H8941 a0) := CG.congr (fun k hk j => av_fld hTH8934 ga0 hap wH8941 (by decide) (CG_ok 112 (by decide) k hk) (CG_ne 34 (by decide) k hk)) gy8940_CG
    have g8943 : TU (avw K H8941 a0) (svw K H8941 a0) := TU.congr (fun k hk j => av_fld hTH8934 ga0 hap wH8941 (by decide) (TU_ok 112 (by decide) k hk) (TU_ne 34 (by decide) k hk)) (fun k hk => sv_fld hap wH8941 (by decide) (TU_slt k hk) (TU_sne 34 (by decide) k hk)) gy8940_TU
    have g8944 : WD (avw K H8941 a0) := WD.congr (fun k hk j => av_fld hTH8934 ga0 hap wH8941 (by decide) (WD_ok 112 (by decide) k hk) (WD_ne 34 (by decide) k hk)) gy8940_WD
    have g8945 : IM (avw K H8941 a0) := IM.congr (fun k hk j => av_fld hTH8934 ga0 hap wH8941 (by decide) (IM_ok 112 (by decide) k hk) (IM_ne 34 (by decide) k hk)) gy8940_IM
    have m8946 := ex8939.trans (Wr.neI wH8941 (Or.inr (x_apart hKT hts inX10 tyX10 tyX10_ok nmX10 rfl 35 34 (by decide) (by decide) (by decide)))).symm
    have m8947 := cy8940_0.trans (Wr.neR wH8941 (Or.inr (x_apart hKT hts inX10 tyX10 tyX10_ok nmX10 rfl 32 34 (by decide) (by decide) (by decide)))).symm
    have m8948 := cy8940_1.trans (Wr.neR wH8941 (Or.inr (x_apart hKT hts inX10 tyX10 tyX10_ok nmX10 rfl 33 34 (by decide) (by decide) (by decide)))).symm
    have m8949 := cy8940_2.trans (Wr.neR wH8941 (Or.inr (x_apart hKT hts inX10 tyX10 tyX10_ok nmX10 rfl 29 34 (by decide) (by decide) (by decide)))).symm
    have m8950 := cy8940_3.trans (Wr.neR wH8941 (Or.inr (x_apart hKT hts inX10 tyX10 tyX10_ok nmX10 rfl 30 34 (by decide) (by decide) (by decide)))).symm
    have m8951 := cy8940_4.trans (Wr.neR wH8941 (Or.inr (x_apart hKT hts inX10 tyX10 tyX10_ok nmX10 rfl 31 34 (by decide) (by decide) (by decide)))).symm
    have m8952 := cy8940_5.trans (Wr.neR wH8941 (Or.inr (x_apart hKT hts inX10 tyX10 tyX10_ok nmX10 rfl 24 34 (by decide) (by decide) (by decide)))).symm
    have m8953 := Wr.I wH8941
    have m8953 := m8953.symm
    clear cy8940_0 cy8940_1 cy8940_2 cy8940_3 cy8940_4 cy8940_5 ex8939 gy8940_CG gy8940_IM gy8940_TU gy8940_WD hTH8934
    refine lv_aload_n hx hb dX10_text_64 rfl (lv_at hl8936 0 rfl) ?_
    refine lv_iconst (v := 0) hx hb dX10_text_65 (by decide) ?_
    refine x_put C hTH8941 hSH8941 (ci := 10) (k := 19) (v := .int 0) (ty0 := tyX10) rfl inX10 tyX10_ok nmX10 (by decide) rfl wF_X10_192 ga0 rg_112 rfl rfl (okI (by have := i_rng (0 : Int32); omega) (by have := i_rng (0 : Int32); omega)) rfl rfl (AE_in ga0 (by decide)) dX10_text_66 (fun H8954 locsH8954 hTH8954 hSH8954 wH8954 => ?_)
    have g8955 : CG (avw K H8954 a0) := CG.congr (fun k hk j => av_fld hTH8941 ga0 hap wH8954 (by decide) (CG_ok 112 (by decide) k hk) (CG_ne 19 (by decide) k hk)) g8942
    have g8956 : TU (avw K H8954 a0) (svw K H8954 a0) := TU.congr (fun k hk j => av_fld hTH8941 ga0 hap wH8954 (by decide) (TU_ok 112 (by decide) k hk) (TU_ne 19 (by decide) k hk)) (fun k hk => sv_fld hap wH8954 (by decide) (TU_slt k hk) (TU_sne 19 (by decide) k hk)) g8943
    have g8957 : WD (avw K H8954 a0) := WD.congr (fun k hk j => av_fld hTH8941 ga0 hap wH8954 (by decide) (WD_ok 112 (by decide) k hk) (WD_ne 19 (by decide) k hk)) g8944
    have g8958 : IM (avw K H8954 a0) := IM.congr (fun k hk j => av_fld hTH8941 ga0 hap wH8954 (by decide) (IM_ok 112 (by decide) k hk) (IM_ne 19 (by decide) k hk)) g8945
    have m8959 := m8946.trans (Wr.neI wH8954 (Or.inr (x_apart hKT hts inX10 tyX10 tyX10_ok nmX10 rfl 35 19 (by decide) (by decide) (by decide)))).symm
    have m8960 := m8947.trans (Wr.neR wH8954 (Or.inr (x_apart hKT hts inX10 tyX10 tyX10_ok nmX10 rfl 32 19 (by decide) (by decide) (by decide)))).symm
    have m8961 := m8948.trans (Wr.neR wH8954 (Or.inr (x_apart hKT hts inX10 tyX10 tyX10_ok nmX10 rfl 33 19 (by decide) (by decide) (by decide)))).symm
    have m8962 := m8949.trans (Wr.neR wH8954 (Or.inr (x_apart hKT hts inX10 tyX10 tyX10_ok nmX10 rfl 29 19 (by decide) (by decide) (by decide)))).symm
    have m8963 := m8950.trans (Wr.neR wH8954 (Or.inr (x_apart hKT hts inX10 tyX10 tyX10_ok nmX10 rfl 30 19 (by decide) (by decide) (by decide)))).symm
    have m8964 := m8951.trans (Wr.neR wH8954 (Or.inr (x_apart hKT hts inX10 tyX10 tyX10_ok nmX10 rfl 31 19 (by decide) (by decide) (by decide)))).symm
    have m8965 := m8952.trans (Wr.neR wH8954 (Or.inr (x_apart hKT hts inX10 tyX10 tyX10_ok nmX10 rfl 24 19 (by decide) (by decide) (by decide)))).symm
    have m8966 := m8953.trans (Wr.neI wH8954 (Or.inr (x_apart hKT hts inX10 tyX10 tyX10_ok nmX10 rfl 34 19 (by decide) (by decide) (by decide)))).symm
    have m8967 := Wr.I wH8954
    clear g8942 g8943 g8944 g8945 hTH8941 m8946 m8947 m8948 m8949 m8950 m8951 m8952 m8953
    refine lv_aload_n hx hb dX10_text_69 rfl (lv_at hl8936 0 rfl) ?_
    refine lv_iconst (v := 0) hx hb dX10_text_70 (by decide) ?_
    refine x_put C hTH8954 hSH8954 (ci := 10) (k := 35) (v := .int 0) (ty0 := tyX10) rfl inX10 tyX10_ok nmX10 (by decide) rfl wF_X10_228 ga0 rg_112 rfl rfl (okI (by have := i_rng (0 : Int32); omega) (by have := i_rng (0 : Int32); omega)) rfl rfl (AE_in ga0 (by decide)) dX10_text_71 (fun H8968 locsH8968 hTH8968 hSH8968 wH8968 => ?_)
    have g8969 : CG (avw K H8968 a0) := CG.congr (fun k hk j => av_fld hTH8954 ga0 hap wH8968 (by decide) (CG_ok 112 (by decide) k hk) (CG_ne 35 (by decide) k hk)) g8955
    have g8970 : TU (avw K H8968 a0) (svw K H8968 a0) := TU.congr (fun k hk j => av_fld hTH8954 ga0 hap wH8968 (by decide) (TU_ok 112 (by decide) k hk) (TU_ne 35 (by decide) k hk)) (fun k hk => sv_fld hap wH8968 (by decide) (TU_slt k hk) (TU_sne 35 (by decide) k hk)) g8956
    have g8971 : WD (avw K H8968 a0) := WD.congr (fun k hk j => av_fld hTH8954 ga0 hap wH8968 (by decide) (WD_ok 112 (by decide) k hk) (WD_ne 35 (by decide) k hk)) g8957
    have g8972 : IM (avw K H8968 a0) := IM.congr (fun k hk j => av_fld hTH8954 ga0 hap wH8968 (by decide) (IM_ok 112 (by decide) k hk) (IM_ne 35 (by decide) k hk)) g8958
    have m8974 := m8960.trans (Wr.neR wH8968 (Or.inr (x_apart hKT hts inX10 tyX10 tyX10_ok nmX10 rfl 32 35 (by decide) (by decide) (by decide)))).symm
    have m8975 := m8961.trans (Wr.neR wH8968 (Or.inr (x_apart hKT hts inX10 tyX10 tyX10_ok nmX10 rfl 33 35 (by decide) (by decide) (by decide)))).symm
    have m8976 := m8962.trans (Wr.neR wH8968 (Or.inr (x_apart hKT hts inX10 tyX10 tyX10_ok nmX10 rfl 29 35 (by decide) (by decide) (by decide)))).symm
    have m8977 := m8963.trans (Wr.neR wH8968 (Or.inr (x_apart hKT hts inX10 tyX10 tyX10_ok nmX10 rfl 30 35 (by decide) (by decide) (by decide)))).symm
    have m8978 := m8964.trans (Wr.neR wH8968 (Or.inr (x_apart hKT hts inX10 tyX10 tyX10_ok nmX10 rfl 31 35 (by decide) (by decide) (by decide)))).symm
    have m8979 := m8965.trans (Wr.neR wH8968 (Or.inr (x_apart hKT hts inX10 tyX10 tyX10_ok nmX10 rfl 24 35 (by decide) (by decide) (by decide)))).symm
    have m8980 := m8966.trans (Wr.neI wH8968 (Or.inr (x_apart hKT hts inX10 tyX10 tyX10_ok nmX10 rfl 34 35 (by decide) (by decide) (by decide)))).symm
    have m8981 := (Wr.neI wH8968 (Or.inr (x_apart hKT hts inX10 tyX10 tyX10_ok nmX10 rfl 19 35 (by decide) (by decide) (by decide)))).trans m8967
    have m8982 := Wr.I wH8968
    clear g8955 g8956 g8957 g8958 hTH8954 m8959 m8960 m8961 m8962 m8963 m8964 m8965 m8966 m8967
    refine lv_aload_n hx hb dX10_text_74 rfl (lv_at hl8936 0 rfl) ?_
    refine lv_iconst (v := 0) hx hb dX10_text_75 (by decide) ?_
    refine x_put C hTH8968 hSH8968 (ci := 10) (k := 36) (v := .int 0) (ty0 := tyX10) rfl inX10 tyX10_ok nmX10 (by decide) rfl wF_X10_261 ga0 rg_112 rfl rfl (okI (by have := i_rng (0 : Int32); omega) (by have := i_rng (0 : Int32); omega)) rfl rfl (AE_in ga0 (by decide)) dX10_text_76 (fun H8983 locsH8983 hTH8983 hSH8983 wH8983 => ?_)
    have g8984 : CG (avw K H8983 a0) := CG.congr (fun k hk j => av_fld hTH8968 ga0 hap wH8983 (by decide) (CG_ok 112 (by decide) k hk) (CG_ne 36 (by decide) k hk)) g8969
    have g8985 : TU (avw K H8983 a0) (svw K H8983 a0) := TU.congr (fun k hk j => av_fld hTH8968 ga0 hap wH8983 (by decide) (TU_ok 112 (by decide) k hk) (TU_ne 36 (by decide) k hk)) (fun k hk => sv_fld hap wH8983 (by decide) (TU_slt k hk) (TU_sne 36 (by decide) k hk)) g8970
    have g8986 : WD (avw K H8983 a0) := WD.congr (fun k hk j => av_fld hTH8968 ga0 hap wH8983 (by decide) (WD_ok 112 (by decide) k hk) (WD_ne 36 (by decide) k hk)) g8971
    have g8987 : IM (avw K H8983 a0) := IM.congr (fun k hk j => av_fld hTH8968 ga0 hap wH8983 (by decide) (IM_ok 112 (by decide) k hk) (IM_ne 36 (by decide) k hk)) g8972
    have m8988 := m8974.trans (Wr.neR wH8983 (Or.inr (x_apart hKT hts inX10 tyX10 tyX10_ok nmX10 rfl 32 36 (by decide) (by decide) (by decide)))).symm
    have m8989 := m8975.trans (Wr.neR wH8983 (Or.inr (x_apart hKT hts inX10 tyX10 tyX10_ok nmX10 rfl 33 36 (by decide) (by decide) (by decide)))).symm
    have m8990 := m8976.trans (Wr.neR wH8983 (Or.inr (x_apart hKT hts inX10 tyX10 tyX10_ok nmX10 rfl 29 36 (by decide) (by decide) (by decide)))).symm
    have m8991 := m8977.trans (Wr.neR wH8983 (Or.inr (x_apart hKT hts inX10 tyX10 tyX10_ok nmX10 rfl 30 36 (by decide) (by decide) (by decide)))).symm
    have m8992 := m8978.trans (Wr.neR wH8983 (Or.inr (x_apart hKT hts inX10 tyX10 tyX10_ok nmX10 rfl 31 36 (by decide) (by decide) (by decide)))).symm
    have m8993 := m8979.trans (Wr.neR wH8983 (Or.inr (x_apart hKT hts inX10 tyX10 tyX10_ok nmX10 rfl 24 36 (by decide) (by decide) (by decide)))).symm
    have m8994 := m8980.trans (Wr.neI wH8983 (Or.inr (x_apart hKT hts inX10 tyX10 tyX10_ok nmX10 rfl 34 36 (by decide) (by decide) (by decide)))).symm
    have m8995 := (Wr.neI wH8983 (Or.inr (x_apart hKT hts inX10 tyX10 tyX10_ok nmX10 rfl 19 36 (by decide) (by decide) (by decide)))).trans m8981
    have m8996 := (Wr.neI wH8983 (Or.inr (x_apart hKT hts inX10 tyX10 tyX10_ok nmX10 rfl 35 36 (by decide) (by decide) (by decide)))).trans m8982
    have m8997 := Wr.I wH8983
    clear g8969 g8970 g8971 g8972 hTH8968 m8974 m8975 m8976 m8977 m8978 m8979 m8980 m8981 m8982
    refine lv_aload_n hx hb dX10_text_79 rfl (lv_at hl8936 0 rfl) ?_
    obtain ⟨q8998, eq8998⟩ : ∃ z : Nat, EQN z (fR H8983 a0 (K.1.2 10 17)) := ⟨_, rfl⟩
    have gq8998 := ty_fr (q := q8998) (k := 17) (u := 126) eq8998 hTH8983 ga0 rg_112 rfl
    replace eq8998 := EQN.mk eq8998
    obtain ⟨x8999, ex8999⟩ : ∃ z : Int32, z = fI H8983 a0 (K.1.2 10 20) := ⟨_, rfl⟩
    have bx8999 := ty_fi (x := x8999) (k := 20) ex8999 hTH8983 ga0 rg_112 rfl
    obtain ⟨x9000, ex9000⟩ : ∃ z : Int32, z = fI H8983 a0 (K.1.2 10 21) := ⟨_, rfl⟩
    have bx9000 := ty_fi (x := x9000) (k := 21) ex9000 hTH8983 ga0 rg_112 rfl
    obtain ⟨x9001, ex9001⟩ : ∃ z : Int32, z = fI H8983 a0 (K.1.2 10 22) := ⟨_, rfl⟩
    have bx9001 := ty_fi (x := x9001) (k := 22) ex9001 hTH8983 ga0 rg_112 rfl
    obtain ⟨x9002, ex9002⟩ : ∃ z : Int32, z = fI H8983 a0 (K.1.2 10 18) := ⟨_, rfl⟩
    have bx9002 := ty_fi (x := x9002) (k := 18) ex9002 hTH8983 ga0 rg_112 rfl
    refine x_V (As := []) (rest := []) C (a_X10_reads l K G H8983 (0) (x8999) (x9000) (x9001) (x9002) hTH8983 ga0 gq8998 eq8998 (m8995).symm ex8999 ex9000 ex9001 ex9002 g8984 g8985 g8986 g8987 (by omega)) yo_X10_reads wM_X10_242 ⟨⟨by decide, by decide⟩, by decide, by decide⟩ (x_rv C hTH8983 (ci := 10) rfl ga0 rg_112) rfl hl8936.1 rfl (Nat.le_of_ble_eq_true rfl) dX10_text_80 hSH8983 (AE_sub (fun _ _ => rfl) (by decide) hSH8983.1) (fun vH9003 H9003 locsH9003 pH9003 zH9003 kH9003 hSH9003 => ?_)
    obtain ⟨x9004, x9005, x9006, x9007, hvH9003, ex9004, ex9005, ex9006, ex9007, hrH9003, m9008, g9009, g9010, g9011, g9012, mf9013, hTH9003⟩ := pH9003
    subst hvH9003
    clear zH9003
    replace m9008 := EQN.mk m9008
    have m9014 := (m8988).trans (MF.r mf9013 (k := 32) (by decide) (by decide)).symm
    have m9015 := (m8989).trans (MF.r mf9013 (k := 33) (by decide) (by decide)).symm
    have m9016 := (m8990).trans (MF.r mf9013 (k := 29) (by decide) (by decide)).symm
    have m9017 := (m8991).trans (MF.r mf9013 (k := 30) (by decide) (by decide)).symm
    have m9018 := (m8992).trans (MF.r mf9013 (k := 31) (by decide) (by decide)).symm
    have m9019 := (m8993).trans (MF.r mf9013 (k := 24) (by decide) (by decide)).symm
    have m9020 := (m8994).trans (MF.i mf9013 (k := 34) (by decide) (by decide)).symm
    have m9021 := (MF.i mf9013 (k := 35) (by decide) (by decide)).trans m8996
    have m9022 := (MF.i mf9013 (k := 36) (by decide) (by decide)).trans m8997
    have m9023 := (eq8998).trans (MF.r mf9013 (k := 17) (by decide) (by decide)).symm
    have m9024 := (ex9002).trans (MF.i mf9013 (k := 18) (by decide) (by decide)).symm
    have bx9004 := ty_fi (x := x9004) (k := 19) ex9004 hTH9003 ga0 rg_112 rfl
    have bx9005 := ty_fi (x := x9005) (k := 20) ex9005 hTH9003 ga0 rg_112 rfl
    have bx9006 := ty_fi (x := x9006) (k := 21) ex9006 hTH9003 ga0 rg_112 rfl
    have bx9007 := ty_fi (x := x9007) (k := 22) ex9007 hTH9003 ga0 rg_112 rfl
    obtain ⟨r1H9003, r2H9003, r3H9003, r4H9003, r5H9003, r6H9003, r7H9003⟩ := hrH9003
    refine W.eq (g2 := F0 m 83 ls8935 []) rfl ?_
    refine lv_iload_n hx hb dX10_text_83 rfl (lv_at hl8936 3 rfl) ?_
    refine lv_if_eq (tgt := 94) hx hb dX10_text_84 (by decide) (fun c9025 => ?_) (fun c9025 => ?_)
    · have k9026 := i_eq c9025
      refine lv_iconst (v := (-1)) hx hb dX10_text_94 (by decide) ?_
      refine lv_istore (lv' := [(4, .int (-1)), (0, .ref a0), (1, .int x1), (2, .int x2), (3, .int x8937)]) hx hb dX10_text_95 hl8936 (by decide) rfl (fun ls9027 hl9028 => ?_)
      refine lv_aload_n hx hb dX10_text_97 rfl (lv_at hl9028 1 rfl) ?_
      refine lv_iconst (v := 0) hx hb dX10_text_98 (by decide) ?_
      refine x_put C hTH9003 hSH9003 (ci := 10) (k := 18) (v := .int 0) (ty0 := tyX10) rfl inX10 tyX10_ok nmX10 (by decide) rfl wF_X10_185 ga0 rg_112 rfl rfl (okI (by have := i_rng (0 : Int32); omega) (by have := i_rng (0 : Int32); omega)) rfl rfl (AE_in ga0 (by decide)) dX10_text_99 (fun H9029 locsH9029 hTH9029 hSH9029 wH9029 => ?_)
      have g9030 : CG (avw K H9029 a0) := CG.congr (fun k hk j => av_fld hTH9003 ga0 hap wH9029 (by decide) (CG_ok 112 (by decide) k hk) (CG_ne 18 (by decide) k hk)) g9009
      have g9031 : TU (avw K H9029 a0) (svw K H9029 a0) := TU.congr (fun k hk j => av_fld hTH9003 ga0 hap wH9029 (by decide) (TU_ok 112 (by decide) k hk) (TU_ne 18 (by decide) k hk)) (fun k hk => sv_fld hap wH9029 (by decide) (TU_slt k hk) (TU_sne 18 (by decide) k hk)) g9010
      have g9032 : WD (avw K H9029 a0) := WD.congr (fun k hk j => av_fld hTH9003 ga0 hap wH9029 (by decide) (WD_ok 112 (by decide) k hk) (WD_ne 18 (by decide) k hk)) g9011
      have g9033 : IM (avw K H9029 a0) := IM.congr (fun k hk j => av_fld hTH9003 ga0 hap wH9029 (by decide) (IM_ok 112 (by decide) k hk) (IM_ne 18 (by decide) k hk)) g9012
      have m9034 := m9014.trans (Wr.neR wH9029 (Or.inr (x_apart hKT hts inX10 tyX10 tyX10_ok nmX10 rfl 32 18 (by decide) (by decide) (by decide)))).symm
      have m9035 := m9015.trans (Wr.neR wH9029 (Or.inr (x_apart hKT hts inX10 tyX10 tyX10_ok nmX10 rfl 33 18 (by decide) (by decide) (by decide)))).symm
      have m9036 := m9016.trans (Wr.neR wH9029 (Or.inr (x_apart hKT hts inX10 tyX10 tyX10_ok nmX10 rfl 29 18 (by decide) (by decide) (by decide)))).symm
      have m9037 := m9017.trans (Wr.neR wH9029 (Or.inr (x_apart hKT hts inX10 tyX10 tyX10_ok nmX10 rfl 30 18 (by decide) (by decide) (by decide)))).symm
      have m9038 := m9018.trans (Wr.neR wH9029 (Or.inr (x_apart hKT hts inX10 tyX10 tyX10_ok nmX10 rfl 31 18 (by decide) (by decide) (by decide)))).symm
      have m9039 := m9019.trans (Wr.neR wH9029 (Or.inr (x_apart hKT hts inX10 tyX10 tyX10_ok nmX10 rfl 24 18 (by decide) (by decide) (by decide)))).symm
      have m9040 := m9020.trans (Wr.neI wH9029 (Or.inr (x_apart hKT hts inX10 tyX10 tyX10_ok nmX10 rfl 34 18 (by decide) (by decide) (by decide)))).symm
      have m9041 := (Wr.neI wH9029 (Or.inr (x_apart hKT hts inX10 tyX10 tyX10_ok nmX10 rfl 35 18 (by decide) (by decide) (by decide)))).trans m9021
      have m9042 := (Wr.neI wH9029 (Or.inr (x_apart hKT hts inX10 tyX10 tyX10_ok nmX10 rfl 36 18 (by decide) (by decide) (by decide)))).trans m9022
      have m9043 := m9008.trans (Wr.neR wH9029 (Or.inr (x_apart hKT hts inX10 tyX10 tyX10_ok nmX10 rfl 17 18 (by decide) (by decide) (by decide)))).symm
      have m9045 := ex9004.trans (Wr.neI wH9029 (Or.inr (x_apart hKT hts inX10 tyX10 tyX10_ok nmX10 rfl 19 18 (by decide) (by decide) (by decide)))).symm
      have m9046 := ex9005.trans (Wr.neI wH9029 (Or.inr (x_apart hKT hts inX10 tyX10 tyX10_ok nmX10 rfl 20 18 (by decide) (by decide) (by decide)))).symm
      have m9047 := ex9006.trans (Wr.neI wH9029 (Or.inr (x_apart hKT hts inX10 tyX10 tyX10_ok nmX10 rfl 21 18 (by decide) (by decide) (by decide)))).symm
      have m9048 := ex9007.trans (Wr.neI wH9029 (Or.inr (x_apart hKT hts inX10 tyX10 tyX10_ok nmX10 rfl 22 18 (by decide) (by decide) (by decide)))).symm
      have m9049 := Wr.I wH9029
      clear ex9004 ex9005 ex9006 ex9007 g9009 g9010 g9011 g9012 hTH9003 m9008 m9014 m9015 m9016 m9017 m9018 m9019 m9020 m9021 m9022 m9024
      refine lv_iload_n hx hb dX10_text_102 rfl (lv_at hl9028 4 rfl) ?_
      refine lv_if_eq (tgt := 128) hx hb dX10_text_103 (by decide) (fun c9050 => ?_) (fun c9050 => ?_)
      · have k9051 := i_eq c9050
        refine lv_iload hx hb dX10_text_128 (lv_at hl9028 0 rfl) ?_
        refine lv_iconst (v := (-1)) hx hb dX10_text_130 (by decide) ?_
        refine lv_icmp_ne (tgt := 136) hx hb dX10_text_131 (by decide) (fun c9052 => ?_) (fun c9052 => ?_)
        · have k9053 := i_ne c9052
          exfalso
          omega
        · have k9053 := i_eq c9052
          refine lv_iconst (v := (-1)) hx hb dX10_text_134 (by decide) ?_
          exact x_iret C hQ dX10_text_135 hSH9029 (by decide) (by decide) (⟨(-1), 0, rfl, (m9041).symm, m9034, m9035, m9036, m9037, m9038, m9039, g9030, g9031, g9032, g9033, hTH9029⟩)
      · have k9051 := i_ne c9050
        exfalso
        omega
    · have k9026 := i_ne c9025
      replace iv61 := iv61.resolve_left (by omega)
      refine lv_aload_n hx hb dX10_text_87 rfl (lv_at hl8936 0 rfl) ?_
      refine x_V (As := []) (rest := []) C (a_X10_readText l K G H9003 (x9004) (x9005) (x9006) (x9007) (0) (x9002) (x8938) hTH9003 ga0 goq m9014 gaq m9015 gf9 m9016 gf0 m9017 gf1 m9018 ex9004 ex9005 ex9006 ex9007 (m9021).symm m9024 m9020 g9009 g9010 g9011 g9012 (by omega) (by omega)) yo_X10_readText wM_X10_295 ⟨⟨by decide, by decide⟩, by decide, by decide⟩ (x_rv C hTH9003 (ci := 10) rfl ga0 rg_112) rfl hl8936.1 rfl (Nat.le_of_ble_eq_true rfl) dX10_text_88 hSH9003 (AE_sub (fun _ _ => rfl) (by decide) hSH9003.1) (fun vH9054 H9054 locsH9054 pH9054 zH9054 kH9054 hSH9054 => ?_)
      obtain ⟨x9055, x9056, x9057, x9058, x9059, x9060, hvH9054, bx9055, ex9056, ex9057, ex9058, ex9059, ex9060, hrH9054, m9061, m9062, m9063, m9064, m9065, g9066, g9067, g9068, g9069, mf9070, m9071, hTH9054⟩ := pH9054
      subst hvH9054
      clear zH9054
      replace m9061 := EQN.mk m9061
      replace m9062 := EQN.mk m9062
      replace m9063 := EQN.mk m9063
      replace m9064 := EQN.mk m9064
      replace m9065 := EQN.mk m9065
      have m9072 := (m9014).trans (MF.r mf9070 (k := 32) (by decide) (by decide)).symm
      have m9073 := (m9015).trans (MF.r mf9070 (k := 33) (by decide) (by decide)).symm
      have m9074 := (m9016).trans (MF.r mf9070 (k := 29) (by decide) (by decide)).symm
      have m9075 := (m9017).trans (MF.r mf9070 (k := 30) (by decide) (by decide)).symm
      have m9076 := (m9018).trans (MF.r mf9070 (k := 31) (by decide) (by decide)).symm
      have m9077 := (m9019).trans (MF.r mf9070 (k := 24) (by decide) (by decide)).symm
      have m9078 := (m9020).trans (MF.i mf9070 (k := 34) (by decide) (by decide)).symm
      have m9079 := (m9008).trans (MF.r mf9070 (k := 17) (by decide) (by decide)).symm
      have m9080 := (m9024).trans (MF.i mf9070 (k := 18) (by decide) (by decide)).symm
      have bx9056 := ty_fi (x := x9056) (k := 19) ex9056 hTH9054 ga0 rg_112 rfl
      have bx9057 := ty_fi (x := x9057) (k := 20) ex9057 hTH9054 ga0 rg_112 rfl
      have bx9058 := ty_fi (x := x9058) (k := 21) ex9058 hTH9054 ga0 rg_112 rfl
      have bx9059 := ty_fi (x := x9059) (k := 22) ex9059 hTH9054 ga0 rg_112 rfl
      have bx9060 := ty_fi (x := x9060) (k := 35) ex9060 hTH9054 ga0 rg_112 rfl
      refine W.eq (g2 := F0 m 91 ls8935 [.int x9055]) rfl ?_
      refine lv_goto (tgt := 95) hx hb dX10_text_91 (by decide) ?_
      refine lv_istore (lv' := [(4, .int x9055), (0, .ref a0), (1, .int x1), (2, .int x2), (3, .int x8937)]) hx hb dX10_text_95 hl8936 (by decide) rfl (fun ls9081 hl9082 => ?_)
      refine lv_aload_n hx hb dX10_text_97 rfl (lv_at hl9082 1 rfl) ?_
      refine lv_iconst (v := 0) hx hb dX10_text_98 (by decide) ?_
      refine x_put C hTH9054 hSH9054 (ci := 10) (k := 18) (v := .int 0) (ty0 := tyX10) rfl inX10 tyX10_ok nmX10 (by decide) rfl wF_X10_185 ga0 rg_112 rfl rfl (okI (by have := i_rng (0 : Int32); omega) (by have := i_rng (0 : Int32); omega)) rfl rfl (AE_in ga0 (by decide)) dX10_text_99 (fun H9083 locsH9083 hTH9083 hSH9083 wH9083 => ?_)
      have g9084 : CG (avw K H9083 a0) := CG.congr (fun k hk j => av_fld hTH9054 ga0 hap wH9083 (by decide) (CG_ok 112 (by decide) k hk) (CG_ne 18 (by decide) k hk)) g9066
      have g9085 : TU (avw K H9083 a0) (svw K H9083 a0) := TU.congr (fun k hk j => av_fld hTH9054 ga0 hap wH9083 (by decide) (TU_ok 112 (by decide) k hk) (TU_ne 18 (by decide) k hk)) (fun k hk => sv_fld hap wH9083 (by decide) (TU_slt k hk) (TU_sne 18 (by decide) k hk)) g9067
      have g9086 : WD (avw K H9083 a0) := WD.congr (fun k hk j => av_fld hTH9054 ga0 hap wH9083 (by decide) (WD_ok 112 (by decide) k hk) (WD_ne 18 (by decide) k hk)) g9068
      have g9087 : IM (avw K H9083 a0) := IM.congr (fun k hk j => av_fld hTH9054 ga0 hap wH9083 (by decide) (IM_ok 112 (by decide) k hk) (IM_ne 18 (by decide) k hk)) g9069
      have m9088 := m9061.trans (Wr.neR wH9083 (Or.inr (x_apart hKT hts inX10 tyX10 tyX10_ok nmX10 rfl 32 18 (by decide) (by decide) (by decide)))).symm
      have m9089 := m9062.trans (Wr.neR wH9083 (Or.inr (x_apart hKT hts inX10 tyX10 tyX10_ok nmX10 rfl 33 18 (by decide) (by decide) (by decide)))).symm
      have m9090 := m9063.trans (Wr.neR wH9083 (Or.inr (x_apart hKT hts inX10 tyX10 tyX10_ok nmX10 rfl 29 18 (by decide) (by decide) (by decide)))).symm
      have m9091 := m9064.trans (Wr.neR wH9083 (Or.inr (x_apart hKT hts inX10 tyX10 tyX10_ok nmX10 rfl 30 18 (by decide) (by decide) (by decide)))).symm
      have m9092 := m9065.trans (Wr.neR wH9083 (Or.inr (x_apart hKT hts inX10 tyX10 tyX10_ok nmX10 rfl 31 18 (by decide) (by decide) (by decide)))).symm
      have m9093 := m9077.trans (Wr.neR wH9083 (Or.inr (x_apart hKT hts inX10 tyX10 tyX10_ok nmX10 rfl 24 18 (by decide) (by decide) (by decide)))).symm
      have m9094 := m9078.trans (Wr.neI wH9083 (Or.inr (x_apart hKT hts inX10 tyX10 tyX10_ok nmX10 rfl 34 18 (by decide) (by decide) (by decide)))).symm
      have m9095 := m9079.trans (Wr.neR wH9083 (Or.inr (x_apart hKT hts inX10 tyX10 tyX10_ok nmX10 rfl 17 18 (by decide) (by decide) (by decide)))).symm
      have m9097 := ex9056.trans (Wr.neI wH9083 (Or.inr (x_apart hKT hts inX10 tyX10 tyX10_ok nmX10 rfl 19 18 (by decide) (by decide) (by decide)))).symm
      have m9098 := ex9057.trans (Wr.neI wH9083 (Or.inr (x_apart hKT hts inX10 tyX10 tyX10_ok nmX10 rfl 20 18 (by decide) (by decide) (by decide)))).symm
      have m9099 := ex9058.trans (Wr.neI wH9083 (Or.inr (x_apart hKT hts inX10 tyX10 tyX10_ok nmX10 rfl 21 18 (by decide) (by decide) (by decide)))).symm
      have m9100 := ex9059.trans (Wr.neI wH9083 (Or.inr (x_apart hKT hts inX10 tyX10 tyX10_ok nmX10 rfl 22 18 (by decide) (by decide) (by decide)))).symm
      have m9101 := ex9060.trans (Wr.neI wH9083 (Or.inr (x_apart hKT hts inX10 tyX10 tyX10_ok nmX10 rfl 35 18 (by decide) (by decide) (by decide)))).symm
      have m9102 := Wr.I wH9083
      clear ex9056 ex9057 ex9058 ex9059 ex9060 g9066 g9067 g9068 g9069 hTH9054 m9061 m9062 m9063 m9064 m9065 m9077 m9078 m9079 m9080
      refine lv_iload_n hx hb dX10_text_102 rfl (lv_at hl9082 4 rfl) ?_
      refine lv_if_eq (tgt := 128) hx hb dX10_text_103 (by decide) (fun c9103 => ?_) (fun c9103 => ?_)
      · have k9104 := i_eq c9103
        exfalso
        omega
      · have k9104 := i_ne c9103
        refine lv_iload hx hb dX10_text_106 (lv_at hl9082 0 rfl) ?_
        refine lv_iconst (v := (-1)) hx hb dX10_text_108 (by decide) ?_
        refine lv_icmp_ne (tgt := 128) hx hb dX10_text_109 (by decide) (fun c9105 => ?_) (fun c9105 => ?_)
        · have k9106 := i_ne c9105
          refine lv_iload hx hb dX10_text_128 (lv_at hl9082 0 rfl) ?_
          refine lv_iconst (v := (-1)) hx hb dX10_text_130 (by decide) ?_
          refine lv_icmp_ne (tgt := 136) hx hb dX10_text_131 (by decide) (fun c9107 => ?_) (fun c9107 => ?_)
          · have k9108 := i_ne c9107
            refine lv_iload_n hx hb dX10_text_136 rfl (lv_at hl9082 2 rfl) ?_
            refine lv_if_ne (tgt := 144) hx hb dX10_text_137 (by decide) (fun c9109 => ?_) (fun c9109 => ?_)
            · have k9110 := i_ne c9109
              refine lv_iconst (v := 2) hx hb dX10_text_144 (by decide) ?_
              refine lv_iload_n hx hb dX10_text_145 rfl (lv_at hl9082 3 rfl) ?_
              refine lv_iadd hx hb dX10_text_146 ?_
              refine lv_topi (fun x9111 ex9111 => ?_)
              have tx9111 := i_add ex9111 (by omega)
              refine lv_istore (lv' := [(5, .int x9111), (4, .int x9055), (0, .ref a0), (1, .int x1), (2, .int x2), (3, .int x8937)]) hx hb dX10_text_147 hl9082 (by decide) rfl (fun ls9112 hl9113 => ?_)
              have hDL := m9071.resolve_left (by omega)
              replace hDL := DL.congr (fun j => Wr.neI wH9083 (Or.inl (G_ne gf9 ga0 (by decide)))) (fun j => Wr.neI wH9083 (Or.inl (G_ne gf0 ga0 (by decide)))) (fun j => Wr.neI wH9083 (Or.inl (G_ne gf1 ga0 (by decide)))) (fun j => Wr.neI wH9083 (Or.inl (G_ne goq ga0 (by decide)))) (fun j => Wr.neI wH9083 (Or.inl (G_ne gaq ga0 (by decide)))) hDL
              exact J149  ls9112 H9083 locsH9083 (x9055) (x9111) (x9060) (lv_sub hl9113 [2, 1, 0] rfl) hTH9083 hSH9083 ⟨by have := i_rng x9055; omega, by have := i_rng x9055; omega⟩ ⟨by have := i_rng x9111; omega, by have := i_rng x9111; omega⟩ ⟨by have := i_rng x9060; omega, by have := i_rng x9060; omega⟩ m9101 m9088 m9089 m9090 m9091 m9092 m9093 g9084 g9085 g9086 g9087 (DL.cast hDL (by omega) (by omega))
            · have k9110 := i_eq c9109
              refine lv_iload_n hx hb dX10_text_140 rfl (lv_at hl9082 3 rfl) ?_
              refine lv_goto (tgt := 147) hx hb dX10_text_141 (by decide) ?_
              refine lv_istore (lv' := [(5, .int x2), (4, .int x9055), (0, .ref a0), (1, .int x1), (2, .int x2), (3, .int x8937)]) hx hb dX10_text_147 hl9082 (by decide) rfl (fun ls9114 hl9115 => ?_)
              have hDL := m9071.resolve_left (by omega)
              replace hDL := DL.congr (fun j => Wr.neI wH9083 (Or.inl (G_ne gf9 ga0 (by decide)))) (fun j => Wr.neI wH9083 (Or.inl (G_ne gf0 ga0 (by decide)))) (fun j => Wr.neI wH9083 (Or.inl (G_ne gf1 ga0 (by decide)))) (fun j => Wr.neI wH9083 (Or.inl (G_ne goq ga0 (by decide)))) (fun j => Wr.neI wH9083 (Or.inl (G_ne gaq ga0 (by decide)))) hDL
              exact J149  ls9114 H9083 locsH9083 (x9055) (x2) (x9060) (lv_sub hl9115 [2, 1, 0] rfl) hTH9083 hSH9083 ⟨by have := i_rng x9055; omega, by have := i_rng x9055; omega⟩ ⟨by have := i_rng x2; omega, by have := i_rng x2; omega⟩ ⟨by have := i_rng x9060; omega, by have := i_rng x9060; omega⟩ m9101 m9088 m9089 m9090 m9091 m9092 m9093 g9084 g9085 g9086 g9087 (DL.cast hDL (by omega) (by omega))
          · have k9108 := i_eq c9107
            exfalso
            omega
        · have k9106 := i_eq c9105
          refine lv_aload_n hx hb dX10_text_112 rfl (lv_at hl9082 1 rfl) ?_
          refine lv_aload_n hx hb dX10_text_113 rfl (lv_at hl9082 1 rfl) ?_
          refine x_gi C hTH9083 (ci := 10) (k := 39) rfl inX10 (by decide) wF_X10_222 ga0 rg_112 rfl dX10_text_114 (fun x9116 ex9116 bx9116 => ?_)
          refine x_put C hTH9083 hSH9083 (ci := 10) (k := 41) (v := .int x9116) (ty0 := tyX10) rfl inX10 tyX10_ok nmX10 (by decide) rfl wF_X10_292 ga0 rg_112 rfl rfl (okI (by have := i_rng x9116; omega) (by have := i_rng x9116; omega)) rfl rfl (AE_in ga0 (by decide)) dX10_text_117 (fun H9117 locsH9117 hTH9117 hSH9117 wH9117 => ?_)
          have g9118 : CG (avw K H9117 a0) := CG.congr (fun k hk j => av_fld hTH9083 ga0 hap wH9117 (by decide) (CG_ok 112 (by decide) k hk) (CG_ne 41 (by decide) k hk)) g9084
          have g9119 : TU (avw K H9117 a0) (svw K H9117 a0) := TU.congr (fun k hk j => av_fld hTH9083 ga0 hap wH9117 (by decide) (TU_ok 112 (by decide) k hk) (TU_ne 41 (by decide) k hk)) (fun k hk => sv_fld hap wH9117 (by decide) (TU_slt k hk) (TU_sne 41 (by decide) k hk)) g9085
          have g9120 : WD (avw K H9117 a0) := WD.congr (fun k hk j => av_fld hTH9083 ga0 hap wH9117 (by decide) (WD_ok 112 (by decide) k hk) (WD_ne 41 (by decide) k hk)) g9086
          have g9121 : IM (avw K H9117 a0) := IM.congr (fun k hk j => av_fld hTH9083 ga0 hap wH9117 (by decide) (IM_ok 112 (by decide) k hk) (IM_ne 41 (by decide) k hk)) g9087
          have m9122 := m9088.trans (Wr.neR wH9117 (Or.inr (x_apart hKT hts inX10 tyX10 tyX10_ok nmX10 rfl 32 41 (by decide) (by decide) (by decide)))).symm
          have m9123 := m9089.trans (Wr.neR wH9117 (Or.inr (x_apart hKT hts inX10 tyX10 tyX10_ok nmX10 rfl 33 41 (by decide) (by decide) (by decide)))).symm
          have m9124 := m9090.trans (Wr.neR wH9117 (Or.inr (x_apart hKT hts inX10 tyX10 tyX10_ok nmX10 rfl 29 41 (by decide) (by decide) (by decide)))).symm
          have m9125 := m9091.trans (Wr.neR wH9117 (Or.inr (x_apart hKT hts inX10 tyX10 tyX10_ok nmX10 rfl 30 41 (by decide) (by decide) (by decide)))).symm
          have m9126 := m9092.trans (Wr.neR wH9117 (Or.inr (x_apart hKT hts inX10 tyX10 tyX10_ok nmX10 rfl 31 41 (by decide) (by decide) (by decide)))).symm
          have m9127 := m9093.trans (Wr.neR wH9117 (Or.inr (x_apart hKT hts inX10 tyX10 tyX10_ok nmX10 rfl 24 41 (by decide) (by decide) (by decide)))).symm
          have m9128 := m9094.trans (Wr.neI wH9117 (Or.inr (x_apart hKT hts inX10 tyX10 tyX10_ok nmX10 rfl 34 41 (by decide) (by decide) (by decide)))).symm
          have m9129 := m9095.trans (Wr.neR wH9117 (Or.inr (x_apart hKT hts inX10 tyX10 tyX10_ok nmX10 rfl 17 41 (by decide) (by decide) (by decide)))).symm
          have m9130 := m9097.trans (Wr.neI wH9117 (Or.inr (x_apart hKT hts inX10 tyX10 tyX10_ok nmX10 rfl 19 41 (by decide) (by decide) (by decide)))).symm
          have m9131 := m9098.trans (Wr.neI wH9117 (Or.inr (x_apart hKT hts inX10 tyX10 tyX10_ok nmX10 rfl 20 41 (by decide) (by decide) (by decide)))).symm
          have m9132 := m9099.trans (Wr.neI wH9117 (Or.inr (x_apart hKT hts inX10 tyX10 tyX10_ok nmX10 rfl 21 41 (by decide) (by decide) (by decide)))).symm
          have m9133 := m9100.trans (Wr.neI wH9117 (Or.inr (x_apart hKT hts inX10 tyX10 tyX10_ok nmX10 rfl 22 41 (by decide) (by decide) (by decide)))).symm
          have m9134 := m9101.trans (Wr.neI wH9117 (Or.inr (x_apart hKT hts inX10 tyX10 tyX10_ok nmX10 rfl 35 41 (by decide) (by decide) (by decide)))).symm
          have m9135 := (Wr.neI wH9117 (Or.inr (x_apart hKT hts inX10 tyX10 tyX10_ok nmX10 rfl 18 41 (by decide) (by decide) (by decide)))).trans m9102
          have m9136 := ex9116.trans (Wr.neI wH9117 (Or.inr (x_apart hKT hts inX10 tyX10 tyX10_ok nmX10 rfl 39 41 (by decide) (by decide) (by decide)))).symm
          have m9137 := Wr.I wH9117
          have m9137 := m9137.symm
          clear ex9116 g9084 g9085 g9086 g9087 hTH9083 m9088 m9089 m9090 m9091 m9092 m9093 m9094 m9095 m9097 m9098 m9099 m9100 m9101 m9102
          refine lv_aload_n hx hb dX10_text_120 rfl (lv_at hl9082 1 rfl) ?_
          refine lv_aload_n hx hb dX10_text_121 rfl (lv_at hl9082 1 rfl) ?_
          refine x_gi C hTH9117 (ci := 10) (k := 40) rfl inX10 (by decide) wF_X10_225 ga0 rg_112 rfl dX10_text_122 (fun x9138 ex9138 bx9138 => ?_)
          refine x_put C hTH9117 hSH9117 (ci := 10) (k := 42) (v := .int x9138) (ty0 := tyX10) rfl inX10 tyX10_ok nmX10 (by decide) rfl wF_X10_92 ga0 rg_112 rfl rfl (okI (by have := i_rng x9138; omega) (by have := i_rng x9138; omega)) rfl rfl (AE_in ga0 (by decide)) dX10_text_125 (fun H9139 locsH9139 hTH9139 hSH9139 wH9139 => ?_)
          have g9140 : CG (avw K H9139 a0) := CG.congr (fun k hk j => av_fld hTH9117 ga0 hap wH9139 (by decide) (CG_ok 112 (by decide) k hk) (CG_ne 42 (by decide) k hk)) g9118
          have g9141 : TU (avw K H9139 a0) (svw K H9139 a0) := TU.congr (fun k hk j => av_fld hTH9117 ga0 hap wH9139 (by decide) (TU_ok 112 (by decide) k hk) (TU_ne 42 (by decide) k hk)) (fun k hk => sv_fld hap wH9139 (by decide) (TU_slt k hk) (TU_sne 42 (by decide) k hk)) g9119
          have g9142 : WD (avw K H9139 a0) := WD.congr (fun k hk j => av_fld hTH9117 ga0 hap wH9139 (by decide) (WD_ok 112 (by decide) k hk) (WD_ne 42 (by decide) k hk)) g9120
          have g9143 : IM (avw K H9139 a0) := IM.congr (fun k hk j => av_fld hTH9117 ga0 hap wH9139 (by decide) (IM_ok 112 (by decide) k hk) (IM_ne 42 (by decide) k hk)) g9121
          have m9144 := m9122.trans (Wr.neR wH9139 (Or.inr (x_apart hKT hts inX10 tyX10 tyX10_ok nmX10 rfl 32 42 (by decide) (by decide) (by decide)))).symm
          have m9145 := m9123.trans (Wr.neR wH9139 (Or.inr (x_apart hKT hts inX10 tyX10 tyX10_ok nmX10 rfl 33 42 (by decide) (by decide) (by decide)))).symm
          have m9146 := m9124.trans (Wr.neR wH9139 (Or.inr (x_apart hKT hts inX10 tyX10 tyX10_ok nmX10 rfl 29 42 (by decide) (by decide) (by decide)))).symm
          have m9147 := m9125.trans (Wr.neR wH9139 (Or.inr (x_apart hKT hts inX10 tyX10 tyX10_ok nmX10 rfl 30 42 (by decide) (by decide) (by decide)))).symm
          have m9148 := m9126.trans (Wr.neR wH9139 (Or.inr (x_apart hKT hts inX10 tyX10 tyX10_ok nmX10 rfl 31 42 (by decide) (by decide) (by decide)))).symm
          have m9149 := m9127.trans (Wr.neR wH9139 (Or.inr (x_apart hKT hts inX10 tyX10 tyX10_ok nmX10 rfl 24 42 (by decide) (by decide) (by decide)))).symm
          have m9150 := m9128.trans (Wr.neI wH9139 (Or.inr (x_apart hKT hts inX10 tyX10 tyX10_ok nmX10 rfl 34 42 (by decide) (by decide) (by decide)))).symm
          have m9151 := m9129.trans (Wr.neR wH9139 (Or.inr (x_apart hKT hts inX10 tyX10 tyX10_ok nmX10 rfl 17 42 (by decide) (by decide) (by decide)))).symm
          have m9152 := m9130.trans (Wr.neI wH9139 (Or.inr (x_apart hKT hts inX10 tyX10 tyX10_ok nmX10 rfl 19 42 (by decide) (by decide) (by decide)))).symm
          have m9153 := m9131.trans (Wr.neI wH9139 (Or.inr (x_apart hKT hts inX10 tyX10 tyX10_ok nmX10 rfl 20 42 (by decide) (by decide) (by decide)))).symm
          have m9154 := m9132.trans (Wr.neI wH9139 (Or.inr (x_apart hKT hts inX10 tyX10 tyX10_ok nmX10 rfl 21 42 (by decide) (by decide) (by decide)))).symm
          have m9155 := m9133.trans (Wr.neI wH9139 (Or.inr (x_apart hKT hts inX10 tyX10 tyX10_ok nmX10 rfl 22 42 (by decide) (by decide) (by decide)))).symm
          have m9156 := m9134.trans (Wr.neI wH9139 (Or.inr (x_apart hKT hts inX10 tyX10 tyX10_ok nmX10 rfl 35 42 (by decide) (by decide) (by decide)))).symm
          have m9157 := (Wr.neI wH9139 (Or.inr (x_apart hKT hts inX10 tyX10 tyX10_ok nmX10 rfl 18 42 (by decide) (by decide) (by decide)))).trans m9135
          have m9158 := m9136.trans (Wr.neI wH9139 (Or.inr (x_apart hKT hts inX10 tyX10 tyX10_ok nmX10 rfl 39 42 (by decide) (by decide) (by decide)))).symm
          have m9159 := m9137.trans (Wr.neI wH9139 (Or.inr (x_apart hKT hts inX10 tyX10 tyX10_ok nmX10 rfl 41 42 (by decide) (by decide) (by decide)))).symm
          have m9160 := ex9138.trans (Wr.neI wH9139 (Or.inr (x_apart hKT hts inX10 tyX10 tyX10_ok nmX10 rfl 40 42 (by decide) (by decide) (by decide)))).symm
          have m9161 := Wr.I wH9139
          have m9161 := m9161.symm
          clear ex9138 g9118 g9119 g9120 g9121 hTH9117 m9122 m9123 m9124 m9125 m9126 m9127 m9128 m9129 m9130 m9131 m9132 m9133 m9134 m9135 m9136 m9137
          refine lv_iload hx hb dX10_text_128 (lv_at hl9082 0 rfl) ?_
          refine lv_iconst (v := (-1)) hx hb dX10_text_130 (by decide) ?_
          refine lv_icmp_ne (tgt := 136) hx hb dX10_text_131 (by decide) (fun c9162 => ?_) (fun c9162 => ?_)
          · have k9163 := i_ne c9162
            exfalso
            omega
          · have k9163 := i_eq c9162
            refine lv_iconst (v := (-1)) hx hb dX10_text_134 (by decide) ?_
            exact x_iret C hQ dX10_text_135 hSH9139 (by decide) (by decide) (⟨(-1), x9060, rfl, m9156, m9144, m9145, m9146, m9147, m9148, m9149, g9140, g9141, g9142, g9143, hTH9139⟩)
  refine lv_aload_n hx hb dX10_text_0 rfl (lv_at hl 0 rfl) ?_
  refine lv_iconst (v := 0) hx hb dX10_text_1 (by decide) ?_
  refine x_put C hT hS (ci := 10) (k := 0) (v := .int 0) (ty0 := tyX10) rfl inX10 tyX10_ok nmX10 (by decide) rfl wF_X10_167 ga0 rg_112 rfl rfl (okI (by have := i_rng (0 : Int32); omega) (by have := i_rng (0 : Int32); omega)) rfl rfl (AE_in ga0 (by decide)) dX10_text_2 (fun H9164 locsH9164 hTH9164 hSH9164 wH9164 => ?_)
  have g9165 : CG (avw K H9164 a0) := CG.congr (fun k hk j => av_fld hT ga0 hap wH9164 (by decide) (CG_ok 112 (by decide) k hk) (CG_ne 0 (by decide) k hk)) hg_CG
  have g9166 : TU (avw K H9164 a0) (svw K H9164 a0) := TU.congr (fun k hk j => av_fld hT ga0 hap wH9164 (by decide) (TU_ok 112 (by decide) k hk) (TU_ne 0 (by decide) k hk)) (fun k hk => sv_fld hap wH9164 (by decide) (TU_slt k hk) (TU_sne 0 (by decide) k hk)) hg_TU
  have g9167 : WD (avw K H9164 a0) := WD.congr (fun k hk j => av_fld hT ga0 hap wH9164 (by decide) (WD_ok 112 (by decide) k hk) (WD_ne 0 (by decide) k hk)) hg_WD
  have g9168 : IM (avw K H9164 a0) := IM.congr (fun k hk j => av_fld hT ga0 hap wH9164 (by decide) (IM_ok 112 (by decide) k hk) (IM_ne 0 (by decide) k hk)) hg_IM
  have m9169 := eoq.trans (Wr.neR wH9164 (Or.inr (x_apart hKT hts inX10 tyX10 tyX10_ok nmX10 rfl 32 0 (by decide) (by decide) (by decide)))).symm
  have m9170 := eaq.trans (Wr.neR wH9164 (Or.inr (x_apart hKT hts inX10 tyX10 tyX10_ok nmX10 rfl 33 0 (by decide) (by decide) (by decide)))).symm
  have m9171 := ef9.trans (Wr.neR wH9164 (Or.inr (x_apart hKT hts inX10 tyX10 tyX10_ok nmX10 rfl 29 0 (by decide) (by decide) (by decide)))).symm
  have m9172 := ef0.trans (Wr.neR wH9164 (Or.inr (x_apart hKT hts inX10 tyX10 tyX10_ok nmX10 rfl 30 0 (by decide) (by decide) (by decide)))).symm
  have m9173 := ef1.trans (Wr.neR wH9164 (Or.inr (x_apart hKT hts inX10 tyX10 tyX10_ok nmX10 rfl 31 0 (by decide) (by decide) (by decide)))).symm
  have m9174 := emq.trans (Wr.neR wH9164 (Or.inr (x_apart hKT hts inX10 tyX10 tyX10_ok nmX10 rfl 24 0 (by decide) (by decide) (by decide)))).symm
  have m9175 := emn.trans (Wr.neI wH9164 (Or.inr (x_apart hKT hts inX10 tyX10 tyX10_ok nmX10 rfl 35 0 (by decide) (by decide) (by decide)))).symm
  have m9176 := Wr.I wH9164
  clear eaq ef0 ef1 ef9 emn emq eoq
  refine lv_aload_n hx hb dX10_text_5 rfl (lv_at hl 0 rfl) ?_
  refine lv_iconst (v := 0) hx hb dX10_text_6 (by decide) ?_
  refine x_put C hTH9164 hSH9164 (ci := 10) (k := 41) (v := .int 0) (ty0 := tyX10) rfl inX10 tyX10_ok nmX10 (by decide) rfl wF_X10_292 ga0 rg_112 rfl rfl (okI (by have := i_rng (0 : Int32); omega) (by have := i_rng (0 : Int32); omega)) rfl rfl (AE_in ga0 (by decide)) dX10_text_7 (fun H9177 locsH9177 hTH9177 hSH9177 wH9177 => ?_)
  have g9178 : CG (avw K H9177 a0) := CG.congr (fun k hk j => av_fld hTH9164 ga0 hap wH9177 (by decide) (CG_ok 112 (by decide) k hk) (CG_ne 41 (by decide) k hk)) g9165
  have g9179 : TU (avw K H9177 a0) (svw K H9177 a0) := TU.congr (fun k hk j => av_fld hTH9164 ga0 hap wH9177 (by decide) (TU_ok 112 (by decide) k hk) (TU_ne 41 (by decide) k hk)) (fun k hk => sv_fld hap wH9177 (by decide) (TU_slt k hk) (TU_sne 41 (by decide) k hk)) g9166
  have g9180 : WD (avw K H9177 a0) := WD.congr (fun k hk j => av_fld hTH9164 ga0 hap wH9177 (by decide) (WD_ok 112 (by decide) k hk) (WD_ne 41 (by decide) k hk)) g9167
  have g9181 : IM (avw K H9177 a0) := IM.congr (fun k hk j => av_fld hTH9164 ga0 hap wH9177 (by decide) (IM_ok 112 (by decide) k hk) (IM_ne 41 (by decide) k hk)) g9168
  have m9182 := m9169.trans (Wr.neR wH9177 (Or.inr (x_apart hKT hts inX10 tyX10 tyX10_ok nmX10 rfl 32 41 (by decide) (by decide) (by decide)))).symm
  have m9183 := m9170.trans (Wr.neR wH9177 (Or.inr (x_apart hKT hts inX10 tyX10 tyX10_ok nmX10 rfl 33 41 (by decide) (by decide) (by decide)))).symm
  have m9184 := m9171.trans (Wr.neR wH9177 (Or.inr (x_apart hKT hts inX10 tyX10 tyX10_ok nmX10 rfl 29 41 (by decide) (by decide) (by decide)))).symm
  have m9185 := m9172.trans (Wr.neR wH9177 (Or.inr (x_apart hKT hts inX10 tyX10 tyX10_ok nmX10 rfl 30 41 (by decide) (by decide) (by decide)))).symm
  have m9186 := m9173.trans (Wr.neR wH9177 (Or.inr (x_apart hKT hts inX10 tyX10 tyX10_ok nmX10 rfl 31 41 (by decide) (by decide) (by decide)))).symm
  have m9187 := m9174.trans (Wr.neR wH9177 (Or.inr (x_apart hKT hts inX10 tyX10 tyX10_ok nmX10 rfl 24 41 (by decide) (by decide) (by decide)))).symm
  have m9188 := m9175.trans (Wr.neI wH9177 (Or.inr (x_apart hKT hts inX10 tyX10 tyX10_ok nmX10 rfl 35 41 (by decide) (by decide) (by decide)))).symm
  have m9189 := (Wr.neI wH9177 (Or.inr (x_apart hKT hts inX10 tyX10 tyX10_ok nmX10 rfl 0 41 (by decide) (by decide) (by decide)))).trans m9176
  have m9190 := Wr.I wH9177
  clear g9165 g9166 g9167 g9168 hTH9164 m9169 m9170 m9171 m9172 m9173 m9174 m9175 m9176
  refine lv_aload_n hx hb dX10_text_10 rfl (lv_at hl 0 rfl) ?_
  refine lv_iconst (v := (-1)) hx hb dX10_text_11 (by decide) ?_
  refine x_put C hTH9177 hSH9177 (ci := 10) (k := 42) (v := .int (-1)) (ty0 := tyX10) rfl inX10 tyX10_ok nmX10 (by decide) rfl wF_X10_92 ga0 rg_112 rfl rfl (okI (by have := i_rng ((-1) : Int32); omega) (by have := i_rng ((-1) : Int32); omega)) rfl rfl (AE_in ga0 (by decide)) dX10_text_12 (fun H9191 locsH9191 hTH9191 hSH9191 wH9191 => ?_)
  have g9192 : CG (avw K H9191 a0) := CG.congr (fun k hk j => av_fld hTH9177 ga0 hap wH9191 (by decide) (CG_ok 112 (by decide) k hk) (CG_ne 42 (by decide) k hk)) g9178
  have g9193 : TU (avw K H9191 a0) (svw K H9191 a0) := TU.congr (fun k hk j => av_fld hTH9177 ga0 hap wH9191 (by decide) (TU_ok 112 (by decide) k hk) (TU_ne 42 (by decide) k hk)) (fun k hk => sv_fld hap wH9191 (by decide) (TU_slt k hk) (TU_sne 42 (by decide) k hk)) g9179
  have g9194 : WD (avw K H9191 a0) := WD.congr (fun k hk j => av_fld hTH9177 ga0 hap wH9191 (by decide) (WD_ok 112 (by decide) k hk) (WD_ne 42 (by decide) k hk)) g9180
  have g9195 : IM (avw K H9191 a0) := IM.congr (fun k hk j => av_fld hTH9177 ga0 hap wH9191 (by decide) (IM_ok 112 (by decide) k hk) (IM_ne 42 (by decide) k hk)) g9181
  have m9196 := m9182.trans (Wr.neR wH9191 (Or.inr (x_apart hKT hts inX10 tyX10 tyX10_ok nmX10 rfl 32 42 (by decide) (by decide) (by decide)))).symm
  have m9197 := m9183.trans (Wr.neR wH9191 (Or.inr (x_apart hKT hts inX10 tyX10 tyX10_ok nmX10 rfl 33 42 (by decide) (by decide) (by decide)))).symm
  have m9198 := m9184.trans (Wr.neR wH9191 (Or.inr (x_apart hKT hts inX10 tyX10 tyX10_ok nmX10 rfl 29 42 (by decide) (by decide) (by decide)))).symm
  have m9199 := m9185.trans (Wr.neR wH9191 (Or.inr (x_apart hKT hts inX10 tyX10 tyX10_ok nmX10 rfl 30 42 (by decide) (by decide) (by decide)))).symm
  have m9200 := m9186.trans (Wr.neR wH9191 (Or.inr (x_apart hKT hts inX10 tyX10 tyX10_ok nmX10 rfl 31 42 (by decide) (by decide) (by decide)))).symm
  have m9201 := m9187.trans (Wr.neR wH9191 (Or.inr (x_apart hKT hts inX10 tyX10 tyX10_ok nmX10 rfl 24 42 (by decide) (by decide) (by decide)))).symm
  have m9202 := m9188.trans (Wr.neI wH9191 (Or.inr (x_apart hKT hts inX10 tyX10 tyX10_ok nmX10 rfl 35 42 (by decide) (by decide) (by decide)))).symm
  have m9203 := (Wr.neI wH9191 (Or.inr (x_apart hKT hts inX10 tyX10 tyX10_ok nmX10 rfl 0 42 (by decide) (by decide) (by decide)))).trans m9189
  have m9204 := (Wr.neI wH9191 (Or.inr (x_apart hKT hts inX10 tyX10 tyX10_ok nmX10 rfl 41 42 (by decide) (by decide) (by decide)))).trans m9190
  have m9205 := Wr.I wH9191
  clear g9178 g9179 g9180 g9181 hTH9177 m9182 m9183 m9184 m9185 m9186 m9187 m9188 m9189 m9190
  refine lv_iload_n hx hb dX10_text_15 rfl (lv_at hl 1 rfl) ?_
  refine lv_if_ne (tgt := 29) hx hb dX10_text_16 (by decide) (fun c9206 => ?_) (fun c9206 => ?_)
  · have k9207 := i_ne c9206
    refine lv_iload_n hx hb dX10_text_29 rfl (lv_at hl 1 rfl) ?_
    refine lv_iconst (v := 1) hx hb dX10_text_30 (by decide) ?_
    refine lv_icmp_ne (tgt := 48) hx hb dX10_text_31 (by decide) (fun c9208 => ?_) (fun c9208 => ?_)
    · have k9209 := i_ne c9208
      refine lv_iconst (v := 0) hx hb dX10_text_48 (by decide) ?_
      refine lv_istore_n (lv' := [(3, .int 0), (0, .ref a0), (1, .int x1), (2, .int x2)]) hx hb dX10_text_49 rfl hl (by decide) rfl (fun ls9210 hl9211 => ?_)
      refine lv_aload_n hx hb dX10_text_50 rfl (lv_at hl9211 1 rfl) ?_
      refine lv_iload_n hx hb dX10_text_51 rfl (lv_at hl9211 2 rfl) ?_
      refine lv_iconst (v := 1) hx hb dX10_text_52 (by decide) ?_
      refine lv_icmp_ne (tgt := 60) hx hb dX10_text_53 (by decide) (fun c9212 => ?_) (fun c9212 => ?_)
      · have k9213 := i_ne c9212
        refine lv_iconst (v := 0) hx hb dX10_text_60 (by decide) ?_
        exact J61 ls9210 H9191 locsH9191 (0) (0) (mn) (lv_sub hl9211 [1, 2, 3, 0] rfl) hTH9191 hSH9191 (by decide) (by decide) ⟨by have := i_rng mn; omega, by have := i_rng mn; omega⟩ m9202 m9196 m9197 m9198 m9199 m9200 m9201 g9192 g9193 g9194 g9195 (by omega)
      · have k9213 := i_eq c9212
        refine lv_iconst (v := 1) hx hb dX10_text_56 (by decide) ?_
        refine lv_goto (tgt := 61) hx hb dX10_text_57 (by decide) ?_
        exact J61 ls9210 H9191 locsH9191 (0) (1) (mn) (lv_sub hl9211 [1, 2, 3, 0] rfl) hTH9191 hSH9191 (by decide) (by decide) ⟨by have := i_rng mn; omega, by have := i_rng mn; omega⟩ m9202 m9196 m9197 m9198 m9199 m9200 m9201 g9192 g9193 g9194 g9195 (by omega)
    · have k9209 := i_eq c9208
      refine lv_aload_n hx hb dX10_text_34 rfl (lv_at hl 0 rfl) ?_
      refine lv_iload_n hx hb dX10_text_35 rfl (lv_at hl 2 rfl) ?_
      refine lv_iconst (v := 0) hx hb dX10_text_36 (by decide) ?_
      refine lv_iconst (v := 3) hx hb dX10_text_37 (by decide) ?_
      refine x_V (As := [.int x2, .int 0, .int 3]) (rest := []) C (c_X10_isIn l K G H9191 (x2) (0) (3) hTH9191 ga0) yo_X10_isIn wM_X10_177 ⟨⟨by decide, by decide⟩, by decide, by decide⟩ (x_rv C hTH9191 (ci := 10) rfl ga0 rg_112) rfl hl.1 rfl (Nat.le_of_ble_eq_true rfl) dX10_text_38 hSH9191 (AE_sub (fun _ _ => rfl) (by decide) hSH9191.1) (fun vH9214 H9214 locsH9214 pH9214 zH9214 kH9214 hSH9214 => ?_)
      have hqH9214 := pH9214.1.symm
      subst hqH9214
      rcases pH9214.2 with ⟨hvH9214, hcH9214⟩ | ⟨hvH9214, hcH9214⟩
      · subst hvH9214
        refine W.eq (g2 := F0 m 41 ls [.int 1]) rfl ?_
        refine lv_if_eq (tgt := 48) hx hb dX10_text_41 (by decide) (fun c9215 => ?_) (fun c9215 => ?_)
        · have k9216 := i_eq c9215
          exfalso
          omega
        · have k9216 := i_ne c9215
          refine lv_iconst (v := 1) hx hb dX10_text_44 (by decide) ?_
          refine lv_goto (tgt := 49) hx hb dX10_text_45 (by decide) ?_
          refine lv_istore_n (lv' := [(3, .int 1), (0, .ref a0), (1, .int x1), (2, .int x2)]) hx hb dX10_text_49 rfl hl (by decide) rfl (fun ls9217 hl9218 => ?_)
          refine lv_aload_n hx hb dX10_text_50 rfl (lv_at hl9218 1 rfl) ?_
          refine lv_iload_n hx hb dX10_text_51 rfl (lv_at hl9218 2 rfl) ?_
          refine lv_iconst (v := 1) hx hb dX10_text_52 (by decide) ?_
          refine lv_icmp_ne (tgt := 60) hx hb dX10_text_53 (by decide) (fun c9219 => ?_) (fun c9219 => ?_)
          · have k9220 := i_ne c9219
            exfalso
            omega
          · have k9220 := i_eq c9219
            refine lv_iconst (v := 1) hx hb dX10_text_56 (by decide) ?_
            refine lv_goto (tgt := 61) hx hb dX10_text_57 (by decide) ?_
            exact J61 ls9217 H9191 locsH9214 (1) (1) (mn) (lv_sub hl9218 [1, 2, 3, 0] rfl) hTH9191 hSH9214 (by decide) (by decide) ⟨by have := i_rng mn; omega, by have := i_rng mn; omega⟩ m9202 m9196 m9197 m9198 m9199 m9200 m9201 g9192 g9193 g9194 g9195 (by omega)
      · subst hvH9214
        refine W.eq (g2 := F0 m 41 ls [.int 0]) rfl ?_
        refine lv_if_eq (tgt := 48) hx hb dX10_text_41 (by decide) (fun c9221 => ?_) (fun c9221 => ?_)
        · have k9222 := i_eq c9221
          refine lv_iconst (v := 0) hx hb dX10_text_48 (by decide) ?_
          refine lv_istore_n (lv' := [(3, .int 0), (0, .ref a0), (1, .int x1), (2, .int x2)]) hx hb dX10_text_49 rfl hl (by decide) rfl (fun ls9223 hl9224 => ?_)
          refine lv_aload_n hx hb dX10_text_50 rfl (lv_at hl9224 1 rfl) ?_
          refine lv_iload_n hx hb dX10_text_51 rfl (lv_at hl9224 2 rfl) ?_
          refine lv_iconst (v := 1) hx hb dX10_text_52 (by decide) ?_
          refine lv_icmp_ne (tgt := 60) hx hb dX10_text_53 (by decide) (fun c9225 => ?_) (fun c9225 => ?_)
          · have k9226 := i_ne c9225
            exfalso
            omega
          · have k9226 := i_eq c9225
            refine lv_iconst (v := 1) hx hb dX10_text_56 (by decide) ?_
            refine lv_goto (tgt := 61) hx hb dX10_text_57 (by decide) ?_
            exact J61 ls9223 H9191 locsH9214 (0) (1) (mn) (lv_sub hl9224 [1, 2, 3, 0] rfl) hTH9191 hSH9214 (by decide) (by decide) ⟨by have := i_rng mn; omega, by have := i_rng mn; omega⟩ m9202 m9196 m9197 m9198 m9199 m9200 m9201 g9192 g9193 g9194 g9195 (by omega)
        · have k9222 := i_ne c9221
          exfalso
          omega
  · have k9207 := i_eq c9206
    refine lv_aload_n hx hb dX10_text_19 rfl (lv_at hl 0 rfl) ?_
    refine lv_iload_n hx hb dX10_text_20 rfl (lv_at hl 2 rfl) ?_
    refine lv_iconst (v := 0) hx hb dX10_text_21 (by decide) ?_
    refine lv_iconst (v := 1) hx hb dX10_text_22 (by decide) ?_
    refine x_V (As := [.int x2, .int 0, .int 1]) (rest := []) C (c_X10_isIn l K G H9191 (x2) (0) (1) hTH9191 ga0) yo_X10_isIn wM_X10_177 ⟨⟨by decide, by decide⟩, by decide, by decide⟩ (x_rv C hTH9191 (ci := 10) rfl ga0 rg_112) rfl hl.1 rfl (Nat.le_of_ble_eq_true rfl) dX10_text_23 hSH9191 (AE_sub (fun _ _ => rfl) (by decide) hSH9191.1) (fun vH9227 H9227 locsH9227 pH9227 zH9227 kH9227 hSH9227 => ?_)
    have hqH9227 := pH9227.1.symm
    subst hqH9227
    rcases pH9227.2 with ⟨hvH9227, hcH9227⟩ | ⟨hvH9227, hcH9227⟩
    · subst hvH9227
      refine W.eq (g2 := F0 m 26 ls [.int 1]) rfl ?_
      refine lv_if_ne (tgt := 44) hx hb dX10_text_26 (by decide) (fun c9228 => ?_) (fun c9228 => ?_)
      · have k9229 := i_ne c9228
        refine lv_iconst (v := 1) hx hb dX10_text_44 (by decide) ?_
        refine lv_goto (tgt := 49) hx hb dX10_text_45 (by decide) ?_
        refine lv_istore_n (lv' := [(3, .int 1), (0, .ref a0), (1, .int x1), (2, .int x2)]) hx hb dX10_text_49 rfl hl (by decide) rfl (fun ls9230 hl9231 => ?_)
        refine lv_aload_n hx hb dX10_text_50 rfl (lv_at hl9231 1 rfl) ?_
        refine lv_iload_n hx hb dX10_text_51 rfl (lv_at hl9231 2 rfl) ?_
        refine lv_iconst (v := 1) hx hb dX10_text_52 (by decide) ?_
        refine lv_icmp_ne (tgt := 60) hx hb dX10_text_53 (by decide) (fun c9232 => ?_) (fun c9232 => ?_)
        · have k9233 := i_ne c9232
          refine lv_iconst (v := 0) hx hb dX10_text_60 (by decide) ?_
          exact J61 ls9230 H9191 locsH9227 (1) (0) (mn) (lv_sub hl9231 [1, 2, 3, 0] rfl) hTH9191 hSH9227 (by decide) (by decide) ⟨by have := i_rng mn; omega, by have := i_rng mn; omega⟩ m9202 m9196 m9197 m9198 m9199 m9200 m9201 g9192 g9193 g9194 g9195 (by omega)
        · have k9233 := i_eq c9232
          exfalso
          omega
      · have k9229 := i_eq c9228
        exfalso
        omega
    · subst hvH9227
      refine W.eq (g2 := F0 m 26 ls [.int 0]) rfl ?_
      refine lv_if_ne (tgt := 44) hx hb dX10_text_26 (by decide) (fun c9234 => ?_) (fun c9234 => ?_)
      · have k9235 := i_ne c9234
        exfalso
        omega
      · have k9235 := i_eq c9234
        refine lv_iload_n hx hb dX10_text_29 rfl (lv_at hl 1 rfl) ?_
        refine lv_iconst (v := 1) hx hb dX10_text_30 (by decide) ?_
        refine lv_icmp_ne (tgt := 48) hx hb dX10_text_31 (by decide) (fun c9236 => ?_) (fun c9236 => ?_)
        · have k9237 := i_ne c9236
          refine lv_iconst (v := 0) hx hb dX10_text_48 (by decide) ?_
          refine lv_istore_n (lv' := [(3, .int 0), (0, .ref a0), (1, .int x1), (2, .int x2)]) hx hb dX10_text_49 rfl hl (by decide) rfl (fun ls9238 hl9239 => ?_)
          refine lv_aload_n hx hb dX10_text_50 rfl (lv_at hl9239 1 rfl) ?_
          refine lv_iload_n hx hb dX10_text_51 rfl (lv_at hl9239 2 rfl) ?_
          refine lv_iconst (v := 1) hx hb dX10_text_52 (by decide) ?_
          refine lv_icmp_ne (tgt := 60) hx hb dX10_text_53 (by decide) (fun c9240 => ?_) (fun c9240 => ?_)
          · have k9241 := i_ne c9240
            refine lv_iconst (v := 0) hx hb dX10_text_60 (by decide) ?_
            exact J61 ls9238 H9191 locsH9227 (0) (0) (mn) (lv_sub hl9239 [1, 2, 3, 0] rfl) hTH9191 hSH9227 (by decide) (by decide) ⟨by have := i_rng mn; omega, by have := i_rng mn; omega⟩ m9202 m9196 m9197 m9198 m9199 m9200 m9201 g9192 g9193 g9194 g9195 (by omega)
          · have k9241 := i_eq c9240
            exfalso
            omega
        · have k9237 := i_eq c9236
          exfalso
          omega
