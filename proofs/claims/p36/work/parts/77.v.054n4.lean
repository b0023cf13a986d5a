set_option maxHeartbeats 4000000 in
set_option maxRecDepth 100000 in
theorem a_X10_settles_g (l : Launch) (K : KE) (G : Nat → Option Nat) (H : Heap) {a0 : Nat} (x1 : Int32) {oq : Nat} {aq : Nat} {pq : Nat} (m0 : Int32) (pn : Int32) (mn : Int32) (on : Int32) (jb : Int32) (t_ : CL) (f_ : EF) (hT : TY K G H) (ga0 : G a0 = some 112) (hx1 : 9 ≤ x1.toInt ∧ x1.toInt ≤ 11) (goq : G oq = some 136) (eoq : @Eq Ad oq (fR H a0 (K.1.2 10 32))) (gaq : G aq = some 137) (eaq : @Eq Ad aq (fR H a0 (K.1.2 10 33))) (gpq : G pq = some 138) (epq : @Eq Ad pq (fR H a0 (K.1.2 10 37))) (epn : pn = fI H a0 (K.1.2 10 38)) (emn : mn = fI H a0 (K.1.2 10 35)) (eon : on = fI H a0 (K.1.2 10 36)) (ejb : jb = fI H a0 (K.1.2 10 34)) (hg_CG : CG (avw K H a0)) (hg_TU : TU (avw K H a0) (svw K H a0)) (hg_WD : WD (avw K H a0)) (hg_IM : IM (avw K H a0)) (hb_wf : WF (fun k => fI H oq k) (fun k => fI H aq k) (3000 + m0.toNatClampNeg) (3000 + mn.toNatClampNeg) 0 (cB (fun j => fI H pq j) pn.toNatClampNeg + 1)) (hb_rs : RZ (1 - jb.toInt) (fun k => fI H oq k) (fun k => fI H aq k) (3000 + m0.toNatClampNeg) (3000 + mn.toNatClampNeg) (f_ :: opL t_)) (hp0 : mn.toInt + pn.toInt ≤ 500) (hp1 : 0 ≤ m0.toInt ∧ m0.toInt ≤ mn.toInt) (hy0 : PD (fun j => fI H pq j) pn.toNatClampNeg) (hy1 : ((cO (fun j => fI H pq j) pn.toNatClampNeg : Nat) : Int) ≤ on.toInt) (hy2 : CXP (fun j => fI H pq j) t_ pn.toNatClampNeg) (hy3 : CXO t_) (hy4 : B01 f_) : MX l K yX10_settles cX10_settles 2 none 1 22 0 0 [.ref a0, .int x1] H (AE G [112, 136, 137] H.size) (fun v H1 => ∃ (t0 : Int32) (t1 : Int32) (t2 : Int32), v = none ∧ t0 = fI H1 a0 (K.1.2 10 38) ∧ t1 = fI H1 a0 (K.1.2 10 35) ∧ t2 = fI H1 a0 (K.1.2 10 36) ∧ (t0.toInt ≤ pn.toInt ∧ t1.toInt + t0.toInt = mn.toInt + pn.toInt ∧ ((x1.toInt = 9 ∧ t2.toInt + pn.toInt = on.toInt + t0.toInt) ∨ (x1.toInt ≠ 9 ∧ t2.toInt = on.toInt))) ∧ @Eq Ad oq (fR H1 a0 (K.1.2 10 32)) ∧ @Eq Ad aq (fR H1 a0 (K.1.2 10 33)) ∧ @Eq Ad pq (fR H1 a0 (K.1.2 10 37)) ∧ (CG (avw K H1 a0)) ∧ (TU (avw K H1 a0) (svw K H1 a0)) ∧ (WD (avw K H1 a0)) ∧ (IM (avw K H1 a0)) ∧ MF K H H1 a0 [35, 36, 38] ∧ (∀ j : Nat, j < 3000 + mn.toNatClampNeg → fI H1 oq j = fI H oq j ∧ fI H1 aq j = fI H aq j) ∧ (((cO (fun j => fI H pq j) t0.toNatClampNeg : Nat) : Int) ≤ t2.toInt) ∧ (cK (fun j => fI H pq j) t0.toNatClampNeg = cK (fun j => fI H pq j) pn.toNatClampNeg) ∧ (t0.toInt = 0 ∨ (fI H pq (t0.toNatClampNeg - 1)).toInt ≠ x1.toInt) ∧ (WF (fun k => fI H1 oq k) (fun k => fI H1 aq k) (3000 + m0.toNatClampNeg) (3000 + t1.toNatClampNeg) 0 (cB (fun j => fI H pq j) t0.toNatClampNeg + 1)) ∧ (t0.toInt = pn.toInt ∨ (fI H pq t0.toNatClampNeg).toInt = x1.toInt) ∧ (((cO (fun j => fI H pq j) t0.toNatClampNeg : Nat) : Int) + on.toInt = ((cO (fun j => fI H pq j) pn.toNatClampNeg : Nat) : Int) + t2.toInt) ∧ (dN (mkL (fun j => fI H pq j) t0.toNatClampNeg) = dN (mkL (fun j => fI H pq j) pn.toNatClampNeg)) ∧ (∃ (t9 : CL) (f9 : EF), stL x1.toInt t_ f_ = (t9, f9) ∧ RZ (1 - jb.toInt) (fun k => fI H1 oq k) (fun k => fI H1 aq k) (3000 + m0.toNatClampNeg) (3000 + t1.toNatClampNeg) (f9 :: opL t9) ∧ CXP (fun j => fI H pq j) t9 t0.toNatClampNeg) ∧ TY K G H1) := by
  refine MX.of (by decide +kernel) (Nat.le_of_ble_eq_true rfl) ?_
  intro p e s m below meth c ls Q C hH hl hQ
  subst hH
  have C : CX p K s m _ meth c RX10 cX10_settles 2 none "settles" := C
  obtain ⟨hx, hb, hml, hown, hts, hKT, hr, hlocks, hnm⟩ := id C
  have hl : lv_has ls 2 [(0, .ref a0), (1, .int x1)] := hl
  have hS : va_S (AE G [112, 136, 137] s.heap.size) s.heap s.heap [] := va_S.rf
  have n_0 : (0 : Int32).toInt = 0 := rfl
  have n_1 : (1 : Int32).toInt = 1 := rfl
  have n_9 : (9 : Int32).toInt = 9 := rfl
  have bpn := ty_fi (x := pn) (k := 38) epn hT ga0 rg_112 rfl
  have bmn := ty_fi (x := mn) (k := 35) emn hT ga0 rg_112 rfl
  have bon := ty_fi (x := on) (k := 36) eon hT ga0 rg_112 rfl
  have bjb := ty_fi (x := jb) (k := 34) ejb hT ga0 rg_112 rfl
  have hap : ∀ x y, x < 74 → y < 74 → x ≠ y → K.1.2 10 x ≠ K.1.2 10 y := x_apart hKT hts inX10 tyX10 tyX10_ok nmX10 rfl
  have mf0 : MF K s.heap s.heap a0 [35, 36, 38] := fun _ _ _ => rfl
  have f0_pe : ∀ j : Nat, fI s.heap pq j = fI s.heap pq j := fun _ => rfl
  have J0 : ∀ (nf : Nat) (t1 : CL) (f1 : EF) (ls430 : Array Slot) (H429 : Heap) (locsH429 : List Loc) (x432 : Int32) (x433 : Int32) (x434 : Int32), lv_has ls430 2 [(0, .ref a0), (1, .int x1)] → TY K G H429 → va_S (AE G [112, 136, 137] s.heap.size) s.heap H429 locsH429 → (0 ≤ x432.toInt ∧ x432.toInt ≤ 40) → (0 ≤ x433.toInt ∧ x433.toInt ≤ 500) → (0 ≤ x434.toInt ∧ x434.toInt ≤ 8) → (x432 = fI H429 a0 (K.1.2 10 38)) → (x433 = fI H429 a0 (K.1.2 10 35)) → (x434 = fI H429 a0 (K.1.2 10 36)) → (@Eq Ad oq (fR H429 a0 (K.1.2 10 32))) → (@Eq Ad aq (fR H429 a0 (K.1.2 10 33))) → (@Eq Ad pq (fR H429 a0 (K.1.2 10 37))) → (jb = fI H429 a0 (K.1.2 10 34)) → (∀ j : Nat, j < 3000 + mn.toNatClampNeg → fI H429 oq j = fI s.heap oq j ∧ fI H429 aq j = fI s.heap aq j) → (WF (fun k => fI H429 oq k) (fun k => fI H429 aq k) (3000 + m0.toNatClampNeg) (3000 + x433.toNatClampNeg) 0 (cB (fun j => fI s.heap pq j) x432.toNatClampNeg + 1)) → (RZ (1 - jb.toInt) (fun k => fI H429 oq k) (fun k => fI H429 aq k) (3000 + m0.toNatClampNeg) (3000 + x433.toNatClampNeg) (f1 :: opL t1)) → (MF K s.heap H429 a0 [35, 36, 38]) → (CG (avw K H429 a0)) → (TU (avw K H429 a0) (svw K H429 a0)) → (WD (avw K H429 a0)) → (IM (avw K H429 a0)) → (∀ j : Nat, fI H429 pq j = fI s.heap pq j) → (x432.toInt < (nf : Int)) → (x432.toInt ≤ pn.toInt ∧ x433.toInt + x432.toInt = mn.toInt + pn.toInt ∧ ((x1.toInt = 9 ∧ x434.toInt + pn.toInt = on.toInt + x432.toInt) ∨ (x1.toInt ≠ 9 ∧ x434.toInt = on.toInt))) → (((cO (fun j => fI s.heap pq j) x432.toNatClampNeg : Nat) : Int) ≤ x434.toInt) → (cK (fun j => fI s.heap pq j) x432.toNatClampNeg = cK (fun j => fI s.heap pq j) pn.toNatClampNeg) → (x432.toInt = pn.toInt ∨ (fI s.heap pq x432.toNatClampNeg).toInt = x1.toInt) → (((cO (fun j => fI s.heap pq j) x432.toNatClampNeg : Nat) : Int) + on.toInt = ((cO (fun j => fI s.heap pq j) pn.toNatClampNeg : Nat) : Int) + x434.toInt) → (dN (mkL (fun j => fI s.heap pq j) x432.toNatClampNeg) = dN (mkL (fun j => fI s.heap pq j) pn.toNatClampNeg)) → (HD (CXP (fun j => fI s.heap pq j) t1 x432.toNatClampNeg)) → (HD (CXO t1 ∧ B01 f1)) → (stL x1.toInt t_ f_ = stL x1.toInt t1 f1) → W p l e ({ frames := 1, cells := 0, slots := 0, locals := 22 } : Room) s m (([.ref a0, .int x1] : List Value).toArray) below meth c H429 locsH429 0 0 Q (F0 m 0 ls430 []) := by
    intro nf
    induction nf with
    | zero =>
      intro t1 f1 ls430 H429 locsH429 x432 x433 x434 hl431 hTH429 hSH429 bx432 bx433 bx434 ex432 ex433 ex434 cy435_0 cy435_1 cy435_2 cy435_3 by435_pf by435_wf by435_rs mfy435 gy435_CG gy435_TU gy435_WD gy435_IM fy435_pe hm0 iv0 hJ1 hJ2 hJ3 hJ4 hJ5 hJ6 hJ7 hJ8
      exfalso
      omega
    | succ nf ih0 =>
      intro t1 f1 ls430 H429 locsH429 x432 x433 x434 hl431 hTH429 hSH429 bx432 bx433 bx434 ex432 ex433 ex434 cy435_0 cy435_1 cy435_2 cy435_3 by435_pf by435_wf by435_rs mfy435 gy435_CG gy435_TU gy435_WD gy435_IM fy435_pe hm0 iv0 hJ1 hJ2 hJ3 hJ4 hJ5 hJ6 hJ7 hJ8
      refine lv_aload_n hx hb dX10_settles_0 rfl (lv_at hl431 0 rfl) ?_
      refine x_gi C hTH429 (ci := 10) (k := 38) rfl inX10 (by decide) wF_X10_258 ga0 rg_112 rfl dX10_settles_1 (fun x436 ex436 bx436 => ?_)
      have ux436 : x432 = x436 := (ex432).trans ex436.symm
      subst ux436
      refine lv_if_le (tgt := 57) hx hb dX10_settles_4 (by decide) (fun c437 => ?_) (fun c437 => ?_)
      · have k438 := i_le c437
        have he_ : x432.toInt = 0 ∨ (fI s.heap pq (x432.toNatClampNeg - 1)).toInt ≠ x1.toInt := Or.inl (by omega)
        have cn_x432 := i_cl (x := x432) bx432.1
        have cn_mn := i_cl (x := mn) (by omega)
        have cn_m0 := i_cl (x := m0) (by omega)
        have hcx_ := stL_end (c := x1.toInt) (f := f1) (HD.get hJ6) (by rcases he_ with h | h; exact Or.inl (by omega); exact Or.inr h)
        have cq_x433 := i_cl (x := x433) bx433.1
        exact x_vret C hQ dX10_settles_57 hSH429 (by decide) (by decide) (⟨x432, x433, x434, rfl, ex432, ex433, ex434, by omega, cy435_0, cy435_1, cy435_2, gy435_CG, gy435_TU, gy435_WD, gy435_IM, mfy435, by435_pf, hJ1, hJ2, he_, (WF.castE by435_wf (by omega) (by omega) (by omega)), hJ3, hJ4, hJ5, ⟨t1, f1, hJ8.trans hcx_, RZ.cast by435_rs (by omega) (by omega) rfl, HD.get hJ6⟩, hTH429⟩)
      · have k438 := i_nle c437
        refine lv_aload_n hx hb dX10_settles_7 rfl (lv_at hl431 0 rfl) ?_
        refine x_gr C hTH429 (ci := 10) (k := 37) rfl inX10 (by decide) wF_X10_89 ga0 rg_112 rfl dX10_settles_8 (fun q439 eq439 gq439 => ?_)
        have uq439 : pq = q439 := (cy435_2).trans eq439.symm
        subst uq439
        refine lv_aload_n hx hb dX10_settles_11 rfl (lv_at hl431 0 rfl) ?_
        refine x_gi C hTH429 (ci := 10) (k := 38) rfl inX10 (by decide) wF_X10_258 ga0 rg_112 rfl dX10_settles_12 (fun x440 ex440 bx440 => ?_)
        have ux440 : x432 = x440 := (ex432).trans ex440.symm
        subst ux440
        refine lv_iconst (v := 1) hx hb dX10_settles_15 (by decide) ?_
        refine lv_isub hx hb dX10_settles_16 ?_
        refine lv_topi (fun x441 ex441 => ?_)
        have tx441 := i_sub ex441 (by omega)
        refine x_ai C hTH429 gpq rg_138 ⟨by omega, by show _ < ((40 : Nat) : Int); omega⟩ dX10_settles_17 (fun x442 ex442 bx442 => ?_)
        have hprx442 : x442.toInt = (fI s.heap pq x441.toNatClampNeg).toInt := by rw [ex442, fy435_pe]
        refine lv_iload_n hx hb dX10_settles_18 rfl (lv_at hl431 1 rfl) ?_
        refine lv_icmp_ne (tgt := 57) hx hb dX10_settles_19 (by decide) (fun c443 => ?_) (fun c443 => ?_)
        · have k444 := i_ne c443
          have cq_x432 := i_cl (x := x432) bx432.1
          have cq_x441 := i_cl (x := x441) (by omega)
          rw [show x441.toNatClampNeg = x432.toNatClampNeg - 1 by omega] at hprx442
          have he_ : x432.toInt = 0 ∨ (fI s.heap pq (x432.toNatClampNeg - 1)).toInt ≠ x1.toInt := Or.inr (by omega)
          have cn_x432 := i_cl (x := x432) bx432.1
          have cn_mn := i_cl (x := mn) (by omega)
          have cn_m0 := i_cl (x := m0) (by omega)
          have hcx_ := stL_end (c := x1.toInt) (f := f1) (HD.get hJ6) (by rcases he_ with h | h; exact Or.inl (by omega); exact Or.inr h)
          have cq_x433 := i_cl (x := x433) bx433.1
          exact x_vret C hQ dX10_settles_57 hSH429 (by decide) (by decide) (⟨x432, x433, x434, rfl, ex432, ex433, ex434, by omega, cy435_0, cy435_1, cy435_2, gy435_CG, gy435_TU, gy435_WD, gy435_IM, mfy435, by435_pf, hJ1, hJ2, he_, (WF.castE by435_wf (by omega) (by omega) (by omega)), hJ3, hJ4, hJ5, ⟨t1, f1, hJ8.trans hcx_, RZ.cast by435_rs (by omega) (by omega) rfl, HD.get hJ6⟩, hTH429⟩)
        · have k444 := i_eq c443
          refine lv_aload_n hx hb dX10_settles_22 rfl (lv_at hl431 0 rfl) ?_
          refine lv_aload_n hx hb dX10_settles_23 rfl (lv_at hl431 0 rfl) ?_
          refine x_gi C hTH429 (ci := 10) (k := 38) rfl inX10 (by decide) wF_X10_258 ga0 rg_112 rfl dX10_settles_24 (fun x445 ex445 bx445 => ?_)
          have ux445 : x432 = x445 := (ex432).trans ex445.symm
          subst ux445
          refine lv_iconst (v := 1) hx hb dX10_settles_27 (by decide) ?_
          refine lv_isub hx hb dX10_settles_28 ?_
          refine lv_topi (fun x446 ex446 => ?_)
          have tx446 := i_sub ex446 (by omega)
          refine x_put C hTH429 hSH429 (ci := 10) (k := 38) (v := .int x446) (ty0 := tyX10) rfl inX10 tyX10_ok nmX10 (by decide) rfl wF_X10_258 ga0 rg_112 rfl rfl (okI (by omega) (by omega)) rfl rfl (AE_in ga0 (by decide)) dX10_settles_29 (fun H447 locsH447 hTH447 hSH447 wH447 => ?_)
          have mf448 : MF K s.heap H447 a0 [35, 36, 38] := MF.fld hap wH447 (by decide) (by decide) mfy435
          have g449 : CG (avw K H447 a0) := CG.congr (fun k hk j => av_fld hTH429 ga0 hap wH447 (by decide) (CG_ok 112 (by decide) k hk) (CG_ne 38 (by decide) k hk)) gy435_CG
          have g450 : TU (avw K H447 a0) (svw K H447 a0) := TU.congr (fun k hk j => av_fld hTH429 ga0 hap wH447 (by decide) (TU_ok 112 (by decide) k hk) (TU_ne 38 (by decide) k hk)) (fun k hk => sv_fld hap wH447 (by decide) (TU_slt k hk) (TU_sne 38 (by decide) k hk)) gy435_TU
          have g451 : WD (avw K H447 a0) := WD.congr (fun k hk j => av_fld hTH429 ga0 hap wH447 (by decide) (WD_ok 112 (by decide) k hk) (WD_ne 38 (by decide) k hk)) gy435_WD
          have g452 : IM (avw K H447 a0) := IM.congr (fun k hk j => av_fld hTH429 ga0 hap wH447 (by decide) (IM_ok 112 (by decide) k hk) (IM_ne 38 (by decide) k hk)) gy435_IM
          have b453 : ∀ j : Nat, j < 3000 + mn.toNatClampNeg → fI H447 oq j = fI s.heap oq j ∧ fI H447 aq j = fI s.heap aq j := fun j hj => ⟨(Wr.neI wH447 (Or.inl (G_ne goq ga0 (by decide)))).trans (by435_pf j hj).1, (Wr.neI wH447 (Or.inl (G_ne gaq ga0 (by decide)))).trans (by435_pf j hj).2⟩
          have b454 : WF (fun k => fI H447 oq k) (fun k => fI H447 aq k) (3000 + m0.toNatClampNeg) (3000 + x433.toNatClampNeg) 0 (cB (fun j => fI s.heap pq j) x432.toNatClampNeg + 1) := WF.congr (fun j => Wr.neI wH447 (Or.inl (G_ne goq ga0 (by decide)))) (fun j => Wr.neI wH447 (Or.inl (G_ne gaq ga0 (by decide)))) by435_wf
          have b455 : RZ (1 - jb.toInt) (fun k => fI H447 oq k) (fun k => fI H447 aq k) (3000 + m0.toNatClampNeg) (3000 + x433.toNatClampNeg) (f1 :: opL t1) := RZ.congr (fun j => Wr.neI wH447 (Or.inl (G_ne goq ga0 (by decide)))) (fun j => Wr.neI wH447 (Or.inl (G_ne gaq ga0 (by decide)))) by435_rs
          have f456 : ∀ j : Nat, fI H447 pq j = fI s.heap pq j := fun j => (Wr.neI wH447 (Or.inl (G_ne gpq ga0 (by decide)))).trans (fy435_pe j)
          have m458 := ex433.trans (Wr.neI wH447 (Or.inr (x_apart hKT hts inX10 tyX10 tyX10_ok nmX10 rfl 35 38 (by decide) (by decide) (by decide)))).symm
          have m459 := ex434.trans (Wr.neI wH447 (Or.inr (x_apart hKT hts inX10 tyX10 tyX10_ok nmX10 rfl 36 38 (by decide) (by decide) (by decide)))).symm
          have m460 := cy435_0.trans (Wr.neR wH447 (Or.inr (x_apart hKT hts inX10 tyX10 tyX10_ok nmX10 rfl 32 38 (by decide) (by decide) (by decide)))).symm
          have m461 := cy435_1.trans (Wr.neR wH447 (Or.inr (x_apart hKT hts inX10 tyX10 tyX10_ok nmX10 rfl 33 38 (by decide) (by decide) (by decide)))).symm
          have m462 := cy435_2.trans (Wr.neR wH447 (Or.inr (x_apart hKT hts inX10 tyX10 tyX10_ok nmX10 rfl 37 38 (by decide) (by decide) (by decide)))).symm
          have m463 := cy435_3.trans (Wr.neI wH447 (Or.inr (x_apart hKT hts inX10 tyX10 tyX10_ok nmX10 rfl 34 38 (by decide) (by decide) (by decide)))).symm
          have m464 := ex442.trans (Wr.neI wH447 (Or.inl (G_ne gpq ga0 (by decide)))).symm
          have m465 := Wr.I wH447
          have m465 := m465.symm
          refine lv_aload_n hx hb dX10_settles_32 rfl (lv_at hl431 0 rfl) ?_
          refine lv_iload_n hx hb dX10_settles_33 rfl (lv_at hl431 1 rfl) ?_
          refine lv_iconst (v := 0) hx hb dX10_settles_34 (by decide) ?_
          refine x_V (As := [.int x1, .int 0]) (rest := []) C (a_X10_emits l K G H447 (x1) (0) (x433) hTH447 ga0 goq m460 gaq m461 m458 g449 g450 g451 g452 (by omega)) yo_X10_emits wM_X10_238 ⟨⟨by decide, by decide⟩, by decide, by decide⟩ (x_rv C hTH447 (ci := 10) rfl ga0 rg_112) rfl hl431.1 rfl (Nat.le_of_ble_eq_true rfl) dX10_settles_35 hSH447 (AE_sub (fun _ _ => rfl) (by decide) hSH447.1) (fun vH466 H466 locsH466 pH466 zH466 kH466 hSH466 => ?_)
          obtain ⟨x467, hvH466, ex467, hrH466, m468, m469, g470, g471, g472, g473, mf474, m475, m476, m477, m478, hTH466⟩ := pH466
          subst hvH466
          have f479 : ∀ j : Nat, fI H466 pq j = fI s.heap pq j := fun j => (fI_kept (x_lt hTH447 kH466 gpq (by decide))).trans (f456 j)
          have m480 := (m464).trans (fI_kept (x_lt hTH447 kH466 gpq (by decide))).symm
          have m481 := (m459).trans (MF.i mf474 (k := 36) (by decide) (by decide)).symm
          have m482 := (m460).trans (MF.r mf474 (k := 32) (by decide) (by decide)).symm
          have m483 := (m461).trans (MF.r mf474 (k := 33) (by decide) (by decide)).symm
          have m484 := (m462).trans (MF.r mf474 (k := 37) (by decide) (by decide)).symm
          have m485 := (m463).trans (MF.i mf474 (k := 34) (by decide) (by decide)).symm
          have m486 := (m465).trans (MF.i mf474 (k := 38) (by decide) (by decide)).symm
          have mf487 : MF K s.heap H466 a0 [35, 36, 38] := MF.trans mf448 mf474 (by decide)
          have bx467 := ty_fi (x := x467) (k := 35) ex467 hTH466 ga0 rg_112 rfl
          have cem478 := i_cl (x := x433) bx433.1
          have ce_mn := i_cl (x := mn) (by omega)
          have b488 : ∀ j : Nat, j < 3000 + mn.toNatClampNeg → fI H466 oq j = fI s.heap oq j ∧ fI H466 aq j = fI s.heap aq j := fun j hj => ⟨(m477 j (by omega)).trans (b453 j hj).1, (m478 j (by omega)).trans (b453 j hj).2⟩
          have ce_m0 := i_cl (x := m0) (by omega)
          have ce_x432 := i_cl (x := x432) bx432.1
          have b489 : WF (fun k => fI H466 oq k) (fun k => fI H466 aq k) (3000 + m0.toNatClampNeg) (3000 + x433.toNatClampNeg) 0 (cB (fun j => fI s.heap pq j) x432.toNatClampNeg + 1) := WF.keep b454 (fun j hj => m477 j (by omega)) (fun j hj => m478 j (by omega))
          have b490 : RZ (1 - jb.toInt) (fun k => fI H466 oq k) (fun k => fI H466 aq k) (3000 + m0.toNatClampNeg) (3000 + x433.toNatClampNeg) (f1 :: opL t1) := RZ.keep b455 (fun j hj => m477 j (by omega)) (fun j hj => m478 j (by omega))
          refine W.eq (g2 := F0 m 38 ls430 []) rfl ?_
          have ho := congrArg Int32.toInt m475
          have cz_x441 := i_cl (x := x441) (by omega)
          have cz_x446 := i_cl (x := x446) (by omega)
          have hst := c_step (f := (fun j => fI s.heap pq j)) (n := x446.toNatClampNeg) (m := x432.toNatClampNeg) (by omega)
          rw [show x441.toNatClampNeg = x446.toNatClampNeg by omega] at hprx442
          have wn : WF (fun k => fI H466 oq k) (fun k => fI H466 aq k) (3000 + m0.toNatClampNeg) (3000 + x433.toNatClampNeg + 1) 0 (cB (fun j => fI s.heap pq j) x446.toNatClampNeg + 1) := WF.stp b489 (by omega) (by show ((fI _ oq _).toInt = 9 ∧ _) ∨ (2 ≤ (fI _ oq _).toInt ∧ (fI _ oq _).toInt ≤ 11 ∧ (fI _ oq _).toInt ≠ 9 ∧ _ ∧ _ ∧ ((fI _ oq _).toInt ≠ 5 ∨ _)); omega)
          have hc9 : x1.toInt = 9 ∨ x1.toInt = 10 ∨ x1.toInt = 11 := by omega
          obtain ⟨d9, g9, t9, ht9, hd9, hx9⟩ := CXP.top (m := x446.toNatClampNeg) (HD.get hJ6) (by omega)
          have hd9c : d9 = x1.toInt := by rw [← hd9]; show (fI _ pq _).toInt = _; omega
          have rsn : RZ (1 - jb.toInt) (fun k => fI H466 oq k) (fun k => fI H466 aq k) (3000 + m0.toNatClampNeg) (3000 + x433.toNatClampNeg + 1) (opE x1.toInt g9 f1 :: opL t9) := RZ.stl b490 ht9 hd9c hc9 (HD.get hJ7).1 (HD.get hJ7).2 (by omega) (by show (fI _ oq _).toInt = _; omega)
          refine lv_iload_n hx hb dX10_settles_38 rfl (lv_at hl431 1 rfl) ?_
          refine lv_bipush (v := 9) hx hb dX10_settles_39 (by decide) ?_
          refine lv_icmp_ne (tgt := 0) hx hb dX10_settles_41 (by decide) (fun c491 => ?_) (fun c491 => ?_)
          · have k492 := i_ne c491
            have cl_x467 := i_cl (x := x467) bx467.1
            exact ih0  t9 (opE x1.toInt g9 f1) ls430 H466 locsH466 (x446) (x467) (x434) (lv_sub hl431 [0, 1] rfl) hTH466 hSH466 (by have := i_rng x446; omega) bx467 bx434 m486 ex467 m481 m468 m469 m484 m485 b488 (WF.castE wn (by omega) (by omega) (by omega)) (RZ.cast rsn (by omega) (by omega) rfl) mf487 g470 g471 g472 g473 f479 (by omega) (by omega) (by omega) (by omega) (by omega) (by omega) ((dN_step (f := (fun j => fI s.heap pq j)) (n := x446.toNatClampNeg) (m := x432.toNatClampNeg) (by omega) (by show (fI _ pq _).toInt ≠ 12; omega)).symm.trans hJ5) (HD.mk hx9) (HD.mk ⟨(HD.get hJ7).1.tl ht9, opE_01 hc9 ((HD.get hJ7).1.g ht9 hd9c hc9) (HD.get hJ7).2⟩) (hJ8.trans (stL_y ht9 hd9c))
          · have k492 := i_eq c491
            refine lv_aload_n hx hb dX10_settles_44 rfl (lv_at hl431 0 rfl) ?_
            refine lv_aload_n hx hb dX10_settles_45 rfl (lv_at hl431 0 rfl) ?_
            refine x_gi C hTH466 (ci := 10) (k := 36) rfl inX10 (by decide) wF_X10_261 ga0 rg_112 rfl dX10_settles_46 (fun x493 ex493 bx493 => ?_)
            have ux493 : x434 = x493 := (m481).trans ex493.symm
            subst ux493
            refine lv_iconst (v := 1) hx hb dX10_settles_49 (by decide) ?_
            refine lv_isub hx hb dX10_settles_50 ?_
            refine lv_topi (fun x494 ex494 => ?_)
            have tx494 := i_sub ex494 (by omega)
            have fz496 : 0 ≤ x494.toInt ∧ x494.toInt ≤ 8 := by have := i_rng x494; omega
            refine x_put C hTH466 hSH466 (ci := 10) (k := 36) (v := .int x494) (ty0 := tyX10) rfl inX10 tyX10_ok nmX10 (by decide) rfl wF_X10_261 ga0 rg_112 rfl rfl (okI fz496.1 fz496.2) rfl rfl (AE_in ga0 (by decide)) dX10_settles_51 (fun H495 locsH495 hTH495 hSH495 wH495 => ?_)
            clear f456 m458 m459 m460 m461 m462 m463 m464 m465
            have mf497 : MF K s.heap H495 a0 [35, 36, 38] := MF.fld hap wH495 (by decide) (by decide) mf487
            have g498 : CG (avw K H495 a0) := CG.congr (fun k hk j => av_fld hTH466 ga0 hap wH495 (by decide) (CG_ok 112 (by decide) k hk) (CG_ne 36 (by decide) k hk)) g470
            have g499 : TU (avw K H495 a0) (svw K H495 a0) := TU.congr (fun k hk j => av_fld hTH466 ga0 hap wH495 (by decide) (TU_ok 112 (by decide) k hk) (TU_ne 36 (by decide) k hk)) (fun k hk => sv_fld hap wH495 (by decide) (TU_slt k hk) (TU_sne 36 (by decide) k hk)) g471
            have g500 : WD (avw K H495 a0) := WD.congr (fun k hk j => av_fld hTH466 ga0 hap wH495 (by decide) (WD_ok 112 (by decide) k hk) (WD_ne 36 (by decide) k hk)) g472
            have g501 : IM (avw K H495 a0) := IM.congr (fun k hk j => av_fld hTH466 ga0 hap wH495 (by decide) (IM_ok 112 (by decide) k hk) (IM_ne 36 (by decide) k hk)) g473
            have b502 : ∀ j : Nat, j < 3000 + mn.toNatClampNeg → fI H495 oq j = fI s.heap oq j ∧ fI H495 aq j = fI s.heap aq j := fun j hj => ⟨(Wr.neI wH495 (Or.inl (G_ne goq ga0 (by decide)))).trans (b488 j hj).1, (Wr.neI wH495 (Or.inl (G_ne gaq ga0 (by decide)))).trans (b488 j hj).2⟩
            have b503 : WF (fun k => fI H495 oq k) (fun k => fI H495 aq k) (3000 + m0.toNatClampNeg) (3000 + x433.toNatClampNeg + 1) 0 (cB (fun j => fI s.heap pq j) x446.toNatClampNeg + 1) := WF.congr (fun j => Wr.neI wH495 (Or.inl (G_ne goq ga0 (by decide)))) (fun j => Wr.neI wH495 (Or.inl (G_ne gaq ga0 (by decide)))) wn
            have b504 : RZ (1 - jb.toInt) (fun k => fI H495 oq k) (fun k => fI H495 aq k) (3000 + m0.toNatClampNeg) (3000 + x433.toNatClampNeg + 1) (opE x1.toInt g9 f1 :: opL t9) := RZ.congr (fun j => Wr.neI wH495 (Or.inl (G_ne goq ga0 (by decide)))) (fun j => Wr.neI wH495 (Or.inl (G_ne gaq ga0 (by decide)))) rsn
            have f505 : ∀ j : Nat, fI H495 pq j = fI s.heap pq j := fun j => (Wr.neI wH495 (Or.inl (G_ne gpq ga0 (by decide)))).trans (f479 j)
            have m506 := m480.trans (Wr.neI wH495 (Or.inl (G_ne gpq ga0 (by decide)))).symm
            have m508 := m468.trans (Wr.neR wH495 (Or.inr (x_apart hKT hts inX10 tyX10 tyX10_ok nmX10 rfl 32 36 (by decide) (by decide) (by decide)))).symm
            have m509 := m469.trans (Wr.neR wH495 (Or.inr (x_apart hKT hts inX10 tyX10 tyX10_ok nmX10 rfl 33 36 (by decide) (by decide) (by decide)))).symm
            have m510 := m484.trans (Wr.neR wH495 (Or.inr (x_apart hKT hts inX10 tyX10 tyX10_ok nmX10 rfl 37 36 (by decide) (by decide) (by decide)))).symm
            have m511 := m485.trans (Wr.neI wH495 (Or.inr (x_apart hKT hts inX10 tyX10 tyX10_ok nmX10 rfl 34 36 (by decide) (by decide) (by decide)))).symm
            have m512 := m486.trans (Wr.neI wH495 (Or.inr (x_apart hKT hts inX10 tyX10 tyX10_ok nmX10 rfl 38 36 (by decide) (by decide) (by decide)))).symm
            have m513 := ex467.trans (Wr.neI wH495 (Or.inr (x_apart hKT hts inX10 tyX10 tyX10_ok nmX10 rfl 35 36 (by decide) (by decide) (by decide)))).symm
            have m514 := Wr.I wH495
            have m514 := m514.symm
            refine lv_goto (tgt := 0) hx hb dX10_settles_54 (by decide) ?_
            have cl_x467 := i_cl (x := x467) bx467.1
            exact ih0  t9 (opE x1.toInt g9 f1) ls430 H495 locsH495 (x446) (x467) (x494) (lv_sub hl431 [0, 1] rfl) hTH495 hSH495 (by have := i_rng x446; omega) bx467 (by have := i_rng x494; omega) m512 m513 m514 m508 m509 m510 m511 b502 (WF.castE b503 (by omega) (by omega) (by omega)) (RZ.cast b504 (by omega) (by omega) rfl) mf497 g498 g499 g500 g501 f505 (by omega) (by omega) (by omega) (by omega) (by omega) (by omega) ((dN_step (f := (fun j => fI s.heap pq j)) (n := x446.toNatClampNeg) (m := x432.toNatClampNeg) (by omega) (by show (fI _ pq _).toInt ≠ 12; omega)).symm.trans hJ5) (HD.mk hx9) (HD.mk ⟨(HD.get hJ7).1.tl ht9, opE_01 hc9 ((HD.get hJ7).1.g ht9 hd9c hc9) (HD.get hJ7).2⟩) (hJ8.trans (stL_y ht9 hd9c))
  have pf00 : ∀ j : Nat, j < 3000 + mn.toNatClampNeg → fI s.heap oq j = fI s.heap oq j ∧ fI s.heap aq j = fI s.heap aq j := fun _ _ => ⟨rfl, rfl⟩
  have hmn := i_cl (x := mn) (by omega)
  have cl_mn := hmn
  have cl_m0 := i_cl (x := m0) (by omega)
  have cl_mn := hmn
  have cl_pn := i_cl (x := pn) (by omega)
  have cl_mn := hmn
  exact J0 ((pn.toInt).toNat + 1)  t_ f_ ls s.heap [] (pn) (mn) (on) (lv_sub hl [0, 1] rfl) hT hS (by have := i_rng pn; omega) (by have := i_rng mn; omega) (by have := i_rng on; omega) epn emn eon eoq eaq epq ejb pf00 (WF.castE hb_wf (by omega) (by omega) (by omega)) (RZ.cast hb_rs (by omega) (by omega) rfl) mf0 hg_CG hg_TU hg_WD hg_IM f0_pe (by omega) (by omega) hy1 rfl (Or.inl rfl) rfl rfl (HD.mk hy2) (HD.mk ⟨hy3, hy4⟩) rfl
