theorem cpB {K : KE} {H1 H : Heap} {d s : Nat} (f0 : fI H1 d (K.1.2 0 0) = fI H s (K.1.2 0 0)) (f8 : fI H1 d (K.1.2 0 8) = fI H s (K.1.2 0 8)) (f9 : fI H1 d (K.1.2 0 9) = fI H s (K.1.2 0 9)) (r : ∀ k, 1 ≤ k → k ≤ 7 → ∀ j, j < wdV k → fI H1 (fR H1 d (K.1.2 0 k)) j = fI H (fR H s (K.1.2 0 k)) j) : EqV (vwC K H1 d) (vwC K H s) := by
  intro k j hj
  unfold vwC
  by_cases c : k = 0 ∨ k = 8 ∨ k = 9
  · rw [if_pos c, if_pos c]
    have : j = 0 := by unfold wdV at hj; rw [if_neg (by omega), if_neg (by omega), if_neg (by omega), if_pos c] at hj; omega
    subst this
    rw [if_pos rfl, if_pos rfl]
    rcases c with rfl | rfl | rfl
    · rw [f0]
    · rw [f8]
    · rw [f9]
  · rw [if_neg c, if_neg c]
    by_cases c1 : 1 ≤ k ∧ k ≤ 7
    · rw [if_pos c1, if_pos c1, r k c1.1 c1.2 j hj]
    · rw [if_neg c1, if_neg c1]
/-- a bar of either world: later heaps -/
theorem vw_eq {K : KE} {H1 H : Heap} {q : Nat} (e : H1[q]? = H[q]?) (r : ∀ k, 1 ≤ k → k ≤ 7 → H1[fR H q (K.1.2 0 k)]? = H[fR H q (K.1.2 0 k)]?) : vwC K H1 q = vwC K H q := by
  funext k j
  unfold vwC
  rw [fI_kept e]
  by_cases c : k = 0 ∨ k = 8 ∨ k = 9
  · rw [if_pos c, if_pos c]
  · rw [if_neg c, if_neg c]
    by_cases c1 : 1 ≤ k ∧ k ≤ 7
    · rw [if_pos c1, if_pos c1, fR_kept e, fI_kept (r k c1.1 c1.2)]
    · rw [if_neg c1, if_neg c1]
set_option maxHeartbeats 4000000 in
set_option maxRecDepth 100000 in
theorem a_X0_copyFrom_gk (l : Launch) (K : KE) (G : Nat → Option Nat) (H : Heap) {a0 : Nat} {a1 : Nat} {kp : Nat} {gp : Nat} {hp : Nat} {xp : Nat} {lp : Nat} {ap : Nat} {dp : Nat} {tp : Nat} {ip : Nat} {Kp : Nat} {Xp : Nat} {bp : Nat} {ku : Nat} {gu : Nat} {hu : Nat} {xu : Nat} {lu : Nat} {au : Nat} {du : Nat} {tu : Nat} {iu : Nat} {Ku : Nat} {Xu : Nat} {bu : Nat} (sz : Int32) (pc : Int32) (lb : Int32) (szu : Int32) (pcu : Int32) (lbu : Int32) (hT : TY K G H) (ga0 : G a0 = some 35) (ga1 : G a1 = some 1) (gkp : G kp = some 36) (ekp : @Eq Ad kp (fR H a0 (K.1.2 0 1))) (ggp : G gp = some 37) (egp : @Eq Ad gp (fR H a0 (K.1.2 0 2))) (ghp : G hp = some 38) (ehp : @Eq Ad hp (fR H a0 (K.1.2 0 3))) (gxp : G xp = some 39) (exp : @Eq Ad xp (fR H a0 (K.1.2 0 4))) (glp : G lp = some 40) (elp : @Eq Ad lp (fR H a0 (K.1.2 0 5))) (gap : G ap = some 41) (eap : @Eq Ad ap (fR H a0 (K.1.2 0 6))) (gdp : G dp = some 42) (edp : @Eq Ad dp (fR H a0 (K.1.2 0 7))) (gtp : G tp = some 43) (etp : @Eq Ad tp (fR H a0 (K.1.2 0 10))) (gip : G ip = some 44) (eip : @Eq Ad ip (fR H a0 (K.1.2 0 11))) (gKp : G Kp = some 45) (eKp : @Eq Ad Kp (fR H a0 (K.1.2 0 12))) (gXp : G Xp = some 47) (eXp : @Eq Ad Xp (fR H a0 (K.1.2 0 13))) (gbp : G bp = some 49) (ebp : @Eq Ad bp (fR H a0 (K.1.2 0 17))) (gku : G ku = some 2) (eku : @Eq Ad ku (fR H a1 (K.1.2 0 1))) (ggu : G gu = some 3) (egu : @Eq Ad gu (fR H a1 (K.1.2 0 2))) (ghu : G hu = some 4) (ehu : @Eq Ad hu (fR H a1 (K.1.2 0 3))) (gxu : G xu = some 5) (exu : @Eq Ad xu (fR H a1 (K.1.2 0 4))) (glu : G lu = some 6) (elu : @Eq Ad lu (fR H a1 (K.1.2 0 5))) (gau : G au = some 7) (eau : @Eq Ad au (fR H a1 (K.1.2 0 6))) (gdu : G du = some 8) (edu : @Eq Ad du (fR H a1 (K.1.2 0 7))) (gtu : G tu = some 9) (etu : @Eq Ad tu (fR H a1 (K.1.2 0 10))) (giu : G iu = some 10) (eiu : @Eq Ad iu (fR H a1 (K.1.2 0 11))) (gKu : G Ku = some 11) (eKu : @Eq Ad Ku (fR H a1 (K.1.2 0 12))) (gXu : G Xu = some 13) (eXu : @Eq Ad Xu (fR H a1 (K.1.2 0 13))) (gbu : G bu = some 15) (ebu : @Eq Ad bu (fR H a1 (K.1.2 0 17))) (esz : sz = fI H a0 (K.1.2 0 0)) (epc : pc = fI H a0 (K.1.2 0 8)) (elb : lb = fI H a0 (K.1.2 0 9)) (eszu : szu = fI H a1 (K.1.2 0 0)) (epcu : pcu = fI H a1 (K.1.2 0 8)) (elbu : lbu = fI H a1 (K.1.2 0 9)) : MX l K yX0_copyFrom cX0_copyFrom 3 none 1 40 0 0 [.ref a0, .ref a1] H (AE G [35, 36, 37, 38, 39, 40, 41, 42, 43, 44, 49, 46, 48] H.size) (fun v H1 => ∃ (t0 : Int32) (t1 : Int32) (t2 : Int32), v = none ∧ t0 = fI H1 a0 (K.1.2 0 0) ∧ t1 = fI H1 a0 (K.1.2 0 8) ∧ t2 = fI H1 a0 (K.1.2 0 9) ∧ @Eq Ad kp (fR H1 a0 (K.1.2 0 1)) ∧ @Eq Ad gp (fR H1 a0 (K.1.2 0 2)) ∧ @Eq Ad hp (fR H1 a0 (K.1.2 0 3)) ∧ @Eq Ad xp (fR H1 a0 (K.1.2 0 4)) ∧ @Eq Ad lp (fR H1 a0 (K.1.2 0 5)) ∧ @Eq Ad ap (fR H1 a0 (K.1.2 0 6)) ∧ @Eq Ad dp (fR H1 a0 (K.1.2 0 7)) ∧ @Eq Ad tp (fR H1 a0 (K.1.2 0 10)) ∧ @Eq Ad ip (fR H1 a0 (K.1.2 0 11)) ∧ @Eq Ad Kp (fR H1 a0 (K.1.2 0 12)) ∧ @Eq Ad Xp (fR H1 a0 (K.1.2 0 13)) ∧ @Eq Ad bp (fR H1 a0 (K.1.2 0 17)) ∧ (EqV (vwC K H1 a0) (vwC K H a1)) ∧ (∀ q t : Nat, G q = some t → t ≠ 46 → t ≠ 48 → q ≠ a0 → q ≠ kp → q ≠ gp → q ≠ hp → q ≠ xp → q ≠ lp → q ≠ ap → q ≠ dp → q ≠ tp → q ≠ ip → q ≠ bp → H1[q]? = H[q]?) ∧ (RFB K H1 H a0) ∧ TY K G H1) := by
  refine MX.of (by decide +kernel) (Nat.le_of_ble_eq_true rfl) ?_
  intro p e s m below meth c ls Q C hH hl hQ
  subst hH
  have C : CX p K s m _ meth c RX0 cX0_copyFrom 3 none "copyFrom" := C
  obtain ⟨hx, hb, hml, hown, hts, hKT, hr, hlocks, hnm⟩ := id C
  have hl : lv_has ls 3 [(0, .ref a0), (1, .ref a1)] := hl
  have hS : va_S (AE G [35, 36, 37, 38, 39, 40, 41, 42, 43, 44, 49, 46, 48] s.heap.size) s.heap s.heap [] := va_S.rf
  have n_0 : (0 : Int32).toInt = 0 := rfl
  have n_1 : (1 : Int32).toInt = 1 := rfl
  have n_2 : (2 : Int32).toInt = 2 := rfl
  have n_3 : (3 : Int32).toInt = 3 := rfl
  have n_12 : (12 : Int32).toInt = 12 := rfl
  have n_16 : (16 : Int32).toInt = 16 := rfl
  have n_200 : (200 : Int32).toInt = 200 := rfl
  have bsz := ty_fi (x := sz) (k := 0) esz hT ga0 rg_35 rfl
  have bpc := ty_fi (x := pc) (k := 8) epc hT ga0 rg_35 rfl
  have blb := ty_fi (x := lb) (k := 9) elb hT ga0 rg_35 rfl
  have bszu := ty_fi (x := szu) (k := 0) eszu hT ga1 rg_1 rfl
  have bpcu := ty_fi (x := pcu) (k := 8) epcu hT ga1 rg_1 rfl
  have blbu := ty_fi (x := lbu) (k := 9) elbu hT ga1 rg_1 rfl
  have hapB : ∀ x y, x < 18 → y < 18 → x ≠ y → K.1.2 0 x ≠ K.1.2 0 y := x_apart hKT hts inX0 tyX0 tyX0_ok nmX0 rfl
  have f0_fx : ∀ q t : Nat, G q = some t → t ≠ 46 → t ≠ 48 → q ≠ a0 → q ≠ kp → q ≠ gp → q ≠ hp → q ≠ xp → q ≠ lp → q ≠ ap → q ≠ dp → q ≠ tp → q ≠ ip → q ≠ bp → s.heap[q]? = s.heap[q]? := fun _ _ _ _ _ _ _ _ _ _ _ _ _ _ _ _ => rfl
  have f0_rb : RFB K s.heap s.heap a0 := RFB.rf
  have J162 : ∀ (nf : Nat)  (ls3572 : Array Slot) (H3571 : Heap) (locsH3571 : List Loc) (x3574 : Int32) (x3575 : Int32) (x3576 : Int32) (x3577 : Int32), lv_has ls3572 3 [(0, .ref a0), (1, .ref a1), (2, .int x3574)] → TY K G H3571 → va_S (AE G [35, 36, 37, 38, 39, 40, 41, 42, 43, 44, 49, 46, 48] s.heap.size) s.heap H3571 locsH3571 → (0 ≤ x3574.toInt ∧ x3574.toInt ≤ 12) → (0 ≤ x3575.toInt ∧ x3575.toInt ≤ 16) → (0 ≤ x3576.toInt ∧ x3576.toInt ≤ 200) → (x3575 = fI H3571 a0 (K.1.2 0 0)) → (x3576 = fI H3571 a0 (K.1.2 0 8)) → (x3577 = fI H3571 a0 (K.1.2 0 9)) → (@Eq Ad kp (fR H3571 a0 (K.1.2 0 1))) → (@Eq Ad gp (fR H3571 a0 (K.1.2 0 2))) → (@Eq Ad hp (fR H3571 a0 (K.1.2 0 3))) → (@Eq Ad xp (fR H3571 a0 (K.1.2 0 4))) → (@Eq Ad lp (fR H3571 a0 (K.1.2 0 5))) → (@Eq Ad ap (fR H3571 a0 (K.1.2 0 6))) → (@Eq Ad dp (fR H3571 a0 (K.1.2 0 7))) → (@Eq Ad tp (fR H3571 a0 (K.1.2 0 10))) → (@Eq Ad ip (fR H3571 a0 (K.1.2 0 11))) → (@Eq Ad Kp (fR H3571 a0 (K.1.2 0 12))) → (@Eq Ad Xp (fR H3571 a0 (K.1.2 0 13))) → (@Eq Ad bp (fR H3571 a0 (K.1.2 0 17))) → (@Eq Ad ku (fR H3571 a1 (K.1.2 0 1))) → (@Eq Ad gu (fR H3571 a1 (K.1.2 0 2))) → (@Eq Ad hu (fR H3571 a1 (K.1.2 0 3))) → (@Eq Ad xu (fR H3571 a1 (K.1.2 0 4))) → (@Eq Ad lu (fR H3571 a1 (K.1.2 0 5))) → (@Eq Ad au (fR H3571 a1 (K.1.2 0 6))) → (@Eq Ad du (fR H3571 a1 (K.1.2 0 7))) → (@Eq Ad tu (fR H3571 a1 (K.1.2 0 10))) → (@Eq Ad iu (fR H3571 a1 (K.1.2 0 11))) → (@Eq Ad Ku (fR H3571 a1 (K.1.2 0 12))) → (@Eq Ad Xu (fR H3571 a1 (K.1.2 0 13))) → (@Eq Ad bu (fR H3571 a1 (K.1.2 0 17))) → (szu = fI H3571 a1 (K.1.2 0 0)) → (pcu = fI H3571 a1 (K.1.2 0 8)) → (lbu = fI H3571 a1 (K.1.2 0 9)) → (∀ q t : Nat, G q = some t → t ≠ 46 → t ≠ 48 → q ≠ a0 → q ≠ kp → q ≠ gp → q ≠ hp → q ≠ xp → q ≠ lp → q ≠ ap → q ≠ dp → q ≠ tp → q ≠ ip → q ≠ bp → H3571[q]? = s.heap[q]?) → (RFB K H3571 s.heap a0) → (12 - x3574.toInt < (nf : Int)) → (x3575.toInt = szu.toInt ∧ x3576.toInt = pcu.toInt ∧ x3577.toInt = lbu.toInt) → (∀ j : Nat, j < 16 → fI H3571 kp j = fI s.heap ku j) → (∀ j : Nat, j < 16 → fI H3571 gp j = fI s.heap gu j) → (∀ j : Nat, j < 16 → fI H3571 hp j = fI s.heap hu j) → (∀ j : Nat, j < 16 → fI H3571 xp j = fI s.heap xu j) → (∀ j : Nat, j < 3 → fI H3571 lp j = fI s.heap lu j) → (∀ j : Nat, j < 200 → fI H3571 ap j = fI s.heap au j) → (∀ j : Nat, j < 200 → fI H3571 dp j = fI s.heap du j) → (∀ j : Nat, j < 12 → fI H3571 tp j = fI s.heap tu j) → (∀ j : Nat, j < 12 → fI H3571 ip j = fI s.heap iu j) → W p l e ({ frames := 1, cells := 0, slots := 0, locals := 40 } : Room) s m (([.ref a0, .ref a1] : List Value).toArray) below meth c H3571 locsH3571 0 0 Q (F0 m 162 ls3572 []) := by
    intro nf
    induction nf with
    | zero =>
      intro  ls3572 H3571 locsH3571 x3574 x3575 x3576 x3577 hl3573 hTH3571 hSH3571 bx3574 bx3575 bx3576 ex3575 ex3576 ex3577 cy3578_0 cy3578_1 cy3578_2 cy3578_3 cy3578_4 cy3578_5 cy3578_6 cy3578_7 cy3578_8 cy3578_9 cy3578_10 cy3578_11 cy3578_12 cy3578_13 cy3578_14 cy3578_15 cy3578_16 cy3578_17 cy3578_18 cy3578_19 cy3578_20 cy3578_21 cy3578_22 cy3578_23 cy3578_24 cy3578_25 cy3578_26 fy3578_fx fy3578_rb hm162 iv162 hc_kp hc_gp hc_hp hc_xp hc_lp hc_ap hc_dp hc_tp hc_ip
      have rx3577 := i_rng x3577
      exfalso
      omega
    | succ nf ih162 =>
      intro  ls3572 H3571 locsH3571 x3574 x3575 x3576 x3577 hl3573 hTH3571 hSH3571 bx3574 bx3575 bx3576 ex3575 ex3576 ex3577 cy3578_0 cy3578_1 cy3578_2 cy3578_3 cy3578_4 cy3578_5 cy3578_6 cy3578_7 cy3578_8 cy3578_9 cy3578_10 cy3578_11 cy3578_12 cy3578_13 cy3578_14 cy3578_15 cy3578_16 cy3578_17 cy3578_18 cy3578_19 cy3578_20 cy3578_21 cy3578_22 cy3578_23 cy3578_24 cy3578_25 cy3578_26 fy3578_fx fy3578_rb hm162 iv162 hc_kp hc_gp hc_hp hc_xp hc_lp hc_ap hc_dp hc_tp hc_ip
      have rx3577 := i_rng x3577
      refine lv_iload_n hx hb dX0_copyFrom_162 rfl (lv_at hl3573 2 rfl) ?_
      refine lv_bipush (v := 12) hx hb dX0_copyFrom_163 (by decide) ?_
      refine lv_icmp_ge (tgt := 212) hx hb dX0_copyFrom_165 (by decide) (fun c3579 => ?_) (fun c3579 => ?_)
      · have k3580 := i_le c3579
        refine lv_aload_n hx hb dX0_copyFrom_212 rfl (lv_at hl3573 0 rfl) ?_
        refine lv_aload_n hx hb dX0_copyFrom_213 rfl (lv_at hl3573 1 rfl) ?_
        refine x_gi C hTH3571 (ci := 0) (k := 14) rfl inX0 (by decide) wF_X0_66 ga1 rg_1 rfl dX0_copyFrom_214 (fun x3581 ex3581 bx3581 => ?_)
        refine x_put C hTH3571 hSH3571 (ci := 0) (k := 14) (v := .int x3581) (ty0 := tyX0) rfl inX0 tyX0_ok nmX0 (by decide) rfl wF_X0_66 ga0 rg_35 rfl rfl (okI bx3581.1 bx3581.2) rfl rfl (AE_in ga0 (by decide)) dX0_copyFrom_217 (fun H3582 locsH3582 hTH3582 hSH3582 wH3582 => ?_)
        have f3583 : ∀ q t : Nat, G q = some t → t ≠ 46 → t ≠ 48 → q ≠ a0 → q ≠ kp → q ≠ gp → q ≠ hp → q ≠ xp → q ≠ lp → q ≠ ap → q ≠ dp → q ≠ tp → q ≠ ip → q ≠ bp → H3582[q]? = s.heap[q]? := (fun q t hq h1 h2 n1 n2 n3 n4 n5 n6 n7 n8 n9 n10 n11 => (wH3582.off n1).trans (fy3578_fx q t hq h1 h2 n1 n2 n3 n4 n5 n6 n7 n8 n9 n10 n11))
        have f3584 : RFB K H3582 s.heap a0 := RFB.st fy3578_rb (fun k hk => Wr.neR wH3582 (Or.inr (hapB k _ (by omega) (by decide) (by omega))))
        have f3585 : ∀ j : Nat, j < 16 → fI H3582 kp j = fI s.heap ku j := fun j hj => (fI_kept (wH3582.off (G_ne gkp ga0 (by decide)))).trans (hc_kp j hj)
        have f3586 : ∀ j : Nat, j < 16 → fI H3582 gp j = fI s.heap gu j := fun j hj => (fI_kept (wH3582.off (G_ne ggp ga0 (by decide)))).trans (hc_gp j hj)
        have f3587 : ∀ j : Nat, j < 16 → fI H3582 hp j = fI s.heap hu j := fun j hj => (fI_kept (wH3582.off (G_ne ghp ga0 (by decide)))).trans (hc_hp j hj)
        have f3588 : ∀ j : Nat, j < 16 → fI H3582 xp j = fI s.heap xu j := fun j hj => (fI_kept (wH3582.off (G_ne gxp ga0 (by decide)))).trans (hc_xp j hj)
        have f3589 : ∀ j : Nat, j < 3 → fI H3582 lp j = fI s.heap lu j := fun j hj => (fI_kept (wH3582.off (G_ne glp ga0 (by decide)))).trans (hc_lp j hj)
        have f3590 : ∀ j : Nat, j < 200 → fI H3582 ap j = fI s.heap au j := fun j hj => (fI_kept (wH3582.off (G_ne gap ga0 (by decide)))).trans (hc_ap j hj)
        have f3591 : ∀ j : Nat, j < 200 → fI H3582 dp j = fI s.heap du j := fun j hj => (fI_kept (wH3582.off (G_ne gdp ga0 (by decide)))).trans (hc_dp j hj)
        have f3592 : ∀ j : Nat, j < 12 → fI H3582 tp j = fI s.heap tu j := fun j hj => (fI_kept (wH3582.off (G_ne gtp ga0 (by decide)))).trans (hc_tp j hj)
        have f3593 : ∀ j : Nat, j < 12 → fI H3582 ip j = fI s.heap iu j := fun j hj => (fI_kept (wH3582.off (G_ne gip ga0 (by decide)))).trans (hc_ip j hj)
        have m3594 := ex3575.trans (Wr.neI wH3582 (Or.inr (x_apart hKT hts inX0 tyX0 tyX0_ok nmX0 rfl 0 14 (by decide) (by decide) (by decide)))).symm
        have m3595 := ex3576.trans (Wr.neI wH3582 (Or.inr (x_apart hKT hts inX0 tyX0 tyX0_ok nmX0 rfl 8 14 (by decide) (by decide) (by decide)))).symm
        have m3596 := ex3577.trans (Wr.neI wH3582 (Or.inr (x_apart hKT hts inX0 tyX0 tyX0_ok nmX0 rfl 9 14 (by decide) (by decide) (by decide)))).symm
        have m3597 := cy3578_0.trans (Wr.neR wH3582 (Or.inr (x_apart hKT hts inX0 tyX0 tyX0_ok nmX0 rfl 1 14 (by decide) (by decide) (by decide)))).symm
        have m3598 := cy3578_1.trans (Wr.neR wH3582 (Or.inr (x_apart hKT hts inX0 tyX0 tyX0_ok nmX0 rfl 2 14 (by decide) (by decide) (by decide)))).symm
        have m3599 := cy3578_2.trans (Wr.neR wH3582 (Or.inr (x_apart hKT hts inX0 tyX0 tyX0_ok nmX0 rfl 3 14 (by decide) (by decide) (by decide)))).symm
        have m3600 := cy3578_3.trans (Wr.neR wH3582 (Or.inr (x_apart hKT hts inX0 tyX0 tyX0_ok nmX0 rfl 4 14 (by decide) (by decide) (by decide)))).symm
        have m3601 := cy3578_4.trans (Wr.neR wH3582 (Or.inr (x_apart hKT hts inX0 tyX0 tyX0_ok nmX0 rfl 5 14 (by decide) (by decide) (by decide)))).symm
        have m3602 := cy3578_5.trans (Wr.neR wH3582 (Or.inr (x_apart hKT hts inX0 tyX0 tyX0_ok nmX0 rfl 6 14 (by decide) (by decide) (by decide)))).symm
        have m3603 := cy3578_6.trans (Wr.neR wH3582 (Or.inr (x_apart hKT hts inX0 tyX0 tyX0_ok nmX0 rfl 7 14 (by decide) (by decide) (by decide)))).symm
        have m3604 := cy3578_7.trans (Wr.neR wH3582 (Or.inr (x_apart hKT hts inX0 tyX0 tyX0_ok nmX0 rfl 10 14 (by decide) (by decide) (by decide)))).symm
        have m3605 := cy3578_8.trans (Wr.neR wH3582 (Or.inr (x_apart hKT hts inX0 tyX0 tyX0_ok nmX0 rfl 11 14 (by decide) (by decide) (by decide)))).symm
        have m3606 := cy3578_9.trans (Wr.neR wH3582 (Or.inr (x_apart hKT hts inX0 tyX0 tyX0_ok nmX0 rfl 12 14 (by decide) (by decide) (by decide)))).symm
        have m3607 := cy3578_10.trans (Wr.neR wH3582 (Or.inr (x_apart hKT hts inX0 tyX0 tyX0_ok nmX0 rfl 13 14 (by decide) (by decide) (by decide)))).symm
        have m3608 := cy3578_11.trans (Wr.neR wH3582 (Or.inr (x_apart hKT hts inX0 tyX0 tyX0_ok nmX0 rfl 17 14 (by decide) (by decide) (by decide)))).symm
        have m3609 := cy3578_12.trans (Wr.neR wH3582 (Or.inl (G_ne ga1 ga0 (by decide)))).symm
        have m3610 := cy3578_13.trans (Wr.neR wH3582 (Or.inl (G_ne ga1 ga0 (by decide)))).symm
        have m3611 := cy3578_14.trans (Wr.neR wH3582 (Or.inl (G_ne ga1 ga0 (by decide)))).symm
        have m3612 := cy3578_15.trans (Wr.neR wH3582 (Or.inl (G_ne ga1 ga0 (by decide)))).symm
        have m3613 := cy3578_16.trans (Wr.neR wH3582 (Or.inl (G_ne ga1 ga0 (by decide)))).symm
        have m3614 := cy3578_17.trans (Wr.neR wH3582 (Or.inl (G_ne ga1 ga0 (by decide)))).symm
        have m3615 := cy3578_18.trans (Wr.neR wH3582 (Or.inl (G_ne ga1 ga0 (by decide)))).symm
        have m3616 := cy3578_19.trans (Wr.neR wH3582 (Or.inl (G_ne ga1 ga0 (by decide)))).symm
        have m3617 := cy3578_20.trans (Wr.neR wH3582 (Or.inl (G_ne ga1 ga0 (by decide)))).symm
        have m3618 := cy3578_21.trans (Wr.neR wH3582 (Or.inl (G_ne ga1 ga0 (by decide)))).symm
        have m3619 := cy3578_22.trans (Wr.neR wH3582 (Or.inl (G_ne ga1 ga0 (by decide)))).symm
        have m3620 := cy3578_23.trans (Wr.neR wH3582 (Or.inl (G_ne ga1 ga0 (by decide)))).symm
        have m3621 := cy3578_24.trans (Wr.neI wH3582 (Or.inl (G_ne ga1 ga0 (by decide)))).symm
        have m3622 := cy3578_25.trans (Wr.neI wH3582 (Or.inl (G_ne ga1 ga0 (by decide)))).symm
        have m3623 := cy3578_26.trans (Wr.neI wH3582 (Or.inl (G_ne ga1 ga0 (by decide)))).symm
        have m3624 := ex3581.trans (Wr.neI wH3582 (Or.inl (G_ne ga1 ga0 (by decide)))).symm
        have m3625 := Wr.I wH3582
        have m3625 := m3625.symm
        refine lv_aload_n hx hb dX0_copyFrom_220 rfl (lv_at hl3573 0 rfl) ?_
        refine lv_aload_n hx hb dX0_copyFrom_221 rfl (lv_at hl3573 1 rfl) ?_
        refine x_gi C hTH3582 (ci := 0) (k := 15) rfl inX0 (by decide) wF_X0_69 ga1 rg_1 rfl dX0_copyFrom_222 (fun x3626 ex3626 bx3626 => ?_)
        refine x_put C hTH3582 hSH3582 (ci := 0) (k := 15) (v := .int x3626) (ty0 := tyX0) rfl inX0 tyX0_ok nmX0 (by decide) rfl wF_X0_69 ga0 rg_35 rfl rfl (okI bx3626.1 bx3626.2) rfl rfl (AE_in ga0 (by decide)) dX0_copyFrom_225 (fun H3627 locsH3627 hTH3627 hSH3627 wH3627 => ?_)
        have f3628 : ∀ q t : Nat, G q = some t → t ≠ 46 → t ≠ 48 → q ≠ a0 → q ≠ kp → q ≠ gp → q ≠ hp → q ≠ xp → q ≠ lp → q ≠ ap → q ≠ dp → q ≠ tp → q ≠ ip → q ≠ bp → H3627[q]? = s.heap[q]? := (fun q t hq h1 h2 n1 n2 n3 n4 n5 n6 n7 n8 n9 n10 n11 => (wH3627.off n1).trans (f3583 q t hq h1 h2 n1 n2 n3 n4 n5 n6 n7 n8 n9 n10 n11))
        have f3629 : RFB K H3627 s.heap a0 := RFB.st f3584 (fun k hk => Wr.neR wH3627 (Or.inr (hapB k _ (by omega) (by decide) (by omega))))
        have f3630 : ∀ j : Nat, j < 16 → fI H3627 kp j = fI s.heap ku j := fun j hj => (fI_kept (wH3627.off (G_ne gkp ga0 (by decide)))).trans (f3585 j hj)
        have f3631 : ∀ j : Nat, j < 16 → fI H3627 gp j = fI s.heap gu j := fun j hj => (fI_kept (wH3627.off (G_ne ggp ga0 (by decide)))).trans (f3586 j hj)
        have f3632 : ∀ j : Nat, j < 16 → fI H3627 hp j = fI s.heap hu j := fun j hj => (fI_kept (wH3627.off (G_ne ghp ga0 (by decide)))).trans (f3587 j hj)
        have f3633 : ∀ j : Nat, j < 16 → fI H3627 xp j = fI s.heap xu j := fun j hj => (fI_kept (wH3627.off (G_ne gxp ga0 (by decide)))).trans (f3588 j hj)
        have f3634 : ∀ j : Nat, j < 3 → fI H3627 lp j = fI s.heap lu j := fun j hj => (fI_kept (wH3627.off (G_ne glp ga0 (by decide)))).trans (f3589 j hj)
        have f3635 : ∀ j : Nat, j < 200 → fI H3627 ap j = fI s.heap au j := fun j hj => (fI_kept (wH3627.off (G_ne gap ga0 (by decide)))).trans (f3590 j hj)
        have f3636 : ∀ j : Nat, j < 200 → fI H3627 dp j = fI s.heap du j := fun j hj => (fI_kept (wH3627.off (G_ne gdp ga0 (by decide)))).trans (f3591 j hj)
        have f3637 : ∀ j : Nat, j < 12 → fI H3627 tp j = fI s.heap tu j := fun j hj => (fI_kept (wH3627.off (G_ne gtp ga0 (by decide)))).trans (f3592 j hj)
        have f3638 : ∀ j : Nat, j < 12 → fI H3627 ip j = fI s.heap iu j := fun j hj => (fI_kept (wH3627.off (G_ne gip ga0 (by decide)))).trans (f3593 j hj)
        have m3639 := m3594.trans (Wr.neI wH3627 (Or.inr (x_apart hKT hts inX0 tyX0 tyX0_ok nmX0 rfl 0 15 (by decide) (by decide) (by decide)))).symm
        have m3640 := m3595.trans (Wr.neI wH3627 (Or.inr (x_apart hKT hts inX0 tyX0 tyX0_ok nmX0 rfl 8 15 (by decide) (by decide) (by decide)))).symm
        have m3641 := m3596.trans (Wr.neI wH3627 (Or.inr (x_apart hKT hts inX0 tyX0 tyX0_ok nmX0 rfl 9 15 (by decide) (by decide) (by decide)))).symm
        have m3642 := m3597.trans (Wr.neR wH3627 (Or.inr (x_apart hKT hts inX0 tyX0 tyX0_ok nmX0 rfl 1 15 (by decide) (by decide) (by decide)))).symm
        have m3643 := m3598.trans (Wr.neR wH3627 (Or.inr (x_apart hKT hts inX0 tyX0 tyX0_ok nmX0 rfl 2 15 (by decide) (by decide) (by decide)))).symm
        have m3644 := m3599.trans (Wr.neR wH3627 (Or.inr (x_apart hKT hts inX0 tyX0 tyX0_ok nmX0 rfl 3 15 (by decide) (by decide) (by decide)))).symm
        have m3645 := m3600.trans (Wr.neR wH3627 (Or.inr (x_apart hKT hts inX0 tyX0 tyX0_ok nmX0 rfl 4 15 (by decide) (by decide) (by decide)))).symm
        have m3646 := m3601.trans (Wr.neR wH3627 (Or.inr (x_apart hKT hts inX0 tyX0 tyX0_ok nmX0 rfl 5 15 (by decide) (by decide) (by decide)))).symm
        have m3647 := m3602.trans (Wr.neR wH3627 (Or.inr (x_apart hKT hts inX0 tyX0 tyX0_ok nmX0 rfl 6 15 (by decide) (by decide) (by decide)))).symm
        have m3648 := m3603.trans (Wr.neR wH3627 (Or.inr (x_apart hKT hts inX0 tyX0 tyX0_ok nmX0 rfl 7 15 (by decide) (by decide) (by decide)))).symm
        have m3649 := m3604.trans (Wr.neR wH3627 (Or.inr (x_apart hKT hts inX0 tyX0 tyX0_ok nmX0 rfl 10 15 (by decide) (by decide) (by decide)))).symm
        have m3650 := m3605.trans (Wr.neR wH3627 (Or.inr (x_apart hKT hts inX0 tyX0 tyX0_ok nmX0 rfl 11 15 (by decide) (by decide) (by decide)))).symm
        have m3651 := m3606.trans (Wr.neR wH3627 (Or.inr (x_apart hKT hts inX0 tyX0 tyX0_ok nmX0 rfl 12 15 (by decide) (by decide) (by decide)))).symm
        have m3652 := m3607.trans (Wr.neR wH3627 (Or.inr (x_apart hKT hts inX0 tyX0 tyX0_ok nmX0 rfl 13 15 (by decide) (by decide) (by decide)))).symm
        have m3653 := m3608.trans (Wr.neR wH3627 (Or.inr (x_apart hKT hts inX0 tyX0 tyX0_ok nmX0 rfl 17 15 (by decide) (by decide) (by decide)))).symm
        have m3654 := m3609.trans (Wr.neR wH3627 (Or.inl (G_ne ga1 ga0 (by decide)))).symm
        have m3655 := m3610.trans (Wr.neR wH3627 (Or.inl (G_ne ga1 ga0 (by decide)))).symm
        have m3656 := m3611.trans (Wr.neR wH3627 (Or.inl (G_ne ga1 ga0 (by decide)))).symm
        have m3657 := m3612.trans (Wr.neR wH3627 (Or.inl (G_ne ga1 ga0 (by decide)))).symm
        have m3658 := m3613.trans (Wr.neR wH3627 (Or.inl (G_ne ga1 ga0 (by decide)))).symm
        have m3659 := m3614.trans (Wr.neR wH3627 (Or.inl (G_ne ga1 ga0 (by decide)))).symm
        have m3660 := m3615.trans (Wr.neR wH3627 (Or.inl (G_ne ga1 ga0 (by decide)))).symm
        have m3661 := m3616.trans (Wr.neR wH3627 (Or.inl (G_ne ga1 ga0 (by decide)))).symm
        have m3662 := m3617.trans (Wr.neR wH3627 (Or.inl (G_ne ga1 ga0 (by decide)))).symm
        have m3663 := m3618.trans (Wr.neR wH3627 (Or.inl (G_ne ga1 ga0 (by decide)))).symm
        have m3664 := m3619.trans (Wr.neR wH3627 (Or.inl (G_ne ga1 ga0 (by decide)))).symm
        have m3665 := m3620.trans (Wr.neR wH3627 (Or.inl (G_ne ga1 ga0 (by decide)))).symm
        have m3666 := m3621.trans (Wr.neI wH3627 (Or.inl (G_ne ga1 ga0 (by decide)))).symm
        have m3667 := m3622.trans (Wr.neI wH3627 (Or.inl (G_ne ga1 ga0 (by decide)))).symm
        have m3668 := m3623.trans (Wr.neI wH3627 (Or.inl (G_ne ga1 ga0 (by decide)))).symm
        have m3669 := m3624.trans (Wr.neI wH3627 (Or.inl (G_ne ga1 ga0 (by decide)))).symm
        have m3670 := m3625.trans (Wr.neI wH3627 (Or.inr (x_apart hKT hts inX0 tyX0 tyX0_ok nmX0 rfl 14 15 (by decide) (by decide) (by decide)))).symm
        have m3671 := ex3626.trans (Wr.neI wH3627 (Or.inl (G_ne ga1 ga0 (by decide)))).symm
        have m3672 := Wr.I wH3627
        have m3672 := m3672.symm
        refine lv_aload_n hx hb dX0_copyFrom_228 rfl (lv_at hl3573 0 rfl) ?_
        refine lv_aload_n hx hb dX0_copyFrom_229 rfl (lv_at hl3573 1 rfl) ?_
        refine x_gi C hTH3627 (ci := 0) (k := 16) rfl inX0 (by decide) wF_X0_72 ga1 rg_1 rfl dX0_copyFrom_230 (fun x3673 ex3673 bx3673 => ?_)
        refine x_put C hTH3627 hSH3627 (ci := 0) (k := 16) (v := .int x3673) (ty0 := tyX0) rfl inX0 tyX0_ok nmX0 (by decide) rfl wF_X0_72 ga0 rg_35 rfl rfl (okI bx3673.1 bx3673.2) rfl rfl (AE_in ga0 (by decide)) dX0_copyFrom_233 (fun H3674 locsH3674 hTH3674 hSH3674 wH3674 => ?_)
        clear f3583 f3584 f3585 f3586 f3587 f3588 f3589 f3590 f3591 f3592 f3593 m3594 m3595 m3596 m3597 m3598 m3599 m3600 m3601 m3602 m3603 m3604 m3605 m3606 m3607 m3608 m3609 m3610 m3611 m3612 m3613 m3614 m3615 m3616 m3617 m3618 m3619 m3620 m3621 m3622 m3623 m3624 m3625
        have f3675 : ∀ q t : Nat, G q = some t → t ≠ 46 → t ≠ 48 → q ≠ a0 → q ≠ kp → q ≠ gp → q ≠ hp → q ≠ xp → q ≠ lp → q ≠ ap → q ≠ dp → q ≠ tp → q ≠ ip → q ≠ bp → H3674[q]? = s.heap[q]? := (fun q t hq h1 h2 n1 n2 n3 n4 n5 n6 n7 n8 n9 n10 n11 => (wH3674.off n1).trans (f3628 q t hq h1 h2 n1 n2 n3 n4 n5 n6 n7 n8 n9 n10 n11))
        have f3676 : RFB K H3674 s.heap a0 := RFB.st f3629 (fun k hk => Wr.neR wH3674 (Or.inr (hapB k _ (by omega) (by decide) (by omega))))
        have f3677 : ∀ j : Nat, j < 16 → fI H3674 kp j = fI s.heap ku j := fun j hj => (fI_kept (wH3674.off (G_ne gkp ga0 (by decide)))).trans (f3630 j hj)
        have f3678 : ∀ j : Nat, j < 16 → fI H3674 gp j = fI s.heap gu j := fun j hj => (fI_kept (wH3674.off (G_ne ggp ga0 (by decide)))).trans (f3631 j hj)
        have f3679 : ∀ j : Nat, j < 16 → fI H3674 hp j = fI s.heap hu j := fun j hj => (fI_kept (wH3674.off (G_ne ghp ga0 (by decide)))).trans (f3632 j hj)
        have f3680 : ∀ j : Nat, j < 16 → fI H3674 xp j = fI s.heap xu j := fun j hj => (fI_kept (wH3674.off (G_ne gxp ga0 (by decide)))).trans (f3633 j hj)
        have f3681 : ∀ j : Nat, j < 3 → fI H3674 lp j = fI s.heap lu j := fun j hj => (fI_kept (wH3674.off (G_ne glp ga0 (by decide)))).trans (f3634 j hj)
        have f3682 : ∀ j : Nat, j < 200 → fI H3674 ap j = fI s.heap au j := fun j hj => (fI_kept (wH3674.off (G_ne gap ga0 (by decide)))).trans (f3635 j hj)
        have f3683 : ∀ j : Nat, j < 200 → fI H3674 dp j = fI s.heap du j := fun j hj => (fI_kept (wH3674.off (G_ne gdp ga0 (by decide)))).trans (f3636 j hj)
        have f3684 : ∀ j : Nat, j < 12 → fI H3674 tp j = fI s.heap tu j := fun j hj => (fI_kept (wH3674.off (G_ne gtp ga0 (by decide)))).trans (f3637 j hj)
        have f3685 : ∀ j : Nat, j < 12 → fI H3674 ip j = fI s.heap iu j := fun j hj => (fI_kept (wH3674.off (G_ne gip ga0 (by decide)))).trans (f3638 j hj)
        have m3686 := m3639.trans (Wr.neI wH3674 (Or.inr (x_apart hKT hts inX0 tyX0 tyX0_ok nmX0 rfl 0 16 (by decide) (by decide) (by decide)))).symm
        have m3687 := m3640.trans (Wr.neI wH3674 (Or.inr (x_apart hKT hts inX0 tyX0 tyX0_ok nmX0 rfl 8 16 (by decide) (by decide) (by decide)))).symm
        have m3688 := m3641.trans (Wr.neI wH3674 (Or.inr (x_apart hKT hts inX0 tyX0 tyX0_ok nmX0 rfl 9 16 (by decide) (by decide) (by decide)))).symm
        have m3689 := m3642.trans (Wr.neR wH3674 (Or.inr (x_apart hKT hts inX0 tyX0 tyX0_ok nmX0 rfl 1 16 (by decide) (by decide) (by decide)))).symm
        have m3690 := m3643.trans (Wr.neR wH3674 (Or.inr (x_apart hKT hts inX0 tyX0 tyX0_ok nmX0 rfl 2 16 (by decide) (by decide) (by decide)))).symm
        have m3691 := m3644.trans (Wr.neR wH3674 (Or.inr (x_apart hKT hts inX0 tyX0 tyX0_ok nmX0 rfl 3 16 (by decide) (by decide) (by decide)))).symm
        have m3692 := m3645.trans (Wr.neR wH3674 (Or.inr (x_apart hKT hts inX0 tyX0 tyX0_ok nmX0 rfl 4 16 (by decide) (by decide) (by decide)))).symm
        have m3693 := m3646.trans (Wr.neR wH3674 (Or.inr (x_apart hKT hts inX0 tyX0 tyX0_ok nmX0 rfl 5 16 (by decide) (by decide) (by decide)))).symm
        have m3694 := m3647.trans (Wr.neR wH3674 (Or.inr (x_apart hKT hts inX0 tyX0 tyX0_ok nmX0 rfl 6 16 (by decide) (by decide) (by decide)))).symm
        have m3695 := m3648.trans (Wr.neR wH3674 (Or.inr (x_apart hKT hts inX0 tyX0 tyX0_ok nmX0 rfl 7 16 (by decide) (by decide) (by decide)))).symm
        have m3696 := m3649.trans (Wr.neR wH3674 (Or.inr (x_apart hKT hts inX0 tyX0 tyX0_ok nmX0 rfl 10 16 (by decide) (by decide) (by decide)))).symm
        have m3697 := m3650.trans (Wr.neR wH3674 (Or.inr (x_apart hKT hts inX0 tyX0 tyX0_ok nmX0 rfl 11 16 (by decide) (by decide) (by decide)))).symm
        have m3698 := m3651.trans (Wr.neR wH3674 (Or.inr (x_apart hKT hts inX0 tyX0 tyX0_ok nmX0 rfl 12 16 (by decide) (by decide) (by decide)))).symm
        have m3699 := m3652.trans (Wr.neR wH3674 (Or.inr (x_apart hKT hts inX0 tyX0 tyX0_ok nmX0 rfl 13 16 (by decide) (by decide) (by decide)))).symm
        have m3700 := m3653.trans (Wr.neR wH3674 (Or.inr (x_apart hKT hts inX0 tyX0 tyX0_ok nmX0 rfl 17 16 (by decide) (by decide) (by decide)))).symm
        have m3701 := m3654.trans (Wr.neR wH3674 (Or.inl (G_ne ga1 ga0 (by decide)))).symm
        have m3702 := m3655.trans (Wr.neR wH3674 (Or.inl (G_ne ga1 ga0 (by decide)))).symm
        have m3703 := m3656.trans (Wr.neR wH3674 (Or.inl (G_ne ga1 ga0 (by decide)))).symm
        have m3704 := m3657.trans (Wr.neR wH3674 (Or.inl (G_ne ga1 ga0 (by decide)))).symm
        have m3705 := m3658.trans (Wr.neR wH3674 (Or.inl (G_ne ga1 ga0 (by decide)))).symm
        have m3706 := m3659.trans (Wr.neR wH3674 (Or.inl (G_ne ga1 ga0 (by decide)))).symm
        have m3707 := m3660.trans (Wr.neR wH3674 (Or.inl (G_ne ga1 ga0 (by decide)))).symm
        have m3708 := m3661.trans (Wr.neR wH3674 (Or.inl (G_ne ga1 ga0 (by decide)))).symm
        have m3709 := m3662.trans (Wr.neR wH3674 (Or.inl (G_ne ga1 ga0 (by decide)))).symm
        have m3710 := m3663.trans (Wr.neR wH3674 (Or.inl (G_ne ga1 ga0 (by decide)))).symm
        have m3711 := m3664.trans (Wr.neR wH3674 (Or.inl (G_ne ga1 ga0 (by decide)))).symm
        have m3712 := m3665.trans (Wr.neR wH3674 (Or.inl (G_ne ga1 ga0 (by decide)))).symm
        have m3713 := m3666.trans (Wr.neI wH3674 (Or.inl (G_ne ga1 ga0 (by decide)))).symm
        have m3714 := m3667.trans (Wr.neI wH3674 (Or.inl (G_ne ga1 ga0 (by decide)))).symm
        have m3715 := m3668.trans (Wr.neI wH3674 (Or.inl (G_ne ga1 ga0 (by decide)))).symm
        have m3716 := m3669.trans (Wr.neI wH3674 (Or.inl (G_ne ga1 ga0 (by decide)))).symm
        have m3717 := m3670.trans (Wr.neI wH3674 (Or.inr (x_apart hKT hts inX0 tyX0 tyX0_ok nmX0 rfl 14 16 (by decide) (by decide) (by decide)))).symm
        have m3718 := m3671.trans (Wr.neI wH3674 (Or.inl (G_ne ga1 ga0 (by decide)))).symm
        have m3719 := m3672.trans (Wr.neI wH3674 (Or.inr (x_apart hKT hts inX0 tyX0 tyX0_ok nmX0 rfl 15 16 (by decide) (by decide) (by decide)))).symm
        have m3720 := ex3673.trans (Wr.neI wH3674 (Or.inl (G_ne ga1 ga0 (by decide)))).symm
        have m3721 := Wr.I wH3674
        have m3721 := m3721.symm
        refine lv_aload_n hx hb dX0_copyFrom_236 rfl (lv_at hl3573 1 rfl) ?_
        refine x_gr C hTH3674 (ci := 0) (k := 17) rfl inX0 (by decide) wF_X0_47 ga1 rg_1 rfl dX0_copyFrom_237 (fun q3722 eq3722 gq3722 => ?_)
        have uq3722 : bu = q3722 := (m3712).trans eq3722.symm
        subst uq3722
        refine lv_iconst (v := 0) hx hb dX0_copyFrom_240 (by decide) ?_
        refine lv_aload_n hx hb dX0_copyFrom_241 rfl (lv_at hl3573 0 rfl) ?_
        refine x_gr C hTH3674 (ci := 0) (k := 17) rfl inX0 (by decide) wF_X0_47 ga0 rg_35 rfl dX0_copyFrom_242 (fun q3723 eq3723 gq3723 => ?_)
        have uq3723 : bp = q3723 := (m3700).trans eq3723.symm
        subst uq3723
        refine lv_iconst (v := 0) hx hb dX0_copyFrom_245 (by decide) ?_
        refine lv_iconst (v := 2) hx hb dX0_copyFrom_246 (by decide) ?_
        refine x_copy C hTH3674 hSH3674 wM_X0_75 wNT_arraycopy wST_arraycopy wIN_J10 gbu gbp rg_15 rg_49 (by decide) (by omega) (by omega) (by omega) (by show _ ≤ ((2 : Nat) : Int); omega) (by show _ ≤ ((2 : Nat) : Int); omega) (AE_in gbp (by decide)) hl3573.1 (by decide) dX0_copyFrom_247 (fun H3724 locsH3724 hTH3724 hSH3724 zH3724 oH3724 vH3724 wH3724 => ?_)
        have m3725 := (m3686).trans (fI_kept (oH3724 _ (G_ne ga0 gbp (by decide)))).symm
        have m3726 := (m3687).trans (fI_kept (oH3724 _ (G_ne ga0 gbp (by decide)))).symm
        have m3727 := (m3688).trans (fI_kept (oH3724 _ (G_ne ga0 gbp (by decide)))).symm
        have m3728 := (m3689).trans (fR_kept (oH3724 _ (G_ne ga0 gbp (by decide)))).symm
        have m3729 := (m3690).trans (fR_kept (oH3724 _ (G_ne ga0 gbp (by decide)))).symm
        have m3730 := (m3691).trans (fR_kept (oH3724 _ (G_ne ga0 gbp (by decide)))).symm
        have m3731 := (m3692).trans (fR_kept (oH3724 _ (G_ne ga0 gbp (by decide)))).symm
        have m3732 := (m3693).trans (fR_kept (oH3724 _ (G_ne ga0 gbp (by decide)))).symm
        have m3733 := (m3694).trans (fR_kept (oH3724 _ (G_ne ga0 gbp (by decide)))).symm
        have m3734 := (m3695).trans (fR_kept (oH3724 _ (G_ne ga0 gbp (by decide)))).symm
        have m3735 := (m3696).trans (fR_kept (oH3724 _ (G_ne ga0 gbp (by decide)))).symm
        have m3736 := (m3697).trans (fR_kept (oH3724 _ (G_ne ga0 gbp (by decide)))).symm
        have m3737 := (m3698).trans (fR_kept (oH3724 _ (G_ne ga0 gbp (by decide)))).symm
        have m3738 := (m3699).trans (fR_kept (oH3724 _ (G_ne ga0 gbp (by decide)))).symm
        have m3739 := (m3700).trans (fR_kept (oH3724 _ (G_ne ga0 gbp (by decide)))).symm
        have m3740 := (m3701).trans (fR_kept (oH3724 _ (G_ne ga1 gbp (by decide)))).symm
        have m3741 := (m3702).trans (fR_kept (oH3724 _ (G_ne ga1 gbp (by decide)))).symm
        have m3742 := (m3703).trans (fR_kept (oH3724 _ (G_ne ga1 gbp (by decide)))).symm
        have m3743 := (m3704).trans (fR_kept (oH3724 _ (G_ne ga1 gbp (by decide)))).symm
        have m3744 := (m3705).trans (fR_kept (oH3724 _ (G_ne ga1 gbp (by decide)))).symm
        have m3745 := (m3706).trans (fR_kept (oH3724 _ (G_ne ga1 gbp (by decide)))).symm
        have m3746 := (m3707).trans (fR_kept (oH3724 _ (G_ne ga1 gbp (by decide)))).symm
        have m3747 := (m3708).trans (fR_kept (oH3724 _ (G_ne ga1 gbp (by decide)))).symm
        have m3748 := (m3709).trans (fR_kept (oH3724 _ (G_ne ga1 gbp (by decide)))).symm
        have m3749 := (m3710).trans (fR_kept (oH3724 _ (G_ne ga1 gbp (by decide)))).symm
        have m3750 := (m3711).trans (fR_kept (oH3724 _ (G_ne ga1 gbp (by decide)))).symm
        have m3751 := (m3712).trans (fR_kept (oH3724 _ (G_ne ga1 gbp (by decide)))).symm
        have m3752 := (m3713).trans (fI_kept (oH3724 _ (G_ne ga1 gbp (by decide)))).symm
        have m3753 := (m3714).trans (fI_kept (oH3724 _ (G_ne ga1 gbp (by decide)))).symm
        have m3754 := (m3715).trans (fI_kept (oH3724 _ (G_ne ga1 gbp (by decide)))).symm
        have m3755 := (m3716).trans (fI_kept (oH3724 _ (G_ne ga1 gbp (by decide)))).symm
        have m3756 := (m3717).trans (fI_kept (oH3724 _ (G_ne ga0 gbp (by decide)))).symm
        have m3757 := (m3718).trans (fI_kept (oH3724 _ (G_ne ga1 gbp (by decide)))).symm
        have m3758 := (m3719).trans (fI_kept (oH3724 _ (G_ne ga0 gbp (by decide)))).symm
        have m3759 := (m3720).trans (fI_kept (oH3724 _ (G_ne ga1 gbp (by decide)))).symm
        have m3760 := (m3721).trans (fI_kept (oH3724 _ (G_ne ga0 gbp (by decide)))).symm
        have f3761 : ∀ q t : Nat, G q = some t → t ≠ 46 → t ≠ 48 → q ≠ a0 → q ≠ kp → q ≠ gp → q ≠ hp → q ≠ xp → q ≠ lp → q ≠ ap → q ≠ dp → q ≠ tp → q ≠ ip → q ≠ bp → H3724[q]? = s.heap[q]? := (fun q t hq h1 h2 n1 n2 n3 n4 n5 n6 n7 n8 n9 n10 n11 => (oH3724 _ n11).trans (f3675 q t hq h1 h2 n1 n2 n3 n4 n5 n6 n7 n8 n9 n10 n11))
        have f3762 : RFB K H3724 s.heap a0 := RFB.st f3676 (fun k hk => fR_kept (oH3724 _ (G_ne ga0 gbp (by decide))))
        have f3763 : ∀ j : Nat, j < 16 → fI H3724 kp j = fI s.heap ku j := fun j hj => (fI_kept (oH3724 _ (G_ne gkp gbp (by decide)))).trans (f3677 j hj)
        have f3764 : ∀ j : Nat, j < 16 → fI H3724 gp j = fI s.heap gu j := fun j hj => (fI_kept (oH3724 _ (G_ne ggp gbp (by decide)))).trans (f3678 j hj)
        have f3765 : ∀ j : Nat, j < 16 → fI H3724 hp j = fI s.heap hu j := fun j hj => (fI_kept (oH3724 _ (G_ne ghp gbp (by decide)))).trans (f3679 j hj)
        have f3766 : ∀ j : Nat, j < 16 → fI H3724 xp j = fI s.heap xu j := fun j hj => (fI_kept (oH3724 _ (G_ne gxp gbp (by decide)))).trans (f3680 j hj)
        have f3767 : ∀ j : Nat, j < 3 → fI H3724 lp j = fI s.heap lu j := fun j hj => (fI_kept (oH3724 _ (G_ne glp gbp (by decide)))).trans (f3681 j hj)
        have f3768 : ∀ j : Nat, j < 200 → fI H3724 ap j = fI s.heap au j := fun j hj => (fI_kept (oH3724 _ (G_ne gap gbp (by decide)))).trans (f3682 j hj)
        have f3769 : ∀ j : Nat, j < 200 → fI H3724 dp j = fI s.heap du j := fun j hj => (fI_kept (oH3724 _ (G_ne gdp gbp (by decide)))).trans (f3683 j hj)
        have f3770 : ∀ j : Nat, j < 12 → fI H3724 tp j = fI s.heap tu j := fun j hj => (fI_kept (oH3724 _ (G_ne gtp gbp (by decide)))).trans (f3684 j hj)
        have f3771 : ∀ j : Nat, j < 12 → fI H3724 ip j = fI s.heap iu j := fun j hj => (fI_kept (oH3724 _ (G_ne gip gbp (by decide)))).trans (f3685 j hj)
        have cp3772 : ∀ j : Nat, j < 2 → fI H3724 bp j = fI s.heap bu j := fun j hj => by have c00 : (0 : Int32).toNatClampNeg = 0 := rfl; have cnn : (2 : Int32).toNatClampNeg = 2 := rfl; have z := wH3724 j (by omega); rw [c00, Nat.zero_add] at z; exact z.trans (fI_kept (x_lt hT hSH3674.2.1 gbu (by decide)))
        exact x_vret C hQ dX0_copyFrom_250 hSH3724 (by decide) (by decide) (⟨x3575, x3576, x3577, rfl, m3725, m3726, m3727, m3728, m3729, m3730, m3731, m3732, m3733, m3734, m3735, m3736, m3737, m3738, m3739, (cpB (by rw [← m3725, ← eszu]; exact Int32.toInt_inj.mp (by omega)) (by rw [← m3726, ← epcu]; exact Int32.toInt_inj.mp (by omega)) (by rw [← m3727, ← elbu]; exact Int32.toInt_inj.mp (by omega)) (fun k h1 h7 => by have hk7 : k = 1 ∨ k = 2 ∨ k = 3 ∨ k = 4 ∨ k = 5 ∨ k = 6 ∨ k = 7 := (by omega); rcases hk7 with rfl | rfl | rfl | rfl | rfl | rfl | rfl; exact (fun j hj => by rw [← m3728, ← eku]; exact f3763 j hj); exact (fun j hj => by rw [← m3729, ← egu]; exact f3764 j hj); exact (fun j hj => by rw [← m3730, ← ehu]; exact f3765 j hj); exact (fun j hj => by rw [← m3731, ← exu]; exact f3766 j hj); exact (fun j hj => by rw [← m3732, ← elu]; exact f3767 j hj); exact (fun j hj => by rw [← m3733, ← eau]; exact f3768 j hj); exact (fun j hj => by rw [← m3734, ← edu]; exact f3769 j hj))), f3761, f3762, hTH3724⟩)
      · have k3580 := i_nle c3579
        refine lv_aload_n hx hb dX0_copyFrom_168 rfl (lv_at hl3573 1 rfl) ?_
        refine x_gr C hTH3571 (ci := 0) (k := 12) rfl inX0 (by decide) wF_X0_41 ga1 rg_1 rfl dX0_copyFrom_169 (fun q3773 eq3773 gq3773 => ?_)
        have uq3773 : Ku = q3773 := (cy3578_21).trans eq3773.symm
        subst uq3773
        refine lv_iload_n hx hb dX0_copyFrom_172 rfl (lv_at hl3573 2 rfl) ?_
        refine x_ar C hTH3571 rfl rfl gKu rg_11 ⟨bx3574.1, by show _ < ((12 : Nat) : Int); omega⟩ dX0_copyFrom_173 (fun q3774 eq3774 gq3774 => ?_)
        replace eq3774 : @Eq Ad q3774 (fR H3571 Ku (x3574 : Int32).toNatClampNeg) := eq3774
        refine lv_iconst (v := 0) hx hb dX0_copyFrom_174 (by decide) ?_
        refine lv_aload_n hx hb dX0_copyFrom_175 rfl (lv_at hl3573 0 rfl) ?_
        refine x_gr C hTH3571 (ci := 0) (k := 12) rfl inX0 (by decide) wF_X0_41 ga0 rg_35 rfl dX0_copyFrom_176 (fun q3775 eq3775 gq3775 => ?_)
        have uq3775 : Kp = q3775 := (cy3578_9).trans eq3775.symm
        subst uq3775
        refine lv_iload_n hx hb dX0_copyFrom_179 rfl (lv_at hl3573 2 rfl) ?_
        refine x_ar C hTH3571 rfl rfl gKp rg_45 ⟨bx3574.1, by show _ < ((12 : Nat) : Int); omega⟩ dX0_copyFrom_180 (fun q3776 eq3776 gq3776 => ?_)
        replace eq3776 : @Eq Ad q3776 (fR H3571 Kp (x3574 : Int32).toNatClampNeg) := eq3776
        refine lv_iconst (v := 0) hx hb dX0_copyFrom_181 (by decide) ?_
        refine lv_bipush (v := 16) hx hb dX0_copyFrom_182 (by decide) ?_
        refine x_copy C hTH3571 hSH3571 wM_X0_75 wNT_arraycopy wST_arraycopy wIN_J10 gq3774 gq3776 rg_12 rg_46 (by decide) (by omega) (by omega) (by omega) (by show _ ≤ ((16 : Nat) : Int); omega) (by show _ ≤ ((16 : Nat) : Int); omega) (AE_in gq3776 (by decide)) hl3573.1 (by decide) dX0_copyFrom_184 (fun H3777 locsH3777 hTH3777 hSH3777 zH3777 oH3777 vH3777 wH3777 => ?_)
        have m3778 := (ex3575).trans (fI_kept (oH3777 _ (G_ne ga0 gq3776 (by decide)))).symm
        have m3779 := (ex3576).trans (fI_kept (oH3777 _ (G_ne ga0 gq3776 (by decide)))).symm
        have m3780 := (ex3577).trans (fI_kept (oH3777 _ (G_ne ga0 gq3776 (by decide)))).symm
        have m3781 := (cy3578_0).trans (fR_kept (oH3777 _ (G_ne ga0 gq3776 (by decide)))).symm
        have m3782 := (cy3578_1).trans (fR_kept (oH3777 _ (G_ne ga0 gq3776 (by decide)))).symm
        have m3783 := (cy3578_2).trans (fR_kept (oH3777 _ (G_ne ga0 gq3776 (by decide)))).symm
        have m3784 := (cy3578_3).trans (fR_kept (oH3777 _ (G_ne ga0 gq3776 (by decide)))).symm
        have m3785 := (cy3578_4).trans (fR_kept (oH3777 _ (G_ne ga0 gq3776 (by decide)))).symm
        have m3786 := (cy3578_5).trans (fR_kept (oH3777 _ (G_ne ga0 gq3776 (by decide)))).symm
        have m3787 := (cy3578_6).trans (fR_kept (oH3777 _ (G_ne ga0 gq3776 (by decide)))).symm
        have m3788 := (cy3578_7).trans (fR_kept (oH3777 _ (G_ne ga0 gq3776 (by decide)))).symm
        have m3789 := (cy3578_8).trans (fR_kept (oH3777 _ (G_ne ga0 gq3776 (by decide)))).symm
        have m3790 := (cy3578_9).trans (fR_kept (oH3777 _ (G_ne ga0 gq3776 (by decide)))).symm
        have m3791 := (cy3578_10).trans (fR_kept (oH3777 _ (G_ne ga0 gq3776 (by decide)))).symm
        have m3792 := (cy3578_11).trans (fR_kept (oH3777 _ (G_ne ga0 gq3776 (by decide)))).symm
        have m3793 := (cy3578_12).trans (fR_kept (oH3777 _ (G_ne ga1 gq3776 (by decide)))).symm
        have m3794 := (cy3578_13).trans (fR_kept (oH3777 _ (G_ne ga1 gq3776 (by decide)))).symm
        have m3795 := (cy3578_14).trans (fR_kept (oH3777 _ (G_ne ga1 gq3776 (by decide)))).symm
        have m3796 := (cy3578_15).trans (fR_kept (oH3777 _ (G_ne ga1 gq3776 (by decide)))).symm
        have m3797 := (cy3578_16).trans (fR_kept (oH3777 _ (G_ne ga1 gq3776 (by decide)))).symm
        have m3798 := (cy3578_17).trans (fR_kept (oH3777 _ (G_ne ga1 gq3776 (by decide)))).symm
        have m3799 := (cy3578_18).trans (fR_kept (oH3777 _ (G_ne ga1 gq3776 (by decide)))).symm
        have m3800 := (cy3578_19).trans (fR_kept (oH3777 _ (G_ne ga1 gq3776 (by decide)))).symm
        have m3801 := (cy3578_20).trans (fR_kept (oH3777 _ (G_ne ga1 gq3776 (by decide)))).symm
        have m3802 := (cy3578_21).trans (fR_kept (oH3777 _ (G_ne ga1 gq3776 (by decide)))).symm
        have m3803 := (cy3578_22).trans (fR_kept (oH3777 _ (G_ne ga1 gq3776 (by decide)))).symm
        have m3804 := (cy3578_23).trans (fR_kept (oH3777 _ (G_ne ga1 gq3776 (by decide)))).symm
        have m3805 := (cy3578_24).trans (fI_kept (oH3777 _ (G_ne ga1 gq3776 (by decide)))).symm
        have m3806 := (cy3578_25).trans (fI_kept (oH3777 _ (G_ne ga1 gq3776 (by decide)))).symm
        have m3807 := (cy3578_26).trans (fI_kept (oH3777 _ (G_ne ga1 gq3776 (by decide)))).symm
        have f3808 : ∀ q t : Nat, G q = some t → t ≠ 46 → t ≠ 48 → q ≠ a0 → q ≠ kp → q ≠ gp → q ≠ hp → q ≠ xp → q ≠ lp → q ≠ ap → q ≠ dp → q ≠ tp → q ≠ ip → q ≠ bp → H3777[q]? = s.heap[q]? := (fun q t hq h1 h2 n1 n2 n3 n4 n5 n6 n7 n8 n9 n10 n11 => (oH3777 _ (G_ne hq gq3776 h1)).trans (fy3578_fx q t hq h1 h2 n1 n2 n3 n4 n5 n6 n7 n8 n9 n10 n11))
        have f3809 : RFB K H3777 s.heap a0 := RFB.st fy3578_rb (fun k hk => fR_kept (oH3777 _ (G_ne ga0 gq3776 (by decide))))
        have f3810 : ∀ j : Nat, j < 16 → fI H3777 kp j = fI s.heap ku j := fun j hj => (fI_kept (oH3777 _ (G_ne gkp gq3776 (by decide)))).trans (hc_kp j hj)
        have f3811 : ∀ j : Nat, j < 16 → fI H3777 gp j = fI s.heap gu j := fun j hj => (fI_kept (oH3777 _ (G_ne ggp gq3776 (by decide)))).trans (hc_gp j hj)
        have f3812 : ∀ j : Nat, j < 16 → fI H3777 hp j = fI s.heap hu j := fun j hj => (fI_kept (oH3777 _ (G_ne ghp gq3776 (by decide)))).trans (hc_hp j hj)
        have f3813 : ∀ j : Nat, j < 16 → fI H3777 xp j = fI s.heap xu j := fun j hj => (fI_kept (oH3777 _ (G_ne gxp gq3776 (by decide)))).trans (hc_xp j hj)
        have f3814 : ∀ j : Nat, j < 3 → fI H3777 lp j = fI s.heap lu j := fun j hj => (fI_kept (oH3777 _ (G_ne glp gq3776 (by decide)))).trans (hc_lp j hj)
        have f3815 : ∀ j : Nat, j < 200 → fI H3777 ap j = fI s.heap au j := fun j hj => (fI_kept (oH3777 _ (G_ne gap gq3776 (by decide)))).trans (hc_ap j hj)
        have f3816 : ∀ j : Nat, j < 200 → fI H3777 dp j = fI s.heap du j := fun j hj => (fI_kept (oH3777 _ (G_ne gdp gq3776 (by decide)))).trans (hc_dp j hj)
        have f3817 : ∀ j : Nat, j < 12 → fI H3777 tp j = fI s.heap tu j := fun j hj => (fI_kept (oH3777 _ (G_ne gtp gq3776 (by decide)))).trans (hc_tp j hj)
        have f3818 : ∀ j : Nat, j < 12 → fI H3777 ip j = fI s.heap iu j := fun j hj => (fI_kept (oH3777 _ (G_ne gip gq3776 (by decide)))).trans (hc_ip j hj)
        refine lv_aload_n hx hb dX0_copyFrom_187 rfl (lv_at hl3573 1 rfl) ?_
        refine x_gr C hTH3777 (ci := 0) (k := 13) rfl inX0 (by decide) wF_X0_44 ga1 rg_1 rfl dX0_copyFrom_188 (fun q3819 eq3819 gq3819 => ?_)
        have uq3819 : Xu = q3819 := (m3803).trans eq3819.symm
        subst uq3819
        refine lv_iload_n hx hb dX0_copyFrom_191 rfl (lv_at hl3573 2 rfl) ?_
        refine x_ar C hTH3777 rfl rfl gXu rg_13 ⟨bx3574.1, by show _ < ((12 : Nat) : Int); omega⟩ dX0_copyFrom_192 (fun q3820 eq3820 gq3820 => ?_)
        replace eq3820 : @Eq Ad q3820 (fR H3777 Xu (x3574 : Int32).toNatClampNeg) := eq3820
        refine lv_iconst (v := 0) hx hb dX0_copyFrom_193 (by decide) ?_
        refine lv_aload_n hx hb dX0_copyFrom_194 rfl (lv_at hl3573 0 rfl) ?_
        refine x_gr C hTH3777 (ci := 0) (k := 13) rfl inX0 (by decide) wF_X0_44 ga0 rg_35 rfl dX0_copyFrom_195 (fun q3821 eq3821 gq3821 => ?_)
        have uq3821 : Xp = q3821 := (m3791).trans eq3821.symm
        subst uq3821
        refine lv_iload_n hx hb dX0_copyFrom_198 rfl (lv_at hl3573 2 rfl) ?_
        refine x_ar C hTH3777 rfl rfl gXp rg_47 ⟨bx3574.1, by show _ < ((12 : Nat) : Int); omega⟩ dX0_copyFrom_199 (fun q3822 eq3822 gq3822 => ?_)
        replace eq3822 : @Eq Ad q3822 (fR H3777 Xp (x3574 : Int32).toNatClampNeg) := eq3822
        refine lv_iconst (v := 0) hx hb dX0_copyFrom_200 (by decide) ?_
        refine lv_bipush (v := 16) hx hb dX0_copyFrom_201 (by decide) ?_
        refine x_copy C hTH3777 hSH3777 wM_X0_75 wNT_arraycopy wST_arraycopy wIN_J10 gq3820 gq3822 rg_14 rg_48 (by decide) (by omega) (by omega) (by omega) (by show _ ≤ ((16 : Nat) : Int); omega) (by show _ ≤ ((16 : Nat) : Int); omega) (AE_in gq3822 (by decide)) hl3573.1 (by decide) dX0_copyFrom_203 (fun H3823 locsH3823 hTH3823 hSH3823 zH3823 oH3823 vH3823 wH3823 => ?_)
        have m3824 := (m3778).trans (fI_kept (oH3823 _ (G_ne ga0 gq3822 (by decide)))).symm
        have m3825 := (m3779).trans (fI_kept (oH3823 _ (G_ne ga0 gq3822 (by decide)))).symm
        have m3826 := (m3780).trans (fI_kept (oH3823 _ (G_ne ga0 gq3822 (by decide)))).symm
        have m3827 := (m3781).trans (fR_kept (oH3823 _ (G_ne ga0 gq3822 (by decide)))).symm
        have m3828 := (m3782).trans (fR_kept (oH3823 _ (G_ne ga0 gq3822 (by decide)))).symm
        have m3829 := (m3783).trans (fR_kept (oH3823 _ (G_ne ga0 gq3822 (by decide)))).symm
        have m3830 := (m3784).trans (fR_kept (oH3823 _ (G_ne ga0 gq3822 (by decide)))).symm
        have m3831 := (m3785).trans (fR_kept (oH3823 _ (G_ne ga0 gq3822 (by decide)))).symm
        have m3832 := (m3786).trans (fR_kept (oH3823 _ (G_ne ga0 gq3822 (by decide)))).symm
        have m3833 := (m3787).trans (fR_kept (oH3823 _ (G_ne ga0 gq3822 (by decide)))).symm
        have m3834 := (m3788).trans (fR_kept (oH3823 _ (G_ne ga0 gq3822 (by decide)))).symm
        have m3835 := (m3789).trans (fR_kept (oH3823 _ (G_ne ga0 gq3822 (by decide)))).symm
        have m3836 := (m3790).trans (fR_kept (oH3823 _ (G_ne ga0 gq3822 (by decide)))).symm
        have m3837 := (m3791).trans (fR_kept (oH3823 _ (G_ne ga0 gq3822 (by decide)))).symm
        have m3838 := (m3792).trans (fR_kept (oH3823 _ (G_ne ga0 gq3822 (by decide)))).symm
        have m3839 := (m3793).trans (fR_kept (oH3823 _ (G_ne ga1 gq3822 (by decide)))).symm
        have m3840 := (m3794).trans (fR_kept (oH3823 _ (G_ne ga1 gq3822 (by decide)))).symm
        have m3841 := (m3795).trans (fR_kept (oH3823 _ (G_ne ga1 gq3822 (by decide)))).symm
        have m3842 := (m3796).trans (fR_kept (oH3823 _ (G_ne ga1 gq3822 (by decide)))).symm
        have m3843 := (m3797).trans (fR_kept (oH3823 _ (G_ne ga1 gq3822 (by decide)))).symm
        have m3844 := (m3798).trans (fR_kept (oH3823 _ (G_ne ga1 gq3822 (by decide)))).symm
        have m3845 := (m3799).trans (fR_kept (oH3823 _ (G_ne ga1 gq3822 (by decide)))).symm
        have m3846 := (m3800).trans (fR_kept (oH3823 _ (G_ne ga1 gq3822 (by decide)))).symm
        have m3847 := (m3801).trans (fR_kept (oH3823 _ (G_ne ga1 gq3822 (by decide)))).symm
        have m3848 := (m3802).trans (fR_kept (oH3823 _ (G_ne ga1 gq3822 (by decide)))).symm
        have m3849 := (m3803).trans (fR_kept (oH3823 _ (G_ne ga1 gq3822 (by decide)))).symm
        have m3850 := (m3804).trans (fR_kept (oH3823 _ (G_ne ga1 gq3822 (by decide)))).symm
        have m3851 := (m3805).trans (fI_kept (oH3823 _ (G_ne ga1 gq3822 (by decide)))).symm
        have m3852 := (m3806).trans (fI_kept (oH3823 _ (G_ne ga1 gq3822 (by decide)))).symm
        have m3853 := (m3807).trans (fI_kept (oH3823 _ (G_ne ga1 gq3822 (by decide)))).symm
        have f3854 : ∀ q t : Nat, G q = some t → t ≠ 46 → t ≠ 48 → q ≠ a0 → q ≠ kp → q ≠ gp → q ≠ hp → q ≠ xp → q ≠ lp → q ≠ ap → q ≠ dp → q ≠ tp → q ≠ ip → q ≠ bp → H3823[q]? = s.heap[q]? := (fun q t hq h1 h2 n1 n2 n3 n4 n5 n6 n7 n8 n9 n10 n11 => (oH3823 _ (G_ne hq gq3822 h2)).trans (f3808 q t hq h1 h2 n1 n2 n3 n4 n5 n6 n7 n8 n9 n10 n11))
        have f3855 : RFB K H3823 s.heap a0 := RFB.st f3809 (fun k hk => fR_kept (oH3823 _ (G_ne ga0 gq3822 (by decide))))
        have f3856 : ∀ j : Nat, j < 16 → fI H3823 kp j = fI s.heap ku j := fun j hj => (fI_kept (oH3823 _ (G_ne gkp gq3822 (by decide)))).trans (f3810 j hj)
        have f3857 : ∀ j : Nat, j < 16 → fI H3823 gp j = fI s.heap gu j := fun j hj => (fI_kept (oH3823 _ (G_ne ggp gq3822 (by decide)))).trans (f3811 j hj)
        have f3858 : ∀ j : Nat, j < 16 → fI H3823 hp j = fI s.heap hu j := fun j hj => (fI_kept (oH3823 _ (G_ne ghp gq3822 (by decide)))).trans (f3812 j hj)
        have f3859 : ∀ j : Nat, j < 16 → fI H3823 xp j = fI s.heap xu j := fun j hj => (fI_kept (oH3823 _ (G_ne gxp gq3822 (by decide)))).trans (f3813 j hj)
        have f3860 : ∀ j : Nat, j < 3 → fI H3823 lp j = fI s.heap lu j := fun j hj => (fI_kept (oH3823 _ (G_ne glp gq3822 (by decide)))).trans (f3814 j hj)
        have f3861 : ∀ j : Nat, j < 200 → fI H3823 ap j = fI s.heap au j := fun j hj => (fI_kept (oH3823 _ (G_ne gap gq3822 (by decide)))).trans (f3815 j hj)
        have f3862 : ∀ j : Nat, j < 200 → fI H3823 dp j = fI s.heap du j := fun j hj => (fI_kept (oH3823 _ (G_ne gdp gq3822 (by decide)))).trans (f3816 j hj)
        have f3863 : ∀ j : Nat, j < 12 → fI H3823 tp j = fI s.heap tu j := fun j hj => (fI_kept (oH3823 _ (G_ne gtp gq3822 (by decide)))).trans (f3817 j hj)
        have f3864 : ∀ j : Nat, j < 12 → fI H3823 ip j = fI s.heap iu j := fun j hj => (fI_kept (oH3823 _ (G_ne gip gq3822 (by decide)))).trans (f3818 j hj)
        obtain ⟨x3865, ex3865⟩ : ∃ y : Int32, y = x3574 + 1 := ⟨_, rfl⟩
        have tx3865 := i_add ex3865 (by omega)
        refine lv_iinc (v := x3865) (lv' := [(2, .int x3865), (0, .ref a0), (1, .ref a1)]) hx hb dX0_copyFrom_206 hl3573 (k := 2) rfl (by rw [ex3865]; rfl) (by decide) rfl (fun ls3866 hl3867 => ?_)
        refine lv_goto (tgt := 162) hx hb dX0_copyFrom_209 (by decide) ?_
        exact ih162  ls3866 H3823 locsH3823 (x3865) (x3575) (x3576) (x3577) (lv_sub hl3867 [1, 2, 0] rfl) hTH3823 hSH3823 (by have := i_rng x3865; omega) bx3575 bx3576 m3824 m3825 m3826 m3827 m3828 m3829 m3830 m3831 m3832 m3833 m3834 m3835 m3836 m3837 m3838 m3839 m3840 m3841 m3842 m3843 m3844 m3845 m3846 m3847 m3848 m3849 m3850 m3851 m3852 m3853 f3854 f3855 (by omega) (by omega) f3856 f3857 f3858 f3859 f3860 f3861 f3862 f3863 f3864
  refine lv_aload_n hx hb dX0_copyFrom_0 rfl (lv_at hl 0 rfl) ?_
  refine lv_aload_n hx hb dX0_copyFrom_1 rfl (lv_at hl 1 rfl) ?_
  refine x_gi C hT (ci := 0) (k := 0) rfl inX0 (by decide) wF_X0_50 ga1 rg_1 rfl dX0_copyFrom_2 (fun x3868 ex3868 bx3868 => ?_)
  have ux3868 : szu = x3868 := (eszu).trans ex3868.symm
  subst ux3868
  refine x_put C hT hS (ci := 0) (k := 0) (v := .int szu) (ty0 := tyX0) rfl inX0 tyX0_ok nmX0 (by decide) rfl wF_X0_50 ga0 rg_35 rfl rfl (okI (by omega) (by omega)) rfl rfl (AE_in ga0 (by decide)) dX0_copyFrom_5 (fun H3869 locsH3869 hTH3869 hSH3869 wH3869 => ?_)
  have f3870 : ∀ q t : Nat, G q = some t → t ≠ 46 → t ≠ 48 → q ≠ a0 → q ≠ kp → q ≠ gp → q ≠ hp → q ≠ xp → q ≠ lp → q ≠ ap → q ≠ dp → q ≠ tp → q ≠ ip → q ≠ bp → H3869[q]? = s.heap[q]? := (fun q t hq h1 h2 n1 n2 n3 n4 n5 n6 n7 n8 n9 n10 n11 => (wH3869.off n1).trans (f0_fx q t hq h1 h2 n1 n2 n3 n4 n5 n6 n7 n8 n9 n10 n11))
  have f3871 : RFB K H3869 s.heap a0 := RFB.st f0_rb (fun k hk => Wr.neR wH3869 (Or.inr (hapB k _ (by omega) (by decide) (by omega))))
  have m3872 := ekp.trans (Wr.neR wH3869 (Or.inr (x_apart hKT hts inX0 tyX0 tyX0_ok nmX0 rfl 1 0 (by decide) (by decide) (by decide)))).symm
  have m3873 := egp.trans (Wr.neR wH3869 (Or.inr (x_apart hKT hts inX0 tyX0 tyX0_ok nmX0 rfl 2 0 (by decide) (by decide) (by decide)))).symm
  have m3874 := ehp.trans (Wr.neR wH3869 (Or.inr (x_apart hKT hts inX0 tyX0 tyX0_ok nmX0 rfl 3 0 (by decide) (by decide) (by decide)))).symm
  have m3875 := exp.trans (Wr.neR wH3869 (Or.inr (x_apart hKT hts inX0 tyX0 tyX0_ok nmX0 rfl 4 0 (by decide) (by decide) (by decide)))).symm
  have m3876 := elp.trans (Wr.neR wH3869 (Or.inr (x_apart hKT hts inX0 tyX0 tyX0_ok nmX0 rfl 5 0 (by decide) (by decide) (by decide)))).symm
  have m3877 := eap.trans (Wr.neR wH3869 (Or.inr (x_apart hKT hts inX0 tyX0 tyX0_ok nmX0 rfl 6 0 (by decide) (by decide) (by decide)))).symm
  have m3878 := edp.trans (Wr.neR wH3869 (Or.inr (x_apart hKT hts inX0 tyX0 tyX0_ok nmX0 rfl 7 0 (by decide) (by decide) (by decide)))).symm
  have m3879 := etp.trans (Wr.neR wH3869 (Or.inr (x_apart hKT hts inX0 tyX0 tyX0_ok nmX0 rfl 10 0 (by decide) (by decide) (by decide)))).symm
  have m3880 := eip.trans (Wr.neR wH3869 (Or.inr (x_apart hKT hts inX0 tyX0 tyX0_ok nmX0 rfl 11 0 (by decide) (by decide) (by decide)))).symm
  have m3881 := eKp.trans (Wr.neR wH3869 (Or.inr (x_apart hKT hts inX0 tyX0 tyX0_ok nmX0 rfl 12 0 (by decide) (by decide) (by decide)))).symm
  have m3882 := eXp.trans (Wr.neR wH3869 (Or.inr (x_apart hKT hts inX0 tyX0 tyX0_ok nmX0 rfl 13 0 (by decide) (by decide) (by decide)))).symm
  have m3883 := ebp.trans (Wr.neR wH3869 (Or.inr (x_apart hKT hts inX0 tyX0 tyX0_ok nmX0 rfl 17 0 (by decide) (by decide) (by decide)))).symm
  have m3884 := eku.trans (Wr.neR wH3869 (Or.inl (G_ne ga1 ga0 (by decide)))).symm
  have m3885 := egu.trans (Wr.neR wH3869 (Or.inl (G_ne ga1 ga0 (by decide)))).symm
  have m3886 := ehu.trans (Wr.neR wH3869 (Or.inl (G_ne ga1 ga0 (by decide)))).symm
  have m3887 := exu.trans (Wr.neR wH3869 (Or.inl (G_ne ga1 ga0 (by decide)))).symm
  have m3888 := elu.trans (Wr.neR wH3869 (Or.inl (G_ne ga1 ga0 (by decide)))).symm
  have m3889 := eau.trans (Wr.neR wH3869 (Or.inl (G_ne ga1 ga0 (by decide)))).symm
  have m3890 := edu.trans (Wr.neR wH3869 (Or.inl (G_ne ga1 ga0 (by decide)))).symm
  have m3891 := etu.trans (Wr.neR wH3869 (Or.inl (G_ne ga1 ga0 (by decide)))).symm
  have m3892 := eiu.trans (Wr.neR wH3869 (Or.inl (G_ne ga1 ga0 (by decide)))).symm
  have m3893 := eKu.trans (Wr.neR wH3869 (Or.inl (G_ne ga1 ga0 (by decide)))).symm
  have m3894 := eXu.trans (Wr.neR wH3869 (Or.inl (G_ne ga1 ga0 (by decide)))).symm
  have m3895 := ebu.trans (Wr.neR wH3869 (Or.inl (G_ne ga1 ga0 (by decide)))).symm
  have m3897 := epc.trans (Wr.neI wH3869 (Or.inr (x_apart hKT hts inX0 tyX0 tyX0_ok nmX0 rfl 8 0 (by decide) (by decide) (by decide)))).symm
  have m3898 := elb.trans (Wr.neI wH3869 (Or.inr (x_apart hKT hts inX0 tyX0 tyX0_ok nmX0 rfl 9 0 (by decide) (by decide) (by decide)))).symm
  have m3899 := eszu.trans (Wr.neI wH3869 (Or.inl (G_ne ga1 ga0 (by decide)))).symm
  have m3900 := epcu.trans (Wr.neI wH3869 (Or.inl (G_ne ga1 ga0 (by decide)))).symm
  have m3901 := elbu.trans (Wr.neI wH3869 (Or.inl (G_ne ga1 ga0 (by decide)))).symm
  have m3902 := Wr.I wH3869
  have m3902 := m3902.symm
  refine lv_aload_n hx hb dX0_copyFrom_8 rfl (lv_at hl 1 rfl) ?_
  refine x_gr C hTH3869 (ci := 0) (k := 1) rfl inX0 (by decide) wF_X0_9 ga1 rg_1 rfl dX0_copyFrom_9 (fun q3903 eq3903 gq3903 => ?_)
  have uq3903 : ku = q3903 := (m3884).trans eq3903.symm
  subst uq3903
  refine lv_iconst (v := 0) hx hb dX0_copyFrom_12 (by decide) ?_
  refine lv_aload_n hx hb dX0_copyFrom_13 rfl (lv_at hl 0 rfl) ?_
  refine x_gr C hTH3869 (ci := 0) (k := 1) rfl inX0 (by decide) wF_X0_9 ga0 rg_35 rfl dX0_copyFrom_14 (fun q3904 eq3904 gq3904 => ?_)
  have uq3904 : kp = q3904 := (m3872).trans eq3904.symm
  subst uq3904
  refine lv_iconst (v := 0) hx hb dX0_copyFrom_17 (by decide) ?_
  refine lv_bipush (v := 16) hx hb dX0_copyFrom_18 (by decide) ?_
  refine x_copy C hTH3869 hSH3869 wM_X0_75 wNT_arraycopy wST_arraycopy wIN_J10 gku gkp rg_2 rg_36 (by decide) (by omega) (by omega) (by omega) (by show _ ≤ ((16 : Nat) : Int); omega) (by show _ ≤ ((16 : Nat) : Int); omega) (AE_in gkp (by decide)) hl.1 (by decide) dX0_copyFrom_20 (fun H3905 locsH3905 hTH3905 hSH3905 zH3905 oH3905 vH3905 wH3905 => ?_)
  have m3906 := (m3872).trans (fR_kept (oH3905 _ (G_ne ga0 gkp (by decide)))).symm
  have m3907 := (m3873).trans (fR_kept (oH3905 _ (G_ne ga0 gkp (by decide)))).symm
  have m3908 := (m3874).trans (fR_kept (oH3905 _ (G_ne ga0 gkp (by decide)))).symm
  have m3909 := (m3875).trans (fR_kept (oH3905 _ (G_ne ga0 gkp (by decide)))).symm
  have m3910 := (m3876).trans (fR_kept (oH3905 _ (G_ne ga0 gkp (by decide)))).symm
  have m3911 := (m3877).trans (fR_kept (oH3905 _ (G_ne ga0 gkp (by decide)))).symm
  have m3912 := (m3878).trans (fR_kept (oH3905 _ (G_ne ga0 gkp (by decide)))).symm
  have m3913 := (m3879).trans (fR_kept (oH3905 _ (G_ne ga0 gkp (by decide)))).symm
  have m3914 := (m3880).trans (fR_kept (oH3905 _ (G_ne ga0 gkp (by decide)))).symm
  have m3915 := (m3881).trans (fR_kept (oH3905 _ (G_ne ga0 gkp (by decide)))).symm
  have m3916 := (m3882).trans (fR_kept (oH3905 _ (G_ne ga0 gkp (by decide)))).symm
  have m3917 := (m3883).trans (fR_kept (oH3905 _ (G_ne ga0 gkp (by decide)))).symm
  have m3918 := (m3884).trans (fR_kept (oH3905 _ (G_ne ga1 gkp (by decide)))).symm
  have m3919 := (m3885).trans (fR_kept (oH3905 _ (G_ne ga1 gkp (by decide)))).symm
  have m3920 := (m3886).trans (fR_kept (oH3905 _ (G_ne ga1 gkp (by decide)))).symm
  have m3921 := (m3887).trans (fR_kept (oH3905 _ (G_ne ga1 gkp (by decide)))).symm
  have m3922 := (m3888).trans (fR_kept (oH3905 _ (G_ne ga1 gkp (by decide)))).symm
  have m3923 := (m3889).trans (fR_kept (oH3905 _ (G_ne ga1 gkp (by decide)))).symm
  have m3924 := (m3890).trans (fR_kept (oH3905 _ (G_ne ga1 gkp (by decide)))).symm
  have m3925 := (m3891).trans (fR_kept (oH3905 _ (G_ne ga1 gkp (by decide)))).symm
  have m3926 := (m3892).trans (fR_kept (oH3905 _ (G_ne ga1 gkp (by decide)))).symm
  have m3927 := (m3893).trans (fR_kept (oH3905 _ (G_ne ga1 gkp (by decide)))).symm
  have m3928 := (m3894).trans (fR_kept (oH3905 _ (G_ne ga1 gkp (by decide)))).symm
  have m3929 := (m3895).trans (fR_kept (oH3905 _ (G_ne ga1 gkp (by decide)))).symm
  have m3930 := (m3897).trans (fI_kept (oH3905 _ (G_ne ga0 gkp (by decide)))).symm
  have m3931 := (m3898).trans (fI_kept (oH3905 _ (G_ne ga0 gkp (by decide)))).symm
  have m3932 := (m3899).trans (fI_kept (oH3905 _ (G_ne ga1 gkp (by decide)))).symm
  have m3933 := (m3900).trans (fI_kept (oH3905 _ (G_ne ga1 gkp (by decide)))).symm
  have m3934 := (m3901).trans (fI_kept (oH3905 _ (G_ne ga1 gkp (by decide)))).symm
  have m3935 := (m3902).trans (fI_kept (oH3905 _ (G_ne ga0 gkp (by decide)))).symm
  have f3936 : ∀ q t : Nat, G q = some t → t ≠ 46 → t ≠ 48 → q ≠ a0 → q ≠ kp → q ≠ gp → q ≠ hp → q ≠ xp → q ≠ lp → q ≠ ap → q ≠ dp → q ≠ tp → q ≠ ip → q ≠ bp → H3905[q]? = s.heap[q]? := (fun q t hq h1 h2 n1 n2 n3 n4 n5 n6 n7 n8 n9 n10 n11 => (oH3905 _ n2).trans (f3870 q t hq h1 h2 n1 n2 n3 n4 n5 n6 n7 n8 n9 n10 n11))
  have f3937 : RFB K H3905 s.heap a0 := RFB.st f3871 (fun k hk => fR_kept (oH3905 _ (G_ne ga0 gkp (by decide))))
  have cp3938 : ∀ j : Nat, j < 16 → fI H3905 kp j = fI s.heap ku j := fun j hj => by have c00 : (0 : Int32).toNatClampNeg = 0 := rfl; have cnn : (16 : Int32).toNatClampNeg = 16 := rfl; have z := wH3905 j (by omega); rw [c00, Nat.zero_add] at z; exact z.trans (fI_kept (x_lt hT hSH3869.2.1 gku (by decide)))
  refine lv_aload_n hx hb dX0_copyFrom_23 rfl (lv_at hl 1 rfl) ?_
  refine x_gr C hTH3905 (ci := 0) (k := 2) rfl inX0 (by decide) wF_X0_15 ga1 rg_1 rfl dX0_copyFrom_24 (fun q3939 eq3939 gq3939 => ?_)
  have uq3939 : gu = q3939 := (m3919).trans eq3939.symm
  subst uq3939
  refine lv_iconst (v := 0) hx hb dX0_copyFrom_27 (by decide) ?_
  refine lv_aload_n hx hb dX0_copyFrom_28 rfl (lv_at hl 0 rfl) ?_
  refine x_gr C hTH3905 (ci := 0) (k := 2) rfl inX0 (by decide) wF_X0_15 ga0 rg_35 rfl dX0_copyFrom_29 (fun q3940 eq3940 gq3940 => ?_)
  have uq3940 : gp = q3940 := (m3907).trans eq3940.symm
  subst uq3940
  refine lv_iconst (v := 0) hx hb dX0_copyFrom_32 (by decide) ?_
  refine lv_bipush (v := 16) hx hb dX0_copyFrom_33 (by decide) ?_
  refine x_copy C hTH3905 hSH3905 wM_X0_75 wNT_arraycopy wST_arraycopy wIN_J10 ggu ggp rg_3 rg_37 (by decide) (by omega) (by omega) (by omega) (by show _ ≤ ((16 : Nat) : Int); omega) (by show _ ≤ ((16 : Nat) : Int); omega) (AE_in ggp (by decide)) hl.1 (by decide) dX0_copyFrom_35 (fun H3941 locsH3941 hTH3941 hSH3941 zH3941 oH3941 vH3941 wH3941 => ?_)
  have m3942 := (m3906).trans (fR_kept (oH3941 _ (G_ne ga0 ggp (by decide)))).symm
  have m3943 := (m3907).trans (fR_kept (oH3941 _ (G_ne ga0 ggp (by decide)))).symm
  have m3944 := (m3908).trans (fR_kept (oH3941 _ (G_ne ga0 ggp (by decide)))).symm
  have m3945 := (m3909).trans (fR_kept (oH3941 _ (G_ne ga0 ggp (by decide)))).symm
  have m3946 := (m3910).trans (fR_kept (oH3941 _ (G_ne ga0 ggp (by decide)))).symm
  have m3947 := (m3911).trans (fR_kept (oH3941 _ (G_ne ga0 ggp (by decide)))).symm
  have m3948 := (m3912).trans (fR_kept (oH3941 _ (G_ne ga0 ggp (by decide)))).symm
  have m3949 := (m3913).trans (fR_kept (oH3941 _ (G_ne ga0 ggp (by decide)))).symm
  have m3950 := (m3914).trans (fR_kept (oH3941 _ (G_ne ga0 ggp (by decide)))).symm
  have m3951 := (m3915).trans (fR_kept (oH3941 _ (G_ne ga0 ggp (by decide)))).symm
  have m3952 := (m3916).trans (fR_kept (oH3941 _ (G_ne ga0 ggp (by decide)))).symm
  have m3953 := (m3917).trans (fR_kept (oH3941 _ (G_ne ga0 ggp (by decide)))).symm
  have m3954 := (m3918).trans (fR_kept (oH3941 _ (G_ne ga1 ggp (by decide)))).symm
  have m3955 := (m3919).trans (fR_kept (oH3941 _ (G_ne ga1 ggp (by decide)))).symm
  have m3956 := (m3920).trans (fR_kept (oH3941 _ (G_ne ga1 ggp (by decide)))).symm
  have m3957 := (m3921).trans (fR_kept (oH3941 _ (G_ne ga1 ggp (by decide)))).symm
  have m3958 := (m3922).trans (fR_kept (oH3941 _ (G_ne ga1 ggp (by decide)))).symm
  have m3959 := (m3923).trans (fR_kept (oH3941 _ (G_ne ga1 ggp (by decide)))).symm
  have m3960 := (m3924).trans (fR_kept (oH3941 _ (G_ne ga1 ggp (by decide)))).symm
  have m3961 := (m3925).trans (fR_kept (oH3941 _ (G_ne ga1 ggp (by decide)))).symm
  have m3962 := (m3926).trans (fR_kept (oH3941 _ (G_ne ga1 ggp (by decide)))).symm
  have m3963 := (m3927).trans (fR_kept (oH3941 _ (G_ne ga1 ggp (by decide)))).symm
  have m3964 := (m3928).trans (fR_kept (oH3941 _ (G_ne ga1 ggp (by decide)))).symm
  have m3965 := (m3929).trans (fR_kept (oH3941 _ (G_ne ga1 ggp (by decide)))).symm
  have m3966 := (m3930).trans (fI_kept (oH3941 _ (G_ne ga0 ggp (by decide)))).symm
  have m3967 := (m3931).trans (fI_kept (oH3941 _ (G_ne ga0 ggp (by decide)))).symm
  have m3968 := (m3932).trans (fI_kept (oH3941 _ (G_ne ga1 ggp (by decide)))).symm
  have m3969 := (m3933).trans (fI_kept (oH3941 _ (G_ne ga1 ggp (by decide)))).symm
  have m3970 := (m3934).trans (fI_kept (oH3941 _ (G_ne ga1 ggp (by decide)))).symm
  have m3971 := (m3935).trans (fI_kept (oH3941 _ (G_ne ga0 ggp (by decide)))).symm
  have f3972 : ∀ q t : Nat, G q = some t → t ≠ 46 → t ≠ 48 → q ≠ a0 → q ≠ kp → q ≠ gp → q ≠ hp → q ≠ xp → q ≠ lp → q ≠ ap → q ≠ dp → q ≠ tp → q ≠ ip → q ≠ bp → H3941[q]? = s.heap[q]? := (fun q t hq h1 h2 n1 n2 n3 n4 n5 n6 n7 n8 n9 n10 n11 => (oH3941 _ n3).trans (f3936 q t hq h1 h2 n1 n2 n3 n4 n5 n6 n7 n8 n9 n10 n11))
  have f3973 : RFB K H3941 s.heap a0 := RFB.st f3937 (fun k hk => fR_kept (oH3941 _ (G_ne ga0 ggp (by decide))))
  have f3974 : ∀ j : Nat, j < 16 → fI H3941 kp j = fI s.heap ku j := fun j hj => (fI_kept (oH3941 _ (G_ne gkp ggp (by decide)))).trans (cp3938 j hj)
  have cp3975 : ∀ j : Nat, j < 16 → fI H3941 gp j = fI s.heap gu j := fun j hj => by have c00 : (0 : Int32).toNatClampNeg = 0 := rfl; have cnn : (16 : Int32).toNatClampNeg = 16 := rfl; have z := wH3941 j (by omega); rw [c00, Nat.zero_add] at z; exact z.trans (fI_kept (x_lt hT hSH3905.2.1 ggu (by decide)))
  refine lv_aload_n hx hb dX0_copyFrom_38 rfl (lv_at hl 1 rfl) ?_
  refine x_gr C hTH3941 (ci := 0) (k := 3) rfl inX0 (by decide) wF_X0_18 ga1 rg_1 rfl dX0_copyFrom_39 (fun q3976 eq3976 gq3976 => ?_)
  have uq3976 : hu = q3976 := (m3956).trans eq3976.symm
  subst uq3976
  refine lv_iconst (v := 0) hx hb dX0_copyFrom_42 (by decide) ?_
  refine lv_aload_n hx hb dX0_copyFrom_43 rfl (lv_at hl 0 rfl) ?_
  refine x_gr C hTH3941 (ci := 0) (k := 3) rfl inX0 (by decide) wF_X0_18 ga0 rg_35 rfl dX0_copyFrom_44 (fun q3977 eq3977 gq3977 => ?_)
  have uq3977 : hp = q3977 := (m3944).trans eq3977.symm
  subst uq3977
  refine lv_iconst (v := 0) hx hb dX0_copyFrom_47 (by decide) ?_
  refine lv_bipush (v := 16) hx hb dX0_copyFrom_48 (by decide) ?_
  refine x_copy C hTH3941 hSH3941 wM_X0_75 wNT_arraycopy wST_arraycopy wIN_J10 ghu ghp rg_4 rg_38 (by decide) (by omega) (by omega) (by omega) (by show _ ≤ ((16 : Nat) : Int); omega) (by show _ ≤ ((16 : Nat) : Int); omega) (AE_in ghp (by decide)) hl.1 (by decide) dX0_copyFrom_50 (fun H3978 locsH3978 hTH3978 hSH3978 zH3978 oH3978 vH3978 wH3978 => ?_)
  have m3979 := (m3942).trans (fR_kept (oH3978 _ (G_ne ga0 ghp (by decide)))).symm
  have m3980 := (m3943).trans (fR_kept (oH3978 _ (G_ne ga0 ghp (by decide)))).symm
  have m3981 := (m3944).trans (fR_kept (oH3978 _ (G_ne ga0 ghp (by decide)))).symm
  have m3982 := (m3945).trans (fR_kept (oH3978 _ (G_ne ga0 ghp (by decide)))).symm
  have m3983 := (m3946).trans (fR_kept (oH3978 _ (G_ne ga0 ghp (by decide)))).symm
  have m3984 := (m3947).trans (fR_kept (oH3978 _ (G_ne ga0 ghp (by decide)))).symm
  have m3985 := (m3948).trans (fR_kept (oH3978 _ (G_ne ga0 ghp (by decide)))).symm
  have m3986 := (m3949).trans (fR_kept (oH3978 _ (G_ne ga0 ghp (by decide)))).symm
  have m3987 := (m3950).trans (fR_kept (oH3978 _ (G_ne ga0 ghp (by decide)))).symm
  have m3988 := (m3951).trans (fR_kept (oH3978 _ (G_ne ga0 ghp (by decide)))).symm
  have m3989 := (m3952).trans (fR_kept (oH3978 _ (G_ne ga0 ghp (by decide)))).symm
  have m3990 := (m3953).trans (fR_kept (oH3978 _ (G_ne ga0 ghp (by decide)))).symm
  have m3991 := (m3954).trans (fR_kept (oH3978 _ (G_ne ga1 ghp (by decide)))).symm
  have m3992 := (m3955).trans (fR_kept (oH3978 _ (G_ne ga1 ghp (by decide)))).symm
  have m3993 := (m3956).trans (fR_kept (oH3978 _ (G_ne ga1 ghp (by decide)))).symm
  have m3994 := (m3957).trans (fR_kept (oH3978 _ (G_ne ga1 ghp (by decide)))).symm
  have m3995 := (m3958).trans (fR_kept (oH3978 _ (G_ne ga1 ghp (by decide)))).symm
  have m3996 := (m3959).trans (fR_kept (oH3978 _ (G_ne ga1 ghp (by decide)))).symm
  have m3997 := (m3960).trans (fR_kept (oH3978 _ (G_ne ga1 ghp (by decide)))).symm
  have m3998 := (m3961).trans (fR_kept (oH3978 _ (G_ne ga1 ghp (by decide)))).symm
  have m3999 := (m3962).trans (fR_kept (oH3978 _ (G_ne ga1 ghp (by decide)))).symm
  have m4000 := (m3963).trans (fR_kept (oH3978 _ (G_ne ga1 ghp (by decide)))).symm
  have m4001 := (m3964).trans (fR_kept (oH3978 _ (G_ne ga1 ghp (by decide)))).symm
  have m4002 := (m3965).trans (fR_kept (oH3978 _ (G_ne ga1 ghp (by decide)))).symm
  have m4003 := (m3966).trans (fI_kept (oH3978 _ (G_ne ga0 ghp (by decide)))).symm
  have m4004 := (m3967).trans (fI_kept (oH3978 _ (G_ne ga0 ghp (by decide)))).symm
  have m4005 := (m3968).trans (fI_kept (oH3978 _ (G_ne ga1 ghp (by decide)))).symm
  have m4006 := (m3969).trans (fI_kept (oH3978 _ (G_ne ga1 ghp (by decide)))).symm
  have m4007 := (m3970).trans (fI_kept (oH3978 _ (G_ne ga1 ghp (by decide)))).symm
  have m4008 := (m3971).trans (fI_kept (oH3978 _ (G_ne ga0 ghp (by decide)))).symm
  have f4009 : ∀ q t : Nat, G q = some t → t ≠ 46 → t ≠ 48 → q ≠ a0 → q ≠ kp → q ≠ gp → q ≠ hp → q ≠ xp → q ≠ lp → q ≠ ap → q ≠ dp → q ≠ tp → q ≠ ip → q ≠ bp → H3978[q]? = s.heap[q]? := (fun q t hq h1 h2 n1 n2 n3 n4 n5 n6 n7 n8 n9 n10 n11 => (oH3978 _ n4).trans (f3972 q t hq h1 h2 n1 n2 n3 n4 n5 n6 n7 n8 n9 n10 n11))
  have f4010 : RFB K H3978 s.heap a0 := RFB.st f3973 (fun k hk => fR_kept (oH3978 _ (G_ne ga0 ghp (by decide))))
  have f4011 : ∀ j : Nat, j < 16 → fI H3978 kp j = fI s.heap ku j := fun j hj => (fI_kept (oH3978 _ (G_ne gkp ghp (by decide)))).trans (f3974 j hj)
  have f4012 : ∀ j : Nat, j < 16 → fI H3978 gp j = fI s.heap gu j := fun j hj => (fI_kept (oH3978 _ (G_ne ggp ghp (by decide)))).trans (cp3975 j hj)
  have cp4013 : ∀ j : Nat, j < 16 → fI H3978 hp j = fI s.heap hu j := fun j hj => by have c00 : (0 : Int32).toNatClampNeg = 0 := rfl; have cnn : (16 : Int32).toNatClampNeg = 16 := rfl; have z := wH3978 j (by omega); rw [c00, Nat.zero_add] at z; exact z.trans (fI_kept (x_lt hT hSH3941.2.1 ghu (by decide)))
  refine lv_aload_n hx hb dX0_copyFrom_53 rfl (lv_at hl 1 rfl) ?_
  refine x_gr C hTH3978 (ci := 0) (k := 4) rfl inX0 (by decide) wF_X0_21 ga1 rg_1 rfl dX0_copyFrom_54 (fun q4014 eq4014 gq4014 => ?_)
  have uq4014 : xu = q4014 := (m3994).trans eq4014.symm
  subst uq4014
  refine lv_iconst (v := 0) hx hb dX0_copyFrom_57 (by decide) ?_
  refine lv_aload_n hx hb dX0_copyFrom_58 rfl (lv_at hl 0 rfl) ?_
  refine x_gr C hTH3978 (ci := 0) (k := 4) rfl inX0 (by decide) wF_X0_21 ga0 rg_35 rfl dX0_copyFrom_59 (fun q4015 eq4015 gq4015 => ?_)
  have uq4015 : xp = q4015 := (m3982).trans eq4015.symm
  subst uq4015
  refine lv_iconst (v := 0) hx hb dX0_copyFrom_62 (by decide) ?_
  refine lv_bipush (v := 16) hx hb dX0_copyFrom_63 (by decide) ?_
  refine x_copy C hTH3978 hSH3978 wM_X0_75 wNT_arraycopy wST_arraycopy wIN_J10 gxu gxp rg_5 rg_39 (by decide) (by omega) (by omega) (by omega) (by show _ ≤ ((16 : Nat) : Int); omega) (by show _ ≤ ((16 : Nat) : Int); omega) (AE_in gxp (by decide)) hl.1 (by decide) dX0_copyFrom_65 (fun H4016 locsH4016 hTH4016 hSH4016 zH4016 oH4016 vH4016 wH4016 => ?_)
  have m4017 := (m3979).trans (fR_kept (oH4016 _ (G_ne ga0 gxp (by decide)))).symm
  have m4018 := (m3980).trans (fR_kept (oH4016 _ (G_ne ga0 gxp (by decide)))).symm
  have m4019 := (m3981).trans (fR_kept (oH4016 _ (G_ne ga0 gxp (by decide)))).symm
  have m4020 := (m3982).trans (fR_kept (oH4016 _ (G_ne ga0 gxp (by decide)))).symm
  have m4021 := (m3983).trans (fR_kept (oH4016 _ (G_ne ga0 gxp (by decide)))).symm
  have m4022 := (m3984).trans (fR_kept (oH4016 _ (G_ne ga0 gxp (by decide)))).symm
  have m4023 := (m3985).trans (fR_kept (oH4016 _ (G_ne ga0 gxp (by decide)))).symm
  have m4024 := (m3986).trans (fR_kept (oH4016 _ (G_ne ga0 gxp (by decide)))).symm
  have m4025 := (m3987).trans (fR_kept (oH4016 _ (G_ne ga0 gxp (by decide)))).symm
  have m4026 := (m3988).trans (fR_kept (oH4016 _ (G_ne ga0 gxp (by decide)))).symm
  have m4027 := (m3989).trans (fR_kept (oH4016 _ (G_ne ga0 gxp (by decide)))).symm
  have m4028 := (m3990).trans (fR_kept (oH4016 _ (G_ne ga0 gxp (by decide)))).symm
  have m4029 := (m3991).trans (fR_kept (oH4016 _ (G_ne ga1 gxp (by decide)))).symm
  have m4030 := (m3992).trans (fR_kept (oH4016 _ (G_ne ga1 gxp (by decide)))).symm
  have m4031 := (m3993).trans (fR_kept (oH4016 _ (G_ne ga1 gxp (by decide)))).symm
  have m4032 := (m3994).trans (fR_kept (oH4016 _ (G_ne ga1 gxp (by decide)))).symm
  have m4033 := (m3995).trans (fR_kept (oH4016 _ (G_ne ga1 gxp (by decide)))).symm
  have m4034 := (m3996).trans (fR_kept (oH4016 _ (G_ne ga1 gxp (by decide)))).symm
  have m4035 := (m3997).trans (fR_kept (oH4016 _ (G_ne ga1 gxp (by decide)))).symm
  have m4036 := (m3998).trans (fR_kept (oH4016 _ (G_ne ga1 gxp (by decide)))).symm
  have m4037 := (m3999).trans (fR_kept (oH4016 _ (G_ne ga1 gxp (by decide)))).symm
  have m4038 := (m4000).trans (fR_kept (oH4016 _ (G_ne ga1 gxp (by decide)))).symm
  have m4039 := (m4001).trans (fR_kept (oH4016 _ (G_ne ga1 gxp (by decide)))).symm
  have m4040 := (m4002).trans (fR_kept (oH4016 _ (G_ne ga1 gxp (by decide)))).symm
  have m4041 := (m4003).trans (fI_kept (oH4016 _ (G_ne ga0 gxp (by decide)))).symm
  have m4042 := (m4004).trans (fI_kept (oH4016 _ (G_ne ga0 gxp (by decide)))).symm
  have m4043 := (m4005).trans (fI_kept (oH4016 _ (G_ne ga1 gxp (by decide)))).symm
  have m4044 := (m4006).trans (fI_kept (oH4016 _ (G_ne ga1 gxp (by decide)))).symm
  have m4045 := (m4007).trans (fI_kept (oH4016 _ (G_ne ga1 gxp (by decide)))).symm
  have m4046 := (m4008).trans (fI_kept (oH4016 _ (G_ne ga0 gxp (by decide)))).symm
  have f4047 : ∀ q t : Nat, G q = some t → t ≠ 46 → t ≠ 48 → q ≠ a0 → q ≠ kp → q ≠ gp → q ≠ hp → q ≠ xp → q ≠ lp → q ≠ ap → q ≠ dp → q ≠ tp → q ≠ ip → q ≠ bp → H4016[q]? = s.heap[q]? := (fun q t hq h1 h2 n1 n2 n3 n4 n5 n6 n7 n8 n9 n10 n11 => (oH4016 _ n5).trans (f4009 q t hq h1 h2 n1 n2 n3 n4 n5 n6 n7 n8 n9 n10 n11))
  have f4048 : RFB K H4016 s.heap a0 := RFB.st f4010 (fun k hk => fR_kept (oH4016 _ (G_ne ga0 gxp (by decide))))
  have f4049 : ∀ j : Nat, j < 16 → fI H4016 kp j = fI s.heap ku j := fun j hj => (fI_kept (oH4016 _ (G_ne gkp gxp (by decide)))).trans (f4011 j hj)
  have f4050 : ∀ j : Nat, j < 16 → fI H4016 gp j = fI s.heap gu j := fun j hj => (fI_kept (oH4016 _ (G_ne ggp gxp (by decide)))).trans (f4012 j hj)
  have f4051 : ∀ j : Nat, j < 16 → fI H4016 hp j = fI s.heap hu j := fun j hj => (fI_kept (oH4016 _ (G_ne ghp gxp (by decide)))).trans (cp4013 j hj)
  have cp4052 : ∀ j : Nat, j < 16 → fI H4016 xp j = fI s.heap xu j := fun j hj => by have c00 : (0 : Int32).toNatClampNeg = 0 := rfl; have cnn : (16 : Int32).toNatClampNeg = 16 := rfl; have z := wH4016 j (by omega); rw [c00, Nat.zero_add] at z; exact z.trans (fI_kept (x_lt hT hSH3978.2.1 gxu (by decide)))
  refine lv_aload_n hx hb dX0_copyFrom_68 rfl (lv_at hl 1 rfl) ?_
  refine x_gr C hTH4016 (ci := 0) (k := 5) rfl inX0 (by decide) wF_X0_24 ga1 rg_1 rfl dX0_copyFrom_69 (fun q4053 eq4053 gq4053 => ?_)
  have uq4053 : lu = q4053 := (m4033).trans eq4053.symm
  subst uq4053
  refine lv_iconst (v := 0) hx hb dX0_copyFrom_72 (by decide) ?_
  refine lv_aload_n hx hb dX0_copyFrom_73 rfl (lv_at hl 0 rfl) ?_
  refine x_gr C hTH4016 (ci := 0) (k := 5) rfl inX0 (by decide) wF_X0_24 ga0 rg_35 rfl dX0_copyFrom_74 (fun q4054 eq4054 gq4054 => ?_)
  have uq4054 : lp = q4054 := (m4021).trans eq4054.symm
  subst uq4054
  refine lv_iconst (v := 0) hx hb dX0_copyFrom_77 (by decide) ?_
  refine lv_iconst (v := 3) hx hb dX0_copyFrom_78 (by decide) ?_
  refine x_copy C hTH4016 hSH4016 wM_X0_75 wNT_arraycopy wST_arraycopy wIN_J10 glu glp rg_6 rg_40 (by decide) (by omega) (by omega) (by omega) (by show _ ≤ ((3 : Nat) : Int); omega) (by show _ ≤ ((3 : Nat) : Int); omega) (AE_in glp (by decide)) hl.1 (by decide) dX0_copyFrom_79 (fun H4055 locsH4055 hTH4055 hSH4055 zH4055 oH4055 vH4055 wH4055 => ?_)
  have m4056 := (m4017).trans (fR_kept (oH4055 _ (G_ne ga0 glp (by decide)))).symm
  have m4057 := (m4018).trans (fR_kept (oH4055 _ (G_ne ga0 glp (by decide)))).symm
  have m4058 := (m4019).trans (fR_kept (oH4055 _ (G_ne ga0 glp (by decide)))).symm
  have m4059 := (m4020).trans (fR_kept (oH4055 _ (G_ne ga0 glp (by decide)))).symm
  have m4060 := (m4021).trans (fR_kept (oH4055 _ (G_ne ga0 glp (by decide)))).symm
  have m4061 := (m4022).trans (fR_kept (oH4055 _ (G_ne ga0 glp (by decide)))).symm
  have m4062 := (m4023).trans (fR_kept (oH4055 _ (G_ne ga0 glp (by decide)))).symm
  have m4063 := (m4024).trans (fR_kept (oH4055 _ (G_ne ga0 glp (by decide)))).symm
  have m4064 := (m4025).trans (fR_kept (oH4055 _ (G_ne ga0 glp (by decide)))).symm
  have m4065 := (m4026).trans (fR_kept (oH4055 _ (G_ne ga0 glp (by decide)))).symm
  have m4066 := (m4027).trans (fR_kept (oH4055 _ (G_ne ga0 glp (by decide)))).symm
  have m4067 := (m4028).trans (fR_kept (oH4055 _ (G_ne ga0 glp (by decide)))).symm
  have m4068 := (m4029).trans (fR_kept (oH4055 _ (G_ne ga1 glp (by decide)))).symm
  have m4069 := (m4030).trans (fR_kept (oH4055 _ (G_ne ga1 glp (by decide)))).symm
  have m4070 := (m4031).trans (fR_kept (oH4055 _ (G_ne ga1 glp (by decide)))).symm
  have m4071 := (m4032).trans (fR_kept (oH4055 _ (G_ne ga1 glp (by decide)))).symm
  have m4072 := (m4033).trans (fR_kept (oH4055 _ (G_ne ga1 glp (by decide)))).symm
  have m4073 := (m4034).trans (fR_kept (oH4055 _ (G_ne ga1 glp (by decide)))).symm
  have m4074 := (m4035).trans (fR_kept (oH4055 _ (G_ne ga1 glp (by decide)))).symm
  have m4075 := (m4036).trans (fR_kept (oH4055 _ (G_ne ga1 glp (by decide)))).symm
  have m4076 := (m4037).trans (fR_kept (oH4055 _ (G_ne ga1 glp (by decide)))).symm
  have m4077 := (m4038).trans (fR_kept (oH4055 _ (G_ne ga1 glp (by decide)))).symm
  have m4078 := (m4039).trans (fR_kept (oH4055 _ (G_ne ga1 glp (by decide)))).symm
  have m4079 := (m4040).trans (fR_kept (oH4055 _ (G_ne ga1 glp (by decide)))).symm
  have m4080 := (m4041).trans (fI_kept (oH4055 _ (G_ne ga0 glp (by decide)))).symm
  have m4081 := (m4042).trans (fI_kept (oH4055 _ (G_ne ga0 glp (by decide)))).symm
  have m4082 := (m4043).trans (fI_kept (oH4055 _ (G_ne ga1 glp (by decide)))).symm
  have m4083 := (m4044).trans (fI_kept (oH4055 _ (G_ne ga1 glp (by decide)))).symm
  have m4084 := (m4045).trans (fI_kept (oH4055 _ (G_ne ga1 glp (by decide)))).symm
  have m4085 := (m4046).trans (fI_kept (oH4055 _ (G_ne ga0 glp (by decide)))).symm
  have f4086 : ∀ q t : Nat, G q = some t → t ≠ 46 → t ≠ 48 → q ≠ a0 → q ≠ kp → q ≠ gp → q ≠ hp → q ≠ xp → q ≠ lp → q ≠ ap → q ≠ dp → q ≠ tp → q ≠ ip → q ≠ bp → H4055[q]? = s.heap[q]? := (fun q t hq h1 h2 n1 n2 n3 n4 n5 n6 n7 n8 n9 n10 n11 => (oH4055 _ n6).trans (f4047 q t hq h1 h2 n1 n2 n3 n4 n5 n6 n7 n8 n9 n10 n11))
  have f4087 : RFB K H4055 s.heap a0 := RFB.st f4048 (fun k hk => fR_kept (oH4055 _ (G_ne ga0 glp (by decide))))
  have f4088 : ∀ j : Nat, j < 16 → fI H4055 kp j = fI s.heap ku j := fun j hj => (fI_kept (oH4055 _ (G_ne gkp glp (by decide)))).trans (f4049 j hj)
  have f4089 : ∀ j : Nat, j < 16 → fI H4055 gp j = fI s.heap gu j := fun j hj => (fI_kept (oH4055 _ (G_ne ggp glp (by decide)))).trans (f4050 j hj)
  have f4090 : ∀ j : Nat, j < 16 → fI H4055 hp j = fI s.heap hu j := fun j hj => (fI_kept (oH4055 _ (G_ne ghp glp (by decide)))).trans (f4051 j hj)
  have f4091 : ∀ j : Nat, j < 16 → fI H4055 xp j = fI s.heap xu j := fun j hj => (fI_kept (oH4055 _ (G_ne gxp glp (by decide)))).trans (cp4052 j hj)
  have cp4092 : ∀ j : Nat, j < 3 → fI H4055 lp j = fI s.heap lu j := fun j hj => by have c00 : (0 : Int32).toNatClampNeg = 0 := rfl; have cnn : (3 : Int32).toNatClampNeg = 3 := rfl; have z := wH4055 j (by omega); rw [c00, Nat.zero_add] at z; exact z.trans (fI_kept (x_lt hT hSH4016.2.1 glu (by decide)))
  refine lv_aload_n hx hb dX0_copyFrom_82 rfl (lv_at hl 1 rfl) ?_
  refine x_gr C hTH4055 (ci := 0) (k := 6) rfl inX0 (by decide) wF_X0_27 ga1 rg_1 rfl dX0_copyFrom_83 (fun q4093 eq4093 gq4093 => ?_)
  have uq4093 : au = q4093 := (m4073).trans eq4093.symm
  subst uq4093
  refine lv_iconst (v := 0) hx hb dX0_copyFrom_86 (by decide) ?_
  refine lv_aload_n hx hb dX0_copyFrom_87 rfl (lv_at hl 0 rfl) ?_
  refine x_gr C hTH4055 (ci := 0) (k := 6) rfl inX0 (by decide) wF_X0_27 ga0 rg_35 rfl dX0_copyFrom_88 (fun q4094 eq4094 gq4094 => ?_)
  have uq4094 : ap = q4094 := (m4061).trans eq4094.symm
  subst uq4094
  refine lv_iconst (v := 0) hx hb dX0_copyFrom_91 (by decide) ?_
  refine lv_sipush (v := 200) hx hb dX0_copyFrom_92 (by decide) ?_
  refine x_copy C hTH4055 hSH4055 wM_X0_75 wNT_arraycopy wST_arraycopy wIN_J10 gau gap rg_7 rg_41 (by decide) (by omega) (by omega) (by omega) (by show _ ≤ ((200 : Nat) : Int); omega) (by show _ ≤ ((200 : Nat) : Int); omega) (AE_in gap (by decide)) hl.1 (by decide) dX0_copyFrom_95 (fun H4095 locsH4095 hTH4095 hSH4095 zH4095 oH4095 vH4095 wH4095 => ?_)
  have m4096 := (m4056).trans (fR_kept (oH4095 _ (G_ne ga0 gap (by decide)))).symm
  have m4097 := (m4057).trans (fR_kept (oH4095 _ (G_ne ga0 gap (by decide)))).symm
  have m4098 := (m4058).trans (fR_kept (oH4095 _ (G_ne ga0 gap (by decide)))).symm
  have m4099 := (m4059).trans (fR_kept (oH4095 _ (G_ne ga0 gap (by decide)))).symm
  have m4100 := (m4060).trans (fR_kept (oH4095 _ (G_ne ga0 gap (by decide)))).symm
  have m4101 := (m4061).trans (fR_kept (oH4095 _ (G_ne ga0 gap (by decide)))).symm
  have m4102 := (m4062).trans (fR_kept (oH4095 _ (G_ne ga0 gap (by decide)))).symm
  have m4103 := (m4063).trans (fR_kept (oH4095 _ (G_ne ga0 gap (by decide)))).symm
  have m4104 := (m4064).trans (fR_kept (oH4095 _ (G_ne ga0 gap (by decide)))).symm
  have m4105 := (m4065).trans (fR_kept (oH4095 _ (G_ne ga0 gap (by decide)))).symm
  have m4106 := (m4066).trans (fR_kept (oH4095 _ (G_ne ga0 gap (by decide)))).symm
  have m4107 := (m4067).trans (fR_kept (oH4095 _ (G_ne ga0 gap (by decide)))).symm
  have m4108 := (m4068).trans (fR_kept (oH4095 _ (G_ne ga1 gap (by decide)))).symm
  have m4109 := (m4069).trans (fR_kept (oH4095 _ (G_ne ga1 gap (by decide)))).symm
  have m4110 := (m4070).trans (fR_kept (oH4095 _ (G_ne ga1 gap (by decide)))).symm
  have m4111 := (m4071).trans (fR_kept (oH4095 _ (G_ne ga1 gap (by decide)))).symm
  have m4112 := (m4072).trans (fR_kept (oH4095 _ (G_ne ga1 gap (by decide)))).symm
  have m4113 := (m4073).trans (fR_kept (oH4095 _ (G_ne ga1 gap (by decide)))).symm
  have m4114 := (m4074).trans (fR_kept (oH4095 _ (G_ne ga1 gap (by decide)))).symm
  have m4115 := (m4075).trans (fR_kept (oH4095 _ (G_ne ga1 gap (by decide)))).symm
  have m4116 := (m4076).trans (fR_kept (oH4095 _ (G_ne ga1 gap (by decide)))).symm
  have m4117 := (m4077).trans (fR_kept (oH4095 _ (G_ne ga1 gap (by decide)))).symm
  have m4118 := (m4078).trans (fR_kept (oH4095 _ (G_ne ga1 gap (by decide)))).symm
  have m4119 := (m4079).trans (fR_kept (oH4095 _ (G_ne ga1 gap (by decide)))).symm
  have m4120 := (m4080).trans (fI_kept (oH4095 _ (G_ne ga0 gap (by decide)))).symm
  have m4121 := (m4081).trans (fI_kept (oH4095 _ (G_ne ga0 gap (by decide)))).symm
  have m4122 := (m4082).trans (fI_kept (oH4095 _ (G_ne ga1 gap (by decide)))).symm
  have m4123 := (m4083).trans (fI_kept (oH4095 _ (G_ne ga1 gap (by decide)))).symm
  have m4124 := (m4084).trans (fI_kept (oH4095 _ (G_ne ga1 gap (by decide)))).symm
  have m4125 := (m4085).trans (fI_kept (oH4095 _ (G_ne ga0 gap (by decide)))).symm
  have f4126 : ∀ q t : Nat, G q = some t → t ≠ 46 → t ≠ 48 → q ≠ a0 → q ≠ kp → q ≠ gp → q ≠ hp → q ≠ xp → q ≠ lp → q ≠ ap → q ≠ dp → q ≠ tp → q ≠ ip → q ≠ bp → H4095[q]? = s.heap[q]? := (fun q t hq h1 h2 n1 n2 n3 n4 n5 n6 n7 n8 n9 n10 n11 => (oH4095 _ n7).trans (f4086 q t hq h1 h2 n1 n2 n3 n4 n5 n6 n7 n8 n9 n10 n11))
  have f4127 : RFB K H4095 s.heap a0 := RFB.st f4087 (fun k hk => fR_kept (oH4095 _ (G_ne ga0 gap (by decide))))
  have f4128 : ∀ j : Nat, j < 16 → fI H4095 kp j = fI s.heap ku j := fun j hj => (fI_kept (oH4095 _ (G_ne gkp gap (by decide)))).trans (f4088 j hj)
  have f4129 : ∀ j : Nat, j < 16 → fI H4095 gp j = fI s.heap gu j := fun j hj => (fI_kept (oH4095 _ (G_ne ggp gap (by decide)))).trans (f4089 j hj)
  have f4130 : ∀ j : Nat, j < 16 → fI H4095 hp j = fI s.heap hu j := fun j hj => (fI_kept (oH4095 _ (G_ne ghp gap (by decide)))).trans (f4090 j hj)
  have f4131 : ∀ j : Nat, j < 16 → fI H4095 xp j = fI s.heap xu j := fun j hj => (fI_kept (oH4095 _ (G_ne gxp gap (by decide)))).trans (f4091 j hj)
  have f4132 : ∀ j : Nat, j < 3 → fI H4095 lp j = fI s.heap lu j := fun j hj => (fI_kept (oH4095 _ (G_ne glp gap (by decide)))).trans (cp4092 j hj)
  have cp4133 : ∀ j : Nat, j < 200 → fI H4095 ap j = fI s.heap au j := fun j hj => by have c00 : (0 : Int32).toNatClampNeg = 0 := rfl; have cnn : (200 : Int32).toNatClampNeg = 200 := rfl; have z := wH4095 j (by omega); rw [c00, Nat.zero_add] at z; exact z.trans (fI_kept (x_lt hT hSH4055.2.1 gau (by decide)))
  refine lv_aload_n hx hb dX0_copyFrom_98 rfl (lv_at hl 1 rfl) ?_
  refine x_gr C hTH4095 (ci := 0) (k := 7) rfl inX0 (by decide) wF_X0_30 ga1 rg_1 rfl dX0_copyFrom_99 (fun q4134 eq4134 gq4134 => ?_)
  have uq4134 : du = q4134 := (m4114).trans eq4134.symm
  subst uq4134
  refine lv_iconst (v := 0) hx hb dX0_copyFrom_102 (by decide) ?_
  refine lv_aload_n hx hb dX0_copyFrom_103 rfl (lv_at hl 0 rfl) ?_
  refine x_gr C hTH4095 (ci := 0) (k := 7) rfl inX0 (by decide) wF_X0_30 ga0 rg_35 rfl dX0_copyFrom_104 (fun q4135 eq4135 gq4135 => ?_)
  have uq4135 : dp = q4135 := (m4102).trans eq4135.symm
  subst uq4135
  refine lv_iconst (v := 0) hx hb dX0_copyFrom_107 (by decide) ?_
  refine lv_sipush (v := 200) hx hb dX0_copyFrom_108 (by decide) ?_
  refine x_copy C hTH4095 hSH4095 wM_X0_75 wNT_arraycopy wST_arraycopy wIN_J10 gdu gdp rg_8 rg_42 (by decide) (by omega) (by omega) (by omega) (by show _ ≤ ((200 : Nat) : Int); omega) (by show _ ≤ ((200 : Nat) : Int); omega) (AE_in gdp (by decide)) hl.1 (by decide) dX0_copyFrom_111 (fun H4136 locsH4136 hTH4136 hSH4136 zH4136 oH4136 vH4136 wH4136 => ?_)
  have m4137 := (m4096).trans (fR_kept (oH4136 _ (G_ne ga0 gdp (by decide)))).symm
  have m4138 := (m4097).trans (fR_kept (oH4136 _ (G_ne ga0 gdp (by decide)))).symm
  have m4139 := (m4098).trans (fR_kept (oH4136 _ (G_ne ga0 gdp (by decide)))).symm
  have m4140 := (m4099).trans (fR_kept (oH4136 _ (G_ne ga0 gdp (by decide)))).symm
  have m4141 := (m4100).trans (fR_kept (oH4136 _ (G_ne ga0 gdp (by decide)))).symm
  have m4142 := (m4101).trans (fR_kept (oH4136 _ (G_ne ga0 gdp (by decide)))).symm
  have m4143 := (m4102).trans (fR_kept (oH4136 _ (G_ne ga0 gdp (by decide)))).symm
  have m4144 := (m4103).trans (fR_kept (oH4136 _ (G_ne ga0 gdp (by decide)))).symm
  have m4145 := (m4104).trans (fR_kept (oH4136 _ (G_ne ga0 gdp (by decide)))).symm
  have m4146 := (m4105).trans (fR_kept (oH4136 _ (G_ne ga0 gdp (by decide)))).symm
  have m4147 := (m4106).trans (fR_kept (oH4136 _ (G_ne ga0 gdp (by decide)))).symm
  have m4148 := (m4107).trans (fR_kept (oH4136 _ (G_ne ga0 gdp (by decide)))).symm
  have m4149 := (m4108).trans (fR_kept (oH4136 _ (G_ne ga1 gdp (by decide)))).symm
  have m4150 := (m4109).trans (fR_kept (oH4136 _ (G_ne ga1 gdp (by decide)))).symm
  have m4151 := (m4110).trans (fR_kept (oH4136 _ (G_ne ga1 gdp (by decide)))).symm
  have m4152 := (m4111).trans (fR_kept (oH4136 _ (G_ne ga1 gdp (by decide)))).symm
  have m4153 := (m4112).trans (fR_kept (oH4136 _ (G_ne ga1 gdp (by decide)))).symm
  have m4154 := (m4113).trans (fR_kept (oH4136 _ (G_ne ga1 gdp (by decide)))).symm
  have m4155 := (m4114).trans (fR_kept (oH4136 _ (G_ne ga1 gdp (by decide)))).symm
  have m4156 := (m4115).trans (fR_kept (oH4136 _ (G_ne ga1 gdp (by decide)))).symm
  have m4157 := (m4116).trans (fR_kept (oH4136 _ (G_ne ga1 gdp (by decide)))).symm
  have m4158 := (m4117).trans (fR_kept (oH4136 _ (G_ne ga1 gdp (by decide)))).symm
  have m4159 := (m4118).trans (fR_kept (oH4136 _ (G_ne ga1 gdp (by decide)))).symm
  have m4160 := (m4119).trans (fR_kept (oH4136 _ (G_ne ga1 gdp (by decide)))).symm
  have m4161 := (m4120).trans (fI_kept (oH4136 _ (G_ne ga0 gdp (by decide)))).symm
  have m4162 := (m4121).trans (fI_kept (oH4136 _ (G_ne ga0 gdp (by decide)))).symm
  have m4163 := (m4122).trans (fI_kept (oH4136 _ (G_ne ga1 gdp (by decide)))).symm
  have m4164 := (m4123).trans (fI_kept (oH4136 _ (G_ne ga1 gdp (by decide)))).symm
  have m4165 := (m4124).trans (fI_kept (oH4136 _ (G_ne ga1 gdp (by decide)))).symm
  have m4166 := (m4125).trans (fI_kept (oH4136 _ (G_ne ga0 gdp (by decide)))).symm
  have f4167 : ∀ q t : Nat, G q = some t → t ≠ 46 → t ≠ 48 → q ≠ a0 → q ≠ kp → q ≠ gp → q ≠ hp → q ≠ xp → q ≠ lp → q ≠ ap → q ≠ dp → q ≠ tp → q ≠ ip → q ≠ bp → H4136[q]? = s.heap[q]? := (fun q t hq h1 h2 n1 n2 n3 n4 n5 n6 n7 n8 n9 n10 n11 => (oH4136 _ n8).trans (f4126 q t hq h1 h2 n1 n2 n3 n4 n5 n6 n7 n8 n9 n10 n11))
  have f4168 : RFB K H4136 s.heap a0 := RFB.st f4127 (fun k hk => fR_kept (oH4136 _ (G_ne ga0 gdp (by decide))))
  have f4169 : ∀ j : Nat, j < 16 → fI H4136 kp j = fI s.heap ku j := fun j hj => (fI_kept (oH4136 _ (G_ne gkp gdp (by decide)))).trans (f4128 j hj)
  have f4170 : ∀ j : Nat, j < 16 → fI H4136 gp j = fI s.heap gu j := fun j hj => (fI_kept (oH4136 _ (G_ne ggp gdp (by decide)))).trans (f4129 j hj)
  have f4171 : ∀ j : Nat, j < 16 → fI H4136 hp j = fI s.heap hu j := fun j hj => (fI_kept (oH4136 _ (G_ne ghp gdp (by decide)))).trans (f4130 j hj)
  have f4172 : ∀ j : Nat, j < 16 → fI H4136 xp j = fI s.heap xu j := fun j hj => (fI_kept (oH4136 _ (G_ne gxp gdp (by decide)))).trans (f4131 j hj)
  have f4173 : ∀ j : Nat, j < 3 → fI H4136 lp j = fI s.heap lu j := fun j hj => (fI_kept (oH4136 _ (G_ne glp gdp (by decide)))).trans (f4132 j hj)
  have f4174 : ∀ j : Nat, j < 200 → fI H4136 ap j = fI s.heap au j := fun j hj => (fI_kept (oH4136 _ (G_ne gap gdp (by decide)))).trans (cp4133 j hj)
  have cp4175 : ∀ j : Nat, j < 200 → fI H4136 dp j = fI s.heap du j := fun j hj => by have c00 : (0 : Int32).toNatClampNeg = 0 := rfl; have cnn : (200 : Int32).toNatClampNeg = 200 := rfl; have z := wH4136 j (by omega); rw [c00, Nat.zero_add] at z; exact z.trans (fI_kept (x_lt hT hSH4095.2.1 gdu (by decide)))
  refine lv_aload_n hx hb dX0_copyFrom_114 rfl (lv_at hl 0 rfl) ?_
  refine lv_aload_n hx hb dX0_copyFrom_115 rfl (lv_at hl 1 rfl) ?_
  refine x_gi C hTH4136 (ci := 0) (k := 8) rfl inX0 (by decide) wF_X0_60 ga1 rg_1 rfl dX0_copyFrom_116 (fun x4176 ex4176 bx4176 => ?_)
  have ux4176 : pcu = x4176 := (m4164).trans ex4176.symm
  subst ux4176
  refine x_put C hTH4136 hSH4136 (ci := 0) (k := 8) (v := .int pcu) (ty0 := tyX0) rfl inX0 tyX0_ok nmX0 (by decide) rfl wF_X0_60 ga0 rg_35 rfl rfl (okI (by omega) (by omega)) rfl rfl (AE_in ga0 (by decide)) dX0_copyFrom_119 (fun H4177 locsH4177 hTH4177 hSH4177 wH4177 => ?_)
  have f4178 : ∀ q t : Nat, G q = some t → t ≠ 46 → t ≠ 48 → q ≠ a0 → q ≠ kp → q ≠ gp → q ≠ hp → q ≠ xp → q ≠ lp → q ≠ ap → q ≠ dp → q ≠ tp → q ≠ ip → q ≠ bp → H4177[q]? = s.heap[q]? := (fun q t hq h1 h2 n1 n2 n3 n4 n5 n6 n7 n8 n9 n10 n11 => (wH4177.off n1).trans (f4167 q t hq h1 h2 n1 n2 n3 n4 n5 n6 n7 n8 n9 n10 n11))
  have f4179 : RFB K H4177 s.heap a0 := RFB.st f4168 (fun k hk => Wr.neR wH4177 (Or.inr (hapB k _ (by omega) (by decide) (by omega))))
  have f4180 : ∀ j : Nat, j < 16 → fI H4177 kp j = fI s.heap ku j := fun j hj => (fI_kept (wH4177.off (G_ne gkp ga0 (by decide)))).trans (f4169 j hj)
  have f4181 : ∀ j : Nat, j < 16 → fI H4177 gp j = fI s.heap gu j := fun j hj => (fI_kept (wH4177.off (G_ne ggp ga0 (by decide)))).trans (f4170 j hj)
  have f4182 : ∀ j : Nat, j < 16 → fI H4177 hp j = fI s.heap hu j := fun j hj => (fI_kept (wH4177.off (G_ne ghp ga0 (by decide)))).trans (f4171 j hj)
  have f4183 : ∀ j : Nat, j < 16 → fI H4177 xp j = fI s.heap xu j := fun j hj => (fI_kept (wH4177.off (G_ne gxp ga0 (by decide)))).trans (f4172 j hj)
  have f4184 : ∀ j : Nat, j < 3 → fI H4177 lp j = fI s.heap lu j := fun j hj => (fI_kept (wH4177.off (G_ne glp ga0 (by decide)))).trans (f4173 j hj)
  have f4185 : ∀ j : Nat, j < 200 → fI H4177 ap j = fI s.heap au j := fun j hj => (fI_kept (wH4177.off (G_ne gap ga0 (by decide)))).trans (f4174 j hj)
  have f4186 : ∀ j : Nat, j < 200 → fI H4177 dp j = fI s.heap du j := fun j hj => (fI_kept (wH4177.off (G_ne gdp ga0 (by decide)))).trans (cp4175 j hj)
  have m4187 := m4137.trans (Wr.neR wH4177 (Or.inr (x_apart hKT hts inX0 tyX0 tyX0_ok nmX0 rfl 1 8 (by decide) (by decide) (by decide)))).symm
  have m4188 := m4138.trans (Wr.neR wH4177 (Or.inr (x_apart hKT hts inX0 tyX0 tyX0_ok nmX0 rfl 2 8 (by decide) (by decide) (by decide)))).symm
  have m4189 := m4139.trans (Wr.neR wH4177 (Or.inr (x_apart hKT hts inX0 tyX0 tyX0_ok nmX0 rfl 3 8 (by decide) (by decide) (by decide)))).symm
  have m4190 := m4140.trans (Wr.neR wH4177 (Or.inr (x_apart hKT hts inX0 tyX0 tyX0_ok nmX0 rfl 4 8 (by decide) (by decide) (by decide)))).symm
  have m4191 := m4141.trans (Wr.neR wH4177 (Or.inr (x_apart hKT hts inX0 tyX0 tyX0_ok nmX0 rfl 5 8 (by decide) (by decide) (by decide)))).symm
  have m4192 := m4142.trans (Wr.neR wH4177 (Or.inr (x_apart hKT hts inX0 tyX0 tyX0_ok nmX0 rfl 6 8 (by decide) (by decide) (by decide)))).symm
  have m4193 := m4143.trans (Wr.neR wH4177 (Or.inr (x_apart hKT hts inX0 tyX0 tyX0_ok nmX0 rfl 7 8 (by decide) (by decide) (by decide)))).symm
  have m4194 := m4144.trans (Wr.neR wH4177 (Or.inr (x_apart hKT hts inX0 tyX0 tyX0_ok nmX0 rfl 10 8 (by decide) (by decide) (by decide)))).symm
  have m4195 := m4145.trans (Wr.neR wH4177 (Or.inr (x_apart hKT hts inX0 tyX0 tyX0_ok nmX0 rfl 11 8 (by decide) (by decide) (by decide)))).symm
  have m4196 := m4146.trans (Wr.neR wH4177 (Or.inr (x_apart hKT hts inX0 tyX0 tyX0_ok nmX0 rfl 12 8 (by decide) (by decide) (by decide)))).symm
  have m4197 := m4147.trans (Wr.neR wH4177 (Or.inr (x_apart hKT hts inX0 tyX0 tyX0_ok nmX0 rfl 13 8 (by decide) (by decide) (by decide)))).symm
  have m4198 := m4148.trans (Wr.neR wH4177 (Or.inr (x_apart hKT hts inX0 tyX0 tyX0_ok nmX0 rfl 17 8 (by decide) (by decide) (by decide)))).symm
  have m4199 := m4149.trans (Wr.neR wH4177 (Or.inl (G_ne ga1 ga0 (by decide)))).symm
  have m4200 := m4150.trans (Wr.neR wH4177 (Or.inl (G_ne ga1 ga0 (by decide)))).symm
  have m4201 := m4151.trans (Wr.neR wH4177 (Or.inl (G_ne ga1 ga0 (by decide)))).symm
  have m4202 := m4152.trans (Wr.neR wH4177 (Or.inl (G_ne ga1 ga0 (by decide)))).symm
  have m4203 := m4153.trans (Wr.neR wH4177 (Or.inl (G_ne ga1 ga0 (by decide)))).symm
  have m4204 := m4154.trans (Wr.neR wH4177 (Or.inl (G_ne ga1 ga0 (by decide)))).symm
  have m4205 := m4155.trans (Wr.neR wH4177 (Or.inl (G_ne ga1 ga0 (by decide)))).symm
  have m4206 := m4156.trans (Wr.neR wH4177 (Or.inl (G_ne ga1 ga0 (by decide)))).symm
  have m4207 := m4157.trans (Wr.neR wH4177 (Or.inl (G_ne ga1 ga0 (by decide)))).symm
  have m4208 := m4158.trans (Wr.neR wH4177 (Or.inl (G_ne ga1 ga0 (by decide)))).symm
  have m4209 := m4159.trans (Wr.neR wH4177 (Or.inl (G_ne ga1 ga0 (by decide)))).symm
  have m4210 := m4160.trans (Wr.neR wH4177 (Or.inl (G_ne ga1 ga0 (by decide)))).symm
  have m4212 := m4162.trans (Wr.neI wH4177 (Or.inr (x_apart hKT hts inX0 tyX0 tyX0_ok nmX0 rfl 9 8 (by decide) (by decide) (by decide)))).symm
  have m4213 := m4163.trans (Wr.neI wH4177 (Or.inl (G_ne ga1 ga0 (by decide)))).symm
  have m4214 := m4164.trans (Wr.neI wH4177 (Or.inl (G_ne ga1 ga0 (by decide)))).symm
  have m4215 := m4165.trans (Wr.neI wH4177 (Or.inl (G_ne ga1 ga0 (by decide)))).symm
  have m4216 := m4166.trans (Wr.neI wH4177 (Or.inr (x_apart hKT hts inX0 tyX0 tyX0_ok nmX0 rfl 0 8 (by decide) (by decide) (by decide)))).symm
  have m4217 := Wr.I wH4177
  have m4217 := m4217.symm
  refine lv_aload_n hx hb dX0_copyFrom_122 rfl (lv_at hl 0 rfl) ?_
  refine lv_aload_n hx hb dX0_copyFrom_123 rfl (lv_at hl 1 rfl) ?_
  refine x_gi C hTH4177 (ci := 0) (k := 9) rfl inX0 (by decide) wF_X0_63 ga1 rg_1 rfl dX0_copyFrom_124 (fun x4218 ex4218 bx4218 => ?_)
  have ux4218 : lbu = x4218 := (m4215).trans ex4218.symm
  subst ux4218
  refine x_put C hTH4177 hSH4177 (ci := 0) (k := 9) (v := .int lbu) (ty0 := tyX0) rfl inX0 tyX0_ok nmX0 (by decide) rfl wF_X0_63 ga0 rg_35 rfl rfl (okI (i_rng lbu).1 (i_rng lbu).2) rfl rfl (AE_in ga0 (by decide)) dX0_copyFrom_127 (fun H4219 locsH4219 hTH4219 hSH4219 wH4219 => ?_)
  clear f4167 f4168 f4169 f4170 f4171 f4172 f4173 f4174 m4137 m4138 m4139 m4140 m4141 m4142 m4143 m4144 m4145 m4146 m4147 m4148 m4149 m4150 m4151 m4152 m4153 m4154 m4155 m4156 m4157 m4158 m4159 m4160 m4161 m4162 m4163 m4164 m4165 m4166
  have f4220 : ∀ q t : Nat, G q = some t → t ≠ 46 → t ≠ 48 → q ≠ a0 → q ≠ kp → q ≠ gp → q ≠ hp → q ≠ xp → q ≠ lp → q ≠ ap → q ≠ dp → q ≠ tp → q ≠ ip → q ≠ bp → H4219[q]? = s.heap[q]? := (fun q t hq h1 h2 n1 n2 n3 n4 n5 n6 n7 n8 n9 n10 n11 => (wH4219.off n1).trans (f4178 q t hq h1 h2 n1 n2 n3 n4 n5 n6 n7 n8 n9 n10 n11))
  have f4221 : RFB K H4219 s.heap a0 := RFB.st f4179 (fun k hk => Wr.neR wH4219 (Or.inr (hapB k _ (by omega) (by decide) (by omega))))
  have f4222 : ∀ j : Nat, j < 16 → fI H4219 kp j = fI s.heap ku j := fun j hj => (fI_kept (wH4219.off (G_ne gkp ga0 (by decide)))).trans (f4180 j hj)
  have f4223 : ∀ j : Nat, j < 16 → fI H4219 gp j = fI s.heap gu j := fun j hj => (fI_kept (wH4219.off (G_ne ggp ga0 (by decide)))).trans (f4181 j hj)
  have f4224 : ∀ j : Nat, j < 16 → fI H4219 hp j = fI s.heap hu j := fun j hj => (fI_kept (wH4219.off (G_ne ghp ga0 (by decide)))).trans (f4182 j hj)
  have f4225 : ∀ j : Nat, j < 16 → fI H4219 xp j = fI s.heap xu j := fun j hj => (fI_kept (wH4219.off (G_ne gxp ga0 (by decide)))).trans (f4183 j hj)
  have f4226 : ∀ j : Nat, j < 3 → fI H4219 lp j = fI s.heap lu j := fun j hj => (fI_kept (wH4219.off (G_ne glp ga0 (by decide)))).trans (f4184 j hj)
  have f4227 : ∀ j : Nat, j < 200 → fI H4219 ap j = fI s.heap au j := fun j hj => (fI_kept (wH4219.off (G_ne gap ga0 (by decide)))).trans (f4185 j hj)
  have f4228 : ∀ j : Nat, j < 200 → fI H4219 dp j = fI s.heap du j := fun j hj => (fI_kept (wH4219.off (G_ne gdp ga0 (by decide)))).trans (f4186 j hj)
  have m4229 := m4187.trans (Wr.neR wH4219 (Or.inr (x_apart hKT hts inX0 tyX0 tyX0_ok nmX0 rfl 1 9 (by decide) (by decide) (by decide)))).symm
  have m4230 := m4188.trans (Wr.neR wH4219 (Or.inr (x_apart hKT hts inX0 tyX0 tyX0_ok nmX0 rfl 2 9 (by decide) (by decide) (by decide)))).symm
  have m4231 := m4189.trans (Wr.neR wH4219 (Or.inr (x_apart hKT hts inX0 tyX0 tyX0_ok nmX0 rfl 3 9 (by decide) (by decide) (by decide)))).symm
  have m4232 := m4190.trans (Wr.neR wH4219 (Or.inr (x_apart hKT hts inX0 tyX0 tyX0_ok nmX0 rfl 4 9 (by decide) (by decide) (by decide)))).symm
  have m4233 := m4191.trans (Wr.neR wH4219 (Or.inr (x_apart hKT hts inX0 tyX0 tyX0_ok nmX0 rfl 5 9 (by decide) (by decide) (by decide)))).symm
  have m4234 := m4192.trans (Wr.neR wH4219 (Or.inr (x_apart hKT hts inX0 tyX0 tyX0_ok nmX0 rfl 6 9 (by decide) (by decide) (by decide)))).symm
  have m4235 := m4193.trans (Wr.neR wH4219 (Or.inr (x_apart hKT hts inX0 tyX0 tyX0_ok nmX0 rfl 7 9 (by decide) (by decide) (by decide)))).symm
  have m4236 := m4194.trans (Wr.neR wH4219 (Or.inr (x_apart hKT hts inX0 tyX0 tyX0_ok nmX0 rfl 10 9 (by decide) (by decide) (by decide)))).symm
  have m4237 := m4195.trans (Wr.neR wH4219 (Or.inr (x_apart hKT hts inX0 tyX0 tyX0_ok nmX0 rfl 11 9 (by decide) (by decide) (by decide)))).symm
  have m4238 := m4196.trans (Wr.neR wH4219 (Or.inr (x_apart hKT hts inX0 tyX0 tyX0_ok nmX0 rfl 12 9 (by decide) (by decide) (by decide)))).symm
  have m4239 := m4197.trans (Wr.neR wH4219 (Or.inr (x_apart hKT hts inX0 tyX0 tyX0_ok nmX0 rfl 13 9 (by decide) (by decide) (by decide)))).symm
  have m4240 := m4198.trans (Wr.neR wH4219 (Or.inr (x_apart hKT hts inX0 tyX0 tyX0_ok nmX0 rfl 17 9 (by decide) (by decide) (by decide)))).symm
  have m4241 := m4199.trans (Wr.neR wH4219 (Or.inl (G_ne ga1 ga0 (by decide)))).symm
  have m4242 := m4200.trans (Wr.neR wH4219 (Or.inl (G_ne ga1 ga0 (by decide)))).symm
  have m4243 := m4201.trans (Wr.neR wH4219 (Or.inl (G_ne ga1 ga0 (by decide)))).symm
  have m4244 := m4202.trans (Wr.neR wH4219 (Or.inl (G_ne ga1 ga0 (by decide)))).symm
  have m4245 := m4203.trans (Wr.neR wH4219 (Or.inl (G_ne ga1 ga0 (by decide)))).symm
  have m4246 := m4204.trans (Wr.neR wH4219 (Or.inl (G_ne ga1 ga0 (by decide)))).symm
  have m4247 := m4205.trans (Wr.neR wH4219 (Or.inl (G_ne ga1 ga0 (by decide)))).symm
  have m4248 := m4206.trans (Wr.neR wH4219 (Or.inl (G_ne ga1 ga0 (by decide)))).symm
  have m4249 := m4207.trans (Wr.neR wH4219 (Or.inl (G_ne ga1 ga0 (by decide)))).symm
  have m4250 := m4208.trans (Wr.neR wH4219 (Or.inl (G_ne ga1 ga0 (by decide)))).symm
  have m4251 := m4209.trans (Wr.neR wH4219 (Or.inl (G_ne ga1 ga0 (by decide)))).symm
  have m4252 := m4210.trans (Wr.neR wH4219 (Or.inl (G_ne ga1 ga0 (by decide)))).symm
  have m4254 := m4213.trans (Wr.neI wH4219 (Or.inl (G_ne ga1 ga0 (by decide)))).symm
  have m4255 := m4214.trans (Wr.neI wH4219 (Or.inl (G_ne ga1 ga0 (by decide)))).symm
  have m4256 := m4215.trans (Wr.neI wH4219 (Or.inl (G_ne ga1 ga0 (by decide)))).symm
  have m4257 := m4216.trans (Wr.neI wH4219 (Or.inr (x_apart hKT hts inX0 tyX0 tyX0_ok nmX0 rfl 0 9 (by decide) (by decide) (by decide)))).symm
  have m4258 := m4217.trans (Wr.neI wH4219 (Or.inr (x_apart hKT hts inX0 tyX0 tyX0_ok nmX0 rfl 8 9 (by decide) (by decide) (by decide)))).symm
  have m4259 := Wr.I wH4219
  have m4259 := m4259.symm
  refine lv_aload_n hx hb dX0_copyFrom_130 rfl (lv_at hl 1 rfl) ?_
  refine x_gr C hTH4219 (ci := 0) (k := 10) rfl inX0 (by decide) wF_X0_33 ga1 rg_1 rfl dX0_copyFrom_131 (fun q4260 eq4260 gq4260 => ?_)
  have uq4260 : tu = q4260 := (m4248).trans eq4260.symm
  subst uq4260
  refine lv_iconst (v := 0) hx hb dX0_copyFrom_134 (by decide) ?_
  refine lv_aload_n hx hb dX0_copyFrom_135 rfl (lv_at hl 0 rfl) ?_
  refine x_gr C hTH4219 (ci := 0) (k := 10) rfl inX0 (by decide) wF_X0_33 ga0 rg_35 rfl dX0_copyFrom_136 (fun q4261 eq4261 gq4261 => ?_)
  have uq4261 : tp = q4261 := (m4236).trans eq4261.symm
  subst uq4261
  refine lv_iconst (v := 0) hx hb dX0_copyFrom_139 (by decide) ?_
  refine lv_bipush (v := 12) hx hb dX0_copyFrom_140 (by decide) ?_
  refine x_copy C hTH4219 hSH4219 wM_X0_75 wNT_arraycopy wST_arraycopy wIN_J10 gtu gtp rg_9 rg_43 (by decide) (by omega) (by omega) (by omega) (by show _ ≤ ((12 : Nat) : Int); omega) (by show _ ≤ ((12 : Nat) : Int); omega) (AE_in gtp (by decide)) hl.1 (by decide) dX0_copyFrom_142 (fun H4262 locsH4262 hTH4262 hSH4262 zH4262 oH4262 vH4262 wH4262 => ?_)
  have m4263 := (m4229).trans (fR_kept (oH4262 _ (G_ne ga0 gtp (by decide)))).symm
  have m4264 := (m4230).trans (fR_kept (oH4262 _ (G_ne ga0 gtp (by decide)))).symm
  have m4265 := (m4231).trans (fR_kept (oH4262 _ (G_ne ga0 gtp (by decide)))).symm
  have m4266 := (m4232).trans (fR_kept (oH4262 _ (G_ne ga0 gtp (by decide)))).symm
  have m4267 := (m4233).trans (fR_kept (oH4262 _ (G_ne ga0 gtp (by decide)))).symm
  have m4268 := (m4234).trans (fR_kept (oH4262 _ (G_ne ga0 gtp (by decide)))).symm
  have m4269 := (m4235).trans (fR_kept (oH4262 _ (G_ne ga0 gtp (by decide)))).symm
  have m4270 := (m4236).trans (fR_kept (oH4262 _ (G_ne ga0 gtp (by decide)))).symm
  have m4271 := (m4237).trans (fR_kept (oH4262 _ (G_ne ga0 gtp (by decide)))).symm
  have m4272 := (m4238).trans (fR_kept (oH4262 _ (G_ne ga0 gtp (by decide)))).symm
  have m4273 := (m4239).trans (fR_kept (oH4262 _ (G_ne ga0 gtp (by decide)))).symm
  have m4274 := (m4240).trans (fR_kept (oH4262 _ (G_ne ga0 gtp (by decide)))).symm
  have m4275 := (m4241).trans (fR_kept (oH4262 _ (G_ne ga1 gtp (by decide)))).symm
  have m4276 := (m4242).trans (fR_kept (oH4262 _ (G_ne ga1 gtp (by decide)))).symm
  have m4277 := (m4243).trans (fR_kept (oH4262 _ (G_ne ga1 gtp (by decide)))).symm
  have m4278 := (m4244).trans (fR_kept (oH4262 _ (G_ne ga1 gtp (by decide)))).symm
  have m4279 := (m4245).trans (fR_kept (oH4262 _ (G_ne ga1 gtp (by decide)))).symm
  have m4280 := (m4246).trans (fR_kept (oH4262 _ (G_ne ga1 gtp (by decide)))).symm
  have m4281 := (m4247).trans (fR_kept (oH4262 _ (G_ne ga1 gtp (by decide)))).symm
  have m4282 := (m4248).trans (fR_kept (oH4262 _ (G_ne ga1 gtp (by decide)))).symm
  have m4283 := (m4249).trans (fR_kept (oH4262 _ (G_ne ga1 gtp (by decide)))).symm
  have m4284 := (m4250).trans (fR_kept (oH4262 _ (G_ne ga1 gtp (by decide)))).symm
  have m4285 := (m4251).trans (fR_kept (oH4262 _ (G_ne ga1 gtp (by decide)))).symm
  have m4286 := (m4252).trans (fR_kept (oH4262 _ (G_ne ga1 gtp (by decide)))).symm
  have m4287 := (m4254).trans (fI_kept (oH4262 _ (G_ne ga1 gtp (by decide)))).symm
  have m4288 := (m4255).trans (fI_kept (oH4262 _ (G_ne ga1 gtp (by decide)))).symm
  have m4289 := (m4256).trans (fI_kept (oH4262 _ (G_ne ga1 gtp (by decide)))).symm
  have m4290 := (m4257).trans (fI_kept (oH4262 _ (G_ne ga0 gtp (by decide)))).symm
  have m4291 := (m4258).trans (fI_kept (oH4262 _ (G_ne ga0 gtp (by decide)))).symm
  have m4292 := (m4259).trans (fI_kept (oH4262 _ (G_ne ga0 gtp (by decide)))).symm
  have f4293 : ∀ q t : Nat, G q = some t → t ≠ 46 → t ≠ 48 → q ≠ a0 → q ≠ kp → q ≠ gp → q ≠ hp → q ≠ xp → q ≠ lp → q ≠ ap → q ≠ dp → q ≠ tp → q ≠ ip → q ≠ bp → H4262[q]? = s.heap[q]? := (fun q t hq h1 h2 n1 n2 n3 n4 n5 n6 n7 n8 n9 n10 n11 => (oH4262 _ n9).trans (f4220 q t hq h1 h2 n1 n2 n3 n4 n5 n6 n7 n8 n9 n10 n11))
  have f4294 : RFB K H4262 s.heap a0 := RFB.st f4221 (fun k hk => fR_kept (oH4262 _ (G_ne ga0 gtp (by decide))))
  have f4295 : ∀ j : Nat, j < 16 → fI H4262 kp j = fI s.heap ku j := fun j hj => (fI_kept (oH4262 _ (G_ne gkp gtp (by decide)))).trans (f4222 j hj)
  have f4296 : ∀ j : Nat, j < 16 → fI H4262 gp j = fI s.heap gu j := fun j hj => (fI_kept (oH4262 _ (G_ne ggp gtp (by decide)))).trans (f4223 j hj)
  have f4297 : ∀ j : Nat, j < 16 → fI H4262 hp j = fI s.heap hu j := fun j hj => (fI_kept (oH4262 _ (G_ne ghp gtp (by decide)))).trans (f4224 j hj)
  have f4298 : ∀ j : Nat, j < 16 → fI H4262 xp j = fI s.heap xu j := fun j hj => (fI_kept (oH4262 _ (G_ne gxp gtp (by decide)))).trans (f4225 j hj)
  have f4299 : ∀ j : Nat, j < 3 → fI H4262 lp j = fI s.heap lu j := fun j hj => (fI_kept (oH4262 _ (G_ne glp gtp (by decide)))).trans (f4226 j hj)
  have f4300 : ∀ j : Nat, j < 200 → fI H4262 ap j = fI s.heap au j := fun j hj => (fI_kept (oH4262 _ (G_ne gap gtp (by decide)))).trans (f4227 j hj)
  have f4301 : ∀ j : Nat, j < 200 → fI H4262 dp j = fI s.heap du j := fun j hj => (fI_kept (oH4262 _ (G_ne gdp gtp (by decide)))).trans (f4228 j hj)
  have cp4302 : ∀ j : Nat, j < 12 → fI H4262 tp j = fI s.heap tu j := fun j hj => by have c00 : (0 : Int32).toNatClampNeg = 0 := rfl; have cnn : (12 : Int32).toNatClampNeg = 12 := rfl; have z := wH4262 j (by omega); rw [c00, Nat.zero_add] at z; exact z.trans (fI_kept (x_lt hT hSH4219.2.1 gtu (by decide)))
  refine lv_aload_n hx hb dX0_copyFrom_145 rfl (lv_at hl 1 rfl) ?_
  refine x_gr C hTH4262 (ci := 0) (k := 11) rfl inX0 (by decide) wF_X0_36 ga1 rg_1 rfl dX0_copyFrom_146 (fun q4303 eq4303 gq4303 => ?_)
  have uq4303 : iu = q4303 := (m4283).trans eq4303.symm
  subst uq4303
  refine lv_iconst (v := 0) hx hb dX0_copyFrom_149 (by decide) ?_
  refine lv_aload_n hx hb dX0_copyFrom_150 rfl (lv_at hl 0 rfl) ?_
  refine x_gr C hTH4262 (ci := 0) (k := 11) rfl inX0 (by decide) wF_X0_36 ga0 rg_35 rfl dX0_copyFrom_151 (fun q4304 eq4304 gq4304 => ?_)
  have uq4304 : ip = q4304 := (m4271).trans eq4304.symm
  subst uq4304
  refine lv_iconst (v := 0) hx hb dX0_copyFrom_154 (by decide) ?_
  refine lv_bipush (v := 12) hx hb dX0_copyFrom_155 (by decide) ?_
  refine x_copy C hTH4262 hSH4262 wM_X0_75 wNT_arraycopy wST_arraycopy wIN_J10 giu gip rg_10 rg_44 (by decide) (by omega) (by omega) (by omega) (by show _ ≤ ((12 : Nat) : Int); omega) (by show _ ≤ ((12 : Nat) : Int); omega) (AE_in gip (by decide)) hl.1 (by decide) dX0_copyFrom_157 (fun H4305 locsH4305 hTH4305 hSH4305 zH4305 oH4305 vH4305 wH4305 => ?_)
  have m4306 := (m4263).trans (fR_kept (oH4305 _ (G_ne ga0 gip (by decide)))).symm
  have m4307 := (m4264).trans (fR_kept (oH4305 _ (G_ne ga0 gip (by decide)))).symm
  have m4308 := (m4265).trans (fR_kept (oH4305 _ (G_ne ga0 gip (by decide)))).symm
  have m4309 := (m4266).trans (fR_kept (oH4305 _ (G_ne ga0 gip (by decide)))).symm
  have m4310 := (m4267).trans (fR_kept (oH4305 _ (G_ne ga0 gip (by decide)))).symm
  have m4311 := (m4268).trans (fR_kept (oH4305 _ (G_ne ga0 gip (by decide)))).symm
  have m4312 := (m4269).trans (fR_kept (oH4305 _ (G_ne ga0 gip (by decide)))).symm
  have m4313 := (m4270).trans (fR_kept (oH4305 _ (G_ne ga0 gip (by decide)))).symm
  have m4314 := (m4271).trans (fR_kept (oH4305 _ (G_ne ga0 gip (by decide)))).symm
  have m4315 := (m4272).trans (fR_kept (oH4305 _ (G_ne ga0 gip (by decide)))).symm
  have m4316 := (m4273).trans (fR_kept (oH4305 _ (G_ne ga0 gip (by decide)))).symm
  have m4317 := (m4274).trans (fR_kept (oH4305 _ (G_ne ga0 gip (by decide)))).symm
  have m4318 := (m4275).trans (fR_kept (oH4305 _ (G_ne ga1 gip (by decide)))).symm
  have m4319 := (m4276).trans (fR_kept (oH4305 _ (G_ne ga1 gip (by decide)))).symm
  have m4320 := (m4277).trans (fR_kept (oH4305 _ (G_ne ga1 gip (by decide)))).symm
  have m4321 := (m4278).trans (fR_kept (oH4305 _ (G_ne ga1 gip (by decide)))).symm
  have m4322 := (m4279).trans (fR_kept (oH4305 _ (G_ne ga1 gip (by decide)))).symm
  have m4323 := (m4280).trans (fR_kept (oH4305 _ (G_ne ga1 gip (by decide)))).symm
  have m4324 := (m4281).trans (fR_kept (oH4305 _ (G_ne ga1 gip (by decide)))).symm
  have m4325 := (m4282).trans (fR_kept (oH4305 _ (G_ne ga1 gip (by decide)))).symm
  have m4326 := (m4283).trans (fR_kept (oH4305 _ (G_ne ga1 gip (by decide)))).symm
  have m4327 := (m4284).trans (fR_kept (oH4305 _ (G_ne ga1 gip (by decide)))).symm
  have m4328 := (m4285).trans (fR_kept (oH4305 _ (G_ne ga1 gip (by decide)))).symm
  have m4329 := (m4286).trans (fR_kept (oH4305 _ (G_ne ga1 gip (by decide)))).symm
  have m4330 := (m4287).trans (fI_kept (oH4305 _ (G_ne ga1 gip (by decide)))).symm
  have m4331 := (m4288).trans (fI_kept (oH4305 _ (G_ne ga1 gip (by decide)))).symm
  have m4332 := (m4289).trans (fI_kept (oH4305 _ (G_ne ga1 gip (by decide)))).symm
  have m4333 := (m4290).trans (fI_kept (oH4305 _ (G_ne ga0 gip (by decide)))).symm
  have m4334 := (m4291).trans (fI_kept (oH4305 _ (G_ne ga0 gip (by decide)))).symm
  have m4335 := (m4292).trans (fI_kept (oH4305 _ (G_ne ga0 gip (by decide)))).symm
  have f4336 : ∀ q t : Nat, G q = some t → t ≠ 46 → t ≠ 48 → q ≠ a0 → q ≠ kp → q ≠ gp → q ≠ hp → q ≠ xp → q ≠ lp → q ≠ ap → q ≠ dp → q ≠ tp → q ≠ ip → q ≠ bp → H4305[q]? = s.heap[q]? := (fun q t hq h1 h2 n1 n2 n3 n4 n5 n6 n7 n8 n9 n10 n11 => (oH4305 _ n10).trans (f4293 q t hq h1 h2 n1 n2 n3 n4 n5 n6 n7 n8 n9 n10 n11))
  have f4337 : RFB K H4305 s.heap a0 := RFB.st f4294 (fun k hk => fR_kept (oH4305 _ (G_ne ga0 gip (by decide))))
  have f4338 : ∀ j : Nat, j < 16 → fI H4305 kp j = fI s.heap ku j := fun j hj => (fI_kept (oH4305 _ (G_ne gkp gip (by decide)))).trans (f4295 j hj)
  have f4339 : ∀ j : Nat, j < 16 → fI H4305 gp j = fI s.heap gu j := fun j hj => (fI_kept (oH4305 _ (G_ne ggp gip (by decide)))).trans (f4296 j hj)
  have f4340 : ∀ j : Nat, j < 16 → fI H4305 hp j = fI s.heap hu j := fun j hj => (fI_kept (oH4305 _ (G_ne ghp gip (by decide)))).trans (f4297 j hj)
  have f4341 : ∀ j : Nat, j < 16 → fI H4305 xp j = fI s.heap xu j := fun j hj => (fI_kept (oH4305 _ (G_ne gxp gip (by decide)))).trans (f4298 j hj)
  have f4342 : ∀ j : Nat, j < 3 → fI H4305 lp j = fI s.heap lu j := fun j hj => (fI_kept (oH4305 _ (G_ne glp gip (by decide)))).trans (f4299 j hj)
  have f4343 : ∀ j : Nat, j < 200 → fI H4305 ap j = fI s.heap au j := fun j hj => (fI_kept (oH4305 _ (G_ne gap gip (by decide)))).trans (f4300 j hj)
  have f4344 : ∀ j : Nat, j < 200 → fI H4305 dp j = fI s.heap du j := fun j hj => (fI_kept (oH4305 _ (G_ne gdp gip (by decide)))).trans (f4301 j hj)
  have f4345 : ∀ j : Nat, j < 12 → fI H4305 tp j = fI s.heap tu j := fun j hj => (fI_kept (oH4305 _ (G_ne gtp gip (by decide)))).trans (cp4302 j hj)
  have cp4346 : ∀ j : Nat, j < 12 → fI H4305 ip j = fI s.heap iu j := fun j hj => by have c00 : (0 : Int32).toNatClampNeg = 0 := rfl; have cnn : (12 : Int32).toNatClampNeg = 12 := rfl; have z := wH4305 j (by omega); rw [c00, Nat.zero_add] at z; exact z.trans (fI_kept (x_lt hT hSH4262.2.1 giu (by decide)))
  refine lv_iconst (v := 0) hx hb dX0_copyFrom_160 (by decide) ?_
  refine lv_istore_n (lv' := [(2, .int 0), (0, .ref a0), (1, .ref a1)]) hx hb dX0_copyFrom_161 rfl hl (by decide) rfl (fun ls4347 hl4348 => ?_)
  exact J162 ((12 - (0 : Int32).toInt).toNat + 1)  ls4347 H4305 locsH4305 (0) (szu) (pcu) (lbu) (lv_sub hl4348 [1, 2, 0] rfl) hTH4305 hSH4305 (by decide) (by have := i_rng szu; omega) (by have := i_rng pcu; omega) m4333 m4334 m4335 m4306 m4307 m4308 m4309 m4310 m4311 m4312 m4313 m4314 m4315 m4316 m4317 m4318 m4319 m4320 m4321 m4322 m4323 m4324 m4325 m4326 m4327 m4328 m4329 m4330 m4331 m4332 f4336 f4337 (by omega) (by omega) f4338 f4339 f4340 f4341 f4342 f4343 f4344 f4345 cp4346

set_option maxHeartbeats 4000000 in
set_option maxRecDepth 100000 in
theorem a_X0_copyFrom_gn (l : Launch) (K : KE) (G : Nat → Option Nat) (H : Heap) {a0 : Nat} {a1 : Nat} {kp : Nat} {gp : Nat} {hp : Nat} {xp : Nat} {lp : Nat} {ap : Nat} {dp : Nat} {tp : Nat} {ip : Nat} {Kp : Nat} {Xp : Nat} {bp : Nat} {ku : Nat} {gu : Nat} {hu : Nat} {xu : Nat} {lu : Nat} {au : Nat} {du : Nat} {tu : Nat} {iu : Nat} {Ku : Nat} {Xu : Nat} {bu : Nat} (sz : Int32) (pc : Int32) (lb : Int32) (szu : Int32) (pcu : Int32) (lbu : Int32) (hT : TY K G H) (ga0 : G a0 = some 1) (ga1 : G a1 = some 35) (gkp : G kp = some 2) (ekp : @Eq Ad kp (fR H a0 (K.1.2 0 1))) (ggp : G gp = some 3) (egp : @Eq Ad gp (fR H a0 (K.1.2 0 2))) (ghp : G hp = some 4) (ehp : @Eq Ad hp (fR H a0 (K.1.2 0 3))) (gxp : G xp = some 5) (exp : @Eq Ad xp (fR H a0 (K.1.2 0 4))) (glp : G lp = some 6) (elp : @Eq Ad lp (fR H a0 (K.1.2 0 5))) (gap : G ap = some 7) (eap : @Eq Ad ap (fR H a0 (K.1.2 0 6))) (gdp : G dp = some 8) (edp : @Eq Ad dp (fR H a0 (K.1.2 0 7))) (gtp : G tp = some 9) (etp : @Eq Ad tp (fR H a0 (K.1.2 0 10))) (gip : G ip = some 10) (eip : @Eq Ad ip (fR H a0 (K.1.2 0 11))) (gKp : G Kp = some 11) (eKp : @Eq Ad Kp (fR H a0 (K.1.2 0 12))) (gXp : G Xp = some 13) (eXp : @Eq Ad Xp (fR H a0 (K.1.2 0 13))) (gbp : G bp = some 15) (ebp : @Eq Ad bp (fR H a0 (K.1.2 0 17))) (gku : G ku = some 36) (eku : @Eq Ad ku (fR H a1 (K.1.2 0 1))) (ggu : G gu = some 37) (egu : @Eq Ad gu (fR H a1 (K.1.2 0 2))) (ghu : G hu = some 38) (ehu : @Eq Ad hu (fR H a1 (K.1.2 0 3))) (gxu : G xu = some 39) (exu : @Eq Ad xu (fR H a1 (K.1.2 0 4))) (glu : G lu = some 40) (elu : @Eq Ad lu (fR H a1 (K.1.2 0 5))) (gau : G au = some 41) (eau : @Eq Ad au (fR H a1 (K.1.2 0 6))) (gdu : G du = some 42) (edu : @Eq Ad du (fR H a1 (K.1.2 0 7))) (gtu : G tu = some 43) (etu : @Eq Ad tu (fR H a1 (K.1.2 0 10))) (giu : G iu = some 44) (eiu : @Eq Ad iu (fR H a1 (K.1.2 0 11))) (gKu : G Ku = some 45) (eKu : @Eq Ad Ku (fR H a1 (K.1.2 0 12))) (gXu : G Xu = some 47) (eXu : @Eq Ad Xu (fR H a1 (K.1.2 0 13))) (gbu : G bu = some 49) (ebu : @Eq Ad bu (fR H a1 (K.1.2 0 17))) (esz : sz = fI H a0 (K.1.2 0 0)) (epc : pc = fI H a0 (K.1.2 0 8)) (elb : lb = fI H a0 (K.1.2 0 9)) (eszu : szu = fI H a1 (K.1.2 0 0)) (epcu : pcu = fI H a1 (K.1.2 0 8)) (elbu : lbu = fI H a1 (K.1.2 0 9)) : MX l K yX0_copyFrom cX0_copyFrom 3 none 1 40 0 0 [.ref a0, .ref a1] H (AE G [1, 2, 3, 4, 5, 6, 7, 8, 9, 10, 15, 12, 14] H.size) (fun v H1 => ∃ (t0 : Int32) (t1 : Int32) (t2 : Int32), v = none ∧ t0 = fI H1 a0 (K.1.2 0 0) ∧ t1 = fI H1 a0 (K.1.2 0 8) ∧ t2 = fI H1 a0 (K.1.2 0 9) ∧ @Eq Ad kp (fR H1 a0 (K.1.2 0 1)) ∧ @Eq Ad gp (fR H1 a0 (K.1.2 0 2)) ∧ @Eq Ad hp (fR H1 a0 (K.1.2 0 3)) ∧ @Eq Ad xp (fR H1 a0 (K.1.2 0 4)) ∧ @Eq Ad lp (fR H1 a0 (K.1.2 0 5)) ∧ @Eq Ad ap (fR H1 a0 (K.1.2 0 6)) ∧ @Eq Ad dp (fR H1 a0 (K.1.2 0 7)) ∧ @Eq Ad tp (fR H1 a0 (K.1.2 0 10)) ∧ @Eq Ad ip (fR H1 a0 (K.1.2 0 11)) ∧ @Eq Ad Kp (fR H1 a0 (K.1.2 0 12)) ∧ @Eq Ad Xp (fR H1 a0 (K.1.2 0 13)) ∧ @Eq Ad bp (fR H1 a0 (K.1.2 0 17)) ∧ (EqV (vwC K H1 a0) (vwC K H a1)) ∧ (∀ q t : Nat, G q = some t → t ≠ 12 → t ≠ 14 → q ≠ a0 → q ≠ kp → q ≠ gp → q ≠ hp → q ≠ xp → q ≠ lp → q ≠ ap → q ≠ dp → q ≠ tp → q ≠ ip → q ≠ bp → H1[q]? = H[q]?) ∧ (RFB K H1 H a0) ∧ TY K G H1) := by
  refine MX.of (by decide +kernel) (Nat.le_of_ble_eq_true rfl) ?_
  intro p e s m below meth c ls Q C hH hl hQ
  subst hH
  have C : CX p K s m _ meth c RX0 cX0_copyFrom 3 none "copyFrom" := C
  obtain ⟨hx, hb, hml, hown, hts, hKT, hr, hlocks, hnm⟩ := id C
  have hl : lv_has ls 3 [(0, .ref a0), (1, .ref a1)] := hl
  have hS : va_S (AE G [1, 2, 3, 4, 5, 6, 7, 8, 9, 10, 15, 12, 14] s.heap.size) s.heap s.heap [] := va_S.rf
  have n_0 : (0 : Int32).toInt = 0 := rfl
  have n_1 : (1 : Int32).toInt = 1 := rfl
  have n_2 : (2 : Int32).toInt = 2 := rfl
  have n_3 : (3 : Int32).toInt = 3 := rfl
  have n_12 : (12 : Int32).toInt = 12 := rfl
  have n_16 : (16 : Int32).toInt = 16 := rfl
  have n_200 : (200 : Int32).toInt = 200 := rfl
  have bsz := ty_fi (x := sz) (k := 0) esz hT ga0 rg_1 rfl
  have bpc := ty_fi (x := pc) (k := 8) epc hT ga0 rg_1 rfl
  have blb := ty_fi (x := lb) (k := 9) elb hT ga0 rg_1 rfl
  have bszu := ty_fi (x := szu) (k := 0) eszu hT ga1 rg_35 rfl
  have bpcu := ty_fi (x := pcu) (k := 8) epcu hT ga1 rg_35 rfl
  have blbu := ty_fi (x := lbu) (k := 9) elbu hT ga1 rg_35 rfl
  have hapB : ∀ x y, x < 18 → y < 18 → x ≠ y → K.1.2 0 x ≠ K.1.2 0 y := x_apart hKT hts inX0 tyX0 tyX0_ok nmX0 rfl
  have f0_fx : ∀ q t : Nat, G q = some t → t ≠ 12 → t ≠ 14 → q ≠ a0 → q ≠ kp → q ≠ gp → q ≠ hp → q ≠ xp → q ≠ lp → q ≠ ap → q ≠ dp → q ≠ tp → q ≠ ip → q ≠ bp → s.heap[q]? = s.heap[q]? := fun _ _ _ _ _ _ _ _ _ _ _ _ _ _ _ _ => rfl
  have f0_rb : RFB K s.heap s.heap a0 := RFB.rf
  have J162 : ∀ (nf : Nat)  (ls3572 : Array Slot) (H3571 : Heap) (locsH3571 : List Loc) (x3574 : Int32) (x3575 : Int32) (x3576 : Int32) (x3577 : Int32), lv_has ls3572 3 [(0, .ref a0), (1, .ref a1), (2, .int x3574)] → TY K G H3571 → va_S (AE G [1, 2, 3, 4, 5, 6, 7, 8, 9, 10, 15, 12, 14] s.heap.size) s.heap H3571 locsH3571 → (0 ≤ x3574.toInt ∧ x3574.toInt ≤ 12) → (0 ≤ x3575.toInt ∧ x3575.toInt ≤ 16) → (0 ≤ x3576.toInt ∧ x3576.toInt ≤ 200) → (x3575 = fI H3571 a0 (K.1.2 0 0)) → (x3576 = fI H3571 a0 (K.1.2 0 8)) → (x3577 = fI H3571 a0 (K.1.2 0 9)) → (@Eq Ad kp (fR H3571 a0 (K.1.2 0 1))) → (@Eq Ad gp (fR H3571 a0 (K.1.2 0 2))) → (@Eq Ad hp (fR H3571 a0 (K.1.2 0 3))) → (@Eq Ad xp (fR H3571 a0 (K.1.2 0 4))) → (@Eq Ad lp (fR H3571 a0 (K.1.2 0 5))) → (@Eq Ad ap (fR H3571 a0 (K.1.2 0 6))) → (@Eq Ad dp (fR H3571 a0 (K.1.2 0 7))) → (@Eq Ad tp (fR H3571 a0 (K.1.2 0 10))) → (@Eq Ad ip (fR H3571 a0 (K.1.2 0 11))) → (@Eq Ad Kp (fR H3571 a0 (K.1.2 0 12))) → (@Eq Ad Xp (fR H3571 a0 (K.1.2 0 13))) → (@Eq Ad bp (fR H3571 a0 (K.1.2 0 17))) → (@Eq Ad ku (fR H3571 a1 (K.1.2 0 1))) → (@Eq Ad gu (fR H3571 a1 (K.1.2 0 2))) → (@Eq Ad hu (fR H3571 a1 (K.1.2 0 3))) → (@Eq Ad xu (fR H3571 a1 (K.1.2 0 4))) → (@Eq Ad lu (fR H3571 a1 (K.1.2 0 5))) → (@Eq Ad au (fR H3571 a1 (K.1.2 0 6))) → (@Eq Ad du (fR H3571 a1 (K.1.2 0 7))) → (@Eq Ad tu (fR H3571 a1 (K.1.2 0 10))) → (@Eq Ad iu (fR H3571 a1 (K.1.2 0 11))) → (@Eq Ad Ku (fR H3571 a1 (K.1.2 0 12))) → (@Eq Ad Xu (fR H3571 a1 (K.1.2 0 13))) → (@Eq Ad bu (fR H3571 a1 (K.1.2 0 17))) → (szu = fI H3571 a1 (K.1.2 0 0)) → (pcu = fI H3571 a1 (K.1.2 0 8)) → (lbu = fI H3571 a1 (K.1.2 0 9)) → (∀ q t : Nat, G q = some t → t ≠ 12 → t ≠ 14 → q ≠ a0 → q ≠ kp → q ≠ gp → q ≠ hp → q ≠ xp → q ≠ lp → q ≠ ap → q ≠ dp → q ≠ tp → q ≠ ip → q ≠ bp → H3571[q]? = s.heap[q]?) → (RFB K H3571 s.heap a0) → (12 - x3574.toInt < (nf : Int)) → (x3575.toInt = szu.toInt ∧ x3576.toInt = pcu.toInt ∧ x3577.toInt = lbu.toInt) → (∀ j : Nat, j < 16 → fI H3571 kp j = fI s.heap ku j) → (∀ j : Nat, j < 16 → fI H3571 gp j = fI s.heap gu j) → (∀ j : Nat, j < 16 → fI H3571 hp j = fI s.heap hu j) → (∀ j : Nat, j < 16 → fI H3571 xp j = fI s.heap xu j) → (∀ j : Nat, j < 3 → fI H3571 lp j = fI s.heap lu j) → (∀ j : Nat, j < 200 → fI H3571 ap j = fI s.heap au j) → (∀ j : Nat, j < 200 → fI H3571 dp j = fI s.heap du j) → (∀ j : Nat, j < 12 → fI H3571 tp j = fI s.heap tu j) → (∀ j : Nat, j < 12 → fI H3571 ip j = fI s.heap iu j) → W p l e ({ frames := 1, cells := 0, slots := 0, locals := 40 } : Room) s m (([.ref a0, .ref a1] : List Value).toArray) below meth c H3571 locsH3571 0 0 Q (F0 m 162 ls3572 []) := by
    intro nf
    induction nf with
    | zero =>
      intro  ls3572 H3571 locsH3571 x3574 x3575 x3576 x3577 hl3573 hTH3571 hSH3571 bx3574 bx3575 bx3576 ex3575 ex3576 ex3577 cy3578_0 cy3578_1 cy3578_2 cy3578_3 cy3578_4 cy3578_5 cy3578_6 cy3578_7 cy3578_8 cy3578_9 cy3578_10 cy3578_11 cy3578_12 cy3578_13 cy3578_14 cy3578_15 cy3578_16 cy3578_17 cy3578_18 cy3578_19 cy3578_20 cy3578_21 cy3578_22 cy3578_23 cy3578_24 cy3578_25 cy3578_26 fy3578_fx fy3578_rb hm162 iv162 hc_kp hc_gp hc_hp hc_xp hc_lp hc_ap hc_dp hc_tp hc_ip
      have rx3577 := i_rng x3577
      exfalso
      omega
    | succ nf ih162 =>
      intro  ls3572 H3571 locsH3571 x3574 x3575 x3576 x3577 hl3573 hTH3571 hSH3571 bx3574 bx3575 bx3576 ex3575 ex3576 ex3577 cy3578_0 cy3578_1 cy3578_2 cy3578_3 cy3578_4 cy3578_5 cy3578_6 cy3578_7 cy3578_8 cy3578_9 cy3578_10 cy3578_11 cy3578_12 cy3578_13 cy3578_14 cy3578_15 cy3578_16 cy3578_17 cy3578_18 cy3578_19 cy3578_20 cy3578_21 cy3578_22 cy3578_23 cy3578_24 cy3578_25 cy3578_26 fy3578_fx fy3578_rb hm162 iv162 hc_kp hc_gp hc_hp hc_xp hc_lp hc_ap hc_dp hc_tp hc_ip
      have rx3577 := i_rng x3577
      refine lv_iload_n hx hb dX0_copyFrom_162 rfl (lv_at hl3573 2 rfl) ?_
      refine lv_bipush (v := 12) hx hb dX0_copyFrom_163 (by decide) ?_
      refine lv_icmp_ge (tgt := 212) hx hb dX0_copyFrom_165 (by decide) (fun c3579 => ?_) (fun c3579 => ?_)
      · have k3580 := i_le c3579
        refine lv_aload_n hx hb dX0_copyFrom_212 rfl (lv_at hl3573 0 rfl) ?_
        refine lv_aload_n hx hb dX0_copyFrom_213 rfl (lv_at hl3573 1 rfl) ?_
        refine x_gi C hTH3571 (ci := 0) (k := 14) rfl inX0 (by decide) wF_X0_66 ga1 rg_35 rfl dX0_copyFrom_214 (fun x3581 ex3581 bx3581 => ?_)
        refine x_put C hTH3571 hSH3571 (ci := 0) (k := 14) (v := .int x3581) (ty0 := tyX0) rfl inX0 tyX0_ok nmX0 (by decide) rfl wF_X0_66 ga0 rg_1 rfl rfl (okI bx3581.1 bx3581.2) rfl rfl (AE_in ga0 (by decide)) dX0_copyFrom_217 (fun H3582 locsH3582 hTH3582 hSH3582 wH3582 => ?_)
        have f3583 : ∀ q t : Nat, G q = some t → t ≠ 12 → t ≠ 14 → q ≠ a0 → q ≠ kp → q ≠ gp → q ≠ hp → q ≠ xp → q ≠ lp → q ≠ ap → q ≠ dp → q ≠ tp → q ≠ ip → q ≠ bp → H3582[q]? = s.heap[q]? := (fun q t hq h1 h2 n1 n2 n3 n4 n5 n6 n7 n8 n9 n10 n11 => (wH3582.off n1).trans (fy3578_fx q t hq h1 h2 n1 n2 n3 n4 n5 n6 n7 n8 n9 n10 n11))
        have f3584 : RFB K H3582 s.heap a0 := RFB.st fy3578_rb (fun k hk => Wr.neR wH3582 (Or.inr (hapB k _ (by omega) (by decide) (by omega))))
        have f3585 : ∀ j : Nat, j < 16 → fI H3582 kp j = fI s.heap ku j := fun j hj => (fI_kept (wH3582.off (G_ne gkp ga0 (by decide)))).trans (hc_kp j hj)
        have f3586 : ∀ j : Nat, j < 16 → fI H3582 gp j = fI s.heap gu j := fun j hj => (fI_kept (wH3582.off (G_ne ggp ga0 (by decide)))).trans (hc_gp j hj)
        have f3587 : ∀ j : Nat, j < 16 → fI H3582 hp j = fI s.heap hu j := fun j hj => (fI_kept (wH3582.off (G_ne ghp ga0 (by decide)))).trans (hc_hp j hj)
        have f3588 : ∀ j : Nat, j < 16 → fI H3582 xp j = fI s.heap xu j := fun j hj => (fI_kept (wH3582.off (G_ne gxp ga0 (by decide)))).trans (hc_xp j hj)
        have f3589 : ∀ j : Nat, j < 3 → fI H3582 lp j = fI s.heap lu j := fun j hj => (fI_kept (wH3582.off (G_ne glp ga0 (by decide)))).trans (hc_lp j hj)
        have f3590 : ∀ j : Nat, j < 200 → fI H3582 ap j = fI s.heap au j := fun j hj => (fI_kept (wH3582.off (G_ne gap ga0 (by decide)))).trans (hc_ap j hj)
        have f3591 : ∀ j : Nat, j < 200 → fI H3582 dp j = fI s.heap du j := fun j hj => (fI_kept (wH3582.off (G_ne gdp ga0 (by decide)))).trans (hc_dp j hj)
        have f3592 : ∀ j : Nat, j < 12 → fI H3582 tp j = fI s.heap tu j := fun j hj => (fI_kept (wH3582.off (G_ne gtp ga0 (by decide)))).trans (hc_tp j hj)
        have f3593 : ∀ j : Nat, j < 12 → fI H3582 ip j = fI s.heap iu j := fun j hj => (fI_kept (wH3582.off (G_ne gip ga0 (by decide)))).trans (hc_ip j hj)
        have m3594 := ex3575.trans (Wr.neI wH3582 (Or.inr (x_apart hKT hts inX0 tyX0 tyX0_ok nmX0 rfl 0 14 (by decide) (by decide) (by decide)))).symm
        have m3595 := ex3576.trans (Wr.neI wH3582 (Or.inr (x_apart hKT hts inX0 tyX0 tyX0_ok nmX0 rfl 8 14 (by decide) (by decide) (by decide)))).symm
        have m3596 := ex3577.trans (Wr.neI wH3582 (Or.inr (x_apart hKT hts inX0 tyX0 tyX0_ok nmX0 rfl 9 14 (by decide) (by decide) (by decide)))).symm
        have m3597 := cy3578_0.trans (Wr.neR wH3582 (Or.inr (x_apart hKT hts inX0 tyX0 tyX0_ok nmX0 rfl 1 14 (by decide) (by decide) (by decide)))).symm
        have m3598 := cy3578_1.trans (Wr.neR wH3582 (Or.inr (x_apart hKT hts inX0 tyX0 tyX0_ok nmX0 rfl 2 14 (by decide) (by decide) (by decide)))).symm
        have m3599 := cy3578_2.trans (Wr.neR wH3582 (Or.inr (x_apart hKT hts inX0 tyX0 tyX0_ok nmX0 rfl 3 14 (by decide) (by decide) (by decide)))).symm
        have m3600 := cy3578_3.trans (Wr.neR wH3582 (Or.inr (x_apart hKT hts inX0 tyX0 tyX0_ok nmX0 rfl 4 14 (by decide) (by decide) (by decide)))).symm
        have m3601 := cy3578_4.trans (Wr.neR wH3582 (Or.inr (x_apart hKT hts inX0 tyX0 tyX0_ok nmX0 rfl 5 14 (by decide) (by decide) (by decide)))).symm
        have m3602 := cy3578_5.trans (Wr.neR wH3582 (Or.inr (x_apart hKT hts inX0 tyX0 tyX0_ok nmX0 rfl 6 14 (by decide) (by decide) (by decide)))).symm
        have m3603 := cy3578_6.trans (Wr.neR wH3582 (Or.inr (x_apart hKT hts inX0 tyX0 tyX0_ok nmX0 rfl 7 14 (by decide) (by decide) (by decide)))).symm
        have m3604 := cy3578_7.trans (Wr.neR wH3582 (Or.inr (x_apart hKT hts inX0 tyX0 tyX0_ok nmX0 rfl 10 14 (by decide) (by decide) (by decide)))).symm
        have m3605 := cy3578_8.trans (Wr.neR wH3582 (Or.inr (x_apart hKT hts inX0 tyX0 tyX0_ok nmX0 rfl 11 14 (by decide) (by decide) (by decide)))).symm
        have m3606 := cy3578_9.trans (Wr.neR wH3582 (Or.inr (x_apart hKT hts inX0 tyX0 tyX0_ok nmX0 rfl 12 14 (by decide) (by decide) (by decide)))).symm
        have m3607 := cy3578_10.trans (Wr.neR wH3582 (Or.inr (x_apart hKT hts inX0 tyX0 tyX0_ok nmX0 rfl 13 14 (by decide) (by decide) (by decide)))).symm
        have m3608 := cy3578_11.trans (Wr.neR wH3582 (Or.inr (x_apart hKT hts inX0 tyX0 tyX0_ok nmX0 rfl 17 14 (by decide) (by decide) (by decide)))).symm
        have m3609 := cy3578_12.trans (Wr.neR wH3582 (Or.inl (G_ne ga1 ga0 (by decide)))).symm
        have m3610 := cy3578_13.trans (Wr.neR wH3582 (Or.inl (G_ne ga1 ga0 (by decide)))).symm
        have m3611 := cy3578_14.trans (Wr.neR wH3582 (Or.inl (G_ne ga1 ga0 (by decide)))).symm
        have m3612 := cy3578_15.trans (Wr.neR wH3582 (Or.inl (G_ne ga1 ga0 (by decide)))).symm
        have m3613 := cy3578_16.trans (Wr.neR wH3582 (Or.inl (G_ne ga1 ga0 (by decide)))).symm
        have m3614 := cy3578_17.trans (Wr.neR wH3582 (Or.inl (G_ne ga1 ga0 (by decide)))).symm
        have m3615 := cy3578_18.trans (Wr.neR wH3582 (Or.inl (G_ne ga1 ga0 (by decide)))).symm
        have m3616 := cy3578_19.trans (Wr.neR wH3582 (Or.inl (G_ne ga1 ga0 (by decide)))).symm
        have m3617 := cy3578_20.trans (Wr.neR wH3582 (Or.inl (G_ne ga1 ga0 (by decide)))).symm
        have m3618 := cy3578_21.trans (Wr.neR wH3582 (Or.inl (G_ne ga1 ga0 (by decide)))).symm
        have m3619 := cy3578_22.trans (Wr.neR wH3582 (Or.inl (G_ne ga1 ga0 (by decide)))).symm
        have m3620 := cy3578_23.trans (Wr.neR wH3582 (Or.inl (G_ne ga1 ga0 (by decide)))).symm
        have m3621 := cy3578_24.trans (Wr.neI wH3582 (Or.inl (G_ne ga1 ga0 (by decide)))).symm
        have m3622 := cy3578_25.trans (Wr.neI wH3582 (Or.inl (G_ne ga1 ga0 (by decide)))).symm
        have m3623 := cy3578_26.trans (Wr.neI wH3582 (Or.inl (G_ne ga1 ga0 (by decide)))).symm
        have m3624 := ex3581.trans (Wr.neI wH3582 (Or.inl (G_ne ga1 ga0 (by decide)))).symm
        have m3625 := Wr.I wH3582
        have m3625 := m3625.symm
        refine lv_aload_n hx hb dX0_copyFrom_220 rfl (lv_at hl3573 0 rfl) ?_
        refine lv_aload_n hx hb dX0_copyFrom_221 rfl (lv_at hl3573 1 rfl) ?_
        refine x_gi C hTH3582 (ci := 0) (k := 15) rfl inX0 (by decide) wF_X0_69 ga1 rg_35 rfl dX0_copyFrom_222 (fun x3626 ex3626 bx3626 => ?_)
        refine x_put C hTH3582 hSH3582 (ci := 0) (k := 15) (v := .int x3626) (ty0 := tyX0) rfl inX0 tyX0_ok nmX0 (by decide) rfl wF_X0_69 ga0 rg_1 rfl rfl (okI bx3626.1 bx3626.2) rfl rfl (AE_in ga0 (by decide)) dX0_copyFrom_225 (fun H3627 locsH3627 hTH3627 hSH3627 wH3627 => ?_)
        have f3628 : ∀ q t : Nat, G q = some t → t ≠ 12 → t ≠ 14 → q ≠ a0 → q ≠ kp → q ≠ gp → q ≠ hp → q ≠ xp → q ≠ lp → q ≠ ap → q ≠ dp → q ≠ tp → q ≠ ip → q ≠ bp → H3627[q]? = s.heap[q]? := (fun q t hq h1 h2 n1 n2 n3 n4 n5 n6 n7 n8 n9 n10 n11 => (wH3627.off n1).trans (f3583 q t hq h1 h2 n1 n2 n3 n4 n5 n6 n7 n8 n9 n10 n11))
        have f3629 : RFB K H3627 s.heap a0 := RFB.st f3584 (fun k hk => Wr.neR wH3627 (Or.inr (hapB k _ (by omega) (by decide) (by omega))))
        have f3630 : ∀ j : Nat, j < 16 → fI H3627 kp j = fI s.heap ku j := fun j hj => (fI_kept (wH3627.off (G_ne gkp ga0 (by decide)))).trans (f3585 j hj)
        have f3631 : ∀ j : Nat, j < 16 → fI H3627 gp j = fI s.heap gu j := fun j hj => (fI_kept (wH3627.off (G_ne ggp ga0 (by decide)))).trans (f3586 j hj)
        have f3632 : ∀ j : Nat, j < 16 → fI H3627 hp j = fI s.heap hu j := fun j hj => (fI_kept (wH3627.off (G_ne ghp ga0 (by decide)))).trans (f3587 j hj)
        have f3633 : ∀ j : Nat, j < 16 → fI H3627 xp j = fI s.heap xu j := fun j hj => (fI_kept (wH3627.off (G_ne gxp ga0 (by decide)))).trans (f3588 j hj)
        have f3634 : ∀ j : Nat, j < 3 → fI H3627 lp j = fI s.heap lu j := fun j hj => (fI_kept (wH3627.off (G_ne glp ga0 (by decide)))).trans (f3589 j hj)
        have f3635 : ∀ j : Nat, j < 200 → fI H3627 ap j = fI s.heap au j := fun j hj => (fI_kept (wH3627.off (G_ne gap ga0 (by decide)))).trans (f3590 j hj)
        have f3636 : ∀ j : Nat, j < 200 → fI H3627 dp j = fI s.heap du j := fun j hj => (fI_kept (wH3627.off (G_ne gdp ga0 (by decide)))).trans (f3591 j hj)
        have f3637 : ∀ j : Nat, j < 12 → fI H3627 tp j = fI s.heap tu j := fun j hj => (fI_kept (wH3627.off (G_ne gtp ga0 (by decide)))).trans (f3592 j hj)
        have f3638 : ∀ j : Nat, j < 12 → fI H3627 ip j = fI s.heap iu j := fun j hj => (fI_kept (wH3627.off (G_ne gip ga0 (by decide)))).trans (f3593 j hj)
        have m3639 := m3594.trans (Wr.neI wH3627 (Or.inr (x_apart hKT hts inX0 tyX0 tyX0_ok nmX0 rfl 0 15 (by decide) (by decide) (by decide)))).symm
        have m3640 := m3595.trans (Wr.neI wH3627 (Or.inr (x_apart hKT hts inX0 tyX0 tyX0_ok nmX0 rfl 8 15 (by decide) (by decide) (by decide)))).symm
        have m3641 := m3596.trans (Wr.neI wH3627 (Or.inr (x_apart hKT hts inX0 tyX0 tyX0_ok nmX0 rfl 9 15 (by decide) (by decide) (by decide)))).symm
        have m3642 := m3597.trans (Wr.neR wH3627 (Or.inr (x_apart hKT hts inX0 tyX0 tyX0_ok nmX0 rfl 1 15 (by decide) (by decide) (by decide)))).symm
        have m3643 := m3598.trans (Wr.neR wH3627 (Or.inr (x_apart hKT hts inX0 tyX0 tyX0_ok nmX0 rfl 2 15 (by decide) (by decide) (by decide)))).symm
        have m3644 := m3599.trans (Wr.neR wH3627 (Or.inr (x_apart hKT hts inX0 tyX0 tyX0_ok nmX0 rfl 3 15 (by decide) (by decide) (by decide)))).symm
        have m3645 := m3600.trans (Wr.neR wH3627 (Or.inr (x_apart hKT hts inX0 tyX0 tyX0_ok nmX0 rfl 4 15 (by decide) (by decide) (by decide)))).symm
        have m3646 := m3601.trans (Wr.neR wH3627 (Or.inr (x_apart hKT hts inX0 tyX0 tyX0_ok nmX0 rfl 5 15 (by decide) (by decide) (by decide)))).symm
        have m3647 := m3602.trans (Wr.neR wH3627 (Or.inr (x_apart hKT hts inX0 tyX0 tyX0_ok nmX0 rfl 6 15 (by decide) (by decide) (by decide)))).symm
        have m3648 := m3603.trans (Wr.neR wH3627 (Or.inr (x_apart hKT hts inX0 tyX0 tyX0_ok nmX0 rfl 7 15 (by decide) (by decide) (by decide)))).symm
        have m3649 := m3604.trans (Wr.neR wH3627 (Or.inr (x_apart hKT hts inX0 tyX0 tyX0_ok nmX0 rfl 10 15 (by decide) (by decide) (by decide)))).symm
        have m3650 := m3605.trans (Wr.neR wH3627 (Or.inr (x_apart hKT hts inX0 tyX0 tyX0_ok nmX0 rfl 11 15 (by decide) (by decide) (by decide)))).symm
        have m3651 := m3606.trans (Wr.neR wH3627 (Or.inr (x_apart hKT hts inX0 tyX0 tyX0_ok nmX0 rfl 12 15 (by decide) (by decide) (by decide)))).symm
        have m3652 := m3607.trans (Wr.neR wH3627 (Or.inr (x_apart hKT hts inX0 tyX0 tyX0_ok nmX0 rfl 13 15 (by decide) (by decide) (by decide)))).symm
        have m3653 := m3608.trans (Wr.neR wH3627 (Or.inr (x_apart hKT hts inX0 tyX0 tyX0_ok nmX0 rfl 17 15 (by decide) (by decide) (by decide)))).symm
        have m3654 := m3609.trans (Wr.neR wH3627 (Or.inl (G_ne ga1 ga0 (by decide)))).symm
        have m3655 := m3610.trans (Wr.neR wH3627 (Or.inl (G_ne ga1 ga0 (by decide)))).symm
        have m3656 := m3611.trans (Wr.neR wH3627 (Or.inl (G_ne ga1 ga0 (by decide)))).symm
        have m3657 := m3612.trans (Wr.neR wH3627 (Or.inl (G_ne ga1 ga0 (by decide)))).symm
        have m3658 := m3613.trans (Wr.neR wH3627 (Or.inl (G_ne ga1 ga0 (by decide)))).symm
        have m3659 := m3614.trans (Wr.neR wH3627 (Or.inl (G_ne ga1 ga0 (by decide)))).symm
        have m3660 := m3615.trans (Wr.neR wH3627 (Or.inl (G_ne ga1 ga0 (by decide)))).symm
        have m3661 := m3616.trans (Wr.neR wH3627 (Or.inl (G_ne ga1 ga0 (by decide)))).symm
        have m3662 := m3617.trans (Wr.neR wH3627 (Or.inl (G_ne ga1 ga0 (by decide)))).symm
        have m3663 := m3618.trans (Wr.neR wH3627 (Or.inl (G_ne ga1 ga0 (by decide)))).symm
        have m3664 := m3619.trans (Wr.neR wH3627 (Or.inl (G_ne ga1 ga0 (by decide)))).symm
        have m3665 := m3620.trans (Wr.neR wH3627 (Or.inl (G_ne ga1 ga0 (by decide)))).symm
        have m3666 := m3621.trans (Wr.neI wH3627 (Or.inl (G_ne ga1 ga0 (by decide)))).symm
        have m3667 := m3622.trans (Wr.neI wH3627 (Or.inl (G_ne ga1 ga0 (by decide)))).symm
        have m3668 := m3623.trans (Wr.neI wH3627 (Or.inl (G_ne ga1 ga0 (by decide)))).symm
        have m3669 := m3624.trans (Wr.neI wH3627 (Or.inl (G_ne ga1 ga0 (by decide)))).symm
        have m3670 := m3625.trans (Wr.neI wH3627 (Or.inr (x_apart hKT hts inX0 tyX0 tyX0_ok nmX0 rfl 14 15 (by decide) (by decide) (by decide)))).symm
        have m3671 := ex3626.trans (Wr.neI wH3627 (Or.inl (G_ne ga1 ga0 (by decide)))).symm
        have m3672 := Wr.I wH3627
        have m3672 := m3672.symm
        refine lv_aload_n hx hb dX0_copyFrom_228 rfl (lv_at hl3573 0 rfl) ?_
        refine lv_aload_n hx hb dX0_copyFrom_229 rfl (lv_at hl3573 1 rfl) ?_
        refine x_gi C hTH3627 (ci := 0) (k := 16) rfl inX0 (by decide) wF_X0_72 ga1 rg_35 rfl dX0_copyFrom_230 (fun x3673 ex3673 bx3673 => ?_)
        refine x_put C hTH3627 hSH3627 (ci := 0) (k := 16) (v := .int x3673) (ty0 := tyX0) rfl inX0 tyX0_ok nmX0 (by decide) rfl wF_X0_72 ga0 rg_1 rfl rfl (okI bx3673.1 bx3673.2) rfl rfl (AE_in ga0 (by decide)) dX0_copyFrom_233 (fun H3674 locsH3674 hTH3674 hSH3674 wH3674 => ?_)
        clear f3583 f3584 f3585 f3586 f3587 f3588 f3589 f3590 f3591 f3592 f3593 m3594 m3595 m3596 m3597 m3598 m3599 m3600 m3601 m3602 m3603 m3604 m3605 m3606 m3607 m3608 m3609 m3610 m3611 m3612 m3613 m3614 m3615 m3616 m3617 m3618 m3619 m3620 m3621 m3622 m3623 m3624 m3625
        have f3675 : ∀ q t : Nat, G q = some t → t ≠ 12 → t ≠ 14 → q ≠ a0 → q ≠ kp → q ≠ gp → q ≠ hp → q ≠ xp → q ≠ lp → q ≠ ap → q ≠ dp → q ≠ tp → q ≠ ip → q ≠ bp → H3674[q]? = s.heap[q]? := (fun q t hq h1 h2 n1 n2 n3 n4 n5 n6 n7 n8 n9 n10 n11 => (wH3674.off n1).trans (f3628 q t hq h1 h2 n1 n2 n3 n4 n5 n6 n7 n8 n9 n10 n11))
        have f3676 : RFB K H3674 s.heap a0 := RFB.st f3629 (fun k hk => Wr.neR wH3674 (Or.inr (hapB k _ (by omega) (by decide) (by omega))))
        have f3677 : ∀ j : Nat, j < 16 → fI H3674 kp j = fI s.heap ku j := fun j hj => (fI_kept (wH3674.off (G_ne gkp ga0 (by decide)))).trans (f3630 j hj)
        have f3678 : ∀ j : Nat, j < 16 → fI H3674 gp j = fI s.heap gu j := fun j hj => (fI_kept (wH3674.off (G_ne ggp ga0 (by decide)))).trans (f3631 j hj)
        have f3679 : ∀ j : Nat, j < 16 → fI H3674 hp j = fI s.heap hu j := fun j hj => (fI_kept (wH3674.off (G_ne ghp ga0 (by decide)))).trans (f3632 j hj)
        have f3680 : ∀ j : Nat, j < 16 → fI H3674 xp j = fI s.heap xu j := fun j hj => (fI_kept (wH3674.off (G_ne gxp ga0 (by decide)))).trans (f3633 j hj)
        have f3681 : ∀ j : Nat, j < 3 → fI H3674 lp j = fI s.heap lu j := fun j hj => (fI_kept (wH3674.off (G_ne glp ga0 (by decide)))).trans (f3634 j hj)
        have f3682 : ∀ j : Nat, j < 200 → fI H3674 ap j = fI s.heap au j := fun j hj => (fI_kept (wH3674.off (G_ne gap ga0 (by decide)))).trans (f3635 j hj)
        have f3683 : ∀ j : Nat, j < 200 → fI H3674 dp j = fI s.heap du j := fun j hj => (fI_kept (wH3674.off (G_ne gdp ga0 (by decide)))).trans (f3636 j hj)
        have f3684 : ∀ j : Nat, j < 12 → fI H3674 tp j = fI s.heap tu j := fun j hj => (fI_kept (wH3674.off (G_ne gtp ga0 (by decide)))).trans (f3637 j hj)
        have f3685 : ∀ j : Nat, j < 12 → fI H3674 ip j = fI s.heap iu j := fun j hj => (fI_kept (wH3674.off (G_ne gip ga0 (by decide)))).trans (f3638 j hj)
        have m3686 := m3639.trans (Wr.neI wH3674 (Or.inr (x_apart hKT hts inX0 tyX0 tyX0_ok nmX0 rfl 0 16 (by decide) (by decide) (by decide)))).symm
        have m3687 := m3640.trans (Wr.neI wH3674 (Or.inr (x_apart hKT hts inX0 tyX0 tyX0_ok nmX0 rfl 8 16 (by decide) (by decide) (by decide)))).symm
        have m3688 := m3641.trans (Wr.neI wH3674 (Or.inr (x_apart hKT hts inX0 tyX0 tyX0_ok nmX0 rfl 9 16 (by decide) (by decide) (by decide)))).symm
        have m3689 := m3642.trans (Wr.neR wH3674 (Or.inr (x_apart hKT hts inX0 tyX0 tyX0_ok nmX0 rfl 1 16 (by decide) (by decide) (by decide)))).symm
        have m3690 := m3643.trans (Wr.neR wH3674 (Or.inr (x_apart hKT hts inX0 tyX0 tyX0_ok nmX0 rfl 2 16 (by decide) (by decide) (by decide)))).symm
        have m3691 := m3644.trans (Wr.neR wH3674 (Or.inr (x_apart hKT hts inX0 tyX0 tyX0_ok nmX0 rfl 3 16 (by decide) (by decide) (by decide)))).symm
        have m3692 := m3645.trans (Wr.neR wH3674 (Or.inr (x_apart hKT hts inX0 tyX0 tyX0_ok nmX0 rfl 4 16 (by decide) (by decide) (by decide)))).symm
        have m3693 := m3646.trans (Wr.neR wH3674 (Or.inr (x_apart hKT hts inX0 tyX0 tyX0_ok nmX0 rfl 5 16 (by decide) (by decide) (by decide)))).symm
        have m3694 := m3647.trans (Wr.neR wH3674 (Or.inr (x_apart hKT hts inX0 tyX0 tyX0_ok nmX0 rfl 6 16 (by decide) (by decide) (by decide)))).symm
        have m3695 := m3648.trans (Wr.neR wH3674 (Or.inr (x_apart hKT hts inX0 tyX0 tyX0_ok nmX0 rfl 7 16 (by decide) (by decide) (by decide)))).symm
        have m3696 := m3649.trans (Wr.neR wH3674 (Or.inr (x_apart hKT hts inX0 tyX0 tyX0_ok nmX0 rfl 10 16 (by decide) (by decide) (by decide)))).symm
        have m3697 := m3650.trans (Wr.neR wH3674 (Or.inr (x_apart hKT hts inX0 tyX0 tyX0_ok nmX0 rfl 11 16 (by decide) (by decide) (by decide)))).symm
        have m3698 := m3651.trans (Wr.neR wH3674 (Or.inr (x_apart hKT hts inX0 tyX0 tyX0_ok nmX0 rfl 12 16 (by decide) (by decide) (by decide)))).symm
        have m3699 := m3652.trans (Wr.neR wH3674 (Or.inr (x_apart hKT hts inX0 tyX0 tyX0_ok nmX0 rfl 13 16 (by decide) (by decide) (by decide)))).symm
        have m3700 := m3653.trans (Wr.neR wH3674 (Or.inr (x_apart hKT hts inX0 tyX0 tyX0_ok nmX0 rfl 17 16 (by decide) (by decide) (by decide)))).symm
        have m3701 := m3654.trans (Wr.neR wH3674 (Or.inl (G_ne ga1 ga0 (by decide)))).symm
        have m3702 := m3655.trans (Wr.neR wH3674 (Or.inl (G_ne ga1 ga0 (by decide)))).symm
        have m3703 := m3656.trans (Wr.neR wH3674 (Or.inl (G_ne ga1 ga0 (by decide)))).symm
        have m3704 := m3657.trans (Wr.neR wH3674 (Or.inl (G_ne ga1 ga0 (by decide)))).symm
        have m3705 := m3658.trans (Wr.neR wH3674 (Or.inl (G_ne ga1 ga0 (by decide)))).symm
        have m3706 := m3659.trans (Wr.neR wH3674 (Or.inl (G_ne ga1 ga0 (by decide)))).symm
        have m3707 := m3660.trans (Wr.neR wH3674 (Or.inl (G_ne ga1 ga0 (by decide)))).symm
        have m3708 := m3661.trans (Wr.neR wH3674 (Or.inl (G_ne ga1 ga0 (by decide)))).symm
        have m3709 := m3662.trans (Wr.neR wH3674 (Or.inl (G_ne ga1 ga0 (by decide)))).symm
        have m3710 := m3663.trans (Wr.neR wH3674 (Or.inl (G_ne ga1 ga0 (by decide)))).symm
        have m3711 := m3664.trans (Wr.neR wH3674 (Or.inl (G_ne ga1 ga0 (by decide)))).symm
        have m3712 := m3665.trans (Wr.neR wH3674 (Or.inl (G_ne ga1 ga0 (by decide)))).symm
        have m3713 := m3666.trans (Wr.neI wH3674 (Or.inl (G_ne ga1 ga0 (by decide)))).symm
        have m3714 := m3667.trans (Wr.neI wH3674 (Or.inl (G_ne ga1 ga0 (by decide)))).symm
        have m3715 := m3668.trans (Wr.neI wH3674 (Or.inl (G_ne ga1 ga0 (by decide)))).symm
        have m3716 := m3669.trans (Wr.neI wH3674 (Or.inl (G_ne ga1 ga0 (by decide)))).symm
        have m3717 := m3670.trans (Wr.neI wH3674 (Or.inr (x_apart hKT hts inX0 tyX0 tyX0_ok nmX0 rfl 14 16 (by decide) (by decide) (by decide)))).symm
        have m3718 := m3671.trans (Wr.neI wH3674 (Or.inl (G_ne ga1 ga0 (by decide)))).symm
        have m3719 := m3672.trans (Wr.neI wH3674 (Or.inr (x_apart hKT hts inX0 tyX0 tyX0_ok nmX0 rfl 15 16 (by decide) (by decide) (by decide)))).symm
        have m3720 := ex3673.trans (Wr.neI wH3674 (Or.inl (G_ne ga1 ga0 (by decide)))).symm
        have m3721 := Wr.I wH3674
        have m3721 := m3721.symm
        refine lv_aload_n hx hb dX0_copyFrom_236 rfl (lv_at hl3573 1 rfl) ?_
        refine x_gr C hTH3674 (ci := 0) (k := 17) rfl inX0 (by decide) wF_X0_47 ga1 rg_35 rfl dX0_copyFrom_237 (fun q3722 eq3722 gq3722 => ?_)
        have uq3722 : bu = q3722 := (m3712).trans eq3722.symm
        subst uq3722
        refine lv_iconst (v := 0) hx hb dX0_copyFrom_240 (by decide) ?_
        refine lv_aload_n hx hb dX0_copyFrom_241 rfl (lv_at hl3573 0 rfl) ?_
        refine x_gr C hTH3674 (ci := 0) (k := 17) rfl inX0 (by decide) wF_X0_47 ga0 rg_1 rfl dX0_copyFrom_242 (fun q3723 eq3723 gq3723 => ?_)
        have uq3723 : bp = q3723 := (m3700).trans eq3723.symm
        subst uq3723
        refine lv_iconst (v := 0) hx hb dX0_copyFrom_245 (by decide) ?_
        refine lv_iconst (v := 2) hx hb dX0_copyFrom_246 (by decide) ?_
        refine x_copy C hTH3674 hSH3674 wM_X0_75 wNT_arraycopy wST_arraycopy wIN_J10 gbu gbp rg_49 rg_15 (by decide) (by omega) (by omega) (by omega) (by show _ ≤ ((2 : Nat) : Int); omega) (by show _ ≤ ((2 : Nat) : Int); omega) (AE_in gbp (by decide)) hl3573.1 (by decide) dX0_copyFrom_247 (fun H3724 locsH3724 hTH3724 hSH3724 zH3724 oH3724 vH3724 wH3724 => ?_)
        have m3725 := (m3686).trans (fI_kept (oH3724 _ (G_ne ga0 gbp (by decide)))).symm
        have m3726 := (m3687).trans (fI_kept (oH3724 _ (G_ne ga0 gbp (by decide)))).symm
        have m3727 := (m3688).trans (fI_kept (oH3724 _ (G_ne ga0 gbp (by decide)))).symm
        have m3728 := (m3689).trans (fR_kept (oH3724 _ (G_ne ga0 gbp (by decide)))).symm
        have m3729 := (m3690).trans (fR_kept (oH3724 _ (G_ne ga0 gbp (by decide)))).symm
        have m3730 := (m3691).trans (fR_kept (oH3724 _ (G_ne ga0 gbp (by decide)))).symm
        have m3731 := (m3692).trans (fR_kept (oH3724 _ (G_ne ga0 gbp (by decide)))).symm
        have m3732 := (m3693).trans (fR_kept (oH3724 _ (G_ne ga0 gbp (by decide)))).symm
        have m3733 := (m3694).trans (fR_kept (oH3724 _ (G_ne ga0 gbp (by decide)))).symm
        have m3734 := (m3695).trans (fR_kept (oH3724 _ (G_ne ga0 gbp (by decide)))).symm
        have m3735 := (m3696).trans (fR_kept (oH3724 _ (G_ne ga0 gbp (by decide)))).symm
        have m3736 := (m3697).trans (fR_kept (oH3724 _ (G_ne ga0 gbp (by decide)))).symm
        have m3737 := (m3698).trans (fR_kept (oH3724 _ (G_ne ga0 gbp (by decide)))).symm
        have m3738 := (m3699).trans (fR_kept (oH3724 _ (G_ne ga0 gbp (by decide)))).symm
        have m3739 := (m3700).trans (fR_kept (oH3724 _ (G_ne ga0 gbp (by decide)))).symm
        have m3740 := (m3701).trans (fR_kept (oH3724 _ (G_ne ga1 gbp (by decide)))).symm
        have m3741 := (m3702).trans (fR_kept (oH3724 _ (G_ne ga1 gbp (by decide)))).symm
        have m3742 := (m3703).trans (fR_kept (oH3724 _ (G_ne ga1 gbp (by decide)))).symm
        have m3743 := (m3704).trans (fR_kept (oH3724 _ (G_ne ga1 gbp (by decide)))).symm
        have m3744 := (m3705).trans (fR_kept (oH3724 _ (G_ne ga1 gbp (by decide)))).symm
        have m3745 := (m3706).trans (fR_kept (oH3724 _ (G_ne ga1 gbp (by decide)))).symm
        have m3746 := (m3707).trans (fR_kept (oH3724 _ (G_ne ga1 gbp (by decide)))).symm
        have m3747 := (m3708).trans (fR_kept (oH3724 _ (G_ne ga1 gbp (by decide)))).symm
        have m3748 := (m3709).trans (fR_kept (oH3724 _ (G_ne ga1 gbp (by decide)))).symm
        have m3749 := (m3710).trans (fR_kept (oH3724 _ (G_ne ga1 gbp (by decide)))).symm
        have m3750 := (m3711).trans (fR_kept (oH3724 _ (G_ne ga1 gbp (by decide)))).symm
        have m3751 := (m3712).trans (fR_kept (oH3724 _ (G_ne ga1 gbp (by decide)))).symm
        have m3752 := (m3713).trans (fI_kept (oH3724 _ (G_ne ga1 gbp (by decide)))).symm
        have m3753 := (m3714).trans (fI_kept (oH3724 _ (G_ne ga1 gbp (by decide)))).symm
        have m3754 := (m3715).trans (fI_kept (oH3724 _ (G_ne ga1 gbp (by decide)))).symm
        have m3755 := (m3716).trans (fI_kept (oH3724 _ (G_ne ga1 gbp (by decide)))).symm
        have m3756 := (m3717).trans (fI_kept (oH3724 _ (G_ne ga0 gbp (by decide)))).symm
        have m3757 := (m3718).trans (fI_kept (oH3724 _ (G_ne ga1 gbp (by decide)))).symm
        have m3758 := (m3719).trans (fI_kept (oH3724 _ (G_ne ga0 gbp (by decide)))).symm
        have m3759 := (m3720).trans (fI_kept (oH3724 _ (G_ne ga1 gbp (by decide)))).symm
        have m3760 := (m3721).trans (fI_kept (oH3724 _ (G_ne ga0 gbp (by decide)))).symm
        have f3761 : ∀ q t : Nat, G q = some t → t ≠ 12 → t ≠ 14 → q ≠ a0 → q ≠ kp → q ≠ gp → q ≠ hp → q ≠ xp → q ≠ lp → q ≠ ap → q ≠ dp → q ≠ tp → q ≠ ip → q ≠ bp → H3724[q]? = s.heap[q]? := (fun q t hq h1 h2 n1 n2 n3 n4 n5 n6 n7 n8 n9 n10 n11 => (oH3724 _ n11).trans (f3675 q t hq h1 h2 n1 n2 n3 n4 n5 n6 n7 n8 n9 n10 n11))
        have f3762 : RFB K H3724 s.heap a0 := RFB.st f3676 (fun k hk => fR_kept (oH3724 _ (G_ne ga0 gbp (by decide))))
        have f3763 : ∀ j : Nat, j < 16 → fI H3724 kp j = fI s.heap ku j := fun j hj => (fI_kept (oH3724 _ (G_ne gkp gbp (by decide)))).trans (f3677 j hj)
        have f3764 : ∀ j : Nat, j < 16 → fI H3724 gp j = fI s.heap gu j := fun j hj => (fI_kept (oH3724 _ (G_ne ggp gbp (by decide)))).trans (f3678 j hj)
        have f3765 : ∀ j : Nat, j < 16 → fI H3724 hp j = fI s.heap hu j := fun j hj => (fI_kept (oH3724 _ (G_ne ghp gbp (by decide)))).trans (f3679 j hj)
        have f3766 : ∀ j : Nat, j < 16 → fI H3724 xp j = fI s.heap xu j := fun j hj => (fI_kept (oH3724 _ (G_ne gxp gbp (by decide)))).trans (f3680 j hj)
        have f3767 : ∀ j : Nat, j < 3 → fI H3724 lp j = fI s.heap lu j := fun j hj => (fI_kept (oH3724 _ (G_ne glp gbp (by decide)))).trans (f3681 j hj)
        have f3768 : ∀ j : Nat, j < 200 → fI H3724 ap j = fI s.heap au j := fun j hj => (fI_kept (oH3724 _ (G_ne gap gbp (by decide)))).trans (f3682 j hj)
        have f3769 : ∀ j : Nat, j < 200 → fI H3724 dp j = fI s.heap du j := fun j hj => (fI_kept (oH3724 _ (G_ne gdp gbp (by decide)))).trans (f3683 j hj)
        have f3770 : ∀ j : Nat, j < 12 → fI H3724 tp j = fI s.heap tu j := fun j hj => (fI_kept (oH3724 _ (G_ne gtp gbp (by decide)))).trans (f3684 j hj)
        have f3771 : ∀ j : Nat, j < 12 → fI H3724 ip j = fI s.heap iu j := fun j hj => (fI_kept (oH3724 _ (G_ne gip gbp (by decide)))).trans (f3685 j hj)
        have cp3772 : ∀ j : Nat, j < 2 → fI H3724 bp j = fI s.heap bu j := fun j hj => by have c00 : (0 : Int32).toNatClampNeg = 0 := rfl; have cnn : (2 : Int32).toNatClampNeg = 2 := rfl; have z := wH3724 j (by omega); rw [c00, Nat.zero_add] at z; exact z.trans (fI_kept (x_lt hT hSH3674.2.1 gbu (by decide)))
        exact x_vret C hQ dX0_copyFrom_250 hSH3724 (by decide) (by decide) (⟨x3575, x3576, x3577, rfl, m3725, m3726, m3727, m3728, m3729, m3730, m3731, m3732, m3733, m3734, m3735, m3736, m3737, m3738, m3739, (cpB (by rw [← m3725, ← eszu]; exact Int32.toInt_inj.mp (by omega)) (by rw [← m3726, ← epcu]; exact Int32.toInt_inj.mp (by omega)) (by rw [← m3727, ← elbu]; exact Int32.toInt_inj.mp (by omega)) (fun k h1 h7 => by have hk7 : k = 1 ∨ k = 2 ∨ k = 3 ∨ k = 4 ∨ k = 5 ∨ k = 6 ∨ k = 7 := (by omega); rcases hk7 with rfl | rfl | rfl | rfl | rfl | rfl | rfl; exact (fun j hj => by rw [← m3728, ← eku]; exact f3763 j hj); exact (fun j hj => by rw [← m3729, ← egu]; exact f3764 j hj); exact (fun j hj => by rw [← m3730, ← ehu]; exact f3765 j hj); exact (fun j hj => by rw [← m3731, ← exu]; exact f3766 j hj); exact (fun j hj => by rw [← m3732, ← elu]; exact f3767 j hj); exact (fun j hj => by rw [← m3733, ← eau]; exact f3768 j hj); exact (fun j hj => by rw [← m3734, ← edu]; exact f3769 j hj))), f3761, f3762, hTH3724⟩)
      · have k3580 := i_nle c3579
        refine lv_aload_n hx hb dX0_copyFrom_168 rfl (lv_at hl3573 1 rfl) ?_
        refine x_gr C hTH3571 (ci := 0) (k := 12) rfl inX0 (by decide) wF_X0_41 ga1 rg_35 rfl dX0_copyFrom_169 (fun q3773 eq3773 gq3773 => ?_)
        have uq3773 : Ku = q3773 := (cy3578_21).trans eq3773.symm
        subst uq3773
        refine lv_iload_n hx hb dX0_copyFrom_172 rfl (lv_at hl3573 2 rfl) ?_
        refine x_ar C hTH3571 rfl rfl gKu rg_45 ⟨bx3574.1, by show _ < ((12 : Nat) : Int); omega⟩ dX0_copyFrom_173 (fun q3774 eq3774 gq3774 => ?_)
        replace eq3774 : @Eq Ad q3774 (fR H3571 Ku (x3574 : Int32).toNatClampNeg) := eq3774
        refine lv_iconst (v := 0) hx hb dX0_copyFrom_174 (by decide) ?_
        refine lv_aload_n hx hb dX0_copyFrom_175 rfl (lv_at hl3573 0 rfl) ?_
        refine x_gr C hTH3571 (ci := 0) (k := 12) rfl inX0 (by decide) wF_X0_41 ga0 rg_1 rfl dX0_copyFrom_176 (fun q3775 eq3775 gq3775 => ?_)
        have uq3775 : Kp = q3775 := (cy3578_9).trans eq3775.symm
        subst uq3775
        refine lv_iload_n hx hb dX0_copyFrom_179 rfl (lv_at hl3573 2 rfl) ?_
        refine x_ar C hTH3571 rfl rfl gKp rg_11 ⟨bx3574.1, by show _ < ((12 : Nat) : Int); omega⟩ dX0_copyFrom_180 (fun q3776 eq3776 gq3776 => ?_)
        replace eq3776 : @Eq Ad q3776 (fR H3571 Kp (x3574 : Int32).toNatClampNeg) := eq3776
        refine lv_iconst (v := 0) hx hb dX0_copyFrom_181 (by decide) ?_
        refine lv_bipush (v := 16) hx hb dX0_copyFrom_182 (by decide) ?_
        refine x_copy C hTH3571 hSH3571 wM_X0_75 wNT_arraycopy wST_arraycopy wIN_J10 gq3774 gq3776 rg_46 rg_12 (by decide) (by omega) (by omega) (by omega) (by show _ ≤ ((16 : Nat) : Int); omega) (by show _ ≤ ((16 : Nat) : Int); omega) (AE_in gq3776 (by decide)) hl3573.1 (by decide) dX0_copyFrom_184 (fun H3777 locsH3777 hTH3777 hSH3777 zH3777 oH3777 vH3777 wH3777 => ?_)
        have m3778 := (ex3575).trans (fI_kept (oH3777 _ (G_ne ga0 gq3776 (by decide)))).symm
        have m3779 := (ex3576).trans (fI_kept (oH3777 _ (G_ne ga0 gq3776 (by decide)))).symm
        have m3780 := (ex3577).trans (fI_kept (oH3777 _ (G_ne ga0 gq3776 (by decide)))).symm
        have m3781 := (cy3578_0).trans (fR_kept (oH3777 _ (G_ne ga0 gq3776 (by decide)))).symm
        have m3782 := (cy3578_1).trans (fR_kept (oH3777 _ (G_ne ga0 gq3776 (by decide)))).symm
        have m3783 := (cy3578_2).trans (fR_kept (oH3777 _ (G_ne ga0 gq3776 (by decide)))).symm
        have m3784 := (cy3578_3).trans (fR_kept (oH3777 _ (G_ne ga0 gq3776 (by decide)))).symm
        have m3785 := (cy3578_4).trans (fR_kept (oH3777 _ (G_ne ga0 gq3776 (by decide)))).symm
        have m3786 := (cy3578_5).trans (fR_kept (oH3777 _ (G_ne ga0 gq3776 (by decide)))).symm
        have m3787 := (cy3578_6).trans (fR_kept (oH3777 _ (G_ne ga0 gq3776 (by decide)))).symm
        have m3788 := (cy3578_7).trans (fR_kept (oH3777 _ (G_ne ga0 gq3776 (by decide)))).symm
        have m3789 := (cy3578_8).trans (fR_kept (oH3777 _ (G_ne ga0 gq3776 (by decide)))).symm
        have m3790 := (cy3578_9).trans (fR_kept (oH3777 _ (G_ne ga0 gq3776 (by decide)))).symm
        have m3791 := (cy3578_10).trans (fR_kept (oH3777 _ (G_ne ga0 gq3776 (by decide)))).symm
        have m3792 := (cy3578_11).trans (fR_kept (oH3777 _ (G_ne ga0 gq3776 (by decide)))).symm
        have m3793 := (cy3578_12).trans (fR_kept (oH3777 _ (G_ne ga1 gq3776 (by decide)))).symm
        have m3794 := (cy3578_13).trans (fR_kept (oH3777 _ (G_ne ga1 gq3776 (by decide)))).symm
        have m3795 := (cy3578_14).trans (fR_kept (oH3777 _ (G_ne ga1 gq3776 (by decide)))).symm
        have m3796 := (cy3578_15).trans (fR_kept (oH3777 _ (G_ne ga1 gq3776 (by decide)))).symm
        have m3797 := (cy3578_16).trans (fR_kept (oH3777 _ (G_ne ga1 gq3776 (by decide)))).symm
        have m3798 := (cy3578_17).trans (fR_kept (oH3777 _ (G_ne ga1 gq3776 (by decide)))).symm
        have m3799 := (cy3578_18).trans (fR_kept (oH3777 _ (G_ne ga1 gq3776 (by decide)))).symm
        have m3800 := (cy3578_19).trans (fR_kept (oH3777 _ (G_ne ga1 gq3776 (by decide)))).symm
        have m3801 := (cy3578_20).trans (fR_kept (oH3777 _ (G_ne ga1 gq3776 (by decide)))).symm
        have m3802 := (cy3578_21).trans (fR_kept (oH3777 _ (G_ne ga1 gq3776 (by decide)))).symm
        have m3803 := (cy3578_22).trans (fR_kept (oH3777 _ (G_ne ga1 gq3776 (by decide)))).symm
        have m3804 := (cy3578_23).trans (fR_kept (oH3777 _ (G_ne ga1 gq3776 (by decide)))).symm
        have m3805 := (cy3578_24).trans (fI_kept (oH3777 _ (G_ne ga1 gq3776 (by decide)))).symm
        have m3806 := (cy3578_25).trans (fI_kept (oH3777 _ (G_ne ga1 gq3776 (by decide)))).symm
        have m3807 := (cy3578_26).trans (fI_kept (oH3777 _ (G_ne ga1 gq3776 (by decide)))).symm
        have f3808 : ∀ q t : Nat, G q = some t → t ≠ 12 → t ≠ 14 → q ≠ a0 → q ≠ kp → q ≠ gp → q ≠ hp → q ≠ xp → q ≠ lp → q ≠ ap → q ≠ dp → q ≠ tp → q ≠ ip → q ≠ bp → H3777[q]? = s.heap[q]? := (fun q t hq h1 h2 n1 n2 n3 n4 n5 n6 n7 n8 n9 n10 n11 => (oH3777 _ (G_ne hq gq3776 h1)).trans (fy3578_fx q t hq h1 h2 n1 n2 n3 n4 n5 n6 n7 n8 n9 n10 n11))
        have f3809 : RFB K H3777 s.heap a0 := RFB.st fy3578_rb (fun k hk => fR_kept (oH3777 _ (G_ne ga0 gq3776 (by decide))))
        have f3810 : ∀ j : Nat, j < 16 → fI H3777 kp j = fI s.heap ku j := fun j hj => (fI_kept (oH3777 _ (G_ne gkp gq3776 (by decide)))).trans (hc_kp j hj)
        have f3811 : ∀ j : Nat, j < 16 → fI H3777 gp j = fI s.heap gu j := fun j hj => (fI_kept (oH3777 _ (G_ne ggp gq3776 (by decide)))).trans (hc_gp j hj)
        have f3812 : ∀ j : Nat, j < 16 → fI H3777 hp j = fI s.heap hu j := fun j hj => (fI_kept (oH3777 _ (G_ne ghp gq3776 (by decide)))).trans (hc_hp j hj)
        have f3813 : ∀ j : Nat, j < 16 → fI H3777 xp j = fI s.heap xu j := fun j hj => (fI_kept (oH3777 _ (G_ne gxp gq3776 (by decide)))).trans (hc_xp j hj)
        have f3814 : ∀ j : Nat, j < 3 → fI H3777 lp j = fI s.heap lu j := fun j hj => (fI_kept (oH3777 _ (G_ne glp gq3776 (by decide)))).trans (hc_lp j hj)
        have f3815 : ∀ j : Nat, j < 200 → fI H3777 ap j = fI s.heap au j := fun j hj => (fI_kept (oH3777 _ (G_ne gap gq3776 (by decide)))).trans (hc_ap j hj)
        have f3816 : ∀ j : Nat, j < 200 → fI H3777 dp j = fI s.heap du j := fun j hj => (fI_kept (oH3777 _ (G_ne gdp gq3776 (by decide)))).trans (hc_dp j hj)
        have f3817 : ∀ j : Nat, j < 12 → fI H3777 tp j = fI s.heap tu j := fun j hj => (fI_kept (oH3777 _ (G_ne gtp gq3776 (by decide)))).trans (hc_tp j hj)
        have f3818 : ∀ j : Nat, j < 12 → fI H3777 ip j = fI s.heap iu j := fun j hj => (fI_kept (oH3777 _ (G_ne gip gq3776 (by decide)))).trans (hc_ip j hj)
        refine lv_aload_n hx hb dX0_copyFrom_187 rfl (lv_at hl3573 1 rfl) ?_
        refine x_gr C hTH3777 (ci := 0) (k := 13) rfl inX0 (by decide) wF_X0_44 ga1 rg_35 rfl dX0_copyFrom_188 (fun q3819 eq3819 gq3819 => ?_)
        have uq3819 : Xu = q3819 := (m3803).trans eq3819.symm
        subst uq3819
        refine lv_iload_n hx hb dX0_copyFrom_191 rfl (lv_at hl3573 2 rfl) ?_
        refine x_ar C hTH3777 rfl rfl gXu rg_47 ⟨bx3574.1, by show _ < ((12 : Nat) : Int); omega⟩ dX0_copyFrom_192 (fun q3820 eq3820 gq3820 => ?_)
        replace eq3820 : @Eq Ad q3820 (fR H3777 Xu (x3574 : Int32).toNatClampNeg) := eq3820
        refine lv_iconst (v := 0) hx hb dX0_copyFrom_193 (by decide) ?_
        refine lv_aload_n hx hb dX0_copyFrom_194 rfl (lv_at hl3573 0 rfl) ?_
        refine x_gr C hTH3777 (ci := 0) (k := 13) rfl inX0 (by decide) wF_X0_44 ga0 rg_1 rfl dX0_copyFrom_195 (fun q3821 eq3821 gq3821 => ?_)
        have uq3821 : Xp = q3821 := (m3791).trans eq3821.symm
        subst uq3821
        refine lv_iload_n hx hb dX0_copyFrom_198 rfl (lv_at hl3573 2 rfl) ?_
        refine x_ar C hTH3777 rfl rfl gXp rg_13 ⟨bx3574.1, by show _ < ((12 : Nat) : Int); omega⟩ dX0_copyFrom_199 (fun q3822 eq3822 gq3822 => ?_)
        replace eq3822 : @Eq Ad q3822 (fR H3777 Xp (x3574 : Int32).toNatClampNeg) := eq3822
        refine lv_iconst (v := 0) hx hb dX0_copyFrom_200 (by decide) ?_
        refine lv_bipush (v := 16) hx hb dX0_copyFrom_201 (by decide) ?_
        refine x_copy C hTH3777 hSH3777 wM_X0_75 wNT_arraycopy wST_arraycopy wIN_J10 gq3820 gq3822 rg_48 rg_14 (by decide) (by omega) (by omega) (by omega) (by show _ ≤ ((16 : Nat) : Int); omega) (by show _ ≤ ((16 : Nat) : Int); omega) (AE_in gq3822 (by decide)) hl3573.1 (by decide) dX0_copyFrom_203 (fun H3823 locsH3823 hTH3823 hSH3823 zH3823 oH3823 vH3823 wH3823 => ?_)
        have m3824 := (m3778).trans (fI_kept (oH3823 _ (G_ne ga0 gq3822 (by decide)))).symm
        have m3825 := (m3779).trans (fI_kept (oH3823 _ (G_ne ga0 gq3822 (by decide)))).symm
        have m3826 := (m3780).trans (fI_kept (oH3823 _ (G_ne ga0 gq3822 (by decide)))).symm
        have m3827 := (m3781).trans (fR_kept (oH3823 _ (G_ne ga0 gq3822 (by decide)))).symm
        have m3828 := (m3782).trans (fR_kept (oH3823 _ (G_ne ga0 gq3822 (by decide)))).symm
        have m3829 := (m3783).trans (fR_kept (oH3823 _ (G_ne ga0 gq3822 (by decide)))).symm
        have m3830 := (m3784).trans (fR_kept (oH3823 _ (G_ne ga0 gq3822 (by decide)))).symm
        have m3831 := (m3785).trans (fR_kept (oH3823 _ (G_ne ga0 gq3822 (by decide)))).symm
        have m3832 := (m3786).trans (fR_kept (oH3823 _ (G_ne ga0 gq3822 (by decide)))).symm
        have m3833 := (m3787).trans (fR_kept (oH3823 _ (G_ne ga0 gq3822 (by decide)))).symm
        have m3834 := (m3788).trans (fR_kept (oH3823 _ (G_ne ga0 gq3822 (by decide)))).symm
        have m3835 := (m3789).trans (fR_kept (oH3823 _ (G_ne ga0 gq3822 (by decide)))).symm
        have m3836 := (m3790).trans (fR_kept (oH3823 _ (G_ne ga0 gq3822 (by decide)))).symm
        have m3837 := (m3791).trans (fR_kept (oH3823 _ (G_ne ga0 gq3822 (by decide)))).symm
        have m3838 := (m3792).trans (fR_kept (oH3823 _ (G_ne ga0 gq3822 (by decide)))).symm
        have m3839 := (m3793).trans (fR_kept (oH3823 _ (G_ne ga1 gq3822 (by decide)))).symm
        have m3840 := (m3794).trans (fR_kept (oH3823 _ (G_ne ga1 gq3822 (by decide)))).symm
        have m3841 := (m3795).trans (fR_kept (oH3823 _ (G_ne ga1 gq3822 (by decide)))).symm
        have m3842 := (m3796).trans (fR_kept (oH3823 _ (G_ne ga1 gq3822 (by decide)))).symm
        have m3843 := (m3797).trans (fR_kept (oH3823 _ (G_ne ga1 gq3822 (by decide)))).symm
        have m3844 := (m3798).trans (fR_kept (oH3823 _ (G_ne ga1 gq3822 (by decide)))).symm
        have m3845 := (m3799).trans (fR_kept (oH3823 _ (G_ne ga1 gq3822 (by decide)))).symm
        have m3846 := (m3800).trans (fR_kept (oH3823 _ (G_ne ga1 gq3822 (by decide)))).symm
        have m3847 := (m3801).trans (fR_kept (oH3823 _ (G_ne ga1 gq3822 (by decide)))).symm
        have m3848 := (m3802).trans (fR_kept (oH3823 _ (G_ne ga1 gq3822 (by decide)))).symm
        have m3849 := (m3803).trans (fR_kept (oH3823 _ (G_ne ga1 gq3822 (by decide)))).symm
        have m3850 := (m3804).trans (fR_kept (oH3823 _ (G_ne ga1 gq3822 (by decide)))).symm
        have m3851 := (m3805).trans (fI_kept (oH3823 _ (G_ne ga1 gq3822 (by decide)))).symm
        have m3852 := (m3806).trans (fI_kept (oH3823 _ (G_ne ga1 gq3822 (by decide)))).symm
        have m3853 := (m3807).trans (fI_kept (oH3823 _ (G_ne ga1 gq3822 (by decide)))).symm
        have f3854 : ∀ q t : Nat, G q = some t → t ≠ 12 → t ≠ 14 → q ≠ a0 → q ≠ kp → q ≠ gp → q ≠ hp → q ≠ xp → q ≠ lp → q ≠ ap → q ≠ dp → q ≠ tp → q ≠ ip → q ≠ bp → H3823[q]? = s.heap[q]? := (fun q t hq h1 h2 n1 n2 n3 n4 n5 n6 n7 n8 n9 n10 n11 => (oH3823 _ (G_ne hq gq3822 h2)).trans (f3808 q t hq h1 h2 n1 n2 n3 n4 n5 n6 n7 n8 n9 n10 n11))
        have f3855 : RFB K H3823 s.heap a0 := RFB.st f3809 (fun k hk => fR_kept (oH3823 _ (G_ne ga0 gq3822 (by decide))))
        have f3856 : ∀ j : Nat, j < 16 → fI H3823 kp j = fI s.heap ku j := fun j hj => (fI_kept (oH3823 _ (G_ne gkp gq3822 (by decide)))).trans (f3810 j hj)
        have f3857 : ∀ j : Nat, j < 16 → fI H3823 gp j = fI s.heap gu j := fun j hj => (fI_kept (oH3823 _ (G_ne ggp gq3822 (by decide)))).trans (f3811 j hj)
        have f3858 : ∀ j : Nat, j < 16 → fI H3823 hp j = fI s.heap hu j := fun j hj => (fI_kept (oH3823 _ (G_ne ghp gq3822 (by decide)))).trans (f3812 j hj)
        have f3859 : ∀ j : Nat, j < 16 → fI H3823 xp j = fI s.heap xu j := fun j hj => (fI_kept (oH3823 _ (G_ne gxp gq3822 (by decide)))).trans (f3813 j hj)
        have f3860 : ∀ j : Nat, j < 3 → fI H3823 lp j = fI s.heap lu j := fun j hj => (fI_kept (oH3823 _ (G_ne glp gq3822 (by decide)))).trans (f3814 j hj)
        have f3861 : ∀ j : Nat, j < 200 → fI H3823 ap j = fI s.heap au j := fun j hj => (fI_kept (oH3823 _ (G_ne gap gq3822 (by decide)))).trans (f3815 j hj)
        have f3862 : ∀ j : Nat, j < 200 → fI H3823 dp j = fI s.heap du j := fun j hj => (fI_kept (oH3823 _ (G_ne gdp gq3822 (by decide)))).trans (f3816 j hj)
        have f3863 : ∀ j : Nat, j < 12 → fI H3823 tp j = fI s.heap tu j := fun j hj => (fI_kept (oH3823 _ (G_ne gtp gq3822 (by decide)))).trans (f3817 j hj)
        have f3864 : ∀ j : Nat, j < 12 → fI H3823 ip j = fI s.heap iu j := fun j hj => (fI_kept (oH3823 _ (G_ne gip gq3822 (by decide)))).trans (f3818 j hj)
        obtain ⟨x3865, ex3865⟩ : ∃ y : Int32, y = x3574 + 1 := ⟨_, rfl⟩
        have tx3865 := i_add ex3865 (by omega)
        refine lv_iinc (v := x3865) (lv' := [(2, .int x3865), (0, .ref a0), (1, .ref a1)]) hx hb dX0_copyFrom_206 hl3573 (k := 2) rfl (by rw [ex3865]; rfl) (by decide) rfl (fun ls3866 hl3867 => ?_)
        refine lv_goto (tgt := 162) hx hb dX0_copyFrom_209 (by decide) ?_
        exact ih162  ls3866 H3823 locsH3823 (x3865) (x3575) (x3576) (x3577) (lv_sub hl3867 [1, 2, 0] rfl) hTH3823 hSH3823 (by have := i_rng x3865; omega) bx3575 bx3576 m3824 m3825 m3826 m3827 m3828 m3829 m3830 m3831 m3832 m3833 m3834 m3835 m3836 m3837 m3838 m3839 m3840 m3841 m3842 m3843 m3844 m3845 m3846 m3847 m3848 m3849 m3850 m3851 m3852 m3853 f3854 f3855 (by omega) (by omega) f3856 f3857 f3858 f3859 f3860 f3861 f3862 f3863 f3864
  refine lv_aload_n hx hb dX0_copyFrom_0 rfl (lv_at hl 0 rfl) ?_
  refine lv_aload_n hx hb dX0_copyFrom_1 rfl (lv_at hl 1 rfl) ?_
  refine x_gi C hT (ci := 0) (k := 0) rfl inX0 (by decide) wF_X0_50 ga1 rg_35 rfl dX0_copyFrom_2 (fun x3868 ex3868 bx3868 => ?_)
  have ux3868 : szu = x3868 := (eszu).trans ex3868.symm
  subst ux3868
  refine x_put C hT hS (ci := 0) (k := 0) (v := .int szu) (ty0 := tyX0) rfl inX0 tyX0_ok nmX0 (by decide) rfl wF_X0_50 ga0 rg_1 rfl rfl (okI (by omega) (by omega)) rfl rfl (AE_in ga0 (by decide)) dX0_copyFrom_5 (fun H3869 locsH3869 hTH3869 hSH3869 wH3869 => ?_)
  have f3870 : ∀ q t : Nat, G q = some t → t ≠ 12 → t ≠ 14 → q ≠ a0 → q ≠ kp → q ≠ gp → q ≠ hp → q ≠ xp → q ≠ lp → q ≠ ap → q ≠ dp → q ≠ tp → q ≠ ip → q ≠ bp → H3869[q]? = s.heap[q]? := (fun q t hq h1 h2 n1 n2 n3 n4 n5 n6 n7 n8 n9 n10 n11 => (wH3869.off n1).trans (f0_fx q t hq h1 h2 n1 n2 n3 n4 n5 n6 n7 n8 n9 n10 n11))
  have f3871 : RFB K H3869 s.heap a0 := RFB.st f0_rb (fun k hk => Wr.neR wH3869 (Or.inr (hapB k _ (by omega) (by decide) (by omega))))
  have m3872 := ekp.trans (Wr.neR wH3869 (Or.inr (x_apart hKT hts inX0 tyX0 tyX0_ok nmX0 rfl 1 0 (by decide) (by decide) (by decide)))).symm
  have m3873 := egp.trans (Wr.neR wH3869 (Or.inr (x_apart hKT hts inX0 tyX0 tyX0_ok nmX0 rfl 2 0 (by decide) (by decide) (by decide)))).symm
  have m3874 := ehp.trans (Wr.neR wH3869 (Or.inr (x_apart hKT hts inX0 tyX0 tyX0_ok nmX0 rfl 3 0 (by decide) (by decide) (by decide)))).symm
  have m3875 := exp.trans (Wr.neR wH3869 (Or.inr (x_apart hKT hts inX0 tyX0 tyX0_ok nmX0 rfl 4 0 (by decide) (by decide) (by decide)))).symm
  have m3876 := elp.trans (Wr.neR wH3869 (Or.inr (x_apart hKT hts inX0 tyX0 tyX0_ok nmX0 rfl 5 0 (by decide) (by decide) (by decide)))).symm
  have m3877 := eap.trans (Wr.neR wH3869 (Or.inr (x_apart hKT hts inX0 tyX0 tyX0_ok nmX0 rfl 6 0 (by decide) (by decide) (by decide)))).symm
  have m3878 := edp.trans (Wr.neR wH3869 (Or.inr (x_apart hKT hts inX0 tyX0 tyX0_ok nmX0 rfl 7 0 (by decide) (by decide) (by decide)))).symm
  have m3879 := etp.trans (Wr.neR wH3869 (Or.inr (x_apart hKT hts inX0 tyX0 tyX0_ok nmX0 rfl 10 0 (by decide) (by decide) (by decide)))).symm
  have m3880 := eip.trans (Wr.neR wH3869 (Or.inr (x_apart hKT hts inX0 tyX0 tyX0_ok nmX0 rfl 11 0 (by decide) (by decide) (by decide)))).symm
  have m3881 := eKp.trans (Wr.neR wH3869 (Or.inr (x_apart hKT hts inX0 tyX0 tyX0_ok nmX0 rfl 12 0 (by decide) (by decide) (by decide)))).symm
  have m3882 := eXp.trans (Wr.neR wH3869 (Or.inr (x_apart hKT hts inX0 tyX0 tyX0_ok nmX0 rfl 13 0 (by decide) (by decide) (by decide)))).symm
  have m3883 := ebp.trans (Wr.neR wH3869 (Or.inr (x_apart hKT hts inX0 tyX0 tyX0_ok nmX0 rfl 17 0 (by decide) (by decide) (by decide)))).symm
  have m3884 := eku.trans (Wr.neR wH3869 (Or.inl (G_ne ga1 ga0 (by decide)))).symm
  have m3885 := egu.trans (Wr.neR wH3869 (Or.inl (G_ne ga1 ga0 (by decide)))).symm
  have m3886 := ehu.trans (Wr.neR wH3869 (Or.inl (G_ne ga1 ga0 (by decide)))).symm
  have m3887 := exu.trans (Wr.neR wH3869 (Or.inl (G_ne ga1 ga0 (by decide)))).symm
  have m3888 := elu.trans (Wr.neR wH3869 (Or.inl (G_ne ga1 ga0 (by decide)))).symm
  have m3889 := eau.trans (Wr.neR wH3869 (Or.inl (G_ne ga1 ga0 (by decide)))).symm
  have m3890 := edu.trans (Wr.neR wH3869 (Or.inl (G_ne ga1 ga0 (by decide)))).symm
  have m3891 := etu.trans (Wr.neR wH3869 (Or.inl (G_ne ga1 ga0 (by decide)))).symm
  have m3892 := eiu.trans (Wr.neR wH3869 (Or.inl (G_ne ga1 ga0 (by decide)))).symm
  have m3893 := eKu.trans (Wr.neR wH3869 (Or.inl (G_ne ga1 ga0 (by decide)))).symm
  have m3894 := eXu.trans (Wr.neR wH3869 (Or.inl (G_ne ga1 ga0 (by decide)))).symm
  have m3895 := ebu.trans (Wr.neR wH3869 (Or.inl (G_ne ga1 ga0 (by decide)))).symm
  have m3897 := epc.trans (Wr.neI wH3869 (Or.inr (x_apart hKT hts inX0 tyX0 tyX0_ok nmX0 rfl 8 0 (by decide) (by decide) (by decide)))).symm
  have m3898 := elb.trans (Wr.neI wH3869 (Or.inr (x_apart hKT hts inX0 tyX0 tyX0_ok nmX0 rfl 9 0 (by decide) (by decide) (by decide)))).symm
  have m3899 := eszu.trans (Wr.neI wH3869 (Or.inl (G_ne ga1 ga0 (by decide)))).symm
  have m3900 := epcu.trans (Wr.neI wH3869 (Or.inl (G_ne ga1 ga0 (by decide)))).symm
  have m3901 := elbu.trans (Wr.neI wH3869 (Or.inl (G_ne ga1 ga0 (by decide)))).symm
  have m3902 := Wr.I wH3869
  have m3902 := m3902.symm
  refine lv_aload_n hx hb dX0_copyFrom_8 rfl (lv_at hl 1 rfl) ?_
  refine x_gr C hTH3869 (ci := 0) (k := 1) rfl inX0 (by decide) wF_X0_9 ga1 rg_35 rfl dX0_copyFrom_9 (fun q3903 eq3903 gq3903 => ?_)
  have uq3903 : ku = q3903 := (m3884).trans eq3903.symm
  subst uq3903
  refine lv_iconst (v := 0) hx hb dX0_copyFrom_12 (by decide) ?_
  refine lv_aload_n hx hb dX0_copyFrom_13 rfl (lv_at hl 0 rfl) ?_
  refine x_gr C hTH3869 (ci := 0) (k := 1) rfl inX0 (by decide) wF_X0_9 ga0 rg_1 rfl dX0_copyFrom_14 (fun q3904 eq3904 gq3904 => ?_)
  have uq3904 : kp = q3904 := (m3872).trans eq3904.symm
  subst uq3904
  refine lv_iconst (v := 0) hx hb dX0_copyFrom_17 (by decide) ?_
  refine lv_bipush (v := 16) hx hb dX0_copyFrom_18 (by decide) ?_
  refine x_copy C hTH3869 hSH3869 wM_X0_75 wNT_arraycopy wST_arraycopy wIN_J10 gku gkp rg_36 rg_2 (by decide) (by omega) (by omega) (by omega) (by show _ ≤ ((16 : Nat) : Int); omega) (by show _ ≤ ((16 : Nat) : Int); omega) (AE_in gkp (by decide)) hl.1 (by decide) dX0_copyFrom_20 (fun H3905 locsH3905 hTH3905 hSH3905 zH3905 oH3905 vH3905 wH3905 => ?_)
  have m3906 := (m3872).trans (fR_kept (oH3905 _ (G_ne ga0 gkp (by decide)))).symm
  have m3907 := (m3873).trans (fR_kept (oH3905 _ (G_ne ga0 gkp (by decide)))).symm
  have m3908 := (m3874).trans (fR_kept (oH3905 _ (G_ne ga0 gkp (by decide)))).symm
  have m3909 := (m3875).trans (fR_kept (oH3905 _ (G_ne ga0 gkp (by decide)))).symm
  have m3910 := (m3876).trans (fR_kept (oH3905 _ (G_ne ga0 gkp (by decide)))).symm
  have m3911 := (m3877).trans (fR_kept (oH3905 _ (G_ne ga0 gkp (by decide)))).symm
  have m3912 := (m3878).trans (fR_kept (oH3905 _ (G_ne ga0 gkp (by decide)))).symm
  have m3913 := (m3879).trans (fR_kept (oH3905 _ (G_ne ga0 gkp (by decide)))).symm
  have m3914 := (m3880).trans (fR_kept (oH3905 _ (G_ne ga0 gkp (by decide)))).symm
  have m3915 := (m3881).trans (fR_kept (oH3905 _ (G_ne ga0 gkp (by decide)))).symm
  have m3916 := (m3882).trans (fR_kept (oH3905 _ (G_ne ga0 gkp (by decide)))).symm
  have m3917 := (m3883).trans (fR_kept (oH3905 _ (G_ne ga0 gkp (by decide)))).symm
  have m3918 := (m3884).trans (fR_kept (oH3905 _ (G_ne ga1 gkp (by decide)))).symm
  have m3919 := (m3885).trans (fR_kept (oH3905 _ (G_ne ga1 gkp (by decide)))).symm
  have m3920 := (m3886).trans (fR_kept (oH3905 _ (G_ne ga1 gkp (by decide)))).symm
  have m3921 := (m3887).trans (fR_kept (oH3905 _ (G_ne ga1 gkp (by decide)))).symm
  have m3922 := (m3888).trans (fR_kept (oH3905 _ (G_ne ga1 gkp (by decide)))).symm
  have m3923 := (m3889).trans (fR_kept (oH3905 _ (G_ne ga1 gkp (by decide)))).symm
  have m3924 := (m3890).trans (fR_kept (oH3905 _ (G_ne ga1 gkp (by decide)))).symm
  have m3925 := (m3891).trans (fR_kept (oH3905 _ (G_ne ga1 gkp (by decide)))).symm
  have m3926 := (m3892).trans (fR_kept (oH3905 _ (G_ne ga1 gkp (by decide)))).symm
  have m3927 := (m3893).trans (fR_kept (oH3905 _ (G_ne ga1 gkp (by decide)))).symm
  have m3928 := (m3894).trans (fR_kept (oH3905 _ (G_ne ga1 gkp (by decide)))).symm
  have m3929 := (m3895).trans (fR_kept (oH3905 _ (G_ne ga1 gkp (by decide)))).symm
  have m3930 := (m3897).trans (fI_kept (oH3905 _ (G_ne ga0 gkp (by decide)))).symm
  have m3931 := (m3898).trans (fI_kept (oH3905 _ (G_ne ga0 gkp (by decide)))).symm
  have m3932 := (m3899).trans (fI_kept (oH3905 _ (G_ne ga1 gkp (by decide)))).symm
  have m3933 := (m3900).trans (fI_kept (oH3905 _ (G_ne ga1 gkp (by decide)))).symm
  have m3934 := (m3901).trans (fI_kept (oH3905 _ (G_ne ga1 gkp (by decide)))).symm
  have m3935 := (m3902).trans (fI_kept (oH3905 _ (G_ne ga0 gkp (by decide)))).symm
  have f3936 : ∀ q t : Nat, G q = some t → t ≠ 12 → t ≠ 14 → q ≠ a0 → q ≠ kp → q ≠ gp → q ≠ hp → q ≠ xp → q ≠ lp → q ≠ ap → q ≠ dp → q ≠ tp → q ≠ ip → q ≠ bp → H3905[q]? = s.heap[q]? := (fun q t hq h1 h2 n1 n2 n3 n4 n5 n6 n7 n8 n9 n10 n11 => (oH3905 _ n2).trans (f3870 q t hq h1 h2 n1 n2 n3 n4 n5 n6 n7 n8 n9 n10 n11))
  have f3937 : RFB K H3905 s.heap a0 := RFB.st f3871 (fun k hk => fR_kept (oH3905 _ (G_ne ga0 gkp (by decide))))
  have cp3938 : ∀ j : Nat, j < 16 → fI H3905 kp j = fI s.heap ku j := fun j hj => by have c00 : (0 : Int32).toNatClampNeg = 0 := rfl; have cnn : (16 : Int32).toNatClampNeg = 16 := rfl; have z := wH3905 j (by omega); rw [c00, Nat.zero_add] at z; exact z.trans (fI_kept (x_lt hT hSH3869.2.1 gku (by decide)))
  refine lv_aload_n hx hb dX0_copyFrom_23 rfl (lv_at hl 1 rfl) ?_
  refine x_gr C hTH3905 (ci := 0) (k := 2) rfl inX0 (by decide) wF_X0_15 ga1 rg_35 rfl dX0_copyFrom_24 (fun q3939 eq3939 gq3939 => ?_)
  have uq3939 : gu = q3939 := (m3919).trans eq3939.symm
  subst uq3939
  refine lv_iconst (v := 0) hx hb dX0_copyFrom_27 (by decide) ?_
  refine lv_aload_n hx hb dX0_copyFrom_28 rfl (lv_at hl 0 rfl) ?_
  refine x_gr C hTH3905 (ci := 0) (k := 2) rfl inX0 (by decide) wF_X0_15 ga0 rg_1 rfl dX0_copyFrom_29 (fun q3940 eq3940 gq3940 => ?_)
  have uq3940 : gp = q3940 := (m3907).trans eq3940.symm
  subst uq3940
  refine lv_iconst (v := 0) hx hb dX0_copyFrom_32 (by decide) ?_
  refine lv_bipush (v := 16) hx hb dX0_copyFrom_33 (by decide) ?_
  refine x_copy C hTH3905 hSH3905 wM_X0_75 wNT_arraycopy wST_arraycopy wIN_J10 ggu ggp rg_37 rg_3 (by decide) (by omega) (by omega) (by omega) (by show _ ≤ ((16 : Nat) : Int); omega) (by show _ ≤ ((16 : Nat) : Int); omega) (AE_in ggp (by decide)) hl.1 (by decide) dX0_copyFrom_35 (fun H3941 locsH3941 hTH3941 hSH3941 zH3941 oH3941 vH3941 wH3941 => ?_)
  have m3942 := (m3906).trans (fR_kept (oH3941 _ (G_ne ga0 ggp (by decide)))).symm
  have m3943 := (m3907).trans (fR_kept (oH3941 _ (G_ne ga0 ggp (by decide)))).symm
  have m3944 := (m3908).trans (fR_kept (oH3941 _ (G_ne ga0 ggp (by decide)))).symm
  have m3945 := (m3909).trans (fR_kept (oH3941 _ (G_ne ga0 ggp (by decide)))).symm
  have m3946 := (m3910).trans (fR_kept (oH3941 _ (G_ne ga0 ggp (by decide)))).symm
  have m3947 := (m3911).trans (fR_kept (oH3941 _ (G_ne ga0 ggp (by decide)))).symm
  have m3948 := (m3912).trans (fR_kept (oH3941 _ (G_ne ga0 ggp (by decide)))).symm
  have m3949 := (m3913).trans (fR_kept (oH3941 _ (G_ne ga0 ggp (by decide)))).symm
  have m3950 := (m3914).trans (fR_kept (oH3941 _ (G_ne ga0 ggp (by decide)))).symm
  have m3951 := (m3915).trans (fR_kept (oH3941 _ (G_ne ga0 ggp (by decide)))).symm
  have m3952 := (m3916).trans (fR_kept (oH3941 _ (G_ne ga0 ggp (by decide)))).symm
  have m3953 := (m3917).trans (fR_kept (oH3941 _ (G_ne ga0 ggp (by decide)))).symm
  have m3954 := (m3918).trans (fR_kept (oH3941 _ (G_ne ga1 ggp (by decide)))).symm
  have m3955 := (m3919).trans (fR_kept (oH3941 _ (G_ne ga1 ggp (by decide)))).symm
  have m3956 := (m3920).trans (fR_kept (oH3941 _ (G_ne ga1 ggp (by decide)))).symm
  have m3957 := (m3921).trans (fR_kept (oH3941 _ (G_ne ga1 ggp (by decide)))).symm
  have m3958 := (m3922).trans (fR_kept (oH3941 _ (G_ne ga1 ggp (by decide)))).symm
  have m3959 := (m3923).trans (fR_kept (oH3941 _ (G_ne ga1 ggp (by decide)))).symm
  have m3960 := (m3924).trans (fR_kept (oH3941 _ (G_ne ga1 ggp (by decide)))).symm
  have m3961 := (m3925).trans (fR_kept (oH3941 _ (G_ne ga1 ggp (by decide)))).symm
  have m3962 := (m3926).trans (fR_kept (oH3941 _ (G_ne ga1 ggp (by decide)))).symm
  have m3963 := (m3927).trans (fR_kept (oH3941 _ (G_ne ga1 ggp (by decide)))).symm
  have m3964 := (m3928).trans (fR_kept (oH3941 _ (G_ne ga1 ggp (by decide)))).symm
  have m3965 := (m3929).trans (fR_kept (oH3941 _ (G_ne ga1 ggp (by decide)))).symm
  have m3966 := (m3930).trans (fI_kept (oH3941 _ (G_ne ga0 ggp (by decide)))).symm
  have m3967 := (m3931).trans (fI_kept (oH3941 _ (G_ne ga0 ggp (by decide)))).symm
  have m3968 := (m3932).trans (fI_kept (oH3941 _ (G_ne ga1 ggp (by decide)))).symm
  have m3969 := (m3933).trans (fI_kept (oH3941 _ (G_ne ga1 ggp (by decide)))).symm
  have m3970 := (m3934).trans (fI_kept (oH3941 _ (G_ne ga1 ggp (by decide)))).symm
  have m3971 := (m3935).trans (fI_kept (oH3941 _ (G_ne ga0 ggp (by decide)))).symm
  have f3972 : ∀ q t : Nat, G q = some t → t ≠ 12 → t ≠ 14 → q ≠ a0 → q ≠ kp → q ≠ gp → q ≠ hp → q ≠ xp → q ≠ lp → q ≠ ap → q ≠ dp → q ≠ tp → q ≠ ip → q ≠ bp → H3941[q]? = s.heap[q]? := (fun q t hq h1 h2 n1 n2 n3 n4 n5 n6 n7 n8 n9 n10 n11 => (oH3941 _ n3).trans (f3936 q t hq h1 h2 n1 n2 n3 n4 n5 n6 n7 n8 n9 n10 n11))
  have f3973 : RFB K H3941 s.heap a0 := RFB.st f3937 (fun k hk => fR_kept (oH3941 _ (G_ne ga0 ggp (by decide))))
  have f3974 : ∀ j : Nat, j < 16 → fI H3941 kp j = fI s.heap ku j := fun j hj => (fI_kept (oH3941 _ (G_ne gkp ggp (by decide)))).trans (cp3938 j hj)
  have cp3975 : ∀ j : Nat, j < 16 → fI H3941 gp j = fI s.heap gu j := fun j hj => by have c00 : (0 : Int32).toNatClampNeg = 0 := rfl; have cnn : (16 : Int32).toNatClampNeg = 16 := rfl; have z := wH3941 j (by omega); rw [c00, Nat.zero_add] at z; exact z.trans (fI_kept (x_lt hT hSH3905.2.1 ggu (by decide)))
  refine lv_aload_n hx hb dX0_copyFrom_38 rfl (lv_at hl 1 rfl) ?_
  refine x_gr C hTH3941 (ci := 0) (k := 3) rfl inX0 (by decide) wF_X0_18 ga1 rg_35 rfl dX0_copyFrom_39 (fun q3976 eq3976 gq3976 => ?_)
  have uq3976 : hu = q3976 := (m3956).trans eq3976.symm
  subst uq3976
  refine lv_iconst (v := 0) hx hb dX0_copyFrom_42 (by decide) ?_
  refine lv_aload_n hx hb dX0_copyFrom_43 rfl (lv_at hl 0 rfl) ?_
  refine x_gr C hTH3941 (ci := 0) (k := 3) rfl inX0 (by decide) wF_X0_18 ga0 rg_1 rfl dX0_copyFrom_44 (fun q3977 eq3977 gq3977 => ?_)
  have uq3977 : hp = q3977 := (m3944).trans eq3977.symm
  subst uq3977
  refine lv_iconst (v := 0) hx hb dX0_copyFrom_47 (by decide) ?_
  refine lv_bipush (v := 16) hx hb dX0_copyFrom_48 (by decide) ?_
  refine x_copy C hTH3941 hSH3941 wM_X0_75 wNT_arraycopy wST_arraycopy wIN_J10 ghu ghp rg_38 rg_4 (by decide) (by omega) (by omega) (by omega) (by show _ ≤ ((16 : Nat) : Int); omega) (by show _ ≤ ((16 : Nat) : Int); omega) (AE_in ghp (by decide)) hl.1 (by decide) dX0_copyFrom_50 (fun H3978 locsH3978 hTH3978 hSH3978 zH3978 oH3978 vH3978 wH3978 => ?_)
  have m3979 := (m3942).trans (fR_kept (oH3978 _ (G_ne ga0 ghp (by decide)))).symm
  have m3980 := (m3943).trans (fR_kept (oH3978 _ (G_ne ga0 ghp (by decide)))).symm
  have m3981 := (m3944).trans (fR_kept (oH3978 _ (G_ne ga0 ghp (by decide)))).symm
  have m3982 := (m3945).trans (fR_kept (oH3978 _ (G_ne ga0 ghp (by decide)))).symm
  have m3983 := (m3946).trans (fR_kept (oH3978 _ (G_ne ga0 ghp (by decide)))).symm
  have m3984 := (m3947).trans (fR_kept (oH3978 _ (G_ne ga0 ghp (by decide)))).symm
  have m3985 := (m3948).trans (fR_kept (oH3978 _ (G_ne ga0 ghp (by decide)))).symm
  have m3986 := (m3949).trans (fR_kept (oH3978 _ (G_ne ga0 ghp (by decide)))).symm
  have m3987 := (m3950).trans (fR_kept (oH3978 _ (G_ne ga0 ghp (by decide)))).symm
  have m3988 := (m3951).trans (fR_kept (oH3978 _ (G_ne ga0 ghp (by decide)))).symm
  have m3989 := (m3952).trans (fR_kept (oH3978 _ (G_ne ga0 ghp (by decide)))).symm
  have m3990 := (m3953).trans (fR_kept (oH3978 _ (G_ne ga0 ghp (by decide)))).symm
  have m3991 := (m3954).trans (fR_kept (oH3978 _ (G_ne ga1 ghp (by decide)))).symm
  have m3992 := (m3955).trans (fR_kept (oH3978 _ (G_ne ga1 ghp (by decide)))).symm
  have m3993 := (m3956).trans (fR_kept (oH3978 _ (G_ne ga1 ghp (by decide)))).symm
  have m3994 := (m3957).trans (fR_kept (oH3978 _ (G_ne ga1 ghp (by decide)))).symm
  have m3995 := (m3958).trans (fR_kept (oH3978 _ (G_ne ga1 ghp (by decide)))).symm
  have m3996 := (m3959).trans (fR_kept (oH3978 _ (G_ne ga1 ghp (by decide)))).symm
  have m3997 := (m3960).trans (fR_kept (oH3978 _ (G_ne ga1 ghp (by decide)))).symm
  have m3998 := (m3961).trans (fR_kept (oH3978 _ (G_ne ga1 ghp (by decide)))).symm
  have m3999 := (m3962).trans (fR_kept (oH3978 _ (G_ne ga1 ghp (by decide)))).symm
  have m4000 := (m3963).trans (fR_kept (oH3978 _ (G_ne ga1 ghp (by decide)))).symm
  have m4001 := (m3964).trans (fR_kept (oH3978 _ (G_ne ga1 ghp (by decide)))).symm
  have m4002 := (m3965).trans (fR_kept (oH3978 _ (G_ne ga1 ghp (by decide)))).symm
  have m4003 := (m3966).trans (fI_kept (oH3978 _ (G_ne ga0 ghp (by decide)))).symm
  have m4004 := (m3967).trans (fI_kept (oH3978 _ (G_ne ga0 ghp (by decide)))).symm
  have m4005 := (m3968).trans (fI_kept (oH3978 _ (G_ne ga1 ghp (by decide)))).symm
  have m4006 := (m3969).trans (fI_kept (oH3978 _ (G_ne ga1 ghp (by decide)))).symm
  have m4007 := (m3970).trans (fI_kept (oH3978 _ (G_ne ga1 ghp (by decide)))).symm
  have m4008 := (m3971).trans (fI_kept (oH3978 _ (G_ne ga0 ghp (by decide)))).symm
  have f4009 : ∀ q t : Nat, G q = some t → t ≠ 12 → t ≠ 14 → q ≠ a0 → q ≠ kp → q ≠ gp → q ≠ hp → q ≠ xp → q ≠ lp → q ≠ ap → q ≠ dp → q ≠ tp → q ≠ ip → q ≠ bp → H3978[q]? = s.heap[q]? := (fun q t hq h1 h2 n1 n2 n3 n4 n5 n6 n7 n8 n9 n10 n11 => (oH3978 _ n4).trans (f3972 q t hq h1 h2 n1 n2 n3 n4 n5 n6 n7 n8 n9 n10 n11))
  have f4010 : RFB K H3978 s.heap a0 := RFB.st f3973 (fun k hk => fR_kept (oH3978 _ (G_ne ga0 ghp (by decide))))
  have f4011 : ∀ j : Nat, j < 16 → fI H3978 kp j = fI s.heap ku j := fun j hj => (fI_kept (oH3978 _ (G_ne gkp ghp (by decide)))).trans (f3974 j hj)
  have f4012 : ∀ j : Nat, j < 16 → fI H3978 gp j = fI s.heap gu j := fun j hj => (fI_kept (oH3978 _ (G_ne ggp ghp (by decide)))).trans (cp3975 j hj)
  have cp4013 : ∀ j : Nat, j < 16 → fI H3978 hp j = fI s.heap hu j := fun j hj => by have c00 : (0 : Int32).toNatClampNeg = 0 := rfl; have cnn : (16 : Int32).toNatClampNeg = 16 := rfl; have z := wH3978 j (by omega); rw [c00, Nat.zero_add] at z; exact z.trans (fI_kept (x_lt hT hSH3941.2.1 ghu (by decide)))
  refine lv_aload_n hx hb dX0_copyFrom_53 rfl (lv_at hl 1 rfl) ?_
  refine x_gr C hTH3978 (ci := 0) (k := 4) rfl inX0 (by decide) wF_X0_21 ga1 rg_35 rfl dX0_copyFrom_54 (fun q4014 eq4014 gq4014 => ?_)
  have uq4014 : xu = q4014 := (m3994).trans eq4014.symm
  subst uq4014
  refine lv_iconst (v := 0) hx hb dX0_copyFrom_57 (by decide) ?_
  refine lv_aload_n hx hb dX0_copyFrom_58 rfl (lv_at hl 0 rfl) ?_
  refine x_gr C hTH3978 (ci := 0) (k := 4) rfl inX0 (by decide) wF_X0_21 ga0 rg_1 rfl dX0_copyFrom_59 (fun q4015 eq4015 gq4015 => ?_)
  have uq4015 : xp = q4015 := (m3982).trans eq4015.symm
  subst uq4015
  refine lv_iconst (v := 0) hx hb dX0_copyFrom_62 (by decide) ?_
  refine lv_bipush (v := 16) hx hb dX0_copyFrom_63 (by decide) ?_
  refine x_copy C hTH3978 hSH3978 wM_X0_75 wNT_arraycopy wST_arraycopy wIN_J10 gxu gxp rg_39 rg_5 (by decide) (by omega) (by omega) (by omega) (by show _ ≤ ((16 : Nat) : Int); omega) (by show _ ≤ ((16 : Nat) : Int); omega) (AE_in gxp (by decide)) hl.1 (by decide) dX0_copyFrom_65 (fun H4016 locsH4016 hTH4016 hSH4016 zH4016 oH4016 vH4016 wH4016 => ?_)
  have m4017 := (m3979).trans (fR_kept (oH4016 _ (G_ne ga0 gxp (by decide)))).symm
  have m4018 := (m3980).trans (fR_kept (oH4016 _ (G_ne ga0 gxp (by decide)))).symm
  have m4019 := (m3981).trans (fR_kept (oH4016 _ (G_ne ga0 gxp (by decide)))).symm
  have m4020 := (m3982).trans (fR_kept (oH4016 _ (G_ne ga0 gxp (by decide)))).symm
  have m4021 := (m3983).trans (fR_kept (oH4016 _ (G_ne ga0 gxp (by decide)))).symm
  have m4022 := (m3984).trans (fR_kept (oH4016 _ (G_ne ga0 gxp (by decide)))).symm
  have m4023 := (m3985).trans (fR_kept (oH4016 _ (G_ne ga0 gxp (by decide)))).symm
  have m4024 := (m3986).trans (fR_kept (oH4016 _ (G_ne ga0 gxp (by decide)))).symm
  have m4025 := (m3987).trans (fR_kept (oH4016 _ (G_ne ga0 gxp (by decide)))).symm
  have m4026 := (m3988).trans (fR_kept (oH4016 _ (G_ne ga0 gxp (by decide)))).symm
  have m4027 := (m3989).trans (fR_kept (oH4016 _ (G_ne ga0 gxp (by decide)))).symm
  have m4028 := (m3990).trans (fR_kept (oH4016 _ (G_ne ga0 gxp (by decide)))).symm
  have m4029 := (m3991).trans (fR_kept (oH4016 _ (G_ne ga1 gxp (by decide)))).symm
  have m4030 := (m3992).trans (fR_kept (oH4016 _ (G_ne ga1 gxp (by decide)))).symm
  have m4031 := (m3993).trans (fR_kept (oH4016 _ (G_ne ga1 gxp (by decide)))).symm
  have m4032 := (m3994).trans (fR_kept (oH4016 _ (G_ne ga1 gxp (by decide)))).symm
  have m4033 := (m3995).trans (fR_kept (oH4016 _ (G_ne ga1 gxp (by decide)))).symm
  have m4034 := (m3996).trans (fR_kept (oH4016 _ (G_ne ga1 gxp (by decide)))).symm
  have m4035 := (m3997).trans (fR_kept (oH4016 _ (G_ne ga1 gxp (by decide)))).symm
  have m4036 := (m3998).trans (fR_kept (oH4016 _ (G_ne ga1 gxp (by decide)))).symm
  have m4037 := (m3999).trans (fR_kept (oH4016 _ (G_ne ga1 gxp (by decide)))).symm
  have m4038 := (m4000).trans (fR_kept (oH4016 _ (G_ne ga1 gxp (by decide)))).symm
  have m4039 := (m4001).trans (fR_kept (oH4016 _ (G_ne ga1 gxp (by decide)))).symm
  have m4040 := (m4002).trans (fR_kept (oH4016 _ (G_ne ga1 gxp (by decide)))).symm
  have m4041 := (m4003).trans (fI_kept (oH4016 _ (G_ne ga0 gxp (by decide)))).symm
  have m4042 := (m4004).trans (fI_kept (oH4016 _ (G_ne ga0 gxp (by decide)))).symm
  have m4043 := (m4005).trans (fI_kept (oH4016 _ (G_ne ga1 gxp (by decide)))).symm
  have m4044 := (m4006).trans (fI_kept (oH4016 _ (G_ne ga1 gxp (by decide)))).symm
  have m4045 := (m4007).trans (fI_kept (oH4016 _ (G_ne ga1 gxp (by decide)))).symm
  have m4046 := (m4008).trans (fI_kept (oH4016 _ (G_ne ga0 gxp (by decide)))).symm
  have f4047 : ∀ q t : Nat, G q = some t → t ≠ 12 → t ≠ 14 → q ≠ a0 → q ≠ kp → q ≠ gp → q ≠ hp → q ≠ xp → q ≠ lp → q ≠ ap → q ≠ dp → q ≠ tp → q ≠ ip → q ≠ bp → H4016[q]? = s.heap[q]? := (fun q t hq h1 h2 n1 n2 n3 n4 n5 n6 n7 n8 n9 n10 n11 => (oH4016 _ n5).trans (f4009 q t hq h1 h2 n1 n2 n3 n4 n5 n6 n7 n8 n9 n10 n11))
  have f4048 : RFB K H4016 s.heap a0 := RFB.st f4010 (fun k hk => fR_kept (oH4016 _ (G_ne ga0 gxp (by decide))))
  have f4049 : ∀ j : Nat, j < 16 → fI H4016 kp j = fI s.heap ku j := fun j hj => (fI_kept (oH4016 _ (G_ne gkp gxp (by decide)))).trans (f4011 j hj)
  have f4050 : ∀ j : Nat, j < 16 → fI H4016 gp j = fI s.heap gu j := fun j hj => (fI_kept (oH4016 _ (G_ne ggp gxp (by decide)))).trans (f4012 j hj)
  have f4051 : ∀ j : Nat, j < 16 → fI H4016 hp j = fI s.heap hu j := fun j hj => (fI_kept (oH4016 _ (G_ne ghp gxp (by decide)))).trans (cp4013 j hj)
  have cp4052 : ∀ j : Nat, j < 16 → fI H4016 xp j = fI s.heap xu j := fun j hj => by have c00 : (0 : Int32).toNatClampNeg = 0 := rfl; have cnn : (16 : Int32).toNatClampNeg = 16 := rfl; have z := wH4016 j (by omega); rw [c00, Nat.zero_add] at z; exact z.trans (fI_kept (x_lt hT hSH3978.2.1 gxu (by decide)))
  refine lv_aload_n hx hb dX0_copyFrom_68 rfl (lv_at hl 1 rfl) ?_
  refine x_gr C hTH4016 (ci := 0) (k := 5) rfl inX0 (by decide) wF_X0_24 ga1 rg_35 rfl dX0_copyFrom_69 (fun q4053 eq4053 gq4053 => ?_)
  have uq4053 : lu = q4053 := (m4033).trans eq4053.symm
  subst uq4053
  refine lv_iconst (v := 0) hx hb dX0_copyFrom_72 (by decide) ?_
  refine lv_aload_n hx hb dX0_copyFrom_73 rfl (lv_at hl 0 rfl) ?_
  refine x_gr C hTH4016 (ci := 0) (k := 5) rfl inX0 (by decide) wF_X0_24 ga0 rg_1 rfl dX0_copyFrom_74 (fun q4054 eq4054 gq4054 => ?_)
  have uq4054 : lp = q4054 := (m4021).trans eq4054.symm
  subst uq4054
  refine lv_iconst (v := 0) hx hb dX0_copyFrom_77 (by decide) ?_
  refine lv_iconst (v := 3) hx hb dX0_copyFrom_78 (by decide) ?_
  refine x_copy C hTH4016 hSH4016 wM_X0_75 wNT_arraycopy wST_arraycopy wIN_J10 glu glp rg_40 rg_6 (by decide) (by omega) (by omega) (by omega) (by show _ ≤ ((3 : Nat) : Int); omega) (by show _ ≤ ((3 : Nat) : Int); omega) (AE_in glp (by decide)) hl.1 (by decide) dX0_copyFrom_79 (fun H4055 locsH4055 hTH4055 hSH4055 zH4055 oH4055 vH4055 wH4055 => ?_)
  have m4056 := (m4017).trans (fR_kept (oH4055 _ (G_ne ga0 glp (by decide)))).symm
  have m4057 := (m4018).trans (fR_kept (oH4055 _ (G_ne ga0 glp (by decide)))).symm
  have m4058 := (m4019).trans (fR_kept (oH4055 _ (G_ne ga0 glp (by decide)))).symm
  have m4059 := (m4020).trans (fR_kept (oH4055 _ (G_ne ga0 glp (by decide)))).symm
  have m4060 := (m4021).trans (fR_kept (oH4055 _ (G_ne ga0 glp (by decide)))).symm
  have m4061 := (m4022).trans (fR_kept (oH4055 _ (G_ne ga0 glp (by decide)))).symm
  have m4062 := (m4023).trans (fR_kept (oH4055 _ (G_ne ga0 glp (by decide)))).symm
  have m4063 := (m4024).trans (fR_kept (oH4055 _ (G_ne ga0 glp (by decide)))).symm
  have m4064 := (m4025).trans (fR_kept (oH4055 _ (G_ne ga0 glp (by decide)))).symm
  have m4065 := (m4026).trans (fR_kept (oH4055 _ (G_ne ga0 glp (by decide)))).symm
  have m4066 := (m4027).trans (fR_kept (oH4055 _ (G_ne ga0 glp (by decide)))).symm
  have m4067 := (m4028).trans (fR_kept (oH4055 _ (G_ne ga0 glp (by decide)))).symm
  have m4068 := (m4029).trans (fR_kept (oH4055 _ (G_ne ga1 glp (by decide)))).symm
  have m4069 := (m4030).trans (fR_kept (oH4055 _ (G_ne ga1 glp (by decide)))).symm
  have m4070 := (m4031).trans (fR_kept (oH4055 _ (G_ne ga1 glp (by decide)))).symm
  have m4071 := (m4032).trans (fR_kept (oH4055 _ (G_ne ga1 glp (by decide)))).symm
  have m4072 := (m4033).trans (fR_kept (oH4055 _ (G_ne ga1 glp (by decide)))).symm
  have m4073 := (m4034).trans (fR_kept (oH4055 _ (G_ne ga1 glp (by decide)))).symm
  have m4074 := (m4035).trans (fR_kept (oH4055 _ (G_ne ga1 glp (by decide)))).symm
  have m4075 := (m4036).trans (fR_kept (oH4055 _ (G_ne ga1 glp (by decide)))).symm
  have m4076 := (m4037).trans (fR_kept (oH4055 _ (G_ne ga1 glp (by decide)))).symm
  have m4077 := (m4038).trans (fR_kept (oH4055 _ (G_ne ga1 glp (by decide)))).symm
  have m4078 := (m4039).trans (fR_kept (oH4055 _ (G_ne ga1 glp (by decide)))).symm
  have m4079 := (m4040).trans (fR_kept (oH4055 _ (G_ne ga1 glp (by decide)))).symm
  have m4080 := (m4041).trans (fI_kept (oH4055 _ (G_ne ga0 glp (by decide)))).symm
  have m4081 := (m4042).trans (fI_kept (oH4055 _ (G_ne ga0 glp (by decide)))).symm
  have m4082 := (m4043).trans (fI_kept (oH4055 _ (G_ne ga1 glp (by decide)))).symm
  have m4083 := (m4044).trans (fI_kept (oH4055 _ (G_ne ga1 glp (by decide)))).symm
  have m4084 := (m4045).trans (fI_kept (oH4055 _ (G_ne ga1 glp (by decide)))).symm
  have m4085 := (m4046).trans (fI_kept (oH4055 _ (G_ne ga0 glp (by decide)))).symm
  have f4086 : ∀ q t : Nat, G q = some t → t ≠ 12 → t ≠ 14 → q ≠ a0 → q ≠ kp → q ≠ gp → q ≠ hp → q ≠ xp → q ≠ lp → q ≠ ap → q ≠ dp → q ≠ tp → q ≠ ip → q ≠ bp → H4055[q]? = s.heap[q]? := (fun q t hq h1 h2 n1 n2 n3 n4 n5 n6 n7 n8 n9 n10 n11 => (oH4055 _ n6).trans (f4047 q t hq h1 h2 n1 n2 n3 n4 n5 n6 n7 n8 n9 n10 n11))
  have f4087 : RFB K H4055 s.heap a0 := RFB.st f4048 (fun k hk => fR_kept (oH4055 _ (G_ne ga0 glp (by decide))))
  have f4088 : ∀ j : Nat, j < 16 → fI H4055 kp j = fI s.heap ku j := fun j hj => (fI_kept (oH4055 _ (G_ne gkp glp (by decide)))).trans (f4049 j hj)
  have f4089 : ∀ j : Nat, j < 16 → fI H4055 gp j = fI s.heap gu j := fun j hj => (fI_kept (oH4055 _ (G_ne ggp glp (by decide)))).trans (f4050 j hj)
  have f4090 : ∀ j : Nat, j < 16 → fI H4055 hp j = fI s.heap hu j := fun j hj => (fI_kept (oH4055 _ (G_ne ghp glp (by decide)))).trans (f4051 j hj)
  have f4091 : ∀ j : Nat, j < 16 → fI H4055 xp j = fI s.heap xu j := fun j hj => (fI_kept (oH4055 _ (G_ne gxp glp (by decide)))).trans (cp4052 j hj)
  have cp4092 : ∀ j : Nat, j < 3 → fI H4055 lp j = fI s.heap lu j := fun j hj => by have c00 : (0 : Int32).toNatClampNeg = 0 := rfl; have cnn : (3 : Int32).toNatClampNeg = 3 := rfl; have z := wH4055 j (by omega); rw [c00, Nat.zero_add] at z; exact z.trans (fI_kept (x_lt hT hSH4016.2.1 glu (by decide)))
  refine lv_aload_n hx hb dX0_copyFrom_82 rfl (lv_at hl 1 rfl) ?_
  refine x_gr C hTH4055 (ci := 0) (k := 6) rfl inX0 (by decide) wF_X0_27 ga1 rg_35 rfl dX0_copyFrom_83 (fun q4093 eq4093 gq4093 => ?_)
  have uq4093 : au = q4093 := (m4073).trans eq4093.symm
  subst uq4093
  refine lv_iconst (v := 0) hx hb dX0_copyFrom_86 (by decide) ?_
  refine lv_aload_n hx hb dX0_copyFrom_87 rfl (lv_at hl 0 rfl) ?_
  refine x_gr C hTH4055 (ci := 0) (k := 6) rfl inX0 (by decide) wF_X0_27 ga0 rg_1 rfl dX0_copyFrom_88 (fun q4094 eq4094 gq4094 => ?_)
  have uq4094 : ap = q4094 := (m4061).trans eq4094.symm
  subst uq4094
  refine lv_iconst (v := 0) hx hb dX0_copyFrom_91 (by decide) ?_
  refine lv_sipush (v := 200) hx hb dX0_copyFrom_92 (by decide) ?_
  refine x_copy C hTH4055 hSH4055 wM_X0_75 wNT_arraycopy wST_arraycopy wIN_J10 gau gap rg_41 rg_7 (by decide) (by omega) (by omega) (by omega) (by show _ ≤ ((200 : Nat) : Int); omega) (by show _ ≤ ((200 : Nat) : Int); omega) (AE_in gap (by decide)) hl.1 (by decide) dX0_copyFrom_95 (fun H4095 locsH4095 hTH4095 hSH4095 zH4095 oH4095 vH4095 wH4095 => ?_)
  have m4096 := (m4056).trans (fR_kept (oH4095 _ (G_ne ga0 gap (by decide)))).symm
  have m4097 := (m4057).trans (fR_kept (oH4095 _ (G_ne ga0 gap (by decide)))).symm
  have m4098 := (m4058).trans (fR_kept (oH4095 _ (G_ne ga0 gap (by decide)))).symm
  have m4099 := (m4059).trans (fR_kept (oH4095 _ (G_ne ga0 gap (by decide)))).symm
  have m4100 := (m4060).trans (fR_kept (oH4095 _ (G_ne ga0 gap (by decide)))).symm
  have m4101 := (m4061).trans (fR_kept (oH4095 _ (G_ne ga0 gap (by decide)))).symm
  have m4102 := (m4062).trans (fR_kept (oH4095 _ (G_ne ga0 gap (by decide)))).symm
  have m4103 := (m4063).trans (fR_kept (oH4095 _ (G_ne ga0 gap (by decide)))).symm
  have m4104 := (m4064).trans (fR_kept (oH4095 _ (G_ne ga0 gap (by decide)))).symm
  have m4105 := (m4065).trans (fR_kept (oH4095 _ (G_ne ga0 gap (by decide)))).symm
  have m4106 := (m4066).trans (fR_kept (oH4095 _ (G_ne ga0 gap (by decide)))).symm
  have m4107 := (m4067).trans (fR_kept (oH4095 _ (G_ne ga0 gap (by decide)))).symm
  have m4108 := (m4068).trans (fR_kept (oH4095 _ (G_ne ga1 gap (by decide)))).symm
  have m4109 := (m4069).trans (fR_kept (oH4095 _ (G_ne ga1 gap (by decide)))).symm
  have m4110 := (m4070).trans (fR_kept (oH4095 _ (G_ne ga1 gap (by decide)))).symm
  have m4111 := (m4071).trans (fR_kept (oH4095 _ (G_ne ga1 gap (by decide)))).symm
  have m4112 := (m4072).trans (fR_kept (oH4095 _ (G_ne ga1 gap (by decide)))).symm
  have m4113 := (m4073).trans (fR_kept (oH4095 _ (G_ne ga1 gap (by decide)))).symm
  have m4114 := (m4074).trans (fR_kept (oH4095 _ (G_ne ga1 gap (by decide)))).symm
  have m4115 := (m4075).trans (fR_kept (oH4095 _ (G_ne ga1 gap (by decide)))).symm
  have m4116 := (m4076).trans (fR_kept (oH4095 _ (G_ne ga1 gap (by decide)))).symm
  have m4117 := (m4077).trans (fR_kept (oH4095 _ (G_ne ga1 gap (by decide)))).symm
  have m4118 := (m4078).trans (fR_kept (oH4095 _ (G_ne ga1 gap (by decide)))).symm
  have m4119 := (m4079).trans (fR_kept (oH4095 _ (G_ne ga1 gap (by decide)))).symm
  have m4120 := (m4080).trans (fI_kept (oH4095 _ (G_ne ga0 gap (by decide)))).symm
  have m4121 := (m4081).trans (fI_kept (oH4095 _ (G_ne ga0 gap (by decide)))).symm
  have m4122 := (m4082).trans (fI_kept (oH4095 _ (G_ne ga1 gap (by decide)))).symm
  have m4123 := (m4083).trans (fI_kept (oH4095 _ (G_ne ga1 gap (by decide)))).symm
  have m4124 := (m4084).trans (fI_kept (oH4095 _ (G_ne ga1 gap (by decide)))).symm
  have m4125 := (m4085).trans (fI_kept (oH4095 _ (G_ne ga0 gap (by decide)))).symm
  have f4126 : ∀ q t : Nat, G q = some t → t ≠ 12 → t ≠ 14 → q ≠ a0 → q ≠ kp → q ≠ gp → q ≠ hp → q ≠ xp → q ≠ lp → q ≠ ap → q ≠ dp → q ≠ tp → q ≠ ip → q ≠ bp → H4095[q]? = s.heap[q]? := (fun q t hq h1 h2 n1 n2 n3 n4 n5 n6 n7 n8 n9 n10 n11 => (oH4095 _ n7).trans (f4086 q t hq h1 h2 n1 n2 n3 n4 n5 n6 n7 n8 n9 n10 n11))
  have f4127 : RFB K H4095 s.heap a0 := RFB.st f4087 (fun k hk => fR_kept (oH4095 _ (G_ne ga0 gap (by decide))))
  have f4128 : ∀ j : Nat, j < 16 → fI H4095 kp j = fI s.heap ku j := fun j hj => (fI_kept (oH4095 _ (G_ne gkp gap (by decide)))).trans (f4088 j hj)
  have f4129 : ∀ j : Nat, j < 16 → fI H4095 gp j = fI s.heap gu j := fun j hj => (fI_kept (oH4095 _ (G_ne ggp gap (by decide)))).trans (f4089 j hj)
  have f4130 : ∀ j : Nat, j < 16 → fI H4095 hp j = fI s.heap hu j := fun j hj => (fI_kept (oH4095 _ (G_ne ghp gap (by decide)))).trans (f4090 j hj)
  have f4131 : ∀ j : Nat, j < 16 → fI H4095 xp j = fI s.heap xu j := fun j hj => (fI_kept (oH4095 _ (G_ne gxp gap (by decide)))).trans (f4091 j hj)
  have f4132 : ∀ j : Nat, j < 3 → fI H4095 lp j = fI s.heap lu j := fun j hj => (fI_kept (oH4095 _ (G_ne glp gap (by decide)))).trans (cp4092 j hj)
  have cp4133 : ∀ j : Nat, j < 200 → fI H4095 ap j = fI s.heap au j := fun j hj => by have c00 : (0 : Int32).toNatClampNeg = 0 := rfl; have cnn : (200 : Int32).toNatClampNeg = 200 := rfl; have z := wH4095 j (by omega); rw [c00, Nat.zero_add] at z; exact z.trans (fI_kept (x_lt hT hSH4055.2.1 gau (by decide)))
  refine lv_aload_n hx hb dX0_copyFrom_98 rfl (lv_at hl 1 rfl) ?_
  refine x_gr C hTH4095 (ci := 0) (k := 7) rfl inX0 (by decide) wF_X0_30 ga1 rg_35 rfl dX0_copyFrom_99 (fun q4134 eq4134 gq4134 => ?_)
  have uq4134 : du = q4134 := (m4114).trans eq4134.symm
  subst uq4134
  refine lv_iconst (v := 0) hx hb dX0_copyFrom_102 (by decide) ?_
  refine lv_aload_n hx hb dX0_copyFrom_103 rfl (lv_at hl 0 rfl) ?_
  refine x_gr C hTH4095 (ci := 0) (k := 7) rfl inX0 (by decide) wF_X0_30 ga0 rg_1 rfl dX0_copyFrom_104 (fun q4135 eq4135 gq4135 => ?_)
  have uq4135 : dp = q4135 := (m4102).trans eq4135.symm
  subst uq4135
  refine lv_iconst (v := 0) hx hb dX0_copyFrom_107 (by decide) ?_
  refine lv_sipush (v := 200) hx hb dX0_copyFrom_108 (by decide) ?_
  refine x_copy C hTH4095 hSH4095 wM_X0_75 wNT_arraycopy wST_arraycopy wIN_J10 gdu gdp rg_42 rg_8 (by decide) (by omega) (by omega) (by omega) (by show _ ≤ ((200 : Nat) : Int); omega) (by show _ ≤ ((200 : Nat) : Int); omega) (AE_in gdp (by decide)) hl.1 (by decide) dX0_copyFrom_111 (fun H4136 locsH4136 hTH4136 hSH4136 zH4136 oH4136 vH4136 wH4136 => ?_)
  have m4137 := (m4096).trans (fR_kept (oH4136 _ (G_ne ga0 gdp (by decide)))).symm
  have m4138 := (m4097).trans (fR_kept (oH4136 _ (G_ne ga0 gdp (by decide)))).symm
  have m4139 := (m4098).trans (fR_kept (oH4136 _ (G_ne ga0 gdp (by decide)))).symm
  have m4140 := (m4099).trans (fR_kept (oH4136 _ (G_ne ga0 gdp (by decide)))).symm
  have m4141 := (m4100).trans (fR_kept (oH4136 _ (G_ne ga0 gdp (by decide)))).symm
  have m4142 := (m4101).trans (fR_kept (oH4136 _ (G_ne ga0 gdp (by decide)))).symm
  have m4143 := (m4102).trans (fR_kept (oH4136 _ (G_ne ga0 gdp (by decide)))).symm
  have m4144 := (m4103).trans (fR_kept (oH4136 _ (G_ne ga0 gdp (by decide)))).symm
  have m4145 := (m4104).trans (fR_kept (oH4136 _ (G_ne ga0 gdp (by decide)))).symm
  have m4146 := (m4105).trans (fR_kept (oH4136 _ (G_ne ga0 gdp (by decide)))).symm
  have m4147 := (m4106).trans (fR_kept (oH4136 _ (G_ne ga0 gdp (by decide)))).symm
  have m4148 := (m4107).trans (fR_kept (oH4136 _ (G_ne ga0 gdp (by decide)))).symm
  have m4149 := (m4108).trans (fR_kept (oH4136 _ (G_ne ga1 gdp (by decide)))).symm
  have m4150 := (m4109).trans (fR_kept (oH4136 _ (G_ne ga1 gdp (by decide)))).symm
  have m4151 := (m4110).trans (fR_kept (oH4136 _ (G_ne ga1 gdp (by decide)))).symm
  have m4152 := (m4111).trans (fR_kept (oH4136 _ (G_ne ga1 gdp (by decide)))).symm
  have m4153 := (m4112).trans (fR_kept (oH4136 _ (G_ne ga1 gdp (by decide)))).symm
  have m4154 := (m4113).trans (fR_kept (oH4136 _ (G_ne ga1 gdp (by decide)))).symm
  have m4155 := (m4114).trans (fR_kept (oH4136 _ (G_ne ga1 gdp (by decide)))).symm
  have m4156 := (m4115).trans (fR_kept (oH4136 _ (G_ne ga1 gdp (by decide)))).symm
  have m4157 := (m4116).trans (fR_kept (oH4136 _ (G_ne ga1 gdp (by decide)))).symm
  have m4158 := (m4117).trans (fR_kept (oH4136 _ (G_ne ga1 gdp (by decide)))).symm
  have m4159 := (m4118).trans (fR_kept (oH4136 _ (G_ne ga1 gdp (by decide)))).symm
  have m4160 := (m4119).trans (fR_kept (oH4136 _ (G_ne ga1 gdp (by decide)))).symm
  have m4161 := (m4120).trans (fI_kept (oH4136 _ (G_ne ga0 gdp (by decide)))).symm
  have m4162 := (m4121).trans (fI_kept (oH4136 _ (G_ne ga0 gdp (by decide)))).symm
  have m4163 := (m4122).trans (fI_kept (oH4136 _ (G_ne ga1 gdp (by decide)))).symm
  have m4164 := (m4123).trans (fI_kept (oH4136 _ (G_ne ga1 gdp (by decide)))).symm
  have m4165 := (m4124).trans (fI_kept (oH4136 _ (G_ne ga1 gdp (by decide)))).symm
  have m4166 := (m4125).trans (fI_kept (oH4136 _ (G_ne ga0 gdp (by decide)))).symm
  have f4167 : ∀ q t : Nat, G q = some t → t ≠ 12 → t ≠ 14 → q ≠ a0 → q ≠ kp → q ≠ gp → q ≠ hp → q ≠ xp → q ≠ lp → q ≠ ap → q ≠ dp → q ≠ tp → q ≠ ip → q ≠ bp → H4136[q]? = s.heap[q]? := (fun q t hq h1 h2 n1 n2 n3 n4 n5 n6 n7 n8 n9 n10 n11 => (oH4136 _ n8).trans (f4126 q t hq h1 h2 n1 n2 n3 n4 n5 n6 n7 n8 n9 n10 n11))
  have f4168 : RFB K H4136 s.heap a0 := RFB.st f4127 (fun k hk => fR_kept (oH4136 _ (G_ne ga0 gdp (by decide))))
  have f4169 : ∀ j : Nat, j < 16 → fI H4136 kp j = fI s.heap ku j := fun j hj => (fI_kept (oH4136 _ (G_ne gkp gdp (by decide)))).trans (f4128 j hj)
  have f4170 : ∀ j : Nat, j < 16 → fI H4136 gp j = fI s.heap gu j := fun j hj => (fI_kept (oH4136 _ (G_ne ggp gdp (by decide)))).trans (f4129 j hj)
  have f4171 : ∀ j : Nat, j < 16 → fI H4136 hp j = fI s.heap hu j := fun j hj => (fI_kept (oH4136 _ (G_ne ghp gdp (by decide)))).trans (f4130 j hj)
  have f4172 : ∀ j : Nat, j < 16 → fI H4136 xp j = fI s.heap xu j := fun j hj => (fI_kept (oH4136 _ (G_ne gxp gdp (by decide)))).trans (f4131 j hj)
  have f4173 : ∀ j : Nat, j < 3 → fI H4136 lp j = fI s.heap lu j := fun j hj => (fI_kept (oH4136 _ (G_ne glp gdp (by decide)))).trans (f4132 j hj)
  have f4174 : ∀ j : Nat, j < 200 → fI H4136 ap j = fI s.heap au j := fun j hj => (fI_kept (oH4136 _ (G_ne gap gdp (by decide)))).trans (cp4133 j hj)
  have cp4175 : ∀ j : Nat, j < 200 → fI H4136 dp j = fI s.heap du j := fun j hj => by have c00 : (0 : Int32).toNatClampNeg = 0 := rfl; have cnn : (200 : Int32).toNatClampNeg = 200 := rfl; have z := wH4136 j (by omega); rw [c00, Nat.zero_add] at z; exact z.trans (fI_kept (x_lt hT hSH4095.2.1 gdu (by decide)))
  refine lv_aload_n hx hb dX0_copyFrom_114 rfl (lv_at hl 0 rfl) ?_
  refine lv_aload_n hx hb dX0_copyFrom_115 rfl (lv_at hl 1 rfl) ?_
  refine x_gi C hTH4136 (ci := 0) (k := 8) rfl inX0 (by decide) wF_X0_60 ga1 rg_35 rfl dX0_copyFrom_116 (fun x4176 ex4176 bx4176 => ?_)
  have ux4176 : pcu = x4176 := (m4164).trans ex4176.symm
  subst ux4176
  refine x_put C hTH4136 hSH4136 (ci := 0) (k := 8) (v := .int pcu) (ty0 := tyX0) rfl inX0 tyX0_ok nmX0 (by decide) rfl wF_X0_60 ga0 rg_1 rfl rfl (okI (by omega) (by omega)) rfl rfl (AE_in ga0 (by decide)) dX0_copyFrom_119 (fun H4177 locsH4177 hTH4177 hSH4177 wH4177 => ?_)
  have f4178 : ∀ q t : Nat, G q = some t → t ≠ 12 → t ≠ 14 → q ≠ a0 → q ≠ kp → q ≠ gp → q ≠ hp → q ≠ xp → q ≠ lp → q ≠ ap → q ≠ dp → q ≠ tp → q ≠ ip → q ≠ bp → H4177[q]? = s.heap[q]? := (fun q t hq h1 h2 n1 n2 n3 n4 n5 n6 n7 n8 n9 n10 n11 => (wH4177.off n1).trans (f4167 q t hq h1 h2 n1 n2 n3 n4 n5 n6 n7 n8 n9 n10 n11))
  have f4179 : RFB K H4177 s.heap a0 := RFB.st f4168 (fun k hk => Wr.neR wH4177 (Or.inr (hapB k _ (by omega) (by decide) (by omega))))
  have f4180 : ∀ j : Nat, j < 16 → fI H4177 kp j = fI s.heap ku j := fun j hj => (fI_kept (wH4177.off (G_ne gkp ga0 (by decide)))).trans (f4169 j hj)
  have f4181 : ∀ j : Nat, j < 16 → fI H4177 gp j = fI s.heap gu j := fun j hj => (fI_kept (wH4177.off (G_ne ggp ga0 (by decide)))).trans (f4170 j hj)
  have f4182 : ∀ j : Nat, j < 16 → fI H4177 hp j = fI s.heap hu j := fun j hj => (fI_kept (wH4177.off (G_ne ghp ga0 (by decide)))).trans (f4171 j hj)
  have f4183 : ∀ j : Nat, j < 16 → fI H4177 xp j = fI s.heap xu j := fun j hj => (fI_kept (wH4177.off (G_ne gxp ga0 (by decide)))).trans (f4172 j hj)
  have f4184 : ∀ j : Nat, j < 3 → fI H4177 lp j = fI s.heap lu j := fun j hj => (fI_kept (wH4177.off (G_ne glp ga0 (by decide)))).trans (f4173 j hj)
  have f4185 : ∀ j : Nat, j < 200 → fI H4177 ap j = fI s.heap au j := fun j hj => (fI_kept (wH4177.off (G_ne gap ga0 (by decide)))).trans (f4174 j hj)
  have f4186 : ∀ j : Nat, j < 200 → fI H4177 dp j = fI s.heap du j := fun j hj => (fI_kept (wH4177.off (G_ne gdp ga0 (by decide)))).trans (cp4175 j hj)
  have m4187 := m4137.trans (Wr.neR wH4177 (Or.inr (x_apart hKT hts inX0 tyX0 tyX0_ok nmX0 rfl 1 8 (by decide) (by decide) (by decide)))).symm
  have m4188 := m4138.trans (Wr.neR wH4177 (Or.inr (x_apart hKT hts inX0 tyX0 tyX0_ok nmX0 rfl 2 8 (by decide) (by decide) (by decide)))).symm
  have m4189 := m4139.trans (Wr.neR wH4177 (Or.inr (x_apart hKT hts inX0 tyX0 tyX0_ok nmX0 rfl 3 8 (by decide) (by decide) (by decide)))).symm
  have m4190 := m4140.trans (Wr.neR wH4177 (Or.inr (x_apart hKT hts inX0 tyX0 tyX0_ok nmX0 rfl 4 8 (by decide) (by decide) (by decide)))).symm
  have m4191 := m4141.trans (Wr.neR wH4177 (Or.inr (x_apart hKT hts inX0 tyX0 tyX0_ok nmX0 rfl 5 8 (by decide) (by decide) (by decide)))).symm
  have m4192 := m4142.trans (Wr.neR wH4177 (Or.inr (x_apart hKT hts inX0 tyX0 tyX0_ok nmX0 rfl 6 8 (by decide) (by decide) (by decide)))).symm
  have m4193 := m4143.trans (Wr.neR wH4177 (Or.inr (x_apart hKT hts inX0 tyX0 tyX0_ok nmX0 rfl 7 8 (by decide) (by decide) (by decide)))).symm
  have m4194 := m4144.trans (Wr.neR wH4177 (Or.inr (x_apart hKT hts inX0 tyX0 tyX0_ok nmX0 rfl 10 8 (by decide) (by decide) (by decide)))).symm
  have m4195 := m4145.trans (Wr.neR wH4177 (Or.inr (x_apart hKT hts inX0 tyX0 tyX0_ok nmX0 rfl 11 8 (by decide) (by decide) (by decide)))).symm
  have m4196 := m4146.trans (Wr.neR wH4177 (Or.inr (x_apart hKT hts inX0 tyX0 tyX0_ok nmX0 rfl 12 8 (by decide) (by decide) (by decide)))).symm
  have m4197 := m4147.trans (Wr.neR wH4177 (Or.inr (x_apart hKT hts inX0 tyX0 tyX0_ok nmX0 rfl 13 8 (by decide) (by decide) (by decide)))).symm
  have m4198 := m4148.trans (Wr.neR wH4177 (Or.inr (x_apart hKT hts inX0 tyX0 tyX0_ok nmX0 rfl 17 8 (by decide) (by decide) (by decide)))).symm
  have m4199 := m4149.trans (Wr.neR wH4177 (Or.inl (G_ne ga1 ga0 (by decide)))).symm
  have m4200 := m4150.trans (Wr.neR wH4177 (Or.inl (G_ne ga1 ga0 (by decide)))).symm
  have m4201 := m4151.trans (Wr.neR wH4177 (Or.inl (G_ne ga1 ga0 (by decide)))).symm
  have m4202 := m4152.trans (Wr.neR wH4177 (Or.inl (G_ne ga1 ga0 (by decide)))).symm
  have m4203 := m4153.trans (Wr.neR wH4177 (Or.inl (G_ne ga1 ga0 (by decide)))).symm
  have m4204 := m4154.trans (Wr.neR wH4177 (Or.inl (G_ne ga1 ga0 (by decide)))).symm
  have m4205 := m4155.trans (Wr.neR wH4177 (Or.inl (G_ne ga1 ga0 (by decide)))).symm
  have m4206 := m4156.trans (Wr.neR wH4177 (Or.inl (G_ne ga1 ga0 (by decide)))).symm
  have m4207 := m4157.trans (Wr.neR wH4177 (Or.inl (G_ne ga1 ga0 (by decide)))).symm
  have m4208 := m4158.trans (Wr.neR wH4177 (Or.inl (G_ne ga1 ga0 (by decide)))).symm
  have m4209 := m4159.trans (Wr.neR wH4177 (Or.inl (G_ne ga1 ga0 (by decide)))).symm
  have m4210 := m4160.trans (Wr.neR wH4177 (Or.inl (G_ne ga1 ga0 (by decide)))).symm
  have m4212 := m4162.trans (Wr.neI wH4177 (Or.inr (x_apart hKT hts inX0 tyX0 tyX0_ok nmX0 rfl 9 8 (by decide) (by decide) (by decide)))).symm
  have m4213 := m4163.trans (Wr.neI wH4177 (Or.inl (G_ne ga1 ga0 (by decide)))).symm
  have m4214 := m4164.trans (Wr.neI wH4177 (Or.inl (G_ne ga1 ga0 (by decide)))).symm
  have m4215 := m4165.trans (Wr.neI wH4177 (Or.inl (G_ne ga1 ga0 (by decide)))).symm
  have m4216 := m4166.trans (Wr.neI wH4177 (Or.inr (x_apart hKT hts inX0 tyX0 tyX0_ok nmX0 rfl 0 8 (by decide) (by decide) (by decide)))).symm
  have m4217 := Wr.I wH4177
  have m4217 := m4217.symm
  refine lv_aload_n hx hb dX0_copyFrom_122 rfl (lv_at hl 0 rfl) ?_
  refine lv_aload_n hx hb dX0_copyFrom_123 rfl (lv_at hl 1 rfl) ?_
  refine x_gi C hTH4177 (ci := 0) (k := 9) rfl inX0 (by decide) wF_X0_63 ga1 rg_35 rfl dX0_copyFrom_124 (fun x4218 ex4218 bx4218 => ?_)
  have ux4218 : lbu = x4218 := (m4215).trans ex4218.symm
  subst ux4218
  refine x_put C hTH4177 hSH4177 (ci := 0) (k := 9) (v := .int lbu) (ty0 := tyX0) rfl inX0 tyX0_ok nmX0 (by decide) rfl wF_X0_63 ga0 rg_1 rfl rfl (okI (i_rng lbu).1 (i_rng lbu).2) rfl rfl (AE_in ga0 (by decide)) dX0_copyFrom_127 (fun H4219 locsH4219 hTH4219 hSH4219 wH4219 => ?_)
  clear f4167 f4168 f4169 f4170 f4171 f4172 f4173 f4174 m4137 m4138 m4139 m4140 m4141 m4142 m4143 m4144 m4145 m4146 m4147 m4148 m4149 m4150 m4151 m4152 m4153 m4154 m4155 m4156 m4157 m4158 m4159 m4160 m4161 m4162 m4163 m4164 m4165 m4166
  have f4220 : ∀ q t : Nat, G q = some t → t ≠ 12 → t ≠ 14 → q ≠ a0 → q ≠ kp → q ≠ gp → q ≠ hp → q ≠ xp → q ≠ lp → q ≠ ap → q ≠ dp → q ≠ tp → q ≠ ip → q ≠ bp → H4219[q]? = s.heap[q]? := (fun q t hq h1 h2 n1 n2 n3 n4 n5 n6 n7 n8 n9 n10 n11 => (wH4219.off n1).trans (f4178 q t hq h1 h2 n1 n2 n3 n4 n5 n6 n7 n8 n9 n10 n11))
  have f4221 : RFB K H4219 s.heap a0 := RFB.st f4179 (fun k hk => Wr.neR wH4219 (Or.inr (hapB k _ (by omega) (by decide) (by omega))))
  have f4222 : ∀ j : Nat, j < 16 → fI H4219 kp j = fI s.heap ku j := fun j hj => (fI_kept (wH4219.off (G_ne gkp ga0 (by decide)))).trans (f4180 j hj)
  have f4223 : ∀ j : Nat, j < 16 → fI H4219 gp j = fI s.heap gu j := fun j hj => (fI_kept (wH4219.off (G_ne ggp ga0 (by decide)))).trans (f4181 j hj)
  have f4224 : ∀ j : Nat, j < 16 → fI H4219 hp j = fI s.heap hu j := fun j hj => (fI_kept (wH4219.off (G_ne ghp ga0 (by decide)))).trans (f4182 j hj)
  have f4225 : ∀ j : Nat, j < 16 → fI H4219 xp j = fI s.heap xu j := fun j hj => (fI_kept (wH4219.off (G_ne gxp ga0 (by decide)))).trans (f4183 j hj)
  have f4226 : ∀ j : Nat, j < 3 → fI H4219 lp j = fI s.heap lu j := fun j hj => (fI_kept (wH4219.off (G_ne glp ga0 (by decide)))).trans (f4184 j hj)
  have f4227 : ∀ j : Nat, j < 200 → fI H4219 ap j = fI s.heap au j := fun j hj => (fI_kept (wH4219.off (G_ne gap ga0 (by decide)))).trans (f4185 j hj)
  have f4228 : ∀ j : Nat, j < 200 → fI H4219 dp j = fI s.heap du j := fun j hj => (fI_kept (wH4219.off (G_ne gdp ga0 (by decide)))).trans (f4186 j hj)
  have m4229 := m4187.trans (Wr.neR wH4219 (Or.inr (x_apart hKT hts inX0 tyX0 tyX0_ok nmX0 rfl 1 9 (by decide) (by decide) (by decide)))).symm
  have m4230 := m4188.trans (Wr.neR wH4219 (Or.inr (x_apart hKT hts inX0 tyX0 tyX0_ok nmX0 rfl 2 9 (by decide) (by decide) (by decide)))).symm
  have m4231 := m4189.trans (Wr.neR wH4219 (Or.inr (x_apart hKT hts inX0 tyX0 tyX0_ok nmX0 rfl 3 9 (by decide) (by decide) (by decide)))).symm
  have m4232 := m4190.trans (Wr.neR wH4219 (Or.inr (x_apart hKT hts inX0 tyX0 tyX0_ok nmX0 rfl 4 9 (by decide) (by decide) (by decide)))).symm
  have m4233 := m4191.trans (Wr.neR wH4219 (Or.inr (x_apart hKT hts inX0 tyX0 tyX0_ok nmX0 rfl 5 9 (by decide) (by decide) (by decide)))).symm
  have m4234 := m4192.trans (Wr.neR wH4219 (Or.inr (x_apart hKT hts inX0 tyX0 tyX0_ok nmX0 rfl 6 9 (by decide) (by decide) (by decide)))).symm
  have m4235 := m4193.trans (Wr.neR wH4219 (Or.inr (x_apart hKT hts inX0 tyX0 tyX0_ok nmX0 rfl 7 9 (by decide) (by decide) (by decide)))).symm
  have m4236 := m4194.trans (Wr.neR wH4219 (Or.inr (x_apart hKT hts inX0 tyX0 tyX0_ok nmX0 rfl 10 9 (by decide) (by decide) (by decide)))).symm
  have m4237 := m4195.trans (Wr.neR wH4219 (Or.inr (x_apart hKT hts inX0 tyX0 tyX0_ok nmX0 rfl 11 9 (by decide) (by decide) (by decide)))).symm
  have m4238 := m4196.trans (Wr.neR wH4219 (Or.inr (x_apart hKT hts inX0 tyX0 tyX0_ok nmX0 rfl 12 9 (by decide) (by decide) (by decide)))).symm
  have m4239 := m4197.trans (Wr.neR wH4219 (Or.inr (x_apart hKT hts inX0 tyX0 tyX0_ok nmX0 rfl 13 9 (by decide) (by decide) (by decide)))).symm
  have m4240 := m4198.trans (Wr.neR wH4219 (Or.inr (x_apart hKT hts inX0 tyX0 tyX0_ok nmX0 rfl 17 9 (by decide) (by decide) (by decide)))).symm
  have m4241 := m4199.trans (Wr.neR wH4219 (Or.inl (G_ne ga1 ga0 (by decide)))).symm
  have m4242 := m4200.trans (Wr.neR wH4219 (Or.inl (G_ne ga1 ga0 (by decide)))).symm
  have m4243 := m4201.trans (Wr.neR wH4219 (Or.inl (G_ne ga1 ga0 (by decide)))).symm
  have m4244 := m4202.trans (Wr.neR wH4219 (Or.inl (G_ne ga1 ga0 (by decide)))).symm
  have m4245 := m4203.trans (Wr.neR wH4219 (Or.inl (G_ne ga1 ga0 (by decide)))).symm
  have m4246 := m4204.trans (Wr.neR wH4219 (Or.inl (G_ne ga1 ga0 (by decide)))).symm
  have m4247 := m4205.trans (Wr.neR wH4219 (Or.inl (G_ne ga1 ga0 (by decide)))).symm
  have m4248 := m4206.trans (Wr.neR wH4219 (Or.inl (G_ne ga1 ga0 (by decide)))).symm
  have m4249 := m4207.trans (Wr.neR wH4219 (Or.inl (G_ne ga1 ga0 (by decide)))).symm
  have m4250 := m4208.trans (Wr.neR wH4219 (Or.inl (G_ne ga1 ga0 (by decide)))).symm
  have m4251 := m4209.trans (Wr.neR wH4219 (Or.inl (G_ne ga1 ga0 (by decide)))).symm
  have m4252 := m4210.trans (Wr.neR wH4219 (Or.inl (G_ne ga1 ga0 (by decide)))).symm
  have m4254 := m4213.trans (Wr.neI wH4219 (Or.inl (G_ne ga1 ga0 (by decide)))).symm
  have m4255 := m4214.trans (Wr.neI wH4219 (Or.inl (G_ne ga1 ga0 (by decide)))).symm
  have m4256 := m4215.trans (Wr.neI wH4219 (Or.inl (G_ne ga1 ga0 (by decide)))).symm
  have m4257 := m4216.trans (Wr.neI wH4219 (Or.inr (x_apart hKT hts inX0 tyX0 tyX0_ok nmX0 rfl 0 9 (by decide) (by decide) (by decide)))).symm
  have m4258 := m4217.trans (Wr.neI wH4219 (Or.inr (x_apart hKT hts inX0 tyX0 tyX0_ok nmX0 rfl 8 9 (by decide) (by decide) (by decide)))).symm
  have m4259 := Wr.I wH4219
  have m4259 := m4259.symm
  refine lv_aload_n hx hb dX0_copyFrom_130 rfl (lv_at hl 1 rfl) ?_
  refine x_gr C hTH4219 (ci := 0) (k := 10) rfl inX0 (by decide) wF_X0_33 ga1 rg_35 rfl dX0_copyFrom_131 (fun q4260 eq4260 gq4260 => ?_)
  have uq4260 : tu = q4260 := (m4248).trans eq4260.symm
  subst uq4260
  refine lv_iconst (v := 0) hx hb dX0_copyFrom_134 (by decide) ?_
  refine lv_aload_n hx hb dX0_copyFrom_135 rfl (lv_at hl 0 rfl) ?_
  refine x_gr C hTH4219 (ci := 0) (k := 10) rfl inX0 (by decide) wF_X0_33 ga0 rg_1 rfl dX0_copyFrom_136 (fun q4261 eq4261 gq4261 => ?_)
  have uq4261 : tp = q4261 := (m4236).trans eq4261.symm
  subst uq4261
  refine lv_iconst (v := 0) hx hb dX0_copyFrom_139 (by decide) ?_
  refine lv_bipush (v := 12) hx hb dX0_copyFrom_140 (by decide) ?_
  refine x_copy C hTH4219 hSH4219 wM_X0_75 wNT_arraycopy wST_arraycopy wIN_J10 gtu gtp rg_43 rg_9 (by decide) (by omega) (by omega) (by omega) (by show _ ≤ ((12 : Nat) : Int); omega) (by show _ ≤ ((12 : Nat) : Int); omega) (AE_in gtp (by decide)) hl.1 (by decide) dX0_copyFrom_142 (fun H4262 locsH4262 hTH4262 hSH4262 zH4262 oH4262 vH4262 wH4262 => ?_)
  have m4263 := (m4229).trans (fR_kept (oH4262 _ (G_ne ga0 gtp (by decide)))).symm
  have m4264 := (m4230).trans (fR_kept (oH4262 _ (G_ne ga0 gtp (by decide)))).symm
  have m4265 := (m4231).trans (fR_kept (oH4262 _ (G_ne ga0 gtp (by decide)))).symm
  have m4266 := (m4232).trans (fR_kept (oH4262 _ (G_ne ga0 gtp (by decide)))).symm
  have m4267 := (m4233).trans (fR_kept (oH4262 _ (G_ne ga0 gtp (by decide)))).symm
  have m4268 := (m4234).trans (fR_kept (oH4262 _ (G_ne ga0 gtp (by decide)))).symm
  have m4269 := (m4235).trans (fR_kept (oH4262 _ (G_ne ga0 gtp (by decide)))).symm
  have m4270 := (m4236).trans (fR_kept (oH4262 _ (G_ne ga0 gtp (by decide)))).symm
  have m4271 := (m4237).trans (fR_kept (oH4262 _ (G_ne ga0 gtp (by decide)))).symm
  have m4272 := (m4238).trans (fR_kept (oH4262 _ (G_ne ga0 gtp (by decide)))).symm
  have m4273 := (m4239).trans (fR_kept (oH4262 _ (G_ne ga0 gtp (by decide)))).symm
  have m4274 := (m4240).trans (fR_kept (oH4262 _ (G_ne ga0 gtp (by decide)))).symm
  have m4275 := (m4241).trans (fR_kept (oH4262 _ (G_ne ga1 gtp (by decide)))).symm
  have m4276 := (m4242).trans (fR_kept (oH4262 _ (G_ne ga1 gtp (by decide)))).symm
  have m4277 := (m4243).trans (fR_kept (oH4262 _ (G_ne ga1 gtp (by decide)))).symm
  have m4278 := (m4244).trans (fR_kept (oH4262 _ (G_ne ga1 gtp (by decide)))).symm
  have m4279 := (m4245).trans (fR_kept (oH4262 _ (G_ne ga1 gtp (by decide)))).symm
  have m4280 := (m4246).trans (fR_kept (oH4262 _ (G_ne ga1 gtp (by decide)))).symm
  have m4281 := (m4247).trans (fR_kept (oH4262 _ (G_ne ga1 gtp (by decide)))).symm
  have m4282 := (m4248).trans (fR_kept (oH4262 _ (G_ne ga1 gtp (by decide)))).symm
  have m4283 := (m4249).trans (fR_kept (oH4262 _ (G_ne ga1 gtp (by decide)))).symm
  have m4284 := (m4250).trans (fR_kept (oH4262 _ (G_ne ga1 gtp (by decide)))).symm
  have m4285 := (m4251).trans (fR_kept (oH4262 _ (G_ne ga1 gtp (by decide)))).symm
  have m4286 := (m4252).trans (fR_kept (oH4262 _ (G_ne ga1 gtp (by decide)))).symm
  have m4287 := (m4254).trans (fI_kept (oH4262 _ (G_ne ga1 gtp (by decide)))).symm
  have m4288 := (m4255).trans (fI_kept (oH4262 _ (G_ne ga1 gtp (by decide)))).symm
  have m4289 := (m4256).trans (fI_kept (oH4262 _ (G_ne ga1 gtp (by decide)))).symm
  have m4290 := (m4257).trans (fI_kept (oH4262 _ (G_ne ga0 gtp (by decide)))).symm
  have m4291 := (m4258).trans (fI_kept (oH4262 _ (G_ne ga0 gtp (by decide)))).symm
  have m4292 := (m4259).trans (fI_kept (oH4262 _ (G_ne ga0 gtp (by decide)))).symm
  have f4293 : ∀ q t : Nat, G q = some t → t ≠ 12 → t ≠ 14 → q ≠ a0 → q ≠ kp → q ≠ gp → q ≠ hp → q ≠ xp → q ≠ lp → q ≠ ap → q ≠ dp → q ≠ tp → q ≠ ip → q ≠ bp → H4262[q]? = s.heap[q]? := (fun q t hq h1 h2 n1 n2 n3 n4 n5 n6 n7 n8 n9 n10 n11 => (oH4262 _ n9).trans (f4220 q t hq h1 h2 n1 n2 n3 n4 n5 n6 n7 n8 n9 n10 n11))
  have f4294 : RFB K H4262 s.heap a0 := RFB.st f4221 (fun k hk => fR_kept (oH4262 _ (G_ne ga0 gtp (by decide))))
  have f4295 : ∀ j : Nat, j < 16 → fI H4262 kp j = fI s.heap ku j := fun j hj => (fI_kept (oH4262 _ (G_ne gkp gtp (by decide)))).trans (f4222 j hj)
  have f4296 : ∀ j : Nat, j < 16 → fI H4262 gp j = fI s.heap gu j := fun j hj => (fI_kept (oH4262 _ (G_ne ggp gtp (by decide)))).trans (f4223 j hj)
  have f4297 : ∀ j : Nat, j < 16 → fI H4262 hp j = fI s.heap hu j := fun j hj => (fI_kept (oH4262 _ (G_ne ghp gtp (by decide)))).trans (f4224 j hj)
  have f4298 : ∀ j : Nat, j < 16 → fI H4262 xp j = fI s.heap xu j := fun j hj => (fI_kept (oH4262 _ (G_ne gxp gtp (by decide)))).trans (f4225 j hj)
  have f4299 : ∀ j : Nat, j < 3 → fI H4262 lp j = fI s.heap lu j := fun j hj => (fI_kept (oH4262 _ (G_ne glp gtp (by decide)))).trans (f4226 j hj)
  have f4300 : ∀ j : Nat, j < 200 → fI H4262 ap j = fI s.heap au j := fun j hj => (fI_kept (oH4262 _ (G_ne gap gtp (by decide)))).trans (f4227 j hj)
  have f4301 : ∀ j : Nat, j < 200 → fI H4262 dp j = fI s.heap du j := fun j hj => (fI_kept (oH4262 _ (G_ne gdp gtp (by decide)))).trans (f4228 j hj)
  have cp4302 : ∀ j : Nat, j < 12 → fI H4262 tp j = fI s.heap tu j := fun j hj => by have c00 : (0 : Int32).toNatClampNeg = 0 := rfl; have cnn : (12 : Int32).toNatClampNeg = 12 := rfl; have z := wH4262 j (by omega); rw [c00, Nat.zero_add] at z; exact z.trans (fI_kept (x_lt hT hSH4219.2.1 gtu (by decide)))
  refine lv_aload_n hx hb dX0_copyFrom_145 rfl (lv_at hl 1 rfl) ?_
  refine x_gr C hTH4262 (ci := 0) (k := 11) rfl inX0 (by decide) wF_X0_36 ga1 rg_35 rfl dX0_copyFrom_146 (fun q4303 eq4303 gq4303 => ?_)
  have uq4303 : iu = q4303 := (m4283).trans eq4303.symm
  subst uq4303
  refine lv_iconst (v := 0) hx hb dX0_copyFrom_149 (by decide) ?_
  refine lv_aload_n hx hb dX0_copyFrom_150 rfl (lv_at hl 0 rfl) ?_
  refine x_gr C hTH4262 (ci := 0) (k := 11) rfl inX0 (by decide) wF_X0_36 ga0 rg_1 rfl dX0_copyFrom_151 (fun q4304 eq4304 gq4304 => ?_)
  have uq4304 : ip = q4304 := (m4271).trans eq4304.symm
  subst uq4304
  refine lv_iconst (v := 0) hx hb dX0_copyFrom_154 (by decide) ?_
  refine lv_bipush (v := 12) hx hb dX0_copyFrom_155 (by decide) ?_
  refine x_copy C hTH4262 hSH4262 wM_X0_75 wNT_arraycopy wST_arraycopy wIN_J10 giu gip rg_44 rg_10 (by decide) (by omega) (by omega) (by omega) (by show _ ≤ ((12 : Nat) : Int); omega) (by show _ ≤ ((12 : Nat) : Int); omega) (AE_in gip (by decide)) hl.1 (by decide) dX0_copyFrom_157 (fun H4305 locsH4305 hTH4305 hSH4305 zH4305 oH4305 vH4305 wH4305 => ?_)
  have m4306 := (m4263).trans (fR_kept (oH4305 _ (G_ne ga0 gip (by decide)))).symm
  have m4307 := (m4264).trans (fR_kept (oH4305 _ (G_ne ga0 gip (by decide)))).symm
  have m4308 := (m4265).trans (fR_kept (oH4305 _ (G_ne ga0 gip (by decide)))).symm
  have m4309 := (m4266).trans (fR_kept (oH4305 _ (G_ne ga0 gip (by decide)))).symm
  have m4310 := (m4267).trans (fR_kept (oH4305 _ (G_ne ga0 gip (by decide)))).symm
  have m4311 := (m4268).trans (fR_kept (oH4305 _ (G_ne ga0 gip (by decide)))).symm
  have m4312 := (m4269).trans (fR_kept (oH4305 _ (G_ne ga0 gip (by decide)))).symm
  have m4313 := (m4270).trans (fR_kept (oH4305 _ (G_ne ga0 gip (by decide)))).symm
  have m4314 := (m4271).trans (fR_kept (oH4305 _ (G_ne ga0 gip (by decide)))).symm
  have m4315 := (m4272).trans (fR_kept (oH4305 _ (G_ne ga0 gip (by decide)))).symm
  have m4316 := (m4273).trans (fR_kept (oH4305 _ (G_ne ga0 gip (by decide)))).symm
  have m4317 := (m4274).trans (fR_kept (oH4305 _ (G_ne ga0 gip (by decide)))).symm
  have m4318 := (m4275).trans (fR_kept (oH4305 _ (G_ne ga1 gip (by decide)))).symm
  have m4319 := (m4276).trans (fR_kept (oH4305 _ (G_ne ga1 gip (by decide)))).symm
  have m4320 := (m4277).trans (fR_kept (oH4305 _ (G_ne ga1 gip (by decide)))).symm
  have m4321 := (m4278).trans (fR_kept (oH4305 _ (G_ne ga1 gip (by decide)))).symm
  have m4322 := (m4279).trans (fR_kept (oH4305 _ (G_ne ga1 gip (by decide)))).symm
  have m4323 := (m4280).trans (fR_kept (oH4305 _ (G_ne ga1 gip (by decide)))).symm
  have m4324 := (m4281).trans (fR_kept (oH4305 _ (G_ne ga1 gip (by decide)))).symm
  have m4325 := (m4282).trans (fR_kept (oH4305 _ (G_ne ga1 gip (by decide)))).symm
  have m4326 := (m4283).trans (fR_kept (oH4305 _ (G_ne ga1 gip (by decide)))).symm
  have m4327 := (m4284).trans (fR_kept (oH4305 _ (G_ne ga1 gip (by decide)))).symm
  have m4328 := (m4285).trans (fR_kept (oH4305 _ (G_ne ga1 gip (by decide)))).symm
  have m4329 := (m4286).trans (fR_kept (oH4305 _ (G_ne ga1 gip (by decide)))).symm
  have m4330 := (m4287).trans (fI_kept (oH4305 _ (G_ne ga1 gip (by decide)))).symm
  have m4331 := (m4288).trans (fI_kept (oH4305 _ (G_ne ga1 gip (by decide)))).symm
  have m4332 := (m4289).trans (fI_kept (oH4305 _ (G_ne ga1 gip (by decide)))).symm
  have m4333 := (m4290).trans (fI_kept (oH4305 _ (G_ne ga0 gip (by decide)))).symm
  have m4334 := (m4291).trans (fI_kept (oH4305 _ (G_ne ga0 gip (by decide)))).symm
  have m4335 := (m4292).trans (fI_kept (oH4305 _ (G_ne ga0 gip (by decide)))).symm
  have f4336 : ∀ q t : Nat, G q = some t → t ≠ 12 → t ≠ 14 → q ≠ a0 → q ≠ kp → q ≠ gp → q ≠ hp → q ≠ xp → q ≠ lp → q ≠ ap → q ≠ dp → q ≠ tp → q ≠ ip → q ≠ bp → H4305[q]? = s.heap[q]? := (fun q t hq h1 h2 n1 n2 n3 n4 n5 n6 n7 n8 n9 n10 n11 => (oH4305 _ n10).trans (f4293 q t hq h1 h2 n1 n2 n3 n4 n5 n6 n7 n8 n9 n10 n11))
  have f4337 : RFB K H4305 s.heap a0 := RFB.st f4294 (fun k hk => fR_kept (oH4305 _ (G_ne ga0 gip (by decide))))
  have f4338 : ∀ j : Nat, j < 16 → fI H4305 kp j = fI s.heap ku j := fun j hj => (fI_kept (oH4305 _ (G_ne gkp gip (by decide)))).trans (f4295 j hj)
  have f4339 : ∀ j : Nat, j < 16 → fI H4305 gp j = fI s.heap gu j := fun j hj => (fI_kept (oH4305 _ (G_ne ggp gip (by decide)))).trans (f4296 j hj)
  have f4340 : ∀ j : Nat, j < 16 → fI H4305 hp j = fI s.heap hu j := fun j hj => (fI_kept (oH4305 _ (G_ne ghp gip (by decide)))).trans (f4297 j hj)
  have f4341 : ∀ j : Nat, j < 16 → fI H4305 xp j = fI s.heap xu j := fun j hj => (fI_kept (oH4305 _ (G_ne gxp gip (by decide)))).trans (f4298 j hj)
  have f4342 : ∀ j : Nat, j < 3 → fI H4305 lp j = fI s.heap lu j := fun j hj => (fI_kept (oH4305 _ (G_ne glp gip (by decide)))).trans (f4299 j hj)
  have f4343 : ∀ j : Nat, j < 200 → fI H4305 ap j = fI s.heap au j := fun j hj => (fI_kept (oH4305 _ (G_ne gap gip (by decide)))).trans (f4300 j hj)
  have f4344 : ∀ j : Nat, j < 200 → fI H4305 dp j = fI s.heap du j := fun j hj => (fI_kept (oH4305 _ (G_ne gdp gip (by decide)))).trans (f4301 j hj)
  have f4345 : ∀ j : Nat, j < 12 → fI H4305 tp j = fI s.heap tu j := fun j hj => (fI_kept (oH4305 _ (G_ne gtp gip (by decide)))).trans (cp4302 j hj)
  have cp4346 : ∀ j : Nat, j < 12 → fI H4305 ip j = fI s.heap iu j := fun j hj => by have c00 : (0 : Int32).toNatClampNeg = 0 := rfl; have cnn : (12 : Int32).toNatClampNeg = 12 := rfl; have z := wH4305 j (by omega); rw [c00, Nat.zero_add] at z; exact z.trans (fI_kept (x_lt hT hSH4262.2.1 giu (by decide)))
  refine lv_iconst (v := 0) hx hb dX0_copyFrom_160 (by decide) ?_
  refine lv_istore_n (lv' := [(2, .int 0), (0, .ref a0), (1, .ref a1)]) hx hb dX0_copyFrom_161 rfl hl (by decide) rfl (fun ls4347 hl4348 => ?_)
  exact J162 ((12 - (0 : Int32).toInt).toNat + 1)  ls4347 H4305 locsH4305 (0) (szu) (pcu) (lbu) (lv_sub hl4348 [1, 2, 0] rfl) hTH4305 hSH4305 (by decide) (by have := i_rng szu; omega) (by have := i_rng pcu; omega) m4333 m4334 m4335 m4306 m4307 m4308 m4309 m4310 m4311 m4312 m4313 m4314 m4315 m4316 m4317 m4318 m4319 m4320 m4321 m4322 m4323 m4324 m4325 m4326 m4327 m4328 m4329 m4330 m4331 m4332 f4336 f4337 (by omega) (by omega) f4338 f4339 f4340 f4341 f4342 f4343 f4344 f4345 cp4346
