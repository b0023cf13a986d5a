set_option maxHeartbeats 4000000 in
set_option maxRecDepth 100000 in
theorem a_X8_copyFrom_nk (l : Launch) (K : KE) (G : Nat → Option Nat) (H : Heap) {a0 : Nat} {a1 : Nat} {nt : Nat} {lt : Nat} {kt : Nat} {no : Nat} {lo : Nat} {ko : Nat} (k1 : Int32) (k4 : Int32) (k5 : Int32) (k10 : Int32) (k13 : Int32) (k16 : Int32) (n1 : Int32) (n4 : Int32) (n5 : Int32) (n10 : Int32) (n13 : Int32) (n16 : Int32) (hT : TY K G H) (ga0 : G a0 = some 34) (ga1 : G a1 = some 0) (gnt : G nt = some 65) (ent : nt = fR H a0 (K.1.2 8 12)) (glt : G lt = some 66) (elt : lt = fR H a0 (K.1.2 8 14)) (gkt : G kt = some 67) (ekt : kt = fR H a0 (K.1.2 8 15)) (gno : G no = some 31) (eno : no = fR H a1 (K.1.2 8 12)) (glo : G lo = some 32) (elo : lo = fR H a1 (K.1.2 8 14)) (gko : G ko = some 33) (eko : ko = fR H a1 (K.1.2 8 15)) (ek1 : k1 = fI H a0 (K.1.2 8 1)) (ek4 : k4 = fI H a0 (K.1.2 8 4)) (ek5 : k5 = fI H a0 (K.1.2 8 5)) (ek10 : k10 = fI H a0 (K.1.2 8 10)) (ek13 : k13 = fI H a0 (K.1.2 8 13)) (ek16 : k16 = fI H a0 (K.1.2 8 16)) (en1 : n1 = fI H a1 (K.1.2 8 1)) (en4 : n4 = fI H a1 (K.1.2 8 4)) (en5 : n5 = fI H a1 (K.1.2 8 5)) (en10 : n10 = fI H a1 (K.1.2 8 10)) (en13 : n13 = fI H a1 (K.1.2 8 13)) (en16 : n16 = fI H a1 (K.1.2 8 16)) : MX l K yX8_copyFrom cX8_copyFrom 3 none 2 62 0 0 [.ref a0, .ref a1] H (AE G [34, 35, 36, 37, 38, 39, 40, 41, 42, 43, 44, 46, 48, 49, 50, 51, 52, 53, 54, 55, 56, 57, 58, 62, 63, 64, 65, 66, 67] H.size) (fun v H1 => ∃ (t0 : Int32) (t1 : Int32) (t2 : Int32) (t3 : Int32) (t4 : Int32) (t5 : Int32), v = none ∧ t0 = fI H1 a0 (K.1.2 8 1) ∧ t1 = fI H1 a0 (K.1.2 8 4) ∧ t2 = fI H1 a0 (K.1.2 8 5) ∧ t3 = fI H1 a0 (K.1.2 8 10) ∧ t4 = fI H1 a0 (K.1.2 8 13) ∧ t5 = fI H1 a0 (K.1.2 8 16) ∧ (t0.toInt = n1.toInt ∧ t1.toInt = n4.toInt ∧ t2.toInt = n5.toInt ∧ t3.toInt = n10.toInt ∧ t4.toInt = n13.toInt ∧ t5.toInt = n16.toInt) ∧ nt = fR H1 a0 (K.1.2 8 12) ∧ lt = fR H1 a0 (K.1.2 8 14) ∧ kt = fR H1 a0 (K.1.2 8 15) ∧ (∀ j : Nat, j < 8 → fI H1 nt j = fI H no j) ∧ (∀ j : Nat, j < 8 → fI H1 lt j = fI H lo j) ∧ (∀ j : Nat, j < 8 → fI H1 kt j = fI H ko j) ∧ TY K G H1) := by
  refine MX.of (by decide +kernel) (Nat.le_of_ble_eq_true rfl) ?_
  intro p e s m below meth c ls Q C hH hl hQ
  subst hH
  have C : CX p K s m _ meth c RX8 cX8_copyFrom 3 none "copyFrom" := C
  obtain ⟨hx, hb, hml, hown, hts, hKT, hr, hlocks, hnm⟩ := id C
  have hl : lv_has ls 3 [(0, .ref a0), (1, .ref a1)] := hl
  have hS : va_S (AE G [34, 35, 36, 37, 38, 39, 40, 41, 42, 43, 44, 46, 48, 49, 50, 51, 52, 53, 54, 55, 56, 57, 58, 62, 63, 64, 65, 66, 67] s.heap.size) s.heap s.heap [] := va_S.rf
  have n_0 : (0 : Int32).toInt = 0 := rfl
  have n_1 : (1 : Int32).toInt = 1 := rfl
  have n_2 : (2 : Int32).toInt = 2 := rfl
  have n_4 : (4 : Int32).toInt = 4 := rfl
  have n_8 : (8 : Int32).toInt = 8 := rfl
  have n_20 : (20 : Int32).toInt = 20 := rfl
  have bk1 := ty_fi (x := k1) (k := 1) ek1 hT ga0 rg_34 rfl
  have bk4 := ty_fi (x := k4) (k := 4) ek4 hT ga0 rg_34 rfl
  have bk5 := ty_fi (x := k5) (k := 5) ek5 hT ga0 rg_34 rfl
  have bk10 := ty_fi (x := k10) (k := 10) ek10 hT ga0 rg_34 rfl
  have bk13 := ty_fi (x := k13) (k := 13) ek13 hT ga0 rg_34 rfl
  have bk16 := ty_fi (x := k16) (k := 16) ek16 hT ga0 rg_34 rfl
  have bn1 := ty_fi (x := n1) (k := 1) en1 hT ga1 rg_0 rfl
  have bn4 := ty_fi (x := n4) (k := 4) en4 hT ga1 rg_0 rfl
  have bn5 := ty_fi (x := n5) (k := 5) en5 hT ga1 rg_0 rfl
  have bn10 := ty_fi (x := n10) (k := 10) en10 hT ga1 rg_0 rfl
  have bn13 := ty_fi (x := n13) (k := 13) en13 hT ga1 rg_0 rfl
  have bn16 := ty_fi (x := n16) (k := 16) en16 hT ga1 rg_0 rfl
  have f0_sno : ∀ j : Nat, fI s.heap no j = fI s.heap no j := fun _ => rfl
  have f0_slo : ∀ j : Nat, fI s.heap lo j = fI s.heap lo j := fun _ => rfl
  have f0_sko : ∀ j : Nat, fI s.heap ko j = fI s.heap ko j := fun _ => rfl
  have J2 : ∀ (nf : Nat) (ls3519 : Array Slot) (H3518 : Heap) (locsH3518 : List Loc) (x3521 : Int32) (x3522 : Int32) (x3523 : Int32) (x3524 : Int32) (x3525 : Int32) (x3526 : Int32) (x3527 : Int32), lv_has ls3519 3 [(0, .ref a0), (1, .ref a1), (2, .int x3521)] → TY K G H3518 → va_S (AE G [34, 35, 36, 37, 38, 39, 40, 41, 42, 43, 44, 46, 48, 49, 50, 51, 52, 53, 54, 55, 56, 57, 58, 62, 63, 64, 65, 66, 67] s.heap.size) s.heap H3518 locsH3518 → (0 ≤ x3521.toInt ∧ x3521.toInt ≤ 10) → (0 ≤ x3522.toInt ∧ x3522.toInt ≤ 10) → (0 ≤ x3523.toInt ∧ x3523.toInt ≤ 1) → (0 ≤ x3525.toInt ∧ x3525.toInt ≤ 20) → (0 ≤ x3526.toInt ∧ x3526.toInt ≤ 8) → (0 ≤ x3527.toInt ∧ x3527.toInt ≤ 8) → (x3522 = fI H3518 a0 (K.1.2 8 1)) → (x3523 = fI H3518 a0 (K.1.2 8 4)) → (x3524 = fI H3518 a0 (K.1.2 8 5)) → (x3525 = fI H3518 a0 (K.1.2 8 10)) → (x3526 = fI H3518 a0 (K.1.2 8 13)) → (x3527 = fI H3518 a0 (K.1.2 8 16)) → (nt = fR H3518 a0 (K.1.2 8 12)) → (lt = fR H3518 a0 (K.1.2 8 14)) → (kt = fR H3518 a0 (K.1.2 8 15)) → (no = fR H3518 a1 (K.1.2 8 12)) → (lo = fR H3518 a1 (K.1.2 8 14)) → (ko = fR H3518 a1 (K.1.2 8 15)) → (n1 = fI H3518 a1 (K.1.2 8 1)) → (n4 = fI H3518 a1 (K.1.2 8 4)) → (n5 = fI H3518 a1 (K.1.2 8 5)) → (n10 = fI H3518 a1 (K.1.2 8 10)) → (n13 = fI H3518 a1 (K.1.2 8 13)) → (n16 = fI H3518 a1 (K.1.2 8 16)) → (∀ j : Nat, fI H3518 no j = fI s.heap no j) → (∀ j : Nat, fI H3518 lo j = fI s.heap lo j) → (∀ j : Nat, fI H3518 ko j = fI s.heap ko j) → (10 - x3521.toInt < (nf : Int)) → W p l e ({ frames := 2, cells := 0, slots := 0, locals := 62 } : Room) s m (([.ref a0, .ref a1] : List Value).toArray) below meth c H3518 locsH3518 0 0 Q (F0 m 2 ls3519 []) := by
    intro nf
    induction nf with
    | zero =>
      intro ls3519 H3518 locsH3518 x3521 x3522 x3523 x3524 x3525 x3526 x3527 hl3520 hTH3518 hSH3518 bx3521 bx3522 bx3523 bx3525 bx3526 bx3527 ex3522 ex3523 ex3524 ex3525 ex3526 ex3527 cy3528_0 cy3528_1 cy3528_2 cy3528_3 cy3528_4 cy3528_5 cy3528_6 cy3528_7 cy3528_8 cy3528_9 cy3528_10 cy3528_11 fy3528_sno fy3528_slo fy3528_sko hm2
      have rx3524 := i_rng x3524
      exfalso
      omega
    | succ nf ih2 =>
      intro ls3519 H3518 locsH3518 x3521 x3522 x3523 x3524 x3525 x3526 x3527 hl3520 hTH3518 hSH3518 bx3521 bx3522 bx3523 bx3525 bx3526 bx3527 ex3522 ex3523 ex3524 ex3525 ex3526 ex3527 cy3528_0 cy3528_1 cy3528_2 cy3528_3 cy3528_4 cy3528_5 cy3528_6 cy3528_7 cy3528_8 cy3528_9 cy3528_10 cy3528_11 fy3528_sno fy3528_slo fy3528_sko hm2
      have rx3524 := i_rng x3524
      have J41 : ∀ (nf : Nat) (ls3530 : Array Slot) (H3529 : Heap) (locsH3529 : List Loc) (x3532 : Int32) (x3533 : Int32) (x3534 : Int32) (x3535 : Int32) (x3536 : Int32) (x3537 : Int32) (x3538 : Int32), lv_has ls3530 3 [(0, .ref a0), (1, .ref a1), (2, .int x3532)] → TY K G H3529 → va_S (AE G [34, 35, 36, 37, 38, 39, 40, 41, 42, 43, 44, 46, 48, 49, 50, 51, 52, 53, 54, 55, 56, 57, 58, 62, 63, 64, 65, 66, 67] s.heap.size) s.heap H3529 locsH3529 → (0 ≤ x3532.toInt ∧ x3532.toInt ≤ 2) → (0 ≤ x3533.toInt ∧ x3533.toInt ≤ 10) → (0 ≤ x3534.toInt ∧ x3534.toInt ≤ 1) → (0 ≤ x3536.toInt ∧ x3536.toInt ≤ 20) → (0 ≤ x3537.toInt ∧ x3537.toInt ≤ 8) → (0 ≤ x3538.toInt ∧ x3538.toInt ≤ 8) → (x3533 = fI H3529 a0 (K.1.2 8 1)) → (x3534 = fI H3529 a0 (K.1.2 8 4)) → (x3535 = fI H3529 a0 (K.1.2 8 5)) → (x3536 = fI H3529 a0 (K.1.2 8 10)) → (x3537 = fI H3529 a0 (K.1.2 8 13)) → (x3538 = fI H3529 a0 (K.1.2 8 16)) → (nt = fR H3529 a0 (K.1.2 8 12)) → (lt = fR H3529 a0 (K.1.2 8 14)) → (kt = fR H3529 a0 (K.1.2 8 15)) → (no = fR H3529 a1 (K.1.2 8 12)) → (lo = fR H3529 a1 (K.1.2 8 14)) → (ko = fR H3529 a1 (K.1.2 8 15)) → (n1 = fI H3529 a1 (K.1.2 8 1)) → (n4 = fI H3529 a1 (K.1.2 8 4)) → (n5 = fI H3529 a1 (K.1.2 8 5)) → (n10 = fI H3529 a1 (K.1.2 8 10)) → (n13 = fI H3529 a1 (K.1.2 8 13)) → (n16 = fI H3529 a1 (K.1.2 8 16)) → (∀ j : Nat, fI H3529 no j = fI s.heap no j) → (∀ j : Nat, fI H3529 lo j = fI s.heap lo j) → (∀ j : Nat, fI H3529 ko j = fI s.heap ko j) → (2 - x3532.toInt < (nf : Int)) → (x3533.toInt = n1.toInt) → W p l e ({ frames := 2, cells := 0, slots := 0, locals := 62 } : Room) s m (([.ref a0, .ref a1] : List Value).toArray) below meth c H3529 locsH3529 0 0 Q (F0 m 41 ls3530 []) := by
        intro nf
        induction nf with
        | zero =>
          intro ls3530 H3529 locsH3529 x3532 x3533 x3534 x3535 x3536 x3537 x3538 hl3531 hTH3529 hSH3529 bx3532 bx3533 bx3534 bx3536 bx3537 bx3538 ex3533 ex3534 ex3535 ex3536 ex3537 ex3538 cy3539_0 cy3539_1 cy3539_2 cy3539_3 cy3539_4 cy3539_5 cy3539_6 cy3539_7 cy3539_8 cy3539_9 cy3539_10 cy3539_11 fy3539_sno fy3539_slo fy3539_sko hm41 iv41
          have rx3535 := i_rng x3535
          exfalso
          omega
        | succ nf ih41 =>
          intro ls3530 H3529 locsH3529 x3532 x3533 x3534 x3535 x3536 x3537 x3538 hl3531 hTH3529 hSH3529 bx3532 bx3533 bx3534 bx3536 bx3537 bx3538 ex3533 ex3534 ex3535 ex3536 ex3537 ex3538 cy3539_0 cy3539_1 cy3539_2 cy3539_3 cy3539_4 cy3539_5 cy3539_6 cy3539_7 cy3539_8 cy3539_9 cy3539_10 cy3539_11 fy3539_sno fy3539_slo fy3539_sko hm41 iv41
          have rx3535 := i_rng x3535
          have J69 : ∀ (nf : Nat) (ls3541 : Array Slot) (H3540 : Heap) (locsH3540 : List Loc) (x3543 : Int32) (x3544 : Int32) (x3545 : Int32) (x3546 : Int32) (x3547 : Int32) (x3548 : Int32) (x3549 : Int32), lv_has ls3541 3 [(0, .ref a0), (1, .ref a1), (2, .int x3543)] → TY K G H3540 → va_S (AE G [34, 35, 36, 37, 38, 39, 40, 41, 42, 43, 44, 46, 48, 49, 50, 51, 52, 53, 54, 55, 56, 57, 58, 62, 63, 64, 65, 66, 67] s.heap.size) s.heap H3540 locsH3540 → (0 ≤ x3543.toInt ∧ x3543.toInt ≤ 4) → (0 ≤ x3544.toInt ∧ x3544.toInt ≤ 10) → (0 ≤ x3545.toInt ∧ x3545.toInt ≤ 1) → (0 ≤ x3547.toInt ∧ x3547.toInt ≤ 20) → (0 ≤ x3548.toInt ∧ x3548.toInt ≤ 8) → (0 ≤ x3549.toInt ∧ x3549.toInt ≤ 8) → (x3544 = fI H3540 a0 (K.1.2 8 1)) → (x3545 = fI H3540 a0 (K.1.2 8 4)) → (x3546 = fI H3540 a0 (K.1.2 8 5)) → (x3547 = fI H3540 a0 (K.1.2 8 10)) → (x3548 = fI H3540 a0 (K.1.2 8 13)) → (x3549 = fI H3540 a0 (K.1.2 8 16)) → (nt = fR H3540 a0 (K.1.2 8 12)) → (lt = fR H3540 a0 (K.1.2 8 14)) → (kt = fR H3540 a0 (K.1.2 8 15)) → (no = fR H3540 a1 (K.1.2 8 12)) → (lo = fR H3540 a1 (K.1.2 8 14)) → (ko = fR H3540 a1 (K.1.2 8 15)) → (n1 = fI H3540 a1 (K.1.2 8 1)) → (n4 = fI H3540 a1 (K.1.2 8 4)) → (n5 = fI H3540 a1 (K.1.2 8 5)) → (n10 = fI H3540 a1 (K.1.2 8 10)) → (n13 = fI H3540 a1 (K.1.2 8 13)) → (n16 = fI H3540 a1 (K.1.2 8 16)) → (∀ j : Nat, fI H3540 no j = fI s.heap no j) → (∀ j : Nat, fI H3540 lo j = fI s.heap lo j) → (∀ j : Nat, fI H3540 ko j = fI s.heap ko j) → (4 - x3543.toInt < (nf : Int)) → (x3544.toInt = n1.toInt) → W p l e ({ frames := 2, cells := 0, slots := 0, locals := 62 } : Room) s m (([.ref a0, .ref a1] : List Value).toArray) below meth c H3540 locsH3540 0 0 Q (F0 m 69 ls3541 []) := by
            intro nf
            induction nf with
            | zero =>
              intro ls3541 H3540 locsH3540 x3543 x3544 x3545 x3546 x3547 x3548 x3549 hl3542 hTH3540 hSH3540 bx3543 bx3544 bx3545 bx3547 bx3548 bx3549 ex3544 ex3545 ex3546 ex3547 ex3548 ex3549 cy3550_0 cy3550_1 cy3550_2 cy3550_3 cy3550_4 cy3550_5 cy3550_6 cy3550_7 cy3550_8 cy3550_9 cy3550_10 cy3550_11 fy3550_sno fy3550_slo fy3550_sko hm69 iv69
              have rx3546 := i_rng x3546
              exfalso
              omega
            | succ nf ih69 =>
              intro ls3541 H3540 locsH3540 x3543 x3544 x3545 x3546 x3547 x3548 x3549 hl3542 hTH3540 hSH3540 bx3543 bx3544 bx3545 bx3547 bx3548 bx3549 ex3544 ex3545 ex3546 ex3547 ex3548 ex3549 cy3550_0 cy3550_1 cy3550_2 cy3550_3 cy3550_4 cy3550_5 cy3550_6 cy3550_7 cy3550_8 cy3550_9 cy3550_10 cy3550_11 fy3550_sno fy3550_slo fy3550_sko hm69 iv69
              have rx3546 := i_rng x3546
              refine lv_iload_n hx hb dX8_copyFrom_69 rfl (lv_at hl3542 2 rfl) ?_
              refine lv_iconst (v := 4) hx hb dX8_copyFrom_70 (by decide) ?_
              refine lv_icmp_ge (tgt := 95) hx hb dX8_copyFrom_71 (by decide) (fun c3551 => ?_) (fun c3551 => ?_)
              · have k3552 := i_le c3551
                refine lv_aload_n hx hb dX8_copyFrom_95 rfl (lv_at hl3542 0 rfl) ?_
                refine lv_aload_n hx hb dX8_copyFrom_96 rfl (lv_at hl3542 1 rfl) ?_
                refine x_gi C hTH3540 (ci := 8) (k := 4) rfl inX8 (by decide) wF_X8_54 ga1 rg_0 rfl dX8_copyFrom_97 (fun x3553 ex3553 bx3553 => ?_)
                have ux3553 : n4 = x3553 := (cy3550_7).trans ex3553.symm
                subst ux3553
                refine x_put C hTH3540 hSH3540 (ci := 8) (k := 4) (v := .int n4) (ty0 := tyX8) rfl inX8 tyX8_ok nmX8 (by decide) rfl wF_X8_54 ga0 rg_34 rfl rfl (okI (by have := i_rng n4; omega) (by have := i_rng n4; omega)) rfl rfl (AE_in ga0 (by decide)) dX8_copyFrom_100 (fun H3554 locsH3554 hTH3554 hSH3554 wH3554 => ?_)
                have f3555 : ∀ j : Nat, fI H3554 no j = fI s.heap no j := fun j => (Wr.neI wH3554 (Or.inl (G_ne gno ga0 (by decide)))).trans (fy3550_sno j)
                have f3556 : ∀ j : Nat, fI H3554 lo j = fI s.heap lo j := fun j => (Wr.neI wH3554 (Or.inl (G_ne glo ga0 (by decide)))).trans (fy3550_slo j)
                have f3557 : ∀ j : Nat, fI H3554 ko j = fI s.heap ko j := fun j => (Wr.neI wH3554 (Or.inl (G_ne gko ga0 (by decide)))).trans (fy3550_sko j)
                have m3558 := ex3544.trans (Wr.neI wH3554 (Or.inr (x_apart hKT hts inX8 tyX8 tyX8_ok nmX8 rfl 1 4 (by decide) (by decide) (by decide)))).symm
                have m3560 := ex3546.trans (Wr.neI wH3554 (Or.inr (x_apart hKT hts inX8 tyX8 tyX8_ok nmX8 rfl 5 4 (by decide) (by decide) (by decide)))).symm
                have m3561 := ex3547.trans (Wr.neI wH3554 (Or.inr (x_apart hKT hts inX8 tyX8 tyX8_ok nmX8 rfl 10 4 (by decide) (by decide) (by decide)))).symm
                have m3562 := ex3548.trans (Wr.neI wH3554 (Or.inr (x_apart hKT hts inX8 tyX8 tyX8_ok nmX8 rfl 13 4 (by decide) (by decide) (by decide)))).symm
                have m3563 := ex3549.trans (Wr.neI wH3554 (Or.inr (x_apart hKT hts inX8 tyX8 tyX8_ok nmX8 rfl 16 4 (by decide) (by decide) (by decide)))).symm
                have m3564 := cy3550_0.trans (Wr.neR wH3554 (Or.inr (x_apart hKT hts inX8 tyX8 tyX8_ok nmX8 rfl 12 4 (by decide) (by decide) (by decide)))).symm
                have m3565 := cy3550_1.trans (Wr.neR wH3554 (Or.inr (x_apart hKT hts inX8 tyX8 tyX8_ok nmX8 rfl 14 4 (by decide) (by decide) (by decide)))).symm
                have m3566 := cy3550_2.trans (Wr.neR wH3554 (Or.inr (x_apart hKT hts inX8 tyX8 tyX8_ok nmX8 rfl 15 4 (by decide) (by decide) (by decide)))).symm
                have m3567 := cy3550_3.trans (Wr.neR wH3554 (Or.inl (G_ne ga1 ga0 (by decide)))).symm
                have m3568 := cy3550_4.trans (Wr.neR wH3554 (Or.inl (G_ne ga1 ga0 (by decide)))).symm
                have m3569 := cy3550_5.trans (Wr.neR wH3554 (Or.inl (G_ne ga1 ga0 (by decide)))).symm
                have m3570 := cy3550_6.trans (Wr.neI wH3554 (Or.inl (G_ne ga1 ga0 (by decide)))).symm
                have m3571 := cy3550_7.trans (Wr.neI wH3554 (Or.inl (G_ne ga1 ga0 (by decide)))).symm
                have m3572 := cy3550_8.trans (Wr.neI wH3554 (Or.inl (G_ne ga1 ga0 (by decide)))).symm
                have m3573 := cy3550_9.trans (Wr.neI wH3554 (Or.inl (G_ne ga1 ga0 (by decide)))).symm
                have m3574 := cy3550_10.trans (Wr.neI wH3554 (Or.inl (G_ne ga1 ga0 (by decide)))).symm
                have m3575 := cy3550_11.trans (Wr.neI wH3554 (Or.inl (G_ne ga1 ga0 (by decide)))).symm
                have m3576 := Wr.I wH3554
                have m3576 := m3576.symm
                refine lv_aload_n hx hb dX8_copyFrom_103 rfl (lv_at hl3542 0 rfl) ?_
                refine lv_aload_n hx hb dX8_copyFrom_104 rfl (lv_at hl3542 1 rfl) ?_
                refine x_gi C hTH3554 (ci := 8) (k := 5) rfl inX8 (by decide) wF_X8_26 ga1 rg_0 rfl dX8_copyFrom_105 (fun x3577 ex3577 bx3577 => ?_)
                have ux3577 : n5 = x3577 := (m3572).trans ex3577.symm
                subst ux3577
                refine x_put C hTH3554 hSH3554 (ci := 8) (k := 5) (v := .int n5) (ty0 := tyX8) rfl inX8 tyX8_ok nmX8 (by decide) rfl wF_X8_26 ga0 rg_34 rfl rfl (okI (by have := i_rng n5; omega) (by have := i_rng n5; omega)) rfl rfl (AE_in ga0 (by decide)) dX8_copyFrom_108 (fun H3578 locsH3578 hTH3578 hSH3578 wH3578 => ?_)
                have f3579 : ∀ j : Nat, fI H3578 no j = fI s.heap no j := fun j => (Wr.neI wH3578 (Or.inl (G_ne gno ga0 (by decide)))).trans (f3555 j)
                have f3580 : ∀ j : Nat, fI H3578 lo j = fI s.heap lo j := fun j => (Wr.neI wH3578 (Or.inl (G_ne glo ga0 (by decide)))).trans (f3556 j)
                have f3581 : ∀ j : Nat, fI H3578 ko j = fI s.heap ko j := fun j => (Wr.neI wH3578 (Or.inl (G_ne gko ga0 (by decide)))).trans (f3557 j)
                have m3582 := m3558.trans (Wr.neI wH3578 (Or.inr (x_apart hKT hts inX8 tyX8 tyX8_ok nmX8 rfl 1 5 (by decide) (by decide) (by decide)))).symm
                have m3584 := m3561.trans (Wr.neI wH3578 (Or.inr (x_apart hKT hts inX8 tyX8 tyX8_ok nmX8 rfl 10 5 (by decide) (by decide) (by decide)))).symm
                have m3585 := m3562.trans (Wr.neI wH3578 (Or.inr (x_apart hKT hts inX8 tyX8 tyX8_ok nmX8 rfl 13 5 (by decide) (by decide) (by decide)))).symm
                have m3586 := m3563.trans (Wr.neI wH3578 (Or.inr (x_apart hKT hts inX8 tyX8 tyX8_ok nmX8 rfl 16 5 (by decide) (by decide) (by decide)))).symm
                have m3587 := m3564.trans (Wr.neR wH3578 (Or.inr (x_apart hKT hts inX8 tyX8 tyX8_ok nmX8 rfl 12 5 (by decide) (by decide) (by decide)))).symm
                have m3588 := m3565.trans (Wr.neR wH3578 (Or.inr (x_apart hKT hts inX8 tyX8 tyX8_ok nmX8 rfl 14 5 (by decide) (by decide) (by decide)))).symm
                have m3589 := m3566.trans (Wr.neR wH3578 (Or.inr (x_apart hKT hts inX8 tyX8 tyX8_ok nmX8 rfl 15 5 (by decide) (by decide) (by decide)))).symm
                have m3590 := m3567.trans (Wr.neR wH3578 (Or.inl (G_ne ga1 ga0 (by decide)))).symm
                have m3591 := m3568.trans (Wr.neR wH3578 (Or.inl (G_ne ga1 ga0 (by decide)))).symm
                have m3592 := m3569.trans (Wr.neR wH3578 (Or.inl (G_ne ga1 ga0 (by decide)))).symm
                have m3593 := m3570.trans (Wr.neI wH3578 (Or.inl (G_ne ga1 ga0 (by decide)))).symm
                have m3594 := m3571.trans (Wr.neI wH3578 (Or.inl (G_ne ga1 ga0 (by decide)))).symm
                have m3595 := m3572.trans (Wr.neI wH3578 (Or.inl (G_ne ga1 ga0 (by decide)))).symm
                have m3596 := m3573.trans (Wr.neI wH3578 (Or.inl (G_ne ga1 ga0 (by decide)))).symm
                have m3597 := m3574.trans (Wr.neI wH3578 (Or.inl (G_ne ga1 ga0 (by decide)))).symm
                have m3598 := m3575.trans (Wr.neI wH3578 (Or.inl (G_ne ga1 ga0 (by decide)))).symm
                have m3599 := m3576.trans (Wr.neI wH3578 (Or.inr (x_apart hKT hts inX8 tyX8 tyX8_ok nmX8 rfl 4 5 (by decide) (by decide) (by decide)))).symm
                have m3600 := Wr.I wH3578
                have m3600 := m3600.symm
                refine lv_aload_n hx hb dX8_copyFrom_111 rfl (lv_at hl3542 0 rfl) ?_
                refine lv_aload_n hx hb dX8_copyFrom_112 rfl (lv_at hl3542 1 rfl) ?_
                refine x_gi C hTH3578 (ci := 8) (k := 6) rfl inX8 (by decide) wF_X8_67 ga1 rg_0 rfl dX8_copyFrom_113 (fun x3601 ex3601 bx3601 => ?_)
                refine x_put C hTH3578 hSH3578 (ci := 8) (k := 6) (v := .int x3601) (ty0 := tyX8) rfl inX8 tyX8_ok nmX8 (by decide) rfl wF_X8_67 ga0 rg_34 rfl rfl (okI (by have := i_rng x3601; omega) (by have := i_rng x3601; omega)) rfl rfl (AE_in ga0 (by decide)) dX8_copyFrom_116 (fun H3602 locsH3602 hTH3602 hSH3602 wH3602 => ?_)
                have f3603 : ∀ j : Nat, fI H3602 no j = fI s.heap no j := fun j => (Wr.neI wH3602 (Or.inl (G_ne gno ga0 (by decide)))).trans (f3579 j)
                have f3604 : ∀ j : Nat, fI H3602 lo j = fI s.heap lo j := fun j => (Wr.neI wH3602 (Or.inl (G_ne glo ga0 (by decide)))).trans (f3580 j)
                have f3605 : ∀ j : Nat, fI H3602 ko j = fI s.heap ko j := fun j => (Wr.neI wH3602 (Or.inl (G_ne gko ga0 (by decide)))).trans (f3581 j)
                have m3606 := m3582.trans (Wr.neI wH3602 (Or.inr (x_apart hKT hts inX8 tyX8 tyX8_ok nmX8 rfl 1 6 (by decide) (by decide) (by decide)))).symm
                have m3607 := m3584.trans (Wr.neI wH3602 (Or.inr (x_apart hKT hts inX8 tyX8 tyX8_ok nmX8 rfl 10 6 (by decide) (by decide) (by decide)))).symm
                have m3608 := m3585.trans (Wr.neI wH3602 (Or.inr (x_apart hKT hts inX8 tyX8 tyX8_ok nmX8 rfl 13 6 (by decide) (by decide) (by decide)))).symm
                have m3609 := m3586.trans (Wr.neI wH3602 (Or.inr (x_apart hKT hts inX8 tyX8 tyX8_ok nmX8 rfl 16 6 (by decide) (by decide) (by decide)))).symm
                have m3610 := m3587.trans (Wr.neR wH3602 (Or.inr (x_apart hKT hts inX8 tyX8 tyX8_ok nmX8 rfl 12 6 (by decide) (by decide) (by decide)))).symm
                have m3611 := m3588.trans (Wr.neR wH3602 (Or.inr (x_apart hKT hts inX8 tyX8 tyX8_ok nmX8 rfl 14 6 (by decide) (by decide) (by decide)))).symm
                have m3612 := m3589.trans (Wr.neR wH3602 (Or.inr (x_apart hKT hts inX8 tyX8 tyX8_ok nmX8 rfl 15 6 (by decide) (by decide) (by decide)))).symm
                have m3613 := m3590.trans (Wr.neR wH3602 (Or.inl (G_ne ga1 ga0 (by decide)))).symm
                have m3614 := m3591.trans (Wr.neR wH3602 (Or.inl (G_ne ga1 ga0 (by decide)))).symm
                have m3615 := m3592.trans (Wr.neR wH3602 (Or.inl (G_ne ga1 ga0 (by decide)))).symm
                have m3616 := m3593.trans (Wr.neI wH3602 (Or.inl (G_ne ga1 ga0 (by decide)))).symm
                have m3617 := m3594.trans (Wr.neI wH3602 (Or.inl (G_ne ga1 ga0 (by decide)))).symm
                have m3618 := m3595.trans (Wr.neI wH3602 (Or.inl (G_ne ga1 ga0 (by decide)))).symm
                have m3619 := m3596.trans (Wr.neI wH3602 (Or.inl (G_ne ga1 ga0 (by decide)))).symm
                have m3620 := m3597.trans (Wr.neI wH3602 (Or.inl (G_ne ga1 ga0 (by decide)))).symm
                have m3621 := m3598.trans (Wr.neI wH3602 (Or.inl (G_ne ga1 ga0 (by decide)))).symm
                have m3622 := m3599.trans (Wr.neI wH3602 (Or.inr (x_apart hKT hts inX8 tyX8 tyX8_ok nmX8 rfl 4 6 (by decide) (by decide) (by decide)))).symm
                have m3623 := m3600.trans (Wr.neI wH3602 (Or.inr (x_apart hKT hts inX8 tyX8 tyX8_ok nmX8 rfl 5 6 (by decide) (by decide) (by decide)))).symm
                have m3624 := ex3601.trans (Wr.neI wH3602 (Or.inl (G_ne ga1 ga0 (by decide)))).symm
                have m3625 := Wr.I wH3602
                have m3625 := m3625.symm
                refine lv_aload_n hx hb dX8_copyFrom_119 rfl (lv_at hl3542 0 rfl) ?_
                refine lv_aload_n hx hb dX8_copyFrom_120 rfl (lv_at hl3542 1 rfl) ?_
                refine x_gi C hTH3602 (ci := 8) (k := 7) rfl inX8 (by decide) wF_X8_30 ga1 rg_0 rfl dX8_copyFrom_121 (fun x3626 ex3626 bx3626 => ?_)
                refine x_put C hTH3602 hSH3602 (ci := 8) (k := 7) (v := .int x3626) (ty0 := tyX8) rfl inX8 tyX8_ok nmX8 (by decide) rfl wF_X8_30 ga0 rg_34 rfl rfl (okI (by have := i_rng x3626; omega) (by have := i_rng x3626; omega)) rfl rfl (AE_in ga0 (by decide)) dX8_copyFrom_124 (fun H3627 locsH3627 hTH3627 hSH3627 wH3627 => ?_)
                have f3628 : ∀ j : Nat, fI H3627 no j = fI s.heap no j := fun j => (Wr.neI wH3627 (Or.inl (G_ne gno ga0 (by decide)))).trans (f3603 j)
                have f3629 : ∀ j : Nat, fI H3627 lo j = fI s.heap lo j := fun j => (Wr.neI wH3627 (Or.inl (G_ne glo ga0 (by decide)))).trans (f3604 j)
                have f3630 : ∀ j : Nat, fI H3627 ko j = fI s.heap ko j := fun j => (Wr.neI wH3627 (Or.inl (G_ne gko ga0 (by decide)))).trans (f3605 j)
                have m3631 := m3606.trans (Wr.neI wH3627 (Or.inr (x_apart hKT hts inX8 tyX8 tyX8_ok nmX8 rfl 1 7 (by decide) (by decide) (by decide)))).symm
                have m3632 := m3607.trans (Wr.neI wH3627 (Or.inr (x_apart hKT hts inX8 tyX8 tyX8_ok nmX8 rfl 10 7 (by decide) (by decide) (by decide)))).symm
                have m3633 := m3608.trans (Wr.neI wH3627 (Or.inr (x_apart hKT hts inX8 tyX8 tyX8_ok nmX8 rfl 13 7 (by decide) (by decide) (by decide)))).symm
                have m3634 := m3609.trans (Wr.neI wH3627 (Or.inr (x_apart hKT hts inX8 tyX8 tyX8_ok nmX8 rfl 16 7 (by decide) (by decide) (by decide)))).symm
                have m3635 := m3610.trans (Wr.neR wH3627 (Or.inr (x_apart hKT hts inX8 tyX8 tyX8_ok nmX8 rfl 12 7 (by decide) (by decide) (by decide)))).symm
                have m3636 := m3611.trans (Wr.neR wH3627 (Or.inr (x_apart hKT hts inX8 tyX8 tyX8_ok nmX8 rfl 14 7 (by decide) (by decide) (by decide)))).symm
                have m3637 := m3612.trans (Wr.neR wH3627 (Or.inr (x_apart hKT hts inX8 tyX8 tyX8_ok nmX8 rfl 15 7 (by decide) (by decide) (by decide)))).symm
                have m3638 := m3613.trans (Wr.neR wH3627 (Or.inl (G_ne ga1 ga0 (by decide)))).symm
                have m3639 := m3614.trans (Wr.neR wH3627 (Or.inl (G_ne ga1 ga0 (by decide)))).symm
                have m3640 := m3615.trans (Wr.neR wH3627 (Or.inl (G_ne ga1 ga0 (by decide)))).symm
                have m3641 := m3616.trans (Wr.neI wH3627 (Or.inl (G_ne ga1 ga0 (by decide)))).symm
                have m3642 := m3617.trans (Wr.neI wH3627 (Or.inl (G_ne ga1 ga0 (by decide)))).symm
                have m3643 := m3618.trans (Wr.neI wH3627 (Or.inl (G_ne ga1 ga0 (by decide)))).symm
                have m3644 := m3619.trans (Wr.neI wH3627 (Or.inl (G_ne ga1 ga0 (by decide)))).symm
                have m3645 := m3620.trans (Wr.neI wH3627 (Or.inl (G_ne ga1 ga0 (by decide)))).symm
                have m3646 := m3621.trans (Wr.neI wH3627 (Or.inl (G_ne ga1 ga0 (by decide)))).symm
                have m3647 := m3622.trans (Wr.neI wH3627 (Or.inr (x_apart hKT hts inX8 tyX8 tyX8_ok nmX8 rfl 4 7 (by decide) (by decide) (by decide)))).symm
                have m3648 := m3623.trans (Wr.neI wH3627 (Or.inr (x_apart hKT hts inX8 tyX8 tyX8_ok nmX8 rfl 5 7 (by decide) (by decide) (by decide)))).symm
                have m3649 := m3624.trans (Wr.neI wH3627 (Or.inl (G_ne ga1 ga0 (by decide)))).symm
                have m3650 := m3625.trans (Wr.neI wH3627 (Or.inr (x_apart hKT hts inX8 tyX8 tyX8_ok nmX8 rfl 6 7 (by decide) (by decide) (by decide)))).symm
                have m3651 := ex3626.trans (Wr.neI wH3627 (Or.inl (G_ne ga1 ga0 (by decide)))).symm
                have m3652 := Wr.I wH3627
                have m3652 := m3652.symm
                refine lv_aload_n hx hb dX8_copyFrom_127 rfl (lv_at hl3542 1 rfl) ?_
                refine x_gr C hTH3627 (ci := 8) (k := 8) rfl inX8 (by decide) wF_X8_33 ga1 rg_0 rfl dX8_copyFrom_128 (fun q3653 eq3653 gq3653 => ?_)
                refine lv_iconst (v := 0) hx hb dX8_copyFrom_131 (by decide) ?_
                refine lv_aload_n hx hb dX8_copyFrom_132 rfl (lv_at hl3542 0 rfl) ?_
                refine x_gr C hTH3627 (ci := 8) (k := 8) rfl inX8 (by decide) wF_X8_33 ga0 rg_34 rfl dX8_copyFrom_133 (fun q3654 eq3654 gq3654 => ?_)
                refine lv_iconst (v := 0) hx hb dX8_copyFrom_136 (by decide) ?_
                refine lv_bipush (v := 20) hx hb dX8_copyFrom_137 (by decide) ?_
                refine x_copy C hTH3627 hSH3627 wM_X8_70 wNT_arraycopy wST_arraycopy wIN_J10 gq3653 gq3654 rg_28 rg_62 (by decide) (by omega) (by omega) (by omega) (by show _ ≤ ((20 : Nat) : Int); omega) (by show _ ≤ ((20 : Nat) : Int); omega) (AE_in gq3654 (by decide)) hl3542.1 (by decide) dX8_copyFrom_139 (fun H3655 locsH3655 hTH3655 hSH3655 zH3655 oH3655 vH3655 wH3655 => ?_)
                have m3656 := (m3631).trans (fI_kept (oH3655 _ (G_ne ga0 gq3654 (by decide)))).symm
                have m3657 := (m3632).trans (fI_kept (oH3655 _ (G_ne ga0 gq3654 (by decide)))).symm
                have m3658 := (m3633).trans (fI_kept (oH3655 _ (G_ne ga0 gq3654 (by decide)))).symm
                have m3659 := (m3634).trans (fI_kept (oH3655 _ (G_ne ga0 gq3654 (by decide)))).symm
                have m3660 := (m3635).trans (fR_kept (oH3655 _ (G_ne ga0 gq3654 (by decide)))).symm
                have m3661 := (m3636).trans (fR_kept (oH3655 _ (G_ne ga0 gq3654 (by decide)))).symm
                have m3662 := (m3637).trans (fR_kept (oH3655 _ (G_ne ga0 gq3654 (by decide)))).symm
                have m3663 := (m3638).trans (fR_kept (oH3655 _ (G_ne ga1 gq3654 (by decide)))).symm
                have m3664 := (m3639).trans (fR_kept (oH3655 _ (G_ne ga1 gq3654 (by decide)))).symm
                have m3665 := (m3640).trans (fR_kept (oH3655 _ (G_ne ga1 gq3654 (by decide)))).symm
                have m3666 := (m3641).trans (fI_kept (oH3655 _ (G_ne ga1 gq3654 (by decide)))).symm
                have m3667 := (m3642).trans (fI_kept (oH3655 _ (G_ne ga1 gq3654 (by decide)))).symm
                have m3668 := (m3643).trans (fI_kept (oH3655 _ (G_ne ga1 gq3654 (by decide)))).symm
                have m3669 := (m3644).trans (fI_kept (oH3655 _ (G_ne ga1 gq3654 (by decide)))).symm
                have m3670 := (m3645).trans (fI_kept (oH3655 _ (G_ne ga1 gq3654 (by decide)))).symm
                have m3671 := (m3646).trans (fI_kept (oH3655 _ (G_ne ga1 gq3654 (by decide)))).symm
                have m3672 := (m3647).trans (fI_kept (oH3655 _ (G_ne ga0 gq3654 (by decide)))).symm
                have m3673 := (m3648).trans (fI_kept (oH3655 _ (G_ne ga0 gq3654 (by decide)))).symm
                have m3674 := (m3649).trans (fI_kept (oH3655 _ (G_ne ga1 gq3654 (by decide)))).symm
                have m3675 := (m3650).trans (fI_kept (oH3655 _ (G_ne ga0 gq3654 (by decide)))).symm
                have m3676 := (m3651).trans (fI_kept (oH3655 _ (G_ne ga1 gq3654 (by decide)))).symm
                have m3677 := (m3652).trans (fI_kept (oH3655 _ (G_ne ga0 gq3654 (by decide)))).symm
                have m3678 := (eq3653).trans (fR_kept (oH3655 _ (G_ne ga1 gq3654 (by decide)))).symm
                have m3679 := (eq3654).trans (fR_kept (oH3655 _ (G_ne ga0 gq3654 (by decide)))).symm
                have f3680 : ∀ j : Nat, fI H3655 no j = fI s.heap no j := fun j => (fI_kept (oH3655 _ (G_ne gno gq3654 (by decide)))).trans (f3628 j)
                have f3681 : ∀ j : Nat, fI H3655 lo j = fI s.heap lo j := fun j => (fI_kept (oH3655 _ (G_ne glo gq3654 (by decide)))).trans (f3629 j)
                have f3682 : ∀ j : Nat, fI H3655 ko j = fI s.heap ko j := fun j => (fI_kept (oH3655 _ (G_ne gko gq3654 (by decide)))).trans (f3630 j)
                refine lv_aload_n hx hb dX8_copyFrom_142 rfl (lv_at hl3542 1 rfl) ?_
                refine x_gr C hTH3655 (ci := 8) (k := 9) rfl inX8 (by decide) wF_X8_37 ga1 rg_0 rfl dX8_copyFrom_143 (fun q3683 eq3683 gq3683 => ?_)
                refine lv_iconst (v := 0) hx hb dX8_copyFrom_146 (by decide) ?_
                refine lv_aload_n hx hb dX8_copyFrom_147 rfl (lv_at hl3542 0 rfl) ?_
                refine x_gr C hTH3655 (ci := 8) (k := 9) rfl inX8 (by decide) wF_X8_37 ga0 rg_34 rfl dX8_copyFrom_148 (fun q3684 eq3684 gq3684 => ?_)
                refine lv_iconst (v := 0) hx hb dX8_copyFrom_151 (by decide) ?_
                refine lv_bipush (v := 20) hx hb dX8_copyFrom_152 (by decide) ?_
                refine x_copy C hTH3655 hSH3655 wM_X8_70 wNT_arraycopy wST_arraycopy wIN_J10 gq3683 gq3684 rg_29 rg_63 (by decide) (by omega) (by omega) (by omega) (by show _ ≤ ((20 : Nat) : Int); omega) (by show _ ≤ ((20 : Nat) : Int); omega) (AE_in gq3684 (by decide)) hl3542.1 (by decide) dX8_copyFrom_154 (fun H3685 locsH3685 hTH3685 hSH3685 zH3685 oH3685 vH3685 wH3685 => ?_)
                have m3686 := (m3656).trans (fI_kept (oH3685 _ (G_ne ga0 gq3684 (by decide)))).symm
                have m3687 := (m3657).trans (fI_kept (oH3685 _ (G_ne ga0 gq3684 (by decide)))).symm
                have m3688 := (m3658).trans (fI_kept (oH3685 _ (G_ne ga0 gq3684 (by decide)))).symm
                have m3689 := (m3659).trans (fI_kept (oH3685 _ (G_ne ga0 gq3684 (by decide)))).symm
                have m3690 := (m3660).trans (fR_kept (oH3685 _ (G_ne ga0 gq3684 (by decide)))).symm
                have m3691 := (m3661).trans (fR_kept (oH3685 _ (G_ne ga0 gq3684 (by decide)))).symm
                have m3692 := (m3662).trans (fR_kept (oH3685 _ (G_ne ga0 gq3684 (by decide)))).symm
                have m3693 := (m3663).trans (fR_kept (oH3685 _ (G_ne ga1 gq3684 (by decide)))).symm
                have m3694 := (m3664).trans (fR_kept (oH3685 _ (G_ne ga1 gq3684 (by decide)))).symm
                have m3695 := (m3665).trans (fR_kept (oH3685 _ (G_ne ga1 gq3684 (by decide)))).symm
                have m3696 := (m3666).trans (fI_kept (oH3685 _ (G_ne ga1 gq3684 (by decide)))).symm
                have m3697 := (m3667).trans (fI_kept (oH3685 _ (G_ne ga1 gq3684 (by decide)))).symm
                have m3698 := (m3668).trans (fI_kept (oH3685 _ (G_ne ga1 gq3684 (by decide)))).symm
                have m3699 := (m3669).trans (fI_kept (oH3685 _ (G_ne ga1 gq3684 (by decide)))).symm
                have m3700 := (m3670).trans (fI_kept (oH3685 _ (G_ne ga1 gq3684 (by decide)))).symm
                have m3701 := (m3671).trans (fI_kept (oH3685 _ (G_ne ga1 gq3684 (by decide)))).symm
                have m3702 := (m3672).trans (fI_kept (oH3685 _ (G_ne ga0 gq3684 (by decide)))).symm
                have m3703 := (m3673).trans (fI_kept (oH3685 _ (G_ne ga0 gq3684 (by decide)))).symm
                have m3704 := (m3674).trans (fI_kept (oH3685 _ (G_ne ga1 gq3684 (by decide)))).symm
                have m3705 := (m3675).trans (fI_kept (oH3685 _ (G_ne ga0 gq3684 (by decide)))).symm
                have m3706 := (m3676).trans (fI_kept (oH3685 _ (G_ne ga1 gq3684 (by decide)))).symm
                have m3707 := (m3677).trans (fI_kept (oH3685 _ (G_ne ga0 gq3684 (by decide)))).symm
                have m3708 := (m3678).trans (fR_kept (oH3685 _ (G_ne ga1 gq3684 (by decide)))).symm
                have m3709 := (m3679).trans (fR_kept (oH3685 _ (G_ne ga0 gq3684 (by decide)))).symm
                have m3710 := (eq3683).trans (fR_kept (oH3685 _ (G_ne ga1 gq3684 (by decide)))).symm
                have m3711 := (eq3684).trans (fR_kept (oH3685 _ (G_ne ga0 gq3684 (by decide)))).symm
                have f3712 : ∀ j : Nat, fI H3685 no j = fI s.heap no j := fun j => (fI_kept (oH3685 _ (G_ne gno gq3684 (by decide)))).trans (f3680 j)
                have f3713 : ∀ j : Nat, fI H3685 lo j = fI s.heap lo j := fun j => (fI_kept (oH3685 _ (G_ne glo gq3684 (by decide)))).trans (f3681 j)
                have f3714 : ∀ j : Nat, fI H3685 ko j = fI s.heap ko j := fun j => (fI_kept (oH3685 _ (G_ne gko gq3684 (by decide)))).trans (f3682 j)
                refine lv_aload_n hx hb dX8_copyFrom_157 rfl (lv_at hl3542 0 rfl) ?_
                refine lv_aload_n hx hb dX8_copyFrom_158 rfl (lv_at hl3542 1 rfl) ?_
                refine x_gi C hTH3685 (ci := 8) (k := 10) rfl inX8 (by decide) wF_X8_76 ga1 rg_0 rfl dX8_copyFrom_159 (fun x3715 ex3715 bx3715 => ?_)
                have ux3715 : n10 = x3715 := (m3699).trans ex3715.symm
                subst ux3715
                refine x_put C hTH3685 hSH3685 (ci := 8) (k := 10) (v := .int n10) (ty0 := tyX8) rfl inX8 tyX8_ok nmX8 (by decide) rfl wF_X8_76 ga0 rg_34 rfl rfl (okI (by have := i_rng n10; omega) (by have := i_rng n10; omega)) rfl rfl (AE_in ga0 (by decide)) dX8_copyFrom_162 (fun H3716 locsH3716 hTH3716 hSH3716 wH3716 => ?_)
                have f3717 : ∀ j : Nat, fI H3716 no j = fI s.heap no j := fun j => (Wr.neI wH3716 (Or.inl (G_ne gno ga0 (by decide)))).trans (f3712 j)
                have f3718 : ∀ j : Nat, fI H3716 lo j = fI s.heap lo j := fun j => (Wr.neI wH3716 (Or.inl (G_ne glo ga0 (by decide)))).trans (f3713 j)
                have f3719 : ∀ j : Nat, fI H3716 ko j = fI s.heap ko j := fun j => (Wr.neI wH3716 (Or.inl (G_ne gko ga0 (by decide)))).trans (f3714 j)
                have m3720 := m3686.trans (Wr.neI wH3716 (Or.inr (x_apart hKT hts inX8 tyX8 tyX8_ok nmX8 rfl 1 10 (by decide) (by decide) (by decide)))).symm
                have m3722 := m3688.trans (Wr.neI wH3716 (Or.inr (x_apart hKT hts inX8 tyX8 tyX8_ok nmX8 rfl 13 10 (by decide) (by decide) (by decide)))).symm
                have m3723 := m3689.trans (Wr.neI wH3716 (Or.inr (x_apart hKT hts inX8 tyX8 tyX8_ok nmX8 rfl 16 10 (by decide) (by decide) (by decide)))).symm
                have m3724 := m3690.trans (Wr.neR wH3716 (Or.inr (x_apart hKT hts inX8 tyX8 tyX8_ok nmX8 rfl 12 10 (by decide) (by decide) (by decide)))).symm
                have m3725 := m3691.trans (Wr.neR wH3716 (Or.inr (x_apart hKT hts inX8 tyX8 tyX8_ok nmX8 rfl 14 10 (by decide) (by decide) (by decide)))).symm
                have m3726 := m3692.trans (Wr.neR wH3716 (Or.inr (x_apart hKT hts inX8 tyX8 tyX8_ok nmX8 rfl 15 10 (by decide) (by decide) (by decide)))).symm
                have m3727 := m3693.trans (Wr.neR wH3716 (Or.inl (G_ne ga1 ga0 (by decide)))).symm
                have m3728 := m3694.trans (Wr.neR wH3716 (Or.inl (G_ne ga1 ga0 (by decide)))).symm
                have m3729 := m3695.trans (Wr.neR wH3716 (Or.inl (G_ne ga1 ga0 (by decide)))).symm
                have m3730 := m3696.trans (Wr.neI wH3716 (Or.inl (G_ne ga1 ga0 (by decide)))).symm
                have m3731 := m3697.trans (Wr.neI wH3716 (Or.inl (G_ne ga1 ga0 (by decide)))).symm
                have m3732 := m3698.trans (Wr.neI wH3716 (Or.inl (G_ne ga1 ga0 (by decide)))).symm
                have m3733 := m3699.trans (Wr.neI wH3716 (Or.inl (G_ne ga1 ga0 (by decide)))).symm
                have m3734 := m3700.trans (Wr.neI wH3716 (Or.inl (G_ne ga1 ga0 (by decide)))).symm
                have m3735 := m3701.trans (Wr.neI wH3716 (Or.inl (G_ne ga1 ga0 (by decide)))).symm
                have m3736 := m3702.trans (Wr.neI wH3716 (Or.inr (x_apart hKT hts inX8 tyX8 tyX8_ok nmX8 rfl 4 10 (by decide) (by decide) (by decide)))).symm
                have m3737 := m3703.trans (Wr.neI wH3716 (Or.inr (x_apart hKT hts inX8 tyX8 tyX8_ok nmX8 rfl 5 10 (by decide) (by decide) (by decide)))).symm
                have m3738 := m3704.trans (Wr.neI wH3716 (Or.inl (G_ne ga1 ga0 (by decide)))).symm
                have m3739 := m3705.trans (Wr.neI wH3716 (Or.inr (x_apart hKT hts inX8 tyX8 tyX8_ok nmX8 rfl 6 10 (by decide) (by decide) (by decide)))).symm
                have m3740 := m3706.trans (Wr.neI wH3716 (Or.inl (G_ne ga1 ga0 (by decide)))).symm
                have m3741 := m3707.trans (Wr.neI wH3716 (Or.inr (x_apart hKT hts inX8 tyX8 tyX8_ok nmX8 rfl 7 10 (by decide) (by decide) (by decide)))).symm
                have m3742 := m3708.trans (Wr.neR wH3716 (Or.inl (G_ne ga1 ga0 (by decide)))).symm
                have m3743 := m3709.trans (Wr.neR wH3716 (Or.inr (x_apart hKT hts inX8 tyX8 tyX8_ok nmX8 rfl 8 10 (by decide) (by decide) (by decide)))).symm
                have m3744 := m3710.trans (Wr.neR wH3716 (Or.inl (G_ne ga1 ga0 (by decide)))).symm
                have m3745 := m3711.trans (Wr.neR wH3716 (Or.inr (x_apart hKT hts inX8 tyX8 tyX8_ok nmX8 rfl 9 10 (by decide) (by decide) (by decide)))).symm
                have m3746 := Wr.I wH3716
                have m3746 := m3746.symm
                refine lv_aload_n hx hb dX8_copyFrom_165 rfl (lv_at hl3542 1 rfl) ?_
                refine x_gr C hTH3716 (ci := 8) (k := 11) rfl inX8 (by decide) wF_X8_40 ga1 rg_0 rfl dX8_copyFrom_166 (fun q3747 eq3747 gq3747 => ?_)
                refine lv_iconst (v := 0) hx hb dX8_copyFrom_169 (by decide) ?_
                refine lv_aload_n hx hb dX8_copyFrom_170 rfl (lv_at hl3542 0 rfl) ?_
                refine x_gr C hTH3716 (ci := 8) (k := 11) rfl inX8 (by decide) wF_X8_40 ga0 rg_34 rfl dX8_copyFrom_171 (fun q3748 eq3748 gq3748 => ?_)
                refine lv_iconst (v := 0) hx hb dX8_copyFrom_174 (by decide) ?_
                refine lv_bipush (v := 8) hx hb dX8_copyFrom_175 (by decide) ?_
                refine x_copy C hTH3716 hSH3716 wM_X8_70 wNT_arraycopy wST_arraycopy wIN_J10 gq3747 gq3748 rg_30 rg_64 (by decide) (by omega) (by omega) (by omega) (by show _ ≤ ((8 : Nat) : Int); omega) (by show _ ≤ ((8 : Nat) : Int); omega) (AE_in gq3748 (by decide)) hl3542.1 (by decide) dX8_copyFrom_177 (fun H3749 locsH3749 hTH3749 hSH3749 zH3749 oH3749 vH3749 wH3749 => ?_)
                have m3750 := (m3720).trans (fI_kept (oH3749 _ (G_ne ga0 gq3748 (by decide)))).symm
                have m3751 := (m3722).trans (fI_kept (oH3749 _ (G_ne ga0 gq3748 (by decide)))).symm
                have m3752 := (m3723).trans (fI_kept (oH3749 _ (G_ne ga0 gq3748 (by decide)))).symm
                have m3753 := (m3724).trans (fR_kept (oH3749 _ (G_ne ga0 gq3748 (by decide)))).symm
                have m3754 := (m3725).trans (fR_kept (oH3749 _ (G_ne ga0 gq3748 (by decide)))).symm
                have m3755 := (m3726).trans (fR_kept (oH3749 _ (G_ne ga0 gq3748 (by decide)))).symm
                have m3756 := (m3727).trans (fR_kept (oH3749 _ (G_ne ga1 gq3748 (by decide)))).symm
                have m3757 := (m3728).trans (fR_kept (oH3749 _ (G_ne ga1 gq3748 (by decide)))).symm
                have m3758 := (m3729).trans (fR_kept (oH3749 _ (G_ne ga1 gq3748 (by decide)))).symm
                have m3759 := (m3730).trans (fI_kept (oH3749 _ (G_ne ga1 gq3748 (by decide)))).symm
                have m3760 := (m3731).trans (fI_kept (oH3749 _ (G_ne ga1 gq3748 (by decide)))).symm
                have m3761 := (m3732).trans (fI_kept (oH3749 _ (G_ne ga1 gq3748 (by decide)))).symm
                have m3762 := (m3733).trans (fI_kept (oH3749 _ (G_ne ga1 gq3748 (by decide)))).symm
                have m3763 := (m3734).trans (fI_kept (oH3749 _ (G_ne ga1 gq3748 (by decide)))).symm
                have m3764 := (m3735).trans (fI_kept (oH3749 _ (G_ne ga1 gq3748 (by decide)))).symm
                have m3765 := (m3736).trans (fI_kept (oH3749 _ (G_ne ga0 gq3748 (by decide)))).symm
                have m3766 := (m3737).trans (fI_kept (oH3749 _ (G_ne ga0 gq3748 (by decide)))).symm
                have m3767 := (m3738).trans (fI_kept (oH3749 _ (G_ne ga1 gq3748 (by decide)))).symm
                have m3768 := (m3739).trans (fI_kept (oH3749 _ (G_ne ga0 gq3748 (by decide)))).symm
                have m3769 := (m3740).trans (fI_kept (oH3749 _ (G_ne ga1 gq3748 (by decide)))).symm
                have m3770 := (m3741).trans (fI_kept (oH3749 _ (G_ne ga0 gq3748 (by decide)))).symm
                have m3771 := (m3742).trans (fR_kept (oH3749 _ (G_ne ga1 gq3748 (by decide)))).symm
                have m3772 := (m3743).trans (fR_kept (oH3749 _ (G_ne ga0 gq3748 (by decide)))).symm
                have m3773 := (m3744).trans (fR_kept (oH3749 _ (G_ne ga1 gq3748 (by decide)))).symm
                have m3774 := (m3745).trans (fR_kept (oH3749 _ (G_ne ga0 gq3748 (by decide)))).symm
                have m3775 := (m3746).trans (fI_kept (oH3749 _ (G_ne ga0 gq3748 (by decide)))).symm
                have m3776 := (eq3747).trans (fR_kept (oH3749 _ (G_ne ga1 gq3748 (by decide)))).symm
                have m3777 := (eq3748).trans (fR_kept (oH3749 _ (G_ne ga0 gq3748 (by decide)))).symm
                have f3778 : ∀ j : Nat, fI H3749 no j = fI s.heap no j := fun j => (fI_kept (oH3749 _ (G_ne gno gq3748 (by decide)))).trans (f3717 j)
                have f3779 : ∀ j : Nat, fI H3749 lo j = fI s.heap lo j := fun j => (fI_kept (oH3749 _ (G_ne glo gq3748 (by decide)))).trans (f3718 j)
                have f3780 : ∀ j : Nat, fI H3749 ko j = fI s.heap ko j := fun j => (fI_kept (oH3749 _ (G_ne gko gq3748 (by decide)))).trans (f3719 j)
                refine lv_aload_n hx hb dX8_copyFrom_180 rfl (lv_at hl3542 1 rfl) ?_
                refine x_gr C hTH3749 (ci := 8) (k := 12) rfl inX8 (by decide) wF_X8_43 ga1 rg_0 rfl dX8_copyFrom_181 (fun q3781 eq3781 gq3781 => ?_)
                have uq3781 : no = q3781 := (m3756).trans eq3781.symm
                subst uq3781
                refine lv_iconst (v := 0) hx hb dX8_copyFrom_184 (by decide) ?_
                refine lv_aload_n hx hb dX8_copyFrom_185 rfl (lv_at hl3542 0 rfl) ?_
                refine x_gr C hTH3749 (ci := 8) (k := 12) rfl inX8 (by decide) wF_X8_43 ga0 rg_34 rfl dX8_copyFrom_186 (fun q3782 eq3782 gq3782 => ?_)
                have uq3782 : nt = q3782 := (m3753).trans eq3782.symm
                subst uq3782
                refine lv_iconst (v := 0) hx hb dX8_copyFrom_189 (by decide) ?_
                refine lv_bipush (v := 8) hx hb dX8_copyFrom_190 (by decide) ?_
                refine x_copy C hTH3749 hSH3749 wM_X8_70 wNT_arraycopy wST_arraycopy wIN_J10 gno gnt rg_31 rg_65 (by decide) (by omega) (by omega) (by omega) (by show _ ≤ ((8 : Nat) : Int); omega) (by show _ ≤ ((8 : Nat) : Int); omega) (AE_in gnt (by decide)) hl3542.1 (by decide) dX8_copyFrom_192 (fun H3783 locsH3783 hTH3783 hSH3783 zH3783 oH3783 vH3783 wH3783 => ?_)
                have m3784 := (m3750).trans (fI_kept (oH3783 _ (G_ne ga0 gnt (by decide)))).symm
                have m3785 := (m3751).trans (fI_kept (oH3783 _ (G_ne ga0 gnt (by decide)))).symm
                have m3786 := (m3752).trans (fI_kept (oH3783 _ (G_ne ga0 gnt (by decide)))).symm
                have m3787 := (m3753).trans (fR_kept (oH3783 _ (G_ne ga0 gnt (by decide)))).symm
                have m3788 := (m3754).trans (fR_kept (oH3783 _ (G_ne ga0 gnt (by decide)))).symm
                have m3789 := (m3755).trans (fR_kept (oH3783 _ (G_ne ga0 gnt (by decide)))).symm
                have m3790 := (m3756).trans (fR_kept (oH3783 _ (G_ne ga1 gnt (by decide)))).symm
                have m3791 := (m3757).trans (fR_kept (oH3783 _ (G_ne ga1 gnt (by decide)))).symm
                have m3792 := (m3758).trans (fR_kept (oH3783 _ (G_ne ga1 gnt (by decide)))).symm
                have m3793 := (m3759).trans (fI_kept (oH3783 _ (G_ne ga1 gnt (by decide)))).symm
                have m3794 := (m3760).trans (fI_kept (oH3783 _ (G_ne ga1 gnt (by decide)))).symm
                have m3795 := (m3761).trans (fI_kept (oH3783 _ (G_ne ga1 gnt (by decide)))).symm
                have m3796 := (m3762).trans (fI_kept (oH3783 _ (G_ne ga1 gnt (by decide)))).symm
                have m3797 := (m3763).trans (fI_kept (oH3783 _ (G_ne ga1 gnt (by decide)))).symm
                have m3798 := (m3764).trans (fI_kept (oH3783 _ (G_ne ga1 gnt (by decide)))).symm
                have m3799 := (m3765).trans (fI_kept (oH3783 _ (G_ne ga0 gnt (by decide)))).symm
                have m3800 := (m3766).trans (fI_kept (oH3783 _ (G_ne ga0 gnt (by decide)))).symm
                have m3801 := (m3767).trans (fI_kept (oH3783 _ (G_ne ga1 gnt (by decide)))).symm
                have m3802 := (m3768).trans (fI_kept (oH3783 _ (G_ne ga0 gnt (by decide)))).symm
                have m3803 := (m3769).trans (fI_kept (oH3783 _ (G_ne ga1 gnt (by decide)))).symm
                have m3804 := (m3770).trans (fI_kept (oH3783 _ (G_ne ga0 gnt (by decide)))).symm
                have m3805 := (m3771).trans (fR_kept (oH3783 _ (G_ne ga1 gnt (by decide)))).symm
                have m3806 := (m3772).trans (fR_kept (oH3783 _ (G_ne ga0 gnt (by decide)))).symm
                have m3807 := (m3773).trans (fR_kept (oH3783 _ (G_ne ga1 gnt (by decide)))).symm
                have m3808 := (m3774).trans (fR_kept (oH3783 _ (G_ne ga0 gnt (by decide)))).symm
                have m3809 := (m3775).trans (fI_kept (oH3783 _ (G_ne ga0 gnt (by decide)))).symm
                have m3810 := (m3776).trans (fR_kept (oH3783 _ (G_ne ga1 gnt (by decide)))).symm
                have m3811 := (m3777).trans (fR_kept (oH3783 _ (G_ne ga0 gnt (by decide)))).symm
                have f3812 : ∀ j : Nat, fI H3783 no j = fI s.heap no j := fun j => (fI_kept (oH3783 _ (G_ne gno gnt (by decide)))).trans (f3778 j)
                have f3813 : ∀ j : Nat, fI H3783 lo j = fI s.heap lo j := fun j => (fI_kept (oH3783 _ (G_ne glo gnt (by decide)))).trans (f3779 j)
                have f3814 : ∀ j : Nat, fI H3783 ko j = fI s.heap ko j := fun j => (fI_kept (oH3783 _ (G_ne gko gnt (by decide)))).trans (f3780 j)
                have cp3815 : ∀ j : Nat, j < 8 → fI H3783 nt j = fI s.heap no j := fun j hj => by have c00 : (0 : Int32).toNatClampNeg = 0 := rfl; have c8 : (8 : Int32).toInt = 8 := rfl; have z := wH3783 j (by omega); rw [c00, Nat.zero_add] at z; exact z.trans (f3778 j)
                refine lv_aload_n hx hb dX8_copyFrom_195 rfl (lv_at hl3542 0 rfl) ?_
                refine lv_aload_n hx hb dX8_copyFrom_196 rfl (lv_at hl3542 1 rfl) ?_
                refine x_gi C hTH3783 (ci := 8) (k := 13) rfl inX8 (by decide) wF_X8_79 ga1 rg_0 rfl dX8_copyFrom_197 (fun x3816 ex3816 bx3816 => ?_)
                have ux3816 : n13 = x3816 := (m3797).trans ex3816.symm
                subst ux3816
                refine x_put C hTH3783 hSH3783 (ci := 8) (k := 13) (v := .int n13) (ty0 := tyX8) rfl inX8 tyX8_ok nmX8 (by decide) rfl wF_X8_79 ga0 rg_34 rfl rfl (okI (by have := i_rng n13; omega) (by have := i_rng n13; omega)) rfl rfl (AE_in ga0 (by decide)) dX8_copyFrom_200 (fun H3817 locsH3817 hTH3817 hSH3817 wH3817 => ?_)
                have f3818 : ∀ j : Nat, fI H3817 no j = fI s.heap no j := fun j => (Wr.neI wH3817 (Or.inl (G_ne gno ga0 (by decide)))).trans (f3812 j)
                have f3819 : ∀ j : Nat, fI H3817 lo j = fI s.heap lo j := fun j => (Wr.neI wH3817 (Or.inl (G_ne glo ga0 (by decide)))).trans (f3813 j)
                have f3820 : ∀ j : Nat, fI H3817 ko j = fI s.heap ko j := fun j => (Wr.neI wH3817 (Or.inl (G_ne gko ga0 (by decide)))).trans (f3814 j)
                have f3821 : ∀ j : Nat, j < 8 → fI H3817 nt j = fI s.heap no j := fun j hj => (fI_kept (wH3817.off (G_ne gnt ga0 (by decide)))).trans (cp3815 j hj)
                have m3822 := m3784.trans (Wr.neI wH3817 (Or.inr (x_apart hKT hts inX8 tyX8 tyX8_ok nmX8 rfl 1 13 (by decide) (by decide) (by decide)))).symm
                have m3824 := m3786.trans (Wr.neI wH3817 (Or.inr (x_apart hKT hts inX8 tyX8 tyX8_ok nmX8 rfl 16 13 (by decide) (by decide) (by decide)))).symm
                have m3825 := m3787.trans (Wr.neR wH3817 (Or.inr (x_apart hKT hts inX8 tyX8 tyX8_ok nmX8 rfl 12 13 (by decide) (by decide) (by decide)))).symm
                have m3826 := m3788.trans (Wr.neR wH3817 (Or.inr (x_apart hKT hts inX8 tyX8 tyX8_ok nmX8 rfl 14 13 (by decide) (by decide) (by decide)))).symm
                have m3827 := m3789.trans (Wr.neR wH3817 (Or.inr (x_apart hKT hts inX8 tyX8 tyX8_ok nmX8 rfl 15 13 (by decide) (by decide) (by decide)))).symm
                have m3828 := m3790.trans (Wr.neR wH3817 (Or.inl (G_ne ga1 ga0 (by decide)))).symm
                have m3829 := m3791.trans (Wr.neR wH3817 (Or.inl (G_ne ga1 ga0 (by decide)))).symm
                have m3830 := m3792.trans (Wr.neR wH3817 (Or.inl (G_ne ga1 ga0 (by decide)))).symm
                have m3831 := m3793.trans (Wr.neI wH3817 (Or.inl (G_ne ga1 ga0 (by decide)))).symm
                have m3832 := m3794.trans (Wr.neI wH3817 (Or.inl (G_ne ga1 ga0 (by decide)))).symm
                have m3833 := m3795.trans (Wr.neI wH3817 (Or.inl (G_ne ga1 ga0 (by decide)))).symm
                have m3834 := m3796.trans (Wr.neI wH3817 (Or.inl (G_ne ga1 ga0 (by decide)))).symm
                have m3835 := m3797.trans (Wr.neI wH3817 (Or.inl (G_ne ga1 ga0 (by decide)))).symm
                have m3836 := m3798.trans (Wr.neI wH3817 (Or.inl (G_ne ga1 ga0 (by decide)))).symm
                have m3837 := m3799.trans (Wr.neI wH3817 (Or.inr (x_apart hKT hts inX8 tyX8 tyX8_ok nmX8 rfl 4 13 (by decide) (by decide) (by decide)))).symm
                have m3838 := m3800.trans (Wr.neI wH3817 (Or.inr (x_apart hKT hts inX8 tyX8 tyX8_ok nmX8 rfl 5 13 (by decide) (by decide) (by decide)))).symm
                have m3839 := m3801.trans (Wr.neI wH3817 (Or.inl (G_ne ga1 ga0 (by decide)))).symm
                have m3840 := m3802.trans (Wr.neI wH3817 (Or.inr (x_apart hKT hts inX8 tyX8 tyX8_ok nmX8 rfl 6 13 (by decide) (by decide) (by decide)))).symm
                have m3841 := m3803.trans (Wr.neI wH3817 (Or.inl (G_ne ga1 ga0 (by decide)))).symm
                have m3842 := m3804.trans (Wr.neI wH3817 (Or.inr (x_apart hKT hts inX8 tyX8 tyX8_ok nmX8 rfl 7 13 (by decide) (by decide) (by decide)))).symm
                have m3843 := m3805.trans (Wr.neR wH3817 (Or.inl (G_ne ga1 ga0 (by decide)))).symm
                have m3844 := m3806.trans (Wr.neR wH3817 (Or.inr (x_apart hKT hts inX8 tyX8 tyX8_ok nmX8 rfl 8 13 (by decide) (by decide) (by decide)))).symm
                have m3845 := m3807.trans (Wr.neR wH3817 (Or.inl (G_ne ga1 ga0 (by decide)))).symm
                have m3846 := m3808.trans (Wr.neR wH3817 (Or.inr (x_apart hKT hts inX8 tyX8 tyX8_ok nmX8 rfl 9 13 (by decide) (by decide) (by decide)))).symm
                have m3847 := m3809.trans (Wr.neI wH3817 (Or.inr (x_apart hKT hts inX8 tyX8 tyX8_ok nmX8 rfl 10 13 (by decide) (by decide) (by decide)))).symm
                have m3848 := m3810.trans (Wr.neR wH3817 (Or.inl (G_ne ga1 ga0 (by decide)))).symm
                have m3849 := m3811.trans (Wr.neR wH3817 (Or.inr (x_apart hKT hts inX8 tyX8 tyX8_ok nmX8 rfl 11 13 (by decide) (by decide) (by decide)))).symm
                have m3850 := Wr.I wH3817
                have m3850 := m3850.symm
                refine lv_aload_n hx hb dX8_copyFrom_203 rfl (lv_at hl3542 1 rfl) ?_
                refine x_gr C hTH3817 (ci := 8) (k := 14) rfl inX8 (by decide) wF_X8_46 ga1 rg_0 rfl dX8_copyFrom_204 (fun q3851 eq3851 gq3851 => ?_)
                have uq3851 : lo = q3851 := (m3829).trans eq3851.symm
                subst uq3851
                refine lv_iconst (v := 0) hx hb dX8_copyFrom_207 (by decide) ?_
                refine lv_aload_n hx hb dX8_copyFrom_208 rfl (lv_at hl3542 0 rfl) ?_
                refine x_gr C hTH3817 (ci := 8) (k := 14) rfl inX8 (by decide) wF_X8_46 ga0 rg_34 rfl dX8_copyFrom_209 (fun q3852 eq3852 gq3852 => ?_)
                have uq3852 : lt = q3852 := (m3826).trans eq3852.symm
                subst uq3852
                refine lv_iconst (v := 0) hx hb dX8_copyFrom_212 (by decide) ?_
                refine lv_bipush (v := 8) hx hb dX8_copyFrom_213 (by decide) ?_
                refine x_copy C hTH3817 hSH3817 wM_X8_70 wNT_arraycopy wST_arraycopy wIN_J10 glo glt rg_32 rg_66 (by decide) (by omega) (by omega) (by omega) (by show _ ≤ ((8 : Nat) : Int); omega) (by show _ ≤ ((8 : Nat) : Int); omega) (AE_in glt (by decide)) hl3542.1 (by decide) dX8_copyFrom_215 (fun H3853 locsH3853 hTH3853 hSH3853 zH3853 oH3853 vH3853 wH3853 => ?_)
                have m3854 := (m3822).trans (fI_kept (oH3853 _ (G_ne ga0 glt (by decide)))).symm
                have m3855 := (m3824).trans (fI_kept (oH3853 _ (G_ne ga0 glt (by decide)))).symm
                have m3856 := (m3825).trans (fR_kept (oH3853 _ (G_ne ga0 glt (by decide)))).symm
                have m3857 := (m3826).trans (fR_kept (oH3853 _ (G_ne ga0 glt (by decide)))).symm
                have m3858 := (m3827).trans (fR_kept (oH3853 _ (G_ne ga0 glt (by decide)))).symm
                have m3859 := (m3828).trans (fR_kept (oH3853 _ (G_ne ga1 glt (by decide)))).symm
                have m3860 := (m3829).trans (fR_kept (oH3853 _ (G_ne ga1 glt (by decide)))).symm
                have m3861 := (m3830).trans (fR_kept (oH3853 _ (G_ne ga1 glt (by decide)))).symm
                have m3862 := (m3831).trans (fI_kept (oH3853 _ (G_ne ga1 glt (by decide)))).symm
                have m3863 := (m3832).trans (fI_kept (oH3853 _ (G_ne ga1 glt (by decide)))).symm
                have m3864 := (m3833).trans (fI_kept (oH3853 _ (G_ne ga1 glt (by decide)))).symm
                have m3865 := (m3834).trans (fI_kept (oH3853 _ (G_ne ga1 glt (by decide)))).symm
                have m3866 := (m3835).trans (fI_kept (oH3853 _ (G_ne ga1 glt (by decide)))).symm
                have m3867 := (m3836).trans (fI_kept (oH3853 _ (G_ne ga1 glt (by decide)))).symm
                have m3868 := (m3837).trans (fI_kept (oH3853 _ (G_ne ga0 glt (by decide)))).symm
                have m3869 := (m3838).trans (fI_kept (oH3853 _ (G_ne ga0 glt (by decide)))).symm
                have m3870 := (m3839).trans (fI_kept (oH3853 _ (G_ne ga1 glt (by decide)))).symm
                have m3871 := (m3840).trans (fI_kept (oH3853 _ (G_ne ga0 glt (by decide)))).symm
                have m3872 := (m3841).trans (fI_kept (oH3853 _ (G_ne ga1 glt (by decide)))).symm
                have m3873 := (m3842).trans (fI_kept (oH3853 _ (G_ne ga0 glt (by decide)))).symm
                have m3874 := (m3843).trans (fR_kept (oH3853 _ (G_ne ga1 glt (by decide)))).symm
                have m3875 := (m3844).trans (fR_kept (oH3853 _ (G_ne ga0 glt (by decide)))).symm
                have m3876 := (m3845).trans (fR_kept (oH3853 _ (G_ne ga1 glt (by decide)))).symm
                have m3877 := (m3846).trans (fR_kept (oH3853 _ (G_ne ga0 glt (by decide)))).symm
                have m3878 := (m3847).trans (fI_kept (oH3853 _ (G_ne ga0 glt (by decide)))).symm
                have m3879 := (m3848).trans (fR_kept (oH3853 _ (G_ne ga1 glt (by decide)))).symm
                have m3880 := (m3849).trans (fR_kept (oH3853 _ (G_ne ga0 glt (by decide)))).symm
                have m3881 := (m3850).trans (fI_kept (oH3853 _ (G_ne ga0 glt (by decide)))).symm
                have f3882 : ∀ j : Nat, fI H3853 no j = fI s.heap no j := fun j => (fI_kept (oH3853 _ (G_ne gno glt (by decide)))).trans (f3818 j)
                have f3883 : ∀ j : Nat, fI H3853 lo j = fI s.heap lo j := fun j => (fI_kept (oH3853 _ (G_ne glo glt (by decide)))).trans (f3819 j)
                have f3884 : ∀ j : Nat, fI H3853 ko j = fI s.heap ko j := fun j => (fI_kept (oH3853 _ (G_ne gko glt (by decide)))).trans (f3820 j)
                have f3885 : ∀ j : Nat, j < 8 → fI H3853 nt j = fI s.heap no j := fun j hj => (fI_kept (oH3853 _ (G_ne gnt glt (by decide)))).trans (f3821 j hj)
                have cp3886 : ∀ j : Nat, j < 8 → fI H3853 lt j = fI s.heap lo j := fun j hj => by have c00 : (0 : Int32).toNatClampNeg = 0 := rfl; have c8 : (8 : Int32).toInt = 8 := rfl; have z := wH3853 j (by omega); rw [c00, Nat.zero_add] at z; exact z.trans (f3819 j)
                refine lv_aload_n hx hb dX8_copyFrom_218 rfl (lv_at hl3542 1 rfl) ?_
                refine x_gr C hTH3853 (ci := 8) (k := 15) rfl inX8 (by decide) wF_X8_49 ga1 rg_0 rfl dX8_copyFrom_219 (fun q3887 eq3887 gq3887 => ?_)
                have uq3887 : ko = q3887 := (m3861).trans eq3887.symm
                subst uq3887
                refine lv_iconst (v := 0) hx hb dX8_copyFrom_222 (by decide) ?_
                refine lv_aload_n hx hb dX8_copyFrom_223 rfl (lv_at hl3542 0 rfl) ?_
                refine x_gr C hTH3853 (ci := 8) (k := 15) rfl inX8 (by decide) wF_X8_49 ga0 rg_34 rfl dX8_copyFrom_224 (fun q3888 eq3888 gq3888 => ?_)
                have uq3888 : kt = q3888 := (m3858).trans eq3888.symm
                subst uq3888
                refine lv_iconst (v := 0) hx hb dX8_copyFrom_227 (by decide) ?_
                refine lv_bipush (v := 8) hx hb dX8_copyFrom_228 (by decide) ?_
                refine x_copy C hTH3853 hSH3853 wM_X8_70 wNT_arraycopy wST_arraycopy wIN_J10 gko gkt rg_33 rg_67 (by decide) (by omega) (by omega) (by omega) (by show _ ≤ ((8 : Nat) : Int); omega) (by show _ ≤ ((8 : Nat) : Int); omega) (AE_in gkt (by decide)) hl3542.1 (by decide) dX8_copyFrom_230 (fun H3889 locsH3889 hTH3889 hSH3889 zH3889 oH3889 vH3889 wH3889 => ?_)
                have m3890 := (m3854).trans (fI_kept (oH3889 _ (G_ne ga0 gkt (by decide)))).symm
                have m3891 := (m3855).trans (fI_kept (oH3889 _ (G_ne ga0 gkt (by decide)))).symm
                have m3892 := (m3856).trans (fR_kept (oH3889 _ (G_ne ga0 gkt (by decide)))).symm
                have m3893 := (m3857).trans (fR_kept (oH3889 _ (G_ne ga0 gkt (by decide)))).symm
                have m3894 := (m3858).trans (fR_kept (oH3889 _ (G_ne ga0 gkt (by decide)))).symm
                have m3895 := (m3859).trans (fR_kept (oH3889 _ (G_ne ga1 gkt (by decide)))).symm
                have m3896 := (m3860).trans (fR_kept (oH3889 _ (G_ne ga1 gkt (by decide)))).symm
                have m3897 := (m3861).trans (fR_kept (oH3889 _ (G_ne ga1 gkt (by decide)))).symm
                have m3898 := (m3862).trans (fI_kept (oH3889 _ (G_ne ga1 gkt (by decide)))).symm
                have m3899 := (m3863).trans (fI_kept (oH3889 _ (G_ne ga1 gkt (by decide)))).symm
                have m3900 := (m3864).trans (fI_kept (oH3889 _ (G_ne ga1 gkt (by decide)))).symm
                have m3901 := (m3865).trans (fI_kept (oH3889 _ (G_ne ga1 gkt (by decide)))).symm
                have m3902 := (m3866).trans (fI_kept (oH3889 _ (G_ne ga1 gkt (by decide)))).symm
                have m3903 := (m3867).trans (fI_kept (oH3889 _ (G_ne ga1 gkt (by decide)))).symm
                have m3904 := (m3868).trans (fI_kept (oH3889 _ (G_ne ga0 gkt (by decide)))).symm
                have m3905 := (m3869).trans (fI_kept (oH3889 _ (G_ne ga0 gkt (by decide)))).symm
                have m3906 := (m3870).trans (fI_kept (oH3889 _ (G_ne ga1 gkt (by decide)))).symm
                have m3907 := (m3871).trans (fI_kept (oH3889 _ (G_ne ga0 gkt (by decide)))).symm
                have m3908 := (m3872).trans (fI_kept (oH3889 _ (G_ne ga1 gkt (by decide)))).symm
                have m3909 := (m3873).trans (fI_kept (oH3889 _ (G_ne ga0 gkt (by decide)))).symm
                have m3910 := (m3874).trans (fR_kept (oH3889 _ (G_ne ga1 gkt (by decide)))).symm
                have m3911 := (m3875).trans (fR_kept (oH3889 _ (G_ne ga0 gkt (by decide)))).symm
                have m3912 := (m3876).trans (fR_kept (oH3889 _ (G_ne ga1 gkt (by decide)))).symm
                have m3913 := (m3877).trans (fR_kept (oH3889 _ (G_ne ga0 gkt (by decide)))).symm
                have m3914 := (m3878).trans (fI_kept (oH3889 _ (G_ne ga0 gkt (by decide)))).symm
                have m3915 := (m3879).trans (fR_kept (oH3889 _ (G_ne ga1 gkt (by decide)))).symm
                have m3916 := (m3880).trans (fR_kept (oH3889 _ (G_ne ga0 gkt (by decide)))).symm
                have m3917 := (m3881).trans (fI_kept (oH3889 _ (G_ne ga0 gkt (by decide)))).symm
                have f3918 : ∀ j : Nat, fI H3889 no j = fI s.heap no j := fun j => (fI_kept (oH3889 _ (G_ne gno gkt (by decide)))).trans (f3882 j)
                have f3919 : ∀ j : Nat, fI H3889 lo j = fI s.heap lo j := fun j => (fI_kept (oH3889 _ (G_ne glo gkt (by decide)))).trans (f3883 j)
                have f3920 : ∀ j : Nat, fI H3889 ko j = fI s.heap ko j := fun j => (fI_kept (oH3889 _ (G_ne gko gkt (by decide)))).trans (f3884 j)
                have f3921 : ∀ j : Nat, j < 8 → fI H3889 nt j = fI s.heap no j := fun j hj => (fI_kept (oH3889 _ (G_ne gnt gkt (by decide)))).trans (f3885 j hj)
                have f3922 : ∀ j : Nat, j < 8 → fI H3889 lt j = fI s.heap lo j := fun j hj => (fI_kept (oH3889 _ (G_ne glt gkt (by decide)))).trans (cp3886 j hj)
                have cp3923 : ∀ j : Nat, j < 8 → fI H3889 kt j = fI s.heap ko j := fun j hj => by have c00 : (0 : Int32).toNatClampNeg = 0 := rfl; have c8 : (8 : Int32).toInt = 8 := rfl; have z := wH3889 j (by omega); rw [c00, Nat.zero_add] at z; exact z.trans (f3884 j)
                refine lv_aload_n hx hb dX8_copyFrom_233 rfl (lv_at hl3542 0 rfl) ?_
                refine lv_aload_n hx hb dX8_copyFrom_234 rfl (lv_at hl3542 1 rfl) ?_
                refine x_gi C hTH3889 (ci := 8) (k := 16) rfl inX8 (by decide) wF_X8_82 ga1 rg_0 rfl dX8_copyFrom_235 (fun x3924 ex3924 bx3924 => ?_)
                have ux3924 : n16 = x3924 := (m3903).trans ex3924.symm
                subst ux3924
                refine x_put C hTH3889 hSH3889 (ci := 8) (k := 16) (v := .int n16) (ty0 := tyX8) rfl inX8 tyX8_ok nmX8 (by decide) rfl wF_X8_82 ga0 rg_34 rfl rfl (okI (by have := i_rng n16; omega) (by have := i_rng n16; omega)) rfl rfl (AE_in ga0 (by decide)) dX8_copyFrom_238 (fun H3925 locsH3925 hTH3925 hSH3925 wH3925 => ?_)
                have f3926 : ∀ j : Nat, fI H3925 no j = fI s.heap no j := fun j => (Wr.neI wH3925 (Or.inl (G_ne gno ga0 (by decide)))).trans (f3918 j)
                have f3927 : ∀ j : Nat, fI H3925 lo j = fI s.heap lo j := fun j => (Wr.neI wH3925 (Or.inl (G_ne glo ga0 (by decide)))).trans (f3919 j)
                have f3928 : ∀ j : Nat, fI H3925 ko j = fI s.heap ko j := fun j => (Wr.neI wH3925 (Or.inl (G_ne gko ga0 (by decide)))).trans (f3920 j)
                have f3929 : ∀ j : Nat, j < 8 → fI H3925 nt j = fI s.heap no j := fun j hj => (fI_kept (wH3925.off (G_ne gnt ga0 (by decide)))).trans (f3921 j hj)
                have f3930 : ∀ j : Nat, j < 8 → fI H3925 lt j = fI s.heap lo j := fun j hj => (fI_kept (wH3925.off (G_ne glt ga0 (by decide)))).trans (f3922 j hj)
                have f3931 : ∀ j : Nat, j < 8 → fI H3925 kt j = fI s.heap ko j := fun j hj => (fI_kept (wH3925.off (G_ne gkt ga0 (by decide)))).trans (cp3923 j hj)
                have m3932 := m3890.trans (Wr.neI wH3925 (Or.inr (x_apart hKT hts inX8 tyX8 tyX8_ok nmX8 rfl 1 16 (by decide) (by decide) (by decide)))).symm
                have m3934 := m3892.trans (Wr.neR wH3925 (Or.inr (x_apart hKT hts inX8 tyX8 tyX8_ok nmX8 rfl 12 16 (by decide) (by decide) (by decide)))).symm
                have m3935 := m3893.trans (Wr.neR wH3925 (Or.inr (x_apart hKT hts inX8 tyX8 tyX8_ok nmX8 rfl 14 16 (by decide) (by decide) (by decide)))).symm
                have m3936 := m3894.trans (Wr.neR wH3925 (Or.inr (x_apart hKT hts inX8 tyX8 tyX8_ok nmX8 rfl 15 16 (by decide) (by decide) (by decide)))).symm
                have m3937 := m3895.trans (Wr.neR wH3925 (Or.inl (G_ne ga1 ga0 (by decide)))).symm
                have m3938 := m3896.trans (Wr.neR wH3925 (Or.inl (G_ne ga1 ga0 (by decide)))).symm
                have m3939 := m3897.trans (Wr.neR wH3925 (Or.inl (G_ne ga1 ga0 (by decide)))).symm
                have m3940 := m3898.trans (Wr.neI wH3925 (Or.inl (G_ne ga1 ga0 (by decide)))).symm
                have m3941 := m3899.trans (Wr.neI wH3925 (Or.inl (G_ne ga1 ga0 (by decide)))).symm
                have m3942 := m3900.trans (Wr.neI wH3925 (Or.inl (G_ne ga1 ga0 (by decide)))).symm
                have m3943 := m3901.trans (Wr.neI wH3925 (Or.inl (G_ne ga1 ga0 (by decide)))).symm
                have m3944 := m3902.trans (Wr.neI wH3925 (Or.inl (G_ne ga1 ga0 (by decide)))).symm
                have m3945 := m3903.trans (Wr.neI wH3925 (Or.inl (G_ne ga1 ga0 (by decide)))).symm
                have m3946 := m3904.trans (Wr.neI wH3925 (Or.inr (x_apart hKT hts inX8 tyX8 tyX8_ok nmX8 rfl 4 16 (by decide) (by decide) (by decide)))).symm
                have m3947 := m3905.trans (Wr.neI wH3925 (Or.inr (x_apart hKT hts inX8 tyX8 tyX8_ok nmX8 rfl 5 16 (by decide) (by decide) (by decide)))).symm
                have m3948 := m3906.trans (Wr.neI wH3925 (Or.inl (G_ne ga1 ga0 (by decide)))).symm
                have m3949 := m3907.trans (Wr.neI wH3925 (Or.inr (x_apart hKT hts inX8 tyX8 tyX8_ok nmX8 rfl 6 16 (by decide) (by decide) (by decide)))).symm
                have m3950 := m3908.trans (Wr.neI wH3925 (Or.inl (G_ne ga1 ga0 (by decide)))).symm
                have m3951 := m3909.trans (Wr.neI wH3925 (Or.inr (x_apart hKT hts inX8 tyX8 tyX8_ok nmX8 rfl 7 16 (by decide) (by decide) (by decide)))).symm
                have m3952 := m3910.trans (Wr.neR wH3925 (Or.inl (G_ne ga1 ga0 (by decide)))).symm
                have m3953 := m3911.trans (Wr.neR wH3925 (Or.inr (x_apart hKT hts inX8 tyX8 tyX8_ok nmX8 rfl 8 16 (by decide) (by decide) (by decide)))).symm
                have m3954 := m3912.trans (Wr.neR wH3925 (Or.inl (G_ne ga1 ga0 (by decide)))).symm
                have m3955 := m3913.trans (Wr.neR wH3925 (Or.inr (x_apart hKT hts inX8 tyX8 tyX8_ok nmX8 rfl 9 16 (by decide) (by decide) (by decide)))).symm
                have m3956 := m3914.trans (Wr.neI wH3925 (Or.inr (x_apart hKT hts inX8 tyX8 tyX8_ok nmX8 rfl 10 16 (by decide) (by decide) (by decide)))).symm
                have m3957 := m3915.trans (Wr.neR wH3925 (Or.inl (G_ne ga1 ga0 (by decide)))).symm
                have m3958 := m3916.trans (Wr.neR wH3925 (Or.inr (x_apart hKT hts inX8 tyX8 tyX8_ok nmX8 rfl 11 16 (by decide) (by decide) (by decide)))).symm
                have m3959 := m3917.trans (Wr.neI wH3925 (Or.inr (x_apart hKT hts inX8 tyX8 tyX8_ok nmX8 rfl 13 16 (by decide) (by decide) (by decide)))).symm
                have m3960 := Wr.I wH3925
                have m3960 := m3960.symm
                exact x_vret C hQ dX8_copyFrom_241 hSH3925 (by decide) (by decide) (⟨x3544, n4, n5, n10, n13, n16, rfl, m3932, m3946, m3947, m3956, m3959, m3960, by omega, m3934, m3935, m3936, f3929, f3930, f3931, hTH3925⟩)
              · have k3552 := i_nle c3551
                refine lv_aload_n hx hb dX8_copyFrom_74 rfl (lv_at hl3542 0 rfl) ?_
                refine x_gr C hTH3540 (ci := 8) (k := 3) rfl inX8 (by decide) wF_X8_23 ga0 rg_34 rfl dX8_copyFrom_75 (fun q3961 eq3961 gq3961 => ?_)
                refine lv_iload_n hx hb dX8_copyFrom_78 rfl (lv_at hl3542 2 rfl) ?_
                refine x_ar C hTH3540 rfl rfl gq3961 rg_61 ⟨by omega, by show _ < ((4 : Nat) : Int); omega⟩ dX8_copyFrom_79 (fun q3962 eq3962 gq3962 => ?_)
                refine lv_aload_n hx hb dX8_copyFrom_80 rfl (lv_at hl3542 1 rfl) ?_
                refine x_gr C hTH3540 (ci := 8) (k := 3) rfl inX8 (by decide) wF_X8_23 ga1 rg_0 rfl dX8_copyFrom_81 (fun q3963 eq3963 gq3963 => ?_)
                refine lv_iload_n hx hb dX8_copyFrom_84 rfl (lv_at hl3542 2 rfl) ?_
                refine x_ar C hTH3540 rfl rfl gq3963 rg_27 ⟨by omega, by show _ < ((4 : Nat) : Int); omega⟩ dX8_copyFrom_85 (fun q3964 eq3964 gq3964 => ?_)
                refine x_V (As := [.ref q3964]) (rest := []) C (a_X7_copyFrom_k_n l K G H3540  hTH3540 gq3962 gq3964) yo_X7_copyFrom wM_X8_64 ⟨⟨by decide, by decide⟩, by decide, by decide⟩ (x_rv C hTH3540 (ci := 7) rfl gq3962 rg_50) rfl hl3542.1 rfl (Nat.le_of_ble_eq_true rfl) dX8_copyFrom_86 hSH3540 (AE_sub (fun _ _ => rfl) (by decide) hSH3540.1) (fun vH3965 H3965 locsH3965 pH3965 zH3965 kH3965 hSH3965 => ?_)
                obtain ⟨hvH3965, hTH3965⟩ := pH3965
                subst hvH3965
                have f3966 : ∀ j : Nat, fI H3965 no j = fI s.heap no j := fun j => (fI_kept (x_lt hTH3540 kH3965 gno (by decide))).trans (fy3550_sno j)
                have f3967 : ∀ j : Nat, fI H3965 lo j = fI s.heap lo j := fun j => (fI_kept (x_lt hTH3540 kH3965 glo (by decide))).trans (fy3550_slo j)
                have f3968 : ∀ j : Nat, fI H3965 ko j = fI s.heap ko j := fun j => (fI_kept (x_lt hTH3540 kH3965 gko (by decide))).trans (fy3550_sko j)
                have m3969 := (ex3544).trans (fI_kept (x_lt hTH3540 kH3965 ga0 (by decide))).symm
                have m3970 := (ex3545).trans (fI_kept (x_lt hTH3540 kH3965 ga0 (by decide))).symm
                have m3971 := (ex3546).trans (fI_kept (x_lt hTH3540 kH3965 ga0 (by decide))).symm
                have m3972 := (ex3547).trans (fI_kept (x_lt hTH3540 kH3965 ga0 (by decide))).symm
                have m3973 := (ex3548).trans (fI_kept (x_lt hTH3540 kH3965 ga0 (by decide))).symm
                have m3974 := (ex3549).trans (fI_kept (x_lt hTH3540 kH3965 ga0 (by decide))).symm
                have m3975 := (cy3550_0).trans (fR_kept (x_lt hTH3540 kH3965 ga0 (by decide))).symm
                have m3976 := (cy3550_1).trans (fR_kept (x_lt hTH3540 kH3965 ga0 (by decide))).symm
                have m3977 := (cy3550_2).trans (fR_kept (x_lt hTH3540 kH3965 ga0 (by decide))).symm
                have m3978 := (cy3550_3).trans (fR_kept (x_lt hTH3540 kH3965 ga1 (by decide))).symm
                have m3979 := (cy3550_4).trans (fR_kept (x_lt hTH3540 kH3965 ga1 (by decide))).symm
                have m3980 := (cy3550_5).trans (fR_kept (x_lt hTH3540 kH3965 ga1 (by decide))).symm
                have m3981 := (cy3550_6).trans (fI_kept (x_lt hTH3540 kH3965 ga1 (by decide))).symm
                have m3982 := (cy3550_7).trans (fI_kept (x_lt hTH3540 kH3965 ga1 (by decide))).symm
                have m3983 := (cy3550_8).trans (fI_kept (x_lt hTH3540 kH3965 ga1 (by decide))).symm
                have m3984 := (cy3550_9).trans (fI_kept (x_lt hTH3540 kH3965 ga1 (by decide))).symm
                have m3985 := (cy3550_10).trans (fI_kept (x_lt hTH3540 kH3965 ga1 (by decide))).symm
                have m3986 := (cy3550_11).trans (fI_kept (x_lt hTH3540 kH3965 ga1 (by decide))).symm
                have m3987 := (eq3961).trans (fR_kept (x_lt hTH3540 kH3965 ga0 (by decide))).symm
                have m3988 := (eq3963).trans (fR_kept (x_lt hTH3540 kH3965 ga1 (by decide))).symm
                refine W.eq (g2 := F0 m 89 ls3541 []) rfl ?_
                obtain ⟨x3989, ex3989⟩ : ∃ y : Int32, y = x3543 + 1 := ⟨_, rfl⟩
                have tx3989 := i_add ex3989 (by omega)
                refine lv_iinc (v := x3989) (lv' := [(2, .int x3989), (0, .ref a0), (1, .ref a1)]) hx hb dX8_copyFrom_89 hl3542 (k := 2) rfl (by rw [ex3989]; rfl) (by decide) rfl (fun ls3990 hl3991 => ?_)
                refine lv_goto (tgt := 69) hx hb dX8_copyFrom_92 (by decide) ?_
                exact ih69 ls3990 H3965 locsH3965 (x3989) (x3544) (x3545) (x3546) (x3547) (x3548) (x3549) (lv_sub hl3991 [1, 2, 0] rfl) hTH3965 hSH3965 (by have := i_rng x3989; omega) (by have := i_rng x3544; omega) (by have := i_rng x3545; omega) (by have := i_rng x3547; omega) (by have := i_rng x3548; omega) (by have := i_rng x3549; omega) m3969 m3970 m3971 m3972 m3973 m3974 m3975 m3976 m3977 m3978 m3979 m3980 m3981 m3982 m3983 m3984 m3985 m3986 f3966 f3967 f3968 (by omega) (by omega)
          refine lv_iload_n hx hb dX8_copyFrom_41 rfl (lv_at hl3531 2 rfl) ?_
          refine lv_iconst (v := 2) hx hb dX8_copyFrom_42 (by decide) ?_
          refine lv_icmp_ge (tgt := 67) hx hb dX8_copyFrom_43 (by decide) (fun c3992 => ?_) (fun c3992 => ?_)
          · have k3993 := i_le c3992
            refine lv_iconst (v := 0) hx hb dX8_copyFrom_67 (by decide) ?_
            refine lv_istore_n (lv' := [(2, .int 0), (0, .ref a0), (1, .ref a1)]) hx hb dX8_copyFrom_68 rfl hl3531 (by decide) rfl (fun ls3994 hl3995 => ?_)
            exact J69 ((4 - (0 : Int32).toInt).toNat + 1) ls3994 H3529 locsH3529 (0) (x3533) (x3534) (x3535) (x3536) (x3537) (x3538) (lv_sub hl3995 [1, 2, 0] rfl) hTH3529 hSH3529 (by decide) (by have := i_rng x3533; omega) (by have := i_rng x3534; omega) (by have := i_rng x3536; omega) (by have := i_rng x3537; omega) (by have := i_rng x3538; omega) ex3533 ex3534 ex3535 ex3536 ex3537 ex3538 cy3539_0 cy3539_1 cy3539_2 cy3539_3 cy3539_4 cy3539_5 cy3539_6 cy3539_7 cy3539_8 cy3539_9 cy3539_10 cy3539_11 fy3539_sno fy3539_slo fy3539_sko (by omega) (by omega)
          · have k3993 := i_nle c3992
            refine lv_aload_n hx hb dX8_copyFrom_46 rfl (lv_at hl3531 0 rfl) ?_
            refine x_gr C hTH3529 (ci := 8) (k := 2) rfl inX8 (by decide) wF_X8_19 ga0 rg_34 rfl dX8_copyFrom_47 (fun q3996 eq3996 gq3996 => ?_)
            refine lv_iload_n hx hb dX8_copyFrom_50 rfl (lv_at hl3531 2 rfl) ?_
            refine x_ar C hTH3529 rfl rfl gq3996 rg_60 ⟨by omega, by show _ < ((2 : Nat) : Int); omega⟩ dX8_copyFrom_51 (fun q3997 eq3997 gq3997 => ?_)
            refine lv_aload_n hx hb dX8_copyFrom_52 rfl (lv_at hl3531 1 rfl) ?_
            refine x_gr C hTH3529 (ci := 8) (k := 2) rfl inX8 (by decide) wF_X8_19 ga1 rg_0 rfl dX8_copyFrom_53 (fun q3998 eq3998 gq3998 => ?_)
            refine lv_iload_n hx hb dX8_copyFrom_56 rfl (lv_at hl3531 2 rfl) ?_
            refine x_ar C hTH3529 rfl rfl gq3998 rg_26 ⟨by omega, by show _ < ((2 : Nat) : Int); omega⟩ dX8_copyFrom_57 (fun q3999 eq3999 gq3999 => ?_)
            refine x_V (As := [.ref q3999]) (rest := []) C (a_X7_copyFrom_k_n l K G H3529  hTH3529 gq3997 gq3999) yo_X7_copyFrom wM_X8_64 ⟨⟨by decide, by decide⟩, by decide, by decide⟩ (x_rv C hTH3529 (ci := 7) rfl gq3997 rg_50) rfl hl3531.1 rfl (Nat.le_of_ble_eq_true rfl) dX8_copyFrom_58 hSH3529 (AE_sub (fun _ _ => rfl) (by decide) hSH3529.1) (fun vH4000 H4000 locsH4000 pH4000 zH4000 kH4000 hSH4000 => ?_)
            obtain ⟨hvH4000, hTH4000⟩ := pH4000
            subst hvH4000
            have f4001 : ∀ j : Nat, fI H4000 no j = fI s.heap no j := fun j => (fI_kept (x_lt hTH3529 kH4000 gno (by decide))).trans (fy3539_sno j)
            have f4002 : ∀ j : Nat, fI H4000 lo j = fI s.heap lo j := fun j => (fI_kept (x_lt hTH3529 kH4000 glo (by decide))).trans (fy3539_slo j)
            have f4003 : ∀ j : Nat, fI H4000 ko j = fI s.heap ko j := fun j => (fI_kept (x_lt hTH3529 kH4000 gko (by decide))).trans (fy3539_sko j)
            have m4004 := (ex3533).trans (fI_kept (x_lt hTH3529 kH4000 ga0 (by decide))).symm
            have m4005 := (ex3534).trans (fI_kept (x_lt hTH3529 kH4000 ga0 (by decide))).symm
            have m4006 := (ex3535).trans (fI_kept (x_lt hTH3529 kH4000 ga0 (by decide))).symm
            have m4007 := (ex3536).trans (fI_kept (x_lt hTH3529 kH4000 ga0 (by decide))).symm
            have m4008 := (ex3537).trans (fI_kept (x_lt hTH3529 kH4000 ga0 (by decide))).symm
            have m4009 := (ex3538).trans (fI_kept (x_lt hTH3529 kH4000 ga0 (by decide))).symm
            have m4010 := (cy3539_0).trans (fR_kept (x_lt hTH3529 kH4000 ga0 (by decide))).symm
            have m4011 := (cy3539_1).trans (fR_kept (x_lt hTH3529 kH4000 ga0 (by decide))).symm
            have m4012 := (cy3539_2).trans (fR_kept (x_lt hTH3529 kH4000 ga0 (by decide))).symm
            have m4013 := (cy3539_3).trans (fR_kept (x_lt hTH3529 kH4000 ga1 (by decide))).symm
            have m4014 := (cy3539_4).trans (fR_kept (x_lt hTH3529 kH4000 ga1 (by decide))).symm
            have m4015 := (cy3539_5).trans (fR_kept (x_lt hTH3529 kH4000 ga1 (by decide))).symm
            have m4016 := (cy3539_6).trans (fI_kept (x_lt hTH3529 kH4000 ga1 (by decide))).symm
            have m4017 := (cy3539_7).trans (fI_kept (x_lt hTH3529 kH4000 ga1 (by decide))).symm
            have m4018 := (cy3539_8).trans (fI_kept (x_lt hTH3529 kH4000 ga1 (by decide))).symm
            have m4019 := (cy3539_9).trans (fI_kept (x_lt hTH3529 kH4000 ga1 (by decide))).symm
            have m4020 := (cy3539_10).trans (fI_kept (x_lt hTH3529 kH4000 ga1 (by decide))).symm
            have m4021 := (cy3539_11).trans (fI_kept (x_lt hTH3529 kH4000 ga1 (by decide))).symm
            have m4022 := (eq3996).trans (fR_kept (x_lt hTH3529 kH4000 ga0 (by decide))).symm
            have m4023 := (eq3998).trans (fR_kept (x_lt hTH3529 kH4000 ga1 (by decide))).symm
            refine W.eq (g2 := F0 m 61 ls3530 []) rfl ?_
            obtain ⟨x4024, ex4024⟩ : ∃ y : Int32, y = x3532 + 1 := ⟨_, rfl⟩
            have tx4024 := i_add ex4024 (by omega)
            refine lv_iinc (v := x4024) (lv' := [(2, .int x4024), (0, .ref a0), (1, .ref a1)]) hx hb dX8_copyFrom_61 hl3531 (k := 2) rfl (by rw [ex4024]; rfl) (by decide) rfl (fun ls4025 hl4026 => ?_)
            refine lv_goto (tgt := 41) hx hb dX8_copyFrom_64 (by decide) ?_
            exact ih41 ls4025 H4000 locsH4000 (x4024) (x3533) (x3534) (x3535) (x3536) (x3537) (x3538) (lv_sub hl4026 [1, 2, 0] rfl) hTH4000 hSH4000 (by have := i_rng x4024; omega) (by have := i_rng x3533; omega) (by have := i_rng x3534; omega) (by have := i_rng x3536; omega) (by have := i_rng x3537; omega) (by have := i_rng x3538; omega) m4004 m4005 m4006 m4007 m4008 m4009 m4010 m4011 m4012 m4013 m4014 m4015 m4016 m4017 m4018 m4019 m4020 m4021 f4001 f4002 f4003 (by omega) (by omega)
      refine lv_iload_n hx hb dX8_copyFrom_2 rfl (lv_at hl3520 2 rfl) ?_
      refine lv_aload_n hx hb dX8_copyFrom_3 rfl (lv_at hl3520 1 rfl) ?_
      refine x_gi C hTH3518 (ci := 8) (k := 1) rfl inX8 (by decide) wF_X8_57 ga1 rg_0 rfl dX8_copyFrom_4 (fun x4027 ex4027 bx4027 => ?_)
      have ux4027 : n1 = x4027 := (cy3528_6).trans ex4027.symm
      subst ux4027
      refine lv_icmp_ge (tgt := 31) hx hb dX8_copyFrom_7 (by decide) (fun c4028 => ?_) (fun c4028 => ?_)
      · have k4029 := i_le c4028
        refine lv_aload_n hx hb dX8_copyFrom_31 rfl (lv_at hl3520 0 rfl) ?_
        refine lv_aload_n hx hb dX8_copyFrom_32 rfl (lv_at hl3520 1 rfl) ?_
        refine x_gi C hTH3518 (ci := 8) (k := 1) rfl inX8 (by decide) wF_X8_57 ga1 rg_0 rfl dX8_copyFrom_33 (fun x4030 ex4030 bx4030 => ?_)
        have ux4030 : n1 = x4030 := (cy3528_6).trans ex4030.symm
        subst ux4030
        refine x_put C hTH3518 hSH3518 (ci := 8) (k := 1) (v := .int n1) (ty0 := tyX8) rfl inX8 tyX8_ok nmX8 (by decide) rfl wF_X8_57 ga0 rg_34 rfl rfl (okI (by have := i_rng n1; omega) (by have := i_rng n1; omega)) rfl rfl (AE_in ga0 (by decide)) dX8_copyFrom_36 (fun H4031 locsH4031 hTH4031 hSH4031 wH4031 => ?_)
        have f4032 : ∀ j : Nat, fI H4031 no j = fI s.heap no j := fun j => (Wr.neI wH4031 (Or.inl (G_ne gno ga0 (by decide)))).trans (fy3528_sno j)
        have f4033 : ∀ j : Nat, fI H4031 lo j = fI s.heap lo j := fun j => (Wr.neI wH4031 (Or.inl (G_ne glo ga0 (by decide)))).trans (fy3528_slo j)
        have f4034 : ∀ j : Nat, fI H4031 ko j = fI s.heap ko j := fun j => (Wr.neI wH4031 (Or.inl (G_ne gko ga0 (by decide)))).trans (fy3528_sko j)
        have m4036 := ex3523.trans (Wr.neI wH4031 (Or.inr (x_apart hKT hts inX8 tyX8 tyX8_ok nmX8 rfl 4 1 (by decide) (by decide) (by decide)))).symm
        have m4037 := ex3524.trans (Wr.neI wH4031 (Or.inr (x_apart hKT hts inX8 tyX8 tyX8_ok nmX8 rfl 5 1 (by decide) (by decide) (by decide)))).symm
        have m4038 := ex3525.trans (Wr.neI wH4031 (Or.inr (x_apart hKT hts inX8 tyX8 tyX8_ok nmX8 rfl 10 1 (by decide) (by decide) (by decide)))).symm
        have m4039 := ex3526.trans (Wr.neI wH4031 (Or.inr (x_apart hKT hts inX8 tyX8 tyX8_ok nmX8 rfl 13 1 (by decide) (by decide) (by decide)))).symm
        have m4040 := ex3527.trans (Wr.neI wH4031 (Or.inr (x_apart hKT hts inX8 tyX8 tyX8_ok nmX8 rfl 16 1 (by decide) (by decide) (by decide)))).symm
        have m4041 := cy3528_0.trans (Wr.neR wH4031 (Or.inr (x_apart hKT hts inX8 tyX8 tyX8_ok nmX8 rfl 12 1 (by decide) (by decide) (by decide)))).symm
        have m4042 := cy3528_1.trans (Wr.neR wH4031 (Or.inr (x_apart hKT hts inX8 tyX8 tyX8_ok nmX8 rfl 14 1 (by decide) (by decide) (by decide)))).symm
        have m4043 := cy3528_2.trans (Wr.neR wH4031 (Or.inr (x_apart hKT hts inX8 tyX8 tyX8_ok nmX8 rfl 15 1 (by decide) (by decide) (by decide)))).symm
        have m4044 := cy3528_3.trans (Wr.neR wH4031 (Or.inl (G_ne ga1 ga0 (by decide)))).symm
        have m4045 := cy3528_4.trans (Wr.neR wH4031 (Or.inl (G_ne ga1 ga0 (by decide)))).symm
        have m4046 := cy3528_5.trans (Wr.neR wH4031 (Or.inl (G_ne ga1 ga0 (by decide)))).symm
        have m4047 := cy3528_6.trans (Wr.neI wH4031 (Or.inl (G_ne ga1 ga0 (by decide)))).symm
        have m4048 := cy3528_7.trans (Wr.neI wH4031 (Or.inl (G_ne ga1 ga0 (by decide)))).symm
        have m4049 := cy3528_8.trans (Wr.neI wH4031 (Or.inl (G_ne ga1 ga0 (by decide)))).symm
        have m4050 := cy3528_9.trans (Wr.neI wH4031 (Or.inl (G_ne ga1 ga0 (by decide)))).symm
        have m4051 := cy3528_10.trans (Wr.neI wH4031 (Or.inl (G_ne ga1 ga0 (by decide)))).symm
        have m4052 := cy3528_11.trans (Wr.neI wH4031 (Or.inl (G_ne ga1 ga0 (by decide)))).symm
        have m4053 := Wr.I wH4031
        have m4053 := m4053.symm
        refine lv_iconst (v := 0) hx hb dX8_copyFrom_39 (by decide) ?_
        refine lv_istore_n (lv' := [(2, .int 0), (0, .ref a0), (1, .ref a1)]) hx hb dX8_copyFrom_40 rfl hl3520 (by decide) rfl (fun ls4054 hl4055 => ?_)
        exact J41 ((2 - (0 : Int32).toInt).toNat + 1) ls4054 H4031 locsH4031 (0) (n1) (x3523) (x3524) (x3525) (x3526) (x3527) (lv_sub hl4055 [1, 2, 0] rfl) hTH4031 hSH4031 (by decide) (by have := i_rng n1; omega) (by have := i_rng x3523; omega) (by have := i_rng x3525; omega) (by have := i_rng x3526; omega) (by have := i_rng x3527; omega) m4053 m4036 m4037 m4038 m4039 m4040 m4041 m4042 m4043 m4044 m4045 m4046 m4047 m4048 m4049 m4050 m4051 m4052 f4032 f4033 f4034 (by omega) (by omega)
      · have k4029 := i_nle c4028
        refine lv_aload_n hx hb dX8_copyFrom_10 rfl (lv_at hl3520 0 rfl) ?_
        refine x_gr C hTH3518 (ci := 8) (k := 0) rfl inX8 (by decide) wF_X8_11 ga0 rg_34 rfl dX8_copyFrom_11 (fun q4056 eq4056 gq4056 => ?_)
        refine lv_iload_n hx hb dX8_copyFrom_14 rfl (lv_at hl3520 2 rfl) ?_
        refine x_ar C hTH3518 rfl rfl gq4056 rg_59 ⟨by omega, by show _ < ((10 : Nat) : Int); omega⟩ dX8_copyFrom_15 (fun q4057 eq4057 gq4057 => ?_)
        refine lv_aload_n hx hb dX8_copyFrom_16 rfl (lv_at hl3520 1 rfl) ?_
        refine x_gr C hTH3518 (ci := 8) (k := 0) rfl inX8 (by decide) wF_X8_11 ga1 rg_0 rfl dX8_copyFrom_17 (fun q4058 eq4058 gq4058 => ?_)
        refine lv_iload_n hx hb dX8_copyFrom_20 rfl (lv_at hl3520 2 rfl) ?_
        refine x_ar C hTH3518 rfl rfl gq4058 rg_25 ⟨by omega, by show _ < ((10 : Nat) : Int); omega⟩ dX8_copyFrom_21 (fun q4059 eq4059 gq4059 => ?_)
        refine x_V (As := [.ref q4059]) (rest := []) C (a_X0_copyFrom_k l K G H3518  hTH3518 gq4057 gq4059) yo_X0_copyFrom wM_X8_60 ⟨⟨by decide, by decide⟩, by decide, by decide⟩ (x_rv C hTH3518 (ci := 0) rfl gq4057 rg_35) rfl hl3520.1 rfl (Nat.le_of_ble_eq_true rfl) dX8_copyFrom_22 hSH3518 (AE_sub (fun _ _ => rfl) (by decide) hSH3518.1) (fun vH4060 H4060 locsH4060 pH4060 zH4060 kH4060 hSH4060 => ?_)
        obtain ⟨hvH4060, hTH4060⟩ := pH4060
        subst hvH4060
        have f4061 : ∀ j : Nat, fI H4060 no j = fI s.heap no j := fun j => (fI_kept (x_lt hTH3518 kH4060 gno (by decide))).trans (fy3528_sno j)
        have f4062 : ∀ j : Nat, fI H4060 lo j = fI s.heap lo j := fun j => (fI_kept (x_lt hTH3518 kH4060 glo (by decide))).trans (fy3528_slo j)
        have f4063 : ∀ j : Nat, fI H4060 ko j = fI s.heap ko j := fun j => (fI_kept (x_lt hTH3518 kH4060 gko (by decide))).trans (fy3528_sko j)
        have m4064 := (ex3522).trans (fI_kept (x_lt hTH3518 kH4060 ga0 (by decide))).symm
        have m4065 := (ex3523).trans (fI_kept (x_lt hTH3518 kH4060 ga0 (by decide))).symm
        have m4066 := (ex3524).trans (fI_kept (x_lt hTH3518 kH4060 ga0 (by decide))).symm
        have m4067 := (ex3525).trans (fI_kept (x_lt hTH3518 kH4060 ga0 (by decide))).symm
        have m4068 := (ex3526).trans (fI_kept (x_lt hTH3518 kH4060 ga0 (by decide))).symm
        have m4069 := (ex3527).trans (fI_kept (x_lt hTH3518 kH4060 ga0 (by decide))).symm
        have m4070 := (cy3528_0).trans (fR_kept (x_lt hTH3518 kH4060 ga0 (by decide))).symm
        have m4071 := (cy3528_1).trans (fR_kept (x_lt hTH3518 kH4060 ga0 (by decide))).symm
        have m4072 := (cy3528_2).trans (fR_kept (x_lt hTH3518 kH4060 ga0 (by decide))).symm
        have m4073 := (cy3528_3).trans (fR_kept (x_lt hTH3518 kH4060 ga1 (by decide))).symm
        have m4074 := (cy3528_4).trans (fR_kept (x_lt hTH3518 kH4060 ga1 (by decide))).symm
        have m4075 := (cy3528_5).trans (fR_kept (x_lt hTH3518 kH4060 ga1 (by decide))).symm
        have m4076 := (cy3528_6).trans (fI_kept (x_lt hTH3518 kH4060 ga1 (by decide))).symm
        have m4077 := (cy3528_7).trans (fI_kept (x_lt hTH3518 kH4060 ga1 (by decide))).symm
        have m4078 := (cy3528_8).trans (fI_kept (x_lt hTH3518 kH4060 ga1 (by decide))).symm
        have m4079 := (cy3528_9).trans (fI_kept (x_lt hTH3518 kH4060 ga1 (by decide))).symm
        have m4080 := (cy3528_10).trans (fI_kept (x_lt hTH3518 kH4060 ga1 (by decide))).symm
        have m4081 := (cy3528_11).trans (fI_kept (x_lt hTH3518 kH4060 ga1 (by decide))).symm
        have m4082 := (eq4056).trans (fR_kept (x_lt hTH3518 kH4060 ga0 (by decide))).symm
        have m4083 := (eq4058).trans (fR_kept (x_lt hTH3518 kH4060 ga1 (by decide))).symm
        refine W.eq (g2 := F0 m 25 ls3519 []) rfl ?_
        obtain ⟨x4084, ex4084⟩ : ∃ y : Int32, y = x3521 + 1 := ⟨_, rfl⟩
        have tx4084 := i_add ex4084 (by omega)
        refine lv_iinc (v := x4084) (lv' := [(2, .int x4084), (0, .ref a0), (1, .ref a1)]) hx hb dX8_copyFrom_25 hl3520 (k := 2) rfl (by rw [ex4084]; rfl) (by decide) rfl (fun ls4085 hl4086 => ?_)
        refine lv_goto (tgt := 2) hx hb dX8_copyFrom_28 (by decide) ?_
        exact ih2 ls4085 H4060 locsH4060 (x4084) (x3522) (x3523) (x3524) (x3525) (x3526) (x3527) (lv_sub hl4086 [1, 2, 0] rfl) hTH4060 hSH4060 (by have := i_rng x4084; omega) (by have := i_rng x3522; omega) (by have := i_rng x3523; omega) (by have := i_rng x3525; omega) (by have := i_rng x3526; omega) (by have := i_rng x3527; omega) m4064 m4065 m4066 m4067 m4068 m4069 m4070 m4071 m4072 m4073 m4074 m4075 m4076 m4077 m4078 m4079 m4080 m4081 f4061 f4062 f4063 (by omega)
  refine lv_iconst (v := 0) hx hb dX8_copyFrom_0 (by decide) ?_
  refine lv_istore_n (lv' := [(2, .int 0), (0, .ref a0), (1, .ref a1)]) hx hb dX8_copyFrom_1 rfl hl (by decide) rfl (fun ls4087 hl4088 => ?_)
  exact J2 ((10 - (0 : Int32).toInt).toNat + 1) ls4087 s.heap [] (0) (k1) (k4) (k5) (k10) (k13) (k16) (lv_sub hl4088 [1, 2, 0] rfl) hT hS (by decide) (by have := i_rng k1; omega) (by have := i_rng k4; omega) (by have := i_rng k10; omega) (by have := i_rng k13; omega) (by have := i_rng k16; omega) ek1 ek4 ek5 ek10 ek13 ek16 ent elt ekt eno elo eko en1 en4 en5 en10 en13 en16 f0_sno f0_slo f0_sko (by omega)

set_option maxHeartbeats 4000000 in
set_option maxRecDepth 100000 in
theorem a_X8_copyFrom_nn (l : Launch) (K : KE) (G : Nat → Option Nat) (H : Heap) {a0 : Nat} {a1 : Nat} {nt : Nat} {lt : Nat} {kt : Nat} {no : Nat} {lo : Nat} {ko : Nat} (k1 : Int32) (k4 : Int32) (k5 : Int32) (k10 : Int32) (k13 : Int32) (k16 : Int32) (n1 : Int32) (n4 : Int32) (n5 : Int32) (n10 : Int32) (n13 : Int32) (n16 : Int32) (hT : TY K G H) (ga0 : G a0 = some 0) (ga1 : G a1 = some 34) (gnt : G nt = some 31) (ent : nt = fR H a0 (K.1.2 8 12)) (glt : G lt = some 32) (elt : lt = fR H a0 (K.1.2 8 14)) (gkt : G kt = some 33) (ekt : kt = fR H a0 (K.1.2 8 15)) (gno : G no = some 65) (eno : no = fR H a1 (K.1.2 8 12)) (glo : G lo = some 66) (elo : lo = fR H a1 (K.1.2 8 14)) (gko : G ko = some 67) (eko : ko = fR H a1 (K.1.2 8 15)) (ek1 : k1 = fI H a0 (K.1.2 8 1)) (ek4 : k4 = fI H a0 (K.1.2 8 4)) (ek5 : k5 = fI H a0 (K.1.2 8 5)) (ek10 : k10 = fI H a0 (K.1.2 8 10)) (ek13 : k13 = fI H a0 (K.1.2 8 13)) (ek16 : k16 = fI H a0 (K.1.2 8 16)) (en1 : n1 = fI H a1 (K.1.2 8 1)) (en4 : n4 = fI H a1 (K.1.2 8 4)) (en5 : n5 = fI H a1 (K.1.2 8 5)) (en10 : n10 = fI H a1 (K.1.2 8 10)) (en13 : n13 = fI H a1 (K.1.2 8 13)) (en16 : n16 = fI H a1 (K.1.2 8 16)) : MX l K yX8_copyFrom cX8_copyFrom 3 none 2 62 0 0 [.ref a0, .ref a1] H (AE G [0, 1, 2, 3, 4, 5, 6, 7, 8, 9, 10, 12, 14, 15, 16, 17, 18, 19, 20, 21, 22, 23, 24, 28, 29, 30, 31, 32, 33] H.size) (fun v H1 => ∃ (t0 : Int32) (t1 : Int32) (t2 : Int32) (t3 : Int32) (t4 : Int32) (t5 : Int32), v = none ∧ t0 = fI H1 a0 (K.1.2 8 1) ∧ t1 = fI H1 a0 (K.1.2 8 4) ∧ t2 = fI H1 a0 (K.1.2 8 5) ∧ t3 = fI H1 a0 (K.1.2 8 10) ∧ t4 = fI H1 a0 (K.1.2 8 13) ∧ t5 = fI H1 a0 (K.1.2 8 16) ∧ (t0.toInt = n1.toInt ∧ t1.toInt = n4.toInt ∧ t2.toInt = n5.toInt ∧ t3.toInt = n10.toInt ∧ t4.toInt = n13.toInt ∧ t5.toInt = n16.toInt) ∧ nt = fR H1 a0 (K.1.2 8 12) ∧ lt = fR H1 a0 (K.1.2 8 14) ∧ kt = fR H1 a0 (K.1.2 8 15) ∧ (∀ j : Nat, j < 8 → fI H1 nt j = fI H no j) ∧ (∀ j : Nat, j < 8 → fI H1 lt j = fI H lo j) ∧ (∀ j : Nat, j < 8 → fI H1 kt j = fI H ko j) ∧ TY K G H1) := by
  refine MX.of (by decide +kernel) (Nat.le_of_ble_eq_true rfl) ?_
  intro p e s m below meth c ls Q C hH hl hQ
  subst hH
  have C : CX p K s m _ meth c RX8 cX8_copyFrom 3 none "copyFrom" := C
  obtain ⟨hx, hb, hml, hown, hts, hKT, hr, hlocks, hnm⟩ := id C
  have hl : lv_has ls 3 [(0, .ref a0), (1, .ref a1)] := hl
  have hS : va_S (AE G [0, 1, 2, 3, 4, 5, 6, 7, 8, 9, 10, 12, 14, 15, 16, 17, 18, 19, 20, 21, 22, 23, 24, 28, 29, 30, 31, 32, 33] s.heap.size) s.heap s.heap [] := va_S.rf
  have n_0 : (0 : Int32).toInt = 0 := rfl
  have n_1 : (1 : Int32).toInt = 1 := rfl
  have n_2 : (2 : Int32).toInt = 2 := rfl
  have n_4 : (4 : Int32).toInt = 4 := rfl
  have n_8 : (8 : Int32).toInt = 8 := rfl
  have n_20 : (20 : Int32).toInt = 20 := rfl
  have bk1 := ty_fi (x := k1) (k := 1) ek1 hT ga0 rg_0 rfl
  have bk4 := ty_fi (x := k4) (k := 4) ek4 hT ga0 rg_0 rfl
  have bk5 := ty_fi (x := k5) (k := 5) ek5 hT ga0 rg_0 rfl
  have bk10 := ty_fi (x := k10) (k := 10) ek10 hT ga0 rg_0 rfl
  have bk13 := ty_fi (x := k13) (k := 13) ek13 hT ga0 rg_0 rfl
  have bk16 := ty_fi (x := k16) (k := 16) ek16 hT ga0 rg_0 rfl
  have bn1 := ty_fi (x := n1) (k := 1) en1 hT ga1 rg_34 rfl
  have bn4 := ty_fi (x := n4) (k := 4) en4 hT ga1 rg_34 rfl
  have bn5 := ty_fi (x := n5) (k := 5) en5 hT ga1 rg_34 rfl
  have bn10 := ty_fi (x := n10) (k := 10) en10 hT ga1 rg_34 rfl
  have bn13 := ty_fi (x := n13) (k := 13) en13 hT ga1 rg_34 rfl
  have bn16 := ty_fi (x := n16) (k := 16) en16 hT ga1 rg_34 rfl
  have f0_sno : ∀ j : Nat, fI s.heap no j = fI s.heap no j := fun _ => rfl
  have f0_slo : ∀ j : Nat, fI s.heap lo j = fI s.heap lo j := fun _ => rfl
  have f0_sko : ∀ j : Nat, fI s.heap ko j = fI s.heap ko j := fun _ => rfl
  have J2 : ∀ (nf : Nat) (ls3519 : Array Slot) (H3518 : Heap) (locsH3518 : List Loc) (x3521 : Int32) (x3522 : Int32) (x3523 : Int32) (x3524 : Int32) (x3525 : Int32) (x3526 : Int32) (x3527 : Int32), lv_has ls3519 3 [(0, .ref a0), (1, .ref a1), (2, .int x3521)] → TY K G H3518 → va_S (AE G [0, 1, 2, 3, 4, 5, 6, 7, 8, 9, 10, 12, 14, 15, 16, 17, 18, 19, 20, 21, 22, 23, 24, 28, 29, 30, 31, 32, 33] s.heap.size) s.heap H3518 locsH3518 → (0 ≤ x3521.toInt ∧ x3521.toInt ≤ 10) → (0 ≤ x3522.toInt ∧ x3522.toInt ≤ 10) → (0 ≤ x3523.toInt ∧ x3523.toInt ≤ 1) → (0 ≤ x3525.toInt ∧ x3525.toInt ≤ 20) → (0 ≤ x3526.toInt ∧ x3526.toInt ≤ 8) → (0 ≤ x3527.toInt ∧ x3527.toInt ≤ 8) → (x3522 = fI H3518 a0 (K.1.2 8 1)) → (x3523 = fI H3518 a0 (K.1.2 8 4)) → (x3524 = fI H3518 a0 (K.1.2 8 5)) → (x3525 = fI H3518 a0 (K.1.2 8 10)) → (x3526 = fI H3518 a0 (K.1.2 8 13)) → (x3527 = fI H3518 a0 (K.1.2 8 16)) → (nt = fR H3518 a0 (K.1.2 8 12)) → (lt = fR H3518 a0 (K.1.2 8 14)) → (kt = fR H3518 a0 (K.1.2 8 15)) → (no = fR H3518 a1 (K.1.2 8 12)) → (lo = fR H3518 a1 (K.1.2 8 14)) → (ko = fR H3518 a1 (K.1.2 8 15)) → (n1 = fI H3518 a1 (K.1.2 8 1)) → (n4 = fI H3518 a1 (K.1.2 8 4)) → (n5 = fI H3518 a1 (K.1.2 8 5)) → (n10 = fI H3518 a1 (K.1.2 8 10)) → (n13 = fI H3518 a1 (K.1.2 8 13)) → (n16 = fI H3518 a1 (K.1.2 8 16)) → (∀ j : Nat, fI H3518 no j = fI s.heap no j) → (∀ j : Nat, fI H3518 lo j = fI s.heap lo j) → (∀ j : Nat, fI H3518 ko j = fI s.heap ko j) → (10 - x3521.toInt < (nf : Int)) → W p l e ({ frames := 2, cells := 0, slots := 0, locals := 62 } : Room) s m (([.ref a0, .ref a1] : List Value).toArray) below meth c H3518 locsH3518 0 0 Q (F0 m 2 ls3519 []) := by
    intro nf
    induction nf with
    | zero =>
      intro ls3519 H3518 locsH3518 x3521 x3522 x3523 x3524 x3525 x3526 x3527 hl3520 hTH3518 hSH3518 bx3521 bx3522 bx3523 bx3525 bx3526 bx3527 ex3522 ex3523 ex3524 ex3525 ex3526 ex3527 cy3528_0 cy3528_1 cy3528_2 cy3528_3 cy3528_4 cy3528_5 cy3528_6 cy3528_7 cy3528_8 cy3528_9 cy3528_10 cy3528_11 fy3528_sno fy3528_slo fy3528_sko hm2
      have rx3524 := i_rng x3524
      exfalso
      omega
    | succ nf ih2 =>
      intro ls3519 H3518 locsH3518 x3521 x3522 x3523 x3524 x3525 x3526 x3527 hl3520 hTH3518 hSH3518 bx3521 bx3522 bx3523 bx3525 bx3526 bx3527 ex3522 ex3523 ex3524 ex3525 ex3526 ex3527 cy3528_0 cy3528_1 cy3528_2 cy3528_3 cy3528_4 cy3528_5 cy3528_6 cy3528_7 cy3528_8 cy3528_9 cy3528_10 cy3528_11 fy3528_sno fy3528_slo fy3528_sko hm2
      have rx3524 := i_rng x3524
      have J41 : ∀ (nf : Nat) (ls3530 : Array Slot) (H3529 : Heap) (locsH3529 : List Loc) (x3532 : Int32) (x3533 : Int32) (x3534 : Int32) (x3535 : Int32) (x3536 : Int32) (x3537 : Int32) (x3538 : Int32), lv_has ls3530 3 [(0, .ref a0), (1, .ref a1), (2, .int x3532)] → TY K G H3529 → va_S (AE G [0, 1, 2, 3, 4, 5, 6, 7, 8, 9, 10, 12, 14, 15, 16, 17, 18, 19, 20, 21, 22, 23, 24, 28, 29, 30, 31, 32, 33] s.heap.size) s.heap H3529 locsH3529 → (0 ≤ x3532.toInt ∧ x3532.toInt ≤ 2) → (0 ≤ x3533.toInt ∧ x3533.toInt ≤ 10) → (0 ≤ x3534.toInt ∧ x3534.toInt ≤ 1) → (0 ≤ x3536.toInt ∧ x3536.toInt ≤ 20) → (0 ≤ x3537.toInt ∧ x3537.toInt ≤ 8) → (0 ≤ x3538.toInt ∧ x3538.toInt ≤ 8) → (x3533 = fI H3529 a0 (K.1.2 8 1)) → (x3534 = fI H3529 a0 (K.1.2 8 4)) → (x3535 = fI H3529 a0 (K.1.2 8 5)) → (x3536 = fI H3529 a0 (K.1.2 8 10)) → (x3537 = fI H3529 a0 (K.1.2 8 13)) → (x3538 = fI H3529 a0 (K.1.2 8 16)) → (nt = fR H3529 a0 (K.1.2 8 12)) → (lt = fR H3529 a0 (K.1.2 8 14)) → (kt = fR H3529 a0 (K.1.2 8 15)) → (no = fR H3529 a1 (K.1.2 8 12)) → (lo = fR H3529 a1 (K.1.2 8 14)) → (ko = fR H3529 a1 (K.1.2 8 15)) → (n1 = fI H3529 a1 (K.1.2 8 1)) → (n4 = fI H3529 a1 (K.1.2 8 4)) → (n5 = fI H3529 a1 (K.1.2 8 5)) → (n10 = fI H3529 a1 (K.1.2 8 10)) → (n13 = fI H3529 a1 (K.1.2 8 13)) → (n16 = fI H3529 a1 (K.1.2 8 16)) → (∀ j : Nat, fI H3529 no j = fI s.heap no j) → (∀ j : Nat, fI H3529 lo j = fI s.heap lo j) → (∀ j : Nat, fI H3529 ko j = fI s.heap ko j) → (2 - x3532.toInt < (nf : Int)) → (x3533.toInt = n1.toInt) → W p l e ({ frames := 2, cells := 0, slots := 0, locals := 62 } : Room) s m (([.ref a0, .ref a1] : List Value).toArray) below meth c H3529 locsH3529 0 0 Q (F0 m 41 ls3530 []) := by
        intro nf
        induction nf with
        | zero =>
          intro ls3530 H3529 locsH3529 x3532 x3533 x3534 x3535 x3536 x3537 x3538 hl3531 hTH3529 hSH3529 bx3532 bx3533 bx3534 bx3536 bx3537 bx3538 ex3533 ex3534 ex3535 ex3536 ex3537 ex3538 cy3539_0 cy3539_1 cy3539_2 cy3539_3 cy3539_4 cy3539_5 cy3539_6 cy3539_7 cy3539_8 cy3539_9 cy3539_10 cy3539_11 fy3539_sno fy3539_slo fy3539_sko hm41 iv41
          have rx3535 := i_rng x3535
          exfalso
          omega
        | succ nf ih41 =>
          intro ls3530 H3529 locsH3529 x3532 x3533 x3534 x3535 x3536 x3537 x3538 hl3531 hTH3529 hSH3529 bx3532 bx3533 bx3534 bx3536 bx3537 bx3538 ex3533 ex3534 ex3535 ex3536 ex3537 ex3538 cy3539_0 cy3539_1 cy3539_2 cy3539_3 cy3539_4 cy3539_5 cy3539_6 cy3539_7 cy3539_8 cy3539_9 cy3539_10 cy3539_11 fy3539_sno fy3539_slo fy3539_sko hm41 iv41
          have rx3535 := i_rng x3535
          have J69 : ∀ (nf : Nat) (ls3541 : Array Slot) (H3540 : Heap) (locsH3540 : List Loc) (x3543 : Int32) (x3544 : Int32) (x3545 : Int32) (x3546 : Int32) (x3547 : Int32) (x3548 : Int32) (x3549 : Int32), lv_has ls3541 3 [(0, .ref a0), (1, .ref a1), (2, .int x3543)] → TY K G H3540 → va_S (AE G [0, 1, 2, 3, 4, 5, 6, 7, 8, 9, 10, 12, 14, 15, 16, 17, 18, 19, 20, 21, 22, 23, 24, 28, 29, 30, 31, 32, 33] s.heap.size) s.heap H3540 locsH3540 → (0 ≤ x3543.toInt ∧ x3543.toInt ≤ 4) → (0 ≤ x3544.toInt ∧ x3544.toInt ≤ 10) → (0 ≤ x3545.toInt ∧ x3545.toInt ≤ 1) → (0 ≤ x3547.toInt ∧ x3547.toInt ≤ 20) → (0 ≤ x3548.toInt ∧ x3548.toInt ≤ 8) → (0 ≤ x3549.toInt ∧ x3549.toInt ≤ 8) → (x3544 = fI H3540 a0 (K.1.2 8 1)) → (x3545 = fI H3540 a0 (K.1.2 8 4)) → (x3546 = fI H3540 a0 (K.1.2 8 5)) → (x3547 = fI H3540 a0 (K.1.2 8 10)) → (x3548 = fI H3540 a0 (K.1.2 8 13)) → (x3549 = fI H3540 a0 (K.1.2 8 16)) → (nt = fR H3540 a0 (K.1.2 8 12)) → (lt = fR H3540 a0 (K.1.2 8 14)) → (kt = fR H3540 a0 (K.1.2 8 15)) → (no = fR H3540 a1 (K.1.2 8 12)) → (lo = fR H3540 a1 (K.1.2 8 14)) → (ko = fR H3540 a1 (K.1.2 8 15)) → (n1 = fI H3540 a1 (K.1.2 8 1)) → (n4 = fI H3540 a1 (K.1.2 8 4)) → (n5 = fI H3540 a1 (K.1.2 8 5)) → (n10 = fI H3540 a1 (K.1.2 8 10)) → (n13 = fI H3540 a1 (K.1.2 8 13)) → (n16 = fI H3540 a1 (K.1.2 8 16)) → (∀ j : Nat, fI H3540 no j = fI s.heap no j) → (∀ j : Nat, fI H3540 lo j = fI s.heap lo j) → (∀ j : Nat, fI H3540 ko j = fI s.heap ko j) → (4 - x3543.toInt < (nf : Int)) → (x3544.toInt = n1.toInt) → W p l e ({ frames := 2, cells := 0, slots := 0, locals := 62 } : Room) s m (([.ref a0, .ref a1] : List Value).toArray) below meth c H3540 locsH3540 0 0 Q (F0 m 69 ls3541 []) := by
            intro nf
            induction nf with
            | zero =>
              intro ls3541 H3540 locsH3540 x3543 x3544 x3545 x3546 x3547 x3548 x3549 hl3542 hTH3540 hSH3540 bx3543 bx3544 bx3545 bx3547 bx3548 bx3549 ex3544 ex3545 ex3546 ex3547 ex3548 ex3549 cy3550_0 cy3550_1 cy3550_2 cy3550_3 cy3550_4 cy3550_5 cy3550_6 cy3550_7 cy3550_8 cy3550_9 cy3550_10 cy3550_11 fy3550_sno fy3550_slo fy3550_sko hm69 iv69
              have rx3546 := i_rng x3546
              exfalso
              omega
            | succ nf ih69 =>
              intro ls3541 H3540 locsH3540 x3543 x3544 x3545 x3546 x3547 x3548 x3549 hl3542 hTH3540 hSH3540 bx3543 bx3544 bx3545 bx3547 bx3548 bx3549 ex3544 ex3545 ex3546 ex3547 ex3548 ex3549 cy3550_0 cy3550_1 cy3550_2 cy3550_3 cy3550_4 cy3550_5 cy3550_6 cy3550_7 cy3550_8 cy3550_9 cy3550_10 cy3550_11 fy3550_sno fy3550_slo fy3550_sko hm69 iv69
              have rx3546 := i_rng x3546
              refine lv_iload_n hx hb dX8_copyFrom_69 rfl (lv_at hl3542 2 rfl) ?_
              refine lv_iconst (v := 4) hx hb dX8_copyFrom_70 (by decide) ?_
              refine lv_icmp_ge (tgt := 95) hx hb dX8_copyFrom_71 (by decide) (fun c3551 => ?_) (fun c3551 => ?_)
              · have k3552 := i_le c3551
                refine lv_aload_n hx hb dX8_copyFrom_95 rfl (lv_at hl3542 0 rfl) ?_
                refine lv_aload_n hx hb dX8_copyFrom_96 rfl (lv_at hl3542 1 rfl) ?_
                refine x_gi C hTH3540 (ci := 8) (k := 4) rfl inX8 (by decide) wF_X8_54 ga1 rg_34 rfl dX8_copyFrom_97 (fun x3553 ex3553 bx3553 => ?_)
                have ux3553 : n4 = x3553 := (cy3550_7).trans ex3553.symm
                subst ux3553
                refine x_put C hTH3540 hSH3540 (ci := 8) (k := 4) (v := .int n4) (ty0 := tyX8) rfl inX8 tyX8_ok nmX8 (by decide) rfl wF_X8_54 ga0 rg_0 rfl rfl (okI (by have := i_rng n4; omega) (by have := i_rng n4; omega)) rfl rfl (AE_in ga0 (by decide)) dX8_copyFrom_100 (fun H3554 locsH3554 hTH3554 hSH3554 wH3554 => ?_)
                have f3555 : ∀ j : Nat, fI H3554 no j = fI s.heap no j := fun j => (Wr.neI wH3554 (Or.inl (G_ne gno ga0 (by decide)))).trans (fy3550_sno j)
                have f3556 : ∀ j : Nat, fI H3554 lo j = fI s.heap lo j := fun j => (Wr.neI wH3554 (Or.inl (G_ne glo ga0 (by decide)))).trans (fy3550_slo j)
                have f3557 : ∀ j : Nat, fI H3554 ko j = fI s.heap ko j := fun j => (Wr.neI wH3554 (Or.inl (G_ne gko ga0 (by decide)))).trans (fy3550_sko j)
                have m3558 := ex3544.trans (Wr.neI wH3554 (Or.inr (x_apart hKT hts inX8 tyX8 tyX8_ok nmX8 rfl 1 4 (by decide) (by decide) (by decide)))).symm
                have m3560 := ex3546.trans (Wr.neI wH3554 (Or.inr (x_apart hKT hts inX8 tyX8 tyX8_ok nmX8 rfl 5 4 (by decide) (by decide) (by decide)))).symm
                have m3561 := ex3547.trans (Wr.neI wH3554 (Or.inr (x_apart hKT hts inX8 tyX8 tyX8_ok nmX8 rfl 10 4 (by decide) (by decide) (by decide)))).symm
                have m3562 := ex3548.trans (Wr.neI wH3554 (Or.inr (x_apart hKT hts inX8 tyX8 tyX8_ok nmX8 rfl 13 4 (by decide) (by decide) (by decide)))).symm
                have m3563 := ex3549.trans (Wr.neI wH3554 (Or.inr (x_apart hKT hts inX8 tyX8 tyX8_ok nmX8 rfl 16 4 (by decide) (by decide) (by decide)))).symm
                have m3564 := cy3550_0.trans (Wr.neR wH3554 (Or.inr (x_apart hKT hts inX8 tyX8 tyX8_ok nmX8 rfl 12 4 (by decide) (by decide) (by decide)))).symm
                have m3565 := cy3550_1.trans (Wr.neR wH3554 (Or.inr (x_apart hKT hts inX8 tyX8 tyX8_ok nmX8 rfl 14 4 (by decide) (by decide) (by decide)))).symm
                have m3566 := cy3550_2.trans (Wr.neR wH3554 (Or.inr (x_apart hKT hts inX8 tyX8 tyX8_ok nmX8 rfl 15 4 (by decide) (by decide) (by decide)))).symm
                have m3567 := cy3550_3.trans (Wr.neR wH3554 (Or.inl (G_ne ga1 ga0 (by decide)))).symm
                have m3568 := cy3550_4.trans (Wr.neR wH3554 (Or.inl (G_ne ga1 ga0 (by decide)))).symm
                have m3569 := cy3550_5.trans (Wr.neR wH3554 (Or.inl (G_ne ga1 ga0 (by decide)))).symm
                have m3570 := cy3550_6.trans (Wr.neI wH3554 (Or.inl (G_ne ga1 ga0 (by decide)))).symm
                have m3571 := cy3550_7.trans (Wr.neI wH3554 (Or.inl (G_ne ga1 ga0 (by decide)))).symm
                have m3572 := cy3550_8.trans (Wr.neI wH3554 (Or.inl (G_ne ga1 ga0 (by decide)))).symm
                have m3573 := cy3550_9.trans (Wr.neI wH3554 (Or.inl (G_ne ga1 ga0 (by decide)))).symm
                have m3574 := cy3550_10.trans (Wr.neI wH3554 (Or.inl (G_ne ga1 ga0 (by decide)))).symm
                have m3575 := cy3550_11.trans (Wr.neI wH3554 (Or.inl (G_ne ga1 ga0 (by decide)))).symm
                have m3576 := Wr.I wH3554
                have m3576 := m3576.symm
                refine lv_aload_n hx hb dX8_copyFrom_103 rfl (lv_at hl3542 0 rfl) ?_
                refine lv_aload_n hx hb dX8_copyFrom_104 rfl (lv_at hl3542 1 rfl) ?_
                refine x_gi C hTH3554 (ci := 8) (k := 5) rfl inX8 (by decide) wF_X8_26 ga1 rg_34 rfl dX8_copyFrom_105 (fun x3577 ex3577 bx3577 => ?_)
                have ux3577 : n5 = x3577 := (m3572).trans ex3577.symm
                subst ux3577
                refine x_put C hTH3554 hSH3554 (ci := 8) (k := 5) (v := .int n5) (ty0 := tyX8) rfl inX8 tyX8_ok nmX8 (by decide) rfl wF_X8_26 ga0 rg_0 rfl rfl (okI (by have := i_rng n5; omega) (by have := i_rng n5; omega)) rfl rfl (AE_in ga0 (by decide)) dX8_copyFrom_108 (fun H3578 locsH3578 hTH3578 hSH3578 wH3578 => ?_)
                have f3579 : ∀ j : Nat, fI H3578 no j = fI s.heap no j := fun j => (Wr.neI wH3578 (Or.inl (G_ne gno ga0 (by decide)))).trans (f3555 j)
                have f3580 : ∀ j : Nat, fI H3578 lo j = fI s.heap lo j := fun j => (Wr.neI wH3578 (Or.inl (G_ne glo ga0 (by decide)))).trans (f3556 j)
                have f3581 : ∀ j : Nat, fI H3578 ko j = fI s.heap ko j := fun j => (Wr.neI wH3578 (Or.inl (G_ne gko ga0 (by decide)))).trans (f3557 j)
                have m3582 := m3558.trans (Wr.neI wH3578 (Or.inr (x_apart hKT hts inX8 tyX8 tyX8_ok nmX8 rfl 1 5 (by decide) (by decide) (by decide)))).symm
                have m3584 := m3561.trans (Wr.neI wH3578 (Or.inr (x_apart hKT hts inX8 tyX8 tyX8_ok nmX8 rfl 10 5 (by decide) (by decide) (by decide)))).symm
                have m3585 := m3562.trans (Wr.neI wH3578 (Or.inr (x_apart hKT hts inX8 tyX8 tyX8_ok nmX8 rfl 13 5 (by decide) (by decide) (by decide)))).symm
                have m3586 := m3563.trans (Wr.neI wH3578 (Or.inr (x_apart hKT hts inX8 tyX8 tyX8_ok nmX8 rfl 16 5 (by decide) (by decide) (by decide)))).symm
                have m3587 := m3564.trans (Wr.neR wH3578 (Or.inr (x_apart hKT hts inX8 tyX8 tyX8_ok nmX8 rfl 12 5 (by decide) (by decide) (by decide)))).symm
                have m3588 := m3565.trans (Wr.neR wH3578 (Or.inr (x_apart hKT hts inX8 tyX8 tyX8_ok nmX8 rfl 14 5 (by decide) (by decide) (by decide)))).symm
                have m3589 := m3566.trans (Wr.neR wH3578 (Or.inr (x_apart hKT hts inX8 tyX8 tyX8_ok nmX8 rfl 15 5 (by decide) (by decide) (by decide)))).symm
                have m3590 := m3567.trans (Wr.neR wH3578 (Or.inl (G_ne ga1 ga0 (by decide)))).symm
                have m3591 := m3568.trans (Wr.neR wH3578 (Or.inl (G_ne ga1 ga0 (by decide)))).symm
                have m3592 := m3569.trans (Wr.neR wH3578 (Or.inl (G_ne ga1 ga0 (by decide)))).symm
                have m3593 := m3570.trans (Wr.neI wH3578 (Or.inl (G_ne ga1 ga0 (by decide)))).symm
                have m3594 := m3571.trans (Wr.neI wH3578 (Or.inl (G_ne ga1 ga0 (by decide)))).symm
                have m3595 := m3572.trans (Wr.neI wH3578 (Or.inl (G_ne ga1 ga0 (by decide)))).symm
                have m3596 := m3573.trans (Wr.neI wH3578 (Or.inl (G_ne ga1 ga0 (by decide)))).symm
                have m3597 := m3574.trans (Wr.neI wH3578 (Or.inl (G_ne ga1 ga0 (by decide)))).symm
                have m3598 := m3575.trans (Wr.neI wH3578 (Or.inl (G_ne ga1 ga0 (by decide)))).symm
                have m3599 := m3576.trans (Wr.neI wH3578 (Or.inr (x_apart hKT hts inX8 tyX8 tyX8_ok nmX8 rfl 4 5 (by decide) (by decide) (by decide)))).symm
                have m3600 := Wr.I wH3578
                have m3600 := m3600.symm
                refine lv_aload_n hx hb dX8_copyFrom_111 rfl (lv_at hl3542 0 rfl) ?_
                refine lv_aload_n hx hb dX8_copyFrom_112 rfl (lv_at hl3542 1 rfl) ?_
                refine x_gi C hTH3578 (ci := 8) (k := 6) rfl inX8 (by decide) wF_X8_67 ga1 rg_34 rfl dX8_copyFrom_113 (fun x3601 ex3601 bx3601 => ?_)
                refine x_put C hTH3578 hSH3578 (ci := 8) (k := 6) (v := .int x3601) (ty0 := tyX8) rfl inX8 tyX8_ok nmX8 (by decide) rfl wF_X8_67 ga0 rg_0 rfl rfl (okI (by have := i_rng x3601; omega) (by have := i_rng x3601; omega)) rfl rfl (AE_in ga0 (by decide)) dX8_copyFrom_116 (fun H3602 locsH3602 hTH3602 hSH3602 wH3602 => ?_)
                have f3603 : ∀ j : Nat, fI H3602 no j = fI s.heap no j := fun j => (Wr.neI wH3602 (Or.inl (G_ne gno ga0 (by decide)))).trans (f3579 j)
                have f3604 : ∀ j : Nat, fI H3602 lo j = fI s.heap lo j := fun j => (Wr.neI wH3602 (Or.inl (G_ne glo ga0 (by decide)))).trans (f3580 j)
                have f3605 : ∀ j : Nat, fI H3602 ko j = fI s.heap ko j := fun j => (Wr.neI wH3602 (Or.inl (G_ne gko ga0 (by decide)))).trans (f3581 j)
                have m3606 := m3582.trans (Wr.neI wH3602 (Or.inr (x_apart hKT hts inX8 tyX8 tyX8_ok nmX8 rfl 1 6 (by decide) (by decide) (by decide)))).symm
                have m3607 := m3584.trans (Wr.neI wH3602 (Or.inr (x_apart hKT hts inX8 tyX8 tyX8_ok nmX8 rfl 10 6 (by decide) (by decide) (by decide)))).symm
                have m3608 := m3585.trans (Wr.neI wH3602 (Or.inr (x_apart hKT hts inX8 tyX8 tyX8_ok nmX8 rfl 13 6 (by decide) (by decide) (by decide)))).symm
                have m3609 := m3586.trans (Wr.neI wH3602 (Or.inr (x_apart hKT hts inX8 tyX8 tyX8_ok nmX8 rfl 16 6 (by decide) (by decide) (by decide)))).symm
                have m3610 := m3587.trans (Wr.neR wH3602 (Or.inr (x_apart hKT hts inX8 tyX8 tyX8_ok nmX8 rfl 12 6 (by decide) (by decide) (by decide)))).symm
                have m3611 := m3588.trans (Wr.neR wH3602 (Or.inr (x_apart hKT hts inX8 tyX8 tyX8_ok nmX8 rfl 14 6 (by decide) (by decide) (by decide)))).symm
                have m3612 := m3589.trans (Wr.neR wH3602 (Or.inr (x_apart hKT hts inX8 tyX8 tyX8_ok nmX8 rfl 15 6 (by decide) (by decide) (by decide)))).symm
                have m3613 := m3590.trans (Wr.neR wH3602 (Or.inl (G_ne ga1 ga0 (by decide)))).symm
                have m3614 := m3591.trans (Wr.neR wH3602 (Or.inl (G_ne ga1 ga0 (by decide)))).symm
                have m3615 := m3592.trans (Wr.neR wH3602 (Or.inl (G_ne ga1 ga0 (by decide)))).symm
                have m3616 := m3593.trans (Wr.neI wH3602 (Or.inl (G_ne ga1 ga0 (by decide)))).symm
                have m3617 := m3594.trans (Wr.neI wH3602 (Or.inl (G_ne ga1 ga0 (by decide)))).symm
                have m3618 := m3595.trans (Wr.neI wH3602 (Or.inl (G_ne ga1 ga0 (by decide)))).symm
                have m3619 := m3596.trans (Wr.neI wH3602 (Or.inl (G_ne ga1 ga0 (by decide)))).symm
                have m3620 := m3597.trans (Wr.neI wH3602 (Or.inl (G_ne ga1 ga0 (by decide)))).symm
                have m3621 := m3598.trans (Wr.neI wH3602 (Or.inl (G_ne ga1 ga0 (by decide)))).symm
                have m3622 := m3599.trans (Wr.neI wH3602 (Or.inr (x_apart hKT hts inX8 tyX8 tyX8_ok nmX8 rfl 4 6 (by decide) (by decide) (by decide)))).symm
                have m3623 := m3600.trans (Wr.neI wH3602 (Or.inr (x_apart hKT hts inX8 tyX8 tyX8_ok nmX8 rfl 5 6 (by decide) (by decide) (by decide)))).symm
                have m3624 := ex3601.trans (Wr.neI wH3602 (Or.inl (G_ne ga1 ga0 (by decide)))).symm
                have m3625 := Wr.I wH3602
                have m3625 := m3625.symm
                refine lv_aload_n hx hb dX8_copyFrom_119 rfl (lv_at hl3542 0 rfl) ?_
                refine lv_aload_n hx hb dX8_copyFrom_120 rfl (lv_at hl3542 1 rfl) ?_
                refine x_gi C hTH3602 (ci := 8) (k := 7) rfl inX8 (by decide) wF_X8_30 ga1 rg_34 rfl dX8_copyFrom_121 (fun x3626 ex3626 bx3626 => ?_)
                refine x_put C hTH3602 hSH3602 (ci := 8) (k := 7) (v := .int x3626) (ty0 := tyX8) rfl inX8 tyX8_ok nmX8 (by decide) rfl wF_X8_30 ga0 rg_0 rfl rfl (okI (by have := i_rng x3626; omega) (by have := i_rng x3626; omega)) rfl rfl (AE_in ga0 (by decide)) dX8_copyFrom_124 (fun H3627 locsH3627 hTH3627 hSH3627 wH3627 => ?_)
                have f3628 : ∀ j : Nat, fI H3627 no j = fI s.heap no j := fun j => (Wr.neI wH3627 (Or.inl (G_ne gno ga0 (by decide)))).trans (f3603 j)
                have f3629 : ∀ j : Nat, fI H3627 lo j = fI s.heap lo j := fun j => (Wr.neI wH3627 (Or.inl (G_ne glo ga0 (by decide)))).trans (f3604 j)
                have f3630 : ∀ j : Nat, fI H3627 ko j = fI s.heap ko j := fun j => (Wr.neI wH3627 (Or.inl (G_ne gko ga0 (by decide)))).trans (f3605 j)
                have m3631 := m3606.trans (Wr.neI wH3627 (Or.inr (x_apart hKT hts inX8 tyX8 tyX8_ok nmX8 rfl 1 7 (by decide) (by decide) (by decide)))).symm
                have m3632 := m3607.trans (Wr.neI wH3627 (Or.inr (x_apart hKT hts inX8 tyX8 tyX8_ok nmX8 rfl 10 7 (by decide) (by decide) (by decide)))).symm
                have m3633 := m3608.trans (Wr.neI wH3627 (Or.inr (x_apart hKT hts inX8 tyX8 tyX8_ok nmX8 rfl 13 7 (by decide) (by decide) (by decide)))).symm
                have m3634 := m3609.trans (Wr.neI wH3627 (Or.inr (x_apart hKT hts inX8 tyX8 tyX8_ok nmX8 rfl 16 7 (by decide) (by decide) (by decide)))).symm
                have m3635 := m3610.trans (Wr.neR wH3627 (Or.inr (x_apart hKT hts inX8 tyX8 tyX8_ok nmX8 rfl 12 7 (by decide) (by decide) (by decide)))).symm
                have m3636 := m3611.trans (Wr.neR wH3627 (Or.inr (x_apart hKT hts inX8 tyX8 tyX8_ok nmX8 rfl 14 7 (by decide) (by decide) (by decide)))).symm
                have m3637 := m3612.trans (Wr.neR wH3627 (Or.inr (x_apart hKT hts inX8 tyX8 tyX8_ok nmX8 rfl 15 7 (by decide) (by decide) (by decide)))).symm
                have m3638 := m3613.trans (Wr.neR wH3627 (Or.inl (G_ne ga1 ga0 (by decide)))).symm
                have m3639 := m3614.trans (Wr.neR wH3627 (Or.inl (G_ne ga1 ga0 (by decide)))).symm
                have m3640 := m3615.trans (Wr.neR wH3627 (Or.inl (G_ne ga1 ga0 (by decide)))).symm
                have m3641 := m3616.trans (Wr.neI wH3627 (Or.inl (G_ne ga1 ga0 (by decide)))).symm
                have m3642 := m3617.trans (Wr.neI wH3627 (Or.inl (G_ne ga1 ga0 (by decide)))).symm
                have m3643 := m3618.trans (Wr.neI wH3627 (Or.inl (G_ne ga1 ga0 (by decide)))).symm
                have m3644 := m3619.trans (Wr.neI wH3627 (Or.inl (G_ne ga1 ga0 (by decide)))).symm
                have m3645 := m3620.trans (Wr.neI wH3627 (Or.inl (G_ne ga1 ga0 (by decide)))).symm
                have m3646 := m3621.trans (Wr.neI wH3627 (Or.inl (G_ne ga1 ga0 (by decide)))).symm
                have m3647 := m3622.trans (Wr.neI wH3627 (Or.inr (x_apart hKT hts inX8 tyX8 tyX8_ok nmX8 rfl 4 7 (by decide) (by decide) (by decide)))).symm
                have m3648 := m3623.trans (Wr.neI wH3627 (Or.inr (x_apart hKT hts inX8 tyX8 tyX8_ok nmX8 rfl 5 7 (by decide) (by decide) (by decide)))).symm
                have m3649 := m3624.trans (Wr.neI wH3627 (Or.inl (G_ne ga1 ga0 (by decide)))).symm
                have m3650 := m3625.trans (Wr.neI wH3627 (Or.inr (x_apart hKT hts inX8 tyX8 tyX8_ok nmX8 rfl 6 7 (by decide) (by decide) (by decide)))).symm
                have m3651 := ex3626.trans (Wr.neI wH3627 (Or.inl (G_ne ga1 ga0 (by decide)))).symm
                have m3652 := Wr.I wH3627
                have m3652 := m3652.symm
                refine lv_aload_n hx hb dX8_copyFrom_127 rfl (lv_at hl3542 1 rfl) ?_
                refine x_gr C hTH3627 (ci := 8) (k := 8) rfl inX8 (by decide) wF_X8_33 ga1 rg_34 rfl dX8_copyFrom_128 (fun q3653 eq3653 gq3653 => ?_)
                refine lv_iconst (v := 0) hx hb dX8_copyFrom_131 (by decide) ?_
                refine lv_aload_n hx hb dX8_copyFrom_132 rfl (lv_at hl3542 0 rfl) ?_
                refine x_gr C hTH3627 (ci := 8) (k := 8) rfl inX8 (by decide) wF_X8_33 ga0 rg_0 rfl dX8_copyFrom_133 (fun q3654 eq3654 gq3654 => ?_)
                refine lv_iconst (v := 0) hx hb dX8_copyFrom_136 (by decide) ?_
                refine lv_bipush (v := 20) hx hb dX8_copyFrom_137 (by decide) ?_
                refine x_copy C hTH3627 hSH3627 wM_X8_70 wNT_arraycopy wST_arraycopy wIN_J10 gq3653 gq3654 rg_62 rg_28 (by decide) (by omega) (by omega) (by omega) (by show _ ≤ ((20 : Nat) : Int); omega) (by show _ ≤ ((20 : Nat) : Int); omega) (AE_in gq3654 (by decide)) hl3542.1 (by decide) dX8_copyFrom_139 (fun H3655 locsH3655 hTH3655 hSH3655 zH3655 oH3655 vH3655 wH3655 => ?_)
                have m3656 := (m3631).trans (fI_kept (oH3655 _ (G_ne ga0 gq3654 (by decide)))).symm
                have m3657 := (m3632).trans (fI_kept (oH3655 _ (G_ne ga0 gq3654 (by decide)))).symm
                have m3658 := (m3633).trans (fI_kept (oH3655 _ (G_ne ga0 gq3654 (by decide)))).symm
                have m3659 := (m3634).trans (fI_kept (oH3655 _ (G_ne ga0 gq3654 (by decide)))).symm
                have m3660 := (m3635).trans (fR_kept (oH3655 _ (G_ne ga0 gq3654 (by decide)))).symm
                have m3661 := (m3636).trans (fR_kept (oH3655 _ (G_ne ga0 gq3654 (by decide)))).symm
                have m3662 := (m3637).trans (fR_kept (oH3655 _ (G_ne ga0 gq3654 (by decide)))).symm
                have m3663 := (m3638).trans (fR_kept (oH3655 _ (G_ne ga1 gq3654 (by decide)))).symm
                have m3664 := (m3639).trans (fR_kept (oH3655 _ (G_ne ga1 gq3654 (by decide)))).symm
                have m3665 := (m3640).trans (fR_kept (oH3655 _ (G_ne ga1 gq3654 (by decide)))).symm
                have m3666 := (m3641).trans (fI_kept (oH3655 _ (G_ne ga1 gq3654 (by decide)))).symm
                have m3667 := (m3642).trans (fI_kept (oH3655 _ (G_ne ga1 gq3654 (by decide)))).symm
                have m3668 := (m3643).trans (fI_kept (oH3655 _ (G_ne ga1 gq3654 (by decide)))).symm
                have m3669 := (m3644).trans (fI_kept (oH3655 _ (G_ne ga1 gq3654 (by decide)))).symm
                have m3670 := (m3645).trans (fI_kept (oH3655 _ (G_ne ga1 gq3654 (by decide)))).symm
                have m3671 := (m3646).trans (fI_kept (oH3655 _ (G_ne ga1 gq3654 (by decide)))).symm
                have m3672 := (m3647).trans (fI_kept (oH3655 _ (G_ne ga0 gq3654 (by decide)))).symm
                have m3673 := (m3648).trans (fI_kept (oH3655 _ (G_ne ga0 gq3654 (by decide)))).symm
                have m3674 := (m3649).trans (fI_kept (oH3655 _ (G_ne ga1 gq3654 (by decide)))).symm
                have m3675 := (m3650).trans (fI_kept (oH3655 _ (G_ne ga0 gq3654 (by decide)))).symm
                have m3676 := (m3651).trans (fI_kept (oH3655 _ (G_ne ga1 gq3654 (by decide)))).symm
                have m3677 := (m3652).trans (fI_kept (oH3655 _ (G_ne ga0 gq3654 (by decide)))).symm
                have m3678 := (eq3653).trans (fR_kept (oH3655 _ (G_ne ga1 gq3654 (by decide)))).symm
                have m3679 := (eq3654).trans (fR_kept (oH3655 _ (G_ne ga0 gq3654 (by decide)))).symm
                have f3680 : ∀ j : Nat, fI H3655 no j = fI s.heap no j := fun j => (fI_kept (oH3655 _ (G_ne gno gq3654 (by decide)))).trans (f3628 j)
                have f3681 : ∀ j : Nat, fI H3655 lo j = fI s.heap lo j := fun j => (fI_kept (oH3655 _ (G_ne glo gq3654 (by decide)))).trans (f3629 j)
                have f3682 : ∀ j : Nat, fI H3655 ko j = fI s.heap ko j := fun j => (fI_kept (oH3655 _ (G_ne gko gq3654 (by decide)))).trans (f3630 j)
                refine lv_aload_n hx hb dX8_copyFrom_142 rfl (lv_at hl3542 1 rfl) ?_
                refine x_gr C hTH3655 (ci := 8) (k := 9) rfl inX8 (by decide) wF_X8_37 ga1 rg_34 rfl dX8_copyFrom_143 (fun q3683 eq3683 gq3683 => ?_)
                refine lv_iconst (v := 0) hx hb dX8_copyFrom_146 (by decide) ?_
                refine lv_aload_n hx hb dX8_copyFrom_147 rfl (lv_at hl3542 0 rfl) ?_
                refine x_gr C hTH3655 (ci := 8) (k := 9) rfl inX8 (by decide) wF_X8_37 ga0 rg_0 rfl dX8_copyFrom_148 (fun q3684 eq3684 gq3684 => ?_)
                refine lv_iconst (v := 0) hx hb dX8_copyFrom_151 (by decide) ?_
                refine lv_bipush (v := 20) hx hb dX8_copyFrom_152 (by decide) ?_
                refine x_copy C hTH3655 hSH3655 wM_X8_70 wNT_arraycopy wST_arraycopy wIN_J10 gq3683 gq3684 rg_63 rg_29 (by decide) (by omega) (by omega) (by omega) (by show _ ≤ ((20 : Nat) : Int); omega) (by show _ ≤ ((20 : Nat) : Int); omega) (AE_in gq3684 (by decide)) hl3542.1 (by decide) dX8_copyFrom_154 (fun H3685 locsH3685 hTH3685 hSH3685 zH3685 oH3685 vH3685 wH3685 => ?_)
                have m3686 := (m3656).trans (fI_kept (oH3685 _ (G_ne ga0 gq3684 (by decide)))).symm
                have m3687 := (m3657).trans (fI_kept (oH3685 _ (G_ne ga0 gq3684 (by decide)))).symm
                have m3688 := (m3658).trans (fI_kept (oH3685 _ (G_ne ga0 gq3684 (by decide)))).symm
                have m3689 := (m3659).trans (fI_kept (oH3685 _ (G_ne ga0 gq3684 (by decide)))).symm
                have m3690 := (m3660).trans (fR_kept (oH3685 _ (G_ne ga0 gq3684 (by decide)))).symm
                have m3691 := (m3661).trans (fR_kept (oH3685 _ (G_ne ga0 gq3684 (by decide)))).symm
                have m3692 := (m3662).trans (fR_kept (oH3685 _ (G_ne ga0 gq3684 (by decide)))).symm
                have m3693 := (m3663).trans (fR_kept (oH3685 _ (G_ne ga1 gq3684 (by decide)))).symm
                have m3694 := (m3664).trans (fR_kept (oH3685 _ (G_ne ga1 gq3684 (by decide)))).symm
                have m3695 := (m3665).trans (fR_kept (oH3685 _ (G_ne ga1 gq3684 (by decide)))).symm
                have m3696 := (m3666).trans (fI_kept (oH3685 _ (G_ne ga1 gq3684 (by decide)))).symm
                have m3697 := (m3667).trans (fI_kept (oH3685 _ (G_ne ga1 gq3684 (by decide)))).symm
                have m3698 := (m3668).trans (fI_kept (oH3685 _ (G_ne ga1 gq3684 (by decide)))).symm
                have m3699 := (m3669).trans (fI_kept (oH3685 _ (G_ne ga1 gq3684 (by decide)))).symm
                have m3700 := (m3670).trans (fI_kept (oH3685 _ (G_ne ga1 gq3684 (by decide)))).symm
                have m3701 := (m3671).trans (fI_kept (oH3685 _ (G_ne ga1 gq3684 (by decide)))).symm
                have m3702 := (m3672).trans (fI_kept (oH3685 _ (G_ne ga0 gq3684 (by decide)))).symm
                have m3703 := (m3673).trans (fI_kept (oH3685 _ (G_ne ga0 gq3684 (by decide)))).symm
                have m3704 := (m3674).trans (fI_kept (oH3685 _ (G_ne ga1 gq3684 (by decide)))).symm
                have m3705 := (m3675).trans (fI_kept (oH3685 _ (G_ne ga0 gq3684 (by decide)))).symm
                have m3706 := (m3676).trans (fI_kept (oH3685 _ (G_ne ga1 gq3684 (by decide)))).symm
                have m3707 := (m3677).trans (fI_kept (oH3685 _ (G_ne ga0 gq3684 (by decide)))).symm
                have m3708 := (m3678).trans (fR_kept (oH3685 _ (G_ne ga1 gq3684 (by decide)))).symm
                have m3709 := (m3679).trans (fR_kept (oH3685 _ (G_ne ga0 gq3684 (by decide)))).symm
                have m3710 := (eq3683).trans (fR_kept (oH3685 _ (G_ne ga1 gq3684 (by decide)))).symm
                have m3711 := (eq3684).trans (fR_kept (oH3685 _ (G_ne ga0 gq3684 (by decide)))).symm
                have f3712 : ∀ j : Nat, fI H3685 no j = fI s.heap no j := fun j => (fI_kept (oH3685 _ (G_ne gno gq3684 (by decide)))).trans (f3680 j)
                have f3713 : ∀ j : Nat, fI H3685 lo j = fI s.heap lo j := fun j => (fI_kept (oH3685 _ (G_ne glo gq3684 (by decide)))).trans (f3681 j)
                have f3714 : ∀ j : Nat, fI H3685 ko j = fI s.heap ko j := fun j => (fI_kept (oH3685 _ (G_ne gko gq3684 (by decide)))).trans (f3682 j)
                refine lv_aload_n hx hb dX8_copyFrom_157 rfl (lv_at hl3542 0 rfl) ?_
                refine lv_aload_n hx hb dX8_copyFrom_158 rfl (lv_at hl3542 1 rfl) ?_
                refine x_gi C hTH3685 (ci := 8) (k := 10) rfl inX8 (by decide) wF_X8_76 ga1 rg_34 rfl dX8_copyFrom_159 (fun x3715 ex3715 bx3715 => ?_)
                have ux3715 : n10 = x3715 := (m3699).trans ex3715.symm
                subst ux3715
                refine x_put C hTH3685 hSH3685 (ci := 8) (k := 10) (v := .int n10) (ty0 := tyX8) rfl inX8 tyX8_ok nmX8 (by decide) rfl wF_X8_76 ga0 rg_0 rfl rfl (okI (by have := i_rng n10; omega) (by have := i_rng n10; omega)) rfl rfl (AE_in ga0 (by decide)) dX8_copyFrom_162 (fun H3716 locsH3716 hTH3716 hSH3716 wH3716 => ?_)
                have f3717 : ∀ j : Nat, fI H3716 no j = fI s.heap no j := fun j => (Wr.neI wH3716 (Or.inl (G_ne gno ga0 (by decide)))).trans (f3712 j)
                have f3718 : ∀ j : Nat, fI H3716 lo j = fI s.heap lo j := fun j => (Wr.neI wH3716 (Or.inl (G_ne glo ga0 (by decide)))).trans (f3713 j)
                have f3719 : ∀ j : Nat, fI H3716 ko j = fI s.heap ko j := fun j => (Wr.neI wH3716 (Or.inl (G_ne gko ga0 (by decide)))).trans (f3714 j)
                have m3720 := m3686.trans (Wr.neI wH3716 (Or.inr (x_apart hKT hts inX8 tyX8 tyX8_ok nmX8 rfl 1 10 (by decide) (by decide) (by decide)))).symm
                have m3722 := m3688.trans (Wr.neI wH3716 (Or.inr (x_apart hKT hts inX8 tyX8 tyX8_ok nmX8 rfl 13 10 (by decide) (by decide) (by decide)))).symm
                have m3723 := m3689.trans (Wr.neI wH3716 (Or.inr (x_apart hKT hts inX8 tyX8 tyX8_ok nmX8 rfl 16 10 (by decide) (by decide) (by decide)))).symm
                have m3724 := m3690.trans (Wr.neR wH3716 (Or.inr (x_apart hKT hts inX8 tyX8 tyX8_ok nmX8 rfl 12 10 (by decide) (by decide) (by decide)))).symm
                have m3725 := m3691.trans (Wr.neR wH3716 (Or.inr (x_apart hKT hts inX8 tyX8 tyX8_ok nmX8 rfl 14 10 (by decide) (by decide) (by decide)))).symm
                have m3726 := m3692.trans (Wr.neR wH3716 (Or.inr (x_apart hKT hts inX8 tyX8 tyX8_ok nmX8 rfl 15 10 (by decide) (by decide) (by decide)))).symm
                have m3727 := m3693.trans (Wr.neR wH3716 (Or.inl (G_ne ga1 ga0 (by decide)))).symm
                have m3728 := m3694.trans (Wr.neR wH3716 (Or.inl (G_ne ga1 ga0 (by decide)))).symm
                have m3729 := m3695.trans (Wr.neR wH3716 (Or.inl (G_ne ga1 ga0 (by decide)))).symm
                have m3730 := m3696.trans (Wr.neI wH3716 (Or.inl (G_ne ga1 ga0 (by decide)))).symm
                have m3731 := m3697.trans (Wr.neI wH3716 (Or.inl (G_ne ga1 ga0 (by decide)))).symm
                have m3732 := m3698.trans (Wr.neI wH3716 (Or.inl (G_ne ga1 ga0 (by decide)))).symm
                have m3733 := m3699.trans (Wr.neI wH3716 (Or.inl (G_ne ga1 ga0 (by decide)))).symm
                have m3734 := m3700.trans (Wr.neI wH3716 (Or.inl (G_ne ga1 ga0 (by decide)))).symm
                have m3735 := m3701.trans (Wr.neI wH3716 (Or.inl (G_ne ga1 ga0 (by decide)))).symm
                have m3736 := m3702.trans (Wr.neI wH3716 (Or.inr (x_apart hKT hts inX8 tyX8 tyX8_ok nmX8 rfl 4 10 (by decide) (by decide) (by decide)))).symm
                have m3737 := m3703.trans (Wr.neI wH3716 (Or.inr (x_apart hKT hts inX8 tyX8 tyX8_ok nmX8 rfl 5 10 (by decide) (by decide) (by decide)))).symm
                have m3738 := m3704.trans (Wr.neI wH3716 (Or.inl (G_ne ga1 ga0 (by decide)))).symm
                have m3739 := m3705.trans (Wr.neI wH3716 (Or.inr (x_apart hKT hts inX8 tyX8 tyX8_ok nmX8 rfl 6 10 (by decide) (by decide) (by decide)))).symm
                have m3740 := m3706.trans (Wr.neI wH3716 (Or.inl (G_ne ga1 ga0 (by decide)))).symm
                have m3741 := m3707.trans (Wr.neI wH3716 (Or.inr (x_apart hKT hts inX8 tyX8 tyX8_ok nmX8 rfl 7 10 (by decide) (by decide) (by decide)))).symm
                have m3742 := m3708.trans (Wr.neR wH3716 (Or.inl (G_ne ga1 ga0 (by decide)))).symm
                have m3743 := m3709.trans (Wr.neR wH3716 (Or.inr (x_apart hKT hts inX8 tyX8 tyX8_ok nmX8 rfl 8 10 (by decide) (by decide) (by decide)))).symm
                have m3744 := m3710.trans (Wr.neR wH3716 (Or.inl (G_ne ga1 ga0 (by decide)))).symm
                have m3745 := m3711.trans (Wr.neR wH3716 (Or.inr (x_apart hKT hts inX8 tyX8 tyX8_ok nmX8 rfl 9 10 (by decide) (by decide) (by decide)))).symm
                have m3746 := Wr.I wH3716
                have m3746 := m3746.symm
                refine lv_aload_n hx hb dX8_copyFrom_165 rfl (lv_at hl3542 1 rfl) ?_
                refine x_gr C hTH3716 (ci := 8) (k := 11) rfl inX8 (by decide) wF_X8_40 ga1 rg_34 rfl dX8_copyFrom_166 (fun q3747 eq3747 gq3747 => ?_)
                refine lv_iconst (v := 0) hx hb dX8_copyFrom_169 (by decide) ?_
                refine lv_aload_n hx hb dX8_copyFrom_170 rfl (lv_at hl3542 0 rfl) ?_
                refine x_gr C hTH3716 (ci := 8) (k := 11) rfl inX8 (by decide) wF_X8_40 ga0 rg_0 rfl dX8_copyFrom_171 (fun q3748 eq3748 gq3748 => ?_)
                refine lv_iconst (v := 0) hx hb dX8_copyFrom_174 (by decide) ?_
                refine lv_bipush (v := 8) hx hb dX8_copyFrom_175 (by decide) ?_
                refine x_copy C hTH3716 hSH3716 wM_X8_70 wNT_arraycopy wST_arraycopy wIN_J10 gq3747 gq3748 rg_64 rg_30 (by decide) (by omega) (by omega) (by omega) (by show _ ≤ ((8 : Nat) : Int); omega) (by show _ ≤ ((8 : Nat) : Int); omega) (AE_in gq3748 (by decide)) hl3542.1 (by decide) dX8_copyFrom_177 (fun H3749 locsH3749 hTH3749 hSH3749 zH3749 oH3749 vH3749 wH3749 => ?_)
                have m3750 := (m3720).trans (fI_kept (oH3749 _ (G_ne ga0 gq3748 (by decide)))).symm
                have m3751 := (m3722).trans (fI_kept (oH3749 _ (G_ne ga0 gq3748 (by decide)))).symm
                have m3752 := (m3723).trans (fI_kept (oH3749 _ (G_ne ga0 gq3748 (by decide)))).symm
                have m3753 := (m3724).trans (fR_kept (oH3749 _ (G_ne ga0 gq3748 (by decide)))).symm
                have m3754 := (m3725).trans (fR_kept (oH3749 _ (G_ne ga0 gq3748 (by decide)))).symm
                have m3755 := (m3726).trans (fR_kept (oH3749 _ (G_ne ga0 gq3748 (by decide)))).symm
                have m3756 := (m3727).trans (fR_kept (oH3749 _ (G_ne ga1 gq3748 (by decide)))).symm
                have m3757 := (m3728).trans (fR_kept (oH3749 _ (G_ne ga1 gq3748 (by decide)))).symm
                have m3758 := (m3729).trans (fR_kept (oH3749 _ (G_ne ga1 gq3748 (by decide)))).symm
                have m3759 := (m3730).trans (fI_kept (oH3749 _ (G_ne ga1 gq3748 (by decide)))).symm
                have m3760 := (m3731).trans (fI_kept (oH3749 _ (G_ne ga1 gq3748 (by decide)))).symm
                have m3761 := (m3732).trans (fI_kept (oH3749 _ (G_ne ga1 gq3748 (by decide)))).symm
                have m3762 := (m3733).trans (fI_kept (oH3749 _ (G_ne ga1 gq3748 (by decide)))).symm
                have m3763 := (m3734).trans (fI_kept (oH3749 _ (G_ne ga1 gq3748 (by decide)))).symm
                have m3764 := (m3735).trans (fI_kept (oH3749 _ (G_ne ga1 gq3748 (by decide)))).symm
                have m3765 := (m3736).trans (fI_kept (oH3749 _ (G_ne ga0 gq3748 (by decide)))).symm
                have m3766 := (m3737).trans (fI_kept (oH3749 _ (G_ne ga0 gq3748 (by decide)))).symm
                have m3767 := (m3738).trans (fI_kept (oH3749 _ (G_ne ga1 gq3748 (by decide)))).symm
                have m3768 := (m3739).trans (fI_kept (oH3749 _ (G_ne ga0 gq3748 (by decide)))).symm
                have m3769 := (m3740).trans (fI_kept (oH3749 _ (G_ne ga1 gq3748 (by decide)))).symm
                have m3770 := (m3741).trans (fI_kept (oH3749 _ (G_ne ga0 gq3748 (by decide)))).symm
                have m3771 := (m3742).trans (fR_kept (oH3749 _ (G_ne ga1 gq3748 (by decide)))).symm
                have m3772 := (m3743).trans (fR_kept (oH3749 _ (G_ne ga0 gq3748 (by decide)))).symm
                have m3773 := (m3744).trans (fR_kept (oH3749 _ (G_ne ga1 gq3748 (by decide)))).symm
                have m3774 := (m3745).trans (fR_kept (oH3749 _ (G_ne ga0 gq3748 (by decide)))).symm
                have m3775 := (m3746).trans (fI_kept (oH3749 _ (G_ne ga0 gq3748 (by decide)))).symm
                have m3776 := (eq3747).trans (fR_kept (oH3749 _ (G_ne ga1 gq3748 (by decide)))).symm
                have m3777 := (eq3748).trans (fR_kept (oH3749 _ (G_ne ga0 gq3748 (by decide)))).symm
                have f3778 : ∀ j : Nat, fI H3749 no j = fI s.heap no j := fun j => (fI_kept (oH3749 _ (G_ne gno gq3748 (by decide)))).trans (f3717 j)
                have f3779 : ∀ j : Nat, fI H3749 lo j = fI s.heap lo j := fun j => (fI_kept (oH3749 _ (G_ne glo gq3748 (by decide)))).trans (f3718 j)
                have f3780 : ∀ j : Nat, fI H3749 ko j = fI s.heap ko j := fun j => (fI_kept (oH3749 _ (G_ne gko gq3748 (by decide)))).trans (f3719 j)
                refine lv_aload_n hx hb dX8_copyFrom_180 rfl (lv_at hl3542 1 rfl) ?_
                refine x_gr C hTH3749 (ci := 8) (k := 12) rfl inX8 (by decide) wF_X8_43 ga1 rg_34 rfl dX8_copyFrom_181 (fun q3781 eq3781 gq3781 => ?_)
                have uq3781 : no = q3781 := (m3756).trans eq3781.symm
                subst uq3781
                refine lv_iconst (v := 0) hx hb dX8_copyFrom_184 (by decide) ?_
                refine lv_aload_n hx hb dX8_copyFrom_185 rfl (lv_at hl3542 0 rfl) ?_
                refine x_gr C hTH3749 (ci := 8) (k := 12) rfl inX8 (by decide) wF_X8_43 ga0 rg_0 rfl dX8_copyFrom_186 (fun q3782 eq3782 gq3782 => ?_)
                have uq3782 : nt = q3782 := (m3753).trans eq3782.symm
                subst uq3782
                refine lv_iconst (v := 0) hx hb dX8_copyFrom_189 (by decide) ?_
                refine lv_bipush (v := 8) hx hb dX8_copyFrom_190 (by decide) ?_
                refine x_copy C hTH3749 hSH3749 wM_X8_70 wNT_arraycopy wST_arraycopy wIN_J10 gno gnt rg_65 rg_31 (by decide) (by omega) (by omega) (by omega) (by show _ ≤ ((8 : Nat) : Int); omega) (by show _ ≤ ((8 : Nat) : Int); omega) (AE_in gnt (by decide)) hl3542.1 (by decide) dX8_copyFrom_192 (fun H3783 locsH3783 hTH3783 hSH3783 zH3783 oH3783 vH3783 wH3783 => ?_)
                have m3784 := (m3750).trans (fI_kept (oH3783 _ (G_ne ga0 gnt (by decide)))).symm
                have m3785 := (m3751).trans (fI_kept (oH3783 _ (G_ne ga0 gnt (by decide)))).symm
                have m3786 := (m3752).trans (fI_kept (oH3783 _ (G_ne ga0 gnt (by decide)))).symm
                have m3787 := (m3753).trans (fR_kept (oH3783 _ (G_ne ga0 gnt (by decide)))).symm
                have m3788 := (m3754).trans (fR_kept (oH3783 _ (G_ne ga0 gnt (by decide)))).symm
                have m3789 := (m3755).trans (fR_kept (oH3783 _ (G_ne ga0 gnt (by decide)))).symm
                have m3790 := (m3756).trans (fR_kept (oH3783 _ (G_ne ga1 gnt (by decide)))).symm
                have m3791 := (m3757).trans (fR_kept (oH3783 _ (G_ne ga1 gnt (by decide)))).symm
                have m3792 := (m3758).trans (fR_kept (oH3783 _ (G_ne ga1 gnt (by decide)))).symm
                have m3793 := (m3759).trans (fI_kept (oH3783 _ (G_ne ga1 gnt (by decide)))).symm
                have m3794 := (m3760).trans (fI_kept (oH3783 _ (G_ne ga1 gnt (by decide)))).symm
                have m3795 := (m3761).trans (fI_kept (oH3783 _ (G_ne ga1 gnt (by decide)))).symm
                have m3796 := (m3762).trans (fI_kept (oH3783 _ (G_ne ga1 gnt (by decide)))).symm
                have m3797 := (m3763).trans (fI_kept (oH3783 _ (G_ne ga1 gnt (by decide)))).symm
                have m3798 := (m3764).trans (fI_kept (oH3783 _ (G_ne ga1 gnt (by decide)))).symm
                have m3799 := (m3765).trans (fI_kept (oH3783 _ (G_ne ga0 gnt (by decide)))).symm
                have m3800 := (m3766).trans (fI_kept (oH3783 _ (G_ne ga0 gnt (by decide)))).symm
                have m3801 := (m3767).trans (fI_kept (oH3783 _ (G_ne ga1 gnt (by decide)))).symm
                have m3802 := (m3768).trans (fI_kept (oH3783 _ (G_ne ga0 gnt (by decide)))).symm
                have m3803 := (m3769).trans (fI_kept (oH3783 _ (G_ne ga1 gnt (by decide)))).symm
                have m3804 := (m3770).trans (fI_kept (oH3783 _ (G_ne ga0 gnt (by decide)))).symm
                have m3805 := (m3771).trans (fR_kept (oH3783 _ (G_ne ga1 gnt (by decide)))).symm
                have m3806 := (m3772).trans (fR_kept (oH3783 _ (G_ne ga0 gnt (by decide)))).symm
                have m3807 := (m3773).trans (fR_kept (oH3783 _ (G_ne ga1 gnt (by decide)))).symm
                have m3808 := (m3774).trans (fR_kept (oH3783 _ (G_ne ga0 gnt (by decide)))).symm
                have m3809 := (m3775).trans (fI_kept (oH3783 _ (G_ne ga0 gnt (by decide)))).symm
                have m3810 := (m3776).trans (fR_kept (oH3783 _ (G_ne ga1 gnt (by decide)))).symm
                have m3811 := (m3777).trans (fR_kept (oH3783 _ (G_ne ga0 gnt (by decide)))).symm
                have f3812 : ∀ j : Nat, fI H3783 no j = fI s.heap no j := fun j => (fI_kept (oH3783 _ (G_ne gno gnt (by decide)))).trans (f3778 j)
                have f3813 : ∀ j : Nat, fI H3783 lo j = fI s.heap lo j := fun j => (fI_kept (oH3783 _ (G_ne glo gnt (by decide)))).trans (f3779 j)
                have f3814 : ∀ j : Nat, fI H3783 ko j = fI s.heap ko j := fun j => (fI_kept (oH3783 _ (G_ne gko gnt (by decide)))).trans (f3780 j)
                have cp3815 : ∀ j : Nat, j < 8 → fI H3783 nt j = fI s.heap no j := fun j hj => by have c00 : (0 : Int32).toNatClampNeg = 0 := rfl; have c8 : (8 : Int32).toInt = 8 := rfl; have z := wH3783 j (by omega); rw [c00, Nat.zero_add] at z; exact z.trans (f3778 j)
                refine lv_aload_n hx hb dX8_copyFrom_195 rfl (lv_at hl3542 0 rfl) ?_
                refine lv_aload_n hx hb dX8_copyFrom_196 rfl (lv_at hl3542 1 rfl) ?_
                refine x_gi C hTH3783 (ci := 8) (k := 13) rfl inX8 (by decide) wF_X8_79 ga1 rg_34 rfl dX8_copyFrom_197 (fun x3816 ex3816 bx3816 => ?_)
                have ux3816 : n13 = x3816 := (m3797).trans ex3816.symm
                subst ux3816
                refine x_put C hTH3783 hSH3783 (ci := 8) (k := 13) (v := .int n13) (ty0 := tyX8) rfl inX8 tyX8_ok nmX8 (by decide) rfl wF_X8_79 ga0 rg_0 rfl rfl (okI (by have := i_rng n13; omega) (by have := i_rng n13; omega)) rfl rfl (AE_in ga0 (by decide)) dX8_copyFrom_200 (fun H3817 locsH3817 hTH3817 hSH3817 wH3817 => ?_)
                have f3818 : ∀ j : Nat, fI H3817 no j = fI s.heap no j := fun j => (Wr.neI wH3817 (Or.inl (G_ne gno ga0 (by decide)))).trans (f3812 j)
                have f3819 : ∀ j : Nat, fI H3817 lo j = fI s.heap lo j := fun j => (Wr.neI wH3817 (Or.inl (G_ne glo ga0 (by decide)))).trans (f3813 j)
                have f3820 : ∀ j : Nat, fI H3817 ko j = fI s.heap ko j := fun j => (Wr.neI wH3817 (Or.inl (G_ne gko ga0 (by decide)))).trans (f3814 j)
                have f3821 : ∀ j : Nat, j < 8 → fI H3817 nt j = fI s.heap no j := fun j hj => (fI_kept (wH3817.off (G_ne gnt ga0 (by decide)))).trans (cp3815 j hj)
                have m3822 := m3784.trans (Wr.neI wH3817 (Or.inr (x_apart hKT hts inX8 tyX8 tyX8_ok nmX8 rfl 1 13 (by decide) (by decide) (by decide)))).symm
                have m3824 := m3786.trans (Wr.neI wH3817 (Or.inr (x_apart hKT hts inX8 tyX8 tyX8_ok nmX8 rfl 16 13 (by decide) (by decide) (by decide)))).symm
                have m3825 := m3787.trans (Wr.neR wH3817 (Or.inr (x_apart hKT hts inX8 tyX8 tyX8_ok nmX8 rfl 12 13 (by decide) (by decide) (by decide)))).symm
                have m3826 := m3788.trans (Wr.neR wH3817 (Or.inr (x_apart hKT hts inX8 tyX8 tyX8_ok nmX8 rfl 14 13 (by decide) (by decide) (by decide)))).symm
                have m3827 := m3789.trans (Wr.neR wH3817 (Or.inr (x_apart hKT hts inX8 tyX8 tyX8_ok nmX8 rfl 15 13 (by decide) (by decide) (by decide)))).symm
                have m3828 := m3790.trans (Wr.neR wH3817 (Or.inl (G_ne ga1 ga0 (by decide)))).symm
                have m3829 := m3791.trans (Wr.neR wH3817 (Or.inl (G_ne ga1 ga0 (by decide)))).symm
                have m3830 := m3792.trans (Wr.neR wH3817 (Or.inl (G_ne ga1 ga0 (by decide)))).symm
                have m3831 := m3793.trans (Wr.neI wH3817 (Or.inl (G_ne ga1 ga0 (by decide)))).symm
                have m3832 := m3794.trans (Wr.neI wH3817 (Or.inl (G_ne ga1 ga0 (by decide)))).symm
                have m3833 := m3795.trans (Wr.neI wH3817 (Or.inl (G_ne ga1 ga0 (by decide)))).symm
                have m3834 := m3796.trans (Wr.neI wH3817 (Or.inl (G_ne ga1 ga0 (by decide)))).symm
                have m3835 := m3797.trans (Wr.neI wH3817 (Or.inl (G_ne ga1 ga0 (by decide)))).symm
                have m3836 := m3798.trans (Wr.neI wH3817 (Or.inl (G_ne ga1 ga0 (by decide)))).symm
                have m3837 := m3799.trans (Wr.neI wH3817 (Or.inr (x_apart hKT hts inX8 tyX8 tyX8_ok nmX8 rfl 4 13 (by decide) (by decide) (by decide)))).symm
                have m3838 := m3800.trans (Wr.neI wH3817 (Or.inr (x_apart hKT hts inX8 tyX8 tyX8_ok nmX8 rfl 5 13 (by decide) (by decide) (by decide)))).symm
                have m3839 := m3801.trans (Wr.neI wH3817 (Or.inl (G_ne ga1 ga0 (by decide)))).symm
                have m3840 := m3802.trans (Wr.neI wH3817 (Or.inr (x_apart hKT hts inX8 tyX8 tyX8_ok nmX8 rfl 6 13 (by decide) (by decide) (by decide)))).symm
                have m3841 := m3803.trans (Wr.neI wH3817 (Or.inl (G_ne ga1 ga0 (by decide)))).symm
                have m3842 := m3804.trans (Wr.neI wH3817 (Or.inr (x_apart hKT hts inX8 tyX8 tyX8_ok nmX8 rfl 7 13 (by decide) (by decide) (by decide)))).symm
                have m3843 := m3805.trans (Wr.neR wH3817 (Or.inl (G_ne ga1 ga0 (by decide)))).symm
                have m3844 := m3806.trans (Wr.neR wH3817 (Or.inr (x_apart hKT hts inX8 tyX8 tyX8_ok nmX8 rfl 8 13 (by decide) (by decide) (by decide)))).symm
                have m3845 := m3807.trans (Wr.neR wH3817 (Or.inl (G_ne ga1 ga0 (by decide)))).symm
                have m3846 := m3808.trans (Wr.neR wH3817 (Or.inr (x_apart hKT hts inX8 tyX8 tyX8_ok nmX8 rfl 9 13 (by decide) (by decide) (by decide)))).symm
                have m3847 := m3809.trans (Wr.neI wH3817 (Or.inr (x_apart hKT hts inX8 tyX8 tyX8_ok nmX8 rfl 10 13 (by decide) (by decide) (by decide)))).symm
                have m3848 := m3810.trans (Wr.neR wH3817 (Or.inl (G_ne ga1 ga0 (by decide)))).symm
                have m3849 := m3811.trans (Wr.neR wH3817 (Or.inr (x_apart hKT hts inX8 tyX8 tyX8_ok nmX8 rfl 11 13 (by decide) (by decide) (by decide)))).symm
                have m3850 := Wr.I wH3817
                have m3850 := m3850.symm
                refine lv_aload_n hx hb dX8_copyFrom_203 rfl (lv_at hl3542 1 rfl) ?_
                refine x_gr C hTH3817 (ci := 8) (k := 14) rfl inX8 (by decide) wF_X8_46 ga1 rg_34 rfl dX8_copyFrom_204 (fun q3851 eq3851 gq3851 => ?_)
                have uq3851 : lo = q3851 := (m3829).trans eq3851.symm
                subst uq3851
                refine lv_iconst (v := 0) hx hb dX8_copyFrom_207 (by decide) ?_
                refine lv_aload_n hx hb dX8_copyFrom_208 rfl (lv_at hl3542 0 rfl) ?_
                refine x_gr C hTH3817 (ci := 8) (k := 14) rfl inX8 (by decide) wF_X8_46 ga0 rg_0 rfl dX8_copyFrom_209 (fun q3852 eq3852 gq3852 => ?_)
                have uq3852 : lt = q3852 := (m3826).trans eq3852.symm
                subst uq3852
                refine lv_iconst (v := 0) hx hb dX8_copyFrom_212 (by decide) ?_
                refine lv_bipush (v := 8) hx hb dX8_copyFrom_213 (by decide) ?_
                refine x_copy C hTH3817 hSH3817 wM_X8_70 wNT_arraycopy wST_arraycopy wIN_J10 glo glt rg_66 rg_32 (by decide) (by omega) (by omega) (by omega) (by show _ ≤ ((8 : Nat) : Int); omega) (by show _ ≤ ((8 : Nat) : Int); omega) (AE_in glt (by decide)) hl3542.1 (by decide) dX8_copyFrom_215 (fun H3853 locsH3853 hTH3853 hSH3853 zH3853 oH3853 vH3853 wH3853 => ?_)
                have m3854 := (m3822).trans (fI_kept (oH3853 _ (G_ne ga0 glt (by decide)))).symm
                have m3855 := (m3824).trans (fI_kept (oH3853 _ (G_ne ga0 glt (by decide)))).symm
                have m3856 := (m3825).trans (fR_kept (oH3853 _ (G_ne ga0 glt (by decide)))).symm
                have m3857 := (m3826).trans (fR_kept (oH3853 _ (G_ne ga0 glt (by decide)))).symm
                have m3858 := (m3827).trans (fR_kept (oH3853 _ (G_ne ga0 glt (by decide)))).symm
                have m3859 := (m3828).trans (fR_kept (oH3853 _ (G_ne ga1 glt (by decide)))).symm
                have m3860 := (m3829).trans (fR_kept (oH3853 _ (G_ne ga1 glt (by decide)))).symm
                have m3861 := (m3830).trans (fR_kept (oH3853 _ (G_ne ga1 glt (by decide)))).symm
                have m3862 := (m3831).trans (fI_kept (oH3853 _ (G_ne ga1 glt (by decide)))).symm
                have m3863 := (m3832).trans (fI_kept (oH3853 _ (G_ne ga1 glt (by decide)))).symm
                have m3864 := (m3833).trans (fI_kept (oH3853 _ (G_ne ga1 glt (by decide)))).symm
                have m3865 := (m3834).trans (fI_kept (oH3853 _ (G_ne ga1 glt (by decide)))).symm
                have m3866 := (m3835).trans (fI_kept (oH3853 _ (G_ne ga1 glt (by decide)))).symm
                have m3867 := (m3836).trans (fI_kept (oH3853 _ (G_ne ga1 glt (by decide)))).symm
                have m3868 := (m3837).trans (fI_kept (oH3853 _ (G_ne ga0 glt (by decide)))).symm
                have m3869 := (m3838).trans (fI_kept (oH3853 _ (G_ne ga0 glt (by decide)))).symm
                have m3870 := (m3839).trans (fI_kept (oH3853 _ (G_ne ga1 glt (by decide)))).symm
                have m3871 := (m3840).trans (fI_kept (oH3853 _ (G_ne ga0 glt (by decide)))).symm
                have m3872 := (m3841).trans (fI_kept (oH3853 _ (G_ne ga1 glt (by decide)))).symm
                have m3873 := (m3842).trans (fI_kept (oH3853 _ (G_ne ga0 glt (by decide)))).symm
                have m3874 := (m3843).trans (fR_kept (oH3853 _ (G_ne ga1 glt (by decide)))).symm
                have m3875 := (m3844).trans (fR_kept (oH3853 _ (G_ne ga0 glt (by decide)))).symm
                have m3876 := (m3845).trans (fR_kept (oH3853 _ (G_ne ga1 glt (by decide)))).symm
                have m3877 := (m3846).trans (fR_kept (oH3853 _ (G_ne ga0 glt (by decide)))).symm
                have m3878 := (m3847).trans (fI_kept (oH3853 _ (G_ne ga0 glt (by decide)))).symm
                have m3879 := (m3848).trans (fR_kept (oH3853 _ (G_ne ga1 glt (by decide)))).symm
                have m3880 := (m3849).trans (fR_kept (oH3853 _ (G_ne ga0 glt (by decide)))).symm
                have m3881 := (m3850).trans (fI_kept (oH3853 _ (G_ne ga0 glt (by decide)))).symm
                have f3882 : ∀ j : Nat, fI H3853 no j = fI s.heap no j := fun j => (fI_kept (oH3853 _ (G_ne gno glt (by decide)))).trans (f3818 j)
                have f3883 : ∀ j : Nat, fI H3853 lo j = fI s.heap lo j := fun j => (fI_kept (oH3853 _ (G_ne glo glt (by decide)))).trans (f3819 j)
                have f3884 : ∀ j : Nat, fI H3853 ko j = fI s.heap ko j := fun j => (fI_kept (oH3853 _ (G_ne gko glt (by decide)))).trans (f3820 j)
                have f3885 : ∀ j : Nat, j < 8 → fI H3853 nt j = fI s.heap no j := fun j hj => (fI_kept (oH3853 _ (G_ne gnt glt (by decide)))).trans (f3821 j hj)
                have cp3886 : ∀ j : Nat, j < 8 → fI H3853 lt j = fI s.heap lo j := fun j hj => by have c00 : (0 : Int32).toNatClampNeg = 0 := rfl; have c8 : (8 : Int32).toInt = 8 := rfl; have z := wH3853 j (by omega); rw [c00, Nat.zero_add] at z; exact z.trans (f3819 j)
                refine lv_aload_n hx hb dX8_copyFrom_218 rfl (lv_at hl3542 1 rfl) ?_
                refine x_gr C hTH3853 (ci := 8) (k := 15) rfl inX8 (by decide) wF_X8_49 ga1 rg_34 rfl dX8_copyFrom_219 (fun q3887 eq3887 gq3887 => ?_)
                have uq3887 : ko = q3887 := (m3861).trans eq3887.symm
                subst uq3887
                refine lv_iconst (v := 0) hx hb dX8_copyFrom_222 (by decide) ?_
                refine lv_aload_n hx hb dX8_copyFrom_223 rfl (lv_at hl3542 0 rfl) ?_
                refine x_gr C hTH3853 (ci := 8) (k := 15) rfl inX8 (by decide) wF_X8_49 ga0 rg_0 rfl dX8_copyFrom_224 (fun q3888 eq3888 gq3888 => ?_)
                have uq3888 : kt = q3888 := (m3858).trans eq3888.symm
                subst uq3888
                refine lv_iconst (v := 0) hx hb dX8_copyFrom_227 (by decide) ?_
                refine lv_bipush (v := 8) hx hb dX8_copyFrom_228 (by decide) ?_
                refine x_copy C hTH3853 hSH3853 wM_X8_70 wNT_arraycopy wST_arraycopy wIN_J10 gko gkt rg_67 rg_33 (by decide) (by omega) (by omega) (by omega) (by show _ ≤ ((8 : Nat) : Int); omega) (by show _ ≤ ((8 : Nat) : Int); omega) (AE_in gkt (by decide)) hl3542.1 (by decide) dX8_copyFrom_230 (fun H3889 locsH3889 hTH3889 hSH3889 zH3889 oH3889 vH3889 wH3889 => ?_)
                have m3890 := (m3854).trans (fI_kept (oH3889 _ (G_ne ga0 gkt (by decide)))).symm
                have m3891 := (m3855).trans (fI_kept (oH3889 _ (G_ne ga0 gkt (by decide)))).symm
                have m3892 := (m3856).trans (fR_kept (oH3889 _ (G_ne ga0 gkt (by decide)))).symm
                have m3893 := (m3857).trans (fR_kept (oH3889 _ (G_ne ga0 gkt (by decide)))).symm
                have m3894 := (m3858).trans (fR_kept (oH3889 _ (G_ne ga0 gkt (by decide)))).symm
                have m3895 := (m3859).trans (fR_kept (oH3889 _ (G_ne ga1 gkt (by decide)))).symm
                have m3896 := (m3860).trans (fR_kept (oH3889 _ (G_ne ga1 gkt (by decide)))).symm
                have m3897 := (m3861).trans (fR_kept (oH3889 _ (G_ne ga1 gkt (by decide)))).symm
                have m3898 := (m3862).trans (fI_kept (oH3889 _ (G_ne ga1 gkt (by decide)))).symm
                have m3899 := (m3863).trans (fI_kept (oH3889 _ (G_ne ga1 gkt (by decide)))).symm
                have m3900 := (m3864).trans (fI_kept (oH3889 _ (G_ne ga1 gkt (by decide)))).symm
                have m3901 := (m3865).trans (fI_kept (oH3889 _ (G_ne ga1 gkt (by decide)))).symm
                have m3902 := (m3866).trans (fI_kept (oH3889 _ (G_ne ga1 gkt (by decide)))).symm
                have m3903 := (m3867).trans (fI_kept (oH3889 _ (G_ne ga1 gkt (by decide)))).symm
                have m3904 := (m3868).trans (fI_kept (oH3889 _ (G_ne ga0 gkt (by decide)))).symm
                have m3905 := (m3869).trans (fI_kept (oH3889 _ (G_ne ga0 gkt (by decide)))).symm
                have m3906 := (m3870).trans (fI_kept (oH3889 _ (G_ne ga1 gkt (by decide)))).symm
                have m3907 := (m3871).trans (fI_kept (oH3889 _ (G_ne ga0 gkt (by decide)))).symm
                have m3908 := (m3872).trans (fI_kept (oH3889 _ (G_ne ga1 gkt (by decide)))).symm
                have m3909 := (m3873).trans (fI_kept (oH3889 _ (G_ne ga0 gkt (by decide)))).symm
                have m3910 := (m3874).trans (fR_kept (oH3889 _ (G_ne ga1 gkt (by decide)))).symm
                have m3911 := (m3875).trans (fR_kept (oH3889 _ (G_ne ga0 gkt (by decide)))).symm
                have m3912 := (m3876).trans (fR_kept (oH3889 _ (G_ne ga1 gkt (by decide)))).symm
                have m3913 := (m3877).trans (fR_kept (oH3889 _ (G_ne ga0 gkt (by decide)))).symm
                have m3914 := (m3878).trans (fI_kept (oH3889 _ (G_ne ga0 gkt (by decide)))).symm
                have m3915 := (m3879).trans (fR_kept (oH3889 _ (G_ne ga1 gkt (by decide)))).symm
                have m3916 := (m3880).trans (fR_kept (oH3889 _ (G_ne ga0 gkt (by decide)))).symm
                have m3917 := (m3881).trans (fI_kept (oH3889 _ (G_ne ga0 gkt (by decide)))).symm
                have f3918 : ∀ j : Nat, fI H3889 no j = fI s.heap no j := fun j => (fI_kept (oH3889 _ (G_ne gno gkt (by decide)))).trans (f3882 j)
                have f3919 : ∀ j : Nat, fI H3889 lo j = fI s.heap lo j := fun j => (fI_kept (oH3889 _ (G_ne glo gkt (by decide)))).trans (f3883 j)
                have f3920 : ∀ j : Nat, fI H3889 ko j = fI s.heap ko j := fun j => (fI_kept (oH3889 _ (G_ne gko gkt (by decide)))).trans (f3884 j)
                have f3921 : ∀ j : Nat, j < 8 → fI H3889 nt j = fI s.heap no j := fun j hj => (fI_kept (oH3889 _ (G_ne gnt gkt (by decide)))).trans (f3885 j hj)
                have f3922 : ∀ j : Nat, j < 8 → fI H3889 lt j = fI s.heap lo j := fun j hj => (fI_kept (oH3889 _ (G_ne glt gkt (by decide)))).trans (cp3886 j hj)
                have cp3923 : ∀ j : Nat, j < 8 → fI H3889 kt j = fI s.heap ko j := fun j hj => by have c00 : (0 : Int32).toNatClampNeg = 0 := rfl; have c8 : (8 : Int32).toInt = 8 := rfl; have z := wH3889 j (by omega); rw [c00, Nat.zero_add] at z; exact z.trans (f3884 j)
                refine lv_aload_n hx hb dX8_copyFrom_233 rfl (lv_at hl3542 0 rfl) ?_
                refine lv_aload_n hx hb dX8_copyFrom_234 rfl (lv_at hl3542 1 rfl) ?_
                refine x_gi C hTH3889 (ci := 8) (k := 16) rfl inX8 (by decide) wF_X8_82 ga1 rg_34 rfl dX8_copyFrom_235 (fun x3924 ex3924 bx3924 => ?_)
                have ux3924 : n16 = x3924 := (m3903).trans ex3924.symm
                subst ux3924
                refine x_put C hTH3889 hSH3889 (ci := 8) (k := 16) (v := .int n16) (ty0 := tyX8) rfl inX8 tyX8_ok nmX8 (by decide) rfl wF_X8_82 ga0 rg_0 rfl rfl (okI (by have := i_rng n16; omega) (by have := i_rng n16; omega)) rfl rfl (AE_in ga0 (by decide)) dX8_copyFrom_238 (fun H3925 locsH3925 hTH3925 hSH3925 wH3925 => ?_)
                have f3926 : ∀ j : Nat, fI H3925 no j = fI s.heap no j := fun j => (Wr.neI wH3925 (Or.inl (G_ne gno ga0 (by decide)))).trans (f3918 j)
                have f3927 : ∀ j : Nat, fI H3925 lo j = fI s.heap lo j := fun j => (Wr.neI wH3925 (Or.inl (G_ne glo ga0 (by decide)))).trans (f3919 j)
                have f3928 : ∀ j : Nat, fI H3925 ko j = fI s.heap ko j := fun j => (Wr.neI wH3925 (Or.inl (G_ne gko ga0 (by decide)))).trans (f3920 j)
                have f3929 : ∀ j : Nat, j < 8 → fI H3925 nt j = fI s.heap no j := fun j hj => (fI_kept (wH3925.off (G_ne gnt ga0 (by decide)))).trans (f3921 j hj)
                have f3930 : ∀ j : Nat, j < 8 → fI H3925 lt j = fI s.heap lo j := fun j hj => (fI_kept (wH3925.off (G_ne glt ga0 (by decide)))).trans (f3922 j hj)
                have f3931 : ∀ j : Nat, j < 8 → fI H3925 kt j = fI s.heap ko j := fun j hj => (fI_kept (wH3925.off (G_ne gkt ga0 (by decide)))).trans (cp3923 j hj)
                have m3932 := m3890.trans (Wr.neI wH3925 (Or.inr (x_apart hKT hts inX8 tyX8 tyX8_ok nmX8 rfl 1 16 (by decide) (by decide) (by decide)))).symm
                have m3934 := m3892.trans (Wr.neR wH3925 (Or.inr (x_apart hKT hts inX8 tyX8 tyX8_ok nmX8 rfl 12 16 (by decide) (by decide) (by decide)))).symm
                have m3935 := m3893.trans (Wr.neR wH3925 (Or.inr (x_apart hKT hts inX8 tyX8 tyX8_ok nmX8 rfl 14 16 (by decide) (by decide) (by decide)))).symm
                have m3936 := m3894.trans (Wr.neR wH3925 (Or.inr (x_apart hKT hts inX8 tyX8 tyX8_ok nmX8 rfl 15 16 (by decide) (by decide) (by decide)))).symm
                have m3937 := m3895.trans (Wr.neR wH3925 (Or.inl (G_ne ga1 ga0 (by decide)))).symm
                have m3938 := m3896.trans (Wr.neR wH3925 (Or.inl (G_ne ga1 ga0 (by decide)))).symm
                have m3939 := m3897.trans (Wr.neR wH3925 (Or.inl (G_ne ga1 ga0 (by decide)))).symm
                have m3940 := m3898.trans (Wr.neI wH3925 (Or.inl (G_ne ga1 ga0 (by decide)))).symm
                have m3941 := m3899.trans (Wr.neI wH3925 (Or.inl (G_ne ga1 ga0 (by decide)))).symm
                have m3942 := m3900.trans (Wr.neI wH3925 (Or.inl (G_ne ga1 ga0 (by decide)))).symm
                have m3943 := m3901.trans (Wr.neI wH3925 (Or.inl (G_ne ga1 ga0 (by decide)))).symm
                have m3944 := m3902.trans (Wr.neI wH3925 (Or.inl (G_ne ga1 ga0 (by decide)))).symm
                have m3945 := m3903.trans (Wr.neI wH3925 (Or.inl (G_ne ga1 ga0 (by decide)))).symm
                have m3946 := m3904.trans (Wr.neI wH3925 (Or.inr (x_apart hKT hts inX8 tyX8 tyX8_ok nmX8 rfl 4 16 (by decide) (by decide) (by decide)))).symm
                have m3947 := m3905.trans (Wr.neI wH3925 (Or.inr (x_apart hKT hts inX8 tyX8 tyX8_ok nmX8 rfl 5 16 (by decide) (by decide) (by decide)))).symm
                have m3948 := m3906.trans (Wr.neI wH3925 (Or.inl (G_ne ga1 ga0 (by decide)))).symm
                have m3949 := m3907.trans (Wr.neI wH3925 (Or.inr (x_apart hKT hts inX8 tyX8 tyX8_ok nmX8 rfl 6 16 (by decide) (by decide) (by decide)))).symm
                have m3950 := m3908.trans (Wr.neI wH3925 (Or.inl (G_ne ga1 ga0 (by decide)))).symm
                have m3951 := m3909.trans (Wr.neI wH3925 (Or.inr (x_apart hKT hts inX8 tyX8 tyX8_ok nmX8 rfl 7 16 (by decide) (by decide) (by decide)))).symm
                have m3952 := m3910.trans (Wr.neR wH3925 (Or.inl (G_ne ga1 ga0 (by decide)))).symm
                have m3953 := m3911.trans (Wr.neR wH3925 (Or.inr (x_apart hKT hts inX8 tyX8 tyX8_ok nmX8 rfl 8 16 (by decide) (by decide) (by decide)))).symm
                have m3954 := m3912.trans (Wr.neR wH3925 (Or.inl (G_ne ga1 ga0 (by decide)))).symm
                have m3955 := m3913.trans (Wr.neR wH3925 (Or.inr (x_apart hKT hts inX8 tyX8 tyX8_ok nmX8 rfl 9 16 (by decide) (by decide) (by decide)))).symm
                have m3956 := m3914.trans (Wr.neI wH3925 (Or.inr (x_apart hKT hts inX8 tyX8 tyX8_ok nmX8 rfl 10 16 (by decide) (by decide) (by decide)))).symm
                have m3957 := m3915.trans (Wr.neR wH3925 (Or.inl (G_ne ga1 ga0 (by decide)))).symm
                have m3958 := m3916.trans (Wr.neR wH3925 (Or.inr (x_apart hKT hts inX8 tyX8 tyX8_ok nmX8 rfl 11 16 (by decide) (by decide) (by decide)))).symm
                have m3959 := m3917.trans (Wr.neI wH3925 (Or.inr (x_apart hKT hts inX8 tyX8 tyX8_ok nmX8 rfl 13 16 (by decide) (by decide) (by decide)))).symm
                have m3960 := Wr.I wH3925
                have m3960 := m3960.symm
                exact x_vret C hQ dX8_copyFrom_241 hSH3925 (by decide) (by decide) (⟨x3544, n4, n5, n10, n13, n16, rfl, m3932, m3946, m3947, m3956, m3959, m3960, by omega, m3934, m3935, m3936, f3929, f3930, f3931, hTH3925⟩)
              · have k3552 := i_nle c3551
                refine lv_aload_n hx hb dX8_copyFrom_74 rfl (lv_at hl3542 0 rfl) ?_
                refine x_gr C hTH3540 (ci := 8) (k := 3) rfl inX8 (by decide) wF_X8_23 ga0 rg_0 rfl dX8_copyFrom_75 (fun q3961 eq3961 gq3961 => ?_)
                refine lv_iload_n hx hb dX8_copyFrom_78 rfl (lv_at hl3542 2 rfl) ?_
                refine x_ar C hTH3540 rfl rfl gq3961 rg_27 ⟨by omega, by show _ < ((4 : Nat) : Int); omega⟩ dX8_copyFrom_79 (fun q3962 eq3962 gq3962 => ?_)
                refine lv_aload_n hx hb dX8_copyFrom_80 rfl (lv_at hl3542 1 rfl) ?_
                refine x_gr C hTH3540 (ci := 8) (k := 3) rfl inX8 (by decide) wF_X8_23 ga1 rg_34 rfl dX8_copyFrom_81 (fun q3963 eq3963 gq3963 => ?_)
                refine lv_iload_n hx hb dX8_copyFrom_84 rfl (lv_at hl3542 2 rfl) ?_
                refine x_ar C hTH3540 rfl rfl gq3963 rg_61 ⟨by omega, by show _ < ((4 : Nat) : Int); omega⟩ dX8_copyFrom_85 (fun q3964 eq3964 gq3964 => ?_)
                refine x_V (As := [.ref q3964]) (rest := []) C (a_X7_copyFrom_n_k l K G H3540  hTH3540 gq3962 gq3964) yo_X7_copyFrom wM_X8_64 ⟨⟨by decide, by decide⟩, by decide, by decide⟩ (x_rv C hTH3540 (ci := 7) rfl gq3962 rg_16) rfl hl3542.1 rfl (Nat.le_of_ble_eq_true rfl) dX8_copyFrom_86 hSH3540 (AE_sub (fun _ _ => rfl) (by decide) hSH3540.1) (fun vH3965 H3965 locsH3965 pH3965 zH3965 kH3965 hSH3965 => ?_)
                obtain ⟨hvH3965, hTH3965⟩ := pH3965
                subst hvH3965
                have f3966 : ∀ j : Nat, fI H3965 no j = fI s.heap no j := fun j => (fI_kept (x_lt hTH3540 kH3965 gno (by decide))).trans (fy3550_sno j)
                have f3967 : ∀ j : Nat, fI H3965 lo j = fI s.heap lo j := fun j => (fI_kept (x_lt hTH3540 kH3965 glo (by decide))).trans (fy3550_slo j)
                have f3968 : ∀ j : Nat, fI H3965 ko j = fI s.heap ko j := fun j => (fI_kept (x_lt hTH3540 kH3965 gko (by decide))).trans (fy3550_sko j)
                have m3969 := (ex3544).trans (fI_kept (x_lt hTH3540 kH3965 ga0 (by decide))).symm
                have m3970 := (ex3545).trans (fI_kept (x_lt hTH3540 kH3965 ga0 (by decide))).symm
                have m3971 := (ex3546).trans (fI_kept (x_lt hTH3540 kH3965 ga0 (by decide))).symm
                have m3972 := (ex3547).trans (fI_kept (x_lt hTH3540 kH3965 ga0 (by decide))).symm
                have m3973 := (ex3548).trans (fI_kept (x_lt hTH3540 kH3965 ga0 (by decide))).symm
                have m3974 := (ex3549).trans (fI_kept (x_lt hTH3540 kH3965 ga0 (by decide))).symm
                have m3975 := (cy3550_0).trans (fR_kept (x_lt hTH3540 kH3965 ga0 (by decide))).symm
                have m3976 := (cy3550_1).trans (fR_kept (x_lt hTH3540 kH3965 ga0 (by decide))).symm
                have m3977 := (cy3550_2).trans (fR_kept (x_lt hTH3540 kH3965 ga0 (by decide))).symm
                have m3978 := (cy3550_3).trans (fR_kept (x_lt hTH3540 kH3965 ga1 (by decide))).symm
                have m3979 := (cy3550_4).trans (fR_kept (x_lt hTH3540 kH3965 ga1 (by decide))).symm
                have m3980 := (cy3550_5).trans (fR_kept (x_lt hTH3540 kH3965 ga1 (by decide))).symm
                have m3981 := (cy3550_6).trans (fI_kept (x_lt hTH3540 kH3965 ga1 (by decide))).symm
                have m3982 := (cy3550_7).trans (fI_kept (x_lt hTH3540 kH3965 ga1 (by decide))).symm
                have m3983 := (cy3550_8).trans (fI_kept (x_lt hTH3540 kH3965 ga1 (by decide))).symm
                have m3984 := (cy3550_9).trans (fI_kept (x_lt hTH3540 kH3965 ga1 (by decide))).symm
                have m3985 := (cy3550_10).trans (fI_kept (x_lt hTH3540 kH3965 ga1 (by decide))).symm
                have m3986 := (cy3550_11).trans (fI_kept (x_lt hTH3540 kH3965 ga1 (by decide))).symm
                have m3987 := (eq3961).trans (fR_kept (x_lt hTH3540 kH3965 ga0 (by decide))).symm
                have m3988 := (eq3963).trans (fR_kept (x_lt hTH3540 kH3965 ga1 (by decide))).symm
                refine W.eq (g2 := F0 m 89 ls3541 []) rfl ?_
                obtain ⟨x3989, ex3989⟩ : ∃ y : Int32, y = x3543 + 1 := ⟨_, rfl⟩
                have tx3989 := i_add ex3989 (by omega)
                refine lv_iinc (v := x3989) (lv' := [(2, .int x3989), (0, .ref a0), (1, .ref a1)]) hx hb dX8_copyFrom_89 hl3542 (k := 2) rfl (by rw [ex3989]; rfl) (by decide) rfl (fun ls3990 hl3991 => ?_)
                refine lv_goto (tgt := 69) hx hb dX8_copyFrom_92 (by decide) ?_
                exact ih69 ls3990 H3965 locsH3965 (x3989) (x3544) (x3545) (x3546) (x3547) (x3548) (x3549) (lv_sub hl3991 [1, 2, 0] rfl) hTH3965 hSH3965 (by have := i_rng x3989; omega) (by have := i_rng x3544; omega) (by have := i_rng x3545; omega) (by have := i_rng x3547; omega) (by have := i_rng x3548; omega) (by have := i_rng x3549; omega) m3969 m3970 m3971 m3972 m3973 m3974 m3975 m3976 m3977 m3978 m3979 m3980 m3981 m3982 m3983 m3984 m3985 m3986 f3966 f3967 f3968 (by omega) (by omega)
          refine lv_iload_n hx hb dX8_copyFrom_41 rfl (lv_at hl3531 2 rfl) ?_
          refine lv_iconst (v := 2) hx hb dX8_copyFrom_42 (by decide) ?_
          refine lv_icmp_ge (tgt := 67) hx hb dX8_copyFrom_43 (by decide) (fun c3992 => ?_) (fun c3992 => ?_)
          · have k3993 := i_le c3992
            refine lv_iconst (v := 0) hx hb dX8_copyFrom_67 (by decide) ?_
            refine lv_istore_n (lv' := [(2, .int 0), (0, .ref a0), (1, .ref a1)]) hx hb dX8_copyFrom_68 rfl hl3531 (by decide) rfl (fun ls3994 hl3995 => ?_)
            exact J69 ((4 - (0 : Int32).toInt).toNat + 1) ls3994 H3529 locsH3529 (0) (x3533) (x3534) (x3535) (x3536) (x3537) (x3538) (lv_sub hl3995 [1, 2, 0] rfl) hTH3529 hSH3529 (by decide) (by have := i_rng x3533; omega) (by have := i_rng x3534; omega) (by have := i_rng x3536; omega) (by have := i_rng x3537; omega) (by have := i_rng x3538; omega) ex3533 ex3534 ex3535 ex3536 ex3537 ex3538 cy3539_0 cy3539_1 cy3539_2 cy3539_3 cy3539_4 cy3539_5 cy3539_6 cy3539_7 cy3539_8 cy3539_9 cy3539_10 cy3539_11 fy3539_sno fy3539_slo fy3539_sko (by omega) (by omega)
          · have k3993 := i_nle c3992
            refine lv_aload_n hx hb dX8_copyFrom_46 rfl (lv_at hl3531 0 rfl) ?_
            refine x_gr C hTH3529 (ci := 8) (k := 2) rfl inX8 (by decide) wF_X8_19 ga0 rg_0 rfl dX8_copyFrom_47 (fun q3996 eq3996 gq3996 => ?_)
            refine lv_iload_n hx hb dX8_copyFrom_50 rfl (lv_at hl3531 2 rfl) ?_
            refine x_ar C hTH3529 rfl rfl gq3996 rg_26 ⟨by omega, by show _ < ((2 : Nat) : Int); omega⟩ dX8_copyFrom_51 (fun q3997 eq3997 gq3997 => ?_)
            refine lv_aload_n hx hb dX8_copyFrom_52 rfl (lv_at hl3531 1 rfl) ?_
            refine x_gr C hTH3529 (ci := 8) (k := 2) rfl inX8 (by decide) wF_X8_19 ga1 rg_34 rfl dX8_copyFrom_53 (fun q3998 eq3998 gq3998 => ?_)
            refine lv_iload_n hx hb dX8_copyFrom_56 rfl (lv_at hl3531 2 rfl) ?_
            refine x_ar C hTH3529 rfl rfl gq3998 rg_60 ⟨by omega, by show _ < ((2 : Nat) : Int); omega⟩ dX8_copyFrom_57 (fun q3999 eq3999 gq3999 => ?_)
            refine x_V (As := [.ref q3999]) (rest := []) C (a_X7_copyFrom_n_k l K G H3529  hTH3529 gq3997 gq3999) yo_X7_copyFrom wM_X8_64 ⟨⟨by decide, by decide⟩, by decide, by decide⟩ (x_rv C hTH3529 (ci := 7) rfl gq3997 rg_16) rfl hl3531.1 rfl (Nat.le_of_ble_eq_true rfl) dX8_copyFrom_58 hSH3529 (AE_sub (fun _ _ => rfl) (by decide) hSH3529.1) (fun vH4000 H4000 locsH4000 pH4000 zH4000 kH4000 hSH4000 => ?_)
            obtain ⟨hvH4000, hTH4000⟩ := pH4000
            subst hvH4000
            have f4001 : ∀ j : Nat, fI H4000 no j = fI s.heap no j := fun j => (fI_kept (x_lt hTH3529 kH4000 gno (by decide))).trans (fy3539_sno j)
            have f4002 : ∀ j : Nat, fI H4000 lo j = fI s.heap lo j := fun j => (fI_kept (x_lt hTH3529 kH4000 glo (by decide))).trans (fy3539_slo j)
            have f4003 : ∀ j : Nat, fI H4000 ko j = fI s.heap ko j := fun j => (fI_kept (x_lt hTH3529 kH4000 gko (by decide))).trans (fy3539_sko j)
            have m4004 := (ex3533).trans (fI_kept (x_lt hTH3529 kH4000 ga0 (by decide))).symm
            have m4005 := (ex3534).trans (fI_kept (x_lt hTH3529 kH4000 ga0 (by decide))).symm
            have m4006 := (ex3535).trans (fI_kept (x_lt hTH3529 kH4000 ga0 (by decide))).symm
            have m4007 := (ex3536).trans (fI_kept (x_lt hTH3529 kH4000 ga0 (by decide))).symm
            have m4008 := (ex3537).trans (fI_kept (x_lt hTH3529 kH4000 ga0 (by decide))).symm
            have m4009 := (ex3538).trans (fI_kept (x_lt hTH3529 kH4000 ga0 (by decide))).symm
            have m4010 := (cy3539_0).trans (fR_kept (x_lt hTH3529 kH4000 ga0 (by decide))).symm
            have m4011 := (cy3539_1).trans (fR_kept (x_lt hTH3529 kH4000 ga0 (by decide))).symm
            have m4012 := (cy3539_2).trans (fR_kept (x_lt hTH3529 kH4000 ga0 (by decide))).symm
            have m4013 := (cy3539_3).trans (fR_kept (x_lt hTH3529 kH4000 ga1 (by decide))).symm
            have m4014 := (cy3539_4).trans (fR_kept (x_lt hTH3529 kH4000 ga1 (by decide))).symm
            have m4015 := (cy3539_5).trans (fR_kept (x_lt hTH3529 kH4000 ga1 (by decide))).symm
            have m4016 := (cy3539_6).trans (fI_kept (x_lt hTH3529 kH4000 ga1 (by decide))).symm
            have m4017 := (cy3539_7).trans (fI_kept (x_lt hTH3529 kH4000 ga1 (by decide))).symm
            have m4018 := (cy3539_8).trans (fI_kept (x_lt hTH3529 kH4000 ga1 (by decide))).symm
            have m4019 := (cy3539_9).trans (fI_kept (x_lt hTH3529 kH4000 ga1 (by decide))).symm
            have m4020 := (cy3539_10).trans (fI_kept (x_lt hTH3529 kH4000 ga1 (by decide))).symm
            have m4021 := (cy3539_11).trans (fI_kept (x_lt hTH3529 kH4000 ga1 (by decide))).symm
            have m4022 := (eq3996).trans (fR_kept (x_lt hTH3529 kH4000 ga0 (by decide))).symm
            have m4023 := (eq3998).trans (fR_kept (x_lt hTH3529 kH4000 ga1 (by decide))).symm
            refine W.eq (g2 := F0 m 61 ls3530 []) rfl ?_
            obtain ⟨x4024, ex4024⟩ : ∃ y : Int32, y = x3532 + 1 := ⟨_, rfl⟩
            have tx4024 := i_add ex4024 (by omega)
            refine lv_iinc (v := x4024) (lv' := [(2, .int x4024), (0, .ref a0), (1, .ref a1)]) hx hb dX8_copyFrom_61 hl3531 (k := 2) rfl (by rw [ex4024]; rfl) (by decide) rfl (fun ls4025 hl4026 => ?_)
            refine lv_goto (tgt := 41) hx hb dX8_copyFrom_64 (by decide) ?_
            exact ih41 ls4025 H4000 locsH4000 (x4024) (x3533) (x3534) (x3535) (x3536) (x3537) (x3538) (lv_sub hl4026 [1, 2, 0] rfl) hTH4000 hSH4000 (by have := i_rng x4024; omega) (by have := i_rng x3533; omega) (by have := i_rng x3534; omega) (by have := i_rng x3536; omega) (by have := i_rng x3537; omega) (by have := i_rng x3538; omega) m4004 m4005 m4006 m4007 m4008 m4009 m4010 m4011 m4012 m4013 m4014 m4015 m4016 m4017 m4018 m4019 m4020 m4021 f4001 f4002 f4003 (by omega) (by omega)
      refine lv_iload_n hx hb dX8_copyFrom_2 rfl (lv_at hl3520 2 rfl) ?_
      refine lv_aload_n hx hb dX8_copyFrom_3 rfl (lv_at hl3520 1 rfl) ?_
      refine x_gi C hTH3518 (ci := 8) (k := 1) rfl inX8 (by decide) wF_X8_57 ga1 rg_34 rfl dX8_copyFrom_4 (fun x4027 ex4027 bx4027 => ?_)
      have ux4027 : n1 = x4027 := (cy3528_6).trans ex4027.symm
      subst ux4027
      refine lv_icmp_ge (tgt := 31) hx hb dX8_copyFrom_7 (by decide) (fun c4028 => ?_) (fun c4028 => ?_)
      · have k4029 := i_le c4028
        refine lv_aload_n hx hb dX8_copyFrom_31 rfl (lv_at hl3520 0 rfl) ?_
        refine lv_aload_n hx hb dX8_copyFrom_32 rfl (lv_at hl3520 1 rfl) ?_
        refine x_gi C hTH3518 (ci := 8) (k := 1) rfl inX8 (by decide) wF_X8_57 ga1 rg_34 rfl dX8_copyFrom_33 (fun x4030 ex4030 bx4030 => ?_)
        have ux4030 : n1 = x4030 := (cy3528_6).trans ex4030.symm
        subst ux4030
        refine x_put C hTH3518 hSH3518 (ci := 8) (k := 1) (v := .int n1) (ty0 := tyX8) rfl inX8 tyX8_ok nmX8 (by decide) rfl wF_X8_57 ga0 rg_0 rfl rfl (okI (by have := i_rng n1; omega) (by have := i_rng n1; omega)) rfl rfl (AE_in ga0 (by decide)) dX8_copyFrom_36 (fun H4031 locsH4031 hTH4031 hSH4031 wH4031 => ?_)
        have f4032 : ∀ j : Nat, fI H4031 no j = fI s.heap no j := fun j => (Wr.neI wH4031 (Or.inl (G_ne gno ga0 (by decide)))).trans (fy3528_sno j)
        have f4033 : ∀ j : Nat, fI H4031 lo j = fI s.heap lo j := fun j => (Wr.neI wH4031 (Or.inl (G_ne glo ga0 (by decide)))).trans (fy3528_slo j)
        have f4034 : ∀ j : Nat, fI H4031 ko j = fI s.heap ko j := fun j => (Wr.neI wH4031 (Or.inl (G_ne gko ga0 (by decide)))).trans (fy3528_sko j)
        have m4036 := ex3523.trans (Wr.neI wH4031 (Or.inr (x_apart hKT hts inX8 tyX8 tyX8_ok nmX8 rfl 4 1 (by decide) (by decide) (by decide)))).symm
        have m4037 := ex3524.trans (Wr.neI wH4031 (Or.inr (x_apart hKT hts inX8 tyX8 tyX8_ok nmX8 rfl 5 1 (by decide) (by decide) (by decide)))).symm
        have m4038 := ex3525.trans (Wr.neI wH4031 (Or.inr (x_apart hKT hts inX8 tyX8 tyX8_ok nmX8 rfl 10 1 (by decide) (by decide) (by decide)))).symm
        have m4039 := ex3526.trans (Wr.neI wH4031 (Or.inr (x_apart hKT hts inX8 tyX8 tyX8_ok nmX8 rfl 13 1 (by decide) (by decide) (by decide)))).symm
        have m4040 := ex3527.trans (Wr.neI wH4031 (Or.inr (x_apart hKT hts inX8 tyX8 tyX8_ok nmX8 rfl 16 1 (by decide) (by decide) (by decide)))).symm
        have m4041 := cy3528_0.trans (Wr.neR wH4031 (Or.inr (x_apart hKT hts inX8 tyX8 tyX8_ok nmX8 rfl 12 1 (by decide) (by decide) (by decide)))).symm
        have m4042 := cy3528_1.trans (Wr.neR wH4031 (Or.inr (x_apart hKT hts inX8 tyX8 tyX8_ok nmX8 rfl 14 1 (by decide) (by decide) (by decide)))).symm
        have m4043 := cy3528_2.trans (Wr.neR wH4031 (Or.inr (x_apart hKT hts inX8 tyX8 tyX8_ok nmX8 rfl 15 1 (by decide) (by decide) (by decide)))).symm
        have m4044 := cy3528_3.trans (Wr.neR wH4031 (Or.inl (G_ne ga1 ga0 (by decide)))).symm
        have m4045 := cy3528_4.trans (Wr.neR wH4031 (Or.inl (G_ne ga1 ga0 (by decide)))).symm
        have m4046 := cy3528_5.trans (Wr.neR wH4031 (Or.inl (G_ne ga1 ga0 (by decide)))).symm
        have m4047 := cy3528_6.trans (Wr.neI wH4031 (Or.inl (G_ne ga1 ga0 (by decide)))).symm
        have m4048 := cy3528_7.trans (Wr.neI wH4031 (Or.inl (G_ne ga1 ga0 (by decide)))).symm
        have m4049 := cy3528_8.trans (Wr.neI wH4031 (Or.inl (G_ne ga1 ga0 (by decide)))).symm
        have m4050 := cy3528_9.trans (Wr.neI wH4031 (Or.inl (G_ne ga1 ga0 (by decide)))).symm
        have m4051 := cy3528_10.trans (Wr.neI wH4031 (Or.inl (G_ne ga1 ga0 (by decide)))).symm
        have m4052 := cy3528_11.trans (Wr.neI wH4031 (Or.inl (G_ne ga1 ga0 (by decide)))).symm
        have m4053 := Wr.I wH4031
        have m4053 := m4053.symm
        refine lv_iconst (v := 0) hx hb dX8_copyFrom_39 (by decide) ?_
        refine lv_istore_n (lv' := [(2, .int 0), (0, .ref a0), (1, .ref a1)]) hx hb dX8_copyFrom_40 rfl hl3520 (by decide) rfl (fun ls4054 hl4055 => ?_)
        exact J41 ((2 - (0 : Int32).toInt).toNat + 1) ls4054 H4031 locsH4031 (0) (n1) (x3523) (x3524) (x3525) (x3526) (x3527) (lv_sub hl4055 [1, 2, 0] rfl) hTH4031 hSH4031 (by decide) (by have := i_rng n1; omega) (by have := i_rng x3523; omega) (by have := i_rng x3525; omega) (by have := i_rng x3526; omega) (by have := i_rng x3527; omega) m4053 m4036 m4037 m4038 m4039 m4040 m4041 m4042 m4043 m4044 m4045 m4046 m4047 m4048 m4049 m4050 m4051 m4052 f4032 f4033 f4034 (by omega) (by omega)
      · have k4029 := i_nle c4028
        refine lv_aload_n hx hb dX8_copyFrom_10 rfl (lv_at hl3520 0 rfl) ?_
        refine x_gr C hTH3518 (ci := 8) (k := 0) rfl inX8 (by decide) wF_X8_11 ga0 rg_0 rfl dX8_copyFrom_11 (fun q4056 eq4056 gq4056 => ?_)
        refine lv_iload_n hx hb dX8_copyFrom_14 rfl (lv_at hl3520 2 rfl) ?_
        refine x_ar C hTH3518 rfl rfl gq4056 rg_25 ⟨by omega, by show _ < ((10 : Nat) : Int); omega⟩ dX8_copyFrom_15 (fun q4057 eq4057 gq4057 => ?_)
        refine lv_aload_n hx hb dX8_copyFrom_16 rfl (lv_at hl3520 1 rfl) ?_
        refine x_gr C hTH3518 (ci := 8) (k := 0) rfl inX8 (by decide) wF_X8_11 ga1 rg_34 rfl dX8_copyFrom_17 (fun q4058 eq4058 gq4058 => ?_)
        refine lv_iload_n hx hb dX8_copyFrom_20 rfl (lv_at hl3520 2 rfl) ?_
        refine x_ar C hTH3518 rfl rfl gq4058 rg_59 ⟨by omega, by show _ < ((10 : Nat) : Int); omega⟩ dX8_copyFrom_21 (fun q4059 eq4059 gq4059 => ?_)
        refine x_V (As := [.ref q4059]) (rest := []) C (a_X0_copyFrom_n l K G H3518  hTH3518 gq4057 gq4059) yo_X0_copyFrom wM_X8_60 ⟨⟨by decide, by decide⟩, by decide, by decide⟩ (x_rv C hTH3518 (ci := 0) rfl gq4057 rg_1) rfl hl3520.1 rfl (Nat.le_of_ble_eq_true rfl) dX8_copyFrom_22 hSH3518 (AE_sub (fun _ _ => rfl) (by decide) hSH3518.1) (fun vH4060 H4060 locsH4060 pH4060 zH4060 kH4060 hSH4060 => ?_)
        obtain ⟨hvH4060, hTH4060⟩ := pH4060
        subst hvH4060
        have f4061 : ∀ j : Nat, fI H4060 no j = fI s.heap no j := fun j => (fI_kept (x_lt hTH3518 kH4060 gno (by decide))).trans (fy3528_sno j)
        have f4062 : ∀ j : Nat, fI H4060 lo j = fI s.heap lo j := fun j => (fI_kept (x_lt hTH3518 kH4060 glo (by decide))).trans (fy3528_slo j)
        have f4063 : ∀ j : Nat, fI H4060 ko j = fI s.heap ko j := fun j => (fI_kept (x_lt hTH3518 kH4060 gko (by decide))).trans (fy3528_sko j)
        have m4064 := (ex3522).trans (fI_kept (x_lt hTH3518 kH4060 ga0 (by decide))).symm
        have m4065 := (ex3523).trans (fI_kept (x_lt hTH3518 kH4060 ga0 (by decide))).symm
        have m4066 := (ex3524).trans (fI_kept (x_lt hTH3518 kH4060 ga0 (by decide))).symm
        have m4067 := (ex3525).trans (fI_kept (x_lt hTH3518 kH4060 ga0 (by decide))).symm
        have m4068 := (ex3526).trans (fI_kept (x_lt hTH3518 kH4060 ga0 (by decide))).symm
        have m4069 := (ex3527).trans (fI_kept (x_lt hTH3518 kH4060 ga0 (by decide))).symm
        have m4070 := (cy3528_0).trans (fR_kept (x_lt hTH3518 kH4060 ga0 (by decide))).symm
        have m4071 := (cy3528_1).trans (fR_kept (x_lt hTH3518 kH4060 ga0 (by decide))).symm
        have m4072 := (cy3528_2).trans (fR_kept (x_lt hTH3518 kH4060 ga0 (by decide))).symm
        have m4073 := (cy3528_3).trans (fR_kept (x_lt hTH3518 kH4060 ga1 (by decide))).symm
        have m4074 := (cy3528_4).trans (fR_kept (x_lt hTH3518 kH4060 ga1 (by decide))).symm
        have m4075 := (cy3528_5).trans (fR_kept (x_lt hTH3518 kH4060 ga1 (by decide))).symm
        have m4076 := (cy3528_6).trans (fI_kept (x_lt hTH3518 kH4060 ga1 (by decide))).symm
        have m4077 := (cy3528_7).trans (fI_kept (x_lt hTH3518 kH4060 ga1 (by decide))).symm
        have m4078 := (cy3528_8).trans (fI_kept (x_lt hTH3518 kH4060 ga1 (by decide))).symm
        have m4079 := (cy3528_9).trans (fI_kept (x_lt hTH3518 kH4060 ga1 (by decide))).symm
        have m4080 := (cy3528_10).trans (fI_kept (x_lt hTH3518 kH4060 ga1 (by decide))).symm
        have m4081 := (cy3528_11).trans (fI_kept (x_lt hTH3518 kH4060 ga1 (by decide))).symm
        have m4082 := (eq4056).trans (fR_kept (x_lt hTH3518 kH4060 ga0 (by decide))).symm
        have m4083 := (eq4058).trans (fR_kept (x_lt hTH3518 kH4060 ga1 (by decide))).symm
        refine W.eq (g2 := F0 m 25 ls3519 []) rfl ?_
        obtain ⟨x4084, ex4084⟩ : ∃ y : Int32, y = x3521 + 1 := ⟨_, rfl⟩
        have tx4084 := i_add ex4084 (by omega)
        refine lv_iinc (v := x4084) (lv' := [(2, .int x4084), (0, .ref a0), (1, .ref a1)]) hx hb dX8_copyFrom_25 hl3520 (k := 2) rfl (by rw [ex4084]; rfl) (by decide) rfl (fun ls4085 hl4086 => ?_)
        refine lv_goto (tgt := 2) hx hb dX8_copyFrom_28 (by decide) ?_
        exact ih2 ls4085 H4060 locsH4060 (x4084) (x3522) (x3523) (x3524) (x3525) (x3526) (x3527) (lv_sub hl4086 [1, 2, 0] rfl) hTH4060 hSH4060 (by have := i_rng x4084; omega) (by have := i_rng x3522; omega) (by have := i_rng x3523; omega) (by have := i_rng x3525; omega) (by have := i_rng x3526; omega) (by have := i_rng x3527; omega) m4064 m4065 m4066 m4067 m4068 m4069 m4070 m4071 m4072 m4073 m4074 m4075 m4076 m4077 m4078 m4079 m4080 m4081 f4061 f4062 f4063 (by omega)
  refine lv_iconst (v := 0) hx hb dX8_copyFrom_0 (by decide) ?_
  refine lv_istore_n (lv' := [(2, .int 0), (0, .ref a0), (1, .ref a1)]) hx hb dX8_copyFrom_1 rfl hl (by decide) rfl (fun ls4087 hl4088 => ?_)
  exact J2 ((10 - (0 : Int32).toInt).toNat + 1) ls4087 s.heap [] (0) (k1) (k4) (k5) (k10) (k13) (k16) (lv_sub hl4088 [1, 2, 0] rfl) hT hS (by decide) (by have := i_rng k1; omega) (by have := i_rng k4; omega) (by have := i_rng k10; omega) (by have := i_rng k13; omega) (by have := i_rng k16; omega) ek1 ek4 ek5 ek10 ek13 ek16 ent elt ekt eno elo eko en1 en4 en5 en10 en13 en16 f0_sno f0_slo f0_sko (by omega)
