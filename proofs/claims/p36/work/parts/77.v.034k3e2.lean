set_option maxHeartbeats 4000000 in
set_option maxRecDepth 100000 in
theorem a_X7_addStep_g (l : Launch) (K : KE) (G : Nat → Option Nat) (H : Heap) {a0 : Nat} (x1 : Int32) (x2 : Int32) {sq : Nat} (sc : Int32) (li : Int32) (hT : TY K G H) (ga0 : G a0 = some 69) (hx1 : 0 ≤ x1.toInt ∧ x1.toInt ≤ 62) (hx2 : 0 ≤ x2.toInt ∧ x2.toInt ≤ 99999) (gsq : G sq = some 77) (esq : sq = fR H a0 (K.1.2 7 8)) (esc : sc = fI H a0 (K.1.2 7 9)) (eli : li = fI H a0 (K.1.2 7 0)) (hp0 : sc.toInt < 500) : MX l K yX7_addStep cX7_addStep 3 none 0 0 0 0 [.ref a0, .int x1, .int x2] H (AE G [69, 77] H.size) (fun v H1 => ∃ (t0 : Int32), v = none ∧ t0 = fI H1 a0 (K.1.2 7 9) ∧ (t0.toInt = sc.toInt + 1) ∧ sq = fR H1 a0 (K.1.2 7 8) ∧ li = fI H1 a0 (K.1.2 7 0) ∧ (∀ j : Nat, j ≠ sc.toNatClampNeg → fI H1 sq j = fI H sq j) ∧ ((fI H1 sq sc.toNatClampNeg).toInt = x1.toInt * 100000 + x2.toInt) ∧ (RFT K H1 H a0) ∧ TY K G H1) := by
  refine MX.of (by decide +kernel) (Nat.le_of_ble_eq_true rfl) ?_
  intro p e s m below meth c ls Q C hH hl hQ
  subst hH
  have C : CX p K s m _ meth c RX7 cX7_addStep 3 none "addStep" := C
  obtain ⟨hx, hb, hml, hown, hts, hKT, hr, hlocks, hnm⟩ := id C
  have hl : lv_has ls 3 [(0, .ref a0), (1, .int x1), (2, .int x2)] := hl
  have hS : va_S (AE G [69, 77] s.heap.size) s.heap s.heap [] := va_S.rf
  have n_1 : (1 : Int32).toInt = 1 := rfl
  have n_500 : (500 : Int32).toInt = 500 := rfl
  have n_100000 : (100000 : Int32).toInt = 100000 := rfl
  have bsc := ty_fi (x := sc) (k := 9) esc hT ga0 rg_69 rfl
  have bli := ty_fi (x := li) (k := 0) eli hT ga0 rg_69 rfl
  have hapT : ∀ x y, x < 10 → y < 10 → x ≠ y → K.1.2 7 x ≠ K.1.2 7 y := x_apart hKT hts inX7 tyX7 tyX7_ok nmX7 rfl
  have f0_so : ∀ j : Nat, j ≠ sc.toNatClampNeg → fI s.heap sq j = fI s.heap sq j := fun _ _ => rfl
  have f0_rt : RFT K s.heap s.heap a0 := RFT.rf
  refine lv_aload_n hx hb dX7_addStep_0 rfl (lv_at hl 0 rfl) ?_
  refine x_gi C hT (ci := 7) (k := 9) rfl inX7 (by decide) wF_X7_40 ga0 rg_69 rfl dX7_addStep_1 (fun x197 ex197 bx197 => ?_)
  have ux197 : sc = x197 := (esc).trans ex197.symm
  subst ux197
  refine lv_sipush (v := 500) hx hb dX7_addStep_4 (by decide) ?_
  refine lv_icmp_ge (tgt := 35) hx hb dX7_addStep_7 (by decide) (fun c198 => ?_) (fun c198 => ?_)
  · have k199 := i_le c198
    exfalso
    omega
  · have k199 := i_nle c198
    refine lv_aload_n hx hb dX7_addStep_10 rfl (lv_at hl 0 rfl) ?_
    refine x_gr C hT (ci := 7) (k := 8) rfl inX7 (by decide) wF_X7_33 ga0 rg_69 rfl dX7_addStep_11 (fun q200 eq200 gq200 => ?_)
    have uq200 : sq = q200 := (esq).trans eq200.symm
    subst uq200
    refine lv_aload_n hx hb dX7_addStep_14 rfl (lv_at hl 0 rfl) ?_
    refine x_gi C hT (ci := 7) (k := 9) rfl inX7 (by decide) wF_X7_40 ga0 rg_69 rfl dX7_addStep_15 (fun x201 ex201 bx201 => ?_)
    have ux201 : sc = x201 := (esc).trans ex201.symm
    subst ux201
    refine lv_iload_n hx hb dX7_addStep_18 rfl (lv_at hl 1 rfl) ?_
    refine lv_ldc (v := 100000) hx hb hown (hts _ wK_X7_43) dX7_addStep_19 ?_
    refine lv_imul hx hb dX7_addStep_21 ?_
    refine lv_topi (fun x202 ex202 => ?_)
    have tx202 := i_mul ex202 (by rw [n_100000]; omega)
    rw [n_100000] at tx202
    refine lv_iload_n hx hb dX7_addStep_22 rfl (lv_at hl 2 rfl) ?_
    refine lv_iadd hx hb dX7_addStep_23 ?_
    refine lv_topi (fun x203 ex203 => ?_)
    have tx203 := i_add ex203 (by omega)
    refine x_iast C hT hS gsq rg_77 (by omega) (by show _ < ((500 : Nat) : Int); omega) ⟨by have := i_rng x203; omega, by have := i_rng x203; omega⟩ (AE_in gsq (by decide)) dX7_addStep_24 (fun H204 locsH204 hTH204 hSH204 wH204 => ?_)
    have f205 : ∀ j : Nat, j ≠ sc.toNatClampNeg → fI H204 sq j = fI s.heap sq j := fun j hj => (Wr.neI wH204 (Or.inr hj)).trans (f0_so j hj)
    have f206 : RFT K H204 s.heap a0 := RFT.st f0_rt (fun k h1 h8 => fR_kept (wH204.off (G_ne ga0 gsq (by decide))))
    have m207 := esq.trans (Wr.neR wH204 (Or.inl (G_ne ga0 gsq (by decide)))).symm
    have m208 := esc.trans (Wr.neI wH204 (Or.inl (G_ne ga0 gsq (by decide)))).symm
    have m209 := eli.trans (Wr.neI wH204 (Or.inl (G_ne ga0 gsq (by decide)))).symm
    have m210 := Wr.I wH204
    have m210 := m210.symm
    refine lv_aload_n hx hb dX7_addStep_25 rfl (lv_at hl 0 rfl) ?_
    refine lv_dup hx hb dX7_addStep_26 rfl ?_
    refine x_gi C hTH204 (ci := 7) (k := 9) rfl inX7 (by decide) wF_X7_40 ga0 rg_69 rfl dX7_addStep_27 (fun x211 ex211 bx211 => ?_)
    have ux211 : sc = x211 := (m208).trans ex211.symm
    subst ux211
    refine lv_iconst (v := 1) hx hb dX7_addStep_30 (by decide) ?_
    refine lv_iadd hx hb dX7_addStep_31 ?_
    refine lv_topi (fun x212 ex212 => ?_)
    have tx212 := i_add ex212 (by omega)
    refine x_put C hTH204 hSH204 (ci := 7) (k := 9) (v := .int x212) (ty0 := tyX7) rfl inX7 tyX7_ok nmX7 (by decide) rfl wF_X7_40 ga0 rg_69 rfl rfl (okI (by have := i_rng x212; omega) (by have := i_rng x212; omega)) rfl rfl (AE_in ga0 (by decide)) dX7_addStep_32 (fun H213 locsH213 hTH213 hSH213 wH213 => ?_)
    have f214 : ∀ j : Nat, j ≠ sc.toNatClampNeg → fI H213 sq j = fI s.heap sq j := fun j hj => (Wr.neI wH213 (Or.inl (G_ne gsq ga0 (by decide)))).trans (f205 j hj)
    have f215 : RFT K H213 s.heap a0 := RFT.st f206 (fun k h1 h8 => Wr.neR wH213 (Or.inr (hapT k _ (by omega) (by decide) (by omega))))
    have m216 := m207.trans (Wr.neR wH213 (Or.inr (x_apart hKT hts inX7 tyX7 tyX7_ok nmX7 rfl 8 9 (by decide) (by decide) (by decide)))).symm
    have m218 := m209.trans (Wr.neI wH213 (Or.inr (x_apart hKT hts inX7 tyX7 tyX7_ok nmX7 rfl 0 9 (by decide) (by decide) (by decide)))).symm
    have m219 := m210.trans (Wr.neI wH213 (Or.inl (G_ne gsq ga0 (by decide)))).symm
    have m220 := Wr.I wH213
    have m220 := m220.symm
    exact x_vret C hQ dX7_addStep_35 hSH213 (by decide) (by decide) (⟨x212, rfl, m220, by omega, m216, m218, f214, (by rw [← m219]; omega), f215, hTH213⟩)

set_option maxHeartbeats 4000000 in
set_option maxRecDepth 100000 in
theorem a_X4_term_g (l : Launch) (K : KE) (G : Nat → Option Nat) (H : Heap) {a0 : Nat} {mq : Nat} {kq : Nat} {vq : Nat} {sq : Nat} (F : Int32) (tat : Int32) (fa : Int32) (sc : Int32) (lw : Int32) (li : Int32) (kk : Nat → Int) (vv : Nat → Int) (hT : TY K G H) (ga0 : G a0 = some 78) (gmq : G mq = some 69) (emq : mq = fR H a0 (K.1.2 4 0)) (gkq : G kq = some 79) (ekq : kq = fR H a0 (K.1.2 4 3)) (gvq : G vq = some 80) (evq : vq = fR H a0 (K.1.2 4 4)) (gsq : G sq = some 77) (esq : sq = fR H mq (K.1.2 7 8)) (etat : tat = fI H a0 (K.1.2 4 7)) (efa : fa = fI H a0 (K.1.2 4 1)) (esc : sc = fI H mq (K.1.2 7 9)) (elw : lw = fI H a0 (K.1.2 4 8)) (eli : li = fI H mq (K.1.2 7 0)) (hel0 : fI H kq (F : Int32).toNatClampNeg = 26) (hp0 : tat.toInt ≤ F.toInt) (hp1 : F.toInt ≤ 500) (hp2 : sc.toInt ≤ tat.toInt) (hy0 : ∀ j : Nat, 0 ≤ vv j ∧ vv j < 100000) (hv_kk : ∀ j : Nat, j ≤ F.toNatClampNeg → kk j = (fI H kq j).toInt) (hv_vv : ∀ j : Nat, j ≤ F.toNatClampNeg → vv j = (fI H vq j).toInt) : MX l K yX4_term cX4_term 5 (some .boolean) 1 22 0 0 [.ref a0] H (AE G [78, 69, 77] H.size) (fun v H1 => ∃ (r : Int32) (t0 : Int32) (t1 : Int32) (t2 : Int32), v = some (.int r) ∧ (0 ≤ r.toInt ∧ r.toInt ≤ 1) ∧ t0 = fI H1 a0 (K.1.2 4 7) ∧ t1 = fI H1 a0 (K.1.2 4 1) ∧ t2 = fI H1 mq (K.1.2 7 9) ∧ (t0.toInt ≤ F.toInt ∧ ((r.toInt = 1 ∧ t1.toInt = fa.toInt ∧ tat.toInt < t0.toInt ∧ sc.toInt ≤ t2.toInt ∧ t2.toInt + tat.toInt ≤ sc.toInt + t0.toInt) ∨ (r.toInt = 0 ∧ t1.toInt ≠ 0))) ∧ mq = fR H1 a0 (K.1.2 4 0) ∧ kq = fR H1 a0 (K.1.2 4 3) ∧ vq = fR H1 a0 (K.1.2 4 4) ∧ sq = fR H1 mq (K.1.2 7 8) ∧ lw = fI H1 a0 (K.1.2 4 8) ∧ li = fI H1 mq (K.1.2 7 0) ∧ (RQ (tmI kk vv lw.toInt 0 tat.toNatClampNeg) r t0) ∧ (r.toInt = 0 ∨ CSP lw.toInt (fun j => fI H1 sq j) (fun j => fI H sq j) sc.toNatClampNeg t2.toNatClampNeg 2 [tmG kk vv 0 zF tat.toNatClampNeg]) ∧ (RFT K H1 H mq) ∧ TY K G H1) := by
  refine MX.of (by decide +kernel) (Nat.le_of_ble_eq_true rfl) ?_
  intro p e s m below meth c ls Q C hH hl hQ
  subst hH
  have C : CX p K s m _ meth c RX4 cX4_term 5 (some .boolean) "term" := C
  obtain ⟨hx, hb, hml, hown, hts, hKT, hr, hlocks, hnm⟩ := id C
  have hl : lv_has ls 5 [(0, .ref a0)] := hl
  have hS : va_S (AE G [78, 69, 77] s.heap.size) s.heap s.heap [] := va_S.rf
  have n_0 : (0 : Int32).toInt = 0 := rfl
  have n_1 : (1 : Int32).toInt = 1 := rfl
  have n_2 : (2 : Int32).toInt = 2 := rfl
  have n_24 : (24 : Int32).toInt = 24 := rfl
  have n_26 : (26 : Int32).toInt = 26 := rfl
  have n_42 : (42 : Int32).toInt = 42 := rfl
  have n_47 : (47 : Int32).toInt = 47 := rfl
  have n_500 : (500 : Int32).toInt = 500 := rfl
  have btat := ty_fi (x := tat) (k := 7) etat hT ga0 rg_78 rfl
  have bfa := ty_fi (x := fa) (k := 1) efa hT ga0 rg_78 rfl
  have bsc := ty_fi (x := sc) (k := 9) esc hT gmq rg_69 rfl
  have blw := ty_fi (x := lw) (k := 8) elw hT ga0 rg_78 rfl
  have bli := ty_fi (x := li) (k := 0) eli hT gmq rg_69 rfl
  have hsp0 : tmI kk vv lw.toInt 0 tat.toNatClampNeg = tmI kk vv lw.toInt 0 tat.toNatClampNeg := rfl
  have hsf0 : tmG kk vv 0 zF tat.toNatClampNeg = tmG kk vv 0 zF tat.toNatClampNeg := rfl
  have f0_kk := hv_kk
  have f0_vv := hv_vv
  have f0_rt : RFT K s.heap s.heap mq := RFT.rf
  have f0_cs : CSP lw.toInt (fun j => fI s.heap sq j) (fun j => fI s.heap sq j) sc.toNatClampNeg (sc.toNatClampNeg) 2 ([]) := CSP.nil
  have J4 : ∀ (nf : Nat) (a_ : EF) (dl : List EF) (ls20618 : Array Slot) (H20617 : Heap) (locsH20617 : List Loc) (x20620 : Int32) (x20621 : Int32) (x20622 : Int32) (x20623 : Int32) (x20624 : Int32), lv_has ls20618 5 [(0, .ref a0), (1, .int x20620), (2, .int x20621)] → TY K G H20617 → va_S (AE G [78, 69, 77] s.heap.size) s.heap H20617 locsH20617 → (0 ≤ x20620.toInt ∧ x20620.toInt ≤ 47) → (0 ≤ x20621.toInt ∧ x20621.toInt ≤ 500) → (0 ≤ x20622.toInt ∧ x20622.toInt ≤ 500) → (0 ≤ x20624.toInt ∧ x20624.toInt ≤ 500) → (x20622 = fI H20617 a0 (K.1.2 4 7)) → (x20623 = fI H20617 a0 (K.1.2 4 1)) → (x20624 = fI H20617 mq (K.1.2 7 9)) → (mq = fR H20617 a0 (K.1.2 4 0)) → (kq = fR H20617 a0 (K.1.2 4 3)) → (vq = fR H20617 a0 (K.1.2 4 4)) → (sq = fR H20617 mq (K.1.2 7 8)) → (lw = fI H20617 a0 (K.1.2 4 8)) → (li = fI H20617 mq (K.1.2 7 0)) → (fI H20617 kq (F : Int32).toNatClampNeg = 26) → (∀ j : Nat, j ≤ F.toNatClampNeg → kk j = (fI H20617 kq j).toInt) → (∀ j : Nat, j ≤ F.toNatClampNeg → vv j = (fI H20617 vq j).toInt) → (RFT K H20617 s.heap mq) → (CSP lw.toInt (fun j => fI H20617 sq j) (fun j => fI s.heap sq j) sc.toNatClampNeg (x20624.toNatClampNeg) 2 (dl)) → (500 - x20621.toInt < (nf : Int)) → (2 * x20621.toInt ≤ x20622.toInt ∧ tat.toInt ≤ x20622.toInt ∧ ((x20620.toInt = 0 ∧ x20624.toInt + tat.toInt ≤ sc.toInt + x20622.toInt) ∨ (x20620.toInt ≠ 0 ∧ x20624.toInt + tat.toInt + 1 ≤ sc.toInt + x20622.toInt)) ∧ x20622.toInt ≤ F.toInt ∧ x20623.toInt = fa.toInt ∧ sc.toInt ≤ x20624.toInt) → (tmI kk vv lw.toInt 0 tat.toNatClampNeg = tmI kk vv lw.toInt x20620.toInt x20622.toNatClampNeg) → (tmG kk vv 0 zF tat.toNatClampNeg = tmG kk vv x20620.toInt a_ x20622.toNatClampNeg) → ((x20620.toInt = 0 ∧ dl = []) ∨ ((x20620.toInt = 42 ∨ x20620.toInt = 47) ∧ dl = [a_])) → W p l e ({ frames := 1, cells := 0, slots := 0, locals := 22 } : Room) s m (([.ref a0] : List Value).toArray) below meth c H20617 locsH20617 0 0 Q (F0 m 4 ls20618 []) := by
    intro nf
    induction nf with
    | zero =>
      intro a_ dl ls20618 H20617 locsH20617 x20620 x20621 x20622 x20623 x20624 hl20619 hTH20617 hSH20617 bx20620 bx20621 bx20622 bx20624 ex20622 ex20623 ex20624 cy20625_0 cy20625_1 cy20625_2 cy20625_3 cy20625_4 cy20625_5 cy20625_6 fy20625_kk fy20625_vv fy20625_rt fy20625_cs hm4 iv4 hsp4 hsf4 hdl4
      have rx20623 := i_rng x20623
      exfalso
      omega
    | succ nf ih4 =>
      intro a_ dl ls20618 H20617 locsH20617 x20620 x20621 x20622 x20623 x20624 hl20619 hTH20617 hSH20617 bx20620 bx20621 bx20622 bx20624 ex20622 ex20623 ex20624 cy20625_0 cy20625_1 cy20625_2 cy20625_3 cy20625_4 cy20625_5 cy20625_6 fy20625_kk fy20625_vv fy20625_rt fy20625_cs hm4 iv4 hsp4 hsf4 hdl4
      have rx20623 := i_rng x20623
      refine lv_iload_n hx hb dX4_term_4 rfl (lv_at hl20619 2 rfl) ?_
      refine lv_sipush (v := 500) hx hb dX4_term_5 (by decide) ?_
      refine lv_icmp_ge (tgt := 169) hx hb dX4_term_8 (by decide) (fun c20626 => ?_) (fun c20626 => ?_)
      · have k20627 := i_le c20626
        refine lv_iconst (v := 1) hx hb dX4_term_169 (by decide) ?_
        exact x_zret C hQ (Or.inr rfl) dX4_term_170 hSH20617 (by decide) (by decide) (⟨1, x20622, x20623, x20624, rfl, by decide, ex20622, ex20623, ex20624, by omega, cy20625_0, cy20625_1, cy20625_2, cy20625_3, cy20625_4, cy20625_5, (by exfalso; omega), (by exfalso; omega), fy20625_rt, hTH20617⟩)
      · have k20627 := i_nle c20626
        refine lv_aload_n hx hb dX4_term_11 rfl (lv_at hl20619 0 rfl) ?_
        refine x_gr C hTH20617 (ci := 4) (k := 3) rfl inX4 (by decide) wF_X4_18 ga0 rg_78 rfl dX4_term_12 (fun q20628 eq20628 gq20628 => ?_)
        have uq20628 : kq = q20628 := (cy20625_1).trans eq20628.symm
        subst uq20628
        refine lv_aload_n hx hb dX4_term_15 rfl (lv_at hl20619 0 rfl) ?_
        refine x_gi C hTH20617 (ci := 4) (k := 7) rfl inX4 (by decide) wF_X4_42 ga0 rg_78 rfl dX4_term_16 (fun x20629 ex20629 bx20629 => ?_)
        have ux20629 : x20622 = x20629 := (ex20622).trans ex20629.symm
        subst ux20629
        refine x_ai C hTH20617 gkq rg_79 ⟨by omega, by show _ < ((501 : Nat) : Int); omega⟩ dX4_term_19 (fun x20630 ex20630 bx20630 => ?_)
        have dx20630 := el_hit ex20630 cy20625_6
        have qvx20630 : kk x20622.toNatClampNeg = x20630.toInt := (fy20625_kk _ (by have h1 := i_cl (x := x20622) (by omega); have h2 := i_cl (x := F) (by omega); omega)).trans (congrArg Int32.toInt ex20630.symm)
        refine lv_istore_n (lv' := [(3, .int x20630), (0, .ref a0), (1, .int x20620), (2, .int x20621)]) hx hb dX4_term_20 rfl hl20619 (by decide) rfl (fun ls20631 hl20632 => ?_)
        refine lv_aload_n hx hb dX4_term_21 rfl (lv_at hl20632 1 rfl) ?_
        refine x_gr C hTH20617 (ci := 4) (k := 4) rfl inX4 (by decide) wF_X4_22 ga0 rg_78 rfl dX4_term_22 (fun q20633 eq20633 gq20633 => ?_)
        have uq20633 : vq = q20633 := (cy20625_2).trans eq20633.symm
        subst uq20633
        refine lv_aload_n hx hb dX4_term_25 rfl (lv_at hl20632 1 rfl) ?_
        refine x_gi C hTH20617 (ci := 4) (k := 7) rfl inX4 (by decide) wF_X4_42 ga0 rg_78 rfl dX4_term_26 (fun x20634 ex20634 bx20634 => ?_)
        have ux20634 : x20622 = x20634 := (ex20622).trans ex20634.symm
        subst ux20634
        refine x_ai C hTH20617 gvq rg_80 ⟨by omega, by show _ < ((501 : Nat) : Int); omega⟩ dX4_term_29 (fun x20635 ex20635 bx20635 => ?_)
        have qvx20635 : vv x20622.toNatClampNeg = x20635.toInt := (fy20625_vv _ (by have h1 := i_cl (x := x20622) (by omega); have h2 := i_cl (x := F) (by omega); omega)).trans (congrArg Int32.toInt ex20635.symm)
        have hbx20635 := hy0 x20622.toNatClampNeg
        refine lv_istore (lv' := [(4, .int x20635), (3, .int x20630), (0, .ref a0), (1, .int x20620), (2, .int x20621)]) hx hb dX4_term_30 hl20632 (by decide) rfl (fun ls20636 hl20637 => ?_)
        refine lv_iload_n hx hb dX4_term_32 rfl (lv_at hl20637 1 rfl) ?_
        refine lv_bipush (v := 24) hx hb dX4_term_33 (by decide) ?_
        refine lv_icmp_eq (tgt := 58) hx hb dX4_term_35 (by decide) (fun c20638 => ?_) (fun c20638 => ?_)
        · have k20639 := i_eq c20638
          refine lv_iload_n hx hb dX4_term_58 rfl (lv_at hl20637 3 rfl) ?_
          refine lv_bipush (v := 47) hx hb dX4_term_59 (by decide) ?_
          refine lv_icmp_ne (tgt := 75) hx hb dX4_term_61 (by decide) (fun c20640 => ?_) (fun c20640 => ?_)
          · have k20641 := i_ne c20640
            refine lv_iload_n hx hb dX4_term_75 rfl (lv_at hl20637 3 rfl) ?_
            refine lv_bipush (v := 47) hx hb dX4_term_76 (by decide) ?_
            refine lv_icmp_ne (tgt := 94) hx hb dX4_term_78 (by decide) (fun c20642 => ?_) (fun c20642 => ?_)
            · have k20643 := i_ne c20642
              refine lv_aload_n hx hb dX4_term_94 rfl (lv_at hl20637 2 rfl) ?_
              refine x_gr C hTH20617 (ci := 4) (k := 0) rfl inX4 (by decide) wF_X4_12 ga0 rg_78 rfl dX4_term_95 (fun q20644 eq20644 gq20644 => ?_)
              have uq20644 : mq = q20644 := (cy20625_0).trans eq20644.symm
              subst uq20644
              refine lv_iload_n hx hb dX4_term_98 rfl (lv_at hl20637 1 rfl) ?_
              refine lv_iload hx hb dX4_term_99 (lv_at hl20637 0 rfl) ?_
              refine x_V (As := [.int x20630, .int x20635]) (rest := []) C (a_X7_addStep_g l K G H20617 (x20630) (x20635) (x20624) (li) hTH20617 gmq (by omega) (by omega) gsq cy20625_3 ex20624 cy20625_5 (by omega)) yo_X7_addStep wM_X4_131 ⟨⟨by decide, by decide⟩, by decide, by decide⟩ (x_rv C hTH20617 (ci := 7) rfl gmq rg_69) rfl hl20637.1 rfl (Nat.le_of_ble_eq_true rfl) dX4_term_101 hSH20617 (AE_sub (fun _ _ => rfl) (by decide) hSH20617.1) (fun vH20645 H20645 locsH20645 pH20645 zH20645 kH20645 hSH20645 => ?_)
              obtain ⟨x20646, hvH20645, ex20646, hrH20645, m20647, m20648, m20649, m20650, m20651, hTH20645⟩ := pH20645
              subst hvH20645
              have f20652 : ∀ j : Nat, j ≤ F.toNatClampNeg → kk j = (fI H20645 kq j).toInt := fun j hj => (fy20625_kk j hj).trans (congrArg Int32.toInt (fI_kept (x_lt hTH20617 kH20645 gkq (by decide))).symm)
              have f20653 : ∀ j : Nat, j ≤ F.toNatClampNeg → vv j = (fI H20645 vq j).toInt := fun j hj => (fy20625_vv j hj).trans (congrArg Int32.toInt (fI_kept (x_lt hTH20617 kH20645 gvq (by decide))).symm)
              have m20654 := (ex20622).trans (fI_kept (x_lt hTH20617 kH20645 ga0 (by decide))).symm
              have m20655 := (ex20623).trans (fI_kept (x_lt hTH20617 kH20645 ga0 (by decide))).symm
              have m20656 := (cy20625_0).trans (fR_kept (x_lt hTH20617 kH20645 ga0 (by decide))).symm
              have m20657 := (cy20625_1).trans (fR_kept (x_lt hTH20617 kH20645 ga0 (by decide))).symm
              have m20658 := (cy20625_2).trans (fR_kept (x_lt hTH20617 kH20645 ga0 (by decide))).symm
              have m20659 := (cy20625_4).trans (fI_kept (x_lt hTH20617 kH20645 ga0 (by decide))).symm
              have m20660 := (fI_kept (x_lt hTH20617 kH20645 gkq (by decide))).trans cy20625_6
              have m20661 := (ex20630).trans (fI_kept (x_lt hTH20617 kH20645 gkq (by decide))).symm
              have m20662 := (ex20635).trans (fI_kept (x_lt hTH20617 kH20645 gvq (by decide))).symm
              have bx20646 := ty_fi (x := x20646) (k := 9) ex20646 hTH20645 gmq rg_69 rfl
              have cn_x20624 := i_cl (x := x20624) (by omega)
              have cn_x20624 := i_cl (x := x20624) (by omega)
              have cn_x20646 := i_cl (x := x20646) (by omega)
              have cn_x20622 := i_cl (x := x20622) (by omega)
              have cn_F := i_cl (x := F) (by omega)
              have hv_ := hy0 x20622.toNatClampNeg
              have cs20663 : CSP lw.toInt (fun j => fI H20645 sq j) (fun j => fI s.heap sq j) sc.toNatClampNeg (x20646.toNatClampNeg) 2 ((unF kk vv x20622.toNatClampNeg) :: dl) := CSP.unit fy20625_cs m20649 (Eq.trans m20650 (by omega)) (by omega) (by unfold UO; omega) (by omega) (by omega) (Nat.le_refl _) (by rcases hdl4 with z | z <;> rw [z.2] <;> exact Nat.le_of_ble_eq_true rfl)
              have f20664 : RFT K H20645 s.heap mq := RFT.st fy20625_rt m20651
              refine W.eq (g2 := F0 m 104 ls20636 []) rfl ?_
              refine lv_iload_n hx hb dX4_term_104 rfl (lv_at hl20637 3 rfl) ?_
              refine lv_bipush (v := 42) hx hb dX4_term_105 (by decide) ?_
              refine lv_icmp_ne (tgt := 119) hx hb dX4_term_107 (by decide) (fun c20665 => ?_) (fun c20665 => ?_)
              · have k20666 := i_ne c20665
                have cn_x20622 := i_cl (x := x20622) (by omega)
                have cn_x20646 := i_cl (x := x20646) (by omega)
                have hd0 : dl = [] := (hdl4.resolve_right (fun z => by have := z.1; omega)).2
                have hz_ : [cbF x20620.toInt a_ (unF kk vv x20622.toNatClampNeg)] = (unF kk vv x20622.toNatClampNeg) :: dl := by rw [hd0, show x20620.toInt = 0 by omega]; rfl
                have cs20667 : CSP lw.toInt (fun j => fI H20645 sq j) (fun j => fI s.heap sq j) sc.toNatClampNeg (x20646.toNatClampNeg) 2 ([cbF x20620.toInt a_ (unF kk vv x20622.toNatClampNeg)]) := CSP.cast cs20663 rfl rfl (Nat.le_refl _) hz_
                refine lv_aload_n hx hb dX4_term_119 rfl (lv_at hl20637 2 rfl) ?_
                refine lv_dup hx hb dX4_term_120 rfl ?_
                refine x_gi C hTH20645 (ci := 4) (k := 7) rfl inX4 (by decide) wF_X4_42 ga0 rg_78 rfl dX4_term_121 (fun x20668 ex20668 bx20668 => ?_)
                have ux20668 : x20622 = x20668 := (m20654).trans ex20668.symm
                subst ux20668
                refine lv_iconst (v := 1) hx hb dX4_term_124 (by decide) ?_
                refine lv_iadd hx hb dX4_term_125 ?_
                refine lv_topi (fun x20669 ex20669 => ?_)
                have tx20669 := i_add ex20669 (by omega)
                have fz20671 : 0 ≤ x20669.toInt ∧ x20669.toInt ≤ 500 := by have := i_rng x20669; omega
                refine x_put C hTH20645 hSH20645 (ci := 4) (k := 7) (v := .int x20669) (ty0 := tyX4) rfl inX4 tyX4_ok nmX4 (by decide) rfl wF_X4_42 ga0 rg_78 rfl rfl (okI (by have := i_rng x20669; omega) (by have := i_rng x20669; omega)) rfl rfl (AE_in ga0 (by decide)) dX4_term_126 (fun H20670 locsH20670 hTH20670 hSH20670 wH20670 => ?_)
                have f20672 : ∀ j : Nat, j ≤ F.toNatClampNeg → kk j = (fI H20670 kq j).toInt := fun j hj => (f20652 j hj).trans (congrArg Int32.toInt (Wr.neI wH20670 (Or.inl (G_ne gkq ga0 (by decide)))).symm)
                have f20673 : ∀ j : Nat, j ≤ F.toNatClampNeg → vv j = (fI H20670 vq j).toInt := fun j hj => (f20653 j hj).trans (congrArg Int32.toInt (Wr.neI wH20670 (Or.inl (G_ne gvq ga0 (by decide)))).symm)
                have f20674 : CSP lw.toInt (fun j => fI H20670 sq j) (fun j => fI s.heap sq j) sc.toNatClampNeg (x20646.toNatClampNeg) 2 ([cbF x20620.toInt a_ (unF kk vv x20622.toNatClampNeg)]) := CSP.kept cs20667 (fun j => fI_kept (wH20670.off (G_ne gsq ga0 (by decide))))
                have f20675 : RFT K H20670 s.heap mq := RFT.st f20664 (fun k h1 h8 => fR_kept (wH20670.off (G_ne gmq ga0 (by decide))))
                have m20677 := m20655.trans (Wr.neI wH20670 (Or.inr (x_apart hKT hts inX4 tyX4 tyX4_ok nmX4 rfl 1 7 (by decide) (by decide) (by decide)))).symm
                have m20678 := m20656.trans (Wr.neR wH20670 (Or.inr (x_apart hKT hts inX4 tyX4 tyX4_ok nmX4 rfl 0 7 (by decide) (by decide) (by decide)))).symm
                have m20679 := m20657.trans (Wr.neR wH20670 (Or.inr (x_apart hKT hts inX4 tyX4 tyX4_ok nmX4 rfl 3 7 (by decide) (by decide) (by decide)))).symm
                have m20680 := m20658.trans (Wr.neR wH20670 (Or.inr (x_apart hKT hts inX4 tyX4 tyX4_ok nmX4 rfl 4 7 (by decide) (by decide) (by decide)))).symm
                have m20681 := m20659.trans (Wr.neI wH20670 (Or.inr (x_apart hKT hts inX4 tyX4 tyX4_ok nmX4 rfl 8 7 (by decide) (by decide) (by decide)))).symm
                have m20682 := (Wr.neI wH20670 (Or.inl (G_ne gkq ga0 (by decide)))).trans m20660
                have m20683 := m20661.trans (Wr.neI wH20670 (Or.inl (G_ne gkq ga0 (by decide)))).symm
                have m20684 := m20662.trans (Wr.neI wH20670 (Or.inl (G_ne gvq ga0 (by decide)))).symm
                have m20685 := m20647.trans (Wr.neR wH20670 (Or.inl (G_ne gmq ga0 (by decide)))).symm
                have m20686 := m20648.trans (Wr.neI wH20670 (Or.inl (G_ne gmq ga0 (by decide)))).symm
                have m20687 := ex20646.trans (Wr.neI wH20670 (Or.inl (G_ne gmq ga0 (by decide)))).symm
                have m20688 := Wr.I wH20670
                have m20688 := m20688.symm
                refine lv_aload_n hx hb dX4_term_129 rfl (lv_at hl20637 2 rfl) ?_
                refine x_gr C hTH20670 (ci := 4) (k := 3) rfl inX4 (by decide) wF_X4_18 ga0 rg_78 rfl dX4_term_130 (fun q20689 eq20689 gq20689 => ?_)
                have uq20689 : kq = q20689 := (m20679).trans eq20689.symm
                subst uq20689
                refine lv_aload_n hx hb dX4_term_133 rfl (lv_at hl20637 2 rfl) ?_
                refine x_gi C hTH20670 (ci := 4) (k := 7) rfl inX4 (by decide) wF_X4_42 ga0 rg_78 rfl dX4_term_134 (fun x20690 ex20690 bx20690 => ?_)
                have ux20690 : x20669 = x20690 := (m20688).trans ex20690.symm
                subst ux20690
                refine x_ai C hTH20670 gkq rg_79 ⟨by omega, by show _ < ((501 : Nat) : Int); omega⟩ dX4_term_137 (fun x20691 ex20691 bx20691 => ?_)
                have dx20691 := el_hit ex20691 m20682
                have qvx20691 : kk x20669.toNatClampNeg = x20691.toInt := (f20672 _ (by have h1 := i_cl (x := x20669) (by omega); have h2 := i_cl (x := F) (by omega); omega)).trans (congrArg Int32.toInt ex20691.symm)
                have cn_x20669 := i_cl (x := x20669) (by omega)
                have cn_x20622 := i_cl (x := x20622) (by omega)
                have qn20692 : kk (x20622.toNatClampNeg + 1) = x20691.toInt := by rw [show x20622.toNatClampNeg + 1 = x20669.toNatClampNeg by omega]; exact qvx20691
                refine lv_istore_n (lv' := [(1, .int x20691), (4, .int x20635), (3, .int x20630), (0, .ref a0), (2, .int x20621)]) hx hb dX4_term_138 rfl hl20637 (by decide) rfl (fun ls20693 hl20694 => ?_)
                refine lv_iload_n hx hb dX4_term_139 rfl (lv_at hl20694 0 rfl) ?_
                refine lv_bipush (v := 42) hx hb dX4_term_140 (by decide) ?_
                refine lv_icmp_eq (tgt := 153) hx hb dX4_term_142 (by decide) (fun c20695 => ?_) (fun c20695 => ?_)
                · have k20696 := i_eq c20695
                  refine lv_aload_n hx hb dX4_term_153 rfl (lv_at hl20694 3 rfl) ?_
                  refine lv_dup hx hb dX4_term_154 rfl ?_
                  refine x_gi C hTH20670 (ci := 4) (k := 7) rfl inX4 (by decide) wF_X4_42 ga0 rg_78 rfl dX4_term_155 (fun x20697 ex20697 bx20697 => ?_)
                  have ux20697 : x20669 = x20697 := (m20688).trans ex20697.symm
                  subst ux20697
                  refine lv_iconst (v := 1) hx hb dX4_term_158 (by decide) ?_
                  refine lv_iadd hx hb dX4_term_159 ?_
                  refine lv_topi (fun x20698 ex20698 => ?_)
                  have tx20698 := i_add ex20698 (by omega)
                  have fz20700 : 0 ≤ x20698.toInt ∧ x20698.toInt ≤ 500 := by have := i_rng x20698; omega
                  refine x_put C hTH20670 hSH20670 (ci := 4) (k := 7) (v := .int x20698) (ty0 := tyX4) rfl inX4 tyX4_ok nmX4 (by decide) rfl wF_X4_42 ga0 rg_78 rfl rfl (okI (by have := i_rng x20698; omega) (by have := i_rng x20698; omega)) rfl rfl (AE_in ga0 (by decide)) dX4_term_160 (fun H20699 locsH20699 hTH20699 hSH20699 wH20699 => ?_)
                  have f20701 : ∀ j : Nat, j ≤ F.toNatClampNeg → kk j = (fI H20699 kq j).toInt := fun j hj => (f20672 j hj).trans (congrArg Int32.toInt (Wr.neI wH20699 (Or.inl (G_ne gkq ga0 (by decide)))).symm)
                  have f20702 : ∀ j : Nat, j ≤ F.toNatClampNeg → vv j = (fI H20699 vq j).toInt := fun j hj => (f20673 j hj).trans (congrArg Int32.toInt (Wr.neI wH20699 (Or.inl (G_ne gvq ga0 (by decide)))).symm)
                  have f20703 : CSP lw.toInt (fun j => fI H20699 sq j) (fun j => fI s.heap sq j) sc.toNatClampNeg (x20646.toNatClampNeg) 2 ([cbF x20620.toInt a_ (unF kk vv x20622.toNatClampNeg)]) := CSP.kept f20674 (fun j => fI_kept (wH20699.off (G_ne gsq ga0 (by decide))))
                  have f20704 : RFT K H20699 s.heap mq := RFT.st f20675 (fun k h1 h8 => fR_kept (wH20699.off (G_ne gmq ga0 (by decide))))
                  have m20705 := m20677.trans (Wr.neI wH20699 (Or.inr (x_apart hKT hts inX4 tyX4 tyX4_ok nmX4 rfl 1 7 (by decide) (by decide) (by decide)))).symm
                  have m20706 := m20678.trans (Wr.neR wH20699 (Or.inr (x_apart hKT hts inX4 tyX4 tyX4_ok nmX4 rfl 0 7 (by decide) (by decide) (by decide)))).symm
                  have m20707 := m20679.trans (Wr.neR wH20699 (Or.inr (x_apart hKT hts inX4 tyX4 tyX4_ok nmX4 rfl 3 7 (by decide) (by decide) (by decide)))).symm
                  have m20708 := m20680.trans (Wr.neR wH20699 (Or.inr (x_apart hKT hts inX4 tyX4 tyX4_ok nmX4 rfl 4 7 (by decide) (by decide) (by decide)))).symm
                  have m20709 := m20681.trans (Wr.neI wH20699 (Or.inr (x_apart hKT hts inX4 tyX4 tyX4_ok nmX4 rfl 8 7 (by decide) (by decide) (by decide)))).symm
                  have m20710 := (Wr.neI wH20699 (Or.inl (G_ne gkq ga0 (by decide)))).trans m20682
                  have m20711 := m20683.trans (Wr.neI wH20699 (Or.inl (G_ne gkq ga0 (by decide)))).symm
                  have m20712 := m20684.trans (Wr.neI wH20699 (Or.inl (G_ne gvq ga0 (by decide)))).symm
                  have m20713 := m20685.trans (Wr.neR wH20699 (Or.inl (G_ne gmq ga0 (by decide)))).symm
                  have m20714 := m20686.trans (Wr.neI wH20699 (Or.inl (G_ne gmq ga0 (by decide)))).symm
                  have m20715 := m20687.trans (Wr.neI wH20699 (Or.inl (G_ne gmq ga0 (by decide)))).symm
                  have m20717 := ex20691.trans (Wr.neI wH20699 (Or.inl (G_ne gkq ga0 (by decide)))).symm
                  have m20718 := Wr.I wH20699
                  have m20718 := m20718.symm
                  obtain ⟨x20719, ex20719⟩ : ∃ y : Int32, y = x20621 + 1 := ⟨_, rfl⟩
                  have tx20719 := i_add ex20719 (by omega)
                  refine lv_iinc (v := x20719) (lv' := [(2, .int x20719), (1, .int x20691), (4, .int x20635), (3, .int x20630), (0, .ref a0)]) hx hb dX4_term_163 hl20694 (k := 4) rfl (by rw [ex20719]; rfl) (by decide) rfl (fun ls20720 hl20721 => ?_)
                  refine lv_goto (tgt := 4) hx hb dX4_term_166 (by decide) ?_
                  have cn_x20646 := i_cl (x := x20646) (by omega)
                  have cn_x20646 := i_cl (x := x20646) (by omega)
                  have cn_x20622 := i_cl (x := x20622) (by omega)
                  have cn_x20698 := i_cl (x := x20698) (by omega)
                  have cn_F := i_cl (x := F) (by omega)
                  exact ih4 (cbF x20620.toInt a_ (unF kk vv x20622.toNatClampNeg)) [cbF x20620.toInt a_ (unF kk vv x20622.toNatClampNeg)] ls20720 H20699 locsH20699 (x20691) (x20719) (x20698) (x20623) (x20646) (lv_sub hl20721 [4, 1, 0] rfl) hTH20699 hSH20699 (by have := i_rng x20691; omega) (by have := i_rng x20719; omega) (by have := i_rng x20698; omega) (by have := i_rng x20646; omega) m20718 m20705 m20715 m20706 m20707 m20708 m20713 m20709 m20714 m20710 f20701 f20702 f20704 (CSP.cast f20703 rfl (by omega) (Nat.le_refl _) rfl) (by omega) (by omega) (hsp4.trans (by rw [tmI_eq (by omega), if_neg (by omega), if_neg (by omega), if_pos (by omega), qn20692, show x20622.toNatClampNeg + 2 = x20698.toNatClampNeg by omega])) (hsf4.trans (by exact tmG_go (by omega) qn20692 (by omega) (by omega))) (Or.inr ⟨by omega, rfl⟩)
                · have k20696 := i_ne c20695
                  refine lv_iload_n hx hb dX4_term_145 rfl (lv_at hl20694 0 rfl) ?_
                  refine lv_bipush (v := 47) hx hb dX4_term_146 (by decide) ?_
                  refine lv_icmp_eq (tgt := 153) hx hb dX4_term_148 (by decide) (fun c20722 => ?_) (fun c20722 => ?_)
                  · have k20723 := i_eq c20722
                    refine lv_aload_n hx hb dX4_term_153 rfl (lv_at hl20694 3 rfl) ?_
                    refine lv_dup hx hb dX4_term_154 rfl ?_
                    refine x_gi C hTH20670 (ci := 4) (k := 7) rfl inX4 (by decide) wF_X4_42 ga0 rg_78 rfl dX4_term_155 (fun x20724 ex20724 bx20724 => ?_)
                    have ux20724 : x20669 = x20724 := (m20688).trans ex20724.symm
                    subst ux20724
                    refine lv_iconst (v := 1) hx hb dX4_term_158 (by decide) ?_
                    refine lv_iadd hx hb dX4_term_159 ?_
                    refine lv_topi (fun x20725 ex20725 => ?_)
                    have tx20725 := i_add ex20725 (by omega)
                    have fz20727 : 0 ≤ x20725.toInt ∧ x20725.toInt ≤ 500 := by have := i_rng x20725; omega
                    refine x_put C hTH20670 hSH20670 (ci := 4) (k := 7) (v := .int x20725) (ty0 := tyX4) rfl inX4 tyX4_ok nmX4 (by decide) rfl wF_X4_42 ga0 rg_78 rfl rfl (okI (by have := i_rng x20725; omega) (by have := i_rng x20725; omega)) rfl rfl (AE_in ga0 (by decide)) dX4_term_160 (fun H20726 locsH20726 hTH20726 hSH20726 wH20726 => ?_)
                    have f20728 : ∀ j : Nat, j ≤ F.toNatClampNeg → kk j = (fI H20726 kq j).toInt := fun j hj => (f20672 j hj).trans (congrArg Int32.toInt (Wr.neI wH20726 (Or.inl (G_ne gkq ga0 (by decide)))).symm)
                    have f20729 : ∀ j : Nat, j ≤ F.toNatClampNeg → vv j = (fI H20726 vq j).toInt := fun j hj => (f20673 j hj).trans (congrArg Int32.toInt (Wr.neI wH20726 (Or.inl (G_ne gvq ga0 (by decide)))).symm)
                    have f20730 : CSP lw.toInt (fun j => fI H20726 sq j) (fun j => fI s.heap sq j) sc.toNatClampNeg (x20646.toNatClampNeg) 2 ([cbF x20620.toInt a_ (unF kk vv x20622.toNatClampNeg)]) := CSP.kept f20674 (fun j => fI_kept (wH20726.off (G_ne gsq ga0 (by decide))))
                    have f20731 : RFT K H20726 s.heap mq := RFT.st f20675 (fun k h1 h8 => fR_kept (wH20726.off (G_ne gmq ga0 (by decide))))
                    have m20732 := m20677.trans (Wr.neI wH20726 (Or.inr (x_apart hKT hts inX4 tyX4 tyX4_ok nmX4 rfl 1 7 (by decide) (by decide) (by decide)))).symm
                    have m20733 := m20678.trans (Wr.neR wH20726 (Or.inr (x_apart hKT hts inX4 tyX4 tyX4_ok nmX4 rfl 0 7 (by decide) (by decide) (by decide)))).symm
                    have m20734 := m20679.trans (Wr.neR wH20726 (Or.inr (x_apart hKT hts inX4 tyX4 tyX4_ok nmX4 rfl 3 7 (by decide) (by decide) (by decide)))).symm
                    have m20735 := m20680.trans (Wr.neR wH20726 (Or.inr (x_apart hKT hts inX4 tyX4 tyX4_ok nmX4 rfl 4 7 (by decide) (by decide) (by decide)))).symm
                    have m20736 := m20681.trans (Wr.neI wH20726 (Or.inr (x_apart hKT hts inX4 tyX4 tyX4_ok nmX4 rfl 8 7 (by decide) (by decide) (by decide)))).symm
                    have m20737 := (Wr.neI wH20726 (Or.inl (G_ne gkq ga0 (by decide)))).trans m20682
                    have m20738 := m20683.trans (Wr.neI wH20726 (Or.inl (G_ne gkq ga0 (by decide)))).symm
                    have m20739 := m20684.trans (Wr.neI wH20726 (Or.inl (G_ne gvq ga0 (by decide)))).symm
                    have m20740 := m20685.trans (Wr.neR wH20726 (Or.inl (G_ne gmq ga0 (by decide)))).symm
                    have m20741 := m20686.trans (Wr.neI wH20726 (Or.inl (G_ne gmq ga0 (by decide)))).symm
                    have m20742 := m20687.trans (Wr.neI wH20726 (Or.inl (G_ne gmq ga0 (by decide)))).symm
                    have m20744 := ex20691.trans (Wr.neI wH20726 (Or.inl (G_ne gkq ga0 (by decide)))).symm
                    have m20745 := Wr.I wH20726
                    have m20745 := m20745.symm
                    obtain ⟨x20746, ex20746⟩ : ∃ y : Int32, y = x20621 + 1 := ⟨_, rfl⟩
                    have tx20746 := i_add ex20746 (by omega)
                    refine lv_iinc (v := x20746) (lv' := [(2, .int x20746), (1, .int x20691), (4, .int x20635), (3, .int x20630), (0, .ref a0)]) hx hb dX4_term_163 hl20694 (k := 4) rfl (by rw [ex20746]; rfl) (by decide) rfl (fun ls20747 hl20748 => ?_)
                    refine lv_goto (tgt := 4) hx hb dX4_term_166 (by decide) ?_
                    have cn_x20646 := i_cl (x := x20646) (by omega)
                    have cn_x20646 := i_cl (x := x20646) (by omega)
                    have cn_x20622 := i_cl (x := x20622) (by omega)
                    have cn_x20725 := i_cl (x := x20725) (by omega)
                    have cn_F := i_cl (x := F) (by omega)
                    exact ih4 (cbF x20620.toInt a_ (unF kk vv x20622.toNatClampNeg)) [cbF x20620.toInt a_ (unF kk vv x20622.toNatClampNeg)] ls20747 H20726 locsH20726 (x20691) (x20746) (x20725) (x20623) (x20646) (lv_sub hl20748 [4, 1, 0] rfl) hTH20726 hSH20726 (by have := i_rng x20691; omega) (by have := i_rng x20746; omega) (by have := i_rng x20725; omega) (by have := i_rng x20646; omega) m20745 m20732 m20742 m20733 m20734 m20735 m20740 m20736 m20741 m20737 f20728 f20729 f20731 (CSP.cast f20730 rfl (by omega) (Nat.le_refl _) rfl) (by omega) (by omega) (hsp4.trans (by rw [tmI_eq (by omega), if_neg (by omega), if_neg (by omega), if_pos (by omega), qn20692, show x20622.toNatClampNeg + 2 = x20725.toNatClampNeg by omega])) (hsf4.trans (by exact tmG_go (by omega) qn20692 (by omega) (by omega))) (Or.inr ⟨by omega, rfl⟩)
                  · have k20723 := i_ne c20722
                    refine lv_iconst (v := 1) hx hb dX4_term_151 (by decide) ?_
                    have cn_x20622 := i_cl (x := x20622) (by omega)
                    have cn_F := i_cl (x := F) (by omega)
                    have cn_x20669 := i_cl (x := x20669) (by omega)
                    have cn_x20622 := i_cl (x := x20622) (by omega)
                    have cn_F := i_cl (x := F) (by omega)
                    have cn_x20646 := i_cl (x := x20646) (by omega)
                    have cn_x20646 := i_cl (x := x20646) (by omega)
                    exact x_zret C hQ (Or.inr rfl) dX4_term_152 hSH20670 (by decide) (by decide) (⟨1, x20669, x20623, x20646, rfl, by decide, m20688, m20677, m20687, by omega, m20678, m20679, m20680, m20685, m20681, m20686, Or.inr ⟨hsp4.trans (by rw [tmI_eq (by omega), if_neg (by omega), if_neg (by omega), if_neg (by omega), show x20622.toNatClampNeg + 1 = x20669.toNatClampNeg by omega]), by omega⟩, Or.inr (CSP.cast f20674 rfl (by omega) (Nat.le_refl _) (congrArg (fun z => [z]) (hsf4.trans (tmG_end (by omega) (by rw [qn20692]; omega))))), f20675, hTH20670⟩)
              · have k20666 := i_eq c20665
                refine lv_aload_n hx hb dX4_term_110 rfl (lv_at hl20637 2 rfl) ?_
                refine x_gr C hTH20645 (ci := 4) (k := 0) rfl inX4 (by decide) wF_X4_12 ga0 rg_78 rfl dX4_term_111 (fun q20749 eq20749 gq20749 => ?_)
                have uq20749 : mq = q20749 := (m20656).trans eq20749.symm
                subst uq20749
                refine lv_iload_n hx hb dX4_term_114 rfl (lv_at hl20637 3 rfl) ?_
                refine lv_iconst (v := 0) hx hb dX4_term_115 (by decide) ?_
                refine x_V (As := [.int x20620, .int 0]) (rest := []) C (a_X7_addStep_g l K G H20645 (x20620) (0) (x20646) (li) hTH20645 gmq (by omega) (by decide) gsq m20647 ex20646 m20648 (by omega)) yo_X7_addStep wM_X4_131 ⟨⟨by decide, by decide⟩, by decide, by decide⟩ (x_rv C hTH20645 (ci := 7) rfl gmq rg_69) rfl hl20637.1 rfl (Nat.le_of_ble_eq_true rfl) dX4_term_116 hSH20645 (AE_sub (fun _ _ => rfl) (by decide) hSH20645.1) (fun vH20750 H20750 locsH20750 pH20750 zH20750 kH20750 hSH20750 => ?_)
                obtain ⟨x20751, hvH20750, ex20751, hrH20750, m20752, m20753, m20754, m20755, m20756, hTH20750⟩ := pH20750
                subst hvH20750
                have f20757 : ∀ j : Nat, j ≤ F.toNatClampNeg → kk j = (fI H20750 kq j).toInt := fun j hj => (f20652 j hj).trans (congrArg Int32.toInt (fI_kept (x_lt hTH20645 kH20750 gkq (by decide))).symm)
                have f20758 : ∀ j : Nat, j ≤ F.toNatClampNeg → vv j = (fI H20750 vq j).toInt := fun j hj => (f20653 j hj).trans (congrArg Int32.toInt (fI_kept (x_lt hTH20645 kH20750 gvq (by decide))).symm)
                have m20759 := (m20654).trans (fI_kept (x_lt hTH20645 kH20750 ga0 (by decide))).symm
                have m20760 := (m20655).trans (fI_kept (x_lt hTH20645 kH20750 ga0 (by decide))).symm
                have m20761 := (m20656).trans (fR_kept (x_lt hTH20645 kH20750 ga0 (by decide))).symm
                have m20762 := (m20657).trans (fR_kept (x_lt hTH20645 kH20750 ga0 (by decide))).symm
                have m20763 := (m20658).trans (fR_kept (x_lt hTH20645 kH20750 ga0 (by decide))).symm
                have m20764 := (m20659).trans (fI_kept (x_lt hTH20645 kH20750 ga0 (by decide))).symm
                have m20765 := (fI_kept (x_lt hTH20645 kH20750 gkq (by decide))).trans m20660
                have m20766 := (m20661).trans (fI_kept (x_lt hTH20645 kH20750 gkq (by decide))).symm
                have m20767 := (m20662).trans (fI_kept (x_lt hTH20645 kH20750 gvq (by decide))).symm
                have bx20751 := ty_fi (x := x20751) (k := 9) ex20751 hTH20750 gmq rg_69 rfl
                have cn_x20646 := i_cl (x := x20646) (by omega)
                have cn_x20646 := i_cl (x := x20646) (by omega)
                have cn_x20751 := i_cl (x := x20751) (by omega)
                have cn_x20622 := i_cl (x := x20622) (by omega)
                have cn_F := i_cl (x := F) (by omega)
                have hv_ := hy0 x20622.toNatClampNeg
                have hd1 : dl = [a_] := (hdl4.resolve_left (fun z => by have := z.1; omega)).2
                have g_ := cs20663
                rw [hd1] at g_
                have cs20768 : CSP lw.toInt (fun j => fI H20750 sq j) (fun j => fI s.heap sq j) sc.toNatClampNeg (x20751.toNatClampNeg) 2 ([cbF 42 a_ (unF kk vv x20622.toNatClampNeg)]) := CSP.bin (s := 42) g_ m20754 (Eq.trans m20755 (by omega)) (by omega) (by omega) (by omega)
                have f20769 : RFT K H20750 s.heap mq := RFT.st f20664 m20756
                refine W.eq (g2 := F0 m 119 ls20636 []) rfl ?_
                have cn_x20622 := i_cl (x := x20622) (by omega)
                have cn_x20751 := i_cl (x := x20751) (by omega)
                have hz_ : [cbF x20620.toInt a_ (unF kk vv x20622.toNatClampNeg)] = [cbF 42 a_ (unF kk vv x20622.toNatClampNeg)] := by rw [show x20620.toInt = 42 by omega]
                have cs20770 : CSP lw.toInt (fun j => fI H20750 sq j) (fun j => fI s.heap sq j) sc.toNatClampNeg (x20751.toNatClampNeg) 2 ([cbF x20620.toInt a_ (unF kk vv x20622.toNatClampNeg)]) := CSP.cast cs20768 rfl rfl (Nat.le_refl _) hz_
                refine lv_aload_n hx hb dX4_term_119 rfl (lv_at hl20637 2 rfl) ?_
                refine lv_dup hx hb dX4_term_120 rfl ?_
                refine x_gi C hTH20750 (ci := 4) (k := 7) rfl inX4 (by decide) wF_X4_42 ga0 rg_78 rfl dX4_term_121 (fun x20771 ex20771 bx20771 => ?_)
                have ux20771 : x20622 = x20771 := (m20759).trans ex20771.symm
                subst ux20771
                refine lv_iconst (v := 1) hx hb dX4_term_124 (by decide) ?_
                refine lv_iadd hx hb dX4_term_125 ?_
                refine lv_topi (fun x20772 ex20772 => ?_)
                have tx20772 := i_add ex20772 (by omega)
                have fz20774 : 0 ≤ x20772.toInt ∧ x20772.toInt ≤ 500 := by have := i_rng x20772; omega
                refine x_put C hTH20750 hSH20750 (ci := 4) (k := 7) (v := .int x20772) (ty0 := tyX4) rfl inX4 tyX4_ok nmX4 (by decide) rfl wF_X4_42 ga0 rg_78 rfl rfl (okI (by have := i_rng x20772; omega) (by have := i_rng x20772; omega)) rfl rfl (AE_in ga0 (by decide)) dX4_term_126 (fun H20773 locsH20773 hTH20773 hSH20773 wH20773 => ?_)
                have f20775 : ∀ j : Nat, j ≤ F.toNatClampNeg → kk j = (fI H20773 kq j).toInt := fun j hj => (f20757 j hj).trans (congrArg Int32.toInt (Wr.neI wH20773 (Or.inl (G_ne gkq ga0 (by decide)))).symm)
                have f20776 : ∀ j : Nat, j ≤ F.toNatClampNeg → vv j = (fI H20773 vq j).toInt := fun j hj => (f20758 j hj).trans (congrArg Int32.toInt (Wr.neI wH20773 (Or.inl (G_ne gvq ga0 (by decide)))).symm)
                have f20777 : CSP lw.toInt (fun j => fI H20773 sq j) (fun j => fI s.heap sq j) sc.toNatClampNeg (x20751.toNatClampNeg) 2 ([cbF x20620.toInt a_ (unF kk vv x20622.toNatClampNeg)]) := CSP.kept cs20770 (fun j => fI_kept (wH20773.off (G_ne gsq ga0 (by decide))))
                have f20778 : RFT K H20773 s.heap mq := RFT.st f20769 (fun k h1 h8 => fR_kept (wH20773.off (G_ne gmq ga0 (by decide))))
                have m20780 := m20760.trans (Wr.neI wH20773 (Or.inr (x_apart hKT hts inX4 tyX4 tyX4_ok nmX4 rfl 1 7 (by decide) (by decide) (by decide)))).symm
                have m20781 := m20761.trans (Wr.neR wH20773 (Or.inr (x_apart hKT hts inX4 tyX4 tyX4_ok nmX4 rfl 0 7 (by decide) (by decide) (by decide)))).symm
                have m20782 := m20762.trans (Wr.neR wH20773 (Or.inr (x_apart hKT hts inX4 tyX4 tyX4_ok nmX4 rfl 3 7 (by decide) (by decide) (by decide)))).symm
                have m20783 := m20763.trans (Wr.neR wH20773 (Or.inr (x_apart hKT hts inX4 tyX4 tyX4_ok nmX4 rfl 4 7 (by decide) (by decide) (by decide)))).symm
                have m20784 := m20764.trans (Wr.neI wH20773 (Or.inr (x_apart hKT hts inX4 tyX4 tyX4_ok nmX4 rfl 8 7 (by decide) (by decide) (by decide)))).symm
                have m20785 := (Wr.neI wH20773 (Or.inl (G_ne gkq ga0 (by decide)))).trans m20765
                have m20786 := m20766.trans (Wr.neI wH20773 (Or.inl (G_ne gkq ga0 (by decide)))).symm
                have m20787 := m20767.trans (Wr.neI wH20773 (Or.inl (G_ne gvq ga0 (by decide)))).symm
                have m20788 := m20752.trans (Wr.neR wH20773 (Or.inl (G_ne gmq ga0 (by decide)))).symm
                have m20789 := m20753.trans (Wr.neI wH20773 (Or.inl (G_ne gmq ga0 (by decide)))).symm
                have m20790 := ex20751.trans (Wr.neI wH20773 (Or.inl (G_ne gmq ga0 (by decide)))).symm
                have m20791 := Wr.I wH20773
                have m20791 := m20791.symm
                refine lv_aload_n hx hb dX4_term_129 rfl (lv_at hl20637 2 rfl) ?_
                refine x_gr C hTH20773 (ci := 4) (k := 3) rfl inX4 (by decide) wF_X4_18 ga0 rg_78 rfl dX4_term_130 (fun q20792 eq20792 gq20792 => ?_)
                have uq20792 : kq = q20792 := (m20782).trans eq20792.symm
                subst uq20792
                refine lv_aload_n hx hb dX4_term_133 rfl (lv_at hl20637 2 rfl) ?_
                refine x_gi C hTH20773 (ci := 4) (k := 7) rfl inX4 (by decide) wF_X4_42 ga0 rg_78 rfl dX4_term_134 (fun x20793 ex20793 bx20793 => ?_)
                have ux20793 : x20772 = x20793 := (m20791).trans ex20793.symm
                subst ux20793
                refine x_ai C hTH20773 gkq rg_79 ⟨by omega, by show _ < ((501 : Nat) : Int); omega⟩ dX4_term_137 (fun x20794 ex20794 bx20794 => ?_)
                have dx20794 := el_hit ex20794 m20785
                have qvx20794 : kk x20772.toNatClampNeg = x20794.toInt := (f20775 _ (by have h1 := i_cl (x := x20772) (by omega); have h2 := i_cl (x := F) (by omega); omega)).trans (congrArg Int32.toInt ex20794.symm)
                have cn_x20772 := i_cl (x := x20772) (by omega)
                have cn_x20622 := i_cl (x := x20622) (by omega)
                have qn20795 : kk (x20622.toNatClampNeg + 1) = x20794.toInt := by rw [show x20622.toNatClampNeg + 1 = x20772.toNatClampNeg by omega]; exact qvx20794
                refine lv_istore_n (lv' := [(1, .int x20794), (4, .int x20635), (3, .int x20630), (0, .ref a0), (2, .int x20621)]) hx hb dX4_term_138 rfl hl20637 (by decide) rfl (fun ls20796 hl20797 => ?_)
                refine lv_iload_n hx hb dX4_term_139 rfl (lv_at hl20797 0 rfl) ?_
                refine lv_bipush (v := 42) hx hb dX4_term_140 (by decide) ?_
                refine lv_icmp_eq (tgt := 153) hx hb dX4_term_142 (by decide) (fun c20798 => ?_) (fun c20798 => ?_)
                · have k20799 := i_eq c20798
                  refine lv_aload_n hx hb dX4_term_153 rfl (lv_at hl20797 3 rfl) ?_
                  refine lv_dup hx hb dX4_term_154 rfl ?_
                  refine x_gi C hTH20773 (ci := 4) (k := 7) rfl inX4 (by decide) wF_X4_42 ga0 rg_78 rfl dX4_term_155 (fun x20800 ex20800 bx20800 => ?_)
                  have ux20800 : x20772 = x20800 := (m20791).trans ex20800.symm
                  subst ux20800
                  refine lv_iconst (v := 1) hx hb dX4_term_158 (by decide) ?_
                  refine lv_iadd hx hb dX4_term_159 ?_
                  refine lv_topi (fun x20801 ex20801 => ?_)
                  have tx20801 := i_add ex20801 (by omega)
                  have fz20803 : 0 ≤ x20801.toInt ∧ x20801.toInt ≤ 500 := by have := i_rng x20801; omega
                  refine x_put C hTH20773 hSH20773 (ci := 4) (k := 7) (v := .int x20801) (ty0 := tyX4) rfl inX4 tyX4_ok nmX4 (by decide) rfl wF_X4_42 ga0 rg_78 rfl rfl (okI (by have := i_rng x20801; omega) (by have := i_rng x20801; omega)) rfl rfl (AE_in ga0 (by decide)) dX4_term_160 (fun H20802 locsH20802 hTH20802 hSH20802 wH20802 => ?_)
                  have f20804 : ∀ j : Nat, j ≤ F.toNatClampNeg → kk j = (fI H20802 kq j).toInt := fun j hj => (f20775 j hj).trans (congrArg Int32.toInt (Wr.neI wH20802 (Or.inl (G_ne gkq ga0 (by decide)))).symm)
                  have f20805 : ∀ j : Nat, j ≤ F.toNatClampNeg → vv j = (fI H20802 vq j).toInt := fun j hj => (f20776 j hj).trans (congrArg Int32.toInt (Wr.neI wH20802 (Or.inl (G_ne gvq ga0 (by decide)))).symm)
                  have f20806 : CSP lw.toInt (fun j => fI H20802 sq j) (fun j => fI s.heap sq j) sc.toNatClampNeg (x20751.toNatClampNeg) 2 ([cbF x20620.toInt a_ (unF kk vv x20622.toNatClampNeg)]) := CSP.kept f20777 (fun j => fI_kept (wH20802.off (G_ne gsq ga0 (by decide))))
                  have f20807 : RFT K H20802 s.heap mq := RFT.st f20778 (fun k h1 h8 => fR_kept (wH20802.off (G_ne gmq ga0 (by decide))))
                  have m20808 := m20780.trans (Wr.neI wH20802 (Or.inr (x_apart hKT hts inX4 tyX4 tyX4_ok nmX4 rfl 1 7 (by decide) (by decide) (by decide)))).symm
                  have m20809 := m20781.trans (Wr.neR wH20802 (Or.inr (x_apart hKT hts inX4 tyX4 tyX4_ok nmX4 rfl 0 7 (by decide) (by decide) (by decide)))).symm
                  have m20810 := m20782.trans (Wr.neR wH20802 (Or.inr (x_apart hKT hts inX4 tyX4 tyX4_ok nmX4 rfl 3 7 (by decide) (by decide) (by decide)))).symm
                  have m20811 := m20783.trans (Wr.neR wH20802 (Or.inr (x_apart hKT hts inX4 tyX4 tyX4_ok nmX4 rfl 4 7 (by decide) (by decide) (by decide)))).symm
                  have m20812 := m20784.trans (Wr.neI wH20802 (Or.inr (x_apart hKT hts inX4 tyX4 tyX4_ok nmX4 rfl 8 7 (by decide) (by decide) (by decide)))).symm
                  have m20813 := (Wr.neI wH20802 (Or.inl (G_ne gkq ga0 (by decide)))).trans m20785
                  have m20814 := m20786.trans (Wr.neI wH20802 (Or.inl (G_ne gkq ga0 (by decide)))).symm
                  have m20815 := m20787.trans (Wr.neI wH20802 (Or.inl (G_ne gvq ga0 (by decide)))).symm
                  have m20816 := m20788.trans (Wr.neR wH20802 (Or.inl (G_ne gmq ga0 (by decide)))).symm
                  have m20817 := m20789.trans (Wr.neI wH20802 (Or.inl (G_ne gmq ga0 (by decide)))).symm
                  have m20818 := m20790.trans (Wr.neI wH20802 (Or.inl (G_ne gmq ga0 (by decide)))).symm
                  have m20820 := ex20794.trans (Wr.neI wH20802 (Or.inl (G_ne gkq ga0 (by decide)))).symm
                  have m20821 := Wr.I wH20802
                  have m20821 := m20821.symm
                  obtain ⟨x20822, ex20822⟩ : ∃ y : Int32, y = x20621 + 1 := ⟨_, rfl⟩
                  have tx20822 := i_add ex20822 (by omega)
                  refine lv_iinc (v := x20822) (lv' := [(2, .int x20822), (1, .int x20794), (4, .int x20635), (3, .int x20630), (0, .ref a0)]) hx hb dX4_term_163 hl20797 (k := 4) rfl (by rw [ex20822]; rfl) (by decide) rfl (fun ls20823 hl20824 => ?_)
                  refine lv_goto (tgt := 4) hx hb dX4_term_166 (by decide) ?_
                  have cn_x20751 := i_cl (x := x20751) (by omega)
                  have cn_x20751 := i_cl (x := x20751) (by omega)
                  have cn_x20622 := i_cl (x := x20622) (by omega)
                  have cn_x20801 := i_cl (x := x20801) (by omega)
                  have cn_F := i_cl (x := F) (by omega)
                  exact ih4 (cbF x20620.toInt a_ (unF kk vv x20622.toNatClampNeg)) [cbF x20620.toInt a_ (unF kk vv x20622.toNatClampNeg)] ls20823 H20802 locsH20802 (x20794) (x20822) (x20801) (x20623) (x20751) (lv_sub hl20824 [4, 1, 0] rfl) hTH20802 hSH20802 (by have := i_rng x20794; omega) (by have := i_rng x20822; omega) (by have := i_rng x20801; omega) (by have := i_rng x20751; omega) m20821 m20808 m20818 m20809 m20810 m20811 m20816 m20812 m20817 m20813 f20804 f20805 f20807 (CSP.cast f20806 rfl (by omega) (Nat.le_refl _) rfl) (by omega) (by omega) (hsp4.trans (by rw [tmI_eq (by omega), if_neg (by omega), if_neg (by omega), if_pos (by omega), qn20795, show x20622.toNatClampNeg + 2 = x20801.toNatClampNeg by omega])) (hsf4.trans (by exact tmG_go (by omega) qn20795 (by omega) (by omega))) (Or.inr ⟨by omega, rfl⟩)
                · have k20799 := i_ne c20798
                  refine lv_iload_n hx hb dX4_term_145 rfl (lv_at hl20797 0 rfl) ?_
                  refine lv_bipush (v := 47) hx hb dX4_term_146 (by decide) ?_
                  refine lv_icmp_eq (tgt := 153) hx hb dX4_term_148 (by decide) (fun c20825 => ?_) (fun c20825 => ?_)
                  · have k20826 := i_eq c20825
                    refine lv_aload_n hx hb dX4_term_153 rfl (lv_at hl20797 3 rfl) ?_
                    refine lv_dup hx hb dX4_term_154 rfl ?_
                    refine x_gi C hTH20773 (ci := 4) (k := 7) rfl inX4 (by decide) wF_X4_42 ga0 rg_78 rfl dX4_term_155 (fun x20827 ex20827 bx20827 => ?_)
                    have ux20827 : x20772 = x20827 := (m20791).trans ex20827.symm
                    subst ux20827
                    refine lv_iconst (v := 1) hx hb dX4_term_158 (by decide) ?_
                    refine lv_iadd hx hb dX4_term_159 ?_
                    refine lv_topi (fun x20828 ex20828 => ?_)
                    have tx20828 := i_add ex20828 (by omega)
                    have fz20830 : 0 ≤ x20828.toInt ∧ x20828.toInt ≤ 500 := by have := i_rng x20828; omega
                    refine x_put C hTH20773 hSH20773 (ci := 4) (k := 7) (v := .int x20828) (ty0 := tyX4) rfl inX4 tyX4_ok nmX4 (by decide) rfl wF_X4_42 ga0 rg_78 rfl rfl (okI (by have := i_rng x20828; omega) (by have := i_rng x20828; omega)) rfl rfl (AE_in ga0 (by decide)) dX4_term_160 (fun H20829 locsH20829 hTH20829 hSH20829 wH20829 => ?_)
                    have f20831 : ∀ j : Nat, j ≤ F.toNatClampNeg → kk j = (fI H20829 kq j).toInt := fun j hj => (f20775 j hj).trans (congrArg Int32.toInt (Wr.neI wH20829 (Or.inl (G_ne gkq ga0 (by decide)))).symm)
                    have f20832 : ∀ j : Nat, j ≤ F.toNatClampNeg → vv j = (fI H20829 vq j).toInt := fun j hj => (f20776 j hj).trans (congrArg Int32.toInt (Wr.neI wH20829 (Or.inl (G_ne gvq ga0 (by decide)))).symm)
                    have f20833 : CSP lw.toInt (fun j => fI H20829 sq j) (fun j => fI s.heap sq j) sc.toNatClampNeg (x20751.toNatClampNeg) 2 ([cbF x20620.toInt a_ (unF kk vv x20622.toNatClampNeg)]) := CSP.kept f20777 (fun j => fI_kept (wH20829.off (G_ne gsq ga0 (by decide))))
                    have f20834 : RFT K H20829 s.heap mq := RFT.st f20778 (fun k h1 h8 => fR_kept (wH20829.off (G_ne gmq ga0 (by decide))))
                    have m20835 := m20780.trans (Wr.neI wH20829 (Or.inr (x_apart hKT hts inX4 tyX4 tyX4_ok nmX4 rfl 1 7 (by decide) (by decide) (by decide)))).symm
                    have m20836 := m20781.trans (Wr.neR wH20829 (Or.inr (x_apart hKT hts inX4 tyX4 tyX4_ok nmX4 rfl 0 7 (by decide) (by decide) (by decide)))).symm
                    have m20837 := m20782.trans (Wr.neR wH20829 (Or.inr (x_apart hKT hts inX4 tyX4 tyX4_ok nmX4 rfl 3 7 (by decide) (by decide) (by decide)))).symm
                    have m20838 := m20783.trans (Wr.neR wH20829 (Or.inr (x_apart hKT hts inX4 tyX4 tyX4_ok nmX4 rfl 4 7 (by decide) (by decide) (by decide)))).symm
                    have m20839 := m20784.trans (Wr.neI wH20829 (Or.inr (x_apart hKT hts inX4 tyX4 tyX4_ok nmX4 rfl 8 7 (by decide) (by decide) (by decide)))).symm
                    have m20840 := (Wr.neI wH20829 (Or.inl (G_ne gkq ga0 (by decide)))).trans m20785
                    have m20841 := m20786.trans (Wr.neI wH20829 (Or.inl (G_ne gkq ga0 (by decide)))).symm
                    have m20842 := m20787.trans (Wr.neI wH20829 (Or.inl (G_ne gvq ga0 (by decide)))).symm
                    have m20843 := m20788.trans (Wr.neR wH20829 (Or.inl (G_ne gmq ga0 (by decide)))).symm
                    have m20844 := m20789.trans (Wr.neI wH20829 (Or.inl (G_ne gmq ga0 (by decide)))).symm
                    have m20845 := m20790.trans (Wr.neI wH20829 (Or.inl (G_ne gmq ga0 (by decide)))).symm
                    have m20847 := ex20794.trans (Wr.neI wH20829 (Or.inl (G_ne gkq ga0 (by decide)))).symm
                    have m20848 := Wr.I wH20829
                    have m20848 := m20848.symm
                    obtain ⟨x20849, ex20849⟩ : ∃ y : Int32, y = x20621 + 1 := ⟨_, rfl⟩
                    have tx20849 := i_add ex20849 (by omega)
                    refine lv_iinc (v := x20849) (lv' := [(2, .int x20849), (1, .int x20794), (4, .int x20635), (3, .int x20630), (0, .ref a0)]) hx hb dX4_term_163 hl20797 (k := 4) rfl (by rw [ex20849]; rfl) (by decide) rfl (fun ls20850 hl20851 => ?_)
                    refine lv_goto (tgt := 4) hx hb dX4_term_166 (by decide) ?_
                    have cn_x20751 := i_cl (x := x20751) (by omega)
                    have cn_x20751 := i_cl (x := x20751) (by omega)
                    have cn_x20622 := i_cl (x := x20622) (by omega)
                    have cn_x20828 := i_cl (x := x20828) (by omega)
                    have cn_F := i_cl (x := F) (by omega)
                    exact ih4 (cbF x20620.toInt a_ (unF kk vv x20622.toNatClampNeg)) [cbF x20620.toInt a_ (unF kk vv x20622.toNatClampNeg)] ls20850 H20829 locsH20829 (x20794) (x20849) (x20828) (x20623) (x20751) (lv_sub hl20851 [4, 1, 0] rfl) hTH20829 hSH20829 (by have := i_rng x20794; omega) (by have := i_rng x20849; omega) (by have := i_rng x20828; omega) (by have := i_rng x20751; omega) m20848 m20835 m20845 m20836 m20837 m20838 m20843 m20839 m20844 m20840 f20831 f20832 f20834 (CSP.cast f20833 rfl (by omega) (Nat.le_refl _) rfl) (by omega) (by omega) (hsp4.trans (by rw [tmI_eq (by omega), if_neg (by omega), if_neg (by omega), if_pos (by omega), qn20795, show x20622.toNatClampNeg + 2 = x20828.toNatClampNeg by omega])) (hsf4.trans (by exact tmG_go (by omega) qn20795 (by omega) (by omega))) (Or.inr ⟨by omega, rfl⟩)
                  · have k20826 := i_ne c20825
                    refine lv_iconst (v := 1) hx hb dX4_term_151 (by decide) ?_
                    have cn_x20622 := i_cl (x := x20622) (by omega)
                    have cn_F := i_cl (x := F) (by omega)
                    have cn_x20772 := i_cl (x := x20772) (by omega)
                    have cn_x20622 := i_cl (x := x20622) (by omega)
                    have cn_F := i_cl (x := F) (by omega)
                    have cn_x20751 := i_cl (x := x20751) (by omega)
                    have cn_x20751 := i_cl (x := x20751) (by omega)
                    exact x_zret C hQ (Or.inr rfl) dX4_term_152 hSH20773 (by decide) (by decide) (⟨1, x20772, x20623, x20751, rfl, by decide, m20791, m20780, m20790, by omega, m20781, m20782, m20783, m20788, m20784, m20789, Or.inr ⟨hsp4.trans (by rw [tmI_eq (by omega), if_neg (by omega), if_neg (by omega), if_neg (by omega), show x20622.toNatClampNeg + 1 = x20772.toNatClampNeg by omega]), by omega⟩, Or.inr (CSP.cast f20777 rfl (by omega) (Nat.le_refl _) (congrArg (fun z => [z]) (hsf4.trans (tmG_end (by omega) (by rw [qn20795]; omega))))), f20778, hTH20773⟩)
            · have k20643 := i_eq c20642
              exfalso
              omega
          · have k20641 := i_eq c20640
            refine lv_iload hx hb dX4_term_64 (lv_at hl20637 0 rfl) ?_
            refine lv_if_ne (tgt := 75) hx hb dX4_term_66 (by decide) (fun c20852 => ?_) (fun c20852 => ?_)
            · have k20853 := i_ne c20852
              refine lv_iload_n hx hb dX4_term_75 rfl (lv_at hl20637 3 rfl) ?_
              refine lv_bipush (v := 47) hx hb dX4_term_76 (by decide) ?_
              refine lv_icmp_ne (tgt := 94) hx hb dX4_term_78 (by decide) (fun c20854 => ?_) (fun c20854 => ?_)
              · have k20855 := i_ne c20854
                exfalso
                omega
              · have k20855 := i_eq c20854
                refine lv_aload_n hx hb dX4_term_81 rfl (lv_at hl20637 2 rfl) ?_
                refine x_gr C hTH20617 (ci := 4) (k := 0) rfl inX4 (by decide) wF_X4_12 ga0 rg_78 rfl dX4_term_82 (fun q20856 eq20856 gq20856 => ?_)
                have uq20856 : mq = q20856 := (cy20625_0).trans eq20856.symm
                subst uq20856
                refine lv_iload_n hx hb dX4_term_85 rfl (lv_at hl20637 3 rfl) ?_
                refine lv_iload hx hb dX4_term_86 (lv_at hl20637 0 rfl) ?_
                refine x_V (As := [.int x20620, .int x20635]) (rest := []) C (a_X7_addStep_g l K G H20617 (x20620) (x20635) (x20624) (li) hTH20617 gmq (by omega) (by omega) gsq cy20625_3 ex20624 cy20625_5 (by omega)) yo_X7_addStep wM_X4_131 ⟨⟨by decide, by decide⟩, by decide, by decide⟩ (x_rv C hTH20617 (ci := 7) rfl gmq rg_69) rfl hl20637.1 rfl (Nat.le_of_ble_eq_true rfl) dX4_term_88 hSH20617 (AE_sub (fun _ _ => rfl) (by decide) hSH20617.1) (fun vH20857 H20857 locsH20857 pH20857 zH20857 kH20857 hSH20857 => ?_)
                obtain ⟨x20858, hvH20857, ex20858, hrH20857, m20859, m20860, m20861, m20862, m20863, hTH20857⟩ := pH20857
                subst hvH20857
                have f20864 : ∀ j : Nat, j ≤ F.toNatClampNeg → kk j = (fI H20857 kq j).toInt := fun j hj => (fy20625_kk j hj).trans (congrArg Int32.toInt (fI_kept (x_lt hTH20617 kH20857 gkq (by decide))).symm)
                have f20865 : ∀ j : Nat, j ≤ F.toNatClampNeg → vv j = (fI H20857 vq j).toInt := fun j hj => (fy20625_vv j hj).trans (congrArg Int32.toInt (fI_kept (x_lt hTH20617 kH20857 gvq (by decide))).symm)
                have m20866 := (ex20622).trans (fI_kept (x_lt hTH20617 kH20857 ga0 (by decide))).symm
                have m20867 := (ex20623).trans (fI_kept (x_lt hTH20617 kH20857 ga0 (by decide))).symm
                have m20868 := (cy20625_0).trans (fR_kept (x_lt hTH20617 kH20857 ga0 (by decide))).symm
                have m20869 := (cy20625_1).trans (fR_kept (x_lt hTH20617 kH20857 ga0 (by decide))).symm
                have m20870 := (cy20625_2).trans (fR_kept (x_lt hTH20617 kH20857 ga0 (by decide))).symm
                have m20871 := (cy20625_4).trans (fI_kept (x_lt hTH20617 kH20857 ga0 (by decide))).symm
                have m20872 := (fI_kept (x_lt hTH20617 kH20857 gkq (by decide))).trans cy20625_6
                have m20873 := (ex20630).trans (fI_kept (x_lt hTH20617 kH20857 gkq (by decide))).symm
                have m20874 := (ex20635).trans (fI_kept (x_lt hTH20617 kH20857 gvq (by decide))).symm
                have bx20858 := ty_fi (x := x20858) (k := 9) ex20858 hTH20857 gmq rg_69 rfl
                have cn_x20624 := i_cl (x := x20624) (by omega)
                have cn_x20624 := i_cl (x := x20624) (by omega)
                have cn_x20858 := i_cl (x := x20858) (by omega)
                have cn_x20622 := i_cl (x := x20622) (by omega)
                have cn_F := i_cl (x := F) (by omega)
                have hv_ := hy0 x20622.toNatClampNeg
                have hd1 : dl = [a_] := (hdl4.resolve_left (fun z => by have := z.1; omega)).2
                have g_ := fy20625_cs
                rw [hd1] at g_
                have cs20875 : CSP lw.toInt (fun j => fI H20857 sq j) (fun j => fI s.heap sq j) sc.toNatClampNeg (x20858.toNatClampNeg) 2 ([cbF 47 a_ (unF kk vv x20622.toNatClampNeg)]) := CSP.div g_ m20861 (Eq.trans m20862 (by omega)) (by omega) (by omega) (by omega) (by omega)
                have f20876 : RFT K H20857 s.heap mq := RFT.st fy20625_rt m20863
                refine W.eq (g2 := F0 m 91 ls20636 []) rfl ?_
                refine lv_goto (tgt := 104) hx hb dX4_term_91 (by decide) ?_
                refine lv_iload_n hx hb dX4_term_104 rfl (lv_at hl20637 3 rfl) ?_
                refine lv_bipush (v := 42) hx hb dX4_term_105 (by decide) ?_
                refine lv_icmp_ne (tgt := 119) hx hb dX4_term_107 (by decide) (fun c20877 => ?_) (fun c20877 => ?_)
                · have k20878 := i_ne c20877
                  have cn_x20622 := i_cl (x := x20622) (by omega)
                  have cn_x20858 := i_cl (x := x20858) (by omega)
                  have hz_ : [cbF x20620.toInt a_ (unF kk vv x20622.toNatClampNeg)] = [cbF 47 a_ (unF kk vv x20622.toNatClampNeg)] := by rw [show x20620.toInt = 47 by omega]
                  have cs20879 : CSP lw.toInt (fun j => fI H20857 sq j) (fun j => fI s.heap sq j) sc.toNatClampNeg (x20858.toNatClampNeg) 2 ([cbF x20620.toInt a_ (unF kk vv x20622.toNatClampNeg)]) := CSP.cast cs20875 rfl rfl (Nat.le_refl _) hz_
                  refine lv_aload_n hx hb dX4_term_119 rfl (lv_at hl20637 2 rfl) ?_
                  refine lv_dup hx hb dX4_term_120 rfl ?_
                  refine x_gi C hTH20857 (ci := 4) (k := 7) rfl inX4 (by decide) wF_X4_42 ga0 rg_78 rfl dX4_term_121 (fun x20880 ex20880 bx20880 => ?_)
                  have ux20880 : x20622 = x20880 := (m20866).trans ex20880.symm
                  subst ux20880
                  refine lv_iconst (v := 1) hx hb dX4_term_124 (by decide) ?_
                  refine lv_iadd hx hb dX4_term_125 ?_
                  refine lv_topi (fun x20881 ex20881 => ?_)
                  have tx20881 := i_add ex20881 (by omega)
                  have fz20883 : 0 ≤ x20881.toInt ∧ x20881.toInt ≤ 500 := by have := i_rng x20881; omega
                  refine x_put C hTH20857 hSH20857 (ci := 4) (k := 7) (v := .int x20881) (ty0 := tyX4) rfl inX4 tyX4_ok nmX4 (by decide) rfl wF_X4_42 ga0 rg_78 rfl rfl (okI (by have := i_rng x20881; omega) (by have := i_rng x20881; omega)) rfl rfl (AE_in ga0 (by decide)) dX4_term_126 (fun H20882 locsH20882 hTH20882 hSH20882 wH20882 => ?_)
                  have f20884 : ∀ j : Nat, j ≤ F.toNatClampNeg → kk j = (fI H20882 kq j).toInt := fun j hj => (f20864 j hj).trans (congrArg Int32.toInt (Wr.neI wH20882 (Or.inl (G_ne gkq ga0 (by decide)))).symm)
                  have f20885 : ∀ j : Nat, j ≤ F.toNatClampNeg → vv j = (fI H20882 vq j).toInt := fun j hj => (f20865 j hj).trans (congrArg Int32.toInt (Wr.neI wH20882 (Or.inl (G_ne gvq ga0 (by decide)))).symm)
                  have f20886 : CSP lw.toInt (fun j => fI H20882 sq j) (fun j => fI s.heap sq j) sc.toNatClampNeg (x20858.toNatClampNeg) 2 ([cbF x20620.toInt a_ (unF kk vv x20622.toNatClampNeg)]) := CSP.kept cs20879 (fun j => fI_kept (wH20882.off (G_ne gsq ga0 (by decide))))
                  have f20887 : RFT K H20882 s.heap mq := RFT.st f20876 (fun k h1 h8 => fR_kept (wH20882.off (G_ne gmq ga0 (by decide))))
                  have m20889 := m20867.trans (Wr.neI wH20882 (Or.inr (x_apart hKT hts inX4 tyX4 tyX4_ok nmX4 rfl 1 7 (by decide) (by decide) (by decide)))).symm
                  have m20890 := m20868.trans (Wr.neR wH20882 (Or.inr (x_apart hKT hts inX4 tyX4 tyX4_ok nmX4 rfl 0 7 (by decide) (by decide) (by decide)))).symm
                  have m20891 := m20869.trans (Wr.neR wH20882 (Or.inr (x_apart hKT hts inX4 tyX4 tyX4_ok nmX4 rfl 3 7 (by decide) (by decide) (by decide)))).symm
                  have m20892 := m20870.trans (Wr.neR wH20882 (Or.inr (x_apart hKT hts inX4 tyX4 tyX4_ok nmX4 rfl 4 7 (by decide) (by decide) (by decide)))).symm
                  have m20893 := m20871.trans (Wr.neI wH20882 (Or.inr (x_apart hKT hts inX4 tyX4 tyX4_ok nmX4 rfl 8 7 (by decide) (by decide) (by decide)))).symm
                  have m20894 := (Wr.neI wH20882 (Or.inl (G_ne gkq ga0 (by decide)))).trans m20872
                  have m20895 := m20873.trans (Wr.neI wH20882 (Or.inl (G_ne gkq ga0 (by decide)))).symm
                  have m20896 := m20874.trans (Wr.neI wH20882 (Or.inl (G_ne gvq ga0 (by decide)))).symm
                  have m20897 := m20859.trans (Wr.neR wH20882 (Or.inl (G_ne gmq ga0 (by decide)))).symm
                  have m20898 := m20860.trans (Wr.neI wH20882 (Or.inl (G_ne gmq ga0 (by decide)))).symm
                  have m20899 := ex20858.trans (Wr.neI wH20882 (Or.inl (G_ne gmq ga0 (by decide)))).symm
                  have m20900 := Wr.I wH20882
                  have m20900 := m20900.symm
                  refine lv_aload_n hx hb dX4_term_129 rfl (lv_at hl20637 2 rfl) ?_
                  refine x_gr C hTH20882 (ci := 4) (k := 3) rfl inX4 (by decide) wF_X4_18 ga0 rg_78 rfl dX4_term_130 (fun q20901 eq20901 gq20901 => ?_)
                  have uq20901 : kq = q20901 := (m20891).trans eq20901.symm
                  subst uq20901
                  refine lv_aload_n hx hb dX4_term_133 rfl (lv_at hl20637 2 rfl) ?_
                  refine x_gi C hTH20882 (ci := 4) (k := 7) rfl inX4 (by decide) wF_X4_42 ga0 rg_78 rfl dX4_term_134 (fun x20902 ex20902 bx20902 => ?_)
                  have ux20902 : x20881 = x20902 := (m20900).trans ex20902.symm
                  subst ux20902
                  refine x_ai C hTH20882 gkq rg_79 ⟨by omega, by show _ < ((501 : Nat) : Int); omega⟩ dX4_term_137 (fun x20903 ex20903 bx20903 => ?_)
                  have dx20903 := el_hit ex20903 m20894
                  have qvx20903 : kk x20881.toNatClampNeg = x20903.toInt := (f20884 _ (by have h1 := i_cl (x := x20881) (by omega); have h2 := i_cl (x := F) (by omega); omega)).trans (congrArg Int32.toInt ex20903.symm)
                  have cn_x20881 := i_cl (x := x20881) (by omega)
                  have cn_x20622 := i_cl (x := x20622) (by omega)
                  have qn20904 : kk (x20622.toNatClampNeg + 1) = x20903.toInt := by rw [show x20622.toNatClampNeg + 1 = x20881.toNatClampNeg by omega]; exact qvx20903
                  refine lv_istore_n (lv' := [(1, .int x20903), (4, .int x20635), (3, .int x20630), (0, .ref a0), (2, .int x20621)]) hx hb dX4_term_138 rfl hl20637 (by decide) rfl (fun ls20905 hl20906 => ?_)
                  refine lv_iload_n hx hb dX4_term_139 rfl (lv_at hl20906 0 rfl) ?_
                  refine lv_bipush (v := 42) hx hb dX4_term_140 (by decide) ?_
                  refine lv_icmp_eq (tgt := 153) hx hb dX4_term_142 (by decide) (fun c20907 => ?_) (fun c20907 => ?_)
                  · have k20908 := i_eq c20907
                    refine lv_aload_n hx hb dX4_term_153 rfl (lv_at hl20906 3 rfl) ?_
                    refine lv_dup hx hb dX4_term_154 rfl ?_
                    refine x_gi C hTH20882 (ci := 4) (k := 7) rfl inX4 (by decide) wF_X4_42 ga0 rg_78 rfl dX4_term_155 (fun x20909 ex20909 bx20909 => ?_)
                    have ux20909 : x20881 = x20909 := (m20900).trans ex20909.symm
                    subst ux20909
                    refine lv_iconst (v := 1) hx hb dX4_term_158 (by decide) ?_
                    refine lv_iadd hx hb dX4_term_159 ?_
                    refine lv_topi (fun x20910 ex20910 => ?_)
                    have tx20910 := i_add ex20910 (by omega)
                    have fz20912 : 0 ≤ x20910.toInt ∧ x20910.toInt ≤ 500 := by have := i_rng x20910; omega
                    refine x_put C hTH20882 hSH20882 (ci := 4) (k := 7) (v := .int x20910) (ty0 := tyX4) rfl inX4 tyX4_ok nmX4 (by decide) rfl wF_X4_42 ga0 rg_78 rfl rfl (okI (by have := i_rng x20910; omega) (by have := i_rng x20910; omega)) rfl rfl (AE_in ga0 (by decide)) dX4_term_160 (fun H20911 locsH20911 hTH20911 hSH20911 wH20911 => ?_)
                    have f20913 : ∀ j : Nat, j ≤ F.toNatClampNeg → kk j = (fI H20911 kq j).toInt := fun j hj => (f20884 j hj).trans (congrArg Int32.toInt (Wr.neI wH20911 (Or.inl (G_ne gkq ga0 (by decide)))).symm)
                    have f20914 : ∀ j : Nat, j ≤ F.toNatClampNeg → vv j = (fI H20911 vq j).toInt := fun j hj => (f20885 j hj).trans (congrArg Int32.toInt (Wr.neI wH20911 (Or.inl (G_ne gvq ga0 (by decide)))).symm)
                    have f20915 : CSP lw.toInt (fun j => fI H20911 sq j) (fun j => fI s.heap sq j) sc.toNatClampNeg (x20858.toNatClampNeg) 2 ([cbF x20620.toInt a_ (unF kk vv x20622.toNatClampNeg)]) := CSP.kept f20886 (fun j => fI_kept (wH20911.off (G_ne gsq ga0 (by decide))))
                    have f20916 : RFT K H20911 s.heap mq := RFT.st f20887 (fun k h1 h8 => fR_kept (wH20911.off (G_ne gmq ga0 (by decide))))
                    have m20917 := m20889.trans (Wr.neI wH20911 (Or.inr (x_apart hKT hts inX4 tyX4 tyX4_ok nmX4 rfl 1 7 (by decide) (by decide) (by decide)))).symm
                    have m20918 := m20890.trans (Wr.neR wH20911 (Or.inr (x_apart hKT hts inX4 tyX4 tyX4_ok nmX4 rfl 0 7 (by decide) (by decide) (by decide)))).symm
                    have m20919 := m20891.trans (Wr.neR wH20911 (Or.inr (x_apart hKT hts inX4 tyX4 tyX4_ok nmX4 rfl 3 7 (by decide) (by decide) (by decide)))).symm
                    have m20920 := m20892.trans (Wr.neR wH20911 (Or.inr (x_apart hKT hts inX4 tyX4 tyX4_ok nmX4 rfl 4 7 (by decide) (by decide) (by decide)))).symm
                    have m20921 := m20893.trans (Wr.neI wH20911 (Or.inr (x_apart hKT hts inX4 tyX4 tyX4_ok nmX4 rfl 8 7 (by decide) (by decide) (by decide)))).symm
                    have m20922 := (Wr.neI wH20911 (Or.inl (G_ne gkq ga0 (by decide)))).trans m20894
                    have m20923 := m20895.trans (Wr.neI wH20911 (Or.inl (G_ne gkq ga0 (by decide)))).symm
                    have m20924 := m20896.trans (Wr.neI wH20911 (Or.inl (G_ne gvq ga0 (by decide)))).symm
                    have m20925 := m20897.trans (Wr.neR wH20911 (Or.inl (G_ne gmq ga0 (by decide)))).symm
                    have m20926 := m20898.trans (Wr.neI wH20911 (Or.inl (G_ne gmq ga0 (by decide)))).symm
                    have m20927 := m20899.trans (Wr.neI wH20911 (Or.inl (G_ne gmq ga0 (by decide)))).symm
                    have m20929 := ex20903.trans (Wr.neI wH20911 (Or.inl (G_ne gkq ga0 (by decide)))).symm
                    have m20930 := Wr.I wH20911
                    have m20930 := m20930.symm
                    obtain ⟨x20931, ex20931⟩ : ∃ y : Int32, y = x20621 + 1 := ⟨_, rfl⟩
                    have tx20931 := i_add ex20931 (by omega)
                    refine lv_iinc (v := x20931) (lv' := [(2, .int x20931), (1, .int x20903), (4, .int x20635), (3, .int x20630), (0, .ref a0)]) hx hb dX4_term_163 hl20906 (k := 4) rfl (by rw [ex20931]; rfl) (by decide) rfl (fun ls20932 hl20933 => ?_)
                    refine lv_goto (tgt := 4) hx hb dX4_term_166 (by decide) ?_
                    have cn_x20858 := i_cl (x := x20858) (by omega)
                    have cn_x20858 := i_cl (x := x20858) (by omega)
                    have cn_x20622 := i_cl (x := x20622) (by omega)
                    have cn_x20910 := i_cl (x := x20910) (by omega)
                    have cn_F := i_cl (x := F) (by omega)
                    exact ih4 (cbF x20620.toInt a_ (unF kk vv x20622.toNatClampNeg)) [cbF x20620.toInt a_ (unF kk vv x20622.toNatClampNeg)] ls20932 H20911 locsH20911 (x20903) (x20931) (x20910) (x20623) (x20858) (lv_sub hl20933 [4, 1, 0] rfl) hTH20911 hSH20911 (by have := i_rng x20903; omega) (by have := i_rng x20931; omega) (by have := i_rng x20910; omega) (by have := i_rng x20858; omega) m20930 m20917 m20927 m20918 m20919 m20920 m20925 m20921 m20926 m20922 f20913 f20914 f20916 (CSP.cast f20915 rfl (by omega) (Nat.le_refl _) rfl) (by omega) (by omega) (hsp4.trans (by rw [tmI_eq (by omega), if_neg (by omega), if_neg (by omega), if_pos (by omega), qn20904, show x20622.toNatClampNeg + 2 = x20910.toNatClampNeg by omega])) (hsf4.trans (by exact tmG_go (by omega) qn20904 (by omega) (by omega))) (Or.inr ⟨by omega, rfl⟩)
                  · have k20908 := i_ne c20907
                    refine lv_iload_n hx hb dX4_term_145 rfl (lv_at hl20906 0 rfl) ?_
                    refine lv_bipush (v := 47) hx hb dX4_term_146 (by decide) ?_
                    refine lv_icmp_eq (tgt := 153) hx hb dX4_term_148 (by decide) (fun c20934 => ?_) (fun c20934 => ?_)
                    · have k20935 := i_eq c20934
                      refine lv_aload_n hx hb dX4_term_153 rfl (lv_at hl20906 3 rfl) ?_
                      refine lv_dup hx hb dX4_term_154 rfl ?_
                      refine x_gi C hTH20882 (ci := 4) (k := 7) rfl inX4 (by decide) wF_X4_42 ga0 rg_78 rfl dX4_term_155 (fun x20936 ex20936 bx20936 => ?_)
                      have ux20936 : x20881 = x20936 := (m20900).trans ex20936.symm
                      subst ux20936
                      refine lv_iconst (v := 1) hx hb dX4_term_158 (by decide) ?_
                      refine lv_iadd hx hb dX4_term_159 ?_
                      refine lv_topi (fun x20937 ex20937 => ?_)
                      have tx20937 := i_add ex20937 (by omega)
                      have fz20939 : 0 ≤ x20937.toInt ∧ x20937.toInt ≤ 500 := by have := i_rng x20937; omega
                      refine x_put C hTH20882 hSH20882 (ci := 4) (k := 7) (v := .int x20937) (ty0 := tyX4) rfl inX4 tyX4_ok nmX4 (by decide) rfl wF_X4_42 ga0 rg_78 rfl rfl (okI (by have := i_rng x20937; omega) (by have := i_rng x20937; omega)) rfl rfl (AE_in ga0 (by decide)) dX4_term_160 (fun H20938 locsH20938 hTH20938 hSH20938 wH20938 => ?_)
                      have f20940 : ∀ j : Nat, j ≤ F.toNatClampNeg → kk j = (fI H20938 kq j).toInt := fun j hj => (f20884 j hj).trans (congrArg Int32.toInt (Wr.neI wH20938 (Or.inl (G_ne gkq ga0 (by decide)))).symm)
                      have f20941 : ∀ j : Nat, j ≤ F.toNatClampNeg → vv j = (fI H20938 vq j).toInt := fun j hj => (f20885 j hj).trans (congrArg Int32.toInt (Wr.neI wH20938 (Or.inl (G_ne gvq ga0 (by decide)))).symm)
                      have f20942 : CSP lw.toInt (fun j => fI H20938 sq j) (fun j => fI s.heap sq j) sc.toNatClampNeg (x20858.toNatClampNeg) 2 ([cbF x20620.toInt a_ (unF kk vv x20622.toNatClampNeg)]) := CSP.kept f20886 (fun j => fI_kept (wH20938.off (G_ne gsq ga0 (by decide))))
                      have f20943 : RFT K H20938 s.heap mq := RFT.st f20887 (fun k h1 h8 => fR_kept (wH20938.off (G_ne gmq ga0 (by decide))))
                      have m20944 := m20889.trans (Wr.neI wH20938 (Or.inr (x_apart hKT hts inX4 tyX4 tyX4_ok nmX4 rfl 1 7 (by decide) (by decide) (by decide)))).symm
                      have m20945 := m20890.trans (Wr.neR wH20938 (Or.inr (x_apart hKT hts inX4 tyX4 tyX4_ok nmX4 rfl 0 7 (by decide) (by decide) (by decide)))).symm
                      have m20946 := m20891.trans (Wr.neR wH20938 (Or.inr (x_apart hKT hts inX4 tyX4 tyX4_ok nmX4 rfl 3 7 (by decide) (by decide) (by decide)))).symm
                      have m20947 := m20892.trans (Wr.neR wH20938 (Or.inr (x_apart hKT hts inX4 tyX4 tyX4_ok nmX4 rfl 4 7 (by decide) (by decide) (by decide)))).symm
                      have m20948 := m20893.trans (Wr.neI wH20938 (Or.inr (x_apart hKT hts inX4 tyX4 tyX4_ok nmX4 rfl 8 7 (by decide) (by decide) (by decide)))).symm
                      have m20949 := (Wr.neI wH20938 (Or.inl (G_ne gkq ga0 (by decide)))).trans m20894
                      have m20950 := m20895.trans (Wr.neI wH20938 (Or.inl (G_ne gkq ga0 (by decide)))).symm
                      have m20951 := m20896.trans (Wr.neI wH20938 (Or.inl (G_ne gvq ga0 (by decide)))).symm
                      have m20952 := m20897.trans (Wr.neR wH20938 (Or.inl (G_ne gmq ga0 (by decide)))).symm
                      have m20953 := m20898.trans (Wr.neI wH20938 (Or.inl (G_ne gmq ga0 (by decide)))).symm
                      have m20954 := m20899.trans (Wr.neI wH20938 (Or.inl (G_ne gmq ga0 (by decide)))).symm
                      have m20956 := ex20903.trans (Wr.neI wH20938 (Or.inl (G_ne gkq ga0 (by decide)))).symm
                      have m20957 := Wr.I wH20938
                      have m20957 := m20957.symm
                      obtain ⟨x20958, ex20958⟩ : ∃ y : Int32, y = x20621 + 1 := ⟨_, rfl⟩
                      have tx20958 := i_add ex20958 (by omega)
                      refine lv_iinc (v := x20958) (lv' := [(2, .int x20958), (1, .int x20903), (4, .int x20635), (3, .int x20630), (0, .ref a0)]) hx hb dX4_term_163 hl20906 (k := 4) rfl (by rw [ex20958]; rfl) (by decide) rfl (fun ls20959 hl20960 => ?_)
                      refine lv_goto (tgt := 4) hx hb dX4_term_166 (by decide) ?_
                      have cn_x20858 := i_cl (x := x20858) (by omega)
                      have cn_x20858 := i_cl (x := x20858) (by omega)
                      have cn_x20622 := i_cl (x := x20622) (by omega)
                      have cn_x20937 := i_cl (x := x20937) (by omega)
                      have cn_F := i_cl (x := F) (by omega)
                      exact ih4 (cbF x20620.toInt a_ (unF kk vv x20622.toNatClampNeg)) [cbF x20620.toInt a_ (unF kk vv x20622.toNatClampNeg)] ls20959 H20938 locsH20938 (x20903) (x20958) (x20937) (x20623) (x20858) (lv_sub hl20960 [4, 1, 0] rfl) hTH20938 hSH20938 (by have := i_rng x20903; omega) (by have := i_rng x20958; omega) (by have := i_rng x20937; omega) (by have := i_rng x20858; omega) m20957 m20944 m20954 m20945 m20946 m20947 m20952 m20948 m20953 m20949 f20940 f20941 f20943 (CSP.cast f20942 rfl (by omega) (Nat.le_refl _) rfl) (by omega) (by omega) (hsp4.trans (by rw [tmI_eq (by omega), if_neg (by omega), if_neg (by omega), if_pos (by omega), qn20904, show x20622.toNatClampNeg + 2 = x20937.toNatClampNeg by omega])) (hsf4.trans (by exact tmG_go (by omega) qn20904 (by omega) (by omega))) (Or.inr ⟨by omega, rfl⟩)
                    · have k20935 := i_ne c20934
                      refine lv_iconst (v := 1) hx hb dX4_term_151 (by decide) ?_
                      have cn_x20622 := i_cl (x := x20622) (by omega)
                      have cn_F := i_cl (x := F) (by omega)
                      have cn_x20881 := i_cl (x := x20881) (by omega)
                      have cn_x20622 := i_cl (x := x20622) (by omega)
                      have cn_F := i_cl (x := F) (by omega)
                      have cn_x20858 := i_cl (x := x20858) (by omega)
                      have cn_x20858 := i_cl (x := x20858) (by omega)
                      exact x_zret C hQ (Or.inr rfl) dX4_term_152 hSH20882 (by decide) (by decide) (⟨1, x20881, x20623, x20858, rfl, by decide, m20900, m20889, m20899, by omega, m20890, m20891, m20892, m20897, m20893, m20898, Or.inr ⟨hsp4.trans (by rw [tmI_eq (by omega), if_neg (by omega), if_neg (by omega), if_neg (by omega), show x20622.toNatClampNeg + 1 = x20881.toNatClampNeg by omega]), by omega⟩, Or.inr (CSP.cast f20886 rfl (by omega) (Nat.le_refl _) (congrArg (fun z => [z]) (hsf4.trans (tmG_end (by omega) (by rw [qn20904]; omega))))), f20887, hTH20882⟩)
                · have k20878 := i_eq c20877
                  exfalso
                  omega
            · have k20853 := i_eq c20852
              refine lv_aload_n hx hb dX4_term_69 rfl (lv_at hl20637 2 rfl) ?_
              refine lv_iconst (v := 2) hx hb dX4_term_70 (by decide) ?_
              refine x_V (As := [.int 2]) (rest := []) C (a_X4_refuse_e l K G H20617 (2) (x20622) (x20623) (lw) hTH20617 ga0 gmq cy20625_0 gkq cy20625_1 gvq cy20625_2 ex20622 ex20623 cy20625_4) yo_X4_refuse wM_X4_81 ⟨⟨by decide, by decide⟩, by decide, by decide⟩ (x_rv C hTH20617 (ci := 4) rfl ga0 rg_78) rfl hl20637.1 rfl (Nat.le_of_ble_eq_true rfl) dX4_term_71 hSH20617 (AE_sub (fun _ _ => rfl) (by decide) hSH20617.1) (fun vH20961 H20961 locsH20961 pH20961 zH20961 kH20961 hSH20961 => ?_)
              obtain ⟨x20962, x20963, x20964, hvH20961, bx20962, ex20963, ex20964, hrH20961, m20965, m20966, m20967, m20968, hTH20961⟩ := pH20961
              subst hvH20961
              have f20969 : ∀ j : Nat, j ≤ F.toNatClampNeg → kk j = (fI H20961 kq j).toInt := fun j hj => (fy20625_kk j hj).trans (congrArg Int32.toInt (fI_kept (x_lt hTH20617 kH20961 gkq (by decide))).symm)
              have f20970 : ∀ j : Nat, j ≤ F.toNatClampNeg → vv j = (fI H20961 vq j).toInt := fun j hj => (fy20625_vv j hj).trans (congrArg Int32.toInt (fI_kept (x_lt hTH20617 kH20961 gvq (by decide))).symm)
              have f20971 : RFT K H20961 s.heap mq := RFT.st fy20625_rt (fun k h1 h8 => fR_kept (x_lt hTH20617 kH20961 gmq (by decide)))
              have f20972 : CSP lw.toInt (fun j => fI H20961 sq j) (fun j => fI s.heap sq j) sc.toNatClampNeg (x20624.toNatClampNeg) 2 (dl) := CSP.kept fy20625_cs (fun j => fI_kept (x_lt hTH20617 kH20961 gsq (by decide)))
              have m20973 := (ex20624).trans (fI_kept (x_lt hTH20617 kH20961 gmq (by decide))).symm
              have m20974 := (cy20625_3).trans (fR_kept (x_lt hTH20617 kH20961 gmq (by decide))).symm
              have m20975 := (cy20625_5).trans (fI_kept (x_lt hTH20617 kH20961 gmq (by decide))).symm
              have m20976 := (fI_kept (x_lt hTH20617 kH20961 gkq (by decide))).trans cy20625_6
              have m20977 := (ex20630).trans (fI_kept (x_lt hTH20617 kH20961 gkq (by decide))).symm
              have m20978 := (ex20635).trans (fI_kept (x_lt hTH20617 kH20961 gvq (by decide))).symm
              have bx20963 := ty_fi (x := x20963) (k := 7) ex20963 hTH20961 ga0 rg_78 rfl
              have bx20964 := ty_fi (x := x20964) (k := 1) ex20964 hTH20961 ga0 rg_78 rfl
              refine W.eq (g2 := F0 m 74 ls20636 [.int x20962]) rfl ?_
              have cn_x20622 := i_cl (x := x20622) (by omega)
              have cn_F := i_cl (x := F) (by omega)
              exact x_zret C hQ (i_01 (by omega)) dX4_term_74 hSH20961 (by decide) (by decide) (⟨x20962, x20963, x20964, x20624, rfl, by omega, ex20963, ex20964, m20973, by omega, m20965, m20966, m20967, m20974, m20968, m20975, Or.inl ⟨hsp4.trans (by rw [tmI_eq (by omega), if_neg (by omega), if_pos (by omega)]), by omega⟩, (Or.inl (by omega)), f20971, hTH20961⟩)
        · have k20639 := i_ne c20638
          refine lv_iload_n hx hb dX4_term_38 rfl (lv_at hl20637 3 rfl) ?_
          refine lv_bipush (v := 47) hx hb dX4_term_39 (by decide) ?_
          refine lv_icmp_eq (tgt := 52) hx hb dX4_term_41 (by decide) (fun c20979 => ?_) (fun c20979 => ?_)
          · have k20980 := i_eq c20979
            refine lv_aload_n hx hb dX4_term_52 rfl (lv_at hl20637 2 rfl) ?_
            refine lv_iconst (v := 1) hx hb dX4_term_53 (by decide) ?_
            refine x_V (As := [.int 1]) (rest := []) C (a_X4_refuse_e l K G H20617 (1) (x20622) (x20623) (lw) hTH20617 ga0 gmq cy20625_0 gkq cy20625_1 gvq cy20625_2 ex20622 ex20623 cy20625_4) yo_X4_refuse wM_X4_81 ⟨⟨by decide, by decide⟩, by decide, by decide⟩ (x_rv C hTH20617 (ci := 4) rfl ga0 rg_78) rfl hl20637.1 rfl (Nat.le_of_ble_eq_true rfl) dX4_term_54 hSH20617 (AE_sub (fun _ _ => rfl) (by decide) hSH20617.1) (fun vH20981 H20981 locsH20981 pH20981 zH20981 kH20981 hSH20981 => ?_)
            obtain ⟨x20982, x20983, x20984, hvH20981, bx20982, ex20983, ex20984, hrH20981, m20985, m20986, m20987, m20988, hTH20981⟩ := pH20981
            subst hvH20981
            have f20989 : ∀ j : Nat, j ≤ F.toNatClampNeg → kk j = (fI H20981 kq j).toInt := fun j hj => (fy20625_kk j hj).trans (congrArg Int32.toInt (fI_kept (x_lt hTH20617 kH20981 gkq (by decide))).symm)
            have f20990 : ∀ j : Nat, j ≤ F.toNatClampNeg → vv j = (fI H20981 vq j).toInt := fun j hj => (fy20625_vv j hj).trans (congrArg Int32.toInt (fI_kept (x_lt hTH20617 kH20981 gvq (by decide))).symm)
            have f20991 : RFT K H20981 s.heap mq := RFT.st fy20625_rt (fun k h1 h8 => fR_kept (x_lt hTH20617 kH20981 gmq (by decide)))
            have f20992 : CSP lw.toInt (fun j => fI H20981 sq j) (fun j => fI s.heap sq j) sc.toNatClampNeg (x20624.toNatClampNeg) 2 (dl) := CSP.kept fy20625_cs (fun j => fI_kept (x_lt hTH20617 kH20981 gsq (by decide)))
            have m20993 := (ex20624).trans (fI_kept (x_lt hTH20617 kH20981 gmq (by decide))).symm
            have m20994 := (cy20625_3).trans (fR_kept (x_lt hTH20617 kH20981 gmq (by decide))).symm
            have m20995 := (cy20625_5).trans (fI_kept (x_lt hTH20617 kH20981 gmq (by decide))).symm
            have m20996 := (fI_kept (x_lt hTH20617 kH20981 gkq (by decide))).trans cy20625_6
            have m20997 := (ex20630).trans (fI_kept (x_lt hTH20617 kH20981 gkq (by decide))).symm
            have m20998 := (ex20635).trans (fI_kept (x_lt hTH20617 kH20981 gvq (by decide))).symm
            have bx20983 := ty_fi (x := x20983) (k := 7) ex20983 hTH20981 ga0 rg_78 rfl
            have bx20984 := ty_fi (x := x20984) (k := 1) ex20984 hTH20981 ga0 rg_78 rfl
            refine W.eq (g2 := F0 m 57 ls20636 [.int x20982]) rfl ?_
            have cn_x20622 := i_cl (x := x20622) (by omega)
            have cn_F := i_cl (x := F) (by omega)
            exact x_zret C hQ (i_01 (by omega)) dX4_term_57 hSH20981 (by decide) (by decide) (⟨x20982, x20983, x20984, x20624, rfl, by omega, ex20983, ex20984, m20993, by omega, m20985, m20986, m20987, m20994, m20988, m20995, Or.inl ⟨hsp4.trans (by rw [tmI_eq (by omega), if_pos (by omega)]), by omega⟩, (Or.inl (by omega)), f20991, hTH20981⟩)
          · have k20980 := i_ne c20979
            refine lv_aload_n hx hb dX4_term_44 rfl (lv_at hl20637 2 rfl) ?_
            refine lv_iload_n hx hb dX4_term_45 rfl (lv_at hl20637 1 rfl) ?_
            refine x_V (As := [.int x20630]) (rest := []) C (a_X4_isUnit_e l K G H20617 (x20630) (lw) hTH20617 ga0 cy20625_4) yo_X4_isUnit wM_X4_144 ⟨⟨by decide, by decide⟩, by decide, by decide⟩ (x_rv C hTH20617 (ci := 4) rfl ga0 rg_78) rfl hl20637.1 rfl (Nat.le_of_ble_eq_true rfl) dX4_term_46 hSH20617 (AE_sub (fun _ _ => rfl) (by decide) hSH20617.1) (fun vH20999 H20999 locsH20999 pH20999 zH20999 kH20999 hSH20999 => ?_)
            obtain ⟨x21000, hvH20999, bx21000, hrH20999, hTH20999⟩ := pH20999
            subst hvH20999
            have f21001 : ∀ j : Nat, j ≤ F.toNatClampNeg → kk j = (fI H20999 kq j).toInt := fun j hj => (fy20625_kk j hj).trans (congrArg Int32.toInt (fI_kept (x_lt hTH20617 kH20999 gkq (by decide))).symm)
            have f21002 : ∀ j : Nat, j ≤ F.toNatClampNeg → vv j = (fI H20999 vq j).toInt := fun j hj => (fy20625_vv j hj).trans (congrArg Int32.toInt (fI_kept (x_lt hTH20617 kH20999 gvq (by decide))).symm)
            have f21003 : RFT K H20999 s.heap mq := RFT.st fy20625_rt (fun k h1 h8 => fR_kept (x_lt hTH20617 kH20999 gmq (by decide)))
            have f21004 : CSP lw.toInt (fun j => fI H20999 sq j) (fun j => fI s.heap sq j) sc.toNatClampNeg (x20624.toNatClampNeg) 2 (dl) := CSP.kept fy20625_cs (fun j => fI_kept (x_lt hTH20617 kH20999 gsq (by decide)))
            have m21005 := (ex20622).trans (fI_kept (x_lt hTH20617 kH20999 ga0 (by decide))).symm
            have m21006 := (ex20623).trans (fI_kept (x_lt hTH20617 kH20999 ga0 (by decide))).symm
            have m21007 := (ex20624).trans (fI_kept (x_lt hTH20617 kH20999 gmq (by decide))).symm
            have m21008 := (cy20625_0).trans (fR_kept (x_lt hTH20617 kH20999 ga0 (by decide))).symm
            have m21009 := (cy20625_1).trans (fR_kept (x_lt hTH20617 kH20999 ga0 (by decide))).symm
            have m21010 := (cy20625_2).trans (fR_kept (x_lt hTH20617 kH20999 ga0 (by decide))).symm
            have m21011 := (cy20625_3).trans (fR_kept (x_lt hTH20617 kH20999 gmq (by decide))).symm
            have m21012 := (cy20625_4).trans (fI_kept (x_lt hTH20617 kH20999 ga0 (by decide))).symm
            have m21013 := (cy20625_5).trans (fI_kept (x_lt hTH20617 kH20999 gmq (by decide))).symm
            have m21014 := (fI_kept (x_lt hTH20617 kH20999 gkq (by decide))).trans cy20625_6
            have m21015 := (ex20630).trans (fI_kept (x_lt hTH20617 kH20999 gkq (by decide))).symm
            have m21016 := (ex20635).trans (fI_kept (x_lt hTH20617 kH20999 gvq (by decide))).symm
            refine W.eq (g2 := F0 m 49 ls20636 [.int x21000]) rfl ?_
            refine lv_if_ne (tgt := 58) hx hb dX4_term_49 (by decide) (fun c21017 => ?_) (fun c21017 => ?_)
            · have k21018 := i_ne c21017
              refine lv_iload_n hx hb dX4_term_58 rfl (lv_at hl20637 3 rfl) ?_
              refine lv_bipush (v := 47) hx hb dX4_term_59 (by decide) ?_
              refine lv_icmp_ne (tgt := 75) hx hb dX4_term_61 (by decide) (fun c21019 => ?_) (fun c21019 => ?_)
              · have k21020 := i_ne c21019
                refine lv_iload_n hx hb dX4_term_75 rfl (lv_at hl20637 3 rfl) ?_
                refine lv_bipush (v := 47) hx hb dX4_term_76 (by decide) ?_
                refine lv_icmp_ne (tgt := 94) hx hb dX4_term_78 (by decide) (fun c21021 => ?_) (fun c21021 => ?_)
                · have k21022 := i_ne c21021
                  refine lv_aload_n hx hb dX4_term_94 rfl (lv_at hl20637 2 rfl) ?_
                  refine x_gr C hTH20999 (ci := 4) (k := 0) rfl inX4 (by decide) wF_X4_12 ga0 rg_78 rfl dX4_term_95 (fun q21023 eq21023 gq21023 => ?_)
                  have uq21023 : mq = q21023 := (m21008).trans eq21023.symm
                  subst uq21023
                  refine lv_iload_n hx hb dX4_term_98 rfl (lv_at hl20637 1 rfl) ?_
                  refine lv_iload hx hb dX4_term_99 (lv_at hl20637 0 rfl) ?_
                  refine x_V (As := [.int x20630, .int x20635]) (rest := []) C (a_X7_addStep_g l K G H20999 (x20630) (x20635) (x20624) (li) hTH20999 gmq (by omega) (by omega) gsq m21011 m21007 m21013 (by omega)) yo_X7_addStep wM_X4_131 ⟨⟨by decide, by decide⟩, by decide, by decide⟩ (x_rv C hTH20999 (ci := 7) rfl gmq rg_69) rfl hl20637.1 rfl (Nat.le_of_ble_eq_true rfl) dX4_term_101 hSH20999 (AE_sub (fun _ _ => rfl) (by decide) hSH20999.1) (fun vH21024 H21024 locsH21024 pH21024 zH21024 kH21024 hSH21024 => ?_)
                  obtain ⟨x21025, hvH21024, ex21025, hrH21024, m21026, m21027, m21028, m21029, m21030, hTH21024⟩ := pH21024
                  subst hvH21024
                  have f21031 : ∀ j : Nat, j ≤ F.toNatClampNeg → kk j = (fI H21024 kq j).toInt := fun j hj => (f21001 j hj).trans (congrArg Int32.toInt (fI_kept (x_lt hTH20999 kH21024 gkq (by decide))).symm)
                  have f21032 : ∀ j : Nat, j ≤ F.toNatClampNeg → vv j = (fI H21024 vq j).toInt := fun j hj => (f21002 j hj).trans (congrArg Int32.toInt (fI_kept (x_lt hTH20999 kH21024 gvq (by decide))).symm)
                  have m21033 := (m21005).trans (fI_kept (x_lt hTH20999 kH21024 ga0 (by decide))).symm
                  have m21034 := (m21006).trans (fI_kept (x_lt hTH20999 kH21024 ga0 (by decide))).symm
                  have m21035 := (m21008).trans (fR_kept (x_lt hTH20999 kH21024 ga0 (by decide))).symm
                  have m21036 := (m21009).trans (fR_kept (x_lt hTH20999 kH21024 ga0 (by decide))).symm
                  have m21037 := (m21010).trans (fR_kept (x_lt hTH20999 kH21024 ga0 (by decide))).symm
                  have m21038 := (m21012).trans (fI_kept (x_lt hTH20999 kH21024 ga0 (by decide))).symm
                  have m21039 := (fI_kept (x_lt hTH20999 kH21024 gkq (by decide))).trans m21014
                  have m21040 := (m21015).trans (fI_kept (x_lt hTH20999 kH21024 gkq (by decide))).symm
                  have m21041 := (m21016).trans (fI_kept (x_lt hTH20999 kH21024 gvq (by decide))).symm
                  have bx21025 := ty_fi (x := x21025) (k := 9) ex21025 hTH21024 gmq rg_69 rfl
                  have cn_x20624 := i_cl (x := x20624) (by omega)
                  have cn_x20624 := i_cl (x := x20624) (by omega)
                  have cn_x21025 := i_cl (x := x21025) (by omega)
                  have cn_x20622 := i_cl (x := x20622) (by omega)
                  have cn_F := i_cl (x := F) (by omega)
                  have hv_ := hy0 x20622.toNatClampNeg
                  have cs21042 : CSP lw.toInt (fun j => fI H21024 sq j) (fun j => fI s.heap sq j) sc.toNatClampNeg (x21025.toNatClampNeg) 2 ((unF kk vv x20622.toNatClampNeg) :: dl) := CSP.unit f21004 m21028 (Eq.trans m21029 (by omega)) (by omega) (by unfold UO; omega) (by omega) (by omega) (Nat.le_refl _) (by rcases hdl4 with z | z <;> rw [z.2] <;> exact Nat.le_of_ble_eq_true rfl)
                  have f21043 : RFT K H21024 s.heap mq := RFT.st f21003 m21030
                  refine W.eq (g2 := F0 m 104 ls20636 []) rfl ?_
                  refine lv_iload_n hx hb dX4_term_104 rfl (lv_at hl20637 3 rfl) ?_
                  refine lv_bipush (v := 42) hx hb dX4_term_105 (by decide) ?_
                  refine lv_icmp_ne (tgt := 119) hx hb dX4_term_107 (by decide) (fun c21044 => ?_) (fun c21044 => ?_)
                  · have k21045 := i_ne c21044
                    have cn_x20622 := i_cl (x := x20622) (by omega)
                    have cn_x21025 := i_cl (x := x21025) (by omega)
                    have hd0 : dl = [] := (hdl4.resolve_right (fun z => by have := z.1; omega)).2
                    have hz_ : [cbF x20620.toInt a_ (unF kk vv x20622.toNatClampNeg)] = (unF kk vv x20622.toNatClampNeg) :: dl := by rw [hd0, show x20620.toInt = 0 by omega]; rfl
                    have cs21046 : CSP lw.toInt (fun j => fI H21024 sq j) (fun j => fI s.heap sq j) sc.toNatClampNeg (x21025.toNatClampNeg) 2 ([cbF x20620.toInt a_ (unF kk vv x20622.toNatClampNeg)]) := CSP.cast cs21042 rfl rfl (Nat.le_refl _) hz_
                    refine lv_aload_n hx hb dX4_term_119 rfl (lv_at hl20637 2 rfl) ?_
                    refine lv_dup hx hb dX4_term_120 rfl ?_
                    refine x_gi C hTH21024 (ci := 4) (k := 7) rfl inX4 (by decide) wF_X4_42 ga0 rg_78 rfl dX4_term_121 (fun x21047 ex21047 bx21047 => ?_)
                    have ux21047 : x20622 = x21047 := (m21033).trans ex21047.symm
                    subst ux21047
                    refine lv_iconst (v := 1) hx hb dX4_term_124 (by decide) ?_
                    refine lv_iadd hx hb dX4_term_125 ?_
                    refine lv_topi (fun x21048 ex21048 => ?_)
                    have tx21048 := i_add ex21048 (by omega)
                    have fz21050 : 0 ≤ x21048.toInt ∧ x21048.toInt ≤ 500 := by have := i_rng x21048; omega
                    refine x_put C hTH21024 hSH21024 (ci := 4) (k := 7) (v := .int x21048) (ty0 := tyX4) rfl inX4 tyX4_ok nmX4 (by decide) rfl wF_X4_42 ga0 rg_78 rfl rfl (okI (by have := i_rng x21048; omega) (by have := i_rng x21048; omega)) rfl rfl (AE_in ga0 (by decide)) dX4_term_126 (fun H21049 locsH21049 hTH21049 hSH21049 wH21049 => ?_)
                    have f21051 : ∀ j : Nat, j ≤ F.toNatClampNeg → kk j = (fI H21049 kq j).toInt := fun j hj => (f21031 j hj).trans (congrArg Int32.toInt (Wr.neI wH21049 (Or.inl (G_ne gkq ga0 (by decide)))).symm)
                    have f21052 : ∀ j : Nat, j ≤ F.toNatClampNeg → vv j = (fI H21049 vq j).toInt := fun j hj => (f21032 j hj).trans (congrArg Int32.toInt (Wr.neI wH21049 (Or.inl (G_ne gvq ga0 (by decide)))).symm)
                    have f21053 : CSP lw.toInt (fun j => fI H21049 sq j) (fun j => fI s.heap sq j) sc.toNatClampNeg (x21025.toNatClampNeg) 2 ([cbF x20620.toInt a_ (unF kk vv x20622.toNatClampNeg)]) := CSP.kept cs21046 (fun j => fI_kept (wH21049.off (G_ne gsq ga0 (by decide))))
                    have f21054 : RFT K H21049 s.heap mq := RFT.st f21043 (fun k h1 h8 => fR_kept (wH21049.off (G_ne gmq ga0 (by decide))))
                    have m21056 := m21034.trans (Wr.neI wH21049 (Or.inr (x_apart hKT hts inX4 tyX4 tyX4_ok nmX4 rfl 1 7 (by decide) (by decide) (by decide)))).symm
                    have m21057 := m21035.trans (Wr.neR wH21049 (Or.inr (x_apart hKT hts inX4 tyX4 tyX4_ok nmX4 rfl 0 7 (by decide) (by decide) (by decide)))).symm
                    have m21058 := m21036.trans (Wr.neR wH21049 (Or.inr (x_apart hKT hts inX4 tyX4 tyX4_ok nmX4 rfl 3 7 (by decide) (by decide) (by decide)))).symm
                    have m21059 := m21037.trans (Wr.neR wH21049 (Or.inr (x_apart hKT hts inX4 tyX4 tyX4_ok nmX4 rfl 4 7 (by decide) (by decide) (by decide)))).symm
                    have m21060 := m21038.trans (Wr.neI wH21049 (Or.inr (x_apart hKT hts inX4 tyX4 tyX4_ok nmX4 rfl 8 7 (by decide) (by decide) (by decide)))).symm
                    have m21061 := (Wr.neI wH21049 (Or.inl (G_ne gkq ga0 (by decide)))).trans m21039
                    have m21062 := m21040.trans (Wr.neI wH21049 (Or.inl (G_ne gkq ga0 (by decide)))).symm
                    have m21063 := m21041.trans (Wr.neI wH21049 (Or.inl (G_ne gvq ga0 (by decide)))).symm
                    have m21064 := m21026.trans (Wr.neR wH21049 (Or.inl (G_ne gmq ga0 (by decide)))).symm
                    have m21065 := m21027.trans (Wr.neI wH21049 (Or.inl (G_ne gmq ga0 (by decide)))).symm
                    have m21066 := ex21025.trans (Wr.neI wH21049 (Or.inl (G_ne gmq ga0 (by decide)))).symm
                    have m21067 := Wr.I wH21049
                    have m21067 := m21067.symm
                    refine lv_aload_n hx hb dX4_term_129 rfl (lv_at hl20637 2 rfl) ?_
                    refine x_gr C hTH21049 (ci := 4) (k := 3) rfl inX4 (by decide) wF_X4_18 ga0 rg_78 rfl dX4_term_130 (fun q21068 eq21068 gq21068 => ?_)
                    have uq21068 : kq = q21068 := (m21058).trans eq21068.symm
                    subst uq21068
                    refine lv_aload_n hx hb dX4_term_133 rfl (lv_at hl20637 2 rfl) ?_
                    refine x_gi C hTH21049 (ci := 4) (k := 7) rfl inX4 (by decide) wF_X4_42 ga0 rg_78 rfl dX4_term_134 (fun x21069 ex21069 bx21069 => ?_)
                    have ux21069 : x21048 = x21069 := (m21067).trans ex21069.symm
                    subst ux21069
                    refine x_ai C hTH21049 gkq rg_79 ⟨by omega, by show _ < ((501 : Nat) : Int); omega⟩ dX4_term_137 (fun x21070 ex21070 bx21070 => ?_)
                    have dx21070 := el_hit ex21070 m21061
                    have qvx21070 : kk x21048.toNatClampNeg = x21070.toInt := (f21051 _ (by have h1 := i_cl (x := x21048) (by omega); have h2 := i_cl (x := F) (by omega); omega)).trans (congrArg Int32.toInt ex21070.symm)
                    have cn_x21048 := i_cl (x := x21048) (by omega)
                    have cn_x20622 := i_cl (x := x20622) (by omega)
                    have qn21071 : kk (x20622.toNatClampNeg + 1) = x21070.toInt := by rw [show x20622.toNatClampNeg + 1 = x21048.toNatClampNeg by omega]; exact qvx21070
                    refine lv_istore_n (lv' := [(1, .int x21070), (4, .int x20635), (3, .int x20630), (0, .ref a0), (2, .int x20621)]) hx hb dX4_term_138 rfl hl20637 (by decide) rfl (fun ls21072 hl21073 => ?_)
                    refine lv_iload_n hx hb dX4_term_139 rfl (lv_at hl21073 0 rfl) ?_
                    refine lv_bipush (v := 42) hx hb dX4_term_140 (by decide) ?_
                    refine lv_icmp_eq (tgt := 153) hx hb dX4_term_142 (by decide) (fun c21074 => ?_) (fun c21074 => ?_)
                    · have k21075 := i_eq c21074
                      refine lv_aload_n hx hb dX4_term_153 rfl (lv_at hl21073 3 rfl) ?_
                      refine lv_dup hx hb dX4_term_154 rfl ?_
                      refine x_gi C hTH21049 (ci := 4) (k := 7) rfl inX4 (by decide) wF_X4_42 ga0 rg_78 rfl dX4_term_155 (fun x21076 ex21076 bx21076 => ?_)
                      have ux21076 : x21048 = x21076 := (m21067).trans ex21076.symm
                      subst ux21076
                      refine lv_iconst (v := 1) hx hb dX4_term_158 (by decide) ?_
                      refine lv_iadd hx hb dX4_term_159 ?_
                      refine lv_topi (fun x21077 ex21077 => ?_)
                      have tx21077 := i_add ex21077 (by omega)
                      have fz21079 : 0 ≤ x21077.toInt ∧ x21077.toInt ≤ 500 := by have := i_rng x21077; omega
                      refine x_put C hTH21049 hSH21049 (ci := 4) (k := 7) (v := .int x21077) (ty0 := tyX4) rfl inX4 tyX4_ok nmX4 (by decide) rfl wF_X4_42 ga0 rg_78 rfl rfl (okI (by have := i_rng x21077; omega) (by have := i_rng x21077; omega)) rfl rfl (AE_in ga0 (by decide)) dX4_term_160 (fun H21078 locsH21078 hTH21078 hSH21078 wH21078 => ?_)
                      have f21080 : ∀ j : Nat, j ≤ F.toNatClampNeg → kk j = (fI H21078 kq j).toInt := fun j hj => (f21051 j hj).trans (congrArg Int32.toInt (Wr.neI wH21078 (Or.inl (G_ne gkq ga0 (by decide)))).symm)
                      have f21081 : ∀ j : Nat, j ≤ F.toNatClampNeg → vv j = (fI H21078 vq j).toInt := fun j hj => (f21052 j hj).trans (congrArg Int32.toInt (Wr.neI wH21078 (Or.inl (G_ne gvq ga0 (by decide)))).symm)
                      have f21082 : CSP lw.toInt (fun j => fI H21078 sq j) (fun j => fI s.heap sq j) sc.toNatClampNeg (x21025.toNatClampNeg) 2 ([cbF x20620.toInt a_ (unF kk vv x20622.toNatClampNeg)]) := CSP.kept f21053 (fun j => fI_kept (wH21078.off (G_ne gsq ga0 (by decide))))
                      have f21083 : RFT K H21078 s.heap mq := RFT.st f21054 (fun k h1 h8 => fR_kept (wH21078.off (G_ne gmq ga0 (by decide))))
                      have m21084 := m21056.trans (Wr.neI wH21078 (Or.inr (x_apart hKT hts inX4 tyX4 tyX4_ok nmX4 rfl 1 7 (by decide) (by decide) (by decide)))).symm
                      have m21085 := m21057.trans (Wr.neR wH21078 (Or.inr (x_apart hKT hts inX4 tyX4 tyX4_ok nmX4 rfl 0 7 (by decide) (by decide) (by decide)))).symm
                      have m21086 := m21058.trans (Wr.neR wH21078 (Or.inr (x_apart hKT hts inX4 tyX4 tyX4_ok nmX4 rfl 3 7 (by decide) (by decide) (by decide)))).symm
                      have m21087 := m21059.trans (Wr.neR wH21078 (Or.inr (x_apart hKT hts inX4 tyX4 tyX4_ok nmX4 rfl 4 7 (by decide) (by decide) (by decide)))).symm
                      have m21088 := m21060.trans (Wr.neI wH21078 (Or.inr (x_apart hKT hts inX4 tyX4 tyX4_ok nmX4 rfl 8 7 (by decide) (by decide) (by decide)))).symm
                      have m21089 := (Wr.neI wH21078 (Or.inl (G_ne gkq ga0 (by decide)))).trans m21061
                      have m21090 := m21062.trans (Wr.neI wH21078 (Or.inl (G_ne gkq ga0 (by decide)))).symm
                      have m21091 := m21063.trans (Wr.neI wH21078 (Or.inl (G_ne gvq ga0 (by decide)))).symm
                      have m21092 := m21064.trans (Wr.neR wH21078 (Or.inl (G_ne gmq ga0 (by decide)))).symm
                      have m21093 := m21065.trans (Wr.neI wH21078 (Or.inl (G_ne gmq ga0 (by decide)))).symm
                      have m21094 := m21066.trans (Wr.neI wH21078 (Or.inl (G_ne gmq ga0 (by decide)))).symm
                      have m21096 := ex21070.trans (Wr.neI wH21078 (Or.inl (G_ne gkq ga0 (by decide)))).symm
                      have m21097 := Wr.I wH21078
                      have m21097 := m21097.symm
                      obtain ⟨x21098, ex21098⟩ : ∃ y : Int32, y = x20621 + 1 := ⟨_, rfl⟩
                      have tx21098 := i_add ex21098 (by omega)
                      refine lv_iinc (v := x21098) (lv' := [(2, .int x21098), (1, .int x21070), (4, .int x20635), (3, .int x20630), (0, .ref a0)]) hx hb dX4_term_163 hl21073 (k := 4) rfl (by rw [ex21098]; rfl) (by decide) rfl (fun ls21099 hl21100 => ?_)
                      refine lv_goto (tgt := 4) hx hb dX4_term_166 (by decide) ?_
                      have cn_x21025 := i_cl (x := x21025) (by omega)
                      have cn_x21025 := i_cl (x := x21025) (by omega)
                      have cn_x20622 := i_cl (x := x20622) (by omega)
                      have cn_x21077 := i_cl (x := x21077) (by omega)
                      have cn_F := i_cl (x := F) (by omega)
                      exact ih4 (cbF x20620.toInt a_ (unF kk vv x20622.toNatClampNeg)) [cbF x20620.toInt a_ (unF kk vv x20622.toNatClampNeg)] ls21099 H21078 locsH21078 (x21070) (x21098) (x21077) (x20623) (x21025) (lv_sub hl21100 [4, 1, 0] rfl) hTH21078 hSH21078 (by have := i_rng x21070; omega) (by have := i_rng x21098; omega) (by have := i_rng x21077; omega) (by have := i_rng x21025; omega) m21097 m21084 m21094 m21085 m21086 m21087 m21092 m21088 m21093 m21089 f21080 f21081 f21083 (CSP.cast f21082 rfl (by omega) (Nat.le_refl _) rfl) (by omega) (by omega) (hsp4.trans (by rw [tmI_eq (by omega), if_neg (by omega), if_neg (by omega), if_pos (by omega), qn21071, show x20622.toNatClampNeg + 2 = x21077.toNatClampNeg by omega])) (hsf4.trans (by exact tmG_go (by omega) qn21071 (by omega) (by omega))) (Or.inr ⟨by omega, rfl⟩)
                    · have k21075 := i_ne c21074
                      refine lv_iload_n hx hb dX4_term_145 rfl (lv_at hl21073 0 rfl) ?_
                      refine lv_bipush (v := 47) hx hb dX4_term_146 (by decide) ?_
                      refine lv_icmp_eq (tgt := 153) hx hb dX4_term_148 (by decide) (fun c21101 => ?_) (fun c21101 => ?_)
                      · have k21102 := i_eq c21101
                        refine lv_aload_n hx hb dX4_term_153 rfl (lv_at hl21073 3 rfl) ?_
                        refine lv_dup hx hb dX4_term_154 rfl ?_
                        refine x_gi C hTH21049 (ci := 4) (k := 7) rfl inX4 (by decide) wF_X4_42 ga0 rg_78 rfl dX4_term_155 (fun x21103 ex21103 bx21103 => ?_)
                        have ux21103 : x21048 = x21103 := (m21067).trans ex21103.symm
                        subst ux21103
                        refine lv_iconst (v := 1) hx hb dX4_term_158 (by decide) ?_
                        refine lv_iadd hx hb dX4_term_159 ?_
                        refine lv_topi (fun x21104 ex21104 => ?_)
                        have tx21104 := i_add ex21104 (by omega)
                        have fz21106 : 0 ≤ x21104.toInt ∧ x21104.toInt ≤ 500 := by have := i_rng x21104; omega
                        refine x_put C hTH21049 hSH21049 (ci := 4) (k := 7) (v := .int x21104) (ty0 := tyX4) rfl inX4 tyX4_ok nmX4 (by decide) rfl wF_X4_42 ga0 rg_78 rfl rfl (okI (by have := i_rng x21104; omega) (by have := i_rng x21104; omega)) rfl rfl (AE_in ga0 (by decide)) dX4_term_160 (fun H21105 locsH21105 hTH21105 hSH21105 wH21105 => ?_)
                        have f21107 : ∀ j : Nat, j ≤ F.toNatClampNeg → kk j = (fI H21105 kq j).toInt := fun j hj => (f21051 j hj).trans (congrArg Int32.toInt (Wr.neI wH21105 (Or.inl (G_ne gkq ga0 (by decide)))).symm)
                        have f21108 : ∀ j : Nat, j ≤ F.toNatClampNeg → vv j = (fI H21105 vq j).toInt := fun j hj => (f21052 j hj).trans (congrArg Int32.toInt (Wr.neI wH21105 (Or.inl (G_ne gvq ga0 (by decide)))).symm)
                        have f21109 : CSP lw.toInt (fun j => fI H21105 sq j) (fun j => fI s.heap sq j) sc.toNatClampNeg (x21025.toNatClampNeg) 2 ([cbF x20620.toInt a_ (unF kk vv x20622.toNatClampNeg)]) := CSP.kept f21053 (fun j => fI_kept (wH21105.off (G_ne gsq ga0 (by decide))))
                        have f21110 : RFT K H21105 s.heap mq := RFT.st f21054 (fun k h1 h8 => fR_kept (wH21105.off (G_ne gmq ga0 (by decide))))
                        have m21111 := m21056.trans (Wr.neI wH21105 (Or.inr (x_apart hKT hts inX4 tyX4 tyX4_ok nmX4 rfl 1 7 (by decide) (by decide) (by decide)))).symm
                        have m21112 := m21057.trans (Wr.neR wH21105 (Or.inr (x_apart hKT hts inX4 tyX4 tyX4_ok nmX4 rfl 0 7 (by decide) (by decide) (by decide)))).symm
                        have m21113 := m21058.trans (Wr.neR wH21105 (Or.inr (x_apart hKT hts inX4 tyX4 tyX4_ok nmX4 rfl 3 7 (by decide) (by decide) (by decide)))).symm
                        have m21114 := m21059.trans (Wr.neR wH21105 (Or.inr (x_apart hKT hts inX4 tyX4 tyX4_ok nmX4 rfl 4 7 (by decide) (by decide) (by decide)))).symm
                        have m21115 := m21060.trans (Wr.neI wH21105 (Or.inr (x_apart hKT hts inX4 tyX4 tyX4_ok nmX4 rfl 8 7 (by decide) (by decide) (by decide)))).symm
                        have m21116 := (Wr.neI wH21105 (Or.inl (G_ne gkq ga0 (by decide)))).trans m21061
                        have m21117 := m21062.trans (Wr.neI wH21105 (Or.inl (G_ne gkq ga0 (by decide)))).symm
                        have m21118 := m21063.trans (Wr.neI wH21105 (Or.inl (G_ne gvq ga0 (by decide)))).symm
                        have m21119 := m21064.trans (Wr.neR wH21105 (Or.inl (G_ne gmq ga0 (by decide)))).symm
                        have m21120 := m21065.trans (Wr.neI wH21105 (Or.inl (G_ne gmq ga0 (by decide)))).symm
                        have m21121 := m21066.trans (Wr.neI wH21105 (Or.inl (G_ne gmq ga0 (by decide)))).symm
                        have m21123 := ex21070.trans (Wr.neI wH21105 (Or.inl (G_ne gkq ga0 (by decide)))).symm
                        have m21124 := Wr.I wH21105
                        have m21124 := m21124.symm
                        obtain ⟨x21125, ex21125⟩ : ∃ y : Int32, y = x20621 + 1 := ⟨_, rfl⟩
                        have tx21125 := i_add ex21125 (by omega)
                        refine lv_iinc (v := x21125) (lv' := [(2, .int x21125), (1, .int x21070), (4, .int x20635), (3, .int x20630), (0, .ref a0)]) hx hb dX4_term_163 hl21073 (k := 4) rfl (by rw [ex21125]; rfl) (by decide) rfl (fun ls21126 hl21127 => ?_)
                        refine lv_goto (tgt := 4) hx hb dX4_term_166 (by decide) ?_
                        have cn_x21025 := i_cl (x := x21025) (by omega)
                        have cn_x21025 := i_cl (x := x21025) (by omega)
                        have cn_x20622 := i_cl (x := x20622) (by omega)
                        have cn_x21104 := i_cl (x := x21104) (by omega)
                        have cn_F := i_cl (x := F) (by omega)
                        exact ih4 (cbF x20620.toInt a_ (unF kk vv x20622.toNatClampNeg)) [cbF x20620.toInt a_ (unF kk vv x20622.toNatClampNeg)] ls21126 H21105 locsH21105 (x21070) (x21125) (x21104) (x20623) (x21025) (lv_sub hl21127 [4, 1, 0] rfl) hTH21105 hSH21105 (by have := i_rng x21070; omega) (by have := i_rng x21125; omega) (by have := i_rng x21104; omega) (by have := i_rng x21025; omega) m21124 m21111 m21121 m21112 m21113 m21114 m21119 m21115 m21120 m21116 f21107 f21108 f21110 (CSP.cast f21109 rfl (by omega) (Nat.le_refl _) rfl) (by omega) (by omega) (hsp4.trans (by rw [tmI_eq (by omega), if_neg (by omega), if_neg (by omega), if_pos (by omega), qn21071, show x20622.toNatClampNeg + 2 = x21104.toNatClampNeg by omega])) (hsf4.trans (by exact tmG_go (by omega) qn21071 (by omega) (by omega))) (Or.inr ⟨by omega, rfl⟩)
                      · have k21102 := i_ne c21101
                        refine lv_iconst (v := 1) hx hb dX4_term_151 (by decide) ?_
                        have cn_x20622 := i_cl (x := x20622) (by omega)
                        have cn_F := i_cl (x := F) (by omega)
                        have cn_x21048 := i_cl (x := x21048) (by omega)
                        have cn_x20622 := i_cl (x := x20622) (by omega)
                        have cn_F := i_cl (x := F) (by omega)
                        have cn_x21025 := i_cl (x := x21025) (by omega)
                        have cn_x21025 := i_cl (x := x21025) (by omega)
                        exact x_zret C hQ (Or.inr rfl) dX4_term_152 hSH21049 (by decide) (by decide) (⟨1, x21048, x20623, x21025, rfl, by decide, m21067, m21056, m21066, by omega, m21057, m21058, m21059, m21064, m21060, m21065, Or.inr ⟨hsp4.trans (by rw [tmI_eq (by omega), if_neg (by omega), if_neg (by omega), if_neg (by omega), show x20622.toNatClampNeg + 1 = x21048.toNatClampNeg by omega]), by omega⟩, Or.inr (CSP.cast f21053 rfl (by omega) (Nat.le_refl _) (congrArg (fun z => [z]) (hsf4.trans (tmG_end (by omega) (by rw [qn21071]; omega))))), f21054, hTH21049⟩)
                  · have k21045 := i_eq c21044
                    refine lv_aload_n hx hb dX4_term_110 rfl (lv_at hl20637 2 rfl) ?_
                    refine x_gr C hTH21024 (ci := 4) (k := 0) rfl inX4 (by decide) wF_X4_12 ga0 rg_78 rfl dX4_term_111 (fun q21128 eq21128 gq21128 => ?_)
                    have uq21128 : mq = q21128 := (m21035).trans eq21128.symm
                    subst uq21128
                    refine lv_iload_n hx hb dX4_term_114 rfl (lv_at hl20637 3 rfl) ?_
                    refine lv_iconst (v := 0) hx hb dX4_term_115 (by decide) ?_
                    refine x_V (As := [.int x20620, .int 0]) (rest := []) C (a_X7_addStep_g l K G H21024 (x20620) (0) (x21025) (li) hTH21024 gmq (by omega) (by decide) gsq m21026 ex21025 m21027 (by omega)) yo_X7_addStep wM_X4_131 ⟨⟨by decide, by decide⟩, by decide, by decide⟩ (x_rv C hTH21024 (ci := 7) rfl gmq rg_69) rfl hl20637.1 rfl (Nat.le_of_ble_eq_true rfl) dX4_term_116 hSH21024 (AE_sub (fun _ _ => rfl) (by decide) hSH21024.1) (fun vH21129 H21129 locsH21129 pH21129 zH21129 kH21129 hSH21129 => ?_)
                    obtain ⟨x21130, hvH21129, ex21130, hrH21129, m21131, m21132, m21133, m21134, m21135, hTH21129⟩ := pH21129
                    subst hvH21129
                    have f21136 : ∀ j : Nat, j ≤ F.toNatClampNeg → kk j = (fI H21129 kq j).toInt := fun j hj => (f21031 j hj).trans (congrArg Int32.toInt (fI_kept (x_lt hTH21024 kH21129 gkq (by decide))).symm)
                    have f21137 : ∀ j : Nat, j ≤ F.toNatClampNeg → vv j = (fI H21129 vq j).toInt := fun j hj => (f21032 j hj).trans (congrArg Int32.toInt (fI_kept (x_lt hTH21024 kH21129 gvq (by decide))).symm)
                    have m21138 := (m21033).trans (fI_kept (x_lt hTH21024 kH21129 ga0 (by decide))).symm
                    have m21139 := (m21034).trans (fI_kept (x_lt hTH21024 kH21129 ga0 (by decide))).symm
                    have m21140 := (m21035).trans (fR_kept (x_lt hTH21024 kH21129 ga0 (by decide))).symm
                    have m21141 := (m21036).trans (fR_kept (x_lt hTH21024 kH21129 ga0 (by decide))).symm
                    have m21142 := (m21037).trans (fR_kept (x_lt hTH21024 kH21129 ga0 (by decide))).symm
                    have m21143 := (m21038).trans (fI_kept (x_lt hTH21024 kH21129 ga0 (by decide))).symm
                    have m21144 := (fI_kept (x_lt hTH21024 kH21129 gkq (by decide))).trans m21039
                    have m21145 := (m21040).trans (fI_kept (x_lt hTH21024 kH21129 gkq (by decide))).symm
                    have m21146 := (m21041).trans (fI_kept (x_lt hTH21024 kH21129 gvq (by decide))).symm
                    have bx21130 := ty_fi (x := x21130) (k := 9) ex21130 hTH21129 gmq rg_69 rfl
                    have cn_x21025 := i_cl (x := x21025) (by omega)
                    have cn_x21025 := i_cl (x := x21025) (by omega)
                    have cn_x21130 := i_cl (x := x21130) (by omega)
                    have cn_x20622 := i_cl (x := x20622) (by omega)
                    have cn_F := i_cl (x := F) (by omega)
                    have hv_ := hy0 x20622.toNatClampNeg
                    have hd1 : dl = [a_] := (hdl4.resolve_left (fun z => by have := z.1; omega)).2
                    have g_ := cs21042
                    rw [hd1] at g_
                    have cs21147 : CSP lw.toInt (fun j => fI H21129 sq j) (fun j => fI s.heap sq j) sc.toNatClampNeg (x21130.toNatClampNeg) 2 ([cbF 42 a_ (unF kk vv x20622.toNatClampNeg)]) := CSP.bin (s := 42) g_ m21133 (Eq.trans m21134 (by omega)) (by omega) (by omega) (by omega)
                    have f21148 : RFT K H21129 s.heap mq := RFT.st f21043 m21135
                    refine W.eq (g2 := F0 m 119 ls20636 []) rfl ?_
                    have cn_x20622 := i_cl (x := x20622) (by omega)
                    have cn_x21130 := i_cl (x := x21130) (by omega)
                    have hz_ : [cbF x20620.toInt a_ (unF kk vv x20622.toNatClampNeg)] = [cbF 42 a_ (unF kk vv x20622.toNatClampNeg)] := by rw [show x20620.toInt = 42 by omega]
                    have cs21149 : CSP lw.toInt (fun j => fI H21129 sq j) (fun j => fI s.heap sq j) sc.toNatClampNeg (x21130.toNatClampNeg) 2 ([cbF x20620.toInt a_ (unF kk vv x20622.toNatClampNeg)]) := CSP.cast cs21147 rfl rfl (Nat.le_refl _) hz_
                    refine lv_aload_n hx hb dX4_term_119 rfl (lv_at hl20637 2 rfl) ?_
                    refine lv_dup hx hb dX4_term_120 rfl ?_
                    refine x_gi C hTH21129 (ci := 4) (k := 7) rfl inX4 (by decide) wF_X4_42 ga0 rg_78 rfl dX4_term_121 (fun x21150 ex21150 bx21150 => ?_)
                    have ux21150 : x20622 = x21150 := (m21138).trans ex21150.symm
                    subst ux21150
                    refine lv_iconst (v := 1) hx hb dX4_term_124 (by decide) ?_
                    refine lv_iadd hx hb dX4_term_125 ?_
                    refine lv_topi (fun x21151 ex21151 => ?_)
                    have tx21151 := i_add ex21151 (by omega)
                    have fz21153 : 0 ≤ x21151.toInt ∧ x21151.toInt ≤ 500 := by have := i_rng x21151; omega
                    refine x_put C hTH21129 hSH21129 (ci := 4) (k := 7) (v := .int x21151) (ty0 := tyX4) rfl inX4 tyX4_ok nmX4 (by decide) rfl wF_X4_42 ga0 rg_78 rfl rfl (okI (by have := i_rng x21151; omega) (by have := i_rng x21151; omega)) rfl rfl (AE_in ga0 (by decide)) dX4_term_126 (fun H21152 locsH21152 hTH21152 hSH21152 wH21152 => ?_)
                    have f21154 : ∀ j : Nat, j ≤ F.toNatClampNeg → kk j = (fI H21152 kq j).toInt := fun j hj => (f21136 j hj).trans (congrArg Int32.toInt (Wr.neI wH21152 (Or.inl (G_ne gkq ga0 (by decide)))).symm)
                    have f21155 : ∀ j : Nat, j ≤ F.toNatClampNeg → vv j = (fI H21152 vq j).toInt := fun j hj => (f21137 j hj).trans (congrArg Int32.toInt (Wr.neI wH21152 (Or.inl (G_ne gvq ga0 (by decide)))).symm)
                    have f21156 : CSP lw.toInt (fun j => fI H21152 sq j) (fun j => fI s.heap sq j) sc.toNatClampNeg (x21130.toNatClampNeg) 2 ([cbF x20620.toInt a_ (unF kk vv x20622.toNatClampNeg)]) := CSP.kept cs21149 (fun j => fI_kept (wH21152.off (G_ne gsq ga0 (by decide))))
                    have f21157 : RFT K H21152 s.heap mq := RFT.st f21148 (fun k h1 h8 => fR_kept (wH21152.off (G_ne gmq ga0 (by decide))))
                    have m21159 := m21139.trans (Wr.neI wH21152 (Or.inr (x_apart hKT hts inX4 tyX4 tyX4_ok nmX4 rfl 1 7 (by decide) (by decide) (by decide)))).symm
                    have m21160 := m21140.trans (Wr.neR wH21152 (Or.inr (x_apart hKT hts inX4 tyX4 tyX4_ok nmX4 rfl 0 7 (by decide) (by decide) (by decide)))).symm
                    have m21161 := m21141.trans (Wr.neR wH21152 (Or.inr (x_apart hKT hts inX4 tyX4 tyX4_ok nmX4 rfl 3 7 (by decide) (by decide) (by decide)))).symm
                    have m21162 := m21142.trans (Wr.neR wH21152 (Or.inr (x_apart hKT hts inX4 tyX4 tyX4_ok nmX4 rfl 4 7 (by decide) (by decide) (by decide)))).symm
                    have m21163 := m21143.trans (Wr.neI wH21152 (Or.inr (x_apart hKT hts inX4 tyX4 tyX4_ok nmX4 rfl 8 7 (by decide) (by decide) (by decide)))).symm
                    have m21164 := (Wr.neI wH21152 (Or.inl (G_ne gkq ga0 (by decide)))).trans m21144
                    have m21165 := m21145.trans (Wr.neI wH21152 (Or.inl (G_ne gkq ga0 (by decide)))).symm
                    have m21166 := m21146.trans (Wr.neI wH21152 (Or.inl (G_ne gvq ga0 (by decide)))).symm
                    have m21167 := m21131.trans (Wr.neR wH21152 (Or.inl (G_ne gmq ga0 (by decide)))).symm
                    have m21168 := m21132.trans (Wr.neI wH21152 (Or.inl (G_ne gmq ga0 (by decide)))).symm
                    have m21169 := ex21130.trans (Wr.neI wH21152 (Or.inl (G_ne gmq ga0 (by decide)))).symm
                    have m21170 := Wr.I wH21152
                    have m21170 := m21170.symm
                    refine lv_aload_n hx hb dX4_term_129 rfl (lv_at hl20637 2 rfl) ?_
                    refine x_gr C hTH21152 (ci := 4) (k := 3) rfl inX4 (by decide) wF_X4_18 ga0 rg_78 rfl dX4_term_130 (fun q21171 eq21171 gq21171 => ?_)
                    have uq21171 : kq = q21171 := (m21161).trans eq21171.symm
                    subst uq21171
                    refine lv_aload_n hx hb dX4_term_133 rfl (lv_at hl20637 2 rfl) ?_
                    refine x_gi C hTH21152 (ci := 4) (k := 7) rfl inX4 (by decide) wF_X4_42 ga0 rg_78 rfl dX4_term_134 (fun x21172 ex21172 bx21172 => ?_)
                    have ux21172 : x21151 = x21172 := (m21170).trans ex21172.symm
                    subst ux21172
                    refine x_ai C hTH21152 gkq rg_79 ⟨by omega, by show _ < ((501 : Nat) : Int); omega⟩ dX4_term_137 (fun x21173 ex21173 bx21173 => ?_)
                    have dx21173 := el_hit ex21173 m21164
                    have qvx21173 : kk x21151.toNatClampNeg = x21173.toInt := (f21154 _ (by have h1 := i_cl (x := x21151) (by omega); have h2 := i_cl (x := F) (by omega); omega)).trans (congrArg Int32.toInt ex21173.symm)
                    have cn_x21151 := i_cl (x := x21151) (by omega)
                    have cn_x20622 := i_cl (x := x20622) (by omega)
                    have qn21174 : kk (x20622.toNatClampNeg + 1) = x21173.toInt := by rw [show x20622.toNatClampNeg + 1 = x21151.toNatClampNeg by omega]; exact qvx21173
                    refine lv_istore_n (lv' := [(1, .int x21173), (4, .int x20635), (3, .int x20630), (0, .ref a0), (2, .int x20621)]) hx hb dX4_term_138 rfl hl20637 (by decide) rfl (fun ls21175 hl21176 => ?_)
                    refine lv_iload_n hx hb dX4_term_139 rfl (lv_at hl21176 0 rfl) ?_
                    refine lv_bipush (v := 42) hx hb dX4_term_140 (by decide) ?_
                    refine lv_icmp_eq (tgt := 153) hx hb dX4_term_142 (by decide) (fun c21177 => ?_) (fun c21177 => ?_)
                    · have k21178 := i_eq c21177
                      refine lv_aload_n hx hb dX4_term_153 rfl (lv_at hl21176 3 rfl) ?_
                      refine lv_dup hx hb dX4_term_154 rfl ?_
                      refine x_gi C hTH21152 (ci := 4) (k := 7) rfl inX4 (by decide) wF_X4_42 ga0 rg_78 rfl dX4_term_155 (fun x21179 ex21179 bx21179 => ?_)
                      have ux21179 : x21151 = x21179 := (m21170).trans ex21179.symm
                      subst ux21179
                      refine lv_iconst (v := 1) hx hb dX4_term_158 (by decide) ?_
                      refine lv_iadd hx hb dX4_term_159 ?_
                      refine lv_topi (fun x21180 ex21180 => ?_)
                      have tx21180 := i_add ex21180 (by omega)
                      have fz21182 : 0 ≤ x21180.toInt ∧ x21180.toInt ≤ 500 := by have := i_rng x21180; omega
                      refine x_put C hTH21152 hSH21152 (ci := 4) (k := 7) (v := .int x21180) (ty0 := tyX4) rfl inX4 tyX4_ok nmX4 (by decide) rfl wF_X4_42 ga0 rg_78 rfl rfl (okI (by have := i_rng x21180; omega) (by have := i_rng x21180; omega)) rfl rfl (AE_in ga0 (by decide)) dX4_term_160 (fun H21181 locsH21181 hTH21181 hSH21181 wH21181 => ?_)
                      have f21183 : ∀ j : Nat, j ≤ F.toNatClampNeg → kk j = (fI H21181 kq j).toInt := fun j hj => (f21154 j hj).trans (congrArg Int32.toInt (Wr.neI wH21181 (Or.inl (G_ne gkq ga0 (by decide)))).symm)
                      have f21184 : ∀ j : Nat, j ≤ F.toNatClampNeg → vv j = (fI H21181 vq j).toInt := fun j hj => (f21155 j hj).trans (congrArg Int32.toInt (Wr.neI wH21181 (Or.inl (G_ne gvq ga0 (by decide)))).symm)
                      have f21185 : CSP lw.toInt (fun j => fI H21181 sq j) (fun j => fI s.heap sq j) sc.toNatClampNeg (x21130.toNatClampNeg) 2 ([cbF x20620.toInt a_ (unF kk vv x20622.toNatClampNeg)]) := CSP.kept f21156 (fun j => fI_kept (wH21181.off (G_ne gsq ga0 (by decide))))
                      have f21186 : RFT K H21181 s.heap mq := RFT.st f21157 (fun k h1 h8 => fR_kept (wH21181.off (G_ne gmq ga0 (by decide))))
                      have m21187 := m21159.trans (Wr.neI wH21181 (Or.inr (x_apart hKT hts inX4 tyX4 tyX4_ok nmX4 rfl 1 7 (by decide) (by decide) (by decide)))).symm
                      have m21188 := m21160.trans (Wr.neR wH21181 (Or.inr (x_apart hKT hts inX4 tyX4 tyX4_ok nmX4 rfl 0 7 (by decide) (by decide) (by decide)))).symm
                      have m21189 := m21161.trans (Wr.neR wH21181 (Or.inr (x_apart hKT hts inX4 tyX4 tyX4_ok nmX4 rfl 3 7 (by decide) (by decide) (by decide)))).symm
                      have m21190 := m21162.trans (Wr.neR wH21181 (Or.inr (x_apart hKT hts inX4 tyX4 tyX4_ok nmX4 rfl 4 7 (by decide) (by decide) (by decide)))).symm
                      have m21191 := m21163.trans (Wr.neI wH21181 (Or.inr (x_apart hKT hts inX4 tyX4 tyX4_ok nmX4 rfl 8 7 (by decide) (by decide) (by decide)))).symm
                      have m21192 := (Wr.neI wH21181 (Or.inl (G_ne gkq ga0 (by decide)))).trans m21164
                      have m21193 := m21165.trans (Wr.neI wH21181 (Or.inl (G_ne gkq ga0 (by decide)))).symm
                      have m21194 := m21166.trans (Wr.neI wH21181 (Or.inl (G_ne gvq ga0 (by decide)))).symm
                      have m21195 := m21167.trans (Wr.neR wH21181 (Or.inl (G_ne gmq ga0 (by decide)))).symm
                      have m21196 := m21168.trans (Wr.neI wH21181 (Or.inl (G_ne gmq ga0 (by decide)))).symm
                      have m21197 := m21169.trans (Wr.neI wH21181 (Or.inl (G_ne gmq ga0 (by decide)))).symm
                      have m21199 := ex21173.trans (Wr.neI wH21181 (Or.inl (G_ne gkq ga0 (by decide)))).symm
                      have m21200 := Wr.I wH21181
                      have m21200 := m21200.symm
                      obtain ⟨x21201, ex21201⟩ : ∃ y : Int32, y = x20621 + 1 := ⟨_, rfl⟩
                      have tx21201 := i_add ex21201 (by omega)
                      refine lv_iinc (v := x21201) (lv' := [(2, .int x21201), (1, .int x21173), (4, .int x20635), (3, .int x20630), (0, .ref a0)]) hx hb dX4_term_163 hl21176 (k := 4) rfl (by rw [ex21201]; rfl) (by decide) rfl (fun ls21202 hl21203 => ?_)
                      refine lv_goto (tgt := 4) hx hb dX4_term_166 (by decide) ?_
                      have cn_x21130 := i_cl (x := x21130) (by omega)
                      have cn_x21130 := i_cl (x := x21130) (by omega)
                      have cn_x20622 := i_cl (x := x20622) (by omega)
                      have cn_x21180 := i_cl (x := x21180) (by omega)
                      have cn_F := i_cl (x := F) (by omega)
                      exact ih4 (cbF x20620.toInt a_ (unF kk vv x20622.toNatClampNeg)) [cbF x20620.toInt a_ (unF kk vv x20622.toNatClampNeg)] ls21202 H21181 locsH21181 (x21173) (x21201) (x21180) (x20623) (x21130) (lv_sub hl21203 [4, 1, 0] rfl) hTH21181 hSH21181 (by have := i_rng x21173; omega) (by have := i_rng x21201; omega) (by have := i_rng x21180; omega) (by have := i_rng x21130; omega) m21200 m21187 m21197 m21188 m21189 m21190 m21195 m21191 m21196 m21192 f21183 f21184 f21186 (CSP.cast f21185 rfl (by omega) (Nat.le_refl _) rfl) (by omega) (by omega) (hsp4.trans (by rw [tmI_eq (by omega), if_neg (by omega), if_neg (by omega), if_pos (by omega), qn21174, show x20622.toNatClampNeg + 2 = x21180.toNatClampNeg by omega])) (hsf4.trans (by exact tmG_go (by omega) qn21174 (by omega) (by omega))) (Or.inr ⟨by omega, rfl⟩)
                    · have k21178 := i_ne c21177
                      refine lv_iload_n hx hb dX4_term_145 rfl (lv_at hl21176 0 rfl) ?_
                      refine lv_bipush (v := 47) hx hb dX4_term_146 (by decide) ?_
                      refine lv_icmp_eq (tgt := 153) hx hb dX4_term_148 (by decide) (fun c21204 => ?_) (fun c21204 => ?_)
                      · have k21205 := i_eq c21204
                        refine lv_aload_n hx hb dX4_term_153 rfl (lv_at hl21176 3 rfl) ?_
                        refine lv_dup hx hb dX4_term_154 rfl ?_
                        refine x_gi C hTH21152 (ci := 4) (k := 7) rfl inX4 (by decide) wF_X4_42 ga0 rg_78 rfl dX4_term_155 (fun x21206 ex21206 bx21206 => ?_)
                        have ux21206 : x21151 = x21206 := (m21170).trans ex21206.symm
                        subst ux21206
                        refine lv_iconst (v := 1) hx hb dX4_term_158 (by decide) ?_
                        refine lv_iadd hx hb dX4_term_159 ?_
                        refine lv_topi (fun x21207 ex21207 => ?_)
                        have tx21207 := i_add ex21207 (by omega)
                        have fz21209 : 0 ≤ x21207.toInt ∧ x21207.toInt ≤ 500 := by have := i_rng x21207; omega
                        refine x_put C hTH21152 hSH21152 (ci := 4) (k := 7) (v := .int x21207) (ty0 := tyX4) rfl inX4 tyX4_ok nmX4 (by decide) rfl wF_X4_42 ga0 rg_78 rfl rfl (okI (by have := i_rng x21207; omega) (by have := i_rng x21207; omega)) rfl rfl (AE_in ga0 (by decide)) dX4_term_160 (fun H21208 locsH21208 hTH21208 hSH21208 wH21208 => ?_)
                        have f21210 : ∀ j : Nat, j ≤ F.toNatClampNeg → kk j = (fI H21208 kq j).toInt := fun j hj => (f21154 j hj).trans (congrArg Int32.toInt (Wr.neI wH21208 (Or.inl (G_ne gkq ga0 (by decide)))).symm)
                        have f21211 : ∀ j : Nat, j ≤ F.toNatClampNeg → vv j = (fI H21208 vq j).toInt := fun j hj => (f21155 j hj).trans (congrArg Int32.toInt (Wr.neI wH21208 (Or.inl (G_ne gvq ga0 (by decide)))).symm)
                        have f21212 : CSP lw.toInt (fun j => fI H21208 sq j) (fun j => fI s.heap sq j) sc.toNatClampNeg (x21130.toNatClampNeg) 2 ([cbF x20620.toInt a_ (unF kk vv x20622.toNatClampNeg)]) := CSP.kept f21156 (fun j => fI_kept (wH21208.off (G_ne gsq ga0 (by decide))))
                        have f21213 : RFT K H21208 s.heap mq := RFT.st f21157 (fun k h1 h8 => fR_kept (wH21208.off (G_ne gmq ga0 (by decide))))
                        have m21214 := m21159.trans (Wr.neI wH21208 (Or.inr (x_apart hKT hts inX4 tyX4 tyX4_ok nmX4 rfl 1 7 (by decide) (by decide) (by decide)))).symm
                        have m21215 := m21160.trans (Wr.neR wH21208 (Or.inr (x_apart hKT hts inX4 tyX4 tyX4_ok nmX4 rfl 0 7 (by decide) (by decide) (by decide)))).symm
                        have m21216 := m21161.trans (Wr.neR wH21208 (Or.inr (x_apart hKT hts inX4 tyX4 tyX4_ok nmX4 rfl 3 7 (by decide) (by decide) (by decide)))).symm
                        have m21217 := m21162.trans (Wr.neR wH21208 (Or.inr (x_apart hKT hts inX4 tyX4 tyX4_ok nmX4 rfl 4 7 (by decide) (by decide) (by decide)))).symm
                        have m21218 := m21163.trans (Wr.neI wH21208 (Or.inr (x_apart hKT hts inX4 tyX4 tyX4_ok nmX4 rfl 8 7 (by decide) (by decide) (by decide)))).symm
                        have m21219 := (Wr.neI wH21208 (Or.inl (G_ne gkq ga0 (by decide)))).trans m21164
                        have m21220 := m21165.trans (Wr.neI wH21208 (Or.inl (G_ne gkq ga0 (by decide)))).symm
                        have m21221 := m21166.trans (Wr.neI wH21208 (Or.inl (G_ne gvq ga0 (by decide)))).symm
                        have m21222 := m21167.trans (Wr.neR wH21208 (Or.inl (G_ne gmq ga0 (by decide)))).symm
                        have m21223 := m21168.trans (Wr.neI wH21208 (Or.inl (G_ne gmq ga0 (by decide)))).symm
                        have m21224 := m21169.trans (Wr.neI wH21208 (Or.inl (G_ne gmq ga0 (by decide)))).symm
                        have m21226 := ex21173.trans (Wr.neI wH21208 (Or.inl (G_ne gkq ga0 (by decide)))).symm
                        have m21227 := Wr.I wH21208
                        have m21227 := m21227.symm
                        obtain ⟨x21228, ex21228⟩ : ∃ y : Int32, y = x20621 + 1 := ⟨_, rfl⟩
                        have tx21228 := i_add ex21228 (by omega)
                        refine lv_iinc (v := x21228) (lv' := [(2, .int x21228), (1, .int x21173), (4, .int x20635), (3, .int x20630), (0, .ref a0)]) hx hb dX4_term_163 hl21176 (k := 4) rfl (by rw [ex21228]; rfl) (by decide) rfl (fun ls21229 hl21230 => ?_)
                        refine lv_goto (tgt := 4) hx hb dX4_term_166 (by decide) ?_
                        have cn_x21130 := i_cl (x := x21130) (by omega)
                        have cn_x21130 := i_cl (x := x21130) (by omega)
                        have cn_x20622 := i_cl (x := x20622) (by omega)
                        have cn_x21207 := i_cl (x := x21207) (by omega)
                        have cn_F := i_cl (x := F) (by omega)
                        exact ih4 (cbF x20620.toInt a_ (unF kk vv x20622.toNatClampNeg)) [cbF x20620.toInt a_ (unF kk vv x20622.toNatClampNeg)] ls21229 H21208 locsH21208 (x21173) (x21228) (x21207) (x20623) (x21130) (lv_sub hl21230 [4, 1, 0] rfl) hTH21208 hSH21208 (by have := i_rng x21173; omega) (by have := i_rng x21228; omega) (by have := i_rng x21207; omega) (by have := i_rng x21130; omega) m21227 m21214 m21224 m21215 m21216 m21217 m21222 m21218 m21223 m21219 f21210 f21211 f21213 (CSP.cast f21212 rfl (by omega) (Nat.le_refl _) rfl) (by omega) (by omega) (hsp4.trans (by rw [tmI_eq (by omega), if_neg (by omega), if_neg (by omega), if_pos (by omega), qn21174, show x20622.toNatClampNeg + 2 = x21207.toNatClampNeg by omega])) (hsf4.trans (by exact tmG_go (by omega) qn21174 (by omega) (by omega))) (Or.inr ⟨by omega, rfl⟩)
                      · have k21205 := i_ne c21204
                        refine lv_iconst (v := 1) hx hb dX4_term_151 (by decide) ?_
                        have cn_x20622 := i_cl (x := x20622) (by omega)
                        have cn_F := i_cl (x := F) (by omega)
                        have cn_x21151 := i_cl (x := x21151) (by omega)
                        have cn_x20622 := i_cl (x := x20622) (by omega)
                        have cn_F := i_cl (x := F) (by omega)
                        have cn_x21130 := i_cl (x := x21130) (by omega)
                        have cn_x21130 := i_cl (x := x21130) (by omega)
                        exact x_zret C hQ (Or.inr rfl) dX4_term_152 hSH21152 (by decide) (by decide) (⟨1, x21151, x20623, x21130, rfl, by decide, m21170, m21159, m21169, by omega, m21160, m21161, m21162, m21167, m21163, m21168, Or.inr ⟨hsp4.trans (by rw [tmI_eq (by omega), if_neg (by omega), if_neg (by omega), if_neg (by omega), show x20622.toNatClampNeg + 1 = x21151.toNatClampNeg by omega]), by omega⟩, Or.inr (CSP.cast f21156 rfl (by omega) (Nat.le_refl _) (congrArg (fun z => [z]) (hsf4.trans (tmG_end (by omega) (by rw [qn21174]; omega))))), f21157, hTH21152⟩)
                · have k21022 := i_eq c21021
                  exfalso
                  omega
              · have k21020 := i_eq c21019
                exfalso
                omega
            · have k21018 := i_eq c21017
              refine lv_aload_n hx hb dX4_term_52 rfl (lv_at hl20637 2 rfl) ?_
              refine lv_iconst (v := 1) hx hb dX4_term_53 (by decide) ?_
              refine x_V (As := [.int 1]) (rest := []) C (a_X4_refuse_e l K G H20999 (1) (x20622) (x20623) (lw) hTH20999 ga0 gmq m21008 gkq m21009 gvq m21010 m21005 m21006 m21012) yo_X4_refuse wM_X4_81 ⟨⟨by decide, by decide⟩, by decide, by decide⟩ (x_rv C hTH20999 (ci := 4) rfl ga0 rg_78) rfl hl20637.1 rfl (Nat.le_of_ble_eq_true rfl) dX4_term_54 hSH20999 (AE_sub (fun _ _ => rfl) (by decide) hSH20999.1) (fun vH21231 H21231 locsH21231 pH21231 zH21231 kH21231 hSH21231 => ?_)
              obtain ⟨x21232, x21233, x21234, hvH21231, bx21232, ex21233, ex21234, hrH21231, m21235, m21236, m21237, m21238, hTH21231⟩ := pH21231
              subst hvH21231
              have f21239 : ∀ j : Nat, j ≤ F.toNatClampNeg → kk j = (fI H21231 kq j).toInt := fun j hj => (f21001 j hj).trans (congrArg Int32.toInt (fI_kept (x_lt hTH20999 kH21231 gkq (by decide))).symm)
              have f21240 : ∀ j : Nat, j ≤ F.toNatClampNeg → vv j = (fI H21231 vq j).toInt := fun j hj => (f21002 j hj).trans (congrArg Int32.toInt (fI_kept (x_lt hTH20999 kH21231 gvq (by decide))).symm)
              have f21241 : RFT K H21231 s.heap mq := RFT.st f21003 (fun k h1 h8 => fR_kept (x_lt hTH20999 kH21231 gmq (by decide)))
              have f21242 : CSP lw.toInt (fun j => fI H21231 sq j) (fun j => fI s.heap sq j) sc.toNatClampNeg (x20624.toNatClampNeg) 2 (dl) := CSP.kept f21004 (fun j => fI_kept (x_lt hTH20999 kH21231 gsq (by decide)))
              have m21243 := (m21007).trans (fI_kept (x_lt hTH20999 kH21231 gmq (by decide))).symm
              have m21244 := (m21011).trans (fR_kept (x_lt hTH20999 kH21231 gmq (by decide))).symm
              have m21245 := (m21013).trans (fI_kept (x_lt hTH20999 kH21231 gmq (by decide))).symm
              have m21246 := (fI_kept (x_lt hTH20999 kH21231 gkq (by decide))).trans m21014
              have m21247 := (m21015).trans (fI_kept (x_lt hTH20999 kH21231 gkq (by decide))).symm
              have m21248 := (m21016).trans (fI_kept (x_lt hTH20999 kH21231 gvq (by decide))).symm
              have bx21233 := ty_fi (x := x21233) (k := 7) ex21233 hTH21231 ga0 rg_78 rfl
              have bx21234 := ty_fi (x := x21234) (k := 1) ex21234 hTH21231 ga0 rg_78 rfl
              refine W.eq (g2 := F0 m 57 ls20636 [.int x21232]) rfl ?_
              have cn_x20622 := i_cl (x := x20622) (by omega)
              have cn_F := i_cl (x := F) (by omega)
              exact x_zret C hQ (i_01 (by omega)) dX4_term_57 hSH21231 (by decide) (by decide) (⟨x21232, x21233, x21234, x20624, rfl, by omega, ex21233, ex21234, m21243, by omega, m21235, m21236, m21237, m21244, m21238, m21245, Or.inl ⟨hsp4.trans (by rw [tmI_eq (by omega), if_pos (by omega)]), by omega⟩, (Or.inl (by omega)), f21241, hTH21231⟩)
  refine lv_iconst (v := 0) hx hb dX4_term_0 (by decide) ?_
  refine lv_istore_n (lv' := [(1, .int 0), (0, .ref a0)]) hx hb dX4_term_1 rfl hl (by decide) rfl (fun ls21249 hl21250 => ?_)
  refine lv_iconst (v := 0) hx hb dX4_term_2 (by decide) ?_
  refine lv_istore_n (lv' := [(2, .int 0), (1, .int 0), (0, .ref a0)]) hx hb dX4_term_3 rfl hl21250 (by decide) rfl (fun ls21251 hl21252 => ?_)
  have cn_sc := i_cl (x := sc) (by omega)
  have cn_sc := i_cl (x := sc) (by omega)
  exact J4 ((500 - (0 : Int32).toInt).toNat + 1) zF [] ls21251 s.heap [] (0) (0) (tat) (fa) (sc) (lv_sub hl21252 [2, 1, 0] rfl) hT hS (by decide) (by decide) (by have := i_rng tat; omega) (by have := i_rng sc; omega) etat efa esc emq ekq evq esq elw eli hel0 f0_kk f0_vv f0_rt (CSP.cast f0_cs rfl (by omega) (Nat.le_refl _) rfl) (by omega) (by omega) (hsp0.trans (by rfl)) (hsf0.trans (by rfl)) (Or.inl ⟨rfl, rfl⟩)

set_option maxHeartbeats 4000000 in
set_option maxRecDepth 100000 in
theorem a_X4_sum_g (l : Launch) (K : KE) (G : Nat → Option Nat) (H : Heap) {a0 : Nat} {mq : Nat} {kq : Nat} {vq : Nat} {sq : Nat} (F : Int32) (tat : Int32) (fa : Int32) (sc : Int32) (lw : Int32) (li : Int32) (kk : Nat → Int) (vv : Nat → Int) (hT : TY K G H) (ga0 : G a0 = some 78) (gmq : G mq = some 69) (emq : mq = fR H a0 (K.1.2 4 0)) (gkq : G kq = some 79) (ekq : kq = fR H a0 (K.1.2 4 3)) (gvq : G vq = some 80) (evq : vq = fR H a0 (K.1.2 4 4)) (gsq : G sq = some 77) (esq : sq = fR H mq (K.1.2 7 8)) (etat : tat = fI H a0 (K.1.2 4 7)) (efa : fa = fI H a0 (K.1.2 4 1)) (esc : sc = fI H mq (K.1.2 7 9)) (elw : lw = fI H a0 (K.1.2 4 8)) (eli : li = fI H mq (K.1.2 7 0)) (hel0 : fI H kq (F : Int32).toNatClampNeg = 26) (hp0 : tat.toInt ≤ F.toInt) (hp1 : F.toInt ≤ 500) (hp2 : sc.toInt ≤ tat.toInt) (hy0 : ∀ j : Nat, 0 ≤ vv j ∧ vv j < 100000) (hv_kk : ∀ j : Nat, j ≤ F.toNatClampNeg → kk j = (fI H kq j).toInt) (hv_vv : ∀ j : Nat, j ≤ F.toNatClampNeg → vv j = (fI H vq j).toInt) : MX l K yX4_sum cX4_sum 3 (some .boolean) 2 46 0 0 [.ref a0] H (AE G [78, 69, 77] H.size) (fun v H1 => ∃ (r : Int32) (t0 : Int32) (t1 : Int32) (t2 : Int32), v = some (.int r) ∧ (0 ≤ r.toInt ∧ r.toInt ≤ 1) ∧ t0 = fI H1 a0 (K.1.2 4 7) ∧ t1 = fI H1 a0 (K.1.2 4 1) ∧ t2 = fI H1 mq (K.1.2 7 9) ∧ (t0.toInt ≤ F.toInt ∧ ((r.toInt = 1 ∧ t1.toInt = fa.toInt ∧ tat.toInt < t0.toInt ∧ sc.toInt ≤ t2.toInt ∧ t2.toInt + tat.toInt ≤ sc.toInt + t0.toInt) ∨ (r.toInt = 0 ∧ t1.toInt ≠ 0))) ∧ mq = fR H1 a0 (K.1.2 4 0) ∧ kq = fR H1 a0 (K.1.2 4 3) ∧ vq = fR H1 a0 (K.1.2 4 4) ∧ sq = fR H1 mq (K.1.2 7 8) ∧ lw = fI H1 a0 (K.1.2 4 8) ∧ li = fI H1 mq (K.1.2 7 0) ∧ (RQ (lpI (tmI kk vv lw.toInt 0) (cPM kk) tat.toNatClampNeg) r t0) ∧ (r.toInt = 0 ∨ CSP lw.toInt (fun j => fI H1 sq j) (fun j => fI H sq j) sc.toNatClampNeg t2.toNatClampNeg 3 [smG kk vv lw.toInt tat.toNatClampNeg]) ∧ (RFT K H1 H mq) ∧ TY K G H1) := by
  refine MX.of (by decide +kernel) (Nat.le_of_ble_eq_true rfl) ?_
  intro p e s m below meth c ls Q C hH hl hQ
  subst hH
  have C : CX p K s m _ meth c RX4 cX4_sum 3 (some .boolean) "sum" := C
  obtain ⟨hx, hb, hml, hown, hts, hKT, hr, hlocks, hnm⟩ := id C
  have hl : lv_has ls 3 [(0, .ref a0)] := hl
  have hS : va_S (AE G [78, 69, 77] s.heap.size) s.heap s.heap [] := va_S.rf
  have n_0 : (0 : Int32).toInt = 0 := rfl
  have n_1 : (1 : Int32).toInt = 1 := rfl
  have n_26 : (26 : Int32).toInt = 26 := rfl
  have n_43 : (43 : Int32).toInt = 43 := rfl
  have n_45 : (45 : Int32).toInt = 45 := rfl
  have n_500 : (500 : Int32).toInt = 500 := rfl
  have btat := ty_fi (x := tat) (k := 7) etat hT ga0 rg_78 rfl
  have bfa := ty_fi (x := fa) (k := 1) efa hT ga0 rg_78 rfl
  have bsc := ty_fi (x := sc) (k := 9) esc hT gmq rg_69 rfl
  have blw := ty_fi (x := lw) (k := 8) elw hT ga0 rg_78 rfl
  have bli := ty_fi (x := li) (k := 0) eli hT gmq rg_69 rfl
  have hsp0 : lpI (tmI kk vv lw.toInt 0) (cPM kk) tat.toNatClampNeg = lpI (tmI kk vv lw.toInt 0) (cPM kk) tat.toNatClampNeg := rfl
  have hsf0 : smG kk vv lw.toInt tat.toNatClampNeg = smG kk vv lw.toInt tat.toNatClampNeg := rfl
  have f0_kk := hv_kk
  have f0_vv := hv_vv
  have f0_rt : RFT K s.heap s.heap mq := RFT.rf
  have f0_cs : CSP lw.toInt (fun j => fI s.heap sq j) (fun j => fI s.heap sq j) sc.toNatClampNeg (sc.toNatClampNeg) 3 ([]) := CSP.nil
  have J4 : ∀ (nf : Nat) (a_ : EF) (dl : List EF) (ls4755 : Array Slot) (H4754 : Heap) (locsH4754 : List Loc) (x4757 : Int32) (x4758 : Int32) (x4759 : Int32) (x4760 : Int32) (x4761 : Int32), lv_has ls4755 3 [(0, .ref a0), (1, .int x4757), (2, .int x4758)] → TY K G H4754 → va_S (AE G [78, 69, 77] s.heap.size) s.heap H4754 locsH4754 → (0 ≤ x4757.toInt ∧ x4757.toInt ≤ 45) → (0 ≤ x4758.toInt ∧ x4758.toInt ≤ 500) → (0 ≤ x4759.toInt ∧ x4759.toInt ≤ 500) → (0 ≤ x4761.toInt ∧ x4761.toInt ≤ 500) → (x4759 = fI H4754 a0 (K.1.2 4 7)) → (x4760 = fI H4754 a0 (K.1.2 4 1)) → (x4761 = fI H4754 mq (K.1.2 7 9)) → (mq = fR H4754 a0 (K.1.2 4 0)) → (kq = fR H4754 a0 (K.1.2 4 3)) → (vq = fR H4754 a0 (K.1.2 4 4)) → (sq = fR H4754 mq (K.1.2 7 8)) → (lw = fI H4754 a0 (K.1.2 4 8)) → (li = fI H4754 mq (K.1.2 7 0)) → (fI H4754 kq (F : Int32).toNatClampNeg = 26) → (∀ j : Nat, j ≤ F.toNatClampNeg → kk j = (fI H4754 kq j).toInt) → (∀ j : Nat, j ≤ F.toNatClampNeg → vv j = (fI H4754 vq j).toInt) → (RFT K H4754 s.heap mq) → (CSP lw.toInt (fun j => fI H4754 sq j) (fun j => fI s.heap sq j) sc.toNatClampNeg (x4761.toNatClampNeg) 3 (dl)) → (500 - x4758.toInt < (nf : Int)) → (2 * x4758.toInt ≤ x4759.toInt ∧ tat.toInt ≤ x4759.toInt ∧ ((x4757.toInt = 0 ∧ x4761.toInt + tat.toInt ≤ sc.toInt + x4759.toInt) ∨ (x4757.toInt ≠ 0 ∧ x4761.toInt + tat.toInt + 1 ≤ sc.toInt + x4759.toInt)) ∧ x4759.toInt ≤ F.toInt ∧ x4760.toInt = fa.toInt ∧ sc.toInt ≤ x4761.toInt) → (lpI (tmI kk vv lw.toInt 0) (cPM kk) tat.toNatClampNeg = lpI (tmI kk vv lw.toInt 0) (cPM kk) x4759.toNatClampNeg) → (smG kk vv lw.toInt tat.toNatClampNeg = lpG (tmI kk vv lw.toInt 0) (cPM kk) kk (tmG kk vv 0 zF) x4757.toInt a_ x4759.toNatClampNeg) → ((x4757.toInt = 0 ∧ dl = []) ∨ ((x4757.toInt = 43 ∨ x4757.toInt = 45) ∧ dl = [a_])) → W p l e ({ frames := 2, cells := 0, slots := 0, locals := 46 } : Room) s m (([.ref a0] : List Value).toArray) below meth c H4754 locsH4754 0 0 Q (F0 m 4 ls4755 []) := by
    intro nf
    induction nf with
    | zero =>
      intro a_ dl ls4755 H4754 locsH4754 x4757 x4758 x4759 x4760 x4761 hl4756 hTH4754 hSH4754 bx4757 bx4758 bx4759 bx4761 ex4759 ex4760 ex4761 cy4762_0 cy4762_1 cy4762_2 cy4762_3 cy4762_4 cy4762_5 cy4762_6 fy4762_kk fy4762_vv fy4762_rt fy4762_cs hm4 iv4 hsp4 hsf4 hdl4
      have rx4760 := i_rng x4760
      exfalso
      omega
    | succ nf ih4 =>
      intro a_ dl ls4755 H4754 locsH4754 x4757 x4758 x4759 x4760 x4761 hl4756 hTH4754 hSH4754 bx4757 bx4758 bx4759 bx4761 ex4759 ex4760 ex4761 cy4762_0 cy4762_1 cy4762_2 cy4762_3 cy4762_4 cy4762_5 cy4762_6 fy4762_kk fy4762_vv fy4762_rt fy4762_cs hm4 iv4 hsp4 hsf4 hdl4
      have rx4760 := i_rng x4760
      refine lv_iload_n hx hb dX4_sum_4 rfl (lv_at hl4756 2 rfl) ?_
      refine lv_sipush (v := 500) hx hb dX4_sum_5 (by decide) ?_
      refine lv_icmp_ge (tgt := 73) hx hb dX4_sum_8 (by decide) (fun c4763 => ?_) (fun c4763 => ?_)
      · have k4764 := i_le c4763
        refine lv_iconst (v := 1) hx hb dX4_sum_73 (by decide) ?_
        exact x_zret C hQ (Or.inr rfl) dX4_sum_74 hSH4754 (by decide) (by decide) (⟨1, x4759, x4760, x4761, rfl, by decide, ex4759, ex4760, ex4761, by omega, cy4762_0, cy4762_1, cy4762_2, cy4762_3, cy4762_4, cy4762_5, (by exfalso; omega), (by exfalso; omega), fy4762_rt, hTH4754⟩)
      · have k4764 := i_nle c4763
        refine lv_aload_n hx hb dX4_sum_11 rfl (lv_at hl4756 0 rfl) ?_
        refine x_V (As := []) (rest := []) C (a_X4_term_g l K G H4754 (F) (x4759) (x4760) (x4761) (lw) (li) kk vv hTH4754 ga0 gmq cy4762_0 gkq cy4762_1 gvq cy4762_2 gsq cy4762_3 ex4759 ex4760 ex4761 cy4762_4 cy4762_5 cy4762_6 (by omega) (by omega) (by omega) (hy0) fy4762_kk fy4762_vv) yo_X4_term wM_X4_141 ⟨⟨by decide, by decide⟩, by decide, by decide⟩ (x_rv C hTH4754 (ci := 4) rfl ga0 rg_78) rfl hl4756.1 rfl (Nat.le_of_ble_eq_true rfl) dX4_sum_12 hSH4754 (AE_sub (fun _ _ => rfl) (by decide) hSH4754.1) (fun vH4765 H4765 locsH4765 pH4765 zH4765 kH4765 hSH4765 => ?_)
        obtain ⟨x4766, x4767, x4768, x4769, hvH4765, bx4766, ex4767, ex4768, ex4769, hrH4765, m4770, m4771, m4772, m4773, m4774, m4775, m4776, m4777, m4778, hTH4765⟩ := pH4765
        subst hvH4765
        have f4779 : ∀ j : Nat, j ≤ F.toNatClampNeg → kk j = (fI H4765 kq j).toInt := fun j hj => (fy4762_kk j hj).trans (congrArg Int32.toInt (fI_kept (x_lt hTH4754 kH4765 gkq (by decide))).symm)
        have f4780 : ∀ j : Nat, j ≤ F.toNatClampNeg → vv j = (fI H4765 vq j).toInt := fun j hj => (fy4762_vv j hj).trans (congrArg Int32.toInt (fI_kept (x_lt hTH4754 kH4765 gvq (by decide))).symm)
        have m4781 := (fI_kept (x_lt hTH4754 kH4765 gkq (by decide))).trans cy4762_6
        have bx4767 := ty_fi (x := x4767) (k := 7) ex4767 hTH4765 ga0 rg_78 rfl
        have bx4768 := ty_fi (x := x4768) (k := 1) ex4768 hTH4765 ga0 rg_78 rfl
        have bx4769 := ty_fi (x := x4769) (k := 9) ex4769 hTH4765 gmq rg_69 rfl
        have f4782 : RFT K H4765 s.heap mq := RFT.st fy4762_rt m4778
        refine W.eq (g2 := F0 m 15 ls4755 [.int x4766]) rfl ?_
        refine lv_if_ne (tgt := 20) hx hb dX4_sum_15 (by decide) (fun c4783 => ?_) (fun c4783 => ?_)
        · have k4784 := i_ne c4783
          have cn_x4761 := i_cl (x := x4761) (by omega)
          have cn_x4761 := i_cl (x := x4761) (by omega)
          have cn_x4769 := i_cl (x := x4769) (by omega)
          have cs4785 : CSP lw.toInt (fun j => fI H4765 sq j) (fun j => fI s.heap sq j) sc.toNatClampNeg (x4769.toNatClampNeg) 3 ((tmG kk vv 0 zF x4759.toNatClampNeg) :: dl) := CSP.call fy4762_cs (m4777.resolve_left (by omega)) (by omega) (Nat.le_refl _) (by rcases hdl4 with z | z <;> rw [z.2] <;> exact Nat.le_of_ble_eq_true rfl)
          refine lv_iload_n hx hb dX4_sum_20 rfl (lv_at hl4756 1 rfl) ?_
          refine lv_if_eq (tgt := 33) hx hb dX4_sum_21 (by decide) (fun c4786 => ?_) (fun c4786 => ?_)
          · have k4787 := i_eq c4786
            have cn_x4769 := i_cl (x := x4769) (by omega)
            have hd0 : dl = [] := (hdl4.resolve_right (fun z => by have := z.1; omega)).2
            have hz_ : [cbF x4757.toInt a_ (tmG kk vv 0 zF x4759.toNatClampNeg)] = (tmG kk vv 0 zF x4759.toNatClampNeg) :: dl := by rw [hd0, show x4757.toInt = 0 by omega]; rfl
            have cs4788 : CSP lw.toInt (fun j => fI H4765 sq j) (fun j => fI s.heap sq j) sc.toNatClampNeg (x4769.toNatClampNeg) 3 ([cbF x4757.toInt a_ (tmG kk vv 0 zF x4759.toNatClampNeg)]) := CSP.cast cs4785 rfl rfl (Nat.le_refl _) hz_
            refine lv_aload_n hx hb dX4_sum_33 rfl (lv_at hl4756 0 rfl) ?_
            refine x_gr C hTH4765 (ci := 4) (k := 3) rfl inX4 (by decide) wF_X4_18 ga0 rg_78 rfl dX4_sum_34 (fun q4789 eq4789 gq4789 => ?_)
            have uq4789 : kq = q4789 := (m4771).trans eq4789.symm
            subst uq4789
            refine lv_aload_n hx hb dX4_sum_37 rfl (lv_at hl4756 0 rfl) ?_
            refine x_gi C hTH4765 (ci := 4) (k := 7) rfl inX4 (by decide) wF_X4_42 ga0 rg_78 rfl dX4_sum_38 (fun x4790 ex4790 bx4790 => ?_)
            have ux4790 : x4767 = x4790 := (ex4767).trans ex4790.symm
            subst ux4790
            refine x_ai C hTH4765 gkq rg_79 ⟨by omega, by show _ < ((501 : Nat) : Int); omega⟩ dX4_sum_41 (fun x4791 ex4791 bx4791 => ?_)
            have dx4791 := el_hit ex4791 m4781
            have qvx4791 : kk x4767.toNatClampNeg = x4791.toInt := (f4779 _ (by have h1 := i_cl (x := x4767) (by omega); have h2 := i_cl (x := F) (by omega); omega)).trans (congrArg Int32.toInt ex4791.symm)
            refine lv_istore_n (lv' := [(1, .int x4791), (0, .ref a0), (2, .int x4758)]) hx hb dX4_sum_42 rfl hl4756 (by decide) rfl (fun ls4792 hl4793 => ?_)
            refine lv_iload_n hx hb dX4_sum_43 rfl (lv_at hl4793 0 rfl) ?_
            refine lv_bipush (v := 43) hx hb dX4_sum_44 (by decide) ?_
            refine lv_icmp_eq (tgt := 57) hx hb dX4_sum_46 (by decide) (fun c4794 => ?_) (fun c4794 => ?_)
            · have k4795 := i_eq c4794
              refine lv_aload_n hx hb dX4_sum_57 rfl (lv_at hl4793 1 rfl) ?_
              refine lv_dup hx hb dX4_sum_58 rfl ?_
              refine x_gi C hTH4765 (ci := 4) (k := 7) rfl inX4 (by decide) wF_X4_42 ga0 rg_78 rfl dX4_sum_59 (fun x4796 ex4796 bx4796 => ?_)
              have ux4796 : x4767 = x4796 := (ex4767).trans ex4796.symm
              subst ux4796
              refine lv_iconst (v := 1) hx hb dX4_sum_62 (by decide) ?_
              refine lv_iadd hx hb dX4_sum_63 ?_
              refine lv_topi (fun x4797 ex4797 => ?_)
              have tx4797 := i_add ex4797 (by omega)
              have fz4799 : 0 ≤ x4797.toInt ∧ x4797.toInt ≤ 500 := by have := i_rng x4797; omega
              refine x_put C hTH4765 hSH4765 (ci := 4) (k := 7) (v := .int x4797) (ty0 := tyX4) rfl inX4 tyX4_ok nmX4 (by decide) rfl wF_X4_42 ga0 rg_78 rfl rfl (okI (by have := i_rng x4797; omega) (by have := i_rng x4797; omega)) rfl rfl (AE_in ga0 (by decide)) dX4_sum_64 (fun H4798 locsH4798 hTH4798 hSH4798 wH4798 => ?_)
              have f4800 : ∀ j : Nat, j ≤ F.toNatClampNeg → kk j = (fI H4798 kq j).toInt := fun j hj => (f4779 j hj).trans (congrArg Int32.toInt (Wr.neI wH4798 (Or.inl (G_ne gkq ga0 (by decide)))).symm)
              have f4801 : ∀ j : Nat, j ≤ F.toNatClampNeg → vv j = (fI H4798 vq j).toInt := fun j hj => (f4780 j hj).trans (congrArg Int32.toInt (Wr.neI wH4798 (Or.inl (G_ne gvq ga0 (by decide)))).symm)
              have f4802 : RFT K H4798 s.heap mq := RFT.st f4782 (fun k h1 h8 => fR_kept (wH4798.off (G_ne gmq ga0 (by decide))))
              have f4803 : CSP lw.toInt (fun j => fI H4798 sq j) (fun j => fI s.heap sq j) sc.toNatClampNeg (x4769.toNatClampNeg) 3 ([cbF x4757.toInt a_ (tmG kk vv 0 zF x4759.toNatClampNeg)]) := CSP.kept cs4788 (fun j => fI_kept (wH4798.off (G_ne gsq ga0 (by decide))))
              have m4804 := (Wr.neI wH4798 (Or.inl (G_ne gkq ga0 (by decide)))).trans m4781
              have m4805 := m4770.trans (Wr.neR wH4798 (Or.inr (x_apart hKT hts inX4 tyX4 tyX4_ok nmX4 rfl 0 7 (by decide) (by decide) (by decide)))).symm
              have m4806 := m4771.trans (Wr.neR wH4798 (Or.inr (x_apart hKT hts inX4 tyX4 tyX4_ok nmX4 rfl 3 7 (by decide) (by decide) (by decide)))).symm
              have m4807 := m4772.trans (Wr.neR wH4798 (Or.inr (x_apart hKT hts inX4 tyX4 tyX4_ok nmX4 rfl 4 7 (by decide) (by decide) (by decide)))).symm
              have m4808 := m4773.trans (Wr.neR wH4798 (Or.inl (G_ne gmq ga0 (by decide)))).symm
              have m4809 := m4774.trans (Wr.neI wH4798 (Or.inr (x_apart hKT hts inX4 tyX4 tyX4_ok nmX4 rfl 8 7 (by decide) (by decide) (by decide)))).symm
              have m4810 := m4775.trans (Wr.neI wH4798 (Or.inl (G_ne gmq ga0 (by decide)))).symm
              have m4812 := ex4768.trans (Wr.neI wH4798 (Or.inr (x_apart hKT hts inX4 tyX4 tyX4_ok nmX4 rfl 1 7 (by decide) (by decide) (by decide)))).symm
              have m4813 := ex4769.trans (Wr.neI wH4798 (Or.inl (G_ne gmq ga0 (by decide)))).symm
              have m4814 := ex4791.trans (Wr.neI wH4798 (Or.inl (G_ne gkq ga0 (by decide)))).symm
              have m4815 := Wr.I wH4798
              have m4815 := m4815.symm
              obtain ⟨x4816, ex4816⟩ : ∃ y : Int32, y = x4758 + 1 := ⟨_, rfl⟩
              have tx4816 := i_add ex4816 (by omega)
              refine lv_iinc (v := x4816) (lv' := [(2, .int x4816), (1, .int x4791), (0, .ref a0)]) hx hb dX4_sum_67 hl4793 (k := 2) rfl (by rw [ex4816]; rfl) (by decide) rfl (fun ls4817 hl4818 => ?_)
              refine lv_goto (tgt := 4) hx hb dX4_sum_70 (by decide) ?_
              have cn_x4769 := i_cl (x := x4769) (by omega)
              have cn_x4769 := i_cl (x := x4769) (by omega)
              have cn_x4797 := i_cl (x := x4797) (by omega)
              have cn_x4767 := i_cl (x := x4767) (by omega)
              have cn_F := i_cl (x := F) (by omega)
              exact ih4 (cbF x4757.toInt a_ (tmG kk vv 0 zF x4759.toNatClampNeg)) [cbF x4757.toInt a_ (tmG kk vv 0 zF x4759.toNatClampNeg)] ls4817 H4798 locsH4798 (x4791) (x4816) (x4797) (x4768) (x4769) (lv_sub hl4818 [2, 1, 0] rfl) hTH4798 hSH4798 (by have := i_rng x4791; omega) (by have := i_rng x4816; omega) (by have := i_rng x4797; omega) (by have := i_rng x4769; omega) m4815 m4812 m4813 m4805 m4806 m4807 m4808 m4809 m4810 m4804 f4800 f4801 f4802 (CSP.cast f4803 rfl (by omega) (Nat.le_refl _) rfl) (by omega) (by omega) (hsp4.trans (by exact lp_more tmI_gp (RQ.yes m4776 (by omega)) (show cPM kk _ = true from decide_eq_true (by omega)) (by omega))) (hsf4.trans (by exact lpG_go tmI_gp (RQ.yes m4776 (by omega)) (show cPM kk _ = true from decide_eq_true (by omega)) qvx4791 (by omega))) (Or.inr ⟨by omega, rfl⟩)
            · have k4795 := i_ne c4794
              refine lv_iload_n hx hb dX4_sum_49 rfl (lv_at hl4793 0 rfl) ?_
              refine lv_bipush (v := 45) hx hb dX4_sum_50 (by decide) ?_
              refine lv_icmp_eq (tgt := 57) hx hb dX4_sum_52 (by decide) (fun c4819 => ?_) (fun c4819 => ?_)
              · have k4820 := i_eq c4819
                refine lv_aload_n hx hb dX4_sum_57 rfl (lv_at hl4793 1 rfl) ?_
                refine lv_dup hx hb dX4_sum_58 rfl ?_
                refine x_gi C hTH4765 (ci := 4) (k := 7) rfl inX4 (by decide) wF_X4_42 ga0 rg_78 rfl dX4_sum_59 (fun x4821 ex4821 bx4821 => ?_)
                have ux4821 : x4767 = x4821 := (ex4767).trans ex4821.symm
                subst ux4821
                refine lv_iconst (v := 1) hx hb dX4_sum_62 (by decide) ?_
                refine lv_iadd hx hb dX4_sum_63 ?_
                refine lv_topi (fun x4822 ex4822 => ?_)
                have tx4822 := i_add ex4822 (by omega)
                have fz4824 : 0 ≤ x4822.toInt ∧ x4822.toInt ≤ 500 := by have := i_rng x4822; omega
                refine x_put C hTH4765 hSH4765 (ci := 4) (k := 7) (v := .int x4822) (ty0 := tyX4) rfl inX4 tyX4_ok nmX4 (by decide) rfl wF_X4_42 ga0 rg_78 rfl rfl (okI (by have := i_rng x4822; omega) (by have := i_rng x4822; omega)) rfl rfl (AE_in ga0 (by decide)) dX4_sum_64 (fun H4823 locsH4823 hTH4823 hSH4823 wH4823 => ?_)
                have f4825 : ∀ j : Nat, j ≤ F.toNatClampNeg → kk j = (fI H4823 kq j).toInt := fun j hj => (f4779 j hj).trans (congrArg Int32.toInt (Wr.neI wH4823 (Or.inl (G_ne gkq ga0 (by decide)))).symm)
                have f4826 : ∀ j : Nat, j ≤ F.toNatClampNeg → vv j = (fI H4823 vq j).toInt := fun j hj => (f4780 j hj).trans (congrArg Int32.toInt (Wr.neI wH4823 (Or.inl (G_ne gvq ga0 (by decide)))).symm)
                have f4827 : RFT K H4823 s.heap mq := RFT.st f4782 (fun k h1 h8 => fR_kept (wH4823.off (G_ne gmq ga0 (by decide))))
                have f4828 : CSP lw.toInt (fun j => fI H4823 sq j) (fun j => fI s.heap sq j) sc.toNatClampNeg (x4769.toNatClampNeg) 3 ([cbF x4757.toInt a_ (tmG kk vv 0 zF x4759.toNatClampNeg)]) := CSP.kept cs4788 (fun j => fI_kept (wH4823.off (G_ne gsq ga0 (by decide))))
                have m4829 := (Wr.neI wH4823 (Or.inl (G_ne gkq ga0 (by decide)))).trans m4781
                have m4830 := m4770.trans (Wr.neR wH4823 (Or.inr (x_apart hKT hts inX4 tyX4 tyX4_ok nmX4 rfl 0 7 (by decide) (by decide) (by decide)))).symm
                have m4831 := m4771.trans (Wr.neR wH4823 (Or.inr (x_apart hKT hts inX4 tyX4 tyX4_ok nmX4 rfl 3 7 (by decide) (by decide) (by decide)))).symm
                have m4832 := m4772.trans (Wr.neR wH4823 (Or.inr (x_apart hKT hts inX4 tyX4 tyX4_ok nmX4 rfl 4 7 (by decide) (by decide) (by decide)))).symm
                have m4833 := m4773.trans (Wr.neR wH4823 (Or.inl (G_ne gmq ga0 (by decide)))).symm
                have m4834 := m4774.trans (Wr.neI wH4823 (Or.inr (x_apart hKT hts inX4 tyX4 tyX4_ok nmX4 rfl 8 7 (by decide) (by decide) (by decide)))).symm
                have m4835 := m4775.trans (Wr.neI wH4823 (Or.inl (G_ne gmq ga0 (by decide)))).symm
                have m4837 := ex4768.trans (Wr.neI wH4823 (Or.inr (x_apart hKT hts inX4 tyX4 tyX4_ok nmX4 rfl 1 7 (by decide) (by decide) (by decide)))).symm
                have m4838 := ex4769.trans (Wr.neI wH4823 (Or.inl (G_ne gmq ga0 (by decide)))).symm
                have m4839 := ex4791.trans (Wr.neI wH4823 (Or.inl (G_ne gkq ga0 (by decide)))).symm
                have m4840 := Wr.I wH4823
                have m4840 := m4840.symm
                obtain ⟨x4841, ex4841⟩ : ∃ y : Int32, y = x4758 + 1 := ⟨_, rfl⟩
                have tx4841 := i_add ex4841 (by omega)
                refine lv_iinc (v := x4841) (lv' := [(2, .int x4841), (1, .int x4791), (0, .ref a0)]) hx hb dX4_sum_67 hl4793 (k := 2) rfl (by rw [ex4841]; rfl) (by decide) rfl (fun ls4842 hl4843 => ?_)
                refine lv_goto (tgt := 4) hx hb dX4_sum_70 (by decide) ?_
                have cn_x4769 := i_cl (x := x4769) (by omega)
                have cn_x4769 := i_cl (x := x4769) (by omega)
                have cn_x4822 := i_cl (x := x4822) (by omega)
                have cn_x4767 := i_cl (x := x4767) (by omega)
                have cn_F := i_cl (x := F) (by omega)
                exact ih4 (cbF x4757.toInt a_ (tmG kk vv 0 zF x4759.toNatClampNeg)) [cbF x4757.toInt a_ (tmG kk vv 0 zF x4759.toNatClampNeg)] ls4842 H4823 locsH4823 (x4791) (x4841) (x4822) (x4768) (x4769) (lv_sub hl4843 [2, 1, 0] rfl) hTH4823 hSH4823 (by have := i_rng x4791; omega) (by have := i_rng x4841; omega) (by have := i_rng x4822; omega) (by have := i_rng x4769; omega) m4840 m4837 m4838 m4830 m4831 m4832 m4833 m4834 m4835 m4829 f4825 f4826 f4827 (CSP.cast f4828 rfl (by omega) (Nat.le_refl _) rfl) (by omega) (by omega) (hsp4.trans (by exact lp_more tmI_gp (RQ.yes m4776 (by omega)) (show cPM kk _ = true from decide_eq_true (by omega)) (by omega))) (hsf4.trans (by exact lpG_go tmI_gp (RQ.yes m4776 (by omega)) (show cPM kk _ = true from decide_eq_true (by omega)) qvx4791 (by omega))) (Or.inr ⟨by omega, rfl⟩)
              · have k4820 := i_ne c4819
                refine lv_iconst (v := 1) hx hb dX4_sum_55 (by decide) ?_
                have cn_x4759 := i_cl (x := x4759) (by omega)
                have cn_F := i_cl (x := F) (by omega)
                have cn_x4769 := i_cl (x := x4769) (by omega)
                have cn_x4769 := i_cl (x := x4769) (by omega)
                exact x_zret C hQ (Or.inr rfl) dX4_sum_56 hSH4765 (by decide) (by decide) (⟨1, x4767, x4768, x4769, rfl, by decide, ex4767, ex4768, ex4769, by omega, m4770, m4771, m4772, m4773, m4774, m4775, Or.inr ⟨hsp4.trans (lp_end tmI_gp (RQ.yes m4776 (by omega)) (show cPM kk _ = false from decide_eq_false (by omega))), by omega⟩, Or.inr (CSP.cast cs4788 rfl (by omega) (Nat.le_refl _) (congrArg (fun z => [z]) (hsf4.trans (lpG_end tmI_gp (RQ.yes m4776 (by omega)) (show cPM kk _ = false from decide_eq_false (by omega)))))), f4782, hTH4765⟩)
          · have k4787 := i_ne c4786
            refine lv_aload_n hx hb dX4_sum_24 rfl (lv_at hl4756 0 rfl) ?_
            refine x_gr C hTH4765 (ci := 4) (k := 0) rfl inX4 (by decide) wF_X4_12 ga0 rg_78 rfl dX4_sum_25 (fun q4844 eq4844 gq4844 => ?_)
            have uq4844 : mq = q4844 := (m4770).trans eq4844.symm
            subst uq4844
            refine lv_iload_n hx hb dX4_sum_28 rfl (lv_at hl4756 1 rfl) ?_
            refine lv_iconst (v := 0) hx hb dX4_sum_29 (by decide) ?_
            refine x_V (As := [.int x4757, .int 0]) (rest := []) C (a_X7_addStep_g l K G H4765 (x4757) (0) (x4769) (li) hTH4765 gmq (by omega) (by decide) gsq m4773 ex4769 m4775 (by omega)) yo_X7_addStep wM_X4_131 ⟨⟨by decide, by decide⟩, by decide, by decide⟩ (x_rv C hTH4765 (ci := 7) rfl gmq rg_69) rfl hl4756.1 rfl (Nat.le_of_ble_eq_true rfl) dX4_sum_30 hSH4765 (AE_sub (fun _ _ => rfl) (by decide) hSH4765.1) (fun vH4845 H4845 locsH4845 pH4845 zH4845 kH4845 hSH4845 => ?_)
            obtain ⟨x4846, hvH4845, ex4846, hrH4845, m4847, m4848, m4849, m4850, m4851, hTH4845⟩ := pH4845
            subst hvH4845
            have f4852 : ∀ j : Nat, j ≤ F.toNatClampNeg → kk j = (fI H4845 kq j).toInt := fun j hj => (f4779 j hj).trans (congrArg Int32.toInt (fI_kept (x_lt hTH4765 kH4845 gkq (by decide))).symm)
            have f4853 : ∀ j : Nat, j ≤ F.toNatClampNeg → vv j = (fI H4845 vq j).toInt := fun j hj => (f4780 j hj).trans (congrArg Int32.toInt (fI_kept (x_lt hTH4765 kH4845 gvq (by decide))).symm)
            have m4854 := (fI_kept (x_lt hTH4765 kH4845 gkq (by decide))).trans m4781
            have m4855 := (m4770).trans (fR_kept (x_lt hTH4765 kH4845 ga0 (by decide))).symm
            have m4856 := (m4771).trans (fR_kept (x_lt hTH4765 kH4845 ga0 (by decide))).symm
            have m4857 := (m4772).trans (fR_kept (x_lt hTH4765 kH4845 ga0 (by decide))).symm
            have m4858 := (m4774).trans (fI_kept (x_lt hTH4765 kH4845 ga0 (by decide))).symm
            have m4859 := (ex4767).trans (fI_kept (x_lt hTH4765 kH4845 ga0 (by decide))).symm
            have m4860 := (ex4768).trans (fI_kept (x_lt hTH4765 kH4845 ga0 (by decide))).symm
            have bx4846 := ty_fi (x := x4846) (k := 9) ex4846 hTH4845 gmq rg_69 rfl
            have cn_x4769 := i_cl (x := x4769) (by omega)
            have cn_x4769 := i_cl (x := x4769) (by omega)
            have cn_x4846 := i_cl (x := x4846) (by omega)
            have hd1 : dl = [a_] := (hdl4.resolve_left (fun z => by have := z.1; omega)).2
            have g_ := cs4785
            rw [hd1] at g_
            have cs4861 : CSP lw.toInt (fun j => fI H4845 sq j) (fun j => fI s.heap sq j) sc.toNatClampNeg (x4846.toNatClampNeg) 3 ([cbF x4757.toInt a_ (tmG kk vv 0 zF x4759.toNatClampNeg)]) := CSP.bin (s := x4757.toInt) g_ m4849 (Eq.trans m4850 (by omega)) (by omega) (by omega) (by omega)
            have f4862 : RFT K H4845 s.heap mq := RFT.st f4782 m4851
            refine W.eq (g2 := F0 m 33 ls4755 []) rfl ?_
            have cn_x4846 := i_cl (x := x4846) (by omega)
            refine lv_aload_n hx hb dX4_sum_33 rfl (lv_at hl4756 0 rfl) ?_
            refine x_gr C hTH4845 (ci := 4) (k := 3) rfl inX4 (by decide) wF_X4_18 ga0 rg_78 rfl dX4_sum_34 (fun q4863 eq4863 gq4863 => ?_)
            have uq4863 : kq = q4863 := (m4856).trans eq4863.symm
            subst uq4863
            refine lv_aload_n hx hb dX4_sum_37 rfl (lv_at hl4756 0 rfl) ?_
            refine x_gi C hTH4845 (ci := 4) (k := 7) rfl inX4 (by decide) wF_X4_42 ga0 rg_78 rfl dX4_sum_38 (fun x4864 ex4864 bx4864 => ?_)
            have ux4864 : x4767 = x4864 := (m4859).trans ex4864.symm
            subst ux4864
            refine x_ai C hTH4845 gkq rg_79 ⟨by omega, by show _ < ((501 : Nat) : Int); omega⟩ dX4_sum_41 (fun x4865 ex4865 bx4865 => ?_)
            have dx4865 := el_hit ex4865 m4854
            have qvx4865 : kk x4767.toNatClampNeg = x4865.toInt := (f4852 _ (by have h1 := i_cl (x := x4767) (by omega); have h2 := i_cl (x := F) (by omega); omega)).trans (congrArg Int32.toInt ex4865.symm)
            refine lv_istore_n (lv' := [(1, .int x4865), (0, .ref a0), (2, .int x4758)]) hx hb dX4_sum_42 rfl hl4756 (by decide) rfl (fun ls4866 hl4867 => ?_)
            refine lv_iload_n hx hb dX4_sum_43 rfl (lv_at hl4867 0 rfl) ?_
            refine lv_bipush (v := 43) hx hb dX4_sum_44 (by decide) ?_
            refine lv_icmp_eq (tgt := 57) hx hb dX4_sum_46 (by decide) (fun c4868 => ?_) (fun c4868 => ?_)
            · have k4869 := i_eq c4868
              refine lv_aload_n hx hb dX4_sum_57 rfl (lv_at hl4867 1 rfl) ?_
              refine lv_dup hx hb dX4_sum_58 rfl ?_
              refine x_gi C hTH4845 (ci := 4) (k := 7) rfl inX4 (by decide) wF_X4_42 ga0 rg_78 rfl dX4_sum_59 (fun x4870 ex4870 bx4870 => ?_)
              have ux4870 : x4767 = x4870 := (m4859).trans ex4870.symm
              subst ux4870
              refine lv_iconst (v := 1) hx hb dX4_sum_62 (by decide) ?_
              refine lv_iadd hx hb dX4_sum_63 ?_
              refine lv_topi (fun x4871 ex4871 => ?_)
              have tx4871 := i_add ex4871 (by omega)
              have fz4873 : 0 ≤ x4871.toInt ∧ x4871.toInt ≤ 500 := by have := i_rng x4871; omega
              refine x_put C hTH4845 hSH4845 (ci := 4) (k := 7) (v := .int x4871) (ty0 := tyX4) rfl inX4 tyX4_ok nmX4 (by decide) rfl wF_X4_42 ga0 rg_78 rfl rfl (okI (by have := i_rng x4871; omega) (by have := i_rng x4871; omega)) rfl rfl (AE_in ga0 (by decide)) dX4_sum_64 (fun H4872 locsH4872 hTH4872 hSH4872 wH4872 => ?_)
              have f4874 : ∀ j : Nat, j ≤ F.toNatClampNeg → kk j = (fI H4872 kq j).toInt := fun j hj => (f4852 j hj).trans (congrArg Int32.toInt (Wr.neI wH4872 (Or.inl (G_ne gkq ga0 (by decide)))).symm)
              have f4875 : ∀ j : Nat, j ≤ F.toNatClampNeg → vv j = (fI H4872 vq j).toInt := fun j hj => (f4853 j hj).trans (congrArg Int32.toInt (Wr.neI wH4872 (Or.inl (G_ne gvq ga0 (by decide)))).symm)
              have f4876 : CSP lw.toInt (fun j => fI H4872 sq j) (fun j => fI s.heap sq j) sc.toNatClampNeg (x4846.toNatClampNeg) 3 ([cbF x4757.toInt a_ (tmG kk vv 0 zF x4759.toNatClampNeg)]) := CSP.kept cs4861 (fun j => fI_kept (wH4872.off (G_ne gsq ga0 (by decide))))
              have f4877 : RFT K H4872 s.heap mq := RFT.st f4862 (fun k h1 h8 => fR_kept (wH4872.off (G_ne gmq ga0 (by decide))))
              have m4878 := (Wr.neI wH4872 (Or.inl (G_ne gkq ga0 (by decide)))).trans m4854
              have m4879 := m4855.trans (Wr.neR wH4872 (Or.inr (x_apart hKT hts inX4 tyX4 tyX4_ok nmX4 rfl 0 7 (by decide) (by decide) (by decide)))).symm
              have m4880 := m4856.trans (Wr.neR wH4872 (Or.inr (x_apart hKT hts inX4 tyX4 tyX4_ok nmX4 rfl 3 7 (by decide) (by decide) (by decide)))).symm
              have m4881 := m4857.trans (Wr.neR wH4872 (Or.inr (x_apart hKT hts inX4 tyX4 tyX4_ok nmX4 rfl 4 7 (by decide) (by decide) (by decide)))).symm
              have m4882 := m4858.trans (Wr.neI wH4872 (Or.inr (x_apart hKT hts inX4 tyX4 tyX4_ok nmX4 rfl 8 7 (by decide) (by decide) (by decide)))).symm
              have m4884 := m4860.trans (Wr.neI wH4872 (Or.inr (x_apart hKT hts inX4 tyX4 tyX4_ok nmX4 rfl 1 7 (by decide) (by decide) (by decide)))).symm
              have m4885 := m4847.trans (Wr.neR wH4872 (Or.inl (G_ne gmq ga0 (by decide)))).symm
              have m4886 := m4848.trans (Wr.neI wH4872 (Or.inl (G_ne gmq ga0 (by decide)))).symm
              have m4887 := ex4846.trans (Wr.neI wH4872 (Or.inl (G_ne gmq ga0 (by decide)))).symm
              have m4888 := ex4865.trans (Wr.neI wH4872 (Or.inl (G_ne gkq ga0 (by decide)))).symm
              have m4889 := Wr.I wH4872
              have m4889 := m4889.symm
              obtain ⟨x4890, ex4890⟩ : ∃ y : Int32, y = x4758 + 1 := ⟨_, rfl⟩
              have tx4890 := i_add ex4890 (by omega)
              refine lv_iinc (v := x4890) (lv' := [(2, .int x4890), (1, .int x4865), (0, .ref a0)]) hx hb dX4_sum_67 hl4867 (k := 2) rfl (by rw [ex4890]; rfl) (by decide) rfl (fun ls4891 hl4892 => ?_)
              refine lv_goto (tgt := 4) hx hb dX4_sum_70 (by decide) ?_
              have cn_x4846 := i_cl (x := x4846) (by omega)
              have cn_x4846 := i_cl (x := x4846) (by omega)
              have cn_x4871 := i_cl (x := x4871) (by omega)
              have cn_x4767 := i_cl (x := x4767) (by omega)
              have cn_F := i_cl (x := F) (by omega)
              exact ih4 (cbF x4757.toInt a_ (tmG kk vv 0 zF x4759.toNatClampNeg)) [cbF x4757.toInt a_ (tmG kk vv 0 zF x4759.toNatClampNeg)] ls4891 H4872 locsH4872 (x4865) (x4890) (x4871) (x4768) (x4846) (lv_sub hl4892 [2, 1, 0] rfl) hTH4872 hSH4872 (by have := i_rng x4865; omega) (by have := i_rng x4890; omega) (by have := i_rng x4871; omega) (by have := i_rng x4846; omega) m4889 m4884 m4887 m4879 m4880 m4881 m4885 m4882 m4886 m4878 f4874 f4875 f4877 (CSP.cast f4876 rfl (by omega) (Nat.le_refl _) rfl) (by omega) (by omega) (hsp4.trans (by exact lp_more tmI_gp (RQ.yes m4776 (by omega)) (show cPM kk _ = true from decide_eq_true (by omega)) (by omega))) (hsf4.trans (by exact lpG_go tmI_gp (RQ.yes m4776 (by omega)) (show cPM kk _ = true from decide_eq_true (by omega)) qvx4865 (by omega))) (Or.inr ⟨by omega, rfl⟩)
            · have k4869 := i_ne c4868
              refine lv_iload_n hx hb dX4_sum_49 rfl (lv_at hl4867 0 rfl) ?_
              refine lv_bipush (v := 45) hx hb dX4_sum_50 (by decide) ?_
              refine lv_icmp_eq (tgt := 57) hx hb dX4_sum_52 (by decide) (fun c4893 => ?_) (fun c4893 => ?_)
              · have k4894 := i_eq c4893
                refine lv_aload_n hx hb dX4_sum_57 rfl (lv_at hl4867 1 rfl) ?_
                refine lv_dup hx hb dX4_sum_58 rfl ?_
                refine x_gi C hTH4845 (ci := 4) (k := 7) rfl inX4 (by decide) wF_X4_42 ga0 rg_78 rfl dX4_sum_59 (fun x4895 ex4895 bx4895 => ?_)
                have ux4895 : x4767 = x4895 := (m4859).trans ex4895.symm
                subst ux4895
                refine lv_iconst (v := 1) hx hb dX4_sum_62 (by decide) ?_
                refine lv_iadd hx hb dX4_sum_63 ?_
                refine lv_topi (fun x4896 ex4896 => ?_)
                have tx4896 := i_add ex4896 (by omega)
                have fz4898 : 0 ≤ x4896.toInt ∧ x4896.toInt ≤ 500 := by have := i_rng x4896; omega
                refine x_put C hTH4845 hSH4845 (ci := 4) (k := 7) (v := .int x4896) (ty0 := tyX4) rfl inX4 tyX4_ok nmX4 (by decide) rfl wF_X4_42 ga0 rg_78 rfl rfl (okI (by have := i_rng x4896; omega) (by have := i_rng x4896; omega)) rfl rfl (AE_in ga0 (by decide)) dX4_sum_64 (fun H4897 locsH4897 hTH4897 hSH4897 wH4897 => ?_)
                have f4899 : ∀ j : Nat, j ≤ F.toNatClampNeg → kk j = (fI H4897 kq j).toInt := fun j hj => (f4852 j hj).trans (congrArg Int32.toInt (Wr.neI wH4897 (Or.inl (G_ne gkq ga0 (by decide)))).symm)
                have f4900 : ∀ j : Nat, j ≤ F.toNatClampNeg → vv j = (fI H4897 vq j).toInt := fun j hj => (f4853 j hj).trans (congrArg Int32.toInt (Wr.neI wH4897 (Or.inl (G_ne gvq ga0 (by decide)))).symm)
                have f4901 : CSP lw.toInt (fun j => fI H4897 sq j) (fun j => fI s.heap sq j) sc.toNatClampNeg (x4846.toNatClampNeg) 3 ([cbF x4757.toInt a_ (tmG kk vv 0 zF x4759.toNatClampNeg)]) := CSP.kept cs4861 (fun j => fI_kept (wH4897.off (G_ne gsq ga0 (by decide))))
                have f4902 : RFT K H4897 s.heap mq := RFT.st f4862 (fun k h1 h8 => fR_kept (wH4897.off (G_ne gmq ga0 (by decide))))
                have m4903 := (Wr.neI wH4897 (Or.inl (G_ne gkq ga0 (by decide)))).trans m4854
                have m4904 := m4855.trans (Wr.neR wH4897 (Or.inr (x_apart hKT hts inX4 tyX4 tyX4_ok nmX4 rfl 0 7 (by decide) (by decide) (by decide)))).symm
                have m4905 := m4856.trans (Wr.neR wH4897 (Or.inr (x_apart hKT hts inX4 tyX4 tyX4_ok nmX4 rfl 3 7 (by decide) (by decide) (by decide)))).symm
                have m4906 := m4857.trans (Wr.neR wH4897 (Or.inr (x_apart hKT hts inX4 tyX4 tyX4_ok nmX4 rfl 4 7 (by decide) (by decide) (by decide)))).symm
                have m4907 := m4858.trans (Wr.neI wH4897 (Or.inr (x_apart hKT hts inX4 tyX4 tyX4_ok nmX4 rfl 8 7 (by decide) (by decide) (by decide)))).symm
                have m4909 := m4860.trans (Wr.neI wH4897 (Or.inr (x_apart hKT hts inX4 tyX4 tyX4_ok nmX4 rfl 1 7 (by decide) (by decide) (by decide)))).symm
                have m4910 := m4847.trans (Wr.neR wH4897 (Or.inl (G_ne gmq ga0 (by decide)))).symm
                have m4911 := m4848.trans (Wr.neI wH4897 (Or.inl (G_ne gmq ga0 (by decide)))).symm
                have m4912 := ex4846.trans (Wr.neI wH4897 (Or.inl (G_ne gmq ga0 (by decide)))).symm
                have m4913 := ex4865.trans (Wr.neI wH4897 (Or.inl (G_ne gkq ga0 (by decide)))).symm
                have m4914 := Wr.I wH4897
                have m4914 := m4914.symm
                obtain ⟨x4915, ex4915⟩ : ∃ y : Int32, y = x4758 + 1 := ⟨_, rfl⟩
                have tx4915 := i_add ex4915 (by omega)
                refine lv_iinc (v := x4915) (lv' := [(2, .int x4915), (1, .int x4865), (0, .ref a0)]) hx hb dX4_sum_67 hl4867 (k := 2) rfl (by rw [ex4915]; rfl) (by decide) rfl (fun ls4916 hl4917 => ?_)
                refine lv_goto (tgt := 4) hx hb dX4_sum_70 (by decide) ?_
                have cn_x4846 := i_cl (x := x4846) (by omega)
                have cn_x4846 := i_cl (x := x4846) (by omega)
                have cn_x4896 := i_cl (x := x4896) (by omega)
                have cn_x4767 := i_cl (x := x4767) (by omega)
                have cn_F := i_cl (x := F) (by omega)
                exact ih4 (cbF x4757.toInt a_ (tmG kk vv 0 zF x4759.toNatClampNeg)) [cbF x4757.toInt a_ (tmG kk vv 0 zF x4759.toNatClampNeg)] ls4916 H4897 locsH4897 (x4865) (x4915) (x4896) (x4768) (x4846) (lv_sub hl4917 [2, 1, 0] rfl) hTH4897 hSH4897 (by have := i_rng x4865; omega) (by have := i_rng x4915; omega) (by have := i_rng x4896; omega) (by have := i_rng x4846; omega) m4914 m4909 m4912 m4904 m4905 m4906 m4910 m4907 m4911 m4903 f4899 f4900 f4902 (CSP.cast f4901 rfl (by omega) (Nat.le_refl _) rfl) (by omega) (by omega) (hsp4.trans (by exact lp_more tmI_gp (RQ.yes m4776 (by omega)) (show cPM kk _ = true from decide_eq_true (by omega)) (by omega))) (hsf4.trans (by exact lpG_go tmI_gp (RQ.yes m4776 (by omega)) (show cPM kk _ = true from decide_eq_true (by omega)) qvx4865 (by omega))) (Or.inr ⟨by omega, rfl⟩)
              · have k4894 := i_ne c4893
                refine lv_iconst (v := 1) hx hb dX4_sum_55 (by decide) ?_
                have cn_x4759 := i_cl (x := x4759) (by omega)
                have cn_F := i_cl (x := F) (by omega)
                have cn_x4846 := i_cl (x := x4846) (by omega)
                have cn_x4846 := i_cl (x := x4846) (by omega)
                exact x_zret C hQ (Or.inr rfl) dX4_sum_56 hSH4845 (by decide) (by decide) (⟨1, x4767, x4768, x4846, rfl, by decide, m4859, m4860, ex4846, by omega, m4855, m4856, m4857, m4847, m4858, m4848, Or.inr ⟨hsp4.trans (lp_end tmI_gp (RQ.yes m4776 (by omega)) (show cPM kk _ = false from decide_eq_false (by omega))), by omega⟩, Or.inr (CSP.cast cs4861 rfl (by omega) (Nat.le_refl _) (congrArg (fun z => [z]) (hsf4.trans (lpG_end tmI_gp (RQ.yes m4776 (by omega)) (show cPM kk _ = false from decide_eq_false (by omega)))))), f4862, hTH4845⟩)
        · have k4784 := i_eq c4783
          refine lv_iconst (v := 0) hx hb dX4_sum_18 (by decide) ?_
          have cn_x4759 := i_cl (x := x4759) (by omega)
          have cn_F := i_cl (x := F) (by omega)
          exact x_zret C hQ (Or.inl rfl) dX4_sum_19 hSH4765 (by decide) (by decide) (⟨0, x4767, x4768, x4769, rfl, by decide, ex4767, ex4768, ex4769, by omega, m4770, m4771, m4772, m4773, m4774, m4775, Or.inl ⟨hsp4.trans (lp_none tmI_gp (RQ.no m4776 (by omega))), by omega⟩, (Or.inl (by omega)), f4782, hTH4765⟩)
  refine lv_iconst (v := 0) hx hb dX4_sum_0 (by decide) ?_
  refine lv_istore_n (lv' := [(1, .int 0), (0, .ref a0)]) hx hb dX4_sum_1 rfl hl (by decide) rfl (fun ls4918 hl4919 => ?_)
  refine lv_iconst (v := 0) hx hb dX4_sum_2 (by decide) ?_
  refine lv_istore_n (lv' := [(2, .int 0), (1, .int 0), (0, .ref a0)]) hx hb dX4_sum_3 rfl hl4919 (by decide) rfl (fun ls4920 hl4921 => ?_)
  have cn_sc := i_cl (x := sc) (by omega)
  have cn_sc := i_cl (x := sc) (by omega)
  exact J4 ((500 - (0 : Int32).toInt).toNat + 1) zF [] ls4920 s.heap [] (0) (0) (tat) (fa) (sc) (lv_sub hl4921 [2, 1, 0] rfl) hT hS (by decide) (by decide) (by have := i_rng tat; omega) (by have := i_rng sc; omega) etat efa esc emq ekq evq esq elw eli hel0 f0_kk f0_vv f0_rt (CSP.cast f0_cs rfl (by omega) (Nat.le_refl _) rfl) (by omega) (by omega) (hsp0.trans (by rfl)) (hsf0.trans (by rfl)) (Or.inl ⟨rfl, rfl⟩)
