set_option maxHeartbeats 4000000 in
set_option maxRecDepth 100000 in
theorem a_X4_line_g (l : Launch) (K : KE) (G : Nat → Option Nat) (H : Heap) {a0 : Nat} {mq : Nat} {kq : Nat} {vq : Nat} {sq : Nat} {wq : Nat} {fq : Nat} {jq : Nat} {eq_ : Nat} {aq : Nat} {cq : Nat} {dq : Nat} (F : Int32) (tat : Int32) (fa : Int32) (li : Int32) (sc : Int32) (lw : Int32) (kk : Nat → Int) (vv : Nat → Int) (hT : TY K G H) (ga0 : G a0 = some 78) (gmq : G mq = some 69) (emq : mq = fR H a0 (K.1.2 4 0)) (gkq : G kq = some 79) (ekq : kq = fR H a0 (K.1.2 4 3)) (gvq : G vq = some 80) (evq : vq = fR H a0 (K.1.2 4 4)) (gsq : G sq = some 77) (esq : sq = fR H mq (K.1.2 7 8)) (gwq : G wq = some 70) (ewq : wq = fR H mq (K.1.2 7 1)) (gfq : G fq = some 71) (efq : fq = fR H mq (K.1.2 7 2)) (gjq : G jq = some 72) (ejq : jq = fR H mq (K.1.2 7 3)) (geq_ : G eq_ = some 73) (eeq_ : eq_ = fR H mq (K.1.2 7 4)) (gaq : G aq = some 74) (eaq : aq = fR H mq (K.1.2 7 5)) (gcq : G cq = some 75) (ecq : cq = fR H mq (K.1.2 7 6)) (gdq : G dq = some 76) (edq : dq = fR H mq (K.1.2 7 7)) (etat : tat = fI H a0 (K.1.2 4 7)) (efa : fa = fI H a0 (K.1.2 4 1)) (eli : li = fI H mq (K.1.2 7 0)) (esc : sc = fI H mq (K.1.2 7 9)) (elw : lw = fI H a0 (K.1.2 4 8)) (hel0 : fI H kq (F : Int32).toNatClampNeg = 26) (hp0 : tat.toInt ≤ F.toInt) (hp1 : F.toInt ≤ 500) (hp2 : sc.toInt ≤ tat.toInt) (hy0 : ∀ j : Nat, 0 ≤ vv j ∧ vv j < 100000) (hv_kk : ∀ j : Nat, j ≤ F.toNatClampNeg → kk j = (fI H kq j).toInt) (hv_vv : ∀ j : Nat, j ≤ F.toNatClampNeg → vv j = (fI H vq j).toInt) : MX l K yX4_line cX4_line 3 (some .boolean) 38 847 0 0 [.ref a0] H (AE G [78, 69, 77, 70, 71, 72, 73, 74, 75, 76] H.size) (fun v H1 => ∃ (r : Int32) (t0 : Int32) (t1 : Int32) (t2 : Int32) (t3 : Int32), v = some (.int r) ∧ (0 ≤ r.toInt ∧ r.toInt ≤ 1) ∧ t0 = fI H1 a0 (K.1.2 4 7) ∧ t1 = fI H1 a0 (K.1.2 4 1) ∧ t2 = fI H1 mq (K.1.2 7 0) ∧ t3 = fI H1 mq (K.1.2 7 9) ∧ (t0.toInt ≤ F.toInt ∧ ((r.toInt = 1 ∧ t1.toInt = fa.toInt ∧ tat.toInt < t0.toInt ∧ t2.toInt = li.toInt + 1 ∧ sc.toInt ≤ t3.toInt ∧ t3.toInt + tat.toInt ≤ sc.toInt + t0.toInt) ∨ (r.toInt = 0 ∧ t1.toInt ≠ 0))) ∧ mq = fR H1 a0 (K.1.2 4 0) ∧ kq = fR H1 a0 (K.1.2 4 3) ∧ vq = fR H1 a0 (K.1.2 4 4) ∧ sq = fR H1 mq (K.1.2 7 8) ∧ wq = fR H1 mq (K.1.2 7 1) ∧ fq = fR H1 mq (K.1.2 7 2) ∧ jq = fR H1 mq (K.1.2 7 3) ∧ eq_ = fR H1 mq (K.1.2 7 4) ∧ aq = fR H1 mq (K.1.2 7 5) ∧ cq = fR H1 mq (K.1.2 7 6) ∧ dq = fR H1 mq (K.1.2 7 7) ∧ lw = fI H1 a0 (K.1.2 4 8) ∧ (RQ (if 16 ≤ li.toInt then none else lnI kk vv lw.toInt tat.toNatClampNeg) r t0) ∧ (r.toInt = 0 ∨ LNC kk vv lw.toInt tat.toNatClampNeg (fI H1 wq li.toNatClampNeg) (fI H1 fq li.toNatClampNeg) (fI H1 jq li.toNatClampNeg) (fI H1 eq_ li.toNatClampNeg) (fI H1 aq li.toNatClampNeg) (fI H1 cq li.toNatClampNeg) (fI H1 dq li.toNatClampNeg) (fun j => fI H1 sq j)) ∧ (r.toInt = 0 ∨ ∀ j : Nat, j < sc.toNatClampNeg → fI H1 sq j = fI H sq j) ∧ (r.toInt = 0 ∨ fI H1 dq li.toNatClampNeg = t3) ∧ (∀ j : Nat, j ≠ li.toNatClampNeg → fI H1 wq j = fI H wq j) ∧ (∀ j : Nat, j ≠ li.toNatClampNeg → fI H1 fq j = fI H fq j) ∧ (∀ j : Nat, j ≠ li.toNatClampNeg → fI H1 jq j = fI H jq j) ∧ (∀ j : Nat, j ≠ li.toNatClampNeg → fI H1 eq_ j = fI H eq_ j) ∧ (∀ j : Nat, j ≠ li.toNatClampNeg → fI H1 aq j = fI H aq j) ∧ (∀ j : Nat, j ≠ li.toNatClampNeg → fI H1 cq j = fI H cq j) ∧ (∀ j : Nat, j ≠ li.toNatClampNeg → fI H1 dq j = fI H dq j) ∧ TY K G H1) := by
  refine MX.of (by decide +kernel) (Nat.le_of_ble_eq_true rfl) ?_
  intro p e s m below meth c ls Q C hH hl hQ
  subst hH
  have C : CX p K s m _ meth c RX4 cX4_line 3 (some .boolean) "line" := C
  obtain ⟨hx, hb, hml, hown, hts, hKT, hr, hlocks, hnm⟩ := id C
  have hl : lv_has ls 3 [(0, .ref a0)] := hl
  have hS : va_S (AE G [78, 69, 77, 70, 71, 72, 73, 74, 75, 76] s.heap.size) s.heap s.heap [] := va_S.rf
  have n_0 : (0 : Int32).toInt = 0 := rfl
  have n_1 : (1 : Int32).toInt = 1 := rfl
  have n_3 : (3 : Int32).toInt = 3 := rfl
  have n_4 : (4 : Int32).toInt = 4 := rfl
  have n_6 : (6 : Int32).toInt = 6 := rfl
  have n_7 : (7 : Int32).toInt = 7 := rfl
  have n_16 : (16 : Int32).toInt = 16 := rfl
  have n_26 : (26 : Int32).toInt = 26 := rfl
  have n_59 : (59 : Int32).toInt = 59 := rfl
  have btat := ty_fi (x := tat) (k := 7) etat hT ga0 rg_78 rfl
  have bfa := ty_fi (x := fa) (k := 1) efa hT ga0 rg_78 rfl
  have bli := ty_fi (x := li) (k := 0) eli hT gmq rg_69 rfl
  have bsc := ty_fi (x := sc) (k := 9) esc hT gmq rg_69 rfl
  have blw := ty_fi (x := lw) (k := 8) elw hT ga0 rg_78 rfl
  have hsp0 : (if 16 ≤ li.toInt then none else lnI kk vv lw.toInt tat.toNatClampNeg) = (if 16 ≤ li.toInt then none else lnI kk vv lw.toInt tat.toNatClampNeg) := rfl
  have f0_kk := hv_kk
  have f0_vv := hv_vv
  have f0_s_wq : ∀ j : Nat, j ≠ li.toNatClampNeg → fI s.heap wq j = fI s.heap wq j := fun _ _ => rfl
  have f0_s_fq : ∀ j : Nat, j ≠ li.toNatClampNeg → fI s.heap fq j = fI s.heap fq j := fun _ _ => rfl
  have f0_s_jq : ∀ j : Nat, j ≠ li.toNatClampNeg → fI s.heap jq j = fI s.heap jq j := fun _ _ => rfl
  have f0_s_eq_ : ∀ j : Nat, j ≠ li.toNatClampNeg → fI s.heap eq_ j = fI s.heap eq_ j := fun _ _ => rfl
  have f0_s_aq : ∀ j : Nat, j ≠ li.toNatClampNeg → fI s.heap aq j = fI s.heap aq j := fun _ _ => rfl
  have f0_s_cq : ∀ j : Nat, j ≠ li.toNatClampNeg → fI s.heap cq j = fI s.heap cq j := fun _ _ => rfl
  have f0_s_dq : ∀ j : Nat, j ≠ li.toNatClampNeg → fI s.heap dq j = fI s.heap dq j := fun _ _ => rfl
  have f0_cs : CSP lw.toInt (fun j => fI s.heap sq j) (fun j => fI s.heap sq j) sc.toNatClampNeg (sc.toNatClampNeg) 3 ([]) ∧ (True) := ⟨CSP.nil, trivial⟩
  refine lv_aload_n hx hb dX4_line_0 rfl (lv_at hl 0 rfl) ?_
  refine x_gr C hT (ci := 4) (k := 3) rfl inX4 (by decide) wF_X4_18 ga0 rg_78 rfl dX4_line_1 (fun q5945 eq5945 gq5945 => ?_)
  have uq5945 : kq = q5945 := (ekq).trans eq5945.symm
  subst uq5945
  refine lv_aload_n hx hb dX4_line_4 rfl (lv_at hl 0 rfl) ?_
  refine x_gi C hT (ci := 4) (k := 7) rfl inX4 (by decide) wF_X4_42 ga0 rg_78 rfl dX4_line_5 (fun x5946 ex5946 bx5946 => ?_)
  have ux5946 : tat = x5946 := (etat).trans ex5946.symm
  subst ux5946
  refine x_ai C hT gkq rg_79 ⟨by omega, by show _ < ((501 : Nat) : Int); omega⟩ dX4_line_8 (fun x5947 ex5947 bx5947 => ?_)
  have dx5947 := el_hit ex5947 hel0
  have qvx5947 : kk tat.toNatClampNeg = x5947.toInt := (f0_kk _ (by have h1 := i_cl (x := tat) (by omega); have h2 := i_cl (x := F) (by omega); omega)).trans (congrArg Int32.toInt ex5947.symm)
  refine lv_istore_n (lv' := [(1, .int x5947), (0, .ref a0)]) hx hb dX4_line_9 rfl hl (by decide) rfl (fun ls5948 hl5949 => ?_)
  refine lv_aload_n hx hb dX4_line_10 rfl (lv_at hl5949 1 rfl) ?_
  refine x_gi C hT (ci := 4) (k := 8) rfl inX4 (by decide) wF_X4_28 ga0 rg_78 rfl dX4_line_11 (fun x5950 ex5950 bx5950 => ?_)
  have ux5950 : lw = x5950 := (elw).trans ex5950.symm
  subst ux5950
  refine lv_if_eq (tgt := 25) hx hb dX4_line_14 (by decide) (fun c5951 => ?_) (fun c5951 => ?_)
  · have k5952 := i_eq c5951
    refine lv_iload_n hx hb dX4_line_25 rfl (lv_at hl5949 0 rfl) ?_
    refine lv_iconst (v := 4) hx hb dX4_line_26 (by decide) ?_
    refine lv_icmp_lt (tgt := 36) hx hb dX4_line_27 (by decide) (fun c5953 => ?_) (fun c5953 => ?_)
    · have k5954 := i_lt c5953
      refine lv_aload_n hx hb dX4_line_36 rfl (lv_at hl5949 1 rfl) ?_
      refine lv_iconst (v := 1) hx hb dX4_line_37 (by decide) ?_
      refine x_V (As := [.int 1]) (rest := []) C (a_X4_refuse_e l K G s.heap (1) (tat) (fa) (lw) hT ga0 gmq emq gkq ekq gvq evq etat efa elw) yo_X4_refuse wM_X4_81 ⟨⟨by decide, by decide⟩, by decide, by decide⟩ (x_rv C hT (ci := 4) rfl ga0 rg_78) rfl hl5949.1 rfl (Nat.le_of_ble_eq_true rfl) dX4_line_38 hS (AE_sub (fun _ _ => rfl) (by decide) hS.1) (fun vH5955 H5955 locsH5955 pH5955 zH5955 kH5955 hSH5955 => ?_)
      obtain ⟨x5956, x5957, x5958, hvH5955, bx5956, ex5957, ex5958, hrH5955, m5959, m5960, m5961, m5962, hTH5955⟩ := pH5955
      subst hvH5955
      have f5963 : ∀ j : Nat, j ≤ F.toNatClampNeg → kk j = (fI H5955 kq j).toInt := fun j hj => (f0_kk j hj).trans (congrArg Int32.toInt (fI_kept (x_lt hT kH5955 gkq (by decide))).symm)
      have f5964 : ∀ j : Nat, j ≤ F.toNatClampNeg → vv j = (fI H5955 vq j).toInt := fun j hj => (f0_vv j hj).trans (congrArg Int32.toInt (fI_kept (x_lt hT kH5955 gvq (by decide))).symm)
      have f5965 : ∀ j : Nat, j ≠ li.toNatClampNeg → fI H5955 wq j = fI s.heap wq j := fun j hj => (fI_kept (x_lt hT kH5955 gwq (by decide))).trans (f0_s_wq j hj)
      have f5966 : ∀ j : Nat, j ≠ li.toNatClampNeg → fI H5955 fq j = fI s.heap fq j := fun j hj => (fI_kept (x_lt hT kH5955 gfq (by decide))).trans (f0_s_fq j hj)
      have f5967 : ∀ j : Nat, j ≠ li.toNatClampNeg → fI H5955 jq j = fI s.heap jq j := fun j hj => (fI_kept (x_lt hT kH5955 gjq (by decide))).trans (f0_s_jq j hj)
      have f5968 : ∀ j : Nat, j ≠ li.toNatClampNeg → fI H5955 eq_ j = fI s.heap eq_ j := fun j hj => (fI_kept (x_lt hT kH5955 geq_ (by decide))).trans (f0_s_eq_ j hj)
      have f5969 : ∀ j : Nat, j ≠ li.toNatClampNeg → fI H5955 aq j = fI s.heap aq j := fun j hj => (fI_kept (x_lt hT kH5955 gaq (by decide))).trans (f0_s_aq j hj)
      have f5970 : ∀ j : Nat, j ≠ li.toNatClampNeg → fI H5955 cq j = fI s.heap cq j := fun j hj => (fI_kept (x_lt hT kH5955 gcq (by decide))).trans (f0_s_cq j hj)
      have f5971 : ∀ j : Nat, j ≠ li.toNatClampNeg → fI H5955 dq j = fI s.heap dq j := fun j hj => (fI_kept (x_lt hT kH5955 gdq (by decide))).trans (f0_s_dq j hj)
      have f5972 : CSP lw.toInt (fun j => fI H5955 sq j) (fun j => fI s.heap sq j) sc.toNatClampNeg (sc.toNatClampNeg) 3 ([]) ∧ (True) := ⟨CSP.kept f0_cs.1 (fun j => fI_kept (x_lt hT kH5955 gsq (by decide))), trivial⟩
      have m5973 := (esq).trans (fR_kept (x_lt hT kH5955 gmq (by decide))).symm
      have m5974 := (ewq).trans (fR_kept (x_lt hT kH5955 gmq (by decide))).symm
      have m5975 := (efq).trans (fR_kept (x_lt hT kH5955 gmq (by decide))).symm
      have m5976 := (ejq).trans (fR_kept (x_lt hT kH5955 gmq (by decide))).symm
      have m5977 := (eeq_).trans (fR_kept (x_lt hT kH5955 gmq (by decide))).symm
      have m5978 := (eaq).trans (fR_kept (x_lt hT kH5955 gmq (by decide))).symm
      have m5979 := (ecq).trans (fR_kept (x_lt hT kH5955 gmq (by decide))).symm
      have m5980 := (edq).trans (fR_kept (x_lt hT kH5955 gmq (by decide))).symm
      have m5981 := (eli).trans (fI_kept (x_lt hT kH5955 gmq (by decide))).symm
      have m5982 := (esc).trans (fI_kept (x_lt hT kH5955 gmq (by decide))).symm
      have m5983 := (fI_kept (x_lt hT kH5955 gkq (by decide))).trans hel0
      have m5984 := (ex5947).trans (fI_kept (x_lt hT kH5955 gkq (by decide))).symm
      have bx5957 := ty_fi (x := x5957) (k := 7) ex5957 hTH5955 ga0 rg_78 rfl
      have bx5958 := ty_fi (x := x5958) (k := 1) ex5958 hTH5955 ga0 rg_78 rfl
      refine W.eq (g2 := F0 m 41 ls5948 [.int x5956]) rfl ?_
      have cn_F := i_cl (x := F) (by omega)
      have cn_tat := i_cl (x := tat) (by omega)
      have cn_x5957 := i_cl (x := x5957) (by omega)
      exact x_zret C hQ (i_01 (by omega)) dX4_line_41 hSH5955 (by decide) (by decide) (⟨x5956, x5957, x5958, li, sc, rfl, by omega, ex5957, ex5958, m5981, m5982, by omega, m5959, m5960, m5961, m5973, m5974, m5975, m5976, m5977, m5978, m5979, m5980, m5962, Or.inl ⟨l16_no (ln_no0 (by rw [qvx5947]; omega)), by omega⟩, (Or.inl (by omega)), (Or.inl (by omega)), (Or.inl (by omega)), f5965, f5966, f5967, f5968, f5969, f5970, f5971, hTH5955⟩)
    · have k5954 := i_nlt c5953
      refine lv_iload_n hx hb dX4_line_30 rfl (lv_at hl5949 0 rfl) ?_
      refine lv_bipush (v := 6) hx hb dX4_line_31 (by decide) ?_
      refine lv_icmp_le (tgt := 42) hx hb dX4_line_33 (by decide) (fun c5985 => ?_) (fun c5985 => ?_)
      · have k5986 := i_le c5985
        refine lv_aload_n hx hb dX4_line_42 rfl (lv_at hl5949 1 rfl) ?_
        refine x_gr C hT (ci := 4) (k := 0) rfl inX4 (by decide) wF_X4_12 ga0 rg_78 rfl dX4_line_43 (fun q5987 eq5987 gq5987 => ?_)
        have uq5987 : mq = q5987 := (emq).trans eq5987.symm
        subst uq5987
        refine x_gi C hT (ci := 7) (k := 0) rfl inX7 (by decide) wF_X4_84 gmq rg_69 rfl dX4_line_46 (fun x5988 ex5988 bx5988 => ?_)
        have ux5988 : li = x5988 := (eli).trans ex5988.symm
        subst ux5988
        refine lv_istore_n (lv' := [(2, .int li), (1, .int x5947), (0, .ref a0)]) hx hb dX4_line_49 rfl hl5949 (by decide) rfl (fun ls5989 hl5990 => ?_)
        refine lv_iload_n hx hb dX4_line_50 rfl (lv_at hl5990 0 rfl) ?_
        refine lv_bipush (v := 16) hx hb dX4_line_51 (by decide) ?_
        refine lv_icmp_lt (tgt := 62) hx hb dX4_line_53 (by decide) (fun c5991 => ?_) (fun c5991 => ?_)
        · have k5992 := i_lt c5991
          refine lv_aload_n hx hb dX4_line_62 rfl (lv_at hl5990 2 rfl) ?_
          refine lv_dup hx hb dX4_line_63 rfl ?_
          refine x_gi C hT (ci := 4) (k := 7) rfl inX4 (by decide) wF_X4_42 ga0 rg_78 rfl dX4_line_64 (fun x5993 ex5993 bx5993 => ?_)
          have ux5993 : tat = x5993 := (etat).trans ex5993.symm
          subst ux5993
          refine lv_iconst (v := 1) hx hb dX4_line_67 (by decide) ?_
          refine lv_iadd hx hb dX4_line_68 ?_
          refine lv_topi (fun x5994 ex5994 => ?_)
          have tx5994 := i_add ex5994 (by omega)
          have fz5996 : 0 ≤ x5994.toInt ∧ x5994.toInt ≤ 500 := by have := i_rng x5994; omega
          refine x_put C hT hS (ci := 4) (k := 7) (v := .int x5994) (ty0 := tyX4) rfl inX4 tyX4_ok nmX4 (by decide) rfl wF_X4_42 ga0 rg_78 rfl rfl (okI (by have := i_rng x5994; omega) (by have := i_rng x5994; omega)) rfl rfl (AE_in ga0 (by decide)) dX4_line_69 (fun H5995 locsH5995 hTH5995 hSH5995 wH5995 => ?_)
          have f5997 : ∀ j : Nat, j ≤ F.toNatClampNeg → kk j = (fI H5995 kq j).toInt := fun j hj => (f0_kk j hj).trans (congrArg Int32.toInt (Wr.neI wH5995 (Or.inl (G_ne gkq ga0 (by decide)))).symm)
          have f5998 : ∀ j : Nat, j ≤ F.toNatClampNeg → vv j = (fI H5995 vq j).toInt := fun j hj => (f0_vv j hj).trans (congrArg Int32.toInt (Wr.neI wH5995 (Or.inl (G_ne gvq ga0 (by decide)))).symm)
          have f5999 : ∀ j : Nat, j ≠ li.toNatClampNeg → fI H5995 wq j = fI s.heap wq j := fun j hj => (Wr.neI wH5995 (Or.inl (G_ne gwq ga0 (by decide)))).trans (f0_s_wq j hj)
          have f6000 : ∀ j : Nat, j ≠ li.toNatClampNeg → fI H5995 fq j = fI s.heap fq j := fun j hj => (Wr.neI wH5995 (Or.inl (G_ne gfq ga0 (by decide)))).trans (f0_s_fq j hj)
          have f6001 : ∀ j : Nat, j ≠ li.toNatClampNeg → fI H5995 jq j = fI s.heap jq j := fun j hj => (Wr.neI wH5995 (Or.inl (G_ne gjq ga0 (by decide)))).trans (f0_s_jq j hj)
          have f6002 : ∀ j : Nat, j ≠ li.toNatClampNeg → fI H5995 eq_ j = fI s.heap eq_ j := fun j hj => (Wr.neI wH5995 (Or.inl (G_ne geq_ ga0 (by decide)))).trans (f0_s_eq_ j hj)
          have f6003 : ∀ j : Nat, j ≠ li.toNatClampNeg → fI H5995 aq j = fI s.heap aq j := fun j hj => (Wr.neI wH5995 (Or.inl (G_ne gaq ga0 (by decide)))).trans (f0_s_aq j hj)
          have f6004 : ∀ j : Nat, j ≠ li.toNatClampNeg → fI H5995 cq j = fI s.heap cq j := fun j hj => (Wr.neI wH5995 (Or.inl (G_ne gcq ga0 (by decide)))).trans (f0_s_cq j hj)
          have f6005 : ∀ j : Nat, j ≠ li.toNatClampNeg → fI H5995 dq j = fI s.heap dq j := fun j hj => (Wr.neI wH5995 (Or.inl (G_ne gdq ga0 (by decide)))).trans (f0_s_dq j hj)
          have f6006 : CSP lw.toInt (fun j => fI H5995 sq j) (fun j => fI s.heap sq j) sc.toNatClampNeg (sc.toNatClampNeg) 3 ([]) ∧ (True) := ⟨CSP.kept f0_cs.1 (fun j => fI_kept (wH5995.off (G_ne gsq ga0 (by decide)))), trivial⟩
          have m6007 := emq.trans (Wr.neR wH5995 (Or.inr (x_apart hKT hts inX4 tyX4 tyX4_ok nmX4 rfl 0 7 (by decide) (by decide) (by decide)))).symm
          have m6008 := ekq.trans (Wr.neR wH5995 (Or.inr (x_apart hKT hts inX4 tyX4 tyX4_ok nmX4 rfl 3 7 (by decide) (by decide) (by decide)))).symm
          have m6009 := evq.trans (Wr.neR wH5995 (Or.inr (x_apart hKT hts inX4 tyX4 tyX4_ok nmX4 rfl 4 7 (by decide) (by decide) (by decide)))).symm
          have m6010 := esq.trans (Wr.neR wH5995 (Or.inl (G_ne gmq ga0 (by decide)))).symm
          have m6011 := ewq.trans (Wr.neR wH5995 (Or.inl (G_ne gmq ga0 (by decide)))).symm
          have m6012 := efq.trans (Wr.neR wH5995 (Or.inl (G_ne gmq ga0 (by decide)))).symm
          have m6013 := ejq.trans (Wr.neR wH5995 (Or.inl (G_ne gmq ga0 (by decide)))).symm
          have m6014 := eeq_.trans (Wr.neR wH5995 (Or.inl (G_ne gmq ga0 (by decide)))).symm
          have m6015 := eaq.trans (Wr.neR wH5995 (Or.inl (G_ne gmq ga0 (by decide)))).symm
          have m6016 := ecq.trans (Wr.neR wH5995 (Or.inl (G_ne gmq ga0 (by decide)))).symm
          have m6017 := edq.trans (Wr.neR wH5995 (Or.inl (G_ne gmq ga0 (by decide)))).symm
          have m6019 := efa.trans (Wr.neI wH5995 (Or.inr (x_apart hKT hts inX4 tyX4 tyX4_ok nmX4 rfl 1 7 (by decide) (by decide) (by decide)))).symm
          have m6020 := eli.trans (Wr.neI wH5995 (Or.inl (G_ne gmq ga0 (by decide)))).symm
          have m6021 := esc.trans (Wr.neI wH5995 (Or.inl (G_ne gmq ga0 (by decide)))).symm
          have m6022 := elw.trans (Wr.neI wH5995 (Or.inr (x_apart hKT hts inX4 tyX4 tyX4_ok nmX4 rfl 8 7 (by decide) (by decide) (by decide)))).symm
          have m6023 := (Wr.neI wH5995 (Or.inl (G_ne gkq ga0 (by decide)))).trans hel0
          have m6024 := ex5947.trans (Wr.neI wH5995 (Or.inl (G_ne gkq ga0 (by decide)))).symm
          have m6025 := Wr.I wH5995
          have m6025 := m6025.symm
          refine lv_aload_n hx hb dX4_line_72 rfl (lv_at hl5990 2 rfl) ?_
          refine x_gr C hTH5995 (ci := 4) (k := 0) rfl inX4 (by decide) wF_X4_12 ga0 rg_78 rfl dX4_line_73 (fun q6026 eq6026 gq6026 => ?_)
          have uq6026 : mq = q6026 := (m6007).trans eq6026.symm
          subst uq6026
          refine x_gr C hTH5995 (ci := 7) (k := 1) rfl inX7 (by decide) wF_X4_87 gmq rg_69 rfl dX4_line_76 (fun q6027 eq6027 gq6027 => ?_)
          have uq6027 : wq = q6027 := (m6011).trans eq6027.symm
          subst uq6027
          refine lv_iload_n hx hb dX4_line_79 rfl (lv_at hl5990 0 rfl) ?_
          refine lv_iload_n hx hb dX4_line_80 rfl (lv_at hl5990 1 rfl) ?_
          refine x_iast C hTH5995 hSH5995 gwq rg_70 (by omega) (by show _ < ((16 : Nat) : Int); omega) ⟨by have := i_rng x5947; omega, by have := i_rng x5947; omega⟩ (AE_in gwq (by decide)) dX4_line_81 (fun H6028 locsH6028 hTH6028 hSH6028 wH6028 => ?_)
          have f6029 : ∀ j : Nat, j ≤ F.toNatClampNeg → kk j = (fI H6028 kq j).toInt := fun j hj => (f5997 j hj).trans (congrArg Int32.toInt (Wr.neI wH6028 (Or.inl (G_ne gkq gwq (by decide)))).symm)
          have f6030 : ∀ j : Nat, j ≤ F.toNatClampNeg → vv j = (fI H6028 vq j).toInt := fun j hj => (f5998 j hj).trans (congrArg Int32.toInt (Wr.neI wH6028 (Or.inl (G_ne gvq gwq (by decide)))).symm)
          have f6031 : ∀ j : Nat, j ≠ li.toNatClampNeg → fI H6028 wq j = fI s.heap wq j := fun j hj => (Wr.neI wH6028 (Or.inr hj)).trans (f5999 j hj)
          have f6032 : ∀ j : Nat, j ≠ li.toNatClampNeg → fI H6028 fq j = fI s.heap fq j := fun j hj => (Wr.neI wH6028 (Or.inl (G_ne gfq gwq (by decide)))).trans (f6000 j hj)
          have f6033 : ∀ j : Nat, j ≠ li.toNatClampNeg → fI H6028 jq j = fI s.heap jq j := fun j hj => (Wr.neI wH6028 (Or.inl (G_ne gjq gwq (by decide)))).trans (f6001 j hj)
          have f6034 : ∀ j : Nat, j ≠ li.toNatClampNeg → fI H6028 eq_ j = fI s.heap eq_ j := fun j hj => (Wr.neI wH6028 (Or.inl (G_ne geq_ gwq (by decide)))).trans (f6002 j hj)
          have f6035 : ∀ j : Nat, j ≠ li.toNatClampNeg → fI H6028 aq j = fI s.heap aq j := fun j hj => (Wr.neI wH6028 (Or.inl (G_ne gaq gwq (by decide)))).trans (f6003 j hj)
          have f6036 : ∀ j : Nat, j ≠ li.toNatClampNeg → fI H6028 cq j = fI s.heap cq j := fun j hj => (Wr.neI wH6028 (Or.inl (G_ne gcq gwq (by decide)))).trans (f6004 j hj)
          have f6037 : ∀ j : Nat, j ≠ li.toNatClampNeg → fI H6028 dq j = fI s.heap dq j := fun j hj => (Wr.neI wH6028 (Or.inl (G_ne gdq gwq (by decide)))).trans (f6005 j hj)
          have f6038 : CSP lw.toInt (fun j => fI H6028 sq j) (fun j => fI s.heap sq j) sc.toNatClampNeg (sc.toNatClampNeg) 3 ([]) ∧ (True) := ⟨CSP.kept f6006.1 (fun j => fI_kept (wH6028.off (G_ne gsq gwq (by decide)))), trivial⟩
          have m6039 := m6007.trans (Wr.neR wH6028 (Or.inl (G_ne ga0 gwq (by decide)))).symm
          have m6040 := m6008.trans (Wr.neR wH6028 (Or.inl (G_ne ga0 gwq (by decide)))).symm
          have m6041 := m6009.trans (Wr.neR wH6028 (Or.inl (G_ne ga0 gwq (by decide)))).symm
          have m6042 := m6010.trans (Wr.neR wH6028 (Or.inl (G_ne gmq gwq (by decide)))).symm
          have m6043 := m6011.trans (Wr.neR wH6028 (Or.inl (G_ne gmq gwq (by decide)))).symm
          have m6044 := m6012.trans (Wr.neR wH6028 (Or.inl (G_ne gmq gwq (by decide)))).symm
          have m6045 := m6013.trans (Wr.neR wH6028 (Or.inl (G_ne gmq gwq (by decide)))).symm
          have m6046 := m6014.trans (Wr.neR wH6028 (Or.inl (G_ne gmq gwq (by decide)))).symm
          have m6047 := m6015.trans (Wr.neR wH6028 (Or.inl (G_ne gmq gwq (by decide)))).symm
          have m6048 := m6016.trans (Wr.neR wH6028 (Or.inl (G_ne gmq gwq (by decide)))).symm
          have m6049 := m6017.trans (Wr.neR wH6028 (Or.inl (G_ne gmq gwq (by decide)))).symm
          have m6050 := m6019.trans (Wr.neI wH6028 (Or.inl (G_ne ga0 gwq (by decide)))).symm
          have m6051 := m6020.trans (Wr.neI wH6028 (Or.inl (G_ne gmq gwq (by decide)))).symm
          have m6052 := m6021.trans (Wr.neI wH6028 (Or.inl (G_ne gmq gwq (by decide)))).symm
          have m6053 := m6022.trans (Wr.neI wH6028 (Or.inl (G_ne ga0 gwq (by decide)))).symm
          have m6054 := (Wr.neI wH6028 (Or.inl (G_ne gkq gwq (by decide)))).trans m6023
          have m6055 := m6024.trans (Wr.neI wH6028 (Or.inl (G_ne gkq gwq (by decide)))).symm
          have m6056 := m6025.trans (Wr.neI wH6028 (Or.inl (G_ne ga0 gwq (by decide)))).symm
          have m6057 := Wr.I wH6028
          have m6057 := m6057.symm
          refine lv_aload_n hx hb dX4_line_82 rfl (lv_at hl5990 2 rfl) ?_
          refine x_gr C hTH6028 (ci := 4) (k := 0) rfl inX4 (by decide) wF_X4_12 ga0 rg_78 rfl dX4_line_83 (fun q6058 eq6058 gq6058 => ?_)
          have uq6058 : mq = q6058 := (m6039).trans eq6058.symm
          subst uq6058
          refine x_gr C hTH6028 (ci := 7) (k := 2) rfl inX7 (by decide) wF_X4_90 gmq rg_69 rfl dX4_line_86 (fun q6059 eq6059 gq6059 => ?_)
          have uq6059 : fq = q6059 := (m6044).trans eq6059.symm
          subst uq6059
          refine lv_iload_n hx hb dX4_line_89 rfl (lv_at hl5990 0 rfl) ?_
          refine lv_iconst (v := 0) hx hb dX4_line_90 (by decide) ?_
          refine x_iast C hTH6028 hSH6028 gfq rg_71 (by omega) (by show _ < ((16 : Nat) : Int); omega) (by decide) (AE_in gfq (by decide)) dX4_line_91 (fun H6060 locsH6060 hTH6060 hSH6060 wH6060 => ?_)
          have f6061 : ∀ j : Nat, j ≤ F.toNatClampNeg → kk j = (fI H6060 kq j).toInt := fun j hj => (f6029 j hj).trans (congrArg Int32.toInt (Wr.neI wH6060 (Or.inl (G_ne gkq gfq (by decide)))).symm)
          have f6062 : ∀ j : Nat, j ≤ F.toNatClampNeg → vv j = (fI H6060 vq j).toInt := fun j hj => (f6030 j hj).trans (congrArg Int32.toInt (Wr.neI wH6060 (Or.inl (G_ne gvq gfq (by decide)))).symm)
          have f6063 : ∀ j : Nat, j ≠ li.toNatClampNeg → fI H6060 wq j = fI s.heap wq j := fun j hj => (Wr.neI wH6060 (Or.inl (G_ne gwq gfq (by decide)))).trans (f6031 j hj)
          have f6064 : ∀ j : Nat, j ≠ li.toNatClampNeg → fI H6060 fq j = fI s.heap fq j := fun j hj => (Wr.neI wH6060 (Or.inr hj)).trans (f6032 j hj)
          have f6065 : ∀ j : Nat, j ≠ li.toNatClampNeg → fI H6060 jq j = fI s.heap jq j := fun j hj => (Wr.neI wH6060 (Or.inl (G_ne gjq gfq (by decide)))).trans (f6033 j hj)
          have f6066 : ∀ j : Nat, j ≠ li.toNatClampNeg → fI H6060 eq_ j = fI s.heap eq_ j := fun j hj => (Wr.neI wH6060 (Or.inl (G_ne geq_ gfq (by decide)))).trans (f6034 j hj)
          have f6067 : ∀ j : Nat, j ≠ li.toNatClampNeg → fI H6060 aq j = fI s.heap aq j := fun j hj => (Wr.neI wH6060 (Or.inl (G_ne gaq gfq (by decide)))).trans (f6035 j hj)
          have f6068 : ∀ j : Nat, j ≠ li.toNatClampNeg → fI H6060 cq j = fI s.heap cq j := fun j hj => (Wr.neI wH6060 (Or.inl (G_ne gcq gfq (by decide)))).trans (f6036 j hj)
          have f6069 : ∀ j : Nat, j ≠ li.toNatClampNeg → fI H6060 dq j = fI s.heap dq j := fun j hj => (Wr.neI wH6060 (Or.inl (G_ne gdq gfq (by decide)))).trans (f6037 j hj)
          have f6070 : CSP lw.toInt (fun j => fI H6060 sq j) (fun j => fI s.heap sq j) sc.toNatClampNeg (sc.toNatClampNeg) 3 ([]) ∧ (True) := ⟨CSP.kept f6038.1 (fun j => fI_kept (wH6060.off (G_ne gsq gfq (by decide)))), trivial⟩
          have m6071 := m6039.trans (Wr.neR wH6060 (Or.inl (G_ne ga0 gfq (by decide)))).symm
          have m6072 := m6040.trans (Wr.neR wH6060 (Or.inl (G_ne ga0 gfq (by decide)))).symm
          have m6073 := m6041.trans (Wr.neR wH6060 (Or.inl (G_ne ga0 gfq (by decide)))).symm
          have m6074 := m6042.trans (Wr.neR wH6060 (Or.inl (G_ne gmq gfq (by decide)))).symm
          have m6075 := m6043.trans (Wr.neR wH6060 (Or.inl (G_ne gmq gfq (by decide)))).symm
          have m6076 := m6044.trans (Wr.neR wH6060 (Or.inl (G_ne gmq gfq (by decide)))).symm
          have m6077 := m6045.trans (Wr.neR wH6060 (Or.inl (G_ne gmq gfq (by decide)))).symm
          have m6078 := m6046.trans (Wr.neR wH6060 (Or.inl (G_ne gmq gfq (by decide)))).symm
          have m6079 := m6047.trans (Wr.neR wH6060 (Or.inl (G_ne gmq gfq (by decide)))).symm
          have m6080 := m6048.trans (Wr.neR wH6060 (Or.inl (G_ne gmq gfq (by decide)))).symm
          have m6081 := m6049.trans (Wr.neR wH6060 (Or.inl (G_ne gmq gfq (by decide)))).symm
          have m6082 := m6050.trans (Wr.neI wH6060 (Or.inl (G_ne ga0 gfq (by decide)))).symm
          have m6083 := m6051.trans (Wr.neI wH6060 (Or.inl (G_ne gmq gfq (by decide)))).symm
          have m6084 := m6052.trans (Wr.neI wH6060 (Or.inl (G_ne gmq gfq (by decide)))).symm
          have m6085 := m6053.trans (Wr.neI wH6060 (Or.inl (G_ne ga0 gfq (by decide)))).symm
          have m6086 := (Wr.neI wH6060 (Or.inl (G_ne gkq gfq (by decide)))).trans m6054
          have m6087 := m6055.trans (Wr.neI wH6060 (Or.inl (G_ne gkq gfq (by decide)))).symm
          have m6088 := m6056.trans (Wr.neI wH6060 (Or.inl (G_ne ga0 gfq (by decide)))).symm
          have m6089 := m6057.trans (Wr.neI wH6060 (Or.inl (G_ne gwq gfq (by decide)))).symm
          have m6090 := Wr.I wH6060
          refine lv_aload_n hx hb dX4_line_92 rfl (lv_at hl5990 2 rfl) ?_
          refine x_gr C hTH6060 (ci := 4) (k := 0) rfl inX4 (by decide) wF_X4_12 ga0 rg_78 rfl dX4_line_93 (fun q6091 eq6091 gq6091 => ?_)
          have uq6091 : mq = q6091 := (m6071).trans eq6091.symm
          subst uq6091
          refine x_gr C hTH6060 (ci := 7) (k := 5) rfl inX7 (by decide) wF_X4_93 gmq rg_69 rfl dX4_line_96 (fun q6092 eq6092 gq6092 => ?_)
          have uq6092 : aq = q6092 := (m6079).trans eq6092.symm
          subst uq6092
          refine lv_iload_n hx hb dX4_line_99 rfl (lv_at hl5990 0 rfl) ?_
          refine lv_aload_n hx hb dX4_line_100 rfl (lv_at hl5990 2 rfl) ?_
          refine x_gr C hTH6060 (ci := 4) (k := 0) rfl inX4 (by decide) wF_X4_12 ga0 rg_78 rfl dX4_line_101 (fun q6093 eq6093 gq6093 => ?_)
          have uq6093 : mq = q6093 := (m6071).trans eq6093.symm
          subst uq6093
          refine x_gi C hTH6060 (ci := 7) (k := 9) rfl inX7 (by decide) wF_X4_96 gmq rg_69 rfl dX4_line_104 (fun x6094 ex6094 bx6094 => ?_)
          have ux6094 : sc = x6094 := (m6084).trans ex6094.symm
          subst ux6094
          refine x_iast C hTH6060 hSH6060 gaq rg_74 (by omega) (by show _ < ((16 : Nat) : Int); omega) ⟨by have := i_rng sc; omega, by have := i_rng sc; omega⟩ (AE_in gaq (by decide)) dX4_line_107 (fun H6095 locsH6095 hTH6095 hSH6095 wH6095 => ?_)
          have f6096 : ∀ j : Nat, j ≤ F.toNatClampNeg → kk j = (fI H6095 kq j).toInt := fun j hj => (f6061 j hj).trans (congrArg Int32.toInt (Wr.neI wH6095 (Or.inl (G_ne gkq gaq (by decide)))).symm)
          have f6097 : ∀ j : Nat, j ≤ F.toNatClampNeg → vv j = (fI H6095 vq j).toInt := fun j hj => (f6062 j hj).trans (congrArg Int32.toInt (Wr.neI wH6095 (Or.inl (G_ne gvq gaq (by decide)))).symm)
          have f6098 : ∀ j : Nat, j ≠ li.toNatClampNeg → fI H6095 wq j = fI s.heap wq j := fun j hj => (Wr.neI wH6095 (Or.inl (G_ne gwq gaq (by decide)))).trans (f6063 j hj)
          have f6099 : ∀ j : Nat, j ≠ li.toNatClampNeg → fI H6095 fq j = fI s.heap fq j := fun j hj => (Wr.neI wH6095 (Or.inl (G_ne gfq gaq (by decide)))).trans (f6064 j hj)
          have f6100 : ∀ j : Nat, j ≠ li.toNatClampNeg → fI H6095 jq j = fI s.heap jq j := fun j hj => (Wr.neI wH6095 (Or.inl (G_ne gjq gaq (by decide)))).trans (f6065 j hj)
          have f6101 : ∀ j : Nat, j ≠ li.toNatClampNeg → fI H6095 eq_ j = fI s.heap eq_ j := fun j hj => (Wr.neI wH6095 (Or.inl (G_ne geq_ gaq (by decide)))).trans (f6066 j hj)
          have f6102 : ∀ j : Nat, j ≠ li.toNatClampNeg → fI H6095 aq j = fI s.heap aq j := fun j hj => (Wr.neI wH6095 (Or.inr hj)).trans (f6067 j hj)
          have f6103 : ∀ j : Nat, j ≠ li.toNatClampNeg → fI H6095 cq j = fI s.heap cq j := fun j hj => (Wr.neI wH6095 (Or.inl (G_ne gcq gaq (by decide)))).trans (f6068 j hj)
          have f6104 : ∀ j : Nat, j ≠ li.toNatClampNeg → fI H6095 dq j = fI s.heap dq j := fun j hj => (Wr.neI wH6095 (Or.inl (G_ne gdq gaq (by decide)))).trans (f6069 j hj)
          have f6105 : CSP lw.toInt (fun j => fI H6095 sq j) (fun j => fI s.heap sq j) sc.toNatClampNeg (sc.toNatClampNeg) 3 ([]) ∧ (True) := ⟨CSP.kept f6070.1 (fun j => fI_kept (wH6095.off (G_ne gsq gaq (by decide)))), trivial⟩
          have m6106 := m6071.trans (Wr.neR wH6095 (Or.inl (G_ne ga0 gaq (by decide)))).symm
          have m6107 := m6072.trans (Wr.neR wH6095 (Or.inl (G_ne ga0 gaq (by decide)))).symm
          have m6108 := m6073.trans (Wr.neR wH6095 (Or.inl (G_ne ga0 gaq (by decide)))).symm
          have m6109 := m6074.trans (Wr.neR wH6095 (Or.inl (G_ne gmq gaq (by decide)))).symm
          have m6110 := m6075.trans (Wr.neR wH6095 (Or.inl (G_ne gmq gaq (by decide)))).symm
          have m6111 := m6076.trans (Wr.neR wH6095 (Or.inl (G_ne gmq gaq (by decide)))).symm
          have m6112 := m6077.trans (Wr.neR wH6095 (Or.inl (G_ne gmq gaq (by decide)))).symm
          have m6113 := m6078.trans (Wr.neR wH6095 (Or.inl (G_ne gmq gaq (by decide)))).symm
          have m6114 := m6079.trans (Wr.neR wH6095 (Or.inl (G_ne gmq gaq (by decide)))).symm
          have m6115 := m6080.trans (Wr.neR wH6095 (Or.inl (G_ne gmq gaq (by decide)))).symm
          have m6116 := m6081.trans (Wr.neR wH6095 (Or.inl (G_ne gmq gaq (by decide)))).symm
          have m6117 := m6082.trans (Wr.neI wH6095 (Or.inl (G_ne ga0 gaq (by decide)))).symm
          have m6118 := m6083.trans (Wr.neI wH6095 (Or.inl (G_ne gmq gaq (by decide)))).symm
          have m6119 := m6084.trans (Wr.neI wH6095 (Or.inl (G_ne gmq gaq (by decide)))).symm
          have m6120 := m6085.trans (Wr.neI wH6095 (Or.inl (G_ne ga0 gaq (by decide)))).symm
          have m6121 := (Wr.neI wH6095 (Or.inl (G_ne gkq gaq (by decide)))).trans m6086
          have m6122 := m6087.trans (Wr.neI wH6095 (Or.inl (G_ne gkq gaq (by decide)))).symm
          have m6123 := m6088.trans (Wr.neI wH6095 (Or.inl (G_ne ga0 gaq (by decide)))).symm
          have m6124 := m6089.trans (Wr.neI wH6095 (Or.inl (G_ne gwq gaq (by decide)))).symm
          have m6125 := (Wr.neI wH6095 (Or.inl (G_ne gfq gaq (by decide)))).trans m6090
          have m6126 := Wr.I wH6095
          have m6126 := m6126.symm
          refine lv_aload_n hx hb dX4_line_108 rfl (lv_at hl5990 2 rfl) ?_
          refine x_gi C hTH6095 (ci := 4) (k := 8) rfl inX4 (by decide) wF_X4_28 ga0 rg_78 rfl dX4_line_109 (fun x6127 ex6127 bx6127 => ?_)
          have ux6127 : lw = x6127 := (m6120).trans ex6127.symm
          subst ux6127
          refine lv_if_eq (tgt := 134) hx hb dX4_line_112 (by decide) (fun c6128 => ?_) (fun c6128 => ?_)
          · have k6129 := i_eq c6128
            refine lv_aload_n hx hb dX4_line_134 rfl (lv_at hl5990 2 rfl) ?_
            refine lv_iload_n hx hb dX4_line_135 rfl (lv_at hl5990 0 rfl) ?_
            refine lv_iload_n hx hb dX4_line_136 rfl (lv_at hl5990 1 rfl) ?_
            refine x_V (As := [.int li, .int x5947]) (rest := []) C (a_X4_jobHead_g l K G H6095 (li) (x5947) (F) (x5994) (fa) (lw) (li) kk vv hTH6095 ga0 (by omega) gmq m6106 gkq m6107 gvq m6108 gfq m6111 gjq m6112 geq_ m6113 m6123 m6117 m6120 m6118 m6121 (by omega) (by omega) f6096 f6097) yo_X4_jobHead wM_X4_107 ⟨⟨by decide, by decide⟩, by decide, by decide⟩ (x_rv C hTH6095 (ci := 4) rfl ga0 rg_78) rfl hl5990.1 rfl (Nat.le_of_ble_eq_true rfl) dX4_line_137 hSH6095 (AE_sub (fun _ _ => rfl) (by decide) hSH6095.1) (fun vH6130 H6130 locsH6130 pH6130 zH6130 kH6130 hSH6130 => ?_)
            obtain ⟨x6131, x6132, x6133, hvH6130, bx6131, ex6132, ex6133, hrH6130, m6134, m6135, m6136, m6137, m6138, m6139, m6140, m6141, m6142, hTH6130⟩ := pH6130
            subst hvH6130
            have f6143 : ∀ j : Nat, j ≤ F.toNatClampNeg → kk j = (fI H6130 kq j).toInt := fun j hj => (f6096 j hj).trans (congrArg Int32.toInt (fI_kept (x_lt hTH6095 kH6130 gkq (by decide))).symm)
            have f6144 : ∀ j : Nat, j ≤ F.toNatClampNeg → vv j = (fI H6130 vq j).toInt := fun j hj => (f6097 j hj).trans (congrArg Int32.toInt (fI_kept (x_lt hTH6095 kH6130 gvq (by decide))).symm)
            have f6145 : ∀ j : Nat, j ≠ li.toNatClampNeg → fI H6130 wq j = fI s.heap wq j := fun j hj => (fI_kept (x_lt hTH6095 kH6130 gwq (by decide))).trans (f6098 j hj)
            have f6146 : ∀ j : Nat, j ≠ li.toNatClampNeg → fI H6130 aq j = fI s.heap aq j := fun j hj => (fI_kept (x_lt hTH6095 kH6130 gaq (by decide))).trans (f6102 j hj)
            have f6147 : ∀ j : Nat, j ≠ li.toNatClampNeg → fI H6130 cq j = fI s.heap cq j := fun j hj => (fI_kept (x_lt hTH6095 kH6130 gcq (by decide))).trans (f6103 j hj)
            have f6148 : ∀ j : Nat, j ≠ li.toNatClampNeg → fI H6130 dq j = fI s.heap dq j := fun j hj => (fI_kept (x_lt hTH6095 kH6130 gdq (by decide))).trans (f6104 j hj)
            have f6149 : CSP lw.toInt (fun j => fI H6130 sq j) (fun j => fI s.heap sq j) sc.toNatClampNeg (sc.toNatClampNeg) 3 ([]) ∧ (True) := ⟨CSP.kept f6105.1 (fun j => fI_kept (x_lt hTH6095 kH6130 gsq (by decide))), trivial⟩
            have m6150 := (m6109).trans (fR_kept (x_lt hTH6095 kH6130 gmq (by decide))).symm
            have m6151 := (m6110).trans (fR_kept (x_lt hTH6095 kH6130 gmq (by decide))).symm
            have m6152 := (m6111).trans (fR_kept (x_lt hTH6095 kH6130 gmq (by decide))).symm
            have m6153 := (m6112).trans (fR_kept (x_lt hTH6095 kH6130 gmq (by decide))).symm
            have m6154 := (m6113).trans (fR_kept (x_lt hTH6095 kH6130 gmq (by decide))).symm
            have m6155 := (m6114).trans (fR_kept (x_lt hTH6095 kH6130 gmq (by decide))).symm
            have m6156 := (m6115).trans (fR_kept (x_lt hTH6095 kH6130 gmq (by decide))).symm
            have m6157 := (m6116).trans (fR_kept (x_lt hTH6095 kH6130 gmq (by decide))).symm
            have m6158 := (m6118).trans (fI_kept (x_lt hTH6095 kH6130 gmq (by decide))).symm
            have m6159 := (m6119).trans (fI_kept (x_lt hTH6095 kH6130 gmq (by decide))).symm
            have m6160 := (fI_kept (x_lt hTH6095 kH6130 gkq (by decide))).trans m6121
            have m6161 := (m6122).trans (fI_kept (x_lt hTH6095 kH6130 gkq (by decide))).symm
            have m6162 := (m6124).trans (fI_kept (x_lt hTH6095 kH6130 gwq (by decide))).symm
            have m6163 := (m6126).trans (fI_kept (x_lt hTH6095 kH6130 gaq (by decide))).symm
            have bx6132 := ty_fi (x := x6132) (k := 7) ex6132 hTH6130 ga0 rg_78 rfl
            have bx6133 := ty_fi (x := x6133) (k := 1) ex6133 hTH6130 ga0 rg_78 rfl
            have f6164 : ∀ j : Nat, j ≠ li.toNatClampNeg → fI H6130 fq j = fI s.heap fq j := fun j hj => (m6140 j hj).trans (f6099 j hj)
            obtain ⟨x6165, ex6165⟩ : ∃ z : Int32, z = fI H6130 fq (li : Int32).toNatClampNeg := ⟨_, rfl⟩
            have bx6165 := ty_ai (x := x6165) ex6165 hTH6130 gfq rg_71 (by omega)
            have f6166 : ∀ j : Nat, j ≠ li.toNatClampNeg → fI H6130 jq j = fI s.heap jq j := fun j hj => (m6141 j hj).trans (f6100 j hj)
            obtain ⟨x6167, ex6167⟩ : ∃ z : Int32, z = fI H6130 jq (li : Int32).toNatClampNeg := ⟨_, rfl⟩
            have bx6167 := ty_ai (x := x6167) ex6167 hTH6130 gjq rg_72 (by omega)
            have f6168 : ∀ j : Nat, j ≠ li.toNatClampNeg → fI H6130 eq_ j = fI s.heap eq_ j := fun j hj => (m6142 j hj).trans (f6101 j hj)
            obtain ⟨x6169, ex6169⟩ : ∃ z : Int32, z = fI H6130 eq_ (li : Int32).toNatClampNeg := ⟨_, rfl⟩
            have bx6169 := ty_ai (x := x6169) ex6169 hTH6130 geq_ rg_73 (by omega)
            have hf6170 : x6131.toInt = 0 ∨ (x6165.toInt = vv x5994.toNatClampNeg ∧ (x5947.toInt = 5 → x6167.toInt = vv (x5994.toNatClampNeg + 1)) ∧ x6169.toInt = (if x5947.toInt = 5 then vv (x5994.toNatClampNeg + 2) else vv (x5994.toNatClampNeg + 1))) := by
              rw [ex6165, ex6167, ex6169]; exact m6139
            refine W.eq (g2 := F0 m 140 ls5989 [.int x6131]) rfl ?_
            refine lv_if_ne (tgt := 145) hx hb dX4_line_140 (by decide) (fun c6171 => ?_) (fun c6171 => ?_)
            · have k6172 := i_ne c6171
              refine lv_aload_n hx hb dX4_line_145 rfl (lv_at hl5990 2 rfl) ?_
              refine x_gr C hTH6130 (ci := 4) (k := 0) rfl inX4 (by decide) wF_X4_12 ga0 rg_78 rfl dX4_line_146 (fun q6173 eq6173 gq6173 => ?_)
              have uq6173 : mq = q6173 := (m6134).trans eq6173.symm
              subst uq6173
              refine x_gr C hTH6130 (ci := 7) (k := 6) rfl inX7 (by decide) wF_X4_110 gmq rg_69 rfl dX4_line_149 (fun q6174 eq6174 gq6174 => ?_)
              have uq6174 : cq = q6174 := (m6156).trans eq6174.symm
              subst uq6174
              refine lv_iload_n hx hb dX4_line_152 rfl (lv_at hl5990 0 rfl) ?_
              refine lv_aload_n hx hb dX4_line_153 rfl (lv_at hl5990 2 rfl) ?_
              refine x_gr C hTH6130 (ci := 4) (k := 0) rfl inX4 (by decide) wF_X4_12 ga0 rg_78 rfl dX4_line_154 (fun q6175 eq6175 gq6175 => ?_)
              have uq6175 : mq = q6175 := (m6134).trans eq6175.symm
              subst uq6175
              refine x_gi C hTH6130 (ci := 7) (k := 9) rfl inX7 (by decide) wF_X4_96 gmq rg_69 rfl dX4_line_157 (fun x6176 ex6176 bx6176 => ?_)
              have ux6176 : sc = x6176 := (m6159).trans ex6176.symm
              subst ux6176
              refine x_iast C hTH6130 hSH6130 gcq rg_75 (by omega) (by show _ < ((16 : Nat) : Int); omega) ⟨by have := i_rng sc; omega, by have := i_rng sc; omega⟩ (AE_in gcq (by decide)) dX4_line_160 (fun H6177 locsH6177 hTH6177 hSH6177 wH6177 => ?_)
              have f6178 : ∀ j : Nat, j ≤ F.toNatClampNeg → kk j = (fI H6177 kq j).toInt := fun j hj => (f6143 j hj).trans (congrArg Int32.toInt (Wr.neI wH6177 (Or.inl (G_ne gkq gcq (by decide)))).symm)
              have f6179 : ∀ j : Nat, j ≤ F.toNatClampNeg → vv j = (fI H6177 vq j).toInt := fun j hj => (f6144 j hj).trans (congrArg Int32.toInt (Wr.neI wH6177 (Or.inl (G_ne gvq gcq (by decide)))).symm)
              have f6180 : ∀ j : Nat, j ≠ li.toNatClampNeg → fI H6177 wq j = fI s.heap wq j := fun j hj => (Wr.neI wH6177 (Or.inl (G_ne gwq gcq (by decide)))).trans (f6145 j hj)
              have f6181 : ∀ j : Nat, j ≠ li.toNatClampNeg → fI H6177 aq j = fI s.heap aq j := fun j hj => (Wr.neI wH6177 (Or.inl (G_ne gaq gcq (by decide)))).trans (f6146 j hj)
              have f6182 : ∀ j : Nat, j ≠ li.toNatClampNeg → fI H6177 cq j = fI s.heap cq j := fun j hj => (Wr.neI wH6177 (Or.inr hj)).trans (f6147 j hj)
              have f6183 : ∀ j : Nat, j ≠ li.toNatClampNeg → fI H6177 dq j = fI s.heap dq j := fun j hj => (Wr.neI wH6177 (Or.inl (G_ne gdq gcq (by decide)))).trans (f6148 j hj)
              have f6184 : CSP lw.toInt (fun j => fI H6177 sq j) (fun j => fI s.heap sq j) sc.toNatClampNeg (sc.toNatClampNeg) 3 ([]) ∧ (True) := ⟨CSP.kept f6149.1 (fun j => fI_kept (wH6177.off (G_ne gsq gcq (by decide)))), trivial⟩
              have f6185 : ∀ j : Nat, j ≠ li.toNatClampNeg → fI H6177 fq j = fI s.heap fq j := fun j hj => (Wr.neI wH6177 (Or.inl (G_ne gfq gcq (by decide)))).trans (f6164 j hj)
              have f6186 : ∀ j : Nat, j ≠ li.toNatClampNeg → fI H6177 jq j = fI s.heap jq j := fun j hj => (Wr.neI wH6177 (Or.inl (G_ne gjq gcq (by decide)))).trans (f6166 j hj)
              have f6187 : ∀ j : Nat, j ≠ li.toNatClampNeg → fI H6177 eq_ j = fI s.heap eq_ j := fun j hj => (Wr.neI wH6177 (Or.inl (G_ne geq_ gcq (by decide)))).trans (f6168 j hj)
              have m6188 := m6150.trans (Wr.neR wH6177 (Or.inl (G_ne gmq gcq (by decide)))).symm
              have m6189 := m6151.trans (Wr.neR wH6177 (Or.inl (G_ne gmq gcq (by decide)))).symm
              have m6190 := m6152.trans (Wr.neR wH6177 (Or.inl (G_ne gmq gcq (by decide)))).symm
              have m6191 := m6153.trans (Wr.neR wH6177 (Or.inl (G_ne gmq gcq (by decide)))).symm
              have m6192 := m6154.trans (Wr.neR wH6177 (Or.inl (G_ne gmq gcq (by decide)))).symm
              have m6193 := m6155.trans (Wr.neR wH6177 (Or.inl (G_ne gmq gcq (by decide)))).symm
              have m6194 := m6156.trans (Wr.neR wH6177 (Or.inl (G_ne gmq gcq (by decide)))).symm
              have m6195 := m6157.trans (Wr.neR wH6177 (Or.inl (G_ne gmq gcq (by decide)))).symm
              have m6196 := m6158.trans (Wr.neI wH6177 (Or.inl (G_ne gmq gcq (by decide)))).symm
              have m6197 := m6159.trans (Wr.neI wH6177 (Or.inl (G_ne gmq gcq (by decide)))).symm
              have m6198 := (Wr.neI wH6177 (Or.inl (G_ne gkq gcq (by decide)))).trans m6160
              have m6199 := m6161.trans (Wr.neI wH6177 (Or.inl (G_ne gkq gcq (by decide)))).symm
              have m6200 := m6162.trans (Wr.neI wH6177 (Or.inl (G_ne gwq gcq (by decide)))).symm
              have m6201 := m6163.trans (Wr.neI wH6177 (Or.inl (G_ne gaq gcq (by decide)))).symm
              have m6202 := m6134.trans (Wr.neR wH6177 (Or.inl (G_ne ga0 gcq (by decide)))).symm
              have m6203 := m6135.trans (Wr.neR wH6177 (Or.inl (G_ne ga0 gcq (by decide)))).symm
              have m6204 := m6136.trans (Wr.neR wH6177 (Or.inl (G_ne ga0 gcq (by decide)))).symm
              have m6205 := m6137.trans (Wr.neI wH6177 (Or.inl (G_ne ga0 gcq (by decide)))).symm
              have m6206 := ex6132.trans (Wr.neI wH6177 (Or.inl (G_ne ga0 gcq (by decide)))).symm
              have m6207 := ex6133.trans (Wr.neI wH6177 (Or.inl (G_ne ga0 gcq (by decide)))).symm
              have m6208 := ex6165.trans (Wr.neI wH6177 (Or.inl (G_ne gfq gcq (by decide)))).symm
              have m6209 := ex6167.trans (Wr.neI wH6177 (Or.inl (G_ne gjq gcq (by decide)))).symm
              have m6210 := ex6169.trans (Wr.neI wH6177 (Or.inl (G_ne geq_ gcq (by decide)))).symm
              have m6211 := Wr.I wH6177
              have m6211 := m6211.symm
              refine lv_aload_n hx hb dX4_line_161 rfl (lv_at hl5990 2 rfl) ?_
              refine x_gr C hTH6177 (ci := 4) (k := 3) rfl inX4 (by decide) wF_X4_18 ga0 rg_78 rfl dX4_line_162 (fun q6212 eq6212 gq6212 => ?_)
              have uq6212 : kq = q6212 := (m6203).trans eq6212.symm
              subst uq6212
              refine lv_aload_n hx hb dX4_line_165 rfl (lv_at hl5990 2 rfl) ?_
              refine x_gi C hTH6177 (ci := 4) (k := 7) rfl inX4 (by decide) wF_X4_42 ga0 rg_78 rfl dX4_line_166 (fun x6213 ex6213 bx6213 => ?_)
              have ux6213 : x6132 = x6213 := (m6206).trans ex6213.symm
              subst ux6213
              refine x_ai C hTH6177 gkq rg_79 ⟨by omega, by show _ < ((501 : Nat) : Int); omega⟩ dX4_line_169 (fun x6214 ex6214 bx6214 => ?_)
              have dx6214 := el_hit ex6214 m6198
              have qvx6214 : kk x6132.toNatClampNeg = x6214.toInt := (f6178 _ (by have h1 := i_cl (x := x6132) (by omega); have h2 := i_cl (x := F) (by omega); omega)).trans (congrArg Int32.toInt ex6214.symm)
              refine lv_bipush (v := 7) hx hb dX4_line_170 (by decide) ?_
              refine lv_icmp_ne (tgt := 195) hx hb dX4_line_172 (by decide) (fun c6215 => ?_) (fun c6215 => ?_)
              · have k6216 := i_ne c6215
                refine lv_aload_n hx hb dX4_line_195 rfl (lv_at hl5990 2 rfl) ?_
                refine x_gr C hTH6177 (ci := 4) (k := 0) rfl inX4 (by decide) wF_X4_12 ga0 rg_78 rfl dX4_line_196 (fun q6217 eq6217 gq6217 => ?_)
                have uq6217 : mq = q6217 := (m6202).trans eq6217.symm
                subst uq6217
                refine x_gr C hTH6177 (ci := 7) (k := 7) rfl inX7 (by decide) wF_X4_116 gmq rg_69 rfl dX4_line_199 (fun q6218 eq6218 gq6218 => ?_)
                have uq6218 : dq = q6218 := (m6195).trans eq6218.symm
                subst uq6218
                refine lv_iload_n hx hb dX4_line_202 rfl (lv_at hl5990 0 rfl) ?_
                refine lv_aload_n hx hb dX4_line_203 rfl (lv_at hl5990 2 rfl) ?_
                refine x_gr C hTH6177 (ci := 4) (k := 0) rfl inX4 (by decide) wF_X4_12 ga0 rg_78 rfl dX4_line_204 (fun q6219 eq6219 gq6219 => ?_)
                have uq6219 : mq = q6219 := (m6202).trans eq6219.symm
                subst uq6219
                refine x_gi C hTH6177 (ci := 7) (k := 9) rfl inX7 (by decide) wF_X4_96 gmq rg_69 rfl dX4_line_207 (fun x6220 ex6220 bx6220 => ?_)
                have ux6220 : sc = x6220 := (m6197).trans ex6220.symm
                subst ux6220
                refine x_iast C hTH6177 hSH6177 gdq rg_76 (by omega) (by show _ < ((16 : Nat) : Int); omega) ⟨by have := i_rng sc; omega, by have := i_rng sc; omega⟩ (AE_in gdq (by decide)) dX4_line_210 (fun H6221 locsH6221 hTH6221 hSH6221 wH6221 => ?_)
                have f6222 : ∀ j : Nat, j ≤ F.toNatClampNeg → kk j = (fI H6221 kq j).toInt := fun j hj => (f6178 j hj).trans (congrArg Int32.toInt (Wr.neI wH6221 (Or.inl (G_ne gkq gdq (by decide)))).symm)
                have f6223 : ∀ j : Nat, j ≤ F.toNatClampNeg → vv j = (fI H6221 vq j).toInt := fun j hj => (f6179 j hj).trans (congrArg Int32.toInt (Wr.neI wH6221 (Or.inl (G_ne gvq gdq (by decide)))).symm)
                have f6224 : ∀ j : Nat, j ≠ li.toNatClampNeg → fI H6221 wq j = fI s.heap wq j := fun j hj => (Wr.neI wH6221 (Or.inl (G_ne gwq gdq (by decide)))).trans (f6180 j hj)
                have f6225 : ∀ j : Nat, j ≠ li.toNatClampNeg → fI H6221 aq j = fI s.heap aq j := fun j hj => (Wr.neI wH6221 (Or.inl (G_ne gaq gdq (by decide)))).trans (f6181 j hj)
                have f6226 : ∀ j : Nat, j ≠ li.toNatClampNeg → fI H6221 cq j = fI s.heap cq j := fun j hj => (Wr.neI wH6221 (Or.inl (G_ne gcq gdq (by decide)))).trans (f6182 j hj)
                have f6227 : ∀ j : Nat, j ≠ li.toNatClampNeg → fI H6221 dq j = fI s.heap dq j := fun j hj => (Wr.neI wH6221 (Or.inr hj)).trans (f6183 j hj)
                have f6228 : CSP lw.toInt (fun j => fI H6221 sq j) (fun j => fI s.heap sq j) sc.toNatClampNeg (sc.toNatClampNeg) 3 ([]) ∧ (True) := ⟨CSP.kept f6184.1 (fun j => fI_kept (wH6221.off (G_ne gsq gdq (by decide)))), trivial⟩
                have f6229 : ∀ j : Nat, j ≠ li.toNatClampNeg → fI H6221 fq j = fI s.heap fq j := fun j hj => (Wr.neI wH6221 (Or.inl (G_ne gfq gdq (by decide)))).trans (f6185 j hj)
                have f6230 : ∀ j : Nat, j ≠ li.toNatClampNeg → fI H6221 jq j = fI s.heap jq j := fun j hj => (Wr.neI wH6221 (Or.inl (G_ne gjq gdq (by decide)))).trans (f6186 j hj)
                have f6231 : ∀ j : Nat, j ≠ li.toNatClampNeg → fI H6221 eq_ j = fI s.heap eq_ j := fun j hj => (Wr.neI wH6221 (Or.inl (G_ne geq_ gdq (by decide)))).trans (f6187 j hj)
                have m6232 := m6188.trans (Wr.neR wH6221 (Or.inl (G_ne gmq gdq (by decide)))).symm
                have m6233 := m6189.trans (Wr.neR wH6221 (Or.inl (G_ne gmq gdq (by decide)))).symm
                have m6234 := m6190.trans (Wr.neR wH6221 (Or.inl (G_ne gmq gdq (by decide)))).symm
                have m6235 := m6191.trans (Wr.neR wH6221 (Or.inl (G_ne gmq gdq (by decide)))).symm
                have m6236 := m6192.trans (Wr.neR wH6221 (Or.inl (G_ne gmq gdq (by decide)))).symm
                have m6237 := m6193.trans (Wr.neR wH6221 (Or.inl (G_ne gmq gdq (by decide)))).symm
                have m6238 := m6194.trans (Wr.neR wH6221 (Or.inl (G_ne gmq gdq (by decide)))).symm
                have m6239 := m6195.trans (Wr.neR wH6221 (Or.inl (G_ne gmq gdq (by decide)))).symm
                have m6240 := m6196.trans (Wr.neI wH6221 (Or.inl (G_ne gmq gdq (by decide)))).symm
                have m6241 := m6197.trans (Wr.neI wH6221 (Or.inl (G_ne gmq gdq (by decide)))).symm
                have m6242 := (Wr.neI wH6221 (Or.inl (G_ne gkq gdq (by decide)))).trans m6198
                have m6243 := m6199.trans (Wr.neI wH6221 (Or.inl (G_ne gkq gdq (by decide)))).symm
                have m6244 := m6200.trans (Wr.neI wH6221 (Or.inl (G_ne gwq gdq (by decide)))).symm
                have m6245 := m6201.trans (Wr.neI wH6221 (Or.inl (G_ne gaq gdq (by decide)))).symm
                have m6246 := m6202.trans (Wr.neR wH6221 (Or.inl (G_ne ga0 gdq (by decide)))).symm
                have m6247 := m6203.trans (Wr.neR wH6221 (Or.inl (G_ne ga0 gdq (by decide)))).symm
                have m6248 := m6204.trans (Wr.neR wH6221 (Or.inl (G_ne ga0 gdq (by decide)))).symm
                have m6249 := m6205.trans (Wr.neI wH6221 (Or.inl (G_ne ga0 gdq (by decide)))).symm
                have m6250 := m6206.trans (Wr.neI wH6221 (Or.inl (G_ne ga0 gdq (by decide)))).symm
                have m6251 := m6207.trans (Wr.neI wH6221 (Or.inl (G_ne ga0 gdq (by decide)))).symm
                have m6252 := m6208.trans (Wr.neI wH6221 (Or.inl (G_ne gfq gdq (by decide)))).symm
                have m6253 := m6209.trans (Wr.neI wH6221 (Or.inl (G_ne gjq gdq (by decide)))).symm
                have m6254 := m6210.trans (Wr.neI wH6221 (Or.inl (G_ne geq_ gdq (by decide)))).symm
                have m6255 := m6211.trans (Wr.neI wH6221 (Or.inl (G_ne gcq gdq (by decide)))).symm
                have m6256 := ex6214.trans (Wr.neI wH6221 (Or.inl (G_ne gkq gdq (by decide)))).symm
                have m6257 := Wr.I wH6221
                have m6257 := m6257.symm
                refine lv_aload_n hx hb dX4_line_211 rfl (lv_at hl5990 2 rfl) ?_
                refine x_gr C hTH6221 (ci := 4) (k := 3) rfl inX4 (by decide) wF_X4_18 ga0 rg_78 rfl dX4_line_212 (fun q6258 eq6258 gq6258 => ?_)
                have uq6258 : kq = q6258 := (m6247).trans eq6258.symm
                subst uq6258
                refine lv_aload_n hx hb dX4_line_215 rfl (lv_at hl5990 2 rfl) ?_
                refine x_gi C hTH6221 (ci := 4) (k := 7) rfl inX4 (by decide) wF_X4_42 ga0 rg_78 rfl dX4_line_216 (fun x6259 ex6259 bx6259 => ?_)
                have ux6259 : x6132 = x6259 := (m6250).trans ex6259.symm
                subst ux6259
                refine x_ai C hTH6221 gkq rg_79 ⟨by omega, by show _ < ((501 : Nat) : Int); omega⟩ dX4_line_219 (fun x6260 ex6260 bx6260 => ?_)
                have ux6260 : x6214 = x6260 := (m6256).trans ex6260.symm
                subst ux6260
                have qvx6260 : kk x6132.toNatClampNeg = x6214.toInt := (f6222 _ (by have h1 := i_cl (x := x6132) (by omega); have h2 := i_cl (x := F) (by omega); omega)).trans (congrArg Int32.toInt ex6260.symm)
                refine lv_bipush (v := 59) hx hb dX4_line_220 (by decide) ?_
                refine lv_icmp_eq (tgt := 231) hx hb dX4_line_222 (by decide) (fun c6261 => ?_) (fun c6261 => ?_)
                · have k6262 := i_eq c6261
                  refine lv_aload_n hx hb dX4_line_231 rfl (lv_at hl5990 2 rfl) ?_
                  refine lv_dup hx hb dX4_line_232 rfl ?_
                  refine x_gi C hTH6221 (ci := 4) (k := 7) rfl inX4 (by decide) wF_X4_42 ga0 rg_78 rfl dX4_line_233 (fun x6263 ex6263 bx6263 => ?_)
                  have ux6263 : x6132 = x6263 := (m6250).trans ex6263.symm
                  subst ux6263
                  refine lv_iconst (v := 1) hx hb dX4_line_236 (by decide) ?_
                  refine lv_iadd hx hb dX4_line_237 ?_
                  refine lv_topi (fun x6264 ex6264 => ?_)
                  have tx6264 := i_add ex6264 (by omega)
                  have fz6266 : 0 ≤ x6264.toInt ∧ x6264.toInt ≤ 500 := by have := i_rng x6264; omega
                  refine x_put C hTH6221 hSH6221 (ci := 4) (k := 7) (v := .int x6264) (ty0 := tyX4) rfl inX4 tyX4_ok nmX4 (by decide) rfl wF_X4_42 ga0 rg_78 rfl rfl (okI (by have := i_rng x6264; omega) (by have := i_rng x6264; omega)) rfl rfl (AE_in ga0 (by decide)) dX4_line_238 (fun H6265 locsH6265 hTH6265 hSH6265 wH6265 => ?_)
                  have f6267 : ∀ j : Nat, j ≤ F.toNatClampNeg → kk j = (fI H6265 kq j).toInt := fun j hj => (f6222 j hj).trans (congrArg Int32.toInt (Wr.neI wH6265 (Or.inl (G_ne gkq ga0 (by decide)))).symm)
                  have f6268 : ∀ j : Nat, j ≤ F.toNatClampNeg → vv j = (fI H6265 vq j).toInt := fun j hj => (f6223 j hj).trans (congrArg Int32.toInt (Wr.neI wH6265 (Or.inl (G_ne gvq ga0 (by decide)))).symm)
                  have f6269 : ∀ j : Nat, j ≠ li.toNatClampNeg → fI H6265 wq j = fI s.heap wq j := fun j hj => (Wr.neI wH6265 (Or.inl (G_ne gwq ga0 (by decide)))).trans (f6224 j hj)
                  have f6270 : ∀ j : Nat, j ≠ li.toNatClampNeg → fI H6265 aq j = fI s.heap aq j := fun j hj => (Wr.neI wH6265 (Or.inl (G_ne gaq ga0 (by decide)))).trans (f6225 j hj)
                  have f6271 : ∀ j : Nat, j ≠ li.toNatClampNeg → fI H6265 cq j = fI s.heap cq j := fun j hj => (Wr.neI wH6265 (Or.inl (G_ne gcq ga0 (by decide)))).trans (f6226 j hj)
                  have f6272 : ∀ j : Nat, j ≠ li.toNatClampNeg → fI H6265 dq j = fI s.heap dq j := fun j hj => (Wr.neI wH6265 (Or.inl (G_ne gdq ga0 (by decide)))).trans (f6227 j hj)
                  have f6273 : CSP lw.toInt (fun j => fI H6265 sq j) (fun j => fI s.heap sq j) sc.toNatClampNeg (sc.toNatClampNeg) 3 ([]) ∧ (True) := ⟨CSP.kept f6228.1 (fun j => fI_kept (wH6265.off (G_ne gsq ga0 (by decide)))), trivial⟩
                  have f6274 : ∀ j : Nat, j ≠ li.toNatClampNeg → fI H6265 fq j = fI s.heap fq j := fun j hj => (Wr.neI wH6265 (Or.inl (G_ne gfq ga0 (by decide)))).trans (f6229 j hj)
                  have f6275 : ∀ j : Nat, j ≠ li.toNatClampNeg → fI H6265 jq j = fI s.heap jq j := fun j hj => (Wr.neI wH6265 (Or.inl (G_ne gjq ga0 (by decide)))).trans (f6230 j hj)
                  have f6276 : ∀ j : Nat, j ≠ li.toNatClampNeg → fI H6265 eq_ j = fI s.heap eq_ j := fun j hj => (Wr.neI wH6265 (Or.inl (G_ne geq_ ga0 (by decide)))).trans (f6231 j hj)
                  have m6277 := m6232.trans (Wr.neR wH6265 (Or.inl (G_ne gmq ga0 (by decide)))).symm
                  have m6278 := m6233.trans (Wr.neR wH6265 (Or.inl (G_ne gmq ga0 (by decide)))).symm
                  have m6279 := m6234.trans (Wr.neR wH6265 (Or.inl (G_ne gmq ga0 (by decide)))).symm
                  have m6280 := m6235.trans (Wr.neR wH6265 (Or.inl (G_ne gmq ga0 (by decide)))).symm
                  have m6281 := m6236.trans (Wr.neR wH6265 (Or.inl (G_ne gmq ga0 (by decide)))).symm
                  have m6282 := m6237.trans (Wr.neR wH6265 (Or.inl (G_ne gmq ga0 (by decide)))).symm
                  have m6283 := m6238.trans (Wr.neR wH6265 (Or.inl (G_ne gmq ga0 (by decide)))).symm
                  have m6284 := m6239.trans (Wr.neR wH6265 (Or.inl (G_ne gmq ga0 (by decide)))).symm
                  have m6285 := m6240.trans (Wr.neI wH6265 (Or.inl (G_ne gmq ga0 (by decide)))).symm
                  have m6286 := m6241.trans (Wr.neI wH6265 (Or.inl (G_ne gmq ga0 (by decide)))).symm
                  have m6287 := (Wr.neI wH6265 (Or.inl (G_ne gkq ga0 (by decide)))).trans m6242
                  have m6288 := m6243.trans (Wr.neI wH6265 (Or.inl (G_ne gkq ga0 (by decide)))).symm
                  have m6289 := m6244.trans (Wr.neI wH6265 (Or.inl (G_ne gwq ga0 (by decide)))).symm
                  have m6290 := m6245.trans (Wr.neI wH6265 (Or.inl (G_ne gaq ga0 (by decide)))).symm
                  have m6291 := m6246.trans (Wr.neR wH6265 (Or.inr (x_apart hKT hts inX4 tyX4 tyX4_ok nmX4 rfl 0 7 (by decide) (by decide) (by decide)))).symm
                  have m6292 := m6247.trans (Wr.neR wH6265 (Or.inr (x_apart hKT hts inX4 tyX4 tyX4_ok nmX4 rfl 3 7 (by decide) (by decide) (by decide)))).symm
                  have m6293 := m6248.trans (Wr.neR wH6265 (Or.inr (x_apart hKT hts inX4 tyX4 tyX4_ok nmX4 rfl 4 7 (by decide) (by decide) (by decide)))).symm
                  have m6294 := m6249.trans (Wr.neI wH6265 (Or.inr (x_apart hKT hts inX4 tyX4 tyX4_ok nmX4 rfl 8 7 (by decide) (by decide) (by decide)))).symm
                  have m6296 := m6251.trans (Wr.neI wH6265 (Or.inr (x_apart hKT hts inX4 tyX4 tyX4_ok nmX4 rfl 1 7 (by decide) (by decide) (by decide)))).symm
                  have m6297 := m6252.trans (Wr.neI wH6265 (Or.inl (G_ne gfq ga0 (by decide)))).symm
                  have m6298 := m6253.trans (Wr.neI wH6265 (Or.inl (G_ne gjq ga0 (by decide)))).symm
                  have m6299 := m6254.trans (Wr.neI wH6265 (Or.inl (G_ne geq_ ga0 (by decide)))).symm
                  have m6300 := m6255.trans (Wr.neI wH6265 (Or.inl (G_ne gcq ga0 (by decide)))).symm
                  have m6301 := m6256.trans (Wr.neI wH6265 (Or.inl (G_ne gkq ga0 (by decide)))).symm
                  have m6302 := m6257.trans (Wr.neI wH6265 (Or.inl (G_ne gdq ga0 (by decide)))).symm
                  have m6303 := Wr.I wH6265
                  have m6303 := m6303.symm
                  refine lv_aload_n hx hb dX4_line_241 rfl (lv_at hl5990 2 rfl) ?_
                  refine x_gr C hTH6265 (ci := 4) (k := 0) rfl inX4 (by decide) wF_X4_12 ga0 rg_78 rfl dX4_line_242 (fun q6304 eq6304 gq6304 => ?_)
                  have uq6304 : mq = q6304 := (m6291).trans eq6304.symm
                  subst uq6304
                  refine lv_dup hx hb dX4_line_245 rfl ?_
                  refine x_gi C hTH6265 (ci := 7) (k := 0) rfl inX7 (by decide) wF_X4_84 gmq rg_69 rfl dX4_line_246 (fun x6305 ex6305 bx6305 => ?_)
                  have ux6305 : li = x6305 := (m6285).trans ex6305.symm
                  subst ux6305
                  refine lv_iconst (v := 1) hx hb dX4_line_249 (by decide) ?_
                  refine lv_iadd hx hb dX4_line_250 ?_
                  refine lv_topi (fun x6306 ex6306 => ?_)
                  have tx6306 := i_add ex6306 (by omega)
                  refine x_put C hTH6265 hSH6265 (ci := 7) (k := 0) (v := .int x6306) (ty0 := tyX7) rfl inX7 tyX7_ok nmX7 (by decide) rfl wF_X4_84 gmq rg_69 rfl rfl (okI (by have := i_rng x6306; omega) (by have := i_rng x6306; omega)) rfl rfl (AE_in gmq (by decide)) dX4_line_251 (fun H6307 locsH6307 hTH6307 hSH6307 wH6307 => ?_)
                  have f6308 : ∀ j : Nat, j ≤ F.toNatClampNeg → kk j = (fI H6307 kq j).toInt := fun j hj => (f6267 j hj).trans (congrArg Int32.toInt (Wr.neI wH6307 (Or.inl (G_ne gkq gmq (by decide)))).symm)
                  have f6309 : ∀ j : Nat, j ≤ F.toNatClampNeg → vv j = (fI H6307 vq j).toInt := fun j hj => (f6268 j hj).trans (congrArg Int32.toInt (Wr.neI wH6307 (Or.inl (G_ne gvq gmq (by decide)))).symm)
                  have f6310 : ∀ j : Nat, j ≠ li.toNatClampNeg → fI H6307 wq j = fI s.heap wq j := fun j hj => (Wr.neI wH6307 (Or.inl (G_ne gwq gmq (by decide)))).trans (f6269 j hj)
                  have f6311 : ∀ j : Nat, j ≠ li.toNatClampNeg → fI H6307 aq j = fI s.heap aq j := fun j hj => (Wr.neI wH6307 (Or.inl (G_ne gaq gmq (by decide)))).trans (f6270 j hj)
                  have f6312 : ∀ j : Nat, j ≠ li.toNatClampNeg → fI H6307 cq j = fI s.heap cq j := fun j hj => (Wr.neI wH6307 (Or.inl (G_ne gcq gmq (by decide)))).trans (f6271 j hj)
                  have f6313 : ∀ j : Nat, j ≠ li.toNatClampNeg → fI H6307 dq j = fI s.heap dq j := fun j hj => (Wr.neI wH6307 (Or.inl (G_ne gdq gmq (by decide)))).trans (f6272 j hj)
                  have f6314 : CSP lw.toInt (fun j => fI H6307 sq j) (fun j => fI s.heap sq j) sc.toNatClampNeg (sc.toNatClampNeg) 3 ([]) ∧ (True) := ⟨CSP.kept f6273.1 (fun j => fI_kept (wH6307.off (G_ne gsq gmq (by decide)))), trivial⟩
                  have f6315 : ∀ j : Nat, j ≠ li.toNatClampNeg → fI H6307 fq j = fI s.heap fq j := fun j hj => (Wr.neI wH6307 (Or.inl (G_ne gfq gmq (by decide)))).trans (f6274 j hj)
                  have f6316 : ∀ j : Nat, j ≠ li.toNatClampNeg → fI H6307 jq j = fI s.heap jq j := fun j hj => (Wr.neI wH6307 (Or.inl (G_ne gjq gmq (by decide)))).trans (f6275 j hj)
                  have f6317 : ∀ j : Nat, j ≠ li.toNatClampNeg → fI H6307 eq_ j = fI s.heap eq_ j := fun j hj => (Wr.neI wH6307 (Or.inl (G_ne geq_ gmq (by decide)))).trans (f6276 j hj)
                  have m6318 := m6277.trans (Wr.neR wH6307 (Or.inr (x_apart hKT hts inX7 tyX7 tyX7_ok nmX7 rfl 8 0 (by decide) (by decide) (by decide)))).symm
                  have m6319 := m6278.trans (Wr.neR wH6307 (Or.inr (x_apart hKT hts inX7 tyX7 tyX7_ok nmX7 rfl 1 0 (by decide) (by decide) (by decide)))).symm
                  have m6320 := m6279.trans (Wr.neR wH6307 (Or.inr (x_apart hKT hts inX7 tyX7 tyX7_ok nmX7 rfl 2 0 (by decide) (by decide) (by decide)))).symm
                  have m6321 := m6280.trans (Wr.neR wH6307 (Or.inr (x_apart hKT hts inX7 tyX7 tyX7_ok nmX7 rfl 3 0 (by decide) (by decide) (by decide)))).symm
                  have m6322 := m6281.trans (Wr.neR wH6307 (Or.inr (x_apart hKT hts inX7 tyX7 tyX7_ok nmX7 rfl 4 0 (by decide) (by decide) (by decide)))).symm
                  have m6323 := m6282.trans (Wr.neR wH6307 (Or.inr (x_apart hKT hts inX7 tyX7 tyX7_ok nmX7 rfl 5 0 (by decide) (by decide) (by decide)))).symm
                  have m6324 := m6283.trans (Wr.neR wH6307 (Or.inr (x_apart hKT hts inX7 tyX7 tyX7_ok nmX7 rfl 6 0 (by decide) (by decide) (by decide)))).symm
                  have m6325 := m6284.trans (Wr.neR wH6307 (Or.inr (x_apart hKT hts inX7 tyX7 tyX7_ok nmX7 rfl 7 0 (by decide) (by decide) (by decide)))).symm
                  have m6327 := m6286.trans (Wr.neI wH6307 (Or.inr (x_apart hKT hts inX7 tyX7 tyX7_ok nmX7 rfl 9 0 (by decide) (by decide) (by decide)))).symm
                  have m6328 := (Wr.neI wH6307 (Or.inl (G_ne gkq gmq (by decide)))).trans m6287
                  have m6329 := m6288.trans (Wr.neI wH6307 (Or.inl (G_ne gkq gmq (by decide)))).symm
                  have m6330 := m6289.trans (Wr.neI wH6307 (Or.inl (G_ne gwq gmq (by decide)))).symm
                  have m6331 := m6290.trans (Wr.neI wH6307 (Or.inl (G_ne gaq gmq (by decide)))).symm
                  have m6332 := m6291.trans (Wr.neR wH6307 (Or.inl (G_ne ga0 gmq (by decide)))).symm
                  have m6333 := m6292.trans (Wr.neR wH6307 (Or.inl (G_ne ga0 gmq (by decide)))).symm
                  have m6334 := m6293.trans (Wr.neR wH6307 (Or.inl (G_ne ga0 gmq (by decide)))).symm
                  have m6335 := m6294.trans (Wr.neI wH6307 (Or.inl (G_ne ga0 gmq (by decide)))).symm
                  have m6336 := m6296.trans (Wr.neI wH6307 (Or.inl (G_ne ga0 gmq (by decide)))).symm
                  have m6337 := m6297.trans (Wr.neI wH6307 (Or.inl (G_ne gfq gmq (by decide)))).symm
                  have m6338 := m6298.trans (Wr.neI wH6307 (Or.inl (G_ne gjq gmq (by decide)))).symm
                  have m6339 := m6299.trans (Wr.neI wH6307 (Or.inl (G_ne geq_ gmq (by decide)))).symm
                  have m6340 := m6300.trans (Wr.neI wH6307 (Or.inl (G_ne gcq gmq (by decide)))).symm
                  have m6341 := m6301.trans (Wr.neI wH6307 (Or.inl (G_ne gkq gmq (by decide)))).symm
                  have m6342 := m6302.trans (Wr.neI wH6307 (Or.inl (G_ne gdq gmq (by decide)))).symm
                  have m6343 := m6303.trans (Wr.neI wH6307 (Or.inl (G_ne ga0 gmq (by decide)))).symm
                  have m6344 := Wr.I wH6307
                  have m6344 := m6344.symm
                  refine lv_iconst (v := 1) hx hb dX4_line_254 (by decide) ?_
                  have cn_F := i_cl (x := F) (by omega)
                  have cn_tat := i_cl (x := tat) (by omega)
                  have cn_x6264 := i_cl (x := x6264) (by omega)
                  have cn_x5994 := i_cl (x := x5994) (by omega)
                  have cn_x6132 := i_cl (x := x6132) (by omega)
                  have cn_tat := i_cl (x := tat) (by omega)
                  have cn_F := i_cl (x := F) (by omega)
                  have cn_x5994 := i_cl (x := x5994) (by omega)
                  have cn_x6132 := i_cl (x := x6132) (by omega)
                  exact x_zret C hQ (Or.inr rfl) dX4_line_255 hSH6307 (by decide) (by decide) (⟨1, x6264, x6133, x6306, sc, rfl, by decide, m6343, m6336, m6344, m6327, by omega, m6332, m6333, m6334, m6318, m6319, m6320, m6321, m6322, m6323, m6324, m6325, m6335, Or.inr ⟨(if_neg (by omega)).trans ((ln_go (by rw [qvx5947]; omega) qvx5947.symm (show x5994.toNatClampNeg = _ + 1 by omega) ((hs_job (by omega)).trans (RQ.yes m6138 (by omega))) (wn_0 (by rw [qvx6214]; omega))).trans ((if_pos (by rw [qvx6260]; omega)).trans (congrArg some (show _ + 1 = x6264.toNatClampNeg by omega)))), by omega⟩, (Or.inr ⟨⟨by rw [← m6330]; exact qvx5947.symm, by rw [← m6337]; unfold lf1; rw [if_neg (fun y => y.1 (by omega)), show tat.toNatClampNeg + 1 = x5994.toNatClampNeg by omega]; exact (hf6170.resolve_left (by omega)).1⟩, (fun _ => ⟨by rw [← m6339, (hf6170.resolve_left (by omega)).2.2]; unfold lf3; rw [qvx5947, show tat.toNatClampNeg + 3 = x5994.toNatClampNeg + 2 by omega, show tat.toNatClampNeg + 2 = x5994.toNatClampNeg + 1 by omega], fun z => by rw [← m6338, show tat.toNatClampNeg + 2 = x5994.toNatClampNeg + 1 by omega]; exact (hf6170.resolve_left (by omega)).2.1 (by rw [← qvx5947]; exact z)⟩), (Or.inr ⟨by omega, by rw [← m6331, ← m6340]⟩), (Or.inr ⟨by unfold lhw; rw [(lcn_at qvx5947.symm (show x5994.toNatClampNeg = _ + 1 by omega) ((hs_job (by omega)).trans (RQ.yes m6138 (by omega))))]; exact decide_eq_false (by rw [qvx6214]; omega), by rw [← m6340, ← m6342]⟩)⟩), (Or.inr f6314.1.2), (Or.inr m6342.symm), f6310, f6315, f6316, f6317, f6311, f6312, f6313, hTH6307⟩)
                · have k6262 := i_ne c6261
                  refine lv_aload_n hx hb dX4_line_225 rfl (lv_at hl5990 2 rfl) ?_
                  refine lv_iconst (v := 1) hx hb dX4_line_226 (by decide) ?_
                  refine x_V (As := [.int 1]) (rest := []) C (a_X4_refuse_e l K G H6221 (1) (x6132) (x6133) (lw) hTH6221 ga0 gmq m6246 gkq m6247 gvq m6248 m6250 m6251 m6249) yo_X4_refuse wM_X4_81 ⟨⟨by decide, by decide⟩, by decide, by decide⟩ (x_rv C hTH6221 (ci := 4) rfl ga0 rg_78) rfl hl5990.1 rfl (Nat.le_of_ble_eq_true rfl) dX4_line_227 hSH6221 (AE_sub (fun _ _ => rfl) (by decide) hSH6221.1) (fun vH6345 H6345 locsH6345 pH6345 zH6345 kH6345 hSH6345 => ?_)
                  obtain ⟨x6346, x6347, x6348, hvH6345, bx6346, ex6347, ex6348, hrH6345, m6349, m6350, m6351, m6352, hTH6345⟩ := pH6345
                  subst hvH6345
                  have f6353 : ∀ j : Nat, j ≤ F.toNatClampNeg → kk j = (fI H6345 kq j).toInt := fun j hj => (f6222 j hj).trans (congrArg Int32.toInt (fI_kept (x_lt hTH6221 kH6345 gkq (by decide))).symm)
                  have f6354 : ∀ j : Nat, j ≤ F.toNatClampNeg → vv j = (fI H6345 vq j).toInt := fun j hj => (f6223 j hj).trans (congrArg Int32.toInt (fI_kept (x_lt hTH6221 kH6345 gvq (by decide))).symm)
                  have f6355 : ∀ j : Nat, j ≠ li.toNatClampNeg → fI H6345 wq j = fI s.heap wq j := fun j hj => (fI_kept (x_lt hTH6221 kH6345 gwq (by decide))).trans (f6224 j hj)
                  have f6356 : ∀ j : Nat, j ≠ li.toNatClampNeg → fI H6345 aq j = fI s.heap aq j := fun j hj => (fI_kept (x_lt hTH6221 kH6345 gaq (by decide))).trans (f6225 j hj)
                  have f6357 : ∀ j : Nat, j ≠ li.toNatClampNeg → fI H6345 cq j = fI s.heap cq j := fun j hj => (fI_kept (x_lt hTH6221 kH6345 gcq (by decide))).trans (f6226 j hj)
                  have f6358 : ∀ j : Nat, j ≠ li.toNatClampNeg → fI H6345 dq j = fI s.heap dq j := fun j hj => (fI_kept (x_lt hTH6221 kH6345 gdq (by decide))).trans (f6227 j hj)
                  have f6359 : CSP lw.toInt (fun j => fI H6345 sq j) (fun j => fI s.heap sq j) sc.toNatClampNeg (sc.toNatClampNeg) 3 ([]) ∧ (True) := ⟨CSP.kept f6228.1 (fun j => fI_kept (x_lt hTH6221 kH6345 gsq (by decide))), trivial⟩
                  have f6360 : ∀ j : Nat, j ≠ li.toNatClampNeg → fI H6345 fq j = fI s.heap fq j := fun j hj => (fI_kept (x_lt hTH6221 kH6345 gfq (by decide))).trans (f6229 j hj)
                  have f6361 : ∀ j : Nat, j ≠ li.toNatClampNeg → fI H6345 jq j = fI s.heap jq j := fun j hj => (fI_kept (x_lt hTH6221 kH6345 gjq (by decide))).trans (f6230 j hj)
                  have f6362 : ∀ j : Nat, j ≠ li.toNatClampNeg → fI H6345 eq_ j = fI s.heap eq_ j := fun j hj => (fI_kept (x_lt hTH6221 kH6345 geq_ (by decide))).trans (f6231 j hj)
                  have m6363 := (m6232).trans (fR_kept (x_lt hTH6221 kH6345 gmq (by decide))).symm
                  have m6364 := (m6233).trans (fR_kept (x_lt hTH6221 kH6345 gmq (by decide))).symm
                  have m6365 := (m6234).trans (fR_kept (x_lt hTH6221 kH6345 gmq (by decide))).symm
                  have m6366 := (m6235).trans (fR_kept (x_lt hTH6221 kH6345 gmq (by decide))).symm
                  have m6367 := (m6236).trans (fR_kept (x_lt hTH6221 kH6345 gmq (by decide))).symm
                  have m6368 := (m6237).trans (fR_kept (x_lt hTH6221 kH6345 gmq (by decide))).symm
                  have m6369 := (m6238).trans (fR_kept (x_lt hTH6221 kH6345 gmq (by decide))).symm
                  have m6370 := (m6239).trans (fR_kept (x_lt hTH6221 kH6345 gmq (by decide))).symm
                  have m6371 := (m6240).trans (fI_kept (x_lt hTH6221 kH6345 gmq (by decide))).symm
                  have m6372 := (m6241).trans (fI_kept (x_lt hTH6221 kH6345 gmq (by decide))).symm
                  have m6373 := (fI_kept (x_lt hTH6221 kH6345 gkq (by decide))).trans m6242
                  have m6374 := (m6243).trans (fI_kept (x_lt hTH6221 kH6345 gkq (by decide))).symm
                  have m6375 := (m6244).trans (fI_kept (x_lt hTH6221 kH6345 gwq (by decide))).symm
                  have m6376 := (m6245).trans (fI_kept (x_lt hTH6221 kH6345 gaq (by decide))).symm
                  have m6377 := (m6252).trans (fI_kept (x_lt hTH6221 kH6345 gfq (by decide))).symm
                  have m6378 := (m6253).trans (fI_kept (x_lt hTH6221 kH6345 gjq (by decide))).symm
                  have m6379 := (m6254).trans (fI_kept (x_lt hTH6221 kH6345 geq_ (by decide))).symm
                  have m6380 := (m6255).trans (fI_kept (x_lt hTH6221 kH6345 gcq (by decide))).symm
                  have m6381 := (m6256).trans (fI_kept (x_lt hTH6221 kH6345 gkq (by decide))).symm
                  have m6382 := (m6257).trans (fI_kept (x_lt hTH6221 kH6345 gdq (by decide))).symm
                  have bx6347 := ty_fi (x := x6347) (k := 7) ex6347 hTH6345 ga0 rg_78 rfl
                  have bx6348 := ty_fi (x := x6348) (k := 1) ex6348 hTH6345 ga0 rg_78 rfl
                  refine W.eq (g2 := F0 m 230 ls5989 [.int x6346]) rfl ?_
                  have cn_F := i_cl (x := F) (by omega)
                  have cn_tat := i_cl (x := tat) (by omega)
                  have cn_x6347 := i_cl (x := x6347) (by omega)
                  have cn_x5994 := i_cl (x := x5994) (by omega)
                  have cn_x6132 := i_cl (x := x6132) (by omega)
                  exact x_zret C hQ (i_01 (by omega)) dX4_line_230 hSH6345 (by decide) (by decide) (⟨x6346, x6347, x6348, li, sc, rfl, by omega, ex6347, ex6348, m6371, m6372, by omega, m6349, m6350, m6351, m6363, m6364, m6365, m6366, m6367, m6368, m6369, m6370, m6352, Or.inl ⟨(if_neg (by omega)).trans ((ln_go (by rw [qvx5947]; omega) qvx5947.symm (show x5994.toNatClampNeg = _ + 1 by omega) ((hs_job (by omega)).trans (RQ.yes m6138 (by omega))) (wn_0 (by rw [qvx6214]; omega))).trans (if_neg (by rw [qvx6260]; omega))), by omega⟩, (Or.inl (by omega)), (Or.inl (by omega)), (Or.inl (by omega)), f6355, f6360, f6361, f6362, f6356, f6357, f6358, hTH6345⟩)
              · have k6216 := i_eq c6215
                refine lv_aload_n hx hb dX4_line_175 rfl (lv_at hl5990 2 rfl) ?_
                refine lv_dup hx hb dX4_line_176 rfl ?_
                refine x_gi C hTH6177 (ci := 4) (k := 7) rfl inX4 (by decide) wF_X4_42 ga0 rg_78 rfl dX4_line_177 (fun x6383 ex6383 bx6383 => ?_)
                have ux6383 : x6132 = x6383 := (m6206).trans ex6383.symm
                subst ux6383
                refine lv_iconst (v := 1) hx hb dX4_line_180 (by decide) ?_
                refine lv_iadd hx hb dX4_line_181 ?_
                refine lv_topi (fun x6384 ex6384 => ?_)
                have tx6384 := i_add ex6384 (by omega)
                have fz6386 : 0 ≤ x6384.toInt ∧ x6384.toInt ≤ 500 := by have := i_rng x6384; omega
                refine x_put C hTH6177 hSH6177 (ci := 4) (k := 7) (v := .int x6384) (ty0 := tyX4) rfl inX4 tyX4_ok nmX4 (by decide) rfl wF_X4_42 ga0 rg_78 rfl rfl (okI (by have := i_rng x6384; omega) (by have := i_rng x6384; omega)) rfl rfl (AE_in ga0 (by decide)) dX4_line_182 (fun H6385 locsH6385 hTH6385 hSH6385 wH6385 => ?_)
                have f6387 : ∀ j : Nat, j ≤ F.toNatClampNeg → kk j = (fI H6385 kq j).toInt := fun j hj => (f6178 j hj).trans (congrArg Int32.toInt (Wr.neI wH6385 (Or.inl (G_ne gkq ga0 (by decide)))).symm)
                have f6388 : ∀ j : Nat, j ≤ F.toNatClampNeg → vv j = (fI H6385 vq j).toInt := fun j hj => (f6179 j hj).trans (congrArg Int32.toInt (Wr.neI wH6385 (Or.inl (G_ne gvq ga0 (by decide)))).symm)
                have f6389 : ∀ j : Nat, j ≠ li.toNatClampNeg → fI H6385 wq j = fI s.heap wq j := fun j hj => (Wr.neI wH6385 (Or.inl (G_ne gwq ga0 (by decide)))).trans (f6180 j hj)
                have f6390 : ∀ j : Nat, j ≠ li.toNatClampNeg → fI H6385 aq j = fI s.heap aq j := fun j hj => (Wr.neI wH6385 (Or.inl (G_ne gaq ga0 (by decide)))).trans (f6181 j hj)
                have f6391 : ∀ j : Nat, j ≠ li.toNatClampNeg → fI H6385 cq j = fI s.heap cq j := fun j hj => (Wr.neI wH6385 (Or.inl (G_ne gcq ga0 (by decide)))).trans (f6182 j hj)
                have f6392 : ∀ j : Nat, j ≠ li.toNatClampNeg → fI H6385 dq j = fI s.heap dq j := fun j hj => (Wr.neI wH6385 (Or.inl (G_ne gdq ga0 (by decide)))).trans (f6183 j hj)
                have f6393 : CSP lw.toInt (fun j => fI H6385 sq j) (fun j => fI s.heap sq j) sc.toNatClampNeg (sc.toNatClampNeg) 3 ([]) ∧ (True) := ⟨CSP.kept f6184.1 (fun j => fI_kept (wH6385.off (G_ne gsq ga0 (by decide)))), trivial⟩
                have f6394 : ∀ j : Nat, j ≠ li.toNatClampNeg → fI H6385 fq j = fI s.heap fq j := fun j hj => (Wr.neI wH6385 (Or.inl (G_ne gfq ga0 (by decide)))).trans (f6185 j hj)
                have f6395 : ∀ j : Nat, j ≠ li.toNatClampNeg → fI H6385 jq j = fI s.heap jq j := fun j hj => (Wr.neI wH6385 (Or.inl (G_ne gjq ga0 (by decide)))).trans (f6186 j hj)
                have f6396 : ∀ j : Nat, j ≠ li.toNatClampNeg → fI H6385 eq_ j = fI s.heap eq_ j := fun j hj => (Wr.neI wH6385 (Or.inl (G_ne geq_ ga0 (by decide)))).trans (f6187 j hj)
                have m6397 := m6188.trans (Wr.neR wH6385 (Or.inl (G_ne gmq ga0 (by decide)))).symm
                have m6398 := m6189.trans (Wr.neR wH6385 (Or.inl (G_ne gmq ga0 (by decide)))).symm
                have m6399 := m6190.trans (Wr.neR wH6385 (Or.inl (G_ne gmq ga0 (by decide)))).symm
                have m6400 := m6191.trans (Wr.neR wH6385 (Or.inl (G_ne gmq ga0 (by decide)))).symm
                have m6401 := m6192.trans (Wr.neR wH6385 (Or.inl (G_ne gmq ga0 (by decide)))).symm
                have m6402 := m6193.trans (Wr.neR wH6385 (Or.inl (G_ne gmq ga0 (by decide)))).symm
                have m6403 := m6194.trans (Wr.neR wH6385 (Or.inl (G_ne gmq ga0 (by decide)))).symm
                have m6404 := m6195.trans (Wr.neR wH6385 (Or.inl (G_ne gmq ga0 (by decide)))).symm
                have m6405 := m6196.trans (Wr.neI wH6385 (Or.inl (G_ne gmq ga0 (by decide)))).symm
                have m6406 := m6197.trans (Wr.neI wH6385 (Or.inl (G_ne gmq ga0 (by decide)))).symm
                have m6407 := (Wr.neI wH6385 (Or.inl (G_ne gkq ga0 (by decide)))).trans m6198
                have m6408 := m6199.trans (Wr.neI wH6385 (Or.inl (G_ne gkq ga0 (by decide)))).symm
                have m6409 := m6200.trans (Wr.neI wH6385 (Or.inl (G_ne gwq ga0 (by decide)))).symm
                have m6410 := m6201.trans (Wr.neI wH6385 (Or.inl (G_ne gaq ga0 (by decide)))).symm
                have m6411 := m6202.trans (Wr.neR wH6385 (Or.inr (x_apart hKT hts inX4 tyX4 tyX4_ok nmX4 rfl 0 7 (by decide) (by decide) (by decide)))).symm
                have m6412 := m6203.trans (Wr.neR wH6385 (Or.inr (x_apart hKT hts inX4 tyX4 tyX4_ok nmX4 rfl 3 7 (by decide) (by decide) (by decide)))).symm
                have m6413 := m6204.trans (Wr.neR wH6385 (Or.inr (x_apart hKT hts inX4 tyX4 tyX4_ok nmX4 rfl 4 7 (by decide) (by decide) (by decide)))).symm
                have m6414 := m6205.trans (Wr.neI wH6385 (Or.inr (x_apart hKT hts inX4 tyX4 tyX4_ok nmX4 rfl 8 7 (by decide) (by decide) (by decide)))).symm
                have m6416 := m6207.trans (Wr.neI wH6385 (Or.inr (x_apart hKT hts inX4 tyX4 tyX4_ok nmX4 rfl 1 7 (by decide) (by decide) (by decide)))).symm
                have m6417 := m6208.trans (Wr.neI wH6385 (Or.inl (G_ne gfq ga0 (by decide)))).symm
                have m6418 := m6209.trans (Wr.neI wH6385 (Or.inl (G_ne gjq ga0 (by decide)))).symm
                have m6419 := m6210.trans (Wr.neI wH6385 (Or.inl (G_ne geq_ ga0 (by decide)))).symm
                have m6420 := m6211.trans (Wr.neI wH6385 (Or.inl (G_ne gcq ga0 (by decide)))).symm
                have m6421 := ex6214.trans (Wr.neI wH6385 (Or.inl (G_ne gkq ga0 (by decide)))).symm
                have m6422 := Wr.I wH6385
                have m6422 := m6422.symm
                refine lv_aload_n hx hb dX4_line_185 rfl (lv_at hl5990 2 rfl) ?_
                refine lv_iconst (v := 0) hx hb dX4_line_186 (by decide) ?_
                refine x_V (As := [.int 0]) (rest := []) C (a_X4_either_g0 l K G H6385 (0) (F) (x6384) (x6133) (sc) (lw) (li) kk vv hTH6385 ga0 (by decide) gmq m6411 gkq m6412 gvq m6413 gsq m6397 m6422 m6416 m6406 m6414 m6405 m6407 (by omega) (by omega) (by omega) (hy0) f6387 f6388) yo_X4_either wM_X4_113 ⟨⟨by decide, by decide⟩, by decide, by decide⟩ (x_rv C hTH6385 (ci := 4) rfl ga0 rg_78) rfl hl5990.1 rfl (Nat.le_of_ble_eq_true rfl) dX4_line_187 hSH6385 (AE_sub (fun _ _ => rfl) (by decide) hSH6385.1) (fun vH6423 H6423 locsH6423 pH6423 zH6423 kH6423 hSH6423 => ?_)
                obtain ⟨x6424, x6425, x6426, x6427, hvH6423, bx6424, ex6425, ex6426, ex6427, hrH6423, m6428, m6429, m6430, m6431, m6432, m6433, m6434, m6435, m6436, hTH6423⟩ := pH6423
                subst hvH6423
                have f6437 : ∀ j : Nat, j ≤ F.toNatClampNeg → kk j = (fI H6423 kq j).toInt := fun j hj => (f6387 j hj).trans (congrArg Int32.toInt (fI_kept (x_lt hTH6385 kH6423 gkq (by decide))).symm)
                have f6438 : ∀ j : Nat, j ≤ F.toNatClampNeg → vv j = (fI H6423 vq j).toInt := fun j hj => (f6388 j hj).trans (congrArg Int32.toInt (fI_kept (x_lt hTH6385 kH6423 gvq (by decide))).symm)
                have f6439 : ∀ j : Nat, j ≠ li.toNatClampNeg → fI H6423 wq j = fI s.heap wq j := fun j hj => (fI_kept (x_lt hTH6385 kH6423 gwq (by decide))).trans (f6389 j hj)
                have f6440 : ∀ j : Nat, j ≠ li.toNatClampNeg → fI H6423 aq j = fI s.heap aq j := fun j hj => (fI_kept (x_lt hTH6385 kH6423 gaq (by decide))).trans (f6390 j hj)
                have f6441 : ∀ j : Nat, j ≠ li.toNatClampNeg → fI H6423 cq j = fI s.heap cq j := fun j hj => (fI_kept (x_lt hTH6385 kH6423 gcq (by decide))).trans (f6391 j hj)
                have f6442 : ∀ j : Nat, j ≠ li.toNatClampNeg → fI H6423 dq j = fI s.heap dq j := fun j hj => (fI_kept (x_lt hTH6385 kH6423 gdq (by decide))).trans (f6392 j hj)
                have f6443 : ∀ j : Nat, j ≠ li.toNatClampNeg → fI H6423 fq j = fI s.heap fq j := fun j hj => (fI_kept (x_lt hTH6385 kH6423 gfq (by decide))).trans (f6394 j hj)
                have f6444 : ∀ j : Nat, j ≠ li.toNatClampNeg → fI H6423 jq j = fI s.heap jq j := fun j hj => (fI_kept (x_lt hTH6385 kH6423 gjq (by decide))).trans (f6395 j hj)
                have f6445 : ∀ j : Nat, j ≠ li.toNatClampNeg → fI H6423 eq_ j = fI s.heap eq_ j := fun j hj => (fI_kept (x_lt hTH6385 kH6423 geq_ (by decide))).trans (f6396 j hj)
                have m6446 := (fI_kept (x_lt hTH6385 kH6423 gkq (by decide))).trans m6407
                have m6447 := (m6408).trans (fI_kept (x_lt hTH6385 kH6423 gkq (by decide))).symm
                have m6448 := (m6409).trans (fI_kept (x_lt hTH6385 kH6423 gwq (by decide))).symm
                have m6449 := (m6410).trans (fI_kept (x_lt hTH6385 kH6423 gaq (by decide))).symm
                have m6450 := (m6417).trans (fI_kept (x_lt hTH6385 kH6423 gfq (by decide))).symm
                have m6451 := (m6418).trans (fI_kept (x_lt hTH6385 kH6423 gjq (by decide))).symm
                have m6452 := (m6419).trans (fI_kept (x_lt hTH6385 kH6423 geq_ (by decide))).symm
                have m6453 := (m6420).trans (fI_kept (x_lt hTH6385 kH6423 gcq (by decide))).symm
                have m6454 := (m6421).trans (fI_kept (x_lt hTH6385 kH6423 gkq (by decide))).symm
                have bx6425 := ty_fi (x := x6425) (k := 7) ex6425 hTH6423 ga0 rg_78 rfl
                have bx6426 := ty_fi (x := x6426) (k := 1) ex6426 hTH6423 ga0 rg_78 rfl
                have bx6427 := ty_fi (x := x6427) (k := 9) ex6427 hTH6423 gmq rg_69 rfl
                have m6455 := (m6398).trans (m6436 1 (by decide) (by decide)).symm
                have m6456 := (m6399).trans (m6436 2 (by decide) (by decide)).symm
                have m6457 := (m6400).trans (m6436 3 (by decide) (by decide)).symm
                have m6458 := (m6401).trans (m6436 4 (by decide) (by decide)).symm
                have m6459 := (m6402).trans (m6436 5 (by decide) (by decide)).symm
                have m6460 := (m6403).trans (m6436 6 (by decide) (by decide)).symm
                have m6461 := (m6404).trans (m6436 7 (by decide) (by decide)).symm
                refine W.eq (g2 := F0 m 190 ls5989 [.int x6424]) rfl ?_
                refine lv_if_ne (tgt := 195) hx hb dX4_line_190 (by decide) (fun c6462 => ?_) (fun c6462 => ?_)
                · have k6463 := i_ne c6462
                  have cn_sc := i_cl (x := sc) (by omega)
                  have cn_x6427 := i_cl (x := x6427) (by omega)
                  have cn_sc := i_cl (x := sc) (by omega)
                  have cn_x6384 := i_cl (x := x6384) (by omega)
                  have ho6464 := m6435.resolve_left (by omega)
                  have cs6465 : CSP lw.toInt (fun j => fI H6423 sq j) (fun j => fI s.heap sq j) sc.toNatClampNeg (sc.toNatClampNeg) 3 ([]) ∧ (CS lw.toInt (fun j => fI H6423 sq j) (sc.toNatClampNeg) (x6427.toNatClampNeg) 22 ([orG kk (paS kk vv lw.toInt 8) (paF kk vv lw.toInt 8) x6384.toNatClampNeg])) := ⟨⟨f6393.1.1.keep (fun j hj => ho6464.2 j (by omega)), fun j hj => (ho6464.2 j (by omega)).trans (f6393.1.2 j hj)⟩, ho6464.1⟩
                  refine lv_aload_n hx hb dX4_line_195 rfl (lv_at hl5990 2 rfl) ?_
                  refine x_gr C hTH6423 (ci := 4) (k := 0) rfl inX4 (by decide) wF_X4_12 ga0 rg_78 rfl dX4_line_196 (fun q6466 eq6466 gq6466 => ?_)
                  have uq6466 : mq = q6466 := (m6428).trans eq6466.symm
                  subst uq6466
                  refine x_gr C hTH6423 (ci := 7) (k := 7) rfl inX7 (by decide) wF_X4_116 gmq rg_69 rfl dX4_line_199 (fun q6467 eq6467 gq6467 => ?_)
                  have uq6467 : dq = q6467 := (m6461).trans eq6467.symm
                  subst uq6467
                  refine lv_iload_n hx hb dX4_line_202 rfl (lv_at hl5990 0 rfl) ?_
                  refine lv_aload_n hx hb dX4_line_203 rfl (lv_at hl5990 2 rfl) ?_
                  refine x_gr C hTH6423 (ci := 4) (k := 0) rfl inX4 (by decide) wF_X4_12 ga0 rg_78 rfl dX4_line_204 (fun q6468 eq6468 gq6468 => ?_)
                  have uq6468 : mq = q6468 := (m6428).trans eq6468.symm
                  subst uq6468
                  refine x_gi C hTH6423 (ci := 7) (k := 9) rfl inX7 (by decide) wF_X4_96 gmq rg_69 rfl dX4_line_207 (fun x6469 ex6469 bx6469 => ?_)
                  have ux6469 : x6427 = x6469 := (ex6427).trans ex6469.symm
                  subst ux6469
                  refine x_iast C hTH6423 hSH6423 gdq rg_76 (by omega) (by show _ < ((16 : Nat) : Int); omega) ⟨by have := i_rng x6427; omega, by have := i_rng x6427; omega⟩ (AE_in gdq (by decide)) dX4_line_210 (fun H6470 locsH6470 hTH6470 hSH6470 wH6470 => ?_)
                  have f6471 : ∀ j : Nat, j ≤ F.toNatClampNeg → kk j = (fI H6470 kq j).toInt := fun j hj => (f6437 j hj).trans (congrArg Int32.toInt (Wr.neI wH6470 (Or.inl (G_ne gkq gdq (by decide)))).symm)
                  have f6472 : ∀ j : Nat, j ≤ F.toNatClampNeg → vv j = (fI H6470 vq j).toInt := fun j hj => (f6438 j hj).trans (congrArg Int32.toInt (Wr.neI wH6470 (Or.inl (G_ne gvq gdq (by decide)))).symm)
                  have f6473 : ∀ j : Nat, j ≠ li.toNatClampNeg → fI H6470 wq j = fI s.heap wq j := fun j hj => (Wr.neI wH6470 (Or.inl (G_ne gwq gdq (by decide)))).trans (f6439 j hj)
                  have f6474 : ∀ j : Nat, j ≠ li.toNatClampNeg → fI H6470 aq j = fI s.heap aq j := fun j hj => (Wr.neI wH6470 (Or.inl (G_ne gaq gdq (by decide)))).trans (f6440 j hj)
                  have f6475 : ∀ j : Nat, j ≠ li.toNatClampNeg → fI H6470 cq j = fI s.heap cq j := fun j hj => (Wr.neI wH6470 (Or.inl (G_ne gcq gdq (by decide)))).trans (f6441 j hj)
                  have f6476 : ∀ j : Nat, j ≠ li.toNatClampNeg → fI H6470 dq j = fI s.heap dq j := fun j hj => (Wr.neI wH6470 (Or.inr hj)).trans (f6442 j hj)
                  have f6477 : ∀ j : Nat, j ≠ li.toNatClampNeg → fI H6470 fq j = fI s.heap fq j := fun j hj => (Wr.neI wH6470 (Or.inl (G_ne gfq gdq (by decide)))).trans (f6443 j hj)
                  have f6478 : ∀ j : Nat, j ≠ li.toNatClampNeg → fI H6470 jq j = fI s.heap jq j := fun j hj => (Wr.neI wH6470 (Or.inl (G_ne gjq gdq (by decide)))).trans (f6444 j hj)
                  have f6479 : ∀ j : Nat, j ≠ li.toNatClampNeg → fI H6470 eq_ j = fI s.heap eq_ j := fun j hj => (Wr.neI wH6470 (Or.inl (G_ne geq_ gdq (by decide)))).trans (f6445 j hj)
                  have f6480 : CSP lw.toInt (fun j => fI H6470 sq j) (fun j => fI s.heap sq j) sc.toNatClampNeg (sc.toNatClampNeg) 3 ([]) ∧ (CS lw.toInt (fun j => fI H6470 sq j) (sc.toNatClampNeg) (x6427.toNatClampNeg) 22 ([orG kk (paS kk vv lw.toInt 8) (paF kk vv lw.toInt 8) x6384.toNatClampNeg])) := ⟨CSP.kept cs6465.1 (fun j => fI_kept (wH6470.off (G_ne gsq gdq (by decide)))), CS.keep cs6465.2 (fun j _ => fI_kept (wH6470.off (G_ne gsq gdq (by decide))))⟩
                  have m6481 := (Wr.neI wH6470 (Or.inl (G_ne gkq gdq (by decide)))).trans m6446
                  have m6482 := m6447.trans (Wr.neI wH6470 (Or.inl (G_ne gkq gdq (by decide)))).symm
                  have m6483 := m6448.trans (Wr.neI wH6470 (Or.inl (G_ne gwq gdq (by decide)))).symm
                  have m6484 := m6449.trans (Wr.neI wH6470 (Or.inl (G_ne gaq gdq (by decide)))).symm
                  have m6485 := m6450.trans (Wr.neI wH6470 (Or.inl (G_ne gfq gdq (by decide)))).symm
                  have m6486 := m6451.trans (Wr.neI wH6470 (Or.inl (G_ne gjq gdq (by decide)))).symm
                  have m6487 := m6452.trans (Wr.neI wH6470 (Or.inl (G_ne geq_ gdq (by decide)))).symm
                  have m6488 := m6453.trans (Wr.neI wH6470 (Or.inl (G_ne gcq gdq (by decide)))).symm
                  have m6489 := m6454.trans (Wr.neI wH6470 (Or.inl (G_ne gkq gdq (by decide)))).symm
                  have m6490 := m6428.trans (Wr.neR wH6470 (Or.inl (G_ne ga0 gdq (by decide)))).symm
                  have m6491 := m6429.trans (Wr.neR wH6470 (Or.inl (G_ne ga0 gdq (by decide)))).symm
                  have m6492 := m6430.trans (Wr.neR wH6470 (Or.inl (G_ne ga0 gdq (by decide)))).symm
                  have m6493 := m6431.trans (Wr.neR wH6470 (Or.inl (G_ne gmq gdq (by decide)))).symm
                  have m6494 := m6432.trans (Wr.neI wH6470 (Or.inl (G_ne ga0 gdq (by decide)))).symm
                  have m6495 := m6433.trans (Wr.neI wH6470 (Or.inl (G_ne gmq gdq (by decide)))).symm
                  have m6496 := ex6425.trans (Wr.neI wH6470 (Or.inl (G_ne ga0 gdq (by decide)))).symm
                  have m6497 := ex6426.trans (Wr.neI wH6470 (Or.inl (G_ne ga0 gdq (by decide)))).symm
                  have m6498 := ex6427.trans (Wr.neI wH6470 (Or.inl (G_ne gmq gdq (by decide)))).symm
                  have m6499 := m6455.trans (Wr.neR wH6470 (Or.inl (G_ne gmq gdq (by decide)))).symm
                  have m6500 := m6456.trans (Wr.neR wH6470 (Or.inl (G_ne gmq gdq (by decide)))).symm
                  have m6501 := m6457.trans (Wr.neR wH6470 (Or.inl (G_ne gmq gdq (by decide)))).symm
                  have m6502 := m6458.trans (Wr.neR wH6470 (Or.inl (G_ne gmq gdq (by decide)))).symm
                  have m6503 := m6459.trans (Wr.neR wH6470 (Or.inl (G_ne gmq gdq (by decide)))).symm
                  have m6504 := m6460.trans (Wr.neR wH6470 (Or.inl (G_ne gmq gdq (by decide)))).symm
                  have m6505 := m6461.trans (Wr.neR wH6470 (Or.inl (G_ne gmq gdq (by decide)))).symm
                  have m6506 := Wr.I wH6470
                  have m6506 := m6506.symm
                  refine lv_aload_n hx hb dX4_line_211 rfl (lv_at hl5990 2 rfl) ?_
                  refine x_gr C hTH6470 (ci := 4) (k := 3) rfl inX4 (by decide) wF_X4_18 ga0 rg_78 rfl dX4_line_212 (fun q6507 eq6507 gq6507 => ?_)
                  have uq6507 : kq = q6507 := (m6491).trans eq6507.symm
                  subst uq6507
                  refine lv_aload_n hx hb dX4_line_215 rfl (lv_at hl5990 2 rfl) ?_
                  refine x_gi C hTH6470 (ci := 4) (k := 7) rfl inX4 (by decide) wF_X4_42 ga0 rg_78 rfl dX4_line_216 (fun x6508 ex6508 bx6508 => ?_)
                  have ux6508 : x6425 = x6508 := (m6496).trans ex6508.symm
                  subst ux6508
                  refine x_ai C hTH6470 gkq rg_79 ⟨by omega, by show _ < ((501 : Nat) : Int); omega⟩ dX4_line_219 (fun x6509 ex6509 bx6509 => ?_)
                  have dx6509 := el_hit ex6509 m6481
                  have qvx6509 : kk x6425.toNatClampNeg = x6509.toInt := (f6471 _ (by have h1 := i_cl (x := x6425) (by omega); have h2 := i_cl (x := F) (by omega); omega)).trans (congrArg Int32.toInt ex6509.symm)
                  refine lv_bipush (v := 59) hx hb dX4_line_220 (by decide) ?_
                  refine lv_icmp_eq (tgt := 231) hx hb dX4_line_222 (by decide) (fun c6510 => ?_) (fun c6510 => ?_)
                  · have k6511 := i_eq c6510
                    refine lv_aload_n hx hb dX4_line_231 rfl (lv_at hl5990 2 rfl) ?_
                    refine lv_dup hx hb dX4_line_232 rfl ?_
                    refine x_gi C hTH6470 (ci := 4) (k := 7) rfl inX4 (by decide) wF_X4_42 ga0 rg_78 rfl dX4_line_233 (fun x6512 ex6512 bx6512 => ?_)
                    have ux6512 : x6425 = x6512 := (m6496).trans ex6512.symm
                    subst ux6512
                    refine lv_iconst (v := 1) hx hb dX4_line_236 (by decide) ?_
                    refine lv_iadd hx hb dX4_line_237 ?_
                    refine lv_topi (fun x6513 ex6513 => ?_)
                    have tx6513 := i_add ex6513 (by omega)
                    have fz6515 : 0 ≤ x6513.toInt ∧ x6513.toInt ≤ 500 := by have := i_rng x6513; omega
                    refine x_put C hTH6470 hSH6470 (ci := 4) (k := 7) (v := .int x6513) (ty0 := tyX4) rfl inX4 tyX4_ok nmX4 (by decide) rfl wF_X4_42 ga0 rg_78 rfl rfl (okI (by have := i_rng x6513; omega) (by have := i_rng x6513; omega)) rfl rfl (AE_in ga0 (by decide)) dX4_line_238 (fun H6514 locsH6514 hTH6514 hSH6514 wH6514 => ?_)
                    have f6516 : ∀ j : Nat, j ≤ F.toNatClampNeg → kk j = (fI H6514 kq j).toInt := fun j hj => (f6471 j hj).trans (congrArg Int32.toInt (Wr.neI wH6514 (Or.inl (G_ne gkq ga0 (by decide)))).symm)
                    have f6517 : ∀ j : Nat, j ≤ F.toNatClampNeg → vv j = (fI H6514 vq j).toInt := fun j hj => (f6472 j hj).trans (congrArg Int32.toInt (Wr.neI wH6514 (Or.inl (G_ne gvq ga0 (by decide)))).symm)
                    have f6518 : ∀ j : Nat, j ≠ li.toNatClampNeg → fI H6514 wq j = fI s.heap wq j := fun j hj => (Wr.neI wH6514 (Or.inl (G_ne gwq ga0 (by decide)))).trans (f6473 j hj)
                    have f6519 : ∀ j : Nat, j ≠ li.toNatClampNeg → fI H6514 aq j = fI s.heap aq j := fun j hj => (Wr.neI wH6514 (Or.inl (G_ne gaq ga0 (by decide)))).trans (f6474 j hj)
                    have f6520 : ∀ j : Nat, j ≠ li.toNatClampNeg → fI H6514 cq j = fI s.heap cq j := fun j hj => (Wr.neI wH6514 (Or.inl (G_ne gcq ga0 (by decide)))).trans (f6475 j hj)
                    have f6521 : ∀ j : Nat, j ≠ li.toNatClampNeg → fI H6514 dq j = fI s.heap dq j := fun j hj => (Wr.neI wH6514 (Or.inl (G_ne gdq ga0 (by decide)))).trans (f6476 j hj)
                    have f6522 : ∀ j : Nat, j ≠ li.toNatClampNeg → fI H6514 fq j = fI s.heap fq j := fun j hj => (Wr.neI wH6514 (Or.inl (G_ne gfq ga0 (by decide)))).trans (f6477 j hj)
                    have f6523 : ∀ j : Nat, j ≠ li.toNatClampNeg → fI H6514 jq j = fI s.heap jq j := fun j hj => (Wr.neI wH6514 (Or.inl (G_ne gjq ga0 (by decide)))).trans (f6478 j hj)
                    have f6524 : ∀ j : Nat, j ≠ li.toNatClampNeg → fI H6514 eq_ j = fI s.heap eq_ j := fun j hj => (Wr.neI wH6514 (Or.inl (G_ne geq_ ga0 (by decide)))).trans (f6479 j hj)
                    have f6525 : CSP lw.toInt (fun j => fI H6514 sq j) (fun j => fI s.heap sq j) sc.toNatClampNeg (sc.toNatClampNeg) 3 ([]) ∧ (CS lw.toInt (fun j => fI H6514 sq j) (sc.toNatClampNeg) (x6427.toNatClampNeg) 22 ([orG kk (paS kk vv lw.toInt 8) (paF kk vv lw.toInt 8) x6384.toNatClampNeg])) := ⟨CSP.kept f6480.1 (fun j => fI_kept (wH6514.off (G_ne gsq ga0 (by decide)))), CS.keep f6480.2 (fun j _ => fI_kept (wH6514.off (G_ne gsq ga0 (by decide))))⟩
                    have m6526 := (Wr.neI wH6514 (Or.inl (G_ne gkq ga0 (by decide)))).trans m6481
                    have m6527 := m6482.trans (Wr.neI wH6514 (Or.inl (G_ne gkq ga0 (by decide)))).symm
                    have m6528 := m6483.trans (Wr.neI wH6514 (Or.inl (G_ne gwq ga0 (by decide)))).symm
                    have m6529 := m6484.trans (Wr.neI wH6514 (Or.inl (G_ne gaq ga0 (by decide)))).symm
                    have m6530 := m6485.trans (Wr.neI wH6514 (Or.inl (G_ne gfq ga0 (by decide)))).symm
                    have m6531 := m6486.trans (Wr.neI wH6514 (Or.inl (G_ne gjq ga0 (by decide)))).symm
                    have m6532 := m6487.trans (Wr.neI wH6514 (Or.inl (G_ne geq_ ga0 (by decide)))).symm
                    have m6533 := m6488.trans (Wr.neI wH6514 (Or.inl (G_ne gcq ga0 (by decide)))).symm
                    have m6534 := m6489.trans (Wr.neI wH6514 (Or.inl (G_ne gkq ga0 (by decide)))).symm
                    have m6535 := m6490.trans (Wr.neR wH6514 (Or.inr (x_apart hKT hts inX4 tyX4 tyX4_ok nmX4 rfl 0 7 (by decide) (by decide) (by decide)))).symm
                    have m6536 := m6491.trans (Wr.neR wH6514 (Or.inr (x_apart hKT hts inX4 tyX4 tyX4_ok nmX4 rfl 3 7 (by decide) (by decide) (by decide)))).symm
                    have m6537 := m6492.trans (Wr.neR wH6514 (Or.inr (x_apart hKT hts inX4 tyX4 tyX4_ok nmX4 rfl 4 7 (by decide) (by decide) (by decide)))).symm
                    have m6538 := m6493.trans (Wr.neR wH6514 (Or.inl (G_ne gmq ga0 (by decide)))).symm
                    have m6539 := m6494.trans (Wr.neI wH6514 (Or.inr (x_apart hKT hts inX4 tyX4 tyX4_ok nmX4 rfl 8 7 (by decide) (by decide) (by decide)))).symm
                    have m6540 := m6495.trans (Wr.neI wH6514 (Or.inl (G_ne gmq ga0 (by decide)))).symm
                    have m6542 := m6497.trans (Wr.neI wH6514 (Or.inr (x_apart hKT hts inX4 tyX4 tyX4_ok nmX4 rfl 1 7 (by decide) (by decide) (by decide)))).symm
                    have m6543 := m6498.trans (Wr.neI wH6514 (Or.inl (G_ne gmq ga0 (by decide)))).symm
                    have m6544 := m6499.trans (Wr.neR wH6514 (Or.inl (G_ne gmq ga0 (by decide)))).symm
                    have m6545 := m6500.trans (Wr.neR wH6514 (Or.inl (G_ne gmq ga0 (by decide)))).symm
                    have m6546 := m6501.trans (Wr.neR wH6514 (Or.inl (G_ne gmq ga0 (by decide)))).symm
                    have m6547 := m6502.trans (Wr.neR wH6514 (Or.inl (G_ne gmq ga0 (by decide)))).symm
                    have m6548 := m6503.trans (Wr.neR wH6514 (Or.inl (G_ne gmq ga0 (by decide)))).symm
                    have m6549 := m6504.trans (Wr.neR wH6514 (Or.inl (G_ne gmq ga0 (by decide)))).symm
                    have m6550 := m6505.trans (Wr.neR wH6514 (Or.inl (G_ne gmq ga0 (by decide)))).symm
                    have m6551 := m6506.trans (Wr.neI wH6514 (Or.inl (G_ne gdq ga0 (by decide)))).symm
                    have m6552 := ex6509.trans (Wr.neI wH6514 (Or.inl (G_ne gkq ga0 (by decide)))).symm
                    have m6553 := Wr.I wH6514
                    have m6553 := m6553.symm
                    refine lv_aload_n hx hb dX4_line_241 rfl (lv_at hl5990 2 rfl) ?_
                    refine x_gr C hTH6514 (ci := 4) (k := 0) rfl inX4 (by decide) wF_X4_12 ga0 rg_78 rfl dX4_line_242 (fun q6554 eq6554 gq6554 => ?_)
                    have uq6554 : mq = q6554 := (m6535).trans eq6554.symm
                    subst uq6554
                    refine lv_dup hx hb dX4_line_245 rfl ?_
                    refine x_gi C hTH6514 (ci := 7) (k := 0) rfl inX7 (by decide) wF_X4_84 gmq rg_69 rfl dX4_line_246 (fun x6555 ex6555 bx6555 => ?_)
                    have ux6555 : li = x6555 := (m6540).trans ex6555.symm
                    subst ux6555
                    refine lv_iconst (v := 1) hx hb dX4_line_249 (by decide) ?_
                    refine lv_iadd hx hb dX4_line_250 ?_
                    refine lv_topi (fun x6556 ex6556 => ?_)
                    have tx6556 := i_add ex6556 (by omega)
                    refine x_put C hTH6514 hSH6514 (ci := 7) (k := 0) (v := .int x6556) (ty0 := tyX7) rfl inX7 tyX7_ok nmX7 (by decide) rfl wF_X4_84 gmq rg_69 rfl rfl (okI (by have := i_rng x6556; omega) (by have := i_rng x6556; omega)) rfl rfl (AE_in gmq (by decide)) dX4_line_251 (fun H6557 locsH6557 hTH6557 hSH6557 wH6557 => ?_)
                    have f6558 : ∀ j : Nat, j ≤ F.toNatClampNeg → kk j = (fI H6557 kq j).toInt := fun j hj => (f6516 j hj).trans (congrArg Int32.toInt (Wr.neI wH6557 (Or.inl (G_ne gkq gmq (by decide)))).symm)
                    have f6559 : ∀ j : Nat, j ≤ F.toNatClampNeg → vv j = (fI H6557 vq j).toInt := fun j hj => (f6517 j hj).trans (congrArg Int32.toInt (Wr.neI wH6557 (Or.inl (G_ne gvq gmq (by decide)))).symm)
                    have f6560 : ∀ j : Nat, j ≠ li.toNatClampNeg → fI H6557 wq j = fI s.heap wq j := fun j hj => (Wr.neI wH6557 (Or.inl (G_ne gwq gmq (by decide)))).trans (f6518 j hj)
                    have f6561 : ∀ j : Nat, j ≠ li.toNatClampNeg → fI H6557 aq j = fI s.heap aq j := fun j hj => (Wr.neI wH6557 (Or.inl (G_ne gaq gmq (by decide)))).trans (f6519 j hj)
                    have f6562 : ∀ j : Nat, j ≠ li.toNatClampNeg → fI H6557 cq j = fI s.heap cq j := fun j hj => (Wr.neI wH6557 (Or.inl (G_ne gcq gmq (by decide)))).trans (f6520 j hj)
                    have f6563 : ∀ j : Nat, j ≠ li.toNatClampNeg → fI H6557 dq j = fI s.heap dq j := fun j hj => (Wr.neI wH6557 (Or.inl (G_ne gdq gmq (by decide)))).trans (f6521 j hj)
                    have f6564 : ∀ j : Nat, j ≠ li.toNatClampNeg → fI H6557 fq j = fI s.heap fq j := fun j hj => (Wr.neI wH6557 (Or.inl (G_ne gfq gmq (by decide)))).trans (f6522 j hj)
                    have f6565 : ∀ j : Nat, j ≠ li.toNatClampNeg → fI H6557 jq j = fI s.heap jq j := fun j hj => (Wr.neI wH6557 (Or.inl (G_ne gjq gmq (by decide)))).trans (f6523 j hj)
                    have f6566 : ∀ j : Nat, j ≠ li.toNatClampNeg → fI H6557 eq_ j = fI s.heap eq_ j := fun j hj => (Wr.neI wH6557 (Or.inl (G_ne geq_ gmq (by decide)))).trans (f6524 j hj)
                    have f6567 : CSP lw.toInt (fun j => fI H6557 sq j) (fun j => fI s.heap sq j) sc.toNatClampNeg (sc.toNatClampNeg) 3 ([]) ∧ (CS lw.toInt (fun j => fI H6557 sq j) (sc.toNatClampNeg) (x6427.toNatClampNeg) 22 ([orG kk (paS kk vv lw.toInt 8) (paF kk vv lw.toInt 8) x6384.toNatClampNeg])) := ⟨CSP.kept f6525.1 (fun j => fI_kept (wH6557.off (G_ne gsq gmq (by decide)))), CS.keep f6525.2 (fun j _ => fI_kept (wH6557.off (G_ne gsq gmq (by decide))))⟩
                    have m6568 := (Wr.neI wH6557 (Or.inl (G_ne gkq gmq (by decide)))).trans m6526
                    have m6569 := m6527.trans (Wr.neI wH6557 (Or.inl (G_ne gkq gmq (by decide)))).symm
                    have m6570 := m6528.trans (Wr.neI wH6557 (Or.inl (G_ne gwq gmq (by decide)))).symm
                    have m6571 := m6529.trans (Wr.neI wH6557 (Or.inl (G_ne gaq gmq (by decide)))).symm
                    have m6572 := m6530.trans (Wr.neI wH6557 (Or.inl (G_ne gfq gmq (by decide)))).symm
                    have m6573 := m6531.trans (Wr.neI wH6557 (Or.inl (G_ne gjq gmq (by decide)))).symm
                    have m6574 := m6532.trans (Wr.neI wH6557 (Or.inl (G_ne geq_ gmq (by decide)))).symm
                    have m6575 := m6533.trans (Wr.neI wH6557 (Or.inl (G_ne gcq gmq (by decide)))).symm
                    have m6576 := m6534.trans (Wr.neI wH6557 (Or.inl (G_ne gkq gmq (by decide)))).symm
                    have m6577 := m6535.trans (Wr.neR wH6557 (Or.inl (G_ne ga0 gmq (by decide)))).symm
                    have m6578 := m6536.trans (Wr.neR wH6557 (Or.inl (G_ne ga0 gmq (by decide)))).symm
                    have m6579 := m6537.trans (Wr.neR wH6557 (Or.inl (G_ne ga0 gmq (by decide)))).symm
                    have m6580 := m6538.trans (Wr.neR wH6557 (Or.inr (x_apart hKT hts inX7 tyX7 tyX7_ok nmX7 rfl 8 0 (by decide) (by decide) (by decide)))).symm
                    have m6581 := m6539.trans (Wr.neI wH6557 (Or.inl (G_ne ga0 gmq (by decide)))).symm
                    have m6583 := m6542.trans (Wr.neI wH6557 (Or.inl (G_ne ga0 gmq (by decide)))).symm
                    have m6584 := m6543.trans (Wr.neI wH6557 (Or.inr (x_apart hKT hts inX7 tyX7 tyX7_ok nmX7 rfl 9 0 (by decide) (by decide) (by decide)))).symm
                    have m6585 := m6544.trans (Wr.neR wH6557 (Or.inr (x_apart hKT hts inX7 tyX7 tyX7_ok nmX7 rfl 1 0 (by decide) (by decide) (by decide)))).symm
                    have m6586 := m6545.trans (Wr.neR wH6557 (Or.inr (x_apart hKT hts inX7 tyX7 tyX7_ok nmX7 rfl 2 0 (by decide) (by decide) (by decide)))).symm
                    have m6587 := m6546.trans (Wr.neR wH6557 (Or.inr (x_apart hKT hts inX7 tyX7 tyX7_ok nmX7 rfl 3 0 (by decide) (by decide) (by decide)))).symm
                    have m6588 := m6547.trans (Wr.neR wH6557 (Or.inr (x_apart hKT hts inX7 tyX7 tyX7_ok nmX7 rfl 4 0 (by decide) (by decide) (by decide)))).symm
                    have m6589 := m6548.trans (Wr.neR wH6557 (Or.inr (x_apart hKT hts inX7 tyX7 tyX7_ok nmX7 rfl 5 0 (by decide) (by decide) (by decide)))).symm
                    have m6590 := m6549.trans (Wr.neR wH6557 (Or.inr (x_apart hKT hts inX7 tyX7 tyX7_ok nmX7 rfl 6 0 (by decide) (by decide) (by decide)))).symm
                    have m6591 := m6550.trans (Wr.neR wH6557 (Or.inr (x_apart hKT hts inX7 tyX7 tyX7_ok nmX7 rfl 7 0 (by decide) (by decide) (by decide)))).symm
                    have m6592 := m6551.trans (Wr.neI wH6557 (Or.inl (G_ne gdq gmq (by decide)))).symm
                    have m6593 := m6552.trans (Wr.neI wH6557 (Or.inl (G_ne gkq gmq (by decide)))).symm
                    have m6594 := m6553.trans (Wr.neI wH6557 (Or.inl (G_ne ga0 gmq (by decide)))).symm
                    have m6595 := Wr.I wH6557
                    have m6595 := m6595.symm
                    refine lv_iconst (v := 1) hx hb dX4_line_254 (by decide) ?_
                    have cn_F := i_cl (x := F) (by omega)
                    have cn_tat := i_cl (x := tat) (by omega)
                    have cn_x6513 := i_cl (x := x6513) (by omega)
                    have cn_x5994 := i_cl (x := x5994) (by omega)
                    have cn_x6132 := i_cl (x := x6132) (by omega)
                    have cn_x6425 := i_cl (x := x6425) (by omega)
                    have cn_x6384 := i_cl (x := x6384) (by omega)
                    have cn_tat := i_cl (x := tat) (by omega)
                    have cn_F := i_cl (x := F) (by omega)
                    have cn_x5994 := i_cl (x := x5994) (by omega)
                    have cn_x6132 := i_cl (x := x6132) (by omega)
                    have cn_x6425 := i_cl (x := x6425) (by omega)
                    have cn_x6384 := i_cl (x := x6384) (by omega)
                    exact x_zret C hQ (Or.inr rfl) dX4_line_255 hSH6557 (by decide) (by decide) (⟨1, x6513, x6426, x6556, x6427, rfl, by decide, m6594, m6583, m6595, m6584, by omega, m6577, m6578, m6579, m6580, m6585, m6586, m6587, m6588, m6589, m6590, m6591, m6581, Or.inr ⟨(if_neg (by omega)).trans ((ln_go (by rw [qvx5947]; omega) qvx5947.symm (show x5994.toNatClampNeg = _ + 1 by omega) ((hs_job (by omega)).trans (RQ.yes m6138 (by omega))) (wn_yes (by rw [qvx6214]; omega) (show x6384.toNatClampNeg = _ + 1 by omega) (RQ.yes m6434 (by omega)))).trans ((if_pos (by rw [qvx6509]; omega)).trans (congrArg some (show _ + 1 = x6513.toNatClampNeg by omega)))), by omega⟩, (Or.inr ⟨⟨by rw [← m6570]; exact qvx5947.symm, by rw [← m6572]; unfold lf1; rw [if_neg (fun y => y.1 (by omega)), show tat.toNatClampNeg + 1 = x5994.toNatClampNeg by omega]; exact (hf6170.resolve_left (by omega)).1⟩, (fun _ => ⟨by rw [← m6574, (hf6170.resolve_left (by omega)).2.2]; unfold lf3; rw [qvx5947, show tat.toNatClampNeg + 3 = x5994.toNatClampNeg + 2 by omega, show tat.toNatClampNeg + 2 = x5994.toNatClampNeg + 1 by omega], fun z => by rw [← m6573, show tat.toNatClampNeg + 2 = x5994.toNatClampNeg + 1 by omega]; exact (hf6170.resolve_left (by omega)).2.1 (by rw [← qvx5947]; exact z)⟩), (Or.inr ⟨by omega, by rw [← m6571, ← m6575]⟩), (Or.inl ⟨by unfold lhw; rw [(lcn_at qvx5947.symm (show x5994.toNatClampNeg = _ + 1 by omega) ((hs_job (by omega)).trans (RQ.yes m6138 (by omega))))]; exact decide_eq_true (by rw [qvx6214]; omega), by have z := CS.lt f6567.2 (by decide); rw [← m6575, ← m6592]; omega, by rw [← m6575, ← m6592]; unfold lfw; rw [(lcn_at qvx5947.symm (show x5994.toNatClampNeg = _ + 1 by omega) ((hs_job (by omega)).trans (RQ.yes m6138 (by omega)))), show x6132.toNatClampNeg + 1 = x6384.toNatClampNeg by omega]; exact f6567.2⟩)⟩), (Or.inr f6567.1.2), (Or.inr m6592.symm), f6560, f6564, f6565, f6566, f6561, f6562, f6563, hTH6557⟩)
                  · have k6511 := i_ne c6510
                    refine lv_aload_n hx hb dX4_line_225 rfl (lv_at hl5990 2 rfl) ?_
                    refine lv_iconst (v := 1) hx hb dX4_line_226 (by decide) ?_
                    refine x_V (As := [.int 1]) (rest := []) C (a_X4_refuse_e l K G H6470 (1) (x6425) (x6426) (lw) hTH6470 ga0 gmq m6490 gkq m6491 gvq m6492 m6496 m6497 m6494) yo_X4_refuse wM_X4_81 ⟨⟨by decide, by decide⟩, by decide, by decide⟩ (x_rv C hTH6470 (ci := 4) rfl ga0 rg_78) rfl hl5990.1 rfl (Nat.le_of_ble_eq_true rfl) dX4_line_227 hSH6470 (AE_sub (fun _ _ => rfl) (by decide) hSH6470.1) (fun vH6596 H6596 locsH6596 pH6596 zH6596 kH6596 hSH6596 => ?_)
                    obtain ⟨x6597, x6598, x6599, hvH6596, bx6597, ex6598, ex6599, hrH6596, m6600, m6601, m6602, m6603, hTH6596⟩ := pH6596
                    subst hvH6596
                    have f6604 : ∀ j : Nat, j ≤ F.toNatClampNeg → kk j = (fI H6596 kq j).toInt := fun j hj => (f6471 j hj).trans (congrArg Int32.toInt (fI_kept (x_lt hTH6470 kH6596 gkq (by decide))).symm)
                    have f6605 : ∀ j : Nat, j ≤ F.toNatClampNeg → vv j = (fI H6596 vq j).toInt := fun j hj => (f6472 j hj).trans (congrArg Int32.toInt (fI_kept (x_lt hTH6470 kH6596 gvq (by decide))).symm)
                    have f6606 : ∀ j : Nat, j ≠ li.toNatClampNeg → fI H6596 wq j = fI s.heap wq j := fun j hj => (fI_kept (x_lt hTH6470 kH6596 gwq (by decide))).trans (f6473 j hj)
                    have f6607 : ∀ j : Nat, j ≠ li.toNatClampNeg → fI H6596 aq j = fI s.heap aq j := fun j hj => (fI_kept (x_lt hTH6470 kH6596 gaq (by decide))).trans (f6474 j hj)
                    have f6608 : ∀ j : Nat, j ≠ li.toNatClampNeg → fI H6596 cq j = fI s.heap cq j := fun j hj => (fI_kept (x_lt hTH6470 kH6596 gcq (by decide))).trans (f6475 j hj)
                    have f6609 : ∀ j : Nat, j ≠ li.toNatClampNeg → fI H6596 dq j = fI s.heap dq j := fun j hj => (fI_kept (x_lt hTH6470 kH6596 gdq (by decide))).trans (f6476 j hj)
                    have f6610 : ∀ j : Nat, j ≠ li.toNatClampNeg → fI H6596 fq j = fI s.heap fq j := fun j hj => (fI_kept (x_lt hTH6470 kH6596 gfq (by decide))).trans (f6477 j hj)
                    have f6611 : ∀ j : Nat, j ≠ li.toNatClampNeg → fI H6596 jq j = fI s.heap jq j := fun j hj => (fI_kept (x_lt hTH6470 kH6596 gjq (by decide))).trans (f6478 j hj)
                    have f6612 : ∀ j : Nat, j ≠ li.toNatClampNeg → fI H6596 eq_ j = fI s.heap eq_ j := fun j hj => (fI_kept (x_lt hTH6470 kH6596 geq_ (by decide))).trans (f6479 j hj)
                    have f6613 : CSP lw.toInt (fun j => fI H6596 sq j) (fun j => fI s.heap sq j) sc.toNatClampNeg (sc.toNatClampNeg) 3 ([]) ∧ (CS lw.toInt (fun j => fI H6596 sq j) (sc.toNatClampNeg) (x6427.toNatClampNeg) 22 ([orG kk (paS kk vv lw.toInt 8) (paF kk vv lw.toInt 8) x6384.toNatClampNeg])) := ⟨CSP.kept f6480.1 (fun j => fI_kept (x_lt hTH6470 kH6596 gsq (by decide))), CS.keep f6480.2 (fun j _ => fI_kept (x_lt hTH6470 kH6596 gsq (by decide)))⟩
                    have m6614 := (fI_kept (x_lt hTH6470 kH6596 gkq (by decide))).trans m6481
                    have m6615 := (m6482).trans (fI_kept (x_lt hTH6470 kH6596 gkq (by decide))).symm
                    have m6616 := (m6483).trans (fI_kept (x_lt hTH6470 kH6596 gwq (by decide))).symm
                    have m6617 := (m6484).trans (fI_kept (x_lt hTH6470 kH6596 gaq (by decide))).symm
                    have m6618 := (m6485).trans (fI_kept (x_lt hTH6470 kH6596 gfq (by decide))).symm
                    have m6619 := (m6486).trans (fI_kept (x_lt hTH6470 kH6596 gjq (by decide))).symm
                    have m6620 := (m6487).trans (fI_kept (x_lt hTH6470 kH6596 geq_ (by decide))).symm
                    have m6621 := (m6488).trans (fI_kept (x_lt hTH6470 kH6596 gcq (by decide))).symm
                    have m6622 := (m6489).trans (fI_kept (x_lt hTH6470 kH6596 gkq (by decide))).symm
                    have m6623 := (m6493).trans (fR_kept (x_lt hTH6470 kH6596 gmq (by decide))).symm
                    have m6624 := (m6495).trans (fI_kept (x_lt hTH6470 kH6596 gmq (by decide))).symm
                    have m6625 := (m6498).trans (fI_kept (x_lt hTH6470 kH6596 gmq (by decide))).symm
                    have m6626 := (m6499).trans (fR_kept (x_lt hTH6470 kH6596 gmq (by decide))).symm
                    have m6627 := (m6500).trans (fR_kept (x_lt hTH6470 kH6596 gmq (by decide))).symm
                    have m6628 := (m6501).trans (fR_kept (x_lt hTH6470 kH6596 gmq (by decide))).symm
                    have m6629 := (m6502).trans (fR_kept (x_lt hTH6470 kH6596 gmq (by decide))).symm
                    have m6630 := (m6503).trans (fR_kept (x_lt hTH6470 kH6596 gmq (by decide))).symm
                    have m6631 := (m6504).trans (fR_kept (x_lt hTH6470 kH6596 gmq (by decide))).symm
                    have m6632 := (m6505).trans (fR_kept (x_lt hTH6470 kH6596 gmq (by decide))).symm
                    have m6633 := (m6506).trans (fI_kept (x_lt hTH6470 kH6596 gdq (by decide))).symm
                    have m6634 := (ex6509).trans (fI_kept (x_lt hTH6470 kH6596 gkq (by decide))).symm
                    have bx6598 := ty_fi (x := x6598) (k := 7) ex6598 hTH6596 ga0 rg_78 rfl
                    have bx6599 := ty_fi (x := x6599) (k := 1) ex6599 hTH6596 ga0 rg_78 rfl
                    refine W.eq (g2 := F0 m 230 ls5989 [.int x6597]) rfl ?_
                    have cn_F := i_cl (x := F) (by omega)
                    have cn_tat := i_cl (x := tat) (by omega)
                    have cn_x6598 := i_cl (x := x6598) (by omega)
                    have cn_x5994 := i_cl (x := x5994) (by omega)
                    have cn_x6132 := i_cl (x := x6132) (by omega)
                    have cn_x6425 := i_cl (x := x6425) (by omega)
                    have cn_x6384 := i_cl (x := x6384) (by omega)
                    exact x_zret C hQ (i_01 (by omega)) dX4_line_230 hSH6596 (by decide) (by decide) (⟨x6597, x6598, x6599, li, x6427, rfl, by omega, ex6598, ex6599, m6624, m6625, by omega, m6600, m6601, m6602, m6623, m6626, m6627, m6628, m6629, m6630, m6631, m6632, m6603, Or.inl ⟨(if_neg (by omega)).trans ((ln_go (by rw [qvx5947]; omega) qvx5947.symm (show x5994.toNatClampNeg = _ + 1 by omega) ((hs_job (by omega)).trans (RQ.yes m6138 (by omega))) (wn_yes (by rw [qvx6214]; omega) (show x6384.toNatClampNeg = _ + 1 by omega) (RQ.yes m6434 (by omega)))).trans (if_neg (by rw [qvx6509]; omega))), by omega⟩, (Or.inl (by omega)), (Or.inl (by omega)), (Or.inl (by omega)), f6606, f6610, f6611, f6612, f6607, f6608, f6609, hTH6596⟩)
                · have k6463 := i_eq c6462
                  refine lv_iconst (v := 0) hx hb dX4_line_193 (by decide) ?_
                  have cn_F := i_cl (x := F) (by omega)
                  have cn_tat := i_cl (x := tat) (by omega)
                  have cn_x6425 := i_cl (x := x6425) (by omega)
                  have cn_x5994 := i_cl (x := x5994) (by omega)
                  have cn_x6132 := i_cl (x := x6132) (by omega)
                  have cn_x6425 := i_cl (x := x6425) (by omega)
                  have cn_x6384 := i_cl (x := x6384) (by omega)
                  exact x_zret C hQ (Or.inl rfl) dX4_line_194 hSH6423 (by decide) (by decide) (⟨0, x6425, x6426, li, x6427, rfl, by decide, ex6425, ex6426, m6433, ex6427, by omega, m6428, m6429, m6430, m6431, m6455, m6456, m6457, m6458, m6459, m6460, m6461, m6432, Or.inl ⟨(if_neg (by omega)).trans (ln_no2 (by rw [qvx5947]; omega) qvx5947.symm (show x5994.toNatClampNeg = _ + 1 by omega) ((hs_job (by omega)).trans (RQ.yes m6138 (by omega))) (wn_no (by rw [qvx6214]; omega) (show x6384.toNatClampNeg = _ + 1 by omega) (RQ.no m6434 (by omega)))), by omega⟩, (Or.inl (by rfl)), (Or.inl (by rfl)), (Or.inl (by rfl)), f6439, f6443, f6444, f6445, f6440, f6441, f6442, hTH6423⟩)
            · have k6172 := i_eq c6171
              refine lv_iconst (v := 0) hx hb dX4_line_143 (by decide) ?_
              have cn_F := i_cl (x := F) (by omega)
              have cn_tat := i_cl (x := tat) (by omega)
              have cn_x6132 := i_cl (x := x6132) (by omega)
              have cn_x5994 := i_cl (x := x5994) (by omega)
              have cn_x6132 := i_cl (x := x6132) (by omega)
              exact x_zret C hQ (Or.inl rfl) dX4_line_144 hSH6130 (by decide) (by decide) (⟨0, x6132, x6133, li, sc, rfl, by decide, ex6132, ex6133, m6158, m6159, by omega, m6134, m6135, m6136, m6150, m6151, m6152, m6153, m6154, m6155, m6156, m6157, m6137, Or.inl ⟨(if_neg (by omega)).trans (ln_no1 (by rw [qvx5947]; omega) qvx5947.symm (show x5994.toNatClampNeg = _ + 1 by omega) ((hs_job (by omega)).trans (RQ.no m6138 (by omega)))), by omega⟩, (Or.inl (by rfl)), (Or.inl (by rfl)), (Or.inl (by rfl)), f6145, f6164, f6166, f6168, f6146, f6147, f6148, hTH6130⟩)
          · have k6129 := i_ne c6128
            exfalso
            omega
        · have k5992 := i_nlt c5991
          refine lv_aload_n hx hb dX4_line_56 rfl (lv_at hl5990 2 rfl) ?_
          refine lv_iconst (v := 3) hx hb dX4_line_57 (by decide) ?_
          refine x_V (As := [.int 3]) (rest := []) C (a_X4_refuse_e l K G s.heap (3) (tat) (fa) (lw) hT ga0 gmq emq gkq ekq gvq evq etat efa elw) yo_X4_refuse wM_X4_81 ⟨⟨by decide, by decide⟩, by decide, by decide⟩ (x_rv C hT (ci := 4) rfl ga0 rg_78) rfl hl5990.1 rfl (Nat.le_of_ble_eq_true rfl) dX4_line_58 hS (AE_sub (fun _ _ => rfl) (by decide) hS.1) (fun vH6635 H6635 locsH6635 pH6635 zH6635 kH6635 hSH6635 => ?_)
          obtain ⟨x6636, x6637, x6638, hvH6635, bx6636, ex6637, ex6638, hrH6635, m6639, m6640, m6641, m6642, hTH6635⟩ := pH6635
          subst hvH6635
          have f6643 : ∀ j : Nat, j ≤ F.toNatClampNeg → kk j = (fI H6635 kq j).toInt := fun j hj => (f0_kk j hj).trans (congrArg Int32.toInt (fI_kept (x_lt hT kH6635 gkq (by decide))).symm)
          have f6644 : ∀ j : Nat, j ≤ F.toNatClampNeg → vv j = (fI H6635 vq j).toInt := fun j hj => (f0_vv j hj).trans (congrArg Int32.toInt (fI_kept (x_lt hT kH6635 gvq (by decide))).symm)
          have f6645 : ∀ j : Nat, j ≠ li.toNatClampNeg → fI H6635 wq j = fI s.heap wq j := fun j hj => (fI_kept (x_lt hT kH6635 gwq (by decide))).trans (f0_s_wq j hj)
          have f6646 : ∀ j : Nat, j ≠ li.toNatClampNeg → fI H6635 fq j = fI s.heap fq j := fun j hj => (fI_kept (x_lt hT kH6635 gfq (by decide))).trans (f0_s_fq j hj)
          have f6647 : ∀ j : Nat, j ≠ li.toNatClampNeg → fI H6635 jq j = fI s.heap jq j := fun j hj => (fI_kept (x_lt hT kH6635 gjq (by decide))).trans (f0_s_jq j hj)
          have f6648 : ∀ j : Nat, j ≠ li.toNatClampNeg → fI H6635 eq_ j = fI s.heap eq_ j := fun j hj => (fI_kept (x_lt hT kH6635 geq_ (by decide))).trans (f0_s_eq_ j hj)
          have f6649 : ∀ j : Nat, j ≠ li.toNatClampNeg → fI H6635 aq j = fI s.heap aq j := fun j hj => (fI_kept (x_lt hT kH6635 gaq (by decide))).trans (f0_s_aq j hj)
          have f6650 : ∀ j : Nat, j ≠ li.toNatClampNeg → fI H6635 cq j = fI s.heap cq j := fun j hj => (fI_kept (x_lt hT kH6635 gcq (by decide))).trans (f0_s_cq j hj)
          have f6651 : ∀ j : Nat, j ≠ li.toNatClampNeg → fI H6635 dq j = fI s.heap dq j := fun j hj => (fI_kept (x_lt hT kH6635 gdq (by decide))).trans (f0_s_dq j hj)
          have f6652 : CSP lw.toInt (fun j => fI H6635 sq j) (fun j => fI s.heap sq j) sc.toNatClampNeg (sc.toNatClampNeg) 3 ([]) ∧ (True) := ⟨CSP.kept f0_cs.1 (fun j => fI_kept (x_lt hT kH6635 gsq (by decide))), trivial⟩
          have m6653 := (esq).trans (fR_kept (x_lt hT kH6635 gmq (by decide))).symm
          have m6654 := (ewq).trans (fR_kept (x_lt hT kH6635 gmq (by decide))).symm
          have m6655 := (efq).trans (fR_kept (x_lt hT kH6635 gmq (by decide))).symm
          have m6656 := (ejq).trans (fR_kept (x_lt hT kH6635 gmq (by decide))).symm
          have m6657 := (eeq_).trans (fR_kept (x_lt hT kH6635 gmq (by decide))).symm
          have m6658 := (eaq).trans (fR_kept (x_lt hT kH6635 gmq (by decide))).symm
          have m6659 := (ecq).trans (fR_kept (x_lt hT kH6635 gmq (by decide))).symm
          have m6660 := (edq).trans (fR_kept (x_lt hT kH6635 gmq (by decide))).symm
          have m6661 := (eli).trans (fI_kept (x_lt hT kH6635 gmq (by decide))).symm
          have m6662 := (esc).trans (fI_kept (x_lt hT kH6635 gmq (by decide))).symm
          have m6663 := (fI_kept (x_lt hT kH6635 gkq (by decide))).trans hel0
          have m6664 := (ex5947).trans (fI_kept (x_lt hT kH6635 gkq (by decide))).symm
          have bx6637 := ty_fi (x := x6637) (k := 7) ex6637 hTH6635 ga0 rg_78 rfl
          have bx6638 := ty_fi (x := x6638) (k := 1) ex6638 hTH6635 ga0 rg_78 rfl
          refine W.eq (g2 := F0 m 61 ls5989 [.int x6636]) rfl ?_
          have cn_F := i_cl (x := F) (by omega)
          have cn_tat := i_cl (x := tat) (by omega)
          have cn_x6637 := i_cl (x := x6637) (by omega)
          exact x_zret C hQ (i_01 (by omega)) dX4_line_61 hSH6635 (by decide) (by decide) (⟨x6636, x6637, x6638, li, sc, rfl, by omega, ex6637, ex6638, m6661, m6662, by omega, m6639, m6640, m6641, m6653, m6654, m6655, m6656, m6657, m6658, m6659, m6660, m6642, Or.inl ⟨if_pos (by omega), by omega⟩, (Or.inl (by omega)), (Or.inl (by omega)), (Or.inl (by omega)), f6645, f6646, f6647, f6648, f6649, f6650, f6651, hTH6635⟩)
      · have k5986 := i_nle c5985
        refine lv_aload_n hx hb dX4_line_36 rfl (lv_at hl5949 1 rfl) ?_
        refine lv_iconst (v := 1) hx hb dX4_line_37 (by decide) ?_
        refine x_V (As := [.int 1]) (rest := []) C (a_X4_refuse_e l K G s.heap (1) (tat) (fa) (lw) hT ga0 gmq emq gkq ekq gvq evq etat efa elw) yo_X4_refuse wM_X4_81 ⟨⟨by decide, by decide⟩, by decide, by decide⟩ (x_rv C hT (ci := 4) rfl ga0 rg_78) rfl hl5949.1 rfl (Nat.le_of_ble_eq_true rfl) dX4_line_38 hS (AE_sub (fun _ _ => rfl) (by decide) hS.1) (fun vH6665 H6665 locsH6665 pH6665 zH6665 kH6665 hSH6665 => ?_)
        obtain ⟨x6666, x6667, x6668, hvH6665, bx6666, ex6667, ex6668, hrH6665, m6669, m6670, m6671, m6672, hTH6665⟩ := pH6665
        subst hvH6665
        have f6673 : ∀ j : Nat, j ≤ F.toNatClampNeg → kk j = (fI H6665 kq j).toInt := fun j hj => (f0_kk j hj).trans (congrArg Int32.toInt (fI_kept (x_lt hT kH6665 gkq (by decide))).symm)
        have f6674 : ∀ j : Nat, j ≤ F.toNatClampNeg → vv j = (fI H6665 vq j).toInt := fun j hj => (f0_vv j hj).trans (congrArg Int32.toInt (fI_kept (x_lt hT kH6665 gvq (by decide))).symm)
        have f6675 : ∀ j : Nat, j ≠ li.toNatClampNeg → fI H6665 wq j = fI s.heap wq j := fun j hj => (fI_kept (x_lt hT kH6665 gwq (by decide))).trans (f0_s_wq j hj)
        have f6676 : ∀ j : Nat, j ≠ li.toNatClampNeg → fI H6665 fq j = fI s.heap fq j := fun j hj => (fI_kept (x_lt hT kH6665 gfq (by decide))).trans (f0_s_fq j hj)
        have f6677 : ∀ j : Nat, j ≠ li.toNatClampNeg → fI H6665 jq j = fI s.heap jq j := fun j hj => (fI_kept (x_lt hT kH6665 gjq (by decide))).trans (f0_s_jq j hj)
        have f6678 : ∀ j : Nat, j ≠ li.toNatClampNeg → fI H6665 eq_ j = fI s.heap eq_ j := fun j hj => (fI_kept (x_lt hT kH6665 geq_ (by decide))).trans (f0_s_eq_ j hj)
        have f6679 : ∀ j : Nat, j ≠ li.toNatClampNeg → fI H6665 aq j = fI s.heap aq j := fun j hj => (fI_kept (x_lt hT kH6665 gaq (by decide))).trans (f0_s_aq j hj)
        have f6680 : ∀ j : Nat, j ≠ li.toNatClampNeg → fI H6665 cq j = fI s.heap cq j := fun j hj => (fI_kept (x_lt hT kH6665 gcq (by decide))).trans (f0_s_cq j hj)
        have f6681 : ∀ j : Nat, j ≠ li.toNatClampNeg → fI H6665 dq j = fI s.heap dq j := fun j hj => (fI_kept (x_lt hT kH6665 gdq (by decide))).trans (f0_s_dq j hj)
        have f6682 : CSP lw.toInt (fun j => fI H6665 sq j) (fun j => fI s.heap sq j) sc.toNatClampNeg (sc.toNatClampNeg) 3 ([]) ∧ (True) := ⟨CSP.kept f0_cs.1 (fun j => fI_kept (x_lt hT kH6665 gsq (by decide))), trivial⟩
        have m6683 := (esq).trans (fR_kept (x_lt hT kH6665 gmq (by decide))).symm
        have m6684 := (ewq).trans (fR_kept (x_lt hT kH6665 gmq (by decide))).symm
        have m6685 := (efq).trans (fR_kept (x_lt hT kH6665 gmq (by decide))).symm
        have m6686 := (ejq).trans (fR_kept (x_lt hT kH6665 gmq (by decide))).symm
        have m6687 := (eeq_).trans (fR_kept (x_lt hT kH6665 gmq (by decide))).symm
        have m6688 := (eaq).trans (fR_kept (x_lt hT kH6665 gmq (by decide))).symm
        have m6689 := (ecq).trans (fR_kept (x_lt hT kH6665 gmq (by decide))).symm
        have m6690 := (edq).trans (fR_kept (x_lt hT kH6665 gmq (by decide))).symm
        have m6691 := (eli).trans (fI_kept (x_lt hT kH6665 gmq (by decide))).symm
        have m6692 := (esc).trans (fI_kept (x_lt hT kH6665 gmq (by decide))).symm
        have m6693 := (fI_kept (x_lt hT kH6665 gkq (by decide))).trans hel0
        have m6694 := (ex5947).trans (fI_kept (x_lt hT kH6665 gkq (by decide))).symm
        have bx6667 := ty_fi (x := x6667) (k := 7) ex6667 hTH6665 ga0 rg_78 rfl
        have bx6668 := ty_fi (x := x6668) (k := 1) ex6668 hTH6665 ga0 rg_78 rfl
        refine W.eq (g2 := F0 m 41 ls5948 [.int x6666]) rfl ?_
        have cn_F := i_cl (x := F) (by omega)
        have cn_tat := i_cl (x := tat) (by omega)
        have cn_x6667 := i_cl (x := x6667) (by omega)
        exact x_zret C hQ (i_01 (by omega)) dX4_line_41 hSH6665 (by decide) (by decide) (⟨x6666, x6667, x6668, li, sc, rfl, by omega, ex6667, ex6668, m6691, m6692, by omega, m6669, m6670, m6671, m6683, m6684, m6685, m6686, m6687, m6688, m6689, m6690, m6672, Or.inl ⟨l16_no (ln_no0 (by rw [qvx5947]; omega)), by omega⟩, (Or.inl (by omega)), (Or.inl (by omega)), (Or.inl (by omega)), f6675, f6676, f6677, f6678, f6679, f6680, f6681, hTH6665⟩)
  · have k5952 := i_ne c5951
    refine lv_iload_n hx hb dX4_line_17 rfl (lv_at hl5949 0 rfl) ?_
    refine lv_iconst (v := 3) hx hb dX4_line_18 (by decide) ?_
    refine lv_icmp_le (tgt := 42) hx hb dX4_line_19 (by decide) (fun c6695 => ?_) (fun c6695 => ?_)
    · have k6696 := i_le c6695
      refine lv_aload_n hx hb dX4_line_42 rfl (lv_at hl5949 1 rfl) ?_
      refine x_gr C hT (ci := 4) (k := 0) rfl inX4 (by decide) wF_X4_12 ga0 rg_78 rfl dX4_line_43 (fun q6697 eq6697 gq6697 => ?_)
      have uq6697 : mq = q6697 := (emq).trans eq6697.symm
      subst uq6697
      refine x_gi C hT (ci := 7) (k := 0) rfl inX7 (by decide) wF_X4_84 gmq rg_69 rfl dX4_line_46 (fun x6698 ex6698 bx6698 => ?_)
      have ux6698 : li = x6698 := (eli).trans ex6698.symm
      subst ux6698
      refine lv_istore_n (lv' := [(2, .int li), (1, .int x5947), (0, .ref a0)]) hx hb dX4_line_49 rfl hl5949 (by decide) rfl (fun ls6699 hl6700 => ?_)
      refine lv_iload_n hx hb dX4_line_50 rfl (lv_at hl6700 0 rfl) ?_
      refine lv_bipush (v := 16) hx hb dX4_line_51 (by decide) ?_
      refine lv_icmp_lt (tgt := 62) hx hb dX4_line_53 (by decide) (fun c6701 => ?_) (fun c6701 => ?_)
      · have k6702 := i_lt c6701
        refine lv_aload_n hx hb dX4_line_62 rfl (lv_at hl6700 2 rfl) ?_
        refine lv_dup hx hb dX4_line_63 rfl ?_
        refine x_gi C hT (ci := 4) (k := 7) rfl inX4 (by decide) wF_X4_42 ga0 rg_78 rfl dX4_line_64 (fun x6703 ex6703 bx6703 => ?_)
        have ux6703 : tat = x6703 := (etat).trans ex6703.symm
        subst ux6703
        refine lv_iconst (v := 1) hx hb dX4_line_67 (by decide) ?_
        refine lv_iadd hx hb dX4_line_68 ?_
        refine lv_topi (fun x6704 ex6704 => ?_)
        have tx6704 := i_add ex6704 (by omega)
        have fz6706 : 0 ≤ x6704.toInt ∧ x6704.toInt ≤ 500 := by have := i_rng x6704; omega
        refine x_put C hT hS (ci := 4) (k := 7) (v := .int x6704) (ty0 := tyX4) rfl inX4 tyX4_ok nmX4 (by decide) rfl wF_X4_42 ga0 rg_78 rfl rfl (okI (by have := i_rng x6704; omega) (by have := i_rng x6704; omega)) rfl rfl (AE_in ga0 (by decide)) dX4_line_69 (fun H6705 locsH6705 hTH6705 hSH6705 wH6705 => ?_)
        have f6707 : ∀ j : Nat, j ≤ F.toNatClampNeg → kk j = (fI H6705 kq j).toInt := fun j hj => (f0_kk j hj).trans (congrArg Int32.toInt (Wr.neI wH6705 (Or.inl (G_ne gkq ga0 (by decide)))).symm)
        have f6708 : ∀ j : Nat, j ≤ F.toNatClampNeg → vv j = (fI H6705 vq j).toInt := fun j hj => (f0_vv j hj).trans (congrArg Int32.toInt (Wr.neI wH6705 (Or.inl (G_ne gvq ga0 (by decide)))).symm)
        have f6709 : ∀ j : Nat, j ≠ li.toNatClampNeg → fI H6705 wq j = fI s.heap wq j := fun j hj => (Wr.neI wH6705 (Or.inl (G_ne gwq ga0 (by decide)))).trans (f0_s_wq j hj)
        have f6710 : ∀ j : Nat, j ≠ li.toNatClampNeg → fI H6705 fq j = fI s.heap fq j := fun j hj => (Wr.neI wH6705 (Or.inl (G_ne gfq ga0 (by decide)))).trans (f0_s_fq j hj)
        have f6711 : ∀ j : Nat, j ≠ li.toNatClampNeg → fI H6705 jq j = fI s.heap jq j := fun j hj => (Wr.neI wH6705 (Or.inl (G_ne gjq ga0 (by decide)))).trans (f0_s_jq j hj)
        have f6712 : ∀ j : Nat, j ≠ li.toNatClampNeg → fI H6705 eq_ j = fI s.heap eq_ j := fun j hj => (Wr.neI wH6705 (Or.inl (G_ne geq_ ga0 (by decide)))).trans (f0_s_eq_ j hj)
        have f6713 : ∀ j : Nat, j ≠ li.toNatClampNeg → fI H6705 aq j = fI s.heap aq j := fun j hj => (Wr.neI wH6705 (Or.inl (G_ne gaq ga0 (by decide)))).trans (f0_s_aq j hj)
        have f6714 : ∀ j : Nat, j ≠ li.toNatClampNeg → fI H6705 cq j = fI s.heap cq j := fun j hj => (Wr.neI wH6705 (Or.inl (G_ne gcq ga0 (by decide)))).trans (f0_s_cq j hj)
        have f6715 : ∀ j : Nat, j ≠ li.toNatClampNeg → fI H6705 dq j = fI s.heap dq j := fun j hj => (Wr.neI wH6705 (Or.inl (G_ne gdq ga0 (by decide)))).trans (f0_s_dq j hj)
        have f6716 : CSP lw.toInt (fun j => fI H6705 sq j) (fun j => fI s.heap sq j) sc.toNatClampNeg (sc.toNatClampNeg) 3 ([]) ∧ (True) := ⟨CSP.kept f0_cs.1 (fun j => fI_kept (wH6705.off (G_ne gsq ga0 (by decide)))), trivial⟩
        have m6717 := emq.trans (Wr.neR wH6705 (Or.inr (x_apart hKT hts inX4 tyX4 tyX4_ok nmX4 rfl 0 7 (by decide) (by decide) (by decide)))).symm
        have m6718 := ekq.trans (Wr.neR wH6705 (Or.inr (x_apart hKT hts inX4 tyX4 tyX4_ok nmX4 rfl 3 7 (by decide) (by decide) (by decide)))).symm
        have m6719 := evq.trans (Wr.neR wH6705 (Or.inr (x_apart hKT hts inX4 tyX4 tyX4_ok nmX4 rfl 4 7 (by decide) (by decide) (by decide)))).symm
        have m6720 := esq.trans (Wr.neR wH6705 (Or.inl (G_ne gmq ga0 (by decide)))).symm
        have m6721 := ewq.trans (Wr.neR wH6705 (Or.inl (G_ne gmq ga0 (by decide)))).symm
        have m6722 := efq.trans (Wr.neR wH6705 (Or.inl (G_ne gmq ga0 (by decide)))).symm
        have m6723 := ejq.trans (Wr.neR wH6705 (Or.inl (G_ne gmq ga0 (by decide)))).symm
        have m6724 := eeq_.trans (Wr.neR wH6705 (Or.inl (G_ne gmq ga0 (by decide)))).symm
        have m6725 := eaq.trans (Wr.neR wH6705 (Or.inl (G_ne gmq ga0 (by decide)))).symm
        have m6726 := ecq.trans (Wr.neR wH6705 (Or.inl (G_ne gmq ga0 (by decide)))).symm
        have m6727 := edq.trans (Wr.neR wH6705 (Or.inl (G_ne gmq ga0 (by decide)))).symm
        have m6729 := efa.trans (Wr.neI wH6705 (Or.inr (x_apart hKT hts inX4 tyX4 tyX4_ok nmX4 rfl 1 7 (by decide) (by decide) (by decide)))).symm
        have m6730 := eli.trans (Wr.neI wH6705 (Or.inl (G_ne gmq ga0 (by decide)))).symm
        have m6731 := esc.trans (Wr.neI wH6705 (Or.inl (G_ne gmq ga0 (by decide)))).symm
        have m6732 := elw.trans (Wr.neI wH6705 (Or.inr (x_apart hKT hts inX4 tyX4 tyX4_ok nmX4 rfl 8 7 (by decide) (by decide) (by decide)))).symm
        have m6733 := (Wr.neI wH6705 (Or.inl (G_ne gkq ga0 (by decide)))).trans hel0
        have m6734 := ex5947.trans (Wr.neI wH6705 (Or.inl (G_ne gkq ga0 (by decide)))).symm
        have m6735 := Wr.I wH6705
        have m6735 := m6735.symm
        refine lv_aload_n hx hb dX4_line_72 rfl (lv_at hl6700 2 rfl) ?_
        refine x_gr C hTH6705 (ci := 4) (k := 0) rfl inX4 (by decide) wF_X4_12 ga0 rg_78 rfl dX4_line_73 (fun q6736 eq6736 gq6736 => ?_)
        have uq6736 : mq = q6736 := (m6717).trans eq6736.symm
        subst uq6736
        refine x_gr C hTH6705 (ci := 7) (k := 1) rfl inX7 (by decide) wF_X4_87 gmq rg_69 rfl dX4_line_76 (fun q6737 eq6737 gq6737 => ?_)
        have uq6737 : wq = q6737 := (m6721).trans eq6737.symm
        subst uq6737
        refine lv_iload_n hx hb dX4_line_79 rfl (lv_at hl6700 0 rfl) ?_
        refine lv_iload_n hx hb dX4_line_80 rfl (lv_at hl6700 1 rfl) ?_
        refine x_iast C hTH6705 hSH6705 gwq rg_70 (by omega) (by show _ < ((16 : Nat) : Int); omega) ⟨by have := i_rng x5947; omega, by have := i_rng x5947; omega⟩ (AE_in gwq (by decide)) dX4_line_81 (fun H6738 locsH6738 hTH6738 hSH6738 wH6738 => ?_)
        have f6739 : ∀ j : Nat, j ≤ F.toNatClampNeg → kk j = (fI H6738 kq j).toInt := fun j hj => (f6707 j hj).trans (congrArg Int32.toInt (Wr.neI wH6738 (Or.inl (G_ne gkq gwq (by decide)))).symm)
        have f6740 : ∀ j : Nat, j ≤ F.toNatClampNeg → vv j = (fI H6738 vq j).toInt := fun j hj => (f6708 j hj).trans (congrArg Int32.toInt (Wr.neI wH6738 (Or.inl (G_ne gvq gwq (by decide)))).symm)
        have f6741 : ∀ j : Nat, j ≠ li.toNatClampNeg → fI H6738 wq j = fI s.heap wq j := fun j hj => (Wr.neI wH6738 (Or.inr hj)).trans (f6709 j hj)
        have f6742 : ∀ j : Nat, j ≠ li.toNatClampNeg → fI H6738 fq j = fI s.heap fq j := fun j hj => (Wr.neI wH6738 (Or.inl (G_ne gfq gwq (by decide)))).trans (f6710 j hj)
        have f6743 : ∀ j : Nat, j ≠ li.toNatClampNeg → fI H6738 jq j = fI s.heap jq j := fun j hj => (Wr.neI wH6738 (Or.inl (G_ne gjq gwq (by decide)))).trans (f6711 j hj)
        have f6744 : ∀ j : Nat, j ≠ li.toNatClampNeg → fI H6738 eq_ j = fI s.heap eq_ j := fun j hj => (Wr.neI wH6738 (Or.inl (G_ne geq_ gwq (by decide)))).trans (f6712 j hj)
        have f6745 : ∀ j : Nat, j ≠ li.toNatClampNeg → fI H6738 aq j = fI s.heap aq j := fun j hj => (Wr.neI wH6738 (Or.inl (G_ne gaq gwq (by decide)))).trans (f6713 j hj)
        have f6746 : ∀ j : Nat, j ≠ li.toNatClampNeg → fI H6738 cq j = fI s.heap cq j := fun j hj => (Wr.neI wH6738 (Or.inl (G_ne gcq gwq (by decide)))).trans (f6714 j hj)
        have f6747 : ∀ j : Nat, j ≠ li.toNatClampNeg → fI H6738 dq j = fI s.heap dq j := fun j hj => (Wr.neI wH6738 (Or.inl (G_ne gdq gwq (by decide)))).trans (f6715 j hj)
        have f6748 : CSP lw.toInt (fun j => fI H6738 sq j) (fun j => fI s.heap sq j) sc.toNatClampNeg (sc.toNatClampNeg) 3 ([]) ∧ (True) := ⟨CSP.kept f6716.1 (fun j => fI_kept (wH6738.off (G_ne gsq gwq (by decide)))), trivial⟩
        have m6749 := m6717.trans (Wr.neR wH6738 (Or.inl (G_ne ga0 gwq (by decide)))).symm
        have m6750 := m6718.trans (Wr.neR wH6738 (Or.inl (G_ne ga0 gwq (by decide)))).symm
        have m6751 := m6719.trans (Wr.neR wH6738 (Or.inl (G_ne ga0 gwq (by decide)))).symm
        have m6752 := m6720.trans (Wr.neR wH6738 (Or.inl (G_ne gmq gwq (by decide)))).symm
        have m6753 := m6721.trans (Wr.neR wH6738 (Or.inl (G_ne gmq gwq (by decide)))).symm
        have m6754 := m6722.trans (Wr.neR wH6738 (Or.inl (G_ne gmq gwq (by decide)))).symm
        have m6755 := m6723.trans (Wr.neR wH6738 (Or.inl (G_ne gmq gwq (by decide)))).symm
        have m6756 := m6724.trans (Wr.neR wH6738 (Or.inl (G_ne gmq gwq (by decide)))).symm
        have m6757 := m6725.trans (Wr.neR wH6738 (Or.inl (G_ne gmq gwq (by decide)))).symm
        have m6758 := m6726.trans (Wr.neR wH6738 (Or.inl (G_ne gmq gwq (by decide)))).symm
        have m6759 := m6727.trans (Wr.neR wH6738 (Or.inl (G_ne gmq gwq (by decide)))).symm
        have m6760 := m6729.trans (Wr.neI wH6738 (Or.inl (G_ne ga0 gwq (by decide)))).symm
        have m6761 := m6730.trans (Wr.neI wH6738 (Or.inl (G_ne gmq gwq (by decide)))).symm
        have m6762 := m6731.trans (Wr.neI wH6738 (Or.inl (G_ne gmq gwq (by decide)))).symm
        have m6763 := m6732.trans (Wr.neI wH6738 (Or.inl (G_ne ga0 gwq (by decide)))).symm
        have m6764 := (Wr.neI wH6738 (Or.inl (G_ne gkq gwq (by decide)))).trans m6733
        have m6765 := m6734.trans (Wr.neI wH6738 (Or.inl (G_ne gkq gwq (by decide)))).symm
        have m6766 := m6735.trans (Wr.neI wH6738 (Or.inl (G_ne ga0 gwq (by decide)))).symm
        have m6767 := Wr.I wH6738
        have m6767 := m6767.symm
        refine lv_aload_n hx hb dX4_line_82 rfl (lv_at hl6700 2 rfl) ?_
        refine x_gr C hTH6738 (ci := 4) (k := 0) rfl inX4 (by decide) wF_X4_12 ga0 rg_78 rfl dX4_line_83 (fun q6768 eq6768 gq6768 => ?_)
        have uq6768 : mq = q6768 := (m6749).trans eq6768.symm
        subst uq6768
        refine x_gr C hTH6738 (ci := 7) (k := 2) rfl inX7 (by decide) wF_X4_90 gmq rg_69 rfl dX4_line_86 (fun q6769 eq6769 gq6769 => ?_)
        have uq6769 : fq = q6769 := (m6754).trans eq6769.symm
        subst uq6769
        refine lv_iload_n hx hb dX4_line_89 rfl (lv_at hl6700 0 rfl) ?_
        refine lv_iconst (v := 0) hx hb dX4_line_90 (by decide) ?_
        refine x_iast C hTH6738 hSH6738 gfq rg_71 (by omega) (by show _ < ((16 : Nat) : Int); omega) (by decide) (AE_in gfq (by decide)) dX4_line_91 (fun H6770 locsH6770 hTH6770 hSH6770 wH6770 => ?_)
        have f6771 : ∀ j : Nat, j ≤ F.toNatClampNeg → kk j = (fI H6770 kq j).toInt := fun j hj => (f6739 j hj).trans (congrArg Int32.toInt (Wr.neI wH6770 (Or.inl (G_ne gkq gfq (by decide)))).symm)
        have f6772 : ∀ j : Nat, j ≤ F.toNatClampNeg → vv j = (fI H6770 vq j).toInt := fun j hj => (f6740 j hj).trans (congrArg Int32.toInt (Wr.neI wH6770 (Or.inl (G_ne gvq gfq (by decide)))).symm)
        have f6773 : ∀ j : Nat, j ≠ li.toNatClampNeg → fI H6770 wq j = fI s.heap wq j := fun j hj => (Wr.neI wH6770 (Or.inl (G_ne gwq gfq (by decide)))).trans (f6741 j hj)
        have f6774 : ∀ j : Nat, j ≠ li.toNatClampNeg → fI H6770 fq j = fI s.heap fq j := fun j hj => (Wr.neI wH6770 (Or.inr hj)).trans (f6742 j hj)
        have f6775 : ∀ j : Nat, j ≠ li.toNatClampNeg → fI H6770 jq j = fI s.heap jq j := fun j hj => (Wr.neI wH6770 (Or.inl (G_ne gjq gfq (by decide)))).trans (f6743 j hj)
        have f6776 : ∀ j : Nat, j ≠ li.toNatClampNeg → fI H6770 eq_ j = fI s.heap eq_ j := fun j hj => (Wr.neI wH6770 (Or.inl (G_ne geq_ gfq (by decide)))).trans (f6744 j hj)
        have f6777 : ∀ j : Nat, j ≠ li.toNatClampNeg → fI H6770 aq j = fI s.heap aq j := fun j hj => (Wr.neI wH6770 (Or.inl (G_ne gaq gfq (by decide)))).trans (f6745 j hj)
        have f6778 : ∀ j : Nat, j ≠ li.toNatClampNeg → fI H6770 cq j = fI s.heap cq j := fun j hj => (Wr.neI wH6770 (Or.inl (G_ne gcq gfq (by decide)))).trans (f6746 j hj)
        have f6779 : ∀ j : Nat, j ≠ li.toNatClampNeg → fI H6770 dq j = fI s.heap dq j := fun j hj => (Wr.neI wH6770 (Or.inl (G_ne gdq gfq (by decide)))).trans (f6747 j hj)
        have f6780 : CSP lw.toInt (fun j => fI H6770 sq j) (fun j => fI s.heap sq j) sc.toNatClampNeg (sc.toNatClampNeg) 3 ([]) ∧ (True) := ⟨CSP.kept f6748.1 (fun j => fI_kept (wH6770.off (G_ne gsq gfq (by decide)))), trivial⟩
        have m6781 := m6749.trans (Wr.neR wH6770 (Or.inl (G_ne ga0 gfq (by decide)))).symm
        have m6782 := m6750.trans (Wr.neR wH6770 (Or.inl (G_ne ga0 gfq (by decide)))).symm
        have m6783 := m6751.trans (Wr.neR wH6770 (Or.inl (G_ne ga0 gfq (by decide)))).symm
        have m6784 := m6752.trans (Wr.neR wH6770 (Or.inl (G_ne gmq gfq (by decide)))).symm
        have m6785 := m6753.trans (Wr.neR wH6770 (Or.inl (G_ne gmq gfq (by decide)))).symm
        have m6786 := m6754.trans (Wr.neR wH6770 (Or.inl (G_ne gmq gfq (by decide)))).symm
        have m6787 := m6755.trans (Wr.neR wH6770 (Or.inl (G_ne gmq gfq (by decide)))).symm
        have m6788 := m6756.trans (Wr.neR wH6770 (Or.inl (G_ne gmq gfq (by decide)))).symm
        have m6789 := m6757.trans (Wr.neR wH6770 (Or.inl (G_ne gmq gfq (by decide)))).symm
        have m6790 := m6758.trans (Wr.neR wH6770 (Or.inl (G_ne gmq gfq (by decide)))).symm
        have m6791 := m6759.trans (Wr.neR wH6770 (Or.inl (G_ne gmq gfq (by decide)))).symm
        have m6792 := m6760.trans (Wr.neI wH6770 (Or.inl (G_ne ga0 gfq (by decide)))).symm
        have m6793 := m6761.trans (Wr.neI wH6770 (Or.inl (G_ne gmq gfq (by decide)))).symm
        have m6794 := m6762.trans (Wr.neI wH6770 (Or.inl (G_ne gmq gfq (by decide)))).symm
        have m6795 := m6763.trans (Wr.neI wH6770 (Or.inl (G_ne ga0 gfq (by decide)))).symm
        have m6796 := (Wr.neI wH6770 (Or.inl (G_ne gkq gfq (by decide)))).trans m6764
        have m6797 := m6765.trans (Wr.neI wH6770 (Or.inl (G_ne gkq gfq (by decide)))).symm
        have m6798 := m6766.trans (Wr.neI wH6770 (Or.inl (G_ne ga0 gfq (by decide)))).symm
        have m6799 := m6767.trans (Wr.neI wH6770 (Or.inl (G_ne gwq gfq (by decide)))).symm
        have m6800 := Wr.I wH6770
        refine lv_aload_n hx hb dX4_line_92 rfl (lv_at hl6700 2 rfl) ?_
        refine x_gr C hTH6770 (ci := 4) (k := 0) rfl inX4 (by decide) wF_X4_12 ga0 rg_78 rfl dX4_line_93 (fun q6801 eq6801 gq6801 => ?_)
        have uq6801 : mq = q6801 := (m6781).trans eq6801.symm
        subst uq6801
        refine x_gr C hTH6770 (ci := 7) (k := 5) rfl inX7 (by decide) wF_X4_93 gmq rg_69 rfl dX4_line_96 (fun q6802 eq6802 gq6802 => ?_)
        have uq6802 : aq = q6802 := (m6789).trans eq6802.symm
        subst uq6802
        refine lv_iload_n hx hb dX4_line_99 rfl (lv_at hl6700 0 rfl) ?_
        refine lv_aload_n hx hb dX4_line_100 rfl (lv_at hl6700 2 rfl) ?_
        refine x_gr C hTH6770 (ci := 4) (k := 0) rfl inX4 (by decide) wF_X4_12 ga0 rg_78 rfl dX4_line_101 (fun q6803 eq6803 gq6803 => ?_)
        have uq6803 : mq = q6803 := (m6781).trans eq6803.symm
        subst uq6803
        refine x_gi C hTH6770 (ci := 7) (k := 9) rfl inX7 (by decide) wF_X4_96 gmq rg_69 rfl dX4_line_104 (fun x6804 ex6804 bx6804 => ?_)
        have ux6804 : sc = x6804 := (m6794).trans ex6804.symm
        subst ux6804
        refine x_iast C hTH6770 hSH6770 gaq rg_74 (by omega) (by show _ < ((16 : Nat) : Int); omega) ⟨by have := i_rng sc; omega, by have := i_rng sc; omega⟩ (AE_in gaq (by decide)) dX4_line_107 (fun H6805 locsH6805 hTH6805 hSH6805 wH6805 => ?_)
        have f6806 : ∀ j : Nat, j ≤ F.toNatClampNeg → kk j = (fI H6805 kq j).toInt := fun j hj => (f6771 j hj).trans (congrArg Int32.toInt (Wr.neI wH6805 (Or.inl (G_ne gkq gaq (by decide)))).symm)
        have f6807 : ∀ j : Nat, j ≤ F.toNatClampNeg → vv j = (fI H6805 vq j).toInt := fun j hj => (f6772 j hj).trans (congrArg Int32.toInt (Wr.neI wH6805 (Or.inl (G_ne gvq gaq (by decide)))).symm)
        have f6808 : ∀ j : Nat, j ≠ li.toNatClampNeg → fI H6805 wq j = fI s.heap wq j := fun j hj => (Wr.neI wH6805 (Or.inl (G_ne gwq gaq (by decide)))).trans (f6773 j hj)
        have f6809 : ∀ j : Nat, j ≠ li.toNatClampNeg → fI H6805 fq j = fI s.heap fq j := fun j hj => (Wr.neI wH6805 (Or.inl (G_ne gfq gaq (by decide)))).trans (f6774 j hj)
        have f6810 : ∀ j : Nat, j ≠ li.toNatClampNeg → fI H6805 jq j = fI s.heap jq j := fun j hj => (Wr.neI wH6805 (Or.inl (G_ne gjq gaq (by decide)))).trans (f6775 j hj)
        have f6811 : ∀ j : Nat, j ≠ li.toNatClampNeg → fI H6805 eq_ j = fI s.heap eq_ j := fun j hj => (Wr.neI wH6805 (Or.inl (G_ne geq_ gaq (by decide)))).trans (f6776 j hj)
        have f6812 : ∀ j : Nat, j ≠ li.toNatClampNeg → fI H6805 aq j = fI s.heap aq j := fun j hj => (Wr.neI wH6805 (Or.inr hj)).trans (f6777 j hj)
        have f6813 : ∀ j : Nat, j ≠ li.toNatClampNeg → fI H6805 cq j = fI s.heap cq j := fun j hj => (Wr.neI wH6805 (Or.inl (G_ne gcq gaq (by decide)))).trans (f6778 j hj)
        have f6814 : ∀ j : Nat, j ≠ li.toNatClampNeg → fI H6805 dq j = fI s.heap dq j := fun j hj => (Wr.neI wH6805 (Or.inl (G_ne gdq gaq (by decide)))).trans (f6779 j hj)
        have f6815 : CSP lw.toInt (fun j => fI H6805 sq j) (fun j => fI s.heap sq j) sc.toNatClampNeg (sc.toNatClampNeg) 3 ([]) ∧ (True) := ⟨CSP.kept f6780.1 (fun j => fI_kept (wH6805.off (G_ne gsq gaq (by decide)))), trivial⟩
        have m6816 := m6781.trans (Wr.neR wH6805 (Or.inl (G_ne ga0 gaq (by decide)))).symm
        have m6817 := m6782.trans (Wr.neR wH6805 (Or.inl (G_ne ga0 gaq (by decide)))).symm
        have m6818 := m6783.trans (Wr.neR wH6805 (Or.inl (G_ne ga0 gaq (by decide)))).symm
        have m6819 := m6784.trans (Wr.neR wH6805 (Or.inl (G_ne gmq gaq (by decide)))).symm
        have m6820 := m6785.trans (Wr.neR wH6805 (Or.inl (G_ne gmq gaq (by decide)))).symm
        have m6821 := m6786.trans (Wr.neR wH6805 (Or.inl (G_ne gmq gaq (by decide)))).symm
        have m6822 := m6787.trans (Wr.neR wH6805 (Or.inl (G_ne gmq gaq (by decide)))).symm
        have m6823 := m6788.trans (Wr.neR wH6805 (Or.inl (G_ne gmq gaq (by decide)))).symm
        have m6824 := m6789.trans (Wr.neR wH6805 (Or.inl (G_ne gmq gaq (by decide)))).symm
        have m6825 := m6790.trans (Wr.neR wH6805 (Or.inl (G_ne gmq gaq (by decide)))).symm
        have m6826 := m6791.trans (Wr.neR wH6805 (Or.inl (G_ne gmq gaq (by decide)))).symm
        have m6827 := m6792.trans (Wr.neI wH6805 (Or.inl (G_ne ga0 gaq (by decide)))).symm
        have m6828 := m6793.trans (Wr.neI wH6805 (Or.inl (G_ne gmq gaq (by decide)))).symm
        have m6829 := m6794.trans (Wr.neI wH6805 (Or.inl (G_ne gmq gaq (by decide)))).symm
        have m6830 := m6795.trans (Wr.neI wH6805 (Or.inl (G_ne ga0 gaq (by decide)))).symm
        have m6831 := (Wr.neI wH6805 (Or.inl (G_ne gkq gaq (by decide)))).trans m6796
        have m6832 := m6797.trans (Wr.neI wH6805 (Or.inl (G_ne gkq gaq (by decide)))).symm
        have m6833 := m6798.trans (Wr.neI wH6805 (Or.inl (G_ne ga0 gaq (by decide)))).symm
        have m6834 := m6799.trans (Wr.neI wH6805 (Or.inl (G_ne gwq gaq (by decide)))).symm
        have m6835 := (Wr.neI wH6805 (Or.inl (G_ne gfq gaq (by decide)))).trans m6800
        have m6836 := Wr.I wH6805
        have m6836 := m6836.symm
        refine lv_aload_n hx hb dX4_line_108 rfl (lv_at hl6700 2 rfl) ?_
        refine x_gi C hTH6805 (ci := 4) (k := 8) rfl inX4 (by decide) wF_X4_28 ga0 rg_78 rfl dX4_line_109 (fun x6837 ex6837 bx6837 => ?_)
        have ux6837 : lw = x6837 := (m6830).trans ex6837.symm
        subst ux6837
        refine lv_if_eq (tgt := 134) hx hb dX4_line_112 (by decide) (fun c6838 => ?_) (fun c6838 => ?_)
        · have k6839 := i_eq c6838
          exfalso
          omega
        · have k6839 := i_ne c6838
          refine lv_aload_n hx hb dX4_line_115 rfl (lv_at hl6700 2 rfl) ?_
          refine lv_iload_n hx hb dX4_line_116 rfl (lv_at hl6700 0 rfl) ?_
          refine lv_iload_n hx hb dX4_line_117 rfl (lv_at hl6700 1 rfl) ?_
          refine x_V (As := [.int li, .int x5947]) (rest := []) C (a_X4_lawHead_g l K G H6805 (li) (x5947) (F) (x6704) (fa) (lw) (li) kk vv hTH6805 ga0 (by omega) gmq m6816 gkq m6817 gvq m6818 gfq m6821 m6833 m6827 m6830 m6828 m6831 (by omega) (by omega) f6806 f6807) yo_X4_lawHead wM_X4_99 ⟨⟨by decide, by decide⟩, by decide, by decide⟩ (x_rv C hTH6805 (ci := 4) rfl ga0 rg_78) rfl hl6700.1 rfl (Nat.le_of_ble_eq_true rfl) dX4_line_118 hSH6805 (AE_sub (fun _ _ => rfl) (by decide) hSH6805.1) (fun vH6840 H6840 locsH6840 pH6840 zH6840 kH6840 hSH6840 => ?_)
          obtain ⟨x6841, x6842, x6843, hvH6840, bx6841, ex6842, ex6843, hrH6840, m6844, m6845, m6846, m6847, m6848, m6849, m6850, hTH6840⟩ := pH6840
          subst hvH6840
          have f6851 : ∀ j : Nat, j ≤ F.toNatClampNeg → kk j = (fI H6840 kq j).toInt := fun j hj => (f6806 j hj).trans (congrArg Int32.toInt (fI_kept (x_lt hTH6805 kH6840 gkq (by decide))).symm)
          have f6852 : ∀ j : Nat, j ≤ F.toNatClampNeg → vv j = (fI H6840 vq j).toInt := fun j hj => (f6807 j hj).trans (congrArg Int32.toInt (fI_kept (x_lt hTH6805 kH6840 gvq (by decide))).symm)
          have f6853 : ∀ j : Nat, j ≠ li.toNatClampNeg → fI H6840 wq j = fI s.heap wq j := fun j hj => (fI_kept (x_lt hTH6805 kH6840 gwq (by decide))).trans (f6808 j hj)
          have f6854 : ∀ j : Nat, j ≠ li.toNatClampNeg → fI H6840 jq j = fI s.heap jq j := fun j hj => (fI_kept (x_lt hTH6805 kH6840 gjq (by decide))).trans (f6810 j hj)
          have f6855 : ∀ j : Nat, j ≠ li.toNatClampNeg → fI H6840 eq_ j = fI s.heap eq_ j := fun j hj => (fI_kept (x_lt hTH6805 kH6840 geq_ (by decide))).trans (f6811 j hj)
          have f6856 : ∀ j : Nat, j ≠ li.toNatClampNeg → fI H6840 aq j = fI s.heap aq j := fun j hj => (fI_kept (x_lt hTH6805 kH6840 gaq (by decide))).trans (f6812 j hj)
          have f6857 : ∀ j : Nat, j ≠ li.toNatClampNeg → fI H6840 cq j = fI s.heap cq j := fun j hj => (fI_kept (x_lt hTH6805 kH6840 gcq (by decide))).trans (f6813 j hj)
          have f6858 : ∀ j : Nat, j ≠ li.toNatClampNeg → fI H6840 dq j = fI s.heap dq j := fun j hj => (fI_kept (x_lt hTH6805 kH6840 gdq (by decide))).trans (f6814 j hj)
          have f6859 : CSP lw.toInt (fun j => fI H6840 sq j) (fun j => fI s.heap sq j) sc.toNatClampNeg (sc.toNatClampNeg) 3 ([]) ∧ (True) := ⟨CSP.kept f6815.1 (fun j => fI_kept (x_lt hTH6805 kH6840 gsq (by decide))), trivial⟩
          have m6860 := (m6819).trans (fR_kept (x_lt hTH6805 kH6840 gmq (by decide))).symm
          have m6861 := (m6820).trans (fR_kept (x_lt hTH6805 kH6840 gmq (by decide))).symm
          have m6862 := (m6821).trans (fR_kept (x_lt hTH6805 kH6840 gmq (by decide))).symm
          have m6863 := (m6822).trans (fR_kept (x_lt hTH6805 kH6840 gmq (by decide))).symm
          have m6864 := (m6823).trans (fR_kept (x_lt hTH6805 kH6840 gmq (by decide))).symm
          have m6865 := (m6824).trans (fR_kept (x_lt hTH6805 kH6840 gmq (by decide))).symm
          have m6866 := (m6825).trans (fR_kept (x_lt hTH6805 kH6840 gmq (by decide))).symm
          have m6867 := (m6826).trans (fR_kept (x_lt hTH6805 kH6840 gmq (by decide))).symm
          have m6868 := (m6828).trans (fI_kept (x_lt hTH6805 kH6840 gmq (by decide))).symm
          have m6869 := (m6829).trans (fI_kept (x_lt hTH6805 kH6840 gmq (by decide))).symm
          have m6870 := (fI_kept (x_lt hTH6805 kH6840 gkq (by decide))).trans m6831
          have m6871 := (m6832).trans (fI_kept (x_lt hTH6805 kH6840 gkq (by decide))).symm
          have m6872 := (m6834).trans (fI_kept (x_lt hTH6805 kH6840 gwq (by decide))).symm
          have m6873 := (m6836).trans (fI_kept (x_lt hTH6805 kH6840 gaq (by decide))).symm
          have bx6842 := ty_fi (x := x6842) (k := 7) ex6842 hTH6840 ga0 rg_78 rfl
          have bx6843 := ty_fi (x := x6843) (k := 1) ex6843 hTH6840 ga0 rg_78 rfl
          have f6874 : ∀ j : Nat, j ≠ li.toNatClampNeg → fI H6840 fq j = fI s.heap fq j := fun j hj => (m6850 j hj).trans (f6809 j hj)
          obtain ⟨x6875, ex6875⟩ : ∃ z : Int32, z = fI H6840 fq (li : Int32).toNatClampNeg := ⟨_, rfl⟩
          have bx6875 := ty_ai (x := x6875) ex6875 hTH6840 gfq rg_71 (by omega)
          have hf6876 : x6841.toInt = 0 ∨ (x5947.toInt = 3 ∧ x6875.toInt = 0) ∨ (x5947.toInt ≠ 3 ∧ x6875.toInt = vv x6704.toNatClampNeg) := by
            rcases m6849 with z | z | z
            · exact Or.inl z
            · refine Or.inr (Or.inl ⟨z.1, ?_⟩); rw [ex6875, z.2, m6835]; rfl
            · refine Or.inr (Or.inr ⟨z.1, ?_⟩); rw [ex6875]; exact z.2
          refine W.eq (g2 := F0 m 121 ls6699 [.int x6841]) rfl ?_
          refine lv_if_eq (tgt := 143) hx hb dX4_line_121 (by decide) (fun c6877 => ?_) (fun c6877 => ?_)
          · have k6878 := i_eq c6877
            refine lv_iconst (v := 0) hx hb dX4_line_143 (by decide) ?_
            have cn_F := i_cl (x := F) (by omega)
            have cn_tat := i_cl (x := tat) (by omega)
            have cn_x6842 := i_cl (x := x6842) (by omega)
            have cn_x6704 := i_cl (x := x6704) (by omega)
            have cn_x6842 := i_cl (x := x6842) (by omega)
            exact x_zret C hQ (Or.inl rfl) dX4_line_144 hSH6840 (by decide) (by decide) (⟨0, x6842, x6843, li, sc, rfl, by decide, ex6842, ex6843, m6868, m6869, by omega, m6844, m6845, m6846, m6860, m6861, m6862, m6863, m6864, m6865, m6866, m6867, m6847, Or.inl ⟨(if_neg (by omega)).trans (ln_no1 (by rw [qvx5947]; omega) qvx5947.symm (show x6704.toNatClampNeg = _ + 1 by omega) (hs_law0 (by omega) (RQ.no m6848 (by omega)))), by omega⟩, (Or.inl (by rfl)), (Or.inl (by rfl)), (Or.inl (by rfl)), f6853, f6874, f6854, f6855, f6856, f6857, f6858, hTH6840⟩)
          · have k6878 := i_ne c6877
            refine lv_aload_n hx hb dX4_line_124 rfl (lv_at hl6700 2 rfl) ?_
            refine x_V (As := []) (rest := []) C (a_X4_sum_g l K G H6840 (F) (x6842) (x6843) (sc) (lw) (li) kk vv hTH6840 ga0 gmq m6844 gkq m6845 gvq m6846 gsq m6860 ex6842 ex6843 m6869 m6847 m6868 m6870 (by omega) (by omega) (by omega) (hy0) f6851 f6852) yo_X4_sum wM_X4_103 ⟨⟨by decide, by decide⟩, by decide, by decide⟩ (x_rv C hTH6840 (ci := 4) rfl ga0 rg_78) rfl hl6700.1 rfl (Nat.le_of_ble_eq_true rfl) dX4_line_125 hSH6840 (AE_sub (fun _ _ => rfl) (by decide) hSH6840.1) (fun vH6879 H6879 locsH6879 pH6879 zH6879 kH6879 hSH6879 => ?_)
            obtain ⟨x6880, x6881, x6882, x6883, hvH6879, bx6880, ex6881, ex6882, ex6883, hrH6879, m6884, m6885, m6886, m6887, m6888, m6889, m6890, m6891, m6892, hTH6879⟩ := pH6879
            subst hvH6879
            have f6893 : ∀ j : Nat, j ≤ F.toNatClampNeg → kk j = (fI H6879 kq j).toInt := fun j hj => (f6851 j hj).trans (congrArg Int32.toInt (fI_kept (x_lt hTH6840 kH6879 gkq (by decide))).symm)
            have f6894 : ∀ j : Nat, j ≤ F.toNatClampNeg → vv j = (fI H6879 vq j).toInt := fun j hj => (f6852 j hj).trans (congrArg Int32.toInt (fI_kept (x_lt hTH6840 kH6879 gvq (by decide))).symm)
            have f6895 : ∀ j : Nat, j ≠ li.toNatClampNeg → fI H6879 wq j = fI s.heap wq j := fun j hj => (fI_kept (x_lt hTH6840 kH6879 gwq (by decide))).trans (f6853 j hj)
            have f6896 : ∀ j : Nat, j ≠ li.toNatClampNeg → fI H6879 jq j = fI s.heap jq j := fun j hj => (fI_kept (x_lt hTH6840 kH6879 gjq (by decide))).trans (f6854 j hj)
            have f6897 : ∀ j : Nat, j ≠ li.toNatClampNeg → fI H6879 eq_ j = fI s.heap eq_ j := fun j hj => (fI_kept (x_lt hTH6840 kH6879 geq_ (by decide))).trans (f6855 j hj)
            have f6898 : ∀ j : Nat, j ≠ li.toNatClampNeg → fI H6879 aq j = fI s.heap aq j := fun j hj => (fI_kept (x_lt hTH6840 kH6879 gaq (by decide))).trans (f6856 j hj)
            have f6899 : ∀ j : Nat, j ≠ li.toNatClampNeg → fI H6879 cq j = fI s.heap cq j := fun j hj => (fI_kept (x_lt hTH6840 kH6879 gcq (by decide))).trans (f6857 j hj)
            have f6900 : ∀ j : Nat, j ≠ li.toNatClampNeg → fI H6879 dq j = fI s.heap dq j := fun j hj => (fI_kept (x_lt hTH6840 kH6879 gdq (by decide))).trans (f6858 j hj)
            have f6901 : ∀ j : Nat, j ≠ li.toNatClampNeg → fI H6879 fq j = fI s.heap fq j := fun j hj => (fI_kept (x_lt hTH6840 kH6879 gfq (by decide))).trans (f6874 j hj)
            have m6902 := (fI_kept (x_lt hTH6840 kH6879 gkq (by decide))).trans m6870
            have m6903 := (m6871).trans (fI_kept (x_lt hTH6840 kH6879 gkq (by decide))).symm
            have m6904 := (m6872).trans (fI_kept (x_lt hTH6840 kH6879 gwq (by decide))).symm
            have m6905 := (m6873).trans (fI_kept (x_lt hTH6840 kH6879 gaq (by decide))).symm
            have m6906 := (ex6875).trans (fI_kept (x_lt hTH6840 kH6879 gfq (by decide))).symm
            have bx6881 := ty_fi (x := x6881) (k := 7) ex6881 hTH6879 ga0 rg_78 rfl
            have bx6882 := ty_fi (x := x6882) (k := 1) ex6882 hTH6879 ga0 rg_78 rfl
            have bx6883 := ty_fi (x := x6883) (k := 9) ex6883 hTH6879 gmq rg_69 rfl
            have m6907 := (m6861).trans (m6892 1 (by decide) (by decide)).symm
            have m6908 := (m6862).trans (m6892 2 (by decide) (by decide)).symm
            have m6909 := (m6863).trans (m6892 3 (by decide) (by decide)).symm
            have m6910 := (m6864).trans (m6892 4 (by decide) (by decide)).symm
            have m6911 := (m6865).trans (m6892 5 (by decide) (by decide)).symm
            have m6912 := (m6866).trans (m6892 6 (by decide) (by decide)).symm
            have m6913 := (m6867).trans (m6892 7 (by decide) (by decide)).symm
            refine W.eq (g2 := F0 m 128 ls6699 [.int x6880]) rfl ?_
            refine lv_if_eq (tgt := 143) hx hb dX4_line_128 (by decide) (fun c6914 => ?_) (fun c6914 => ?_)
            · have k6915 := i_eq c6914
              refine lv_iconst (v := 0) hx hb dX4_line_143 (by decide) ?_
              have cn_F := i_cl (x := F) (by omega)
              have cn_tat := i_cl (x := tat) (by omega)
              have cn_x6881 := i_cl (x := x6881) (by omega)
              have cn_x6704 := i_cl (x := x6704) (by omega)
              have cn_x6842 := i_cl (x := x6842) (by omega)
              have cn_x6881 := i_cl (x := x6881) (by omega)
              exact x_zret C hQ (Or.inl rfl) dX4_line_144 hSH6879 (by decide) (by decide) (⟨0, x6881, x6882, li, x6883, rfl, by decide, ex6881, ex6882, m6889, ex6883, by omega, m6884, m6885, m6886, m6887, m6907, m6908, m6909, m6910, m6911, m6912, m6913, m6888, Or.inl ⟨(if_neg (by omega)).trans (ln_no1 (by rw [qvx5947]; omega) qvx5947.symm (show x6704.toNatClampNeg = _ + 1 by omega) ((hs_law1 (by omega) (RQ.yes m6848 (by omega))).trans (RQ.no m6890 (by omega)))), by omega⟩, (Or.inl (by rfl)), (Or.inl (by rfl)), (Or.inl (by rfl)), f6895, f6901, f6896, f6897, f6898, f6899, f6900, hTH6879⟩)
            · have k6915 := i_ne c6914
              have cn_sc := i_cl (x := sc) (by omega)
              have cn_x6883 := i_cl (x := x6883) (by omega)
              have cn_sc := i_cl (x := sc) (by omega)
              have cn_x6842 := i_cl (x := x6842) (by omega)
              have cs6916 : CSP lw.toInt (fun j => fI H6879 sq j) (fun j => fI s.heap sq j) sc.toNatClampNeg (x6883.toNatClampNeg) 3 ([smG kk vv lw.toInt x6842.toNatClampNeg]) ∧ (True) := ⟨CSP.call (show CSP lw.toInt _ _ sc.toNatClampNeg _ 3 [] from f6859.1) (m6891.resolve_left (by omega)) (by omega) (Nat.le_refl _) (Nat.le_of_ble_eq_true rfl), trivial⟩
              refine lv_goto (tgt := 145) hx hb dX4_line_131 (by decide) ?_
              refine lv_aload_n hx hb dX4_line_145 rfl (lv_at hl6700 2 rfl) ?_
              refine x_gr C hTH6879 (ci := 4) (k := 0) rfl inX4 (by decide) wF_X4_12 ga0 rg_78 rfl dX4_line_146 (fun q6917 eq6917 gq6917 => ?_)
              have uq6917 : mq = q6917 := (m6884).trans eq6917.symm
              subst uq6917
              refine x_gr C hTH6879 (ci := 7) (k := 6) rfl inX7 (by decide) wF_X4_110 gmq rg_69 rfl dX4_line_149 (fun q6918 eq6918 gq6918 => ?_)
              have uq6918 : cq = q6918 := (m6912).trans eq6918.symm
              subst uq6918
              refine lv_iload_n hx hb dX4_line_152 rfl (lv_at hl6700 0 rfl) ?_
              refine lv_aload_n hx hb dX4_line_153 rfl (lv_at hl6700 2 rfl) ?_
              refine x_gr C hTH6879 (ci := 4) (k := 0) rfl inX4 (by decide) wF_X4_12 ga0 rg_78 rfl dX4_line_154 (fun q6919 eq6919 gq6919 => ?_)
              have uq6919 : mq = q6919 := (m6884).trans eq6919.symm
              subst uq6919
              refine x_gi C hTH6879 (ci := 7) (k := 9) rfl inX7 (by decide) wF_X4_96 gmq rg_69 rfl dX4_line_157 (fun x6920 ex6920 bx6920 => ?_)
              have ux6920 : x6883 = x6920 := (ex6883).trans ex6920.symm
              subst ux6920
              refine x_iast C hTH6879 hSH6879 gcq rg_75 (by omega) (by show _ < ((16 : Nat) : Int); omega) ⟨by have := i_rng x6883; omega, by have := i_rng x6883; omega⟩ (AE_in gcq (by decide)) dX4_line_160 (fun H6921 locsH6921 hTH6921 hSH6921 wH6921 => ?_)
              have f6922 : ∀ j : Nat, j ≤ F.toNatClampNeg → kk j = (fI H6921 kq j).toInt := fun j hj => (f6893 j hj).trans (congrArg Int32.toInt (Wr.neI wH6921 (Or.inl (G_ne gkq gcq (by decide)))).symm)
              have f6923 : ∀ j : Nat, j ≤ F.toNatClampNeg → vv j = (fI H6921 vq j).toInt := fun j hj => (f6894 j hj).trans (congrArg Int32.toInt (Wr.neI wH6921 (Or.inl (G_ne gvq gcq (by decide)))).symm)
              have f6924 : ∀ j : Nat, j ≠ li.toNatClampNeg → fI H6921 wq j = fI s.heap wq j := fun j hj => (Wr.neI wH6921 (Or.inl (G_ne gwq gcq (by decide)))).trans (f6895 j hj)
              have f6925 : ∀ j : Nat, j ≠ li.toNatClampNeg → fI H6921 jq j = fI s.heap jq j := fun j hj => (Wr.neI wH6921 (Or.inl (G_ne gjq gcq (by decide)))).trans (f6896 j hj)
              have f6926 : ∀ j : Nat, j ≠ li.toNatClampNeg → fI H6921 eq_ j = fI s.heap eq_ j := fun j hj => (Wr.neI wH6921 (Or.inl (G_ne geq_ gcq (by decide)))).trans (f6897 j hj)
              have f6927 : ∀ j : Nat, j ≠ li.toNatClampNeg → fI H6921 aq j = fI s.heap aq j := fun j hj => (Wr.neI wH6921 (Or.inl (G_ne gaq gcq (by decide)))).trans (f6898 j hj)
              have f6928 : ∀ j : Nat, j ≠ li.toNatClampNeg → fI H6921 cq j = fI s.heap cq j := fun j hj => (Wr.neI wH6921 (Or.inr hj)).trans (f6899 j hj)
              have f6929 : ∀ j : Nat, j ≠ li.toNatClampNeg → fI H6921 dq j = fI s.heap dq j := fun j hj => (Wr.neI wH6921 (Or.inl (G_ne gdq gcq (by decide)))).trans (f6900 j hj)
              have f6930 : ∀ j : Nat, j ≠ li.toNatClampNeg → fI H6921 fq j = fI s.heap fq j := fun j hj => (Wr.neI wH6921 (Or.inl (G_ne gfq gcq (by decide)))).trans (f6901 j hj)
              have f6931 : CSP lw.toInt (fun j => fI H6921 sq j) (fun j => fI s.heap sq j) sc.toNatClampNeg (x6883.toNatClampNeg) 3 ([smG kk vv lw.toInt x6842.toNatClampNeg]) ∧ (True) := ⟨CSP.kept cs6916.1 (fun j => fI_kept (wH6921.off (G_ne gsq gcq (by decide)))), trivial⟩
              have m6932 := (Wr.neI wH6921 (Or.inl (G_ne gkq gcq (by decide)))).trans m6902
              have m6933 := m6903.trans (Wr.neI wH6921 (Or.inl (G_ne gkq gcq (by decide)))).symm
              have m6934 := m6904.trans (Wr.neI wH6921 (Or.inl (G_ne gwq gcq (by decide)))).symm
              have m6935 := m6905.trans (Wr.neI wH6921 (Or.inl (G_ne gaq gcq (by decide)))).symm
              have m6936 := m6906.trans (Wr.neI wH6921 (Or.inl (G_ne gfq gcq (by decide)))).symm
              have m6937 := m6884.trans (Wr.neR wH6921 (Or.inl (G_ne ga0 gcq (by decide)))).symm
              have m6938 := m6885.trans (Wr.neR wH6921 (Or.inl (G_ne ga0 gcq (by decide)))).symm
              have m6939 := m6886.trans (Wr.neR wH6921 (Or.inl (G_ne ga0 gcq (by decide)))).symm
              have m6940 := m6887.trans (Wr.neR wH6921 (Or.inl (G_ne gmq gcq (by decide)))).symm
              have m6941 := m6888.trans (Wr.neI wH6921 (Or.inl (G_ne ga0 gcq (by decide)))).symm
              have m6942 := m6889.trans (Wr.neI wH6921 (Or.inl (G_ne gmq gcq (by decide)))).symm
              have m6943 := ex6881.trans (Wr.neI wH6921 (Or.inl (G_ne ga0 gcq (by decide)))).symm
              have m6944 := ex6882.trans (Wr.neI wH6921 (Or.inl (G_ne ga0 gcq (by decide)))).symm
              have m6945 := ex6883.trans (Wr.neI wH6921 (Or.inl (G_ne gmq gcq (by decide)))).symm
              have m6946 := m6907.trans (Wr.neR wH6921 (Or.inl (G_ne gmq gcq (by decide)))).symm
              have m6947 := m6908.trans (Wr.neR wH6921 (Or.inl (G_ne gmq gcq (by decide)))).symm
              have m6948 := m6909.trans (Wr.neR wH6921 (Or.inl (G_ne gmq gcq (by decide)))).symm
              have m6949 := m6910.trans (Wr.neR wH6921 (Or.inl (G_ne gmq gcq (by decide)))).symm
              have m6950 := m6911.trans (Wr.neR wH6921 (Or.inl (G_ne gmq gcq (by decide)))).symm
              have m6951 := m6912.trans (Wr.neR wH6921 (Or.inl (G_ne gmq gcq (by decide)))).symm
              have m6952 := m6913.trans (Wr.neR wH6921 (Or.inl (G_ne gmq gcq (by decide)))).symm
              have m6953 := Wr.I wH6921
              have m6953 := m6953.symm
              refine lv_aload_n hx hb dX4_line_161 rfl (lv_at hl6700 2 rfl) ?_
              refine x_gr C hTH6921 (ci := 4) (k := 3) rfl inX4 (by decide) wF_X4_18 ga0 rg_78 rfl dX4_line_162 (fun q6954 eq6954 gq6954 => ?_)
              have uq6954 : kq = q6954 := (m6938).trans eq6954.symm
              subst uq6954
              refine lv_aload_n hx hb dX4_line_165 rfl (lv_at hl6700 2 rfl) ?_
              refine x_gi C hTH6921 (ci := 4) (k := 7) rfl inX4 (by decide) wF_X4_42 ga0 rg_78 rfl dX4_line_166 (fun x6955 ex6955 bx6955 => ?_)
              have ux6955 : x6881 = x6955 := (m6943).trans ex6955.symm
              subst ux6955
              refine x_ai C hTH6921 gkq rg_79 ⟨by omega, by show _ < ((501 : Nat) : Int); omega⟩ dX4_line_169 (fun x6956 ex6956 bx6956 => ?_)
              have dx6956 := el_hit ex6956 m6932
              have qvx6956 : kk x6881.toNatClampNeg = x6956.toInt := (f6922 _ (by have h1 := i_cl (x := x6881) (by omega); have h2 := i_cl (x := F) (by omega); omega)).trans (congrArg Int32.toInt ex6956.symm)
              refine lv_bipush (v := 7) hx hb dX4_line_170 (by decide) ?_
              refine lv_icmp_ne (tgt := 195) hx hb dX4_line_172 (by decide) (fun c6957 => ?_) (fun c6957 => ?_)
              · have k6958 := i_ne c6957
                refine lv_aload_n hx hb dX4_line_195 rfl (lv_at hl6700 2 rfl) ?_
                refine x_gr C hTH6921 (ci := 4) (k := 0) rfl inX4 (by decide) wF_X4_12 ga0 rg_78 rfl dX4_line_196 (fun q6959 eq6959 gq6959 => ?_)
                have uq6959 : mq = q6959 := (m6937).trans eq6959.symm
                subst uq6959
                refine x_gr C hTH6921 (ci := 7) (k := 7) rfl inX7 (by decide) wF_X4_116 gmq rg_69 rfl dX4_line_199 (fun q6960 eq6960 gq6960 => ?_)
                have uq6960 : dq = q6960 := (m6952).trans eq6960.symm
                subst uq6960
                refine lv_iload_n hx hb dX4_line_202 rfl (lv_at hl6700 0 rfl) ?_
                refine lv_aload_n hx hb dX4_line_203 rfl (lv_at hl6700 2 rfl) ?_
                refine x_gr C hTH6921 (ci := 4) (k := 0) rfl inX4 (by decide) wF_X4_12 ga0 rg_78 rfl dX4_line_204 (fun q6961 eq6961 gq6961 => ?_)
                have uq6961 : mq = q6961 := (m6937).trans eq6961.symm
                subst uq6961
                refine x_gi C hTH6921 (ci := 7) (k := 9) rfl inX7 (by decide) wF_X4_96 gmq rg_69 rfl dX4_line_207 (fun x6962 ex6962 bx6962 => ?_)
                have ux6962 : x6883 = x6962 := (m6945).trans ex6962.symm
                subst ux6962
                refine x_iast C hTH6921 hSH6921 gdq rg_76 (by omega) (by show _ < ((16 : Nat) : Int); omega) ⟨by have := i_rng x6883; omega, by have := i_rng x6883; omega⟩ (AE_in gdq (by decide)) dX4_line_210 (fun H6963 locsH6963 hTH6963 hSH6963 wH6963 => ?_)
                have f6964 : ∀ j : Nat, j ≤ F.toNatClampNeg → kk j = (fI H6963 kq j).toInt := fun j hj => (f6922 j hj).trans (congrArg Int32.toInt (Wr.neI wH6963 (Or.inl (G_ne gkq gdq (by decide)))).symm)
                have f6965 : ∀ j : Nat, j ≤ F.toNatClampNeg → vv j = (fI H6963 vq j).toInt := fun j hj => (f6923 j hj).trans (congrArg Int32.toInt (Wr.neI wH6963 (Or.inl (G_ne gvq gdq (by decide)))).symm)
                have f6966 : ∀ j : Nat, j ≠ li.toNatClampNeg → fI H6963 wq j = fI s.heap wq j := fun j hj => (Wr.neI wH6963 (Or.inl (G_ne gwq gdq (by decide)))).trans (f6924 j hj)
                have f6967 : ∀ j : Nat, j ≠ li.toNatClampNeg → fI H6963 jq j = fI s.heap jq j := fun j hj => (Wr.neI wH6963 (Or.inl (G_ne gjq gdq (by decide)))).trans (f6925 j hj)
                have f6968 : ∀ j : Nat, j ≠ li.toNatClampNeg → fI H6963 eq_ j = fI s.heap eq_ j := fun j hj => (Wr.neI wH6963 (Or.inl (G_ne geq_ gdq (by decide)))).trans (f6926 j hj)
                have f6969 : ∀ j : Nat, j ≠ li.toNatClampNeg → fI H6963 aq j = fI s.heap aq j := fun j hj => (Wr.neI wH6963 (Or.inl (G_ne gaq gdq (by decide)))).trans (f6927 j hj)
                have f6970 : ∀ j : Nat, j ≠ li.toNatClampNeg → fI H6963 cq j = fI s.heap cq j := fun j hj => (Wr.neI wH6963 (Or.inl (G_ne gcq gdq (by decide)))).trans (f6928 j hj)
                have f6971 : ∀ j : Nat, j ≠ li.toNatClampNeg → fI H6963 dq j = fI s.heap dq j := fun j hj => (Wr.neI wH6963 (Or.inr hj)).trans (f6929 j hj)
                have f6972 : ∀ j : Nat, j ≠ li.toNatClampNeg → fI H6963 fq j = fI s.heap fq j := fun j hj => (Wr.neI wH6963 (Or.inl (G_ne gfq gdq (by decide)))).trans (f6930 j hj)
                have f6973 : CSP lw.toInt (fun j => fI H6963 sq j) (fun j => fI s.heap sq j) sc.toNatClampNeg (x6883.toNatClampNeg) 3 ([smG kk vv lw.toInt x6842.toNatClampNeg]) ∧ (True) := ⟨CSP.kept f6931.1 (fun j => fI_kept (wH6963.off (G_ne gsq gdq (by decide)))), trivial⟩
                have m6974 := (Wr.neI wH6963 (Or.inl (G_ne gkq gdq (by decide)))).trans m6932
                have m6975 := m6933.trans (Wr.neI wH6963 (Or.inl (G_ne gkq gdq (by decide)))).symm
                have m6976 := m6934.trans (Wr.neI wH6963 (Or.inl (G_ne gwq gdq (by decide)))).symm
                have m6977 := m6935.trans (Wr.neI wH6963 (Or.inl (G_ne gaq gdq (by decide)))).symm
                have m6978 := m6936.trans (Wr.neI wH6963 (Or.inl (G_ne gfq gdq (by decide)))).symm
                have m6979 := m6937.trans (Wr.neR wH6963 (Or.inl (G_ne ga0 gdq (by decide)))).symm
                have m6980 := m6938.trans (Wr.neR wH6963 (Or.inl (G_ne ga0 gdq (by decide)))).symm
                have m6981 := m6939.trans (Wr.neR wH6963 (Or.inl (G_ne ga0 gdq (by decide)))).symm
                have m6982 := m6940.trans (Wr.neR wH6963 (Or.inl (G_ne gmq gdq (by decide)))).symm
                have m6983 := m6941.trans (Wr.neI wH6963 (Or.inl (G_ne ga0 gdq (by decide)))).symm
                have m6984 := m6942.trans (Wr.neI wH6963 (Or.inl (G_ne gmq gdq (by decide)))).symm
                have m6985 := m6943.trans (Wr.neI wH6963 (Or.inl (G_ne ga0 gdq (by decide)))).symm
                have m6986 := m6944.trans (Wr.neI wH6963 (Or.inl (G_ne ga0 gdq (by decide)))).symm
                have m6987 := m6945.trans (Wr.neI wH6963 (Or.inl (G_ne gmq gdq (by decide)))).symm
                have m6988 := m6946.trans (Wr.neR wH6963 (Or.inl (G_ne gmq gdq (by decide)))).symm
                have m6989 := m6947.trans (Wr.neR wH6963 (Or.inl (G_ne gmq gdq (by decide)))).symm
                have m6990 := m6948.trans (Wr.neR wH6963 (Or.inl (G_ne gmq gdq (by decide)))).symm
                have m6991 := m6949.trans (Wr.neR wH6963 (Or.inl (G_ne gmq gdq (by decide)))).symm
                have m6992 := m6950.trans (Wr.neR wH6963 (Or.inl (G_ne gmq gdq (by decide)))).symm
                have m6993 := m6951.trans (Wr.neR wH6963 (Or.inl (G_ne gmq gdq (by decide)))).symm
                have m6994 := m6952.trans (Wr.neR wH6963 (Or.inl (G_ne gmq gdq (by decide)))).symm
                have m6995 := m6953.trans (Wr.neI wH6963 (Or.inl (G_ne gcq gdq (by decide)))).symm
                have m6996 := ex6956.trans (Wr.neI wH6963 (Or.inl (G_ne gkq gdq (by decide)))).symm
                have m6997 := Wr.I wH6963
                have m6997 := m6997.symm
                refine lv_aload_n hx hb dX4_line_211 rfl (lv_at hl6700 2 rfl) ?_
                refine x_gr C hTH6963 (ci := 4) (k := 3) rfl inX4 (by decide) wF_X4_18 ga0 rg_78 rfl dX4_line_212 (fun q6998 eq6998 gq6998 => ?_)
                have uq6998 : kq = q6998 := (m6980).trans eq6998.symm
                subst uq6998
                refine lv_aload_n hx hb dX4_line_215 rfl (lv_at hl6700 2 rfl) ?_
                refine x_gi C hTH6963 (ci := 4) (k := 7) rfl inX4 (by decide) wF_X4_42 ga0 rg_78 rfl dX4_line_216 (fun x6999 ex6999 bx6999 => ?_)
                have ux6999 : x6881 = x6999 := (m6985).trans ex6999.symm
                subst ux6999
                refine x_ai C hTH6963 gkq rg_79 ⟨by omega, by show _ < ((501 : Nat) : Int); omega⟩ dX4_line_219 (fun x7000 ex7000 bx7000 => ?_)
                have ux7000 : x6956 = x7000 := (m6996).trans ex7000.symm
                subst ux7000
                have qvx7000 : kk x6881.toNatClampNeg = x6956.toInt := (f6964 _ (by have h1 := i_cl (x := x6881) (by omega); have h2 := i_cl (x := F) (by omega); omega)).trans (congrArg Int32.toInt ex7000.symm)
                refine lv_bipush (v := 59) hx hb dX4_line_220 (by decide) ?_
                refine lv_icmp_eq (tgt := 231) hx hb dX4_line_222 (by decide) (fun c7001 => ?_) (fun c7001 => ?_)
                · have k7002 := i_eq c7001
                  refine lv_aload_n hx hb dX4_line_231 rfl (lv_at hl6700 2 rfl) ?_
                  refine lv_dup hx hb dX4_line_232 rfl ?_
                  refine x_gi C hTH6963 (ci := 4) (k := 7) rfl inX4 (by decide) wF_X4_42 ga0 rg_78 rfl dX4_line_233 (fun x7003 ex7003 bx7003 => ?_)
                  have ux7003 : x6881 = x7003 := (m6985).trans ex7003.symm
                  subst ux7003
                  refine lv_iconst (v := 1) hx hb dX4_line_236 (by decide) ?_
                  refine lv_iadd hx hb dX4_line_237 ?_
                  refine lv_topi (fun x7004 ex7004 => ?_)
                  have tx7004 := i_add ex7004 (by omega)
                  have fz7006 : 0 ≤ x7004.toInt ∧ x7004.toInt ≤ 500 := by have := i_rng x7004; omega
                  refine x_put C hTH6963 hSH6963 (ci := 4) (k := 7) (v := .int x7004) (ty0 := tyX4) rfl inX4 tyX4_ok nmX4 (by decide) rfl wF_X4_42 ga0 rg_78 rfl rfl (okI (by have := i_rng x7004; omega) (by have := i_rng x7004; omega)) rfl rfl (AE_in ga0 (by decide)) dX4_line_238 (fun H7005 locsH7005 hTH7005 hSH7005 wH7005 => ?_)
                  have f7007 : ∀ j : Nat, j ≤ F.toNatClampNeg → kk j = (fI H7005 kq j).toInt := fun j hj => (f6964 j hj).trans (congrArg Int32.toInt (Wr.neI wH7005 (Or.inl (G_ne gkq ga0 (by decide)))).symm)
                  have f7008 : ∀ j : Nat, j ≤ F.toNatClampNeg → vv j = (fI H7005 vq j).toInt := fun j hj => (f6965 j hj).trans (congrArg Int32.toInt (Wr.neI wH7005 (Or.inl (G_ne gvq ga0 (by decide)))).symm)
                  have f7009 : ∀ j : Nat, j ≠ li.toNatClampNeg → fI H7005 wq j = fI s.heap wq j := fun j hj => (Wr.neI wH7005 (Or.inl (G_ne gwq ga0 (by decide)))).trans (f6966 j hj)
                  have f7010 : ∀ j : Nat, j ≠ li.toNatClampNeg → fI H7005 jq j = fI s.heap jq j := fun j hj => (Wr.neI wH7005 (Or.inl (G_ne gjq ga0 (by decide)))).trans (f6967 j hj)
                  have f7011 : ∀ j : Nat, j ≠ li.toNatClampNeg → fI H7005 eq_ j = fI s.heap eq_ j := fun j hj => (Wr.neI wH7005 (Or.inl (G_ne geq_ ga0 (by decide)))).trans (f6968 j hj)
                  have f7012 : ∀ j : Nat, j ≠ li.toNatClampNeg → fI H7005 aq j = fI s.heap aq j := fun j hj => (Wr.neI wH7005 (Or.inl (G_ne gaq ga0 (by decide)))).trans (f6969 j hj)
                  have f7013 : ∀ j : Nat, j ≠ li.toNatClampNeg → fI H7005 cq j = fI s.heap cq j := fun j hj => (Wr.neI wH7005 (Or.inl (G_ne gcq ga0 (by decide)))).trans (f6970 j hj)
                  have f7014 : ∀ j : Nat, j ≠ li.toNatClampNeg → fI H7005 dq j = fI s.heap dq j := fun j hj => (Wr.neI wH7005 (Or.inl (G_ne gdq ga0 (by decide)))).trans (f6971 j hj)
                  have f7015 : ∀ j : Nat, j ≠ li.toNatClampNeg → fI H7005 fq j = fI s.heap fq j := fun j hj => (Wr.neI wH7005 (Or.inl (G_ne gfq ga0 (by decide)))).trans (f6972 j hj)
                  have f7016 : CSP lw.toInt (fun j => fI H7005 sq j) (fun j => fI s.heap sq j) sc.toNatClampNeg (x6883.toNatClampNeg) 3 ([smG kk vv lw.toInt x6842.toNatClampNeg]) ∧ (True) := ⟨CSP.kept f6973.1 (fun j => fI_kept (wH7005.off (G_ne gsq ga0 (by decide)))), trivial⟩
                  have m7017 := (Wr.neI wH7005 (Or.inl (G_ne gkq ga0 (by decide)))).trans m6974
                  have m7018 := m6975.trans (Wr.neI wH7005 (Or.inl (G_ne gkq ga0 (by decide)))).symm
                  have m7019 := m6976.trans (Wr.neI wH7005 (Or.inl (G_ne gwq ga0 (by decide)))).symm
                  have m7020 := m6977.trans (Wr.neI wH7005 (Or.inl (G_ne gaq ga0 (by decide)))).symm
                  have m7021 := m6978.trans (Wr.neI wH7005 (Or.inl (G_ne gfq ga0 (by decide)))).symm
                  have m7022 := m6979.trans (Wr.neR wH7005 (Or.inr (x_apart hKT hts inX4 tyX4 tyX4_ok nmX4 rfl 0 7 (by decide) (by decide) (by decide)))).symm
                  have m7023 := m6980.trans (Wr.neR wH7005 (Or.inr (x_apart hKT hts inX4 tyX4 tyX4_ok nmX4 rfl 3 7 (by decide) (by decide) (by decide)))).symm
                  have m7024 := m6981.trans (Wr.neR wH7005 (Or.inr (x_apart hKT hts inX4 tyX4 tyX4_ok nmX4 rfl 4 7 (by decide) (by decide) (by decide)))).symm
                  have m7025 := m6982.trans (Wr.neR wH7005 (Or.inl (G_ne gmq ga0 (by decide)))).symm
                  have m7026 := m6983.trans (Wr.neI wH7005 (Or.inr (x_apart hKT hts inX4 tyX4 tyX4_ok nmX4 rfl 8 7 (by decide) (by decide) (by decide)))).symm
                  have m7027 := m6984.trans (Wr.neI wH7005 (Or.inl (G_ne gmq ga0 (by decide)))).symm
                  have m7029 := m6986.trans (Wr.neI wH7005 (Or.inr (x_apart hKT hts inX4 tyX4 tyX4_ok nmX4 rfl 1 7 (by decide) (by decide) (by decide)))).symm
                  have m7030 := m6987.trans (Wr.neI wH7005 (Or.inl (G_ne gmq ga0 (by decide)))).symm
                  have m7031 := m6988.trans (Wr.neR wH7005 (Or.inl (G_ne gmq ga0 (by decide)))).symm
                  have m7032 := m6989.trans (Wr.neR wH7005 (Or.inl (G_ne gmq ga0 (by decide)))).symm
                  have m7033 := m6990.trans (Wr.neR wH7005 (Or.inl (G_ne gmq ga0 (by decide)))).symm
                  have m7034 := m6991.trans (Wr.neR wH7005 (Or.inl (G_ne gmq ga0 (by decide)))).symm
                  have m7035 := m6992.trans (Wr.neR wH7005 (Or.inl (G_ne gmq ga0 (by decide)))).symm
                  have m7036 := m6993.trans (Wr.neR wH7005 (Or.inl (G_ne gmq ga0 (by decide)))).symm
                  have m7037 := m6994.trans (Wr.neR wH7005 (Or.inl (G_ne gmq ga0 (by decide)))).symm
                  have m7038 := m6995.trans (Wr.neI wH7005 (Or.inl (G_ne gcq ga0 (by decide)))).symm
                  have m7039 := m6996.trans (Wr.neI wH7005 (Or.inl (G_ne gkq ga0 (by decide)))).symm
                  have m7040 := m6997.trans (Wr.neI wH7005 (Or.inl (G_ne gdq ga0 (by decide)))).symm
                  have m7041 := Wr.I wH7005
                  have m7041 := m7041.symm
                  refine lv_aload_n hx hb dX4_line_241 rfl (lv_at hl6700 2 rfl) ?_
                  refine x_gr C hTH7005 (ci := 4) (k := 0) rfl inX4 (by decide) wF_X4_12 ga0 rg_78 rfl dX4_line_242 (fun q7042 eq7042 gq7042 => ?_)
                  have uq7042 : mq = q7042 := (m7022).trans eq7042.symm
                  subst uq7042
                  refine lv_dup hx hb dX4_line_245 rfl ?_
                  refine x_gi C hTH7005 (ci := 7) (k := 0) rfl inX7 (by decide) wF_X4_84 gmq rg_69 rfl dX4_line_246 (fun x7043 ex7043 bx7043 => ?_)
                  have ux7043 : li = x7043 := (m7027).trans ex7043.symm
                  subst ux7043
                  refine lv_iconst (v := 1) hx hb dX4_line_249 (by decide) ?_
                  refine lv_iadd hx hb dX4_line_250 ?_
                  refine lv_topi (fun x7044 ex7044 => ?_)
                  have tx7044 := i_add ex7044 (by omega)
                  refine x_put C hTH7005 hSH7005 (ci := 7) (k := 0) (v := .int x7044) (ty0 := tyX7) rfl inX7 tyX7_ok nmX7 (by decide) rfl wF_X4_84 gmq rg_69 rfl rfl (okI (by have := i_rng x7044; omega) (by have := i_rng x7044; omega)) rfl rfl (AE_in gmq (by decide)) dX4_line_251 (fun H7045 locsH7045 hTH7045 hSH7045 wH7045 => ?_)
                  have f7046 : ∀ j : Nat, j ≤ F.toNatClampNeg → kk j = (fI H7045 kq j).toInt := fun j hj => (f7007 j hj).trans (congrArg Int32.toInt (Wr.neI wH7045 (Or.inl (G_ne gkq gmq (by decide)))).symm)
                  have f7047 : ∀ j : Nat, j ≤ F.toNatClampNeg → vv j = (fI H7045 vq j).toInt := fun j hj => (f7008 j hj).trans (congrArg Int32.toInt (Wr.neI wH7045 (Or.inl (G_ne gvq gmq (by decide)))).symm)
                  have f7048 : ∀ j : Nat, j ≠ li.toNatClampNeg → fI H7045 wq j = fI s.heap wq j := fun j hj => (Wr.neI wH7045 (Or.inl (G_ne gwq gmq (by decide)))).trans (f7009 j hj)
                  have f7049 : ∀ j : Nat, j ≠ li.toNatClampNeg → fI H7045 jq j = fI s.heap jq j := fun j hj => (Wr.neI wH7045 (Or.inl (G_ne gjq gmq (by decide)))).trans (f7010 j hj)
                  have f7050 : ∀ j : Nat, j ≠ li.toNatClampNeg → fI H7045 eq_ j = fI s.heap eq_ j := fun j hj => (Wr.neI wH7045 (Or.inl (G_ne geq_ gmq (by decide)))).trans (f7011 j hj)
                  have f7051 : ∀ j : Nat, j ≠ li.toNatClampNeg → fI H7045 aq j = fI s.heap aq j := fun j hj => (Wr.neI wH7045 (Or.inl (G_ne gaq gmq (by decide)))).trans (f7012 j hj)
                  have f7052 : ∀ j : Nat, j ≠ li.toNatClampNeg → fI H7045 cq j = fI s.heap cq j := fun j hj => (Wr.neI wH7045 (Or.inl (G_ne gcq gmq (by decide)))).trans (f7013 j hj)
                  have f7053 : ∀ j : Nat, j ≠ li.toNatClampNeg → fI H7045 dq j = fI s.heap dq j := fun j hj => (Wr.neI wH7045 (Or.inl (G_ne gdq gmq (by decide)))).trans (f7014 j hj)
                  have f7054 : ∀ j : Nat, j ≠ li.toNatClampNeg → fI H7045 fq j = fI s.heap fq j := fun j hj => (Wr.neI wH7045 (Or.inl (G_ne gfq gmq (by decide)))).trans (f7015 j hj)
                  have f7055 : CSP lw.toInt (fun j => fI H7045 sq j) (fun j => fI s.heap sq j) sc.toNatClampNeg (x6883.toNatClampNeg) 3 ([smG kk vv lw.toInt x6842.toNatClampNeg]) ∧ (True) := ⟨CSP.kept f7016.1 (fun j => fI_kept (wH7045.off (G_ne gsq gmq (by decide)))), trivial⟩
                  have m7056 := (Wr.neI wH7045 (Or.inl (G_ne gkq gmq (by decide)))).trans m7017
                  have m7057 := m7018.trans (Wr.neI wH7045 (Or.inl (G_ne gkq gmq (by decide)))).symm
                  have m7058 := m7019.trans (Wr.neI wH7045 (Or.inl (G_ne gwq gmq (by decide)))).symm
                  have m7059 := m7020.trans (Wr.neI wH7045 (Or.inl (G_ne gaq gmq (by decide)))).symm
                  have m7060 := m7021.trans (Wr.neI wH7045 (Or.inl (G_ne gfq gmq (by decide)))).symm
                  have m7061 := m7022.trans (Wr.neR wH7045 (Or.inl (G_ne ga0 gmq (by decide)))).symm
                  have m7062 := m7023.trans (Wr.neR wH7045 (Or.inl (G_ne ga0 gmq (by decide)))).symm
                  have m7063 := m7024.trans (Wr.neR wH7045 (Or.inl (G_ne ga0 gmq (by decide)))).symm
                  have m7064 := m7025.trans (Wr.neR wH7045 (Or.inr (x_apart hKT hts inX7 tyX7 tyX7_ok nmX7 rfl 8 0 (by decide) (by decide) (by decide)))).symm
                  have m7065 := m7026.trans (Wr.neI wH7045 (Or.inl (G_ne ga0 gmq (by decide)))).symm
                  have m7067 := m7029.trans (Wr.neI wH7045 (Or.inl (G_ne ga0 gmq (by decide)))).symm
                  have m7068 := m7030.trans (Wr.neI wH7045 (Or.inr (x_apart hKT hts inX7 tyX7 tyX7_ok nmX7 rfl 9 0 (by decide) (by decide) (by decide)))).symm
                  have m7069 := m7031.trans (Wr.neR wH7045 (Or.inr (x_apart hKT hts inX7 tyX7 tyX7_ok nmX7 rfl 1 0 (by decide) (by decide) (by decide)))).symm
                  have m7070 := m7032.trans (Wr.neR wH7045 (Or.inr (x_apart hKT hts inX7 tyX7 tyX7_ok nmX7 rfl 2 0 (by decide) (by decide) (by decide)))).symm
                  have m7071 := m7033.trans (Wr.neR wH7045 (Or.inr (x_apart hKT hts inX7 tyX7 tyX7_ok nmX7 rfl 3 0 (by decide) (by decide) (by decide)))).symm
                  have m7072 := m7034.trans (Wr.neR wH7045 (Or.inr (x_apart hKT hts inX7 tyX7 tyX7_ok nmX7 rfl 4 0 (by decide) (by decide) (by decide)))).symm
                  have m7073 := m7035.trans (Wr.neR wH7045 (Or.inr (x_apart hKT hts inX7 tyX7 tyX7_ok nmX7 rfl 5 0 (by decide) (by decide) (by decide)))).symm
                  have m7074 := m7036.trans (Wr.neR wH7045 (Or.inr (x_apart hKT hts inX7 tyX7 tyX7_ok nmX7 rfl 6 0 (by decide) (by decide) (by decide)))).symm
                  have m7075 := m7037.trans (Wr.neR wH7045 (Or.inr (x_apart hKT hts inX7 tyX7 tyX7_ok nmX7 rfl 7 0 (by decide) (by decide) (by decide)))).symm
                  have m7076 := m7038.trans (Wr.neI wH7045 (Or.inl (G_ne gcq gmq (by decide)))).symm
                  have m7077 := m7039.trans (Wr.neI wH7045 (Or.inl (G_ne gkq gmq (by decide)))).symm
                  have m7078 := m7040.trans (Wr.neI wH7045 (Or.inl (G_ne gdq gmq (by decide)))).symm
                  have m7079 := m7041.trans (Wr.neI wH7045 (Or.inl (G_ne ga0 gmq (by decide)))).symm
                  have m7080 := Wr.I wH7045
                  have m7080 := m7080.symm
                  refine lv_iconst (v := 1) hx hb dX4_line_254 (by decide) ?_
                  have cn_F := i_cl (x := F) (by omega)
                  have cn_tat := i_cl (x := tat) (by omega)
                  have cn_x7004 := i_cl (x := x7004) (by omega)
                  have cn_x6704 := i_cl (x := x6704) (by omega)
                  have cn_x6842 := i_cl (x := x6842) (by omega)
                  have cn_x6881 := i_cl (x := x6881) (by omega)
                  have cn_tat := i_cl (x := tat) (by omega)
                  have cn_F := i_cl (x := F) (by omega)
                  have cn_x6704 := i_cl (x := x6704) (by omega)
                  have cn_x6842 := i_cl (x := x6842) (by omega)
                  have cn_x6881 := i_cl (x := x6881) (by omega)
                  exact x_zret C hQ (Or.inr rfl) dX4_line_255 hSH7045 (by decide) (by decide) (⟨1, x7004, x6882, x7044, x6883, rfl, by decide, m7079, m7067, m7080, m7068, by omega, m7061, m7062, m7063, m7064, m7069, m7070, m7071, m7072, m7073, m7074, m7075, m7065, Or.inr ⟨(if_neg (by omega)).trans ((ln_go (by rw [qvx5947]; omega) qvx5947.symm (show x6704.toNatClampNeg = _ + 1 by omega) ((hs_law1 (by omega) (RQ.yes m6848 (by omega))).trans (RQ.yes m6890 (by omega))) (wn_0 (by rw [qvx6956]; omega))).trans ((if_pos (by rw [qvx7000]; omega)).trans (congrArg some (show _ + 1 = x7004.toNatClampNeg by omega)))), by omega⟩, (Or.inr ⟨⟨by rw [← m7058]; exact qvx5947.symm, by rw [← m7060]; unfold lf1; exact (hf6876.resolve_left (by omega)).elim (fun z => by rw [if_pos ⟨by omega, by rw [qvx5947]; exact z.1⟩]; exact z.2) (fun z => by rw [if_neg (fun y => z.1 (by rw [← qvx5947]; exact y.2)), show tat.toNatClampNeg + 1 = x6704.toNatClampNeg by omega]; exact z.2)⟩, (fun z => absurd z (by omega)), (Or.inl ⟨by omega, by rw [← m7059, ← m7076, show lfs kk vv lw.toInt tat.toNatClampNeg = smG kk vv lw.toInt x6842.toNatClampNeg from congrArg (smG kk vv lw.toInt) (hl_at (by omega) qvx5947.symm (show x6704.toNatClampNeg = _ + 1 by omega) (RQ.yes m6848 (by omega)))]; exact f7055.1.1⟩), (Or.inr ⟨by unfold lhw; rw [(lcn_at qvx5947.symm (show x6704.toNatClampNeg = _ + 1 by omega) ((hs_law1 (by omega) (RQ.yes m6848 (by omega))).trans (RQ.yes m6890 (by omega))))]; exact decide_eq_false (by rw [qvx6956]; omega), by rw [← m7076, ← m7078]⟩)⟩), (Or.inr f7055.1.2), (Or.inr m7078.symm), f7048, f7054, f7049, f7050, f7051, f7052, f7053, hTH7045⟩)
                · have k7002 := i_ne c7001
                  refine lv_aload_n hx hb dX4_line_225 rfl (lv_at hl6700 2 rfl) ?_
                  refine lv_iconst (v := 1) hx hb dX4_line_226 (by decide) ?_
                  refine x_V (As := [.int 1]) (rest := []) C (a_X4_refuse_e l K G H6963 (1) (x6881) (x6882) (lw) hTH6963 ga0 gmq m6979 gkq m6980 gvq m6981 m6985 m6986 m6983) yo_X4_refuse wM_X4_81 ⟨⟨by decide, by decide⟩, by decide, by decide⟩ (x_rv C hTH6963 (ci := 4) rfl ga0 rg_78) rfl hl6700.1 rfl (Nat.le_of_ble_eq_true rfl) dX4_line_227 hSH6963 (AE_sub (fun _ _ => rfl) (by decide) hSH6963.1) (fun vH7081 H7081 locsH7081 pH7081 zH7081 kH7081 hSH7081 => ?_)
                  obtain ⟨x7082, x7083, x7084, hvH7081, bx7082, ex7083, ex7084, hrH7081, m7085, m7086, m7087, m7088, hTH7081⟩ := pH7081
                  subst hvH7081
                  have f7089 : ∀ j : Nat, j ≤ F.toNatClampNeg → kk j = (fI H7081 kq j).toInt := fun j hj => (f6964 j hj).trans (congrArg Int32.toInt (fI_kept (x_lt hTH6963 kH7081 gkq (by decide))).symm)
                  have f7090 : ∀ j : Nat, j ≤ F.toNatClampNeg → vv j = (fI H7081 vq j).toInt := fun j hj => (f6965 j hj).trans (congrArg Int32.toInt (fI_kept (x_lt hTH6963 kH7081 gvq (by decide))).symm)
                  have f7091 : ∀ j : Nat, j ≠ li.toNatClampNeg → fI H7081 wq j = fI s.heap wq j := fun j hj => (fI_kept (x_lt hTH6963 kH7081 gwq (by decide))).trans (f6966 j hj)
                  have f7092 : ∀ j : Nat, j ≠ li.toNatClampNeg → fI H7081 jq j = fI s.heap jq j := fun j hj => (fI_kept (x_lt hTH6963 kH7081 gjq (by decide))).trans (f6967 j hj)
                  have f7093 : ∀ j : Nat, j ≠ li.toNatClampNeg → fI H7081 eq_ j = fI s.heap eq_ j := fun j hj => (fI_kept (x_lt hTH6963 kH7081 geq_ (by decide))).trans (f6968 j hj)
                  have f7094 : ∀ j : Nat, j ≠ li.toNatClampNeg → fI H7081 aq j = fI s.heap aq j := fun j hj => (fI_kept (x_lt hTH6963 kH7081 gaq (by decide))).trans (f6969 j hj)
                  have f7095 : ∀ j : Nat, j ≠ li.toNatClampNeg → fI H7081 cq j = fI s.heap cq j := fun j hj => (fI_kept (x_lt hTH6963 kH7081 gcq (by decide))).trans (f6970 j hj)
                  have f7096 : ∀ j : Nat, j ≠ li.toNatClampNeg → fI H7081 dq j = fI s.heap dq j := fun j hj => (fI_kept (x_lt hTH6963 kH7081 gdq (by decide))).trans (f6971 j hj)
                  have f7097 : ∀ j : Nat, j ≠ li.toNatClampNeg → fI H7081 fq j = fI s.heap fq j := fun j hj => (fI_kept (x_lt hTH6963 kH7081 gfq (by decide))).trans (f6972 j hj)
                  have f7098 : CSP lw.toInt (fun j => fI H7081 sq j) (fun j => fI s.heap sq j) sc.toNatClampNeg (x6883.toNatClampNeg) 3 ([smG kk vv lw.toInt x6842.toNatClampNeg]) ∧ (True) := ⟨CSP.kept f6973.1 (fun j => fI_kept (x_lt hTH6963 kH7081 gsq (by decide))), trivial⟩
                  have m7099 := (fI_kept (x_lt hTH6963 kH7081 gkq (by decide))).trans m6974
                  have m7100 := (m6975).trans (fI_kept (x_lt hTH6963 kH7081 gkq (by decide))).symm
                  have m7101 := (m6976).trans (fI_kept (x_lt hTH6963 kH7081 gwq (by decide))).symm
                  have m7102 := (m6977).trans (fI_kept (x_lt hTH6963 kH7081 gaq (by decide))).symm
                  have m7103 := (m6978).trans (fI_kept (x_lt hTH6963 kH7081 gfq (by decide))).symm
                  have m7104 := (m6982).trans (fR_kept (x_lt hTH6963 kH7081 gmq (by decide))).symm
                  have m7105 := (m6984).trans (fI_kept (x_lt hTH6963 kH7081 gmq (by decide))).symm
                  have m7106 := (m6987).trans (fI_kept (x_lt hTH6963 kH7081 gmq (by decide))).symm
                  have m7107 := (m6988).trans (fR_kept (x_lt hTH6963 kH7081 gmq (by decide))).symm
                  have m7108 := (m6989).trans (fR_kept (x_lt hTH6963 kH7081 gmq (by decide))).symm
                  have m7109 := (m6990).trans (fR_kept (x_lt hTH6963 kH7081 gmq (by decide))).symm
                  have m7110 := (m6991).trans (fR_kept (x_lt hTH6963 kH7081 gmq (by decide))).symm
                  have m7111 := (m6992).trans (fR_kept (x_lt hTH6963 kH7081 gmq (by decide))).symm
                  have m7112 := (m6993).trans (fR_kept (x_lt hTH6963 kH7081 gmq (by decide))).symm
                  have m7113 := (m6994).trans (fR_kept (x_lt hTH6963 kH7081 gmq (by decide))).symm
                  have m7114 := (m6995).trans (fI_kept (x_lt hTH6963 kH7081 gcq (by decide))).symm
                  have m7115 := (m6996).trans (fI_kept (x_lt hTH6963 kH7081 gkq (by decide))).symm
                  have m7116 := (m6997).trans (fI_kept (x_lt hTH6963 kH7081 gdq (by decide))).symm
                  have bx7083 := ty_fi (x := x7083) (k := 7) ex7083 hTH7081 ga0 rg_78 rfl
                  have bx7084 := ty_fi (x := x7084) (k := 1) ex7084 hTH7081 ga0 rg_78 rfl
                  refine W.eq (g2 := F0 m 230 ls6699 [.int x7082]) rfl ?_
                  have cn_F := i_cl (x := F) (by omega)
                  have cn_tat := i_cl (x := tat) (by omega)
                  have cn_x7083 := i_cl (x := x7083) (by omega)
                  have cn_x6704 := i_cl (x := x6704) (by omega)
                  have cn_x6842 := i_cl (x := x6842) (by omega)
                  have cn_x6881 := i_cl (x := x6881) (by omega)
                  exact x_zret C hQ (i_01 (by omega)) dX4_line_230 hSH7081 (by decide) (by decide) (⟨x7082, x7083, x7084, li, x6883, rfl, by omega, ex7083, ex7084, m7105, m7106, by omega, m7085, m7086, m7087, m7104, m7107, m7108, m7109, m7110, m7111, m7112, m7113, m7088, Or.inl ⟨(if_neg (by omega)).trans ((ln_go (by rw [qvx5947]; omega) qvx5947.symm (show x6704.toNatClampNeg = _ + 1 by omega) ((hs_law1 (by omega) (RQ.yes m6848 (by omega))).trans (RQ.yes m6890 (by omega))) (wn_0 (by rw [qvx6956]; omega))).trans (if_neg (by rw [qvx7000]; omega))), by omega⟩, (Or.inl (by omega)), (Or.inl (by omega)), (Or.inl (by omega)), f7091, f7097, f7092, f7093, f7094, f7095, f7096, hTH7081⟩)
              · have k6958 := i_eq c6957
                refine lv_aload_n hx hb dX4_line_175 rfl (lv_at hl6700 2 rfl) ?_
                refine lv_dup hx hb dX4_line_176 rfl ?_
                refine x_gi C hTH6921 (ci := 4) (k := 7) rfl inX4 (by decide) wF_X4_42 ga0 rg_78 rfl dX4_line_177 (fun x7117 ex7117 bx7117 => ?_)
                have ux7117 : x6881 = x7117 := (m6943).trans ex7117.symm
                subst ux7117
                refine lv_iconst (v := 1) hx hb dX4_line_180 (by decide) ?_
                refine lv_iadd hx hb dX4_line_181 ?_
                refine lv_topi (fun x7118 ex7118 => ?_)
                have tx7118 := i_add ex7118 (by omega)
                have fz7120 : 0 ≤ x7118.toInt ∧ x7118.toInt ≤ 500 := by have := i_rng x7118; omega
                refine x_put C hTH6921 hSH6921 (ci := 4) (k := 7) (v := .int x7118) (ty0 := tyX4) rfl inX4 tyX4_ok nmX4 (by decide) rfl wF_X4_42 ga0 rg_78 rfl rfl (okI (by have := i_rng x7118; omega) (by have := i_rng x7118; omega)) rfl rfl (AE_in ga0 (by decide)) dX4_line_182 (fun H7119 locsH7119 hTH7119 hSH7119 wH7119 => ?_)
                have f7121 : ∀ j : Nat, j ≤ F.toNatClampNeg → kk j = (fI H7119 kq j).toInt := fun j hj => (f6922 j hj).trans (congrArg Int32.toInt (Wr.neI wH7119 (Or.inl (G_ne gkq ga0 (by decide)))).symm)
                have f7122 : ∀ j : Nat, j ≤ F.toNatClampNeg → vv j = (fI H7119 vq j).toInt := fun j hj => (f6923 j hj).trans (congrArg Int32.toInt (Wr.neI wH7119 (Or.inl (G_ne gvq ga0 (by decide)))).symm)
                have f7123 : ∀ j : Nat, j ≠ li.toNatClampNeg → fI H7119 wq j = fI s.heap wq j := fun j hj => (Wr.neI wH7119 (Or.inl (G_ne gwq ga0 (by decide)))).trans (f6924 j hj)
                have f7124 : ∀ j : Nat, j ≠ li.toNatClampNeg → fI H7119 jq j = fI s.heap jq j := fun j hj => (Wr.neI wH7119 (Or.inl (G_ne gjq ga0 (by decide)))).trans (f6925 j hj)
                have f7125 : ∀ j : Nat, j ≠ li.toNatClampNeg → fI H7119 eq_ j = fI s.heap eq_ j := fun j hj => (Wr.neI wH7119 (Or.inl (G_ne geq_ ga0 (by decide)))).trans (f6926 j hj)
                have f7126 : ∀ j : Nat, j ≠ li.toNatClampNeg → fI H7119 aq j = fI s.heap aq j := fun j hj => (Wr.neI wH7119 (Or.inl (G_ne gaq ga0 (by decide)))).trans (f6927 j hj)
                have f7127 : ∀ j : Nat, j ≠ li.toNatClampNeg → fI H7119 cq j = fI s.heap cq j := fun j hj => (Wr.neI wH7119 (Or.inl (G_ne gcq ga0 (by decide)))).trans (f6928 j hj)
                have f7128 : ∀ j : Nat, j ≠ li.toNatClampNeg → fI H7119 dq j = fI s.heap dq j := fun j hj => (Wr.neI wH7119 (Or.inl (G_ne gdq ga0 (by decide)))).trans (f6929 j hj)
                have f7129 : ∀ j : Nat, j ≠ li.toNatClampNeg → fI H7119 fq j = fI s.heap fq j := fun j hj => (Wr.neI wH7119 (Or.inl (G_ne gfq ga0 (by decide)))).trans (f6930 j hj)
                have f7130 : CSP lw.toInt (fun j => fI H7119 sq j) (fun j => fI s.heap sq j) sc.toNatClampNeg (x6883.toNatClampNeg) 3 ([smG kk vv lw.toInt x6842.toNatClampNeg]) ∧ (True) := ⟨CSP.kept f6931.1 (fun j => fI_kept (wH7119.off (G_ne gsq ga0 (by decide)))), trivial⟩
                have m7131 := (Wr.neI wH7119 (Or.inl (G_ne gkq ga0 (by decide)))).trans m6932
                have m7132 := m6933.trans (Wr.neI wH7119 (Or.inl (G_ne gkq ga0 (by decide)))).symm
                have m7133 := m6934.trans (Wr.neI wH7119 (Or.inl (G_ne gwq ga0 (by decide)))).symm
                have m7134 := m6935.trans (Wr.neI wH7119 (Or.inl (G_ne gaq ga0 (by decide)))).symm
                have m7135 := m6936.trans (Wr.neI wH7119 (Or.inl (G_ne gfq ga0 (by decide)))).symm
                have m7136 := m6937.trans (Wr.neR wH7119 (Or.inr (x_apart hKT hts inX4 tyX4 tyX4_ok nmX4 rfl 0 7 (by decide) (by decide) (by decide)))).symm
                have m7137 := m6938.trans (Wr.neR wH7119 (Or.inr (x_apart hKT hts inX4 tyX4 tyX4_ok nmX4 rfl 3 7 (by decide) (by decide) (by decide)))).symm
                have m7138 := m6939.trans (Wr.neR wH7119 (Or.inr (x_apart hKT hts inX4 tyX4 tyX4_ok nmX4 rfl 4 7 (by decide) (by decide) (by decide)))).symm
                have m7139 := m6940.trans (Wr.neR wH7119 (Or.inl (G_ne gmq ga0 (by decide)))).symm
                have m7140 := m6941.trans (Wr.neI wH7119 (Or.inr (x_apart hKT hts inX4 tyX4 tyX4_ok nmX4 rfl 8 7 (by decide) (by decide) (by decide)))).symm
                have m7141 := m6942.trans (Wr.neI wH7119 (Or.inl (G_ne gmq ga0 (by decide)))).symm
                have m7143 := m6944.trans (Wr.neI wH7119 (Or.inr (x_apart hKT hts inX4 tyX4 tyX4_ok nmX4 rfl 1 7 (by decide) (by decide) (by decide)))).symm
                have m7144 := m6945.trans (Wr.neI wH7119 (Or.inl (G_ne gmq ga0 (by decide)))).symm
                have m7145 := m6946.trans (Wr.neR wH7119 (Or.inl (G_ne gmq ga0 (by decide)))).symm
                have m7146 := m6947.trans (Wr.neR wH7119 (Or.inl (G_ne gmq ga0 (by decide)))).symm
                have m7147 := m6948.trans (Wr.neR wH7119 (Or.inl (G_ne gmq ga0 (by decide)))).symm
                have m7148 := m6949.trans (Wr.neR wH7119 (Or.inl (G_ne gmq ga0 (by decide)))).symm
                have m7149 := m6950.trans (Wr.neR wH7119 (Or.inl (G_ne gmq ga0 (by decide)))).symm
                have m7150 := m6951.trans (Wr.neR wH7119 (Or.inl (G_ne gmq ga0 (by decide)))).symm
                have m7151 := m6952.trans (Wr.neR wH7119 (Or.inl (G_ne gmq ga0 (by decide)))).symm
                have m7152 := m6953.trans (Wr.neI wH7119 (Or.inl (G_ne gcq ga0 (by decide)))).symm
                have m7153 := ex6956.trans (Wr.neI wH7119 (Or.inl (G_ne gkq ga0 (by decide)))).symm
                have m7154 := Wr.I wH7119
                have m7154 := m7154.symm
                refine lv_aload_n hx hb dX4_line_185 rfl (lv_at hl6700 2 rfl) ?_
                refine lv_iconst (v := 0) hx hb dX4_line_186 (by decide) ?_
                refine x_V (As := [.int 0]) (rest := []) C (a_X4_either_g0 l K G H7119 (0) (F) (x7118) (x6882) (x6883) (lw) (li) kk vv hTH7119 ga0 (by decide) gmq m7136 gkq m7137 gvq m7138 gsq m7139 m7154 m7143 m7144 m7140 m7141 m7131 (by omega) (by omega) (by omega) (hy0) f7121 f7122) yo_X4_either wM_X4_113 ⟨⟨by decide, by decide⟩, by decide, by decide⟩ (x_rv C hTH7119 (ci := 4) rfl ga0 rg_78) rfl hl6700.1 rfl (Nat.le_of_ble_eq_true rfl) dX4_line_187 hSH7119 (AE_sub (fun _ _ => rfl) (by decide) hSH7119.1) (fun vH7155 H7155 locsH7155 pH7155 zH7155 kH7155 hSH7155 => ?_)
                obtain ⟨x7156, x7157, x7158, x7159, hvH7155, bx7156, ex7157, ex7158, ex7159, hrH7155, m7160, m7161, m7162, m7163, m7164, m7165, m7166, m7167, m7168, hTH7155⟩ := pH7155
                subst hvH7155
                have f7169 : ∀ j : Nat, j ≤ F.toNatClampNeg → kk j = (fI H7155 kq j).toInt := fun j hj => (f7121 j hj).trans (congrArg Int32.toInt (fI_kept (x_lt hTH7119 kH7155 gkq (by decide))).symm)
                have f7170 : ∀ j : Nat, j ≤ F.toNatClampNeg → vv j = (fI H7155 vq j).toInt := fun j hj => (f7122 j hj).trans (congrArg Int32.toInt (fI_kept (x_lt hTH7119 kH7155 gvq (by decide))).symm)
                have f7171 : ∀ j : Nat, j ≠ li.toNatClampNeg → fI H7155 wq j = fI s.heap wq j := fun j hj => (fI_kept (x_lt hTH7119 kH7155 gwq (by decide))).trans (f7123 j hj)
                have f7172 : ∀ j : Nat, j ≠ li.toNatClampNeg → fI H7155 jq j = fI s.heap jq j := fun j hj => (fI_kept (x_lt hTH7119 kH7155 gjq (by decide))).trans (f7124 j hj)
                have f7173 : ∀ j : Nat, j ≠ li.toNatClampNeg → fI H7155 eq_ j = fI s.heap eq_ j := fun j hj => (fI_kept (x_lt hTH7119 kH7155 geq_ (by decide))).trans (f7125 j hj)
                have f7174 : ∀ j : Nat, j ≠ li.toNatClampNeg → fI H7155 aq j = fI s.heap aq j := fun j hj => (fI_kept (x_lt hTH7119 kH7155 gaq (by decide))).trans (f7126 j hj)
                have f7175 : ∀ j : Nat, j ≠ li.toNatClampNeg → fI H7155 cq j = fI s.heap cq j := fun j hj => (fI_kept (x_lt hTH7119 kH7155 gcq (by decide))).trans (f7127 j hj)
                have f7176 : ∀ j : Nat, j ≠ li.toNatClampNeg → fI H7155 dq j = fI s.heap dq j := fun j hj => (fI_kept (x_lt hTH7119 kH7155 gdq (by decide))).trans (f7128 j hj)
                have f7177 : ∀ j : Nat, j ≠ li.toNatClampNeg → fI H7155 fq j = fI s.heap fq j := fun j hj => (fI_kept (x_lt hTH7119 kH7155 gfq (by decide))).trans (f7129 j hj)
                have m7178 := (fI_kept (x_lt hTH7119 kH7155 gkq (by decide))).trans m7131
                have m7179 := (m7132).trans (fI_kept (x_lt hTH7119 kH7155 gkq (by decide))).symm
                have m7180 := (m7133).trans (fI_kept (x_lt hTH7119 kH7155 gwq (by decide))).symm
                have m7181 := (m7134).trans (fI_kept (x_lt hTH7119 kH7155 gaq (by decide))).symm
                have m7182 := (m7135).trans (fI_kept (x_lt hTH7119 kH7155 gfq (by decide))).symm
                have m7183 := (m7152).trans (fI_kept (x_lt hTH7119 kH7155 gcq (by decide))).symm
                have m7184 := (m7153).trans (fI_kept (x_lt hTH7119 kH7155 gkq (by decide))).symm
                have bx7157 := ty_fi (x := x7157) (k := 7) ex7157 hTH7155 ga0 rg_78 rfl
                have bx7158 := ty_fi (x := x7158) (k := 1) ex7158 hTH7155 ga0 rg_78 rfl
                have bx7159 := ty_fi (x := x7159) (k := 9) ex7159 hTH7155 gmq rg_69 rfl
                have m7185 := (m7145).trans (m7168 1 (by decide) (by decide)).symm
                have m7186 := (m7146).trans (m7168 2 (by decide) (by decide)).symm
                have m7187 := (m7147).trans (m7168 3 (by decide) (by decide)).symm
                have m7188 := (m7148).trans (m7168 4 (by decide) (by decide)).symm
                have m7189 := (m7149).trans (m7168 5 (by decide) (by decide)).symm
                have m7190 := (m7150).trans (m7168 6 (by decide) (by decide)).symm
                have m7191 := (m7151).trans (m7168 7 (by decide) (by decide)).symm
                refine W.eq (g2 := F0 m 190 ls6699 [.int x7156]) rfl ?_
                refine lv_if_ne (tgt := 195) hx hb dX4_line_190 (by decide) (fun c7192 => ?_) (fun c7192 => ?_)
                · have k7193 := i_ne c7192
                  have cn_sc := i_cl (x := sc) (by omega)
                  have cn_x7159 := i_cl (x := x7159) (by omega)
                  have cn_x6883 := i_cl (x := x6883) (by omega)
                  have cn_x7118 := i_cl (x := x7118) (by omega)
                  have ho7194 := m7167.resolve_left (by omega)
                  have cs7195 : CSP lw.toInt (fun j => fI H7155 sq j) (fun j => fI s.heap sq j) sc.toNatClampNeg (x6883.toNatClampNeg) 3 ([smG kk vv lw.toInt x6842.toNatClampNeg]) ∧ (CS lw.toInt (fun j => fI H7155 sq j) (x6883.toNatClampNeg) (x7159.toNatClampNeg) 22 ([orG kk (paS kk vv lw.toInt 8) (paF kk vv lw.toInt 8) x7118.toNatClampNeg])) := ⟨⟨f7130.1.1.keep (fun j hj => ho7194.2 j (by omega)), fun j hj => (ho7194.2 j (by omega)).trans (f7130.1.2 j hj)⟩, ho7194.1⟩
                  refine lv_aload_n hx hb dX4_line_195 rfl (lv_at hl6700 2 rfl) ?_
                  refine x_gr C hTH7155 (ci := 4) (k := 0) rfl inX4 (by decide) wF_X4_12 ga0 rg_78 rfl dX4_line_196 (fun q7196 eq7196 gq7196 => ?_)
                  have uq7196 : mq = q7196 := (m7160).trans eq7196.symm
                  subst uq7196
                  refine x_gr C hTH7155 (ci := 7) (k := 7) rfl inX7 (by decide) wF_X4_116 gmq rg_69 rfl dX4_line_199 (fun q7197 eq7197 gq7197 => ?_)
                  have uq7197 : dq = q7197 := (m7191).trans eq7197.symm
                  subst uq7197
                  refine lv_iload_n hx hb dX4_line_202 rfl (lv_at hl6700 0 rfl) ?_
                  refine lv_aload_n hx hb dX4_line_203 rfl (lv_at hl6700 2 rfl) ?_
                  refine x_gr C hTH7155 (ci := 4) (k := 0) rfl inX4 (by decide) wF_X4_12 ga0 rg_78 rfl dX4_line_204 (fun q7198 eq7198 gq7198 => ?_)
                  have uq7198 : mq = q7198 := (m7160).trans eq7198.symm
                  subst uq7198
                  refine x_gi C hTH7155 (ci := 7) (k := 9) rfl inX7 (by decide) wF_X4_96 gmq rg_69 rfl dX4_line_207 (fun x7199 ex7199 bx7199 => ?_)
                  have ux7199 : x7159 = x7199 := (ex7159).trans ex7199.symm
                  subst ux7199
                  refine x_iast C hTH7155 hSH7155 gdq rg_76 (by omega) (by show _ < ((16 : Nat) : Int); omega) ⟨by have := i_rng x7159; omega, by have := i_rng x7159; omega⟩ (AE_in gdq (by decide)) dX4_line_210 (fun H7200 locsH7200 hTH7200 hSH7200 wH7200 => ?_)
                  have f7201 : ∀ j : Nat, j ≤ F.toNatClampNeg → kk j = (fI H7200 kq j).toInt := fun j hj => (f7169 j hj).trans (congrArg Int32.toInt (Wr.neI wH7200 (Or.inl (G_ne gkq gdq (by decide)))).symm)
                  have f7202 : ∀ j : Nat, j ≤ F.toNatClampNeg → vv j = (fI H7200 vq j).toInt := fun j hj => (f7170 j hj).trans (congrArg Int32.toInt (Wr.neI wH7200 (Or.inl (G_ne gvq gdq (by decide)))).symm)
                  have f7203 : ∀ j : Nat, j ≠ li.toNatClampNeg → fI H7200 wq j = fI s.heap wq j := fun j hj => (Wr.neI wH7200 (Or.inl (G_ne gwq gdq (by decide)))).trans (f7171 j hj)
                  have f7204 : ∀ j : Nat, j ≠ li.toNatClampNeg → fI H7200 jq j = fI s.heap jq j := fun j hj => (Wr.neI wH7200 (Or.inl (G_ne gjq gdq (by decide)))).trans (f7172 j hj)
                  have f7205 : ∀ j : Nat, j ≠ li.toNatClampNeg → fI H7200 eq_ j = fI s.heap eq_ j := fun j hj => (Wr.neI wH7200 (Or.inl (G_ne geq_ gdq (by decide)))).trans (f7173 j hj)
                  have f7206 : ∀ j : Nat, j ≠ li.toNatClampNeg → fI H7200 aq j = fI s.heap aq j := fun j hj => (Wr.neI wH7200 (Or.inl (G_ne gaq gdq (by decide)))).trans (f7174 j hj)
                  have f7207 : ∀ j : Nat, j ≠ li.toNatClampNeg → fI H7200 cq j = fI s.heap cq j := fun j hj => (Wr.neI wH7200 (Or.inl (G_ne gcq gdq (by decide)))).trans (f7175 j hj)
                  have f7208 : ∀ j : Nat, j ≠ li.toNatClampNeg → fI H7200 dq j = fI s.heap dq j := fun j hj => (Wr.neI wH7200 (Or.inr hj)).trans (f7176 j hj)
                  have f7209 : ∀ j : Nat, j ≠ li.toNatClampNeg → fI H7200 fq j = fI s.heap fq j := fun j hj => (Wr.neI wH7200 (Or.inl (G_ne gfq gdq (by decide)))).trans (f7177 j hj)
                  have f7210 : CSP lw.toInt (fun j => fI H7200 sq j) (fun j => fI s.heap sq j) sc.toNatClampNeg (x6883.toNatClampNeg) 3 ([smG kk vv lw.toInt x6842.toNatClampNeg]) ∧ (CS lw.toInt (fun j => fI H7200 sq j) (x6883.toNatClampNeg) (x7159.toNatClampNeg) 22 ([orG kk (paS kk vv lw.toInt 8) (paF kk vv lw.toInt 8) x7118.toNatClampNeg])) := ⟨CSP.kept cs7195.1 (fun j => fI_kept (wH7200.off (G_ne gsq gdq (by decide)))), CS.keep cs7195.2 (fun j _ => fI_kept (wH7200.off (G_ne gsq gdq (by decide))))⟩
                  have m7211 := (Wr.neI wH7200 (Or.inl (G_ne gkq gdq (by decide)))).trans m7178
                  have m7212 := m7179.trans (Wr.neI wH7200 (Or.inl (G_ne gkq gdq (by decide)))).symm
                  have m7213 := m7180.trans (Wr.neI wH7200 (Or.inl (G_ne gwq gdq (by decide)))).symm
                  have m7214 := m7181.trans (Wr.neI wH7200 (Or.inl (G_ne gaq gdq (by decide)))).symm
                  have m7215 := m7182.trans (Wr.neI wH7200 (Or.inl (G_ne gfq gdq (by decide)))).symm
                  have m7216 := m7183.trans (Wr.neI wH7200 (Or.inl (G_ne gcq gdq (by decide)))).symm
                  have m7217 := m7184.trans (Wr.neI wH7200 (Or.inl (G_ne gkq gdq (by decide)))).symm
                  have m7218 := m7160.trans (Wr.neR wH7200 (Or.inl (G_ne ga0 gdq (by decide)))).symm
                  have m7219 := m7161.trans (Wr.neR wH7200 (Or.inl (G_ne ga0 gdq (by decide)))).symm
                  have m7220 := m7162.trans (Wr.neR wH7200 (Or.inl (G_ne ga0 gdq (by decide)))).symm
                  have m7221 := m7163.trans (Wr.neR wH7200 (Or.inl (G_ne gmq gdq (by decide)))).symm
                  have m7222 := m7164.trans (Wr.neI wH7200 (Or.inl (G_ne ga0 gdq (by decide)))).symm
                  have m7223 := m7165.trans (Wr.neI wH7200 (Or.inl (G_ne gmq gdq (by decide)))).symm
                  have m7224 := ex7157.trans (Wr.neI wH7200 (Or.inl (G_ne ga0 gdq (by decide)))).symm
                  have m7225 := ex7158.trans (Wr.neI wH7200 (Or.inl (G_ne ga0 gdq (by decide)))).symm
                  have m7226 := ex7159.trans (Wr.neI wH7200 (Or.inl (G_ne gmq gdq (by decide)))).symm
                  have m7227 := m7185.trans (Wr.neR wH7200 (Or.inl (G_ne gmq gdq (by decide)))).symm
                  have m7228 := m7186.trans (Wr.neR wH7200 (Or.inl (G_ne gmq gdq (by decide)))).symm
                  have m7229 := m7187.trans (Wr.neR wH7200 (Or.inl (G_ne gmq gdq (by decide)))).symm
                  have m7230 := m7188.trans (Wr.neR wH7200 (Or.inl (G_ne gmq gdq (by decide)))).symm
                  have m7231 := m7189.trans (Wr.neR wH7200 (Or.inl (G_ne gmq gdq (by decide)))).symm
                  have m7232 := m7190.trans (Wr.neR wH7200 (Or.inl (G_ne gmq gdq (by decide)))).symm
                  have m7233 := m7191.trans (Wr.neR wH7200 (Or.inl (G_ne gmq gdq (by decide)))).symm
                  have m7234 := Wr.I wH7200
                  have m7234 := m7234.symm
                  refine lv_aload_n hx hb dX4_line_211 rfl (lv_at hl6700 2 rfl) ?_
                  refine x_gr C hTH7200 (ci := 4) (k := 3) rfl inX4 (by decide) wF_X4_18 ga0 rg_78 rfl dX4_line_212 (fun q7235 eq7235 gq7235 => ?_)
                  have uq7235 : kq = q7235 := (m7219).trans eq7235.symm
                  subst uq7235
                  refine lv_aload_n hx hb dX4_line_215 rfl (lv_at hl6700 2 rfl) ?_
                  refine x_gi C hTH7200 (ci := 4) (k := 7) rfl inX4 (by decide) wF_X4_42 ga0 rg_78 rfl dX4_line_216 (fun x7236 ex7236 bx7236 => ?_)
                  have ux7236 : x7157 = x7236 := (m7224).trans ex7236.symm
                  subst ux7236
                  refine x_ai C hTH7200 gkq rg_79 ⟨by omega, by show _ < ((501 : Nat) : Int); omega⟩ dX4_line_219 (fun x7237 ex7237 bx7237 => ?_)
                  have dx7237 := el_hit ex7237 m7211
                  have qvx7237 : kk x7157.toNatClampNeg = x7237.toInt := (f7201 _ (by have h1 := i_cl (x := x7157) (by omega); have h2 := i_cl (x := F) (by omega); omega)).trans (congrArg Int32.toInt ex7237.symm)
                  refine lv_bipush (v := 59) hx hb dX4_line_220 (by decide) ?_
                  refine lv_icmp_eq (tgt := 231) hx hb dX4_line_222 (by decide) (fun c7238 => ?_) (fun c7238 => ?_)
                  · have k7239 := i_eq c7238
                    refine lv_aload_n hx hb dX4_line_231 rfl (lv_at hl6700 2 rfl) ?_
                    refine lv_dup hx hb dX4_line_232 rfl ?_
                    refine x_gi C hTH7200 (ci := 4) (k := 7) rfl inX4 (by decide) wF_X4_42 ga0 rg_78 rfl dX4_line_233 (fun x7240 ex7240 bx7240 => ?_)
                    have ux7240 : x7157 = x7240 := (m7224).trans ex7240.symm
                    subst ux7240
                    refine lv_iconst (v := 1) hx hb dX4_line_236 (by decide) ?_
                    refine lv_iadd hx hb dX4_line_237 ?_
                    refine lv_topi (fun x7241 ex7241 => ?_)
                    have tx7241 := i_add ex7241 (by omega)
                    have fz7243 : 0 ≤ x7241.toInt ∧ x7241.toInt ≤ 500 := by have := i_rng x7241; omega
                    refine x_put C hTH7200 hSH7200 (ci := 4) (k := 7) (v := .int x7241) (ty0 := tyX4) rfl inX4 tyX4_ok nmX4 (by decide) rfl wF_X4_42 ga0 rg_78 rfl rfl (okI (by have := i_rng x7241; omega) (by have := i_rng x7241; omega)) rfl rfl (AE_in ga0 (by decide)) dX4_line_238 (fun H7242 locsH7242 hTH7242 hSH7242 wH7242 => ?_)
                    have f7244 : ∀ j : Nat, j ≤ F.toNatClampNeg → kk j = (fI H7242 kq j).toInt := fun j hj => (f7201 j hj).trans (congrArg Int32.toInt (Wr.neI wH7242 (Or.inl (G_ne gkq ga0 (by decide)))).symm)
                    have f7245 : ∀ j : Nat, j ≤ F.toNatClampNeg → vv j = (fI H7242 vq j).toInt := fun j hj => (f7202 j hj).trans (congrArg Int32.toInt (Wr.neI wH7242 (Or.inl (G_ne gvq ga0 (by decide)))).symm)
                    have f7246 : ∀ j : Nat, j ≠ li.toNatClampNeg → fI H7242 wq j = fI s.heap wq j := fun j hj => (Wr.neI wH7242 (Or.inl (G_ne gwq ga0 (by decide)))).trans (f7203 j hj)
                    have f7247 : ∀ j : Nat, j ≠ li.toNatClampNeg → fI H7242 jq j = fI s.heap jq j := fun j hj => (Wr.neI wH7242 (Or.inl (G_ne gjq ga0 (by decide)))).trans (f7204 j hj)
                    have f7248 : ∀ j : Nat, j ≠ li.toNatClampNeg → fI H7242 eq_ j = fI s.heap eq_ j := fun j hj => (Wr.neI wH7242 (Or.inl (G_ne geq_ ga0 (by decide)))).trans (f7205 j hj)
                    have f7249 : ∀ j : Nat, j ≠ li.toNatClampNeg → fI H7242 aq j = fI s.heap aq j := fun j hj => (Wr.neI wH7242 (Or.inl (G_ne gaq ga0 (by decide)))).trans (f7206 j hj)
                    have f7250 : ∀ j : Nat, j ≠ li.toNatClampNeg → fI H7242 cq j = fI s.heap cq j := fun j hj => (Wr.neI wH7242 (Or.inl (G_ne gcq ga0 (by decide)))).trans (f7207 j hj)
                    have f7251 : ∀ j : Nat, j ≠ li.toNatClampNeg → fI H7242 dq j = fI s.heap dq j := fun j hj => (Wr.neI wH7242 (Or.inl (G_ne gdq ga0 (by decide)))).trans (f7208 j hj)
                    have f7252 : ∀ j : Nat, j ≠ li.toNatClampNeg → fI H7242 fq j = fI s.heap fq j := fun j hj => (Wr.neI wH7242 (Or.inl (G_ne gfq ga0 (by decide)))).trans (f7209 j hj)
                    have f7253 : CSP lw.toInt (fun j => fI H7242 sq j) (fun j => fI s.heap sq j) sc.toNatClampNeg (x6883.toNatClampNeg) 3 ([smG kk vv lw.toInt x6842.toNatClampNeg]) ∧ (CS lw.toInt (fun j => fI H7242 sq j) (x6883.toNatClampNeg) (x7159.toNatClampNeg) 22 ([orG kk (paS kk vv lw.toInt 8) (paF kk vv lw.toInt 8) x7118.toNatClampNeg])) := ⟨CSP.kept f7210.1 (fun j => fI_kept (wH7242.off (G_ne gsq ga0 (by decide)))), CS.keep f7210.2 (fun j _ => fI_kept (wH7242.off (G_ne gsq ga0 (by decide))))⟩
                    have m7254 := (Wr.neI wH7242 (Or.inl (G_ne gkq ga0 (by decide)))).trans m7211
                    have m7255 := m7212.trans (Wr.neI wH7242 (Or.inl (G_ne gkq ga0 (by decide)))).symm
                    have m7256 := m7213.trans (Wr.neI wH7242 (Or.inl (G_ne gwq ga0 (by decide)))).symm
                    have m7257 := m7214.trans (Wr.neI wH7242 (Or.inl (G_ne gaq ga0 (by decide)))).symm
                    have m7258 := m7215.trans (Wr.neI wH7242 (Or.inl (G_ne gfq ga0 (by decide)))).symm
                    have m7259 := m7216.trans (Wr.neI wH7242 (Or.inl (G_ne gcq ga0 (by decide)))).symm
                    have m7260 := m7217.trans (Wr.neI wH7242 (Or.inl (G_ne gkq ga0 (by decide)))).symm
                    have m7261 := m7218.trans (Wr.neR wH7242 (Or.inr (x_apart hKT hts inX4 tyX4 tyX4_ok nmX4 rfl 0 7 (by decide) (by decide) (by decide)))).symm
                    have m7262 := m7219.trans (Wr.neR wH7242 (Or.inr (x_apart hKT hts inX4 tyX4 tyX4_ok nmX4 rfl 3 7 (by decide) (by decide) (by decide)))).symm
                    have m7263 := m7220.trans (Wr.neR wH7242 (Or.inr (x_apart hKT hts inX4 tyX4 tyX4_ok nmX4 rfl 4 7 (by decide) (by decide) (by decide)))).symm
                    have m7264 := m7221.trans (Wr.neR wH7242 (Or.inl (G_ne gmq ga0 (by decide)))).symm
                    have m7265 := m7222.trans (Wr.neI wH7242 (Or.inr (x_apart hKT hts inX4 tyX4 tyX4_ok nmX4 rfl 8 7 (by decide) (by decide) (by decide)))).symm
                    have m7266 := m7223.trans (Wr.neI wH7242 (Or.inl (G_ne gmq ga0 (by decide)))).symm
                    have m7268 := m7225.trans (Wr.neI wH7242 (Or.inr (x_apart hKT hts inX4 tyX4 tyX4_ok nmX4 rfl 1 7 (by decide) (by decide) (by decide)))).symm
                    have m7269 := m7226.trans (Wr.neI wH7242 (Or.inl (G_ne gmq ga0 (by decide)))).symm
                    have m7270 := m7227.trans (Wr.neR wH7242 (Or.inl (G_ne gmq ga0 (by decide)))).symm
                    have m7271 := m7228.trans (Wr.neR wH7242 (Or.inl (G_ne gmq ga0 (by decide)))).symm
                    have m7272 := m7229.trans (Wr.neR wH7242 (Or.inl (G_ne gmq ga0 (by decide)))).symm
                    have m7273 := m7230.trans (Wr.neR wH7242 (Or.inl (G_ne gmq ga0 (by decide)))).symm
                    have m7274 := m7231.trans (Wr.neR wH7242 (Or.inl (G_ne gmq ga0 (by decide)))).symm
                    have m7275 := m7232.trans (Wr.neR wH7242 (Or.inl (G_ne gmq ga0 (by decide)))).symm
                    have m7276 := m7233.trans (Wr.neR wH7242 (Or.inl (G_ne gmq ga0 (by decide)))).symm
                    have m7277 := m7234.trans (Wr.neI wH7242 (Or.inl (G_ne gdq ga0 (by decide)))).symm
                    have m7278 := ex7237.trans (Wr.neI wH7242 (Or.inl (G_ne gkq ga0 (by decide)))).symm
                    have m7279 := Wr.I wH7242
                    have m7279 := m7279.symm
                    refine lv_aload_n hx hb dX4_line_241 rfl (lv_at hl6700 2 rfl) ?_
                    refine x_gr C hTH7242 (ci := 4) (k := 0) rfl inX4 (by decide) wF_X4_12 ga0 rg_78 rfl dX4_line_242 (fun q7280 eq7280 gq7280 => ?_)
                    have uq7280 : mq = q7280 := (m7261).trans eq7280.symm
                    subst uq7280
                    refine lv_dup hx hb dX4_line_245 rfl ?_
                    refine x_gi C hTH7242 (ci := 7) (k := 0) rfl inX7 (by decide) wF_X4_84 gmq rg_69 rfl dX4_line_246 (fun x7281 ex7281 bx7281 => ?_)
                    have ux7281 : li = x7281 := (m7266).trans ex7281.symm
                    subst ux7281
                    refine lv_iconst (v := 1) hx hb dX4_line_249 (by decide) ?_
                    refine lv_iadd hx hb dX4_line_250 ?_
                    refine lv_topi (fun x7282 ex7282 => ?_)
                    have tx7282 := i_add ex7282 (by omega)
                    refine x_put C hTH7242 hSH7242 (ci := 7) (k := 0) (v := .int x7282) (ty0 := tyX7) rfl inX7 tyX7_ok nmX7 (by decide) rfl wF_X4_84 gmq rg_69 rfl rfl (okI (by have := i_rng x7282; omega) (by have := i_rng x7282; omega)) rfl rfl (AE_in gmq (by decide)) dX4_line_251 (fun H7283 locsH7283 hTH7283 hSH7283 wH7283 => ?_)
                    have f7284 : ∀ j : Nat, j ≤ F.toNatClampNeg → kk j = (fI H7283 kq j).toInt := fun j hj => (f7244 j hj).trans (congrArg Int32.toInt (Wr.neI wH7283 (Or.inl (G_ne gkq gmq (by decide)))).symm)
                    have f7285 : ∀ j : Nat, j ≤ F.toNatClampNeg → vv j = (fI H7283 vq j).toInt := fun j hj => (f7245 j hj).trans (congrArg Int32.toInt (Wr.neI wH7283 (Or.inl (G_ne gvq gmq (by decide)))).symm)
                    have f7286 : ∀ j : Nat, j ≠ li.toNatClampNeg → fI H7283 wq j = fI s.heap wq j := fun j hj => (Wr.neI wH7283 (Or.inl (G_ne gwq gmq (by decide)))).trans (f7246 j hj)
                    have f7287 : ∀ j : Nat, j ≠ li.toNatClampNeg → fI H7283 jq j = fI s.heap jq j := fun j hj => (Wr.neI wH7283 (Or.inl (G_ne gjq gmq (by decide)))).trans (f7247 j hj)
                    have f7288 : ∀ j : Nat, j ≠ li.toNatClampNeg → fI H7283 eq_ j = fI s.heap eq_ j := fun j hj => (Wr.neI wH7283 (Or.inl (G_ne geq_ gmq (by decide)))).trans (f7248 j hj)
                    have f7289 : ∀ j : Nat, j ≠ li.toNatClampNeg → fI H7283 aq j = fI s.heap aq j := fun j hj => (Wr.neI wH7283 (Or.inl (G_ne gaq gmq (by decide)))).trans (f7249 j hj)
                    have f7290 : ∀ j : Nat, j ≠ li.toNatClampNeg → fI H7283 cq j = fI s.heap cq j := fun j hj => (Wr.neI wH7283 (Or.inl (G_ne gcq gmq (by decide)))).trans (f7250 j hj)
                    have f7291 : ∀ j : Nat, j ≠ li.toNatClampNeg → fI H7283 dq j = fI s.heap dq j := fun j hj => (Wr.neI wH7283 (Or.inl (G_ne gdq gmq (by decide)))).trans (f7251 j hj)
                    have f7292 : ∀ j : Nat, j ≠ li.toNatClampNeg → fI H7283 fq j = fI s.heap fq j := fun j hj => (Wr.neI wH7283 (Or.inl (G_ne gfq gmq (by decide)))).trans (f7252 j hj)
                    have f7293 : CSP lw.toInt (fun j => fI H7283 sq j) (fun j => fI s.heap sq j) sc.toNatClampNeg (x6883.toNatClampNeg) 3 ([smG kk vv lw.toInt x6842.toNatClampNeg]) ∧ (CS lw.toInt (fun j => fI H7283 sq j) (x6883.toNatClampNeg) (x7159.toNatClampNeg) 22 ([orG kk (paS kk vv lw.toInt 8) (paF kk vv lw.toInt 8) x7118.toNatClampNeg])) := ⟨CSP.kept f7253.1 (fun j => fI_kept (wH7283.off (G_ne gsq gmq (by decide)))), CS.keep f7253.2 (fun j _ => fI_kept (wH7283.off (G_ne gsq gmq (by decide))))⟩
                    have m7294 := (Wr.neI wH7283 (Or.inl (G_ne gkq gmq (by decide)))).trans m7254
                    have m7295 := m7255.trans (Wr.neI wH7283 (Or.inl (G_ne gkq gmq (by decide)))).symm
                    have m7296 := m7256.trans (Wr.neI wH7283 (Or.inl (G_ne gwq gmq (by decide)))).symm
                    have m7297 := m7257.trans (Wr.neI wH7283 (Or.inl (G_ne gaq gmq (by decide)))).symm
                    have m7298 := m7258.trans (Wr.neI wH7283 (Or.inl (G_ne gfq gmq (by decide)))).symm
                    have m7299 := m7259.trans (Wr.neI wH7283 (Or.inl (G_ne gcq gmq (by decide)))).symm
                    have m7300 := m7260.trans (Wr.neI wH7283 (Or.inl (G_ne gkq gmq (by decide)))).symm
                    have m7301 := m7261.trans (Wr.neR wH7283 (Or.inl (G_ne ga0 gmq (by decide)))).symm
                    have m7302 := m7262.trans (Wr.neR wH7283 (Or.inl (G_ne ga0 gmq (by decide)))).symm
                    have m7303 := m7263.trans (Wr.neR wH7283 (Or.inl (G_ne ga0 gmq (by decide)))).symm
                    have m7304 := m7264.trans (Wr.neR wH7283 (Or.inr (x_apart hKT hts inX7 tyX7 tyX7_ok nmX7 rfl 8 0 (by decide) (by decide) (by decide)))).symm
                    have m7305 := m7265.trans (Wr.neI wH7283 (Or.inl (G_ne ga0 gmq (by decide)))).symm
                    have m7307 := m7268.trans (Wr.neI wH7283 (Or.inl (G_ne ga0 gmq (by decide)))).symm
                    have m7308 := m7269.trans (Wr.neI wH7283 (Or.inr (x_apart hKT hts inX7 tyX7 tyX7_ok nmX7 rfl 9 0 (by decide) (by decide) (by decide)))).symm
                    have m7309 := m7270.trans (Wr.neR wH7283 (Or.inr (x_apart hKT hts inX7 tyX7 tyX7_ok nmX7 rfl 1 0 (by decide) (by decide) (by decide)))).symm
                    have m7310 := m7271.trans (Wr.neR wH7283 (Or.inr (x_apart hKT hts inX7 tyX7 tyX7_ok nmX7 rfl 2 0 (by decide) (by decide) (by decide)))).symm
                    have m7311 := m7272.trans (Wr.neR wH7283 (Or.inr (x_apart hKT hts inX7 tyX7 tyX7_ok nmX7 rfl 3 0 (by decide) (by decide) (by decide)))).symm
                    have m7312 := m7273.trans (Wr.neR wH7283 (Or.inr (x_apart hKT hts inX7 tyX7 tyX7_ok nmX7 rfl 4 0 (by decide) (by decide) (by decide)))).symm
                    have m7313 := m7274.trans (Wr.neR wH7283 (Or.inr (x_apart hKT hts inX7 tyX7 tyX7_ok nmX7 rfl 5 0 (by decide) (by decide) (by decide)))).symm
                    have m7314 := m7275.trans (Wr.neR wH7283 (Or.inr (x_apart hKT hts inX7 tyX7 tyX7_ok nmX7 rfl 6 0 (by decide) (by decide) (by decide)))).symm
                    have m7315 := m7276.trans (Wr.neR wH7283 (Or.inr (x_apart hKT hts inX7 tyX7 tyX7_ok nmX7 rfl 7 0 (by decide) (by decide) (by decide)))).symm
                    have m7316 := m7277.trans (Wr.neI wH7283 (Or.inl (G_ne gdq gmq (by decide)))).symm
                    have m7317 := m7278.trans (Wr.neI wH7283 (Or.inl (G_ne gkq gmq (by decide)))).symm
                    have m7318 := m7279.trans (Wr.neI wH7283 (Or.inl (G_ne ga0 gmq (by decide)))).symm
                    have m7319 := Wr.I wH7283
                    have m7319 := m7319.symm
                    refine lv_iconst (v := 1) hx hb dX4_line_254 (by decide) ?_
                    have cn_F := i_cl (x := F) (by omega)
                    have cn_tat := i_cl (x := tat) (by omega)
                    have cn_x7241 := i_cl (x := x7241) (by omega)
                    have cn_x6704 := i_cl (x := x6704) (by omega)
                    have cn_x6842 := i_cl (x := x6842) (by omega)
                    have cn_x6881 := i_cl (x := x6881) (by omega)
                    have cn_x7157 := i_cl (x := x7157) (by omega)
                    have cn_x7118 := i_cl (x := x7118) (by omega)
                    have cn_tat := i_cl (x := tat) (by omega)
                    have cn_F := i_cl (x := F) (by omega)
                    have cn_x6704 := i_cl (x := x6704) (by omega)
                    have cn_x6842 := i_cl (x := x6842) (by omega)
                    have cn_x6881 := i_cl (x := x6881) (by omega)
                    have cn_x7157 := i_cl (x := x7157) (by omega)
                    have cn_x7118 := i_cl (x := x7118) (by omega)
                    exact x_zret C hQ (Or.inr rfl) dX4_line_255 hSH7283 (by decide) (by decide) (⟨1, x7241, x7158, x7282, x7159, rfl, by decide, m7318, m7307, m7319, m7308, by omega, m7301, m7302, m7303, m7304, m7309, m7310, m7311, m7312, m7313, m7314, m7315, m7305, Or.inr ⟨(if_neg (by omega)).trans ((ln_go (by rw [qvx5947]; omega) qvx5947.symm (show x6704.toNatClampNeg = _ + 1 by omega) ((hs_law1 (by omega) (RQ.yes m6848 (by omega))).trans (RQ.yes m6890 (by omega))) (wn_yes (by rw [qvx6956]; omega) (show x7118.toNatClampNeg = _ + 1 by omega) (RQ.yes m7166 (by omega)))).trans ((if_pos (by rw [qvx7237]; omega)).trans (congrArg some (show _ + 1 = x7241.toNatClampNeg by omega)))), by omega⟩, (Or.inr ⟨⟨by rw [← m7296]; exact qvx5947.symm, by rw [← m7298]; unfold lf1; exact (hf6876.resolve_left (by omega)).elim (fun z => by rw [if_pos ⟨by omega, by rw [qvx5947]; exact z.1⟩]; exact z.2) (fun z => by rw [if_neg (fun y => z.1 (by rw [← qvx5947]; exact y.2)), show tat.toNatClampNeg + 1 = x6704.toNatClampNeg by omega]; exact z.2)⟩, (fun z => absurd z (by omega)), (Or.inl ⟨by omega, by rw [← m7297, ← m7299, show lfs kk vv lw.toInt tat.toNatClampNeg = smG kk vv lw.toInt x6842.toNatClampNeg from congrArg (smG kk vv lw.toInt) (hl_at (by omega) qvx5947.symm (show x6704.toNatClampNeg = _ + 1 by omega) (RQ.yes m6848 (by omega)))]; exact f7293.1.1⟩), (Or.inl ⟨by unfold lhw; rw [(lcn_at qvx5947.symm (show x6704.toNatClampNeg = _ + 1 by omega) ((hs_law1 (by omega) (RQ.yes m6848 (by omega))).trans (RQ.yes m6890 (by omega))))]; exact decide_eq_true (by rw [qvx6956]; omega), by have z := CS.lt f7293.2 (by decide); rw [← m7299, ← m7316]; omega, by rw [← m7299, ← m7316]; unfold lfw; rw [(lcn_at qvx5947.symm (show x6704.toNatClampNeg = _ + 1 by omega) ((hs_law1 (by omega) (RQ.yes m6848 (by omega))).trans (RQ.yes m6890 (by omega)))), show x6881.toNatClampNeg + 1 = x7118.toNatClampNeg by omega]; exact f7293.2⟩)⟩), (Or.inr f7293.1.2), (Or.inr m7316.symm), f7286, f7292, f7287, f7288, f7289, f7290, f7291, hTH7283⟩)
                  · have k7239 := i_ne c7238
                    refine lv_aload_n hx hb dX4_line_225 rfl (lv_at hl6700 2 rfl) ?_
                    refine lv_iconst (v := 1) hx hb dX4_line_226 (by decide) ?_
                    refine x_V (As := [.int 1]) (rest := []) C (a_X4_refuse_e l K G H7200 (1) (x7157) (x7158) (lw) hTH7200 ga0 gmq m7218 gkq m7219 gvq m7220 m7224 m7225 m7222) yo_X4_refuse wM_X4_81 ⟨⟨by decide, by decide⟩, by decide, by decide⟩ (x_rv C hTH7200 (ci := 4) rfl ga0 rg_78) rfl hl6700.1 rfl (Nat.le_of_ble_eq_true rfl) dX4_line_227 hSH7200 (AE_sub (fun _ _ => rfl) (by decide) hSH7200.1) (fun vH7320 H7320 locsH7320 pH7320 zH7320 kH7320 hSH7320 => ?_)
                    obtain ⟨x7321, x7322, x7323, hvH7320, bx7321, ex7322, ex7323, hrH7320, m7324, m7325, m7326, m7327, hTH7320⟩ := pH7320
                    subst hvH7320
                    have f7328 : ∀ j : Nat, j ≤ F.toNatClampNeg → kk j = (fI H7320 kq j).toInt := fun j hj => (f7201 j hj).trans (congrArg Int32.toInt (fI_kept (x_lt hTH7200 kH7320 gkq (by decide))).symm)
                    have f7329 : ∀ j : Nat, j ≤ F.toNatClampNeg → vv j = (fI H7320 vq j).toInt := fun j hj => (f7202 j hj).trans (congrArg Int32.toInt (fI_kept (x_lt hTH7200 kH7320 gvq (by decide))).symm)
                    have f7330 : ∀ j : Nat, j ≠ li.toNatClampNeg → fI H7320 wq j = fI s.heap wq j := fun j hj => (fI_kept (x_lt hTH7200 kH7320 gwq (by decide))).trans (f7203 j hj)
                    have f7331 : ∀ j : Nat, j ≠ li.toNatClampNeg → fI H7320 jq j = fI s.heap jq j := fun j hj => (fI_kept (x_lt hTH7200 kH7320 gjq (by decide))).trans (f7204 j hj)
                    have f7332 : ∀ j : Nat, j ≠ li.toNatClampNeg → fI H7320 eq_ j = fI s.heap eq_ j := fun j hj => (fI_kept (x_lt hTH7200 kH7320 geq_ (by decide))).trans (f7205 j hj)
                    have f7333 : ∀ j : Nat, j ≠ li.toNatClampNeg → fI H7320 aq j = fI s.heap aq j := fun j hj => (fI_kept (x_lt hTH7200 kH7320 gaq (by decide))).trans (f7206 j hj)
                    have f7334 : ∀ j : Nat, j ≠ li.toNatClampNeg → fI H7320 cq j = fI s.heap cq j := fun j hj => (fI_kept (x_lt hTH7200 kH7320 gcq (by decide))).trans (f7207 j hj)
                    have f7335 : ∀ j : Nat, j ≠ li.toNatClampNeg → fI H7320 dq j = fI s.heap dq j := fun j hj => (fI_kept (x_lt hTH7200 kH7320 gdq (by decide))).trans (f7208 j hj)
                    have f7336 : ∀ j : Nat, j ≠ li.toNatClampNeg → fI H7320 fq j = fI s.heap fq j := fun j hj => (fI_kept (x_lt hTH7200 kH7320 gfq (by decide))).trans (f7209 j hj)
                    have f7337 : CSP lw.toInt (fun j => fI H7320 sq j) (fun j => fI s.heap sq j) sc.toNatClampNeg (x6883.toNatClampNeg) 3 ([smG kk vv lw.toInt x6842.toNatClampNeg]) ∧ (CS lw.toInt (fun j => fI H7320 sq j) (x6883.toNatClampNeg) (x7159.toNatClampNeg) 22 ([orG kk (paS kk vv lw.toInt 8) (paF kk vv lw.toInt 8) x7118.toNatClampNeg])) := ⟨CSP.kept f7210.1 (fun j => fI_kept (x_lt hTH7200 kH7320 gsq (by decide))), CS.keep f7210.2 (fun j _ => fI_kept (x_lt hTH7200 kH7320 gsq (by decide)))⟩
                    have m7338 := (fI_kept (x_lt hTH7200 kH7320 gkq (by decide))).trans m7211
                    have m7339 := (m7212).trans (fI_kept (x_lt hTH7200 kH7320 gkq (by decide))).symm
                    have m7340 := (m7213).trans (fI_kept (x_lt hTH7200 kH7320 gwq (by decide))).symm
                    have m7341 := (m7214).trans (fI_kept (x_lt hTH7200 kH7320 gaq (by decide))).symm
                    have m7342 := (m7215).trans (fI_kept (x_lt hTH7200 kH7320 gfq (by decide))).symm
                    have m7343 := (m7216).trans (fI_kept (x_lt hTH7200 kH7320 gcq (by decide))).symm
                    have m7344 := (m7217).trans (fI_kept (x_lt hTH7200 kH7320 gkq (by decide))).symm
                    have m7345 := (m7221).trans (fR_kept (x_lt hTH7200 kH7320 gmq (by decide))).symm
                    have m7346 := (m7223).trans (fI_kept (x_lt hTH7200 kH7320 gmq (by decide))).symm
                    have m7347 := (m7226).trans (fI_kept (x_lt hTH7200 kH7320 gmq (by decide))).symm
                    have m7348 := (m7227).trans (fR_kept (x_lt hTH7200 kH7320 gmq (by decide))).symm
                    have m7349 := (m7228).trans (fR_kept (x_lt hTH7200 kH7320 gmq (by decide))).symm
                    have m7350 := (m7229).trans (fR_kept (x_lt hTH7200 kH7320 gmq (by decide))).symm
                    have m7351 := (m7230).trans (fR_kept (x_lt hTH7200 kH7320 gmq (by decide))).symm
                    have m7352 := (m7231).trans (fR_kept (x_lt hTH7200 kH7320 gmq (by decide))).symm
                    have m7353 := (m7232).trans (fR_kept (x_lt hTH7200 kH7320 gmq (by decide))).symm
                    have m7354 := (m7233).trans (fR_kept (x_lt hTH7200 kH7320 gmq (by decide))).symm
                    have m7355 := (m7234).trans (fI_kept (x_lt hTH7200 kH7320 gdq (by decide))).symm
                    have m7356 := (ex7237).trans (fI_kept (x_lt hTH7200 kH7320 gkq (by decide))).symm
                    have bx7322 := ty_fi (x := x7322) (k := 7) ex7322 hTH7320 ga0 rg_78 rfl
                    have bx7323 := ty_fi (x := x7323) (k := 1) ex7323 hTH7320 ga0 rg_78 rfl
                    refine W.eq (g2 := F0 m 230 ls6699 [.int x7321]) rfl ?_
                    have cn_F := i_cl (x := F) (by omega)
                    have cn_tat := i_cl (x := tat) (by omega)
                    have cn_x7322 := i_cl (x := x7322) (by omega)
                    have cn_x6704 := i_cl (x := x6704) (by omega)
                    have cn_x6842 := i_cl (x := x6842) (by omega)
                    have cn_x6881 := i_cl (x := x6881) (by omega)
                    have cn_x7157 := i_cl (x := x7157) (by omega)
                    have cn_x7118 := i_cl (x := x7118) (by omega)
                    exact x_zret C hQ (i_01 (by omega)) dX4_line_230 hSH7320 (by decide) (by decide) (⟨x7321, x7322, x7323, li, x7159, rfl, by omega, ex7322, ex7323, m7346, m7347, by omega, m7324, m7325, m7326, m7345, m7348, m7349, m7350, m7351, m7352, m7353, m7354, m7327, Or.inl ⟨(if_neg (by omega)).trans ((ln_go (by rw [qvx5947]; omega) qvx5947.symm (show x6704.toNatClampNeg = _ + 1 by omega) ((hs_law1 (by omega) (RQ.yes m6848 (by omega))).trans (RQ.yes m6890 (by omega))) (wn_yes (by rw [qvx6956]; omega) (show x7118.toNatClampNeg = _ + 1 by omega) (RQ.yes m7166 (by omega)))).trans (if_neg (by rw [qvx7237]; omega))), by omega⟩, (Or.inl (by omega)), (Or.inl (by omega)), (Or.inl (by omega)), f7330, f7336, f7331, f7332, f7333, f7334, f7335, hTH7320⟩)
                · have k7193 := i_eq c7192
                  refine lv_iconst (v := 0) hx hb dX4_line_193 (by decide) ?_
                  have cn_F := i_cl (x := F) (by omega)
                  have cn_tat := i_cl (x := tat) (by omega)
                  have cn_x7157 := i_cl (x := x7157) (by omega)
                  have cn_x6704 := i_cl (x := x6704) (by omega)
                  have cn_x6842 := i_cl (x := x6842) (by omega)
                  have cn_x6881 := i_cl (x := x6881) (by omega)
                  have cn_x7157 := i_cl (x := x7157) (by omega)
                  have cn_x7118 := i_cl (x := x7118) (by omega)
                  exact x_zret C hQ (Or.inl rfl) dX4_line_194 hSH7155 (by decide) (by decide) (⟨0, x7157, x7158, li, x7159, rfl, by decide, ex7157, ex7158, m7165, ex7159, by omega, m7160, m7161, m7162, m7163, m7185, m7186, m7187, m7188, m7189, m7190, m7191, m7164, Or.inl ⟨(if_neg (by omega)).trans (ln_no2 (by rw [qvx5947]; omega) qvx5947.symm (show x6704.toNatClampNeg = _ + 1 by omega) ((hs_law1 (by omega) (RQ.yes m6848 (by omega))).trans (RQ.yes m6890 (by omega))) (wn_no (by rw [qvx6956]; omega) (show x7118.toNatClampNeg = _ + 1 by omega) (RQ.no m7166 (by omega)))), by omega⟩, (Or.inl (by rfl)), (Or.inl (by rfl)), (Or.inl (by rfl)), f7171, f7177, f7172, f7173, f7174, f7175, f7176, hTH7155⟩)
      · have k6702 := i_nlt c6701
        refine lv_aload_n hx hb dX4_line_56 rfl (lv_at hl6700 2 rfl) ?_
        refine lv_iconst (v := 3) hx hb dX4_line_57 (by decide) ?_
        refine x_V (As := [.int 3]) (rest := []) C (a_X4_refuse_e l K G s.heap (3) (tat) (fa) (lw) hT ga0 gmq emq gkq ekq gvq evq etat efa elw) yo_X4_refuse wM_X4_81 ⟨⟨by decide, by decide⟩, by decide, by decide⟩ (x_rv C hT (ci := 4) rfl ga0 rg_78) rfl hl6700.1 rfl (Nat.le_of_ble_eq_true rfl) dX4_line_58 hS (AE_sub (fun _ _ => rfl) (by decide) hS.1) (fun vH7357 H7357 locsH7357 pH7357 zH7357 kH7357 hSH7357 => ?_)
        obtain ⟨x7358, x7359, x7360, hvH7357, bx7358, ex7359, ex7360, hrH7357, m7361, m7362, m7363, m7364, hTH7357⟩ := pH7357
        subst hvH7357
        have f7365 : ∀ j : Nat, j ≤ F.toNatClampNeg → kk j = (fI H7357 kq j).toInt := fun j hj => (f0_kk j hj).trans (congrArg Int32.toInt (fI_kept (x_lt hT kH7357 gkq (by decide))).symm)
        have f7366 : ∀ j : Nat, j ≤ F.toNatClampNeg → vv j = (fI H7357 vq j).toInt := fun j hj => (f0_vv j hj).trans (congrArg Int32.toInt (fI_kept (x_lt hT kH7357 gvq (by decide))).symm)
        have f7367 : ∀ j : Nat, j ≠ li.toNatClampNeg → fI H7357 wq j = fI s.heap wq j := fun j hj => (fI_kept (x_lt hT kH7357 gwq (by decide))).trans (f0_s_wq j hj)
        have f7368 : ∀ j : Nat, j ≠ li.toNatClampNeg → fI H7357 fq j = fI s.heap fq j := fun j hj => (fI_kept (x_lt hT kH7357 gfq (by decide))).trans (f0_s_fq j hj)
        have f7369 : ∀ j : Nat, j ≠ li.toNatClampNeg → fI H7357 jq j = fI s.heap jq j := fun j hj => (fI_kept (x_lt hT kH7357 gjq (by decide))).trans (f0_s_jq j hj)
        have f7370 : ∀ j : Nat, j ≠ li.toNatClampNeg → fI H7357 eq_ j = fI s.heap eq_ j := fun j hj => (fI_kept (x_lt hT kH7357 geq_ (by decide))).trans (f0_s_eq_ j hj)
        have f7371 : ∀ j : Nat, j ≠ li.toNatClampNeg → fI H7357 aq j = fI s.heap aq j := fun j hj => (fI_kept (x_lt hT kH7357 gaq (by decide))).trans (f0_s_aq j hj)
        have f7372 : ∀ j : Nat, j ≠ li.toNatClampNeg → fI H7357 cq j = fI s.heap cq j := fun j hj => (fI_kept (x_lt hT kH7357 gcq (by decide))).trans (f0_s_cq j hj)
        have f7373 : ∀ j : Nat, j ≠ li.toNatClampNeg → fI H7357 dq j = fI s.heap dq j := fun j hj => (fI_kept (x_lt hT kH7357 gdq (by decide))).trans (f0_s_dq j hj)
        have f7374 : CSP lw.toInt (fun j => fI H7357 sq j) (fun j => fI s.heap sq j) sc.toNatClampNeg (sc.toNatClampNeg) 3 ([]) ∧ (True) := ⟨CSP.kept f0_cs.1 (fun j => fI_kept (x_lt hT kH7357 gsq (by decide))), trivial⟩
        have m7375 := (esq).trans (fR_kept (x_lt hT kH7357 gmq (by decide))).symm
        have m7376 := (ewq).trans (fR_kept (x_lt hT kH7357 gmq (by decide))).symm
        have m7377 := (efq).trans (fR_kept (x_lt hT kH7357 gmq (by decide))).symm
        have m7378 := (ejq).trans (fR_kept (x_lt hT kH7357 gmq (by decide))).symm
        have m7379 := (eeq_).trans (fR_kept (x_lt hT kH7357 gmq (by decide))).symm
        have m7380 := (eaq).trans (fR_kept (x_lt hT kH7357 gmq (by decide))).symm
        have m7381 := (ecq).trans (fR_kept (x_lt hT kH7357 gmq (by decide))).symm
        have m7382 := (edq).trans (fR_kept (x_lt hT kH7357 gmq (by decide))).symm
        have m7383 := (eli).trans (fI_kept (x_lt hT kH7357 gmq (by decide))).symm
        have m7384 := (esc).trans (fI_kept (x_lt hT kH7357 gmq (by decide))).symm
        have m7385 := (fI_kept (x_lt hT kH7357 gkq (by decide))).trans hel0
        have m7386 := (ex5947).trans (fI_kept (x_lt hT kH7357 gkq (by decide))).symm
        have bx7359 := ty_fi (x := x7359) (k := 7) ex7359 hTH7357 ga0 rg_78 rfl
        have bx7360 := ty_fi (x := x7360) (k := 1) ex7360 hTH7357 ga0 rg_78 rfl
        refine W.eq (g2 := F0 m 61 ls6699 [.int x7358]) rfl ?_
        have cn_F := i_cl (x := F) (by omega)
        have cn_tat := i_cl (x := tat) (by omega)
        have cn_x7359 := i_cl (x := x7359) (by omega)
        exact x_zret C hQ (i_01 (by omega)) dX4_line_61 hSH7357 (by decide) (by decide) (⟨x7358, x7359, x7360, li, sc, rfl, by omega, ex7359, ex7360, m7383, m7384, by omega, m7361, m7362, m7363, m7375, m7376, m7377, m7378, m7379, m7380, m7381, m7382, m7364, Or.inl ⟨if_pos (by omega), by omega⟩, (Or.inl (by omega)), (Or.inl (by omega)), (Or.inl (by omega)), f7367, f7368, f7369, f7370, f7371, f7372, f7373, hTH7357⟩)
    · have k6696 := i_nle c6695
      refine lv_goto (tgt := 36) hx hb dX4_line_22 (by decide) ?_
      refine lv_aload_n hx hb dX4_line_36 rfl (lv_at hl5949 1 rfl) ?_
      refine lv_iconst (v := 1) hx hb dX4_line_37 (by decide) ?_
      refine x_V (As := [.int 1]) (rest := []) C (a_X4_refuse_e l K G s.heap (1) (tat) (fa) (lw) hT ga0 gmq emq gkq ekq gvq evq etat efa elw) yo_X4_refuse wM_X4_81 ⟨⟨by decide, by decide⟩, by decide, by decide⟩ (x_rv C hT (ci := 4) rfl ga0 rg_78) rfl hl5949.1 rfl (Nat.le_of_ble_eq_true rfl) dX4_line_38 hS (AE_sub (fun _ _ => rfl) (by decide) hS.1) (fun vH7387 H7387 locsH7387 pH7387 zH7387 kH7387 hSH7387 => ?_)
      obtain ⟨x7388, x7389, x7390, hvH7387, bx7388, ex7389, ex7390, hrH7387, m7391, m7392, m7393, m7394, hTH7387⟩ := pH7387
      subst hvH7387
      have f7395 : ∀ j : Nat, j ≤ F.toNatClampNeg → kk j = (fI H7387 kq j).toInt := fun j hj => (f0_kk j hj).trans (congrArg Int32.toInt (fI_kept (x_lt hT kH7387 gkq (by decide))).symm)
      have f7396 : ∀ j : Nat, j ≤ F.toNatClampNeg → vv j = (fI H7387 vq j).toInt := fun j hj => (f0_vv j hj).trans (congrArg Int32.toInt (fI_kept (x_lt hT kH7387 gvq (by decide))).symm)
      have f7397 : ∀ j : Nat, j ≠ li.toNatClampNeg → fI H7387 wq j = fI s.heap wq j := fun j hj => (fI_kept (x_lt hT kH7387 gwq (by decide))).trans (f0_s_wq j hj)
      have f7398 : ∀ j : Nat, j ≠ li.toNatClampNeg → fI H7387 fq j = fI s.heap fq j := fun j hj => (fI_kept (x_lt hT kH7387 gfq (by decide))).trans (f0_s_fq j hj)
      have f7399 : ∀ j : Nat, j ≠ li.toNatClampNeg → fI H7387 jq j = fI s.heap jq j := fun j hj => (fI_kept (x_lt hT kH7387 gjq (by decide))).trans (f0_s_jq j hj)
      have f7400 : ∀ j : Nat, j ≠ li.toNatClampNeg → fI H7387 eq_ j = fI s.heap eq_ j := fun j hj => (fI_kept (x_lt hT kH7387 geq_ (by decide))).trans (f0_s_eq_ j hj)
      have f7401 : ∀ j : Nat, j ≠ li.toNatClampNeg → fI H7387 aq j = fI s.heap aq j := fun j hj => (fI_kept (x_lt hT kH7387 gaq (by decide))).trans (f0_s_aq j hj)
      have f7402 : ∀ j : Nat, j ≠ li.toNatClampNeg → fI H7387 cq j = fI s.heap cq j := fun j hj => (fI_kept (x_lt hT kH7387 gcq (by decide))).trans (f0_s_cq j hj)
      have f7403 : ∀ j : Nat, j ≠ li.toNatClampNeg → fI H7387 dq j = fI s.heap dq j := fun j hj => (fI_kept (x_lt hT kH7387 gdq (by decide))).trans (f0_s_dq j hj)
      have f7404 : CSP lw.toInt (fun j => fI H7387 sq j) (fun j => fI s.heap sq j) sc.toNatClampNeg (sc.toNatClampNeg) 3 ([]) ∧ (True) := ⟨CSP.kept f0_cs.1 (fun j => fI_kept (x_lt hT kH7387 gsq (by decide))), trivial⟩
      have m7405 := (esq).trans (fR_kept (x_lt hT kH7387 gmq (by decide))).symm
      have m7406 := (ewq).trans (fR_kept (x_lt hT kH7387 gmq (by decide))).symm
      have m7407 := (efq).trans (fR_kept (x_lt hT kH7387 gmq (by decide))).symm
      have m7408 := (ejq).trans (fR_kept (x_lt hT kH7387 gmq (by decide))).symm
      have m7409 := (eeq_).trans (fR_kept (x_lt hT kH7387 gmq (by decide))).symm
      have m7410 := (eaq).trans (fR_kept (x_lt hT kH7387 gmq (by decide))).symm
      have m7411 := (ecq).trans (fR_kept (x_lt hT kH7387 gmq (by decide))).symm
      have m7412 := (edq).trans (fR_kept (x_lt hT kH7387 gmq (by decide))).symm
      have m7413 := (eli).trans (fI_kept (x_lt hT kH7387 gmq (by decide))).symm
      have m7414 := (esc).trans (fI_kept (x_lt hT kH7387 gmq (by decide))).symm
      have m7415 := (fI_kept (x_lt hT kH7387 gkq (by decide))).trans hel0
      have m7416 := (ex5947).trans (fI_kept (x_lt hT kH7387 gkq (by decide))).symm
      have bx7389 := ty_fi (x := x7389) (k := 7) ex7389 hTH7387 ga0 rg_78 rfl
      have bx7390 := ty_fi (x := x7390) (k := 1) ex7390 hTH7387 ga0 rg_78 rfl
      refine W.eq (g2 := F0 m 41 ls5948 [.int x7388]) rfl ?_
      have cn_F := i_cl (x := F) (by omega)
      have cn_tat := i_cl (x := tat) (by omega)
      have cn_x7389 := i_cl (x := x7389) (by omega)
      exact x_zret C hQ (i_01 (by omega)) dX4_line_41 hSH7387 (by decide) (by decide) (⟨x7388, x7389, x7390, li, sc, rfl, by omega, ex7389, ex7390, m7413, m7414, by omega, m7391, m7392, m7393, m7405, m7406, m7407, m7408, m7409, m7410, m7411, m7412, m7394, Or.inl ⟨l16_no (ln_no0 (by rw [qvx5947]; omega)), by omega⟩, (Or.inl (by omega)), (Or.inl (by omega)), (Or.inl (by omega)), f7397, f7398, f7399, f7400, f7401, f7402, f7403, hTH7387⟩)
