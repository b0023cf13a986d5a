set_option maxHeartbeats 4000000 in
set_option maxRecDepth 100000 in
theorem a_X9_image_e0n (l : Launch) (K : KE) (G : Nat → Option Nat) (H : Heap) {a0 wq : Nat} (s1 : Int32) (s4 : Int32) (s5 : Int32) (s10 : Int32) (s13 : Int32) (s16 : Int32) (tp : Int32)  (hT : TY K G H) (ga0 : G a0 = some 68) (gwq : G wq = some 0) (ewq : wq = fR H a0 (K.1.2 9 0)) (es1 : s1 = fI H wq (K.1.2 8 1)) (es4 : s4 = fI H wq (K.1.2 8 4)) (es5 : s5 = fI H wq (K.1.2 8 5)) (es10 : s10 = fI H wq (K.1.2 8 10)) (es13 : s13 = fI H wq (K.1.2 8 13)) (es16 : s16 = fI H wq (K.1.2 8 16)) (etp : tp = fI H a0 (K.1.2 9 3)) (own : OWN K H wq) (hkv : fV H a0 (K.1.2 9 1) = .null) : MX l K yX9_image cX9_image 2 (some .boolean) 0 0 0 0 [.ref a0, .int 0] H (AE G [] H.size) (fun v H1 => ∃ (r : Int32), v = some (.int r) ∧ r.toInt = 0 ∧ ∃ G1 : Nat → Option Nat, (∀ q, q < H.size → G1 q = G q) ∧ TY K G1 H1) := by
  refine MX.of (by decide +kernel) (Nat.le_of_ble_eq_true rfl) ?_
  intro p e s m below meth c ls Q C hH hl hQ
  subst hH
  have C : CX p K s m _ meth c RX9 cX9_image 2 (some .boolean) "image" := C
  obtain ⟨hx, hb, hml, hown, hts, hKT, hr, hlocks, hnm⟩ := id C
  have hl : lv_has ls 2 [(0, .ref a0), (1, .int 0)] := hl
  have hS : va_S (AE G [] s.heap.size) s.heap s.heap [] := va_S.rf
  have n_0 : (0 : Int32).toInt = 0 := rfl
  have hT_0 := hT
  have hGo : ∀ q, q < s.heap.size → G q = G q := fun _ _ => rfl
  refine lv_iload_n hx hb dX9_image_0 rfl (lv_at hl 1 rfl) ?_
  refine lv_if_eq (tgt := 36) hx hb dX9_image_1 (by decide) (fun c101 => ?_) (fun c101 => ?_)
  · have k102 := i_eq c101
    refine lv_aload_n hx hb dX9_image_36 rfl (lv_at hl 0 rfl) ?_
    refine x_gn C hT (ci := 9) (k := 1) rfl inX9 (by decide) wF_X9_348 ga0 rg_68 rfl dX9_image_37 (fun _ => ?_) (fun q _ hq _ => absurd (hq.symm.trans hkv) (by intro h; cases h))
    refine lv_ifnullN (tgt := 54) hx hb dX9_image_40 (by decide) ?_
    refine lv_aload_n hx hb dX9_image_54 rfl (lv_at hl 0 rfl) ?_
    refine x_gn C hT (ci := 9) (k := 1) rfl inX9 (by decide) wF_X9_348 ga0 rg_68 rfl dX9_image_55 (fun _ => ?_) (fun q _ hq _ => absurd (hq.symm.trans hkv) (by intro h; cases h))
    refine lv_ifnullN (tgt := 65) hx hb dX9_image_58 (by decide) ?_
    refine lv_iconst (v := 0) hx hb dX9_image_65 (by decide) ?_
    exact x_zret C hQ (Or.inl rfl) dX9_image_66 hS (by decide) (by decide) (⟨0, rfl, by omega, G, fun _ _ => rfl, hT⟩)
  · have k102 := i_ne c101
    exfalso
    omega

set_option maxHeartbeats 4000000 in
set_option maxRecDepth 100000 in
theorem a_X9_image_e0v (l : Launch) (K : KE) (G : Nat → Option Nat) (H : Heap) {a0 wq : Nat} (s1 : Int32) (s4 : Int32) (s5 : Int32) (s10 : Int32) (s13 : Int32) (s16 : Int32) (tp : Int32) {kq : Nat} (k1 : Int32) (k4 : Int32) (k5 : Int32) (k10 : Int32) (k13 : Int32) (k16 : Int32) (hT : TY K G H) (ga0 : G a0 = some 68) (gwq : G wq = some 0) (ewq : wq = fR H a0 (K.1.2 9 0)) (es1 : s1 = fI H wq (K.1.2 8 1)) (es4 : s4 = fI H wq (K.1.2 8 4)) (es5 : s5 = fI H wq (K.1.2 8 5)) (es10 : s10 = fI H wq (K.1.2 8 10)) (es13 : s13 = fI H wq (K.1.2 8 13)) (es16 : s16 = fI H wq (K.1.2 8 16)) (etp : tp = fI H a0 (K.1.2 9 3)) (own : OWN K H wq) (hkv : fV H a0 (K.1.2 9 1) = .ref kq) (gkq : G kq = some 34) (ek1 : k1 = fI H kq (K.1.2 8 1)) (ek4 : k4 = fI H kq (K.1.2 8 4)) (ek5 : k5 = fI H kq (K.1.2 8 5)) (ek10 : k10 = fI H kq (K.1.2 8 10)) (ek13 : k13 = fI H kq (K.1.2 8 13)) (ek16 : k16 = fI H kq (K.1.2 8 16)) : MX l K yX9_image cX9_image 2 (some .boolean) 3 84 0 0 [.ref a0, .int 0] H (AE G [0, 1, 2, 3, 4, 5, 6, 7, 8, 9, 10, 12, 14, 15, 16, 17, 18, 19, 20, 21, 22, 23, 24, 28, 29, 30, 31, 32, 33] H.size) (fun v H1 => ∃ (r : Int32), v = some (.int r) ∧ r.toInt = 1 ∧ ∃ G1 : Nat → Option Nat, (∀ q, q < H.size → G1 q = G q) ∧ TY K G1 H1 ∧ (fI H1 wq (K.1.2 8 1)).toInt = k1.toInt ∧ (fI H1 wq (K.1.2 8 4)).toInt = k4.toInt ∧ (fI H1 wq (K.1.2 8 5)).toInt = k5.toInt ∧ (fI H1 wq (K.1.2 8 10)).toInt = k10.toInt ∧ (fI H1 wq (K.1.2 8 13)).toInt = k13.toInt ∧ (fI H1 wq (K.1.2 8 16)).toInt = k16.toInt ∧ RFW K H1 H wq ∧ IMX K H1 wq kq k1.toInt) := by
  refine MX.of (by decide +kernel) (Nat.le_of_ble_eq_true rfl) ?_
  intro p e s m below meth c ls Q C hH hl hQ
  subst hH
  have C : CX p K s m _ meth c RX9 cX9_image 2 (some .boolean) "image" := C
  obtain ⟨hx, hb, hml, hown, hts, hKT, hr, hlocks, hnm⟩ := id C
  have hl : lv_has ls 2 [(0, .ref a0), (1, .int 0)] := hl
  have hS : va_S (AE G [0, 1, 2, 3, 4, 5, 6, 7, 8, 9, 10, 12, 14, 15, 16, 17, 18, 19, 20, 21, 22, 23, 24, 28, 29, 30, 31, 32, 33] s.heap.size) s.heap s.heap [] := va_S.rf
  have n_0 : (0 : Int32).toInt = 0 := rfl
  have n_1 : (1 : Int32).toInt = 1 := rfl
  have hT_0 := hT
  have hGo : ∀ q, q < s.heap.size → G q = G q := fun _ _ => rfl
  refine lv_iload_n hx hb dX9_image_0 rfl (lv_at hl 1 rfl) ?_
  refine lv_if_eq (tgt := 36) hx hb dX9_image_1 (by decide) (fun c101 => ?_) (fun c101 => ?_)
  · have k102 := i_eq c101
    refine lv_aload_n hx hb dX9_image_36 rfl (lv_at hl 0 rfl) ?_
    refine x_gn C hT (ci := 9) (k := 1) rfl inX9 (by decide) wF_X9_348 ga0 rg_68 rfl dX9_image_37 (fun z => absurd (z.symm.trans hkv) (by intro h; cases h)) (fun q103 eq103 fq103 gq103 => ?_)
    have uq103 : kq = q103 := by have h := hkv.symm.trans fq103; cases h; rfl
    subst uq103
    refine lv_ifnull hx hb dX9_image_40 ?_
    refine lv_aload_n hx hb dX9_image_43 rfl (lv_at hl 0 rfl) ?_
    refine x_gr C hT (ci := 9) (k := 0) rfl inX9 (by decide) wF_X9_12 ga0 rg_68 rfl dX9_image_44 (fun q104 eq104 gq104 => ?_)
    have uq104 : wq = q104 := (ewq).trans eq104.symm
    subst uq104
    refine lv_aload_n hx hb dX9_image_47 rfl (lv_at hl 0 rfl) ?_
    refine x_gn C hT (ci := 9) (k := 1) rfl inX9 (by decide) wF_X9_348 ga0 rg_68 rfl dX9_image_48 (fun z => absurd (z.symm.trans hkv) (by intro h; cases h)) (fun q105 eq105 fq105 gq105 => ?_)
    have uq105 : kq = q105 := by have h := hkv.symm.trans fq105; cases h; rfl
    subst uq105
    refine x_V (As := [.ref kq]) (rest := []) C (a_X8_copyFrom_gn l K G s.heap (s1) (s4) (s5) (s10) (s13) (s16) (k1) (k4) (k5) (k10) (k13) (k16) hT gwq gkq es1 es4 es5 es10 es13 es16 ek1 ek4 ek5 ek10 ek13 ek16 (own)) yo_X8_copyFrom wM_X9_351 ⟨⟨by decide, by decide⟩, by decide, by decide⟩ (x_rv C hT (ci := 8) rfl gwq rg_0) rfl hl.1 rfl (Nat.le_of_ble_eq_true rfl) dX9_image_51 hS (AE_sub (fun _ _ => rfl) (by decide) hS.1) (fun vH106 H106 locsH106 pH106 zH106 kH106 hSH106 => ?_)
    obtain ⟨x107, x108, x109, x110, x111, x112, hvH106, ex107, ex108, ex109, ex110, ex111, ex112, hrH106, m113, m114, hTH106⟩ := pH106
    subst hvH106
    have m115 := (ewq).trans (fR_kept (x_lt hT kH106 ga0 (by decide))).symm
    have m116 := (etp).trans (fI_kept (x_lt hT kH106 ga0 (by decide))).symm
    have m117 := (fV_kept (x_lt hT kH106 ga0 (by decide))).trans hkv
    have m118 := (ek1).trans (fI_kept (x_lt hT kH106 gkq (by decide))).symm
    have m119 := (ek4).trans (fI_kept (x_lt hT kH106 gkq (by decide))).symm
    have m120 := (ek5).trans (fI_kept (x_lt hT kH106 gkq (by decide))).symm
    have m121 := (ek10).trans (fI_kept (x_lt hT kH106 gkq (by decide))).symm
    have m122 := (ek13).trans (fI_kept (x_lt hT kH106 gkq (by decide))).symm
    have m123 := (ek16).trans (fI_kept (x_lt hT kH106 gkq (by decide))).symm
    have bx107 := ty_fi (x := x107) (k := 1) ex107 hTH106 gwq rg_0 rfl
    have bx108 := ty_fi (x := x108) (k := 4) ex108 hTH106 gwq rg_0 rfl
    have bx109 := ty_fi (x := x109) (k := 5) ex109 hTH106 gwq rg_0 rfl
    have bx110 := ty_fi (x := x110) (k := 10) ex110 hTH106 gwq rg_0 rfl
    have bx111 := ty_fi (x := x111) (k := 13) ex111 hTH106 gwq rg_0 rfl
    have bx112 := ty_fi (x := x112) (k := 16) ex112 hTH106 gwq rg_0 rfl
    have ow124 := OWN.st own m113
    refine W.eq (g2 := F0 m 54 ls []) rfl ?_
    refine lv_aload_n hx hb dX9_image_54 rfl (lv_at hl 0 rfl) ?_
    refine x_gn C hTH106 (ci := 9) (k := 1) rfl inX9 (by decide) wF_X9_348 ga0 rg_68 rfl dX9_image_55 (fun z => absurd (z.symm.trans m117) (by intro h; cases h)) (fun q125 eq125 fq125 gq125 => ?_)
    have uq125 : kq = q125 := by have h := m117.symm.trans fq125; cases h; rfl
    subst uq125
    refine lv_ifnull hx hb dX9_image_58 ?_
    refine lv_iconst (v := 1) hx hb dX9_image_61 (by decide) ?_
    refine lv_goto (tgt := 66) hx hb dX9_image_62 (by decide) ?_
    exact x_zret C hQ (Or.inr rfl) dX9_image_66 hSH106 (by decide) (by decide) (⟨1, rfl, by omega, G, fun _ _ => rfl, hTH106, by rw [← ex107]; omega, by rw [← ex108]; omega, by rw [← ex109]; omega, by rw [← ex110]; omega, by rw [← ex111]; omega, by rw [← ex112]; omega, m113, m114⟩)
  · have k102 := i_ne c101
    exfalso
    omega

set_option maxHeartbeats 4000000 in
set_option maxRecDepth 100000 in
theorem a_X9_image_e1n (l : Launch) (K : KE) (G : Nat → Option Nat) (H : Heap) {a0 wq : Nat} (s1 : Int32) (s4 : Int32) (s5 : Int32) (s10 : Int32) (s13 : Int32) (s16 : Int32) (tp : Int32)  {tq : Nat} (hT : TY K G H) (ga0 : G a0 = some 68) (gwq : G wq = some 0) (ewq : wq = fR H a0 (K.1.2 9 0)) (es1 : s1 = fI H wq (K.1.2 8 1)) (es4 : s4 = fI H wq (K.1.2 8 4)) (es5 : s5 = fI H wq (K.1.2 8 5)) (es10 : s10 = fI H wq (K.1.2 8 10)) (es13 : s13 = fI H wq (K.1.2 8 13)) (es16 : s16 = fI H wq (K.1.2 8 16)) (etp : tp = fI H a0 (K.1.2 9 3)) (hkv : fV H a0 (K.1.2 9 1) = .null) (gtq : G tq = some 108) (etq : tq = fR H a0 (K.1.2 9 2)) : MX l K yX9_image cX9_image 2 (some .boolean) 3 84 434 13027 [.ref a0, .int 1] H (AE G [68, 34, 35, 36, 37, 38, 39, 40, 41, 42, 43, 44, 46, 48, 49, 50, 51, 52, 53, 54, 55, 56, 57, 58, 62, 63, 64, 65, 66, 67] H.size) (fun v H1 => ∃ (r : Int32), v = some (.int r) ∧ r.toInt = 1 ∧ ∃ G1 : Nat → Option Nat, (∀ q, q < H.size → G1 q = G q) ∧ TY K G1 H1 ∧ wq = fR H1 a0 (K.1.2 9 0) ∧ tp = fI H1 a0 (K.1.2 9 3) ∧ tq = fR H1 a0 (K.1.2 9 2) ∧ ∃ q : Nat, fV H1 a0 (K.1.2 9 1) = .ref q ∧ G1 q = some 34 ∧ OWN K H1 q ∧ (fI H1 q (K.1.2 8 1)).toInt = s1.toInt ∧ (fI H1 q (K.1.2 8 4)).toInt = s4.toInt ∧ (fI H1 q (K.1.2 8 5)).toInt = s5.toInt ∧ (fI H1 q (K.1.2 8 10)).toInt = s10.toInt ∧ (fI H1 q (K.1.2 8 13)).toInt = s13.toInt ∧ (fI H1 q (K.1.2 8 16)).toInt = s16.toInt ∧ IMX K H1 q wq s1.toInt) := by
  refine MX.of (by decide +kernel) (Nat.le_of_ble_eq_true rfl) ?_
  intro p e s m below meth c ls Q C hH hl hQ
  subst hH
  have C : CX p K s m _ meth c RX9 cX9_image 2 (some .boolean) "image" := C
  obtain ⟨hx, hb, hml, hown, hts, hKT, hr, hlocks, hnm⟩ := id C
  have hl : lv_has ls 2 [(0, .ref a0), (1, .int 1)] := hl
  have hS : va_S (AE G [68, 34, 35, 36, 37, 38, 39, 40, 41, 42, 43, 44, 46, 48, 49, 50, 51, 52, 53, 54, 55, 56, 57, 58, 62, 63, 64, 65, 66, 67] s.heap.size) s.heap s.heap [] := va_S.rf
  have n_0 : (0 : Int32).toInt = 0 := rfl
  have n_1 : (1 : Int32).toInt = 1 := rfl
  have n_10 : (10 : Int32).toInt = 10 := rfl
  have hT_0 := hT
  have hGo : ∀ q, q < s.heap.size → G q = G q := fun _ _ => rfl
  refine lv_iload_n hx hb dX9_image_0 rfl (lv_at hl 1 rfl) ?_
  refine lv_if_eq (tgt := 36) hx hb dX9_image_1 (by decide) (fun c101 => ?_) (fun c101 => ?_)
  · have k102 := i_eq c101
    exfalso
    omega
  · have k102 := i_ne c101
    refine lv_aload_n hx hb dX9_image_4 rfl (lv_at hl 0 rfl) ?_
    refine x_gn C hT (ci := 9) (k := 1) rfl inX9 (by decide) wF_X9_348 ga0 rg_68 rfl dX9_image_5 (fun _ => ?_) (fun q _ hq _ => absurd (hq.symm.trans hkv) (by intro h; cases h))
    refine lv_ifnonnullN hx hb dX9_image_8 ?_
    refine lv_aload_n hx hb dX9_image_11 rfl (lv_at hl 0 rfl) ?_
    refine x_new C hT hS (ci := 8) (ty0 := tyX8) (vs := [.null, .int 0, .null, .null, .int 0, .int 0, .int 0, .int 0, .null, .null, .int 0, .null, .null, .int 0, .null, .null, .int 0]) rfl inX8 tyX8_ok wC_X9_9 wIS_X8 wIN_X8 dfX8 ⟨by decide, by decide⟩ dX9_image_12 (fun H103 hR105 hTH103 hSH103 oH103 zH103 => ?_)
    have hNq104 : G s.heap.size = none := hT.gb _ (Nat.le_refl _)
    have m106 := (ewq).trans (fR_kept (oH103 _ (hT.lt ga0))).symm
    have m107 := (es1).trans (fI_kept (oH103 _ (hT.lt gwq))).symm
    have m108 := (es4).trans (fI_kept (oH103 _ (hT.lt gwq))).symm
    have m109 := (es5).trans (fI_kept (oH103 _ (hT.lt gwq))).symm
    have m110 := (es10).trans (fI_kept (oH103 _ (hT.lt gwq))).symm
    have m111 := (es13).trans (fI_kept (oH103 _ (hT.lt gwq))).symm
    have m112 := (es16).trans (fI_kept (oH103 _ (hT.lt gwq))).symm
    have m113 := (etp).trans (fI_kept (oH103 _ (hT.lt ga0))).symm
    have m114 := (fV_kept (oH103 _ (hT.lt ga0))).trans hkv
    have m115 := (etq).trans (fR_kept (oH103 _ (hT.lt ga0))).symm
    obtain ⟨q104, eq104⟩ : ∃ q, q = s.heap.size := ⟨_, rfl⟩
    have leq104 : s.heap.size ≤ q104 := by rw [eq104]; exact hS.1
    rw [← eq104] at hNq104 hR105
    rw [← eq104]
    clear eq104
    clear oH103 zH103 hT
    refine lv_dup hx hb dX9_image_15 rfl ?_
    refine x_I (As := []) (rest := [.ref q104, .ref a0]) C (k_X8_init_kept_x l K G H103 (a := q104) hTH103 hNq104 hR105) yo_X8_init rfl wM_X9_11 ⟨⟨by decide, by decide⟩, by decide, by decide⟩ rfl hl.1 rfl (Nat.le_of_ble_eq_true rfl) dX9_image_16 hSH103 (fun x h => Or.inr (h.elim (fun e => by rw [e]; exact leq104) (fun h => Nat.le_trans hSH103.1 h))) (fun vH116 H116 locsH116 pH116 zH116 kH116 hSH116 => ?_)
    obtain ⟨hvH116, G117, hgH116, ggH116, hTH116, fq104_1, fq104_4, fq104_5, fq104_6, fq104_7, fq104_10, fq104_13, fq104_16, owq104⟩ := pH116
    subst hvH116
    have m118 := (m106).trans (fR_kept (kH116 _ (hTH103.lt ga0) (fun h => h.elim (g_ne ga0 hNq104) (Nat.not_le.mpr (hTH103.lt ga0))))).symm
    clear m106
    have m119 := (m107).trans (fI_kept (kH116 _ (hTH103.lt gwq) (fun h => h.elim (g_ne gwq hNq104) (Nat.not_le.mpr (hTH103.lt gwq))))).symm
    clear m107
    have m120 := (m108).trans (fI_kept (kH116 _ (hTH103.lt gwq) (fun h => h.elim (g_ne gwq hNq104) (Nat.not_le.mpr (hTH103.lt gwq))))).symm
    clear m108
    have m121 := (m109).trans (fI_kept (kH116 _ (hTH103.lt gwq) (fun h => h.elim (g_ne gwq hNq104) (Nat.not_le.mpr (hTH103.lt gwq))))).symm
    clear m109
    have m122 := (m110).trans (fI_kept (kH116 _ (hTH103.lt gwq) (fun h => h.elim (g_ne gwq hNq104) (Nat.not_le.mpr (hTH103.lt gwq))))).symm
    clear m110
    have m123 := (m111).trans (fI_kept (kH116 _ (hTH103.lt gwq) (fun h => h.elim (g_ne gwq hNq104) (Nat.not_le.mpr (hTH103.lt gwq))))).symm
    clear m111
    have m124 := (m112).trans (fI_kept (kH116 _ (hTH103.lt gwq) (fun h => h.elim (g_ne gwq hNq104) (Nat.not_le.mpr (hTH103.lt gwq))))).symm
    clear m112
    have m125 := (m113).trans (fI_kept (kH116 _ (hTH103.lt ga0) (fun h => h.elim (g_ne ga0 hNq104) (Nat.not_le.mpr (hTH103.lt ga0))))).symm
    clear m113
    have m126 := (fV_kept (kH116 _ (hTH103.lt ga0) (fun h => h.elim (g_ne ga0 hNq104) (Nat.not_le.mpr (hTH103.lt ga0))))).trans m114
    clear m114
    have m127 := (m115).trans (fR_kept (kH116 _ (hTH103.lt ga0) (fun h => h.elim (g_ne ga0 hNq104) (Nat.not_le.mpr (hTH103.lt ga0))))).symm
    clear m115
    replace ga0 : G117 a0 = some 68 := (hgH116 _ (hTH103.lt ga0) (g_ne ga0 hNq104)).trans ga0
    replace gwq : G117 wq = some 0 := (hgH116 _ (hTH103.lt gwq) (g_ne gwq hNq104)).trans gwq
    replace hGo : ∀ q, q < s.heap.size → G117 q = G q := fun q hq => (hgH116 q (Nat.lt_of_lt_of_le hq hSH103.1) (Nat.ne_of_lt (Nat.lt_of_lt_of_le hq leq104))).trans (hGo q hq)
    have gq104 : G117 q104 = some 34 := ggH116
    clear hR105 hNq104 ggH116 hgH116 kH116 zH116 hTH103 
    refine W.eq (g2 := F0 m 19 ls [.ref q104, .ref a0]) rfl ?_
    refine x_put C hTH116 hSH116 (ci := 9) (k := 1) (v := .ref q104) (ty0 := tyX9) rfl inX9 tyX9_ok nmX9 (by decide) rfl wF_X9_348 ga0 rg_68 rfl rfl (Or.inr ⟨q104, rfl, gq104⟩) rfl rfl (AE_sub hGo (fun _ h => h) (Nat.le_refl _) _ (AE_in ga0 (by decide))) dX9_image_19 (fun H128 locsH128 hTH128 hSH128 wH128 => ?_)
    have m129 := m118.trans (Wr.neR wH128 (Or.inr (x_apart hKT hts inX9 tyX9 tyX9_ok nmX9 rfl 0 1 (by decide) (by decide) (by decide)))).symm
    have m130 := m119.trans (Wr.neI wH128 (Or.inl (G_ne gwq ga0 (by decide)))).symm
    have m131 := m120.trans (Wr.neI wH128 (Or.inl (G_ne gwq ga0 (by decide)))).symm
    have m132 := m121.trans (Wr.neI wH128 (Or.inl (G_ne gwq ga0 (by decide)))).symm
    have m133 := m122.trans (Wr.neI wH128 (Or.inl (G_ne gwq ga0 (by decide)))).symm
    have m134 := m123.trans (Wr.neI wH128 (Or.inl (G_ne gwq ga0 (by decide)))).symm
    have m135 := m124.trans (Wr.neI wH128 (Or.inl (G_ne gwq ga0 (by decide)))).symm
    have m136 := m125.trans (Wr.neI wH128 (Or.inr (x_apart hKT hts inX9 tyX9 tyX9_ok nmX9 rfl 3 1 (by decide) (by decide) (by decide)))).symm
    have m138 := m127.trans (Wr.neR wH128 (Or.inr (x_apart hKT hts inX9 tyX9 tyX9_ok nmX9 rfl 2 1 (by decide) (by decide) (by decide)))).symm
    have m139 := (Wr.neI wH128 (Or.inl (G_ne gq104 ga0 (by decide)))).trans fq104_1
    have m140 := (Wr.neI wH128 (Or.inl (G_ne gq104 ga0 (by decide)))).trans fq104_4
    have m141 := (Wr.neI wH128 (Or.inl (G_ne gq104 ga0 (by decide)))).trans fq104_5
    have m142 := (Wr.neI wH128 (Or.inl (G_ne gq104 ga0 (by decide)))).trans fq104_6
    have m143 := (Wr.neI wH128 (Or.inl (G_ne gq104 ga0 (by decide)))).trans fq104_7
    have m144 := (Wr.neI wH128 (Or.inl (G_ne gq104 ga0 (by decide)))).trans fq104_10
    have m145 := (Wr.neI wH128 (Or.inl (G_ne gq104 ga0 (by decide)))).trans fq104_13
    have m146 := (Wr.neI wH128 (Or.inl (G_ne gq104 ga0 (by decide)))).trans fq104_16
    replace owq104 := owq104.st (RFW.cellK hTH116 gq104 (fun q t hq ht => wH128.off (G_ne hq ga0 (by omega))))
    have m147 := wH128.2.2.1
    refine lv_aload_n hx hb dX9_image_22 rfl (lv_at hl 0 rfl) ?_
    refine x_gn C hTH128 (ci := 9) (k := 1) rfl inX9 (by decide) wF_X9_348 ga0 rg_68 rfl dX9_image_23 (fun z => absurd (z.symm.trans m147) (by intro h; cases h)) (fun q148 eq148 fq148 gq148 => ?_)
    have uq148 : q104 = q148 := by have h := m147.symm.trans fq148; cases h; rfl
    subst uq148
    refine lv_aload_n hx hb dX9_image_26 rfl (lv_at hl 0 rfl) ?_
    refine x_gr C hTH128 (ci := 9) (k := 0) rfl inX9 (by decide) wF_X9_12 ga0 rg_68 rfl dX9_image_27 (fun q149 eq149 gq149 => ?_)
    have uq149 : wq = q149 := (m129).trans eq149.symm
    subst uq149
    refine x_V (As := [.ref wq]) (rest := []) C (a_X8_copyFrom_gk l K G117 H128 (0) (0) (10) (0) (0) (0) (s1) (s4) (s5) (s10) (s13) (s16) hTH128 gq104 gwq (m139).symm (m140).symm (m141).symm (m144).symm (m145).symm (m146).symm m130 m131 m132 m133 m134 m135 (owq104)) yo_X8_copyFrom wM_X9_351 ⟨⟨by decide, by decide⟩, by decide, by decide⟩ (x_rv C hTH128 (ci := 8) rfl gq104 rg_34) rfl hl.1 rfl (Nat.le_of_ble_eq_true rfl) dX9_image_30 hSH128 (AE_sub hGo (by decide) hSH128.1) (fun vH150 H150 locsH150 pH150 zH150 kH150 hSH150 => ?_)
    obtain ⟨x151, x152, x153, x154, x155, x156, hvH150, ex151, ex152, ex153, ex154, ex155, ex156, hrH150, m157, m158, hTH150⟩ := pH150
    subst hvH150
    clear m118 m119 m120 m121 m122 m123 m124 m125 m126 m127
    have m159 := (m129).trans (fR_kept (x_lt hTH128 kH150 ga0 (by decide))).symm
    have m160 := (m130).trans (fI_kept (x_lt hTH128 kH150 gwq (by decide))).symm
    have m161 := (m131).trans (fI_kept (x_lt hTH128 kH150 gwq (by decide))).symm
    have m162 := (m132).trans (fI_kept (x_lt hTH128 kH150 gwq (by decide))).symm
    have m163 := (m133).trans (fI_kept (x_lt hTH128 kH150 gwq (by decide))).symm
    have m164 := (m134).trans (fI_kept (x_lt hTH128 kH150 gwq (by decide))).symm
    have m165 := (m135).trans (fI_kept (x_lt hTH128 kH150 gwq (by decide))).symm
    have m166 := (m136).trans (fI_kept (x_lt hTH128 kH150 ga0 (by decide))).symm
    have m167 := (m138).trans (fR_kept (x_lt hTH128 kH150 ga0 (by decide))).symm
    have m168 := (fV_kept (x_lt hTH128 kH150 ga0 (by decide))).trans m147
    have bx151 := ty_fi (x := x151) (k := 1) ex151 hTH150 gq104 rg_34 rfl
    have bx152 := ty_fi (x := x152) (k := 4) ex152 hTH150 gq104 rg_34 rfl
    have bx153 := ty_fi (x := x153) (k := 5) ex153 hTH150 gq104 rg_34 rfl
    have bx154 := ty_fi (x := x154) (k := 10) ex154 hTH150 gq104 rg_34 rfl
    have bx155 := ty_fi (x := x155) (k := 13) ex155 hTH150 gq104 rg_34 rfl
    have bx156 := ty_fi (x := x156) (k := 16) ex156 hTH150 gq104 rg_34 rfl
    have ow169 := OWN.st owq104 m157
    refine W.eq (g2 := F0 m 33 ls []) rfl ?_
    refine lv_goto (tgt := 54) hx hb dX9_image_33 (by decide) ?_
    refine lv_aload_n hx hb dX9_image_54 rfl (lv_at hl 0 rfl) ?_
    refine x_gn C hTH150 (ci := 9) (k := 1) rfl inX9 (by decide) wF_X9_348 ga0 rg_68 rfl dX9_image_55 (fun z => absurd (z.symm.trans m168) (by intro h; cases h)) (fun q170 eq170 fq170 gq170 => ?_)
    have uq170 : q104 = q170 := by have h := m168.symm.trans fq170; cases h; rfl
    subst uq170
    refine lv_ifnull hx hb dX9_image_58 ?_
    refine lv_iconst (v := 1) hx hb dX9_image_61 (by decide) ?_
    refine lv_goto (tgt := 66) hx hb dX9_image_62 (by decide) ?_
    exact x_zret C hQ (Or.inr rfl) dX9_image_66 hSH150 (by decide) (by decide) (⟨1, rfl, by omega, G117, hGo, hTH150, m159, m166, m167, q104, m168, gq104, ow169, by rw [← ex151]; omega, by rw [← ex152]; omega, by rw [← ex153]; omega, by rw [← ex154]; omega, by rw [← ex155]; omega, by rw [← ex156]; omega, m158⟩)

set_option maxHeartbeats 4000000 in
set_option maxRecDepth 100000 in
theorem a_X9_image_e1v (l : Launch) (K : KE) (G : Nat → Option Nat) (H : Heap) {a0 wq : Nat} (s1 : Int32) (s4 : Int32) (s5 : Int32) (s10 : Int32) (s13 : Int32) (s16 : Int32) (tp : Int32) {kq : Nat} (k1 : Int32) (k4 : Int32) (k5 : Int32) (k10 : Int32) (k13 : Int32) (k16 : Int32) {tq : Nat} (hT : TY K G H) (ga0 : G a0 = some 68) (gwq : G wq = some 0) (ewq : wq = fR H a0 (K.1.2 9 0)) (es1 : s1 = fI H wq (K.1.2 8 1)) (es4 : s4 = fI H wq (K.1.2 8 4)) (es5 : s5 = fI H wq (K.1.2 8 5)) (es10 : s10 = fI H wq (K.1.2 8 10)) (es13 : s13 = fI H wq (K.1.2 8 13)) (es16 : s16 = fI H wq (K.1.2 8 16)) (etp : tp = fI H a0 (K.1.2 9 3)) (hkv : fV H a0 (K.1.2 9 1) = .ref kq) (gkq : G kq = some 34) (ek1 : k1 = fI H kq (K.1.2 8 1)) (ek4 : k4 = fI H kq (K.1.2 8 4)) (ek5 : k5 = fI H kq (K.1.2 8 5)) (ek10 : k10 = fI H kq (K.1.2 8 10)) (ek13 : k13 = fI H kq (K.1.2 8 13)) (ek16 : k16 = fI H kq (K.1.2 8 16)) (owk : OWN K H kq) (gtq : G tq = some 108) (etq : tq = fR H a0 (K.1.2 9 2)) : MX l K yX9_image cX9_image 2 (some .boolean) 3 84 0 0 [.ref a0, .int 1] H (AE G [68, 34, 35, 36, 37, 38, 39, 40, 41, 42, 43, 44, 46, 48, 49, 50, 51, 52, 53, 54, 55, 56, 57, 58, 62, 63, 64, 65, 66, 67] H.size) (fun v H1 => ∃ (r : Int32), v = some (.int r) ∧ r.toInt = 1 ∧ ∃ G1 : Nat → Option Nat, (∀ q, q < H.size → G1 q = G q) ∧ TY K G1 H1 ∧ wq = fR H1 a0 (K.1.2 9 0) ∧ tp = fI H1 a0 (K.1.2 9 3) ∧ tq = fR H1 a0 (K.1.2 9 2) ∧ ∃ q : Nat, fV H1 a0 (K.1.2 9 1) = .ref q ∧ G1 q = some 34 ∧ OWN K H1 q ∧ (fI H1 q (K.1.2 8 1)).toInt = s1.toInt ∧ (fI H1 q (K.1.2 8 4)).toInt = s4.toInt ∧ (fI H1 q (K.1.2 8 5)).toInt = s5.toInt ∧ (fI H1 q (K.1.2 8 10)).toInt = s10.toInt ∧ (fI H1 q (K.1.2 8 13)).toInt = s13.toInt ∧ (fI H1 q (K.1.2 8 16)).toInt = s16.toInt ∧ IMX K H1 q wq s1.toInt) := by
  refine MX.of (by decide +kernel) (Nat.le_of_ble_eq_true rfl) ?_
  intro p e s m below meth c ls Q C hH hl hQ
  subst hH
  have C : CX p K s m _ meth c RX9 cX9_image 2 (some .boolean) "image" := C
  obtain ⟨hx, hb, hml, hown, hts, hKT, hr, hlocks, hnm⟩ := id C
  have hl : lv_has ls 2 [(0, .ref a0), (1, .int 1)] := hl
  have hS : va_S (AE G [68, 34, 35, 36, 37, 38, 39, 40, 41, 42, 43, 44, 46, 48, 49, 50, 51, 52, 53, 54, 55, 56, 57, 58, 62, 63, 64, 65, 66, 67] s.heap.size) s.heap s.heap [] := va_S.rf
  have n_0 : (0 : Int32).toInt = 0 := rfl
  have n_1 : (1 : Int32).toInt = 1 := rfl
  have hT_0 := hT
  have hGo : ∀ q, q < s.heap.size → G q = G q := fun _ _ => rfl
  refine lv_iload_n hx hb dX9_image_0 rfl (lv_at hl 1 rfl) ?_
  refine lv_if_eq (tgt := 36) hx hb dX9_image_1 (by decide) (fun c101 => ?_) (fun c101 => ?_)
  · have k102 := i_eq c101
    exfalso
    omega
  · have k102 := i_ne c101
    refine lv_aload_n hx hb dX9_image_4 rfl (lv_at hl 0 rfl) ?_
    refine x_gn C hT (ci := 9) (k := 1) rfl inX9 (by decide) wF_X9_348 ga0 rg_68 rfl dX9_image_5 (fun z => absurd (z.symm.trans hkv) (by intro h; cases h)) (fun q103 eq103 fq103 gq103 => ?_)
    have uq103 : kq = q103 := by have h := hkv.symm.trans fq103; cases h; rfl
    subst uq103
    refine lv_ifnonnull (tgt := 22) hx hb dX9_image_8 (by decide) ?_
    refine lv_aload_n hx hb dX9_image_22 rfl (lv_at hl 0 rfl) ?_
    refine x_gn C hT (ci := 9) (k := 1) rfl inX9 (by decide) wF_X9_348 ga0 rg_68 rfl dX9_image_23 (fun z => absurd (z.symm.trans hkv) (by intro h; cases h)) (fun q104 eq104 fq104 gq104 => ?_)
    have uq104 : kq = q104 := by have h := hkv.symm.trans fq104; cases h; rfl
    subst uq104
    refine lv_aload_n hx hb dX9_image_26 rfl (lv_at hl 0 rfl) ?_
    refine x_gr C hT (ci := 9) (k := 0) rfl inX9 (by decide) wF_X9_12 ga0 rg_68 rfl dX9_image_27 (fun q105 eq105 gq105 => ?_)
    have uq105 : wq = q105 := (ewq).trans eq105.symm
    subst uq105
    refine x_V (As := [.ref wq]) (rest := []) C (a_X8_copyFrom_gk l K G s.heap (k1) (k4) (k5) (k10) (k13) (k16) (s1) (s4) (s5) (s10) (s13) (s16) hT gkq gwq ek1 ek4 ek5 ek10 ek13 ek16 es1 es4 es5 es10 es13 es16 (owk)) yo_X8_copyFrom wM_X9_351 ⟨⟨by decide, by decide⟩, by decide, by decide⟩ (x_rv C hT (ci := 8) rfl gkq rg_34) rfl hl.1 rfl (Nat.le_of_ble_eq_true rfl) dX9_image_30 hS (AE_sub (fun _ _ => rfl) (by decide) hS.1) (fun vH106 H106 locsH106 pH106 zH106 kH106 hSH106 => ?_)
    obtain ⟨x107, x108, x109, x110, x111, x112, hvH106, ex107, ex108, ex109, ex110, ex111, ex112, hrH106, m113, m114, hTH106⟩ := pH106
    subst hvH106
    have m115 := (ewq).trans (fR_kept (x_lt hT kH106 ga0 (by decide))).symm
    have m116 := (es1).trans (fI_kept (x_lt hT kH106 gwq (by decide))).symm
    have m117 := (es4).trans (fI_kept (x_lt hT kH106 gwq (by decide))).symm
    have m118 := (es5).trans (fI_kept (x_lt hT kH106 gwq (by decide))).symm
    have m119 := (es10).trans (fI_kept (x_lt hT kH106 gwq (by decide))).symm
    have m120 := (es13).trans (fI_kept (x_lt hT kH106 gwq (by decide))).symm
    have m121 := (es16).trans (fI_kept (x_lt hT kH106 gwq (by decide))).symm
    have m122 := (etp).trans (fI_kept (x_lt hT kH106 ga0 (by decide))).symm
    have m123 := (fV_kept (x_lt hT kH106 ga0 (by decide))).trans hkv
    have m124 := (etq).trans (fR_kept (x_lt hT kH106 ga0 (by decide))).symm
    have bx107 := ty_fi (x := x107) (k := 1) ex107 hTH106 gkq rg_34 rfl
    have bx108 := ty_fi (x := x108) (k := 4) ex108 hTH106 gkq rg_34 rfl
    have bx109 := ty_fi (x := x109) (k := 5) ex109 hTH106 gkq rg_34 rfl
    have bx110 := ty_fi (x := x110) (k := 10) ex110 hTH106 gkq rg_34 rfl
    have bx111 := ty_fi (x := x111) (k := 13) ex111 hTH106 gkq rg_34 rfl
    have bx112 := ty_fi (x := x112) (k := 16) ex112 hTH106 gkq rg_34 rfl
    have ow125 := OWN.st owk m113
    refine W.eq (g2 := F0 m 33 ls []) rfl ?_
    refine lv_goto (tgt := 54) hx hb dX9_image_33 (by decide) ?_
    refine lv_aload_n hx hb dX9_image_54 rfl (lv_at hl 0 rfl) ?_
    refine x_gn C hTH106 (ci := 9) (k := 1) rfl inX9 (by decide) wF_X9_348 ga0 rg_68 rfl dX9_image_55 (fun z => absurd (z.symm.trans m123) (by intro h; cases h)) (fun q126 eq126 fq126 gq126 => ?_)
    have uq126 : kq = q126 := by have h := m123.symm.trans fq126; cases h; rfl
    subst uq126
    refine lv_ifnull hx hb dX9_image_58 ?_
    refine lv_iconst (v := 1) hx hb dX9_image_61 (by decide) ?_
    refine lv_goto (tgt := 66) hx hb dX9_image_62 (by decide) ?_
    exact x_zret C hQ (Or.inr rfl) dX9_image_66 hSH106 (by decide) (by decide) (⟨1, rfl, by omega, G, fun _ _ => rfl, hTH106, m115, m122, m124, kq, m123, gkq, ow125, by rw [← ex107]; omega, by rw [← ex108]; omega, by rw [← ex109]; omega, by rw [← ex110]; omega, by rw [← ex111]; omega, by rw [← ex112]; omega, m114⟩)
