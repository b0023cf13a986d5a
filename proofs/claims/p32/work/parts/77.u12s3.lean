set_option maxHeartbeats 4000000 in
set_option maxRecDepth 100000 in
theorem a_X9_image_n0n (l : Launch) (K : KE) (G : Nat → Option Nat) (H : Heap) {a0 wq : Nat} (s1 : Int32) (s4 : Int32) (s5 : Int32) (s10 : Int32) (s13 : Int32) (s16 : Int32) (tp : Int32) {cn cl ck : Nat}  (hT : TY K G H) (ga0 : G a0 = some 68) (gwq : G wq = some 0) (ewq : wq = fR H a0 (K.1.2 9 0)) (es1 : s1 = fI H wq (K.1.2 8 1)) (es4 : s4 = fI H wq (K.1.2 8 4)) (es5 : s5 = fI H wq (K.1.2 8 5)) (es10 : s10 = fI H wq (K.1.2 8 10)) (es13 : s13 = fI H wq (K.1.2 8 13)) (es16 : s16 = fI H wq (K.1.2 8 16)) (etp : tp = fI H a0 (K.1.2 9 3)) (gcn : G cn = some 31) (ecn : cn = fR H wq (K.1.2 8 12)) (gcl : G cl = some 32) (ecl : cl = fR H wq (K.1.2 8 14)) (gck : G ck = some 33) (eck : ck = fR H wq (K.1.2 8 15)) (hkv : fV H a0 (K.1.2 9 1) = .null) : MX l K yX9_image cX9_image 2 (some .boolean) 0 0 0 0 [.ref a0, .int 0] H (AE G [] H.size) (fun v H1 => ∃ (r : Int32), v = some (.int r) ∧ r.toInt = 0 ∧ ∃ G1 : Nat → Option Nat, (∀ q, q < H.size → G1 q = G q) ∧ TY K G1 H1) := by
  refine MX.of (by decide +kernel) (Nat.le_of_ble_eq_true rfl) ?_
  intro p e s m below meth c ls Q C hH hl hQ
  subst hH
  have C : CX p K s m _ meth c RX9 cX9_image 2 (some .boolean) "image" := C
  obtain ⟨hx, hb, hml, hown, hts, hKT, hr, hlocks, hnm⟩ := id C
  have hl : lv_has ls 2 [(0, .ref a0), (1, .int 0)] := hl
  have hS : va_S (AE G [] s.heap.size) s.heap s.heap [] := va_S.rf
  have n_0 : (0 : Int32).toInt = 0 := rfl
  have hT_0 := hT
  have hGo : ∀ q, q < s.heap.size → G q = G q := fun _ _ => rfl
  have f0_scn : ∀ j : Nat, fI s.heap cn j = fI s.heap cn j := fun _ => rfl
  have f0_scl : ∀ j : Nat, fI s.heap cl j = fI s.heap cl j := fun _ => rfl
  have f0_sck : ∀ j : Nat, fI s.heap ck j = fI s.heap ck j := fun _ => rfl
  refine lv_iload_n hx hb dX9_image_0 rfl (lv_at hl 1 rfl) ?_
  refine lv_if_eq (tgt := 36) hx hb dX9_image_1 (by decide) (fun c101 => ?_) (fun c101 => ?_)
  · have k102 := i_eq c101
    refine lv_aload_n hx hb dX9_image_36 rfl (lv_at hl 0 rfl) ?_
    refine x_gn C hT (ci := 9) (k := 1) rfl inX9 (by decide) wF_X9_348 ga0 rg_68 rfl dX9_image_37 (fun _ => ?_) (fun q _ hq _ => absurd (hq.symm.trans hkv) (by intro h; cases h))
    refine lv_ifnullN (tgt := 54) hx hb dX9_image_40 (by decide) ?_
    refine lv_aload_n hx hb dX9_image_54 rfl (lv_at hl 0 rfl) ?_
    refine x_gn C hT (ci := 9) (k := 1) rfl inX9 (by decide) wF_X9_348 ga0 rg_68 rfl dX9_image_55 (fun _ => ?_) (fun q _ hq _ => absurd (hq.symm.trans hkv) (by intro h; cases h))
    refine lv_ifnullN (tgt := 65) hx hb dX9_image_58 (by decide) ?_
    refine lv_iconst (v := 0) hx hb dX9_image_65 (by decide) ?_
    exact x_zret C hQ (Or.inl rfl) dX9_image_66 hS (by decide) (by decide) (⟨0, rfl, by omega, G, fun _ _ => rfl, hT⟩)
  · have k102 := i_ne c101
    exfalso
    omega

set_option maxHeartbeats 4000000 in
set_option maxRecDepth 100000 in
theorem a_X9_image_n0v (l : Launch) (K : KE) (G : Nat → Option Nat) (H : Heap) {a0 wq : Nat} (s1 : Int32) (s4 : Int32) (s5 : Int32) (s10 : Int32) (s13 : Int32) (s16 : Int32) (tp : Int32) {cn cl ck : Nat} {kq dn dl dk : Nat} (k1 : Int32) (k4 : Int32) (k5 : Int32) (k10 : Int32) (k13 : Int32) (k16 : Int32) (hT : TY K G H) (ga0 : G a0 = some 68) (gwq : G wq = some 0) (ewq : wq = fR H a0 (K.1.2 9 0)) (es1 : s1 = fI H wq (K.1.2 8 1)) (es4 : s4 = fI H wq (K.1.2 8 4)) (es5 : s5 = fI H wq (K.1.2 8 5)) (es10 : s10 = fI H wq (K.1.2 8 10)) (es13 : s13 = fI H wq (K.1.2 8 13)) (es16 : s16 = fI H wq (K.1.2 8 16)) (etp : tp = fI H a0 (K.1.2 9 3)) (gcn : G cn = some 31) (ecn : cn = fR H wq (K.1.2 8 12)) (gcl : G cl = some 32) (ecl : cl = fR H wq (K.1.2 8 14)) (gck : G ck = some 33) (eck : ck = fR H wq (K.1.2 8 15)) (hkv : fV H a0 (K.1.2 9 1) = .ref kq) (gkq : G kq = some 34) (gdn : G dn = some 65) (edn : dn = fR H kq (K.1.2 8 12)) (gdl : G dl = some 66) (edl : dl = fR H kq (K.1.2 8 14)) (gdk : G dk = some 67) (edk : dk = fR H kq (K.1.2 8 15)) (ek1 : k1 = fI H kq (K.1.2 8 1)) (ek4 : k4 = fI H kq (K.1.2 8 4)) (ek5 : k5 = fI H kq (K.1.2 8 5)) (ek10 : k10 = fI H kq (K.1.2 8 10)) (ek13 : k13 = fI H kq (K.1.2 8 13)) (ek16 : k16 = fI H kq (K.1.2 8 16)) : MX l K yX9_image cX9_image 2 (some .boolean) 3 84 0 0 [.ref a0, .int 0] H (AE G [0, 1, 2, 3, 4, 5, 6, 7, 8, 9, 10, 12, 14, 15, 16, 17, 18, 19, 20, 21, 22, 23, 24, 28, 29, 30, 31, 32, 33] H.size) (fun v H1 => ∃ (r : Int32), v = some (.int r) ∧ r.toInt = 1 ∧ ∃ G1 : Nat → Option Nat, (∀ q, q < H.size → G1 q = G q) ∧ TY K G1 H1 ∧ cn = fR H1 wq (K.1.2 8 12) ∧ cl = fR H1 wq (K.1.2 8 14) ∧ ck = fR H1 wq (K.1.2 8 15) ∧ (fI H1 wq (K.1.2 8 1)).toInt = k1.toInt ∧ (fI H1 wq (K.1.2 8 4)).toInt = k4.toInt ∧ (fI H1 wq (K.1.2 8 5)).toInt = k5.toInt ∧ (fI H1 wq (K.1.2 8 10)).toInt = k10.toInt ∧ (fI H1 wq (K.1.2 8 13)).toInt = k13.toInt ∧ (fI H1 wq (K.1.2 8 16)).toInt = k16.toInt ∧ (∀ j : Nat, j < 8 → fI H1 cn j = fI H dn j) ∧ (∀ j : Nat, j < 8 → fI H1 cl j = fI H dl j) ∧ (∀ j : Nat, j < 8 → fI H1 ck j = fI H dk j)) := by
  refine MX.of (by decide +kernel) (Nat.le_of_ble_eq_true rfl) ?_
  intro p e s m below meth c ls Q C hH hl hQ
  subst hH
  have C : CX p K s m _ meth c RX9 cX9_image 2 (some .boolean) "image" := C
  obtain ⟨hx, hb, hml, hown, hts, hKT, hr, hlocks, hnm⟩ := id C
  have hl : lv_has ls 2 [(0, .ref a0), (1, .int 0)] := hl
  have hS : va_S (AE G [0, 1, 2, 3, 4, 5, 6, 7, 8, 9, 10, 12, 14, 15, 16, 17, 18, 19, 20, 21, 22, 23, 24, 28, 29, 30, 31, 32, 33] s.heap.size) s.heap s.heap [] := va_S.rf
  have n_0 : (0 : Int32).toInt = 0 := rfl
  have n_1 : (1 : Int32).toInt = 1 := rfl
  have hT_0 := hT
  have hGo : ∀ q, q < s.heap.size → G q = G q := fun _ _ => rfl
  have f0_scn : ∀ j : Nat, fI s.heap cn j = fI s.heap cn j := fun _ => rfl
  have f0_scl : ∀ j : Nat, fI s.heap cl j = fI s.heap cl j := fun _ => rfl
  have f0_sck : ∀ j : Nat, fI s.heap ck j = fI s.heap ck j := fun _ => rfl
  have f0_sdn : ∀ j : Nat, fI s.heap dn j = fI s.heap dn j := fun _ => rfl
  have f0_sdl : ∀ j : Nat, fI s.heap dl j = fI s.heap dl j := fun _ => rfl
  have f0_sdk : ∀ j : Nat, fI s.heap dk j = fI s.heap dk j := fun _ => rfl
  refine lv_iload_n hx hb dX9_image_0 rfl (lv_at hl 1 rfl) ?_
  refine lv_if_eq (tgt := 36) hx hb dX9_image_1 (by decide) (fun c101 => ?_) (fun c101 => ?_)
  · have k102 := i_eq c101
    refine lv_aload_n hx hb dX9_image_36 rfl (lv_at hl 0 rfl) ?_
    refine x_gn C hT (ci := 9) (k := 1) rfl inX9 (by decide) wF_X9_348 ga0 rg_68 rfl dX9_image_37 (fun z => absurd (z.symm.trans hkv) (by intro h; cases h)) (fun q103 eq103 fq103 gq103 => ?_)
    have uq103 : kq = q103 := by have h := hkv.symm.trans fq103; cases h; rfl
    subst uq103
    refine lv_ifnull hx hb dX9_image_40 ?_
    refine lv_aload_n hx hb dX9_image_43 rfl (lv_at hl 0 rfl) ?_
    refine x_gr C hT (ci := 9) (k := 0) rfl inX9 (by decide) wF_X9_12 ga0 rg_68 rfl dX9_image_44 (fun q104 eq104 gq104 => ?_)
    have uq104 : wq = q104 := (ewq).trans eq104.symm
    subst uq104
    refine lv_aload_n hx hb dX9_image_47 rfl (lv_at hl 0 rfl) ?_
    refine x_gn C hT (ci := 9) (k := 1) rfl inX9 (by decide) wF_X9_348 ga0 rg_68 rfl dX9_image_48 (fun z => absurd (z.symm.trans hkv) (by intro h; cases h)) (fun q105 eq105 fq105 gq105 => ?_)
    have uq105 : kq = q105 := by have h := hkv.symm.trans fq105; cases h; rfl
    subst uq105
    refine x_V (As := [.ref kq]) (rest := []) C (a_X8_copyFrom_nn l K G s.heap (s1) (s4) (s5) (s10) (s13) (s16) (k1) (k4) (k5) (k10) (k13) (k16) hT gwq gkq gcn ecn gcl ecl gck eck gdn edn gdl edl gdk edk es1 es4 es5 es10 es13 es16 ek1 ek4 ek5 ek10 ek13 ek16) yo_X8_copyFrom wM_X9_351 ⟨⟨by decide, by decide⟩, by decide, by decide⟩ (x_rv C hT (ci := 8) rfl gwq rg_0) rfl hl.1 rfl (Nat.le_of_ble_eq_true rfl) dX9_image_51 hS (AE_sub (fun _ _ => rfl) (by decide) hS.1) (fun vH106 H106 locsH106 pH106 zH106 kH106 hSH106 => ?_)
    obtain ⟨x107, x108, x109, x110, x111, x112, hvH106, ex107, ex108, ex109, ex110, ex111, ex112, hrH106, m113, m114, m115, m116, m117, m118, hTH106⟩ := pH106
    subst hvH106
    have f119 : ∀ j : Nat, fI H106 dn j = fI s.heap dn j := fun j => (fI_kept (x_lt hT kH106 gdn (by decide))).trans (f0_sdn j)
    have f120 : ∀ j : Nat, fI H106 dl j = fI s.heap dl j := fun j => (fI_kept (x_lt hT kH106 gdl (by decide))).trans (f0_sdl j)
    have f121 : ∀ j : Nat, fI H106 dk j = fI s.heap dk j := fun j => (fI_kept (x_lt hT kH106 gdk (by decide))).trans (f0_sdk j)
    have m122 := (ewq).trans (fR_kept (x_lt hT kH106 ga0 (by decide))).symm
    have m123 := (etp).trans (fI_kept (x_lt hT kH106 ga0 (by decide))).symm
    have m124 := (fV_kept (x_lt hT kH106 ga0 (by decide))).trans hkv
    have m125 := (edn).trans (fR_kept (x_lt hT kH106 gkq (by decide))).symm
    have m126 := (edl).trans (fR_kept (x_lt hT kH106 gkq (by decide))).symm
    have m127 := (edk).trans (fR_kept (x_lt hT kH106 gkq (by decide))).symm
    have m128 := (ek1).trans (fI_kept (x_lt hT kH106 gkq (by decide))).symm
    have m129 := (ek4).trans (fI_kept (x_lt hT kH106 gkq (by decide))).symm
    have m130 := (ek5).trans (fI_kept (x_lt hT kH106 gkq (by decide))).symm
    have m131 := (ek10).trans (fI_kept (x_lt hT kH106 gkq (by decide))).symm
    have m132 := (ek13).trans (fI_kept (x_lt hT kH106 gkq (by decide))).symm
    have m133 := (ek16).trans (fI_kept (x_lt hT kH106 gkq (by decide))).symm
    have bx107 := ty_fi (x := x107) (k := 1) ex107 hTH106 gwq rg_0 rfl
    have bx108 := ty_fi (x := x108) (k := 4) ex108 hTH106 gwq rg_0 rfl
    have bx109 := ty_fi (x := x109) (k := 5) ex109 hTH106 gwq rg_0 rfl
    have bx110 := ty_fi (x := x110) (k := 10) ex110 hTH106 gwq rg_0 rfl
    have bx111 := ty_fi (x := x111) (k := 13) ex111 hTH106 gwq rg_0 rfl
    have bx112 := ty_fi (x := x112) (k := 16) ex112 hTH106 gwq rg_0 rfl
    refine W.eq (g2 := F0 m 54 ls []) rfl ?_
    refine lv_aload_n hx hb dX9_image_54 rfl (lv_at hl 0 rfl) ?_
    refine x_gn C hTH106 (ci := 9) (k := 1) rfl inX9 (by decide) wF_X9_348 ga0 rg_68 rfl dX9_image_55 (fun z => absurd (z.symm.trans m124) (by intro h; cases h)) (fun q134 eq134 fq134 gq134 => ?_)
    have uq134 : kq = q134 := by have h := m124.symm.trans fq134; cases h; rfl
    subst uq134
    refine lv_ifnull hx hb dX9_image_58 ?_
    refine lv_iconst (v := 1) hx hb dX9_image_61 (by decide) ?_
    refine lv_goto (tgt := 66) hx hb dX9_image_62 (by decide) ?_
    exact x_zret C hQ (Or.inr rfl) dX9_image_66 hSH106 (by decide) (by decide) (⟨1, rfl, by omega, G, fun _ _ => rfl, hTH106, m113, m114, m115, by rw [← ex107]; omega, by rw [← ex108]; omega, by rw [← ex109]; omega, by rw [← ex110]; omega, by rw [← ex111]; omega, by rw [← ex112]; omega, (fun j hj => (m116 j hj).trans (f0_sdn j)), (fun j hj => (m117 j hj).trans (f0_sdl j)), (fun j hj => (m118 j hj).trans (f0_sdk j))⟩)
  · have k102 := i_ne c101
    exfalso
    omega

set_option maxHeartbeats 4000000 in
set_option maxRecDepth 100000 in
theorem a_X9_image_n1n (l : Launch) (K : KE) (G : Nat → Option Nat) (H : Heap) {a0 wq : Nat} (s1 : Int32) (s4 : Int32) (s5 : Int32) (s10 : Int32) (s13 : Int32) (s16 : Int32) (tp : Int32) {cn cl ck : Nat}  (hT : TY K G H) (ga0 : G a0 = some 68) (gwq : G wq = some 0) (ewq : wq = fR H a0 (K.1.2 9 0)) (es1 : s1 = fI H wq (K.1.2 8 1)) (es4 : s4 = fI H wq (K.1.2 8 4)) (es5 : s5 = fI H wq (K.1.2 8 5)) (es10 : s10 = fI H wq (K.1.2 8 10)) (es13 : s13 = fI H wq (K.1.2 8 13)) (es16 : s16 = fI H wq (K.1.2 8 16)) (etp : tp = fI H a0 (K.1.2 9 3)) (gcn : G cn = some 31) (ecn : cn = fR H wq (K.1.2 8 12)) (gcl : G cl = some 32) (ecl : cl = fR H wq (K.1.2 8 14)) (gck : G ck = some 33) (eck : ck = fR H wq (K.1.2 8 15)) (hkv : fV H a0 (K.1.2 9 1) = .null) : MX l K yX9_image cX9_image 2 (some .boolean) 3 84 434 13027 [.ref a0, .int 1] H (AE G [68, 34, 35, 36, 37, 38, 39, 40, 41, 42, 43, 44, 46, 48, 49, 50, 51, 52, 53, 54, 55, 56, 57, 58, 62, 63, 64, 65, 66, 67] H.size) (fun v H1 => ∃ (r : Int32), v = some (.int r) ∧ r.toInt = 1 ∧ ∃ G1 : Nat → Option Nat, (∀ q, q < H.size → G1 q = G q) ∧ TY K G1 H1 ∧ wq = fR H1 a0 (K.1.2 9 0) ∧ tp = fI H1 a0 (K.1.2 9 3) ∧ ∃ q en el ek : Nat, fV H1 a0 (K.1.2 9 1) = .ref q ∧ G1 q = some 34 ∧ G1 en = some 65 ∧ en = fR H1 q (K.1.2 8 12) ∧ G1 el = some 66 ∧ el = fR H1 q (K.1.2 8 14) ∧ G1 ek = some 67 ∧ ek = fR H1 q (K.1.2 8 15) ∧ (fI H1 q (K.1.2 8 1)).toInt = s1.toInt ∧ (fI H1 q (K.1.2 8 4)).toInt = s4.toInt ∧ (fI H1 q (K.1.2 8 5)).toInt = s5.toInt ∧ (fI H1 q (K.1.2 8 10)).toInt = s10.toInt ∧ (fI H1 q (K.1.2 8 13)).toInt = s13.toInt ∧ (fI H1 q (K.1.2 8 16)).toInt = s16.toInt ∧ (∀ j : Nat, j < 8 → fI H1 en j = fI H cn j) ∧ (∀ j : Nat, j < 8 → fI H1 el j = fI H cl j) ∧ (∀ j : Nat, j < 8 → fI H1 ek j = fI H ck j)) := by
  refine MX.of (by decide +kernel) (Nat.le_of_ble_eq_true rfl) ?_
  intro p e s m below meth c ls Q C hH hl hQ
  subst hH
  have C : CX p K s m _ meth c RX9 cX9_image 2 (some .boolean) "image" := C
  obtain ⟨hx, hb, hml, hown, hts, hKT, hr, hlocks, hnm⟩ := id C
  have hl : lv_has ls 2 [(0, .ref a0), (1, .int 1)] := hl
  have hS : va_S (AE G [68, 34, 35, 36, 37, 38, 39, 40, 41, 42, 43, 44, 46, 48, 49, 50, 51, 52, 53, 54, 55, 56, 57, 58, 62, 63, 64, 65, 66, 67] s.heap.size) s.heap s.heap [] := va_S.rf
  have n_0 : (0 : Int32).toInt = 0 := rfl
  have n_1 : (1 : Int32).toInt = 1 := rfl
  have n_10 : (10 : Int32).toInt = 10 := rfl
  have hT_0 := hT
  have hGo : ∀ q, q < s.heap.size → G q = G q := fun _ _ => rfl
  have f0_scn : ∀ j : Nat, fI s.heap cn j = fI s.heap cn j := fun _ => rfl
  have f0_scl : ∀ j : Nat, fI s.heap cl j = fI s.heap cl j := fun _ => rfl
  have f0_sck : ∀ j : Nat, fI s.heap ck j = fI s.heap ck j := fun _ => rfl
  refine lv_iload_n hx hb dX9_image_0 rfl (lv_at hl 1 rfl) ?_
  refine lv_if_eq (tgt := 36) hx hb dX9_image_1 (by decide) (fun c101 => ?_) (fun c101 => ?_)
  · have k102 := i_eq c101
    exfalso
    omega
  · have k102 := i_ne c101
    refine lv_aload_n hx hb dX9_image_4 rfl (lv_at hl 0 rfl) ?_
    refine x_gn C hT (ci := 9) (k := 1) rfl inX9 (by decide) wF_X9_348 ga0 rg_68 rfl dX9_image_5 (fun _ => ?_) (fun q _ hq _ => absurd (hq.symm.trans hkv) (by intro h; cases h))
    refine lv_ifnonnullN hx hb dX9_image_8 ?_
    refine lv_aload_n hx hb dX9_image_11 rfl (lv_at hl 0 rfl) ?_
    refine x_new C hT hS (ci := 8) (ty0 := tyX8) (vs := [.null, .int 0, .null, .null, .int 0, .int 0, .int 0, .int 0, .null, .null, .int 0, .null, .null, .int 0, .null, .null, .int 0]) rfl inX8 tyX8_ok wC_X9_9 wIS_X8 wIN_X8 dfX8 ⟨by decide, by decide⟩ dX9_image_12 (fun H103 hR105 hTH103 hSH103 oH103 zH103 => ?_)
    have hNq104 : G s.heap.size = none := hT.gb _ (Nat.le_refl _)
    have f106 : ∀ j : Nat, fI H103 cn j = fI s.heap cn j := fun j => (fI_kept (oH103 _ (hT.lt gcn))).trans (f0_scn j)
    have f107 : ∀ j : Nat, fI H103 cl j = fI s.heap cl j := fun j => (fI_kept (oH103 _ (hT.lt gcl))).trans (f0_scl j)
    have f108 : ∀ j : Nat, fI H103 ck j = fI s.heap ck j := fun j => (fI_kept (oH103 _ (hT.lt gck))).trans (f0_sck j)
    have m109 := (ewq).trans (fR_kept (oH103 _ (hT.lt ga0))).symm
    have m110 := (es1).trans (fI_kept (oH103 _ (hT.lt gwq))).symm
    have m111 := (es4).trans (fI_kept (oH103 _ (hT.lt gwq))).symm
    have m112 := (es5).trans (fI_kept (oH103 _ (hT.lt gwq))).symm
    have m113 := (es10).trans (fI_kept (oH103 _ (hT.lt gwq))).symm
    have m114 := (es13).trans (fI_kept (oH103 _ (hT.lt gwq))).symm
    have m115 := (es16).trans (fI_kept (oH103 _ (hT.lt gwq))).symm
    have m116 := (etp).trans (fI_kept (oH103 _ (hT.lt ga0))).symm
    have m117 := (ecn).trans (fR_kept (oH103 _ (hT.lt gwq))).symm
    have m118 := (ecl).trans (fR_kept (oH103 _ (hT.lt gwq))).symm
    have m119 := (eck).trans (fR_kept (oH103 _ (hT.lt gwq))).symm
    have m120 := (fV_kept (oH103 _ (hT.lt ga0))).trans hkv
    obtain ⟨q104, eq104⟩ : ∃ q, q = s.heap.size := ⟨_, rfl⟩
    have leq104 : s.heap.size ≤ q104 := by rw [eq104]; exact hS.1
    rw [← eq104] at hNq104 hR105
    rw [← eq104]
    clear eq104
    clear oH103 zH103 hT
    refine lv_dup hx hb dX9_image_15 rfl ?_
    refine x_I (As := []) (rest := [.ref q104, .ref a0]) C (k_X8_init_kept l K G H103 (a := q104) hTH103 hNq104 hR105) yo_X8_init rfl wM_X9_11 ⟨⟨by decide, by decide⟩, by decide, by decide⟩ rfl hl.1 rfl (Nat.le_of_ble_eq_true rfl) dX9_image_16 hSH103 (fun x h => Or.inr (h.elim (fun e => by rw [e]; exact leq104) (fun h => Nat.le_trans hSH103.1 h))) (fun vH121 H121 locsH121 pH121 zH121 kH121 hSH121 => ?_)
    obtain ⟨hvH121, G122, hgH121, ggH121, hTH121, fq104_1, fq104_4, fq104_5, fq104_6, fq104_7, fq104_10, fq104_13, fq104_16⟩ := pH121
    subst hvH121
    have f123 : ∀ j : Nat, fI H121 cn j = fI s.heap cn j := fun j => (fI_kept (kH121 _ (hTH103.lt gcn) (fun h => h.elim (g_ne gcn hNq104) (Nat.not_le.mpr (hTH103.lt gcn))))).trans (f106 j)
    have f124 : ∀ j : Nat, fI H121 cl j = fI s.heap cl j := fun j => (fI_kept (kH121 _ (hTH103.lt gcl) (fun h => h.elim (g_ne gcl hNq104) (Nat.not_le.mpr (hTH103.lt gcl))))).trans (f107 j)
    have f125 : ∀ j : Nat, fI H121 ck j = fI s.heap ck j := fun j => (fI_kept (kH121 _ (hTH103.lt gck) (fun h => h.elim (g_ne gck hNq104) (Nat.not_le.mpr (hTH103.lt gck))))).trans (f108 j)
    have m126 := (m109).trans (fR_kept (kH121 _ (hTH103.lt ga0) (fun h => h.elim (g_ne ga0 hNq104) (Nat.not_le.mpr (hTH103.lt ga0))))).symm
    clear m109
    have m127 := (m110).trans (fI_kept (kH121 _ (hTH103.lt gwq) (fun h => h.elim (g_ne gwq hNq104) (Nat.not_le.mpr (hTH103.lt gwq))))).symm
    clear m110
    have m128 := (m111).trans (fI_kept (kH121 _ (hTH103.lt gwq) (fun h => h.elim (g_ne gwq hNq104) (Nat.not_le.mpr (hTH103.lt gwq))))).symm
    clear m111
    have m129 := (m112).trans (fI_kept (kH121 _ (hTH103.lt gwq) (fun h => h.elim (g_ne gwq hNq104) (Nat.not_le.mpr (hTH103.lt gwq))))).symm
    clear m112
    have m130 := (m113).trans (fI_kept (kH121 _ (hTH103.lt gwq) (fun h => h.elim (g_ne gwq hNq104) (Nat.not_le.mpr (hTH103.lt gwq))))).symm
    clear m113
    have m131 := (m114).trans (fI_kept (kH121 _ (hTH103.lt gwq) (fun h => h.elim (g_ne gwq hNq104) (Nat.not_le.mpr (hTH103.lt gwq))))).symm
    clear m114
    have m132 := (m115).trans (fI_kept (kH121 _ (hTH103.lt gwq) (fun h => h.elim (g_ne gwq hNq104) (Nat.not_le.mpr (hTH103.lt gwq))))).symm
    clear m115
    have m133 := (m116).trans (fI_kept (kH121 _ (hTH103.lt ga0) (fun h => h.elim (g_ne ga0 hNq104) (Nat.not_le.mpr (hTH103.lt ga0))))).symm
    clear m116
    have m134 := (m117).trans (fR_kept (kH121 _ (hTH103.lt gwq) (fun h => h.elim (g_ne gwq hNq104) (Nat.not_le.mpr (hTH103.lt gwq))))).symm
    clear m117
    have m135 := (m118).trans (fR_kept (kH121 _ (hTH103.lt gwq) (fun h => h.elim (g_ne gwq hNq104) (Nat.not_le.mpr (hTH103.lt gwq))))).symm
    clear m118
    have m136 := (m119).trans (fR_kept (kH121 _ (hTH103.lt gwq) (fun h => h.elim (g_ne gwq hNq104) (Nat.not_le.mpr (hTH103.lt gwq))))).symm
    clear m119
    have m137 := (fV_kept (kH121 _ (hTH103.lt ga0) (fun h => h.elim (g_ne ga0 hNq104) (Nat.not_le.mpr (hTH103.lt ga0))))).trans m120
    clear m120
    replace ga0 : G122 a0 = some 68 := (hgH121 _ (hTH103.lt ga0) (g_ne ga0 hNq104)).trans ga0
    replace gwq : G122 wq = some 0 := (hgH121 _ (hTH103.lt gwq) (g_ne gwq hNq104)).trans gwq
    replace gcn : G122 cn = some 31 := (hgH121 _ (hTH103.lt gcn) (g_ne gcn hNq104)).trans gcn
    replace gcl : G122 cl = some 32 := (hgH121 _ (hTH103.lt gcl) (g_ne gcl hNq104)).trans gcl
    replace gck : G122 ck = some 33 := (hgH121 _ (hTH103.lt gck) (g_ne gck hNq104)).trans gck
    replace hGo : ∀ q, q < s.heap.size → G122 q = G q := fun q hq => (hgH121 q (Nat.lt_of_lt_of_le hq hSH103.1) (Nat.ne_of_lt (Nat.lt_of_lt_of_le hq leq104))).trans (hGo q hq)
    have gq104 : G122 q104 = some 34 := ggH121
    clear hR105 hNq104 ggH121 hgH121 kH121 zH121 hTH103 
    refine W.eq (g2 := F0 m 19 ls [.ref q104, .ref a0]) rfl ?_
    refine x_put C hTH121 hSH121 (ci := 9) (k := 1) (v := .ref q104) (ty0 := tyX9) rfl inX9 tyX9_ok nmX9 (by decide) rfl wF_X9_348 ga0 rg_68 rfl rfl (Or.inr ⟨q104, rfl, gq104⟩) rfl rfl (AE_sub hGo (fun _ h => h) (Nat.le_refl _) _ (AE_in ga0 (by decide))) dX9_image_19 (fun H138 locsH138 hTH138 hSH138 wH138 => ?_)
    have f139 : ∀ j : Nat, fI H138 cn j = fI s.heap cn j := fun j => (Wr.neI wH138 (Or.inl (G_ne gcn ga0 (by decide)))).trans (f123 j)
    have f140 : ∀ j : Nat, fI H138 cl j = fI s.heap cl j := fun j => (Wr.neI wH138 (Or.inl (G_ne gcl ga0 (by decide)))).trans (f124 j)
    have f141 : ∀ j : Nat, fI H138 ck j = fI s.heap ck j := fun j => (Wr.neI wH138 (Or.inl (G_ne gck ga0 (by decide)))).trans (f125 j)
    have m142 := m126.trans (Wr.neR wH138 (Or.inr (x_apart hKT hts inX9 tyX9 tyX9_ok nmX9 rfl 0 1 (by decide) (by decide) (by decide)))).symm
    have m143 := m127.trans (Wr.neI wH138 (Or.inl (G_ne gwq ga0 (by decide)))).symm
    have m144 := m128.trans (Wr.neI wH138 (Or.inl (G_ne gwq ga0 (by decide)))).symm
    have m145 := m129.trans (Wr.neI wH138 (Or.inl (G_ne gwq ga0 (by decide)))).symm
    have m146 := m130.trans (Wr.neI wH138 (Or.inl (G_ne gwq ga0 (by decide)))).symm
    have m147 := m131.trans (Wr.neI wH138 (Or.inl (G_ne gwq ga0 (by decide)))).symm
    have m148 := m132.trans (Wr.neI wH138 (Or.inl (G_ne gwq ga0 (by decide)))).symm
    have m149 := m133.trans (Wr.neI wH138 (Or.inr (x_apart hKT hts inX9 tyX9 tyX9_ok nmX9 rfl 3 1 (by decide) (by decide) (by decide)))).symm
    have m150 := m134.trans (Wr.neR wH138 (Or.inl (G_ne gwq ga0 (by decide)))).symm
    have m151 := m135.trans (Wr.neR wH138 (Or.inl (G_ne gwq ga0 (by decide)))).symm
    have m152 := m136.trans (Wr.neR wH138 (Or.inl (G_ne gwq ga0 (by decide)))).symm
    have m154 := (Wr.neI wH138 (Or.inl (G_ne gq104 ga0 (by decide)))).trans fq104_1
    have m155 := (Wr.neI wH138 (Or.inl (G_ne gq104 ga0 (by decide)))).trans fq104_4
    have m156 := (Wr.neI wH138 (Or.inl (G_ne gq104 ga0 (by decide)))).trans fq104_5
    have m157 := (Wr.neI wH138 (Or.inl (G_ne gq104 ga0 (by decide)))).trans fq104_6
    have m158 := (Wr.neI wH138 (Or.inl (G_ne gq104 ga0 (by decide)))).trans fq104_7
    have m159 := (Wr.neI wH138 (Or.inl (G_ne gq104 ga0 (by decide)))).trans fq104_10
    have m160 := (Wr.neI wH138 (Or.inl (G_ne gq104 ga0 (by decide)))).trans fq104_13
    have m161 := (Wr.neI wH138 (Or.inl (G_ne gq104 ga0 (by decide)))).trans fq104_16
    have m162 := wH138.2.2.1
    refine lv_aload_n hx hb dX9_image_22 rfl (lv_at hl 0 rfl) ?_
    refine x_gn C hTH138 (ci := 9) (k := 1) rfl inX9 (by decide) wF_X9_348 ga0 rg_68 rfl dX9_image_23 (fun z => absurd (z.symm.trans m162) (by intro h; cases h)) (fun q163 eq163 fq163 gq163 => ?_)
    have uq163 : q104 = q163 := by have h := m162.symm.trans fq163; cases h; rfl
    subst uq163
    refine lv_aload_n hx hb dX9_image_26 rfl (lv_at hl 0 rfl) ?_
    refine x_gr C hTH138 (ci := 9) (k := 0) rfl inX9 (by decide) wF_X9_12 ga0 rg_68 rfl dX9_image_27 (fun q164 eq164 gq164 => ?_)
    have uq164 : wq = q164 := (m142).trans eq164.symm
    subst uq164
    obtain ⟨q165, eq165⟩ : ∃ z : Nat, z = fR H138 q104 (K.1.2 8 12) := ⟨_, rfl⟩
    have gq165 := ty_fr (q := q165) (k := 12) (u := 65) eq165 hTH138 gq104 rg_34 rfl
    obtain ⟨q166, eq166⟩ : ∃ z : Nat, z = fR H138 q104 (K.1.2 8 14) := ⟨_, rfl⟩
    have gq166 := ty_fr (q := q166) (k := 14) (u := 66) eq166 hTH138 gq104 rg_34 rfl
    obtain ⟨q167, eq167⟩ : ∃ z : Nat, z = fR H138 q104 (K.1.2 8 15) := ⟨_, rfl⟩
    have gq167 := ty_fr (q := q167) (k := 15) (u := 67) eq167 hTH138 gq104 rg_34 rfl
    refine x_V (As := [.ref wq]) (rest := []) C (a_X8_copyFrom_nk l K G122 H138 (0) (0) (10) (0) (0) (0) (s1) (s4) (s5) (s10) (s13) (s16) hTH138 gq104 gwq gq165 eq165 gq166 eq166 gq167 eq167 gcn m150 gcl m151 gck m152 (m154).symm (m155).symm (m156).symm (m159).symm (m160).symm (m161).symm m143 m144 m145 m146 m147 m148) yo_X8_copyFrom wM_X9_351 ⟨⟨by decide, by decide⟩, by decide, by decide⟩ (x_rv C hTH138 (ci := 8) rfl gq104 rg_34) rfl hl.1 rfl (Nat.le_of_ble_eq_true rfl) dX9_image_30 hSH138 (AE_sub hGo (by decide) hSH138.1) (fun vH168 H168 locsH168 pH168 zH168 kH168 hSH168 => ?_)
    obtain ⟨x169, x170, x171, x172, x173, x174, hvH168, ex169, ex170, ex171, ex172, ex173, ex174, hrH168, m175, m176, m177, m178, m179, m180, hTH168⟩ := pH168
    subst hvH168
    have f181 : ∀ j : Nat, fI H168 cn j = fI s.heap cn j := fun j => (fI_kept (x_lt hTH138 kH168 gcn (by decide))).trans (f139 j)
    have f182 : ∀ j : Nat, fI H168 cl j = fI s.heap cl j := fun j => (fI_kept (x_lt hTH138 kH168 gcl (by decide))).trans (f140 j)
    have f183 : ∀ j : Nat, fI H168 ck j = fI s.heap ck j := fun j => (fI_kept (x_lt hTH138 kH168 gck (by decide))).trans (f141 j)
    have m184 := (m142).trans (fR_kept (x_lt hTH138 kH168 ga0 (by decide))).symm
    have m185 := (m143).trans (fI_kept (x_lt hTH138 kH168 gwq (by decide))).symm
    have m186 := (m144).trans (fI_kept (x_lt hTH138 kH168 gwq (by decide))).symm
    have m187 := (m145).trans (fI_kept (x_lt hTH138 kH168 gwq (by decide))).symm
    have m188 := (m146).trans (fI_kept (x_lt hTH138 kH168 gwq (by decide))).symm
    have m189 := (m147).trans (fI_kept (x_lt hTH138 kH168 gwq (by decide))).symm
    have m190 := (m148).trans (fI_kept (x_lt hTH138 kH168 gwq (by decide))).symm
    have m191 := (m149).trans (fI_kept (x_lt hTH138 kH168 ga0 (by decide))).symm
    have m192 := (m150).trans (fR_kept (x_lt hTH138 kH168 gwq (by decide))).symm
    have m193 := (m151).trans (fR_kept (x_lt hTH138 kH168 gwq (by decide))).symm
    have m194 := (m152).trans (fR_kept (x_lt hTH138 kH168 gwq (by decide))).symm
    have m195 := (fV_kept (x_lt hTH138 kH168 ga0 (by decide))).trans m162
    have bx169 := ty_fi (x := x169) (k := 1) ex169 hTH168 gq104 rg_34 rfl
    have bx170 := ty_fi (x := x170) (k := 4) ex170 hTH168 gq104 rg_34 rfl
    have bx171 := ty_fi (x := x171) (k := 5) ex171 hTH168 gq104 rg_34 rfl
    have bx172 := ty_fi (x := x172) (k := 10) ex172 hTH168 gq104 rg_34 rfl
    have bx173 := ty_fi (x := x173) (k := 13) ex173 hTH168 gq104 rg_34 rfl
    have bx174 := ty_fi (x := x174) (k := 16) ex174 hTH168 gq104 rg_34 rfl
    refine W.eq (g2 := F0 m 33 ls []) rfl ?_
    refine lv_goto (tgt := 54) hx hb dX9_image_33 (by decide) ?_
    refine lv_aload_n hx hb dX9_image_54 rfl (lv_at hl 0 rfl) ?_
    refine x_gn C hTH168 (ci := 9) (k := 1) rfl inX9 (by decide) wF_X9_348 ga0 rg_68 rfl dX9_image_55 (fun z => absurd (z.symm.trans m195) (by intro h; cases h)) (fun q196 eq196 fq196 gq196 => ?_)
    have uq196 : q104 = q196 := by have h := m195.symm.trans fq196; cases h; rfl
    subst uq196
    refine lv_ifnull hx hb dX9_image_58 ?_
    refine lv_iconst (v := 1) hx hb dX9_image_61 (by decide) ?_
    refine lv_goto (tgt := 66) hx hb dX9_image_62 (by decide) ?_
    exact x_zret C hQ (Or.inr rfl) dX9_image_66 hSH168 (by decide) (by decide) (⟨1, rfl, by omega, G122, hGo, hTH168, m184, m191, q104, q165, q166, q167, m195, gq104, gq165, m175, gq166, m176, gq167, m177, by rw [← ex169]; omega, by rw [← ex170]; omega, by rw [← ex171]; omega, by rw [← ex172]; omega, by rw [← ex173]; omega, by rw [← ex174]; omega, (fun j hj => (m178 j hj).trans (f139 j)), (fun j hj => (m179 j hj).trans (f140 j)), (fun j hj => (m180 j hj).trans (f141 j))⟩)

set_option maxHeartbeats 4000000 in
set_option maxRecDepth 100000 in
theorem a_X9_image_n1v (l : Launch) (K : KE) (G : Nat → Option Nat) (H : Heap) {a0 wq : Nat} (s1 : Int32) (s4 : Int32) (s5 : Int32) (s10 : Int32) (s13 : Int32) (s16 : Int32) (tp : Int32) {cn cl ck : Nat} {kq dn dl dk : Nat} (k1 : Int32) (k4 : Int32) (k5 : Int32) (k10 : Int32) (k13 : Int32) (k16 : Int32) (hT : TY K G H) (ga0 : G a0 = some 68) (gwq : G wq = some 0) (ewq : wq = fR H a0 (K.1.2 9 0)) (es1 : s1 = fI H wq (K.1.2 8 1)) (es4 : s4 = fI H wq (K.1.2 8 4)) (es5 : s5 = fI H wq (K.1.2 8 5)) (es10 : s10 = fI H wq (K.1.2 8 10)) (es13 : s13 = fI H wq (K.1.2 8 13)) (es16 : s16 = fI H wq (K.1.2 8 16)) (etp : tp = fI H a0 (K.1.2 9 3)) (gcn : G cn = some 31) (ecn : cn = fR H wq (K.1.2 8 12)) (gcl : G cl = some 32) (ecl : cl = fR H wq (K.1.2 8 14)) (gck : G ck = some 33) (eck : ck = fR H wq (K.1.2 8 15)) (hkv : fV H a0 (K.1.2 9 1) = .ref kq) (gkq : G kq = some 34) (gdn : G dn = some 65) (edn : dn = fR H kq (K.1.2 8 12)) (gdl : G dl = some 66) (edl : dl = fR H kq (K.1.2 8 14)) (gdk : G dk = some 67) (edk : dk = fR H kq (K.1.2 8 15)) (ek1 : k1 = fI H kq (K.1.2 8 1)) (ek4 : k4 = fI H kq (K.1.2 8 4)) (ek5 : k5 = fI H kq (K.1.2 8 5)) (ek10 : k10 = fI H kq (K.1.2 8 10)) (ek13 : k13 = fI H kq (K.1.2 8 13)) (ek16 : k16 = fI H kq (K.1.2 8 16)) : MX l K yX9_image cX9_image 2 (some .boolean) 3 84 0 0 [.ref a0, .int 1] H (AE G [68, 34, 35, 36, 37, 38, 39, 40, 41, 42, 43, 44, 46, 48, 49, 50, 51, 52, 53, 54, 55, 56, 57, 58, 62, 63, 64, 65, 66, 67] H.size) (fun v H1 => ∃ (r : Int32), v = some (.int r) ∧ r.toInt = 1 ∧ ∃ G1 : Nat → Option Nat, (∀ q, q < H.size → G1 q = G q) ∧ TY K G1 H1 ∧ wq = fR H1 a0 (K.1.2 9 0) ∧ tp = fI H1 a0 (K.1.2 9 3) ∧ ∃ q en el ek : Nat, fV H1 a0 (K.1.2 9 1) = .ref q ∧ G1 q = some 34 ∧ G1 en = some 65 ∧ en = fR H1 q (K.1.2 8 12) ∧ G1 el = some 66 ∧ el = fR H1 q (K.1.2 8 14) ∧ G1 ek = some 67 ∧ ek = fR H1 q (K.1.2 8 15) ∧ (fI H1 q (K.1.2 8 1)).toInt = s1.toInt ∧ (fI H1 q (K.1.2 8 4)).toInt = s4.toInt ∧ (fI H1 q (K.1.2 8 5)).toInt = s5.toInt ∧ (fI H1 q (K.1.2 8 10)).toInt = s10.toInt ∧ (fI H1 q (K.1.2 8 13)).toInt = s13.toInt ∧ (fI H1 q (K.1.2 8 16)).toInt = s16.toInt ∧ (∀ j : Nat, j < 8 → fI H1 en j = fI H cn j) ∧ (∀ j : Nat, j < 8 → fI H1 el j = fI H cl j) ∧ (∀ j : Nat, j < 8 → fI H1 ek j = fI H ck j)) := by
  refine MX.of (by decide +kernel) (Nat.le_of_ble_eq_true rfl) ?_
  intro p e s m below meth c ls Q C hH hl hQ
  subst hH
  have C : CX p K s m _ meth c RX9 cX9_image 2 (some .boolean) "image" := C
  obtain ⟨hx, hb, hml, hown, hts, hKT, hr, hlocks, hnm⟩ := id C
  have hl : lv_has ls 2 [(0, .ref a0), (1, .int 1)] := hl
  have hS : va_S (AE G [68, 34, 35, 36, 37, 38, 39, 40, 41, 42, 43, 44, 46, 48, 49, 50, 51, 52, 53, 54, 55, 56, 57, 58, 62, 63, 64, 65, 66, 67] s.heap.size) s.heap s.heap [] := va_S.rf
  have n_0 : (0 : Int32).toInt = 0 := rfl
  have n_1 : (1 : Int32).toInt = 1 := rfl
  have hT_0 := hT
  have hGo : ∀ q, q < s.heap.size → G q = G q := fun _ _ => rfl
  have f0_scn : ∀ j : Nat, fI s.heap cn j = fI s.heap cn j := fun _ => rfl
  have f0_scl : ∀ j : Nat, fI s.heap cl j = fI s.heap cl j := fun _ => rfl
  have f0_sck : ∀ j : Nat, fI s.heap ck j = fI s.heap ck j := fun _ => rfl
  have f0_sdn : ∀ j : Nat, fI s.heap dn j = fI s.heap dn j := fun _ => rfl
  have f0_sdl : ∀ j : Nat, fI s.heap dl j = fI s.heap dl j := fun _ => rfl
  have f0_sdk : ∀ j : Nat, fI s.heap dk j = fI s.heap dk j := fun _ => rfl
  refine lv_iload_n hx hb dX9_image_0 rfl (lv_at hl 1 rfl) ?_
  refine lv_if_eq (tgt := 36) hx hb dX9_image_1 (by decide) (fun c101 => ?_) (fun c101 => ?_)
  · have k102 := i_eq c101
    exfalso
    omega
  · have k102 := i_ne c101
    refine lv_aload_n hx hb dX9_image_4 rfl (lv_at hl 0 rfl) ?_
    refine x_gn C hT (ci := 9) (k := 1) rfl inX9 (by decide) wF_X9_348 ga0 rg_68 rfl dX9_image_5 (fun z => absurd (z.symm.trans hkv) (by intro h; cases h)) (fun q103 eq103 fq103 gq103 => ?_)
    have uq103 : kq = q103 := by have h := hkv.symm.trans fq103; cases h; rfl
    subst uq103
    refine lv_ifnonnull (tgt := 22) hx hb dX9_image_8 (by decide) ?_
    refine lv_aload_n hx hb dX9_image_22 rfl (lv_at hl 0 rfl) ?_
    refine x_gn C hT (ci := 9) (k := 1) rfl inX9 (by decide) wF_X9_348 ga0 rg_68 rfl dX9_image_23 (fun z => absurd (z.symm.trans hkv) (by intro h; cases h)) (fun q104 eq104 fq104 gq104 => ?_)
    have uq104 : kq = q104 := by have h := hkv.symm.trans fq104; cases h; rfl
    subst uq104
    refine lv_aload_n hx hb dX9_image_26 rfl (lv_at hl 0 rfl) ?_
    refine x_gr C hT (ci := 9) (k := 0) rfl inX9 (by decide) wF_X9_12 ga0 rg_68 rfl dX9_image_27 (fun q105 eq105 gq105 => ?_)
    have uq105 : wq = q105 := (ewq).trans eq105.symm
    subst uq105
    refine x_V (As := [.ref wq]) (rest := []) C (a_X8_copyFrom_nk l K G s.heap (k1) (k4) (k5) (k10) (k13) (k16) (s1) (s4) (s5) (s10) (s13) (s16) hT gkq gwq gdn edn gdl edl gdk edk gcn ecn gcl ecl gck eck ek1 ek4 ek5 ek10 ek13 ek16 es1 es4 es5 es10 es13 es16) yo_X8_copyFrom wM_X9_351 ⟨⟨by decide, by decide⟩, by decide, by decide⟩ (x_rv C hT (ci := 8) rfl gkq rg_34) rfl hl.1 rfl (Nat.le_of_ble_eq_true rfl) dX9_image_30 hS (AE_sub (fun _ _ => rfl) (by decide) hS.1) (fun vH106 H106 locsH106 pH106 zH106 kH106 hSH106 => ?_)
    obtain ⟨x107, x108, x109, x110, x111, x112, hvH106, ex107, ex108, ex109, ex110, ex111, ex112, hrH106, m113, m114, m115, m116, m117, m118, hTH106⟩ := pH106
    subst hvH106
    have f119 : ∀ j : Nat, fI H106 cn j = fI s.heap cn j := fun j => (fI_kept (x_lt hT kH106 gcn (by decide))).trans (f0_scn j)
    have f120 : ∀ j : Nat, fI H106 cl j = fI s.heap cl j := fun j => (fI_kept (x_lt hT kH106 gcl (by decide))).trans (f0_scl j)
    have f121 : ∀ j : Nat, fI H106 ck j = fI s.heap ck j := fun j => (fI_kept (x_lt hT kH106 gck (by decide))).trans (f0_sck j)
    have m122 := (ewq).trans (fR_kept (x_lt hT kH106 ga0 (by decide))).symm
    have m123 := (es1).trans (fI_kept (x_lt hT kH106 gwq (by decide))).symm
    have m124 := (es4).trans (fI_kept (x_lt hT kH106 gwq (by decide))).symm
    have m125 := (es5).trans (fI_kept (x_lt hT kH106 gwq (by decide))).symm
    have m126 := (es10).trans (fI_kept (x_lt hT kH106 gwq (by decide))).symm
    have m127 := (es13).trans (fI_kept (x_lt hT kH106 gwq (by decide))).symm
    have m128 := (es16).trans (fI_kept (x_lt hT kH106 gwq (by decide))).symm
    have m129 := (etp).trans (fI_kept (x_lt hT kH106 ga0 (by decide))).symm
    have m130 := (ecn).trans (fR_kept (x_lt hT kH106 gwq (by decide))).symm
    have m131 := (ecl).trans (fR_kept (x_lt hT kH106 gwq (by decide))).symm
    have m132 := (eck).trans (fR_kept (x_lt hT kH106 gwq (by decide))).symm
    have m133 := (fV_kept (x_lt hT kH106 ga0 (by decide))).trans hkv
    have bx107 := ty_fi (x := x107) (k := 1) ex107 hTH106 gkq rg_34 rfl
    have bx108 := ty_fi (x := x108) (k := 4) ex108 hTH106 gkq rg_34 rfl
    have bx109 := ty_fi (x := x109) (k := 5) ex109 hTH106 gkq rg_34 rfl
    have bx110 := ty_fi (x := x110) (k := 10) ex110 hTH106 gkq rg_34 rfl
    have bx111 := ty_fi (x := x111) (k := 13) ex111 hTH106 gkq rg_34 rfl
    have bx112 := ty_fi (x := x112) (k := 16) ex112 hTH106 gkq rg_34 rfl
    refine W.eq (g2 := F0 m 33 ls []) rfl ?_
    refine lv_goto (tgt := 54) hx hb dX9_image_33 (by decide) ?_
    refine lv_aload_n hx hb dX9_image_54 rfl (lv_at hl 0 rfl) ?_
    refine x_gn C hTH106 (ci := 9) (k := 1) rfl inX9 (by decide) wF_X9_348 ga0 rg_68 rfl dX9_image_55 (fun z => absurd (z.symm.trans m133) (by intro h; cases h)) (fun q134 eq134 fq134 gq134 => ?_)
    have uq134 : kq = q134 := by have h := m133.symm.trans fq134; cases h; rfl
    subst uq134
    refine lv_ifnull hx hb dX9_image_58 ?_
    refine lv_iconst (v := 1) hx hb dX9_image_61 (by decide) ?_
    refine lv_goto (tgt := 66) hx hb dX9_image_62 (by decide) ?_
    exact x_zret C hQ (Or.inr rfl) dX9_image_66 hSH106 (by decide) (by decide) (⟨1, rfl, by omega, G, fun _ _ => rfl, hTH106, m122, m129, kq, dn, dl, dk, m133, gkq, gdn, m113, gdl, m114, gdk, m115, by rw [← ex107]; omega, by rw [← ex108]; omega, by rw [← ex109]; omega, by rw [← ex110]; omega, by rw [← ex111]; omega, by rw [← ex112]; omega, (fun j hj => (m116 j hj).trans (f0_scn j)), (fun j hj => (m117 j hj).trans (f0_scl j)), (fun j hj => (m118 j hj).trans (f0_sck j))⟩)
