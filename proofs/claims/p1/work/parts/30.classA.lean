/-- a fresh object of the class, its world w -/
def FX (K : KE) (H : Heap) (a w : Nat) : Prop := w = fR H a (K.1.2 9 0) ∧ fV H a (K.1.2 9 1) = .null ∧ fI H a (K.1.2 9 3) = 0 ∧ fI H w (K.1.2 8 1) = 0 ∧ fI H w (K.1.2 8 4) = 0 ∧ fI H w (K.1.2 8 5) = 10 ∧ fI H w (K.1.2 8 6) = 0 ∧ fI H w (K.1.2 8 7) = (-1) ∧ fI H w (K.1.2 8 10) = 0 ∧ fI H w (K.1.2 8 13) = 0 ∧ fI H w (K.1.2 8 16) = 0
/-- a fresh reference -/
def FM (K : KE) (H : Heap) (b : Nat) : Prop := fI H b (K.1.2 10 1) = 0 ∧ fI H b (K.1.2 10 2) = 0 ∧ fI H b (K.1.2 10 3) = 10 ∧ fI H b (K.1.2 10 18) = 0 ∧ fI H b (K.1.2 10 41) = 0 ∧ fI H b (K.1.2 10 42) = (-1) ∧ fI H b (K.1.2 10 59) = 0 ∧ fI H b (K.1.2 10 62) = 0 ∧ fI H b (K.1.2 10 65) = 0 ∧ fI H b (K.1.2 10 70) = 0
set_option maxHeartbeats 4000000 in
set_option maxRecDepth 100000 in
theorem f_X9_barAt (l : Launch) (K : KE) (G : Nat → Option Nat) (H : Heap) {a w : Nat} (x0 : Int32) (hT : TY K G H) (ga : G a = some 68) (gw : G w = some 0) (fx : FX K H a w) : MX l K yX9_barAt cX9_barAt 2 (some (.object "RingBars$Bar")) 1 22 0 0 [.ref a, .int x0] H (AE G [] H.size) (fun v H1 => H1 = H ∧ v = some .null) := by
  refine MX.of (by decide +kernel) (Nat.le_of_ble_eq_true rfl) ?_
  intro p e s m below meth c ls Q C hH hl hQ
  subst hH
  have C : CX p K s m _ meth c RX9 cX9_barAt 2 (some (.object "RingBars$Bar")) "barAt" := C
  obtain ⟨hx, hb, hml, hown, hts, hKT, hr, hlocks, hnm⟩ := id C
  have hl : lv_has ls 2 [(0, .ref a), (1, .int x0)] := hl
  have hS : va_S (AE G [] s.heap.size) s.heap s.heap [] := va_S.rf
  have n_m1 : ((-1) : Int32).toInt = -1 := rfl
  have n_0 : (0 : Int32).toInt = 0 := rfl
  have n_1 : (1 : Int32).toInt = 1 := rfl
  obtain ⟨f0, f1, f2, f3, f4, f5, f6, f7, f8, f9, f10⟩ := fx
  refine lv_iload_n hx hb dX9_barAt_0 rfl (lv_at hl 1 rfl) ?_
  refine lv_iconst (v := 0) hx hb dX9_barAt_1 (by decide) ?_
  refine lv_aload_n hx hb dX9_barAt_2 rfl (lv_at hl 0 rfl) ?_
  refine x_gr C hT (ci := 9) (k := 0) rfl inX9 (by decide) wF_X9_12 ga rg_68 rfl dX9_barAt_3 (fun q101 eq101 gq101 => ?_)
  have uq101 : w = q101 := (f0).trans eq101.symm
  subst uq101
  refine x_gi C hT (ci := 8) (k := 1) rfl inX8 (by decide) wF_X9_64 gw rg_0 rfl dX9_barAt_6 (fun x102 ex102 bx102 => ?_)
  have ux102 : x102 = 0 := ex102.trans f3
  subst ux102
  refine lv_iconst (v := 1) hx hb dX9_barAt_9 (by decide) ?_
  refine lv_isub hx hb dX9_barAt_10 ?_
  refine lv_topi (fun x103 ex103 => ?_)
  have tx103 : x103 = (-1) := by rw [ex103]; rfl
  rw [tx103] at ex103 ⊢
  clear tx103 ex103
  refine x_S (As := [.int x0, .int 0, .int (-1)]) (rest := []) C (c_X9_within l K G s.heap (x0) (0) ((-1)) hT) yo_X9_within wM_X9_89 ⟨⟨by decide, by decide⟩, by decide, by decide⟩ rfl hl.1 rfl (Nat.le_of_ble_eq_true rfl) dX9_barAt_11 hS (AE_sub (fun _ _ => rfl) (by decide) hS.1) (fun vH104 H104 locsH104 pH104 zH104 kH104 hSH104 => ?_)
  have hqH104 := pH104.1.symm
  subst hqH104
  rcases pH104.2 with ⟨hvH104, hcH104⟩ | ⟨hvH104, hcH104⟩
  · subst hvH104
    refine W.eq (g2 := F0 m 14 ls [.int 1]) rfl ?_
    exfalso
    omega
  · subst hvH104
    refine W.eq (g2 := F0 m 14 ls [.int 0]) rfl ?_
    refine lv_if_eq (tgt := 29) hx hb dX9_barAt_14 (by decide) (fun c105 => ?_) (fun c105 => ?_)
    · have k106 := i_eq c105
      refine lv_null hx hb dX9_barAt_29 ?_
      exact x_aret C hQ (Or.inl rfl) dX9_barAt_30 hSH104 (by decide) (by decide) (⟨rfl, rfl⟩)
    · have k106 := i_ne c105
      exfalso
      omega

set_option maxHeartbeats 4000000 in
set_option maxRecDepth 100000 in
theorem f_X9_slice (l : Launch) (K : KE) (G : Nat → Option Nat) (H : Heap) {a w : Nat} (x0 : Int32) (x1 : Int32) (x2 : Int32) (x3 : Int32) (x4 : Int32) (hT : TY K G H) (ga : G a = some 68) (gw : G w = some 0) (fx : FX K H a w) : MX l K yX9_slice cX9_slice 7 (some .boolean) 2 43 0 0 [.ref a, .int x0, .int x1, .int x2, .int x3, .int x4] H (AE G [] H.size) (fun v H1 => (∃ r : Int32, v = some (.int r) ∧ (r.toInt = 0)) ∧ ∃ G1 : Nat → Option Nat, (∀ q, q < H.size → G1 q = G q) ∧ TY K G1 H1) := by
  refine MX.of (by decide +kernel) (Nat.le_of_ble_eq_true rfl) ?_
  intro p e s m below meth c ls Q C hH hl hQ
  subst hH
  have C : CX p K s m _ meth c RX9 cX9_slice 7 (some .boolean) "slice" := C
  obtain ⟨hx, hb, hml, hown, hts, hKT, hr, hlocks, hnm⟩ := id C
  have hl : lv_has ls 7 [(0, .ref a), (1, .int x0), (2, .int x1), (3, .int x2), (4, .int x3), (5, .int x4)] := hl
  have hS : va_S (AE G [] s.heap.size) s.heap s.heap [] := va_S.rf
  have n_0 : (0 : Int32).toInt = 0 := rfl
  obtain ⟨f0, f1, f2, f3, f4, f5, f6, f7, f8, f9, f10⟩ := fx
  refine lv_aload_n hx hb dX9_slice_0 rfl (lv_at hl 0 rfl) ?_
  refine lv_iload_n hx hb dX9_slice_1 rfl (lv_at hl 1 rfl) ?_
  refine x_V (As := [.int x0]) (rest := []) C (f_X9_barAt l K G s.heap (w := w) (x0) hT ga gw ⟨f0, f1, f2, f3, f4, f5, f6, f7, f8, f9, f10⟩) yo_X9_barAt wM_X9_78 ⟨⟨by decide, by decide⟩, by decide, by decide⟩ (x_rv C hT (ci := 9) rfl ga rg_68) rfl hl.1 rfl (Nat.le_of_ble_eq_true rfl) dX9_slice_2 hS (AE_sub (fun _ _ => rfl) (by decide) hS.1) (fun vH101 H101 locsH101 pH101 zH101 kH101 hSH101 => ?_)
  have hqH101 := pH101.1.symm
  subst hqH101
  have hvH101 := pH101.2
  subst hvH101
  refine W.eq (g2 := F0 m 5 ls [.null]) rfl ?_
  refine lv_astoreN (lv' := [(6, .null), (0, .ref a), (1, .int x0), (2, .int x1), (3, .int x2), (4, .int x3), (5, .int x4)]) hx hb dX9_slice_5 hl (by decide) rfl (fun ls102 hl103 => ?_)
  refine lv_aloadN hx hb dX9_slice_7 (lv_at hl103 0 rfl) ?_
  refine lv_ifnullN (tgt := 61) hx hb dX9_slice_9 (by decide) ?_
  refine lv_iconst (v := 0) hx hb dX9_slice_61 (by decide) ?_
  exact x_zret C hQ (Or.inl rfl) dX9_slice_62 hSH101 (by decide) (by decide) (⟨⟨0, rfl, by omega⟩, G, fun _ _ => rfl, hT⟩)

set_option maxHeartbeats 4000000 in
set_option maxRecDepth 100000 in
theorem f_X9_wax (l : Launch) (K : KE) (G : Nat → Option Nat) (H : Heap) {a w : Nat} (x0 : Int32) (x1 : Int32) (x2 : Int32) (hT : TY K G H) (ga : G a = some 68) (gw : G w = some 0) (fx : FX K H a w) : MX l K yX9_wax cX9_wax 5 (some .boolean) 2 43 0 0 [.ref a, .int x0, .int x1, .int x2] H (AE G [] H.size) (fun v H1 => (∃ r : Int32, v = some (.int r) ∧ (r.toInt = 0)) ∧ ∃ G1 : Nat → Option Nat, (∀ q, q < H.size → G1 q = G q) ∧ TY K G1 H1) := by
  refine MX.of (by decide +kernel) (Nat.le_of_ble_eq_true rfl) ?_
  intro p e s m below meth c ls Q C hH hl hQ
  subst hH
  have C : CX p K s m _ meth c RX9 cX9_wax 5 (some .boolean) "wax" := C
  obtain ⟨hx, hb, hml, hown, hts, hKT, hr, hlocks, hnm⟩ := id C
  have hl : lv_has ls 5 [(0, .ref a), (1, .int x0), (2, .int x1), (3, .int x2)] := hl
  have hS : va_S (AE G [] s.heap.size) s.heap s.heap [] := va_S.rf
  have n_0 : (0 : Int32).toInt = 0 := rfl
  obtain ⟨f0, f1, f2, f3, f4, f5, f6, f7, f8, f9, f10⟩ := fx
  refine lv_aload_n hx hb dX9_wax_0 rfl (lv_at hl 0 rfl) ?_
  refine lv_iload_n hx hb dX9_wax_1 rfl (lv_at hl 1 rfl) ?_
  refine x_V (As := [.int x0]) (rest := []) C (f_X9_barAt l K G s.heap (w := w) (x0) hT ga gw ⟨f0, f1, f2, f3, f4, f5, f6, f7, f8, f9, f10⟩) yo_X9_barAt wM_X9_78 ⟨⟨by decide, by decide⟩, by decide, by decide⟩ (x_rv C hT (ci := 9) rfl ga rg_68) rfl hl.1 rfl (Nat.le_of_ble_eq_true rfl) dX9_wax_2 hS (AE_sub (fun _ _ => rfl) (by decide) hS.1) (fun vH101 H101 locsH101 pH101 zH101 kH101 hSH101 => ?_)
  have hqH101 := pH101.1.symm
  subst hqH101
  have hvH101 := pH101.2
  subst hvH101
  refine W.eq (g2 := F0 m 5 ls [.null]) rfl ?_
  refine lv_astoreN (lv' := [(4, .null), (0, .ref a), (1, .int x0), (2, .int x1), (3, .int x2)]) hx hb dX9_wax_5 hl (by decide) rfl (fun ls102 hl103 => ?_)
  refine lv_aloadN hx hb dX9_wax_7 (lv_at hl103 0 rfl) ?_
  refine lv_ifnullN (tgt := 31) hx hb dX9_wax_9 (by decide) ?_
  refine lv_iconst (v := 0) hx hb dX9_wax_31 (by decide) ?_
  exact x_zret C hQ (Or.inl rfl) dX9_wax_32 hSH101 (by decide) (by decide) (⟨⟨0, rfl, by omega⟩, G, fun _ _ => rfl, hT⟩)

set_option maxHeartbeats 4000000 in
set_option maxRecDepth 100000 in
theorem f_X9_of (l : Launch) (K : KE) (G : Nat → Option Nat) (H : Heap) {a w : Nat} (x0 : Int32) (x1 : Int32) (x2 : Int32) (hT : TY K G H) (ga : G a = some 68) (gw : G w = some 0) (fx : FX K H a w) : MX l K yX9_of cX9_of 5 (some .int) 2 43 0 0 [.ref a, .int x0, .int x1, .int x2] H (AE G [] H.size) (fun v H1 => (∃ r : Int32, v = some (.int r) ∧ (r.toInt = -1)) ∧ ∃ G1 : Nat → Option Nat, (∀ q, q < H.size → G1 q = G q) ∧ TY K G1 H1) := by
  refine MX.of (by decide +kernel) (Nat.le_of_ble_eq_true rfl) ?_
  intro p e s m below meth c ls Q C hH hl hQ
  subst hH
  have C : CX p K s m _ meth c RX9 cX9_of 5 (some .int) "of" := C
  obtain ⟨hx, hb, hml, hown, hts, hKT, hr, hlocks, hnm⟩ := id C
  have hl : lv_has ls 5 [(0, .ref a), (1, .int x0), (2, .int x1), (3, .int x2)] := hl
  have hS : va_S (AE G [] s.heap.size) s.heap s.heap [] := va_S.rf
  have n_m1 : ((-1) : Int32).toInt = -1 := rfl
  obtain ⟨f0, f1, f2, f3, f4, f5, f6, f7, f8, f9, f10⟩ := fx
  refine lv_aload_n hx hb dX9_of_0 rfl (lv_at hl 0 rfl) ?_
  refine lv_iload_n hx hb dX9_of_1 rfl (lv_at hl 1 rfl) ?_
  refine x_V (As := [.int x0]) (rest := []) C (f_X9_barAt l K G s.heap (w := w) (x0) hT ga gw ⟨f0, f1, f2, f3, f4, f5, f6, f7, f8, f9, f10⟩) yo_X9_barAt wM_X9_78 ⟨⟨by decide, by decide⟩, by decide, by decide⟩ (x_rv C hT (ci := 9) rfl ga rg_68) rfl hl.1 rfl (Nat.le_of_ble_eq_true rfl) dX9_of_2 hS (AE_sub (fun _ _ => rfl) (by decide) hS.1) (fun vH101 H101 locsH101 pH101 zH101 kH101 hSH101 => ?_)
  have hqH101 := pH101.1.symm
  subst hqH101
  have hvH101 := pH101.2
  subst hvH101
  refine W.eq (g2 := F0 m 5 ls [.null]) rfl ?_
  refine lv_astoreN (lv' := [(4, .null), (0, .ref a), (1, .int x0), (2, .int x1), (3, .int x2)]) hx hb dX9_of_5 hl (by decide) rfl (fun ls102 hl103 => ?_)
  refine lv_aloadN hx hb dX9_of_7 (lv_at hl103 0 rfl) ?_
  refine lv_ifnullN (tgt := 21) hx hb dX9_of_9 (by decide) ?_
  refine lv_iconst (v := (-1)) hx hb dX9_of_21 (by decide) ?_
  exact x_iret C hQ dX9_of_22 hSH101 (by decide) (by decide) (⟨⟨(-1), rfl, by omega⟩, G, fun _ _ => rfl, hT⟩)

set_option maxHeartbeats 4000000 in
set_option maxRecDepth 100000 in
theorem f_X9_tells (l : Launch) (K : KE) (G : Nat → Option Nat) (H : Heap) {a w : Nat} (x0 : Int32) (x1 : Int32) (x2 : Int32) (x3 : Int32) (x4 : Int32) (hT : TY K G H) (ga : G a = some 68) (gw : G w = some 0) (fx : FX K H a w) : MX l K yX9_tells cX9_tells 7 (some .int) 2 43 0 0 [.ref a, .int x0, .int x1, .int x2, .int x3, .int x4] H (AE G [] H.size) (fun v H1 => (∃ r : Int32, v = some (.int r) ∧ (r.toInt = -100000)) ∧ ∃ G1 : Nat → Option Nat, (∀ q, q < H.size → G1 q = G q) ∧ TY K G1 H1) := by
  refine MX.of (by decide +kernel) (Nat.le_of_ble_eq_true rfl) ?_
  intro p e s m below meth c ls Q C hH hl hQ
  subst hH
  have C : CX p K s m _ meth c RX9 cX9_tells 7 (some .int) "tells" := C
  obtain ⟨hx, hb, hml, hown, hts, hKT, hr, hlocks, hnm⟩ := id C
  have hl : lv_has ls 7 [(0, .ref a), (1, .int x0), (2, .int x1), (3, .int x2), (4, .int x3), (5, .int x4)] := hl
  have hS : va_S (AE G [] s.heap.size) s.heap s.heap [] := va_S.rf
  have n_m100000 : ((-100000) : Int32).toInt = -100000 := rfl
  obtain ⟨f0, f1, f2, f3, f4, f5, f6, f7, f8, f9, f10⟩ := fx
  refine lv_aload_n hx hb dX9_tells_0 rfl (lv_at hl 0 rfl) ?_
  refine lv_iload hx hb dX9_tells_1 (lv_at hl 4 rfl) ?_
  refine x_V (As := [.int x3]) (rest := []) C (f_X9_barAt l K G s.heap (w := w) (x3) hT ga gw ⟨f0, f1, f2, f3, f4, f5, f6, f7, f8, f9, f10⟩) yo_X9_barAt wM_X9_78 ⟨⟨by decide, by decide⟩, by decide, by decide⟩ (x_rv C hT (ci := 9) rfl ga rg_68) rfl hl.1 rfl (Nat.le_of_ble_eq_true rfl) dX9_tells_3 hS (AE_sub (fun _ _ => rfl) (by decide) hS.1) (fun vH101 H101 locsH101 pH101 zH101 kH101 hSH101 => ?_)
  have hqH101 := pH101.1.symm
  subst hqH101
  have hvH101 := pH101.2
  subst hvH101
  refine W.eq (g2 := F0 m 6 ls [.null]) rfl ?_
  refine lv_astoreN (lv' := [(6, .null), (0, .ref a), (1, .int x0), (2, .int x1), (3, .int x2), (4, .int x3), (5, .int x4)]) hx hb dX9_tells_6 hl (by decide) rfl (fun ls102 hl103 => ?_)
  refine lv_aloadN hx hb dX9_tells_8 (lv_at hl103 0 rfl) ?_
  refine lv_ifnullN (tgt := 48) hx hb dX9_tells_10 (by decide) ?_
  refine lv_ldc (v := (-100000)) hx hb hown (hts _ wK_X9_153) dX9_tells_48 ?_
  exact x_iret C hQ dX9_tells_50 hSH101 (by decide) (by decide) (⟨⟨(-100000), rfl, by omega⟩, G, fun _ _ => rfl, hT⟩)

set_option maxHeartbeats 4000000 in
set_option maxRecDepth 100000 in
theorem f_X9_tone (l : Launch) (K : KE) (G : Nat → Option Nat) (H : Heap) {a w : Nat} (x0 : Int32) (x1 : Int32) (hT : TY K G H) (ga : G a = some 68) (gw : G w = some 0) (fx : FX K H a w) : MX l K yX9_tone cX9_tone 4 (some .int) 2 43 0 0 [.ref a, .int x0, .int x1] H (AE G [] H.size) (fun v H1 => (∃ r : Int32, v = some (.int r) ∧ (r.toInt = -1)) ∧ ∃ G1 : Nat → Option Nat, (∀ q, q < H.size → G1 q = G q) ∧ TY K G1 H1) := by
  refine MX.of (by decide +kernel) (Nat.le_of_ble_eq_true rfl) ?_
  intro p e s m below meth c ls Q C hH hl hQ
  subst hH
  have C : CX p K s m _ meth c RX9 cX9_tone 4 (some .int) "tone" := C
  obtain ⟨hx, hb, hml, hown, hts, hKT, hr, hlocks, hnm⟩ := id C
  have hl : lv_has ls 4 [(0, .ref a), (1, .int x0), (2, .int x1)] := hl
  have hS : va_S (AE G [] s.heap.size) s.heap s.heap [] := va_S.rf
  have n_m1 : ((-1) : Int32).toInt = -1 := rfl
  obtain ⟨f0, f1, f2, f3, f4, f5, f6, f7, f8, f9, f10⟩ := fx
  refine lv_aload_n hx hb dX9_tone_0 rfl (lv_at hl 0 rfl) ?_
  refine lv_iload_n hx hb dX9_tone_1 rfl (lv_at hl 1 rfl) ?_
  refine x_V (As := [.int x0]) (rest := []) C (f_X9_barAt l K G s.heap (w := w) (x0) hT ga gw ⟨f0, f1, f2, f3, f4, f5, f6, f7, f8, f9, f10⟩) yo_X9_barAt wM_X9_78 ⟨⟨by decide, by decide⟩, by decide, by decide⟩ (x_rv C hT (ci := 9) rfl ga rg_68) rfl hl.1 rfl (Nat.le_of_ble_eq_true rfl) dX9_tone_2 hS (AE_sub (fun _ _ => rfl) (by decide) hS.1) (fun vH101 H101 locsH101 pH101 zH101 kH101 hSH101 => ?_)
  have hqH101 := pH101.1.symm
  subst hqH101
  have hvH101 := pH101.2
  subst hvH101
  refine W.eq (g2 := F0 m 5 ls [.null]) rfl ?_
  refine lv_astore_nN (lv' := [(3, .null), (0, .ref a), (1, .int x0), (2, .int x1)]) hx hb dX9_tone_5 rfl hl (by decide) rfl (fun ls102 hl103 => ?_)
  refine lv_aload_nN hx hb dX9_tone_6 rfl (lv_at hl103 0 rfl) ?_
  refine lv_ifnullN (tgt := 17) hx hb dX9_tone_7 (by decide) ?_
  refine lv_iconst (v := (-1)) hx hb dX9_tone_17 (by decide) ?_
  exact x_iret C hQ dX9_tone_18 hSH101 (by decide) (by decide) (⟨⟨(-1), rfl, by omega⟩, G, fun _ _ => rfl, hT⟩)

set_option maxHeartbeats 4000000 in
set_option maxRecDepth 100000 in
theorem f_X9_shave (l : Launch) (K : KE) (G : Nat → Option Nat) (H : Heap) {a w : Nat} (x0 : Int32) (x1 : Int32) (x2 : Int32) (hT : TY K G H) (ga : G a = some 68) (gw : G w = some 0) (fx : FX K H a w) : MX l K yX9_shave cX9_shave 5 (some .int) 2 43 0 0 [.ref a, .int x0, .int x1, .int x2] H (AE G [] H.size) (fun v H1 => (∃ r : Int32, v = some (.int r) ∧ (r.toInt = -1)) ∧ ∃ G1 : Nat → Option Nat, (∀ q, q < H.size → G1 q = G q) ∧ TY K G1 H1) := by
  refine MX.of (by decide +kernel) (Nat.le_of_ble_eq_true rfl) ?_
  intro p e s m below meth c ls Q C hH hl hQ
  subst hH
  have C : CX p K s m _ meth c RX9 cX9_shave 5 (some .int) "shave" := C
  obtain ⟨hx, hb, hml, hown, hts, hKT, hr, hlocks, hnm⟩ := id C
  have hl : lv_has ls 5 [(0, .ref a), (1, .int x0), (2, .int x1), (3, .int x2)] := hl
  have hS : va_S (AE G [] s.heap.size) s.heap s.heap [] := va_S.rf
  have n_m1 : ((-1) : Int32).toInt = -1 := rfl
  obtain ⟨f0, f1, f2, f3, f4, f5, f6, f7, f8, f9, f10⟩ := fx
  refine lv_aload_n hx hb dX9_shave_0 rfl (lv_at hl 0 rfl) ?_
  refine lv_iload_n hx hb dX9_shave_1 rfl (lv_at hl 1 rfl) ?_
  refine x_V (As := [.int x0]) (rest := []) C (f_X9_barAt l K G s.heap (w := w) (x0) hT ga gw ⟨f0, f1, f2, f3, f4, f5, f6, f7, f8, f9, f10⟩) yo_X9_barAt wM_X9_78 ⟨⟨by decide, by decide⟩, by decide, by decide⟩ (x_rv C hT (ci := 9) rfl ga rg_68) rfl hl.1 rfl (Nat.le_of_ble_eq_true rfl) dX9_shave_2 hS (AE_sub (fun _ _ => rfl) (by decide) hS.1) (fun vH101 H101 locsH101 pH101 zH101 kH101 hSH101 => ?_)
  have hqH101 := pH101.1.symm
  subst hqH101
  have hvH101 := pH101.2
  subst hvH101
  refine W.eq (g2 := F0 m 5 ls [.null]) rfl ?_
  refine lv_astoreN (lv' := [(4, .null), (0, .ref a), (1, .int x0), (2, .int x1), (3, .int x2)]) hx hb dX9_shave_5 hl (by decide) rfl (fun ls102 hl103 => ?_)
  refine lv_aloadN hx hb dX9_shave_7 (lv_at hl103 0 rfl) ?_
  refine lv_ifnonnullN hx hb dX9_shave_9 ?_
  refine lv_iconst (v := (-1)) hx hb dX9_shave_12 (by decide) ?_
  exact x_iret C hQ dX9_shave_13 hSH101 (by decide) (by decide) (⟨⟨(-1), rfl, by omega⟩, G, fun _ _ => rfl, hT⟩)

set_option maxHeartbeats 4000000 in
set_option maxRecDepth 100000 in
theorem f_X9_pass (l : Launch) (K : KE) (G : Nat → Option Nat) (H : Heap) {a w : Nat} (x0 : Int32) (x1 : Int32) (x2 : Int32) (hT : TY K G H) (ga : G a = some 68) (gw : G w = some 0) (fx : FX K H a w) : MX l K yX9_pass cX9_pass 5 (some .int) 2 43 0 0 [.ref a, .int x0, .int x1, .int x2] H (AE G [] H.size) (fun v H1 => (∃ r : Int32, v = some (.int r) ∧ (r.toInt = -1)) ∧ ∃ G1 : Nat → Option Nat, (∀ q, q < H.size → G1 q = G q) ∧ TY K G1 H1) := by
  refine MX.of (by decide +kernel) (Nat.le_of_ble_eq_true rfl) ?_
  intro p e s m below meth c ls Q C hH hl hQ
  subst hH
  have C : CX p K s m _ meth c RX9 cX9_pass 5 (some .int) "pass" := C
  obtain ⟨hx, hb, hml, hown, hts, hKT, hr, hlocks, hnm⟩ := id C
  have hl : lv_has ls 5 [(0, .ref a), (1, .int x0), (2, .int x1), (3, .int x2)] := hl
  have hS : va_S (AE G [] s.heap.size) s.heap s.heap [] := va_S.rf
  have n_m1 : ((-1) : Int32).toInt = -1 := rfl
  obtain ⟨f0, f1, f2, f3, f4, f5, f6, f7, f8, f9, f10⟩ := fx
  refine lv_aload_n hx hb dX9_pass_0 rfl (lv_at hl 0 rfl) ?_
  refine lv_iload_n hx hb dX9_pass_1 rfl (lv_at hl 1 rfl) ?_
  refine x_V (As := [.int x0]) (rest := []) C (f_X9_barAt l K G s.heap (w := w) (x0) hT ga gw ⟨f0, f1, f2, f3, f4, f5, f6, f7, f8, f9, f10⟩) yo_X9_barAt wM_X9_78 ⟨⟨by decide, by decide⟩, by decide, by decide⟩ (x_rv C hT (ci := 9) rfl ga rg_68) rfl hl.1 rfl (Nat.le_of_ble_eq_true rfl) dX9_pass_2 hS (AE_sub (fun _ _ => rfl) (by decide) hS.1) (fun vH101 H101 locsH101 pH101 zH101 kH101 hSH101 => ?_)
  have hqH101 := pH101.1.symm
  subst hqH101
  have hvH101 := pH101.2
  subst hvH101
  refine W.eq (g2 := F0 m 5 ls [.null]) rfl ?_
  refine lv_astoreN (lv' := [(4, .null), (0, .ref a), (1, .int x0), (2, .int x1), (3, .int x2)]) hx hb dX9_pass_5 hl (by decide) rfl (fun ls102 hl103 => ?_)
  refine lv_aloadN hx hb dX9_pass_7 (lv_at hl103 0 rfl) ?_
  refine lv_ifnullN (tgt := 25) hx hb dX9_pass_9 (by decide) ?_
  refine lv_iconst (v := (-1)) hx hb dX9_pass_25 (by decide) ?_
  exact x_iret C hQ dX9_pass_26 hSH101 (by decide) (by decide) (⟨⟨(-1), rfl, by omega⟩, G, fun _ _ => rfl, hT⟩)

set_option maxHeartbeats 4000000 in
set_option maxRecDepth 100000 in
theorem f_X9_goal (l : Launch) (K : KE) (G : Nat → Option Nat) (H : Heap) {a w : Nat} (x0 : Int32) (x1 : Int32) (x2 : Int32) (hT : TY K G H) (ga : G a = some 68) (gw : G w = some 0) (fx : FX K H a w) : MX l K yX9_goal cX9_goal 5 (some .boolean) 2 43 0 0 [.ref a, .int x0, .int x1, .int x2] H (AE G [] H.size) (fun v H1 => (∃ r : Int32, v = some (.int r) ∧ (r.toInt = 0)) ∧ ∃ G1 : Nat → Option Nat, (∀ q, q < H.size → G1 q = G q) ∧ TY K G1 H1) := by
  refine MX.of (by decide +kernel) (Nat.le_of_ble_eq_true rfl) ?_
  intro p e s m below meth c ls Q C hH hl hQ
  subst hH
  have C : CX p K s m _ meth c RX9 cX9_goal 5 (some .boolean) "goal" := C
  obtain ⟨hx, hb, hml, hown, hts, hKT, hr, hlocks, hnm⟩ := id C
  have hl : lv_has ls 5 [(0, .ref a), (1, .int x0), (2, .int x1), (3, .int x2)] := hl
  have hS : va_S (AE G [] s.heap.size) s.heap s.heap [] := va_S.rf
  have n_0 : (0 : Int32).toInt = 0 := rfl
  obtain ⟨f0, f1, f2, f3, f4, f5, f6, f7, f8, f9, f10⟩ := fx
  refine lv_aload_n hx hb dX9_goal_0 rfl (lv_at hl 0 rfl) ?_
  refine lv_iload_n hx hb dX9_goal_1 rfl (lv_at hl 1 rfl) ?_
  refine x_V (As := [.int x0]) (rest := []) C (f_X9_barAt l K G s.heap (w := w) (x0) hT ga gw ⟨f0, f1, f2, f3, f4, f5, f6, f7, f8, f9, f10⟩) yo_X9_barAt wM_X9_78 ⟨⟨by decide, by decide⟩, by decide, by decide⟩ (x_rv C hT (ci := 9) rfl ga rg_68) rfl hl.1 rfl (Nat.le_of_ble_eq_true rfl) dX9_goal_2 hS (AE_sub (fun _ _ => rfl) (by decide) hS.1) (fun vH101 H101 locsH101 pH101 zH101 kH101 hSH101 => ?_)
  have hqH101 := pH101.1.symm
  subst hqH101
  have hvH101 := pH101.2
  subst hvH101
  refine W.eq (g2 := F0 m 5 ls [.null]) rfl ?_
  refine lv_astoreN (lv' := [(4, .null), (0, .ref a), (1, .int x0), (2, .int x1), (3, .int x2)]) hx hb dX9_goal_5 hl (by decide) rfl (fun ls102 hl103 => ?_)
  refine lv_aloadN hx hb dX9_goal_7 (lv_at hl103 0 rfl) ?_
  refine lv_ifnullN (tgt := 29) hx hb dX9_goal_9 (by decide) ?_
  refine lv_iconst (v := 0) hx hb dX9_goal_29 (by decide) ?_
  exact x_zret C hQ (Or.inl rfl) dX9_goal_30 hSH101 (by decide) (by decide) (⟨⟨0, rfl, by omega⟩, G, fun _ _ => rfl, hT⟩)

set_option maxHeartbeats 4000000 in
set_option maxRecDepth 100000 in
theorem f_X9_state (l : Launch) (K : KE) (G : Nat → Option Nat) (H : Heap) {a w : Nat} (x0 : Int32) (x1 : Int32) (hT : TY K G H) (ga : G a = some 68) (gw : G w = some 0) (fx : FX K H a w) : MX l K yX9_state cX9_state 4 (some .int) 2 43 0 0 [.ref a, .int x0, .int x1] H (AE G [] H.size) (fun v H1 => (∃ r : Int32, v = some (.int r) ∧ (r.toInt = -2)) ∧ ∃ G1 : Nat → Option Nat, (∀ q, q < H.size → G1 q = G q) ∧ TY K G1 H1) := by
  refine MX.of (by decide +kernel) (Nat.le_of_ble_eq_true rfl) ?_
  intro p e s m below meth c ls Q C hH hl hQ
  subst hH
  have C : CX p K s m _ meth c RX9 cX9_state 4 (some .int) "state" := C
  obtain ⟨hx, hb, hml, hown, hts, hKT, hr, hlocks, hnm⟩ := id C
  have hl : lv_has ls 4 [(0, .ref a), (1, .int x0), (2, .int x1)] := hl
  have hS : va_S (AE G [] s.heap.size) s.heap s.heap [] := va_S.rf
  have n_m2 : ((-2) : Int32).toInt = -2 := rfl
  obtain ⟨f0, f1, f2, f3, f4, f5, f6, f7, f8, f9, f10⟩ := fx
  refine lv_aload_n hx hb dX9_state_0 rfl (lv_at hl 0 rfl) ?_
  refine lv_iload_n hx hb dX9_state_1 rfl (lv_at hl 1 rfl) ?_
  refine x_V (As := [.int x0]) (rest := []) C (f_X9_barAt l K G s.heap (w := w) (x0) hT ga gw ⟨f0, f1, f2, f3, f4, f5, f6, f7, f8, f9, f10⟩) yo_X9_barAt wM_X9_78 ⟨⟨by decide, by decide⟩, by decide, by decide⟩ (x_rv C hT (ci := 9) rfl ga rg_68) rfl hl.1 rfl (Nat.le_of_ble_eq_true rfl) dX9_state_2 hS (AE_sub (fun _ _ => rfl) (by decide) hS.1) (fun vH101 H101 locsH101 pH101 zH101 kH101 hSH101 => ?_)
  have hqH101 := pH101.1.symm
  subst hqH101
  have hvH101 := pH101.2
  subst hvH101
  refine W.eq (g2 := F0 m 5 ls [.null]) rfl ?_
  refine lv_astore_nN (lv' := [(3, .null), (0, .ref a), (1, .int x0), (2, .int x1)]) hx hb dX9_state_5 rfl hl (by decide) rfl (fun ls102 hl103 => ?_)
  refine lv_aload_nN hx hb dX9_state_6 rfl (lv_at hl103 0 rfl) ?_
  refine lv_ifnonnullN hx hb dX9_state_7 ?_
  refine lv_bipush (v := (-2)) hx hb dX9_state_10 (by decide) ?_
  exact x_iret C hQ dX9_state_12 hSH101 (by decide) (by decide) (⟨⟨(-2), rfl, by omega⟩, G, fun _ _ => rfl, hT⟩)

set_option maxHeartbeats 4000000 in
set_option maxRecDepth 100000 in
theorem f_X9_takes (l : Launch) (K : KE) (G : Nat → Option Nat) (H : Heap) {a w : Nat} (x0 : Int32) (x1 : Int32) (x2 : Int32) (hT : TY K G H) (ga : G a = some 68) (gw : G w = some 0) (fx : FX K H a w) : MX l K yX9_takes cX9_takes 5 (some .int) 2 43 0 0 [.ref a, .int x0, .int x1, .int x2] H (AE G [] H.size) (fun v H1 => (∃ r : Int32, v = some (.int r) ∧ (r.toInt = -10000000)) ∧ ∃ G1 : Nat → Option Nat, (∀ q, q < H.size → G1 q = G q) ∧ TY K G1 H1) := by
  refine MX.of (by decide +kernel) (Nat.le_of_ble_eq_true rfl) ?_
  intro p e s m below meth c ls Q C hH hl hQ
  subst hH
  have C : CX p K s m _ meth c RX9 cX9_takes 5 (some .int) "takes" := C
  obtain ⟨hx, hb, hml, hown, hts, hKT, hr, hlocks, hnm⟩ := id C
  have hl : lv_has ls 5 [(0, .ref a), (1, .int x0), (2, .int x1), (3, .int x2)] := hl
  have hS : va_S (AE G [] s.heap.size) s.heap s.heap [] := va_S.rf
  have n_m10000000 : ((-10000000) : Int32).toInt = -10000000 := rfl
  obtain ⟨f0, f1, f2, f3, f4, f5, f6, f7, f8, f9, f10⟩ := fx
  refine lv_aload_n hx hb dX9_takes_0 rfl (lv_at hl 0 rfl) ?_
  refine lv_iload_n hx hb dX9_takes_1 rfl (lv_at hl 1 rfl) ?_
  refine x_V (As := [.int x0]) (rest := []) C (f_X9_barAt l K G s.heap (w := w) (x0) hT ga gw ⟨f0, f1, f2, f3, f4, f5, f6, f7, f8, f9, f10⟩) yo_X9_barAt wM_X9_78 ⟨⟨by decide, by decide⟩, by decide, by decide⟩ (x_rv C hT (ci := 9) rfl ga rg_68) rfl hl.1 rfl (Nat.le_of_ble_eq_true rfl) dX9_takes_2 hS (AE_sub (fun _ _ => rfl) (by decide) hS.1) (fun vH101 H101 locsH101 pH101 zH101 kH101 hSH101 => ?_)
  have hqH101 := pH101.1.symm
  subst hqH101
  have hvH101 := pH101.2
  subst hvH101
  refine W.eq (g2 := F0 m 5 ls [.null]) rfl ?_
  refine lv_astoreN (lv' := [(4, .null), (0, .ref a), (1, .int x0), (2, .int x1), (3, .int x2)]) hx hb dX9_takes_5 hl (by decide) rfl (fun ls102 hl103 => ?_)
  refine lv_aloadN hx hb dX9_takes_7 (lv_at hl103 0 rfl) ?_
  refine lv_ifnullN (tgt := 39) hx hb dX9_takes_9 (by decide) ?_
  refine lv_ldc (v := (-10000000)) hx hb hown (hts _ wK_X9_207) dX9_takes_39 ?_
  exact x_iret C hQ dX9_takes_41 hSH101 (by decide) (by decide) (⟨⟨(-10000000), rfl, by omega⟩, G, fun _ _ => rfl, hT⟩)

set_option maxHeartbeats 4000000 in
set_option maxRecDepth 100000 in
theorem f_X9_job (l : Launch) (K : KE) (G : Nat → Option Nat) (H : Heap) {a w : Nat} (x0 : Int32) (x1 : Int32) (hT : TY K G H) (ga : G a = some 68) (gw : G w = some 0) (fx : FX K H a w) : MX l K yX9_job cX9_job 7 (some .int) 2 43 0 0 [.ref a, .int x0, .int x1] H (AE G [] H.size) (fun v H1 => (∃ r : Int32, v = some (.int r) ∧ (r.toInt = -1)) ∧ ∃ G1 : Nat → Option Nat, (∀ q, q < H.size → G1 q = G q) ∧ TY K G1 H1) := by
  refine MX.of (by decide +kernel) (Nat.le_of_ble_eq_true rfl) ?_
  intro p e s m below meth c ls Q C hH hl hQ
  subst hH
  have C : CX p K s m _ meth c RX9 cX9_job 7 (some .int) "job" := C
  obtain ⟨hx, hb, hml, hown, hts, hKT, hr, hlocks, hnm⟩ := id C
  have hl : lv_has ls 7 [(0, .ref a), (1, .int x0), (2, .int x1)] := hl
  have hS : va_S (AE G [] s.heap.size) s.heap s.heap [] := va_S.rf
  have n_m1 : ((-1) : Int32).toInt = -1 := rfl
  obtain ⟨f0, f1, f2, f3, f4, f5, f6, f7, f8, f9, f10⟩ := fx
  refine lv_aload_n hx hb dX9_job_0 rfl (lv_at hl 0 rfl) ?_
  refine lv_iload_n hx hb dX9_job_1 rfl (lv_at hl 2 rfl) ?_
  refine x_V (As := [.int x1]) (rest := []) C (f_X9_barAt l K G s.heap (w := w) (x1) hT ga gw ⟨f0, f1, f2, f3, f4, f5, f6, f7, f8, f9, f10⟩) yo_X9_barAt wM_X9_78 ⟨⟨by decide, by decide⟩, by decide, by decide⟩ (x_rv C hT (ci := 9) rfl ga rg_68) rfl hl.1 rfl (Nat.le_of_ble_eq_true rfl) dX9_job_2 hS (AE_sub (fun _ _ => rfl) (by decide) hS.1) (fun vH101 H101 locsH101 pH101 zH101 kH101 hSH101 => ?_)
  have hqH101 := pH101.1.symm
  subst hqH101
  have hvH101 := pH101.2
  subst hvH101
  refine W.eq (g2 := F0 m 5 ls [.null]) rfl ?_
  refine lv_astore_nN (lv' := [(3, .null), (0, .ref a), (1, .int x0), (2, .int x1)]) hx hb dX9_job_5 rfl hl (by decide) rfl (fun ls102 hl103 => ?_)
  refine lv_aload_nN hx hb dX9_job_6 rfl (lv_at hl103 0 rfl) ?_
  refine lv_ifnullN (tgt := 19) hx hb dX9_job_7 (by decide) ?_
  refine lv_iconst (v := (-1)) hx hb dX9_job_19 (by decide) ?_
  exact x_iret C hQ dX9_job_20 hSH101 (by decide) (by decide) (⟨⟨(-1), rfl, by omega⟩, G, fun _ _ => rfl, hT⟩)

set_option maxHeartbeats 4000000 in
set_option maxRecDepth 100000 in
theorem f_X9_fewest (l : Launch) (K : KE) (G : Nat → Option Nat) (H : Heap) {a w : Nat} (x0 : Int32) (x1 : Int32) (hT : TY K G H) (ga : G a = some 68) (gw : G w = some 0) (fx : FX K H a w) : MX l K yX9_fewest cX9_fewest 5 (some .int) 2 43 0 0 [.ref a, .int x0, .int x1] H (AE G [] H.size) (fun v H1 => (∃ r : Int32, v = some (.int r) ∧ (r.toInt = -1)) ∧ ∃ G1 : Nat → Option Nat, (∀ q, q < H.size → G1 q = G q) ∧ TY K G1 H1) := by
  refine MX.of (by decide +kernel) (Nat.le_of_ble_eq_true rfl) ?_
  intro p e s m below meth c ls Q C hH hl hQ
  subst hH
  have C : CX p K s m _ meth c RX9 cX9_fewest 5 (some .int) "fewest" := C
  obtain ⟨hx, hb, hml, hown, hts, hKT, hr, hlocks, hnm⟩ := id C
  have hl : lv_has ls 5 [(0, .ref a), (1, .int x0), (2, .int x1)] := hl
  have hS : va_S (AE G [] s.heap.size) s.heap s.heap [] := va_S.rf
  have n_m1 : ((-1) : Int32).toInt = -1 := rfl
  obtain ⟨f0, f1, f2, f3, f4, f5, f6, f7, f8, f9, f10⟩ := fx
  refine lv_aload_n hx hb dX9_fewest_0 rfl (lv_at hl 0 rfl) ?_
  refine lv_iload_n hx hb dX9_fewest_1 rfl (lv_at hl 1 rfl) ?_
  refine x_V (As := [.int x0]) (rest := []) C (f_X9_barAt l K G s.heap (w := w) (x0) hT ga gw ⟨f0, f1, f2, f3, f4, f5, f6, f7, f8, f9, f10⟩) yo_X9_barAt wM_X9_78 ⟨⟨by decide, by decide⟩, by decide, by decide⟩ (x_rv C hT (ci := 9) rfl ga rg_68) rfl hl.1 rfl (Nat.le_of_ble_eq_true rfl) dX9_fewest_2 hS (AE_sub (fun _ _ => rfl) (by decide) hS.1) (fun vH101 H101 locsH101 pH101 zH101 kH101 hSH101 => ?_)
  have hqH101 := pH101.1.symm
  subst hqH101
  have hvH101 := pH101.2
  subst hvH101
  refine W.eq (g2 := F0 m 5 ls [.null]) rfl ?_
  refine lv_astore_nN (lv' := [(3, .null), (0, .ref a), (1, .int x0), (2, .int x1)]) hx hb dX9_fewest_5 rfl hl (by decide) rfl (fun ls102 hl103 => ?_)
  refine lv_aload_nN hx hb dX9_fewest_6 rfl (lv_at hl103 0 rfl) ?_
  refine lv_ifnullN (tgt := 28) hx hb dX9_fewest_7 (by decide) ?_
  refine lv_iconst (v := (-1)) hx hb dX9_fewest_28 (by decide) ?_
  exact x_iret C hQ dX9_fewest_29 hSH101 (by decide) (by decide) (⟨⟨(-1), rfl, by omega⟩, G, fun _ _ => rfl, hT⟩)

set_option maxHeartbeats 4000000 in
set_option maxRecDepth 100000 in
theorem f_X9_tap (l : Launch) (K : KE) (G : Nat → Option Nat) (H : Heap) {a w : Nat} (x0 : Int32) (x1 : Int32) (x2 : Int32) (hT : TY K G H) (ga : G a = some 68) (gw : G w = some 0) (fx : FX K H a w) : MX l K yX9_tap cX9_tap 5 (some .int) 2 43 0 0 [.ref a, .int x0, .int x1, .int x2] H (AE G [] H.size) (fun v H1 => (∃ r : Int32, v = some (.int r) ∧ (r.toInt = -1)) ∧ ∃ G1 : Nat → Option Nat, (∀ q, q < H.size → G1 q = G q) ∧ TY K G1 H1) := by
  refine MX.of (by decide +kernel) (Nat.le_of_ble_eq_true rfl) ?_
  intro p e s m below meth c ls Q C hH hl hQ
  subst hH
  have C : CX p K s m _ meth c RX9 cX9_tap 5 (some .int) "tap" := C
  obtain ⟨hx, hb, hml, hown, hts, hKT, hr, hlocks, hnm⟩ := id C
  have hl : lv_has ls 5 [(0, .ref a), (1, .int x0), (2, .int x1), (3, .int x2)] := hl
  have hS : va_S (AE G [] s.heap.size) s.heap s.heap [] := va_S.rf
  have n_m1 : ((-1) : Int32).toInt = -1 := rfl
  obtain ⟨f0, f1, f2, f3, f4, f5, f6, f7, f8, f9, f10⟩ := fx
  refine lv_aload_n hx hb dX9_tap_0 rfl (lv_at hl 0 rfl) ?_
  refine lv_iload_n hx hb dX9_tap_1 rfl (lv_at hl 1 rfl) ?_
  refine x_V (As := [.int x0]) (rest := []) C (f_X9_barAt l K G s.heap (w := w) (x0) hT ga gw ⟨f0, f1, f2, f3, f4, f5, f6, f7, f8, f9, f10⟩) yo_X9_barAt wM_X9_78 ⟨⟨by decide, by decide⟩, by decide, by decide⟩ (x_rv C hT (ci := 9) rfl ga rg_68) rfl hl.1 rfl (Nat.le_of_ble_eq_true rfl) dX9_tap_2 hS (AE_sub (fun _ _ => rfl) (by decide) hS.1) (fun vH101 H101 locsH101 pH101 zH101 kH101 hSH101 => ?_)
  have hqH101 := pH101.1.symm
  subst hqH101
  have hvH101 := pH101.2
  subst hvH101
  refine W.eq (g2 := F0 m 5 ls [.null]) rfl ?_
  refine lv_astoreN (lv' := [(4, .null), (0, .ref a), (1, .int x0), (2, .int x1), (3, .int x2)]) hx hb dX9_tap_5 hl (by decide) rfl (fun ls102 hl103 => ?_)
  refine lv_aloadN hx hb dX9_tap_7 (lv_at hl103 0 rfl) ?_
  refine lv_ifnullN (tgt := 39) hx hb dX9_tap_9 (by decide) ?_
  refine lv_iconst (v := (-1)) hx hb dX9_tap_39 (by decide) ?_
  exact x_iret C hQ dX9_tap_40 hSH101 (by decide) (by decide) (⟨⟨(-1), rfl, by omega⟩, G, fun _ _ => rfl, hT⟩)

set_option maxHeartbeats 4000000 in
set_option maxRecDepth 100000 in
theorem f_X9_fits (l : Launch) (K : KE) (G : Nat → Option Nat) (H : Heap) {a w : Nat} (x0 : Int32) (x1 : Int32) (x2 : Int32) (x3 : Int32) (hT : TY K G H) (ga : G a = some 68) (gw : G w = some 0) (fx : FX K H a w) : MX l K yX9_fits cX9_fits 8 (some .int) 2 43 0 0 [.ref a, .int x0, .int x1, .int x2, .int x3] H (AE G [] H.size) (fun v H1 => (∃ r : Int32, v = some (.int r) ∧ (r.toInt = -1)) ∧ ∃ G1 : Nat → Option Nat, (∀ q, q < H.size → G1 q = G q) ∧ TY K G1 H1) := by
  refine MX.of (by decide +kernel) (Nat.le_of_ble_eq_true rfl) ?_
  intro p e s m below meth c ls Q C hH hl hQ
  subst hH
  have C : CX p K s m _ meth c RX9 cX9_fits 8 (some .int) "fits" := C
  obtain ⟨hx, hb, hml, hown, hts, hKT, hr, hlocks, hnm⟩ := id C
  have hl : lv_has ls 8 [(0, .ref a), (1, .int x0), (2, .int x1), (3, .int x2), (4, .int x3)] := hl
  have hS : va_S (AE G [] s.heap.size) s.heap s.heap [] := va_S.rf
  have n_m1 : ((-1) : Int32).toInt = -1 := rfl
  obtain ⟨f0, f1, f2, f3, f4, f5, f6, f7, f8, f9, f10⟩ := fx
  refine lv_aload_n hx hb dX9_fits_0 rfl (lv_at hl 0 rfl) ?_
  refine lv_iload_n hx hb dX9_fits_1 rfl (lv_at hl 1 rfl) ?_
  refine x_V (As := [.int x0]) (rest := []) C (f_X9_barAt l K G s.heap (w := w) (x0) hT ga gw ⟨f0, f1, f2, f3, f4, f5, f6, f7, f8, f9, f10⟩) yo_X9_barAt wM_X9_78 ⟨⟨by decide, by decide⟩, by decide, by decide⟩ (x_rv C hT (ci := 9) rfl ga rg_68) rfl hl.1 rfl (Nat.le_of_ble_eq_true rfl) dX9_fits_2 hS (AE_sub (fun _ _ => rfl) (by decide) hS.1) (fun vH101 H101 locsH101 pH101 zH101 kH101 hSH101 => ?_)
  have hqH101 := pH101.1.symm
  subst hqH101
  have hvH101 := pH101.2
  subst hvH101
  refine W.eq (g2 := F0 m 5 ls [.null]) rfl ?_
  refine lv_astoreN (lv' := [(5, .null), (0, .ref a), (1, .int x0), (2, .int x1), (3, .int x2), (4, .int x3)]) hx hb dX9_fits_5 hl (by decide) rfl (fun ls102 hl103 => ?_)
  refine lv_aloadN hx hb dX9_fits_7 (lv_at hl103 0 rfl) ?_
  refine lv_ifnullN (tgt := 40) hx hb dX9_fits_9 (by decide) ?_
  refine lv_iconst (v := (-1)) hx hb dX9_fits_40 (by decide) ?_
  exact x_iret C hQ dX9_fits_41 hSH101 (by decide) (by decide) (⟨⟨(-1), rfl, by omega⟩, G, fun _ _ => rfl, hT⟩)

set_option maxHeartbeats 4000000 in
set_option maxRecDepth 100000 in
theorem f_X9_still (l : Launch) (K : KE) (G : Nat → Option Nat) (H : Heap) {a w : Nat} (x0 : Int32) (x1 : Int32) (x2 : Int32) (hT : TY K G H) (ga : G a = some 68) (gw : G w = some 0) (fx : FX K H a w) : MX l K yX9_still cX9_still 6 (some .int) 2 43 0 0 [.ref a, .int x0, .int x1, .int x2] H (AE G [] H.size) (fun v H1 => (∃ r : Int32, v = some (.int r) ∧ (r.toInt = -1)) ∧ ∃ G1 : Nat → Option Nat, (∀ q, q < H.size → G1 q = G q) ∧ TY K G1 H1) := by
  refine MX.of (by decide +kernel) (Nat.le_of_ble_eq_true rfl) ?_
  intro p e s m below meth c ls Q C hH hl hQ
  subst hH
  have C : CX p K s m _ meth c RX9 cX9_still 6 (some .int) "still" := C
  obtain ⟨hx, hb, hml, hown, hts, hKT, hr, hlocks, hnm⟩ := id C
  have hl : lv_has ls 6 [(0, .ref a), (1, .int x0), (2, .int x1), (3, .int x2)] := hl
  have hS : va_S (AE G [] s.heap.size) s.heap s.heap [] := va_S.rf
  have n_m1 : ((-1) : Int32).toInt = -1 := rfl
  obtain ⟨f0, f1, f2, f3, f4, f5, f6, f7, f8, f9, f10⟩ := fx
  refine lv_aload_n hx hb dX9_still_0 rfl (lv_at hl 0 rfl) ?_
  refine lv_iload_n hx hb dX9_still_1 rfl (lv_at hl 1 rfl) ?_
  refine x_V (As := [.int x0]) (rest := []) C (f_X9_barAt l K G s.heap (w := w) (x0) hT ga gw ⟨f0, f1, f2, f3, f4, f5, f6, f7, f8, f9, f10⟩) yo_X9_barAt wM_X9_78 ⟨⟨by decide, by decide⟩, by decide, by decide⟩ (x_rv C hT (ci := 9) rfl ga rg_68) rfl hl.1 rfl (Nat.le_of_ble_eq_true rfl) dX9_still_2 hS (AE_sub (fun _ _ => rfl) (by decide) hS.1) (fun vH101 H101 locsH101 pH101 zH101 kH101 hSH101 => ?_)
  have hqH101 := pH101.1.symm
  subst hqH101
  have hvH101 := pH101.2
  subst hvH101
  refine W.eq (g2 := F0 m 5 ls [.null]) rfl ?_
  refine lv_astoreN (lv' := [(4, .null), (0, .ref a), (1, .int x0), (2, .int x1), (3, .int x2)]) hx hb dX9_still_5 hl (by decide) rfl (fun ls102 hl103 => ?_)
  refine lv_aloadN hx hb dX9_still_7 (lv_at hl103 0 rfl) ?_
  refine lv_ifnullN (tgt := 23) hx hb dX9_still_9 (by decide) ?_
  refine lv_iconst (v := (-1)) hx hb dX9_still_23 (by decide) ?_
  exact x_iret C hQ dX9_still_24 hSH101 (by decide) (by decide) (⟨⟨(-1), rfl, by omega⟩, G, fun _ _ => rfl, hT⟩)

set_option maxHeartbeats 4000000 in
set_option maxRecDepth 100000 in
theorem f_X9_holes (l : Launch) (K : KE) (G : Nat → Option Nat) (H : Heap) {a w : Nat} (x0 : Int32) (x1 : Int32) (x2 : Int32) (hT : TY K G H) (ga : G a = some 68) (gw : G w = some 0) (fx : FX K H a w) : MX l K yX9_holes cX9_holes 5 (some .boolean) 2 43 0 0 [.ref a, .int x0, .int x1, .int x2] H (AE G [] H.size) (fun v H1 => (∃ r : Int32, v = some (.int r) ∧ (r.toInt = 0)) ∧ ∃ G1 : Nat → Option Nat, (∀ q, q < H.size → G1 q = G q) ∧ TY K G1 H1) := by
  refine MX.of (by decide +kernel) (Nat.le_of_ble_eq_true rfl) ?_
  intro p e s m below meth c ls Q C hH hl hQ
  subst hH
  have C : CX p K s m _ meth c RX9 cX9_holes 5 (some .boolean) "holes" := C
  obtain ⟨hx, hb, hml, hown, hts, hKT, hr, hlocks, hnm⟩ := id C
  have hl : lv_has ls 5 [(0, .ref a), (1, .int x0), (2, .int x1), (3, .int x2)] := hl
  have hS : va_S (AE G [] s.heap.size) s.heap s.heap [] := va_S.rf
  have n_0 : (0 : Int32).toInt = 0 := rfl
  obtain ⟨f0, f1, f2, f3, f4, f5, f6, f7, f8, f9, f10⟩ := fx
  refine lv_aload_n hx hb dX9_holes_0 rfl (lv_at hl 0 rfl) ?_
  refine lv_iload_n hx hb dX9_holes_1 rfl (lv_at hl 1 rfl) ?_
  refine x_V (As := [.int x0]) (rest := []) C (f_X9_barAt l K G s.heap (w := w) (x0) hT ga gw ⟨f0, f1, f2, f3, f4, f5, f6, f7, f8, f9, f10⟩) yo_X9_barAt wM_X9_78 ⟨⟨by decide, by decide⟩, by decide, by decide⟩ (x_rv C hT (ci := 9) rfl ga rg_68) rfl hl.1 rfl (Nat.le_of_ble_eq_true rfl) dX9_holes_2 hS (AE_sub (fun _ _ => rfl) (by decide) hS.1) (fun vH101 H101 locsH101 pH101 zH101 kH101 hSH101 => ?_)
  have hqH101 := pH101.1.symm
  subst hqH101
  have hvH101 := pH101.2
  subst hvH101
  refine W.eq (g2 := F0 m 5 ls [.null]) rfl ?_
  refine lv_astoreN (lv' := [(4, .null), (0, .ref a), (1, .int x0), (2, .int x1), (3, .int x2)]) hx hb dX9_holes_5 hl (by decide) rfl (fun ls102 hl103 => ?_)
  refine lv_aloadN hx hb dX9_holes_7 (lv_at hl103 0 rfl) ?_
  refine lv_ifnullN (tgt := 35) hx hb dX9_holes_9 (by decide) ?_
  refine lv_iconst (v := 0) hx hb dX9_holes_35 (by decide) ?_
  exact x_zret C hQ (Or.inl rfl) dX9_holes_36 hSH101 (by decide) (by decide) (⟨⟨0, rfl, by omega⟩, G, fun _ _ => rfl, hT⟩)

set_option maxHeartbeats 4000000 in
set_option maxRecDepth 100000 in
theorem f_X9_tube (l : Launch) (K : KE) (G : Nat → Option Nat) (H : Heap) {a w : Nat} (x0 : Int32) (x1 : Int32) (x2 : Int32) (hT : TY K G H) (ga : G a = some 68) (gw : G w = some 0) (fx : FX K H a w) : MX l K yX9_tube cX9_tube 5 (some .boolean) 2 43 0 0 [.ref a, .int x0, .int x1, .int x2] H (AE G [] H.size) (fun v H1 => (∃ r : Int32, v = some (.int r) ∧ (r.toInt = 0)) ∧ ∃ G1 : Nat → Option Nat, (∀ q, q < H.size → G1 q = G q) ∧ TY K G1 H1) := by
  refine MX.of (by decide +kernel) (Nat.le_of_ble_eq_true rfl) ?_
  intro p e s m below meth c ls Q C hH hl hQ
  subst hH
  have C : CX p K s m _ meth c RX9 cX9_tube 5 (some .boolean) "tube" := C
  obtain ⟨hx, hb, hml, hown, hts, hKT, hr, hlocks, hnm⟩ := id C
  have hl : lv_has ls 5 [(0, .ref a), (1, .int x0), (2, .int x1), (3, .int x2)] := hl
  have hS : va_S (AE G [] s.heap.size) s.heap s.heap [] := va_S.rf
  have n_0 : (0 : Int32).toInt = 0 := rfl
  obtain ⟨f0, f1, f2, f3, f4, f5, f6, f7, f8, f9, f10⟩ := fx
  refine lv_aload_n hx hb dX9_tube_0 rfl (lv_at hl 0 rfl) ?_
  refine lv_iload_n hx hb dX9_tube_1 rfl (lv_at hl 1 rfl) ?_
  refine x_V (As := [.int x0]) (rest := []) C (f_X9_barAt l K G s.heap (w := w) (x0) hT ga gw ⟨f0, f1, f2, f3, f4, f5, f6, f7, f8, f9, f10⟩) yo_X9_barAt wM_X9_78 ⟨⟨by decide, by decide⟩, by decide, by decide⟩ (x_rv C hT (ci := 9) rfl ga rg_68) rfl hl.1 rfl (Nat.le_of_ble_eq_true rfl) dX9_tube_2 hS (AE_sub (fun _ _ => rfl) (by decide) hS.1) (fun vH101 H101 locsH101 pH101 zH101 kH101 hSH101 => ?_)
  have hqH101 := pH101.1.symm
  subst hqH101
  have hvH101 := pH101.2
  subst hvH101
  refine W.eq (g2 := F0 m 5 ls [.null]) rfl ?_
  refine lv_astoreN (lv' := [(4, .null), (0, .ref a), (1, .int x0), (2, .int x1), (3, .int x2)]) hx hb dX9_tube_5 hl (by decide) rfl (fun ls102 hl103 => ?_)
  refine lv_aloadN hx hb dX9_tube_7 (lv_at hl103 0 rfl) ?_
  refine lv_ifnullN (tgt := 32) hx hb dX9_tube_9 (by decide) ?_
  refine lv_iconst (v := 0) hx hb dX9_tube_32 (by decide) ?_
  exact x_zret C hQ (Or.inl rfl) dX9_tube_33 hSH101 (by decide) (by decide) (⟨⟨0, rfl, by omega⟩, G, fun _ _ => rfl, hT⟩)

set_option maxHeartbeats 4000000 in
set_option maxRecDepth 100000 in
theorem f_X9_in (l : Launch) (K : KE) (G : Nat → Option Nat) (H : Heap) {a w : Nat} (x0 : Int32) (x1 : Int32) (x2 : Int32) (x3 : Int32) (hT : TY K G H) (ga : G a = some 68) (gw : G w = some 0) (fx : FX K H a w) : MX l K yX9_in cX9_in 7 (some .int) 2 43 0 0 [.ref a, .int x0, .int x1, .int x2, .int x3] H (AE G [] H.size) (fun v H1 => (∃ r : Int32, v = some (.int r) ∧ (r.toInt = -1)) ∧ ∃ G1 : Nat → Option Nat, (∀ q, q < H.size → G1 q = G q) ∧ TY K G1 H1) := by
  refine MX.of (by decide +kernel) (Nat.le_of_ble_eq_true rfl) ?_
  intro p e s m below meth c ls Q C hH hl hQ
  subst hH
  have C : CX p K s m _ meth c RX9 cX9_in 7 (some .int) "in" := C
  obtain ⟨hx, hb, hml, hown, hts, hKT, hr, hlocks, hnm⟩ := id C
  have hl : lv_has ls 7 [(0, .ref a), (1, .int x0), (2, .int x1), (3, .int x2), (4, .int x3)] := hl
  have hS : va_S (AE G [] s.heap.size) s.heap s.heap [] := va_S.rf
  have n_m1 : ((-1) : Int32).toInt = -1 := rfl
  obtain ⟨f0, f1, f2, f3, f4, f5, f6, f7, f8, f9, f10⟩ := fx
  refine lv_aload_n hx hb dX9_in_0 rfl (lv_at hl 0 rfl) ?_
  refine lv_iload_n hx hb dX9_in_1 rfl (lv_at hl 1 rfl) ?_
  refine x_V (As := [.int x0]) (rest := []) C (f_X9_barAt l K G s.heap (w := w) (x0) hT ga gw ⟨f0, f1, f2, f3, f4, f5, f6, f7, f8, f9, f10⟩) yo_X9_barAt wM_X9_78 ⟨⟨by decide, by decide⟩, by decide, by decide⟩ (x_rv C hT (ci := 9) rfl ga rg_68) rfl hl.1 rfl (Nat.le_of_ble_eq_true rfl) dX9_in_2 hS (AE_sub (fun _ _ => rfl) (by decide) hS.1) (fun vH101 H101 locsH101 pH101 zH101 kH101 hSH101 => ?_)
  have hqH101 := pH101.1.symm
  subst hqH101
  have hvH101 := pH101.2
  subst hvH101
  refine W.eq (g2 := F0 m 5 ls [.null]) rfl ?_
  refine lv_astoreN (lv' := [(5, .null), (0, .ref a), (1, .int x0), (2, .int x1), (3, .int x2), (4, .int x3)]) hx hb dX9_in_5 hl (by decide) rfl (fun ls102 hl103 => ?_)
  refine lv_aloadN hx hb dX9_in_7 (lv_at hl103 0 rfl) ?_
  refine lv_ifnullN (tgt := 30) hx hb dX9_in_9 (by decide) ?_
  refine lv_iconst (v := (-1)) hx hb dX9_in_30 (by decide) ?_
  exact x_iret C hQ dX9_in_31 hSH101 (by decide) (by decide) (⟨⟨(-1), rfl, by omega⟩, G, fun _ _ => rfl, hT⟩)

set_option maxHeartbeats 4000000 in
set_option maxRecDepth 100000 in
theorem f_X9_down (l : Launch) (K : KE) (G : Nat → Option Nat) (H : Heap) {a w : Nat} (x0 : Int32) (hT : TY K G H) (ga : G a = some 68) (gw : G w = some 0) (fx : FX K H a w) : MX l K yX9_down cX9_down 7 (some .int) 2 43 0 0 [.ref a, .int x0] H (AE G [] H.size) (fun v H1 => (∃ r : Int32, v = some (.int r) ∧ (r.toInt = -1)) ∧ ∃ G1 : Nat → Option Nat, (∀ q, q < H.size → G1 q = G q) ∧ TY K G1 H1) := by
  refine MX.of (by decide +kernel) (Nat.le_of_ble_eq_true rfl) ?_
  intro p e s m below meth c ls Q C hH hl hQ
  subst hH
  have C : CX p K s m _ meth c RX9 cX9_down 7 (some .int) "down" := C
  obtain ⟨hx, hb, hml, hown, hts, hKT, hr, hlocks, hnm⟩ := id C
  have hl : lv_has ls 7 [(0, .ref a), (1, .int x0)] := hl
  have hS : va_S (AE G [] s.heap.size) s.heap s.heap [] := va_S.rf
  have n_m1 : ((-1) : Int32).toInt = -1 := rfl
  obtain ⟨f0, f1, f2, f3, f4, f5, f6, f7, f8, f9, f10⟩ := fx
  refine lv_aload_n hx hb dX9_down_0 rfl (lv_at hl 0 rfl) ?_
  refine lv_iload_n hx hb dX9_down_1 rfl (lv_at hl 1 rfl) ?_
  refine x_V (As := [.int x0]) (rest := []) C (f_X9_barAt l K G s.heap (w := w) (x0) hT ga gw ⟨f0, f1, f2, f3, f4, f5, f6, f7, f8, f9, f10⟩) yo_X9_barAt wM_X9_78 ⟨⟨by decide, by decide⟩, by decide, by decide⟩ (x_rv C hT (ci := 9) rfl ga rg_68) rfl hl.1 rfl (Nat.le_of_ble_eq_true rfl) dX9_down_2 hS (AE_sub (fun _ _ => rfl) (by decide) hS.1) (fun vH101 H101 locsH101 pH101 zH101 kH101 hSH101 => ?_)
  have hqH101 := pH101.1.symm
  subst hqH101
  have hvH101 := pH101.2
  subst hvH101
  refine W.eq (g2 := F0 m 5 ls [.null]) rfl ?_
  refine lv_astore_nN (lv' := [(2, .null), (0, .ref a), (1, .int x0)]) hx hb dX9_down_5 rfl hl (by decide) rfl (fun ls102 hl103 => ?_)
  refine lv_aload_nN hx hb dX9_down_6 rfl (lv_at hl103 0 rfl) ?_
  refine lv_ifnonnullN hx hb dX9_down_7 ?_
  refine lv_iconst (v := (-1)) hx hb dX9_down_10 (by decide) ?_
  exact x_iret C hQ dX9_down_11 hSH101 (by decide) (by decide) (⟨⟨(-1), rfl, by omega⟩, G, fun _ _ => rfl, hT⟩)

set_option maxHeartbeats 4000000 in
set_option maxRecDepth 100000 in
theorem f_X9_enough (l : Launch) (K : KE) (G : Nat → Option Nat) (H : Heap) {a w : Nat} (x0 : Int32) (x1 : Int32) (x2 : Int32) (hT : TY K G H) (ga : G a = some 68) (gw : G w = some 0) (fx : FX K H a w) : MX l K yX9_enough cX9_enough 9 (some .int) 2 43 0 0 [.ref a, .int x0, .int x1, .int x2] H (AE G [] H.size) (fun v H1 => (∃ r : Int32, v = some (.int r) ∧ (r.toInt = -1)) ∧ ∃ G1 : Nat → Option Nat, (∀ q, q < H.size → G1 q = G q) ∧ TY K G1 H1) := by
  refine MX.of (by decide +kernel) (Nat.le_of_ble_eq_true rfl) ?_
  intro p e s m below meth c ls Q C hH hl hQ
  subst hH
  have C : CX p K s m _ meth c RX9 cX9_enough 9 (some .int) "enough" := C
  obtain ⟨hx, hb, hml, hown, hts, hKT, hr, hlocks, hnm⟩ := id C
  have hl : lv_has ls 9 [(0, .ref a), (1, .int x0), (2, .int x1), (3, .int x2)] := hl
  have hS : va_S (AE G [] s.heap.size) s.heap s.heap [] := va_S.rf
  have n_m1 : ((-1) : Int32).toInt = -1 := rfl
  obtain ⟨f0, f1, f2, f3, f4, f5, f6, f7, f8, f9, f10⟩ := fx
  refine lv_aload_n hx hb dX9_enough_0 rfl (lv_at hl 0 rfl) ?_
  refine lv_iload_n hx hb dX9_enough_1 rfl (lv_at hl 1 rfl) ?_
  refine x_V (As := [.int x0]) (rest := []) C (f_X9_barAt l K G s.heap (w := w) (x0) hT ga gw ⟨f0, f1, f2, f3, f4, f5, f6, f7, f8, f9, f10⟩) yo_X9_barAt wM_X9_78 ⟨⟨by decide, by decide⟩, by decide, by decide⟩ (x_rv C hT (ci := 9) rfl ga rg_68) rfl hl.1 rfl (Nat.le_of_ble_eq_true rfl) dX9_enough_2 hS (AE_sub (fun _ _ => rfl) (by decide) hS.1) (fun vH101 H101 locsH101 pH101 zH101 kH101 hSH101 => ?_)
  have hqH101 := pH101.1.symm
  subst hqH101
  have hvH101 := pH101.2
  subst hvH101
  refine W.eq (g2 := F0 m 5 ls [.null]) rfl ?_
  refine lv_astoreN (lv' := [(4, .null), (0, .ref a), (1, .int x0), (2, .int x1), (3, .int x2)]) hx hb dX9_enough_5 hl (by decide) rfl (fun ls102 hl103 => ?_)
  refine lv_aloadN hx hb dX9_enough_7 (lv_at hl103 0 rfl) ?_
  refine lv_ifnullN (tgt := 38) hx hb dX9_enough_9 (by decide) ?_
  refine lv_iconst (v := (-1)) hx hb dX9_enough_38 (by decide) ?_
  exact x_iret C hQ dX9_enough_39 hSH101 (by decide) (by decide) (⟨⟨(-1), rfl, by omega⟩, G, fun _ _ => rfl, hT⟩)

set_option maxHeartbeats 4000000 in
set_option maxRecDepth 100000 in
theorem f_X9_end (l : Launch) (K : KE) (G : Nat → Option Nat) (H : Heap) {a w : Nat} (x0 : Int32) (hT : TY K G H) (ga : G a = some 68) (gw : G w = some 0) (fx : FX K H a w) : MX l K yX9_end cX9_end 2 (some .boolean) 0 0 0 0 [.ref a, .int x0] H (AE G [68] H.size) (fun v H1 => (∃ r : Int32, v = some (.int r) ∧ ((x0.toInt = 0 ∧ r.toInt = 1) ∨ (x0.toInt ≠ 0 ∧ r.toInt = 0))) ∧ ∃ G1 : Nat → Option Nat, (∀ q, q < H.size → G1 q = G q) ∧ TY K G1 H1) := by
  refine MX.of (by decide +kernel) (Nat.le_of_ble_eq_true rfl) ?_
  intro p e s m below meth c ls Q C hH hl hQ
  subst hH
  have C : CX p K s m _ meth c RX9 cX9_end 2 (some .boolean) "end" := C
  obtain ⟨hx, hb, hml, hown, hts, hKT, hr, hlocks, hnm⟩ := id C
  have hl : lv_has ls 2 [(0, .ref a), (1, .int x0)] := hl
  have hS : va_S (AE G [68] s.heap.size) s.heap s.heap [] := va_S.rf
  have n_0 : (0 : Int32).toInt = 0 := rfl
  have n_1 : (1 : Int32).toInt = 1 := rfl
  obtain ⟨f0, f1, f2, f3, f4, f5, f6, f7, f8, f9, f10⟩ := fx
  refine lv_iload_n hx hb dX9_end_0 rfl (lv_at hl 1 rfl) ?_
  refine lv_if_lt (tgt := 12) hx hb dX9_end_1 (by decide) (fun c101 => ?_) (fun c101 => ?_)
  · have k102 := i_lt c101
    refine lv_iconst (v := 0) hx hb dX9_end_12 (by decide) ?_
    exact x_zret C hQ (Or.inl rfl) dX9_end_13 hS (by decide) (by decide) (⟨⟨0, rfl, by omega⟩, G, fun _ _ => rfl, hT⟩)
  · have k102 := i_nlt c101
    refine lv_iload_n hx hb dX9_end_4 rfl (lv_at hl 1 rfl) ?_
    refine lv_aload_n hx hb dX9_end_5 rfl (lv_at hl 0 rfl) ?_
    refine x_gi C hT (ci := 9) (k := 3) rfl inX9 (by decide) wF_X9_105 ga rg_68 rfl dX9_end_6 (fun x103 ex103 bx103 => ?_)
    have ux103 : x103 = 0 := ex103.trans f2
    subst ux103
    refine lv_icmp_le (tgt := 14) hx hb dX9_end_9 (by decide) (fun c104 => ?_) (fun c104 => ?_)
    · have k105 := i_le c104
      refine lv_aload_n hx hb dX9_end_14 rfl (lv_at hl 0 rfl) ?_
      refine lv_iload_n hx hb dX9_end_15 rfl (lv_at hl 1 rfl) ?_
      refine x_put C hT hS (ci := 9) (k := 3) (v := .int x0) (ty0 := tyX9) rfl inX9 tyX9_ok nmX9 (by decide) rfl wF_X9_105 ga rg_68 rfl rfl (okI (by have := i_rng x0; omega) (by have := i_rng x0; omega)) rfl rfl (AE_in ga (by decide)) dX9_end_16 (fun H106 locsH106 hTH106 hSH106 wH106 => ?_)
      have m107 := f0.trans (Wr.neR wH106 (Or.inr (x_apart hKT hts inX9 tyX9 tyX9_ok nmX9 rfl 0 3 (by decide) (by decide) (by decide)))).symm
      have m108 := (Wr.neV wH106 (Or.inr (x_apart hKT hts inX9 tyX9 tyX9_ok nmX9 rfl 1 3 (by decide) (by decide) (by decide)))).trans f1
      have m110 := (Wr.neI wH106 (Or.inl (G_ne gw ga (by decide)))).trans f3
      have m111 := (Wr.neI wH106 (Or.inl (G_ne gw ga (by decide)))).trans f4
      have m112 := (Wr.neI wH106 (Or.inl (G_ne gw ga (by decide)))).trans f5
      have m113 := (Wr.neI wH106 (Or.inl (G_ne gw ga (by decide)))).trans f6
      have m114 := (Wr.neI wH106 (Or.inl (G_ne gw ga (by decide)))).trans f7
      have m115 := (Wr.neI wH106 (Or.inl (G_ne gw ga (by decide)))).trans f8
      have m116 := (Wr.neI wH106 (Or.inl (G_ne gw ga (by decide)))).trans f9
      have m117 := (Wr.neI wH106 (Or.inl (G_ne gw ga (by decide)))).trans f10
      have m118 := Wr.I wH106
      have m118 := m118.symm
      refine lv_iconst (v := 1) hx hb dX9_end_19 (by decide) ?_
      exact x_zret C hQ (Or.inr rfl) dX9_end_20 hSH106 (by decide) (by decide) (⟨⟨1, rfl, by omega⟩, G, fun _ _ => rfl, hTH106⟩)
    · have k105 := i_nle c104
      refine lv_iconst (v := 0) hx hb dX9_end_12 (by decide) ?_
      exact x_zret C hQ (Or.inl rfl) dX9_end_13 hS (by decide) (by decide) (⟨⟨0, rfl, by omega⟩, G, fun _ _ => rfl, hT⟩)

set_option maxHeartbeats 4000000 in
set_option maxRecDepth 100000 in
theorem f_X9_fault (l : Launch) (K : KE) (G : Nat → Option Nat) (H : Heap) {a w : Nat} (x0 : Int32) (hT : TY K G H) (ga : G a = some 68) (gw : G w = some 0) (fx : FX K H a w) : MX l K yX9_fault cX9_fault 2 (some .int) 0 0 0 0 [.ref a, .int x0] H (AE G [] H.size) (fun v H1 => (∃ r : Int32, v = some (.int r) ∧ ((x0.toInt = 0 ∧ r.toInt = 0) ∨ (x0.toInt ≠ 0 ∧ r.toInt = -1))) ∧ ∃ G1 : Nat → Option Nat, (∀ q, q < H.size → G1 q = G q) ∧ TY K G1 H1) := by
  refine MX.of (by decide +kernel) (Nat.le_of_ble_eq_true rfl) ?_
  intro p e s m below meth c ls Q C hH hl hQ
  subst hH
  have C : CX p K s m _ meth c RX9 cX9_fault 2 (some .int) "fault" := C
  obtain ⟨hx, hb, hml, hown, hts, hKT, hr, hlocks, hnm⟩ := id C
  have hl : lv_has ls 2 [(0, .ref a), (1, .int x0)] := hl
  have hS : va_S (AE G [] s.heap.size) s.heap s.heap [] := va_S.rf
  have n_m1 : ((-1) : Int32).toInt = -1 := rfl
  have n_0 : (0 : Int32).toInt = 0 := rfl
  have n_1 : (1 : Int32).toInt = 1 := rfl
  obtain ⟨f0, f1, f2, f3, f4, f5, f6, f7, f8, f9, f10⟩ := fx
  refine lv_iload_n hx hb dX9_fault_0 rfl (lv_at hl 1 rfl) ?_
  by_cases c101 : x0 = 0
  · have kc101 := i_eq c101
    refine lv_lookup (tgt := 28) (off := 27) hx hb dX9_fault_1 (by decide) (by rw [c101]; rfl) (by decide) ?_
    refine lv_aload_n hx hb dX9_fault_28 rfl (lv_at hl 0 rfl) ?_
    refine x_gr C hT (ci := 9) (k := 0) rfl inX9 (by decide) wF_X9_12 ga rg_68 rfl dX9_fault_29 (fun q102 eq102 gq102 => ?_)
    have uq102 : w = q102 := (f0).trans eq102.symm
    subst uq102
    refine x_gi C hT (ci := 8) (k := 6) rfl inX8 (by decide) wF_X9_111 gw rg_0 rfl dX9_fault_32 (fun x103 ex103 bx103 => ?_)
    have ux103 : x103 = 0 := ex103.trans f6
    subst ux103
    exact x_iret C hQ dX9_fault_35 hS (by decide) (by decide) (⟨⟨0, rfl, by omega⟩, G, fun _ _ => rfl, hT⟩)
  have kc101 := i_ne c101
  by_cases c104 : x0 = 1
  · have kc104 := i_eq c104
    refine lv_lookup (tgt := 36) (off := 35) hx hb dX9_fault_1 (by decide) (by rw [c104]; rfl) (by decide) ?_
    refine lv_aload_n hx hb dX9_fault_36 rfl (lv_at hl 0 rfl) ?_
    refine x_gr C hT (ci := 9) (k := 0) rfl inX9 (by decide) wF_X9_12 ga rg_68 rfl dX9_fault_37 (fun q105 eq105 gq105 => ?_)
    have uq105 : w = q105 := (f0).trans eq105.symm
    subst uq105
    refine x_gi C hT (ci := 8) (k := 7) rfl inX8 (by decide) wF_X9_114 gw rg_0 rfl dX9_fault_40 (fun x106 ex106 bx106 => ?_)
    have ux106 : x106 = (-1) := ex106.trans f7
    subst ux106
    exact x_iret C hQ dX9_fault_43 hS (by decide) (by decide) (⟨⟨(-1), rfl, by omega⟩, G, fun _ _ => rfl, hT⟩)
  have kc104 := i_ne c104
  refine lv_lookup (tgt := 44) (off := 43) hx hb dX9_fault_1 (by decide) (show Op.lookupswitch.offset [(0, 27), (1, 35)] 43 x0.toInt = 43 by rw [lv_osw (a := 0) c101 rfl, lv_osw (a := 1) c104 rfl]; rfl) (by decide) ?_
  refine lv_iconst (v := (-1)) hx hb dX9_fault_44 (by decide) ?_
  exact x_iret C hQ dX9_fault_45 hS (by decide) (by decide) (⟨⟨(-1), rfl, by omega⟩, G, fun _ _ => rfl, hT⟩)

set_option maxHeartbeats 4000000 in
set_option maxRecDepth 100000 in
theorem f_X9_force (l : Launch) (K : KE) (G : Nat → Option Nat) (H : Heap) {a w : Nat} (x0 : Int32) (hT : TY K G H) (ga : G a = some 68) (gw : G w = some 0) (fx : FX K H a w) : MX l K yX9_force cX9_force 3 (some .int) 1 22 0 0 [.ref a, .int x0] H (AE G [0] H.size) (fun v H1 => (∃ r : Int32, v = some (.int r) ∧ ((0 ≤ x0.toInt ∧ x0.toInt ≤ 1 ∧ r.toInt = 0) ∨ (¬ (0 ≤ x0.toInt ∧ x0.toInt ≤ 1) ∧ r.toInt = -1))) ∧ ∃ G1 : Nat → Option Nat, (∀ q, q < H.size → G1 q = G q) ∧ TY K G1 H1) := by
  refine MX.of (by decide +kernel) (Nat.le_of_ble_eq_true rfl) ?_
  intro p e s m below meth c ls Q C hH hl hQ
  subst hH
  have C : CX p K s m _ meth c RX9 cX9_force 3 (some .int) "force" := C
  obtain ⟨hx, hb, hml, hown, hts, hKT, hr, hlocks, hnm⟩ := id C
  have hl : lv_has ls 3 [(0, .ref a), (1, .int x0)] := hl
  have hS : va_S (AE G [0] s.heap.size) s.heap s.heap [] := va_S.rf
  have n_m1 : ((-1) : Int32).toInt = -1 := rfl
  have n_0 : (0 : Int32).toInt = 0 := rfl
  have n_1 : (1 : Int32).toInt = 1 := rfl
  obtain ⟨f0, f1, f2, f3, f4, f5, f6, f7, f8, f9, f10⟩ := fx
  refine lv_iload_n hx hb dX9_force_0 rfl (lv_at hl 1 rfl) ?_
  refine lv_iconst (v := 0) hx hb dX9_force_1 (by decide) ?_
  refine lv_iconst (v := 1) hx hb dX9_force_2 (by decide) ?_
  refine x_S (As := [.int x0, .int 0, .int 1]) (rest := []) C (c_X9_within l K G s.heap (x0) (0) (1) hT) yo_X9_within wM_X9_89 ⟨⟨by decide, by decide⟩, by decide, by decide⟩ rfl hl.1 rfl (Nat.le_of_ble_eq_true rfl) dX9_force_3 hS (AE_sub (fun _ _ => rfl) (by decide) hS.1) (fun vH101 H101 locsH101 pH101 zH101 kH101 hSH101 => ?_)
  have hqH101 := pH101.1.symm
  subst hqH101
  rcases pH101.2 with ⟨hvH101, hcH101⟩ | ⟨hvH101, hcH101⟩
  · subst hvH101
    refine W.eq (g2 := F0 m 6 ls [.int 1]) rfl ?_
    refine lv_if_ne (tgt := 11) hx hb dX9_force_6 (by decide) (fun c102 => ?_) (fun c102 => ?_)
    · have k103 := i_ne c102
      refine lv_aload_n hx hb dX9_force_11 rfl (lv_at hl 0 rfl) ?_
      refine x_gr C hT (ci := 9) (k := 0) rfl inX9 (by decide) wF_X9_12 ga rg_68 rfl dX9_force_12 (fun q104 eq104 gq104 => ?_)
      have uq104 : w = q104 := (f0).trans eq104.symm
      subst uq104
      refine x_gi C hT (ci := 8) (k := 4) rfl inX8 (by decide) wF_X9_147 gw rg_0 rfl dX9_force_15 (fun x105 ex105 bx105 => ?_)
      have ux105 : x105 = 0 := ex105.trans f4
      subst ux105
      refine lv_istore_n (lv' := [(2, .int 0), (0, .ref a), (1, .int x0)]) hx hb dX9_force_18 rfl hl (by decide) rfl (fun ls106 hl107 => ?_)
      refine lv_aload_n hx hb dX9_force_19 rfl (lv_at hl107 1 rfl) ?_
      refine x_gr C hT (ci := 9) (k := 0) rfl inX9 (by decide) wF_X9_12 ga rg_68 rfl dX9_force_20 (fun q108 eq108 gq108 => ?_)
      have uq108 : w = q108 := (f0).trans eq108.symm
      subst uq108
      refine lv_iload_n hx hb dX9_force_23 rfl (lv_at hl107 2 rfl) ?_
      refine x_put C hT hSH101 (ci := 8) (k := 4) (v := .int x0) (ty0 := tyX8) rfl inX8 tyX8_ok nmX8 (by decide) rfl wF_X9_147 gw rg_0 rfl rfl (okI (by have := i_rng x0; omega) (by have := i_rng x0; omega)) rfl rfl (AE_in gw (by decide)) dX9_force_24 (fun H109 locsH109 hTH109 hSH109 wH109 => ?_)
      have m110 := f0.trans (Wr.neR wH109 (Or.inl (G_ne ga gw (by decide)))).symm
      have m111 := (Wr.neV wH109 (Or.inl (G_ne ga gw (by decide)))).trans f1
      have m112 := (Wr.neI wH109 (Or.inl (G_ne ga gw (by decide)))).trans f2
      have m113 := (Wr.neI wH109 (Or.inr (x_apart hKT hts inX8 tyX8 tyX8_ok nmX8 rfl 1 4 (by decide) (by decide) (by decide)))).trans f3
      have m115 := (Wr.neI wH109 (Or.inr (x_apart hKT hts inX8 tyX8 tyX8_ok nmX8 rfl 5 4 (by decide) (by decide) (by decide)))).trans f5
      have m116 := (Wr.neI wH109 (Or.inr (x_apart hKT hts inX8 tyX8 tyX8_ok nmX8 rfl 6 4 (by decide) (by decide) (by decide)))).trans f6
      have m117 := (Wr.neI wH109 (Or.inr (x_apart hKT hts inX8 tyX8 tyX8_ok nmX8 rfl 7 4 (by decide) (by decide) (by decide)))).trans f7
      have m118 := (Wr.neI wH109 (Or.inr (x_apart hKT hts inX8 tyX8 tyX8_ok nmX8 rfl 10 4 (by decide) (by decide) (by decide)))).trans f8
      have m119 := (Wr.neI wH109 (Or.inr (x_apart hKT hts inX8 tyX8 tyX8_ok nmX8 rfl 13 4 (by decide) (by decide) (by decide)))).trans f9
      have m120 := (Wr.neI wH109 (Or.inr (x_apart hKT hts inX8 tyX8 tyX8_ok nmX8 rfl 16 4 (by decide) (by decide) (by decide)))).trans f10
      have m121 := Wr.I wH109
      have m121 := m121.symm
      refine lv_iload_n hx hb dX9_force_27 rfl (lv_at hl107 0 rfl) ?_
      exact x_iret C hQ dX9_force_28 hSH109 (by decide) (by decide) (⟨⟨0, rfl, by omega⟩, G, fun _ _ => rfl, hTH109⟩)
    · have k103 := i_eq c102
      exfalso
      omega
  · subst hvH101
    refine W.eq (g2 := F0 m 6 ls [.int 0]) rfl ?_
    refine lv_if_ne (tgt := 11) hx hb dX9_force_6 (by decide) (fun c122 => ?_) (fun c122 => ?_)
    · have k123 := i_ne c122
      exfalso
      omega
    · have k123 := i_eq c122
      refine lv_iconst (v := (-1)) hx hb dX9_force_9 (by decide) ?_
      exact x_iret C hQ dX9_force_10 hSH101 (by decide) (by decide) (⟨⟨(-1), rfl, by omega⟩, G, fun _ _ => rfl, hT⟩)

set_option maxHeartbeats 4000000 in
set_option maxRecDepth 100000 in
theorem f_X9_slack (l : Launch) (K : KE) (G : Nat → Option Nat) (H : Heap) {a w : Nat} (x0 : Int32) (hT : TY K G H) (ga : G a = some 68) (gw : G w = some 0) (fx : FX K H a w) : MX l K yX9_slack cX9_slack 2 (some .boolean) 1 22 0 0 [.ref a, .int x0] H (AE G [0] H.size) (fun v H1 => (∃ r : Int32, v = some (.int r) ∧ ((0 ≤ x0.toInt ∧ x0.toInt ≤ 9999 ∧ r.toInt = 1) ∨ (¬ (0 ≤ x0.toInt ∧ x0.toInt ≤ 9999) ∧ r.toInt = 0))) ∧ ∃ G1 : Nat → Option Nat, (∀ q, q < H.size → G1 q = G q) ∧ TY K G1 H1) := by
  refine MX.of (by decide +kernel) (Nat.le_of_ble_eq_true rfl) ?_
  intro p e s m below meth c ls Q C hH hl hQ
  subst hH
  have C : CX p K s m _ meth c RX9 cX9_slack 2 (some .boolean) "slack" := C
  obtain ⟨hx, hb, hml, hown, hts, hKT, hr, hlocks, hnm⟩ := id C
  have hl : lv_has ls 2 [(0, .ref a), (1, .int x0)] := hl
  have hS : va_S (AE G [0] s.heap.size) s.heap s.heap [] := va_S.rf
  have n_0 : (0 : Int32).toInt = 0 := rfl
  have n_1 : (1 : Int32).toInt = 1 := rfl
  have n_9999 : (9999 : Int32).toInt = 9999 := rfl
  obtain ⟨f0, f1, f2, f3, f4, f5, f6, f7, f8, f9, f10⟩ := fx
  refine lv_iload_n hx hb dX9_slack_0 rfl (lv_at hl 1 rfl) ?_
  refine lv_iconst (v := 0) hx hb dX9_slack_1 (by decide) ?_
  refine lv_sipush (v := 9999) hx hb dX9_slack_2 (by decide) ?_
  refine x_S (As := [.int x0, .int 0, .int 9999]) (rest := []) C (c_X9_within l K G s.heap (x0) (0) (9999) hT) yo_X9_within wM_X9_89 ⟨⟨by decide, by decide⟩, by decide, by decide⟩ rfl hl.1 rfl (Nat.le_of_ble_eq_true rfl) dX9_slack_5 hS (AE_sub (fun _ _ => rfl) (by decide) hS.1) (fun vH101 H101 locsH101 pH101 zH101 kH101 hSH101 => ?_)
  have hqH101 := pH101.1.symm
  subst hqH101
  rcases pH101.2 with ⟨hvH101, hcH101⟩ | ⟨hvH101, hcH101⟩
  · subst hvH101
    refine W.eq (g2 := F0 m 8 ls [.int 1]) rfl ?_
    refine lv_if_ne (tgt := 13) hx hb dX9_slack_8 (by decide) (fun c102 => ?_) (fun c102 => ?_)
    · have k103 := i_ne c102
      refine lv_aload_n hx hb dX9_slack_13 rfl (lv_at hl 0 rfl) ?_
      refine x_gr C hT (ci := 9) (k := 0) rfl inX9 (by decide) wF_X9_12 ga rg_68 rfl dX9_slack_14 (fun q104 eq104 gq104 => ?_)
      have uq104 : w = q104 := (f0).trans eq104.symm
      subst uq104
      refine lv_iload_n hx hb dX9_slack_17 rfl (lv_at hl 1 rfl) ?_
      refine x_put C hT hSH101 (ci := 8) (k := 5) (v := .int x0) (ty0 := tyX8) rfl inX8 tyX8_ok nmX8 (by decide) rfl wF_X9_184 gw rg_0 rfl rfl (okI (by have := i_rng x0; omega) (by have := i_rng x0; omega)) rfl rfl (AE_in gw (by decide)) dX9_slack_18 (fun H105 locsH105 hTH105 hSH105 wH105 => ?_)
      have m106 := f0.trans (Wr.neR wH105 (Or.inl (G_ne ga gw (by decide)))).symm
      have m107 := (Wr.neV wH105 (Or.inl (G_ne ga gw (by decide)))).trans f1
      have m108 := (Wr.neI wH105 (Or.inl (G_ne ga gw (by decide)))).trans f2
      have m109 := (Wr.neI wH105 (Or.inr (x_apart hKT hts inX8 tyX8 tyX8_ok nmX8 rfl 1 5 (by decide) (by decide) (by decide)))).trans f3
      have m110 := (Wr.neI wH105 (Or.inr (x_apart hKT hts inX8 tyX8 tyX8_ok nmX8 rfl 4 5 (by decide) (by decide) (by decide)))).trans f4
      have m112 := (Wr.neI wH105 (Or.inr (x_apart hKT hts inX8 tyX8 tyX8_ok nmX8 rfl 6 5 (by decide) (by decide) (by decide)))).trans f6
      have m113 := (Wr.neI wH105 (Or.inr (x_apart hKT hts inX8 tyX8 tyX8_ok nmX8 rfl 7 5 (by decide) (by decide) (by decide)))).trans f7
      have m114 := (Wr.neI wH105 (Or.inr (x_apart hKT hts inX8 tyX8 tyX8_ok nmX8 rfl 10 5 (by decide) (by decide) (by decide)))).trans f8
      have m115 := (Wr.neI wH105 (Or.inr (x_apart hKT hts inX8 tyX8 tyX8_ok nmX8 rfl 13 5 (by decide) (by decide) (by decide)))).trans f9
      have m116 := (Wr.neI wH105 (Or.inr (x_apart hKT hts inX8 tyX8 tyX8_ok nmX8 rfl 16 5 (by decide) (by decide) (by decide)))).trans f10
      have m117 := Wr.I wH105
      have m117 := m117.symm
      refine lv_iconst (v := 1) hx hb dX9_slack_21 (by decide) ?_
      exact x_zret C hQ (Or.inr rfl) dX9_slack_22 hSH105 (by decide) (by decide) (⟨⟨1, rfl, by omega⟩, G, fun _ _ => rfl, hTH105⟩)
    · have k103 := i_eq c102
      exfalso
      omega
  · subst hvH101
    refine W.eq (g2 := F0 m 8 ls [.int 0]) rfl ?_
    refine lv_if_ne (tgt := 13) hx hb dX9_slack_8 (by decide) (fun c118 => ?_) (fun c118 => ?_)
    · have k119 := i_ne c118
      exfalso
      omega
    · have k119 := i_eq c118
      refine lv_iconst (v := 0) hx hb dX9_slack_11 (by decide) ?_
      exact x_zret C hQ (Or.inl rfl) dX9_slack_12 hSH101 (by decide) (by decide) (⟨⟨0, rfl, by omega⟩, G, fun _ _ => rfl, hT⟩)

set_option maxHeartbeats 4000000 in
set_option maxRecDepth 100000 in
theorem f_X9_night (l : Launch) (K : KE) (G : Nat → Option Nat) (H : Heap) {a w : Nat} (x0 : Int32) (x1 : Int32) (hT : TY K G H) (ga : G a = some 68) (gw : G w = some 0) (fx : FX K H a w) : MX l K yX9_night cX9_night 3 (some .int) 2 43 0 0 [.ref a, .int x0, .int x1] H (AE G [0, 28, 29] H.size) (fun v H1 => (∃ r : Int32, v = some (.int r) ∧ (((-20 ≤ x0.toInt ∧ x0.toInt ≤ 50 ∧ 0 ≤ x1.toInt ∧ x1.toInt ≤ 99) ∧ r.toInt = 0) ∨ (¬ (-20 ≤ x0.toInt ∧ x0.toInt ≤ 50 ∧ 0 ≤ x1.toInt ∧ x1.toInt ≤ 99) ∧ r.toInt = -1))) ∧ ∃ G1 : Nat → Option Nat, (∀ q, q < H.size → G1 q = G q) ∧ TY K G1 H1) := by
  refine MX.of (by decide +kernel) (Nat.le_of_ble_eq_true rfl) ?_
  intro p e s m below meth c ls Q C hH hl hQ
  subst hH
  have C : CX p K s m _ meth c RX9 cX9_night 3 (some .int) "night" := C
  obtain ⟨hx, hb, hml, hown, hts, hKT, hr, hlocks, hnm⟩ := id C
  have hl : lv_has ls 3 [(0, .ref a), (1, .int x0), (2, .int x1)] := hl
  have hS : va_S (AE G [0, 28, 29] s.heap.size) s.heap s.heap [] := va_S.rf
  have n_m1 : ((-1) : Int32).toInt = -1 := rfl
  have n_0 : (0 : Int32).toInt = 0 := rfl
  have n_1 : (1 : Int32).toInt = 1 := rfl
  have n_20 : (20 : Int32).toInt = 20 := rfl
  obtain ⟨f0, f1, f2, f3, f4, f5, f6, f7, f8, f9, f10⟩ := fx
  refine lv_iload_n hx hb dX9_night_0 rfl (lv_at hl 1 rfl) ?_
  refine lv_iload_n hx hb dX9_night_1 rfl (lv_at hl 2 rfl) ?_
  refine x_S (As := [.int x0, .int x1]) (rest := []) C (c_X9_isAir l K G s.heap (x0) (x1) hT) yo_X9_isAir wM_X9_275 ⟨⟨by decide, by decide⟩, by decide, by decide⟩ rfl hl.1 rfl (Nat.le_of_ble_eq_true rfl) dX9_night_2 hS (AE_sub (fun _ _ => rfl) (by decide) hS.1) (fun vH101 H101 locsH101 pH101 zH101 kH101 hSH101 => ?_)
  have hqH101 := pH101.1.symm
  subst hqH101
  rcases pH101.2 with ⟨hvH101, hcH101⟩ | ⟨hvH101, hcH101⟩
  · subst hvH101
    refine W.eq (g2 := F0 m 5 ls [.int 1]) rfl ?_
    refine lv_if_eq (tgt := 20) hx hb dX9_night_5 (by decide) (fun c102 => ?_) (fun c102 => ?_)
    · have k103 := i_eq c102
      exfalso
      omega
    · have k103 := i_ne c102
      refine lv_aload_n hx hb dX9_night_8 rfl (lv_at hl 0 rfl) ?_
      refine x_gr C hT (ci := 9) (k := 0) rfl inX9 (by decide) wF_X9_12 ga rg_68 rfl dX9_night_9 (fun q104 eq104 gq104 => ?_)
      have uq104 : w = q104 := (f0).trans eq104.symm
      subst uq104
      refine x_gi C hT (ci := 8) (k := 10) rfl inX8 (by decide) wF_X9_293 gw rg_0 rfl dX9_night_12 (fun x105 ex105 bx105 => ?_)
      have ux105 : x105 = 0 := ex105.trans f8
      subst ux105
      refine lv_bipush (v := 20) hx hb dX9_night_15 (by decide) ?_
      refine lv_icmp_lt (tgt := 22) hx hb dX9_night_17 (by decide) (fun c106 => ?_) (fun c106 => ?_)
      · have k107 := i_lt c106
        refine lv_aload_n hx hb dX9_night_22 rfl (lv_at hl 0 rfl) ?_
        refine x_gr C hT (ci := 9) (k := 0) rfl inX9 (by decide) wF_X9_12 ga rg_68 rfl dX9_night_23 (fun q108 eq108 gq108 => ?_)
        have uq108 : w = q108 := (f0).trans eq108.symm
        subst uq108
        refine x_gr C hT (ci := 8) (k := 8) rfl inX8 (by decide) wF_X9_296 gw rg_0 rfl dX9_night_26 (fun q109 eq109 gq109 => ?_)
        refine lv_aload_n hx hb dX9_night_29 rfl (lv_at hl 0 rfl) ?_
        refine x_gr C hT (ci := 9) (k := 0) rfl inX9 (by decide) wF_X9_12 ga rg_68 rfl dX9_night_30 (fun q110 eq110 gq110 => ?_)
        have uq110 : w = q110 := (f0).trans eq110.symm
        subst uq110
        refine x_gi C hT (ci := 8) (k := 10) rfl inX8 (by decide) wF_X9_293 gw rg_0 rfl dX9_night_33 (fun x111 ex111 bx111 => ?_)
        have ux111 : x111 = 0 := ex111.trans f8
        subst ux111
        refine lv_iload_n hx hb dX9_night_36 rfl (lv_at hl 1 rfl) ?_
        refine x_iast C hT hSH101 gq109 rg_28 (by decide) (by decide) ⟨by have := i_rng x0; omega, by have := i_rng x0; omega⟩ (AE_in gq109 (by decide)) dX9_night_37 (fun H112 locsH112 hTH112 hSH112 wH112 => ?_)
        have m113 := f0.trans (Wr.neR wH112 (Or.inl (G_ne ga gq109 (by decide)))).symm
        have m114 := (Wr.neV wH112 (Or.inl (G_ne ga gq109 (by decide)))).trans f1
        have m115 := (Wr.neI wH112 (Or.inl (G_ne ga gq109 (by decide)))).trans f2
        have m116 := (Wr.neI wH112 (Or.inl (G_ne gw gq109 (by decide)))).trans f3
        have m117 := (Wr.neI wH112 (Or.inl (G_ne gw gq109 (by decide)))).trans f4
        have m118 := (Wr.neI wH112 (Or.inl (G_ne gw gq109 (by decide)))).trans f5
        have m119 := (Wr.neI wH112 (Or.inl (G_ne gw gq109 (by decide)))).trans f6
        have m120 := (Wr.neI wH112 (Or.inl (G_ne gw gq109 (by decide)))).trans f7
        have m121 := (Wr.neI wH112 (Or.inl (G_ne gw gq109 (by decide)))).trans f8
        have m122 := (Wr.neI wH112 (Or.inl (G_ne gw gq109 (by decide)))).trans f9
        have m123 := (Wr.neI wH112 (Or.inl (G_ne gw gq109 (by decide)))).trans f10
        have m124 := eq109.trans (Wr.neR wH112 (Or.inl (G_ne gw gq109 (by decide)))).symm
        have m125 := Wr.I wH112
        have m125 := m125.symm
        refine lv_aload_n hx hb dX9_night_38 rfl (lv_at hl 0 rfl) ?_
        refine x_gr C hTH112 (ci := 9) (k := 0) rfl inX9 (by decide) wF_X9_12 ga rg_68 rfl dX9_night_39 (fun q126 eq126 gq126 => ?_)
        have uq126 : w = q126 := (m113).trans eq126.symm
        subst uq126
        refine x_gr C hTH112 (ci := 8) (k := 9) rfl inX8 (by decide) wF_X9_299 gw rg_0 rfl dX9_night_42 (fun q127 eq127 gq127 => ?_)
        refine lv_aload_n hx hb dX9_night_45 rfl (lv_at hl 0 rfl) ?_
        refine x_gr C hTH112 (ci := 9) (k := 0) rfl inX9 (by decide) wF_X9_12 ga rg_68 rfl dX9_night_46 (fun q128 eq128 gq128 => ?_)
        have uq128 : w = q128 := (m113).trans eq128.symm
        subst uq128
        refine x_gi C hTH112 (ci := 8) (k := 10) rfl inX8 (by decide) wF_X9_293 gw rg_0 rfl dX9_night_49 (fun x129 ex129 bx129 => ?_)
        have ux129 : x129 = 0 := ex129.trans m121
        subst ux129
        refine lv_iload_n hx hb dX9_night_52 rfl (lv_at hl 2 rfl) ?_
        refine x_iast C hTH112 hSH112 gq127 rg_29 (by decide) (by decide) ⟨by have := i_rng x1; omega, by have := i_rng x1; omega⟩ (AE_in gq127 (by decide)) dX9_night_53 (fun H130 locsH130 hTH130 hSH130 wH130 => ?_)
        have m131 := m113.trans (Wr.neR wH130 (Or.inl (G_ne ga gq127 (by decide)))).symm
        have m132 := (Wr.neV wH130 (Or.inl (G_ne ga gq127 (by decide)))).trans m114
        have m133 := (Wr.neI wH130 (Or.inl (G_ne ga gq127 (by decide)))).trans m115
        have m134 := (Wr.neI wH130 (Or.inl (G_ne gw gq127 (by decide)))).trans m116
        have m135 := (Wr.neI wH130 (Or.inl (G_ne gw gq127 (by decide)))).trans m117
        have m136 := (Wr.neI wH130 (Or.inl (G_ne gw gq127 (by decide)))).trans m118
        have m137 := (Wr.neI wH130 (Or.inl (G_ne gw gq127 (by decide)))).trans m119
        have m138 := (Wr.neI wH130 (Or.inl (G_ne gw gq127 (by decide)))).trans m120
        have m139 := (Wr.neI wH130 (Or.inl (G_ne gw gq127 (by decide)))).trans m121
        have m140 := (Wr.neI wH130 (Or.inl (G_ne gw gq127 (by decide)))).trans m122
        have m141 := (Wr.neI wH130 (Or.inl (G_ne gw gq127 (by decide)))).trans m123
        have m142 := m124.trans (Wr.neR wH130 (Or.inl (G_ne gw gq127 (by decide)))).symm
        have m143 := m125.trans (Wr.neI wH130 (Or.inl (G_ne gq109 gq127 (by decide)))).symm
        have m144 := eq127.trans (Wr.neR wH130 (Or.inl (G_ne gw gq127 (by decide)))).symm
        have m145 := Wr.I wH130
        have m145 := m145.symm
        refine lv_aload_n hx hb dX9_night_54 rfl (lv_at hl 0 rfl) ?_
        refine x_gr C hTH130 (ci := 9) (k := 0) rfl inX9 (by decide) wF_X9_12 ga rg_68 rfl dX9_night_55 (fun q146 eq146 gq146 => ?_)
        have uq146 : w = q146 := (m131).trans eq146.symm
        subst uq146
        refine lv_dup hx hb dX9_night_58 rfl ?_
        refine x_gi C hTH130 (ci := 8) (k := 10) rfl inX8 (by decide) wF_X9_293 gw rg_0 rfl dX9_night_59 (fun x147 ex147 bx147 => ?_)
        have ux147 : x147 = 0 := ex147.trans m139
        subst ux147
        refine lv_iconst (v := 1) hx hb dX9_night_62 (by decide) ?_
        refine lv_iadd hx hb dX9_night_63 ?_
        refine lv_topi (fun x148 ex148 => ?_)
        have tx148 : x148 = 1 := by rw [ex148]; rfl
        rw [tx148] at ex148 ⊢
        clear tx148 ex148
        refine x_put C hTH130 hSH130 (ci := 8) (k := 10) (v := .int 1) (ty0 := tyX8) rfl inX8 tyX8_ok nmX8 (by decide) rfl wF_X9_293 gw rg_0 rfl rfl (okI (by have := i_rng (1 : Int32); omega) (by have := i_rng (1 : Int32); omega)) rfl rfl (AE_in gw (by decide)) dX9_night_64 (fun H149 locsH149 hTH149 hSH149 wH149 => ?_)
        have m150 := m131.trans (Wr.neR wH149 (Or.inl (G_ne ga gw (by decide)))).symm
        have m151 := (Wr.neV wH149 (Or.inl (G_ne ga gw (by decide)))).trans m132
        have m152 := (Wr.neI wH149 (Or.inl (G_ne ga gw (by decide)))).trans m133
        have m153 := (Wr.neI wH149 (Or.inr (x_apart hKT hts inX8 tyX8 tyX8_ok nmX8 rfl 1 10 (by decide) (by decide) (by decide)))).trans m134
        have m154 := (Wr.neI wH149 (Or.inr (x_apart hKT hts inX8 tyX8 tyX8_ok nmX8 rfl 4 10 (by decide) (by decide) (by decide)))).trans m135
        have m155 := (Wr.neI wH149 (Or.inr (x_apart hKT hts inX8 tyX8 tyX8_ok nmX8 rfl 5 10 (by decide) (by decide) (by decide)))).trans m136
        have m156 := (Wr.neI wH149 (Or.inr (x_apart hKT hts inX8 tyX8 tyX8_ok nmX8 rfl 6 10 (by decide) (by decide) (by decide)))).trans m137
        have m157 := (Wr.neI wH149 (Or.inr (x_apart hKT hts inX8 tyX8 tyX8_ok nmX8 rfl 7 10 (by decide) (by decide) (by decide)))).trans m138
        have m159 := (Wr.neI wH149 (Or.inr (x_apart hKT hts inX8 tyX8 tyX8_ok nmX8 rfl 13 10 (by decide) (by decide) (by decide)))).trans m140
        have m160 := (Wr.neI wH149 (Or.inr (x_apart hKT hts inX8 tyX8 tyX8_ok nmX8 rfl 16 10 (by decide) (by decide) (by decide)))).trans m141
        have m161 := m142.trans (Wr.neR wH149 (Or.inr (x_apart hKT hts inX8 tyX8 tyX8_ok nmX8 rfl 8 10 (by decide) (by decide) (by decide)))).symm
        have m162 := m143.trans (Wr.neI wH149 (Or.inl (G_ne gq109 gw (by decide)))).symm
        have m163 := m144.trans (Wr.neR wH149 (Or.inr (x_apart hKT hts inX8 tyX8 tyX8_ok nmX8 rfl 9 10 (by decide) (by decide) (by decide)))).symm
        have m164 := m145.trans (Wr.neI wH149 (Or.inl (G_ne gq127 gw (by decide)))).symm
        have m165 := Wr.I wH149
        refine lv_aload_n hx hb dX9_night_67 rfl (lv_at hl 0 rfl) ?_
        refine x_gr C hTH149 (ci := 9) (k := 0) rfl inX9 (by decide) wF_X9_12 ga rg_68 rfl dX9_night_68 (fun q166 eq166 gq166 => ?_)
        have uq166 : w = q166 := (m150).trans eq166.symm
        subst uq166
        refine x_gi C hTH149 (ci := 8) (k := 10) rfl inX8 (by decide) wF_X9_293 gw rg_0 rfl dX9_night_71 (fun x167 ex167 bx167 => ?_)
        have ux167 : x167 = 1 := ex167.trans m165
        subst ux167
        refine lv_iconst (v := 1) hx hb dX9_night_74 (by decide) ?_
        refine lv_isub hx hb dX9_night_75 ?_
        refine lv_topi (fun x168 ex168 => ?_)
        have tx168 : x168 = 0 := by rw [ex168]; rfl
        rw [tx168] at ex168 ⊢
        clear tx168 ex168
        exact x_iret C hQ dX9_night_76 hSH149 (by decide) (by decide) (⟨⟨0, rfl, by omega⟩, G, fun _ _ => rfl, hTH149⟩)
      · have k107 := i_nlt c106
        exfalso
        omega
  · subst hvH101
    refine W.eq (g2 := F0 m 5 ls [.int 0]) rfl ?_
    refine lv_if_eq (tgt := 20) hx hb dX9_night_5 (by decide) (fun c169 => ?_) (fun c169 => ?_)
    · have k170 := i_eq c169
      refine lv_iconst (v := (-1)) hx hb dX9_night_20 (by decide) ?_
      exact x_iret C hQ dX9_night_21 hSH101 (by decide) (by decide) (⟨⟨(-1), rfl, by omega⟩, G, fun _ _ => rfl, hT⟩)
    · have k170 := i_ne c169
      exfalso
      omega

set_option maxHeartbeats 4000000 in
set_option maxRecDepth 100000 in
theorem f_X9_note (l : Launch) (K : KE) (G : Nat → Option Nat) (H : Heap) {a w : Nat} (x0 : Int32) (x1 : Int32) (hT : TY K G H) (ga : G a = some 68) (gw : G w = some 0) (fx : FX K H a w) : MX l K yX9_note cX9_note 3 (some .int) 1 22 0 0 [.ref a, .int x0, .int x1] H (AE G [0, 30, 31] H.size) (fun v H1 => (∃ r : Int32, v = some (.int r) ∧ (((1 ≤ x0.toInt ∧ x0.toInt ≤ 999999 ∧ 1 ≤ x1.toInt ∧ x1.toInt ≤ 99) ∧ r.toInt = 0) ∨ (¬ (1 ≤ x0.toInt ∧ x0.toInt ≤ 999999 ∧ 1 ≤ x1.toInt ∧ x1.toInt ≤ 99) ∧ r.toInt = -1))) ∧ ∃ G1 : Nat → Option Nat, (∀ q, q < H.size → G1 q = G q) ∧ TY K G1 H1) := by
  refine MX.of (by decide +kernel) (Nat.le_of_ble_eq_true rfl) ?_
  intro p e s m below meth c ls Q C hH hl hQ
  subst hH
  have C : CX p K s m _ meth c RX9 cX9_note 3 (some .int) "note" := C
  obtain ⟨hx, hb, hml, hown, hts, hKT, hr, hlocks, hnm⟩ := id C
  have hl : lv_has ls 3 [(0, .ref a), (1, .int x0), (2, .int x1)] := hl
  have hS : va_S (AE G [0, 30, 31] s.heap.size) s.heap s.heap [] := va_S.rf
  have n_m1 : ((-1) : Int32).toInt = -1 := rfl
  have n_0 : (0 : Int32).toInt = 0 := rfl
  have n_1 : (1 : Int32).toInt = 1 := rfl
  have n_8 : (8 : Int32).toInt = 8 := rfl
  have n_99 : (99 : Int32).toInt = 99 := rfl
  have n_999999 : (999999 : Int32).toInt = 999999 := rfl
  obtain ⟨f0, f1, f2, f3, f4, f5, f6, f7, f8, f9, f10⟩ := fx
  refine lv_iload_n hx hb dX9_note_0 rfl (lv_at hl 1 rfl) ?_
  refine lv_iconst (v := 1) hx hb dX9_note_1 (by decide) ?_
  refine lv_ldc (v := 999999) hx hb hown (hts _ wK_X9_180) dX9_note_2 ?_
  refine x_S (As := [.int x0, .int 1, .int 999999]) (rest := []) C (c_X9_within l K G s.heap (x0) (1) (999999) hT) yo_X9_within wM_X9_89 ⟨⟨by decide, by decide⟩, by decide, by decide⟩ rfl hl.1 rfl (Nat.le_of_ble_eq_true rfl) dX9_note_4 hS (AE_sub (fun _ _ => rfl) (by decide) hS.1) (fun vH101 H101 locsH101 pH101 zH101 kH101 hSH101 => ?_)
  have hqH101 := pH101.1.symm
  subst hqH101
  rcases pH101.2 with ⟨hvH101, hcH101⟩ | ⟨hvH101, hcH101⟩
  · subst hvH101
    refine W.eq (g2 := F0 m 7 ls [.int 1]) rfl ?_
    refine lv_if_eq (tgt := 32) hx hb dX9_note_7 (by decide) (fun c102 => ?_) (fun c102 => ?_)
    · have k103 := i_eq c102
      exfalso
      omega
    · have k103 := i_ne c102
      refine lv_iload_n hx hb dX9_note_10 rfl (lv_at hl 2 rfl) ?_
      refine lv_iconst (v := 1) hx hb dX9_note_11 (by decide) ?_
      refine lv_bipush (v := 99) hx hb dX9_note_12 (by decide) ?_
      refine x_S (As := [.int x1, .int 1, .int 99]) (rest := []) C (c_X9_within l K G s.heap (x1) (1) (99) hT) yo_X9_within wM_X9_89 ⟨⟨by decide, by decide⟩, by decide, by decide⟩ rfl hl.1 rfl (Nat.le_of_ble_eq_true rfl) dX9_note_14 hSH101 (AE_sub (fun _ _ => rfl) (by decide) hSH101.1) (fun vH104 H104 locsH104 pH104 zH104 kH104 hSH104 => ?_)
      have hqH104 := pH104.1.symm
      subst hqH104
      rcases pH104.2 with ⟨hvH104, hcH104⟩ | ⟨hvH104, hcH104⟩
      · subst hvH104
        refine W.eq (g2 := F0 m 17 ls [.int 1]) rfl ?_
        refine lv_if_eq (tgt := 32) hx hb dX9_note_17 (by decide) (fun c105 => ?_) (fun c105 => ?_)
        · have k106 := i_eq c105
          exfalso
          omega
        · have k106 := i_ne c105
          refine lv_aload_n hx hb dX9_note_20 rfl (lv_at hl 0 rfl) ?_
          refine x_gr C hT (ci := 9) (k := 0) rfl inX9 (by decide) wF_X9_12 ga rg_68 rfl dX9_note_21 (fun q107 eq107 gq107 => ?_)
          have uq107 : w = q107 := (f0).trans eq107.symm
          subst uq107
          refine x_gi C hT (ci := 8) (k := 13) rfl inX8 (by decide) wF_X9_317 gw rg_0 rfl dX9_note_24 (fun x108 ex108 bx108 => ?_)
          have ux108 : x108 = 0 := ex108.trans f9
          subst ux108
          refine lv_bipush (v := 8) hx hb dX9_note_27 (by decide) ?_
          refine lv_icmp_lt (tgt := 34) hx hb dX9_note_29 (by decide) (fun c109 => ?_) (fun c109 => ?_)
          · have k110 := i_lt c109
            refine lv_aload_n hx hb dX9_note_34 rfl (lv_at hl 0 rfl) ?_
            refine x_gr C hT (ci := 9) (k := 0) rfl inX9 (by decide) wF_X9_12 ga rg_68 rfl dX9_note_35 (fun q111 eq111 gq111 => ?_)
            have uq111 : w = q111 := (f0).trans eq111.symm
            subst uq111
            refine x_gr C hT (ci := 8) (k := 11) rfl inX8 (by decide) wF_X9_320 gw rg_0 rfl dX9_note_38 (fun q112 eq112 gq112 => ?_)
            refine lv_aload_n hx hb dX9_note_41 rfl (lv_at hl 0 rfl) ?_
            refine x_gr C hT (ci := 9) (k := 0) rfl inX9 (by decide) wF_X9_12 ga rg_68 rfl dX9_note_42 (fun q113 eq113 gq113 => ?_)
            have uq113 : w = q113 := (f0).trans eq113.symm
            subst uq113
            refine x_gi C hT (ci := 8) (k := 13) rfl inX8 (by decide) wF_X9_317 gw rg_0 rfl dX9_note_45 (fun x114 ex114 bx114 => ?_)
            have ux114 : x114 = 0 := ex114.trans f9
            subst ux114
            refine lv_iload_n hx hb dX9_note_48 rfl (lv_at hl 1 rfl) ?_
            refine x_iast C hT hSH104 gq112 rg_30 (by decide) (by decide) ⟨by have := i_rng x0; omega, by have := i_rng x0; omega⟩ (AE_in gq112 (by decide)) dX9_note_49 (fun H115 locsH115 hTH115 hSH115 wH115 => ?_)
            have m116 := f0.trans (Wr.neR wH115 (Or.inl (G_ne ga gq112 (by decide)))).symm
            have m117 := (Wr.neV wH115 (Or.inl (G_ne ga gq112 (by decide)))).trans f1
            have m118 := (Wr.neI wH115 (Or.inl (G_ne ga gq112 (by decide)))).trans f2
            have m119 := (Wr.neI wH115 (Or.inl (G_ne gw gq112 (by decide)))).trans f3
            have m120 := (Wr.neI wH115 (Or.inl (G_ne gw gq112 (by decide)))).trans f4
            have m121 := (Wr.neI wH115 (Or.inl (G_ne gw gq112 (by decide)))).trans f5
            have m122 := (Wr.neI wH115 (Or.inl (G_ne gw gq112 (by decide)))).trans f6
            have m123 := (Wr.neI wH115 (Or.inl (G_ne gw gq112 (by decide)))).trans f7
            have m124 := (Wr.neI wH115 (Or.inl (G_ne gw gq112 (by decide)))).trans f8
            have m125 := (Wr.neI wH115 (Or.inl (G_ne gw gq112 (by decide)))).trans f9
            have m126 := (Wr.neI wH115 (Or.inl (G_ne gw gq112 (by decide)))).trans f10
            have m127 := eq112.trans (Wr.neR wH115 (Or.inl (G_ne gw gq112 (by decide)))).symm
            have m128 := Wr.I wH115
            have m128 := m128.symm
            refine lv_aload_n hx hb dX9_note_50 rfl (lv_at hl 0 rfl) ?_
            refine x_gr C hTH115 (ci := 9) (k := 0) rfl inX9 (by decide) wF_X9_12 ga rg_68 rfl dX9_note_51 (fun q129 eq129 gq129 => ?_)
            have uq129 : w = q129 := (m116).trans eq129.symm
            subst uq129
            refine x_gr C hTH115 (ci := 8) (k := 12) rfl inX8 (by decide) wF_X9_323 gw rg_0 rfl dX9_note_54 (fun q130 eq130 gq130 => ?_)
            refine lv_aload_n hx hb dX9_note_57 rfl (lv_at hl 0 rfl) ?_
            refine x_gr C hTH115 (ci := 9) (k := 0) rfl inX9 (by decide) wF_X9_12 ga rg_68 rfl dX9_note_58 (fun q131 eq131 gq131 => ?_)
            have uq131 : w = q131 := (m116).trans eq131.symm
            subst uq131
            refine x_gi C hTH115 (ci := 8) (k := 13) rfl inX8 (by decide) wF_X9_317 gw rg_0 rfl dX9_note_61 (fun x132 ex132 bx132 => ?_)
            have ux132 : x132 = 0 := ex132.trans m125
            subst ux132
            refine lv_iload_n hx hb dX9_note_64 rfl (lv_at hl 2 rfl) ?_
            refine x_iast C hTH115 hSH115 gq130 rg_31 (by decide) (by decide) ⟨by have := i_rng x1; omega, by have := i_rng x1; omega⟩ (AE_in gq130 (by decide)) dX9_note_65 (fun H133 locsH133 hTH133 hSH133 wH133 => ?_)
            have m134 := m116.trans (Wr.neR wH133 (Or.inl (G_ne ga gq130 (by decide)))).symm
            have m135 := (Wr.neV wH133 (Or.inl (G_ne ga gq130 (by decide)))).trans m117
            have m136 := (Wr.neI wH133 (Or.inl (G_ne ga gq130 (by decide)))).trans m118
            have m137 := (Wr.neI wH133 (Or.inl (G_ne gw gq130 (by decide)))).trans m119
            have m138 := (Wr.neI wH133 (Or.inl (G_ne gw gq130 (by decide)))).trans m120
            have m139 := (Wr.neI wH133 (Or.inl (G_ne gw gq130 (by decide)))).trans m121
            have m140 := (Wr.neI wH133 (Or.inl (G_ne gw gq130 (by decide)))).trans m122
            have m141 := (Wr.neI wH133 (Or.inl (G_ne gw gq130 (by decide)))).trans m123
            have m142 := (Wr.neI wH133 (Or.inl (G_ne gw gq130 (by decide)))).trans m124
            have m143 := (Wr.neI wH133 (Or.inl (G_ne gw gq130 (by decide)))).trans m125
            have m144 := (Wr.neI wH133 (Or.inl (G_ne gw gq130 (by decide)))).trans m126
            have m145 := m127.trans (Wr.neR wH133 (Or.inl (G_ne gw gq130 (by decide)))).symm
            have m146 := m128.trans (Wr.neI wH133 (Or.inl (G_ne gq112 gq130 (by decide)))).symm
            have m147 := eq130.trans (Wr.neR wH133 (Or.inl (G_ne gw gq130 (by decide)))).symm
            have m148 := Wr.I wH133
            have m148 := m148.symm
            refine lv_aload_n hx hb dX9_note_66 rfl (lv_at hl 0 rfl) ?_
            refine x_gr C hTH133 (ci := 9) (k := 0) rfl inX9 (by decide) wF_X9_12 ga rg_68 rfl dX9_note_67 (fun q149 eq149 gq149 => ?_)
            have uq149 : w = q149 := (m134).trans eq149.symm
            subst uq149
            refine lv_dup hx hb dX9_note_70 rfl ?_
            refine x_gi C hTH133 (ci := 8) (k := 13) rfl inX8 (by decide) wF_X9_317 gw rg_0 rfl dX9_note_71 (fun x150 ex150 bx150 => ?_)
            have ux150 : x150 = 0 := ex150.trans m143
            subst ux150
            refine lv_iconst (v := 1) hx hb dX9_note_74 (by decide) ?_
            refine lv_iadd hx hb dX9_note_75 ?_
            refine lv_topi (fun x151 ex151 => ?_)
            have tx151 : x151 = 1 := by rw [ex151]; rfl
            rw [tx151] at ex151 ⊢
            clear tx151 ex151
            refine x_put C hTH133 hSH133 (ci := 8) (k := 13) (v := .int 1) (ty0 := tyX8) rfl inX8 tyX8_ok nmX8 (by decide) rfl wF_X9_317 gw rg_0 rfl rfl (okI (by have := i_rng (1 : Int32); omega) (by have := i_rng (1 : Int32); omega)) rfl rfl (AE_in gw (by decide)) dX9_note_76 (fun H152 locsH152 hTH152 hSH152 wH152 => ?_)
            have m153 := m134.trans (Wr.neR wH152 (Or.inl (G_ne ga gw (by decide)))).symm
            have m154 := (Wr.neV wH152 (Or.inl (G_ne ga gw (by decide)))).trans m135
            have m155 := (Wr.neI wH152 (Or.inl (G_ne ga gw (by decide)))).trans m136
            have m156 := (Wr.neI wH152 (Or.inr (x_apart hKT hts inX8 tyX8 tyX8_ok nmX8 rfl 1 13 (by decide) (by decide) (by decide)))).trans m137
            have m157 := (Wr.neI wH152 (Or.inr (x_apart hKT hts inX8 tyX8 tyX8_ok nmX8 rfl 4 13 (by decide) (by decide) (by decide)))).trans m138
            have m158 := (Wr.neI wH152 (Or.inr (x_apart hKT hts inX8 tyX8 tyX8_ok nmX8 rfl 5 13 (by decide) (by decide) (by decide)))).trans m139
            have m159 := (Wr.neI wH152 (Or.inr (x_apart hKT hts inX8 tyX8 tyX8_ok nmX8 rfl 6 13 (by decide) (by decide) (by decide)))).trans m140
            have m160 := (Wr.neI wH152 (Or.inr (x_apart hKT hts inX8 tyX8 tyX8_ok nmX8 rfl 7 13 (by decide) (by decide) (by decide)))).trans m141
            have m161 := (Wr.neI wH152 (Or.inr (x_apart hKT hts inX8 tyX8 tyX8_ok nmX8 rfl 10 13 (by decide) (by decide) (by decide)))).trans m142
            have m163 := (Wr.neI wH152 (Or.inr (x_apart hKT hts inX8 tyX8 tyX8_ok nmX8 rfl 16 13 (by decide) (by decide) (by decide)))).trans m144
            have m164 := m145.trans (Wr.neR wH152 (Or.inr (x_apart hKT hts inX8 tyX8 tyX8_ok nmX8 rfl 11 13 (by decide) (by decide) (by decide)))).symm
            have m165 := m146.trans (Wr.neI wH152 (Or.inl (G_ne gq112 gw (by decide)))).symm
            have m166 := m147.trans (Wr.neR wH152 (Or.inr (x_apart hKT hts inX8 tyX8 tyX8_ok nmX8 rfl 12 13 (by decide) (by decide) (by decide)))).symm
            have m167 := m148.trans (Wr.neI wH152 (Or.inl (G_ne gq130 gw (by decide)))).symm
            have m168 := Wr.I wH152
            refine lv_aload_n hx hb dX9_note_79 rfl (lv_at hl 0 rfl) ?_
            refine x_gr C hTH152 (ci := 9) (k := 0) rfl inX9 (by decide) wF_X9_12 ga rg_68 rfl dX9_note_80 (fun q169 eq169 gq169 => ?_)
            have uq169 : w = q169 := (m153).trans eq169.symm
            subst uq169
            refine x_gi C hTH152 (ci := 8) (k := 13) rfl inX8 (by decide) wF_X9_317 gw rg_0 rfl dX9_note_83 (fun x170 ex170 bx170 => ?_)
            have ux170 : x170 = 1 := ex170.trans m168
            subst ux170
            refine lv_iconst (v := 1) hx hb dX9_note_86 (by decide) ?_
            refine lv_isub hx hb dX9_note_87 ?_
            refine lv_topi (fun x171 ex171 => ?_)
            have tx171 : x171 = 0 := by rw [ex171]; rfl
            rw [tx171] at ex171 ⊢
            clear tx171 ex171
            exact x_iret C hQ dX9_note_88 hSH152 (by decide) (by decide) (⟨⟨0, rfl, by omega⟩, G, fun _ _ => rfl, hTH152⟩)
          · have k110 := i_nlt c109
            exfalso
            omega
      · subst hvH104
        refine W.eq (g2 := F0 m 17 ls [.int 0]) rfl ?_
        refine lv_if_eq (tgt := 32) hx hb dX9_note_17 (by decide) (fun c172 => ?_) (fun c172 => ?_)
        · have k173 := i_eq c172
          refine lv_iconst (v := (-1)) hx hb dX9_note_32 (by decide) ?_
          exact x_iret C hQ dX9_note_33 hSH104 (by decide) (by decide) (⟨⟨(-1), rfl, by omega⟩, G, fun _ _ => rfl, hT⟩)
        · have k173 := i_ne c172
          exfalso
          omega
  · subst hvH101
    refine W.eq (g2 := F0 m 7 ls [.int 0]) rfl ?_
    refine lv_if_eq (tgt := 32) hx hb dX9_note_7 (by decide) (fun c174 => ?_) (fun c174 => ?_)
    · have k175 := i_eq c174
      refine lv_iconst (v := (-1)) hx hb dX9_note_32 (by decide) ?_
      exact x_iret C hQ dX9_note_33 hSH101 (by decide) (by decide) (⟨⟨(-1), rfl, by omega⟩, G, fun _ _ => rfl, hT⟩)
    · have k175 := i_ne c174
      exfalso
      omega

set_option maxHeartbeats 4000000 in
set_option maxRecDepth 100000 in
theorem f_X9_blank (l : Launch) (K : KE) (G : Nat → Option Nat) (H : Heap) {a w : Nat} (x0 : Int32) (x1 : Int32) (hT : TY K G H) (ga : G a = some 68) (gw : G w = some 0) (fx : FX K H a w) : MX l K yX9_blank cX9_blank 3 (some .int) 1 22 0 0 [.ref a, .int x0, .int x1] H (AE G [0, 32, 33] H.size) (fun v H1 => (∃ r : Int32, v = some (.int r) ∧ (((1 ≤ x0.toInt ∧ x0.toInt ≤ 99 ∧ 0 ≤ x1.toInt ∧ x1.toInt ≤ 99) ∧ r.toInt = 0) ∨ (¬ (1 ≤ x0.toInt ∧ x0.toInt ≤ 99 ∧ 0 ≤ x1.toInt ∧ x1.toInt ≤ 99) ∧ r.toInt = -1))) ∧ ∃ G1 : Nat → Option Nat, (∀ q, q < H.size → G1 q = G q) ∧ TY K G1 H1) := by
  refine MX.of (by decide +kernel) (Nat.le_of_ble_eq_true rfl) ?_
  intro p e s m below meth c ls Q C hH hl hQ
  subst hH
  have C : CX p K s m _ meth c RX9 cX9_blank 3 (some .int) "blank" := C
  obtain ⟨hx, hb, hml, hown, hts, hKT, hr, hlocks, hnm⟩ := id C
  have hl : lv_has ls 3 [(0, .ref a), (1, .int x0), (2, .int x1)] := hl
  have hS : va_S (AE G [0, 32, 33] s.heap.size) s.heap s.heap [] := va_S.rf
  have n_m1 : ((-1) : Int32).toInt = -1 := rfl
  have n_0 : (0 : Int32).toInt = 0 := rfl
  have n_1 : (1 : Int32).toInt = 1 := rfl
  have n_8 : (8 : Int32).toInt = 8 := rfl
  have n_99 : (99 : Int32).toInt = 99 := rfl
  obtain ⟨f0, f1, f2, f3, f4, f5, f6, f7, f8, f9, f10⟩ := fx
  refine lv_iload_n hx hb dX9_blank_0 rfl (lv_at hl 1 rfl) ?_
  refine lv_iconst (v := 1) hx hb dX9_blank_1 (by decide) ?_
  refine lv_bipush (v := 99) hx hb dX9_blank_2 (by decide) ?_
  refine x_S (As := [.int x0, .int 1, .int 99]) (rest := []) C (c_X9_within l K G s.heap (x0) (1) (99) hT) yo_X9_within wM_X9_89 ⟨⟨by decide, by decide⟩, by decide, by decide⟩ rfl hl.1 rfl (Nat.le_of_ble_eq_true rfl) dX9_blank_4 hS (AE_sub (fun _ _ => rfl) (by decide) hS.1) (fun vH101 H101 locsH101 pH101 zH101 kH101 hSH101 => ?_)
  have hqH101 := pH101.1.symm
  subst hqH101
  rcases pH101.2 with ⟨hvH101, hcH101⟩ | ⟨hvH101, hcH101⟩
  · subst hvH101
    refine W.eq (g2 := F0 m 7 ls [.int 1]) rfl ?_
    refine lv_if_eq (tgt := 32) hx hb dX9_blank_7 (by decide) (fun c102 => ?_) (fun c102 => ?_)
    · have k103 := i_eq c102
      exfalso
      omega
    · have k103 := i_ne c102
      refine lv_iload_n hx hb dX9_blank_10 rfl (lv_at hl 2 rfl) ?_
      refine lv_iconst (v := 0) hx hb dX9_blank_11 (by decide) ?_
      refine lv_bipush (v := 99) hx hb dX9_blank_12 (by decide) ?_
      refine x_S (As := [.int x1, .int 0, .int 99]) (rest := []) C (c_X9_within l K G s.heap (x1) (0) (99) hT) yo_X9_within wM_X9_89 ⟨⟨by decide, by decide⟩, by decide, by decide⟩ rfl hl.1 rfl (Nat.le_of_ble_eq_true rfl) dX9_blank_14 hSH101 (AE_sub (fun _ _ => rfl) (by decide) hSH101.1) (fun vH104 H104 locsH104 pH104 zH104 kH104 hSH104 => ?_)
      have hqH104 := pH104.1.symm
      subst hqH104
      rcases pH104.2 with ⟨hvH104, hcH104⟩ | ⟨hvH104, hcH104⟩
      · subst hvH104
        refine W.eq (g2 := F0 m 17 ls [.int 1]) rfl ?_
        refine lv_if_eq (tgt := 32) hx hb dX9_blank_17 (by decide) (fun c105 => ?_) (fun c105 => ?_)
        · have k106 := i_eq c105
          exfalso
          omega
        · have k106 := i_ne c105
          refine lv_aload_n hx hb dX9_blank_20 rfl (lv_at hl 0 rfl) ?_
          refine x_gr C hT (ci := 9) (k := 0) rfl inX9 (by decide) wF_X9_12 ga rg_68 rfl dX9_blank_21 (fun q107 eq107 gq107 => ?_)
          have uq107 : w = q107 := (f0).trans eq107.symm
          subst uq107
          refine x_gi C hT (ci := 8) (k := 16) rfl inX8 (by decide) wF_X9_326 gw rg_0 rfl dX9_blank_24 (fun x108 ex108 bx108 => ?_)
          have ux108 : x108 = 0 := ex108.trans f10
          subst ux108
          refine lv_bipush (v := 8) hx hb dX9_blank_27 (by decide) ?_
          refine lv_icmp_lt (tgt := 34) hx hb dX9_blank_29 (by decide) (fun c109 => ?_) (fun c109 => ?_)
          · have k110 := i_lt c109
            refine lv_aload_n hx hb dX9_blank_34 rfl (lv_at hl 0 rfl) ?_
            refine x_gr C hT (ci := 9) (k := 0) rfl inX9 (by decide) wF_X9_12 ga rg_68 rfl dX9_blank_35 (fun q111 eq111 gq111 => ?_)
            have uq111 : w = q111 := (f0).trans eq111.symm
            subst uq111
            refine x_gr C hT (ci := 8) (k := 14) rfl inX8 (by decide) wF_X9_329 gw rg_0 rfl dX9_blank_38 (fun q112 eq112 gq112 => ?_)
            refine lv_aload_n hx hb dX9_blank_41 rfl (lv_at hl 0 rfl) ?_
            refine x_gr C hT (ci := 9) (k := 0) rfl inX9 (by decide) wF_X9_12 ga rg_68 rfl dX9_blank_42 (fun q113 eq113 gq113 => ?_)
            have uq113 : w = q113 := (f0).trans eq113.symm
            subst uq113
            refine x_gi C hT (ci := 8) (k := 16) rfl inX8 (by decide) wF_X9_326 gw rg_0 rfl dX9_blank_45 (fun x114 ex114 bx114 => ?_)
            have ux114 : x114 = 0 := ex114.trans f10
            subst ux114
            refine lv_iload_n hx hb dX9_blank_48 rfl (lv_at hl 1 rfl) ?_
            refine x_iast C hT hSH104 gq112 rg_32 (by decide) (by decide) ⟨by have := i_rng x0; omega, by have := i_rng x0; omega⟩ (AE_in gq112 (by decide)) dX9_blank_49 (fun H115 locsH115 hTH115 hSH115 wH115 => ?_)
            have m116 := f0.trans (Wr.neR wH115 (Or.inl (G_ne ga gq112 (by decide)))).symm
            have m117 := (Wr.neV wH115 (Or.inl (G_ne ga gq112 (by decide)))).trans f1
            have m118 := (Wr.neI wH115 (Or.inl (G_ne ga gq112 (by decide)))).trans f2
            have m119 := (Wr.neI wH115 (Or.inl (G_ne gw gq112 (by decide)))).trans f3
            have m120 := (Wr.neI wH115 (Or.inl (G_ne gw gq112 (by decide)))).trans f4
            have m121 := (Wr.neI wH115 (Or.inl (G_ne gw gq112 (by decide)))).trans f5
            have m122 := (Wr.neI wH115 (Or.inl (G_ne gw gq112 (by decide)))).trans f6
            have m123 := (Wr.neI wH115 (Or.inl (G_ne gw gq112 (by decide)))).trans f7
            have m124 := (Wr.neI wH115 (Or.inl (G_ne gw gq112 (by decide)))).trans f8
            have m125 := (Wr.neI wH115 (Or.inl (G_ne gw gq112 (by decide)))).trans f9
            have m126 := (Wr.neI wH115 (Or.inl (G_ne gw gq112 (by decide)))).trans f10
            have m127 := eq112.trans (Wr.neR wH115 (Or.inl (G_ne gw gq112 (by decide)))).symm
            have m128 := Wr.I wH115
            have m128 := m128.symm
            refine lv_aload_n hx hb dX9_blank_50 rfl (lv_at hl 0 rfl) ?_
            refine x_gr C hTH115 (ci := 9) (k := 0) rfl inX9 (by decide) wF_X9_12 ga rg_68 rfl dX9_blank_51 (fun q129 eq129 gq129 => ?_)
            have uq129 : w = q129 := (m116).trans eq129.symm
            subst uq129
            refine x_gr C hTH115 (ci := 8) (k := 15) rfl inX8 (by decide) wF_X9_332 gw rg_0 rfl dX9_blank_54 (fun q130 eq130 gq130 => ?_)
            refine lv_aload_n hx hb dX9_blank_57 rfl (lv_at hl 0 rfl) ?_
            refine x_gr C hTH115 (ci := 9) (k := 0) rfl inX9 (by decide) wF_X9_12 ga rg_68 rfl dX9_blank_58 (fun q131 eq131 gq131 => ?_)
            have uq131 : w = q131 := (m116).trans eq131.symm
            subst uq131
            refine x_gi C hTH115 (ci := 8) (k := 16) rfl inX8 (by decide) wF_X9_326 gw rg_0 rfl dX9_blank_61 (fun x132 ex132 bx132 => ?_)
            have ux132 : x132 = 0 := ex132.trans m126
            subst ux132
            refine lv_iload_n hx hb dX9_blank_64 rfl (lv_at hl 2 rfl) ?_
            refine x_iast C hTH115 hSH115 gq130 rg_33 (by decide) (by decide) ⟨by have := i_rng x1; omega, by have := i_rng x1; omega⟩ (AE_in gq130 (by decide)) dX9_blank_65 (fun H133 locsH133 hTH133 hSH133 wH133 => ?_)
            have m134 := m116.trans (Wr.neR wH133 (Or.inl (G_ne ga gq130 (by decide)))).symm
            have m135 := (Wr.neV wH133 (Or.inl (G_ne ga gq130 (by decide)))).trans m117
            have m136 := (Wr.neI wH133 (Or.inl (G_ne ga gq130 (by decide)))).trans m118
            have m137 := (Wr.neI wH133 (Or.inl (G_ne gw gq130 (by decide)))).trans m119
            have m138 := (Wr.neI wH133 (Or.inl (G_ne gw gq130 (by decide)))).trans m120
            have m139 := (Wr.neI wH133 (Or.inl (G_ne gw gq130 (by decide)))).trans m121
            have m140 := (Wr.neI wH133 (Or.inl (G_ne gw gq130 (by decide)))).trans m122
            have m141 := (Wr.neI wH133 (Or.inl (G_ne gw gq130 (by decide)))).trans m123
            have m142 := (Wr.neI wH133 (Or.inl (G_ne gw gq130 (by decide)))).trans m124
            have m143 := (Wr.neI wH133 (Or.inl (G_ne gw gq130 (by decide)))).trans m125
            have m144 := (Wr.neI wH133 (Or.inl (G_ne gw gq130 (by decide)))).trans m126
            have m145 := m127.trans (Wr.neR wH133 (Or.inl (G_ne gw gq130 (by decide)))).symm
            have m146 := m128.trans (Wr.neI wH133 (Or.inl (G_ne gq112 gq130 (by decide)))).symm
            have m147 := eq130.trans (Wr.neR wH133 (Or.inl (G_ne gw gq130 (by decide)))).symm
            have m148 := Wr.I wH133
            have m148 := m148.symm
            refine lv_aload_n hx hb dX9_blank_66 rfl (lv_at hl 0 rfl) ?_
            refine x_gr C hTH133 (ci := 9) (k := 0) rfl inX9 (by decide) wF_X9_12 ga rg_68 rfl dX9_blank_67 (fun q149 eq149 gq149 => ?_)
            have uq149 : w = q149 := (m134).trans eq149.symm
            subst uq149
            refine lv_dup hx hb dX9_blank_70 rfl ?_
            refine x_gi C hTH133 (ci := 8) (k := 16) rfl inX8 (by decide) wF_X9_326 gw rg_0 rfl dX9_blank_71 (fun x150 ex150 bx150 => ?_)
            have ux150 : x150 = 0 := ex150.trans m144
            subst ux150
            refine lv_iconst (v := 1) hx hb dX9_blank_74 (by decide) ?_
            refine lv_iadd hx hb dX9_blank_75 ?_
            refine lv_topi (fun x151 ex151 => ?_)
            have tx151 : x151 = 1 := by rw [ex151]; rfl
            rw [tx151] at ex151 ⊢
            clear tx151 ex151
            refine x_put C hTH133 hSH133 (ci := 8) (k := 16) (v := .int 1) (ty0 := tyX8) rfl inX8 tyX8_ok nmX8 (by decide) rfl wF_X9_326 gw rg_0 rfl rfl (okI (by have := i_rng (1 : Int32); omega) (by have := i_rng (1 : Int32); omega)) rfl rfl (AE_in gw (by decide)) dX9_blank_76 (fun H152 locsH152 hTH152 hSH152 wH152 => ?_)
            have m153 := m134.trans (Wr.neR wH152 (Or.inl (G_ne ga gw (by decide)))).symm
            have m154 := (Wr.neV wH152 (Or.inl (G_ne ga gw (by decide)))).trans m135
            have m155 := (Wr.neI wH152 (Or.inl (G_ne ga gw (by decide)))).trans m136
            have m156 := (Wr.neI wH152 (Or.inr (x_apart hKT hts inX8 tyX8 tyX8_ok nmX8 rfl 1 16 (by decide) (by decide) (by decide)))).trans m137
            have m157 := (Wr.neI wH152 (Or.inr (x_apart hKT hts inX8 tyX8 tyX8_ok nmX8 rfl 4 16 (by decide) (by decide) (by decide)))).trans m138
            have m158 := (Wr.neI wH152 (Or.inr (x_apart hKT hts inX8 tyX8 tyX8_ok nmX8 rfl 5 16 (by decide) (by decide) (by decide)))).trans m139
            have m159 := (Wr.neI wH152 (Or.inr (x_apart hKT hts inX8 tyX8 tyX8_ok nmX8 rfl 6 16 (by decide) (by decide) (by decide)))).trans m140
            have m160 := (Wr.neI wH152 (Or.inr (x_apart hKT hts inX8 tyX8 tyX8_ok nmX8 rfl 7 16 (by decide) (by decide) (by decide)))).trans m141
            have m161 := (Wr.neI wH152 (Or.inr (x_apart hKT hts inX8 tyX8 tyX8_ok nmX8 rfl 10 16 (by decide) (by decide) (by decide)))).trans m142
            have m162 := (Wr.neI wH152 (Or.inr (x_apart hKT hts inX8 tyX8 tyX8_ok nmX8 rfl 13 16 (by decide) (by decide) (by decide)))).trans m143
            have m164 := m145.trans (Wr.neR wH152 (Or.inr (x_apart hKT hts inX8 tyX8 tyX8_ok nmX8 rfl 14 16 (by decide) (by decide) (by decide)))).symm
            have m165 := m146.trans (Wr.neI wH152 (Or.inl (G_ne gq112 gw (by decide)))).symm
            have m166 := m147.trans (Wr.neR wH152 (Or.inr (x_apart hKT hts inX8 tyX8 tyX8_ok nmX8 rfl 15 16 (by decide) (by decide) (by decide)))).symm
            have m167 := m148.trans (Wr.neI wH152 (Or.inl (G_ne gq130 gw (by decide)))).symm
            have m168 := Wr.I wH152
            refine lv_aload_n hx hb dX9_blank_79 rfl (lv_at hl 0 rfl) ?_
            refine x_gr C hTH152 (ci := 9) (k := 0) rfl inX9 (by decide) wF_X9_12 ga rg_68 rfl dX9_blank_80 (fun q169 eq169 gq169 => ?_)
            have uq169 : w = q169 := (m153).trans eq169.symm
            subst uq169
            refine x_gi C hTH152 (ci := 8) (k := 16) rfl inX8 (by decide) wF_X9_326 gw rg_0 rfl dX9_blank_83 (fun x170 ex170 bx170 => ?_)
            have ux170 : x170 = 1 := ex170.trans m168
            subst ux170
            refine lv_iconst (v := 1) hx hb dX9_blank_86 (by decide) ?_
            refine lv_isub hx hb dX9_blank_87 ?_
            refine lv_topi (fun x171 ex171 => ?_)
            have tx171 : x171 = 0 := by rw [ex171]; rfl
            rw [tx171] at ex171 ⊢
            clear tx171 ex171
            exact x_iret C hQ dX9_blank_88 hSH152 (by decide) (by decide) (⟨⟨0, rfl, by omega⟩, G, fun _ _ => rfl, hTH152⟩)
          · have k110 := i_nlt c109
            exfalso
            omega
      · subst hvH104
        refine W.eq (g2 := F0 m 17 ls [.int 0]) rfl ?_
        refine lv_if_eq (tgt := 32) hx hb dX9_blank_17 (by decide) (fun c172 => ?_) (fun c172 => ?_)
        · have k173 := i_eq c172
          refine lv_iconst (v := (-1)) hx hb dX9_blank_32 (by decide) ?_
          exact x_iret C hQ dX9_blank_33 hSH104 (by decide) (by decide) (⟨⟨(-1), rfl, by omega⟩, G, fun _ _ => rfl, hT⟩)
        · have k173 := i_ne c172
          exfalso
          omega
  · subst hvH101
    refine W.eq (g2 := F0 m 7 ls [.int 0]) rfl ?_
    refine lv_if_eq (tgt := 32) hx hb dX9_blank_7 (by decide) (fun c174 => ?_) (fun c174 => ?_)
    · have k175 := i_eq c174
      refine lv_iconst (v := (-1)) hx hb dX9_blank_32 (by decide) ?_
      exact x_iret C hQ dX9_blank_33 hSH101 (by decide) (by decide) (⟨⟨(-1), rfl, by omega⟩, G, fun _ _ => rfl, hT⟩)
    · have k175 := i_ne c174
      exfalso
      omega
