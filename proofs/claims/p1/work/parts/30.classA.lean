/-- a fresh object of the class, its world w -/
def FX (K : KE) (H : Heap) (a w : Nat) : Prop := w = fR H a (K.1.2 9 0) ∧ fV H a (K.1.2 9 1) = .null ∧ fI H a (K.1.2 9 3) = 0 ∧ fI H w (K.1.2 8 1) = 0 ∧ fI H w (K.1.2 8 4) = 0 ∧ fI H w (K.1.2 8 5) = 10 ∧ fI H w (K.1.2 8 6) = 0 ∧ fI H w (K.1.2 8 7) = (-1) ∧ fI H w (K.1.2 8 10) = 0 ∧ fI H w (K.1.2 8 13) = 0 ∧ fI H w (K.1.2 8 16) = 0
/-- a fresh reference -/
def FM (K : KE) (H : Heap) (b : Nat) : Prop := fI H b (K.1.2 10 1) = 0 ∧ fI H b (K.1.2 10 2) = 0 ∧ fI H b (K.1.2 10 3) = 10 ∧ fI H b (K.1.2 10 18) = 0 ∧ fI H b (K.1.2 10 41) = 0 ∧ fI H b (K.1.2 10 42) = (-1) ∧ fI H b (K.1.2 10 59) = 0 ∧ fI H b (K.1.2 10 62) = 0 ∧ fI H b (K.1.2 10 65) = 0 ∧ fI H b (K.1.2 10 70) = 0
set_option maxHeartbeats 4000000 in
set_option maxRecDepth 100000 in
theorem f_X9_barAt (l : Launch) (K : KE) (G : Nat → Option Nat) (H : Heap) {a w : Nat} (x0 : Int32) (hT : TY K G H) (ga : G a = some 68) (gw : G w = some 0) (fx : FX K H a w) : MX l K yX9_barAt cX9_barAt 2 (some (.object "RingBars$Bar")) 1 22 0 0 [.ref a, .int x0] H (AE G [] H.size) (fun v H1 => H1 = H ∧ v = some .null) := by
  refine MX.of (by decide +kernel) (Nat.le_of_ble_eq_true rfl) ?_
  intro p e s m below meth c ls Q C hH hl hQ
  subst hH
  have C : CX p K s m _ meth c RX9 cX9_barAt 2 (some (.object "RingBars$Bar")) "barAt" := C
  obtain ⟨hx, hb, hml, hown, hts, hKT, hr, hlocks, hnm⟩ := id C
  have hl : lv_has ls 2 [(0, .ref a), (1, .int x0)] := hl
  have hS : va_S (AE G [] s.heap.size) s.heap s.heap [] := va_S.rf
  have n_m1 : ((-1) : Int32).toInt = -1 := rfl
  have n_0 : (0 : Int32).toInt = 0 := rfl
  have n_1 : (1 : Int32).toInt = 1 := rfl
  obtain ⟨f0, f1, f2, f3, f4, f5, f6, f7, f8, f9, f10⟩ := fx
  refine lv_iload_n hx hb dX9_barAt_0 rfl (lv_at hl 1 rfl) ?_
  refine lv_iconst (v := 0) hx hb dX9_barAt_1 (by decide) ?_
  refine lv_aload_n hx hb dX9_barAt_2 rfl (lv_at hl 0 rfl) ?_
  refine x_gr C hT (ci := 9) (k := 0) rfl inX9 (by decide) wF_X9_12 ga rg_68 rfl dX9_barAt_3 (fun q1 eq1 gq1 => ?_)
  have uq1 : w = q1 := (f0).trans eq1.symm
  subst uq1
  refine x_gi C hT (ci := 8) (k := 1) rfl inX8 (by decide) wF_X9_64 gw rg_0 rfl dX9_barAt_6 (fun x2 ex2 bx2 => ?_)
  have ux2 : x2 = 0 := ex2.trans f3
  subst ux2
  refine lv_iconst (v := 1) hx hb dX9_barAt_9 (by decide) ?_
  refine lv_isub hx hb dX9_barAt_10 ?_
  refine lv_topi (fun x3 ex3 => ?_)
  have tx3 : x3 = (-1) := by rw [ex3]; rfl
  rw [tx3] at ex3 ⊢
  clear tx3 ex3
  refine x_S (As := [.int x0, .int 0, .int (-1)]) (rest := []) C (c_X9_within l K G s.heap (x0) (0) ((-1)) hT) yo_X9_within wM_X9_89 ⟨⟨by decide, by decide⟩, by decide, by decide⟩ rfl hl.1 rfl (Nat.le_of_ble_eq_true rfl) dX9_barAt_11 hS (AE_sub (fun _ _ => rfl) (by decide) hS.1) (fun vH4 H4 locsH4 pH4 zH4 kH4 hSH4 => ?_)
  have hqH4 := pH4.1.symm
  subst hqH4
  rcases pH4.2 with ⟨hvH4, hcH4⟩ | ⟨hvH4, hcH4⟩
  · subst hvH4
    refine W.eq (g2 := F0 m 14 ls [.int 1]) rfl ?_
    exfalso
    omega
  · subst hvH4
    refine W.eq (g2 := F0 m 14 ls [.int 0]) rfl ?_
    refine lv_if_eq (tgt := 29) hx hb dX9_barAt_14 (by decide) (fun c5 => ?_) (fun c5 => ?_)
    · have k6 := i_eq c5
      refine lv_null hx hb dX9_barAt_29 ?_
      exact x_aret C hQ (Or.inl rfl) dX9_barAt_30 hSH4 (by decide) (by decide) (⟨rfl, rfl⟩)
    · have k6 := i_ne c5
      exfalso
      omega

set_option maxHeartbeats 4000000 in
set_option maxRecDepth 100000 in
theorem f_X9_slice (l : Launch) (K : KE) (G : Nat → Option Nat) (H : Heap) {a w : Nat} (x0 : Int32) (x1 : Int32) (x2 : Int32) (x3 : Int32) (x4 : Int32) (hT : TY K G H) (ga : G a = some 68) (gw : G w = some 0) (fx : FX K H a w) : MX l K yX9_slice cX9_slice 7 (some .boolean) 2 43 0 0 [.ref a, .int x0, .int x1, .int x2, .int x3, .int x4] H (AE G [] H.size) (fun v H1 => (∃ r : Int32, v = some (.int r) ∧ (r.toInt = 0)) ∧ ∃ G1 : Nat → Option Nat, (∀ q t, G q = some t → G1 q = some t) ∧ TY K G1 H1) := by
  refine MX.of (by decide +kernel) (Nat.le_of_ble_eq_true rfl) ?_
  intro p e s m below meth c ls Q C hH hl hQ
  subst hH
  have C : CX p K s m _ meth c RX9 cX9_slice 7 (some .boolean) "slice" := C
  obtain ⟨hx, hb, hml, hown, hts, hKT, hr, hlocks, hnm⟩ := id C
  have hl : lv_has ls 7 [(0, .ref a), (1, .int x0), (2, .int x1), (3, .int x2), (4, .int x3), (5, .int x4)] := hl
  have hS : va_S (AE G [] s.heap.size) s.heap s.heap [] := va_S.rf
  have n_0 : (0 : Int32).toInt = 0 := rfl
  obtain ⟨f0, f1, f2, f3, f4, f5, f6, f7, f8, f9, f10⟩ := fx
  refine lv_aload_n hx hb dX9_slice_0 rfl (lv_at hl 0 rfl) ?_
  refine lv_iload_n hx hb dX9_slice_1 rfl (lv_at hl 1 rfl) ?_
  refine x_V (As := [.int x0]) (rest := []) C (f_X9_barAt l K G s.heap (w := w) (x0) hT ga gw ⟨f0, f1, f2, f3, f4, f5, f6, f7, f8, f9, f10⟩) yo_X9_barAt wM_X9_78 ⟨⟨by decide, by decide⟩, by decide, by decide⟩ (x_rv C hT (ci := 9) rfl ga rg_68) rfl hl.1 rfl (Nat.le_of_ble_eq_true rfl) dX9_slice_2 hS (AE_sub (fun _ _ => rfl) (by decide) hS.1) (fun vH1 H1 locsH1 pH1 zH1 kH1 hSH1 => ?_)
  have hqH1 := pH1.1.symm
  subst hqH1
  have hvH1 := pH1.2
  subst hvH1
  refine W.eq (g2 := F0 m 5 ls [.null]) rfl ?_
  refine lv_astoreN (lv' := [(6, .null), (0, .ref a), (1, .int x0), (2, .int x1), (3, .int x2), (4, .int x3), (5, .int x4)]) hx hb dX9_slice_5 hl (by decide) rfl (fun ls2 hl3 => ?_)
  refine lv_aloadN hx hb dX9_slice_7 (lv_at hl3 0 rfl) ?_
  refine lv_ifnullN (tgt := 61) hx hb dX9_slice_9 (by decide) ?_
  refine lv_iconst (v := 0) hx hb dX9_slice_61 (by decide) ?_
  exact x_zret C hQ (Or.inl rfl) dX9_slice_62 hSH1 (by decide) (by decide) (⟨⟨0, rfl, by omega⟩, G, fun _ _ h => h, hT⟩)

set_option maxHeartbeats 4000000 in
set_option maxRecDepth 100000 in
theorem f_X9_wax (l : Launch) (K : KE) (G : Nat → Option Nat) (H : Heap) {a w : Nat} (x0 : Int32) (x1 : Int32) (x2 : Int32) (hT : TY K G H) (ga : G a = some 68) (gw : G w = some 0) (fx : FX K H a w) : MX l K yX9_wax cX9_wax 5 (some .boolean) 2 43 0 0 [.ref a, .int x0, .int x1, .int x2] H (AE G [] H.size) (fun v H1 => (∃ r : Int32, v = some (.int r) ∧ (r.toInt = 0)) ∧ ∃ G1 : Nat → Option Nat, (∀ q t, G q = some t → G1 q = some t) ∧ TY K G1 H1) := by
  refine MX.of (by decide +kernel) (Nat.le_of_ble_eq_true rfl) ?_
  intro p e s m below meth c ls Q C hH hl hQ
  subst hH
  have C : CX p K s m _ meth c RX9 cX9_wax 5 (some .boolean) "wax" := C
  obtain ⟨hx, hb, hml, hown, hts, hKT, hr, hlocks, hnm⟩ := id C
  have hl : lv_has ls 5 [(0, .ref a), (1, .int x0), (2, .int x1), (3, .int x2)] := hl
  have hS : va_S (AE G [] s.heap.size) s.heap s.heap [] := va_S.rf
  have n_0 : (0 : Int32).toInt = 0 := rfl
  obtain ⟨f0, f1, f2, f3, f4, f5, f6, f7, f8, f9, f10⟩ := fx
  refine lv_aload_n hx hb dX9_wax_0 rfl (lv_at hl 0 rfl) ?_
  refine lv_iload_n hx hb dX9_wax_1 rfl (lv_at hl 1 rfl) ?_
  refine x_V (As := [.int x0]) (rest := []) C (f_X9_barAt l K G s.heap (w := w) (x0) hT ga gw ⟨f0, f1, f2, f3, f4, f5, f6, f7, f8, f9, f10⟩) yo_X9_barAt wM_X9_78 ⟨⟨by decide, by decide⟩, by decide, by decide⟩ (x_rv C hT (ci := 9) rfl ga rg_68) rfl hl.1 rfl (Nat.le_of_ble_eq_true rfl) dX9_wax_2 hS (AE_sub (fun _ _ => rfl) (by decide) hS.1) (fun vH1 H1 locsH1 pH1 zH1 kH1 hSH1 => ?_)
  have hqH1 := pH1.1.symm
  subst hqH1
  have hvH1 := pH1.2
  subst hvH1
  refine W.eq (g2 := F0 m 5 ls [.null]) rfl ?_
  refine lv_astoreN (lv' := [(4, .null), (0, .ref a), (1, .int x0), (2, .int x1), (3, .int x2)]) hx hb dX9_wax_5 hl (by decide) rfl (fun ls2 hl3 => ?_)
  refine lv_aloadN hx hb dX9_wax_7 (lv_at hl3 0 rfl) ?_
  refine lv_ifnullN (tgt := 31) hx hb dX9_wax_9 (by decide) ?_
  refine lv_iconst (v := 0) hx hb dX9_wax_31 (by decide) ?_
  exact x_zret C hQ (Or.inl rfl) dX9_wax_32 hSH1 (by decide) (by decide) (⟨⟨0, rfl, by omega⟩, G, fun _ _ h => h, hT⟩)

set_option maxHeartbeats 4000000 in
set_option maxRecDepth 100000 in
theorem f_X9_of (l : Launch) (K : KE) (G : Nat → Option Nat) (H : Heap) {a w : Nat} (x0 : Int32) (x1 : Int32) (x2 : Int32) (hT : TY K G H) (ga : G a = some 68) (gw : G w = some 0) (fx : FX K H a w) : MX l K yX9_of cX9_of 5 (some .int) 2 43 0 0 [.ref a, .int x0, .int x1, .int x2] H (AE G [] H.size) (fun v H1 => (∃ r : Int32, v = some (.int r) ∧ (r.toInt = -1)) ∧ ∃ G1 : Nat → Option Nat, (∀ q t, G q = some t → G1 q = some t) ∧ TY K G1 H1) := by
  refine MX.of (by decide +kernel) (Nat.le_of_ble_eq_true rfl) ?_
  intro p e s m below meth c ls Q C hH hl hQ
  subst hH
  have C : CX p K s m _ meth c RX9 cX9_of 5 (some .int) "of" := C
  obtain ⟨hx, hb, hml, hown, hts, hKT, hr, hlocks, hnm⟩ := id C
  have hl : lv_has ls 5 [(0, .ref a), (1, .int x0), (2, .int x1), (3, .int x2)] := hl
  have hS : va_S (AE G [] s.heap.size) s.heap s.heap [] := va_S.rf
  have n_m1 : ((-1) : Int32).toInt = -1 := rfl
  obtain ⟨f0, f1, f2, f3, f4, f5, f6, f7, f8, f9, f10⟩ := fx
  refine lv_aload_n hx hb dX9_of_0 rfl (lv_at hl 0 rfl) ?_
  refine lv_iload_n hx hb dX9_of_1 rfl (lv_at hl 1 rfl) ?_
  refine x_V (As := [.int x0]) (rest := []) C (f_X9_barAt l K G s.heap (w := w) (x0) hT ga gw ⟨f0, f1, f2, f3, f4, f5, f6, f7, f8, f9, f10⟩) yo_X9_barAt wM_X9_78 ⟨⟨by decide, by decide⟩, by decide, by decide⟩ (x_rv C hT (ci := 9) rfl ga rg_68) rfl hl.1 rfl (Nat.le_of_ble_eq_true rfl) dX9_of_2 hS (AE_sub (fun _ _ => rfl) (by decide) hS.1) (fun vH1 H1 locsH1 pH1 zH1 kH1 hSH1 => ?_)
  have hqH1 := pH1.1.symm
  subst hqH1
  have hvH1 := pH1.2
  subst hvH1
  refine W.eq (g2 := F0 m 5 ls [.null]) rfl ?_
  refine lv_astoreN (lv' := [(4, .null), (0, .ref a), (1, .int x0), (2, .int x1), (3, .int x2)]) hx hb dX9_of_5 hl (by decide) rfl (fun ls2 hl3 => ?_)
  refine lv_aloadN hx hb dX9_of_7 (lv_at hl3 0 rfl) ?_
  refine lv_ifnullN (tgt := 21) hx hb dX9_of_9 (by decide) ?_
  refine lv_iconst (v := (-1)) hx hb dX9_of_21 (by decide) ?_
  exact x_iret C hQ dX9_of_22 hSH1 (by decide) (by decide) (⟨⟨(-1), rfl, by omega⟩, G, fun _ _ h => h, hT⟩)

set_option maxHeartbeats 4000000 in
set_option maxRecDepth 100000 in
theorem f_X9_tells (l : Launch) (K : KE) (G : Nat → Option Nat) (H : Heap) {a w : Nat} (x0 : Int32) (x1 : Int32) (x2 : Int32) (x3 : Int32) (x4 : Int32) (hT : TY K G H) (ga : G a = some 68) (gw : G w = some 0) (fx : FX K H a w) : MX l K yX9_tells cX9_tells 7 (some .int) 2 43 0 0 [.ref a, .int x0, .int x1, .int x2, .int x3, .int x4] H (AE G [] H.size) (fun v H1 => (∃ r : Int32, v = some (.int r) ∧ (r.toInt = -100000)) ∧ ∃ G1 : Nat → Option Nat, (∀ q t, G q = some t → G1 q = some t) ∧ TY K G1 H1) := by
  refine MX.of (by decide +kernel) (Nat.le_of_ble_eq_true rfl) ?_
  intro p e s m below meth c ls Q C hH hl hQ
  subst hH
  have C : CX p K s m _ meth c RX9 cX9_tells 7 (some .int) "tells" := C
  obtain ⟨hx, hb, hml, hown, hts, hKT, hr, hlocks, hnm⟩ := id C
  have hl : lv_has ls 7 [(0, .ref a), (1, .int x0), (2, .int x1), (3, .int x2), (4, .int x3), (5, .int x4)] := hl
  have hS : va_S (AE G [] s.heap.size) s.heap s.heap [] := va_S.rf
  have n_m100000 : ((-100000) : Int32).toInt = -100000 := rfl
  obtain ⟨f0, f1, f2, f3, f4, f5, f6, f7, f8, f9, f10⟩ := fx
  refine lv_aload_n hx hb dX9_tells_0 rfl (lv_at hl 0 rfl) ?_
  refine lv_iload hx hb dX9_tells_1 (lv_at hl 4 rfl) ?_
  refine x_V (As := [.int x3]) (rest := []) C (f_X9_barAt l K G s.heap (w := w) (x3) hT ga gw ⟨f0, f1, f2, f3, f4, f5, f6, f7, f8, f9, f10⟩) yo_X9_barAt wM_X9_78 ⟨⟨by decide, by decide⟩, by decide, by decide⟩ (x_rv C hT (ci := 9) rfl ga rg_68) rfl hl.1 rfl (Nat.le_of_ble_eq_true rfl) dX9_tells_3 hS (AE_sub (fun _ _ => rfl) (by decide) hS.1) (fun vH1 H1 locsH1 pH1 zH1 kH1 hSH1 => ?_)
  have hqH1 := pH1.1.symm
  subst hqH1
  have hvH1 := pH1.2
  subst hvH1
  refine W.eq (g2 := F0 m 6 ls [.null]) rfl ?_
  refine lv_astoreN (lv' := [(6, .null), (0, .ref a), (1, .int x0), (2, .int x1), (3, .int x2), (4, .int x3), (5, .int x4)]) hx hb dX9_tells_6 hl (by decide) rfl (fun ls2 hl3 => ?_)
  refine lv_aloadN hx hb dX9_tells_8 (lv_at hl3 0 rfl) ?_
  refine lv_ifnullN (tgt := 48) hx hb dX9_tells_10 (by decide) ?_
  refine lv_ldc (v := (-100000)) hx hb hown (hts _ wK_X9_153) dX9_tells_48 ?_
  exact x_iret C hQ dX9_tells_50 hSH1 (by decide) (by decide) (⟨⟨(-100000), rfl, by omega⟩, G, fun _ _ h => h, hT⟩)

set_option maxHeartbeats 4000000 in
set_option maxRecDepth 100000 in
theorem f_X9_tone (l : Launch) (K : KE) (G : Nat → Option Nat) (H : Heap) {a w : Nat} (x0 : Int32) (x1 : Int32) (hT : TY K G H) (ga : G a = some 68) (gw : G w = some 0) (fx : FX K H a w) : MX l K yX9_tone cX9_tone 4 (some .int) 2 43 0 0 [.ref a, .int x0, .int x1] H (AE G [] H.size) (fun v H1 => (∃ r : Int32, v = some (.int r) ∧ (r.toInt = -1)) ∧ ∃ G1 : Nat → Option Nat, (∀ q t, G q = some t → G1 q = some t) ∧ TY K G1 H1) := by
  refine MX.of (by decide +kernel) (Nat.le_of_ble_eq_true rfl) ?_
  intro p e s m below meth c ls Q C hH hl hQ
  subst hH
  have C : CX p K s m _ meth c RX9 cX9_tone 4 (some .int) "tone" := C
  obtain ⟨hx, hb, hml, hown, hts, hKT, hr, hlocks, hnm⟩ := id C
  have hl : lv_has ls 4 [(0, .ref a), (1, .int x0), (2, .int x1)] := hl
  have hS : va_S (AE G [] s.heap.size) s.heap s.heap [] := va_S.rf
  have n_m1 : ((-1) : Int32).toInt = -1 := rfl
  obtain ⟨f0, f1, f2, f3, f4, f5, f6, f7, f8, f9, f10⟩ := fx
  refine lv_aload_n hx hb dX9_tone_0 rfl (lv_at hl 0 rfl) ?_
  refine lv_iload_n hx hb dX9_tone_1 rfl (lv_at hl 1 rfl) ?_
  refine x_V (As := [.int x0]) (rest := []) C (f_X9_barAt l K G s.heap (w := w) (x0) hT ga gw ⟨f0, f1, f2, f3, f4, f5, f6, f7, f8, f9, f10⟩) yo_X9_barAt wM_X9_78 ⟨⟨by decide, by decide⟩, by decide, by decide⟩ (x_rv C hT (ci := 9) rfl ga rg_68) rfl hl.1 rfl (Nat.le_of_ble_eq_true rfl) dX9_tone_2 hS (AE_sub (fun _ _ => rfl) (by decide) hS.1) (fun vH1 H1 locsH1 pH1 zH1 kH1 hSH1 => ?_)
  have hqH1 := pH1.1.symm
  subst hqH1
  have hvH1 := pH1.2
  subst hvH1
  refine W.eq (g2 := F0 m 5 ls [.null]) rfl ?_
  refine lv_astore_nN (lv' := [(3, .null), (0, .ref a), (1, .int x0), (2, .int x1)]) hx hb dX9_tone_5 rfl hl (by decide) rfl (fun ls2 hl3 => ?_)
  refine lv_aload_nN hx hb dX9_tone_6 rfl (lv_at hl3 0 rfl) ?_
  refine lv_ifnullN (tgt := 17) hx hb dX9_tone_7 (by decide) ?_
  refine lv_iconst (v := (-1)) hx hb dX9_tone_17 (by decide) ?_
  exact x_iret C hQ dX9_tone_18 hSH1 (by decide) (by decide) (⟨⟨(-1), rfl, by omega⟩, G, fun _ _ h => h, hT⟩)

set_option maxHeartbeats 4000000 in
set_option maxRecDepth 100000 in
theorem f_X9_shave (l : Launch) (K : KE) (G : Nat → Option Nat) (H : Heap) {a w : Nat} (x0 : Int32) (x1 : Int32) (x2 : Int32) (hT : TY K G H) (ga : G a = some 68) (gw : G w = some 0) (fx : FX K H a w) : MX l K yX9_shave cX9_shave 5 (some .int) 2 43 0 0 [.ref a, .int x0, .int x1, .int x2] H (AE G [] H.size) (fun v H1 => (∃ r : Int32, v = some (.int r) ∧ (r.toInt = -1)) ∧ ∃ G1 : Nat → Option Nat, (∀ q t, G q = some t → G1 q = some t) ∧ TY K G1 H1) := by
  refine MX.of (by decide +kernel) (Nat.le_of_ble_eq_true rfl) ?_
  intro p e s m below meth c ls Q C hH hl hQ
  subst hH
  have C : CX p K s m _ meth c RX9 cX9_shave 5 (some .int) "shave" := C
  obtain ⟨hx, hb, hml, hown, hts, hKT, hr, hlocks, hnm⟩ := id C
  have hl : lv_has ls 5 [(0, .ref a), (1, .int x0), (2, .int x1), (3, .int x2)] := hl
  have hS : va_S (AE G [] s.heap.size) s.heap s.heap [] := va_S.rf
  have n_m1 : ((-1) : Int32).toInt = -1 := rfl
  obtain ⟨f0, f1, f2, f3, f4, f5, f6, f7, f8, f9, f10⟩ := fx
  refine lv_aload_n hx hb dX9_shave_0 rfl (lv_at hl 0 rfl) ?_
  refine lv_iload_n hx hb dX9_shave_1 rfl (lv_at hl 1 rfl) ?_
  refine x_V (As := [.int x0]) (rest := []) C (f_X9_barAt l K G s.heap (w := w) (x0) hT ga gw ⟨f0, f1, f2, f3, f4, f5, f6, f7, f8, f9, f10⟩) yo_X9_barAt wM_X9_78 ⟨⟨by decide, by decide⟩, by decide, by decide⟩ (x_rv C hT (ci := 9) rfl ga rg_68) rfl hl.1 rfl (Nat.le_of_ble_eq_true rfl) dX9_shave_2 hS (AE_sub (fun _ _ => rfl) (by decide) hS.1) (fun vH1 H1 locsH1 pH1 zH1 kH1 hSH1 => ?_)
  have hqH1 := pH1.1.symm
  subst hqH1
  have hvH1 := pH1.2
  subst hvH1
  refine W.eq (g2 := F0 m 5 ls [.null]) rfl ?_
  refine lv_astoreN (lv' := [(4, .null), (0, .ref a), (1, .int x0), (2, .int x1), (3, .int x2)]) hx hb dX9_shave_5 hl (by decide) rfl (fun ls2 hl3 => ?_)
  refine lv_aloadN hx hb dX9_shave_7 (lv_at hl3 0 rfl) ?_
  refine lv_ifnonnullN hx hb dX9_shave_9 ?_
  refine lv_iconst (v := (-1)) hx hb dX9_shave_12 (by decide) ?_
  exact x_iret C hQ dX9_shave_13 hSH1 (by decide) (by decide) (⟨⟨(-1), rfl, by omega⟩, G, fun _ _ h => h, hT⟩)

set_option maxHeartbeats 4000000 in
set_option maxRecDepth 100000 in
theorem f_X9_pass (l : Launch) (K : KE) (G : Nat → Option Nat) (H : Heap) {a w : Nat} (x0 : Int32) (x1 : Int32) (x2 : Int32) (hT : TY K G H) (ga : G a = some 68) (gw : G w = some 0) (fx : FX K H a w) : MX l K yX9_pass cX9_pass 5 (some .int) 2 43 0 0 [.ref a, .int x0, .int x1, .int x2] H (AE G [] H.size) (fun v H1 => (∃ r : Int32, v = some (.int r) ∧ (r.toInt = -1)) ∧ ∃ G1 : Nat → Option Nat, (∀ q t, G q = some t → G1 q = some t) ∧ TY K G1 H1) := by
  refine MX.of (by decide +kernel) (Nat.le_of_ble_eq_true rfl) ?_
  intro p e s m below meth c ls Q C hH hl hQ
  subst hH
  have C : CX p K s m _ meth c RX9 cX9_pass 5 (some .int) "pass" := C
  obtain ⟨hx, hb, hml, hown, hts, hKT, hr, hlocks, hnm⟩ := id C
  have hl : lv_has ls 5 [(0, .ref a), (1, .int x0), (2, .int x1), (3, .int x2)] := hl
  have hS : va_S (AE G [] s.heap.size) s.heap s.heap [] := va_S.rf
  have n_m1 : ((-1) : Int32).toInt = -1 := rfl
  obtain ⟨f0, f1, f2, f3, f4, f5, f6, f7, f8, f9, f10⟩ := fx
  refine lv_aload_n hx hb dX9_pass_0 rfl (lv_at hl 0 rfl) ?_
  refine lv_iload_n hx hb dX9_pass_1 rfl (lv_at hl 1 rfl) ?_
  refine x_V (As := [.int x0]) (rest := []) C (f_X9_barAt l K G s.heap (w := w) (x0) hT ga gw ⟨f0, f1, f2, f3, f4, f5, f6, f7, f8, f9, f10⟩) yo_X9_barAt wM_X9_78 ⟨⟨by decide, by decide⟩, by decide, by decide⟩ (x_rv C hT (ci := 9) rfl ga rg_68) rfl hl.1 rfl (Nat.le_of_ble_eq_true rfl) dX9_pass_2 hS (AE_sub (fun _ _ => rfl) (by decide) hS.1) (fun vH1 H1 locsH1 pH1 zH1 kH1 hSH1 => ?_)
  have hqH1 := pH1.1.symm
  subst hqH1
  have hvH1 := pH1.2
  subst hvH1
  refine W.eq (g2 := F0 m 5 ls [.null]) rfl ?_
  refine lv_astoreN (lv' := [(4, .null), (0, .ref a), (1, .int x0), (2, .int x1), (3, .int x2)]) hx hb dX9_pass_5 hl (by decide) rfl (fun ls2 hl3 => ?_)
  refine lv_aloadN hx hb dX9_pass_7 (lv_at hl3 0 rfl) ?_
  refine lv_ifnullN (tgt := 25) hx hb dX9_pass_9 (by decide) ?_
  refine lv_iconst (v := (-1)) hx hb dX9_pass_25 (by decide) ?_
  exact x_iret C hQ dX9_pass_26 hSH1 (by decide) (by decide) (⟨⟨(-1), rfl, by omega⟩, G, fun _ _ h => h, hT⟩)

set_option maxHeartbeats 4000000 in
set_option maxRecDepth 100000 in
theorem f_X9_goal (l : Launch) (K : KE) (G : Nat → Option Nat) (H : Heap) {a w : Nat} (x0 : Int32) (x1 : Int32) (x2 : Int32) (hT : TY K G H) (ga : G a = some 68) (gw : G w = some 0) (fx : FX K H a w) : MX l K yX9_goal cX9_goal 5 (some .boolean) 2 43 0 0 [.ref a, .int x0, .int x1, .int x2] H (AE G [] H.size) (fun v H1 => (∃ r : Int32, v = some (.int r) ∧ (r.toInt = 0)) ∧ ∃ G1 : Nat → Option Nat, (∀ q t, G q = some t → G1 q = some t) ∧ TY K G1 H1) := by
  refine MX.of (by decide +kernel) (Nat.le_of_ble_eq_true rfl) ?_
  intro p e s m below meth c ls Q C hH hl hQ
  subst hH
  have C : CX p K s m _ meth c RX9 cX9_goal 5 (some .boolean) "goal" := C
  obtain ⟨hx, hb, hml, hown, hts, hKT, hr, hlocks, hnm⟩ := id C
  have hl : lv_has ls 5 [(0, .ref a), (1, .int x0), (2, .int x1), (3, .int x2)] := hl
  have hS : va_S (AE G [] s.heap.size) s.heap s.heap [] := va_S.rf
  have n_0 : (0 : Int32).toInt = 0 := rfl
  obtain ⟨f0, f1, f2, f3, f4, f5, f6, f7, f8, f9, f10⟩ := fx
  refine lv_aload_n hx hb dX9_goal_0 rfl (lv_at hl 0 rfl) ?_
  refine lv_iload_n hx hb dX9_goal_1 rfl (lv_at hl 1 rfl) ?_
  refine x_V (As := [.int x0]) (rest := []) C (f_X9_barAt l K G s.heap (w := w) (x0) hT ga gw ⟨f0, f1, f2, f3, f4, f5, f6, f7, f8, f9, f10⟩) yo_X9_barAt wM_X9_78 ⟨⟨by decide, by decide⟩, by decide, by decide⟩ (x_rv C hT (ci := 9) rfl ga rg_68) rfl hl.1 rfl (Nat.le_of_ble_eq_true rfl) dX9_goal_2 hS (AE_sub (fun _ _ => rfl) (by decide) hS.1) (fun vH1 H1 locsH1 pH1 zH1 kH1 hSH1 => ?_)
  have hqH1 := pH1.1.symm
  subst hqH1
  have hvH1 := pH1.2
  subst hvH1
  refine W.eq (g2 := F0 m 5 ls [.null]) rfl ?_
  refine lv_astoreN (lv' := [(4, .null), (0, .ref a), (1, .int x0), (2, .int x1), (3, .int x2)]) hx hb dX9_goal_5 hl (by decide) rfl (fun ls2 hl3 => ?_)
  refine lv_aloadN hx hb dX9_goal_7 (lv_at hl3 0 rfl) ?_
  refine lv_ifnullN (tgt := 29) hx hb dX9_goal_9 (by decide) ?_
  refine lv_iconst (v := 0) hx hb dX9_goal_29 (by decide) ?_
  exact x_zret C hQ (Or.inl rfl) dX9_goal_30 hSH1 (by decide) (by decide) (⟨⟨0, rfl, by omega⟩, G, fun _ _ h => h, hT⟩)

set_option maxHeartbeats 4000000 in
set_option maxRecDepth 100000 in
theorem f_X9_state (l : Launch) (K : KE) (G : Nat → Option Nat) (H : Heap) {a w : Nat} (x0 : Int32) (x1 : Int32) (hT : TY K G H) (ga : G a = some 68) (gw : G w = some 0) (fx : FX K H a w) : MX l K yX9_state cX9_state 4 (some .int) 2 43 0 0 [.ref a, .int x0, .int x1] H (AE G [] H.size) (fun v H1 => (∃ r : Int32, v = some (.int r) ∧ (r.toInt = -2)) ∧ ∃ G1 : Nat → Option Nat, (∀ q t, G q = some t → G1 q = some t) ∧ TY K G1 H1) := by
  refine MX.of (by decide +kernel) (Nat.le_of_ble_eq_true rfl) ?_
  intro p e s m below meth c ls Q C hH hl hQ
  subst hH
  have C : CX p K s m _ meth c RX9 cX9_state 4 (some .int) "state" := C
  obtain ⟨hx, hb, hml, hown, hts, hKT, hr, hlocks, hnm⟩ := id C
  have hl : lv_has ls 4 [(0, .ref a), (1, .int x0), (2, .int x1)] := hl
  have hS : va_S (AE G [] s.heap.size) s.heap s.heap [] := va_S.rf
  have n_m2 : ((-2) : Int32).toInt = -2 := rfl
  obtain ⟨f0, f1, f2, f3, f4, f5, f6, f7, f8, f9, f10⟩ := fx
  refine lv_aload_n hx hb dX9_state_0 rfl (lv_at hl 0 rfl) ?_
  refine lv_iload_n hx hb dX9_state_1 rfl (lv_at hl 1 rfl) ?_
  refine x_V (As := [.int x0]) (rest := []) C (f_X9_barAt l K G s.heap (w := w) (x0) hT ga gw ⟨f0, f1, f2, f3, f4, f5, f6, f7, f8, f9, f10⟩) yo_X9_barAt wM_X9_78 ⟨⟨by decide, by decide⟩, by decide, by decide⟩ (x_rv C hT (ci := 9) rfl ga rg_68) rfl hl.1 rfl (Nat.le_of_ble_eq_true rfl) dX9_state_2 hS (AE_sub (fun _ _ => rfl) (by decide) hS.1) (fun vH1 H1 locsH1 pH1 zH1 kH1 hSH1 => ?_)
  have hqH1 := pH1.1.symm
  subst hqH1
  have hvH1 := pH1.2
  subst hvH1
  refine W.eq (g2 := F0 m 5 ls [.null]) rfl ?_
  refine lv_astore_nN (lv' := [(3, .null), (0, .ref a), (1, .int x0), (2, .int x1)]) hx hb dX9_state_5 rfl hl (by decide) rfl (fun ls2 hl3 => ?_)
  refine lv_aload_nN hx hb dX9_state_6 rfl (lv_at hl3 0 rfl) ?_
  refine lv_ifnonnullN hx hb dX9_state_7 ?_
  refine lv_bipush (v := (-2)) hx hb dX9_state_10 (by decide) ?_
  exact x_iret C hQ dX9_state_12 hSH1 (by decide) (by decide) (⟨⟨(-2), rfl, by omega⟩, G, fun _ _ h => h, hT⟩)

set_option maxHeartbeats 4000000 in
set_option maxRecDepth 100000 in
theorem f_X9_takes (l : Launch) (K : KE) (G : Nat → Option Nat) (H : Heap) {a w : Nat} (x0 : Int32) (x1 : Int32) (x2 : Int32) (hT : TY K G H) (ga : G a = some 68) (gw : G w = some 0) (fx : FX K H a w) : MX l K yX9_takes cX9_takes 5 (some .int) 2 43 0 0 [.ref a, .int x0, .int x1, .int x2] H (AE G [] H.size) (fun v H1 => (∃ r : Int32, v = some (.int r) ∧ (r.toInt = -10000000)) ∧ ∃ G1 : Nat → Option Nat, (∀ q t, G q = some t → G1 q = some t) ∧ TY K G1 H1) := by
  refine MX.of (by decide +kernel) (Nat.le_of_ble_eq_true rfl) ?_
  intro p e s m below meth c ls Q C hH hl hQ
  subst hH
  have C : CX p K s m _ meth c RX9 cX9_takes 5 (some .int) "takes" := C
  obtain ⟨hx, hb, hml, hown, hts, hKT, hr, hlocks, hnm⟩ := id C
  have hl : lv_has ls 5 [(0, .ref a), (1, .int x0), (2, .int x1), (3, .int x2)] := hl
  have hS : va_S (AE G [] s.heap.size) s.heap s.heap [] := va_S.rf
  have n_m10000000 : ((-10000000) : Int32).toInt = -10000000 := rfl
  obtain ⟨f0, f1, f2, f3, f4, f5, f6, f7, f8, f9, f10⟩ := fx
  refine lv_aload_n hx hb dX9_takes_0 rfl (lv_at hl 0 rfl) ?_
  refine lv_iload_n hx hb dX9_takes_1 rfl (lv_at hl 1 rfl) ?_
  refine x_V (As := [.int x0]) (rest := []) C (f_X9_barAt l K G s.heap (w := w) (x0) hT ga gw ⟨f0, f1, f2, f3, f4, f5, f6, f7, f8, f9, f10⟩) yo_X9_barAt wM_X9_78 ⟨⟨by decide, by decide⟩, by decide, by decide⟩ (x_rv C hT (ci := 9) rfl ga rg_68) rfl hl.1 rfl (Nat.le_of_ble_eq_true rfl) dX9_takes_2 hS (AE_sub (fun _ _ => rfl) (by decide) hS.1) (fun vH1 H1 locsH1 pH1 zH1 kH1 hSH1 => ?_)
  have hqH1 := pH1.1.symm
  subst hqH1
  have hvH1 := pH1.2
  subst hvH1
  refine W.eq (g2 := F0 m 5 ls [.null]) rfl ?_
  refine lv_astoreN (lv' := [(4, .null), (0, .ref a), (1, .int x0), (2, .int x1), (3, .int x2)]) hx hb dX9_takes_5 hl (by decide) rfl (fun ls2 hl3 => ?_)
  refine lv_aloadN hx hb dX9_takes_7 (lv_at hl3 0 rfl) ?_
  refine lv_ifnullN (tgt := 39) hx hb dX9_takes_9 (by decide) ?_
  refine lv_ldc (v := (-10000000)) hx hb hown (hts _ wK_X9_207) dX9_takes_39 ?_
  exact x_iret C hQ dX9_takes_41 hSH1 (by decide) (by decide) (⟨⟨(-10000000), rfl, by omega⟩, G, fun _ _ h => h, hT⟩)

set_option maxHeartbeats 4000000 in
set_option maxRecDepth 100000 in
theorem f_X9_job (l : Launch) (K : KE) (G : Nat → Option Nat) (H : Heap) {a w : Nat} (x0 : Int32) (x1 : Int32) (hT : TY K G H) (ga : G a = some 68) (gw : G w = some 0) (fx : FX K H a w) : MX l K yX9_job cX9_job 7 (some .int) 2 43 0 0 [.ref a, .int x0, .int x1] H (AE G [] H.size) (fun v H1 => (∃ r : Int32, v = some (.int r) ∧ (r.toInt = -1)) ∧ ∃ G1 : Nat → Option Nat, (∀ q t, G q = some t → G1 q = some t) ∧ TY K G1 H1) := by
  refine MX.of (by decide +kernel) (Nat.le_of_ble_eq_true rfl) ?_
  intro p e s m below meth c ls Q C hH hl hQ
  subst hH
  have C : CX p K s m _ meth c RX9 cX9_job 7 (some .int) "job" := C
  obtain ⟨hx, hb, hml, hown, hts, hKT, hr, hlocks, hnm⟩ := id C
  have hl : lv_has ls 7 [(0, .ref a), (1, .int x0), (2, .int x1)] := hl
  have hS : va_S (AE G [] s.heap.size) s.heap s.heap [] := va_S.rf
  have n_m1 : ((-1) : Int32).toInt = -1 := rfl
  obtain ⟨f0, f1, f2, f3, f4, f5, f6, f7, f8, f9, f10⟩ := fx
  refine lv_aload_n hx hb dX9_job_0 rfl (lv_at hl 0 rfl) ?_
  refine lv_iload_n hx hb dX9_job_1 rfl (lv_at hl 2 rfl) ?_
  refine x_V (As := [.int x1]) (rest := []) C (f_X9_barAt l K G s.heap (w := w) (x1) hT ga gw ⟨f0, f1, f2, f3, f4, f5, f6, f7, f8, f9, f10⟩) yo_X9_barAt wM_X9_78 ⟨⟨by decide, by decide⟩, by decide, by decide⟩ (x_rv C hT (ci := 9) rfl ga rg_68) rfl hl.1 rfl (Nat.le_of_ble_eq_true rfl) dX9_job_2 hS (AE_sub (fun _ _ => rfl) (by decide) hS.1) (fun vH1 H1 locsH1 pH1 zH1 kH1 hSH1 => ?_)
  have hqH1 := pH1.1.symm
  subst hqH1
  have hvH1 := pH1.2
  subst hvH1
  refine W.eq (g2 := F0 m 5 ls [.null]) rfl ?_
  refine lv_astore_nN (lv' := [(3, .null), (0, .ref a), (1, .int x0), (2, .int x1)]) hx hb dX9_job_5 rfl hl (by decide) rfl (fun ls2 hl3 => ?_)
  refine lv_aload_nN hx hb dX9_job_6 rfl (lv_at hl3 0 rfl) ?_
  refine lv_ifnullN (tgt := 19) hx hb dX9_job_7 (by decide) ?_
  refine lv_iconst (v := (-1)) hx hb dX9_job_19 (by decide) ?_
  exact x_iret C hQ dX9_job_20 hSH1 (by decide) (by decide) (⟨⟨(-1), rfl, by omega⟩, G, fun _ _ h => h, hT⟩)

set_option maxHeartbeats 4000000 in
set_option maxRecDepth 100000 in
theorem f_X9_fewest (l : Launch) (K : KE) (G : Nat → Option Nat) (H : Heap) {a w : Nat} (x0 : Int32) (x1 : Int32) (hT : TY K G H) (ga : G a = some 68) (gw : G w = some 0) (fx : FX K H a w) : MX l K yX9_fewest cX9_fewest 5 (some .int) 2 43 0 0 [.ref a, .int x0, .int x1] H (AE G [] H.size) (fun v H1 => (∃ r : Int32, v = some (.int r) ∧ (r.toInt = -1)) ∧ ∃ G1 : Nat → Option Nat, (∀ q t, G q = some t → G1 q = some t) ∧ TY K G1 H1) := by
  refine MX.of (by decide +kernel) (Nat.le_of_ble_eq_true rfl) ?_
  intro p e s m below meth c ls Q C hH hl hQ
  subst hH
  have C : CX p K s m _ meth c RX9 cX9_fewest 5 (some .int) "fewest" := C
  obtain ⟨hx, hb, hml, hown, hts, hKT, hr, hlocks, hnm⟩ := id C
  have hl : lv_has ls 5 [(0, .ref a), (1, .int x0), (2, .int x1)] := hl
  have hS : va_S (AE G [] s.heap.size) s.heap s.heap [] := va_S.rf
  have n_m1 : ((-1) : Int32).toInt = -1 := rfl
  obtain ⟨f0, f1, f2, f3, f4, f5, f6, f7, f8, f9, f10⟩ := fx
  refine lv_aload_n hx hb dX9_fewest_0 rfl (lv_at hl 0 rfl) ?_
  refine lv_iload_n hx hb dX9_fewest_1 rfl (lv_at hl 1 rfl) ?_
  refine x_V (As := [.int x0]) (rest := []) C (f_X9_barAt l K G s.heap (w := w) (x0) hT ga gw ⟨f0, f1, f2, f3, f4, f5, f6, f7, f8, f9, f10⟩) yo_X9_barAt wM_X9_78 ⟨⟨by decide, by decide⟩, by decide, by decide⟩ (x_rv C hT (ci := 9) rfl ga rg_68) rfl hl.1 rfl (Nat.le_of_ble_eq_true rfl) dX9_fewest_2 hS (AE_sub (fun _ _ => rfl) (by decide) hS.1) (fun vH1 H1 locsH1 pH1 zH1 kH1 hSH1 => ?_)
  have hqH1 := pH1.1.symm
  subst hqH1
  have hvH1 := pH1.2
  subst hvH1
  refine W.eq (g2 := F0 m 5 ls [.null]) rfl ?_
  refine lv_astore_nN (lv' := [(3, .null), (0, .ref a), (1, .int x0), (2, .int x1)]) hx hb dX9_fewest_5 rfl hl (by decide) rfl (fun ls2 hl3 => ?_)
  refine lv_aload_nN hx hb dX9_fewest_6 rfl (lv_at hl3 0 rfl) ?_
  refine lv_ifnullN (tgt := 28) hx hb dX9_fewest_7 (by decide) ?_
  refine lv_iconst (v := (-1)) hx hb dX9_fewest_28 (by decide) ?_
  exact x_iret C hQ dX9_fewest_29 hSH1 (by decide) (by decide) (⟨⟨(-1), rfl, by omega⟩, G, fun _ _ h => h, hT⟩)

set_option maxHeartbeats 4000000 in
set_option maxRecDepth 100000 in
theorem f_X9_tap (l : Launch) (K : KE) (G : Nat → Option Nat) (H : Heap) {a w : Nat} (x0 : Int32) (x1 : Int32) (x2 : Int32) (hT : TY K G H) (ga : G a = some 68) (gw : G w = some 0) (fx : FX K H a w) : MX l K yX9_tap cX9_tap 5 (some .int) 2 43 0 0 [.ref a, .int x0, .int x1, .int x2] H (AE G [] H.size) (fun v H1 => (∃ r : Int32, v = some (.int r) ∧ (r.toInt = -1)) ∧ ∃ G1 : Nat → Option Nat, (∀ q t, G q = some t → G1 q = some t) ∧ TY K G1 H1) := by
  refine MX.of (by decide +kernel) (Nat.le_of_ble_eq_true rfl) ?_
  intro p e s m below meth c ls Q C hH hl hQ
  subst hH
  have C : CX p K s m _ meth c RX9 cX9_tap 5 (some .int) "tap" := C
  obtain ⟨hx, hb, hml, hown, hts, hKT, hr, hlocks, hnm⟩ := id C
  have hl : lv_has ls 5 [(0, .ref a), (1, .int x0), (2, .int x1), (3, .int x2)] := hl
  have hS : va_S (AE G [] s.heap.size) s.heap s.heap [] := va_S.rf
  have n_m1 : ((-1) : Int32).toInt = -1 := rfl
  obtain ⟨f0, f1, f2, f3, f4, f5, f6, f7, f8, f9, f10⟩ := fx
  refine lv_aload_n hx hb dX9_tap_0 rfl (lv_at hl 0 rfl) ?_
  refine lv_iload_n hx hb dX9_tap_1 rfl (lv_at hl 1 rfl) ?_
  refine x_V (As := [.int x0]) (rest := []) C (f_X9_barAt l K G s.heap (w := w) (x0) hT ga gw ⟨f0, f1, f2, f3, f4, f5, f6, f7, f8, f9, f10⟩) yo_X9_barAt wM_X9_78 ⟨⟨by decide, by decide⟩, by decide, by decide⟩ (x_rv C hT (ci := 9) rfl ga rg_68) rfl hl.1 rfl (Nat.le_of_ble_eq_true rfl) dX9_tap_2 hS (AE_sub (fun _ _ => rfl) (by decide) hS.1) (fun vH1 H1 locsH1 pH1 zH1 kH1 hSH1 => ?_)
  have hqH1 := pH1.1.symm
  subst hqH1
  have hvH1 := pH1.2
  subst hvH1
  refine W.eq (g2 := F0 m 5 ls [.null]) rfl ?_
  refine lv_astoreN (lv' := [(4, .null), (0, .ref a), (1, .int x0), (2, .int x1), (3, .int x2)]) hx hb dX9_tap_5 hl (by decide) rfl (fun ls2 hl3 => ?_)
  refine lv_aloadN hx hb dX9_tap_7 (lv_at hl3 0 rfl) ?_
  refine lv_ifnullN (tgt := 39) hx hb dX9_tap_9 (by decide) ?_
  refine lv_iconst (v := (-1)) hx hb dX9_tap_39 (by decide) ?_
  exact x_iret C hQ dX9_tap_40 hSH1 (by decide) (by decide) (⟨⟨(-1), rfl, by omega⟩, G, fun _ _ h => h, hT⟩)

set_option maxHeartbeats 4000000 in
set_option maxRecDepth 100000 in
theorem f_X9_fits (l : Launch) (K : KE) (G : Nat → Option Nat) (H : Heap) {a w : Nat} (x0 : Int32) (x1 : Int32) (x2 : Int32) (x3 : Int32) (hT : TY K G H) (ga : G a = some 68) (gw : G w = some 0) (fx : FX K H a w) : MX l K yX9_fits cX9_fits 8 (some .int) 2 43 0 0 [.ref a, .int x0, .int x1, .int x2, .int x3] H (AE G [] H.size) (fun v H1 => (∃ r : Int32, v = some (.int r) ∧ (r.toInt = -1)) ∧ ∃ G1 : Nat → Option Nat, (∀ q t, G q = some t → G1 q = some t) ∧ TY K G1 H1) := by
  refine MX.of (by decide +kernel) (Nat.le_of_ble_eq_true rfl) ?_
  intro p e s m below meth c ls Q C hH hl hQ
  subst hH
  have C : CX p K s m _ meth c RX9 cX9_fits 8 (some .int) "fits" := C
  obtain ⟨hx, hb, hml, hown, hts, hKT, hr, hlocks, hnm⟩ := id C
  have hl : lv_has ls 8 [(0, .ref a), (1, .int x0), (2, .int x1), (3, .int x2), (4, .int x3)] := hl
  have hS : va_S (AE G [] s.heap.size) s.heap s.heap [] := va_S.rf
  have n_m1 : ((-1) : Int32).toInt = -1 := rfl
  obtain ⟨f0, f1, f2, f3, f4, f5, f6, f7, f8, f9, f10⟩ := fx
  refine lv_aload_n hx hb dX9_fits_0 rfl (lv_at hl 0 rfl) ?_
  refine lv_iload_n hx hb dX9_fits_1 rfl (lv_at hl 1 rfl) ?_
  refine x_V (As := [.int x0]) (rest := []) C (f_X9_barAt l K G s.heap (w := w) (x0) hT ga gw ⟨f0, f1, f2, f3, f4, f5, f6, f7, f8, f9, f10⟩) yo_X9_barAt wM_X9_78 ⟨⟨by decide, by decide⟩, by decide, by decide⟩ (x_rv C hT (ci := 9) rfl ga rg_68) rfl hl.1 rfl (Nat.le_of_ble_eq_true rfl) dX9_fits_2 hS (AE_sub (fun _ _ => rfl) (by decide) hS.1) (fun vH1 H1 locsH1 pH1 zH1 kH1 hSH1 => ?_)
  have hqH1 := pH1.1.symm
  subst hqH1
  have hvH1 := pH1.2
  subst hvH1
  refine W.eq (g2 := F0 m 5 ls [.null]) rfl ?_
  refine lv_astoreN (lv' := [(5, .null), (0, .ref a), (1, .int x0), (2, .int x1), (3, .int x2), (4, .int x3)]) hx hb dX9_fits_5 hl (by decide) rfl (fun ls2 hl3 => ?_)
  refine lv_aloadN hx hb dX9_fits_7 (lv_at hl3 0 rfl) ?_
  refine lv_ifnullN (tgt := 40) hx hb dX9_fits_9 (by decide) ?_
  refine lv_iconst (v := (-1)) hx hb dX9_fits_40 (by decide) ?_
  exact x_iret C hQ dX9_fits_41 hSH1 (by decide) (by decide) (⟨⟨(-1), rfl, by omega⟩, G, fun _ _ h => h, hT⟩)

set_option maxHeartbeats 4000000 in
set_option maxRecDepth 100000 in
theorem f_X9_still (l : Launch) (K : KE) (G : Nat → Option Nat) (H : Heap) {a w : Nat} (x0 : Int32) (x1 : Int32) (x2 : Int32) (hT : TY K G H) (ga : G a = some 68) (gw : G w = some 0) (fx : FX K H a w) : MX l K yX9_still cX9_still 6 (some .int) 2 43 0 0 [.ref a, .int x0, .int x1, .int x2] H (AE G [] H.size) (fun v H1 => (∃ r : Int32, v = some (.int r) ∧ (r.toInt = -1)) ∧ ∃ G1 : Nat → Option Nat, (∀ q t, G q = some t → G1 q = some t) ∧ TY K G1 H1) := by
  refine MX.of (by decide +kernel) (Nat.le_of_ble_eq_true rfl) ?_
  intro p e s m below meth c ls Q C hH hl hQ
  subst hH
  have C : CX p K s m _ meth c RX9 cX9_still 6 (some .int) "still" := C
  obtain ⟨hx, hb, hml, hown, hts, hKT, hr, hlocks, hnm⟩ := id C
  have hl : lv_has ls 6 [(0, .ref a), (1, .int x0), (2, .int x1), (3, .int x2)] := hl
  have hS : va_S (AE G [] s.heap.size) s.heap s.heap [] := va_S.rf
  have n_m1 : ((-1) : Int32).toInt = -1 := rfl
  obtain ⟨f0, f1, f2, f3, f4, f5, f6, f7, f8, f9, f10⟩ := fx
  refine lv_aload_n hx hb dX9_still_0 rfl (lv_at hl 0 rfl) ?_
  refine lv_iload_n hx hb dX9_still_1 rfl (lv_at hl 1 rfl) ?_
  refine x_V (As := [.int x0]) (rest := []) C (f_X9_barAt l K G s.heap (w := w) (x0) hT ga gw ⟨f0, f1, f2, f3, f4, f5, f6, f7, f8, f9, f10⟩) yo_X9_barAt wM_X9_78 ⟨⟨by decide, by decide⟩, by decide, by decide⟩ (x_rv C hT (ci := 9) rfl ga rg_68) rfl hl.1 rfl (Nat.le_of_ble_eq_true rfl) dX9_still_2 hS (AE_sub (fun _ _ => rfl) (by decide) hS.1) (fun vH1 H1 locsH1 pH1 zH1 kH1 hSH1 => ?_)
  have hqH1 := pH1.1.symm
  subst hqH1
  have hvH1 := pH1.2
  subst hvH1
  refine W.eq (g2 := F0 m 5 ls [.null]) rfl ?_
  refine lv_astoreN (lv' := [(4, .null), (0, .ref a), (1, .int x0), (2, .int x1), (3, .int x2)]) hx hb dX9_still_5 hl (by decide) rfl (fun ls2 hl3 => ?_)
  refine lv_aloadN hx hb dX9_still_7 (lv_at hl3 0 rfl) ?_
  refine lv_ifnullN (tgt := 23) hx hb dX9_still_9 (by decide) ?_
  refine lv_iconst (v := (-1)) hx hb dX9_still_23 (by decide) ?_
  exact x_iret C hQ dX9_still_24 hSH1 (by decide) (by decide) (⟨⟨(-1), rfl, by omega⟩, G, fun _ _ h => h, hT⟩)

set_option maxHeartbeats 4000000 in
set_option maxRecDepth 100000 in
theorem f_X9_holes (l : Launch) (K : KE) (G : Nat → Option Nat) (H : Heap) {a w : Nat} (x0 : Int32) (x1 : Int32) (x2 : Int32) (hT : TY K G H) (ga : G a = some 68) (gw : G w = some 0) (fx : FX K H a w) : MX l K yX9_holes cX9_holes 5 (some .boolean) 2 43 0 0 [.ref a, .int x0, .int x1, .int x2] H (AE G [] H.size) (fun v H1 => (∃ r : Int32, v = some (.int r) ∧ (r.toInt = 0)) ∧ ∃ G1 : Nat → Option Nat, (∀ q t, G q = some t → G1 q = some t) ∧ TY K G1 H1) := by
  refine MX.of (by decide +kernel) (Nat.le_of_ble_eq_true rfl) ?_
  intro p e s m below meth c ls Q C hH hl hQ
  subst hH
  have C : CX p K s m _ meth c RX9 cX9_holes 5 (some .boolean) "holes" := C
  obtain ⟨hx, hb, hml, hown, hts, hKT, hr, hlocks, hnm⟩ := id C
  have hl : lv_has ls 5 [(0, .ref a), (1, .int x0), (2, .int x1), (3, .int x2)] := hl
  have hS : va_S (AE G [] s.heap.size) s.heap s.heap [] := va_S.rf
  have n_0 : (0 : Int32).toInt = 0 := rfl
  obtain ⟨f0, f1, f2, f3, f4, f5, f6, f7, f8, f9, f10⟩ := fx
  refine lv_aload_n hx hb dX9_holes_0 rfl (lv_at hl 0 rfl) ?_
  refine lv_iload_n hx hb dX9_holes_1 rfl (lv_at hl 1 rfl) ?_
  refine x_V (As := [.int x0]) (rest := []) C (f_X9_barAt l K G s.heap (w := w) (x0) hT ga gw ⟨f0, f1, f2, f3, f4, f5, f6, f7, f8, f9, f10⟩) yo_X9_barAt wM_X9_78 ⟨⟨by decide, by decide⟩, by decide, by decide⟩ (x_rv C hT (ci := 9) rfl ga rg_68) rfl hl.1 rfl (Nat.le_of_ble_eq_true rfl) dX9_holes_2 hS (AE_sub (fun _ _ => rfl) (by decide) hS.1) (fun vH1 H1 locsH1 pH1 zH1 kH1 hSH1 => ?_)
  have hqH1 := pH1.1.symm
  subst hqH1
  have hvH1 := pH1.2
  subst hvH1
  refine W.eq (g2 := F0 m 5 ls [.null]) rfl ?_
  refine lv_astoreN (lv' := [(4, .null), (0, .ref a), (1, .int x0), (2, .int x1), (3, .int x2)]) hx hb dX9_holes_5 hl (by decide) rfl (fun ls2 hl3 => ?_)
  refine lv_aloadN hx hb dX9_holes_7 (lv_at hl3 0 rfl) ?_
  refine lv_ifnullN (tgt := 35) hx hb dX9_holes_9 (by decide) ?_
  refine lv_iconst (v := 0) hx hb dX9_holes_35 (by decide) ?_
  exact x_zret C hQ (Or.inl rfl) dX9_holes_36 hSH1 (by decide) (by decide) (⟨⟨0, rfl, by omega⟩, G, fun _ _ h => h, hT⟩)

set_option maxHeartbeats 4000000 in
set_option maxRecDepth 100000 in
theorem f_X9_tube (l : Launch) (K : KE) (G : Nat → Option Nat) (H : Heap) {a w : Nat} (x0 : Int32) (x1 : Int32) (x2 : Int32) (hT : TY K G H) (ga : G a = some 68) (gw : G w = some 0) (fx : FX K H a w) : MX l K yX9_tube cX9_tube 5 (some .boolean) 2 43 0 0 [.ref a, .int x0, .int x1, .int x2] H (AE G [] H.size) (fun v H1 => (∃ r : Int32, v = some (.int r) ∧ (r.toInt = 0)) ∧ ∃ G1 : Nat → Option Nat, (∀ q t, G q = some t → G1 q = some t) ∧ TY K G1 H1) := by
  refine MX.of (by decide +kernel) (Nat.le_of_ble_eq_true rfl) ?_
  intro p e s m below meth c ls Q C hH hl hQ
  subst hH
  have C : CX p K s m _ meth c RX9 cX9_tube 5 (some .boolean) "tube" := C
  obtain ⟨hx, hb, hml, hown, hts, hKT, hr, hlocks, hnm⟩ := id C
  have hl : lv_has ls 5 [(0, .ref a), (1, .int x0), (2, .int x1), (3, .int x2)] := hl
  have hS : va_S (AE G [] s.heap.size) s.heap s.heap [] := va_S.rf
  have n_0 : (0 : Int32).toInt = 0 := rfl
  obtain ⟨f0, f1, f2, f3, f4, f5, f6, f7, f8, f9, f10⟩ := fx
  refine lv_aload_n hx hb dX9_tube_0 rfl (lv_at hl 0 rfl) ?_
  refine lv_iload_n hx hb dX9_tube_1 rfl (lv_at hl 1 rfl) ?_
  refine x_V (As := [.int x0]) (rest := []) C (f_X9_barAt l K G s.heap (w := w) (x0) hT ga gw ⟨f0, f1, f2, f3, f4, f5, f6, f7, f8, f9, f10⟩) yo_X9_barAt wM_X9_78 ⟨⟨by decide, by decide⟩, by decide, by decide⟩ (x_rv C hT (ci := 9) rfl ga rg_68) rfl hl.1 rfl (Nat.le_of_ble_eq_true rfl) dX9_tube_2 hS (AE_sub (fun _ _ => rfl) (by decide) hS.1) (fun vH1 H1 locsH1 pH1 zH1 kH1 hSH1 => ?_)
  have hqH1 := pH1.1.symm
  subst hqH1
  have hvH1 := pH1.2
  subst hvH1
  refine W.eq (g2 := F0 m 5 ls [.null]) rfl ?_
  refine lv_astoreN (lv' := [(4, .null), (0, .ref a), (1, .int x0), (2, .int x1), (3, .int x2)]) hx hb dX9_tube_5 hl (by decide) rfl (fun ls2 hl3 => ?_)
  refine lv_aloadN hx hb dX9_tube_7 (lv_at hl3 0 rfl) ?_
  refine lv_ifnullN (tgt := 32) hx hb dX9_tube_9 (by decide) ?_
  refine lv_iconst (v := 0) hx hb dX9_tube_32 (by decide) ?_
  exact x_zret C hQ (Or.inl rfl) dX9_tube_33 hSH1 (by decide) (by decide) (⟨⟨0, rfl, by omega⟩, G, fun _ _ h => h, hT⟩)

set_option maxHeartbeats 4000000 in
set_option maxRecDepth 100000 in
theorem f_X9_in (l : Launch) (K : KE) (G : Nat → Option Nat) (H : Heap) {a w : Nat} (x0 : Int32) (x1 : Int32) (x2 : Int32) (x3 : Int32) (hT : TY K G H) (ga : G a = some 68) (gw : G w = some 0) (fx : FX K H a w) : MX l K yX9_in cX9_in 7 (some .int) 2 43 0 0 [.ref a, .int x0, .int x1, .int x2, .int x3] H (AE G [] H.size) (fun v H1 => (∃ r : Int32, v = some (.int r) ∧ (r.toInt = -1)) ∧ ∃ G1 : Nat → Option Nat, (∀ q t, G q = some t → G1 q = some t) ∧ TY K G1 H1) := by
  refine MX.of (by decide +kernel) (Nat.le_of_ble_eq_true rfl) ?_
  intro p e s m below meth c ls Q C hH hl hQ
  subst hH
  have C : CX p K s m _ meth c RX9 cX9_in 7 (some .int) "in" := C
  obtain ⟨hx, hb, hml, hown, hts, hKT, hr, hlocks, hnm⟩ := id C
  have hl : lv_has ls 7 [(0, .ref a), (1, .int x0), (2, .int x1), (3, .int x2), (4, .int x3)] := hl
  have hS : va_S (AE G [] s.heap.size) s.heap s.heap [] := va_S.rf
  have n_m1 : ((-1) : Int32).toInt = -1 := rfl
  obtain ⟨f0, f1, f2, f3, f4, f5, f6, f7, f8, f9, f10⟩ := fx
  refine lv_aload_n hx hb dX9_in_0 rfl (lv_at hl 0 rfl) ?_
  refine lv_iload_n hx hb dX9_in_1 rfl (lv_at hl 1 rfl) ?_
  refine x_V (As := [.int x0]) (rest := []) C (f_X9_barAt l K G s.heap (w := w) (x0) hT ga gw ⟨f0, f1, f2, f3, f4, f5, f6, f7, f8, f9, f10⟩) yo_X9_barAt wM_X9_78 ⟨⟨by decide, by decide⟩, by decide, by decide⟩ (x_rv C hT (ci := 9) rfl ga rg_68) rfl hl.1 rfl (Nat.le_of_ble_eq_true rfl) dX9_in_2 hS (AE_sub (fun _ _ => rfl) (by decide) hS.1) (fun vH1 H1 locsH1 pH1 zH1 kH1 hSH1 => ?_)
  have hqH1 := pH1.1.symm
  subst hqH1
  have hvH1 := pH1.2
  subst hvH1
  refine W.eq (g2 := F0 m 5 ls [.null]) rfl ?_
  refine lv_astoreN (lv' := [(5, .null), (0, .ref a), (1, .int x0), (2, .int x1), (3, .int x2), (4, .int x3)]) hx hb dX9_in_5 hl (by decide) rfl (fun ls2 hl3 => ?_)
  refine lv_aloadN hx hb dX9_in_7 (lv_at hl3 0 rfl) ?_
  refine lv_ifnullN (tgt := 30) hx hb dX9_in_9 (by decide) ?_
  refine lv_iconst (v := (-1)) hx hb dX9_in_30 (by decide) ?_
  exact x_iret C hQ dX9_in_31 hSH1 (by decide) (by decide) (⟨⟨(-1), rfl, by omega⟩, G, fun _ _ h => h, hT⟩)

set_option maxHeartbeats 4000000 in
set_option maxRecDepth 100000 in
theorem f_X9_down (l : Launch) (K : KE) (G : Nat → Option Nat) (H : Heap) {a w : Nat} (x0 : Int32) (hT : TY K G H) (ga : G a = some 68) (gw : G w = some 0) (fx : FX K H a w) : MX l K yX9_down cX9_down 7 (some .int) 2 43 0 0 [.ref a, .int x0] H (AE G [] H.size) (fun v H1 => (∃ r : Int32, v = some (.int r) ∧ (r.toInt = -1)) ∧ ∃ G1 : Nat → Option Nat, (∀ q t, G q = some t → G1 q = some t) ∧ TY K G1 H1) := by
  refine MX.of (by decide +kernel) (Nat.le_of_ble_eq_true rfl) ?_
  intro p e s m below meth c ls Q C hH hl hQ
  subst hH
  have C : CX p K s m _ meth c RX9 cX9_down 7 (some .int) "down" := C
  obtain ⟨hx, hb, hml, hown, hts, hKT, hr, hlocks, hnm⟩ := id C
  have hl : lv_has ls 7 [(0, .ref a), (1, .int x0)] := hl
  have hS : va_S (AE G [] s.heap.size) s.heap s.heap [] := va_S.rf
  have n_m1 : ((-1) : Int32).toInt = -1 := rfl
  obtain ⟨f0, f1, f2, f3, f4, f5, f6, f7, f8, f9, f10⟩ := fx
  refine lv_aload_n hx hb dX9_down_0 rfl (lv_at hl 0 rfl) ?_
  refine lv_iload_n hx hb dX9_down_1 rfl (lv_at hl 1 rfl) ?_
  refine x_V (As := [.int x0]) (rest := []) C (f_X9_barAt l K G s.heap (w := w) (x0) hT ga gw ⟨f0, f1, f2, f3, f4, f5, f6, f7, f8, f9, f10⟩) yo_X9_barAt wM_X9_78 ⟨⟨by decide, by decide⟩, by decide, by decide⟩ (x_rv C hT (ci := 9) rfl ga rg_68) rfl hl.1 rfl (Nat.le_of_ble_eq_true rfl) dX9_down_2 hS (AE_sub (fun _ _ => rfl) (by decide) hS.1) (fun vH1 H1 locsH1 pH1 zH1 kH1 hSH1 => ?_)
  have hqH1 := pH1.1.symm
  subst hqH1
  have hvH1 := pH1.2
  subst hvH1
  refine W.eq (g2 := F0 m 5 ls [.null]) rfl ?_
  refine lv_astore_nN (lv' := [(2, .null), (0, .ref a), (1, .int x0)]) hx hb dX9_down_5 rfl hl (by decide) rfl (fun ls2 hl3 => ?_)
  refine lv_aload_nN hx hb dX9_down_6 rfl (lv_at hl3 0 rfl) ?_
  refine lv_ifnonnullN hx hb dX9_down_7 ?_
  refine lv_iconst (v := (-1)) hx hb dX9_down_10 (by decide) ?_
  exact x_iret C hQ dX9_down_11 hSH1 (by decide) (by decide) (⟨⟨(-1), rfl, by omega⟩, G, fun _ _ h => h, hT⟩)

set_option maxHeartbeats 4000000 in
set_option maxRecDepth 100000 in
theorem f_X9_enough (l : Launch) (K : KE) (G : Nat → Option Nat) (H : Heap) {a w : Nat} (x0 : Int32) (x1 : Int32) (x2 : Int32) (hT : TY K G H) (ga : G a = some 68) (gw : G w = some 0) (fx : FX K H a w) : MX l K yX9_enough cX9_enough 9 (some .int) 2 43 0 0 [.ref a, .int x0, .int x1, .int x2] H (AE G [] H.size) (fun v H1 => (∃ r : Int32, v = some (.int r) ∧ (r.toInt = -1)) ∧ ∃ G1 : Nat → Option Nat, (∀ q t, G q = some t → G1 q = some t) ∧ TY K G1 H1) := by
  refine MX.of (by decide +kernel) (Nat.le_of_ble_eq_true rfl) ?_
  intro p e s m below meth c ls Q C hH hl hQ
  subst hH
  have C : CX p K s m _ meth c RX9 cX9_enough 9 (some .int) "enough" := C
  obtain ⟨hx, hb, hml, hown, hts, hKT, hr, hlocks, hnm⟩ := id C
  have hl : lv_has ls 9 [(0, .ref a), (1, .int x0), (2, .int x1), (3, .int x2)] := hl
  have hS : va_S (AE G [] s.heap.size) s.heap s.heap [] := va_S.rf
  have n_m1 : ((-1) : Int32).toInt = -1 := rfl
  obtain ⟨f0, f1, f2, f3, f4, f5, f6, f7, f8, f9, f10⟩ := fx
  refine lv_aload_n hx hb dX9_enough_0 rfl (lv_at hl 0 rfl) ?_
  refine lv_iload_n hx hb dX9_enough_1 rfl (lv_at hl 1 rfl) ?_
  refine x_V (As := [.int x0]) (rest := []) C (f_X9_barAt l K G s.heap (w := w) (x0) hT ga gw ⟨f0, f1, f2, f3, f4, f5, f6, f7, f8, f9, f10⟩) yo_X9_barAt wM_X9_78 ⟨⟨by decide, by decide⟩, by decide, by decide⟩ (x_rv C hT (ci := 9) rfl ga rg_68) rfl hl.1 rfl (Nat.le_of_ble_eq_true rfl) dX9_enough_2 hS (AE_sub (fun _ _ => rfl) (by decide) hS.1) (fun vH1 H1 locsH1 pH1 zH1 kH1 hSH1 => ?_)
  have hqH1 := pH1.1.symm
  subst hqH1
  have hvH1 := pH1.2
  subst hvH1
  refine W.eq (g2 := F0 m 5 ls [.null]) rfl ?_
  refine lv_astoreN (lv' := [(4, .null), (0, .ref a), (1, .int x0), (2, .int x1), (3, .int x2)]) hx hb dX9_enough_5 hl (by decide) rfl (fun ls2 hl3 => ?_)
  refine lv_aloadN hx hb dX9_enough_7 (lv_at hl3 0 rfl) ?_
  refine lv_ifnullN (tgt := 38) hx hb dX9_enough_9 (by decide) ?_
  refine lv_iconst (v := (-1)) hx hb dX9_enough_38 (by decide) ?_
  exact x_iret C hQ dX9_enough_39 hSH1 (by decide) (by decide) (⟨⟨(-1), rfl, by omega⟩, G, fun _ _ h => h, hT⟩)

set_option maxHeartbeats 4000000 in
set_option maxRecDepth 100000 in
theorem f_X9_end (l : Launch) (K : KE) (G : Nat → Option Nat) (H : Heap) {a w : Nat} (x0 : Int32) (hT : TY K G H) (ga : G a = some 68) (gw : G w = some 0) (fx : FX K H a w) : MX l K yX9_end cX9_end 2 (some .boolean) 0 0 0 0 [.ref a, .int x0] H (AE G [68] H.size) (fun v H1 => (∃ r : Int32, v = some (.int r) ∧ ((x0.toInt = 0 ∧ r.toInt = 1) ∨ (x0.toInt ≠ 0 ∧ r.toInt = 0))) ∧ ∃ G1 : Nat → Option Nat, (∀ q t, G q = some t → G1 q = some t) ∧ TY K G1 H1) := by
  refine MX.of (by decide +kernel) (Nat.le_of_ble_eq_true rfl) ?_
  intro p e s m below meth c ls Q C hH hl hQ
  subst hH
  have C : CX p K s m _ meth c RX9 cX9_end 2 (some .boolean) "end" := C
  obtain ⟨hx, hb, hml, hown, hts, hKT, hr, hlocks, hnm⟩ := id C
  have hl : lv_has ls 2 [(0, .ref a), (1, .int x0)] := hl
  have hS : va_S (AE G [68] s.heap.size) s.heap s.heap [] := va_S.rf
  have n_0 : (0 : Int32).toInt = 0 := rfl
  have n_1 : (1 : Int32).toInt = 1 := rfl
  obtain ⟨f0, f1, f2, f3, f4, f5, f6, f7, f8, f9, f10⟩ := fx
  refine lv_iload_n hx hb dX9_end_0 rfl (lv_at hl 1 rfl) ?_
  refine lv_if_lt (tgt := 12) hx hb dX9_end_1 (by decide) (fun c1 => ?_) (fun c1 => ?_)
  · have k2 := i_lt c1
    refine lv_iconst (v := 0) hx hb dX9_end_12 (by decide) ?_
    exact x_zret C hQ (Or.inl rfl) dX9_end_13 hS (by decide) (by decide) (⟨⟨0, rfl, by omega⟩, G, fun _ _ h => h, hT⟩)
  · have k2 := i_nlt c1
    refine lv_iload_n hx hb dX9_end_4 rfl (lv_at hl 1 rfl) ?_
    refine lv_aload_n hx hb dX9_end_5 rfl (lv_at hl 0 rfl) ?_
    refine x_gi C hT (ci := 9) (k := 3) rfl inX9 (by decide) wF_X9_105 ga rg_68 rfl dX9_end_6 (fun x3 ex3 bx3 => ?_)
    have ux3 : x3 = 0 := ex3.trans f2
    subst ux3
    refine lv_icmp_le (tgt := 14) hx hb dX9_end_9 (by decide) (fun c4 => ?_) (fun c4 => ?_)
    · have k5 := i_le c4
      refine lv_aload_n hx hb dX9_end_14 rfl (lv_at hl 0 rfl) ?_
      refine lv_iload_n hx hb dX9_end_15 rfl (lv_at hl 1 rfl) ?_
      refine x_put C hT hS (ci := 9) (k := 3) (v := .int x0) (ty0 := tyX9) rfl inX9 tyX9_ok nmX9 (by decide) rfl wF_X9_105 ga rg_68 rfl rfl (okI (by have := i_rng x0; omega) (by have := i_rng x0; omega)) rfl rfl (AE_in ga (by decide)) dX9_end_16 (fun H6 locsH6 hTH6 hSH6 wH6 => ?_)
      have m7 := f0.trans (Wr.neR wH6 (Or.inr (x_apart hKT hts inX9 tyX9 tyX9_ok nmX9 rfl 0 3 (by decide) (by decide) (by decide)))).symm
      have m8 := (Wr.neV wH6 (Or.inr (x_apart hKT hts inX9 tyX9 tyX9_ok nmX9 rfl 1 3 (by decide) (by decide) (by decide)))).trans f1
      have m10 := (Wr.neI wH6 (Or.inl (G_ne gw ga (by decide)))).trans f3
      have m11 := (Wr.neI wH6 (Or.inl (G_ne gw ga (by decide)))).trans f4
      have m12 := (Wr.neI wH6 (Or.inl (G_ne gw ga (by decide)))).trans f5
      have m13 := (Wr.neI wH6 (Or.inl (G_ne gw ga (by decide)))).trans f6
      have m14 := (Wr.neI wH6 (Or.inl (G_ne gw ga (by decide)))).trans f7
      have m15 := (Wr.neI wH6 (Or.inl (G_ne gw ga (by decide)))).trans f8
      have m16 := (Wr.neI wH6 (Or.inl (G_ne gw ga (by decide)))).trans f9
      have m17 := (Wr.neI wH6 (Or.inl (G_ne gw ga (by decide)))).trans f10
      have m18 := Wr.I wH6
      have m18 := m18.symm
      refine lv_iconst (v := 1) hx hb dX9_end_19 (by decide) ?_
      exact x_zret C hQ (Or.inr rfl) dX9_end_20 hSH6 (by decide) (by decide) (⟨⟨1, rfl, by omega⟩, G, fun _ _ h => h, hTH6⟩)
    · have k5 := i_nle c4
      refine lv_iconst (v := 0) hx hb dX9_end_12 (by decide) ?_
      exact x_zret C hQ (Or.inl rfl) dX9_end_13 hS (by decide) (by decide) (⟨⟨0, rfl, by omega⟩, G, fun _ _ h => h, hT⟩)

set_option maxHeartbeats 4000000 in
set_option maxRecDepth 100000 in
theorem f_X9_fault (l : Launch) (K : KE) (G : Nat → Option Nat) (H : Heap) {a w : Nat} (x0 : Int32) (hT : TY K G H) (ga : G a = some 68) (gw : G w = some 0) (fx : FX K H a w) : MX l K yX9_fault cX9_fault 2 (some .int) 0 0 0 0 [.ref a, .int x0] H (AE G [] H.size) (fun v H1 => (∃ r : Int32, v = some (.int r) ∧ ((x0.toInt = 0 ∧ r.toInt = 0) ∨ (x0.toInt ≠ 0 ∧ r.toInt = -1))) ∧ ∃ G1 : Nat → Option Nat, (∀ q t, G q = some t → G1 q = some t) ∧ TY K G1 H1) := by
  refine MX.of (by decide +kernel) (Nat.le_of_ble_eq_true rfl) ?_
  intro p e s m below meth c ls Q C hH hl hQ
  subst hH
  have C : CX p K s m _ meth c RX9 cX9_fault 2 (some .int) "fault" := C
  obtain ⟨hx, hb, hml, hown, hts, hKT, hr, hlocks, hnm⟩ := id C
  have hl : lv_has ls 2 [(0, .ref a), (1, .int x0)] := hl
  have hS : va_S (AE G [] s.heap.size) s.heap s.heap [] := va_S.rf
  have n_m1 : ((-1) : Int32).toInt = -1 := rfl
  have n_0 : (0 : Int32).toInt = 0 := rfl
  have n_1 : (1 : Int32).toInt = 1 := rfl
  obtain ⟨f0, f1, f2, f3, f4, f5, f6, f7, f8, f9, f10⟩ := fx
  refine lv_iload_n hx hb dX9_fault_0 rfl (lv_at hl 1 rfl) ?_
  by_cases c1 : x0 = 0
  · have kc1 := i_eq c1
    refine lv_lookup (tgt := 28) (off := 27) hx hb dX9_fault_1 (by decide) (by rw [c1]; rfl) (by decide) ?_
    refine lv_aload_n hx hb dX9_fault_28 rfl (lv_at hl 0 rfl) ?_
    refine x_gr C hT (ci := 9) (k := 0) rfl inX9 (by decide) wF_X9_12 ga rg_68 rfl dX9_fault_29 (fun q2 eq2 gq2 => ?_)
    have uq2 : w = q2 := (f0).trans eq2.symm
    subst uq2
    refine x_gi C hT (ci := 8) (k := 6) rfl inX8 (by decide) wF_X9_111 gw rg_0 rfl dX9_fault_32 (fun x3 ex3 bx3 => ?_)
    have ux3 : x3 = 0 := ex3.trans f6
    subst ux3
    exact x_iret C hQ dX9_fault_35 hS (by decide) (by decide) (⟨⟨0, rfl, by omega⟩, G, fun _ _ h => h, hT⟩)
  have kc1 := i_ne c1
  by_cases c4 : x0 = 1
  · have kc4 := i_eq c4
    refine lv_lookup (tgt := 36) (off := 35) hx hb dX9_fault_1 (by decide) (by rw [c4]; rfl) (by decide) ?_
    refine lv_aload_n hx hb dX9_fault_36 rfl (lv_at hl 0 rfl) ?_
    refine x_gr C hT (ci := 9) (k := 0) rfl inX9 (by decide) wF_X9_12 ga rg_68 rfl dX9_fault_37 (fun q5 eq5 gq5 => ?_)
    have uq5 : w = q5 := (f0).trans eq5.symm
    subst uq5
    refine x_gi C hT (ci := 8) (k := 7) rfl inX8 (by decide) wF_X9_114 gw rg_0 rfl dX9_fault_40 (fun x6 ex6 bx6 => ?_)
    have ux6 : x6 = (-1) := ex6.trans f7
    subst ux6
    exact x_iret C hQ dX9_fault_43 hS (by decide) (by decide) (⟨⟨(-1), rfl, by omega⟩, G, fun _ _ h => h, hT⟩)
  have kc4 := i_ne c4
  refine lv_lookup (tgt := 44) (off := 43) hx hb dX9_fault_1 (by decide) (show Op.lookupswitch.offset [(0, 27), (1, 35)] 43 x0.toInt = 43 by rw [lv_osw (a := 0) c1 rfl, lv_osw (a := 1) c4 rfl]; rfl) (by decide) ?_
  refine lv_iconst (v := (-1)) hx hb dX9_fault_44 (by decide) ?_
  exact x_iret C hQ dX9_fault_45 hS (by decide) (by decide) (⟨⟨(-1), rfl, by omega⟩, G, fun _ _ h => h, hT⟩)

set_option maxHeartbeats 4000000 in
set_option maxRecDepth 100000 in
theorem f_X9_force (l : Launch) (K : KE) (G : Nat → Option Nat) (H : Heap) {a w : Nat} (x0 : Int32) (hT : TY K G H) (ga : G a = some 68) (gw : G w = some 0) (fx : FX K H a w) : MX l K yX9_force cX9_force 3 (some .int) 1 22 0 0 [.ref a, .int x0] H (AE G [0] H.size) (fun v H1 => (∃ r : Int32, v = some (.int r) ∧ ((0 ≤ x0.toInt ∧ x0.toInt ≤ 1 ∧ r.toInt = 0) ∨ (¬ (0 ≤ x0.toInt ∧ x0.toInt ≤ 1) ∧ r.toInt = -1))) ∧ ∃ G1 : Nat → Option Nat, (∀ q t, G q = some t → G1 q = some t) ∧ TY K G1 H1) := by
  refine MX.of (by decide +kernel) (Nat.le_of_ble_eq_true rfl) ?_
  intro p e s m below meth c ls Q C hH hl hQ
  subst hH
  have C : CX p K s m _ meth c RX9 cX9_force 3 (some .int) "force" := C
  obtain ⟨hx, hb, hml, hown, hts, hKT, hr, hlocks, hnm⟩ := id C
  have hl : lv_has ls 3 [(0, .ref a), (1, .int x0)] := hl
  have hS : va_S (AE G [0] s.heap.size) s.heap s.heap [] := va_S.rf
  have n_m1 : ((-1) : Int32).toInt = -1 := rfl
  have n_0 : (0 : Int32).toInt = 0 := rfl
  have n_1 : (1 : Int32).toInt = 1 := rfl
  obtain ⟨f0, f1, f2, f3, f4, f5, f6, f7, f8, f9, f10⟩ := fx
  refine lv_iload_n hx hb dX9_force_0 rfl (lv_at hl 1 rfl) ?_
  refine lv_iconst (v := 0) hx hb dX9_force_1 (by decide) ?_
  refine lv_iconst (v := 1) hx hb dX9_force_2 (by decide) ?_
  refine x_S (As := [.int x0, .int 0, .int 1]) (rest := []) C (c_X9_within l K G s.heap (x0) (0) (1) hT) yo_X9_within wM_X9_89 ⟨⟨by decide, by decide⟩, by decide, by decide⟩ rfl hl.1 rfl (Nat.le_of_ble_eq_true rfl) dX9_force_3 hS (AE_sub (fun _ _ => rfl) (by decide) hS.1) (fun vH1 H1 locsH1 pH1 zH1 kH1 hSH1 => ?_)
  have hqH1 := pH1.1.symm
  subst hqH1
  rcases pH1.2 with ⟨hvH1, hcH1⟩ | ⟨hvH1, hcH1⟩
  · subst hvH1
    refine W.eq (g2 := F0 m 6 ls [.int 1]) rfl ?_
    refine lv_if_ne (tgt := 11) hx hb dX9_force_6 (by decide) (fun c2 => ?_) (fun c2 => ?_)
    · have k3 := i_ne c2
      refine lv_aload_n hx hb dX9_force_11 rfl (lv_at hl 0 rfl) ?_
      refine x_gr C hT (ci := 9) (k := 0) rfl inX9 (by decide) wF_X9_12 ga rg_68 rfl dX9_force_12 (fun q4 eq4 gq4 => ?_)
      have uq4 : w = q4 := (f0).trans eq4.symm
      subst uq4
      refine x_gi C hT (ci := 8) (k := 4) rfl inX8 (by decide) wF_X9_147 gw rg_0 rfl dX9_force_15 (fun x5 ex5 bx5 => ?_)
      have ux5 : x5 = 0 := ex5.trans f4
      subst ux5
      refine lv_istore_n (lv' := [(2, .int 0), (0, .ref a), (1, .int x0)]) hx hb dX9_force_18 rfl hl (by decide) rfl (fun ls6 hl7 => ?_)
      refine lv_aload_n hx hb dX9_force_19 rfl (lv_at hl7 1 rfl) ?_
      refine x_gr C hT (ci := 9) (k := 0) rfl inX9 (by decide) wF_X9_12 ga rg_68 rfl dX9_force_20 (fun q8 eq8 gq8 => ?_)
      have uq8 : w = q8 := (f0).trans eq8.symm
      subst uq8
      refine lv_iload_n hx hb dX9_force_23 rfl (lv_at hl7 2 rfl) ?_
      refine x_put C hT hSH1 (ci := 8) (k := 4) (v := .int x0) (ty0 := tyX8) rfl inX8 tyX8_ok nmX8 (by decide) rfl wF_X9_147 gw rg_0 rfl rfl (okI (by have := i_rng x0; omega) (by have := i_rng x0; omega)) rfl rfl (AE_in gw (by decide)) dX9_force_24 (fun H9 locsH9 hTH9 hSH9 wH9 => ?_)
      have m10 := f0.trans (Wr.neR wH9 (Or.inl (G_ne ga gw (by decide)))).symm
      have m11 := (Wr.neV wH9 (Or.inl (G_ne ga gw (by decide)))).trans f1
      have m12 := (Wr.neI wH9 (Or.inl (G_ne ga gw (by decide)))).trans f2
      have m13 := (Wr.neI wH9 (Or.inr (x_apart hKT hts inX8 tyX8 tyX8_ok nmX8 rfl 1 4 (by decide) (by decide) (by decide)))).trans f3
      have m15 := (Wr.neI wH9 (Or.inr (x_apart hKT hts inX8 tyX8 tyX8_ok nmX8 rfl 5 4 (by decide) (by decide) (by decide)))).trans f5
      have m16 := (Wr.neI wH9 (Or.inr (x_apart hKT hts inX8 tyX8 tyX8_ok nmX8 rfl 6 4 (by decide) (by decide) (by decide)))).trans f6
      have m17 := (Wr.neI wH9 (Or.inr (x_apart hKT hts inX8 tyX8 tyX8_ok nmX8 rfl 7 4 (by decide) (by decide) (by decide)))).trans f7
      have m18 := (Wr.neI wH9 (Or.inr (x_apart hKT hts inX8 tyX8 tyX8_ok nmX8 rfl 10 4 (by decide) (by decide) (by decide)))).trans f8
      have m19 := (Wr.neI wH9 (Or.inr (x_apart hKT hts inX8 tyX8 tyX8_ok nmX8 rfl 13 4 (by decide) (by decide) (by decide)))).trans f9
      have m20 := (Wr.neI wH9 (Or.inr (x_apart hKT hts inX8 tyX8 tyX8_ok nmX8 rfl 16 4 (by decide) (by decide) (by decide)))).trans f10
      have m21 := Wr.I wH9
      have m21 := m21.symm
      refine lv_iload_n hx hb dX9_force_27 rfl (lv_at hl7 0 rfl) ?_
      exact x_iret C hQ dX9_force_28 hSH9 (by decide) (by decide) (⟨⟨0, rfl, by omega⟩, G, fun _ _ h => h, hTH9⟩)
    · have k3 := i_eq c2
      exfalso
      omega
  · subst hvH1
    refine W.eq (g2 := F0 m 6 ls [.int 0]) rfl ?_
    refine lv_if_ne (tgt := 11) hx hb dX9_force_6 (by decide) (fun c22 => ?_) (fun c22 => ?_)
    · have k23 := i_ne c22
      exfalso
      omega
    · have k23 := i_eq c22
      refine lv_iconst (v := (-1)) hx hb dX9_force_9 (by decide) ?_
      exact x_iret C hQ dX9_force_10 hSH1 (by decide) (by decide) (⟨⟨(-1), rfl, by omega⟩, G, fun _ _ h => h, hT⟩)

set_option maxHeartbeats 4000000 in
set_option maxRecDepth 100000 in
theorem f_X9_slack (l : Launch) (K : KE) (G : Nat → Option Nat) (H : Heap) {a w : Nat} (x0 : Int32) (hT : TY K G H) (ga : G a = some 68) (gw : G w = some 0) (fx : FX K H a w) : MX l K yX9_slack cX9_slack 2 (some .boolean) 1 22 0 0 [.ref a, .int x0] H (AE G [0] H.size) (fun v H1 => (∃ r : Int32, v = some (.int r) ∧ ((0 ≤ x0.toInt ∧ x0.toInt ≤ 9999 ∧ r.toInt = 1) ∨ (¬ (0 ≤ x0.toInt ∧ x0.toInt ≤ 9999) ∧ r.toInt = 0))) ∧ ∃ G1 : Nat → Option Nat, (∀ q t, G q = some t → G1 q = some t) ∧ TY K G1 H1) := by
  refine MX.of (by decide +kernel) (Nat.le_of_ble_eq_true rfl) ?_
  intro p e s m below meth c ls Q C hH hl hQ
  subst hH
  have C : CX p K s m _ meth c RX9 cX9_slack 2 (some .boolean) "slack" := C
  obtain ⟨hx, hb, hml, hown, hts, hKT, hr, hlocks, hnm⟩ := id C
  have hl : lv_has ls 2 [(0, .ref a), (1, .int x0)] := hl
  have hS : va_S (AE G [0] s.heap.size) s.heap s.heap [] := va_S.rf
  have n_0 : (0 : Int32).toInt = 0 := rfl
  have n_1 : (1 : Int32).toInt = 1 := rfl
  have n_9999 : (9999 : Int32).toInt = 9999 := rfl
  obtain ⟨f0, f1, f2, f3, f4, f5, f6, f7, f8, f9, f10⟩ := fx
  refine lv_iload_n hx hb dX9_slack_0 rfl (lv_at hl 1 rfl) ?_
  refine lv_iconst (v := 0) hx hb dX9_slack_1 (by decide) ?_
  refine lv_sipush (v := 9999) hx hb dX9_slack_2 (by decide) ?_
  refine x_S (As := [.int x0, .int 0, .int 9999]) (rest := []) C (c_X9_within l K G s.heap (x0) (0) (9999) hT) yo_X9_within wM_X9_89 ⟨⟨by decide, by decide⟩, by decide, by decide⟩ rfl hl.1 rfl (Nat.le_of_ble_eq_true rfl) dX9_slack_5 hS (AE_sub (fun _ _ => rfl) (by decide) hS.1) (fun vH1 H1 locsH1 pH1 zH1 kH1 hSH1 => ?_)
  have hqH1 := pH1.1.symm
  subst hqH1
  rcases pH1.2 with ⟨hvH1, hcH1⟩ | ⟨hvH1, hcH1⟩
  · subst hvH1
    refine W.eq (g2 := F0 m 8 ls [.int 1]) rfl ?_
    refine lv_if_ne (tgt := 13) hx hb dX9_slack_8 (by decide) (fun c2 => ?_) (fun c2 => ?_)
    · have k3 := i_ne c2
      refine lv_aload_n hx hb dX9_slack_13 rfl (lv_at hl 0 rfl) ?_
      refine x_gr C hT (ci := 9) (k := 0) rfl inX9 (by decide) wF_X9_12 ga rg_68 rfl dX9_slack_14 (fun q4 eq4 gq4 => ?_)
      have uq4 : w = q4 := (f0).trans eq4.symm
      subst uq4
      refine lv_iload_n hx hb dX9_slack_17 rfl (lv_at hl 1 rfl) ?_
      refine x_put C hT hSH1 (ci := 8) (k := 5) (v := .int x0) (ty0 := tyX8) rfl inX8 tyX8_ok nmX8 (by decide) rfl wF_X9_184 gw rg_0 rfl rfl (okI (by have := i_rng x0; omega) (by have := i_rng x0; omega)) rfl rfl (AE_in gw (by decide)) dX9_slack_18 (fun H5 locsH5 hTH5 hSH5 wH5 => ?_)
      have m6 := f0.trans (Wr.neR wH5 (Or.inl (G_ne ga gw (by decide)))).symm
      have m7 := (Wr.neV wH5 (Or.inl (G_ne ga gw (by decide)))).trans f1
      have m8 := (Wr.neI wH5 (Or.inl (G_ne ga gw (by decide)))).trans f2
      have m9 := (Wr.neI wH5 (Or.inr (x_apart hKT hts inX8 tyX8 tyX8_ok nmX8 rfl 1 5 (by decide) (by decide) (by decide)))).trans f3
      have m10 := (Wr.neI wH5 (Or.inr (x_apart hKT hts inX8 tyX8 tyX8_ok nmX8 rfl 4 5 (by decide) (by decide) (by decide)))).trans f4
      have m12 := (Wr.neI wH5 (Or.inr (x_apart hKT hts inX8 tyX8 tyX8_ok nmX8 rfl 6 5 (by decide) (by decide) (by decide)))).trans f6
      have m13 := (Wr.neI wH5 (Or.inr (x_apart hKT hts inX8 tyX8 tyX8_ok nmX8 rfl 7 5 (by decide) (by decide) (by decide)))).trans f7
      have m14 := (Wr.neI wH5 (Or.inr (x_apart hKT hts inX8 tyX8 tyX8_ok nmX8 rfl 10 5 (by decide) (by decide) (by decide)))).trans f8
      have m15 := (Wr.neI wH5 (Or.inr (x_apart hKT hts inX8 tyX8 tyX8_ok nmX8 rfl 13 5 (by decide) (by decide) (by decide)))).trans f9
      have m16 := (Wr.neI wH5 (Or.inr (x_apart hKT hts inX8 tyX8 tyX8_ok nmX8 rfl 16 5 (by decide) (by decide) (by decide)))).trans f10
      have m17 := Wr.I wH5
      have m17 := m17.symm
      refine lv_iconst (v := 1) hx hb dX9_slack_21 (by decide) ?_
      exact x_zret C hQ (Or.inr rfl) dX9_slack_22 hSH5 (by decide) (by decide) (⟨⟨1, rfl, by omega⟩, G, fun _ _ h => h, hTH5⟩)
    · have k3 := i_eq c2
      exfalso
      omega
  · subst hvH1
    refine W.eq (g2 := F0 m 8 ls [.int 0]) rfl ?_
    refine lv_if_ne (tgt := 13) hx hb dX9_slack_8 (by decide) (fun c18 => ?_) (fun c18 => ?_)
    · have k19 := i_ne c18
      exfalso
      omega
    · have k19 := i_eq c18
      refine lv_iconst (v := 0) hx hb dX9_slack_11 (by decide) ?_
      exact x_zret C hQ (Or.inl rfl) dX9_slack_12 hSH1 (by decide) (by decide) (⟨⟨0, rfl, by omega⟩, G, fun _ _ h => h, hT⟩)

set_option maxHeartbeats 4000000 in
set_option maxRecDepth 100000 in
theorem f_X9_night (l : Launch) (K : KE) (G : Nat → Option Nat) (H : Heap) {a w : Nat} (x0 : Int32) (x1 : Int32) (hT : TY K G H) (ga : G a = some 68) (gw : G w = some 0) (fx : FX K H a w) : MX l K yX9_night cX9_night 3 (some .int) 2 43 0 0 [.ref a, .int x0, .int x1] H (AE G [0, 28, 29] H.size) (fun v H1 => (∃ r : Int32, v = some (.int r) ∧ (((-20 ≤ x0.toInt ∧ x0.toInt ≤ 50 ∧ 0 ≤ x1.toInt ∧ x1.toInt ≤ 99) ∧ r.toInt = 0) ∨ (¬ (-20 ≤ x0.toInt ∧ x0.toInt ≤ 50 ∧ 0 ≤ x1.toInt ∧ x1.toInt ≤ 99) ∧ r.toInt = -1))) ∧ ∃ G1 : Nat → Option Nat, (∀ q t, G q = some t → G1 q = some t) ∧ TY K G1 H1) := by
  refine MX.of (by decide +kernel) (Nat.le_of_ble_eq_true rfl) ?_
  intro p e s m below meth c ls Q C hH hl hQ
  subst hH
  have C : CX p K s m _ meth c RX9 cX9_night 3 (some .int) "night" := C
  obtain ⟨hx, hb, hml, hown, hts, hKT, hr, hlocks, hnm⟩ := id C
  have hl : lv_has ls 3 [(0, .ref a), (1, .int x0), (2, .int x1)] := hl
  have hS : va_S (AE G [0, 28, 29] s.heap.size) s.heap s.heap [] := va_S.rf
  have n_m1 : ((-1) : Int32).toInt = -1 := rfl
  have n_0 : (0 : Int32).toInt = 0 := rfl
  have n_1 : (1 : Int32).toInt = 1 := rfl
  have n_20 : (20 : Int32).toInt = 20 := rfl
  obtain ⟨f0, f1, f2, f3, f4, f5, f6, f7, f8, f9, f10⟩ := fx
  refine lv_iload_n hx hb dX9_night_0 rfl (lv_at hl 1 rfl) ?_
  refine lv_iload_n hx hb dX9_night_1 rfl (lv_at hl 2 rfl) ?_
  refine x_S (As := [.int x0, .int x1]) (rest := []) C (c_X9_isAir l K G s.heap (x0) (x1) hT) yo_X9_isAir wM_X9_275 ⟨⟨by decide, by decide⟩, by decide, by decide⟩ rfl hl.1 rfl (Nat.le_of_ble_eq_true rfl) dX9_night_2 hS (AE_sub (fun _ _ => rfl) (by decide) hS.1) (fun vH1 H1 locsH1 pH1 zH1 kH1 hSH1 => ?_)
  have hqH1 := pH1.1.symm
  subst hqH1
  rcases pH1.2 with ⟨hvH1, hcH1⟩ | ⟨hvH1, hcH1⟩
  · subst hvH1
    refine W.eq (g2 := F0 m 5 ls [.int 1]) rfl ?_
    refine lv_if_eq (tgt := 20) hx hb dX9_night_5 (by decide) (fun c2 => ?_) (fun c2 => ?_)
    · have k3 := i_eq c2
      exfalso
      omega
    · have k3 := i_ne c2
      refine lv_aload_n hx hb dX9_night_8 rfl (lv_at hl 0 rfl) ?_
      refine x_gr C hT (ci := 9) (k := 0) rfl inX9 (by decide) wF_X9_12 ga rg_68 rfl dX9_night_9 (fun q4 eq4 gq4 => ?_)
      have uq4 : w = q4 := (f0).trans eq4.symm
      subst uq4
      refine x_gi C hT (ci := 8) (k := 10) rfl inX8 (by decide) wF_X9_293 gw rg_0 rfl dX9_night_12 (fun x5 ex5 bx5 => ?_)
      have ux5 : x5 = 0 := ex5.trans f8
      subst ux5
      refine lv_bipush (v := 20) hx hb dX9_night_15 (by decide) ?_
      refine lv_icmp_lt (tgt := 22) hx hb dX9_night_17 (by decide) (fun c6 => ?_) (fun c6 => ?_)
      · have k7 := i_lt c6
        refine lv_aload_n hx hb dX9_night_22 rfl (lv_at hl 0 rfl) ?_
        refine x_gr C hT (ci := 9) (k := 0) rfl inX9 (by decide) wF_X9_12 ga rg_68 rfl dX9_night_23 (fun q8 eq8 gq8 => ?_)
        have uq8 : w = q8 := (f0).trans eq8.symm
        subst uq8
        refine x_gr C hT (ci := 8) (k := 8) rfl inX8 (by decide) wF_X9_296 gw rg_0 rfl dX9_night_26 (fun q9 eq9 gq9 => ?_)
        refine lv_aload_n hx hb dX9_night_29 rfl (lv_at hl 0 rfl) ?_
        refine x_gr C hT (ci := 9) (k := 0) rfl inX9 (by decide) wF_X9_12 ga rg_68 rfl dX9_night_30 (fun q10 eq10 gq10 => ?_)
        have uq10 : w = q10 := (f0).trans eq10.symm
        subst uq10
        refine x_gi C hT (ci := 8) (k := 10) rfl inX8 (by decide) wF_X9_293 gw rg_0 rfl dX9_night_33 (fun x11 ex11 bx11 => ?_)
        have ux11 : x11 = 0 := ex11.trans f8
        subst ux11
        refine lv_iload_n hx hb dX9_night_36 rfl (lv_at hl 1 rfl) ?_
        refine x_iast C hT hSH1 gq9 rg_28 (by omega) (by show _ < ((20 : Nat) : Int); omega) ⟨by have := i_rng x0; omega, by have := i_rng x0; omega⟩ (AE_in gq9 (by decide)) dX9_night_37 (fun H12 locsH12 hTH12 hSH12 wH12 => ?_)
        have m13 := f0.trans (Wr.neR wH12 (Or.inl (G_ne ga gq9 (by decide)))).symm
        have m14 := (Wr.neV wH12 (Or.inl (G_ne ga gq9 (by decide)))).trans f1
        have m15 := (Wr.neI wH12 (Or.inl (G_ne ga gq9 (by decide)))).trans f2
        have m16 := (Wr.neI wH12 (Or.inl (G_ne gw gq9 (by decide)))).trans f3
        have m17 := (Wr.neI wH12 (Or.inl (G_ne gw gq9 (by decide)))).trans f4
        have m18 := (Wr.neI wH12 (Or.inl (G_ne gw gq9 (by decide)))).trans f5
        have m19 := (Wr.neI wH12 (Or.inl (G_ne gw gq9 (by decide)))).trans f6
        have m20 := (Wr.neI wH12 (Or.inl (G_ne gw gq9 (by decide)))).trans f7
        have m21 := (Wr.neI wH12 (Or.inl (G_ne gw gq9 (by decide)))).trans f8
        have m22 := (Wr.neI wH12 (Or.inl (G_ne gw gq9 (by decide)))).trans f9
        have m23 := (Wr.neI wH12 (Or.inl (G_ne gw gq9 (by decide)))).trans f10
        have m24 := eq9.trans (Wr.neR wH12 (Or.inl (G_ne gw gq9 (by decide)))).symm
        have m25 := Wr.I wH12
        have m25 := m25.symm
        refine lv_aload_n hx hb dX9_night_38 rfl (lv_at hl 0 rfl) ?_
        refine x_gr C hTH12 (ci := 9) (k := 0) rfl inX9 (by decide) wF_X9_12 ga rg_68 rfl dX9_night_39 (fun q26 eq26 gq26 => ?_)
        have uq26 : w = q26 := (m13).trans eq26.symm
        subst uq26
        refine x_gr C hTH12 (ci := 8) (k := 9) rfl inX8 (by decide) wF_X9_299 gw rg_0 rfl dX9_night_42 (fun q27 eq27 gq27 => ?_)
        refine lv_aload_n hx hb dX9_night_45 rfl (lv_at hl 0 rfl) ?_
        refine x_gr C hTH12 (ci := 9) (k := 0) rfl inX9 (by decide) wF_X9_12 ga rg_68 rfl dX9_night_46 (fun q28 eq28 gq28 => ?_)
        have uq28 : w = q28 := (m13).trans eq28.symm
        subst uq28
        refine x_gi C hTH12 (ci := 8) (k := 10) rfl inX8 (by decide) wF_X9_293 gw rg_0 rfl dX9_night_49 (fun x29 ex29 bx29 => ?_)
        have ux29 : x29 = 0 := ex29.trans m21
        subst ux29
        refine lv_iload_n hx hb dX9_night_52 rfl (lv_at hl 2 rfl) ?_
        refine x_iast C hTH12 hSH12 gq27 rg_29 (by omega) (by show _ < ((20 : Nat) : Int); omega) ⟨by have := i_rng x1; omega, by have := i_rng x1; omega⟩ (AE_in gq27 (by decide)) dX9_night_53 (fun H30 locsH30 hTH30 hSH30 wH30 => ?_)
        have m31 := m13.trans (Wr.neR wH30 (Or.inl (G_ne ga gq27 (by decide)))).symm
        have m32 := (Wr.neV wH30 (Or.inl (G_ne ga gq27 (by decide)))).trans m14
        have m33 := (Wr.neI wH30 (Or.inl (G_ne ga gq27 (by decide)))).trans m15
        have m34 := (Wr.neI wH30 (Or.inl (G_ne gw gq27 (by decide)))).trans m16
        have m35 := (Wr.neI wH30 (Or.inl (G_ne gw gq27 (by decide)))).trans m17
        have m36 := (Wr.neI wH30 (Or.inl (G_ne gw gq27 (by decide)))).trans m18
        have m37 := (Wr.neI wH30 (Or.inl (G_ne gw gq27 (by decide)))).trans m19
        have m38 := (Wr.neI wH30 (Or.inl (G_ne gw gq27 (by decide)))).trans m20
        have m39 := (Wr.neI wH30 (Or.inl (G_ne gw gq27 (by decide)))).trans m21
        have m40 := (Wr.neI wH30 (Or.inl (G_ne gw gq27 (by decide)))).trans m22
        have m41 := (Wr.neI wH30 (Or.inl (G_ne gw gq27 (by decide)))).trans m23
        have m42 := m24.trans (Wr.neR wH30 (Or.inl (G_ne gw gq27 (by decide)))).symm
        have m43 := m25.trans (Wr.neI wH30 (Or.inl (G_ne gq9 gq27 (by decide)))).symm
        have m44 := eq27.trans (Wr.neR wH30 (Or.inl (G_ne gw gq27 (by decide)))).symm
        have m45 := Wr.I wH30
        have m45 := m45.symm
        refine lv_aload_n hx hb dX9_night_54 rfl (lv_at hl 0 rfl) ?_
        refine x_gr C hTH30 (ci := 9) (k := 0) rfl inX9 (by decide) wF_X9_12 ga rg_68 rfl dX9_night_55 (fun q46 eq46 gq46 => ?_)
        have uq46 : w = q46 := (m31).trans eq46.symm
        subst uq46
        refine lv_dup hx hb dX9_night_58 rfl ?_
        refine x_gi C hTH30 (ci := 8) (k := 10) rfl inX8 (by decide) wF_X9_293 gw rg_0 rfl dX9_night_59 (fun x47 ex47 bx47 => ?_)
        have ux47 : x47 = 0 := ex47.trans m39
        subst ux47
        refine lv_iconst (v := 1) hx hb dX9_night_62 (by decide) ?_
        refine lv_iadd hx hb dX9_night_63 ?_
        refine lv_topi (fun x48 ex48 => ?_)
        have tx48 : x48 = 1 := by rw [ex48]; rfl
        rw [tx48] at ex48 ⊢
        clear tx48 ex48
        refine x_put C hTH30 hSH30 (ci := 8) (k := 10) (v := .int 1) (ty0 := tyX8) rfl inX8 tyX8_ok nmX8 (by decide) rfl wF_X9_293 gw rg_0 rfl rfl (okI (by have := i_rng (1 : Int32); omega) (by have := i_rng (1 : Int32); omega)) rfl rfl (AE_in gw (by decide)) dX9_night_64 (fun H49 locsH49 hTH49 hSH49 wH49 => ?_)
        have m50 := m31.trans (Wr.neR wH49 (Or.inl (G_ne ga gw (by decide)))).symm
        have m51 := (Wr.neV wH49 (Or.inl (G_ne ga gw (by decide)))).trans m32
        have m52 := (Wr.neI wH49 (Or.inl (G_ne ga gw (by decide)))).trans m33
        have m53 := (Wr.neI wH49 (Or.inr (x_apart hKT hts inX8 tyX8 tyX8_ok nmX8 rfl 1 10 (by decide) (by decide) (by decide)))).trans m34
        have m54 := (Wr.neI wH49 (Or.inr (x_apart hKT hts inX8 tyX8 tyX8_ok nmX8 rfl 4 10 (by decide) (by decide) (by decide)))).trans m35
        have m55 := (Wr.neI wH49 (Or.inr (x_apart hKT hts inX8 tyX8 tyX8_ok nmX8 rfl 5 10 (by decide) (by decide) (by decide)))).trans m36
        have m56 := (Wr.neI wH49 (Or.inr (x_apart hKT hts inX8 tyX8 tyX8_ok nmX8 rfl 6 10 (by decide) (by decide) (by decide)))).trans m37
        have m57 := (Wr.neI wH49 (Or.inr (x_apart hKT hts inX8 tyX8 tyX8_ok nmX8 rfl 7 10 (by decide) (by decide) (by decide)))).trans m38
        have m59 := (Wr.neI wH49 (Or.inr (x_apart hKT hts inX8 tyX8 tyX8_ok nmX8 rfl 13 10 (by decide) (by decide) (by decide)))).trans m40
        have m60 := (Wr.neI wH49 (Or.inr (x_apart hKT hts inX8 tyX8 tyX8_ok nmX8 rfl 16 10 (by decide) (by decide) (by decide)))).trans m41
        have m61 := m42.trans (Wr.neR wH49 (Or.inr (x_apart hKT hts inX8 tyX8 tyX8_ok nmX8 rfl 8 10 (by decide) (by decide) (by decide)))).symm
        have m62 := m43.trans (Wr.neI wH49 (Or.inl (G_ne gq9 gw (by decide)))).symm
        have m63 := m44.trans (Wr.neR wH49 (Or.inr (x_apart hKT hts inX8 tyX8 tyX8_ok nmX8 rfl 9 10 (by decide) (by decide) (by decide)))).symm
        have m64 := m45.trans (Wr.neI wH49 (Or.inl (G_ne gq27 gw (by decide)))).symm
        have m65 := Wr.I wH49
        refine lv_aload_n hx hb dX9_night_67 rfl (lv_at hl 0 rfl) ?_
        refine x_gr C hTH49 (ci := 9) (k := 0) rfl inX9 (by decide) wF_X9_12 ga rg_68 rfl dX9_night_68 (fun q66 eq66 gq66 => ?_)
        have uq66 : w = q66 := (m50).trans eq66.symm
        subst uq66
        refine x_gi C hTH49 (ci := 8) (k := 10) rfl inX8 (by decide) wF_X9_293 gw rg_0 rfl dX9_night_71 (fun x67 ex67 bx67 => ?_)
        have ux67 : x67 = 1 := ex67.trans m65
        subst ux67
        refine lv_iconst (v := 1) hx hb dX9_night_74 (by decide) ?_
        refine lv_isub hx hb dX9_night_75 ?_
        refine lv_topi (fun x68 ex68 => ?_)
        have tx68 : x68 = 0 := by rw [ex68]; rfl
        rw [tx68] at ex68 ⊢
        clear tx68 ex68
        exact x_iret C hQ dX9_night_76 hSH49 (by decide) (by decide) (⟨⟨0, rfl, by omega⟩, G, fun _ _ h => h, hTH49⟩)
      · have k7 := i_nlt c6
        exfalso
        omega
  · subst hvH1
    refine W.eq (g2 := F0 m 5 ls [.int 0]) rfl ?_
    refine lv_if_eq (tgt := 20) hx hb dX9_night_5 (by decide) (fun c69 => ?_) (fun c69 => ?_)
    · have k70 := i_eq c69
      refine lv_iconst (v := (-1)) hx hb dX9_night_20 (by decide) ?_
      exact x_iret C hQ dX9_night_21 hSH1 (by decide) (by decide) (⟨⟨(-1), rfl, by omega⟩, G, fun _ _ h => h, hT⟩)
    · have k70 := i_ne c69
      exfalso
      omega

set_option maxHeartbeats 4000000 in
set_option maxRecDepth 100000 in
theorem f_X9_note (l : Launch) (K : KE) (G : Nat → Option Nat) (H : Heap) {a w : Nat} (x0 : Int32) (x1 : Int32) (hT : TY K G H) (ga : G a = some 68) (gw : G w = some 0) (fx : FX K H a w) : MX l K yX9_note cX9_note 3 (some .int) 1 22 0 0 [.ref a, .int x0, .int x1] H (AE G [0, 30, 31] H.size) (fun v H1 => (∃ r : Int32, v = some (.int r) ∧ (((1 ≤ x0.toInt ∧ x0.toInt ≤ 999999 ∧ 1 ≤ x1.toInt ∧ x1.toInt ≤ 99) ∧ r.toInt = 0) ∨ (¬ (1 ≤ x0.toInt ∧ x0.toInt ≤ 999999 ∧ 1 ≤ x1.toInt ∧ x1.toInt ≤ 99) ∧ r.toInt = -1))) ∧ ∃ G1 : Nat → Option Nat, (∀ q t, G q = some t → G1 q = some t) ∧ TY K G1 H1) := by
  refine MX.of (by decide +kernel) (Nat.le_of_ble_eq_true rfl) ?_
  intro p e s m below meth c ls Q C hH hl hQ
  subst hH
  have C : CX p K s m _ meth c RX9 cX9_note 3 (some .int) "note" := C
  obtain ⟨hx, hb, hml, hown, hts, hKT, hr, hlocks, hnm⟩ := id C
  have hl : lv_has ls 3 [(0, .ref a), (1, .int x0), (2, .int x1)] := hl
  have hS : va_S (AE G [0, 30, 31] s.heap.size) s.heap s.heap [] := va_S.rf
  have n_m1 : ((-1) : Int32).toInt = -1 := rfl
  have n_0 : (0 : Int32).toInt = 0 := rfl
  have n_1 : (1 : Int32).toInt = 1 := rfl
  have n_8 : (8 : Int32).toInt = 8 := rfl
  have n_99 : (99 : Int32).toInt = 99 := rfl
  have n_999999 : (999999 : Int32).toInt = 999999 := rfl
  obtain ⟨f0, f1, f2, f3, f4, f5, f6, f7, f8, f9, f10⟩ := fx
  refine lv_iload_n hx hb dX9_note_0 rfl (lv_at hl 1 rfl) ?_
  refine lv_iconst (v := 1) hx hb dX9_note_1 (by decide) ?_
  refine lv_ldc (v := 999999) hx hb hown (hts _ wK_X9_180) dX9_note_2 ?_
  refine x_S (As := [.int x0, .int 1, .int 999999]) (rest := []) C (c_X9_within l K G s.heap (x0) (1) (999999) hT) yo_X9_within wM_X9_89 ⟨⟨by decide, by decide⟩, by decide, by decide⟩ rfl hl.1 rfl (Nat.le_of_ble_eq_true rfl) dX9_note_4 hS (AE_sub (fun _ _ => rfl) (by decide) hS.1) (fun vH1 H1 locsH1 pH1 zH1 kH1 hSH1 => ?_)
  have hqH1 := pH1.1.symm
  subst hqH1
  rcases pH1.2 with ⟨hvH1, hcH1⟩ | ⟨hvH1, hcH1⟩
  · subst hvH1
    refine W.eq (g2 := F0 m 7 ls [.int 1]) rfl ?_
    refine lv_if_eq (tgt := 32) hx hb dX9_note_7 (by decide) (fun c2 => ?_) (fun c2 => ?_)
    · have k3 := i_eq c2
      exfalso
      omega
    · have k3 := i_ne c2
      refine lv_iload_n hx hb dX9_note_10 rfl (lv_at hl 2 rfl) ?_
      refine lv_iconst (v := 1) hx hb dX9_note_11 (by decide) ?_
      refine lv_bipush (v := 99) hx hb dX9_note_12 (by decide) ?_
      refine x_S (As := [.int x1, .int 1, .int 99]) (rest := []) C (c_X9_within l K G s.heap (x1) (1) (99) hT) yo_X9_within wM_X9_89 ⟨⟨by decide, by decide⟩, by decide, by decide⟩ rfl hl.1 rfl (Nat.le_of_ble_eq_true rfl) dX9_note_14 hSH1 (AE_sub (fun _ _ => rfl) (by decide) hSH1.1) (fun vH4 H4 locsH4 pH4 zH4 kH4 hSH4 => ?_)
      have hqH4 := pH4.1.symm
      subst hqH4
      rcases pH4.2 with ⟨hvH4, hcH4⟩ | ⟨hvH4, hcH4⟩
      · subst hvH4
        refine W.eq (g2 := F0 m 17 ls [.int 1]) rfl ?_
        refine lv_if_eq (tgt := 32) hx hb dX9_note_17 (by decide) (fun c5 => ?_) (fun c5 => ?_)
        · have k6 := i_eq c5
          exfalso
          omega
        · have k6 := i_ne c5
          refine lv_aload_n hx hb dX9_note_20 rfl (lv_at hl 0 rfl) ?_
          refine x_gr C hT (ci := 9) (k := 0) rfl inX9 (by decide) wF_X9_12 ga rg_68 rfl dX9_note_21 (fun q7 eq7 gq7 => ?_)
          have uq7 : w = q7 := (f0).trans eq7.symm
          subst uq7
          refine x_gi C hT (ci := 8) (k := 13) rfl inX8 (by decide) wF_X9_317 gw rg_0 rfl dX9_note_24 (fun x8 ex8 bx8 => ?_)
          have ux8 : x8 = 0 := ex8.trans f9
          subst ux8
          refine lv_bipush (v := 8) hx hb dX9_note_27 (by decide) ?_
          refine lv_icmp_lt (tgt := 34) hx hb dX9_note_29 (by decide) (fun c9 => ?_) (fun c9 => ?_)
          · have k10 := i_lt c9
            refine lv_aload_n hx hb dX9_note_34 rfl (lv_at hl 0 rfl) ?_
            refine x_gr C hT (ci := 9) (k := 0) rfl inX9 (by decide) wF_X9_12 ga rg_68 rfl dX9_note_35 (fun q11 eq11 gq11 => ?_)
            have uq11 : w = q11 := (f0).trans eq11.symm
            subst uq11
            refine x_gr C hT (ci := 8) (k := 11) rfl inX8 (by decide) wF_X9_320 gw rg_0 rfl dX9_note_38 (fun q12 eq12 gq12 => ?_)
            refine lv_aload_n hx hb dX9_note_41 rfl (lv_at hl 0 rfl) ?_
            refine x_gr C hT (ci := 9) (k := 0) rfl inX9 (by decide) wF_X9_12 ga rg_68 rfl dX9_note_42 (fun q13 eq13 gq13 => ?_)
            have uq13 : w = q13 := (f0).trans eq13.symm
            subst uq13
            refine x_gi C hT (ci := 8) (k := 13) rfl inX8 (by decide) wF_X9_317 gw rg_0 rfl dX9_note_45 (fun x14 ex14 bx14 => ?_)
            have ux14 : x14 = 0 := ex14.trans f9
            subst ux14
            refine lv_iload_n hx hb dX9_note_48 rfl (lv_at hl 1 rfl) ?_
            refine x_iast C hT hSH4 gq12 rg_30 (by omega) (by show _ < ((8 : Nat) : Int); omega) ⟨by have := i_rng x0; omega, by have := i_rng x0; omega⟩ (AE_in gq12 (by decide)) dX9_note_49 (fun H15 locsH15 hTH15 hSH15 wH15 => ?_)
            have m16 := f0.trans (Wr.neR wH15 (Or.inl (G_ne ga gq12 (by decide)))).symm
            have m17 := (Wr.neV wH15 (Or.inl (G_ne ga gq12 (by decide)))).trans f1
            have m18 := (Wr.neI wH15 (Or.inl (G_ne ga gq12 (by decide)))).trans f2
            have m19 := (Wr.neI wH15 (Or.inl (G_ne gw gq12 (by decide)))).trans f3
            have m20 := (Wr.neI wH15 (Or.inl (G_ne gw gq12 (by decide)))).trans f4
            have m21 := (Wr.neI wH15 (Or.inl (G_ne gw gq12 (by decide)))).trans f5
            have m22 := (Wr.neI wH15 (Or.inl (G_ne gw gq12 (by decide)))).trans f6
            have m23 := (Wr.neI wH15 (Or.inl (G_ne gw gq12 (by decide)))).trans f7
            have m24 := (Wr.neI wH15 (Or.inl (G_ne gw gq12 (by decide)))).trans f8
            have m25 := (Wr.neI wH15 (Or.inl (G_ne gw gq12 (by decide)))).trans f9
            have m26 := (Wr.neI wH15 (Or.inl (G_ne gw gq12 (by decide)))).trans f10
            have m27 := eq12.trans (Wr.neR wH15 (Or.inl (G_ne gw gq12 (by decide)))).symm
            have m28 := Wr.I wH15
            have m28 := m28.symm
            refine lv_aload_n hx hb dX9_note_50 rfl (lv_at hl 0 rfl) ?_
            refine x_gr C hTH15 (ci := 9) (k := 0) rfl inX9 (by decide) wF_X9_12 ga rg_68 rfl dX9_note_51 (fun q29 eq29 gq29 => ?_)
            have uq29 : w = q29 := (m16).trans eq29.symm
            subst uq29
            refine x_gr C hTH15 (ci := 8) (k := 12) rfl inX8 (by decide) wF_X9_323 gw rg_0 rfl dX9_note_54 (fun q30 eq30 gq30 => ?_)
            refine lv_aload_n hx hb dX9_note_57 rfl (lv_at hl 0 rfl) ?_
            refine x_gr C hTH15 (ci := 9) (k := 0) rfl inX9 (by decide) wF_X9_12 ga rg_68 rfl dX9_note_58 (fun q31 eq31 gq31 => ?_)
            have uq31 : w = q31 := (m16).trans eq31.symm
            subst uq31
            refine x_gi C hTH15 (ci := 8) (k := 13) rfl inX8 (by decide) wF_X9_317 gw rg_0 rfl dX9_note_61 (fun x32 ex32 bx32 => ?_)
            have ux32 : x32 = 0 := ex32.trans m25
            subst ux32
            refine lv_iload_n hx hb dX9_note_64 rfl (lv_at hl 2 rfl) ?_
            refine x_iast C hTH15 hSH15 gq30 rg_31 (by omega) (by show _ < ((8 : Nat) : Int); omega) ⟨by have := i_rng x1; omega, by have := i_rng x1; omega⟩ (AE_in gq30 (by decide)) dX9_note_65 (fun H33 locsH33 hTH33 hSH33 wH33 => ?_)
            have m34 := m16.trans (Wr.neR wH33 (Or.inl (G_ne ga gq30 (by decide)))).symm
            have m35 := (Wr.neV wH33 (Or.inl (G_ne ga gq30 (by decide)))).trans m17
            have m36 := (Wr.neI wH33 (Or.inl (G_ne ga gq30 (by decide)))).trans m18
            have m37 := (Wr.neI wH33 (Or.inl (G_ne gw gq30 (by decide)))).trans m19
            have m38 := (Wr.neI wH33 (Or.inl (G_ne gw gq30 (by decide)))).trans m20
            have m39 := (Wr.neI wH33 (Or.inl (G_ne gw gq30 (by decide)))).trans m21
            have m40 := (Wr.neI wH33 (Or.inl (G_ne gw gq30 (by decide)))).trans m22
            have m41 := (Wr.neI wH33 (Or.inl (G_ne gw gq30 (by decide)))).trans m23
            have m42 := (Wr.neI wH33 (Or.inl (G_ne gw gq30 (by decide)))).trans m24
            have m43 := (Wr.neI wH33 (Or.inl (G_ne gw gq30 (by decide)))).trans m25
            have m44 := (Wr.neI wH33 (Or.inl (G_ne gw gq30 (by decide)))).trans m26
            have m45 := m27.trans (Wr.neR wH33 (Or.inl (G_ne gw gq30 (by decide)))).symm
            have m46 := m28.trans (Wr.neI wH33 (Or.inl (G_ne gq12 gq30 (by decide)))).symm
            have m47 := eq30.trans (Wr.neR wH33 (Or.inl (G_ne gw gq30 (by decide)))).symm
            have m48 := Wr.I wH33
            have m48 := m48.symm
            refine lv_aload_n hx hb dX9_note_66 rfl (lv_at hl 0 rfl) ?_
            refine x_gr C hTH33 (ci := 9) (k := 0) rfl inX9 (by decide) wF_X9_12 ga rg_68 rfl dX9_note_67 (fun q49 eq49 gq49 => ?_)
            have uq49 : w = q49 := (m34).trans eq49.symm
            subst uq49
            refine lv_dup hx hb dX9_note_70 rfl ?_
            refine x_gi C hTH33 (ci := 8) (k := 13) rfl inX8 (by decide) wF_X9_317 gw rg_0 rfl dX9_note_71 (fun x50 ex50 bx50 => ?_)
            have ux50 : x50 = 0 := ex50.trans m43
            subst ux50
            refine lv_iconst (v := 1) hx hb dX9_note_74 (by decide) ?_
            refine lv_iadd hx hb dX9_note_75 ?_
            refine lv_topi (fun x51 ex51 => ?_)
            have tx51 : x51 = 1 := by rw [ex51]; rfl
            rw [tx51] at ex51 ⊢
            clear tx51 ex51
            refine x_put C hTH33 hSH33 (ci := 8) (k := 13) (v := .int 1) (ty0 := tyX8) rfl inX8 tyX8_ok nmX8 (by decide) rfl wF_X9_317 gw rg_0 rfl rfl (okI (by have := i_rng (1 : Int32); omega) (by have := i_rng (1 : Int32); omega)) rfl rfl (AE_in gw (by decide)) dX9_note_76 (fun H52 locsH52 hTH52 hSH52 wH52 => ?_)
            have m53 := m34.trans (Wr.neR wH52 (Or.inl (G_ne ga gw (by decide)))).symm
            have m54 := (Wr.neV wH52 (Or.inl (G_ne ga gw (by decide)))).trans m35
            have m55 := (Wr.neI wH52 (Or.inl (G_ne ga gw (by decide)))).trans m36
            have m56 := (Wr.neI wH52 (Or.inr (x_apart hKT hts inX8 tyX8 tyX8_ok nmX8 rfl 1 13 (by decide) (by decide) (by decide)))).trans m37
            have m57 := (Wr.neI wH52 (Or.inr (x_apart hKT hts inX8 tyX8 tyX8_ok nmX8 rfl 4 13 (by decide) (by decide) (by decide)))).trans m38
            have m58 := (Wr.neI wH52 (Or.inr (x_apart hKT hts inX8 tyX8 tyX8_ok nmX8 rfl 5 13 (by decide) (by decide) (by decide)))).trans m39
            have m59 := (Wr.neI wH52 (Or.inr (x_apart hKT hts inX8 tyX8 tyX8_ok nmX8 rfl 6 13 (by decide) (by decide) (by decide)))).trans m40
            have m60 := (Wr.neI wH52 (Or.inr (x_apart hKT hts inX8 tyX8 tyX8_ok nmX8 rfl 7 13 (by decide) (by decide) (by decide)))).trans m41
            have m61 := (Wr.neI wH52 (Or.inr (x_apart hKT hts inX8 tyX8 tyX8_ok nmX8 rfl 10 13 (by decide) (by decide) (by decide)))).trans m42
            have m63 := (Wr.neI wH52 (Or.inr (x_apart hKT hts inX8 tyX8 tyX8_ok nmX8 rfl 16 13 (by decide) (by decide) (by decide)))).trans m44
            have m64 := m45.trans (Wr.neR wH52 (Or.inr (x_apart hKT hts inX8 tyX8 tyX8_ok nmX8 rfl 11 13 (by decide) (by decide) (by decide)))).symm
            have m65 := m46.trans (Wr.neI wH52 (Or.inl (G_ne gq12 gw (by decide)))).symm
            have m66 := m47.trans (Wr.neR wH52 (Or.inr (x_apart hKT hts inX8 tyX8 tyX8_ok nmX8 rfl 12 13 (by decide) (by decide) (by decide)))).symm
            have m67 := m48.trans (Wr.neI wH52 (Or.inl (G_ne gq30 gw (by decide)))).symm
            have m68 := Wr.I wH52
            refine lv_aload_n hx hb dX9_note_79 rfl (lv_at hl 0 rfl) ?_
            refine x_gr C hTH52 (ci := 9) (k := 0) rfl inX9 (by decide) wF_X9_12 ga rg_68 rfl dX9_note_80 (fun q69 eq69 gq69 => ?_)
            have uq69 : w = q69 := (m53).trans eq69.symm
            subst uq69
            refine x_gi C hTH52 (ci := 8) (k := 13) rfl inX8 (by decide) wF_X9_317 gw rg_0 rfl dX9_note_83 (fun x70 ex70 bx70 => ?_)
            have ux70 : x70 = 1 := ex70.trans m68
            subst ux70
            refine lv_iconst (v := 1) hx hb dX9_note_86 (by decide) ?_
            refine lv_isub hx hb dX9_note_87 ?_
            refine lv_topi (fun x71 ex71 => ?_)
            have tx71 : x71 = 0 := by rw [ex71]; rfl
            rw [tx71] at ex71 ⊢
            clear tx71 ex71
            exact x_iret C hQ dX9_note_88 hSH52 (by decide) (by decide) (⟨⟨0, rfl, by omega⟩, G, fun _ _ h => h, hTH52⟩)
          · have k10 := i_nlt c9
            exfalso
            omega
      · subst hvH4
        refine W.eq (g2 := F0 m 17 ls [.int 0]) rfl ?_
        refine lv_if_eq (tgt := 32) hx hb dX9_note_17 (by decide) (fun c72 => ?_) (fun c72 => ?_)
        · have k73 := i_eq c72
          refine lv_iconst (v := (-1)) hx hb dX9_note_32 (by decide) ?_
          exact x_iret C hQ dX9_note_33 hSH4 (by decide) (by decide) (⟨⟨(-1), rfl, by omega⟩, G, fun _ _ h => h, hT⟩)
        · have k73 := i_ne c72
          exfalso
          omega
  · subst hvH1
    refine W.eq (g2 := F0 m 7 ls [.int 0]) rfl ?_
    refine lv_if_eq (tgt := 32) hx hb dX9_note_7 (by decide) (fun c74 => ?_) (fun c74 => ?_)
    · have k75 := i_eq c74
      refine lv_iconst (v := (-1)) hx hb dX9_note_32 (by decide) ?_
      exact x_iret C hQ dX9_note_33 hSH1 (by decide) (by decide) (⟨⟨(-1), rfl, by omega⟩, G, fun _ _ h => h, hT⟩)
    · have k75 := i_ne c74
      exfalso
      omega

set_option maxHeartbeats 4000000 in
set_option maxRecDepth 100000 in
theorem f_X9_blank (l : Launch) (K : KE) (G : Nat → Option Nat) (H : Heap) {a w : Nat} (x0 : Int32) (x1 : Int32) (hT : TY K G H) (ga : G a = some 68) (gw : G w = some 0) (fx : FX K H a w) : MX l K yX9_blank cX9_blank 3 (some .int) 1 22 0 0 [.ref a, .int x0, .int x1] H (AE G [0, 32, 33] H.size) (fun v H1 => (∃ r : Int32, v = some (.int r) ∧ (((1 ≤ x0.toInt ∧ x0.toInt ≤ 99 ∧ 0 ≤ x1.toInt ∧ x1.toInt ≤ 99) ∧ r.toInt = 0) ∨ (¬ (1 ≤ x0.toInt ∧ x0.toInt ≤ 99 ∧ 0 ≤ x1.toInt ∧ x1.toInt ≤ 99) ∧ r.toInt = -1))) ∧ ∃ G1 : Nat → Option Nat, (∀ q t, G q = some t → G1 q = some t) ∧ TY K G1 H1) := by
  refine MX.of (by decide +kernel) (Nat.le_of_ble_eq_true rfl) ?_
  intro p e s m below meth c ls Q C hH hl hQ
  subst hH
  have C : CX p K s m _ meth c RX9 cX9_blank 3 (some .int) "blank" := C
  obtain ⟨hx, hb, hml, hown, hts, hKT, hr, hlocks, hnm⟩ := id C
  have hl : lv_has ls 3 [(0, .ref a), (1, .int x0), (2, .int x1)] := hl
  have hS : va_S (AE G [0, 32, 33] s.heap.size) s.heap s.heap [] := va_S.rf
  have n_m1 : ((-1) : Int32).toInt = -1 := rfl
  have n_0 : (0 : Int32).toInt = 0 := rfl
  have n_1 : (1 : Int32).toInt = 1 := rfl
  have n_8 : (8 : Int32).toInt = 8 := rfl
  have n_99 : (99 : Int32).toInt = 99 := rfl
  obtain ⟨f0, f1, f2, f3, f4, f5, f6, f7, f8, f9, f10⟩ := fx
  refine lv_iload_n hx hb dX9_blank_0 rfl (lv_at hl 1 rfl) ?_
  refine lv_iconst (v := 1) hx hb dX9_blank_1 (by decide) ?_
  refine lv_bipush (v := 99) hx hb dX9_blank_2 (by decide) ?_
  refine x_S (As := [.int x0, .int 1, .int 99]) (rest := []) C (c_X9_within l K G s.heap (x0) (1) (99) hT) yo_X9_within wM_X9_89 ⟨⟨by decide, by decide⟩, by decide, by decide⟩ rfl hl.1 rfl (Nat.le_of_ble_eq_true rfl) dX9_blank_4 hS (AE_sub (fun _ _ => rfl) (by decide) hS.1) (fun vH1 H1 locsH1 pH1 zH1 kH1 hSH1 => ?_)
  have hqH1 := pH1.1.symm
  subst hqH1
  rcases pH1.2 with ⟨hvH1, hcH1⟩ | ⟨hvH1, hcH1⟩
  · subst hvH1
    refine W.eq (g2 := F0 m 7 ls [.int 1]) rfl ?_
    refine lv_if_eq (tgt := 32) hx hb dX9_blank_7 (by decide) (fun c2 => ?_) (fun c2 => ?_)
    · have k3 := i_eq c2
      exfalso
      omega
    · have k3 := i_ne c2
      refine lv_iload_n hx hb dX9_blank_10 rfl (lv_at hl 2 rfl) ?_
      refine lv_iconst (v := 0) hx hb dX9_blank_11 (by decide) ?_
      refine lv_bipush (v := 99) hx hb dX9_blank_12 (by decide) ?_
      refine x_S (As := [.int x1, .int 0, .int 99]) (rest := []) C (c_X9_within l K G s.heap (x1) (0) (99) hT) yo_X9_within wM_X9_89 ⟨⟨by decide, by decide⟩, by decide, by decide⟩ rfl hl.1 rfl (Nat.le_of_ble_eq_true rfl) dX9_blank_14 hSH1 (AE_sub (fun _ _ => rfl) (by decide) hSH1.1) (fun vH4 H4 locsH4 pH4 zH4 kH4 hSH4 => ?_)
      have hqH4 := pH4.1.symm
      subst hqH4
      rcases pH4.2 with ⟨hvH4, hcH4⟩ | ⟨hvH4, hcH4⟩
      · subst hvH4
        refine W.eq (g2 := F0 m 17 ls [.int 1]) rfl ?_
        refine lv_if_eq (tgt := 32) hx hb dX9_blank_17 (by decide) (fun c5 => ?_) (fun c5 => ?_)
        · have k6 := i_eq c5
          exfalso
          omega
        · have k6 := i_ne c5
          refine lv_aload_n hx hb dX9_blank_20 rfl (lv_at hl 0 rfl) ?_
          refine x_gr C hT (ci := 9) (k := 0) rfl inX9 (by decide) wF_X9_12 ga rg_68 rfl dX9_blank_21 (fun q7 eq7 gq7 => ?_)
          have uq7 : w = q7 := (f0).trans eq7.symm
          subst uq7
          refine x_gi C hT (ci := 8) (k := 16) rfl inX8 (by decide) wF_X9_326 gw rg_0 rfl dX9_blank_24 (fun x8 ex8 bx8 => ?_)
          have ux8 : x8 = 0 := ex8.trans f10
          subst ux8
          refine lv_bipush (v := 8) hx hb dX9_blank_27 (by decide) ?_
          refine lv_icmp_lt (tgt := 34) hx hb dX9_blank_29 (by decide) (fun c9 => ?_) (fun c9 => ?_)
          · have k10 := i_lt c9
            refine lv_aload_n hx hb dX9_blank_34 rfl (lv_at hl 0 rfl) ?_
            refine x_gr C hT (ci := 9) (k := 0) rfl inX9 (by decide) wF_X9_12 ga rg_68 rfl dX9_blank_35 (fun q11 eq11 gq11 => ?_)
            have uq11 : w = q11 := (f0).trans eq11.symm
            subst uq11
            refine x_gr C hT (ci := 8) (k := 14) rfl inX8 (by decide) wF_X9_329 gw rg_0 rfl dX9_blank_38 (fun q12 eq12 gq12 => ?_)
            refine lv_aload_n hx hb dX9_blank_41 rfl (lv_at hl 0 rfl) ?_
            refine x_gr C hT (ci := 9) (k := 0) rfl inX9 (by decide) wF_X9_12 ga rg_68 rfl dX9_blank_42 (fun q13 eq13 gq13 => ?_)
            have uq13 : w = q13 := (f0).trans eq13.symm
            subst uq13
            refine x_gi C hT (ci := 8) (k := 16) rfl inX8 (by decide) wF_X9_326 gw rg_0 rfl dX9_blank_45 (fun x14 ex14 bx14 => ?_)
            have ux14 : x14 = 0 := ex14.trans f10
            subst ux14
            refine lv_iload_n hx hb dX9_blank_48 rfl (lv_at hl 1 rfl) ?_
            refine x_iast C hT hSH4 gq12 rg_32 (by omega) (by show _ < ((8 : Nat) : Int); omega) ⟨by have := i_rng x0; omega, by have := i_rng x0; omega⟩ (AE_in gq12 (by decide)) dX9_blank_49 (fun H15 locsH15 hTH15 hSH15 wH15 => ?_)
            have m16 := f0.trans (Wr.neR wH15 (Or.inl (G_ne ga gq12 (by decide)))).symm
            have m17 := (Wr.neV wH15 (Or.inl (G_ne ga gq12 (by decide)))).trans f1
            have m18 := (Wr.neI wH15 (Or.inl (G_ne ga gq12 (by decide)))).trans f2
            have m19 := (Wr.neI wH15 (Or.inl (G_ne gw gq12 (by decide)))).trans f3
            have m20 := (Wr.neI wH15 (Or.inl (G_ne gw gq12 (by decide)))).trans f4
            have m21 := (Wr.neI wH15 (Or.inl (G_ne gw gq12 (by decide)))).trans f5
            have m22 := (Wr.neI wH15 (Or.inl (G_ne gw gq12 (by decide)))).trans f6
            have m23 := (Wr.neI wH15 (Or.inl (G_ne gw gq12 (by decide)))).trans f7
            have m24 := (Wr.neI wH15 (Or.inl (G_ne gw gq12 (by decide)))).trans f8
            have m25 := (Wr.neI wH15 (Or.inl (G_ne gw gq12 (by decide)))).trans f9
            have m26 := (Wr.neI wH15 (Or.inl (G_ne gw gq12 (by decide)))).trans f10
            have m27 := eq12.trans (Wr.neR wH15 (Or.inl (G_ne gw gq12 (by decide)))).symm
            have m28 := Wr.I wH15
            have m28 := m28.symm
            refine lv_aload_n hx hb dX9_blank_50 rfl (lv_at hl 0 rfl) ?_
            refine x_gr C hTH15 (ci := 9) (k := 0) rfl inX9 (by decide) wF_X9_12 ga rg_68 rfl dX9_blank_51 (fun q29 eq29 gq29 => ?_)
            have uq29 : w = q29 := (m16).trans eq29.symm
            subst uq29
            refine x_gr C hTH15 (ci := 8) (k := 15) rfl inX8 (by decide) wF_X9_332 gw rg_0 rfl dX9_blank_54 (fun q30 eq30 gq30 => ?_)
            refine lv_aload_n hx hb dX9_blank_57 rfl (lv_at hl 0 rfl) ?_
            refine x_gr C hTH15 (ci := 9) (k := 0) rfl inX9 (by decide) wF_X9_12 ga rg_68 rfl dX9_blank_58 (fun q31 eq31 gq31 => ?_)
            have uq31 : w = q31 := (m16).trans eq31.symm
            subst uq31
            refine x_gi C hTH15 (ci := 8) (k := 16) rfl inX8 (by decide) wF_X9_326 gw rg_0 rfl dX9_blank_61 (fun x32 ex32 bx32 => ?_)
            have ux32 : x32 = 0 := ex32.trans m26
            subst ux32
            refine lv_iload_n hx hb dX9_blank_64 rfl (lv_at hl 2 rfl) ?_
            refine x_iast C hTH15 hSH15 gq30 rg_33 (by omega) (by show _ < ((8 : Nat) : Int); omega) ⟨by have := i_rng x1; omega, by have := i_rng x1; omega⟩ (AE_in gq30 (by decide)) dX9_blank_65 (fun H33 locsH33 hTH33 hSH33 wH33 => ?_)
            have m34 := m16.trans (Wr.neR wH33 (Or.inl (G_ne ga gq30 (by decide)))).symm
            have m35 := (Wr.neV wH33 (Or.inl (G_ne ga gq30 (by decide)))).trans m17
            have m36 := (Wr.neI wH33 (Or.inl (G_ne ga gq30 (by decide)))).trans m18
            have m37 := (Wr.neI wH33 (Or.inl (G_ne gw gq30 (by decide)))).trans m19
            have m38 := (Wr.neI wH33 (Or.inl (G_ne gw gq30 (by decide)))).trans m20
            have m39 := (Wr.neI wH33 (Or.inl (G_ne gw gq30 (by decide)))).trans m21
            have m40 := (Wr.neI wH33 (Or.inl (G_ne gw gq30 (by decide)))).trans m22
            have m41 := (Wr.neI wH33 (Or.inl (G_ne gw gq30 (by decide)))).trans m23
            have m42 := (Wr.neI wH33 (Or.inl (G_ne gw gq30 (by decide)))).trans m24
            have m43 := (Wr.neI wH33 (Or.inl (G_ne gw gq30 (by decide)))).trans m25
            have m44 := (Wr.neI wH33 (Or.inl (G_ne gw gq30 (by decide)))).trans m26
            have m45 := m27.trans (Wr.neR wH33 (Or.inl (G_ne gw gq30 (by decide)))).symm
            have m46 := m28.trans (Wr.neI wH33 (Or.inl (G_ne gq12 gq30 (by decide)))).symm
            have m47 := eq30.trans (Wr.neR wH33 (Or.inl (G_ne gw gq30 (by decide)))).symm
            have m48 := Wr.I wH33
            have m48 := m48.symm
            refine lv_aload_n hx hb dX9_blank_66 rfl (lv_at hl 0 rfl) ?_
            refine x_gr C hTH33 (ci := 9) (k := 0) rfl inX9 (by decide) wF_X9_12 ga rg_68 rfl dX9_blank_67 (fun q49 eq49 gq49 => ?_)
            have uq49 : w = q49 := (m34).trans eq49.symm
            subst uq49
            refine lv_dup hx hb dX9_blank_70 rfl ?_
            refine x_gi C hTH33 (ci := 8) (k := 16) rfl inX8 (by decide) wF_X9_326 gw rg_0 rfl dX9_blank_71 (fun x50 ex50 bx50 => ?_)
            have ux50 : x50 = 0 := ex50.trans m44
            subst ux50
            refine lv_iconst (v := 1) hx hb dX9_blank_74 (by decide) ?_
            refine lv_iadd hx hb dX9_blank_75 ?_
            refine lv_topi (fun x51 ex51 => ?_)
            have tx51 : x51 = 1 := by rw [ex51]; rfl
            rw [tx51] at ex51 ⊢
            clear tx51 ex51
            refine x_put C hTH33 hSH33 (ci := 8) (k := 16) (v := .int 1) (ty0 := tyX8) rfl inX8 tyX8_ok nmX8 (by decide) rfl wF_X9_326 gw rg_0 rfl rfl (okI (by have := i_rng (1 : Int32); omega) (by have := i_rng (1 : Int32); omega)) rfl rfl (AE_in gw (by decide)) dX9_blank_76 (fun H52 locsH52 hTH52 hSH52 wH52 => ?_)
            have m53 := m34.trans (Wr.neR wH52 (Or.inl (G_ne ga gw (by decide)))).symm
            have m54 := (Wr.neV wH52 (Or.inl (G_ne ga gw (by decide)))).trans m35
            have m55 := (Wr.neI wH52 (Or.inl (G_ne ga gw (by decide)))).trans m36
            have m56 := (Wr.neI wH52 (Or.inr (x_apart hKT hts inX8 tyX8 tyX8_ok nmX8 rfl 1 16 (by decide) (by decide) (by decide)))).trans m37
            have m57 := (Wr.neI wH52 (Or.inr (x_apart hKT hts inX8 tyX8 tyX8_ok nmX8 rfl 4 16 (by decide) (by decide) (by decide)))).trans m38
            have m58 := (Wr.neI wH52 (Or.inr (x_apart hKT hts inX8 tyX8 tyX8_ok nmX8 rfl 5 16 (by decide) (by decide) (by decide)))).trans m39
            have m59 := (Wr.neI wH52 (Or.inr (x_apart hKT hts inX8 tyX8 tyX8_ok nmX8 rfl 6 16 (by decide) (by decide) (by decide)))).trans m40
            have m60 := (Wr.neI wH52 (Or.inr (x_apart hKT hts inX8 tyX8 tyX8_ok nmX8 rfl 7 16 (by decide) (by decide) (by decide)))).trans m41
            have m61 := (Wr.neI wH52 (Or.inr (x_apart hKT hts inX8 tyX8 tyX8_ok nmX8 rfl 10 16 (by decide) (by decide) (by decide)))).trans m42
            have m62 := (Wr.neI wH52 (Or.inr (x_apart hKT hts inX8 tyX8 tyX8_ok nmX8 rfl 13 16 (by decide) (by decide) (by decide)))).trans m43
            have m64 := m45.trans (Wr.neR wH52 (Or.inr (x_apart hKT hts inX8 tyX8 tyX8_ok nmX8 rfl 14 16 (by decide) (by decide) (by decide)))).symm
            have m65 := m46.trans (Wr.neI wH52 (Or.inl (G_ne gq12 gw (by decide)))).symm
            have m66 := m47.trans (Wr.neR wH52 (Or.inr (x_apart hKT hts inX8 tyX8 tyX8_ok nmX8 rfl 15 16 (by decide) (by decide) (by decide)))).symm
            have m67 := m48.trans (Wr.neI wH52 (Or.inl (G_ne gq30 gw (by decide)))).symm
            have m68 := Wr.I wH52
            refine lv_aload_n hx hb dX9_blank_79 rfl (lv_at hl 0 rfl) ?_
            refine x_gr C hTH52 (ci := 9) (k := 0) rfl inX9 (by decide) wF_X9_12 ga rg_68 rfl dX9_blank_80 (fun q69 eq69 gq69 => ?_)
            have uq69 : w = q69 := (m53).trans eq69.symm
            subst uq69
            refine x_gi C hTH52 (ci := 8) (k := 16) rfl inX8 (by decide) wF_X9_326 gw rg_0 rfl dX9_blank_83 (fun x70 ex70 bx70 => ?_)
            have ux70 : x70 = 1 := ex70.trans m68
            subst ux70
            refine lv_iconst (v := 1) hx hb dX9_blank_86 (by decide) ?_
            refine lv_isub hx hb dX9_blank_87 ?_
            refine lv_topi (fun x71 ex71 => ?_)
            have tx71 : x71 = 0 := by rw [ex71]; rfl
            rw [tx71] at ex71 ⊢
            clear tx71 ex71
            exact x_iret C hQ dX9_blank_88 hSH52 (by decide) (by decide) (⟨⟨0, rfl, by omega⟩, G, fun _ _ h => h, hTH52⟩)
          · have k10 := i_nlt c9
            exfalso
            omega
      · subst hvH4
        refine W.eq (g2 := F0 m 17 ls [.int 0]) rfl ?_
        refine lv_if_eq (tgt := 32) hx hb dX9_blank_17 (by decide) (fun c72 => ?_) (fun c72 => ?_)
        · have k73 := i_eq c72
          refine lv_iconst (v := (-1)) hx hb dX9_blank_32 (by decide) ?_
          exact x_iret C hQ dX9_blank_33 hSH4 (by decide) (by decide) (⟨⟨(-1), rfl, by omega⟩, G, fun _ _ h => h, hT⟩)
        · have k73 := i_ne c72
          exfalso
          omega
  · subst hvH1
    refine W.eq (g2 := F0 m 7 ls [.int 0]) rfl ?_
    refine lv_if_eq (tgt := 32) hx hb dX9_blank_7 (by decide) (fun c74 => ?_) (fun c74 => ?_)
    · have k75 := i_eq c74
      refine lv_iconst (v := (-1)) hx hb dX9_blank_32 (by decide) ?_
      exact x_iret C hQ dX9_blank_33 hSH1 (by decide) (by decide) (⟨⟨(-1), rfl, by omega⟩, G, fun _ _ h => h, hT⟩)
    · have k75 := i_ne c74
      exfalso
      omega
