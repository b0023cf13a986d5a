theorem EQ.fb {f w w1 : Nat → Int32} {b s n m : Nat} (h : EQ f w b s n) (e : FB w1 w m) (ht : ∀ j, j < n → b + s * j < m) : EQ f w1 b s n := fun j hj => (h j hj).trans (e _ (ht j hj)).symm
theorem pl_av {K : KE} {H : Heap} {b k q p : Nat} {r : Int32} (h : r = fI H b (K.1.2 10 k)) (hp : r = fI H q p) (e : q = fR H b (K.1.2 10 73)) : svw K H b k = avw K H b 73 p := by subst e; exact h.symm.trans hp
theorem all8 {P : Nat → Prop} (h4 : P 4) (h16 : P 16) (h24 : P 24) (h29 : P 29) (h30 : P 30) (h31 : P 31) (h32 : P 32) (h33 : P 33) : ∀ k ∈ ([4, 16, 24, 29, 30, 31, 32, 33] : List Nat), P k := by
  intro k hk
  simp only [List.mem_cons, List.not_mem_nil, or_false] at hk
  rcases hk with rfl | rfl | rfl | rfl | rfl | rfl | rfl | rfl <;> assumption
set_option maxHeartbeats 4000000 in
set_option maxRecDepth 100000 in
theorem a_X10_image (l : Launch) (K : KE) (G : Nat → Option Nat) (H : Heap) {a0 : Nat} (x1 : Int32) {iq : Nat} {q4 : Nat} {q10 : Nat} {q16 : Nat} {q24 : Nat} {q27 : Nat} {q29 : Nat} {q30 : Nat} {q31 : Nat} {q32 : Nat} {q33 : Nat} {q50 : Nat} {q64 : Nat} {q66 : Nat} {q67 : Nat} (h70 : Int32) (s1 : Int32) (s2 : Int32) (s3 : Int32) (s59 : Int32) (s62 : Int32) (s65 : Int32) (hT : TY K G H) (ga0 : G a0 = some 112) (hx1 : 0 ≤ x1.toInt ∧ x1.toInt ≤ 1) (giq : G iq = some 162) (eiq : iq = fR H a0 (K.1.2 10 73)) (gq4 : G q4 = some 113) (eq4 : q4 = fR H a0 (K.1.2 10 4)) (gq10 : G q10 = some 119) (eq10 : q10 = fR H a0 (K.1.2 10 10)) (gq16 : G q16 = some 125) (eq16 : q16 = fR H a0 (K.1.2 10 16)) (gq24 : G q24 = some 128) (eq24 : q24 = fR H a0 (K.1.2 10 24)) (gq27 : G q27 = some 131) (eq27 : q27 = fR H a0 (K.1.2 10 27)) (gq29 : G q29 = some 133) (eq29 : q29 = fR H a0 (K.1.2 10 29)) (gq30 : G q30 = some 134) (eq30 : q30 = fR H a0 (K.1.2 10 30)) (gq31 : G q31 = some 135) (eq31 : q31 = fR H a0 (K.1.2 10 31)) (gq32 : G q32 = some 136) (eq32 : q32 = fR H a0 (K.1.2 10 32)) (gq33 : G q33 = some 137) (eq33 : q33 = fR H a0 (K.1.2 10 33)) (gq50 : G q50 = some 146) (eq50 : q50 = fR H a0 (K.1.2 10 50)) (gq64 : G q64 = some 157) (eq64 : q64 = fR H a0 (K.1.2 10 64)) (gq66 : G q66 = some 158) (eq66 : q66 = fR H a0 (K.1.2 10 66)) (gq67 : G q67 = some 159) (eq67 : q67 = fR H a0 (K.1.2 10 67)) (eh70 : h70 = fI H a0 (K.1.2 10 70)) (es1 : s1 = fI H a0 (K.1.2 10 1)) (es2 : s2 = fI H a0 (K.1.2 10 2)) (es3 : s3 = fI H a0 (K.1.2 10 3)) (es59 : s59 = fI H a0 (K.1.2 10 59)) (es62 : s62 = fI H a0 (K.1.2 10 62)) (es65 : s65 = fI H a0 (K.1.2 10 65)) (hg_CG : CG (avw K H a0)) (hg_TU : TU (avw K H a0) (svw K H a0)) (hg_WD : WD (avw K H a0)) (hg_IM : IM (avw K H a0)) : MX l K yX10_image cX10_image 2 (some .boolean) 2 42 0 0 [.ref a0, .int x1] H (AE G [112, 162, 113, 119, 122, 123, 124, 146, 114, 115, 116, 117, 118, 125, 154, 155, 120, 121, 147, 148, 149, 150, 156, 157, 158, 159, 128, 129, 130, 131, 132, 133, 134, 135, 136, 137] H.size) (fun v H1 => ∃ (r : Int32) (t0 : Int32) (t1 : Int32) (t2 : Int32) (t3 : Int32) (t4 : Int32) (t5 : Int32) (t6 : Int32), v = some (.int r) ∧ (0 ≤ r.toInt ∧ r.toInt ≤ 1) ∧ t0 = fI H1 a0 (K.1.2 10 70) ∧ t1 = fI H1 a0 (K.1.2 10 1) ∧ t2 = fI H1 a0 (K.1.2 10 2) ∧ t3 = fI H1 a0 (K.1.2 10 3) ∧ t4 = fI H1 a0 (K.1.2 10 59) ∧ t5 = fI H1 a0 (K.1.2 10 62) ∧ t6 = fI H1 a0 (K.1.2 10 65) ∧ ((x1.toInt = 0 ∧ h70.toInt = 0 ∧ r.toInt = 0 ∧ t0.toInt = 0 ∧ t1.toInt = s1.toInt ∧ t2.toInt = s2.toInt ∧ t3.toInt = s3.toInt ∧ t4.toInt = s59.toInt ∧ t5.toInt = s62.toInt ∧ t6.toInt = s65.toInt) ∨ (r.toInt = 1 ∧ t0.toInt = 1 ∧ (x1.toInt ≠ 0 ∨ h70.toInt ≠ 0))) ∧ iq = fR H1 a0 (K.1.2 10 73) ∧ q4 = fR H1 a0 (K.1.2 10 4) ∧ q10 = fR H1 a0 (K.1.2 10 10) ∧ q16 = fR H1 a0 (K.1.2 10 16) ∧ q24 = fR H1 a0 (K.1.2 10 24) ∧ q27 = fR H1 a0 (K.1.2 10 27) ∧ q29 = fR H1 a0 (K.1.2 10 29) ∧ q30 = fR H1 a0 (K.1.2 10 30) ∧ q31 = fR H1 a0 (K.1.2 10 31) ∧ q32 = fR H1 a0 (K.1.2 10 32) ∧ q33 = fR H1 a0 (K.1.2 10 33) ∧ q50 = fR H1 a0 (K.1.2 10 50) ∧ q64 = fR H1 a0 (K.1.2 10 64) ∧ q66 = fR H1 a0 (K.1.2 10 66) ∧ q67 = fR H1 a0 (K.1.2 10 67) ∧ (CG (avw K H1 a0)) ∧ (TU (avw K H1 a0) (svw K H1 a0)) ∧ (WD (avw K H1 a0)) ∧ (IM (avw K H1 a0)) ∧ MF K H H1 a0 [0, 1, 2, 3, 59, 62, 65, 70, 71, 72] ∧ (r.toInt = 0 ∨ (t1 = fI H1 iq 0 ∧ t2 = fI H1 iq 1 ∧ t3 = fI H1 iq 2 ∧ t4 = fI H1 iq 3 ∧ t5 = fI H1 iq 4 ∧ t6 = fI H1 iq 5)) ∧ (x1.toInt ≠ 0 → t1 = s1 ∧ t2 = s2 ∧ t3 = s3 ∧ t4 = s59 ∧ t5 = s62 ∧ t6 = s65) ∧ (x1.toInt = 0 → ∀ j : Nat, fI H1 iq j = fI H iq j) ∧ (r.toInt = 0 ∨ ∀ j : Nat, j < 8 → fI H1 q64 j = fI H1 iq (8877 + 4 * j)) ∧ (x1.toInt ≠ 0 → ∀ j : Nat, fI H1 q64 j = fI H q64 j) ∧ (r.toInt = 0 → ∀ j : Nat, fI H1 q64 j = fI H q64 j) ∧ (r.toInt = 0 ∨ ∀ j : Nat, j < 8 → fI H1 q66 j = fI H1 iq (8878 + 4 * j)) ∧ (x1.toInt ≠ 0 → ∀ j : Nat, fI H1 q66 j = fI H q66 j) ∧ (r.toInt = 0 → ∀ j : Nat, fI H1 q66 j = fI H q66 j) ∧ (r.toInt = 0 ∨ ∀ j : Nat, j < 8 → fI H1 q67 j = fI H1 iq (8879 + 4 * j)) ∧ (x1.toInt ≠ 0 → ∀ j : Nat, fI H1 q67 j = fI H q67 j) ∧ (r.toInt = 0 → ∀ j : Nat, fI H1 q67 j = fI H q67 j) ∧ TY K G H1) := by
  refine MX.of (by decide +kernel) (Nat.le_of_ble_eq_true rfl) ?_
  intro p e s m below meth c ls Q C hH hl hQ
  subst hH
  have C : CX p K s m _ meth c RX10 cX10_image 2 (some .boolean) "image" := C
  obtain ⟨hx, hb, hml, hown, hts, hKT, hr, hlocks, hnm⟩ := id C
  have hl : lv_has ls 2 [(0, .ref a0), (1, .int x1)] := hl
  have hS : va_S (AE G [112, 162, 113, 119, 122, 123, 124, 146, 114, 115, 116, 117, 118, 125, 154, 155, 120, 121, 147, 148, 149, 150, 156, 157, 158, 159, 128, 129, 130, 131, 132, 133, 134, 135, 136, 137] s.heap.size) s.heap s.heap [] := va_S.rf
  have n_0 : (0 : Int32).toInt = 0 := rfl
  have n_1 : (1 : Int32).toInt = 1 := rfl
  have bh70 := ty_fi (x := h70) (k := 70) eh70 hT ga0 rg_112 rfl
  have bs1 := ty_fi (x := s1) (k := 1) es1 hT ga0 rg_112 rfl
  have bs2 := ty_fi (x := s2) (k := 2) es2 hT ga0 rg_112 rfl
  have bs3 := ty_fi (x := s3) (k := 3) es3 hT ga0 rg_112 rfl
  have bs59 := ty_fi (x := s59) (k := 59) es59 hT ga0 rg_112 rfl
  have bs62 := ty_fi (x := s62) (k := 62) es62 hT ga0 rg_112 rfl
  have bs65 := ty_fi (x := s65) (k := 65) es65 hT ga0 rg_112 rfl
  have hap : ∀ x y, x < 74 → y < 74 → x ≠ y → K.1.2 10 x ≠ K.1.2 10 y := x_apart hKT hts inX10 tyX10 tyX10_ok nmX10 rfl
  have mf0 : MF K s.heap s.heap a0 [0, 1, 2, 3, 59, 62, 65, 70, 71, 72] := fun _ _ _ => rfl
  replace eiq := EQN.mk eiq
  replace eq4 := EQN.mk eq4
  replace eq10 := EQN.mk eq10
  replace eq16 := EQN.mk eq16
  replace eq24 := EQN.mk eq24
  replace eq27 := EQN.mk eq27
  replace eq29 := EQN.mk eq29
  replace eq30 := EQN.mk eq30
  replace eq31 := EQN.mk eq31
  replace eq32 := EQN.mk eq32
  replace eq33 := EQN.mk eq33
  replace eq50 := EQN.mk eq50
  replace eq64 := EQN.mk eq64
  replace eq66 := EQN.mk eq66
  replace eq67 := EQN.mk eq67
  have f0_f64 : ∀ j : Nat, fI s.heap q64 j = fI s.heap q64 j := fun _ => rfl
  have f0_f66 : ∀ j : Nat, fI s.heap q66 j = fI s.heap q66 j := fun _ => rfl
  have f0_f67 : ∀ j : Nat, fI s.heap q67 j = fI s.heap q67 j := fun _ => rfl
  have hIW := IM.w hg_IM eiq
  have ui00 : UN (x1.toInt = 0) (fun k => fI s.heap iq k) (fun k => fI s.heap iq k) := UN.rf
  have u400 : UN (x1.toInt ≠ 0) (fun k => fI s.heap q4 k) (fun k => fI s.heap q4 k) := UN.rf
  have u1600 : UN (x1.toInt ≠ 0) (fun k => fI s.heap q16 k) (fun k => fI s.heap q16 k) := UN.rf
  have u2400 : UN (x1.toInt ≠ 0) (fun k => fI s.heap q24 k) (fun k => fI s.heap q24 k) := UN.rf
  have u2900 : UN (x1.toInt ≠ 0) (fun k => fI s.heap q29 k) (fun k => fI s.heap q29 k) := UN.rf
  have u3000 : UN (x1.toInt ≠ 0) (fun k => fI s.heap q30 k) (fun k => fI s.heap q30 k) := UN.rf
  have u3100 : UN (x1.toInt ≠ 0) (fun k => fI s.heap q31 k) (fun k => fI s.heap q31 k) := UN.rf
  have u3200 : UN (x1.toInt ≠ 0) (fun k => fI s.heap q32 k) (fun k => fI s.heap q32 k) := UN.rf
  have u3300 : UN (x1.toInt ≠ 0) (fun k => fI s.heap q33 k) (fun k => fI s.heap q33 k) := UN.rf
  have u6400 : UN (x1.toInt ≠ 0) (fun k => fI s.heap q64 k) (fun k => fI s.heap q64 k) := UN.rf
  have u6600 : UN (x1.toInt ≠ 0) (fun k => fI s.heap q66 k) (fun k => fI s.heap q66 k) := UN.rf
  have u6700 : UN (x1.toInt ≠ 0) (fun k => fI s.heap q67 k) (fun k => fI s.heap q67 k) := UN.rf
  refine lv_aload_n hx hb dX10_image_0 rfl (lv_at hl 0 rfl) ?_
  refine lv_iconst (v := 0) hx hb dX10_image_1 (by decide) ?_
  refine x_put C hT hS (ci := 10) (k := 0) (v := .int 0) (ty0 := tyX10) rfl inX10 tyX10_ok nmX10 (by decide) rfl wF_X10_167 ga0 rg_112 rfl rfl (okI (by have := i_rng (0 : Int32); omega) (by have := i_rng (0 : Int32); omega)) rfl rfl (AE_in ga0 (by decide)) dX10_image_2 (fun H5569 locsH5569 hTH5569 hSH5569 wH5569 => ?_)
  have mf5570 : MF K s.heap H5569 a0 [0, 1, 2, 3, 59, 62, 65, 70, 71, 72] := MF.fld hap wH5569 (by decide) (by decide) mf0
  have g5571 : CG (avw K H5569 a0) := CG.congr (fun k hk j => av_fld hT ga0 hap wH5569 (by decide) (CG_ok 112 (by decide) k hk) (CG_ne 0 (by decide) k hk)) hg_CG
  have g5572 : TU (avw K H5569 a0) (svw K H5569 a0) := TU.congr (fun k hk j => av_fld hT ga0 hap wH5569 (by decide) (TU_ok 112 (by decide) k hk) (TU_ne 0 (by decide) k hk)) (fun k hk => sv_fld hap wH5569 (by decide) (TU_slt k hk) (TU_sne 0 (by decide) k hk)) hg_TU
  have g5573 : WD (avw K H5569 a0) := WD.congr (fun k hk j => av_fld hT ga0 hap wH5569 (by decide) (WD_ok 112 (by decide) k hk) (WD_ne 0 (by decide) k hk)) hg_WD
  have g5574 : IM (avw K H5569 a0) := IM.congr (fun k hk j => av_fld hT ga0 hap wH5569 (by decide) (IM_ok 112 (by decide) k hk) (IM_ne 0 (by decide) k hk)) hg_IM
  have b5575 : UN (x1.toInt = 0) (fun k => fI H5569 iq k) (fun k => fI s.heap iq k) := UN.congr (fun j => Wr.neI wH5569 (Or.inl (G_ne giq ga0 (by decide)))) ui00
  have b5576 : UN (x1.toInt ≠ 0) (fun k => fI H5569 q4 k) (fun k => fI s.heap q4 k) := UN.congr (fun j => Wr.neI wH5569 (Or.inl (G_ne gq4 ga0 (by decide)))) u400
  have b5577 : UN (x1.toInt ≠ 0) (fun k => fI H5569 q16 k) (fun k => fI s.heap q16 k) := UN.congr (fun j => Wr.neI wH5569 (Or.inl (G_ne gq16 ga0 (by decide)))) u1600
  have b5578 : UN (x1.toInt ≠ 0) (fun k => fI H5569 q24 k) (fun k => fI s.heap q24 k) := UN.congr (fun j => Wr.neI wH5569 (Or.inl (G_ne gq24 ga0 (by decide)))) u2400
  have b5579 : UN (x1.toInt ≠ 0) (fun k => fI H5569 q29 k) (fun k => fI s.heap q29 k) := UN.congr (fun j => Wr.neI wH5569 (Or.inl (G_ne gq29 ga0 (by decide)))) u2900
  have b5580 : UN (x1.toInt ≠ 0) (fun k => fI H5569 q30 k) (fun k => fI s.heap q30 k) := UN.congr (fun j => Wr.neI wH5569 (Or.inl (G_ne gq30 ga0 (by decide)))) u3000
  have b5581 : UN (x1.toInt ≠ 0) (fun k => fI H5569 q31 k) (fun k => fI s.heap q31 k) := UN.congr (fun j => Wr.neI wH5569 (Or.inl (G_ne gq31 ga0 (by decide)))) u3100
  have b5582 : UN (x1.toInt ≠ 0) (fun k => fI H5569 q32 k) (fun k => fI s.heap q32 k) := UN.congr (fun j => Wr.neI wH5569 (Or.inl (G_ne gq32 ga0 (by decide)))) u3200
  have b5583 : UN (x1.toInt ≠ 0) (fun k => fI H5569 q33 k) (fun k => fI s.heap q33 k) := UN.congr (fun j => Wr.neI wH5569 (Or.inl (G_ne gq33 ga0 (by decide)))) u3300
  have b5584 : UN (x1.toInt ≠ 0) (fun k => fI H5569 q64 k) (fun k => fI s.heap q64 k) := UN.congr (fun j => Wr.neI wH5569 (Or.inl (G_ne gq64 ga0 (by decide)))) u6400
  have b5585 : UN (x1.toInt ≠ 0) (fun k => fI H5569 q66 k) (fun k => fI s.heap q66 k) := UN.congr (fun j => Wr.neI wH5569 (Or.inl (G_ne gq66 ga0 (by decide)))) u6600
  have b5586 : UN (x1.toInt ≠ 0) (fun k => fI H5569 q67 k) (fun k => fI s.heap q67 k) := UN.congr (fun j => Wr.neI wH5569 (Or.inl (G_ne gq67 ga0 (by decide)))) u6700
  have f5587 : ∀ j : Nat, fI H5569 q64 j = fI s.heap q64 j := fun j => (Wr.neI wH5569 (Or.inl (G_ne gq64 ga0 (by decide)))).trans (f0_f64 j)
  have f5588 : ∀ j : Nat, fI H5569 q66 j = fI s.heap q66 j := fun j => (Wr.neI wH5569 (Or.inl (G_ne gq66 ga0 (by decide)))).trans (f0_f66 j)
  have f5589 : ∀ j : Nat, fI H5569 q67 j = fI s.heap q67 j := fun j => (Wr.neI wH5569 (Or.inl (G_ne gq67 ga0 (by decide)))).trans (f0_f67 j)
  have m5590 := eiq.trans (Wr.neR wH5569 (Or.inr (x_apart hKT hts inX10 tyX10 tyX10_ok nmX10 rfl 73 0 (by decide) (by decide) (by decide)))).symm
  have m5591 := eq4.trans (Wr.neR wH5569 (Or.inr (x_apart hKT hts inX10 tyX10 tyX10_ok nmX10 rfl 4 0 (by decide) (by decide) (by decide)))).symm
  have m5592 := eq10.trans (Wr.neR wH5569 (Or.inr (x_apart hKT hts inX10 tyX10 tyX10_ok nmX10 rfl 10 0 (by decide) (by decide) (by decide)))).symm
  have m5593 := eq16.trans (Wr.neR wH5569 (Or.inr (x_apart hKT hts inX10 tyX10 tyX10_ok nmX10 rfl 16 0 (by decide) (by decide) (by decide)))).symm
  have m5594 := eq24.trans (Wr.neR wH5569 (Or.inr (x_apart hKT hts inX10 tyX10 tyX10_ok nmX10 rfl 24 0 (by decide) (by decide) (by decide)))).symm
  have m5595 := eq27.trans (Wr.neR wH5569 (Or.inr (x_apart hKT hts inX10 tyX10 tyX10_ok nmX10 rfl 27 0 (by decide) (by decide) (by decide)))).symm
  have m5596 := eq29.trans (Wr.neR wH5569 (Or.inr (x_apart hKT hts inX10 tyX10 tyX10_ok nmX10 rfl 29 0 (by decide) (by decide) (by decide)))).symm
  have m5597 := eq30.trans (Wr.neR wH5569 (Or.inr (x_apart hKT hts inX10 tyX10 tyX10_ok nmX10 rfl 30 0 (by decide) (by decide) (by decide)))).symm
  have m5598 := eq31.trans (Wr.neR wH5569 (Or.inr (x_apart hKT hts inX10 tyX10 tyX10_ok nmX10 rfl 31 0 (by decide) (by decide) (by decide)))).symm
  have m5599 := eq32.trans (Wr.neR wH5569 (Or.inr (x_apart hKT hts inX10 tyX10 tyX10_ok nmX10 rfl 32 0 (by decide) (by decide) (by decide)))).symm
  have m5600 := eq33.trans (Wr.neR wH5569 (Or.inr (x_apart hKT hts inX10 tyX10 tyX10_ok nmX10 rfl 33 0 (by decide) (by decide) (by decide)))).symm
  have m5601 := eq50.trans (Wr.neR wH5569 (Or.inr (x_apart hKT hts inX10 tyX10 tyX10_ok nmX10 rfl 50 0 (by decide) (by decide) (by decide)))).symm
  have m5602 := eq64.trans (Wr.neR wH5569 (Or.inr (x_apart hKT hts inX10 tyX10 tyX10_ok nmX10 rfl 64 0 (by decide) (by decide) (by decide)))).symm
  have m5603 := eq66.trans (Wr.neR wH5569 (Or.inr (x_apart hKT hts inX10 tyX10 tyX10_ok nmX10 rfl 66 0 (by decide) (by decide) (by decide)))).symm
  have m5604 := eq67.trans (Wr.neR wH5569 (Or.inr (x_apart hKT hts inX10 tyX10 tyX10_ok nmX10 rfl 67 0 (by decide) (by decide) (by decide)))).symm
  have m5605 := eh70.trans (Wr.neI wH5569 (Or.inr (x_apart hKT hts inX10 tyX10 tyX10_ok nmX10 rfl 70 0 (by decide) (by decide) (by decide)))).symm
  have m5606 := es1.trans (Wr.neI wH5569 (Or.inr (x_apart hKT hts inX10 tyX10 tyX10_ok nmX10 rfl 1 0 (by decide) (by decide) (by decide)))).symm
  have m5607 := es2.trans (Wr.neI wH5569 (Or.inr (x_apart hKT hts inX10 tyX10 tyX10_ok nmX10 rfl 2 0 (by decide) (by decide) (by decide)))).symm
  have m5608 := es3.trans (Wr.neI wH5569 (Or.inr (x_apart hKT hts inX10 tyX10 tyX10_ok nmX10 rfl 3 0 (by decide) (by decide) (by decide)))).symm
  have m5609 := es59.trans (Wr.neI wH5569 (Or.inr (x_apart hKT hts inX10 tyX10 tyX10_ok nmX10 rfl 59 0 (by decide) (by decide) (by decide)))).symm
  have m5610 := es62.trans (Wr.neI wH5569 (Or.inr (x_apart hKT hts inX10 tyX10 tyX10_ok nmX10 rfl 62 0 (by decide) (by decide) (by decide)))).symm
  have m5611 := es65.trans (Wr.neI wH5569 (Or.inr (x_apart hKT hts inX10 tyX10 tyX10_ok nmX10 rfl 65 0 (by decide) (by decide) (by decide)))).symm
  have m5612 := Wr.I wH5569
  clear f0_f64 f0_f66 f0_f67 mf0 u1600 u2400 u2900 u3000 u3100 u3200 u3300 u400 u6400 u6600 u6700 ui00
  refine lv_iload_n hx hb dX10_image_5 rfl (lv_at hl 1 rfl) ?_
  refine lv_if_ne (tgt := 18) hx hb dX10_image_6 (by decide) (fun c5613 => ?_) (fun c5613 => ?_)
  · have k5614 := i_ne c5613
    refine lv_aload_n hx hb dX10_image_18 rfl (lv_at hl 0 rfl) ?_
    refine lv_iload_n hx hb dX10_image_19 rfl (lv_at hl 1 rfl) ?_
    refine x_put C hTH5569 hSH5569 (ci := 10) (k := 71) (v := .int x1) (ty0 := tyX10) rfl inX10 tyX10_ok nmX10 (by decide) rfl wF_X10_470 ga0 rg_112 rfl rfl (okI (by have := i_rng x1; omega) (by have := i_rng x1; omega)) (by rcases i_01 (x := x1) (by omega) with h | h <;> rw [h] <;> rfl) (by rcases i_01 (x := x1) (by omega) with h | h <;> rw [h] <;> rfl) (AE_in ga0 (by decide)) dX10_image_20 (fun H5615 locsH5615 hTH5615 hSH5615 wH5615 => ?_)
    have mf5616 : MF K s.heap H5615 a0 [0, 1, 2, 3, 59, 62, 65, 70, 71, 72] := MF.fld hap wH5615 (by decide) (by decide) mf5570
    have g5617 : CG (avw K H5615 a0) := CG.congr (fun k hk j => av_fld hTH5569 ga0 hap wH5615 (by decide) (CG_ok 112 (by decide) k hk) (CG_ne 71 (by decide) k hk)) g5571
    have g5618 : TU (avw K H5615 a0) (svw K H5615 a0) := TU.congr (fun k hk j => av_fld hTH5569 ga0 hap wH5615 (by decide) (TU_ok 112 (by decide) k hk) (TU_ne 71 (by decide) k hk)) (fun k hk => sv_fld hap wH5615 (by decide) (TU_slt k hk) (TU_sne 71 (by decide) k hk)) g5572
    have g5619 : WD (avw K H5615 a0) := WD.congr (fun k hk j => av_fld hTH5569 ga0 hap wH5615 (by decide) (WD_ok 112 (by decide) k hk) (WD_ne 71 (by decide) k hk)) g5573
    have g5620 : IM (avw K H5615 a0) := IM.congr (fun k hk j => av_fld hTH5569 ga0 hap wH5615 (by decide) (IM_ok 112 (by decide) k hk) (IM_ne 71 (by decide) k hk)) g5574
    have b5621 : UN (x1.toInt = 0) (fun k => fI H5615 iq k) (fun k => fI s.heap iq k) := UN.congr (fun j => Wr.neI wH5615 (Or.inl (G_ne giq ga0 (by decide)))) b5575
    have b5622 : UN (x1.toInt ≠ 0) (fun k => fI H5615 q4 k) (fun k => fI s.heap q4 k) := UN.congr (fun j => Wr.neI wH5615 (Or.inl (G_ne gq4 ga0 (by decide)))) b5576
    have b5623 : UN (x1.toInt ≠ 0) (fun k => fI H5615 q16 k) (fun k => fI s.heap q16 k) := UN.congr (fun j => Wr.neI wH5615 (Or.inl (G_ne gq16 ga0 (by decide)))) b5577
    have b5624 : UN (x1.toInt ≠ 0) (fun k => fI H5615 q24 k) (fun k => fI s.heap q24 k) := UN.congr (fun j => Wr.neI wH5615 (Or.inl (G_ne gq24 ga0 (by decide)))) b5578
    have b5625 : UN (x1.toInt ≠ 0) (fun k => fI H5615 q29 k) (fun k => fI s.heap q29 k) := UN.congr (fun j => Wr.neI wH5615 (Or.inl (G_ne gq29 ga0 (by decide)))) b5579
    have b5626 : UN (x1.toInt ≠ 0) (fun k => fI H5615 q30 k) (fun k => fI s.heap q30 k) := UN.congr (fun j => Wr.neI wH5615 (Or.inl (G_ne gq30 ga0 (by decide)))) b5580
    have b5627 : UN (x1.toInt ≠ 0) (fun k => fI H5615 q31 k) (fun k => fI s.heap q31 k) := UN.congr (fun j => Wr.neI wH5615 (Or.inl (G_ne gq31 ga0 (by decide)))) b5581
    have b5628 : UN (x1.toInt ≠ 0) (fun k => fI H5615 q32 k) (fun k => fI s.heap q32 k) := UN.congr (fun j => Wr.neI wH5615 (Or.inl (G_ne gq32 ga0 (by decide)))) b5582
    have b5629 : UN (x1.toInt ≠ 0) (fun k => fI H5615 q33 k) (fun k => fI s.heap q33 k) := UN.congr (fun j => Wr.neI wH5615 (Or.inl (G_ne gq33 ga0 (by decide)))) b5583
    have b5630 : UN (x1.toInt ≠ 0) (fun k => fI H5615 q64 k) (fun k => fI s.heap q64 k) := UN.congr (fun j => Wr.neI wH5615 (Or.inl (G_ne gq64 ga0 (by decide)))) b5584
    have b5631 : UN (x1.toInt ≠ 0) (fun k => fI H5615 q66 k) (fun k => fI s.heap q66 k) := UN.congr (fun j => Wr.neI wH5615 (Or.inl (G_ne gq66 ga0 (by decide)))) b5585
    have b5632 : UN (x1.toInt ≠ 0) (fun k => fI H5615 q67 k) (fun k => fI s.heap q67 k) := UN.congr (fun j => Wr.neI wH5615 (Or.inl (G_ne gq67 ga0 (by decide)))) b5586
    have f5633 : ∀ j : Nat, fI H5615 q64 j = fI s.heap q64 j := fun j => (Wr.neI wH5615 (Or.inl (G_ne gq64 ga0 (by decide)))).trans (f5587 j)
    have f5634 : ∀ j : Nat, fI H5615 q66 j = fI s.heap q66 j := fun j => (Wr.neI wH5615 (Or.inl (G_ne gq66 ga0 (by decide)))).trans (f5588 j)
    have f5635 : ∀ j : Nat, fI H5615 q67 j = fI s.heap q67 j := fun j => (Wr.neI wH5615 (Or.inl (G_ne gq67 ga0 (by decide)))).trans (f5589 j)
    have m5636 := m5590.trans (Wr.neR wH5615 (Or.inr (x_apart hKT hts inX10 tyX10 tyX10_ok nmX10 rfl 73 71 (by decide) (by decide) (by decide)))).symm
    have m5637 := m5591.trans (Wr.neR wH5615 (Or.inr (x_apart hKT hts inX10 tyX10 tyX10_ok nmX10 rfl 4 71 (by decide) (by decide) (by decide)))).symm
    have m5638 := m5592.trans (Wr.neR wH5615 (Or.inr (x_apart hKT hts inX10 tyX10 tyX10_ok nmX10 rfl 10 71 (by decide) (by decide) (by decide)))).symm
    have m5639 := m5593.trans (Wr.neR wH5615 (Or.inr (x_apart hKT hts inX10 tyX10 tyX10_ok nmX10 rfl 16 71 (by decide) (by decide) (by decide)))).symm
    have m5640 := m5594.trans (Wr.neR wH5615 (Or.inr (x_apart hKT hts inX10 tyX10 tyX10_ok nmX10 rfl 24 71 (by decide) (by decide) (by decide)))).symm
    have m5641 := m5595.trans (Wr.neR wH5615 (Or.inr (x_apart hKT hts inX10 tyX10 tyX10_ok nmX10 rfl 27 71 (by decide) (by decide) (by decide)))).symm
    have m5642 := m5596.trans (Wr.neR wH5615 (Or.inr (x_apart hKT hts inX10 tyX10 tyX10_ok nmX10 rfl 29 71 (by decide) (by decide) (by decide)))).symm
    have m5643 := m5597.trans (Wr.neR wH5615 (Or.inr (x_apart hKT hts inX10 tyX10 tyX10_ok nmX10 rfl 30 71 (by decide) (by decide) (by decide)))).symm
    have m5644 := m5598.trans (Wr.neR wH5615 (Or.inr (x_apart hKT hts inX10 tyX10 tyX10_ok nmX10 rfl 31 71 (by decide) (by decide) (by decide)))).symm
    have m5645 := m5599.trans (Wr.neR wH5615 (Or.inr (x_apart hKT hts inX10 tyX10 tyX10_ok nmX10 rfl 32 71 (by decide) (by decide) (by decide)))).symm
    have m5646 := m5600.trans (Wr.neR wH5615 (Or.inr (x_apart hKT hts inX10 tyX10 tyX10_ok nmX10 rfl 33 71 (by decide) (by decide) (by decide)))).symm
    have m5647 := m5601.trans (Wr.neR wH5615 (Or.inr (x_apart hKT hts inX10 tyX10 tyX10_ok nmX10 rfl 50 71 (by decide) (by decide) (by decide)))).symm
    have m5648 := m5602.trans (Wr.neR wH5615 (Or.inr (x_apart hKT hts inX10 tyX10 tyX10_ok nmX10 rfl 64 71 (by decide) (by decide) (by decide)))).symm
    have m5649 := m5603.trans (Wr.neR wH5615 (Or.inr (x_apart hKT hts inX10 tyX10 tyX10_ok nmX10 rfl 66 71 (by decide) (by decide) (by decide)))).symm
    have m5650 := m5604.trans (Wr.neR wH5615 (Or.inr (x_apart hKT hts inX10 tyX10 tyX10_ok nmX10 rfl 67 71 (by decide) (by decide) (by decide)))).symm
    have m5651 := m5605.trans (Wr.neI wH5615 (Or.inr (x_apart hKT hts inX10 tyX10 tyX10_ok nmX10 rfl 70 71 (by decide) (by decide) (by decide)))).symm
    have m5652 := m5606.trans (Wr.neI wH5615 (Or.inr (x_apart hKT hts inX10 tyX10 tyX10_ok nmX10 rfl 1 71 (by decide) (by decide) (by decide)))).symm
    have m5653 := m5607.trans (Wr.neI wH5615 (Or.inr (x_apart hKT hts inX10 tyX10 tyX10_ok nmX10 rfl 2 71 (by decide) (by decide) (by decide)))).symm
    have m5654 := m5608.trans (Wr.neI wH5615 (Or.inr (x_apart hKT hts inX10 tyX10 tyX10_ok nmX10 rfl 3 71 (by decide) (by decide) (by decide)))).symm
    have m5655 := m5609.trans (Wr.neI wH5615 (Or.inr (x_apart hKT hts inX10 tyX10 tyX10_ok nmX10 rfl 59 71 (by decide) (by decide) (by decide)))).symm
    have m5656 := m5610.trans (Wr.neI wH5615 (Or.inr (x_apart hKT hts inX10 tyX10 tyX10_ok nmX10 rfl 62 71 (by decide) (by decide) (by decide)))).symm
    have m5657 := m5611.trans (Wr.neI wH5615 (Or.inr (x_apart hKT hts inX10 tyX10 tyX10_ok nmX10 rfl 65 71 (by decide) (by decide) (by decide)))).symm
    have m5658 := (Wr.neI wH5615 (Or.inr (x_apart hKT hts inX10 tyX10 tyX10_ok nmX10 rfl 0 71 (by decide) (by decide) (by decide)))).trans m5612
    have m5659 := Wr.I wH5615
    have m5659 := m5659.symm
    clear b5575 b5576 b5577 b5578 b5579 b5580 b5581 b5582 b5583 b5584 b5585 b5586 f5587 f5588 f5589 g5571 g5572 g5573 g5574 hTH5569 m5590 m5591 m5592 m5593 m5594 m5595 m5596 m5597 m5598 m5599 m5600 m5601 m5602 m5603 m5604 m5605 m5606 m5607 m5608 m5609 m5610 m5611 m5612 mf5570
    refine lv_aload_n hx hb dX10_image_23 rfl (lv_at hl 0 rfl) ?_
    refine lv_iconst (v := 1) hx hb dX10_image_24 (by decide) ?_
    refine x_put C hTH5615 hSH5615 (ci := 10) (k := 70) (v := .int 1) (ty0 := tyX10) rfl inX10 tyX10_ok nmX10 (by decide) rfl wF_X10_476 ga0 rg_112 rfl rfl (okI (by have := i_rng (1 : Int32); omega) (by have := i_rng (1 : Int32); omega)) rfl rfl (AE_in ga0 (by decide)) dX10_image_25 (fun H5660 locsH5660 hTH5660 hSH5660 wH5660 => ?_)
    have mf5661 : MF K s.heap H5660 a0 [0, 1, 2, 3, 59, 62, 65, 70, 71, 72] := MF.fld hap wH5660 (by decide) (by decide) mf5616
    have g5662 : CG (avw K H5660 a0) := CG.congr (fun k hk j => av_fld hTH5615 ga0 hap wH5660 (by decide) (CG_ok 112 (by decide) k hk) (CG_ne 70 (by decide) k hk)) g5617
    have g5663 : TU (avw K H5660 a0) (svw K H5660 a0) := TU.congr (fun k hk j => av_fld hTH5615 ga0 hap wH5660 (by decide) (TU_ok 112 (by decide) k hk) (TU_ne 70 (by decide) k hk)) (fun k hk => sv_fld hap wH5660 (by decide) (TU_slt k hk) (TU_sne 70 (by decide) k hk)) g5618
    have g5664 : WD (avw K H5660 a0) := WD.congr (fun k hk j => av_fld hTH5615 ga0 hap wH5660 (by decide) (WD_ok 112 (by decide) k hk) (WD_ne 70 (by decide) k hk)) g5619
    have g5665 : IM (avw K H5660 a0) := IM.congr (fun k hk j => av_fld hTH5615 ga0 hap wH5660 (by decide) (IM_ok 112 (by decide) k hk) (IM_ne 70 (by decide) k hk)) g5620
    have b5666 : UN (x1.toInt = 0) (fun k => fI H5660 iq k) (fun k => fI s.heap iq k) := UN.congr (fun j => Wr.neI wH5660 (Or.inl (G_ne giq ga0 (by decide)))) b5621
    have b5667 : UN (x1.toInt ≠ 0) (fun k => fI H5660 q4 k) (fun k => fI s.heap q4 k) := UN.congr (fun j => Wr.neI wH5660 (Or.inl (G_ne gq4 ga0 (by decide)))) b5622
    have b5668 : UN (x1.toInt ≠ 0) (fun k => fI H5660 q16 k) (fun k => fI s.heap q16 k) := UN.congr (fun j => Wr.neI wH5660 (Or.inl (G_ne gq16 ga0 (by decide)))) b5623
    have b5669 : UN (x1.toInt ≠ 0) (fun k => fI H5660 q24 k) (fun k => fI s.heap q24 k) := UN.congr (fun j => Wr.neI wH5660 (Or.inl (G_ne gq24 ga0 (by decide)))) b5624
    have b5670 : UN (x1.toInt ≠ 0) (fun k => fI H5660 q29 k) (fun k => fI s.heap q29 k) := UN.congr (fun j => Wr.neI wH5660 (Or.inl (G_ne gq29 ga0 (by decide)))) b5625
    have b5671 : UN (x1.toInt ≠ 0) (fun k => fI H5660 q30 k) (fun k => fI s.heap q30 k) := UN.congr (fun j => Wr.neI wH5660 (Or.inl (G_ne gq30 ga0 (by decide)))) b5626
    have b5672 : UN (x1.toInt ≠ 0) (fun k => fI H5660 q31 k) (fun k => fI s.heap q31 k) := UN.congr (fun j => Wr.neI wH5660 (Or.inl (G_ne gq31 ga0 (by decide)))) b5627
    have b5673 : UN (x1.toInt ≠ 0) (fun k => fI H5660 q32 k) (fun k => fI s.heap q32 k) := UN.congr (fun j => Wr.neI wH5660 (Or.inl (G_ne gq32 ga0 (by decide)))) b5628
    have b5674 : UN (x1.toInt ≠ 0) (fun k => fI H5660 q33 k) (fun k => fI s.heap q33 k) := UN.congr (fun j => Wr.neI wH5660 (Or.inl (G_ne gq33 ga0 (by decide)))) b5629
    have b5675 : UN (x1.toInt ≠ 0) (fun k => fI H5660 q64 k) (fun k => fI s.heap q64 k) := UN.congr (fun j => Wr.neI wH5660 (Or.inl (G_ne gq64 ga0 (by decide)))) b5630
    have b5676 : UN (x1.toInt ≠ 0) (fun k => fI H5660 q66 k) (fun k => fI s.heap q66 k) := UN.congr (fun j => Wr.neI wH5660 (Or.inl (G_ne gq66 ga0 (by decide)))) b5631
    have b5677 : UN (x1.toInt ≠ 0) (fun k => fI H5660 q67 k) (fun k => fI s.heap q67 k) := UN.congr (fun j => Wr.neI wH5660 (Or.inl (G_ne gq67 ga0 (by decide)))) b5632
    have f5678 : ∀ j : Nat, fI H5660 q64 j = fI s.heap q64 j := fun j => (Wr.neI wH5660 (Or.inl (G_ne gq64 ga0 (by decide)))).trans (f5633 j)
    have f5679 : ∀ j : Nat, fI H5660 q66 j = fI s.heap q66 j := fun j => (Wr.neI wH5660 (Or.inl (G_ne gq66 ga0 (by decide)))).trans (f5634 j)
    have f5680 : ∀ j : Nat, fI H5660 q67 j = fI s.heap q67 j := fun j => (Wr.neI wH5660 (Or.inl (G_ne gq67 ga0 (by decide)))).trans (f5635 j)
    have m5681 := m5636.trans (Wr.neR wH5660 (Or.inr (x_apart hKT hts inX10 tyX10 tyX10_ok nmX10 rfl 73 70 (by decide) (by decide) (by decide)))).symm
    have m5682 := m5637.trans (Wr.neR wH5660 (Or.inr (x_apart hKT hts inX10 tyX10 tyX10_ok nmX10 rfl 4 70 (by decide) (by decide) (by decide)))).symm
    have m5683 := m5638.trans (Wr.neR wH5660 (Or.inr (x_apart hKT hts inX10 tyX10 tyX10_ok nmX10 rfl 10 70 (by decide) (by decide) (by decide)))).symm
    have m5684 := m5639.trans (Wr.neR wH5660 (Or.inr (x_apart hKT hts inX10 tyX10 tyX10_ok nmX10 rfl 16 70 (by decide) (by decide) (by decide)))).symm
    have m5685 := m5640.trans (Wr.neR wH5660 (Or.inr (x_apart hKT hts inX10 tyX10 tyX10_ok nmX10 rfl 24 70 (by decide) (by decide) (by decide)))).symm
    have m5686 := m5641.trans (Wr.neR wH5660 (Or.inr (x_apart hKT hts inX10 tyX10 tyX10_ok nmX10 rfl 27 70 (by decide) (by decide) (by decide)))).symm
    have m5687 := m5642.trans (Wr.neR wH5660 (Or.inr (x_apart hKT hts inX10 tyX10 tyX10_ok nmX10 rfl 29 70 (by decide) (by decide) (by decide)))).symm
    have m5688 := m5643.trans (Wr.neR wH5660 (Or.inr (x_apart hKT hts inX10 tyX10 tyX10_ok nmX10 rfl 30 70 (by decide) (by decide) (by decide)))).symm
    have m5689 := m5644.trans (Wr.neR wH5660 (Or.inr (x_apart hKT hts inX10 tyX10 tyX10_ok nmX10 rfl 31 70 (by decide) (by decide) (by decide)))).symm
    have m5690 := m5645.trans (Wr.neR wH5660 (Or.inr (x_apart hKT hts inX10 tyX10 tyX10_ok nmX10 rfl 32 70 (by decide) (by decide) (by decide)))).symm
    have m5691 := m5646.trans (Wr.neR wH5660 (Or.inr (x_apart hKT hts inX10 tyX10 tyX10_ok nmX10 rfl 33 70 (by decide) (by decide) (by decide)))).symm
    have m5692 := m5647.trans (Wr.neR wH5660 (Or.inr (x_apart hKT hts inX10 tyX10 tyX10_ok nmX10 rfl 50 70 (by decide) (by decide) (by decide)))).symm
    have m5693 := m5648.trans (Wr.neR wH5660 (Or.inr (x_apart hKT hts inX10 tyX10 tyX10_ok nmX10 rfl 64 70 (by decide) (by decide) (by decide)))).symm
    have m5694 := m5649.trans (Wr.neR wH5660 (Or.inr (x_apart hKT hts inX10 tyX10 tyX10_ok nmX10 rfl 66 70 (by decide) (by decide) (by decide)))).symm
    have m5695 := m5650.trans (Wr.neR wH5660 (Or.inr (x_apart hKT hts inX10 tyX10 tyX10_ok nmX10 rfl 67 70 (by decide) (by decide) (by decide)))).symm
    have m5697 := m5652.trans (Wr.neI wH5660 (Or.inr (x_apart hKT hts inX10 tyX10 tyX10_ok nmX10 rfl 1 70 (by decide) (by decide) (by decide)))).symm
    have m5698 := m5653.trans (Wr.neI wH5660 (Or.inr (x_apart hKT hts inX10 tyX10 tyX10_ok nmX10 rfl 2 70 (by decide) (by decide) (by decide)))).symm
    have m5699 := m5654.trans (Wr.neI wH5660 (Or.inr (x_apart hKT hts inX10 tyX10 tyX10_ok nmX10 rfl 3 70 (by decide) (by decide) (by decide)))).symm
    have m5700 := m5655.trans (Wr.neI wH5660 (Or.inr (x_apart hKT hts inX10 tyX10 tyX10_ok nmX10 rfl 59 70 (by decide) (by decide) (by decide)))).symm
    have m5701 := m5656.trans (Wr.neI wH5660 (Or.inr (x_apart hKT hts inX10 tyX10 tyX10_ok nmX10 rfl 62 70 (by decide) (by decide) (by decide)))).symm
    have m5702 := m5657.trans (Wr.neI wH5660 (Or.inr (x_apart hKT hts inX10 tyX10 tyX10_ok nmX10 rfl 65 70 (by decide) (by decide) (by decide)))).symm
    have m5703 := (Wr.neI wH5660 (Or.inr (x_apart hKT hts inX10 tyX10 tyX10_ok nmX10 rfl 0 70 (by decide) (by decide) (by decide)))).trans m5658
    have m5704 := m5659.trans (Wr.neI wH5660 (Or.inr (x_apart hKT hts inX10 tyX10 tyX10_ok nmX10 rfl 71 70 (by decide) (by decide) (by decide)))).symm
    have m5705 := Wr.I wH5660
    clear b5621 b5622 b5623 b5624 b5625 b5626 b5627 b5628 b5629 b5630 b5631 b5632 f5633 f5634 f5635 g5617 g5618 g5619 g5620 hTH5615 m5636 m5637 m5638 m5639 m5640 m5641 m5642 m5643 m5644 m5645 m5646 m5647 m5648 m5649 m5650 m5651 m5652 m5653 m5654 m5655 m5656 m5657 m5658 m5659 mf5616
    refine lv_aload_n hx hb dX10_image_28 rfl (lv_at hl 0 rfl) ?_
    refine lv_iconst (v := 0) hx hb dX10_image_29 (by decide) ?_
    refine x_put C hTH5660 hSH5660 (ci := 10) (k := 72) (v := .int 0) (ty0 := tyX10) rfl inX10 tyX10_ok nmX10 (by decide) rfl wF_X10_467 ga0 rg_112 rfl rfl (okI (by have := i_rng (0 : Int32); omega) (by have := i_rng (0 : Int32); omega)) rfl rfl (AE_in ga0 (by decide)) dX10_image_30 (fun H5706 locsH5706 hTH5706 hSH5706 wH5706 => ?_)
    have mf5707 : MF K s.heap H5706 a0 [0, 1, 2, 3, 59, 62, 65, 70, 71, 72] := MF.fld hap wH5706 (by decide) (by decide) mf5661
    have g5708 : CG (avw K H5706 a0) := CG.congr (fun k hk j => av_fld hTH5660 ga0 hap wH5706 (by decide) (CG_ok 112 (by decide) k hk) (CG_ne 72 (by decide) k hk)) g5662
    have g5709 : TU (avw K H5706 a0) (svw K H5706 a0) := TU.congr (fun k hk j => av_fld hTH5660 ga0 hap wH5706 (by decide) (TU_ok 112 (by decide) k hk) (TU_ne 72 (by decide) k hk)) (fun k hk => sv_fld hap wH5706 (by decide) (TU_slt k hk) (TU_sne 72 (by decide) k hk)) g5663
    have g5710 : WD (avw K H5706 a0) := WD.congr (fun k hk j => av_fld hTH5660 ga0 hap wH5706 (by decide) (WD_ok 112 (by decide) k hk) (WD_ne 72 (by decide) k hk)) g5664
    have g5711 : IM (avw K H5706 a0) := IM.congr (fun k hk j => av_fld hTH5660 ga0 hap wH5706 (by decide) (IM_ok 112 (by decide) k hk) (IM_ne 72 (by decide) k hk)) g5665
    have b5712 : UN (x1.toInt = 0) (fun k => fI H5706 iq k) (fun k => fI s.heap iq k) := UN.congr (fun j => Wr.neI wH5706 (Or.inl (G_ne giq ga0 (by decide)))) b5666
    have b5713 : UN (x1.toInt ≠ 0) (fun k => fI H5706 q4 k) (fun k => fI s.heap q4 k) := UN.congr (fun j => Wr.neI wH5706 (Or.inl (G_ne gq4 ga0 (by decide)))) b5667
    have b5714 : UN (x1.toInt ≠ 0) (fun k => fI H5706 q16 k) (fun k => fI s.heap q16 k) := UN.congr (fun j => Wr.neI wH5706 (Or.inl (G_ne gq16 ga0 (by decide)))) b5668
    have b5715 : UN (x1.toInt ≠ 0) (fun k => fI H5706 q24 k) (fun k => fI s.heap q24 k) := UN.congr (fun j => Wr.neI wH5706 (Or.inl (G_ne gq24 ga0 (by decide)))) b5669
    have b5716 : UN (x1.toInt ≠ 0) (fun k => fI H5706 q29 k) (fun k => fI s.heap q29 k) := UN.congr (fun j => Wr.neI wH5706 (Or.inl (G_ne gq29 ga0 (by decide)))) b5670
    have b5717 : UN (x1.toInt ≠ 0) (fun k => fI H5706 q30 k) (fun k => fI s.heap q30 k) := UN.congr (fun j => Wr.neI wH5706 (Or.inl (G_ne gq30 ga0 (by decide)))) b5671
    have b5718 : UN (x1.toInt ≠ 0) (fun k => fI H5706 q31 k) (fun k => fI s.heap q31 k) := UN.congr (fun j => Wr.neI wH5706 (Or.inl (G_ne gq31 ga0 (by decide)))) b5672
    have b5719 : UN (x1.toInt ≠ 0) (fun k => fI H5706 q32 k) (fun k => fI s.heap q32 k) := UN.congr (fun j => Wr.neI wH5706 (Or.inl (G_ne gq32 ga0 (by decide)))) b5673
    have b5720 : UN (x1.toInt ≠ 0) (fun k => fI H5706 q33 k) (fun k => fI s.heap q33 k) := UN.congr (fun j => Wr.neI wH5706 (Or.inl (G_ne gq33 ga0 (by decide)))) b5674
    have b5721 : UN (x1.toInt ≠ 0) (fun k => fI H5706 q64 k) (fun k => fI s.heap q64 k) := UN.congr (fun j => Wr.neI wH5706 (Or.inl (G_ne gq64 ga0 (by decide)))) b5675
    have b5722 : UN (x1.toInt ≠ 0) (fun k => fI H5706 q66 k) (fun k => fI s.heap q66 k) := UN.congr (fun j => Wr.neI wH5706 (Or.inl (G_ne gq66 ga0 (by decide)))) b5676
    have b5723 : UN (x1.toInt ≠ 0) (fun k => fI H5706 q67 k) (fun k => fI s.heap q67 k) := UN.congr (fun j => Wr.neI wH5706 (Or.inl (G_ne gq67 ga0 (by decide)))) b5677
    have f5724 : ∀ j : Nat, fI H5706 q64 j = fI s.heap q64 j := fun j => (Wr.neI wH5706 (Or.inl (G_ne gq64 ga0 (by decide)))).trans (f5678 j)
    have f5725 : ∀ j : Nat, fI H5706 q66 j = fI s.heap q66 j := fun j => (Wr.neI wH5706 (Or.inl (G_ne gq66 ga0 (by decide)))).trans (f5679 j)
    have f5726 : ∀ j : Nat, fI H5706 q67 j = fI s.heap q67 j := fun j => (Wr.neI wH5706 (Or.inl (G_ne gq67 ga0 (by decide)))).trans (f5680 j)
    have m5727 := m5681.trans (Wr.neR wH5706 (Or.inr (x_apart hKT hts inX10 tyX10 tyX10_ok nmX10 rfl 73 72 (by decide) (by decide) (by decide)))).symm
    have m5728 := m5682.trans (Wr.neR wH5706 (Or.inr (x_apart hKT hts inX10 tyX10 tyX10_ok nmX10 rfl 4 72 (by decide) (by decide) (by decide)))).symm
    have m5729 := m5683.trans (Wr.neR wH5706 (Or.inr (x_apart hKT hts inX10 tyX10 tyX10_ok nmX10 rfl 10 72 (by decide) (by decide) (by decide)))).symm
    have m5730 := m5684.trans (Wr.neR wH5706 (Or.inr (x_apart hKT hts inX10 tyX10 tyX10_ok nmX10 rfl 16 72 (by decide) (by decide) (by decide)))).symm
    have m5731 := m5685.trans (Wr.neR wH5706 (Or.inr (x_apart hKT hts inX10 tyX10 tyX10_ok nmX10 rfl 24 72 (by decide) (by decide) (by decide)))).symm
    have m5732 := m5686.trans (Wr.neR wH5706 (Or.inr (x_apart hKT hts inX10 tyX10 tyX10_ok nmX10 rfl 27 72 (by decide) (by decide) (by decide)))).symm
    have m5733 := m5687.trans (Wr.neR wH5706 (Or.inr (x_apart hKT hts inX10 tyX10 tyX10_ok nmX10 rfl 29 72 (by decide) (by decide) (by decide)))).symm
    have m5734 := m5688.trans (Wr.neR wH5706 (Or.inr (x_apart hKT hts inX10 tyX10 tyX10_ok nmX10 rfl 30 72 (by decide) (by decide) (by decide)))).symm
    have m5735 := m5689.trans (Wr.neR wH5706 (Or.inr (x_apart hKT hts inX10 tyX10 tyX10_ok nmX10 rfl 31 72 (by decide) (by decide) (by decide)))).symm
    have m5736 := m5690.trans (Wr.neR wH5706 (Or.inr (x_apart hKT hts inX10 tyX10 tyX10_ok nmX10 rfl 32 72 (by decide) (by decide) (by decide)))).symm
    have m5737 := m5691.trans (Wr.neR wH5706 (Or.inr (x_apart hKT hts inX10 tyX10 tyX10_ok nmX10 rfl 33 72 (by decide) (by decide) (by decide)))).symm
    have m5738 := m5692.trans (Wr.neR wH5706 (Or.inr (x_apart hKT hts inX10 tyX10 tyX10_ok nmX10 rfl 50 72 (by decide) (by decide) (by decide)))).symm
    have m5739 := m5693.trans (Wr.neR wH5706 (Or.inr (x_apart hKT hts inX10 tyX10 tyX10_ok nmX10 rfl 64 72 (by decide) (by decide) (by decide)))).symm
    have m5740 := m5694.trans (Wr.neR wH5706 (Or.inr (x_apart hKT hts inX10 tyX10 tyX10_ok nmX10 rfl 66 72 (by decide) (by decide) (by decide)))).symm
    have m5741 := m5695.trans (Wr.neR wH5706 (Or.inr (x_apart hKT hts inX10 tyX10 tyX10_ok nmX10 rfl 67 72 (by decide) (by decide) (by decide)))).symm
    have m5742 := m5697.trans (Wr.neI wH5706 (Or.inr (x_apart hKT hts inX10 tyX10 tyX10_ok nmX10 rfl 1 72 (by decide) (by decide) (by decide)))).symm
    have m5743 := m5698.trans (Wr.neI wH5706 (Or.inr (x_apart hKT hts inX10 tyX10 tyX10_ok nmX10 rfl 2 72 (by decide) (by decide) (by decide)))).symm
    have m5744 := m5699.trans (Wr.neI wH5706 (Or.inr (x_apart hKT hts inX10 tyX10 tyX10_ok nmX10 rfl 3 72 (by decide) (by decide) (by decide)))).symm
    have m5745 := m5700.trans (Wr.neI wH5706 (Or.inr (x_apart hKT hts inX10 tyX10 tyX10_ok nmX10 rfl 59 72 (by decide) (by decide) (by decide)))).symm
    have m5746 := m5701.trans (Wr.neI wH5706 (Or.inr (x_apart hKT hts inX10 tyX10 tyX10_ok nmX10 rfl 62 72 (by decide) (by decide) (by decide)))).symm
    have m5747 := m5702.trans (Wr.neI wH5706 (Or.inr (x_apart hKT hts inX10 tyX10 tyX10_ok nmX10 rfl 65 72 (by decide) (by decide) (by decide)))).symm
    have m5748 := (Wr.neI wH5706 (Or.inr (x_apart hKT hts inX10 tyX10 tyX10_ok nmX10 rfl 0 72 (by decide) (by decide) (by decide)))).trans m5703
    have m5749 := m5704.trans (Wr.neI wH5706 (Or.inr (x_apart hKT hts inX10 tyX10 tyX10_ok nmX10 rfl 71 72 (by decide) (by decide) (by decide)))).symm
    have m5750 := (Wr.neI wH5706 (Or.inr (x_apart hKT hts inX10 tyX10 tyX10_ok nmX10 rfl 70 72 (by decide) (by decide) (by decide)))).trans m5705
    have m5751 := Wr.I wH5706
    clear b5666 b5667 b5668 b5669 b5670 b5671 b5672 b5673 b5674 b5675 b5676 b5677 f5678 f5679 f5680 g5662 g5663 g5664 g5665 hTH5660 m5681 m5682 m5683 m5684 m5685 m5686 m5687 m5688 m5689 m5690 m5691 m5692 m5693 m5694 m5695 m5697 m5698 m5699 m5700 m5701 m5702 m5703 m5704 m5705 mf5661
    refine lv_aload_n hx hb dX10_image_33 rfl (lv_at hl 0 rfl) ?_
    refine lv_aload_n hx hb dX10_image_34 rfl (lv_at hl 0 rfl) ?_
    refine lv_aload_n hx hb dX10_image_35 rfl (lv_at hl 0 rfl) ?_
    refine x_gi C hTH5706 (ci := 10) (k := 1) rfl inX10 (by decide) wF_X10_170 ga0 rg_112 rfl dX10_image_36 (fun x5752 ex5752 bx5752 => ?_)
    have ux5752 : s1 = x5752 := (m5742).trans ex5752.symm
    subst ux5752
    refine x_V (As := [.int s1]) (rest := [.ref a0]) C (a_X10_kept l K G H5706 (s1) (0) (x1) hTH5706 ga0 giq m5727 (m5751).symm m5749 g5710 (by and_intros <;> first | assumption | omega)) yo_X10_kept wM_X10_473 ⟨⟨by decide, by decide⟩, by decide, by decide⟩ (x_rv C hTH5706 (ci := 10) rfl ga0 rg_112) rfl hl.1 rfl (Nat.le_of_ble_eq_true rfl) dX10_image_39 hSH5706 (AE_sub (fun _ _ => rfl) (by decide) hSH5706.1) (fun vH5753 H5753 locsH5753 pH5753 zH5753 kH5753 hSH5753 => ?_)
    obtain ⟨x5754, x5755, hvH5753, ex5755, hrH5753, m5756, g5757, mf5758, m5759, m5760, m5761, m5762, hTH5753⟩ := pH5753
    subst hvH5753
    clear zH5753
    replace m5756 := EQN.mk m5756
    have b5763 : UN (x1.toInt ≠ 0) (fun k => fI H5753 q4 k) (fun k => fI s.heap q4 k) := UN.congr (fun j => fI_kept (x_lt hTH5706 kH5753 gq4 (by decide))) b5713
    have b5764 : UN (x1.toInt ≠ 0) (fun k => fI H5753 q16 k) (fun k => fI s.heap q16 k) := UN.congr (fun j => fI_kept (x_lt hTH5706 kH5753 gq16 (by decide))) b5714
    have b5765 : UN (x1.toInt ≠ 0) (fun k => fI H5753 q24 k) (fun k => fI s.heap q24 k) := UN.congr (fun j => fI_kept (x_lt hTH5706 kH5753 gq24 (by decide))) b5715
    have b5766 : UN (x1.toInt ≠ 0) (fun k => fI H5753 q29 k) (fun k => fI s.heap q29 k) := UN.congr (fun j => fI_kept (x_lt hTH5706 kH5753 gq29 (by decide))) b5716
    have b5767 : UN (x1.toInt ≠ 0) (fun k => fI H5753 q30 k) (fun k => fI s.heap q30 k) := UN.congr (fun j => fI_kept (x_lt hTH5706 kH5753 gq30 (by decide))) b5717
    have b5768 : UN (x1.toInt ≠ 0) (fun k => fI H5753 q31 k) (fun k => fI s.heap q31 k) := UN.congr (fun j => fI_kept (x_lt hTH5706 kH5753 gq31 (by decide))) b5718
    have b5769 : UN (x1.toInt ≠ 0) (fun k => fI H5753 q32 k) (fun k => fI s.heap q32 k) := UN.congr (fun j => fI_kept (x_lt hTH5706 kH5753 gq32 (by decide))) b5719
    have b5770 : UN (x1.toInt ≠ 0) (fun k => fI H5753 q33 k) (fun k => fI s.heap q33 k) := UN.congr (fun j => fI_kept (x_lt hTH5706 kH5753 gq33 (by decide))) b5720
    have b5771 : UN (x1.toInt ≠ 0) (fun k => fI H5753 q64 k) (fun k => fI s.heap q64 k) := UN.congr (fun j => fI_kept (x_lt hTH5706 kH5753 gq64 (by decide))) b5721
    have b5772 : UN (x1.toInt ≠ 0) (fun k => fI H5753 q66 k) (fun k => fI s.heap q66 k) := UN.congr (fun j => fI_kept (x_lt hTH5706 kH5753 gq66 (by decide))) b5722
    have b5773 : UN (x1.toInt ≠ 0) (fun k => fI H5753 q67 k) (fun k => fI s.heap q67 k) := UN.congr (fun j => fI_kept (x_lt hTH5706 kH5753 gq67 (by decide))) b5723
    have f5774 : ∀ j : Nat, fI H5753 q64 j = fI s.heap q64 j := fun j => (fI_kept (x_lt hTH5706 kH5753 gq64 (by decide))).trans (f5724 j)
    have f5775 : ∀ j : Nat, fI H5753 q66 j = fI s.heap q66 j := fun j => (fI_kept (x_lt hTH5706 kH5753 gq66 (by decide))).trans (f5725 j)
    have f5776 : ∀ j : Nat, fI H5753 q67 j = fI s.heap q67 j := fun j => (fI_kept (x_lt hTH5706 kH5753 gq67 (by decide))).trans (f5726 j)
    have m5777 := (m5727).trans (MF.r mf5758 (k := 73) (by decide) (by decide)).symm
    have m5778 := (m5728).trans (MF.r mf5758 (k := 4) (by decide) (by decide)).symm
    have m5779 := (m5729).trans (MF.r mf5758 (k := 10) (by decide) (by decide)).symm
    have m5780 := (m5730).trans (MF.r mf5758 (k := 16) (by decide) (by decide)).symm
    have m5781 := (m5731).trans (MF.r mf5758 (k := 24) (by decide) (by decide)).symm
    have m5782 := (m5732).trans (MF.r mf5758 (k := 27) (by decide) (by decide)).symm
    have m5783 := (m5733).trans (MF.r mf5758 (k := 29) (by decide) (by decide)).symm
    have m5784 := (m5734).trans (MF.r mf5758 (k := 30) (by decide) (by decide)).symm
    have m5785 := (m5735).trans (MF.r mf5758 (k := 31) (by decide) (by decide)).symm
    have m5786 := (m5736).trans (MF.r mf5758 (k := 32) (by decide) (by decide)).symm
    have m5787 := (m5737).trans (MF.r mf5758 (k := 33) (by decide) (by decide)).symm
    have m5788 := (m5738).trans (MF.r mf5758 (k := 50) (by decide) (by decide)).symm
    have m5789 := (m5739).trans (MF.r mf5758 (k := 64) (by decide) (by decide)).symm
    have m5790 := (m5740).trans (MF.r mf5758 (k := 66) (by decide) (by decide)).symm
    have m5791 := (m5741).trans (MF.r mf5758 (k := 67) (by decide) (by decide)).symm
    have m5792 := (m5742).trans (MF.i mf5758 (k := 1) (by decide) (by decide)).symm
    have m5793 := (m5743).trans (MF.i mf5758 (k := 2) (by decide) (by decide)).symm
    have m5794 := (m5744).trans (MF.i mf5758 (k := 3) (by decide) (by decide)).symm
    have m5795 := (m5745).trans (MF.i mf5758 (k := 59) (by decide) (by decide)).symm
    have m5796 := (m5746).trans (MF.i mf5758 (k := 62) (by decide) (by decide)).symm
    have m5797 := (m5747).trans (MF.i mf5758 (k := 65) (by decide) (by decide)).symm
    have m5798 := (MF.i mf5758 (k := 0) (by decide) (by decide)).trans m5748
    have m5799 := (m5749).trans (MF.i mf5758 (k := 71) (by decide) (by decide)).symm
    have m5800 := (MF.i mf5758 (k := 70) (by decide) (by decide)).trans m5750
    have mf5801 : MF K s.heap H5753 a0 [0, 1, 2, 3, 59, 62, 65, 70, 71, 72] := MF.trans mf5707 mf5758 (by decide)
    have bx5755 := ty_fi (x := x5755) (k := 72) ex5755 hTH5753 ga0 rg_112 rfl
    have ce_k0 : (0 : Int32).toNatClampNeg = 0 := rfl
    have b5802 : UN (x1.toInt = 0) (fun k => fI H5753 iq k) (fun k => fI s.heap iq k) := UN.tr m5762 b5712
    clear b5712 b5713 b5714 b5715 b5716 b5717 b5718 b5719 b5720 b5721 b5722 b5723 m5727 m5728 m5729 m5730 m5731 m5732 m5733 m5734 m5735 m5736 m5737 m5738 m5739 m5740 m5741 m5742 m5743 m5744 m5745 m5746 m5747 m5748 m5749 m5750 m5751
    clear m5761 m5762
    have bx5754 : 0 ≤ x5754.toInt ∧ x5754.toInt ≤ 10 := kr (fun h0 => by have hiw := hIW; exact kr0 (w := fun k => fI H5753 iq k) m5759 (p := 0) (by omega) (b5802 h0) (hiw.1.1)) m5760 (by omega)
    have p5803 : x5754 = fI H5753 iq (0) := by have h := m5759; rw [show (0 : Int32).toNatClampNeg = 0 by omega] at h; exact h
    refine W.eq (g2 := F0 m 42 ls [.int x5754, .ref a0]) rfl ?_
    refine x_put C hTH5753 hSH5753 (ci := 10) (k := 1) (v := .int x5754) (ty0 := tyX10) rfl inX10 tyX10_ok nmX10 (by decide) rfl wF_X10_170 ga0 rg_112 rfl rfl (okI (by have := i_rng x5754; omega) (by have := i_rng x5754; omega)) rfl rfl (AE_in ga0 (by decide)) dX10_image_42 (fun H5804 locsH5804 hTH5804 hSH5804 wH5804 => ?_)
    have mf5805 : MF K s.heap H5804 a0 [0, 1, 2, 3, 59, 62, 65, 70, 71, 72] := MF.fld hap wH5804 (by decide) (by decide) mf5801
    have g5806 : WD (avw K H5804 a0) := WD.congr (fun k hk j => av_fld hTH5753 ga0 hap wH5804 (by decide) (WD_ok 112 (by decide) k hk) (WD_ne 1 (by decide) k hk)) g5757
    have b5807 : UN (x1.toInt ≠ 0) (fun k => fI H5804 q4 k) (fun k => fI s.heap q4 k) := UN.congr (fun j => Wr.neI wH5804 (Or.inl (G_ne gq4 ga0 (by decide)))) b5763
    have b5808 : UN (x1.toInt ≠ 0) (fun k => fI H5804 q16 k) (fun k => fI s.heap q16 k) := UN.congr (fun j => Wr.neI wH5804 (Or.inl (G_ne gq16 ga0 (by decide)))) b5764
    have b5809 : UN (x1.toInt ≠ 0) (fun k => fI H5804 q24 k) (fun k => fI s.heap q24 k) := UN.congr (fun j => Wr.neI wH5804 (Or.inl (G_ne gq24 ga0 (by decide)))) b5765
    have b5810 : UN (x1.toInt ≠ 0) (fun k => fI H5804 q29 k) (fun k => fI s.heap q29 k) := UN.congr (fun j => Wr.neI wH5804 (Or.inl (G_ne gq29 ga0 (by decide)))) b5766
    have b5811 : UN (x1.toInt ≠ 0) (fun k => fI H5804 q30 k) (fun k => fI s.heap q30 k) := UN.congr (fun j => Wr.neI wH5804 (Or.inl (G_ne gq30 ga0 (by decide)))) b5767
    have b5812 : UN (x1.toInt ≠ 0) (fun k => fI H5804 q31 k) (fun k => fI s.heap q31 k) := UN.congr (fun j => Wr.neI wH5804 (Or.inl (G_ne gq31 ga0 (by decide)))) b5768
    have b5813 : UN (x1.toInt ≠ 0) (fun k => fI H5804 q32 k) (fun k => fI s.heap q32 k) := UN.congr (fun j => Wr.neI wH5804 (Or.inl (G_ne gq32 ga0 (by decide)))) b5769
    have b5814 : UN (x1.toInt ≠ 0) (fun k => fI H5804 q33 k) (fun k => fI s.heap q33 k) := UN.congr (fun j => Wr.neI wH5804 (Or.inl (G_ne gq33 ga0 (by decide)))) b5770
    have b5815 : UN (x1.toInt ≠ 0) (fun k => fI H5804 q64 k) (fun k => fI s.heap q64 k) := UN.congr (fun j => Wr.neI wH5804 (Or.inl (G_ne gq64 ga0 (by decide)))) b5771
    have b5816 : UN (x1.toInt ≠ 0) (fun k => fI H5804 q66 k) (fun k => fI s.heap q66 k) := UN.congr (fun j => Wr.neI wH5804 (Or.inl (G_ne gq66 ga0 (by decide)))) b5772
    have b5817 : UN (x1.toInt ≠ 0) (fun k => fI H5804 q67 k) (fun k => fI s.heap q67 k) := UN.congr (fun j => Wr.neI wH5804 (Or.inl (G_ne gq67 ga0 (by decide)))) b5773
    have b5818 : UN (x1.toInt = 0) (fun k => fI H5804 iq k) (fun k => fI s.heap iq k) := UN.congr (fun j => Wr.neI wH5804 (Or.inl (G_ne giq ga0 (by decide)))) b5802
    have b5819 : x5754 = fI H5804 iq (0) := (p5803).trans (Wr.neI wH5804 (Or.inl (G_ne giq ga0 (by decide)))).symm
    have f5820 : ∀ j : Nat, fI H5804 q64 j = fI s.heap q64 j := fun j => (Wr.neI wH5804 (Or.inl (G_ne gq64 ga0 (by decide)))).trans (f5774 j)
    have f5821 : ∀ j : Nat, fI H5804 q66 j = fI s.heap q66 j := fun j => (Wr.neI wH5804 (Or.inl (G_ne gq66 ga0 (by decide)))).trans (f5775 j)
    have f5822 : ∀ j : Nat, fI H5804 q67 j = fI s.heap q67 j := fun j => (Wr.neI wH5804 (Or.inl (G_ne gq67 ga0 (by decide)))).trans (f5776 j)
    have m5823 := m5756.trans (Wr.neR wH5804 (Or.inr (x_apart hKT hts inX10 tyX10 tyX10_ok nmX10 rfl 73 1 (by decide) (by decide) (by decide)))).symm
    have m5824 := m5778.trans (Wr.neR wH5804 (Or.inr (x_apart hKT hts inX10 tyX10 tyX10_ok nmX10 rfl 4 1 (by decide) (by decide) (by decide)))).symm
    have m5825 := m5779.trans (Wr.neR wH5804 (Or.inr (x_apart hKT hts inX10 tyX10 tyX10_ok nmX10 rfl 10 1 (by decide) (by decide) (by decide)))).symm
    have m5826 := m5780.trans (Wr.neR wH5804 (Or.inr (x_apart hKT hts inX10 tyX10 tyX10_ok nmX10 rfl 16 1 (by decide) (by decide) (by decide)))).symm
    have m5827 := m5781.trans (Wr.neR wH5804 (Or.inr (x_apart hKT hts inX10 tyX10 tyX10_ok nmX10 rfl 24 1 (by decide) (by decide) (by decide)))).symm
    have m5828 := m5782.trans (Wr.neR wH5804 (Or.inr (x_apart hKT hts inX10 tyX10 tyX10_ok nmX10 rfl 27 1 (by decide) (by decide) (by decide)))).symm
    have m5829 := m5783.trans (Wr.neR wH5804 (Or.inr (x_apart hKT hts inX10 tyX10 tyX10_ok nmX10 rfl 29 1 (by decide) (by decide) (by decide)))).symm
    have m5830 := m5784.trans (Wr.neR wH5804 (Or.inr (x_apart hKT hts inX10 tyX10 tyX10_ok nmX10 rfl 30 1 (by decide) (by decide) (by decide)))).symm
    have m5831 := m5785.trans (Wr.neR wH5804 (Or.inr (x_apart hKT hts inX10 tyX10 tyX10_ok nmX10 rfl 31 1 (by decide) (by decide) (by decide)))).symm
    have m5832 := m5786.trans (Wr.neR wH5804 (Or.inr (x_apart hKT hts inX10 tyX10 tyX10_ok nmX10 rfl 32 1 (by decide) (by decide) (by decide)))).symm
    have m5833 := m5787.trans (Wr.neR wH5804 (Or.inr (x_apart hKT hts inX10 tyX10 tyX10_ok nmX10 rfl 33 1 (by decide) (by decide) (by decide)))).symm
    have m5834 := m5788.trans (Wr.neR wH5804 (Or.inr (x_apart hKT hts inX10 tyX10 tyX10_ok nmX10 rfl 50 1 (by decide) (by decide) (by decide)))).symm
    have m5835 := m5789.trans (Wr.neR wH5804 (Or.inr (x_apart hKT hts inX10 tyX10 tyX10_ok nmX10 rfl 64 1 (by decide) (by decide) (by decide)))).symm
    have m5836 := m5790.trans (Wr.neR wH5804 (Or.inr (x_apart hKT hts inX10 tyX10 tyX10_ok nmX10 rfl 66 1 (by decide) (by decide) (by decide)))).symm
    have m5837 := m5791.trans (Wr.neR wH5804 (Or.inr (x_apart hKT hts inX10 tyX10 tyX10_ok nmX10 rfl 67 1 (by decide) (by decide) (by decide)))).symm
    have m5839 := m5793.trans (Wr.neI wH5804 (Or.inr (x_apart hKT hts inX10 tyX10 tyX10_ok nmX10 rfl 2 1 (by decide) (by decide) (by decide)))).symm
    have m5840 := m5794.trans (Wr.neI wH5804 (Or.inr (x_apart hKT hts inX10 tyX10 tyX10_ok nmX10 rfl 3 1 (by decide) (by decide) (by decide)))).symm
    have m5841 := m5795.trans (Wr.neI wH5804 (Or.inr (x_apart hKT hts inX10 tyX10 tyX10_ok nmX10 rfl 59 1 (by decide) (by decide) (by decide)))).symm
    have m5842 := m5796.trans (Wr.neI wH5804 (Or.inr (x_apart hKT hts inX10 tyX10 tyX10_ok nmX10 rfl 62 1 (by decide) (by decide) (by decide)))).symm
    have m5843 := m5797.trans (Wr.neI wH5804 (Or.inr (x_apart hKT hts inX10 tyX10 tyX10_ok nmX10 rfl 65 1 (by decide) (by decide) (by decide)))).symm
    have m5844 := (Wr.neI wH5804 (Or.inr (x_apart hKT hts inX10 tyX10 tyX10_ok nmX10 rfl 0 1 (by decide) (by decide) (by decide)))).trans m5798
    have m5845 := m5799.trans (Wr.neI wH5804 (Or.inr (x_apart hKT hts inX10 tyX10 tyX10_ok nmX10 rfl 71 1 (by decide) (by decide) (by decide)))).symm
    have m5846 := (Wr.neI wH5804 (Or.inr (x_apart hKT hts inX10 tyX10 tyX10_ok nmX10 rfl 70 1 (by decide) (by decide) (by decide)))).trans m5800
    have m5847 := ex5755.trans (Wr.neI wH5804 (Or.inr (x_apart hKT hts inX10 tyX10 tyX10_ok nmX10 rfl 72 1 (by decide) (by decide) (by decide)))).symm
    have m5848 := Wr.I wH5804
    have m5848 := m5848.symm
    clear b5763 b5764 b5765 b5766 b5767 b5768 b5769 b5770 b5771 b5772 b5773 b5802 ex5755 f5774 f5775 f5776 g5757 hTH5753 m5756 m5778 m5779 m5780 m5781 m5782 m5783 m5784 m5785 m5786 m5787 m5788 m5789 m5790 m5791 m5792 m5793 m5794 m5795 m5796 m5797 m5798 m5799 m5800 mf5801 p5803
    refine lv_aload_n hx hb dX10_image_45 rfl (lv_at hl 0 rfl) ?_
    refine lv_aload_n hx hb dX10_image_46 rfl (lv_at hl 0 rfl) ?_
    refine lv_aload_n hx hb dX10_image_47 rfl (lv_at hl 0 rfl) ?_
    refine x_gi C hTH5804 (ci := 10) (k := 2) rfl inX10 (by decide) wF_X10_322 ga0 rg_112 rfl dX10_image_48 (fun x5849 ex5849 bx5849 => ?_)
    have ux5849 : s2 = x5849 := (m5839).trans ex5849.symm
    subst ux5849
    refine x_V (As := [.int s2]) (rest := [.ref a0]) C (a_X10_kept l K G H5804 (s2) (x5755) (x1) hTH5804 ga0 giq m5823 m5847 m5845 g5806 (by and_intros <;> first | assumption | omega)) yo_X10_kept wM_X10_473 ⟨⟨by decide, by decide⟩, by decide, by decide⟩ (x_rv C hTH5804 (ci := 10) rfl ga0 rg_112) rfl hl.1 rfl (Nat.le_of_ble_eq_true rfl) dX10_image_51 hSH5804 (AE_sub (fun _ _ => rfl) (by decide) hSH5804.1) (fun vH5850 H5850 locsH5850 pH5850 zH5850 kH5850 hSH5850 => ?_)
    obtain ⟨x5851, x5852, hvH5850, ex5852, hrH5850, m5853, g5854, mf5855, m5856, m5857, m5858, m5859, hTH5850⟩ := pH5850
    subst hvH5850
    clear zH5850
    replace m5853 := EQN.mk m5853
    have b5860 : UN (x1.toInt ≠ 0) (fun k => fI H5850 q4 k) (fun k => fI s.heap q4 k) := UN.congr (fun j => fI_kept (x_lt hTH5804 kH5850 gq4 (by decide))) b5807
    have b5861 : UN (x1.toInt ≠ 0) (fun k => fI H5850 q16 k) (fun k => fI s.heap q16 k) := UN.congr (fun j => fI_kept (x_lt hTH5804 kH5850 gq16 (by decide))) b5808
    have b5862 : UN (x1.toInt ≠ 0) (fun k => fI H5850 q24 k) (fun k => fI s.heap q24 k) := UN.congr (fun j => fI_kept (x_lt hTH5804 kH5850 gq24 (by decide))) b5809
    have b5863 : UN (x1.toInt ≠ 0) (fun k => fI H5850 q29 k) (fun k => fI s.heap q29 k) := UN.congr (fun j => fI_kept (x_lt hTH5804 kH5850 gq29 (by decide))) b5810
    have b5864 : UN (x1.toInt ≠ 0) (fun k => fI H5850 q30 k) (fun k => fI s.heap q30 k) := UN.congr (fun j => fI_kept (x_lt hTH5804 kH5850 gq30 (by decide))) b5811
    have b5865 : UN (x1.toInt ≠ 0) (fun k => fI H5850 q31 k) (fun k => fI s.heap q31 k) := UN.congr (fun j => fI_kept (x_lt hTH5804 kH5850 gq31 (by decide))) b5812
    have b5866 : UN (x1.toInt ≠ 0) (fun k => fI H5850 q32 k) (fun k => fI s.heap q32 k) := UN.congr (fun j => fI_kept (x_lt hTH5804 kH5850 gq32 (by decide))) b5813
    have b5867 : UN (x1.toInt ≠ 0) (fun k => fI H5850 q33 k) (fun k => fI s.heap q33 k) := UN.congr (fun j => fI_kept (x_lt hTH5804 kH5850 gq33 (by decide))) b5814
    have b5868 : UN (x1.toInt ≠ 0) (fun k => fI H5850 q64 k) (fun k => fI s.heap q64 k) := UN.congr (fun j => fI_kept (x_lt hTH5804 kH5850 gq64 (by decide))) b5815
    have b5869 : UN (x1.toInt ≠ 0) (fun k => fI H5850 q66 k) (fun k => fI s.heap q66 k) := UN.congr (fun j => fI_kept (x_lt hTH5804 kH5850 gq66 (by decide))) b5816
    have b5870 : UN (x1.toInt ≠ 0) (fun k => fI H5850 q67 k) (fun k => fI s.heap q67 k) := UN.congr (fun j => fI_kept (x_lt hTH5804 kH5850 gq67 (by decide))) b5817
    have f5871 : ∀ j : Nat, fI H5850 q64 j = fI s.heap q64 j := fun j => (fI_kept (x_lt hTH5804 kH5850 gq64 (by decide))).trans (f5820 j)
    have f5872 : ∀ j : Nat, fI H5850 q66 j = fI s.heap q66 j := fun j => (fI_kept (x_lt hTH5804 kH5850 gq66 (by decide))).trans (f5821 j)
    have f5873 : ∀ j : Nat, fI H5850 q67 j = fI s.heap q67 j := fun j => (fI_kept (x_lt hTH5804 kH5850 gq67 (by decide))).trans (f5822 j)
    have m5874 := (m5823).trans (MF.r mf5855 (k := 73) (by decide) (by decide)).symm
    have m5875 := (m5824).trans (MF.r mf5855 (k := 4) (by decide) (by decide)).symm
    have m5876 := (m5825).trans (MF.r mf5855 (k := 10) (by decide) (by decide)).symm
    have m5877 := (m5826).trans (MF.r mf5855 (k := 16) (by decide) (by decide)).symm
    have m5878 := (m5827).trans (MF.r mf5855 (k := 24) (by decide) (by decide)).symm
    have m5879 := (m5828).trans (MF.r mf5855 (k := 27) (by decide) (by decide)).symm
    have m5880 := (m5829).trans (MF.r mf5855 (k := 29) (by decide) (by decide)).symm
    have m5881 := (m5830).trans (MF.r mf5855 (k := 30) (by decide) (by decide)).symm
    have m5882 := (m5831).trans (MF.r mf5855 (k := 31) (by decide) (by decide)).symm
    have m5883 := (m5832).trans (MF.r mf5855 (k := 32) (by decide) (by decide)).symm
    have m5884 := (m5833).trans (MF.r mf5855 (k := 33) (by decide) (by decide)).symm
    have m5885 := (m5834).trans (MF.r mf5855 (k := 50) (by decide) (by decide)).symm
    have m5886 := (m5835).trans (MF.r mf5855 (k := 64) (by decide) (by decide)).symm
    have m5887 := (m5836).trans (MF.r mf5855 (k := 66) (by decide) (by decide)).symm
    have m5888 := (m5837).trans (MF.r mf5855 (k := 67) (by decide) (by decide)).symm
    have m5889 := (m5839).trans (MF.i mf5855 (k := 2) (by decide) (by decide)).symm
    have m5890 := (m5840).trans (MF.i mf5855 (k := 3) (by decide) (by decide)).symm
    have m5891 := (m5841).trans (MF.i mf5855 (k := 59) (by decide) (by decide)).symm
    have m5892 := (m5842).trans (MF.i mf5855 (k := 62) (by decide) (by decide)).symm
    have m5893 := (m5843).trans (MF.i mf5855 (k := 65) (by decide) (by decide)).symm
    have m5894 := (MF.i mf5855 (k := 0) (by decide) (by decide)).trans m5844
    have m5895 := (m5845).trans (MF.i mf5855 (k := 71) (by decide) (by decide)).symm
    have m5896 := (MF.i mf5855 (k := 70) (by decide) (by decide)).trans m5846
    have m5897 := (m5848).trans (MF.i mf5855 (k := 1) (by decide) (by decide)).symm
    have mf5898 : MF K s.heap H5850 a0 [0, 1, 2, 3, 59, 62, 65, 70, 71, 72] := MF.trans mf5805 mf5855 (by decide)
    have bx5852 := ty_fi (x := x5852) (k := 72) ex5852 hTH5850 ga0 rg_112 rfl
    have ce_x5755 := i_cl (x := x5755) (by omega)
    have b5899 : UN (x1.toInt = 0) (fun k => fI H5850 iq k) (fun k => fI s.heap iq k) := UN.tr m5859 b5818
    have b5900 : x5754 = fI H5850 iq (0) := (b5819).trans (m5858 _ (by omega)).symm
    clear b5807 b5808 b5809 b5810 b5811 b5812 b5813 b5814 b5815 b5816 b5817 b5818 b5819 m5823 m5824 m5825 m5826 m5827 m5828 m5829 m5830 m5831 m5832 m5833 m5834 m5835 m5836 m5837 m5839 m5840 m5841 m5842 m5843 m5844 m5845 m5846 m5847 m5848
    clear m5858 m5859
    have bx5851 : 0 ≤ x5851.toInt ∧ x5851.toInt ≤ 1 := kr (fun h0 => by have hiw := hIW; exact kr0 (w := fun k => fI H5850 iq k) m5856 (p := 1) (by omega) (b5899 h0) (hiw.1.2.1)) m5857 (by omega)
    have p5901 : x5851 = fI H5850 iq (1) := by have h := m5856; rw [show x5755.toNatClampNeg = 1 by omega] at h; exact h
    refine W.eq (g2 := F0 m 54 ls [.int x5851, .ref a0]) rfl ?_
    refine x_put C hTH5850 hSH5850 (ci := 10) (k := 2) (v := .int x5851) (ty0 := tyX10) rfl inX10 tyX10_ok nmX10 (by decide) rfl wF_X10_322 ga0 rg_112 rfl rfl (okI (by have := i_rng x5851; omega) (by have := i_rng x5851; omega)) rfl rfl (AE_in ga0 (by decide)) dX10_image_54 (fun H5902 locsH5902 hTH5902 hSH5902 wH5902 => ?_)
    have mf5903 : MF K s.heap H5902 a0 [0, 1, 2, 3, 59, 62, 65, 70, 71, 72] := MF.fld hap wH5902 (by decide) (by decide) mf5898
    have g5904 : WD (avw K H5902 a0) := WD.congr (fun k hk j => av_fld hTH5850 ga0 hap wH5902 (by decide) (WD_ok 112 (by decide) k hk) (WD_ne 2 (by decide) k hk)) g5854
    have b5905 : UN (x1.toInt ≠ 0) (fun k => fI H5902 q4 k) (fun k => fI s.heap q4 k) := UN.congr (fun j => Wr.neI wH5902 (Or.inl (G_ne gq4 ga0 (by decide)))) b5860
    have b5906 : UN (x1.toInt ≠ 0) (fun k => fI H5902 q16 k) (fun k => fI s.heap q16 k) := UN.congr (fun j => Wr.neI wH5902 (Or.inl (G_ne gq16 ga0 (by decide)))) b5861
    have b5907 : UN (x1.toInt ≠ 0) (fun k => fI H5902 q24 k) (fun k => fI s.heap q24 k) := UN.congr (fun j => Wr.neI wH5902 (Or.inl (G_ne gq24 ga0 (by decide)))) b5862
    have b5908 : UN (x1.toInt ≠ 0) (fun k => fI H5902 q29 k) (fun k => fI s.heap q29 k) := UN.congr (fun j => Wr.neI wH5902 (Or.inl (G_ne gq29 ga0 (by decide)))) b5863
    have b5909 : UN (x1.toInt ≠ 0) (fun k => fI H5902 q30 k) (fun k => fI s.heap q30 k) := UN.congr (fun j => Wr.neI wH5902 (Or.inl (G_ne gq30 ga0 (by decide)))) b5864
    have b5910 : UN (x1.toInt ≠ 0) (fun k => fI H5902 q31 k) (fun k => fI s.heap q31 k) := UN.congr (fun j => Wr.neI wH5902 (Or.inl (G_ne gq31 ga0 (by decide)))) b5865
    have b5911 : UN (x1.toInt ≠ 0) (fun k => fI H5902 q32 k) (fun k => fI s.heap q32 k) := UN.congr (fun j => Wr.neI wH5902 (Or.inl (G_ne gq32 ga0 (by decide)))) b5866
    have b5912 : UN (x1.toInt ≠ 0) (fun k => fI H5902 q33 k) (fun k => fI s.heap q33 k) := UN.congr (fun j => Wr.neI wH5902 (Or.inl (G_ne gq33 ga0 (by decide)))) b5867
    have b5913 : UN (x1.toInt ≠ 0) (fun k => fI H5902 q64 k) (fun k => fI s.heap q64 k) := UN.congr (fun j => Wr.neI wH5902 (Or.inl (G_ne gq64 ga0 (by decide)))) b5868
    have b5914 : UN (x1.toInt ≠ 0) (fun k => fI H5902 q66 k) (fun k => fI s.heap q66 k) := UN.congr (fun j => Wr.neI wH5902 (Or.inl (G_ne gq66 ga0 (by decide)))) b5869
    have b5915 : UN (x1.toInt ≠ 0) (fun k => fI H5902 q67 k) (fun k => fI s.heap q67 k) := UN.congr (fun j => Wr.neI wH5902 (Or.inl (G_ne gq67 ga0 (by decide)))) b5870
    have b5916 : UN (x1.toInt = 0) (fun k => fI H5902 iq k) (fun k => fI s.heap iq k) := UN.congr (fun j => Wr.neI wH5902 (Or.inl (G_ne giq ga0 (by decide)))) b5899
    have b5917 : x5754 = fI H5902 iq (0) := (b5900).trans (Wr.neI wH5902 (Or.inl (G_ne giq ga0 (by decide)))).symm
    have b5918 : x5851 = fI H5902 iq (1) := (p5901).trans (Wr.neI wH5902 (Or.inl (G_ne giq ga0 (by decide)))).symm
    have f5919 : ∀ j : Nat, fI H5902 q64 j = fI s.heap q64 j := fun j => (Wr.neI wH5902 (Or.inl (G_ne gq64 ga0 (by decide)))).trans (f5871 j)
    have f5920 : ∀ j : Nat, fI H5902 q66 j = fI s.heap q66 j := fun j => (Wr.neI wH5902 (Or.inl (G_ne gq66 ga0 (by decide)))).trans (f5872 j)
    have f5921 : ∀ j : Nat, fI H5902 q67 j = fI s.heap q67 j := fun j => (Wr.neI wH5902 (Or.inl (G_ne gq67 ga0 (by decide)))).trans (f5873 j)
    have m5922 := m5853.trans (Wr.neR wH5902 (Or.inr (x_apart hKT hts inX10 tyX10 tyX10_ok nmX10 rfl 73 2 (by decide) (by decide) (by decide)))).symm
    have m5923 := m5875.trans (Wr.neR wH5902 (Or.inr (x_apart hKT hts inX10 tyX10 tyX10_ok nmX10 rfl 4 2 (by decide) (by decide) (by decide)))).symm
    have m5924 := m5876.trans (Wr.neR wH5902 (Or.inr (x_apart hKT hts inX10 tyX10 tyX10_ok nmX10 rfl 10 2 (by decide) (by decide) (by decide)))).symm
    have m5925 := m5877.trans (Wr.neR wH5902 (Or.inr (x_apart hKT hts inX10 tyX10 tyX10_ok nmX10 rfl 16 2 (by decide) (by decide) (by decide)))).symm
    have m5926 := m5878.trans (Wr.neR wH5902 (Or.inr (x_apart hKT hts inX10 tyX10 tyX10_ok nmX10 rfl 24 2 (by decide) (by decide) (by decide)))).symm
    have m5927 := m5879.trans (Wr.neR wH5902 (Or.inr (x_apart hKT hts inX10 tyX10 tyX10_ok nmX10 rfl 27 2 (by decide) (by decide) (by decide)))).symm
    have m5928 := m5880.trans (Wr.neR wH5902 (Or.inr (x_apart hKT hts inX10 tyX10 tyX10_ok nmX10 rfl 29 2 (by decide) (by decide) (by decide)))).symm
    have m5929 := m5881.trans (Wr.neR wH5902 (Or.inr (x_apart hKT hts inX10 tyX10 tyX10_ok nmX10 rfl 30 2 (by decide) (by decide) (by decide)))).symm
    have m5930 := m5882.trans (Wr.neR wH5902 (Or.inr (x_apart hKT hts inX10 tyX10 tyX10_ok nmX10 rfl 31 2 (by decide) (by decide) (by decide)))).symm
    have m5931 := m5883.trans (Wr.neR wH5902 (Or.inr (x_apart hKT hts inX10 tyX10 tyX10_ok nmX10 rfl 32 2 (by decide) (by decide) (by decide)))).symm
    have m5932 := m5884.trans (Wr.neR wH5902 (Or.inr (x_apart hKT hts inX10 tyX10 tyX10_ok nmX10 rfl 33 2 (by decide) (by decide) (by decide)))).symm
    have m5933 := m5885.trans (Wr.neR wH5902 (Or.inr (x_apart hKT hts inX10 tyX10 tyX10_ok nmX10 rfl 50 2 (by decide) (by decide) (by decide)))).symm
    have m5934 := m5886.trans (Wr.neR wH5902 (Or.inr (x_apart hKT hts inX10 tyX10 tyX10_ok nmX10 rfl 64 2 (by decide) (by decide) (by decide)))).symm
    have m5935 := m5887.trans (Wr.neR wH5902 (Or.inr (x_apart hKT hts inX10 tyX10 tyX10_ok nmX10 rfl 66 2 (by decide) (by decide) (by decide)))).symm
    have m5936 := m5888.trans (Wr.neR wH5902 (Or.inr (x_apart hKT hts inX10 tyX10 tyX10_ok nmX10 rfl 67 2 (by decide) (by decide) (by decide)))).symm
    have m5938 := m5890.trans (Wr.neI wH5902 (Or.inr (x_apart hKT hts inX10 tyX10 tyX10_ok nmX10 rfl 3 2 (by decide) (by decide) (by decide)))).symm
    have m5939 := m5891.trans (Wr.neI wH5902 (Or.inr (x_apart hKT hts inX10 tyX10 tyX10_ok nmX10 rfl 59 2 (by decide) (by decide) (by decide)))).symm
    have m5940 := m5892.trans (Wr.neI wH5902 (Or.inr (x_apart hKT hts inX10 tyX10 tyX10_ok nmX10 rfl 62 2 (by decide) (by decide) (by decide)))).symm
    have m5941 := m5893.trans (Wr.neI wH5902 (Or.inr (x_apart hKT hts inX10 tyX10 tyX10_ok nmX10 rfl 65 2 (by decide) (by decide) (by decide)))).symm
    have m5942 := (Wr.neI wH5902 (Or.inr (x_apart hKT hts inX10 tyX10 tyX10_ok nmX10 rfl 0 2 (by decide) (by decide) (by decide)))).trans m5894
    have m5943 := m5895.trans (Wr.neI wH5902 (Or.inr (x_apart hKT hts inX10 tyX10 tyX10_ok nmX10 rfl 71 2 (by decide) (by decide) (by decide)))).symm
    have m5944 := (Wr.neI wH5902 (Or.inr (x_apart hKT hts inX10 tyX10 tyX10_ok nmX10 rfl 70 2 (by decide) (by decide) (by decide)))).trans m5896
    have m5945 := m5897.trans (Wr.neI wH5902 (Or.inr (x_apart hKT hts inX10 tyX10 tyX10_ok nmX10 rfl 1 2 (by decide) (by decide) (by decide)))).symm
    have m5946 := ex5852.trans (Wr.neI wH5902 (Or.inr (x_apart hKT hts inX10 tyX10 tyX10_ok nmX10 rfl 72 2 (by decide) (by decide) (by decide)))).symm
    have m5947 := Wr.I wH5902
    have m5947 := m5947.symm
    clear b5860 b5861 b5862 b5863 b5864 b5865 b5866 b5867 b5868 b5869 b5870 b5899 b5900 ex5852 f5871 f5872 f5873 g5854 hTH5850 m5853 m5875 m5876 m5877 m5878 m5879 m5880 m5881 m5882 m5883 m5884 m5885 m5886 m5887 m5888 m5889 m5890 m5891 m5892 m5893 m5894 m5895 m5896 m5897 mf5898 p5901
    refine lv_aload_n hx hb dX10_image_57 rfl (lv_at hl 0 rfl) ?_
    refine lv_aload_n hx hb dX10_image_58 rfl (lv_at hl 0 rfl) ?_
    refine lv_aload_n hx hb dX10_image_59 rfl (lv_at hl 0 rfl) ?_
    refine x_gi C hTH5902 (ci := 10) (k := 3) rfl inX10 (by decide) wF_X10_7 ga0 rg_112 rfl dX10_image_60 (fun x5948 ex5948 bx5948 => ?_)
    have ux5948 : s3 = x5948 := (m5938).trans ex5948.symm
    subst ux5948
    refine x_V (As := [.int s3]) (rest := [.ref a0]) C (a_X10_kept l K G H5902 (s3) (x5852) (x1) hTH5902 ga0 giq m5922 m5946 m5943 g5904 (by and_intros <;> first | assumption | omega)) yo_X10_kept wM_X10_473 ⟨⟨by decide, by decide⟩, by decide, by decide⟩ (x_rv C hTH5902 (ci := 10) rfl ga0 rg_112) rfl hl.1 rfl (Nat.le_of_ble_eq_true rfl) dX10_image_63 hSH5902 (AE_sub (fun _ _ => rfl) (by decide) hSH5902.1) (fun vH5949 H5949 locsH5949 pH5949 zH5949 kH5949 hSH5949 => ?_)
    obtain ⟨x5950, x5951, hvH5949, ex5951, hrH5949, m5952, g5953, mf5954, m5955, m5956, m5957, m5958, hTH5949⟩ := pH5949
    subst hvH5949
    clear zH5949
    replace m5952 := EQN.mk m5952
    have b5959 : UN (x1.toInt ≠ 0) (fun k => fI H5949 q4 k) (fun k => fI s.heap q4 k) := UN.congr (fun j => fI_kept (x_lt hTH5902 kH5949 gq4 (by decide))) b5905
    have b5960 : UN (x1.toInt ≠ 0) (fun k => fI H5949 q16 k) (fun k => fI s.heap q16 k) := UN.congr (fun j => fI_kept (x_lt hTH5902 kH5949 gq16 (by decide))) b5906
    have b5961 : UN (x1.toInt ≠ 0) (fun k => fI H5949 q24 k) (fun k => fI s.heap q24 k) := UN.congr (fun j => fI_kept (x_lt hTH5902 kH5949 gq24 (by decide))) b5907
    have b5962 : UN (x1.toInt ≠ 0) (fun k => fI H5949 q29 k) (fun k => fI s.heap q29 k) := UN.congr (fun j => fI_kept (x_lt hTH5902 kH5949 gq29 (by decide))) b5908
    have b5963 : UN (x1.toInt ≠ 0) (fun k => fI H5949 q30 k) (fun k => fI s.heap q30 k) := UN.congr (fun j => fI_kept (x_lt hTH5902 kH5949 gq30 (by decide))) b5909
    have b5964 : UN (x1.toInt ≠ 0) (fun k => fI H5949 q31 k) (fun k => fI s.heap q31 k) := UN.congr (fun j => fI_kept (x_lt hTH5902 kH5949 gq31 (by decide))) b5910
    have b5965 : UN (x1.toInt ≠ 0) (fun k => fI H5949 q32 k) (fun k => fI s.heap q32 k) := UN.congr (fun j => fI_kept (x_lt hTH5902 kH5949 gq32 (by decide))) b5911
    have b5966 : UN (x1.toInt ≠ 0) (fun k => fI H5949 q33 k) (fun k => fI s.heap q33 k) := UN.congr (fun j => fI_kept (x_lt hTH5902 kH5949 gq33 (by decide))) b5912
    have b5967 : UN (x1.toInt ≠ 0) (fun k => fI H5949 q64 k) (fun k => fI s.heap q64 k) := UN.congr (fun j => fI_kept (x_lt hTH5902 kH5949 gq64 (by decide))) b5913
    have b5968 : UN (x1.toInt ≠ 0) (fun k => fI H5949 q66 k) (fun k => fI s.heap q66 k) := UN.congr (fun j => fI_kept (x_lt hTH5902 kH5949 gq66 (by decide))) b5914
    have b5969 : UN (x1.toInt ≠ 0) (fun k => fI H5949 q67 k) (fun k => fI s.heap q67 k) := UN.congr (fun j => fI_kept (x_lt hTH5902 kH5949 gq67 (by decide))) b5915
    have f5970 : ∀ j : Nat, fI H5949 q64 j = fI s.heap q64 j := fun j => (fI_kept (x_lt hTH5902 kH5949 gq64 (by decide))).trans (f5919 j)
    have f5971 : ∀ j : Nat, fI H5949 q66 j = fI s.heap q66 j := fun j => (fI_kept (x_lt hTH5902 kH5949 gq66 (by decide))).trans (f5920 j)
    have f5972 : ∀ j : Nat, fI H5949 q67 j = fI s.heap q67 j := fun j => (fI_kept (x_lt hTH5902 kH5949 gq67 (by decide))).trans (f5921 j)
    have m5973 := (m5922).trans (MF.r mf5954 (k := 73) (by decide) (by decide)).symm
    have m5974 := (m5923).trans (MF.r mf5954 (k := 4) (by decide) (by decide)).symm
    have m5975 := (m5924).trans (MF.r mf5954 (k := 10) (by decide) (by decide)).symm
    have m5976 := (m5925).trans (MF.r mf5954 (k := 16) (by decide) (by decide)).symm
    have m5977 := (m5926).trans (MF.r mf5954 (k := 24) (by decide) (by decide)).symm
    have m5978 := (m5927).trans (MF.r mf5954 (k := 27) (by decide) (by decide)).symm
    have m5979 := (m5928).trans (MF.r mf5954 (k := 29) (by decide) (by decide)).symm
    have m5980 := (m5929).trans (MF.r mf5954 (k := 30) (by decide) (by decide)).symm
    have m5981 := (m5930).trans (MF.r mf5954 (k := 31) (by decide) (by decide)).symm
    have m5982 := (m5931).trans (MF.r mf5954 (k := 32) (by decide) (by decide)).symm
    have m5983 := (m5932).trans (MF.r mf5954 (k := 33) (by decide) (by decide)).symm
    have m5984 := (m5933).trans (MF.r mf5954 (k := 50) (by decide) (by decide)).symm
    have m5985 := (m5934).trans (MF.r mf5954 (k := 64) (by decide) (by decide)).symm
    have m5986 := (m5935).trans (MF.r mf5954 (k := 66) (by decide) (by decide)).symm
    have m5987 := (m5936).trans (MF.r mf5954 (k := 67) (by decide) (by decide)).symm
    have m5988 := (m5938).trans (MF.i mf5954 (k := 3) (by decide) (by decide)).symm
    have m5989 := (m5939).trans (MF.i mf5954 (k := 59) (by decide) (by decide)).symm
    have m5990 := (m5940).trans (MF.i mf5954 (k := 62) (by decide) (by decide)).symm
    have m5991 := (m5941).trans (MF.i mf5954 (k := 65) (by decide) (by decide)).symm
    have m5992 := (MF.i mf5954 (k := 0) (by decide) (by decide)).trans m5942
    have m5993 := (m5943).trans (MF.i mf5954 (k := 71) (by decide) (by decide)).symm
    have m5994 := (MF.i mf5954 (k := 70) (by decide) (by decide)).trans m5944
    have m5995 := (m5945).trans (MF.i mf5954 (k := 1) (by decide) (by decide)).symm
    have m5996 := (m5947).trans (MF.i mf5954 (k := 2) (by decide) (by decide)).symm
    have mf5997 : MF K s.heap H5949 a0 [0, 1, 2, 3, 59, 62, 65, 70, 71, 72] := MF.trans mf5903 mf5954 (by decide)
    have bx5951 := ty_fi (x := x5951) (k := 72) ex5951 hTH5949 ga0 rg_112 rfl
    have ce_x5852 := i_cl (x := x5852) (by omega)
    have b5998 : UN (x1.toInt = 0) (fun k => fI H5949 iq k) (fun k => fI s.heap iq k) := UN.tr m5958 b5916
    have b5999 : x5754 = fI H5949 iq (0) := (b5917).trans (m5957 _ (by omega)).symm
    have b6000 : x5851 = fI H5949 iq (1) := (b5918).trans (m5957 _ (by omega)).symm
    clear b5905 b5906 b5907 b5908 b5909 b5910 b5911 b5912 b5913 b5914 b5915 b5916 b5917 b5918 m5922 m5923 m5924 m5925 m5926 m5927 m5928 m5929 m5930 m5931 m5932 m5933 m5934 m5935 m5936 m5938 m5939 m5940 m5941 m5942 m5943 m5944 m5945 m5946 m5947
    clear m5957 m5958
    have p6001 : x5950 = fI H5949 iq (2) := by have h := m5955; rw [show x5852.toNatClampNeg = 2 by omega] at h; exact h
    refine W.eq (g2 := F0 m 66 ls [.int x5950, .ref a0]) rfl ?_
    refine x_put C hTH5949 hSH5949 (ci := 10) (k := 3) (v := .int x5950) (ty0 := tyX10) rfl inX10 tyX10_ok nmX10 (by decide) rfl wF_X10_7 ga0 rg_112 rfl rfl (okI (by have := i_rng x5950; omega) (by have := i_rng x5950; omega)) rfl rfl (AE_in ga0 (by decide)) dX10_image_66 (fun H6002 locsH6002 hTH6002 hSH6002 wH6002 => ?_)
    have mf6003 : MF K s.heap H6002 a0 [0, 1, 2, 3, 59, 62, 65, 70, 71, 72] := MF.fld hap wH6002 (by decide) (by decide) mf5997
    have g6004 : WD (avw K H6002 a0) := WD.congr (fun k hk j => av_fld hTH5949 ga0 hap wH6002 (by decide) (WD_ok 112 (by decide) k hk) (WD_ne 3 (by decide) k hk)) g5953
    have b6005 : UN (x1.toInt ≠ 0) (fun k => fI H6002 q4 k) (fun k => fI s.heap q4 k) := UN.congr (fun j => Wr.neI wH6002 (Or.inl (G_ne gq4 ga0 (by decide)))) b5959
    have b6006 : UN (x1.toInt ≠ 0) (fun k => fI H6002 q16 k) (fun k => fI s.heap q16 k) := UN.congr (fun j => Wr.neI wH6002 (Or.inl (G_ne gq16 ga0 (by decide)))) b5960
    have b6007 : UN (x1.toInt ≠ 0) (fun k => fI H6002 q24 k) (fun k => fI s.heap q24 k) := UN.congr (fun j => Wr.neI wH6002 (Or.inl (G_ne gq24 ga0 (by decide)))) b5961
    have b6008 : UN (x1.toInt ≠ 0) (fun k => fI H6002 q29 k) (fun k => fI s.heap q29 k) := UN.congr (fun j => Wr.neI wH6002 (Or.inl (G_ne gq29 ga0 (by decide)))) b5962
    have b6009 : UN (x1.toInt ≠ 0) (fun k => fI H6002 q30 k) (fun k => fI s.heap q30 k) := UN.congr (fun j => Wr.neI wH6002 (Or.inl (G_ne gq30 ga0 (by decide)))) b5963
    have b6010 : UN (x1.toInt ≠ 0) (fun k => fI H6002 q31 k) (fun k => fI s.heap q31 k) := UN.congr (fun j => Wr.neI wH6002 (Or.inl (G_ne gq31 ga0 (by decide)))) b5964
    have b6011 : UN (x1.toInt ≠ 0) (fun k => fI H6002 q32 k) (fun k => fI s.heap q32 k) := UN.congr (fun j => Wr.neI wH6002 (Or.inl (G_ne gq32 ga0 (by decide)))) b5965
    have b6012 : UN (x1.toInt ≠ 0) (fun k => fI H6002 q33 k) (fun k => fI s.heap q33 k) := UN.congr (fun j => Wr.neI wH6002 (Or.inl (G_ne gq33 ga0 (by decide)))) b5966
    have b6013 : UN (x1.toInt ≠ 0) (fun k => fI H6002 q64 k) (fun k => fI s.heap q64 k) := UN.congr (fun j => Wr.neI wH6002 (Or.inl (G_ne gq64 ga0 (by decide)))) b5967
    have b6014 : UN (x1.toInt ≠ 0) (fun k => fI H6002 q66 k) (fun k => fI s.heap q66 k) := UN.congr (fun j => Wr.neI wH6002 (Or.inl (G_ne gq66 ga0 (by decide)))) b5968
    have b6015 : UN (x1.toInt ≠ 0) (fun k => fI H6002 q67 k) (fun k => fI s.heap q67 k) := UN.congr (fun j => Wr.neI wH6002 (Or.inl (G_ne gq67 ga0 (by decide)))) b5969
    have b6016 : UN (x1.toInt = 0) (fun k => fI H6002 iq k) (fun k => fI s.heap iq k) := UN.congr (fun j => Wr.neI wH6002 (Or.inl (G_ne giq ga0 (by decide)))) b5998
    have b6017 : x5754 = fI H6002 iq (0) := (b5999).trans (Wr.neI wH6002 (Or.inl (G_ne giq ga0 (by decide)))).symm
    have b6018 : x5851 = fI H6002 iq (1) := (b6000).trans (Wr.neI wH6002 (Or.inl (G_ne giq ga0 (by decide)))).symm
    have b6019 : x5950 = fI H6002 iq (2) := (p6001).trans (Wr.neI wH6002 (Or.inl (G_ne giq ga0 (by decide)))).symm
    have f6020 : ∀ j : Nat, fI H6002 q64 j = fI s.heap q64 j := fun j => (Wr.neI wH6002 (Or.inl (G_ne gq64 ga0 (by decide)))).trans (f5970 j)
    have f6021 : ∀ j : Nat, fI H6002 q66 j = fI s.heap q66 j := fun j => (Wr.neI wH6002 (Or.inl (G_ne gq66 ga0 (by decide)))).trans (f5971 j)
    have f6022 : ∀ j : Nat, fI H6002 q67 j = fI s.heap q67 j := fun j => (Wr.neI wH6002 (Or.inl (G_ne gq67 ga0 (by decide)))).trans (f5972 j)
    have m6023 := m5952.trans (Wr.neR wH6002 (Or.inr (x_apart hKT hts inX10 tyX10 tyX10_ok nmX10 rfl 73 3 (by decide) (by decide) (by decide)))).symm
    have m6024 := m5974.trans (Wr.neR wH6002 (Or.inr (x_apart hKT hts inX10 tyX10 tyX10_ok nmX10 rfl 4 3 (by decide) (by decide) (by decide)))).symm
    have m6025 := m5975.trans (Wr.neR wH6002 (Or.inr (x_apart hKT hts inX10 tyX10 tyX10_ok nmX10 rfl 10 3 (by decide) (by decide) (by decide)))).symm
    have m6026 := m5976.trans (Wr.neR wH6002 (Or.inr (x_apart hKT hts inX10 tyX10 tyX10_ok nmX10 rfl 16 3 (by decide) (by decide) (by decide)))).symm
    have m6027 := m5977.trans (Wr.neR wH6002 (Or.inr (x_apart hKT hts inX10 tyX10 tyX10_ok nmX10 rfl 24 3 (by decide) (by decide) (by decide)))).symm
    have m6028 := m5978.trans (Wr.neR wH6002 (Or.inr (x_apart hKT hts inX10 tyX10 tyX10_ok nmX10 rfl 27 3 (by decide) (by decide) (by decide)))).symm
    have m6029 := m5979.trans (Wr.neR wH6002 (Or.inr (x_apart hKT hts inX10 tyX10 tyX10_ok nmX10 rfl 29 3 (by decide) (by decide) (by decide)))).symm
    have m6030 := m5980.trans (Wr.neR wH6002 (Or.inr (x_apart hKT hts inX10 tyX10 tyX10_ok nmX10 rfl 30 3 (by decide) (by decide) (by decide)))).symm
    have m6031 := m5981.trans (Wr.neR wH6002 (Or.inr (x_apart hKT hts inX10 tyX10 tyX10_ok nmX10 rfl 31 3 (by decide) (by decide) (by decide)))).symm
    have m6032 := m5982.trans (Wr.neR wH6002 (Or.inr (x_apart hKT hts inX10 tyX10 tyX10_ok nmX10 rfl 32 3 (by decide) (by decide) (by decide)))).symm
    have m6033 := m5983.trans (Wr.neR wH6002 (Or.inr (x_apart hKT hts inX10 tyX10 tyX10_ok nmX10 rfl 33 3 (by decide) (by decide) (by decide)))).symm
    have m6034 := m5984.trans (Wr.neR wH6002 (Or.inr (x_apart hKT hts inX10 tyX10 tyX10_ok nmX10 rfl 50 3 (by decide) (by decide) (by decide)))).symm
    have m6035 := m5985.trans (Wr.neR wH6002 (Or.inr (x_apart hKT hts inX10 tyX10 tyX10_ok nmX10 rfl 64 3 (by decide) (by decide) (by decide)))).symm
    have m6036 := m5986.trans (Wr.neR wH6002 (Or.inr (x_apart hKT hts inX10 tyX10 tyX10_ok nmX10 rfl 66 3 (by decide) (by decide) (by decide)))).symm
    have m6037 := m5987.trans (Wr.neR wH6002 (Or.inr (x_apart hKT hts inX10 tyX10 tyX10_ok nmX10 rfl 67 3 (by decide) (by decide) (by decide)))).symm
    have m6039 := m5989.trans (Wr.neI wH6002 (Or.inr (x_apart hKT hts inX10 tyX10 tyX10_ok nmX10 rfl 59 3 (by decide) (by decide) (by decide)))).symm
    have m6040 := m5990.trans (Wr.neI wH6002 (Or.inr (x_apart hKT hts inX10 tyX10 tyX10_ok nmX10 rfl 62 3 (by decide) (by decide) (by decide)))).symm
    have m6041 := m5991.trans (Wr.neI wH6002 (Or.inr (x_apart hKT hts inX10 tyX10 tyX10_ok nmX10 rfl 65 3 (by decide) (by decide) (by decide)))).symm
    have m6042 := (Wr.neI wH6002 (Or.inr (x_apart hKT hts inX10 tyX10 tyX10_ok nmX10 rfl 0 3 (by decide) (by decide) (by decide)))).trans m5992
    have m6043 := m5993.trans (Wr.neI wH6002 (Or.inr (x_apart hKT hts inX10 tyX10 tyX10_ok nmX10 rfl 71 3 (by decide) (by decide) (by decide)))).symm
    have m6044 := (Wr.neI wH6002 (Or.inr (x_apart hKT hts inX10 tyX10 tyX10_ok nmX10 rfl 70 3 (by decide) (by decide) (by decide)))).trans m5994
    have m6045 := m5995.trans (Wr.neI wH6002 (Or.inr (x_apart hKT hts inX10 tyX10 tyX10_ok nmX10 rfl 1 3 (by decide) (by decide) (by decide)))).symm
    have m6046 := m5996.trans (Wr.neI wH6002 (Or.inr (x_apart hKT hts inX10 tyX10 tyX10_ok nmX10 rfl 2 3 (by decide) (by decide) (by decide)))).symm
    have m6047 := ex5951.trans (Wr.neI wH6002 (Or.inr (x_apart hKT hts inX10 tyX10 tyX10_ok nmX10 rfl 72 3 (by decide) (by decide) (by decide)))).symm
    have m6048 := Wr.I wH6002
    have m6048 := m6048.symm
    clear b5959 b5960 b5961 b5962 b5963 b5964 b5965 b5966 b5967 b5968 b5969 b5998 b5999 b6000 ex5951 f5970 f5971 f5972 g5953 hTH5949 m5952 m5974 m5975 m5976 m5977 m5978 m5979 m5980 m5981 m5982 m5983 m5984 m5985 m5986 m5987 m5988 m5989 m5990 m5991 m5992 m5993 m5994 m5995 m5996 mf5997 p6001
    refine lv_aload_n hx hb dX10_image_69 rfl (lv_at hl 0 rfl) ?_
    refine lv_aload_n hx hb dX10_image_70 rfl (lv_at hl 0 rfl) ?_
    refine lv_aload_n hx hb dX10_image_71 rfl (lv_at hl 0 rfl) ?_
    refine x_gi C hTH6002 (ci := 10) (k := 59) rfl inX10 (by decide) wF_X10_438 ga0 rg_112 rfl dX10_image_72 (fun x6049 ex6049 bx6049 => ?_)
    have ux6049 : s59 = x6049 := (m6039).trans ex6049.symm
    subst ux6049
    refine x_V (As := [.int s59]) (rest := [.ref a0]) C (a_X10_kept l K G H6002 (s59) (x5951) (x1) hTH6002 ga0 giq m6023 m6047 m6043 g6004 (by and_intros <;> first | assumption | omega)) yo_X10_kept wM_X10_473 ⟨⟨by decide, by decide⟩, by decide, by decide⟩ (x_rv C hTH6002 (ci := 10) rfl ga0 rg_112) rfl hl.1 rfl (Nat.le_of_ble_eq_true rfl) dX10_image_75 hSH6002 (AE_sub (fun _ _ => rfl) (by decide) hSH6002.1) (fun vH6050 H6050 locsH6050 pH6050 zH6050 kH6050 hSH6050 => ?_)
    obtain ⟨x6051, x6052, hvH6050, ex6052, hrH6050, m6053, g6054, mf6055, m6056, m6057, m6058, m6059, hTH6050⟩ := pH6050
    subst hvH6050
    clear zH6050
    replace m6053 := EQN.mk m6053
    have b6060 : UN (x1.toInt ≠ 0) (fun k => fI H6050 q4 k) (fun k => fI s.heap q4 k) := UN.congr (fun j => fI_kept (x_lt hTH6002 kH6050 gq4 (by decide))) b6005
    have b6061 : UN (x1.toInt ≠ 0) (fun k => fI H6050 q16 k) (fun k => fI s.heap q16 k) := UN.congr (fun j => fI_kept (x_lt hTH6002 kH6050 gq16 (by decide))) b6006
    have b6062 : UN (x1.toInt ≠ 0) (fun k => fI H6050 q24 k) (fun k => fI s.heap q24 k) := UN.congr (fun j => fI_kept (x_lt hTH6002 kH6050 gq24 (by decide))) b6007
    have b6063 : UN (x1.toInt ≠ 0) (fun k => fI H6050 q29 k) (fun k => fI s.heap q29 k) := UN.congr (fun j => fI_kept (x_lt hTH6002 kH6050 gq29 (by decide))) b6008
    have b6064 : UN (x1.toInt ≠ 0) (fun k => fI H6050 q30 k) (fun k => fI s.heap q30 k) := UN.congr (fun j => fI_kept (x_lt hTH6002 kH6050 gq30 (by decide))) b6009
    have b6065 : UN (x1.toInt ≠ 0) (fun k => fI H6050 q31 k) (fun k => fI s.heap q31 k) := UN.congr (fun j => fI_kept (x_lt hTH6002 kH6050 gq31 (by decide))) b6010
    have b6066 : UN (x1.toInt ≠ 0) (fun k => fI H6050 q32 k) (fun k => fI s.heap q32 k) := UN.congr (fun j => fI_kept (x_lt hTH6002 kH6050 gq32 (by decide))) b6011
    have b6067 : UN (x1.toInt ≠ 0) (fun k => fI H6050 q33 k) (fun k => fI s.heap q33 k) := UN.congr (fun j => fI_kept (x_lt hTH6002 kH6050 gq33 (by decide))) b6012
    have b6068 : UN (x1.toInt ≠ 0) (fun k => fI H6050 q64 k) (fun k => fI s.heap q64 k) := UN.congr (fun j => fI_kept (x_lt hTH6002 kH6050 gq64 (by decide))) b6013
    have b6069 : UN (x1.toInt ≠ 0) (fun k => fI H6050 q66 k) (fun k => fI s.heap q66 k) := UN.congr (fun j => fI_kept (x_lt hTH6002 kH6050 gq66 (by decide))) b6014
    have b6070 : UN (x1.toInt ≠ 0) (fun k => fI H6050 q67 k) (fun k => fI s.heap q67 k) := UN.congr (fun j => fI_kept (x_lt hTH6002 kH6050 gq67 (by decide))) b6015
    have f6071 : ∀ j : Nat, fI H6050 q64 j = fI s.heap q64 j := fun j => (fI_kept (x_lt hTH6002 kH6050 gq64 (by decide))).trans (f6020 j)
    have f6072 : ∀ j : Nat, fI H6050 q66 j = fI s.heap q66 j := fun j => (fI_kept (x_lt hTH6002 kH6050 gq66 (by decide))).trans (f6021 j)
    have f6073 : ∀ j : Nat, fI H6050 q67 j = fI s.heap q67 j := fun j => (fI_kept (x_lt hTH6002 kH6050 gq67 (by decide))).trans (f6022 j)
    have m6074 := (m6023).trans (MF.r mf6055 (k := 73) (by decide) (by decide)).symm
    have m6075 := (m6024).trans (MF.r mf6055 (k := 4) (by decide) (by decide)).symm
    have m6076 := (m6025).trans (MF.r mf6055 (k := 10) (by decide) (by decide)).symm
    have m6077 := (m6026).trans (MF.r mf6055 (k := 16) (by decide) (by decide)).symm
    have m6078 := (m6027).trans (MF.r mf6055 (k := 24) (by decide) (by decide)).symm
    have m6079 := (m6028).trans (MF.r mf6055 (k := 27) (by decide) (by decide)).symm
    have m6080 := (m6029).trans (MF.r mf6055 (k := 29) (by decide) (by decide)).symm
    have m6081 := (m6030).trans (MF.r mf6055 (k := 30) (by decide) (by decide)).symm
    have m6082 := (m6031).trans (MF.r mf6055 (k := 31) (by decide) (by decide)).symm
    have m6083 := (m6032).trans (MF.r mf6055 (k := 32) (by decide) (by decide)).symm
    have m6084 := (m6033).trans (MF.r mf6055 (k := 33) (by decide) (by decide)).symm
    have m6085 := (m6034).trans (MF.r mf6055 (k := 50) (by decide) (by decide)).symm
    have m6086 := (m6035).trans (MF.r mf6055 (k := 64) (by decide) (by decide)).symm
    have m6087 := (m6036).trans (MF.r mf6055 (k := 66) (by decide) (by decide)).symm
    have m6088 := (m6037).trans (MF.r mf6055 (k := 67) (by decide) (by decide)).symm
    have m6089 := (m6039).trans (MF.i mf6055 (k := 59) (by decide) (by decide)).symm
    have m6090 := (m6040).trans (MF.i mf6055 (k := 62) (by decide) (by decide)).symm
    have m6091 := (m6041).trans (MF.i mf6055 (k := 65) (by decide) (by decide)).symm
    have m6092 := (MF.i mf6055 (k := 0) (by decide) (by decide)).trans m6042
    have m6093 := (m6043).trans (MF.i mf6055 (k := 71) (by decide) (by decide)).symm
    have m6094 := (MF.i mf6055 (k := 70) (by decide) (by decide)).trans m6044
    have m6095 := (m6045).trans (MF.i mf6055 (k := 1) (by decide) (by decide)).symm
    have m6096 := (m6046).trans (MF.i mf6055 (k := 2) (by decide) (by decide)).symm
    have m6097 := (m6048).trans (MF.i mf6055 (k := 3) (by decide) (by decide)).symm
    have mf6098 : MF K s.heap H6050 a0 [0, 1, 2, 3, 59, 62, 65, 70, 71, 72] := MF.trans mf6003 mf6055 (by decide)
    have bx6052 := ty_fi (x := x6052) (k := 72) ex6052 hTH6050 ga0 rg_112 rfl
    have ce_x5951 := i_cl (x := x5951) (by omega)
    have b6099 : UN (x1.toInt = 0) (fun k => fI H6050 iq k) (fun k => fI s.heap iq k) := UN.tr m6059 b6016
    have b6100 : x5754 = fI H6050 iq (0) := (b6017).trans (m6058 _ (by omega)).symm
    have b6101 : x5851 = fI H6050 iq (1) := (b6018).trans (m6058 _ (by omega)).symm
    have b6102 : x5950 = fI H6050 iq (2) := (b6019).trans (m6058 _ (by omega)).symm
    clear b6005 b6006 b6007 b6008 b6009 b6010 b6011 b6012 b6013 b6014 b6015 b6016 b6017 b6018 b6019 m6023 m6024 m6025 m6026 m6027 m6028 m6029 m6030 m6031 m6032 m6033 m6034 m6035 m6036 m6037 m6039 m6040 m6041 m6042 m6043 m6044 m6045 m6046 m6047 m6048
    clear m6058 m6059
    have bx6051 : 0 ≤ x6051.toInt ∧ x6051.toInt ≤ 20 := kr (fun h0 => by have hiw := hIW; exact kr0 (w := fun k => fI H6050 iq k) m6056 (p := 3) (by omega) (b6099 h0) (hiw.1.2.2.1)) m6057 (by omega)
    have p6103 : x6051 = fI H6050 iq (3) := by have h := m6056; rw [show x5951.toNatClampNeg = 3 by omega] at h; exact h
    refine W.eq (g2 := F0 m 78 ls [.int x6051, .ref a0]) rfl ?_
    refine x_put C hTH6050 hSH6050 (ci := 10) (k := 59) (v := .int x6051) (ty0 := tyX10) rfl inX10 tyX10_ok nmX10 (by decide) rfl wF_X10_438 ga0 rg_112 rfl rfl (okI (by have := i_rng x6051; omega) (by have := i_rng x6051; omega)) rfl rfl (AE_in ga0 (by decide)) dX10_image_78 (fun H6104 locsH6104 hTH6104 hSH6104 wH6104 => ?_)
    have mf6105 : MF K s.heap H6104 a0 [0, 1, 2, 3, 59, 62, 65, 70, 71, 72] := MF.fld hap wH6104 (by decide) (by decide) mf6098
    have g6106 : WD (avw K H6104 a0) := WD.congr (fun k hk j => av_fld hTH6050 ga0 hap wH6104 (by decide) (WD_ok 112 (by decide) k hk) (WD_ne 59 (by decide) k hk)) g6054
    have b6107 : UN (x1.toInt ≠ 0) (fun k => fI H6104 q4 k) (fun k => fI s.heap q4 k) := UN.congr (fun j => Wr.neI wH6104 (Or.inl (G_ne gq4 ga0 (by decide)))) b6060
    have b6108 : UN (x1.toInt ≠ 0) (fun k => fI H6104 q16 k) (fun k => fI s.heap q16 k) := UN.congr (fun j => Wr.neI wH6104 (Or.inl (G_ne gq16 ga0 (by decide)))) b6061
    have b6109 : UN (x1.toInt ≠ 0) (fun k => fI H6104 q24 k) (fun k => fI s.heap q24 k) := UN.congr (fun j => Wr.neI wH6104 (Or.inl (G_ne gq24 ga0 (by decide)))) b6062
    have b6110 : UN (x1.toInt ≠ 0) (fun k => fI H6104 q29 k) (fun k => fI s.heap q29 k) := UN.congr (fun j => Wr.neI wH6104 (Or.inl (G_ne gq29 ga0 (by decide)))) b6063
    have b6111 : UN (x1.toInt ≠ 0) (fun k => fI H6104 q30 k) (fun k => fI s.heap q30 k) := UN.congr (fun j => Wr.neI wH6104 (Or.inl (G_ne gq30 ga0 (by decide)))) b6064
    have b6112 : UN (x1.toInt ≠ 0) (fun k => fI H6104 q31 k) (fun k => fI s.heap q31 k) := UN.congr (fun j => Wr.neI wH6104 (Or.inl (G_ne gq31 ga0 (by decide)))) b6065
    have b6113 : UN (x1.toInt ≠ 0) (fun k => fI H6104 q32 k) (fun k => fI s.heap q32 k) := UN.congr (fun j => Wr.neI wH6104 (Or.inl (G_ne gq32 ga0 (by decide)))) b6066
    have b6114 : UN (x1.toInt ≠ 0) (fun k => fI H6104 q33 k) (fun k => fI s.heap q33 k) := UN.congr (fun j => Wr.neI wH6104 (Or.inl (G_ne gq33 ga0 (by decide)))) b6067
    have b6115 : UN (x1.toInt ≠ 0) (fun k => fI H6104 q64 k) (fun k => fI s.heap q64 k) := UN.congr (fun j => Wr.neI wH6104 (Or.inl (G_ne gq64 ga0 (by decide)))) b6068
    have b6116 : UN (x1.toInt ≠ 0) (fun k => fI H6104 q66 k) (fun k => fI s.heap q66 k) := UN.congr (fun j => Wr.neI wH6104 (Or.inl (G_ne gq66 ga0 (by decide)))) b6069
    have b6117 : UN (x1.toInt ≠ 0) (fun k => fI H6104 q67 k) (fun k => fI s.heap q67 k) := UN.congr (fun j => Wr.neI wH6104 (Or.inl (G_ne gq67 ga0 (by decide)))) b6070
    have b6118 : UN (x1.toInt = 0) (fun k => fI H6104 iq k) (fun k => fI s.heap iq k) := UN.congr (fun j => Wr.neI wH6104 (Or.inl (G_ne giq ga0 (by decide)))) b6099
    have b6119 : x5754 = fI H6104 iq (0) := (b6100).trans (Wr.neI wH6104 (Or.inl (G_ne giq ga0 (by decide)))).symm
    have b6120 : x5851 = fI H6104 iq (1) := (b6101).trans (Wr.neI wH6104 (Or.inl (G_ne giq ga0 (by decide)))).symm
    have b6121 : x5950 = fI H6104 iq (2) := (b6102).trans (Wr.neI wH6104 (Or.inl (G_ne giq ga0 (by decide)))).symm
    have b6122 : x6051 = fI H6104 iq (3) := (p6103).trans (Wr.neI wH6104 (Or.inl (G_ne giq ga0 (by decide)))).symm
    have f6123 : ∀ j : Nat, fI H6104 q64 j = fI s.heap q64 j := fun j => (Wr.neI wH6104 (Or.inl (G_ne gq64 ga0 (by decide)))).trans (f6071 j)
    have f6124 : ∀ j : Nat, fI H6104 q66 j = fI s.heap q66 j := fun j => (Wr.neI wH6104 (Or.inl (G_ne gq66 ga0 (by decide)))).trans (f6072 j)
    have f6125 : ∀ j : Nat, fI H6104 q67 j = fI s.heap q67 j := fun j => (Wr.neI wH6104 (Or.inl (G_ne gq67 ga0 (by decide)))).trans (f6073 j)
    have m6126 := m6053.trans (Wr.neR wH6104 (Or.inr (x_apart hKT hts inX10 tyX10 tyX10_ok nmX10 rfl 73 59 (by decide) (by decide) (by decide)))).symm
    have m6127 := m6075.trans (Wr.neR wH6104 (Or.inr (x_apart hKT hts inX10 tyX10 tyX10_ok nmX10 rfl 4 59 (by decide) (by decide) (by decide)))).symm
    have m6128 := m6076.trans (Wr.neR wH6104 (Or.inr (x_apart hKT hts inX10 tyX10 tyX10_ok nmX10 rfl 10 59 (by decide) (by decide) (by decide)))).symm
    have m6129 := m6077.trans (Wr.neR wH6104 (Or.inr (x_apart hKT hts inX10 tyX10 tyX10_ok nmX10 rfl 16 59 (by decide) (by decide) (by decide)))).symm
    have m6130 := m6078.trans (Wr.neR wH6104 (Or.inr (x_apart hKT hts inX10 tyX10 tyX10_ok nmX10 rfl 24 59 (by decide) (by decide) (by decide)))).symm
    have m6131 := m6079.trans (Wr.neR wH6104 (Or.inr (x_apart hKT hts inX10 tyX10 tyX10_ok nmX10 rfl 27 59 (by decide) (by decide) (by decide)))).symm
    have m6132 := m6080.trans (Wr.neR wH6104 (Or.inr (x_apart hKT hts inX10 tyX10 tyX10_ok nmX10 rfl 29 59 (by decide) (by decide) (by decide)))).symm
    have m6133 := m6081.trans (Wr.neR wH6104 (Or.inr (x_apart hKT hts inX10 tyX10 tyX10_ok nmX10 rfl 30 59 (by decide) (by decide) (by decide)))).symm
    have m6134 := m6082.trans (Wr.neR wH6104 (Or.inr (x_apart hKT hts inX10 tyX10 tyX10_ok nmX10 rfl 31 59 (by decide) (by decide) (by decide)))).symm
    have m6135 := m6083.trans (Wr.neR wH6104 (Or.inr (x_apart hKT hts inX10 tyX10 tyX10_ok nmX10 rfl 32 59 (by decide) (by decide) (by decide)))).symm
    have m6136 := m6084.trans (Wr.neR wH6104 (Or.inr (x_apart hKT hts inX10 tyX10 tyX10_ok nmX10 rfl 33 59 (by decide) (by decide) (by decide)))).symm
    have m6137 := m6085.trans (Wr.neR wH6104 (Or.inr (x_apart hKT hts inX10 tyX10 tyX10_ok nmX10 rfl 50 59 (by decide) (by decide) (by decide)))).symm
    have m6138 := m6086.trans (Wr.neR wH6104 (Or.inr (x_apart hKT hts inX10 tyX10 tyX10_ok nmX10 rfl 64 59 (by decide) (by decide) (by decide)))).symm
    have m6139 := m6087.trans (Wr.neR wH6104 (Or.inr (x_apart hKT hts inX10 tyX10 tyX10_ok nmX10 rfl 66 59 (by decide) (by decide) (by decide)))).symm
    have m6140 := m6088.trans (Wr.neR wH6104 (Or.inr (x_apart hKT hts inX10 tyX10 tyX10_ok nmX10 rfl 67 59 (by decide) (by decide) (by decide)))).symm
    have m6142 := m6090.trans (Wr.neI wH6104 (Or.inr (x_apart hKT hts inX10 tyX10 tyX10_ok nmX10 rfl 62 59 (by decide) (by decide) (by decide)))).symm
    have m6143 := m6091.trans (Wr.neI wH6104 (Or.inr (x_apart hKT hts inX10 tyX10 tyX10_ok nmX10 rfl 65 59 (by decide) (by decide) (by decide)))).symm
    have m6144 := (Wr.neI wH6104 (Or.inr (x_apart hKT hts inX10 tyX10 tyX10_ok nmX10 rfl 0 59 (by decide) (by decide) (by decide)))).trans m6092
    have m6145 := m6093.trans (Wr.neI wH6104 (Or.inr (x_apart hKT hts inX10 tyX10 tyX10_ok nmX10 rfl 71 59 (by decide) (by decide) (by decide)))).symm
    have m6146 := (Wr.neI wH6104 (Or.inr (x_apart hKT hts inX10 tyX10 tyX10_ok nmX10 rfl 70 59 (by decide) (by decide) (by decide)))).trans m6094
    have m6147 := m6095.trans (Wr.neI wH6104 (Or.inr (x_apart hKT hts inX10 tyX10 tyX10_ok nmX10 rfl 1 59 (by decide) (by decide) (by decide)))).symm
    have m6148 := m6096.trans (Wr.neI wH6104 (Or.inr (x_apart hKT hts inX10 tyX10 tyX10_ok nmX10 rfl 2 59 (by decide) (by decide) (by decide)))).symm
    have m6149 := m6097.trans (Wr.neI wH6104 (Or.inr (x_apart hKT hts inX10 tyX10 tyX10_ok nmX10 rfl 3 59 (by decide) (by decide) (by decide)))).symm
    have m6150 := ex6052.trans (Wr.neI wH6104 (Or.inr (x_apart hKT hts inX10 tyX10 tyX10_ok nmX10 rfl 72 59 (by decide) (by decide) (by decide)))).symm
    have m6151 := Wr.I wH6104
    have m6151 := m6151.symm
    clear b6060 b6061 b6062 b6063 b6064 b6065 b6066 b6067 b6068 b6069 b6070 b6099 b6100 b6101 b6102 ex6052 f6071 f6072 f6073 g6054 hTH6050 m6053 m6075 m6076 m6077 m6078 m6079 m6080 m6081 m6082 m6083 m6084 m6085 m6086 m6087 m6088 m6089 m6090 m6091 m6092 m6093 m6094 m6095 m6096 m6097 mf6098 p6103
    refine lv_aload_n hx hb dX10_image_81 rfl (lv_at hl 0 rfl) ?_
    refine lv_aload_n hx hb dX10_image_82 rfl (lv_at hl 0 rfl) ?_
    refine lv_aload_n hx hb dX10_image_83 rfl (lv_at hl 0 rfl) ?_
    refine x_gi C hTH6104 (ci := 10) (k := 62) rfl inX10 (by decide) wF_X10_455 ga0 rg_112 rfl dX10_image_84 (fun x6152 ex6152 bx6152 => ?_)
    have ux6152 : s62 = x6152 := (m6142).trans ex6152.symm
    subst ux6152
    refine x_V (As := [.int s62]) (rest := [.ref a0]) C (a_X10_kept l K G H6104 (s62) (x6052) (x1) hTH6104 ga0 giq m6126 m6150 m6145 g6106 (by and_intros <;> first | assumption | omega)) yo_X10_kept wM_X10_473 ⟨⟨by decide, by decide⟩, by decide, by decide⟩ (x_rv C hTH6104 (ci := 10) rfl ga0 rg_112) rfl hl.1 rfl (Nat.le_of_ble_eq_true rfl) dX10_image_87 hSH6104 (AE_sub (fun _ _ => rfl) (by decide) hSH6104.1) (fun vH6153 H6153 locsH6153 pH6153 zH6153 kH6153 hSH6153 => ?_)
    obtain ⟨x6154, x6155, hvH6153, ex6155, hrH6153, m6156, g6157, mf6158, m6159, m6160, m6161, m6162, hTH6153⟩ := pH6153
    subst hvH6153
    clear zH6153
    replace m6156 := EQN.mk m6156
    have b6163 : UN (x1.toInt ≠ 0) (fun k => fI H6153 q4 k) (fun k => fI s.heap q4 k) := UN.congr (fun j => fI_kept (x_lt hTH6104 kH6153 gq4 (by decide))) b6107
    have b6164 : UN (x1.toInt ≠ 0) (fun k => fI H6153 q16 k) (fun k => fI s.heap q16 k) := UN.congr (fun j => fI_kept (x_lt hTH6104 kH6153 gq16 (by decide))) b6108
    have b6165 : UN (x1.toInt ≠ 0) (fun k => fI H6153 q24 k) (fun k => fI s.heap q24 k) := UN.congr (fun j => fI_kept (x_lt hTH6104 kH6153 gq24 (by decide))) b6109
    have b6166 : UN (x1.toInt ≠ 0) (fun k => fI H6153 q29 k) (fun k => fI s.heap q29 k) := UN.congr (fun j => fI_kept (x_lt hTH6104 kH6153 gq29 (by decide))) b6110
    have b6167 : UN (x1.toInt ≠ 0) (fun k => fI H6153 q30 k) (fun k => fI s.heap q30 k) := UN.congr (fun j => fI_kept (x_lt hTH6104 kH6153 gq30 (by decide))) b6111
    have b6168 : UN (x1.toInt ≠ 0) (fun k => fI H6153 q31 k) (fun k => fI s.heap q31 k) := UN.congr (fun j => fI_kept (x_lt hTH6104 kH6153 gq31 (by decide))) b6112
    have b6169 : UN (x1.toInt ≠ 0) (fun k => fI H6153 q32 k) (fun k => fI s.heap q32 k) := UN.congr (fun j => fI_kept (x_lt hTH6104 kH6153 gq32 (by decide))) b6113
    have b6170 : UN (x1.toInt ≠ 0) (fun k => fI H6153 q33 k) (fun k => fI s.heap q33 k) := UN.congr (fun j => fI_kept (x_lt hTH6104 kH6153 gq33 (by decide))) b6114
    have b6171 : UN (x1.toInt ≠ 0) (fun k => fI H6153 q64 k) (fun k => fI s.heap q64 k) := UN.congr (fun j => fI_kept (x_lt hTH6104 kH6153 gq64 (by decide))) b6115
    have b6172 : UN (x1.toInt ≠ 0) (fun k => fI H6153 q66 k) (fun k => fI s.heap q66 k) := UN.congr (fun j => fI_kept (x_lt hTH6104 kH6153 gq66 (by decide))) b6116
    have b6173 : UN (x1.toInt ≠ 0) (fun k => fI H6153 q67 k) (fun k => fI s.heap q67 k) := UN.congr (fun j => fI_kept (x_lt hTH6104 kH6153 gq67 (by decide))) b6117
    have f6174 : ∀ j : Nat, fI H6153 q64 j = fI s.heap q64 j := fun j => (fI_kept (x_lt hTH6104 kH6153 gq64 (by decide))).trans (f6123 j)
    have f6175 : ∀ j : Nat, fI H6153 q66 j = fI s.heap q66 j := fun j => (fI_kept (x_lt hTH6104 kH6153 gq66 (by decide))).trans (f6124 j)
    have f6176 : ∀ j : Nat, fI H6153 q67 j = fI s.heap q67 j := fun j => (fI_kept (x_lt hTH6104 kH6153 gq67 (by decide))).trans (f6125 j)
    have m6177 := (m6126).trans (MF.r mf6158 (k := 73) (by decide) (by decide)).symm
    have m6178 := (m6127).trans (MF.r mf6158 (k := 4) (by decide) (by decide)).symm
    have m6179 := (m6128).trans (MF.r mf6158 (k := 10) (by decide) (by decide)).symm
    have m6180 := (m6129).trans (MF.r mf6158 (k := 16) (by decide) (by decide)).symm
    have m6181 := (m6130).trans (MF.r mf6158 (k := 24) (by decide) (by decide)).symm
    have m6182 := (m6131).trans (MF.r mf6158 (k := 27) (by decide) (by decide)).symm
    have m6183 := (m6132).trans (MF.r mf6158 (k := 29) (by decide) (by decide)).symm
    have m6184 := (m6133).trans (MF.r mf6158 (k := 30) (by decide) (by decide)).symm
    have m6185 := (m6134).trans (MF.r mf6158 (k := 31) (by decide) (by decide)).symm
    have m6186 := (m6135).trans (MF.r mf6158 (k := 32) (by decide) (by decide)).symm
    have m6187 := (m6136).trans (MF.r mf6158 (k := 33) (by decide) (by decide)).symm
    have m6188 := (m6137).trans (MF.r mf6158 (k := 50) (by decide) (by decide)).symm
    have m6189 := (m6138).trans (MF.r mf6158 (k := 64) (by decide) (by decide)).symm
    have m6190 := (m6139).trans (MF.r mf6158 (k := 66) (by decide) (by decide)).symm
    have m6191 := (m6140).trans (MF.r mf6158 (k := 67) (by decide) (by decide)).symm
    have m6192 := (m6142).trans (MF.i mf6158 (k := 62) (by decide) (by decide)).symm
    have m6193 := (m6143).trans (MF.i mf6158 (k := 65) (by decide) (by decide)).symm
    have m6194 := (MF.i mf6158 (k := 0) (by decide) (by decide)).trans m6144
    have m6195 := (m6145).trans (MF.i mf6158 (k := 71) (by decide) (by decide)).symm
    have m6196 := (MF.i mf6158 (k := 70) (by decide) (by decide)).trans m6146
    have m6197 := (m6147).trans (MF.i mf6158 (k := 1) (by decide) (by decide)).symm
    have m6198 := (m6148).trans (MF.i mf6158 (k := 2) (by decide) (by decide)).symm
    have m6199 := (m6149).trans (MF.i mf6158 (k := 3) (by decide) (by decide)).symm
    have m6200 := (m6151).trans (MF.i mf6158 (k := 59) (by decide) (by decide)).symm
    have mf6201 : MF K s.heap H6153 a0 [0, 1, 2, 3, 59, 62, 65, 70, 71, 72] := MF.trans mf6105 mf6158 (by decide)
    have bx6155 := ty_fi (x := x6155) (k := 72) ex6155 hTH6153 ga0 rg_112 rfl
    have ce_x6052 := i_cl (x := x6052) (by omega)
    have b6202 : UN (x1.toInt = 0) (fun k => fI H6153 iq k) (fun k => fI s.heap iq k) := UN.tr m6162 b6118
    have b6203 : x5754 = fI H6153 iq (0) := (b6119).trans (m6161 _ (by omega)).symm
    have b6204 : x5851 = fI H6153 iq (1) := (b6120).trans (m6161 _ (by omega)).symm
    have b6205 : x5950 = fI H6153 iq (2) := (b6121).trans (m6161 _ (by omega)).symm
    have b6206 : x6051 = fI H6153 iq (3) := (b6122).trans (m6161 _ (by omega)).symm
    clear b6107 b6108 b6109 b6110 b6111 b6112 b6113 b6114 b6115 b6116 b6117 b6118 b6119 b6120 b6121 b6122 m6126 m6127 m6128 m6129 m6130 m6131 m6132 m6133 m6134 m6135 m6136 m6137 m6138 m6139 m6140 m6142 m6143 m6144 m6145 m6146 m6147 m6148 m6149 m6150 m6151
    clear m6161 m6162
    have bx6154 : 0 ≤ x6154.toInt ∧ x6154.toInt ≤ 8 := kr (fun h0 => by have hiw := hIW; exact kr0 (w := fun k => fI H6153 iq k) m6159 (p := 4) (by omega) (b6202 h0) (hiw.1.2.2.2.1)) m6160 (by omega)
    have p6207 : x6154 = fI H6153 iq (4) := by have h := m6159; rw [show x6052.toNatClampNeg = 4 by omega] at h; exact h
    refine W.eq (g2 := F0 m 90 ls [.int x6154, .ref a0]) rfl ?_
    refine x_put C hTH6153 hSH6153 (ci := 10) (k := 62) (v := .int x6154) (ty0 := tyX10) rfl inX10 tyX10_ok nmX10 (by decide) rfl wF_X10_455 ga0 rg_112 rfl rfl (okI (by have := i_rng x6154; omega) (by have := i_rng x6154; omega)) rfl rfl (AE_in ga0 (by decide)) dX10_image_90 (fun H6208 locsH6208 hTH6208 hSH6208 wH6208 => ?_)
    have mf6209 : MF K s.heap H6208 a0 [0, 1, 2, 3, 59, 62, 65, 70, 71, 72] := MF.fld hap wH6208 (by decide) (by decide) mf6201
    have g6210 : WD (avw K H6208 a0) := WD.congr (fun k hk j => av_fld hTH6153 ga0 hap wH6208 (by decide) (WD_ok 112 (by decide) k hk) (WD_ne 62 (by decide) k hk)) g6157
    have b6211 : UN (x1.toInt ≠ 0) (fun k => fI H6208 q4 k) (fun k => fI s.heap q4 k) := UN.congr (fun j => Wr.neI wH6208 (Or.inl (G_ne gq4 ga0 (by decide)))) b6163
    have b6212 : UN (x1.toInt ≠ 0) (fun k => fI H6208 q16 k) (fun k => fI s.heap q16 k) := UN.congr (fun j => Wr.neI wH6208 (Or.inl (G_ne gq16 ga0 (by decide)))) b6164
    have b6213 : UN (x1.toInt ≠ 0) (fun k => fI H6208 q24 k) (fun k => fI s.heap q24 k) := UN.congr (fun j => Wr.neI wH6208 (Or.inl (G_ne gq24 ga0 (by decide)))) b6165
    have b6214 : UN (x1.toInt ≠ 0) (fun k => fI H6208 q29 k) (fun k => fI s.heap q29 k) := UN.congr (fun j => Wr.neI wH6208 (Or.inl (G_ne gq29 ga0 (by decide)))) b6166
    have b6215 : UN (x1.toInt ≠ 0) (fun k => fI H6208 q30 k) (fun k => fI s.heap q30 k) := UN.congr (fun j => Wr.neI wH6208 (Or.inl (G_ne gq30 ga0 (by decide)))) b6167
    have b6216 : UN (x1.toInt ≠ 0) (fun k => fI H6208 q31 k) (fun k => fI s.heap q31 k) := UN.congr (fun j => Wr.neI wH6208 (Or.inl (G_ne gq31 ga0 (by decide)))) b6168
    have b6217 : UN (x1.toInt ≠ 0) (fun k => fI H6208 q32 k) (fun k => fI s.heap q32 k) := UN.congr (fun j => Wr.neI wH6208 (Or.inl (G_ne gq32 ga0 (by decide)))) b6169
    have b6218 : UN (x1.toInt ≠ 0) (fun k => fI H6208 q33 k) (fun k => fI s.heap q33 k) := UN.congr (fun j => Wr.neI wH6208 (Or.inl (G_ne gq33 ga0 (by decide)))) b6170
    have b6219 : UN (x1.toInt ≠ 0) (fun k => fI H6208 q64 k) (fun k => fI s.heap q64 k) := UN.congr (fun j => Wr.neI wH6208 (Or.inl (G_ne gq64 ga0 (by decide)))) b6171
    have b6220 : UN (x1.toInt ≠ 0) (fun k => fI H6208 q66 k) (fun k => fI s.heap q66 k) := UN.congr (fun j => Wr.neI wH6208 (Or.inl (G_ne gq66 ga0 (by decide)))) b6172
    have b6221 : UN (x1.toInt ≠ 0) (fun k => fI H6208 q67 k) (fun k => fI s.heap q67 k) := UN.congr (fun j => Wr.neI wH6208 (Or.inl (G_ne gq67 ga0 (by decide)))) b6173
    have b6222 : UN (x1.toInt = 0) (fun k => fI H6208 iq k) (fun k => fI s.heap iq k) := UN.congr (fun j => Wr.neI wH6208 (Or.inl (G_ne giq ga0 (by decide)))) b6202
    have b6223 : x5754 = fI H6208 iq (0) := (b6203).trans (Wr.neI wH6208 (Or.inl (G_ne giq ga0 (by decide)))).symm
    have b6224 : x5851 = fI H6208 iq (1) := (b6204).trans (Wr.neI wH6208 (Or.inl (G_ne giq ga0 (by decide)))).symm
    have b6225 : x5950 = fI H6208 iq (2) := (b6205).trans (Wr.neI wH6208 (Or.inl (G_ne giq ga0 (by decide)))).symm
    have b6226 : x6051 = fI H6208 iq (3) := (b6206).trans (Wr.neI wH6208 (Or.inl (G_ne giq ga0 (by decide)))).symm
    have b6227 : x6154 = fI H6208 iq (4) := (p6207).trans (Wr.neI wH6208 (Or.inl (G_ne giq ga0 (by decide)))).symm
    have f6228 : ∀ j : Nat, fI H6208 q64 j = fI s.heap q64 j := fun j => (Wr.neI wH6208 (Or.inl (G_ne gq64 ga0 (by decide)))).trans (f6174 j)
    have f6229 : ∀ j : Nat, fI H6208 q66 j = fI s.heap q66 j := fun j => (Wr.neI wH6208 (Or.inl (G_ne gq66 ga0 (by decide)))).trans (f6175 j)
    have f6230 : ∀ j : Nat, fI H6208 q67 j = fI s.heap q67 j := fun j => (Wr.neI wH6208 (Or.inl (G_ne gq67 ga0 (by decide)))).trans (f6176 j)
    have m6231 := m6156.trans (Wr.neR wH6208 (Or.inr (x_apart hKT hts inX10 tyX10 tyX10_ok nmX10 rfl 73 62 (by decide) (by decide) (by decide)))).symm
    have m6232 := m6178.trans (Wr.neR wH6208 (Or.inr (x_apart hKT hts inX10 tyX10 tyX10_ok nmX10 rfl 4 62 (by decide) (by decide) (by decide)))).symm
    have m6233 := m6179.trans (Wr.neR wH6208 (Or.inr (x_apart hKT hts inX10 tyX10 tyX10_ok nmX10 rfl 10 62 (by decide) (by decide) (by decide)))).symm
    have m6234 := m6180.trans (Wr.neR wH6208 (Or.inr (x_apart hKT hts inX10 tyX10 tyX10_ok nmX10 rfl 16 62 (by decide) (by decide) (by decide)))).symm
    have m6235 := m6181.trans (Wr.neR wH6208 (Or.inr (x_apart hKT hts inX10 tyX10 tyX10_ok nmX10 rfl 24 62 (by decide) (by decide) (by decide)))).symm
    have m6236 := m6182.trans (Wr.neR wH6208 (Or.inr (x_apart hKT hts inX10 tyX10 tyX10_ok nmX10 rfl 27 62 (by decide) (by decide) (by decide)))).symm
    have m6237 := m6183.trans (Wr.neR wH6208 (Or.inr (x_apart hKT hts inX10 tyX10 tyX10_ok nmX10 rfl 29 62 (by decide) (by decide) (by decide)))).symm
    have m6238 := m6184.trans (Wr.neR wH6208 (Or.inr (x_apart hKT hts inX10 tyX10 tyX10_ok nmX10 rfl 30 62 (by decide) (by decide) (by decide)))).symm
    have m6239 := m6185.trans (Wr.neR wH6208 (Or.inr (x_apart hKT hts inX10 tyX10 tyX10_ok nmX10 rfl 31 62 (by decide) (by decide) (by decide)))).symm
    have m6240 := m6186.trans (Wr.neR wH6208 (Or.inr (x_apart hKT hts inX10 tyX10 tyX10_ok nmX10 rfl 32 62 (by decide) (by decide) (by decide)))).symm
    have m6241 := m6187.trans (Wr.neR wH6208 (Or.inr (x_apart hKT hts inX10 tyX10 tyX10_ok nmX10 rfl 33 62 (by decide) (by decide) (by decide)))).symm
    have m6242 := m6188.trans (Wr.neR wH6208 (Or.inr (x_apart hKT hts inX10 tyX10 tyX10_ok nmX10 rfl 50 62 (by decide) (by decide) (by decide)))).symm
    have m6243 := m6189.trans (Wr.neR wH6208 (Or.inr (x_apart hKT hts inX10 tyX10 tyX10_ok nmX10 rfl 64 62 (by decide) (by decide) (by decide)))).symm
    have m6244 := m6190.trans (Wr.neR wH6208 (Or.inr (x_apart hKT hts inX10 tyX10 tyX10_ok nmX10 rfl 66 62 (by decide) (by decide) (by decide)))).symm
    have m6245 := m6191.trans (Wr.neR wH6208 (Or.inr (x_apart hKT hts inX10 tyX10 tyX10_ok nmX10 rfl 67 62 (by decide) (by decide) (by decide)))).symm
    have m6247 := m6193.trans (Wr.neI wH6208 (Or.inr (x_apart hKT hts inX10 tyX10 tyX10_ok nmX10 rfl 65 62 (by decide) (by decide) (by decide)))).symm
    have m6248 := (Wr.neI wH6208 (Or.inr (x_apart hKT hts inX10 tyX10 tyX10_ok nmX10 rfl 0 62 (by decide) (by decide) (by decide)))).trans m6194
    have m6249 := m6195.trans (Wr.neI wH6208 (Or.inr (x_apart hKT hts inX10 tyX10 tyX10_ok nmX10 rfl 71 62 (by decide) (by decide) (by decide)))).symm
    have m6250 := (Wr.neI wH6208 (Or.inr (x_apart hKT hts inX10 tyX10 tyX10_ok nmX10 rfl 70 62 (by decide) (by decide) (by decide)))).trans m6196
    have m6251 := m6197.trans (Wr.neI wH6208 (Or.inr (x_apart hKT hts inX10 tyX10 tyX10_ok nmX10 rfl 1 62 (by decide) (by decide) (by decide)))).symm
    have m6252 := m6198.trans (Wr.neI wH6208 (Or.inr (x_apart hKT hts inX10 tyX10 tyX10_ok nmX10 rfl 2 62 (by decide) (by decide) (by decide)))).symm
    have m6253 := m6199.trans (Wr.neI wH6208 (Or.inr (x_apart hKT hts inX10 tyX10 tyX10_ok nmX10 rfl 3 62 (by decide) (by decide) (by decide)))).symm
    have m6254 := m6200.trans (Wr.neI wH6208 (Or.inr (x_apart hKT hts inX10 tyX10 tyX10_ok nmX10 rfl 59 62 (by decide) (by decide) (by decide)))).symm
    have m6255 := ex6155.trans (Wr.neI wH6208 (Or.inr (x_apart hKT hts inX10 tyX10 tyX10_ok nmX10 rfl 72 62 (by decide) (by decide) (by decide)))).symm
    have m6256 := Wr.I wH6208
    have m6256 := m6256.symm
    clear b6163 b6164 b6165 b6166 b6167 b6168 b6169 b6170 b6171 b6172 b6173 b6202 b6203 b6204 b6205 b6206 ex6155 f6174 f6175 f6176 g6157 hTH6153 m6156 m6178 m6179 m6180 m6181 m6182 m6183 m6184 m6185 m6186 m6187 m6188 m6189 m6190 m6191 m6192 m6193 m6194 m6195 m6196 m6197 m6198 m6199 m6200 mf6201 p6207
    refine lv_aload_n hx hb dX10_image_93 rfl (lv_at hl 0 rfl) ?_
    refine lv_aload_n hx hb dX10_image_94 rfl (lv_at hl 0 rfl) ?_
    refine lv_aload_n hx hb dX10_image_95 rfl (lv_at hl 0 rfl) ?_
    refine x_gi C hTH6208 (ci := 10) (k := 65) rfl inX10 (by decide) wF_X10_458 ga0 rg_112 rfl dX10_image_96 (fun x6257 ex6257 bx6257 => ?_)
    have ux6257 : s65 = x6257 := (m6247).trans ex6257.symm
    subst ux6257
    refine x_V (As := [.int s65]) (rest := [.ref a0]) C (a_X10_kept l K G H6208 (s65) (x6155) (x1) hTH6208 ga0 giq m6231 m6255 m6249 g6210 (by and_intros <;> first | assumption | omega)) yo_X10_kept wM_X10_473 ⟨⟨by decide, by decide⟩, by decide, by decide⟩ (x_rv C hTH6208 (ci := 10) rfl ga0 rg_112) rfl hl.1 rfl (Nat.le_of_ble_eq_true rfl) dX10_image_99 hSH6208 (AE_sub (fun _ _ => rfl) (by decide) hSH6208.1) (fun vH6258 H6258 locsH6258 pH6258 zH6258 kH6258 hSH6258 => ?_)
    obtain ⟨x6259, x6260, hvH6258, ex6260, hrH6258, m6261, g6262, mf6263, m6264, m6265, m6266, m6267, hTH6258⟩ := pH6258
    subst hvH6258
    clear zH6258
    replace m6261 := EQN.mk m6261
    have b6268 : UN (x1.toInt ≠ 0) (fun k => fI H6258 q4 k) (fun k => fI s.heap q4 k) := UN.congr (fun j => fI_kept (x_lt hTH6208 kH6258 gq4 (by decide))) b6211
    have b6269 : UN (x1.toInt ≠ 0) (fun k => fI H6258 q16 k) (fun k => fI s.heap q16 k) := UN.congr (fun j => fI_kept (x_lt hTH6208 kH6258 gq16 (by decide))) b6212
    have b6270 : UN (x1.toInt ≠ 0) (fun k => fI H6258 q24 k) (fun k => fI s.heap q24 k) := UN.congr (fun j => fI_kept (x_lt hTH6208 kH6258 gq24 (by decide))) b6213
    have b6271 : UN (x1.toInt ≠ 0) (fun k => fI H6258 q29 k) (fun k => fI s.heap q29 k) := UN.congr (fun j => fI_kept (x_lt hTH6208 kH6258 gq29 (by decide))) b6214
    have b6272 : UN (x1.toInt ≠ 0) (fun k => fI H6258 q30 k) (fun k => fI s.heap q30 k) := UN.congr (fun j => fI_kept (x_lt hTH6208 kH6258 gq30 (by decide))) b6215
    have b6273 : UN (x1.toInt ≠ 0) (fun k => fI H6258 q31 k) (fun k => fI s.heap q31 k) := UN.congr (fun j => fI_kept (x_lt hTH6208 kH6258 gq31 (by decide))) b6216
    have b6274 : UN (x1.toInt ≠ 0) (fun k => fI H6258 q32 k) (fun k => fI s.heap q32 k) := UN.congr (fun j => fI_kept (x_lt hTH6208 kH6258 gq32 (by decide))) b6217
    have b6275 : UN (x1.toInt ≠ 0) (fun k => fI H6258 q33 k) (fun k => fI s.heap q33 k) := UN.congr (fun j => fI_kept (x_lt hTH6208 kH6258 gq33 (by decide))) b6218
    have b6276 : UN (x1.toInt ≠ 0) (fun k => fI H6258 q64 k) (fun k => fI s.heap q64 k) := UN.congr (fun j => fI_kept (x_lt hTH6208 kH6258 gq64 (by decide))) b6219
    have b6277 : UN (x1.toInt ≠ 0) (fun k => fI H6258 q66 k) (fun k => fI s.heap q66 k) := UN.congr (fun j => fI_kept (x_lt hTH6208 kH6258 gq66 (by decide))) b6220
    have b6278 : UN (x1.toInt ≠ 0) (fun k => fI H6258 q67 k) (fun k => fI s.heap q67 k) := UN.congr (fun j => fI_kept (x_lt hTH6208 kH6258 gq67 (by decide))) b6221
    have f6279 : ∀ j : Nat, fI H6258 q64 j = fI s.heap q64 j := fun j => (fI_kept (x_lt hTH6208 kH6258 gq64 (by decide))).trans (f6228 j)
    have f6280 : ∀ j : Nat, fI H6258 q66 j = fI s.heap q66 j := fun j => (fI_kept (x_lt hTH6208 kH6258 gq66 (by decide))).trans (f6229 j)
    have f6281 : ∀ j : Nat, fI H6258 q67 j = fI s.heap q67 j := fun j => (fI_kept (x_lt hTH6208 kH6258 gq67 (by decide))).trans (f6230 j)
    have m6282 := (m6231).trans (MF.r mf6263 (k := 73) (by decide) (by decide)).symm
    have m6283 := (m6232).trans (MF.r mf6263 (k := 4) (by decide) (by decide)).symm
    have m6284 := (m6233).trans (MF.r mf6263 (k := 10) (by decide) (by decide)).symm
    have m6285 := (m6234).trans (MF.r mf6263 (k := 16) (by decide) (by decide)).symm
    have m6286 := (m6235).trans (MF.r mf6263 (k := 24) (by decide) (by decide)).symm
    have m6287 := (m6236).trans (MF.r mf6263 (k := 27) (by decide) (by decide)).symm
    have m6288 := (m6237).trans (MF.r mf6263 (k := 29) (by decide) (by decide)).symm
    have m6289 := (m6238).trans (MF.r mf6263 (k := 30) (by decide) (by decide)).symm
    have m6290 := (m6239).trans (MF.r mf6263 (k := 31) (by decide) (by decide)).symm
    have m6291 := (m6240).trans (MF.r mf6263 (k := 32) (by decide) (by decide)).symm
    have m6292 := (m6241).trans (MF.r mf6263 (k := 33) (by decide) (by decide)).symm
    have m6293 := (m6242).trans (MF.r mf6263 (k := 50) (by decide) (by decide)).symm
    have m6294 := (m6243).trans (MF.r mf6263 (k := 64) (by decide) (by decide)).symm
    have m6295 := (m6244).trans (MF.r mf6263 (k := 66) (by decide) (by decide)).symm
    have m6296 := (m6245).trans (MF.r mf6263 (k := 67) (by decide) (by decide)).symm
    have m6297 := (m6247).trans (MF.i mf6263 (k := 65) (by decide) (by decide)).symm
    have m6298 := (MF.i mf6263 (k := 0) (by decide) (by decide)).trans m6248
    have m6299 := (m6249).trans (MF.i mf6263 (k := 71) (by decide) (by decide)).symm
    have m6300 := (MF.i mf6263 (k := 70) (by decide) (by decide)).trans m6250
    have m6301 := (m6251).trans (MF.i mf6263 (k := 1) (by decide) (by decide)).symm
    have m6302 := (m6252).trans (MF.i mf6263 (k := 2) (by decide) (by decide)).symm
    have m6303 := (m6253).trans (MF.i mf6263 (k := 3) (by decide) (by decide)).symm
    have m6304 := (m6254).trans (MF.i mf6263 (k := 59) (by decide) (by decide)).symm
    have m6305 := (m6256).trans (MF.i mf6263 (k := 62) (by decide) (by decide)).symm
    have mf6306 : MF K s.heap H6258 a0 [0, 1, 2, 3, 59, 62, 65, 70, 71, 72] := MF.trans mf6209 mf6263 (by decide)
    have bx6260 := ty_fi (x := x6260) (k := 72) ex6260 hTH6258 ga0 rg_112 rfl
    have ce_x6155 := i_cl (x := x6155) (by omega)
    have b6307 : UN (x1.toInt = 0) (fun k => fI H6258 iq k) (fun k => fI s.heap iq k) := UN.tr m6267 b6222
    have b6308 : x5754 = fI H6258 iq (0) := (b6223).trans (m6266 _ (by omega)).symm
    have b6309 : x5851 = fI H6258 iq (1) := (b6224).trans (m6266 _ (by omega)).symm
    have b6310 : x5950 = fI H6258 iq (2) := (b6225).trans (m6266 _ (by omega)).symm
    have b6311 : x6051 = fI H6258 iq (3) := (b6226).trans (m6266 _ (by omega)).symm
    have b6312 : x6154 = fI H6258 iq (4) := (b6227).trans (m6266 _ (by omega)).symm
    clear b6211 b6212 b6213 b6214 b6215 b6216 b6217 b6218 b6219 b6220 b6221 b6222 b6223 b6224 b6225 b6226 b6227 m6231 m6232 m6233 m6234 m6235 m6236 m6237 m6238 m6239 m6240 m6241 m6242 m6243 m6244 m6245 m6247 m6248 m6249 m6250 m6251 m6252 m6253 m6254 m6255 m6256
    clear m6266 m6267
    have bx6259 : 0 ≤ x6259.toInt ∧ x6259.toInt ≤ 8 := kr (fun h0 => by have hiw := hIW; exact kr0 (w := fun k => fI H6258 iq k) m6264 (p := 5) (by omega) (b6307 h0) (hiw.1.2.2.2.2)) m6265 (by omega)
    have p6313 : x6259 = fI H6258 iq (5) := by have h := m6264; rw [show x6155.toNatClampNeg = 5 by omega] at h; exact h
    refine W.eq (g2 := F0 m 102 ls [.int x6259, .ref a0]) rfl ?_
    refine x_put C hTH6258 hSH6258 (ci := 10) (k := 65) (v := .int x6259) (ty0 := tyX10) rfl inX10 tyX10_ok nmX10 (by decide) rfl wF_X10_458 ga0 rg_112 rfl rfl (okI (by have := i_rng x6259; omega) (by have := i_rng x6259; omega)) rfl rfl (AE_in ga0 (by decide)) dX10_image_102 (fun H6314 locsH6314 hTH6314 hSH6314 wH6314 => ?_)
    have mf6315 : MF K s.heap H6314 a0 [0, 1, 2, 3, 59, 62, 65, 70, 71, 72] := MF.fld hap wH6314 (by decide) (by decide) mf6306
    have g6316 : WD (avw K H6314 a0) := WD.congr (fun k hk j => av_fld hTH6258 ga0 hap wH6314 (by decide) (WD_ok 112 (by decide) k hk) (WD_ne 65 (by decide) k hk)) g6262
    have b6317 : UN (x1.toInt ≠ 0) (fun k => fI H6314 q4 k) (fun k => fI s.heap q4 k) := UN.congr (fun j => Wr.neI wH6314 (Or.inl (G_ne gq4 ga0 (by decide)))) b6268
    have b6318 : UN (x1.toInt ≠ 0) (fun k => fI H6314 q16 k) (fun k => fI s.heap q16 k) := UN.congr (fun j => Wr.neI wH6314 (Or.inl (G_ne gq16 ga0 (by decide)))) b6269
    have b6319 : UN (x1.toInt ≠ 0) (fun k => fI H6314 q24 k) (fun k => fI s.heap q24 k) := UN.congr (fun j => Wr.neI wH6314 (Or.inl (G_ne gq24 ga0 (by decide)))) b6270
    have b6320 : UN (x1.toInt ≠ 0) (fun k => fI H6314 q29 k) (fun k => fI s.heap q29 k) := UN.congr (fun j => Wr.neI wH6314 (Or.inl (G_ne gq29 ga0 (by decide)))) b6271
    have b6321 : UN (x1.toInt ≠ 0) (fun k => fI H6314 q30 k) (fun k => fI s.heap q30 k) := UN.congr (fun j => Wr.neI wH6314 (Or.inl (G_ne gq30 ga0 (by decide)))) b6272
    have b6322 : UN (x1.toInt ≠ 0) (fun k => fI H6314 q31 k) (fun k => fI s.heap q31 k) := UN.congr (fun j => Wr.neI wH6314 (Or.inl (G_ne gq31 ga0 (by decide)))) b6273
    have b6323 : UN (x1.toInt ≠ 0) (fun k => fI H6314 q32 k) (fun k => fI s.heap q32 k) := UN.congr (fun j => Wr.neI wH6314 (Or.inl (G_ne gq32 ga0 (by decide)))) b6274
    have b6324 : UN (x1.toInt ≠ 0) (fun k => fI H6314 q33 k) (fun k => fI s.heap q33 k) := UN.congr (fun j => Wr.neI wH6314 (Or.inl (G_ne gq33 ga0 (by decide)))) b6275
    have b6325 : UN (x1.toInt ≠ 0) (fun k => fI H6314 q64 k) (fun k => fI s.heap q64 k) := UN.congr (fun j => Wr.neI wH6314 (Or.inl (G_ne gq64 ga0 (by decide)))) b6276
    have b6326 : UN (x1.toInt ≠ 0) (fun k => fI H6314 q66 k) (fun k => fI s.heap q66 k) := UN.congr (fun j => Wr.neI wH6314 (Or.inl (G_ne gq66 ga0 (by decide)))) b6277
    have b6327 : UN (x1.toInt ≠ 0) (fun k => fI H6314 q67 k) (fun k => fI s.heap q67 k) := UN.congr (fun j => Wr.neI wH6314 (Or.inl (G_ne gq67 ga0 (by decide)))) b6278
    have b6328 : UN (x1.toInt = 0) (fun k => fI H6314 iq k) (fun k => fI s.heap iq k) := UN.congr (fun j => Wr.neI wH6314 (Or.inl (G_ne giq ga0 (by decide)))) b6307
    have b6329 : x5754 = fI H6314 iq (0) := (b6308).trans (Wr.neI wH6314 (Or.inl (G_ne giq ga0 (by decide)))).symm
    have b6330 : x5851 = fI H6314 iq (1) := (b6309).trans (Wr.neI wH6314 (Or.inl (G_ne giq ga0 (by decide)))).symm
    have b6331 : x5950 = fI H6314 iq (2) := (b6310).trans (Wr.neI wH6314 (Or.inl (G_ne giq ga0 (by decide)))).symm
    have b6332 : x6051 = fI H6314 iq (3) := (b6311).trans (Wr.neI wH6314 (Or.inl (G_ne giq ga0 (by decide)))).symm
    have b6333 : x6154 = fI H6314 iq (4) := (b6312).trans (Wr.neI wH6314 (Or.inl (G_ne giq ga0 (by decide)))).symm
    have b6334 : x6259 = fI H6314 iq (5) := (p6313).trans (Wr.neI wH6314 (Or.inl (G_ne giq ga0 (by decide)))).symm
    have f6335 : ∀ j : Nat, fI H6314 q64 j = fI s.heap q64 j := fun j => (Wr.neI wH6314 (Or.inl (G_ne gq64 ga0 (by decide)))).trans (f6279 j)
    have f6336 : ∀ j : Nat, fI H6314 q66 j = fI s.heap q66 j := fun j => (Wr.neI wH6314 (Or.inl (G_ne gq66 ga0 (by decide)))).trans (f6280 j)
    have f6337 : ∀ j : Nat, fI H6314 q67 j = fI s.heap q67 j := fun j => (Wr.neI wH6314 (Or.inl (G_ne gq67 ga0 (by decide)))).trans (f6281 j)
    have m6338 := m6261.trans (Wr.neR wH6314 (Or.inr (x_apart hKT hts inX10 tyX10 tyX10_ok nmX10 rfl 73 65 (by decide) (by decide) (by decide)))).symm
    have m6339 := m6283.trans (Wr.neR wH6314 (Or.inr (x_apart hKT hts inX10 tyX10 tyX10_ok nmX10 rfl 4 65 (by decide) (by decide) (by decide)))).symm
    have m6340 := m6284.trans (Wr.neR wH6314 (Or.inr (x_apart hKT hts inX10 tyX10 tyX10_ok nmX10 rfl 10 65 (by decide) (by decide) (by decide)))).symm
    have m6341 := m6285.trans (Wr.neR wH6314 (Or.inr (x_apart hKT hts inX10 tyX10 tyX10_ok nmX10 rfl 16 65 (by decide) (by decide) (by decide)))).symm
    have m6342 := m6286.trans (Wr.neR wH6314 (Or.inr (x_apart hKT hts inX10 tyX10 tyX10_ok nmX10 rfl 24 65 (by decide) (by decide) (by decide)))).symm
    have m6343 := m6287.trans (Wr.neR wH6314 (Or.inr (x_apart hKT hts inX10 tyX10 tyX10_ok nmX10 rfl 27 65 (by decide) (by decide) (by decide)))).symm
    have m6344 := m6288.trans (Wr.neR wH6314 (Or.inr (x_apart hKT hts inX10 tyX10 tyX10_ok nmX10 rfl 29 65 (by decide) (by decide) (by decide)))).symm
    have m6345 := m6289.trans (Wr.neR wH6314 (Or.inr (x_apart hKT hts inX10 tyX10 tyX10_ok nmX10 rfl 30 65 (by decide) (by decide) (by decide)))).symm
    have m6346 := m6290.trans (Wr.neR wH6314 (Or.inr (x_apart hKT hts inX10 tyX10 tyX10_ok nmX10 rfl 31 65 (by decide) (by decide) (by decide)))).symm
    have m6347 := m6291.trans (Wr.neR wH6314 (Or.inr (x_apart hKT hts inX10 tyX10 tyX10_ok nmX10 rfl 32 65 (by decide) (by decide) (by decide)))).symm
    have m6348 := m6292.trans (Wr.neR wH6314 (Or.inr (x_apart hKT hts inX10 tyX10 tyX10_ok nmX10 rfl 33 65 (by decide) (by decide) (by decide)))).symm
    have m6349 := m6293.trans (Wr.neR wH6314 (Or.inr (x_apart hKT hts inX10 tyX10 tyX10_ok nmX10 rfl 50 65 (by decide) (by decide) (by decide)))).symm
    have m6350 := m6294.trans (Wr.neR wH6314 (Or.inr (x_apart hKT hts inX10 tyX10 tyX10_ok nmX10 rfl 64 65 (by decide) (by decide) (by decide)))).symm
    have m6351 := m6295.trans (Wr.neR wH6314 (Or.inr (x_apart hKT hts inX10 tyX10 tyX10_ok nmX10 rfl 66 65 (by decide) (by decide) (by decide)))).symm
    have m6352 := m6296.trans (Wr.neR wH6314 (Or.inr (x_apart hKT hts inX10 tyX10 tyX10_ok nmX10 rfl 67 65 (by decide) (by decide) (by decide)))).symm
    have m6354 := (Wr.neI wH6314 (Or.inr (x_apart hKT hts inX10 tyX10 tyX10_ok nmX10 rfl 0 65 (by decide) (by decide) (by decide)))).trans m6298
    have m6355 := m6299.trans (Wr.neI wH6314 (Or.inr (x_apart hKT hts inX10 tyX10 tyX10_ok nmX10 rfl 71 65 (by decide) (by decide) (by decide)))).symm
    have m6356 := (Wr.neI wH6314 (Or.inr (x_apart hKT hts inX10 tyX10 tyX10_ok nmX10 rfl 70 65 (by decide) (by decide) (by decide)))).trans m6300
    have m6357 := m6301.trans (Wr.neI wH6314 (Or.inr (x_apart hKT hts inX10 tyX10 tyX10_ok nmX10 rfl 1 65 (by decide) (by decide) (by decide)))).symm
    have m6358 := m6302.trans (Wr.neI wH6314 (Or.inr (x_apart hKT hts inX10 tyX10 tyX10_ok nmX10 rfl 2 65 (by decide) (by decide) (by decide)))).symm
    have m6359 := m6303.trans (Wr.neI wH6314 (Or.inr (x_apart hKT hts inX10 tyX10 tyX10_ok nmX10 rfl 3 65 (by decide) (by decide) (by decide)))).symm
    have m6360 := m6304.trans (Wr.neI wH6314 (Or.inr (x_apart hKT hts inX10 tyX10 tyX10_ok nmX10 rfl 59 65 (by decide) (by decide) (by decide)))).symm
    have m6361 := m6305.trans (Wr.neI wH6314 (Or.inr (x_apart hKT hts inX10 tyX10 tyX10_ok nmX10 rfl 62 65 (by decide) (by decide) (by decide)))).symm
    have m6362 := ex6260.trans (Wr.neI wH6314 (Or.inr (x_apart hKT hts inX10 tyX10 tyX10_ok nmX10 rfl 72 65 (by decide) (by decide) (by decide)))).symm
    have m6363 := Wr.I wH6314
    have m6363 := m6363.symm
    clear b6268 b6269 b6270 b6271 b6272 b6273 b6274 b6275 b6276 b6277 b6278 b6307 b6308 b6309 b6310 b6311 b6312 ex6260 f6279 f6280 f6281 g6262 hTH6258 m6261 m6283 m6284 m6285 m6286 m6287 m6288 m6289 m6290 m6291 m6292 m6293 m6294 m6295 m6296 m6297 m6298 m6299 m6300 m6301 m6302 m6303 m6304 m6305 mf6306 p6313
    refine lv_aload_n hx hb dX10_image_105 rfl (lv_at hl 0 rfl) ?_
    refine x_V (As := []) (rest := []) C (a_X10_keepsBars l K G H6314 (x6260) (x1) hTH6314 ga0 giq m6338 gq4 m6339 gq10 m6340 gq16 m6341 gq50 m6349 m6362 m6355 g6316 (by and_intros <;> first | assumption | omega) (fun h0 => IMw.congr (b6328 h0) hIW)) yo_X10_keepsBars wM_X10_479 ⟨⟨by decide, by decide⟩, by decide, by decide⟩ (x_rv C hTH6314 (ci := 10) rfl ga0 rg_112) rfl hl.1 rfl (Nat.le_of_ble_eq_true rfl) dX10_image_106 hSH6314 (AE_sub (fun _ _ => rfl) (by decide) hSH6314.1) (fun vH6364 H6364 locsH6364 pH6364 zH6364 kH6364 hSH6364 => ?_)
    obtain ⟨x6365, hvH6364, ex6365, hrH6364, m6366, m6367, m6368, m6369, m6370, g6371, mf6372, m6373, m6374, m6375, m6376, m6377, m6378, m6379, m6380, hTH6364⟩ := pH6364
    subst hvH6364
    clear zH6364
    replace m6366 := EQN.mk m6366
    replace m6367 := EQN.mk m6367
    replace m6368 := EQN.mk m6368
    replace m6369 := EQN.mk m6369
    replace m6370 := EQN.mk m6370
    have b6381 : UN (x1.toInt ≠ 0) (fun k => fI H6364 q24 k) (fun k => fI s.heap q24 k) := UN.congr (fun j => fI_kept (x_lt hTH6314 kH6364 gq24 (by decide))) b6319
    have b6382 : UN (x1.toInt ≠ 0) (fun k => fI H6364 q29 k) (fun k => fI s.heap q29 k) := UN.congr (fun j => fI_kept (x_lt hTH6314 kH6364 gq29 (by decide))) b6320
    have b6383 : UN (x1.toInt ≠ 0) (fun k => fI H6364 q30 k) (fun k => fI s.heap q30 k) := UN.congr (fun j => fI_kept (x_lt hTH6314 kH6364 gq30 (by decide))) b6321
    have b6384 : UN (x1.toInt ≠ 0) (fun k => fI H6364 q31 k) (fun k => fI s.heap q31 k) := UN.congr (fun j => fI_kept (x_lt hTH6314 kH6364 gq31 (by decide))) b6322
    have b6385 : UN (x1.toInt ≠ 0) (fun k => fI H6364 q32 k) (fun k => fI s.heap q32 k) := UN.congr (fun j => fI_kept (x_lt hTH6314 kH6364 gq32 (by decide))) b6323
    have b6386 : UN (x1.toInt ≠ 0) (fun k => fI H6364 q33 k) (fun k => fI s.heap q33 k) := UN.congr (fun j => fI_kept (x_lt hTH6314 kH6364 gq33 (by decide))) b6324
    have b6387 : UN (x1.toInt ≠ 0) (fun k => fI H6364 q64 k) (fun k => fI s.heap q64 k) := UN.congr (fun j => fI_kept (x_lt hTH6314 kH6364 gq64 (by decide))) b6325
    have b6388 : UN (x1.toInt ≠ 0) (fun k => fI H6364 q66 k) (fun k => fI s.heap q66 k) := UN.congr (fun j => fI_kept (x_lt hTH6314 kH6364 gq66 (by decide))) b6326
    have b6389 : UN (x1.toInt ≠ 0) (fun k => fI H6364 q67 k) (fun k => fI s.heap q67 k) := UN.congr (fun j => fI_kept (x_lt hTH6314 kH6364 gq67 (by decide))) b6327
    have f6390 : ∀ j : Nat, fI H6364 q64 j = fI s.heap q64 j := fun j => (fI_kept (x_lt hTH6314 kH6364 gq64 (by decide))).trans (f6335 j)
    have f6391 : ∀ j : Nat, fI H6364 q66 j = fI s.heap q66 j := fun j => (fI_kept (x_lt hTH6314 kH6364 gq66 (by decide))).trans (f6336 j)
    have f6392 : ∀ j : Nat, fI H6364 q67 j = fI s.heap q67 j := fun j => (fI_kept (x_lt hTH6314 kH6364 gq67 (by decide))).trans (f6337 j)
    have m6393 := (m6338).trans (MF.r mf6372 (k := 73) (by decide) (by decide)).symm
    have m6394 := (m6339).trans (MF.r mf6372 (k := 4) (by decide) (by decide)).symm
    have m6395 := (m6340).trans (MF.r mf6372 (k := 10) (by decide) (by decide)).symm
    have m6396 := (m6341).trans (MF.r mf6372 (k := 16) (by decide) (by decide)).symm
    have m6397 := (m6342).trans (MF.r mf6372 (k := 24) (by decide) (by decide)).symm
    have m6398 := (m6343).trans (MF.r mf6372 (k := 27) (by decide) (by decide)).symm
    have m6399 := (m6344).trans (MF.r mf6372 (k := 29) (by decide) (by decide)).symm
    have m6400 := (m6345).trans (MF.r mf6372 (k := 30) (by decide) (by decide)).symm
    have m6401 := (m6346).trans (MF.r mf6372 (k := 31) (by decide) (by decide)).symm
    have m6402 := (m6347).trans (MF.r mf6372 (k := 32) (by decide) (by decide)).symm
    have m6403 := (m6348).trans (MF.r mf6372 (k := 33) (by decide) (by decide)).symm
    have m6404 := (m6349).trans (MF.r mf6372 (k := 50) (by decide) (by decide)).symm
    have m6405 := (m6350).trans (MF.r mf6372 (k := 64) (by decide) (by decide)).symm
    have m6406 := (m6351).trans (MF.r mf6372 (k := 66) (by decide) (by decide)).symm
    have m6407 := (m6352).trans (MF.r mf6372 (k := 67) (by decide) (by decide)).symm
    have m6408 := (MF.i mf6372 (k := 0) (by decide) (by decide)).trans m6354
    have m6409 := (m6355).trans (MF.i mf6372 (k := 71) (by decide) (by decide)).symm
    have m6410 := (MF.i mf6372 (k := 70) (by decide) (by decide)).trans m6356
    have m6411 := (m6357).trans (MF.i mf6372 (k := 1) (by decide) (by decide)).symm
    have m6412 := (m6358).trans (MF.i mf6372 (k := 2) (by decide) (by decide)).symm
    have m6413 := (m6359).trans (MF.i mf6372 (k := 3) (by decide) (by decide)).symm
    have m6414 := (m6360).trans (MF.i mf6372 (k := 59) (by decide) (by decide)).symm
    have m6415 := (m6361).trans (MF.i mf6372 (k := 62) (by decide) (by decide)).symm
    have m6416 := (m6363).trans (MF.i mf6372 (k := 65) (by decide) (by decide)).symm
    have mf6417 : MF K s.heap H6364 a0 [0, 1, 2, 3, 59, 62, 65, 70, 71, 72] := MF.trans mf6315 mf6372 (by decide)
    have bx6365 := ty_fi (x := x6365) (k := 72) ex6365 hTH6364 ga0 rg_112 rfl
    have b6418 : UN (x1.toInt ≠ 0) (fun k => fI H6364 q4 k) (fun k => fI s.heap q4 k) := UN.tr m6379 b6317
    have b6419 : UN (x1.toInt ≠ 0) (fun k => fI H6364 q16 k) (fun k => fI s.heap q16 k) := UN.tr m6380 b6318
    have b6420 : UN (x1.toInt = 0) (fun k => fI H6364 iq k) (fun k => fI s.heap iq k) := UN.tr m6373 b6328
    have b6421 : x5754 = fI H6364 iq (0) := (b6329).trans (m6374 _ (by omega)).symm
    have b6422 : x5851 = fI H6364 iq (1) := (b6330).trans (m6374 _ (by omega)).symm
    have b6423 : x5950 = fI H6364 iq (2) := (b6331).trans (m6374 _ (by omega)).symm
    have b6424 : x6051 = fI H6364 iq (3) := (b6332).trans (m6374 _ (by omega)).symm
    have b6425 : x6154 = fI H6364 iq (4) := (b6333).trans (m6374 _ (by omega)).symm
    have b6426 : x6259 = fI H6364 iq (5) := (b6334).trans (m6374 _ (by omega)).symm
    refine W.eq (g2 := F0 m 109 ls []) rfl ?_
    refine lv_aload_n hx hb dX10_image_109 rfl (lv_at hl 0 rfl) ?_
    refine x_V (As := []) (rest := []) C (a_X10_keepsTaps l K G H6364 (x6365) (x1) hTH6364 ga0 giq m6366 gq64 m6405 gq66 m6406 gq67 m6407 ex6365 m6409 g6371 (by and_intros <;> first | assumption | omega) (fun h0 => IMw.congr (b6420 h0) hIW)) yo_X10_keepsTaps wM_X10_482 ⟨⟨by decide, by decide⟩, by decide, by decide⟩ (x_rv C hTH6364 (ci := 10) rfl ga0 rg_112) rfl hl.1 rfl (Nat.le_of_ble_eq_true rfl) dX10_image_110 hSH6364 (AE_sub (fun _ _ => rfl) (by decide) hSH6364.1) (fun vH6427 H6427 locsH6427 pH6427 zH6427 kH6427 hSH6427 => ?_)
    obtain ⟨x6428, hvH6427, ex6428, hrH6427, m6429, m6430, m6431, m6432, g6433, mf6434, m6435, m6436, m6437, m6438, m6439, m6440, m6441, m6442, hTH6427⟩ := pH6427
    subst hvH6427
    clear zH6427
    replace m6429 := EQN.mk m6429
    replace m6430 := EQN.mk m6430
    replace m6431 := EQN.mk m6431
    replace m6432 := EQN.mk m6432
    have b6443 : UN (x1.toInt ≠ 0) (fun k => fI H6427 q24 k) (fun k => fI s.heap q24 k) := UN.congr (fun j => fI_kept (x_lt hTH6364 kH6427 gq24 (by decide))) b6381
    have b6444 : UN (x1.toInt ≠ 0) (fun k => fI H6427 q29 k) (fun k => fI s.heap q29 k) := UN.congr (fun j => fI_kept (x_lt hTH6364 kH6427 gq29 (by decide))) b6382
    have b6445 : UN (x1.toInt ≠ 0) (fun k => fI H6427 q30 k) (fun k => fI s.heap q30 k) := UN.congr (fun j => fI_kept (x_lt hTH6364 kH6427 gq30 (by decide))) b6383
    have b6446 : UN (x1.toInt ≠ 0) (fun k => fI H6427 q31 k) (fun k => fI s.heap q31 k) := UN.congr (fun j => fI_kept (x_lt hTH6364 kH6427 gq31 (by decide))) b6384
    have b6447 : UN (x1.toInt ≠ 0) (fun k => fI H6427 q32 k) (fun k => fI s.heap q32 k) := UN.congr (fun j => fI_kept (x_lt hTH6364 kH6427 gq32 (by decide))) b6385
    have b6448 : UN (x1.toInt ≠ 0) (fun k => fI H6427 q33 k) (fun k => fI s.heap q33 k) := UN.congr (fun j => fI_kept (x_lt hTH6364 kH6427 gq33 (by decide))) b6386
    have b6449 : UN (x1.toInt ≠ 0) (fun k => fI H6427 q4 k) (fun k => fI s.heap q4 k) := UN.congr (fun j => fI_kept (x_lt hTH6364 kH6427 gq4 (by decide))) b6418
    have b6450 : UN (x1.toInt ≠ 0) (fun k => fI H6427 q16 k) (fun k => fI s.heap q16 k) := UN.congr (fun j => fI_kept (x_lt hTH6364 kH6427 gq16 (by decide))) b6419
    have m6451 := (m6366).trans (MF.r mf6434 (k := 73) (by decide) (by decide)).symm
    have m6452 := (m6367).trans (MF.r mf6434 (k := 4) (by decide) (by decide)).symm
    have m6453 := (m6368).trans (MF.r mf6434 (k := 10) (by decide) (by decide)).symm
    have m6454 := (m6369).trans (MF.r mf6434 (k := 16) (by decide) (by decide)).symm
    have m6455 := (m6397).trans (MF.r mf6434 (k := 24) (by decide) (by decide)).symm
    have m6456 := (m6398).trans (MF.r mf6434 (k := 27) (by decide) (by decide)).symm
    have m6457 := (m6399).trans (MF.r mf6434 (k := 29) (by decide) (by decide)).symm
    have m6458 := (m6400).trans (MF.r mf6434 (k := 30) (by decide) (by decide)).symm
    have m6459 := (m6401).trans (MF.r mf6434 (k := 31) (by decide) (by decide)).symm
    have m6460 := (m6402).trans (MF.r mf6434 (k := 32) (by decide) (by decide)).symm
    have m6461 := (m6403).trans (MF.r mf6434 (k := 33) (by decide) (by decide)).symm
    have m6462 := (m6370).trans (MF.r mf6434 (k := 50) (by decide) (by decide)).symm
    have m6463 := (m6405).trans (MF.r mf6434 (k := 64) (by decide) (by decide)).symm
    have m6464 := (m6406).trans (MF.r mf6434 (k := 66) (by decide) (by decide)).symm
    have m6465 := (m6407).trans (MF.r mf6434 (k := 67) (by decide) (by decide)).symm
    have m6466 := (MF.i mf6434 (k := 0) (by decide) (by decide)).trans m6408
    have m6467 := (m6409).trans (MF.i mf6434 (k := 71) (by decide) (by decide)).symm
    have m6468 := (MF.i mf6434 (k := 70) (by decide) (by decide)).trans m6410
    have m6469 := (m6411).trans (MF.i mf6434 (k := 1) (by decide) (by decide)).symm
    have m6470 := (m6412).trans (MF.i mf6434 (k := 2) (by decide) (by decide)).symm
    have m6471 := (m6413).trans (MF.i mf6434 (k := 3) (by decide) (by decide)).symm
    have m6472 := (m6414).trans (MF.i mf6434 (k := 59) (by decide) (by decide)).symm
    have m6473 := (m6415).trans (MF.i mf6434 (k := 62) (by decide) (by decide)).symm
    have m6474 := (m6416).trans (MF.i mf6434 (k := 65) (by decide) (by decide)).symm
    have mf6475 : MF K s.heap H6427 a0 [0, 1, 2, 3, 59, 62, 65, 70, 71, 72] := MF.trans mf6417 mf6434 (by decide)
    have bx6428 := ty_fi (x := x6428) (k := 72) ex6428 hTH6427 ga0 rg_112 rfl
    have b6476 : UN (x1.toInt ≠ 0) (fun k => fI H6427 q64 k) (fun k => fI s.heap q64 k) := UN.tr m6440 b6387
    have b6477 : UN (x1.toInt ≠ 0) (fun k => fI H6427 q66 k) (fun k => fI s.heap q66 k) := UN.tr m6441 b6388
    have b6478 : UN (x1.toInt ≠ 0) (fun k => fI H6427 q67 k) (fun k => fI s.heap q67 k) := UN.tr m6442 b6389
    have b6479 : UN (x1.toInt = 0) (fun k => fI H6427 iq k) (fun k => fI s.heap iq k) := UN.tr m6435 b6420
    have b6480 : x5754 = fI H6427 iq (0) := (b6421).trans (m6436 _ (by omega)).symm
    have b6481 : x5851 = fI H6427 iq (1) := (b6422).trans (m6436 _ (by omega)).symm
    have b6482 : x5950 = fI H6427 iq (2) := (b6423).trans (m6436 _ (by omega)).symm
    have b6483 : x6051 = fI H6427 iq (3) := (b6424).trans (m6436 _ (by omega)).symm
    have b6484 : x6154 = fI H6427 iq (4) := (b6425).trans (m6436 _ (by omega)).symm
    have b6485 : x6259 = fI H6427 iq (5) := (b6426).trans (m6436 _ (by omega)).symm
    have b6486 : EQ (fun k => fI H6427 q4 k) (fun k => fI H6427 iq k) (6) (6) (10) := EQ.fb (EQ.congr (w1 := fun k => fI H6364 iq k) (fun j => fI_kept (x_lt hTH6364 kH6427 gq4 (by decide))) (fun _ => rfl) m6375) m6436 (fun j hj => by omega)
    have b6487 : EQ (fun k => fI H6427 q10 k) (fun k => fI H6427 iq k) (7) (6) (10) := EQ.fb (EQ.congr (w1 := fun k => fI H6364 iq k) (fun j => fI_kept (x_lt hTH6364 kH6427 gq10 (by decide))) (fun _ => rfl) m6376) m6436 (fun j hj => by omega)
    have b6488 : EQ (fun k => fI H6427 q50 k) (fun k => fI H6427 iq k) (11) (6) (10) := EQ.fb (EQ.congr (w1 := fun k => fI H6364 iq k) (fun j => fI_kept (x_lt hTH6364 kH6427 gq50 (by decide))) (fun _ => rfl) m6377) m6436 (fun j hj => by omega)
    have b6489 : EQ (fun k => fI H6427 q16 k) (fun k => fI H6427 iq k) (736) (3) (20) := EQ.fb (EQ.congr (w1 := fun k => fI H6364 iq k) (fun j => fI_kept (x_lt hTH6364 kH6427 gq16 (by decide))) (fun _ => rfl) m6378) m6436 (fun j hj => by omega)
    refine W.eq (g2 := F0 m 113 ls []) rfl ?_
    refine lv_aload_n hx hb dX10_image_113 rfl (lv_at hl 0 rfl) ?_
    refine x_V (As := []) (rest := []) C (a_X10_keepsTexts l K G H6427 (x6428) (x1) hTH6427 ga0 giq m6429 gq24 m6455 gq27 m6456 gq29 m6457 gq30 m6458 gq31 m6459 gq32 m6460 gq33 m6461 ex6428 m6467 g6433 (by and_intros <;> first | assumption | omega) (fun h0 => IMw.congr (b6479 h0) hIW)) yo_X10_keepsTexts wM_X10_485 ⟨⟨by decide, by decide⟩, by decide, by decide⟩ (x_rv C hTH6427 (ci := 10) rfl ga0 rg_112) rfl hl.1 rfl (Nat.le_of_ble_eq_true rfl) dX10_image_114 hSH6427 (AE_sub (fun _ _ => rfl) (by decide) hSH6427.1) (fun vH6490 H6490 locsH6490 pH6490 zH6490 kH6490 hSH6490 => ?_)
    obtain ⟨x6491, hvH6490, ex6491, hrH6490, m6492, m6493, m6494, m6495, m6496, m6497, m6498, m6499, g6500, mf6501, m6502, m6503, m6504, m6505, m6506, m6507, m6508, m6509, m6510, m6511, m6512, m6513, m6514, m6515, m6516, hTH6490⟩ := pH6490
    subst hvH6490
    clear zH6490
    replace m6492 := EQN.mk m6492
    replace m6493 := EQN.mk m6493
    replace m6494 := EQN.mk m6494
    replace m6495 := EQN.mk m6495
    replace m6496 := EQN.mk m6496
    replace m6497 := EQN.mk m6497
    replace m6498 := EQN.mk m6498
    replace m6499 := EQN.mk m6499
    have b6517 : UN (x1.toInt ≠ 0) (fun k => fI H6490 q4 k) (fun k => fI s.heap q4 k) := UN.congr (fun j => fI_kept (x_lt hTH6427 kH6490 gq4 (by decide))) b6449
    have b6518 : UN (x1.toInt ≠ 0) (fun k => fI H6490 q16 k) (fun k => fI s.heap q16 k) := UN.congr (fun j => fI_kept (x_lt hTH6427 kH6490 gq16 (by decide))) b6450
    have b6519 : UN (x1.toInt ≠ 0) (fun k => fI H6490 q64 k) (fun k => fI s.heap q64 k) := UN.congr (fun j => fI_kept (x_lt hTH6427 kH6490 gq64 (by decide))) b6476
    have b6520 : UN (x1.toInt ≠ 0) (fun k => fI H6490 q66 k) (fun k => fI s.heap q66 k) := UN.congr (fun j => fI_kept (x_lt hTH6427 kH6490 gq66 (by decide))) b6477
    have b6521 : UN (x1.toInt ≠ 0) (fun k => fI H6490 q67 k) (fun k => fI s.heap q67 k) := UN.congr (fun j => fI_kept (x_lt hTH6427 kH6490 gq67 (by decide))) b6478
    have m6522 := (m6429).trans (MF.r mf6501 (k := 73) (by decide) (by decide)).symm
    have m6523 := (m6452).trans (MF.r mf6501 (k := 4) (by decide) (by decide)).symm
    have m6524 := (m6453).trans (MF.r mf6501 (k := 10) (by decide) (by decide)).symm
    have m6525 := (m6454).trans (MF.r mf6501 (k := 16) (by decide) (by decide)).symm
    have m6526 := (m6455).trans (MF.r mf6501 (k := 24) (by decide) (by decide)).symm
    have m6527 := (m6456).trans (MF.r mf6501 (k := 27) (by decide) (by decide)).symm
    have m6528 := (m6457).trans (MF.r mf6501 (k := 29) (by decide) (by decide)).symm
    have m6529 := (m6458).trans (MF.r mf6501 (k := 30) (by decide) (by decide)).symm
    have m6530 := (m6459).trans (MF.r mf6501 (k := 31) (by decide) (by decide)).symm
    have m6531 := (m6460).trans (MF.r mf6501 (k := 32) (by decide) (by decide)).symm
    have m6532 := (m6461).trans (MF.r mf6501 (k := 33) (by decide) (by decide)).symm
    have m6533 := (m6462).trans (MF.r mf6501 (k := 50) (by decide) (by decide)).symm
    have m6534 := (m6430).trans (MF.r mf6501 (k := 64) (by decide) (by decide)).symm
    have m6535 := (m6431).trans (MF.r mf6501 (k := 66) (by decide) (by decide)).symm
    have m6536 := (m6432).trans (MF.r mf6501 (k := 67) (by decide) (by decide)).symm
    have m6537 := (MF.i mf6501 (k := 0) (by decide) (by decide)).trans m6466
    have m6538 := (m6467).trans (MF.i mf6501 (k := 71) (by decide) (by decide)).symm
    have m6539 := (MF.i mf6501 (k := 70) (by decide) (by decide)).trans m6468
    have m6540 := (m6469).trans (MF.i mf6501 (k := 1) (by decide) (by decide)).symm
    have m6541 := (m6470).trans (MF.i mf6501 (k := 2) (by decide) (by decide)).symm
    have m6542 := (m6471).trans (MF.i mf6501 (k := 3) (by decide) (by decide)).symm
    have m6543 := (m6472).trans (MF.i mf6501 (k := 59) (by decide) (by decide)).symm
    have m6544 := (m6473).trans (MF.i mf6501 (k := 62) (by decide) (by decide)).symm
    have m6545 := (m6474).trans (MF.i mf6501 (k := 65) (by decide) (by decide)).symm
    have mf6546 : MF K s.heap H6490 a0 [0, 1, 2, 3, 59, 62, 65, 70, 71, 72] := MF.trans mf6475 mf6501 (by decide)
    have bx6491 := ty_fi (x := x6491) (k := 72) ex6491 hTH6490 ga0 rg_112 rfl
    have b6547 : UN (x1.toInt ≠ 0) (fun k => fI H6490 q24 k) (fun k => fI s.heap q24 k) := UN.tr m6511 b6443
    have b6548 : UN (x1.toInt ≠ 0) (fun k => fI H6490 q29 k) (fun k => fI s.heap q29 k) := UN.tr m6512 b6444
    have b6549 : UN (x1.toInt ≠ 0) (fun k => fI H6490 q30 k) (fun k => fI s.heap q30 k) := UN.tr m6513 b6445
    have b6550 : UN (x1.toInt ≠ 0) (fun k => fI H6490 q31 k) (fun k => fI s.heap q31 k) := UN.tr m6514 b6446
    have b6551 : UN (x1.toInt ≠ 0) (fun k => fI H6490 q32 k) (fun k => fI s.heap q32 k) := UN.tr m6515 b6447
    have b6552 : UN (x1.toInt ≠ 0) (fun k => fI H6490 q33 k) (fun k => fI s.heap q33 k) := UN.tr m6516 b6448
    have b6553 : UN (x1.toInt = 0) (fun k => fI H6490 iq k) (fun k => fI s.heap iq k) := UN.tr m6502 b6479
    have b6554 : x5754 = fI H6490 iq (0) := (b6480).trans (m6503 _ (by omega)).symm
    have b6555 : x5851 = fI H6490 iq (1) := (b6481).trans (m6503 _ (by omega)).symm
    have b6556 : x5950 = fI H6490 iq (2) := (b6482).trans (m6503 _ (by omega)).symm
    have b6557 : x6051 = fI H6490 iq (3) := (b6483).trans (m6503 _ (by omega)).symm
    have b6558 : x6154 = fI H6490 iq (4) := (b6484).trans (m6503 _ (by omega)).symm
    have b6559 : x6259 = fI H6490 iq (5) := (b6485).trans (m6503 _ (by omega)).symm
    have b6560 : EQ (fun k => fI H6490 q4 k) (fun k => fI H6490 iq k) (6) (6) (10) := EQ.fb (EQ.congr (w1 := fun k => fI H6427 iq k) (fun j => fI_kept (x_lt hTH6427 kH6490 gq4 (by decide))) (fun _ => rfl) b6486) m6503 (fun j hj => by omega)
    have b6561 : EQ (fun k => fI H6490 q10 k) (fun k => fI H6490 iq k) (7) (6) (10) := EQ.fb (EQ.congr (w1 := fun k => fI H6427 iq k) (fun j => fI_kept (x_lt hTH6427 kH6490 gq10 (by decide))) (fun _ => rfl) b6487) m6503 (fun j hj => by omega)
    have b6562 : EQ (fun k => fI H6490 q50 k) (fun k => fI H6490 iq k) (11) (6) (10) := EQ.fb (EQ.congr (w1 := fun k => fI H6427 iq k) (fun j => fI_kept (x_lt hTH6427 kH6490 gq50 (by decide))) (fun _ => rfl) b6488) m6503 (fun j hj => by omega)
    have b6563 : EQ (fun k => fI H6490 q16 k) (fun k => fI H6490 iq k) (736) (3) (20) := EQ.fb (EQ.congr (w1 := fun k => fI H6427 iq k) (fun j => fI_kept (x_lt hTH6427 kH6490 gq16 (by decide))) (fun _ => rfl) b6489) m6503 (fun j hj => by omega)
    have b6564 : EQ (fun k => fI H6490 q64 k) (fun k => fI H6490 iq k) (8877) (4) (8) := EQ.fb (EQ.congr (w1 := fun k => fI H6427 iq k) (fun j => fI_kept (x_lt hTH6427 kH6490 gq64 (by decide))) (fun _ => rfl) m6437) m6503 (fun j hj => by omega)
    have b6565 : EQ (fun k => fI H6490 q66 k) (fun k => fI H6490 iq k) (8878) (4) (8) := EQ.fb (EQ.congr (w1 := fun k => fI H6427 iq k) (fun j => fI_kept (x_lt hTH6427 kH6490 gq66 (by decide))) (fun _ => rfl) m6438) m6503 (fun j hj => by omega)
    have b6566 : EQ (fun k => fI H6490 q67 k) (fun k => fI H6490 iq k) (8879) (4) (8) := EQ.fb (EQ.congr (w1 := fun k => fI H6427 iq k) (fun j => fI_kept (x_lt hTH6427 kH6490 gq67 (by decide))) (fun _ => rfl) m6439) m6503 (fun j hj => by omega)
    refine W.eq (g2 := F0 m 117 ls []) rfl ?_
    have fin := im_fin (H0 := s.heap) (tk := x1) hTH6490 ga0 hg_CG hg_TU hg_IM ⟨EQ.av m6523 m6492 b6560, EQ.av m6524 m6492 b6561, EQ.av m6533 m6492 b6562, EQ.av m6525 m6492 b6563, EQ.av m6493 m6492 m6504, EQ.av m6494 m6492 m6505, EQ.av m6495 m6492 m6506, EQ.av m6496 m6492 m6507, EQ.av m6497 m6492 m6508, EQ.av m6498 m6492 m6509, EQ.av m6499 m6492 m6510⟩ (pl_av m6540 b6554 m6492) (pl_av m6541 b6555 m6492) (pl_av m6543 b6557 m6492) (pl_av m6544 b6558 m6492) (pl_av m6545 b6559 m6492) (fun h => (m6540.symm.trans (m5760 h)).trans es1) (all8 (UN.av m6523 eq4 b6517) (UN.av m6525 eq16 b6518) (UN.av m6493 eq24 b6547) (UN.av m6495 eq29 b6548) (UN.av m6496 eq30 b6549) (UN.av m6497 eq31 b6550) (UN.av m6498 eq32 b6551) (UN.av m6499 eq33 b6552)) (UN.av m6492 eiq b6553)
    refine lv_iconst (v := 1) hx hb dX10_image_117 (by decide) ?_
    exact x_zret C hQ (Or.inr rfl) dX10_image_118 hSH6490 (by decide) (by decide) (⟨1, 1, x5754, x5851, x5950, x6051, x6154, x6259, rfl, by decide, (m6539).symm, m6540, m6541, m6542, m6543, m6544, m6545, by omega, m6492, m6523, m6524, m6525, m6493, m6494, m6495, m6496, m6497, m6498, m6499, m6533, m6534, m6535, m6536, fin.1, fin.2.1, g6500, fin.2.2, mf6546, Or.inr ⟨b6554, b6555, b6556, b6557, b6558, b6559⟩, (fun h => ⟨m5760 h, m5857 h, m5956 h, m6057 h, m6160 h, m6265 h⟩), b6553, Or.inr b6564, b6519, (fun h => by exfalso; omega), Or.inr b6565, b6520, (fun h => by exfalso; omega), Or.inr b6566, b6521, (fun h => by exfalso; omega), hTH6490⟩)
  · have k5614 := i_eq c5613
    refine lv_aload_n hx hb dX10_image_9 rfl (lv_at hl 0 rfl) ?_
    refine x_gi C hTH5569 (ci := 10) (k := 70) rfl inX10 (by decide) wF_X10_476 ga0 rg_112 rfl dX10_image_10 (fun x6567 ex6567 bx6567 => ?_)
    have ux6567 : h70 = x6567 := (m5605).trans ex6567.symm
    subst ux6567
    refine lv_if_ne (tgt := 18) hx hb dX10_image_13 (by decide) (fun c6568 => ?_) (fun c6568 => ?_)
    · have k6569 := i_ne c6568
      refine lv_aload_n hx hb dX10_image_18 rfl (lv_at hl 0 rfl) ?_
      refine lv_iload_n hx hb dX10_image_19 rfl (lv_at hl 1 rfl) ?_
      refine x_put C hTH5569 hSH5569 (ci := 10) (k := 71) (v := .int x1) (ty0 := tyX10) rfl inX10 tyX10_ok nmX10 (by decide) rfl wF_X10_470 ga0 rg_112 rfl rfl (okI (by have := i_rng x1; omega) (by have := i_rng x1; omega)) (by rcases i_01 (x := x1) (by omega) with h | h <;> rw [h] <;> rfl) (by rcases i_01 (x := x1) (by omega) with h | h <;> rw [h] <;> rfl) (AE_in ga0 (by decide)) dX10_image_20 (fun H6570 locsH6570 hTH6570 hSH6570 wH6570 => ?_)
      have mf6571 : MF K s.heap H6570 a0 [0, 1, 2, 3, 59, 62, 65, 70, 71, 72] := MF.fld hap wH6570 (by decide) (by decide) mf5570
      have g6572 : CG (avw K H6570 a0) := CG.congr (fun k hk j => av_fld hTH5569 ga0 hap wH6570 (by decide) (CG_ok 112 (by decide) k hk) (CG_ne 71 (by decide) k hk)) g5571
      have g6573 : TU (avw K H6570 a0) (svw K H6570 a0) := TU.congr (fun k hk j => av_fld hTH5569 ga0 hap wH6570 (by decide) (TU_ok 112 (by decide) k hk) (TU_ne 71 (by decide) k hk)) (fun k hk => sv_fld hap wH6570 (by decide) (TU_slt k hk) (TU_sne 71 (by decide) k hk)) g5572
      have g6574 : WD (avw K H6570 a0) := WD.congr (fun k hk j => av_fld hTH5569 ga0 hap wH6570 (by decide) (WD_ok 112 (by decide) k hk) (WD_ne 71 (by decide) k hk)) g5573
      have g6575 : IM (avw K H6570 a0) := IM.congr (fun k hk j => av_fld hTH5569 ga0 hap wH6570 (by decide) (IM_ok 112 (by decide) k hk) (IM_ne 71 (by decide) k hk)) g5574
      have b6576 : UN (x1.toInt = 0) (fun k => fI H6570 iq k) (fun k => fI s.heap iq k) := UN.congr (fun j => Wr.neI wH6570 (Or.inl (G_ne giq ga0 (by decide)))) b5575
      have b6577 : UN (x1.toInt ≠ 0) (fun k => fI H6570 q4 k) (fun k => fI s.heap q4 k) := UN.congr (fun j => Wr.neI wH6570 (Or.inl (G_ne gq4 ga0 (by decide)))) b5576
      have b6578 : UN (x1.toInt ≠ 0) (fun k => fI H6570 q16 k) (fun k => fI s.heap q16 k) := UN.congr (fun j => Wr.neI wH6570 (Or.inl (G_ne gq16 ga0 (by decide)))) b5577
      have b6579 : UN (x1.toInt ≠ 0) (fun k => fI H6570 q24 k) (fun k => fI s.heap q24 k) := UN.congr (fun j => Wr.neI wH6570 (Or.inl (G_ne gq24 ga0 (by decide)))) b5578
      have b6580 : UN (x1.toInt ≠ 0) (fun k => fI H6570 q29 k) (fun k => fI s.heap q29 k) := UN.congr (fun j => Wr.neI wH6570 (Or.inl (G_ne gq29 ga0 (by decide)))) b5579
      have b6581 : UN (x1.toInt ≠ 0) (fun k => fI H6570 q30 k) (fun k => fI s.heap q30 k) := UN.congr (fun j => Wr.neI wH6570 (Or.inl (G_ne gq30 ga0 (by decide)))) b5580
      have b6582 : UN (x1.toInt ≠ 0) (fun k => fI H6570 q31 k) (fun k => fI s.heap q31 k) := UN.congr (fun j => Wr.neI wH6570 (Or.inl (G_ne gq31 ga0 (by decide)))) b5581
      have b6583 : UN (x1.toInt ≠ 0) (fun k => fI H6570 q32 k) (fun k => fI s.heap q32 k) := UN.congr (fun j => Wr.neI wH6570 (Or.inl (G_ne gq32 ga0 (by decide)))) b5582
      have b6584 : UN (x1.toInt ≠ 0) (fun k => fI H6570 q33 k) (fun k => fI s.heap q33 k) := UN.congr (fun j => Wr.neI wH6570 (Or.inl (G_ne gq33 ga0 (by decide)))) b5583
      have b6585 : UN (x1.toInt ≠ 0) (fun k => fI H6570 q64 k) (fun k => fI s.heap q64 k) := UN.congr (fun j => Wr.neI wH6570 (Or.inl (G_ne gq64 ga0 (by decide)))) b5584
      have b6586 : UN (x1.toInt ≠ 0) (fun k => fI H6570 q66 k) (fun k => fI s.heap q66 k) := UN.congr (fun j => Wr.neI wH6570 (Or.inl (G_ne gq66 ga0 (by decide)))) b5585
      have b6587 : UN (x1.toInt ≠ 0) (fun k => fI H6570 q67 k) (fun k => fI s.heap q67 k) := UN.congr (fun j => Wr.neI wH6570 (Or.inl (G_ne gq67 ga0 (by decide)))) b5586
      have f6588 : ∀ j : Nat, fI H6570 q64 j = fI s.heap q64 j := fun j => (Wr.neI wH6570 (Or.inl (G_ne gq64 ga0 (by decide)))).trans (f5587 j)
      have f6589 : ∀ j : Nat, fI H6570 q66 j = fI s.heap q66 j := fun j => (Wr.neI wH6570 (Or.inl (G_ne gq66 ga0 (by decide)))).trans (f5588 j)
      have f6590 : ∀ j : Nat, fI H6570 q67 j = fI s.heap q67 j := fun j => (Wr.neI wH6570 (Or.inl (G_ne gq67 ga0 (by decide)))).trans (f5589 j)
      have m6591 := m5590.trans (Wr.neR wH6570 (Or.inr (x_apart hKT hts inX10 tyX10 tyX10_ok nmX10 rfl 73 71 (by decide) (by decide) (by decide)))).symm
      have m6592 := m5591.trans (Wr.neR wH6570 (Or.inr (x_apart hKT hts inX10 tyX10 tyX10_ok nmX10 rfl 4 71 (by decide) (by decide) (by decide)))).symm
      have m6593 := m5592.trans (Wr.neR wH6570 (Or.inr (x_apart hKT hts inX10 tyX10 tyX10_ok nmX10 rfl 10 71 (by decide) (by decide) (by decide)))).symm
      have m6594 := m5593.trans (Wr.neR wH6570 (Or.inr (x_apart hKT hts inX10 tyX10 tyX10_ok nmX10 rfl 16 71 (by decide) (by decide) (by decide)))).symm
      have m6595 := m5594.trans (Wr.neR wH6570 (Or.inr (x_apart hKT hts inX10 tyX10 tyX10_ok nmX10 rfl 24 71 (by decide) (by decide) (by decide)))).symm
      have m6596 := m5595.trans (Wr.neR wH6570 (Or.inr (x_apart hKT hts inX10 tyX10 tyX10_ok nmX10 rfl 27 71 (by decide) (by decide) (by decide)))).symm
      have m6597 := m5596.trans (Wr.neR wH6570 (Or.inr (x_apart hKT hts inX10 tyX10 tyX10_ok nmX10 rfl 29 71 (by decide) (by decide) (by decide)))).symm
      have m6598 := m5597.trans (Wr.neR wH6570 (Or.inr (x_apart hKT hts inX10 tyX10 tyX10_ok nmX10 rfl 30 71 (by decide) (by decide) (by decide)))).symm
      have m6599 := m5598.trans (Wr.neR wH6570 (Or.inr (x_apart hKT hts inX10 tyX10 tyX10_ok nmX10 rfl 31 71 (by decide) (by decide) (by decide)))).symm
      have m6600 := m5599.trans (Wr.neR wH6570 (Or.inr (x_apart hKT hts inX10 tyX10 tyX10_ok nmX10 rfl 32 71 (by decide) (by decide) (by decide)))).symm
      have m6601 := m5600.trans (Wr.neR wH6570 (Or.inr (x_apart hKT hts inX10 tyX10 tyX10_ok nmX10 rfl 33 71 (by decide) (by decide) (by decide)))).symm
      have m6602 := m5601.trans (Wr.neR wH6570 (Or.inr (x_apart hKT hts inX10 tyX10 tyX10_ok nmX10 rfl 50 71 (by decide) (by decide) (by decide)))).symm
      have m6603 := m5602.trans (Wr.neR wH6570 (Or.inr (x_apart hKT hts inX10 tyX10 tyX10_ok nmX10 rfl 64 71 (by decide) (by decide) (by decide)))).symm
      have m6604 := m5603.trans (Wr.neR wH6570 (Or.inr (x_apart hKT hts inX10 tyX10 tyX10_ok nmX10 rfl 66 71 (by decide) (by decide) (by decide)))).symm
      have m6605 := m5604.trans (Wr.neR wH6570 (Or.inr (x_apart hKT hts inX10 tyX10 tyX10_ok nmX10 rfl 67 71 (by decide) (by decide) (by decide)))).symm
      have m6606 := m5605.trans (Wr.neI wH6570 (Or.inr (x_apart hKT hts inX10 tyX10 tyX10_ok nmX10 rfl 70 71 (by decide) (by decide) (by decide)))).symm
      have m6607 := m5606.trans (Wr.neI wH6570 (Or.inr (x_apart hKT hts inX10 tyX10 tyX10_ok nmX10 rfl 1 71 (by decide) (by decide) (by decide)))).symm
      have m6608 := m5607.trans (Wr.neI wH6570 (Or.inr (x_apart hKT hts inX10 tyX10 tyX10_ok nmX10 rfl 2 71 (by decide) (by decide) (by decide)))).symm
      have m6609 := m5608.trans (Wr.neI wH6570 (Or.inr (x_apart hKT hts inX10 tyX10 tyX10_ok nmX10 rfl 3 71 (by decide) (by decide) (by decide)))).symm
      have m6610 := m5609.trans (Wr.neI wH6570 (Or.inr (x_apart hKT hts inX10 tyX10 tyX10_ok nmX10 rfl 59 71 (by decide) (by decide) (by decide)))).symm
      have m6611 := m5610.trans (Wr.neI wH6570 (Or.inr (x_apart hKT hts inX10 tyX10 tyX10_ok nmX10 rfl 62 71 (by decide) (by decide) (by decide)))).symm
      have m6612 := m5611.trans (Wr.neI wH6570 (Or.inr (x_apart hKT hts inX10 tyX10 tyX10_ok nmX10 rfl 65 71 (by decide) (by decide) (by decide)))).symm
      have m6613 := (Wr.neI wH6570 (Or.inr (x_apart hKT hts inX10 tyX10 tyX10_ok nmX10 rfl 0 71 (by decide) (by decide) (by decide)))).trans m5612
      have m6614 := Wr.I wH6570
      have m6614 := m6614.symm
      clear b5575 b5576 b5577 b5578 b5579 b5580 b5581 b5582 b5583 b5584 b5585 b5586 f5587 f5588 f5589 g5571 g5572 g5573 g5574 hTH5569 m5590 m5591 m5592 m5593 m5594 m5595 m5596 m5597 m5598 m5599 m5600 m5601 m5602 m5603 m5604 m5605 m5606 m5607 m5608 m5609 m5610 m5611 m5612 mf5570
      refine lv_aload_n hx hb dX10_image_23 rfl (lv_at hl 0 rfl) ?_
      refine lv_iconst (v := 1) hx hb dX10_image_24 (by decide) ?_
      refine x_put C hTH6570 hSH6570 (ci := 10) (k := 70) (v := .int 1) (ty0 := tyX10) rfl inX10 tyX10_ok nmX10 (by decide) rfl wF_X10_476 ga0 rg_112 rfl rfl (okI (by have := i_rng (1 : Int32); omega) (by have := i_rng (1 : Int32); omega)) rfl rfl (AE_in ga0 (by decide)) dX10_image_25 (fun H6615 locsH6615 hTH6615 hSH6615 wH6615 => ?_)
      have mf6616 : MF K s.heap H6615 a0 [0, 1, 2, 3, 59, 62, 65, 70, 71, 72] := MF.fld hap wH6615 (by decide) (by decide) mf6571
      have g6617 : CG (avw K H6615 a0) := CG.congr (fun k hk j => av_fld hTH6570 ga0 hap wH6615 (by decide) (CG_ok 112 (by decide) k hk) (CG_ne 70 (by decide) k hk)) g6572
      have g6618 : TU (avw K H6615 a0) (svw K H6615 a0) := TU.congr (fun k hk j => av_fld hTH6570 ga0 hap wH6615 (by decide) (TU_ok 112 (by decide) k hk) (TU_ne 70 (by decide) k hk)) (fun k hk => sv_fld hap wH6615 (by decide) (TU_slt k hk) (TU_sne 70 (by decide) k hk)) g6573
      have g6619 : WD (avw K H6615 a0) := WD.congr (fun k hk j => av_fld hTH6570 ga0 hap wH6615 (by decide) (WD_ok 112 (by decide) k hk) (WD_ne 70 (by decide) k hk)) g6574
      have g6620 : IM (avw K H6615 a0) := IM.congr (fun k hk j => av_fld hTH6570 ga0 hap wH6615 (by decide) (IM_ok 112 (by decide) k hk) (IM_ne 70 (by decide) k hk)) g6575
      have b6621 : UN (x1.toInt = 0) (fun k => fI H6615 iq k) (fun k => fI s.heap iq k) := UN.congr (fun j => Wr.neI wH6615 (Or.inl (G_ne giq ga0 (by decide)))) b6576
      have b6622 : UN (x1.toInt ≠ 0) (fun k => fI H6615 q4 k) (fun k => fI s.heap q4 k) := UN.congr (fun j => Wr.neI wH6615 (Or.inl (G_ne gq4 ga0 (by decide)))) b6577
      have b6623 : UN (x1.toInt ≠ 0) (fun k => fI H6615 q16 k) (fun k => fI s.heap q16 k) := UN.congr (fun j => Wr.neI wH6615 (Or.inl (G_ne gq16 ga0 (by decide)))) b6578
      have b6624 : UN (x1.toInt ≠ 0) (fun k => fI H6615 q24 k) (fun k => fI s.heap q24 k) := UN.congr (fun j => Wr.neI wH6615 (Or.inl (G_ne gq24 ga0 (by decide)))) b6579
      have b6625 : UN (x1.toInt ≠ 0) (fun k => fI H6615 q29 k) (fun k => fI s.heap q29 k) := UN.congr (fun j => Wr.neI wH6615 (Or.inl (G_ne gq29 ga0 (by decide)))) b6580
      have b6626 : UN (x1.toInt ≠ 0) (fun k => fI H6615 q30 k) (fun k => fI s.heap q30 k) := UN.congr (fun j => Wr.neI wH6615 (Or.inl (G_ne gq30 ga0 (by decide)))) b6581
      have b6627 : UN (x1.toInt ≠ 0) (fun k => fI H6615 q31 k) (fun k => fI s.heap q31 k) := UN.congr (fun j => Wr.neI wH6615 (Or.inl (G_ne gq31 ga0 (by decide)))) b6582
      have b6628 : UN (x1.toInt ≠ 0) (fun k => fI H6615 q32 k) (fun k => fI s.heap q32 k) := UN.congr (fun j => Wr.neI wH6615 (Or.inl (G_ne gq32 ga0 (by decide)))) b6583
      have b6629 : UN (x1.toInt ≠ 0) (fun k => fI H6615 q33 k) (fun k => fI s.heap q33 k) := UN.congr (fun j => Wr.neI wH6615 (Or.inl (G_ne gq33 ga0 (by decide)))) b6584
      have b6630 : UN (x1.toInt ≠ 0) (fun k => fI H6615 q64 k) (fun k => fI s.heap q64 k) := UN.congr (fun j => Wr.neI wH6615 (Or.inl (G_ne gq64 ga0 (by decide)))) b6585
      have b6631 : UN (x1.toInt ≠ 0) (fun k => fI H6615 q66 k) (fun k => fI s.heap q66 k) := UN.congr (fun j => Wr.neI wH6615 (Or.inl (G_ne gq66 ga0 (by decide)))) b6586
      have b6632 : UN (x1.toInt ≠ 0) (fun k => fI H6615 q67 k) (fun k => fI s.heap q67 k) := UN.congr (fun j => Wr.neI wH6615 (Or.inl (G_ne gq67 ga0 (by decide)))) b6587
      have f6633 : ∀ j : Nat, fI H6615 q64 j = fI s.heap q64 j := fun j => (Wr.neI wH6615 (Or.inl (G_ne gq64 ga0 (by decide)))).trans (f6588 j)
      have f6634 : ∀ j : Nat, fI H6615 q66 j = fI s.heap q66 j := fun j => (Wr.neI wH6615 (Or.inl (G_ne gq66 ga0 (by decide)))).trans (f6589 j)
      have f6635 : ∀ j : Nat, fI H6615 q67 j = fI s.heap q67 j := fun j => (Wr.neI wH6615 (Or.inl (G_ne gq67 ga0 (by decide)))).trans (f6590 j)
      have m6636 := m6591.trans (Wr.neR wH6615 (Or.inr (x_apart hKT hts inX10 tyX10 tyX10_ok nmX10 rfl 73 70 (by decide) (by decide) (by decide)))).symm
      have m6637 := m6592.trans (Wr.neR wH6615 (Or.inr (x_apart hKT hts inX10 tyX10 tyX10_ok nmX10 rfl 4 70 (by decide) (by decide) (by decide)))).symm
      have m6638 := m6593.trans (Wr.neR wH6615 (Or.inr (x_apart hKT hts inX10 tyX10 tyX10_ok nmX10 rfl 10 70 (by decide) (by decide) (by decide)))).symm
      have m6639 := m6594.trans (Wr.neR wH6615 (Or.inr (x_apart hKT hts inX10 tyX10 tyX10_ok nmX10 rfl 16 70 (by decide) (by decide) (by decide)))).symm
      have m6640 := m6595.trans (Wr.neR wH6615 (Or.inr (x_apart hKT hts inX10 tyX10 tyX10_ok nmX10 rfl 24 70 (by decide) (by decide) (by decide)))).symm
      have m6641 := m6596.trans (Wr.neR wH6615 (Or.inr (x_apart hKT hts inX10 tyX10 tyX10_ok nmX10 rfl 27 70 (by decide) (by decide) (by decide)))).symm
      have m6642 := m6597.trans (Wr.neR wH6615 (Or.inr (x_apart hKT hts inX10 tyX10 tyX10_ok nmX10 rfl 29 70 (by decide) (by decide) (by decide)))).symm
      have m6643 := m6598.trans (Wr.neR wH6615 (Or.inr (x_apart hKT hts inX10 tyX10 tyX10_ok nmX10 rfl 30 70 (by decide) (by decide) (by decide)))).symm
      have m6644 := m6599.trans (Wr.neR wH6615 (Or.inr (x_apart hKT hts inX10 tyX10 tyX10_ok nmX10 rfl 31 70 (by decide) (by decide) (by decide)))).symm
      have m6645 := m6600.trans (Wr.neR wH6615 (Or.inr (x_apart hKT hts inX10 tyX10 tyX10_ok nmX10 rfl 32 70 (by decide) (by decide) (by decide)))).symm
      have m6646 := m6601.trans (Wr.neR wH6615 (Or.inr (x_apart hKT hts inX10 tyX10 tyX10_ok nmX10 rfl 33 70 (by decide) (by decide) (by decide)))).symm
      have m6647 := m6602.trans (Wr.neR wH6615 (Or.inr (x_apart hKT hts inX10 tyX10 tyX10_ok nmX10 rfl 50 70 (by decide) (by decide) (by decide)))).symm
      have m6648 := m6603.trans (Wr.neR wH6615 (Or.inr (x_apart hKT hts inX10 tyX10 tyX10_ok nmX10 rfl 64 70 (by decide) (by decide) (by decide)))).symm
      have m6649 := m6604.trans (Wr.neR wH6615 (Or.inr (x_apart hKT hts inX10 tyX10 tyX10_ok nmX10 rfl 66 70 (by decide) (by decide) (by decide)))).symm
      have m6650 := m6605.trans (Wr.neR wH6615 (Or.inr (x_apart hKT hts inX10 tyX10 tyX10_ok nmX10 rfl 67 70 (by decide) (by decide) (by decide)))).symm
      have m6652 := m6607.trans (Wr.neI wH6615 (Or.inr (x_apart hKT hts inX10 tyX10 tyX10_ok nmX10 rfl 1 70 (by decide) (by decide) (by decide)))).symm
      have m6653 := m6608.trans (Wr.neI wH6615 (Or.inr (x_apart hKT hts inX10 tyX10 tyX10_ok nmX10 rfl 2 70 (by decide) (by decide) (by decide)))).symm
      have m6654 := m6609.trans (Wr.neI wH6615 (Or.inr (x_apart hKT hts inX10 tyX10 tyX10_ok nmX10 rfl 3 70 (by decide) (by decide) (by decide)))).symm
      have m6655 := m6610.trans (Wr.neI wH6615 (Or.inr (x_apart hKT hts inX10 tyX10 tyX10_ok nmX10 rfl 59 70 (by decide) (by decide) (by decide)))).symm
      have m6656 := m6611.trans (Wr.neI wH6615 (Or.inr (x_apart hKT hts inX10 tyX10 tyX10_ok nmX10 rfl 62 70 (by decide) (by decide) (by decide)))).symm
      have m6657 := m6612.trans (Wr.neI wH6615 (Or.inr (x_apart hKT hts inX10 tyX10 tyX10_ok nmX10 rfl 65 70 (by decide) (by decide) (by decide)))).symm
      have m6658 := (Wr.neI wH6615 (Or.inr (x_apart hKT hts inX10 tyX10 tyX10_ok nmX10 rfl 0 70 (by decide) (by decide) (by decide)))).trans m6613
      have m6659 := m6614.trans (Wr.neI wH6615 (Or.inr (x_apart hKT hts inX10 tyX10 tyX10_ok nmX10 rfl 71 70 (by decide) (by decide) (by decide)))).symm
      have m6660 := Wr.I wH6615
      clear b6576 b6577 b6578 b6579 b6580 b6581 b6582 b6583 b6584 b6585 b6586 b6587 f6588 f6589 f6590 g6572 g6573 g6574 g6575 hTH6570 m6591 m6592 m6593 m6594 m6595 m6596 m6597 m6598 m6599 m6600 m6601 m6602 m6603 m6604 m6605 m6606 m6607 m6608 m6609 m6610 m6611 m6612 m6613 m6614 mf6571
      refine lv_aload_n hx hb dX10_image_28 rfl (lv_at hl 0 rfl) ?_
      refine lv_iconst (v := 0) hx hb dX10_image_29 (by decide) ?_
      refine x_put C hTH6615 hSH6615 (ci := 10) (k := 72) (v := .int 0) (ty0 := tyX10) rfl inX10 tyX10_ok nmX10 (by decide) rfl wF_X10_467 ga0 rg_112 rfl rfl (okI (by have := i_rng (0 : Int32); omega) (by have := i_rng (0 : Int32); omega)) rfl rfl (AE_in ga0 (by decide)) dX10_image_30 (fun H6661 locsH6661 hTH6661 hSH6661 wH6661 => ?_)
      have mf6662 : MF K s.heap H6661 a0 [0, 1, 2, 3, 59, 62, 65, 70, 71, 72] := MF.fld hap wH6661 (by decide) (by decide) mf6616
      have g6663 : CG (avw K H6661 a0) := CG.congr (fun k hk j => av_fld hTH6615 ga0 hap wH6661 (by decide) (CG_ok 112 (by decide) k hk) (CG_ne 72 (by decide) k hk)) g6617
      have g6664 : TU (avw K H6661 a0) (svw K H6661 a0) := TU.congr (fun k hk j => av_fld hTH6615 ga0 hap wH6661 (by decide) (TU_ok 112 (by decide) k hk) (TU_ne 72 (by decide) k hk)) (fun k hk => sv_fld hap wH6661 (by decide) (TU_slt k hk) (TU_sne 72 (by decide) k hk)) g6618
      have g6665 : WD (avw K H6661 a0) := WD.congr (fun k hk j => av_fld hTH6615 ga0 hap wH6661 (by decide) (WD_ok 112 (by decide) k hk) (WD_ne 72 (by decide) k hk)) g6619
      have g6666 : IM (avw K H6661 a0) := IM.congr (fun k hk j => av_fld hTH6615 ga0 hap wH6661 (by decide) (IM_ok 112 (by decide) k hk) (IM_ne 72 (by decide) k hk)) g6620
      have b6667 : UN (x1.toInt = 0) (fun k => fI H6661 iq k) (fun k => fI s.heap iq k) := UN.congr (fun j => Wr.neI wH6661 (Or.inl (G_ne giq ga0 (by decide)))) b6621
      have b6668 : UN (x1.toInt ≠ 0) (fun k => fI H6661 q4 k) (fun k => fI s.heap q4 k) := UN.congr (fun j => Wr.neI wH6661 (Or.inl (G_ne gq4 ga0 (by decide)))) b6622
      have b6669 : UN (x1.toInt ≠ 0) (fun k => fI H6661 q16 k) (fun k => fI s.heap q16 k) := UN.congr (fun j => Wr.neI wH6661 (Or.inl (G_ne gq16 ga0 (by decide)))) b6623
      have b6670 : UN (x1.toInt ≠ 0) (fun k => fI H6661 q24 k) (fun k => fI s.heap q24 k) := UN.congr (fun j => Wr.neI wH6661 (Or.inl (G_ne gq24 ga0 (by decide)))) b6624
      have b6671 : UN (x1.toInt ≠ 0) (fun k => fI H6661 q29 k) (fun k => fI s.heap q29 k) := UN.congr (fun j => Wr.neI wH6661 (Or.inl (G_ne gq29 ga0 (by decide)))) b6625
      have b6672 : UN (x1.toInt ≠ 0) (fun k => fI H6661 q30 k) (fun k => fI s.heap q30 k) := UN.congr (fun j => Wr.neI wH6661 (Or.inl (G_ne gq30 ga0 (by decide)))) b6626
      have b6673 : UN (x1.toInt ≠ 0) (fun k => fI H6661 q31 k) (fun k => fI s.heap q31 k) := UN.congr (fun j => Wr.neI wH6661 (Or.inl (G_ne gq31 ga0 (by decide)))) b6627
      have b6674 : UN (x1.toInt ≠ 0) (fun k => fI H6661 q32 k) (fun k => fI s.heap q32 k) := UN.congr (fun j => Wr.neI wH6661 (Or.inl (G_ne gq32 ga0 (by decide)))) b6628
      have b6675 : UN (x1.toInt ≠ 0) (fun k => fI H6661 q33 k) (fun k => fI s.heap q33 k) := UN.congr (fun j => Wr.neI wH6661 (Or.inl (G_ne gq33 ga0 (by decide)))) b6629
      have b6676 : UN (x1.toInt ≠ 0) (fun k => fI H6661 q64 k) (fun k => fI s.heap q64 k) := UN.congr (fun j => Wr.neI wH6661 (Or.inl (G_ne gq64 ga0 (by decide)))) b6630
      have b6677 : UN (x1.toInt ≠ 0) (fun k => fI H6661 q66 k) (fun k => fI s.heap q66 k) := UN.congr (fun j => Wr.neI wH6661 (Or.inl (G_ne gq66 ga0 (by decide)))) b6631
      have b6678 : UN (x1.toInt ≠ 0) (fun k => fI H6661 q67 k) (fun k => fI s.heap q67 k) := UN.congr (fun j => Wr.neI wH6661 (Or.inl (G_ne gq67 ga0 (by decide)))) b6632
      have f6679 : ∀ j : Nat, fI H6661 q64 j = fI s.heap q64 j := fun j => (Wr.neI wH6661 (Or.inl (G_ne gq64 ga0 (by decide)))).trans (f6633 j)
      have f6680 : ∀ j : Nat, fI H6661 q66 j = fI s.heap q66 j := fun j => (Wr.neI wH6661 (Or.inl (G_ne gq66 ga0 (by decide)))).trans (f6634 j)
      have f6681 : ∀ j : Nat, fI H6661 q67 j = fI s.heap q67 j := fun j => (Wr.neI wH6661 (Or.inl (G_ne gq67 ga0 (by decide)))).trans (f6635 j)
      have m6682 := m6636.trans (Wr.neR wH6661 (Or.inr (x_apart hKT hts inX10 tyX10 tyX10_ok nmX10 rfl 73 72 (by decide) (by decide) (by decide)))).symm
      have m6683 := m6637.trans (Wr.neR wH6661 (Or.inr (x_apart hKT hts inX10 tyX10 tyX10_ok nmX10 rfl 4 72 (by decide) (by decide) (by decide)))).symm
      have m6684 := m6638.trans (Wr.neR wH6661 (Or.inr (x_apart hKT hts inX10 tyX10 tyX10_ok nmX10 rfl 10 72 (by decide) (by decide) (by decide)))).symm
      have m6685 := m6639.trans (Wr.neR wH6661 (Or.inr (x_apart hKT hts inX10 tyX10 tyX10_ok nmX10 rfl 16 72 (by decide) (by decide) (by decide)))).symm
      have m6686 := m6640.trans (Wr.neR wH6661 (Or.inr (x_apart hKT hts inX10 tyX10 tyX10_ok nmX10 rfl 24 72 (by decide) (by decide) (by decide)))).symm
      have m6687 := m6641.trans (Wr.neR wH6661 (Or.inr (x_apart hKT hts inX10 tyX10 tyX10_ok nmX10 rfl 27 72 (by decide) (by decide) (by decide)))).symm
      have m6688 := m6642.trans (Wr.neR wH6661 (Or.inr (x_apart hKT hts inX10 tyX10 tyX10_ok nmX10 rfl 29 72 (by decide) (by decide) (by decide)))).symm
      have m6689 := m6643.trans (Wr.neR wH6661 (Or.inr (x_apart hKT hts inX10 tyX10 tyX10_ok nmX10 rfl 30 72 (by decide) (by decide) (by decide)))).symm
      have m6690 := m6644.trans (Wr.neR wH6661 (Or.inr (x_apart hKT hts inX10 tyX10 tyX10_ok nmX10 rfl 31 72 (by decide) (by decide) (by decide)))).symm
      have m6691 := m6645.trans (Wr.neR wH6661 (Or.inr (x_apart hKT hts inX10 tyX10 tyX10_ok nmX10 rfl 32 72 (by decide) (by decide) (by decide)))).symm
      have m6692 := m6646.trans (Wr.neR wH6661 (Or.inr (x_apart hKT hts inX10 tyX10 tyX10_ok nmX10 rfl 33 72 (by decide) (by decide) (by decide)))).symm
      have m6693 := m6647.trans (Wr.neR wH6661 (Or.inr (x_apart hKT hts inX10 tyX10 tyX10_ok nmX10 rfl 50 72 (by decide) (by decide) (by decide)))).symm
      have m6694 := m6648.trans (Wr.neR wH6661 (Or.inr (x_apart hKT hts inX10 tyX10 tyX10_ok nmX10 rfl 64 72 (by decide) (by decide) (by decide)))).symm
      have m6695 := m6649.trans (Wr.neR wH6661 (Or.inr (x_apart hKT hts inX10 tyX10 tyX10_ok nmX10 rfl 66 72 (by decide) (by decide) (by decide)))).symm
      have m6696 := m6650.trans (Wr.neR wH6661 (Or.inr (x_apart hKT hts inX10 tyX10 tyX10_ok nmX10 rfl 67 72 (by decide) (by decide) (by decide)))).symm
      have m6697 := m6652.trans (Wr.neI wH6661 (Or.inr (x_apart hKT hts inX10 tyX10 tyX10_ok nmX10 rfl 1 72 (by decide) (by decide) (by decide)))).symm
      have m6698 := m6653.trans (Wr.neI wH6661 (Or.inr (x_apart hKT hts inX10 tyX10 tyX10_ok nmX10 rfl 2 72 (by decide) (by decide) (by decide)))).symm
      have m6699 := m6654.trans (Wr.neI wH6661 (Or.inr (x_apart hKT hts inX10 tyX10 tyX10_ok nmX10 rfl 3 72 (by decide) (by decide) (by decide)))).symm
      have m6700 := m6655.trans (Wr.neI wH6661 (Or.inr (x_apart hKT hts inX10 tyX10 tyX10_ok nmX10 rfl 59 72 (by decide) (by decide) (by decide)))).symm
      have m6701 := m6656.trans (Wr.neI wH6661 (Or.inr (x_apart hKT hts inX10 tyX10 tyX10_ok nmX10 rfl 62 72 (by decide) (by decide) (by decide)))).symm
      have m6702 := m6657.trans (Wr.neI wH6661 (Or.inr (x_apart hKT hts inX10 tyX10 tyX10_ok nmX10 rfl 65 72 (by decide) (by decide) (by decide)))).symm
      have m6703 := (Wr.neI wH6661 (Or.inr (x_apart hKT hts inX10 tyX10 tyX10_ok nmX10 rfl 0 72 (by decide) (by decide) (by decide)))).trans m6658
      have m6704 := m6659.trans (Wr.neI wH6661 (Or.inr (x_apart hKT hts inX10 tyX10 tyX10_ok nmX10 rfl 71 72 (by decide) (by decide) (by decide)))).symm
      have m6705 := (Wr.neI wH6661 (Or.inr (x_apart hKT hts inX10 tyX10 tyX10_ok nmX10 rfl 70 72 (by decide) (by decide) (by decide)))).trans m6660
      have m6706 := Wr.I wH6661
      clear b6621 b6622 b6623 b6624 b6625 b6626 b6627 b6628 b6629 b6630 b6631 b6632 f6633 f6634 f6635 g6617 g6618 g6619 g6620 hTH6615 m6636 m6637 m6638 m6639 m6640 m6641 m6642 m6643 m6644 m6645 m6646 m6647 m6648 m6649 m6650 m6652 m6653 m6654 m6655 m6656 m6657 m6658 m6659 m6660 mf6616
      refine lv_aload_n hx hb dX10_image_33 rfl (lv_at hl 0 rfl) ?_
      refine lv_aload_n hx hb dX10_image_34 rfl (lv_at hl 0 rfl) ?_
      refine lv_aload_n hx hb dX10_image_35 rfl (lv_at hl 0 rfl) ?_
      refine x_gi C hTH6661 (ci := 10) (k := 1) rfl inX10 (by decide) wF_X10_170 ga0 rg_112 rfl dX10_image_36 (fun x6707 ex6707 bx6707 => ?_)
      have ux6707 : s1 = x6707 := (m6697).trans ex6707.symm
      subst ux6707
      refine x_V (As := [.int s1]) (rest := [.ref a0]) C (a_X10_kept l K G H6661 (s1) (0) (x1) hTH6661 ga0 giq m6682 (m6706).symm m6704 g6665 (by and_intros <;> first | assumption | omega)) yo_X10_kept wM_X10_473 ⟨⟨by decide, by decide⟩, by decide, by decide⟩ (x_rv C hTH6661 (ci := 10) rfl ga0 rg_112) rfl hl.1 rfl (Nat.le_of_ble_eq_true rfl) dX10_image_39 hSH6661 (AE_sub (fun _ _ => rfl) (by decide) hSH6661.1) (fun vH6708 H6708 locsH6708 pH6708 zH6708 kH6708 hSH6708 => ?_)
      obtain ⟨x6709, x6710, hvH6708, ex6710, hrH6708, m6711, g6712, mf6713, m6714, m6715, m6716, m6717, hTH6708⟩ := pH6708
      subst hvH6708
      clear zH6708
      replace m6711 := EQN.mk m6711
      have b6718 : UN (x1.toInt ≠ 0) (fun k => fI H6708 q4 k) (fun k => fI s.heap q4 k) := UN.congr (fun j => fI_kept (x_lt hTH6661 kH6708 gq4 (by decide))) b6668
      have b6719 : UN (x1.toInt ≠ 0) (fun k => fI H6708 q16 k) (fun k => fI s.heap q16 k) := UN.congr (fun j => fI_kept (x_lt hTH6661 kH6708 gq16 (by decide))) b6669
      have b6720 : UN (x1.toInt ≠ 0) (fun k => fI H6708 q24 k) (fun k => fI s.heap q24 k) := UN.congr (fun j => fI_kept (x_lt hTH6661 kH6708 gq24 (by decide))) b6670
      have b6721 : UN (x1.toInt ≠ 0) (fun k => fI H6708 q29 k) (fun k => fI s.heap q29 k) := UN.congr (fun j => fI_kept (x_lt hTH6661 kH6708 gq29 (by decide))) b6671
      have b6722 : UN (x1.toInt ≠ 0) (fun k => fI H6708 q30 k) (fun k => fI s.heap q30 k) := UN.congr (fun j => fI_kept (x_lt hTH6661 kH6708 gq30 (by decide))) b6672
      have b6723 : UN (x1.toInt ≠ 0) (fun k => fI H6708 q31 k) (fun k => fI s.heap q31 k) := UN.congr (fun j => fI_kept (x_lt hTH6661 kH6708 gq31 (by decide))) b6673
      have b6724 : UN (x1.toInt ≠ 0) (fun k => fI H6708 q32 k) (fun k => fI s.heap q32 k) := UN.congr (fun j => fI_kept (x_lt hTH6661 kH6708 gq32 (by decide))) b6674
      have b6725 : UN (x1.toInt ≠ 0) (fun k => fI H6708 q33 k) (fun k => fI s.heap q33 k) := UN.congr (fun j => fI_kept (x_lt hTH6661 kH6708 gq33 (by decide))) b6675
      have b6726 : UN (x1.toInt ≠ 0) (fun k => fI H6708 q64 k) (fun k => fI s.heap q64 k) := UN.congr (fun j => fI_kept (x_lt hTH6661 kH6708 gq64 (by decide))) b6676
      have b6727 : UN (x1.toInt ≠ 0) (fun k => fI H6708 q66 k) (fun k => fI s.heap q66 k) := UN.congr (fun j => fI_kept (x_lt hTH6661 kH6708 gq66 (by decide))) b6677
      have b6728 : UN (x1.toInt ≠ 0) (fun k => fI H6708 q67 k) (fun k => fI s.heap q67 k) := UN.congr (fun j => fI_kept (x_lt hTH6661 kH6708 gq67 (by decide))) b6678
      have f6729 : ∀ j : Nat, fI H6708 q64 j = fI s.heap q64 j := fun j => (fI_kept (x_lt hTH6661 kH6708 gq64 (by decide))).trans (f6679 j)
      have f6730 : ∀ j : Nat, fI H6708 q66 j = fI s.heap q66 j := fun j => (fI_kept (x_lt hTH6661 kH6708 gq66 (by decide))).trans (f6680 j)
      have f6731 : ∀ j : Nat, fI H6708 q67 j = fI s.heap q67 j := fun j => (fI_kept (x_lt hTH6661 kH6708 gq67 (by decide))).trans (f6681 j)
      have m6732 := (m6682).trans (MF.r mf6713 (k := 73) (by decide) (by decide)).symm
      have m6733 := (m6683).trans (MF.r mf6713 (k := 4) (by decide) (by decide)).symm
      have m6734 := (m6684).trans (MF.r mf6713 (k := 10) (by decide) (by decide)).symm
      have m6735 := (m6685).trans (MF.r mf6713 (k := 16) (by decide) (by decide)).symm
      have m6736 := (m6686).trans (MF.r mf6713 (k := 24) (by decide) (by decide)).symm
      have m6737 := (m6687).trans (MF.r mf6713 (k := 27) (by decide) (by decide)).symm
      have m6738 := (m6688).trans (MF.r mf6713 (k := 29) (by decide) (by decide)).symm
      have m6739 := (m6689).trans (MF.r mf6713 (k := 30) (by decide) (by decide)).symm
      have m6740 := (m6690).trans (MF.r mf6713 (k := 31) (by decide) (by decide)).symm
      have m6741 := (m6691).trans (MF.r mf6713 (k := 32) (by decide) (by decide)).symm
      have m6742 := (m6692).trans (MF.r mf6713 (k := 33) (by decide) (by decide)).symm
      have m6743 := (m6693).trans (MF.r mf6713 (k := 50) (by decide) (by decide)).symm
      have m6744 := (m6694).trans (MF.r mf6713 (k := 64) (by decide) (by decide)).symm
      have m6745 := (m6695).trans (MF.r mf6713 (k := 66) (by decide) (by decide)).symm
      have m6746 := (m6696).trans (MF.r mf6713 (k := 67) (by decide) (by decide)).symm
      have m6747 := (m6697).trans (MF.i mf6713 (k := 1) (by decide) (by decide)).symm
      have m6748 := (m6698).trans (MF.i mf6713 (k := 2) (by decide) (by decide)).symm
      have m6749 := (m6699).trans (MF.i mf6713 (k := 3) (by decide) (by decide)).symm
      have m6750 := (m6700).trans (MF.i mf6713 (k := 59) (by decide) (by decide)).symm
      have m6751 := (m6701).trans (MF.i mf6713 (k := 62) (by decide) (by decide)).symm
      have m6752 := (m6702).trans (MF.i mf6713 (k := 65) (by decide) (by decide)).symm
      have m6753 := (MF.i mf6713 (k := 0) (by decide) (by decide)).trans m6703
      have m6754 := (m6704).trans (MF.i mf6713 (k := 71) (by decide) (by decide)).symm
      have m6755 := (MF.i mf6713 (k := 70) (by decide) (by decide)).trans m6705
      have mf6756 : MF K s.heap H6708 a0 [0, 1, 2, 3, 59, 62, 65, 70, 71, 72] := MF.trans mf6662 mf6713 (by decide)
      have bx6710 := ty_fi (x := x6710) (k := 72) ex6710 hTH6708 ga0 rg_112 rfl
      have ce_k0 : (0 : Int32).toNatClampNeg = 0 := rfl
      have b6757 : UN (x1.toInt = 0) (fun k => fI H6708 iq k) (fun k => fI s.heap iq k) := UN.tr m6717 b6667
      clear b6667 b6668 b6669 b6670 b6671 b6672 b6673 b6674 b6675 b6676 b6677 b6678 m6682 m6683 m6684 m6685 m6686 m6687 m6688 m6689 m6690 m6691 m6692 m6693 m6694 m6695 m6696 m6697 m6698 m6699 m6700 m6701 m6702 m6703 m6704 m6705 m6706
      clear m6716 m6717
      have bx6709 : 0 ≤ x6709.toInt ∧ x6709.toInt ≤ 10 := kr (fun h0 => by have hiw := hIW; exact kr0 (w := fun k => fI H6708 iq k) m6714 (p := 0) (by omega) (b6757 h0) (hiw.1.1)) m6715 (by omega)
      have p6758 : x6709 = fI H6708 iq (0) := by have h := m6714; rw [show (0 : Int32).toNatClampNeg = 0 by omega] at h; exact h
      refine W.eq (g2 := F0 m 42 ls [.int x6709, .ref a0]) rfl ?_
      refine x_put C hTH6708 hSH6708 (ci := 10) (k := 1) (v := .int x6709) (ty0 := tyX10) rfl inX10 tyX10_ok nmX10 (by decide) rfl wF_X10_170 ga0 rg_112 rfl rfl (okI (by have := i_rng x6709; omega) (by have := i_rng x6709; omega)) rfl rfl (AE_in ga0 (by decide)) dX10_image_42 (fun H6759 locsH6759 hTH6759 hSH6759 wH6759 => ?_)
      have mf6760 : MF K s.heap H6759 a0 [0, 1, 2, 3, 59, 62, 65, 70, 71, 72] := MF.fld hap wH6759 (by decide) (by decide) mf6756
      have g6761 : WD (avw K H6759 a0) := WD.congr (fun k hk j => av_fld hTH6708 ga0 hap wH6759 (by decide) (WD_ok 112 (by decide) k hk) (WD_ne 1 (by decide) k hk)) g6712
      have b6762 : UN (x1.toInt ≠ 0) (fun k => fI H6759 q4 k) (fun k => fI s.heap q4 k) := UN.congr (fun j => Wr.neI wH6759 (Or.inl (G_ne gq4 ga0 (by decide)))) b6718
      have b6763 : UN (x1.toInt ≠ 0) (fun k => fI H6759 q16 k) (fun k => fI s.heap q16 k) := UN.congr (fun j => Wr.neI wH6759 (Or.inl (G_ne gq16 ga0 (by decide)))) b6719
      have b6764 : UN (x1.toInt ≠ 0) (fun k => fI H6759 q24 k) (fun k => fI s.heap q24 k) := UN.congr (fun j => Wr.neI wH6759 (Or.inl (G_ne gq24 ga0 (by decide)))) b6720
      have b6765 : UN (x1.toInt ≠ 0) (fun k => fI H6759 q29 k) (fun k => fI s.heap q29 k) := UN.congr (fun j => Wr.neI wH6759 (Or.inl (G_ne gq29 ga0 (by decide)))) b6721
      have b6766 : UN (x1.toInt ≠ 0) (fun k => fI H6759 q30 k) (fun k => fI s.heap q30 k) := UN.congr (fun j => Wr.neI wH6759 (Or.inl (G_ne gq30 ga0 (by decide)))) b6722
      have b6767 : UN (x1.toInt ≠ 0) (fun k => fI H6759 q31 k) (fun k => fI s.heap q31 k) := UN.congr (fun j => Wr.neI wH6759 (Or.inl (G_ne gq31 ga0 (by decide)))) b6723
      have b6768 : UN (x1.toInt ≠ 0) (fun k => fI H6759 q32 k) (fun k => fI s.heap q32 k) := UN.congr (fun j => Wr.neI wH6759 (Or.inl (G_ne gq32 ga0 (by decide)))) b6724
      have b6769 : UN (x1.toInt ≠ 0) (fun k => fI H6759 q33 k) (fun k => fI s.heap q33 k) := UN.congr (fun j => Wr.neI wH6759 (Or.inl (G_ne gq33 ga0 (by decide)))) b6725
      have b6770 : UN (x1.toInt ≠ 0) (fun k => fI H6759 q64 k) (fun k => fI s.heap q64 k) := UN.congr (fun j => Wr.neI wH6759 (Or.inl (G_ne gq64 ga0 (by decide)))) b6726
      have b6771 : UN (x1.toInt ≠ 0) (fun k => fI H6759 q66 k) (fun k => fI s.heap q66 k) := UN.congr (fun j => Wr.neI wH6759 (Or.inl (G_ne gq66 ga0 (by decide)))) b6727
      have b6772 : UN (x1.toInt ≠ 0) (fun k => fI H6759 q67 k) (fun k => fI s.heap q67 k) := UN.congr (fun j => Wr.neI wH6759 (Or.inl (G_ne gq67 ga0 (by decide)))) b6728
      have b6773 : UN (x1.toInt = 0) (fun k => fI H6759 iq k) (fun k => fI s.heap iq k) := UN.congr (fun j => Wr.neI wH6759 (Or.inl (G_ne giq ga0 (by decide)))) b6757
      have b6774 : x6709 = fI H6759 iq (0) := (p6758).trans (Wr.neI wH6759 (Or.inl (G_ne giq ga0 (by decide)))).symm
      have f6775 : ∀ j : Nat, fI H6759 q64 j = fI s.heap q64 j := fun j => (Wr.neI wH6759 (Or.inl (G_ne gq64 ga0 (by decide)))).trans (f6729 j)
      have f6776 : ∀ j : Nat, fI H6759 q66 j = fI s.heap q66 j := fun j => (Wr.neI wH6759 (Or.inl (G_ne gq66 ga0 (by decide)))).trans (f6730 j)
      have f6777 : ∀ j : Nat, fI H6759 q67 j = fI s.heap q67 j := fun j => (Wr.neI wH6759 (Or.inl (G_ne gq67 ga0 (by decide)))).trans (f6731 j)
      have m6778 := m6711.trans (Wr.neR wH6759 (Or.inr (x_apart hKT hts inX10 tyX10 tyX10_ok nmX10 rfl 73 1 (by decide) (by decide) (by decide)))).symm
      have m6779 := m6733.trans (Wr.neR wH6759 (Or.inr (x_apart hKT hts inX10 tyX10 tyX10_ok nmX10 rfl 4 1 (by decide) (by decide) (by decide)))).symm
      have m6780 := m6734.trans (Wr.neR wH6759 (Or.inr (x_apart hKT hts inX10 tyX10 tyX10_ok nmX10 rfl 10 1 (by decide) (by decide) (by decide)))).symm
      have m6781 := m6735.trans (Wr.neR wH6759 (Or.inr (x_apart hKT hts inX10 tyX10 tyX10_ok nmX10 rfl 16 1 (by decide) (by decide) (by decide)))).symm
      have m6782 := m6736.trans (Wr.neR wH6759 (Or.inr (x_apart hKT hts inX10 tyX10 tyX10_ok nmX10 rfl 24 1 (by decide) (by decide) (by decide)))).symm
      have m6783 := m6737.trans (Wr.neR wH6759 (Or.inr (x_apart hKT hts inX10 tyX10 tyX10_ok nmX10 rfl 27 1 (by decide) (by decide) (by decide)))).symm
      have m6784 := m6738.trans (Wr.neR wH6759 (Or.inr (x_apart hKT hts inX10 tyX10 tyX10_ok nmX10 rfl 29 1 (by decide) (by decide) (by decide)))).symm
      have m6785 := m6739.trans (Wr.neR wH6759 (Or.inr (x_apart hKT hts inX10 tyX10 tyX10_ok nmX10 rfl 30 1 (by decide) (by decide) (by decide)))).symm
      have m6786 := m6740.trans (Wr.neR wH6759 (Or.inr (x_apart hKT hts inX10 tyX10 tyX10_ok nmX10 rfl 31 1 (by decide) (by decide) (by decide)))).symm
      have m6787 := m6741.trans (Wr.neR wH6759 (Or.inr (x_apart hKT hts inX10 tyX10 tyX10_ok nmX10 rfl 32 1 (by decide) (by decide) (by decide)))).symm
      have m6788 := m6742.trans (Wr.neR wH6759 (Or.inr (x_apart hKT hts inX10 tyX10 tyX10_ok nmX10 rfl 33 1 (by decide) (by decide) (by decide)))).symm
      have m6789 := m6743.trans (Wr.neR wH6759 (Or.inr (x_apart hKT hts inX10 tyX10 tyX10_ok nmX10 rfl 50 1 (by decide) (by decide) (by decide)))).symm
      have m6790 := m6744.trans (Wr.neR wH6759 (Or.inr (x_apart hKT hts inX10 tyX10 tyX10_ok nmX10 rfl 64 1 (by decide) (by decide) (by decide)))).symm
      have m6791 := m6745.trans (Wr.neR wH6759 (Or.inr (x_apart hKT hts inX10 tyX10 tyX10_ok nmX10 rfl 66 1 (by decide) (by decide) (by decide)))).symm
      have m6792 := m6746.trans (Wr.neR wH6759 (Or.inr (x_apart hKT hts inX10 tyX10 tyX10_ok nmX10 rfl 67 1 (by decide) (by decide) (by decide)))).symm
      have m6794 := m6748.trans (Wr.neI wH6759 (Or.inr (x_apart hKT hts inX10 tyX10 tyX10_ok nmX10 rfl 2 1 (by decide) (by decide) (by decide)))).symm
      have m6795 := m6749.trans (Wr.neI wH6759 (Or.inr (x_apart hKT hts inX10 tyX10 tyX10_ok nmX10 rfl 3 1 (by decide) (by decide) (by decide)))).symm
      have m6796 := m6750.trans (Wr.neI wH6759 (Or.inr (x_apart hKT hts inX10 tyX10 tyX10_ok nmX10 rfl 59 1 (by decide) (by decide) (by decide)))).symm
      have m6797 := m6751.trans (Wr.neI wH6759 (Or.inr (x_apart hKT hts inX10 tyX10 tyX10_ok nmX10 rfl 62 1 (by decide) (by decide) (by decide)))).symm
      have m6798 := m6752.trans (Wr.neI wH6759 (Or.inr (x_apart hKT hts inX10 tyX10 tyX10_ok nmX10 rfl 65 1 (by decide) (by decide) (by decide)))).symm
      have m6799 := (Wr.neI wH6759 (Or.inr (x_apart hKT hts inX10 tyX10 tyX10_ok nmX10 rfl 0 1 (by decide) (by decide) (by decide)))).trans m6753
      have m6800 := m6754.trans (Wr.neI wH6759 (Or.inr (x_apart hKT hts inX10 tyX10 tyX10_ok nmX10 rfl 71 1 (by decide) (by decide) (by decide)))).symm
      have m6801 := (Wr.neI wH6759 (Or.inr (x_apart hKT hts inX10 tyX10 tyX10_ok nmX10 rfl 70 1 (by decide) (by decide) (by decide)))).trans m6755
      have m6802 := ex6710.trans (Wr.neI wH6759 (Or.inr (x_apart hKT hts inX10 tyX10 tyX10_ok nmX10 rfl 72 1 (by decide) (by decide) (by decide)))).symm
      have m6803 := Wr.I wH6759
      have m6803 := m6803.symm
      clear b6718 b6719 b6720 b6721 b6722 b6723 b6724 b6725 b6726 b6727 b6728 b6757 ex6710 f6729 f6730 f6731 g6712 hTH6708 m6711 m6733 m6734 m6735 m6736 m6737 m6738 m6739 m6740 m6741 m6742 m6743 m6744 m6745 m6746 m6747 m6748 m6749 m6750 m6751 m6752 m6753 m6754 m6755 mf6756 p6758
      refine lv_aload_n hx hb dX10_image_45 rfl (lv_at hl 0 rfl) ?_
      refine lv_aload_n hx hb dX10_image_46 rfl (lv_at hl 0 rfl) ?_
      refine lv_aload_n hx hb dX10_image_47 rfl (lv_at hl 0 rfl) ?_
      refine x_gi C hTH6759 (ci := 10) (k := 2) rfl inX10 (by decide) wF_X10_322 ga0 rg_112 rfl dX10_image_48 (fun x6804 ex6804 bx6804 => ?_)
      have ux6804 : s2 = x6804 := (m6794).trans ex6804.symm
      subst ux6804
      refine x_V (As := [.int s2]) (rest := [.ref a0]) C (a_X10_kept l K G H6759 (s2) (x6710) (x1) hTH6759 ga0 giq m6778 m6802 m6800 g6761 (by and_intros <;> first | assumption | omega)) yo_X10_kept wM_X10_473 ⟨⟨by decide, by decide⟩, by decide, by decide⟩ (x_rv C hTH6759 (ci := 10) rfl ga0 rg_112) rfl hl.1 rfl (Nat.le_of_ble_eq_true rfl) dX10_image_51 hSH6759 (AE_sub (fun _ _ => rfl) (by decide) hSH6759.1) (fun vH6805 H6805 locsH6805 pH6805 zH6805 kH6805 hSH6805 => ?_)
      obtain ⟨x6806, x6807, hvH6805, ex6807, hrH6805, m6808, g6809, mf6810, m6811, m6812, m6813, m6814, hTH6805⟩ := pH6805
      subst hvH6805
      clear zH6805
      replace m6808 := EQN.mk m6808
      have b6815 : UN (x1.toInt ≠ 0) (fun k => fI H6805 q4 k) (fun k => fI s.heap q4 k) := UN.congr (fun j => fI_kept (x_lt hTH6759 kH6805 gq4 (by decide))) b6762
      have b6816 : UN (x1.toInt ≠ 0) (fun k => fI H6805 q16 k) (fun k => fI s.heap q16 k) := UN.congr (fun j => fI_kept (x_lt hTH6759 kH6805 gq16 (by decide))) b6763
      have b6817 : UN (x1.toInt ≠ 0) (fun k => fI H6805 q24 k) (fun k => fI s.heap q24 k) := UN.congr (fun j => fI_kept (x_lt hTH6759 kH6805 gq24 (by decide))) b6764
      have b6818 : UN (x1.toInt ≠ 0) (fun k => fI H6805 q29 k) (fun k => fI s.heap q29 k) := UN.congr (fun j => fI_kept (x_lt hTH6759 kH6805 gq29 (by decide))) b6765
      have b6819 : UN (x1.toInt ≠ 0) (fun k => fI H6805 q30 k) (fun k => fI s.heap q30 k) := UN.congr (fun j => fI_kept (x_lt hTH6759 kH6805 gq30 (by decide))) b6766
      have b6820 : UN (x1.toInt ≠ 0) (fun k => fI H6805 q31 k) (fun k => fI s.heap q31 k) := UN.congr (fun j => fI_kept (x_lt hTH6759 kH6805 gq31 (by decide))) b6767
      have b6821 : UN (x1.toInt ≠ 0) (fun k => fI H6805 q32 k) (fun k => fI s.heap q32 k) := UN.congr (fun j => fI_kept (x_lt hTH6759 kH6805 gq32 (by decide))) b6768
      have b6822 : UN (x1.toInt ≠ 0) (fun k => fI H6805 q33 k) (fun k => fI s.heap q33 k) := UN.congr (fun j => fI_kept (x_lt hTH6759 kH6805 gq33 (by decide))) b6769
      have b6823 : UN (x1.toInt ≠ 0) (fun k => fI H6805 q64 k) (fun k => fI s.heap q64 k) := UN.congr (fun j => fI_kept (x_lt hTH6759 kH6805 gq64 (by decide))) b6770
      have b6824 : UN (x1.toInt ≠ 0) (fun k => fI H6805 q66 k) (fun k => fI s.heap q66 k) := UN.congr (fun j => fI_kept (x_lt hTH6759 kH6805 gq66 (by decide))) b6771
      have b6825 : UN (x1.toInt ≠ 0) (fun k => fI H6805 q67 k) (fun k => fI s.heap q67 k) := UN.congr (fun j => fI_kept (x_lt hTH6759 kH6805 gq67 (by decide))) b6772
      have f6826 : ∀ j : Nat, fI H6805 q64 j = fI s.heap q64 j := fun j => (fI_kept (x_lt hTH6759 kH6805 gq64 (by decide))).trans (f6775 j)
      have f6827 : ∀ j : Nat, fI H6805 q66 j = fI s.heap q66 j := fun j => (fI_kept (x_lt hTH6759 kH6805 gq66 (by decide))).trans (f6776 j)
      have f6828 : ∀ j : Nat, fI H6805 q67 j = fI s.heap q67 j := fun j => (fI_kept (x_lt hTH6759 kH6805 gq67 (by decide))).trans (f6777 j)
      have m6829 := (m6778).trans (MF.r mf6810 (k := 73) (by decide) (by decide)).symm
      have m6830 := (m6779).trans (MF.r mf6810 (k := 4) (by decide) (by decide)).symm
      have m6831 := (m6780).trans (MF.r mf6810 (k := 10) (by decide) (by decide)).symm
      have m6832 := (m6781).trans (MF.r mf6810 (k := 16) (by decide) (by decide)).symm
      have m6833 := (m6782).trans (MF.r mf6810 (k := 24) (by decide) (by decide)).symm
      have m6834 := (m6783).trans (MF.r mf6810 (k := 27) (by decide) (by decide)).symm
      have m6835 := (m6784).trans (MF.r mf6810 (k := 29) (by decide) (by decide)).symm
      have m6836 := (m6785).trans (MF.r mf6810 (k := 30) (by decide) (by decide)).symm
      have m6837 := (m6786).trans (MF.r mf6810 (k := 31) (by decide) (by decide)).symm
      have m6838 := (m6787).trans (MF.r mf6810 (k := 32) (by decide) (by decide)).symm
      have m6839 := (m6788).trans (MF.r mf6810 (k := 33) (by decide) (by decide)).symm
      have m6840 := (m6789).trans (MF.r mf6810 (k := 50) (by decide) (by decide)).symm
      have m6841 := (m6790).trans (MF.r mf6810 (k := 64) (by decide) (by decide)).symm
      have m6842 := (m6791).trans (MF.r mf6810 (k := 66) (by decide) (by decide)).symm
      have m6843 := (m6792).trans (MF.r mf6810 (k := 67) (by decide) (by decide)).symm
      have m6844 := (m6794).trans (MF.i mf6810 (k := 2) (by decide) (by decide)).symm
      have m6845 := (m6795).trans (MF.i mf6810 (k := 3) (by decide) (by decide)).symm
      have m6846 := (m6796).trans (MF.i mf6810 (k := 59) (by decide) (by decide)).symm
      have m6847 := (m6797).trans (MF.i mf6810 (k := 62) (by decide) (by decide)).symm
      have m6848 := (m6798).trans (MF.i mf6810 (k := 65) (by decide) (by decide)).symm
      have m6849 := (MF.i mf6810 (k := 0) (by decide) (by decide)).trans m6799
      have m6850 := (m6800).trans (MF.i mf6810 (k := 71) (by decide) (by decide)).symm
      have m6851 := (MF.i mf6810 (k := 70) (by decide) (by decide)).trans m6801
      have m6852 := (m6803).trans (MF.i mf6810 (k := 1) (by decide) (by decide)).symm
      have mf6853 : MF K s.heap H6805 a0 [0, 1, 2, 3, 59, 62, 65, 70, 71, 72] := MF.trans mf6760 mf6810 (by decide)
      have bx6807 := ty_fi (x := x6807) (k := 72) ex6807 hTH6805 ga0 rg_112 rfl
      have ce_x6710 := i_cl (x := x6710) (by omega)
      have b6854 : UN (x1.toInt = 0) (fun k => fI H6805 iq k) (fun k => fI s.heap iq k) := UN.tr m6814 b6773
      have b6855 : x6709 = fI H6805 iq (0) := (b6774).trans (m6813 _ (by omega)).symm
      clear b6762 b6763 b6764 b6765 b6766 b6767 b6768 b6769 b6770 b6771 b6772 b6773 b6774 m6778 m6779 m6780 m6781 m6782 m6783 m6784 m6785 m6786 m6787 m6788 m6789 m6790 m6791 m6792 m6794 m6795 m6796 m6797 m6798 m6799 m6800 m6801 m6802 m6803
      clear m6813 m6814
      have bx6806 : 0 ≤ x6806.toInt ∧ x6806.toInt ≤ 1 := kr (fun h0 => by have hiw := hIW; exact kr0 (w := fun k => fI H6805 iq k) m6811 (p := 1) (by omega) (b6854 h0) (hiw.1.2.1)) m6812 (by omega)
      have p6856 : x6806 = fI H6805 iq (1) := by have h := m6811; rw [show x6710.toNatClampNeg = 1 by omega] at h; exact h
      refine W.eq (g2 := F0 m 54 ls [.int x6806, .ref a0]) rfl ?_
      refine x_put C hTH6805 hSH6805 (ci := 10) (k := 2) (v := .int x6806) (ty0 := tyX10) rfl inX10 tyX10_ok nmX10 (by decide) rfl wF_X10_322 ga0 rg_112 rfl rfl (okI (by have := i_rng x6806; omega) (by have := i_rng x6806; omega)) rfl rfl (AE_in ga0 (by decide)) dX10_image_54 (fun H6857 locsH6857 hTH6857 hSH6857 wH6857 => ?_)
      have mf6858 : MF K s.heap H6857 a0 [0, 1, 2, 3, 59, 62, 65, 70, 71, 72] := MF.fld hap wH6857 (by decide) (by decide) mf6853
      have g6859 : WD (avw K H6857 a0) := WD.congr (fun k hk j => av_fld hTH6805 ga0 hap wH6857 (by decide) (WD_ok 112 (by decide) k hk) (WD_ne 2 (by decide) k hk)) g6809
      have b6860 : UN (x1.toInt ≠ 0) (fun k => fI H6857 q4 k) (fun k => fI s.heap q4 k) := UN.congr (fun j => Wr.neI wH6857 (Or.inl (G_ne gq4 ga0 (by decide)))) b6815
      have b6861 : UN (x1.toInt ≠ 0) (fun k => fI H6857 q16 k) (fun k => fI s.heap q16 k) := UN.congr (fun j => Wr.neI wH6857 (Or.inl (G_ne gq16 ga0 (by decide)))) b6816
      have b6862 : UN (x1.toInt ≠ 0) (fun k => fI H6857 q24 k) (fun k => fI s.heap q24 k) := UN.congr (fun j => Wr.neI wH6857 (Or.inl (G_ne gq24 ga0 (by decide)))) b6817
      have b6863 : UN (x1.toInt ≠ 0) (fun k => fI H6857 q29 k) (fun k => fI s.heap q29 k) := UN.congr (fun j => Wr.neI wH6857 (Or.inl (G_ne gq29 ga0 (by decide)))) b6818
      have b6864 : UN (x1.toInt ≠ 0) (fun k => fI H6857 q30 k) (fun k => fI s.heap q30 k) := UN.congr (fun j => Wr.neI wH6857 (Or.inl (G_ne gq30 ga0 (by decide)))) b6819
      have b6865 : UN (x1.toInt ≠ 0) (fun k => fI H6857 q31 k) (fun k => fI s.heap q31 k) := UN.congr (fun j => Wr.neI wH6857 (Or.inl (G_ne gq31 ga0 (by decide)))) b6820
      have b6866 : UN (x1.toInt ≠ 0) (fun k => fI H6857 q32 k) (fun k => fI s.heap q32 k) := UN.congr (fun j => Wr.neI wH6857 (Or.inl (G_ne gq32 ga0 (by decide)))) b6821
      have b6867 : UN (x1.toInt ≠ 0) (fun k => fI H6857 q33 k) (fun k => fI s.heap q33 k) := UN.congr (fun j => Wr.neI wH6857 (Or.inl (G_ne gq33 ga0 (by decide)))) b6822
      have b6868 : UN (x1.toInt ≠ 0) (fun k => fI H6857 q64 k) (fun k => fI s.heap q64 k) := UN.congr (fun j => Wr.neI wH6857 (Or.inl (G_ne gq64 ga0 (by decide)))) b6823
      have b6869 : UN (x1.toInt ≠ 0) (fun k => fI H6857 q66 k) (fun k => fI s.heap q66 k) := UN.congr (fun j => Wr.neI wH6857 (Or.inl (G_ne gq66 ga0 (by decide)))) b6824
      have b6870 : UN (x1.toInt ≠ 0) (fun k => fI H6857 q67 k) (fun k => fI s.heap q67 k) := UN.congr (fun j => Wr.neI wH6857 (Or.inl (G_ne gq67 ga0 (by decide)))) b6825
      have b6871 : UN (x1.toInt = 0) (fun k => fI H6857 iq k) (fun k => fI s.heap iq k) := UN.congr (fun j => Wr.neI wH6857 (Or.inl (G_ne giq ga0 (by decide)))) b6854
      have b6872 : x6709 = fI H6857 iq (0) := (b6855).trans (Wr.neI wH6857 (Or.inl (G_ne giq ga0 (by decide)))).symm
      have b6873 : x6806 = fI H6857 iq (1) := (p6856).trans (Wr.neI wH6857 (Or.inl (G_ne giq ga0 (by decide)))).symm
      have f6874 : ∀ j : Nat, fI H6857 q64 j = fI s.heap q64 j := fun j => (Wr.neI wH6857 (Or.inl (G_ne gq64 ga0 (by decide)))).trans (f6826 j)
      have f6875 : ∀ j : Nat, fI H6857 q66 j = fI s.heap q66 j := fun j => (Wr.neI wH6857 (Or.inl (G_ne gq66 ga0 (by decide)))).trans (f6827 j)
      have f6876 : ∀ j : Nat, fI H6857 q67 j = fI s.heap q67 j := fun j => (Wr.neI wH6857 (Or.inl (G_ne gq67 ga0 (by decide)))).trans (f6828 j)
      have m6877 := m6808.trans (Wr.neR wH6857 (Or.inr (x_apart hKT hts inX10 tyX10 tyX10_ok nmX10 rfl 73 2 (by decide) (by decide) (by decide)))).symm
      have m6878 := m6830.trans (Wr.neR wH6857 (Or.inr (x_apart hKT hts inX10 tyX10 tyX10_ok nmX10 rfl 4 2 (by decide) (by decide) (by decide)))).symm
      have m6879 := m6831.trans (Wr.neR wH6857 (Or.inr (x_apart hKT hts inX10 tyX10 tyX10_ok nmX10 rfl 10 2 (by decide) (by decide) (by decide)))).symm
      have m6880 := m6832.trans (Wr.neR wH6857 (Or.inr (x_apart hKT hts inX10 tyX10 tyX10_ok nmX10 rfl 16 2 (by decide) (by decide) (by decide)))).symm
      have m6881 := m6833.trans (Wr.neR wH6857 (Or.inr (x_apart hKT hts inX10 tyX10 tyX10_ok nmX10 rfl 24 2 (by decide) (by decide) (by decide)))).symm
      have m6882 := m6834.trans (Wr.neR wH6857 (Or.inr (x_apart hKT hts inX10 tyX10 tyX10_ok nmX10 rfl 27 2 (by decide) (by decide) (by decide)))).symm
      have m6883 := m6835.trans (Wr.neR wH6857 (Or.inr (x_apart hKT hts inX10 tyX10 tyX10_ok nmX10 rfl 29 2 (by decide) (by decide) (by decide)))).symm
      have m6884 := m6836.trans (Wr.neR wH6857 (Or.inr (x_apart hKT hts inX10 tyX10 tyX10_ok nmX10 rfl 30 2 (by decide) (by decide) (by decide)))).symm
      have m6885 := m6837.trans (Wr.neR wH6857 (Or.inr (x_apart hKT hts inX10 tyX10 tyX10_ok nmX10 rfl 31 2 (by decide) (by decide) (by decide)))).symm
      have m6886 := m6838.trans (Wr.neR wH6857 (Or.inr (x_apart hKT hts inX10 tyX10 tyX10_ok nmX10 rfl 32 2 (by decide) (by decide) (by decide)))).symm
      have m6887 := m6839.trans (Wr.neR wH6857 (Or.inr (x_apart hKT hts inX10 tyX10 tyX10_ok nmX10 rfl 33 2 (by decide) (by decide) (by decide)))).symm
      have m6888 := m6840.trans (Wr.neR wH6857 (Or.inr (x_apart hKT hts inX10 tyX10 tyX10_ok nmX10 rfl 50 2 (by decide) (by decide) (by decide)))).symm
      have m6889 := m6841.trans (Wr.neR wH6857 (Or.inr (x_apart hKT hts inX10 tyX10 tyX10_ok nmX10 rfl 64 2 (by decide) (by decide) (by decide)))).symm
      have m6890 := m6842.trans (Wr.neR wH6857 (Or.inr (x_apart hKT hts inX10 tyX10 tyX10_ok nmX10 rfl 66 2 (by decide) (by decide) (by decide)))).symm
      have m6891 := m6843.trans (Wr.neR wH6857 (Or.inr (x_apart hKT hts inX10 tyX10 tyX10_ok nmX10 rfl 67 2 (by decide) (by decide) (by decide)))).symm
      have m6893 := m6845.trans (Wr.neI wH6857 (Or.inr (x_apart hKT hts inX10 tyX10 tyX10_ok nmX10 rfl 3 2 (by decide) (by decide) (by decide)))).symm
      have m6894 := m6846.trans (Wr.neI wH6857 (Or.inr (x_apart hKT hts inX10 tyX10 tyX10_ok nmX10 rfl 59 2 (by decide) (by decide) (by decide)))).symm
      have m6895 := m6847.trans (Wr.neI wH6857 (Or.inr (x_apart hKT hts inX10 tyX10 tyX10_ok nmX10 rfl 62 2 (by decide) (by decide) (by decide)))).symm
      have m6896 := m6848.trans (Wr.neI wH6857 (Or.inr (x_apart hKT hts inX10 tyX10 tyX10_ok nmX10 rfl 65 2 (by decide) (by decide) (by decide)))).symm
      have m6897 := (Wr.neI wH6857 (Or.inr (x_apart hKT hts inX10 tyX10 tyX10_ok nmX10 rfl 0 2 (by decide) (by decide) (by decide)))).trans m6849
      have m6898 := m6850.trans (Wr.neI wH6857 (Or.inr (x_apart hKT hts inX10 tyX10 tyX10_ok nmX10 rfl 71 2 (by decide) (by decide) (by decide)))).symm
      have m6899 := (Wr.neI wH6857 (Or.inr (x_apart hKT hts inX10 tyX10 tyX10_ok nmX10 rfl 70 2 (by decide) (by decide) (by decide)))).trans m6851
      have m6900 := m6852.trans (Wr.neI wH6857 (Or.inr (x_apart hKT hts inX10 tyX10 tyX10_ok nmX10 rfl 1 2 (by decide) (by decide) (by decide)))).symm
      have m6901 := ex6807.trans (Wr.neI wH6857 (Or.inr (x_apart hKT hts inX10 tyX10 tyX10_ok nmX10 rfl 72 2 (by decide) (by decide) (by decide)))).symm
      have m6902 := Wr.I wH6857
      have m6902 := m6902.symm
      clear b6815 b6816 b6817 b6818 b6819 b6820 b6821 b6822 b6823 b6824 b6825 b6854 b6855 ex6807 f6826 f6827 f6828 g6809 hTH6805 m6808 m6830 m6831 m6832 m6833 m6834 m6835 m6836 m6837 m6838 m6839 m6840 m6841 m6842 m6843 m6844 m6845 m6846 m6847 m6848 m6849 m6850 m6851 m6852 mf6853 p6856
      refine lv_aload_n hx hb dX10_image_57 rfl (lv_at hl 0 rfl) ?_
      refine lv_aload_n hx hb dX10_image_58 rfl (lv_at hl 0 rfl) ?_
      refine lv_aload_n hx hb dX10_image_59 rfl (lv_at hl 0 rfl) ?_
      refine x_gi C hTH6857 (ci := 10) (k := 3) rfl inX10 (by decide) wF_X10_7 ga0 rg_112 rfl dX10_image_60 (fun x6903 ex6903 bx6903 => ?_)
      have ux6903 : s3 = x6903 := (m6893).trans ex6903.symm
      subst ux6903
      refine x_V (As := [.int s3]) (rest := [.ref a0]) C (a_X10_kept l K G H6857 (s3) (x6807) (x1) hTH6857 ga0 giq m6877 m6901 m6898 g6859 (by and_intros <;> first | assumption | omega)) yo_X10_kept wM_X10_473 ⟨⟨by decide, by decide⟩, by decide, by decide⟩ (x_rv C hTH6857 (ci := 10) rfl ga0 rg_112) rfl hl.1 rfl (Nat.le_of_ble_eq_true rfl) dX10_image_63 hSH6857 (AE_sub (fun _ _ => rfl) (by decide) hSH6857.1) (fun vH6904 H6904 locsH6904 pH6904 zH6904 kH6904 hSH6904 => ?_)
      obtain ⟨x6905, x6906, hvH6904, ex6906, hrH6904, m6907, g6908, mf6909, m6910, m6911, m6912, m6913, hTH6904⟩ := pH6904
      subst hvH6904
      clear zH6904
      replace m6907 := EQN.mk m6907
      have b6914 : UN (x1.toInt ≠ 0) (fun k => fI H6904 q4 k) (fun k => fI s.heap q4 k) := UN.congr (fun j => fI_kept (x_lt hTH6857 kH6904 gq4 (by decide))) b6860
      have b6915 : UN (x1.toInt ≠ 0) (fun k => fI H6904 q16 k) (fun k => fI s.heap q16 k) := UN.congr (fun j => fI_kept (x_lt hTH6857 kH6904 gq16 (by decide))) b6861
      have b6916 : UN (x1.toInt ≠ 0) (fun k => fI H6904 q24 k) (fun k => fI s.heap q24 k) := UN.congr (fun j => fI_kept (x_lt hTH6857 kH6904 gq24 (by decide))) b6862
      have b6917 : UN (x1.toInt ≠ 0) (fun k => fI H6904 q29 k) (fun k => fI s.heap q29 k) := UN.congr (fun j => fI_kept (x_lt hTH6857 kH6904 gq29 (by decide))) b6863
      have b6918 : UN (x1.toInt ≠ 0) (fun k => fI H6904 q30 k) (fun k => fI s.heap q30 k) := UN.congr (fun j => fI_kept (x_lt hTH6857 kH6904 gq30 (by decide))) b6864
      have b6919 : UN (x1.toInt ≠ 0) (fun k => fI H6904 q31 k) (fun k => fI s.heap q31 k) := UN.congr (fun j => fI_kept (x_lt hTH6857 kH6904 gq31 (by decide))) b6865
      have b6920 : UN (x1.toInt ≠ 0) (fun k => fI H6904 q32 k) (fun k => fI s.heap q32 k) := UN.congr (fun j => fI_kept (x_lt hTH6857 kH6904 gq32 (by decide))) b6866
      have b6921 : UN (x1.toInt ≠ 0) (fun k => fI H6904 q33 k) (fun k => fI s.heap q33 k) := UN.congr (fun j => fI_kept (x_lt hTH6857 kH6904 gq33 (by decide))) b6867
      have b6922 : UN (x1.toInt ≠ 0) (fun k => fI H6904 q64 k) (fun k => fI s.heap q64 k) := UN.congr (fun j => fI_kept (x_lt hTH6857 kH6904 gq64 (by decide))) b6868
      have b6923 : UN (x1.toInt ≠ 0) (fun k => fI H6904 q66 k) (fun k => fI s.heap q66 k) := UN.congr (fun j => fI_kept (x_lt hTH6857 kH6904 gq66 (by decide))) b6869
      have b6924 : UN (x1.toInt ≠ 0) (fun k => fI H6904 q67 k) (fun k => fI s.heap q67 k) := UN.congr (fun j => fI_kept (x_lt hTH6857 kH6904 gq67 (by decide))) b6870
      have f6925 : ∀ j : Nat, fI H6904 q64 j = fI s.heap q64 j := fun j => (fI_kept (x_lt hTH6857 kH6904 gq64 (by decide))).trans (f6874 j)
      have f6926 : ∀ j : Nat, fI H6904 q66 j = fI s.heap q66 j := fun j => (fI_kept (x_lt hTH6857 kH6904 gq66 (by decide))).trans (f6875 j)
      have f6927 : ∀ j : Nat, fI H6904 q67 j = fI s.heap q67 j := fun j => (fI_kept (x_lt hTH6857 kH6904 gq67 (by decide))).trans (f6876 j)
      have m6928 := (m6877).trans (MF.r mf6909 (k := 73) (by decide) (by decide)).symm
      have m6929 := (m6878).trans (MF.r mf6909 (k := 4) (by decide) (by decide)).symm
      have m6930 := (m6879).trans (MF.r mf6909 (k := 10) (by decide) (by decide)).symm
      have m6931 := (m6880).trans (MF.r mf6909 (k := 16) (by decide) (by decide)).symm
      have m6932 := (m6881).trans (MF.r mf6909 (k := 24) (by decide) (by decide)).symm
      have m6933 := (m6882).trans (MF.r mf6909 (k := 27) (by decide) (by decide)).symm
      have m6934 := (m6883).trans (MF.r mf6909 (k := 29) (by decide) (by decide)).symm
      have m6935 := (m6884).trans (MF.r mf6909 (k := 30) (by decide) (by decide)).symm
      have m6936 := (m6885).trans (MF.r mf6909 (k := 31) (by decide) (by decide)).symm
      have m6937 := (m6886).trans (MF.r mf6909 (k := 32) (by decide) (by decide)).symm
      have m6938 := (m6887).trans (MF.r mf6909 (k := 33) (by decide) (by decide)).symm
      have m6939 := (m6888).trans (MF.r mf6909 (k := 50) (by decide) (by decide)).symm
      have m6940 := (m6889).trans (MF.r mf6909 (k := 64) (by decide) (by decide)).symm
      have m6941 := (m6890).trans (MF.r mf6909 (k := 66) (by decide) (by decide)).symm
      have m6942 := (m6891).trans (MF.r mf6909 (k := 67) (by decide) (by decide)).symm
      have m6943 := (m6893).trans (MF.i mf6909 (k := 3) (by decide) (by decide)).symm
      have m6944 := (m6894).trans (MF.i mf6909 (k := 59) (by decide) (by decide)).symm
      have m6945 := (m6895).trans (MF.i mf6909 (k := 62) (by decide) (by decide)).symm
      have m6946 := (m6896).trans (MF.i mf6909 (k := 65) (by decide) (by decide)).symm
      have m6947 := (MF.i mf6909 (k := 0) (by decide) (by decide)).trans m6897
      have m6948 := (m6898).trans (MF.i mf6909 (k := 71) (by decide) (by decide)).symm
      have m6949 := (MF.i mf6909 (k := 70) (by decide) (by decide)).trans m6899
      have m6950 := (m6900).trans (MF.i mf6909 (k := 1) (by decide) (by decide)).symm
      have m6951 := (m6902).trans (MF.i mf6909 (k := 2) (by decide) (by decide)).symm
      have mf6952 : MF K s.heap H6904 a0 [0, 1, 2, 3, 59, 62, 65, 70, 71, 72] := MF.trans mf6858 mf6909 (by decide)
      have bx6906 := ty_fi (x := x6906) (k := 72) ex6906 hTH6904 ga0 rg_112 rfl
      have ce_x6807 := i_cl (x := x6807) (by omega)
      have b6953 : UN (x1.toInt = 0) (fun k => fI H6904 iq k) (fun k => fI s.heap iq k) := UN.tr m6913 b6871
      have b6954 : x6709 = fI H6904 iq (0) := (b6872).trans (m6912 _ (by omega)).symm
      have b6955 : x6806 = fI H6904 iq (1) := (b6873).trans (m6912 _ (by omega)).symm
      clear b6860 b6861 b6862 b6863 b6864 b6865 b6866 b6867 b6868 b6869 b6870 b6871 b6872 b6873 m6877 m6878 m6879 m6880 m6881 m6882 m6883 m6884 m6885 m6886 m6887 m6888 m6889 m6890 m6891 m6893 m6894 m6895 m6896 m6897 m6898 m6899 m6900 m6901 m6902
      clear m6912 m6913
      have p6956 : x6905 = fI H6904 iq (2) := by have h := m6910; rw [show x6807.toNatClampNeg = 2 by omega] at h; exact h
      refine W.eq (g2 := F0 m 66 ls [.int x6905, .ref a0]) rfl ?_
      refine x_put C hTH6904 hSH6904 (ci := 10) (k := 3) (v := .int x6905) (ty0 := tyX10) rfl inX10 tyX10_ok nmX10 (by decide) rfl wF_X10_7 ga0 rg_112 rfl rfl (okI (by have := i_rng x6905; omega) (by have := i_rng x6905; omega)) rfl rfl (AE_in ga0 (by decide)) dX10_image_66 (fun H6957 locsH6957 hTH6957 hSH6957 wH6957 => ?_)
      have mf6958 : MF K s.heap H6957 a0 [0, 1, 2, 3, 59, 62, 65, 70, 71, 72] := MF.fld hap wH6957 (by decide) (by decide) mf6952
      have g6959 : WD (avw K H6957 a0) := WD.congr (fun k hk j => av_fld hTH6904 ga0 hap wH6957 (by decide) (WD_ok 112 (by decide) k hk) (WD_ne 3 (by decide) k hk)) g6908
      have b6960 : UN (x1.toInt ≠ 0) (fun k => fI H6957 q4 k) (fun k => fI s.heap q4 k) := UN.congr (fun j => Wr.neI wH6957 (Or.inl (G_ne gq4 ga0 (by decide)))) b6914
      have b6961 : UN (x1.toInt ≠ 0) (fun k => fI H6957 q16 k) (fun k => fI s.heap q16 k) := UN.congr (fun j => Wr.neI wH6957 (Or.inl (G_ne gq16 ga0 (by decide)))) b6915
      have b6962 : UN (x1.toInt ≠ 0) (fun k => fI H6957 q24 k) (fun k => fI s.heap q24 k) := UN.congr (fun j => Wr.neI wH6957 (Or.inl (G_ne gq24 ga0 (by decide)))) b6916
      have b6963 : UN (x1.toInt ≠ 0) (fun k => fI H6957 q29 k) (fun k => fI s.heap q29 k) := UN.congr (fun j => Wr.neI wH6957 (Or.inl (G_ne gq29 ga0 (by decide)))) b6917
      have b6964 : UN (x1.toInt ≠ 0) (fun k => fI H6957 q30 k) (fun k => fI s.heap q30 k) := UN.congr (fun j => Wr.neI wH6957 (Or.inl (G_ne gq30 ga0 (by decide)))) b6918
      have b6965 : UN (x1.toInt ≠ 0) (fun k => fI H6957 q31 k) (fun k => fI s.heap q31 k) := UN.congr (fun j => Wr.neI wH6957 (Or.inl (G_ne gq31 ga0 (by decide)))) b6919
      have b6966 : UN (x1.toInt ≠ 0) (fun k => fI H6957 q32 k) (fun k => fI s.heap q32 k) := UN.congr (fun j => Wr.neI wH6957 (Or.inl (G_ne gq32 ga0 (by decide)))) b6920
      have b6967 : UN (x1.toInt ≠ 0) (fun k => fI H6957 q33 k) (fun k => fI s.heap q33 k) := UN.congr (fun j => Wr.neI wH6957 (Or.inl (G_ne gq33 ga0 (by decide)))) b6921
      have b6968 : UN (x1.toInt ≠ 0) (fun k => fI H6957 q64 k) (fun k => fI s.heap q64 k) := UN.congr (fun j => Wr.neI wH6957 (Or.inl (G_ne gq64 ga0 (by decide)))) b6922
      have b6969 : UN (x1.toInt ≠ 0) (fun k => fI H6957 q66 k) (fun k => fI s.heap q66 k) := UN.congr (fun j => Wr.neI wH6957 (Or.inl (G_ne gq66 ga0 (by decide)))) b6923
      have b6970 : UN (x1.toInt ≠ 0) (fun k => fI H6957 q67 k) (fun k => fI s.heap q67 k) := UN.congr (fun j => Wr.neI wH6957 (Or.inl (G_ne gq67 ga0 (by decide)))) b6924
      have b6971 : UN (x1.toInt = 0) (fun k => fI H6957 iq k) (fun k => fI s.heap iq k) := UN.congr (fun j => Wr.neI wH6957 (Or.inl (G_ne giq ga0 (by decide)))) b6953
      have b6972 : x6709 = fI H6957 iq (0) := (b6954).trans (Wr.neI wH6957 (Or.inl (G_ne giq ga0 (by decide)))).symm
      have b6973 : x6806 = fI H6957 iq (1) := (b6955).trans (Wr.neI wH6957 (Or.inl (G_ne giq ga0 (by decide)))).symm
      have b6974 : x6905 = fI H6957 iq (2) := (p6956).trans (Wr.neI wH6957 (Or.inl (G_ne giq ga0 (by decide)))).symm
      have f6975 : ∀ j : Nat, fI H6957 q64 j = fI s.heap q64 j := fun j => (Wr.neI wH6957 (Or.inl (G_ne gq64 ga0 (by decide)))).trans (f6925 j)
      have f6976 : ∀ j : Nat, fI H6957 q66 j = fI s.heap q66 j := fun j => (Wr.neI wH6957 (Or.inl (G_ne gq66 ga0 (by decide)))).trans (f6926 j)
      have f6977 : ∀ j : Nat, fI H6957 q67 j = fI s.heap q67 j := fun j => (Wr.neI wH6957 (Or.inl (G_ne gq67 ga0 (by decide)))).trans (f6927 j)
      have m6978 := m6907.trans (Wr.neR wH6957 (Or.inr (x_apart hKT hts inX10 tyX10 tyX10_ok nmX10 rfl 73 3 (by decide) (by decide) (by decide)))).symm
      have m6979 := m6929.trans (Wr.neR wH6957 (Or.inr (x_apart hKT hts inX10 tyX10 tyX10_ok nmX10 rfl 4 3 (by decide) (by decide) (by decide)))).symm
      have m6980 := m6930.trans (Wr.neR wH6957 (Or.inr (x_apart hKT hts inX10 tyX10 tyX10_ok nmX10 rfl 10 3 (by decide) (by decide) (by decide)))).symm
      have m6981 := m6931.trans (Wr.neR wH6957 (Or.inr (x_apart hKT hts inX10 tyX10 tyX10_ok nmX10 rfl 16 3 (by decide) (by decide) (by decide)))).symm
      have m6982 := m6932.trans (Wr.neR wH6957 (Or.inr (x_apart hKT hts inX10 tyX10 tyX10_ok nmX10 rfl 24 3 (by decide) (by decide) (by decide)))).symm
      have m6983 := m6933.trans (Wr.neR wH6957 (Or.inr (x_apart hKT hts inX10 tyX10 tyX10_ok nmX10 rfl 27 3 (by decide) (by decide) (by decide)))).symm
      have m6984 := m6934.trans (Wr.neR wH6957 (Or.inr (x_apart hKT hts inX10 tyX10 tyX10_ok nmX10 rfl 29 3 (by decide) (by decide) (by decide)))).symm
      have m6985 := m6935.trans (Wr.neR wH6957 (Or.inr (x_apart hKT hts inX10 tyX10 tyX10_ok nmX10 rfl 30 3 (by decide) (by decide) (by decide)))).symm
      have m6986 := m6936.trans (Wr.neR wH6957 (Or.inr (x_apart hKT hts inX10 tyX10 tyX10_ok nmX10 rfl 31 3 (by decide) (by decide) (by decide)))).symm
      have m6987 := m6937.trans (Wr.neR wH6957 (Or.inr (x_apart hKT hts inX10 tyX10 tyX10_ok nmX10 rfl 32 3 (by decide) (by decide) (by decide)))).symm
      have m6988 := m6938.trans (Wr.neR wH6957 (Or.inr (x_apart hKT hts inX10 tyX10 tyX10_ok nmX10 rfl 33 3 (by decide) (by decide) (by decide)))).symm
      have m6989 := m6939.trans (Wr.neR wH6957 (Or.inr (x_apart hKT hts inX10 tyX10 tyX10_ok nmX10 rfl 50 3 (by decide) (by decide) (by decide)))).symm
      have m6990 := m6940.trans (Wr.neR wH6957 (Or.inr (x_apart hKT hts inX10 tyX10 tyX10_ok nmX10 rfl 64 3 (by decide) (by decide) (by decide)))).symm
      have m6991 := m6941.trans (Wr.neR wH6957 (Or.inr (x_apart hKT hts inX10 tyX10 tyX10_ok nmX10 rfl 66 3 (by decide) (by decide) (by decide)))).symm
      have m6992 := m6942.trans (Wr.neR wH6957 (Or.inr (x_apart hKT hts inX10 tyX10 tyX10_ok nmX10 rfl 67 3 (by decide) (by decide) (by decide)))).symm
      have m6994 := m6944.trans (Wr.neI wH6957 (Or.inr (x_apart hKT hts inX10 tyX10 tyX10_ok nmX10 rfl 59 3 (by decide) (by decide) (by decide)))).symm
      have m6995 := m6945.trans (Wr.neI wH6957 (Or.inr (x_apart hKT hts inX10 tyX10 tyX10_ok nmX10 rfl 62 3 (by decide) (by decide) (by decide)))).symm
      have m6996 := m6946.trans (Wr.neI wH6957 (Or.inr (x_apart hKT hts inX10 tyX10 tyX10_ok nmX10 rfl 65 3 (by decide) (by decide) (by decide)))).symm
      have m6997 := (Wr.neI wH6957 (Or.inr (x_apart hKT hts inX10 tyX10 tyX10_ok nmX10 rfl 0 3 (by decide) (by decide) (by decide)))).trans m6947
      have m6998 := m6948.trans (Wr.neI wH6957 (Or.inr (x_apart hKT hts inX10 tyX10 tyX10_ok nmX10 rfl 71 3 (by decide) (by decide) (by decide)))).symm
      have m6999 := (Wr.neI wH6957 (Or.inr (x_apart hKT hts inX10 tyX10 tyX10_ok nmX10 rfl 70 3 (by decide) (by decide) (by decide)))).trans m6949
      have m7000 := m6950.trans (Wr.neI wH6957 (Or.inr (x_apart hKT hts inX10 tyX10 tyX10_ok nmX10 rfl 1 3 (by decide) (by decide) (by decide)))).symm
      have m7001 := m6951.trans (Wr.neI wH6957 (Or.inr (x_apart hKT hts inX10 tyX10 tyX10_ok nmX10 rfl 2 3 (by decide) (by decide) (by decide)))).symm
      have m7002 := ex6906.trans (Wr.neI wH6957 (Or.inr (x_apart hKT hts inX10 tyX10 tyX10_ok nmX10 rfl 72 3 (by decide) (by decide) (by decide)))).symm
      have m7003 := Wr.I wH6957
      have m7003 := m7003.symm
      clear b6914 b6915 b6916 b6917 b6918 b6919 b6920 b6921 b6922 b6923 b6924 b6953 b6954 b6955 ex6906 f6925 f6926 f6927 g6908 hTH6904 m6907 m6929 m6930 m6931 m6932 m6933 m6934 m6935 m6936 m6937 m6938 m6939 m6940 m6941 m6942 m6943 m6944 m6945 m6946 m6947 m6948 m6949 m6950 m6951 mf6952 p6956
      refine lv_aload_n hx hb dX10_image_69 rfl (lv_at hl 0 rfl) ?_
      refine lv_aload_n hx hb dX10_image_70 rfl (lv_at hl 0 rfl) ?_
      refine lv_aload_n hx hb dX10_image_71 rfl (lv_at hl 0 rfl) ?_
      refine x_gi C hTH6957 (ci := 10) (k := 59) rfl inX10 (by decide) wF_X10_438 ga0 rg_112 rfl dX10_image_72 (fun x7004 ex7004 bx7004 => ?_)
      have ux7004 : s59 = x7004 := (m6994).trans ex7004.symm
      subst ux7004
      refine x_V (As := [.int s59]) (rest := [.ref a0]) C (a_X10_kept l K G H6957 (s59) (x6906) (x1) hTH6957 ga0 giq m6978 m7002 m6998 g6959 (by and_intros <;> first | assumption | omega)) yo_X10_kept wM_X10_473 ⟨⟨by decide, by decide⟩, by decide, by decide⟩ (x_rv C hTH6957 (ci := 10) rfl ga0 rg_112) rfl hl.1 rfl (Nat.le_of_ble_eq_true rfl) dX10_image_75 hSH6957 (AE_sub (fun _ _ => rfl) (by decide) hSH6957.1) (fun vH7005 H7005 locsH7005 pH7005 zH7005 kH7005 hSH7005 => ?_)
      obtain ⟨x7006, x7007, hvH7005, ex7007, hrH7005, m7008, g7009, mf7010, m7011, m7012, m7013, m7014, hTH7005⟩ := pH7005
      subst hvH7005
      clear zH7005
      replace m7008 := EQN.mk m7008
      have b7015 : UN (x1.toInt ≠ 0) (fun k => fI H7005 q4 k) (fun k => fI s.heap q4 k) := UN.congr (fun j => fI_kept (x_lt hTH6957 kH7005 gq4 (by decide))) b6960
      have b7016 : UN (x1.toInt ≠ 0) (fun k => fI H7005 q16 k) (fun k => fI s.heap q16 k) := UN.congr (fun j => fI_kept (x_lt hTH6957 kH7005 gq16 (by decide))) b6961
      have b7017 : UN (x1.toInt ≠ 0) (fun k => fI H7005 q24 k) (fun k => fI s.heap q24 k) := UN.congr (fun j => fI_kept (x_lt hTH6957 kH7005 gq24 (by decide))) b6962
      have b7018 : UN (x1.toInt ≠ 0) (fun k => fI H7005 q29 k) (fun k => fI s.heap q29 k) := UN.congr (fun j => fI_kept (x_lt hTH6957 kH7005 gq29 (by decide))) b6963
      have b7019 : UN (x1.toInt ≠ 0) (fun k => fI H7005 q30 k) (fun k => fI s.heap q30 k) := UN.congr (fun j => fI_kept (x_lt hTH6957 kH7005 gq30 (by decide))) b6964
      have b7020 : UN (x1.toInt ≠ 0) (fun k => fI H7005 q31 k) (fun k => fI s.heap q31 k) := UN.congr (fun j => fI_kept (x_lt hTH6957 kH7005 gq31 (by decide))) b6965
      have b7021 : UN (x1.toInt ≠ 0) (fun k => fI H7005 q32 k) (fun k => fI s.heap q32 k) := UN.congr (fun j => fI_kept (x_lt hTH6957 kH7005 gq32 (by decide))) b6966
      have b7022 : UN (x1.toInt ≠ 0) (fun k => fI H7005 q33 k) (fun k => fI s.heap q33 k) := UN.congr (fun j => fI_kept (x_lt hTH6957 kH7005 gq33 (by decide))) b6967
      have b7023 : UN (x1.toInt ≠ 0) (fun k => fI H7005 q64 k) (fun k => fI s.heap q64 k) := UN.congr (fun j => fI_kept (x_lt hTH6957 kH7005 gq64 (by decide))) b6968
      have b7024 : UN (x1.toInt ≠ 0) (fun k => fI H7005 q66 k) (fun k => fI s.heap q66 k) := UN.congr (fun j => fI_kept (x_lt hTH6957 kH7005 gq66 (by decide))) b6969
      have b7025 : UN (x1.toInt ≠ 0) (fun k => fI H7005 q67 k) (fun k => fI s.heap q67 k) := UN.congr (fun j => fI_kept (x_lt hTH6957 kH7005 gq67 (by decide))) b6970
      have f7026 : ∀ j : Nat, fI H7005 q64 j = fI s.heap q64 j := fun j => (fI_kept (x_lt hTH6957 kH7005 gq64 (by decide))).trans (f6975 j)
      have f7027 : ∀ j : Nat, fI H7005 q66 j = fI s.heap q66 j := fun j => (fI_kept (x_lt hTH6957 kH7005 gq66 (by decide))).trans (f6976 j)
      have f7028 : ∀ j : Nat, fI H7005 q67 j = fI s.heap q67 j := fun j => (fI_kept (x_lt hTH6957 kH7005 gq67 (by decide))).trans (f6977 j)
      have m7029 := (m6978).trans (MF.r mf7010 (k := 73) (by decide) (by decide)).symm
      have m7030 := (m6979).trans (MF.r mf7010 (k := 4) (by decide) (by decide)).symm
      have m7031 := (m6980).trans (MF.r mf7010 (k := 10) (by decide) (by decide)).symm
      have m7032 := (m6981).trans (MF.r mf7010 (k := 16) (by decide) (by decide)).symm
      have m7033 := (m6982).trans (MF.r mf7010 (k := 24) (by decide) (by decide)).symm
      have m7034 := (m6983).trans (MF.r mf7010 (k := 27) (by decide) (by decide)).symm
      have m7035 := (m6984).trans (MF.r mf7010 (k := 29) (by decide) (by decide)).symm
      have m7036 := (m6985).trans (MF.r mf7010 (k := 30) (by decide) (by decide)).symm
      have m7037 := (m6986).trans (MF.r mf7010 (k := 31) (by decide) (by decide)).symm
      have m7038 := (m6987).trans (MF.r mf7010 (k := 32) (by decide) (by decide)).symm
      have m7039 := (m6988).trans (MF.r mf7010 (k := 33) (by decide) (by decide)).symm
      have m7040 := (m6989).trans (MF.r mf7010 (k := 50) (by decide) (by decide)).symm
      have m7041 := (m6990).trans (MF.r mf7010 (k := 64) (by decide) (by decide)).symm
      have m7042 := (m6991).trans (MF.r mf7010 (k := 66) (by decide) (by decide)).symm
      have m7043 := (m6992).trans (MF.r mf7010 (k := 67) (by decide) (by decide)).symm
      have m7044 := (m6994).trans (MF.i mf7010 (k := 59) (by decide) (by decide)).symm
      have m7045 := (m6995).trans (MF.i mf7010 (k := 62) (by decide) (by decide)).symm
      have m7046 := (m6996).trans (MF.i mf7010 (k := 65) (by decide) (by decide)).symm
      have m7047 := (MF.i mf7010 (k := 0) (by decide) (by decide)).trans m6997
      have m7048 := (m6998).trans (MF.i mf7010 (k := 71) (by decide) (by decide)).symm
      have m7049 := (MF.i mf7010 (k := 70) (by decide) (by decide)).trans m6999
      have m7050 := (m7000).trans (MF.i mf7010 (k := 1) (by decide) (by decide)).symm
      have m7051 := (m7001).trans (MF.i mf7010 (k := 2) (by decide) (by decide)).symm
      have m7052 := (m7003).trans (MF.i mf7010 (k := 3) (by decide) (by decide)).symm
      have mf7053 : MF K s.heap H7005 a0 [0, 1, 2, 3, 59, 62, 65, 70, 71, 72] := MF.trans mf6958 mf7010 (by decide)
      have bx7007 := ty_fi (x := x7007) (k := 72) ex7007 hTH7005 ga0 rg_112 rfl
      have ce_x6906 := i_cl (x := x6906) (by omega)
      have b7054 : UN (x1.toInt = 0) (fun k => fI H7005 iq k) (fun k => fI s.heap iq k) := UN.tr m7014 b6971
      have b7055 : x6709 = fI H7005 iq (0) := (b6972).trans (m7013 _ (by omega)).symm
      have b7056 : x6806 = fI H7005 iq (1) := (b6973).trans (m7013 _ (by omega)).symm
      have b7057 : x6905 = fI H7005 iq (2) := (b6974).trans (m7013 _ (by omega)).symm
      clear b6960 b6961 b6962 b6963 b6964 b6965 b6966 b6967 b6968 b6969 b6970 b6971 b6972 b6973 b6974 m6978 m6979 m6980 m6981 m6982 m6983 m6984 m6985 m6986 m6987 m6988 m6989 m6990 m6991 m6992 m6994 m6995 m6996 m6997 m6998 m6999 m7000 m7001 m7002 m7003
      clear m7013 m7014
      have bx7006 : 0 ≤ x7006.toInt ∧ x7006.toInt ≤ 20 := kr (fun h0 => by have hiw := hIW; exact kr0 (w := fun k => fI H7005 iq k) m7011 (p := 3) (by omega) (b7054 h0) (hiw.1.2.2.1)) m7012 (by omega)
      have p7058 : x7006 = fI H7005 iq (3) := by have h := m7011; rw [show x6906.toNatClampNeg = 3 by omega] at h; exact h
      refine W.eq (g2 := F0 m 78 ls [.int x7006, .ref a0]) rfl ?_
      refine x_put C hTH7005 hSH7005 (ci := 10) (k := 59) (v := .int x7006) (ty0 := tyX10) rfl inX10 tyX10_ok nmX10 (by decide) rfl wF_X10_438 ga0 rg_112 rfl rfl (okI (by have := i_rng x7006; omega) (by have := i_rng x7006; omega)) rfl rfl (AE_in ga0 (by decide)) dX10_image_78 (fun H7059 locsH7059 hTH7059 hSH7059 wH7059 => ?_)
      have mf7060 : MF K s.heap H7059 a0 [0, 1, 2, 3, 59, 62, 65, 70, 71, 72] := MF.fld hap wH7059 (by decide) (by decide) mf7053
      have g7061 : WD (avw K H7059 a0) := WD.congr (fun k hk j => av_fld hTH7005 ga0 hap wH7059 (by decide) (WD_ok 112 (by decide) k hk) (WD_ne 59 (by decide) k hk)) g7009
      have b7062 : UN (x1.toInt ≠ 0) (fun k => fI H7059 q4 k) (fun k => fI s.heap q4 k) := UN.congr (fun j => Wr.neI wH7059 (Or.inl (G_ne gq4 ga0 (by decide)))) b7015
      have b7063 : UN (x1.toInt ≠ 0) (fun k => fI H7059 q16 k) (fun k => fI s.heap q16 k) := UN.congr (fun j => Wr.neI wH7059 (Or.inl (G_ne gq16 ga0 (by decide)))) b7016
      have b7064 : UN (x1.toInt ≠ 0) (fun k => fI H7059 q24 k) (fun k => fI s.heap q24 k) := UN.congr (fun j => Wr.neI wH7059 (Or.inl (G_ne gq24 ga0 (by decide)))) b7017
      have b7065 : UN (x1.toInt ≠ 0) (fun k => fI H7059 q29 k) (fun k => fI s.heap q29 k) := UN.congr (fun j => Wr.neI wH7059 (Or.inl (G_ne gq29 ga0 (by decide)))) b7018
      have b7066 : UN (x1.toInt ≠ 0) (fun k => fI H7059 q30 k) (fun k => fI s.heap q30 k) := UN.congr (fun j => Wr.neI wH7059 (Or.inl (G_ne gq30 ga0 (by decide)))) b7019
      have b7067 : UN (x1.toInt ≠ 0) (fun k => fI H7059 q31 k) (fun k => fI s.heap q31 k) := UN.congr (fun j => Wr.neI wH7059 (Or.inl (G_ne gq31 ga0 (by decide)))) b7020
      have b7068 : UN (x1.toInt ≠ 0) (fun k => fI H7059 q32 k) (fun k => fI s.heap q32 k) := UN.congr (fun j => Wr.neI wH7059 (Or.inl (G_ne gq32 ga0 (by decide)))) b7021
      have b7069 : UN (x1.toInt ≠ 0) (fun k => fI H7059 q33 k) (fun k => fI s.heap q33 k) := UN.congr (fun j => Wr.neI wH7059 (Or.inl (G_ne gq33 ga0 (by decide)))) b7022
      have b7070 : UN (x1.toInt ≠ 0) (fun k => fI H7059 q64 k) (fun k => fI s.heap q64 k) := UN.congr (fun j => Wr.neI wH7059 (Or.inl (G_ne gq64 ga0 (by decide)))) b7023
      have b7071 : UN (x1.toInt ≠ 0) (fun k => fI H7059 q66 k) (fun k => fI s.heap q66 k) := UN.congr (fun j => Wr.neI wH7059 (Or.inl (G_ne gq66 ga0 (by decide)))) b7024
      have b7072 : UN (x1.toInt ≠ 0) (fun k => fI H7059 q67 k) (fun k => fI s.heap q67 k) := UN.congr (fun j => Wr.neI wH7059 (Or.inl (G_ne gq67 ga0 (by decide)))) b7025
      have b7073 : UN (x1.toInt = 0) (fun k => fI H7059 iq k) (fun k => fI s.heap iq k) := UN.congr (fun j => Wr.neI wH7059 (Or.inl (G_ne giq ga0 (by decide)))) b7054
      have b7074 : x6709 = fI H7059 iq (0) := (b7055).trans (Wr.neI wH7059 (Or.inl (G_ne giq ga0 (by decide)))).symm
      have b7075 : x6806 = fI H7059 iq (1) := (b7056).trans (Wr.neI wH7059 (Or.inl (G_ne giq ga0 (by decide)))).symm
      have b7076 : x6905 = fI H7059 iq (2) := (b7057).trans (Wr.neI wH7059 (Or.inl (G_ne giq ga0 (by decide)))).symm
      have b7077 : x7006 = fI H7059 iq (3) := (p7058).trans (Wr.neI wH7059 (Or.inl (G_ne giq ga0 (by decide)))).symm
      have f7078 : ∀ j : Nat, fI H7059 q64 j = fI s.heap q64 j := fun j => (Wr.neI wH7059 (Or.inl (G_ne gq64 ga0 (by decide)))).trans (f7026 j)
      have f7079 : ∀ j : Nat, fI H7059 q66 j = fI s.heap q66 j := fun j => (Wr.neI wH7059 (Or.inl (G_ne gq66 ga0 (by decide)))).trans (f7027 j)
      have f7080 : ∀ j : Nat, fI H7059 q67 j = fI s.heap q67 j := fun j => (Wr.neI wH7059 (Or.inl (G_ne gq67 ga0 (by decide)))).trans (f7028 j)
      have m7081 := m7008.trans (Wr.neR wH7059 (Or.inr (x_apart hKT hts inX10 tyX10 tyX10_ok nmX10 rfl 73 59 (by decide) (by decide) (by decide)))).symm
      have m7082 := m7030.trans (Wr.neR wH7059 (Or.inr (x_apart hKT hts inX10 tyX10 tyX10_ok nmX10 rfl 4 59 (by decide) (by decide) (by decide)))).symm
      have m7083 := m7031.trans (Wr.neR wH7059 (Or.inr (x_apart hKT hts inX10 tyX10 tyX10_ok nmX10 rfl 10 59 (by decide) (by decide) (by decide)))).symm
      have m7084 := m7032.trans (Wr.neR wH7059 (Or.inr (x_apart hKT hts inX10 tyX10 tyX10_ok nmX10 rfl 16 59 (by decide) (by decide) (by decide)))).symm
      have m7085 := m7033.trans (Wr.neR wH7059 (Or.inr (x_apart hKT hts inX10 tyX10 tyX10_ok nmX10 rfl 24 59 (by decide) (by decide) (by decide)))).symm
      have m7086 := m7034.trans (Wr.neR wH7059 (Or.inr (x_apart hKT hts inX10 tyX10 tyX10_ok nmX10 rfl 27 59 (by decide) (by decide) (by decide)))).symm
      have m7087 := m7035.trans (Wr.neR wH7059 (Or.inr (x_apart hKT hts inX10 tyX10 tyX10_ok nmX10 rfl 29 59 (by decide) (by decide) (by decide)))).symm
      have m7088 := m7036.trans (Wr.neR wH7059 (Or.inr (x_apart hKT hts inX10 tyX10 tyX10_ok nmX10 rfl 30 59 (by decide) (by decide) (by decide)))).symm
      have m7089 := m7037.trans (Wr.neR wH7059 (Or.inr (x_apart hKT hts inX10 tyX10 tyX10_ok nmX10 rfl 31 59 (by decide) (by decide) (by decide)))).symm
      have m7090 := m7038.trans (Wr.neR wH7059 (Or.inr (x_apart hKT hts inX10 tyX10 tyX10_ok nmX10 rfl 32 59 (by decide) (by decide) (by decide)))).symm
      have m7091 := m7039.trans (Wr.neR wH7059 (Or.inr (x_apart hKT hts inX10 tyX10 tyX10_ok nmX10 rfl 33 59 (by decide) (by decide) (by decide)))).symm
      have m7092 := m7040.trans (Wr.neR wH7059 (Or.inr (x_apart hKT hts inX10 tyX10 tyX10_ok nmX10 rfl 50 59 (by decide) (by decide) (by decide)))).symm
      have m7093 := m7041.trans (Wr.neR wH7059 (Or.inr (x_apart hKT hts inX10 tyX10 tyX10_ok nmX10 rfl 64 59 (by decide) (by decide) (by decide)))).symm
      have m7094 := m7042.trans (Wr.neR wH7059 (Or.inr (x_apart hKT hts inX10 tyX10 tyX10_ok nmX10 rfl 66 59 (by decide) (by decide) (by decide)))).symm
      have m7095 := m7043.trans (Wr.neR wH7059 (Or.inr (x_apart hKT hts inX10 tyX10 tyX10_ok nmX10 rfl 67 59 (by decide) (by decide) (by decide)))).symm
      have m7097 := m7045.trans (Wr.neI wH7059 (Or.inr (x_apart hKT hts inX10 tyX10 tyX10_ok nmX10 rfl 62 59 (by decide) (by decide) (by decide)))).symm
      have m7098 := m7046.trans (Wr.neI wH7059 (Or.inr (x_apart hKT hts inX10 tyX10 tyX10_ok nmX10 rfl 65 59 (by decide) (by decide) (by decide)))).symm
      have m7099 := (Wr.neI wH7059 (Or.inr (x_apart hKT hts inX10 tyX10 tyX10_ok nmX10 rfl 0 59 (by decide) (by decide) (by decide)))).trans m7047
      have m7100 := m7048.trans (Wr.neI wH7059 (Or.inr (x_apart hKT hts inX10 tyX10 tyX10_ok nmX10 rfl 71 59 (by decide) (by decide) (by decide)))).symm
      have m7101 := (Wr.neI wH7059 (Or.inr (x_apart hKT hts inX10 tyX10 tyX10_ok nmX10 rfl 70 59 (by decide) (by decide) (by decide)))).trans m7049
      have m7102 := m7050.trans (Wr.neI wH7059 (Or.inr (x_apart hKT hts inX10 tyX10 tyX10_ok nmX10 rfl 1 59 (by decide) (by decide) (by decide)))).symm
      have m7103 := m7051.trans (Wr.neI wH7059 (Or.inr (x_apart hKT hts inX10 tyX10 tyX10_ok nmX10 rfl 2 59 (by decide) (by decide) (by decide)))).symm
      have m7104 := m7052.trans (Wr.neI wH7059 (Or.inr (x_apart hKT hts inX10 tyX10 tyX10_ok nmX10 rfl 3 59 (by decide) (by decide) (by decide)))).symm
      have m7105 := ex7007.trans (Wr.neI wH7059 (Or.inr (x_apart hKT hts inX10 tyX10 tyX10_ok nmX10 rfl 72 59 (by decide) (by decide) (by decide)))).symm
      have m7106 := Wr.I wH7059
      have m7106 := m7106.symm
      clear b7015 b7016 b7017 b7018 b7019 b7020 b7021 b7022 b7023 b7024 b7025 b7054 b7055 b7056 b7057 ex7007 f7026 f7027 f7028 g7009 hTH7005 m7008 m7030 m7031 m7032 m7033 m7034 m7035 m7036 m7037 m7038 m7039 m7040 m7041 m7042 m7043 m7044 m7045 m7046 m7047 m7048 m7049 m7050 m7051 m7052 mf7053 p7058
      refine lv_aload_n hx hb dX10_image_81 rfl (lv_at hl 0 rfl) ?_
      refine lv_aload_n hx hb dX10_image_82 rfl (lv_at hl 0 rfl) ?_
      refine lv_aload_n hx hb dX10_image_83 rfl (lv_at hl 0 rfl) ?_
      refine x_gi C hTH7059 (ci := 10) (k := 62) rfl inX10 (by decide) wF_X10_455 ga0 rg_112 rfl dX10_image_84 (fun x7107 ex7107 bx7107 => ?_)
      have ux7107 : s62 = x7107 := (m7097).trans ex7107.symm
      subst ux7107
      refine x_V (As := [.int s62]) (rest := [.ref a0]) C (a_X10_kept l K G H7059 (s62) (x7007) (x1) hTH7059 ga0 giq m7081 m7105 m7100 g7061 (by and_intros <;> first | assumption | omega)) yo_X10_kept wM_X10_473 ⟨⟨by decide, by decide⟩, by decide, by decide⟩ (x_rv C hTH7059 (ci := 10) rfl ga0 rg_112) rfl hl.1 rfl (Nat.le_of_ble_eq_true rfl) dX10_image_87 hSH7059 (AE_sub (fun _ _ => rfl) (by decide) hSH7059.1) (fun vH7108 H7108 locsH7108 pH7108 zH7108 kH7108 hSH7108 => ?_)
      obtain ⟨x7109, x7110, hvH7108, ex7110, hrH7108, m7111, g7112, mf7113, m7114, m7115, m7116, m7117, hTH7108⟩ := pH7108
      subst hvH7108
      clear zH7108
      replace m7111 := EQN.mk m7111
      have b7118 : UN (x1.toInt ≠ 0) (fun k => fI H7108 q4 k) (fun k => fI s.heap q4 k) := UN.congr (fun j => fI_kept (x_lt hTH7059 kH7108 gq4 (by decide))) b7062
      have b7119 : UN (x1.toInt ≠ 0) (fun k => fI H7108 q16 k) (fun k => fI s.heap q16 k) := UN.congr (fun j => fI_kept (x_lt hTH7059 kH7108 gq16 (by decide))) b7063
      have b7120 : UN (x1.toInt ≠ 0) (fun k => fI H7108 q24 k) (fun k => fI s.heap q24 k) := UN.congr (fun j => fI_kept (x_lt hTH7059 kH7108 gq24 (by decide))) b7064
      have b7121 : UN (x1.toInt ≠ 0) (fun k => fI H7108 q29 k) (fun k => fI s.heap q29 k) := UN.congr (fun j => fI_kept (x_lt hTH7059 kH7108 gq29 (by decide))) b7065
      have b7122 : UN (x1.toInt ≠ 0) (fun k => fI H7108 q30 k) (fun k => fI s.heap q30 k) := UN.congr (fun j => fI_kept (x_lt hTH7059 kH7108 gq30 (by decide))) b7066
      have b7123 : UN (x1.toInt ≠ 0) (fun k => fI H7108 q31 k) (fun k => fI s.heap q31 k) := UN.congr (fun j => fI_kept (x_lt hTH7059 kH7108 gq31 (by decide))) b7067
      have b7124 : UN (x1.toInt ≠ 0) (fun k => fI H7108 q32 k) (fun k => fI s.heap q32 k) := UN.congr (fun j => fI_kept (x_lt hTH7059 kH7108 gq32 (by decide))) b7068
      have b7125 : UN (x1.toInt ≠ 0) (fun k => fI H7108 q33 k) (fun k => fI s.heap q33 k) := UN.congr (fun j => fI_kept (x_lt hTH7059 kH7108 gq33 (by decide))) b7069
      have b7126 : UN (x1.toInt ≠ 0) (fun k => fI H7108 q64 k) (fun k => fI s.heap q64 k) := UN.congr (fun j => fI_kept (x_lt hTH7059 kH7108 gq64 (by decide))) b7070
      have b7127 : UN (x1.toInt ≠ 0) (fun k => fI H7108 q66 k) (fun k => fI s.heap q66 k) := UN.congr (fun j => fI_kept (x_lt hTH7059 kH7108 gq66 (by decide))) b7071
      have b7128 : UN (x1.toInt ≠ 0) (fun k => fI H7108 q67 k) (fun k => fI s.heap q67 k) := UN.congr (fun j => fI_kept (x_lt hTH7059 kH7108 gq67 (by decide))) b7072
      have f7129 : ∀ j : Nat, fI H7108 q64 j = fI s.heap q64 j := fun j => (fI_kept (x_lt hTH7059 kH7108 gq64 (by decide))).trans (f7078 j)
      have f7130 : ∀ j : Nat, fI H7108 q66 j = fI s.heap q66 j := fun j => (fI_kept (x_lt hTH7059 kH7108 gq66 (by decide))).trans (f7079 j)
      have f7131 : ∀ j : Nat, fI H7108 q67 j = fI s.heap q67 j := fun j => (fI_kept (x_lt hTH7059 kH7108 gq67 (by decide))).trans (f7080 j)
      have m7132 := (m7081).trans (MF.r mf7113 (k := 73) (by decide) (by decide)).symm
      have m7133 := (m7082).trans (MF.r mf7113 (k := 4) (by decide) (by decide)).symm
      have m7134 := (m7083).trans (MF.r mf7113 (k := 10) (by decide) (by decide)).symm
      have m7135 := (m7084).trans (MF.r mf7113 (k := 16) (by decide) (by decide)).symm
      have m7136 := (m7085).trans (MF.r mf7113 (k := 24) (by decide) (by decide)).symm
      have m7137 := (m7086).trans (MF.r mf7113 (k := 27) (by decide) (by decide)).symm
      have m7138 := (m7087).trans (MF.r mf7113 (k := 29) (by decide) (by decide)).symm
      have m7139 := (m7088).trans (MF.r mf7113 (k := 30) (by decide) (by decide)).symm
      have m7140 := (m7089).trans (MF.r mf7113 (k := 31) (by decide) (by decide)).symm
      have m7141 := (m7090).trans (MF.r mf7113 (k := 32) (by decide) (by decide)).symm
      have m7142 := (m7091).trans (MF.r mf7113 (k := 33) (by decide) (by decide)).symm
      have m7143 := (m7092).trans (MF.r mf7113 (k := 50) (by decide) (by decide)).symm
      have m7144 := (m7093).trans (MF.r mf7113 (k := 64) (by decide) (by decide)).symm
      have m7145 := (m7094).trans (MF.r mf7113 (k := 66) (by decide) (by decide)).symm
      have m7146 := (m7095).trans (MF.r mf7113 (k := 67) (by decide) (by decide)).symm
      have m7147 := (m7097).trans (MF.i mf7113 (k := 62) (by decide) (by decide)).symm
      have m7148 := (m7098).trans (MF.i mf7113 (k := 65) (by decide) (by decide)).symm
      have m7149 := (MF.i mf7113 (k := 0) (by decide) (by decide)).trans m7099
      have m7150 := (m7100).trans (MF.i mf7113 (k := 71) (by decide) (by decide)).symm
      have m7151 := (MF.i mf7113 (k := 70) (by decide) (by decide)).trans m7101
      have m7152 := (m7102).trans (MF.i mf7113 (k := 1) (by decide) (by decide)).symm
      have m7153 := (m7103).trans (MF.i mf7113 (k := 2) (by decide) (by decide)).symm
      have m7154 := (m7104).trans (MF.i mf7113 (k := 3) (by decide) (by decide)).symm
      have m7155 := (m7106).trans (MF.i mf7113 (k := 59) (by decide) (by decide)).symm
      have mf7156 : MF K s.heap H7108 a0 [0, 1, 2, 3, 59, 62, 65, 70, 71, 72] := MF.trans mf7060 mf7113 (by decide)
      have bx7110 := ty_fi (x := x7110) (k := 72) ex7110 hTH7108 ga0 rg_112 rfl
      have ce_x7007 := i_cl (x := x7007) (by omega)
      have b7157 : UN (x1.toInt = 0) (fun k => fI H7108 iq k) (fun k => fI s.heap iq k) := UN.tr m7117 b7073
      have b7158 : x6709 = fI H7108 iq (0) := (b7074).trans (m7116 _ (by omega)).symm
      have b7159 : x6806 = fI H7108 iq (1) := (b7075).trans (m7116 _ (by omega)).symm
      have b7160 : x6905 = fI H7108 iq (2) := (b7076).trans (m7116 _ (by omega)).symm
      have b7161 : x7006 = fI H7108 iq (3) := (b7077).trans (m7116 _ (by omega)).symm
      clear b7062 b7063 b7064 b7065 b7066 b7067 b7068 b7069 b7070 b7071 b7072 b7073 b7074 b7075 b7076 b7077 m7081 m7082 m7083 m7084 m7085 m7086 m7087 m7088 m7089 m7090 m7091 m7092 m7093 m7094 m7095 m7097 m7098 m7099 m7100 m7101 m7102 m7103 m7104 m7105 m7106
      clear m7116 m7117
      have bx7109 : 0 ≤ x7109.toInt ∧ x7109.toInt ≤ 8 := kr (fun h0 => by have hiw := hIW; exact kr0 (w := fun k => fI H7108 iq k) m7114 (p := 4) (by omega) (b7157 h0) (hiw.1.2.2.2.1)) m7115 (by omega)
      have p7162 : x7109 = fI H7108 iq (4) := by have h := m7114; rw [show x7007.toNatClampNeg = 4 by omega] at h; exact h
      refine W.eq (g2 := F0 m 90 ls [.int x7109, .ref a0]) rfl ?_
      refine x_put C hTH7108 hSH7108 (ci := 10) (k := 62) (v := .int x7109) (ty0 := tyX10) rfl inX10 tyX10_ok nmX10 (by decide) rfl wF_X10_455 ga0 rg_112 rfl rfl (okI (by have := i_rng x7109; omega) (by have := i_rng x7109; omega)) rfl rfl (AE_in ga0 (by decide)) dX10_image_90 (fun H7163 locsH7163 hTH7163 hSH7163 wH7163 => ?_)
      have mf7164 : MF K s.heap H7163 a0 [0, 1, 2, 3, 59, 62, 65, 70, 71, 72] := MF.fld hap wH7163 (by decide) (by decide) mf7156
      have g7165 : WD (avw K H7163 a0) := WD.congr (fun k hk j => av_fld hTH7108 ga0 hap wH7163 (by decide) (WD_ok 112 (by decide) k hk) (WD_ne 62 (by decide) k hk)) g7112
      have b7166 : UN (x1.toInt ≠ 0) (fun k => fI H7163 q4 k) (fun k => fI s.heap q4 k) := UN.congr (fun j => Wr.neI wH7163 (Or.inl (G_ne gq4 ga0 (by decide)))) b7118
      have b7167 : UN (x1.toInt ≠ 0) (fun k => fI H7163 q16 k) (fun k => fI s.heap q16 k) := UN.congr (fun j => Wr.neI wH7163 (Or.inl (G_ne gq16 ga0 (by decide)))) b7119
      have b7168 : UN (x1.toInt ≠ 0) (fun k => fI H7163 q24 k) (fun k => fI s.heap q24 k) := UN.congr (fun j => Wr.neI wH7163 (Or.inl (G_ne gq24 ga0 (by decide)))) b7120
      have b7169 : UN (x1.toInt ≠ 0) (fun k => fI H7163 q29 k) (fun k => fI s.heap q29 k) := UN.congr (fun j => Wr.neI wH7163 (Or.inl (G_ne gq29 ga0 (by decide)))) b7121
      have b7170 : UN (x1.toInt ≠ 0) (fun k => fI H7163 q30 k) (fun k => fI s.heap q30 k) := UN.congr (fun j => Wr.neI wH7163 (Or.inl (G_ne gq30 ga0 (by decide)))) b7122
      have b7171 : UN (x1.toInt ≠ 0) (fun k => fI H7163 q31 k) (fun k => fI s.heap q31 k) := UN.congr (fun j => Wr.neI wH7163 (Or.inl (G_ne gq31 ga0 (by decide)))) b7123
      have b7172 : UN (x1.toInt ≠ 0) (fun k => fI H7163 q32 k) (fun k => fI s.heap q32 k) := UN.congr (fun j => Wr.neI wH7163 (Or.inl (G_ne gq32 ga0 (by decide)))) b7124
      have b7173 : UN (x1.toInt ≠ 0) (fun k => fI H7163 q33 k) (fun k => fI s.heap q33 k) := UN.congr (fun j => Wr.neI wH7163 (Or.inl (G_ne gq33 ga0 (by decide)))) b7125
      have b7174 : UN (x1.toInt ≠ 0) (fun k => fI H7163 q64 k) (fun k => fI s.heap q64 k) := UN.congr (fun j => Wr.neI wH7163 (Or.inl (G_ne gq64 ga0 (by decide)))) b7126
      have b7175 : UN (x1.toInt ≠ 0) (fun k => fI H7163 q66 k) (fun k => fI s.heap q66 k) := UN.congr (fun j => Wr.neI wH7163 (Or.inl (G_ne gq66 ga0 (by decide)))) b7127
      have b7176 : UN (x1.toInt ≠ 0) (fun k => fI H7163 q67 k) (fun k => fI s.heap q67 k) := UN.congr (fun j => Wr.neI wH7163 (Or.inl (G_ne gq67 ga0 (by decide)))) b7128
      have b7177 : UN (x1.toInt = 0) (fun k => fI H7163 iq k) (fun k => fI s.heap iq k) := UN.congr (fun j => Wr.neI wH7163 (Or.inl (G_ne giq ga0 (by decide)))) b7157
      have b7178 : x6709 = fI H7163 iq (0) := (b7158).trans (Wr.neI wH7163 (Or.inl (G_ne giq ga0 (by decide)))).symm
      have b7179 : x6806 = fI H7163 iq (1) := (b7159).trans (Wr.neI wH7163 (Or.inl (G_ne giq ga0 (by decide)))).symm
      have b7180 : x6905 = fI H7163 iq (2) := (b7160).trans (Wr.neI wH7163 (Or.inl (G_ne giq ga0 (by decide)))).symm
      have b7181 : x7006 = fI H7163 iq (3) := (b7161).trans (Wr.neI wH7163 (Or.inl (G_ne giq ga0 (by decide)))).symm
      have b7182 : x7109 = fI H7163 iq (4) := (p7162).trans (Wr.neI wH7163 (Or.inl (G_ne giq ga0 (by decide)))).symm
      have f7183 : ∀ j : Nat, fI H7163 q64 j = fI s.heap q64 j := fun j => (Wr.neI wH7163 (Or.inl (G_ne gq64 ga0 (by decide)))).trans (f7129 j)
      have f7184 : ∀ j : Nat, fI H7163 q66 j = fI s.heap q66 j := fun j => (Wr.neI wH7163 (Or.inl (G_ne gq66 ga0 (by decide)))).trans (f7130 j)
      have f7185 : ∀ j : Nat, fI H7163 q67 j = fI s.heap q67 j := fun j => (Wr.neI wH7163 (Or.inl (G_ne gq67 ga0 (by decide)))).trans (f7131 j)
      have m7186 := m7111.trans (Wr.neR wH7163 (Or.inr (x_apart hKT hts inX10 tyX10 tyX10_ok nmX10 rfl 73 62 (by decide) (by decide) (by decide)))).symm
      have m7187 := m7133.trans (Wr.neR wH7163 (Or.inr (x_apart hKT hts inX10 tyX10 tyX10_ok nmX10 rfl 4 62 (by decide) (by decide) (by decide)))).symm
      have m7188 := m7134.trans (Wr.neR wH7163 (Or.inr (x_apart hKT hts inX10 tyX10 tyX10_ok nmX10 rfl 10 62 (by decide) (by decide) (by decide)))).symm
      have m7189 := m7135.trans (Wr.neR wH7163 (Or.inr (x_apart hKT hts inX10 tyX10 tyX10_ok nmX10 rfl 16 62 (by decide) (by decide) (by decide)))).symm
      have m7190 := m7136.trans (Wr.neR wH7163 (Or.inr (x_apart hKT hts inX10 tyX10 tyX10_ok nmX10 rfl 24 62 (by decide) (by decide) (by decide)))).symm
      have m7191 := m7137.trans (Wr.neR wH7163 (Or.inr (x_apart hKT hts inX10 tyX10 tyX10_ok nmX10 rfl 27 62 (by decide) (by decide) (by decide)))).symm
      have m7192 := m7138.trans (Wr.neR wH7163 (Or.inr (x_apart hKT hts inX10 tyX10 tyX10_ok nmX10 rfl 29 62 (by decide) (by decide) (by decide)))).symm
      have m7193 := m7139.trans (Wr.neR wH7163 (Or.inr (x_apart hKT hts inX10 tyX10 tyX10_ok nmX10 rfl 30 62 (by decide) (by decide) (by decide)))).symm
      have m7194 := m7140.trans (Wr.neR wH7163 (Or.inr (x_apart hKT hts inX10 tyX10 tyX10_ok nmX10 rfl 31 62 (by decide) (by decide) (by decide)))).symm
      have m7195 := m7141.trans (Wr.neR wH7163 (Or.inr (x_apart hKT hts inX10 tyX10 tyX10_ok nmX10 rfl 32 62 (by decide) (by decide) (by decide)))).symm
      have m7196 := m7142.trans (Wr.neR wH7163 (Or.inr (x_apart hKT hts inX10 tyX10 tyX10_ok nmX10 rfl 33 62 (by decide) (by decide) (by decide)))).symm
      have m7197 := m7143.trans (Wr.neR wH7163 (Or.inr (x_apart hKT hts inX10 tyX10 tyX10_ok nmX10 rfl 50 62 (by decide) (by decide) (by decide)))).symm
      have m7198 := m7144.trans (Wr.neR wH7163 (Or.inr (x_apart hKT hts inX10 tyX10 tyX10_ok nmX10 rfl 64 62 (by decide) (by decide) (by decide)))).symm
      have m7199 := m7145.trans (Wr.neR wH7163 (Or.inr (x_apart hKT hts inX10 tyX10 tyX10_ok nmX10 rfl 66 62 (by decide) (by decide) (by decide)))).symm
      have m7200 := m7146.trans (Wr.neR wH7163 (Or.inr (x_apart hKT hts inX10 tyX10 tyX10_ok nmX10 rfl 67 62 (by decide) (by decide) (by decide)))).symm
      have m7202 := m7148.trans (Wr.neI wH7163 (Or.inr (x_apart hKT hts inX10 tyX10 tyX10_ok nmX10 rfl 65 62 (by decide) (by decide) (by decide)))).symm
      have m7203 := (Wr.neI wH7163 (Or.inr (x_apart hKT hts inX10 tyX10 tyX10_ok nmX10 rfl 0 62 (by decide) (by decide) (by decide)))).trans m7149
      have m7204 := m7150.trans (Wr.neI wH7163 (Or.inr (x_apart hKT hts inX10 tyX10 tyX10_ok nmX10 rfl 71 62 (by decide) (by decide) (by decide)))).symm
      have m7205 := (Wr.neI wH7163 (Or.inr (x_apart hKT hts inX10 tyX10 tyX10_ok nmX10 rfl 70 62 (by decide) (by decide) (by decide)))).trans m7151
      have m7206 := m7152.trans (Wr.neI wH7163 (Or.inr (x_apart hKT hts inX10 tyX10 tyX10_ok nmX10 rfl 1 62 (by decide) (by decide) (by decide)))).symm
      have m7207 := m7153.trans (Wr.neI wH7163 (Or.inr (x_apart hKT hts inX10 tyX10 tyX10_ok nmX10 rfl 2 62 (by decide) (by decide) (by decide)))).symm
      have m7208 := m7154.trans (Wr.neI wH7163 (Or.inr (x_apart hKT hts inX10 tyX10 tyX10_ok nmX10 rfl 3 62 (by decide) (by decide) (by decide)))).symm
      have m7209 := m7155.trans (Wr.neI wH7163 (Or.inr (x_apart hKT hts inX10 tyX10 tyX10_ok nmX10 rfl 59 62 (by decide) (by decide) (by decide)))).symm
      have m7210 := ex7110.trans (Wr.neI wH7163 (Or.inr (x_apart hKT hts inX10 tyX10 tyX10_ok nmX10 rfl 72 62 (by decide) (by decide) (by decide)))).symm
      have m7211 := Wr.I wH7163
      have m7211 := m7211.symm
      clear b7118 b7119 b7120 b7121 b7122 b7123 b7124 b7125 b7126 b7127 b7128 b7157 b7158 b7159 b7160 b7161 ex7110 f7129 f7130 f7131 g7112 hTH7108 m7111 m7133 m7134 m7135 m7136 m7137 m7138 m7139 m7140 m7141 m7142 m7143 m7144 m7145 m7146 m7147 m7148 m7149 m7150 m7151 m7152 m7153 m7154 m7155 mf7156 p7162
      refine lv_aload_n hx hb dX10_image_93 rfl (lv_at hl 0 rfl) ?_
      refine lv_aload_n hx hb dX10_image_94 rfl (lv_at hl 0 rfl) ?_
      refine lv_aload_n hx hb dX10_image_95 rfl (lv_at hl 0 rfl) ?_
      refine x_gi C hTH7163 (ci := 10) (k := 65) rfl inX10 (by decide) wF_X10_458 ga0 rg_112 rfl dX10_image_96 (fun x7212 ex7212 bx7212 => ?_)
      have ux7212 : s65 = x7212 := (m7202).trans ex7212.symm
      subst ux7212
      refine x_V (As := [.int s65]) (rest := [.ref a0]) C (a_X10_kept l K G H7163 (s65) (x7110) (x1) hTH7163 ga0 giq m7186 m7210 m7204 g7165 (by and_intros <;> first | assumption | omega)) yo_X10_kept wM_X10_473 ⟨⟨by decide, by decide⟩, by decide, by decide⟩ (x_rv C hTH7163 (ci := 10) rfl ga0 rg_112) rfl hl.1 rfl (Nat.le_of_ble_eq_true rfl) dX10_image_99 hSH7163 (AE_sub (fun _ _ => rfl) (by decide) hSH7163.1) (fun vH7213 H7213 locsH7213 pH7213 zH7213 kH7213 hSH7213 => ?_)
      obtain ⟨x7214, x7215, hvH7213, ex7215, hrH7213, m7216, g7217, mf7218, m7219, m7220, m7221, m7222, hTH7213⟩ := pH7213
      subst hvH7213
      clear zH7213
      replace m7216 := EQN.mk m7216
      have b7223 : UN (x1.toInt ≠ 0) (fun k => fI H7213 q4 k) (fun k => fI s.heap q4 k) := UN.congr (fun j => fI_kept (x_lt hTH7163 kH7213 gq4 (by decide))) b7166
      have b7224 : UN (x1.toInt ≠ 0) (fun k => fI H7213 q16 k) (fun k => fI s.heap q16 k) := UN.congr (fun j => fI_kept (x_lt hTH7163 kH7213 gq16 (by decide))) b7167
      have b7225 : UN (x1.toInt ≠ 0) (fun k => fI H7213 q24 k) (fun k => fI s.heap q24 k) := UN.congr (fun j => fI_kept (x_lt hTH7163 kH7213 gq24 (by decide))) b7168
      have b7226 : UN (x1.toInt ≠ 0) (fun k => fI H7213 q29 k) (fun k => fI s.heap q29 k) := UN.congr (fun j => fI_kept (x_lt hTH7163 kH7213 gq29 (by decide))) b7169
      have b7227 : UN (x1.toInt ≠ 0) (fun k => fI H7213 q30 k) (fun k => fI s.heap q30 k) := UN.congr (fun j => fI_kept (x_lt hTH7163 kH7213 gq30 (by decide))) b7170
      have b7228 : UN (x1.toInt ≠ 0) (fun k => fI H7213 q31 k) (fun k => fI s.heap q31 k) := UN.congr (fun j => fI_kept (x_lt hTH7163 kH7213 gq31 (by decide))) b7171
      have b7229 : UN (x1.toInt ≠ 0) (fun k => fI H7213 q32 k) (fun k => fI s.heap q32 k) := UN.congr (fun j => fI_kept (x_lt hTH7163 kH7213 gq32 (by decide))) b7172
      have b7230 : UN (x1.toInt ≠ 0) (fun k => fI H7213 q33 k) (fun k => fI s.heap q33 k) := UN.congr (fun j => fI_kept (x_lt hTH7163 kH7213 gq33 (by decide))) b7173
      have b7231 : UN (x1.toInt ≠ 0) (fun k => fI H7213 q64 k) (fun k => fI s.heap q64 k) := UN.congr (fun j => fI_kept (x_lt hTH7163 kH7213 gq64 (by decide))) b7174
      have b7232 : UN (x1.toInt ≠ 0) (fun k => fI H7213 q66 k) (fun k => fI s.heap q66 k) := UN.congr (fun j => fI_kept (x_lt hTH7163 kH7213 gq66 (by decide))) b7175
      have b7233 : UN (x1.toInt ≠ 0) (fun k => fI H7213 q67 k) (fun k => fI s.heap q67 k) := UN.congr (fun j => fI_kept (x_lt hTH7163 kH7213 gq67 (by decide))) b7176
      have f7234 : ∀ j : Nat, fI H7213 q64 j = fI s.heap q64 j := fun j => (fI_kept (x_lt hTH7163 kH7213 gq64 (by decide))).trans (f7183 j)
      have f7235 : ∀ j : Nat, fI H7213 q66 j = fI s.heap q66 j := fun j => (fI_kept (x_lt hTH7163 kH7213 gq66 (by decide))).trans (f7184 j)
      have f7236 : ∀ j : Nat, fI H7213 q67 j = fI s.heap q67 j := fun j => (fI_kept (x_lt hTH7163 kH7213 gq67 (by decide))).trans (f7185 j)
      have m7237 := (m7186).trans (MF.r mf7218 (k := 73) (by decide) (by decide)).symm
      have m7238 := (m7187).trans (MF.r mf7218 (k := 4) (by decide) (by decide)).symm
      have m7239 := (m7188).trans (MF.r mf7218 (k := 10) (by decide) (by decide)).symm
      have m7240 := (m7189).trans (MF.r mf7218 (k := 16) (by decide) (by decide)).symm
      have m7241 := (m7190).trans (MF.r mf7218 (k := 24) (by decide) (by decide)).symm
      have m7242 := (m7191).trans (MF.r mf7218 (k := 27) (by decide) (by decide)).symm
      have m7243 := (m7192).trans (MF.r mf7218 (k := 29) (by decide) (by decide)).symm
      have m7244 := (m7193).trans (MF.r mf7218 (k := 30) (by decide) (by decide)).symm
      have m7245 := (m7194).trans (MF.r mf7218 (k := 31) (by decide) (by decide)).symm
      have m7246 := (m7195).trans (MF.r mf7218 (k := 32) (by decide) (by decide)).symm
      have m7247 := (m7196).trans (MF.r mf7218 (k := 33) (by decide) (by decide)).symm
      have m7248 := (m7197).trans (MF.r mf7218 (k := 50) (by decide) (by decide)).symm
      have m7249 := (m7198).trans (MF.r mf7218 (k := 64) (by decide) (by decide)).symm
      have m7250 := (m7199).trans (MF.r mf7218 (k := 66) (by decide) (by decide)).symm
      have m7251 := (m7200).trans (MF.r mf7218 (k := 67) (by decide) (by decide)).symm
      have m7252 := (m7202).trans (MF.i mf7218 (k := 65) (by decide) (by decide)).symm
      have m7253 := (MF.i mf7218 (k := 0) (by decide) (by decide)).trans m7203
      have m7254 := (m7204).trans (MF.i mf7218 (k := 71) (by decide) (by decide)).symm
      have m7255 := (MF.i mf7218 (k := 70) (by decide) (by decide)).trans m7205
      have m7256 := (m7206).trans (MF.i mf7218 (k := 1) (by decide) (by decide)).symm
      have m7257 := (m7207).trans (MF.i mf7218 (k := 2) (by decide) (by decide)).symm
      have m7258 := (m7208).trans (MF.i mf7218 (k := 3) (by decide) (by decide)).symm
      have m7259 := (m7209).trans (MF.i mf7218 (k := 59) (by decide) (by decide)).symm
      have m7260 := (m7211).trans (MF.i mf7218 (k := 62) (by decide) (by decide)).symm
      have mf7261 : MF K s.heap H7213 a0 [0, 1, 2, 3, 59, 62, 65, 70, 71, 72] := MF.trans mf7164 mf7218 (by decide)
      have bx7215 := ty_fi (x := x7215) (k := 72) ex7215 hTH7213 ga0 rg_112 rfl
      have ce_x7110 := i_cl (x := x7110) (by omega)
      have b7262 : UN (x1.toInt = 0) (fun k => fI H7213 iq k) (fun k => fI s.heap iq k) := UN.tr m7222 b7177
      have b7263 : x6709 = fI H7213 iq (0) := (b7178).trans (m7221 _ (by omega)).symm
      have b7264 : x6806 = fI H7213 iq (1) := (b7179).trans (m7221 _ (by omega)).symm
      have b7265 : x6905 = fI H7213 iq (2) := (b7180).trans (m7221 _ (by omega)).symm
      have b7266 : x7006 = fI H7213 iq (3) := (b7181).trans (m7221 _ (by omega)).symm
      have b7267 : x7109 = fI H7213 iq (4) := (b7182).trans (m7221 _ (by omega)).symm
      clear b7166 b7167 b7168 b7169 b7170 b7171 b7172 b7173 b7174 b7175 b7176 b7177 b7178 b7179 b7180 b7181 b7182 m7186 m7187 m7188 m7189 m7190 m7191 m7192 m7193 m7194 m7195 m7196 m7197 m7198 m7199 m7200 m7202 m7203 m7204 m7205 m7206 m7207 m7208 m7209 m7210 m7211
      clear m7221 m7222
      have bx7214 : 0 ≤ x7214.toInt ∧ x7214.toInt ≤ 8 := kr (fun h0 => by have hiw := hIW; exact kr0 (w := fun k => fI H7213 iq k) m7219 (p := 5) (by omega) (b7262 h0) (hiw.1.2.2.2.2)) m7220 (by omega)
      have p7268 : x7214 = fI H7213 iq (5) := by have h := m7219; rw [show x7110.toNatClampNeg = 5 by omega] at h; exact h
      refine W.eq (g2 := F0 m 102 ls [.int x7214, .ref a0]) rfl ?_
      refine x_put C hTH7213 hSH7213 (ci := 10) (k := 65) (v := .int x7214) (ty0 := tyX10) rfl inX10 tyX10_ok nmX10 (by decide) rfl wF_X10_458 ga0 rg_112 rfl rfl (okI (by have := i_rng x7214; omega) (by have := i_rng x7214; omega)) rfl rfl (AE_in ga0 (by decide)) dX10_image_102 (fun H7269 locsH7269 hTH7269 hSH7269 wH7269 => ?_)
      have mf7270 : MF K s.heap H7269 a0 [0, 1, 2, 3, 59, 62, 65, 70, 71, 72] := MF.fld hap wH7269 (by decide) (by decide) mf7261
      have g7271 : WD (avw K H7269 a0) := WD.congr (fun k hk j => av_fld hTH7213 ga0 hap wH7269 (by decide) (WD_ok 112 (by decide) k hk) (WD_ne 65 (by decide) k hk)) g7217
      have b7272 : UN (x1.toInt ≠ 0) (fun k => fI H7269 q4 k) (fun k => fI s.heap q4 k) := UN.congr (fun j => Wr.neI wH7269 (Or.inl (G_ne gq4 ga0 (by decide)))) b7223
      have b7273 : UN (x1.toInt ≠ 0) (fun k => fI H7269 q16 k) (fun k => fI s.heap q16 k) := UN.congr (fun j => Wr.neI wH7269 (Or.inl (G_ne gq16 ga0 (by decide)))) b7224
      have b7274 : UN (x1.toInt ≠ 0) (fun k => fI H7269 q24 k) (fun k => fI s.heap q24 k) := UN.congr (fun j => Wr.neI wH7269 (Or.inl (G_ne gq24 ga0 (by decide)))) b7225
      have b7275 : UN (x1.toInt ≠ 0) (fun k => fI H7269 q29 k) (fun k => fI s.heap q29 k) := UN.congr (fun j => Wr.neI wH7269 (Or.inl (G_ne gq29 ga0 (by decide)))) b7226
      have b7276 : UN (x1.toInt ≠ 0) (fun k => fI H7269 q30 k) (fun k => fI s.heap q30 k) := UN.congr (fun j => Wr.neI wH7269 (Or.inl (G_ne gq30 ga0 (by decide)))) b7227
      have b7277 : UN (x1.toInt ≠ 0) (fun k => fI H7269 q31 k) (fun k => fI s.heap q31 k) := UN.congr (fun j => Wr.neI wH7269 (Or.inl (G_ne gq31 ga0 (by decide)))) b7228
      have b7278 : UN (x1.toInt ≠ 0) (fun k => fI H7269 q32 k) (fun k => fI s.heap q32 k) := UN.congr (fun j => Wr.neI wH7269 (Or.inl (G_ne gq32 ga0 (by decide)))) b7229
      have b7279 : UN (x1.toInt ≠ 0) (fun k => fI H7269 q33 k) (fun k => fI s.heap q33 k) := UN.congr (fun j => Wr.neI wH7269 (Or.inl (G_ne gq33 ga0 (by decide)))) b7230
      have b7280 : UN (x1.toInt ≠ 0) (fun k => fI H7269 q64 k) (fun k => fI s.heap q64 k) := UN.congr (fun j => Wr.neI wH7269 (Or.inl (G_ne gq64 ga0 (by decide)))) b7231
      have b7281 : UN (x1.toInt ≠ 0) (fun k => fI H7269 q66 k) (fun k => fI s.heap q66 k) := UN.congr (fun j => Wr.neI wH7269 (Or.inl (G_ne gq66 ga0 (by decide)))) b7232
      have b7282 : UN (x1.toInt ≠ 0) (fun k => fI H7269 q67 k) (fun k => fI s.heap q67 k) := UN.congr (fun j => Wr.neI wH7269 (Or.inl (G_ne gq67 ga0 (by decide)))) b7233
      have b7283 : UN (x1.toInt = 0) (fun k => fI H7269 iq k) (fun k => fI s.heap iq k) := UN.congr (fun j => Wr.neI wH7269 (Or.inl (G_ne giq ga0 (by decide)))) b7262
      have b7284 : x6709 = fI H7269 iq (0) := (b7263).trans (Wr.neI wH7269 (Or.inl (G_ne giq ga0 (by decide)))).symm
      have b7285 : x6806 = fI H7269 iq (1) := (b7264).trans (Wr.neI wH7269 (Or.inl (G_ne giq ga0 (by decide)))).symm
      have b7286 : x6905 = fI H7269 iq (2) := (b7265).trans (Wr.neI wH7269 (Or.inl (G_ne giq ga0 (by decide)))).symm
      have b7287 : x7006 = fI H7269 iq (3) := (b7266).trans (Wr.neI wH7269 (Or.inl (G_ne giq ga0 (by decide)))).symm
      have b7288 : x7109 = fI H7269 iq (4) := (b7267).trans (Wr.neI wH7269 (Or.inl (G_ne giq ga0 (by decide)))).symm
      have b7289 : x7214 = fI H7269 iq (5) := (p7268).trans (Wr.neI wH7269 (Or.inl (G_ne giq ga0 (by decide)))).symm
      have f7290 : ∀ j : Nat, fI H7269 q64 j = fI s.heap q64 j := fun j => (Wr.neI wH7269 (Or.inl (G_ne gq64 ga0 (by decide)))).trans (f7234 j)
      have f7291 : ∀ j : Nat, fI H7269 q66 j = fI s.heap q66 j := fun j => (Wr.neI wH7269 (Or.inl (G_ne gq66 ga0 (by decide)))).trans (f7235 j)
      have f7292 : ∀ j : Nat, fI H7269 q67 j = fI s.heap q67 j := fun j => (Wr.neI wH7269 (Or.inl (G_ne gq67 ga0 (by decide)))).trans (f7236 j)
      have m7293 := m7216.trans (Wr.neR wH7269 (Or.inr (x_apart hKT hts inX10 tyX10 tyX10_ok nmX10 rfl 73 65 (by decide) (by decide) (by decide)))).symm
      have m7294 := m7238.trans (Wr.neR wH7269 (Or.inr (x_apart hKT hts inX10 tyX10 tyX10_ok nmX10 rfl 4 65 (by decide) (by decide) (by decide)))).symm
      have m7295 := m7239.trans (Wr.neR wH7269 (Or.inr (x_apart hKT hts inX10 tyX10 tyX10_ok nmX10 rfl 10 65 (by decide) (by decide) (by decide)))).symm
      have m7296 := m7240.trans (Wr.neR wH7269 (Or.inr (x_apart hKT hts inX10 tyX10 tyX10_ok nmX10 rfl 16 65 (by decide) (by decide) (by decide)))).symm
      have m7297 := m7241.trans (Wr.neR wH7269 (Or.inr (x_apart hKT hts inX10 tyX10 tyX10_ok nmX10 rfl 24 65 (by decide) (by decide) (by decide)))).symm
      have m7298 := m7242.trans (Wr.neR wH7269 (Or.inr (x_apart hKT hts inX10 tyX10 tyX10_ok nmX10 rfl 27 65 (by decide) (by decide) (by decide)))).symm
      have m7299 := m7243.trans (Wr.neR wH7269 (Or.inr (x_apart hKT hts inX10 tyX10 tyX10_ok nmX10 rfl 29 65 (by decide) (by decide) (by decide)))).symm
      have m7300 := m7244.trans (Wr.neR wH7269 (Or.inr (x_apart hKT hts inX10 tyX10 tyX10_ok nmX10 rfl 30 65 (by decide) (by decide) (by decide)))).symm
      have m7301 := m7245.trans (Wr.neR wH7269 (Or.inr (x_apart hKT hts inX10 tyX10 tyX10_ok nmX10 rfl 31 65 (by decide) (by decide) (by decide)))).symm
      have m7302 := m7246.trans (Wr.neR wH7269 (Or.inr (x_apart hKT hts inX10 tyX10 tyX10_ok nmX10 rfl 32 65 (by decide) (by decide) (by decide)))).symm
      have m7303 := m7247.trans (Wr.neR wH7269 (Or.inr (x_apart hKT hts inX10 tyX10 tyX10_ok nmX10 rfl 33 65 (by decide) (by decide) (by decide)))).symm
      have m7304 := m7248.trans (Wr.neR wH7269 (Or.inr (x_apart hKT hts inX10 tyX10 tyX10_ok nmX10 rfl 50 65 (by decide) (by decide) (by decide)))).symm
      have m7305 := m7249.trans (Wr.neR wH7269 (Or.inr (x_apart hKT hts inX10 tyX10 tyX10_ok nmX10 rfl 64 65 (by decide) (by decide) (by decide)))).symm
      have m7306 := m7250.trans (Wr.neR wH7269 (Or.inr (x_apart hKT hts inX10 tyX10 tyX10_ok nmX10 rfl 66 65 (by decide) (by decide) (by decide)))).symm
      have m7307 := m7251.trans (Wr.neR wH7269 (Or.inr (x_apart hKT hts inX10 tyX10 tyX10_ok nmX10 rfl 67 65 (by decide) (by decide) (by decide)))).symm
      have m7309 := (Wr.neI wH7269 (Or.inr (x_apart hKT hts inX10 tyX10 tyX10_ok nmX10 rfl 0 65 (by decide) (by decide) (by decide)))).trans m7253
      have m7310 := m7254.trans (Wr.neI wH7269 (Or.inr (x_apart hKT hts inX10 tyX10 tyX10_ok nmX10 rfl 71 65 (by decide) (by decide) (by decide)))).symm
      have m7311 := (Wr.neI wH7269 (Or.inr (x_apart hKT hts inX10 tyX10 tyX10_ok nmX10 rfl 70 65 (by decide) (by decide) (by decide)))).trans m7255
      have m7312 := m7256.trans (Wr.neI wH7269 (Or.inr (x_apart hKT hts inX10 tyX10 tyX10_ok nmX10 rfl 1 65 (by decide) (by decide) (by decide)))).symm
      have m7313 := m7257.trans (Wr.neI wH7269 (Or.inr (x_apart hKT hts inX10 tyX10 tyX10_ok nmX10 rfl 2 65 (by decide) (by decide) (by decide)))).symm
      have m7314 := m7258.trans (Wr.neI wH7269 (Or.inr (x_apart hKT hts inX10 tyX10 tyX10_ok nmX10 rfl 3 65 (by decide) (by decide) (by decide)))).symm
      have m7315 := m7259.trans (Wr.neI wH7269 (Or.inr (x_apart hKT hts inX10 tyX10 tyX10_ok nmX10 rfl 59 65 (by decide) (by decide) (by decide)))).symm
      have m7316 := m7260.trans (Wr.neI wH7269 (Or.inr (x_apart hKT hts inX10 tyX10 tyX10_ok nmX10 rfl 62 65 (by decide) (by decide) (by decide)))).symm
      have m7317 := ex7215.trans (Wr.neI wH7269 (Or.inr (x_apart hKT hts inX10 tyX10 tyX10_ok nmX10 rfl 72 65 (by decide) (by decide) (by decide)))).symm
      have m7318 := Wr.I wH7269
      have m7318 := m7318.symm
      clear b7223 b7224 b7225 b7226 b7227 b7228 b7229 b7230 b7231 b7232 b7233 b7262 b7263 b7264 b7265 b7266 b7267 ex7215 f7234 f7235 f7236 g7217 hTH7213 m7216 m7238 m7239 m7240 m7241 m7242 m7243 m7244 m7245 m7246 m7247 m7248 m7249 m7250 m7251 m7252 m7253 m7254 m7255 m7256 m7257 m7258 m7259 m7260 mf7261 p7268
      refine lv_aload_n hx hb dX10_image_105 rfl (lv_at hl 0 rfl) ?_
      refine x_V (As := []) (rest := []) C (a_X10_keepsBars l K G H7269 (x7215) (x1) hTH7269 ga0 giq m7293 gq4 m7294 gq10 m7295 gq16 m7296 gq50 m7304 m7317 m7310 g7271 (by and_intros <;> first | assumption | omega) (fun h0 => IMw.congr (b7283 h0) hIW)) yo_X10_keepsBars wM_X10_479 ⟨⟨by decide, by decide⟩, by decide, by decide⟩ (x_rv C hTH7269 (ci := 10) rfl ga0 rg_112) rfl hl.1 rfl (Nat.le_of_ble_eq_true rfl) dX10_image_106 hSH7269 (AE_sub (fun _ _ => rfl) (by decide) hSH7269.1) (fun vH7319 H7319 locsH7319 pH7319 zH7319 kH7319 hSH7319 => ?_)
      obtain ⟨x7320, hvH7319, ex7320, hrH7319, m7321, m7322, m7323, m7324, m7325, g7326, mf7327, m7328, m7329, m7330, m7331, m7332, m7333, m7334, m7335, hTH7319⟩ := pH7319
      subst hvH7319
      clear zH7319
      replace m7321 := EQN.mk m7321
      replace m7322 := EQN.mk m7322
      replace m7323 := EQN.mk m7323
      replace m7324 := EQN.mk m7324
      replace m7325 := EQN.mk m7325
      have b7336 : UN (x1.toInt ≠ 0) (fun k => fI H7319 q24 k) (fun k => fI s.heap q24 k) := UN.congr (fun j => fI_kept (x_lt hTH7269 kH7319 gq24 (by decide))) b7274
      have b7337 : UN (x1.toInt ≠ 0) (fun k => fI H7319 q29 k) (fun k => fI s.heap q29 k) := UN.congr (fun j => fI_kept (x_lt hTH7269 kH7319 gq29 (by decide))) b7275
      have b7338 : UN (x1.toInt ≠ 0) (fun k => fI H7319 q30 k) (fun k => fI s.heap q30 k) := UN.congr (fun j => fI_kept (x_lt hTH7269 kH7319 gq30 (by decide))) b7276
      have b7339 : UN (x1.toInt ≠ 0) (fun k => fI H7319 q31 k) (fun k => fI s.heap q31 k) := UN.congr (fun j => fI_kept (x_lt hTH7269 kH7319 gq31 (by decide))) b7277
      have b7340 : UN (x1.toInt ≠ 0) (fun k => fI H7319 q32 k) (fun k => fI s.heap q32 k) := UN.congr (fun j => fI_kept (x_lt hTH7269 kH7319 gq32 (by decide))) b7278
      have b7341 : UN (x1.toInt ≠ 0) (fun k => fI H7319 q33 k) (fun k => fI s.heap q33 k) := UN.congr (fun j => fI_kept (x_lt hTH7269 kH7319 gq33 (by decide))) b7279
      have b7342 : UN (x1.toInt ≠ 0) (fun k => fI H7319 q64 k) (fun k => fI s.heap q64 k) := UN.congr (fun j => fI_kept (x_lt hTH7269 kH7319 gq64 (by decide))) b7280
      have b7343 : UN (x1.toInt ≠ 0) (fun k => fI H7319 q66 k) (fun k => fI s.heap q66 k) := UN.congr (fun j => fI_kept (x_lt hTH7269 kH7319 gq66 (by decide))) b7281
      have b7344 : UN (x1.toInt ≠ 0) (fun k => fI H7319 q67 k) (fun k => fI s.heap q67 k) := UN.congr (fun j => fI_kept (x_lt hTH7269 kH7319 gq67 (by decide))) b7282
      have f7345 : ∀ j : Nat, fI H7319 q64 j = fI s.heap q64 j := fun j => (fI_kept (x_lt hTH7269 kH7319 gq64 (by decide))).trans (f7290 j)
      have f7346 : ∀ j : Nat, fI H7319 q66 j = fI s.heap q66 j := fun j => (fI_kept (x_lt hTH7269 kH7319 gq66 (by decide))).trans (f7291 j)
      have f7347 : ∀ j : Nat, fI H7319 q67 j = fI s.heap q67 j := fun j => (fI_kept (x_lt hTH7269 kH7319 gq67 (by decide))).trans (f7292 j)
      have m7348 := (m7293).trans (MF.r mf7327 (k := 73) (by decide) (by decide)).symm
      have m7349 := (m7294).trans (MF.r mf7327 (k := 4) (by decide) (by decide)).symm
      have m7350 := (m7295).trans (MF.r mf7327 (k := 10) (by decide) (by decide)).symm
      have m7351 := (m7296).trans (MF.r mf7327 (k := 16) (by decide) (by decide)).symm
      have m7352 := (m7297).trans (MF.r mf7327 (k := 24) (by decide) (by decide)).symm
      have m7353 := (m7298).trans (MF.r mf7327 (k := 27) (by decide) (by decide)).symm
      have m7354 := (m7299).trans (MF.r mf7327 (k := 29) (by decide) (by decide)).symm
      have m7355 := (m7300).trans (MF.r mf7327 (k := 30) (by decide) (by decide)).symm
      have m7356 := (m7301).trans (MF.r mf7327 (k := 31) (by decide) (by decide)).symm
      have m7357 := (m7302).trans (MF.r mf7327 (k := 32) (by decide) (by decide)).symm
      have m7358 := (m7303).trans (MF.r mf7327 (k := 33) (by decide) (by decide)).symm
      have m7359 := (m7304).trans (MF.r mf7327 (k := 50) (by decide) (by decide)).symm
      have m7360 := (m7305).trans (MF.r mf7327 (k := 64) (by decide) (by decide)).symm
      have m7361 := (m7306).trans (MF.r mf7327 (k := 66) (by decide) (by decide)).symm
      have m7362 := (m7307).trans (MF.r mf7327 (k := 67) (by decide) (by decide)).symm
      have m7363 := (MF.i mf7327 (k := 0) (by decide) (by decide)).trans m7309
      have m7364 := (m7310).trans (MF.i mf7327 (k := 71) (by decide) (by decide)).symm
      have m7365 := (MF.i mf7327 (k := 70) (by decide) (by decide)).trans m7311
      have m7366 := (m7312).trans (MF.i mf7327 (k := 1) (by decide) (by decide)).symm
      have m7367 := (m7313).trans (MF.i mf7327 (k := 2) (by decide) (by decide)).symm
      have m7368 := (m7314).trans (MF.i mf7327 (k := 3) (by decide) (by decide)).symm
      have m7369 := (m7315).trans (MF.i mf7327 (k := 59) (by decide) (by decide)).symm
      have m7370 := (m7316).trans (MF.i mf7327 (k := 62) (by decide) (by decide)).symm
      have m7371 := (m7318).trans (MF.i mf7327 (k := 65) (by decide) (by decide)).symm
      have mf7372 : MF K s.heap H7319 a0 [0, 1, 2, 3, 59, 62, 65, 70, 71, 72] := MF.trans mf7270 mf7327 (by decide)
      have bx7320 := ty_fi (x := x7320) (k := 72) ex7320 hTH7319 ga0 rg_112 rfl
      have b7373 : UN (x1.toInt ≠ 0) (fun k => fI H7319 q4 k) (fun k => fI s.heap q4 k) := UN.tr m7334 b7272
      have b7374 : UN (x1.toInt ≠ 0) (fun k => fI H7319 q16 k) (fun k => fI s.heap q16 k) := UN.tr m7335 b7273
      have b7375 : UN (x1.toInt = 0) (fun k => fI H7319 iq k) (fun k => fI s.heap iq k) := UN.tr m7328 b7283
      have b7376 : x6709 = fI H7319 iq (0) := (b7284).trans (m7329 _ (by omega)).symm
      have b7377 : x6806 = fI H7319 iq (1) := (b7285).trans (m7329 _ (by omega)).symm
      have b7378 : x6905 = fI H7319 iq (2) := (b7286).trans (m7329 _ (by omega)).symm
      have b7379 : x7006 = fI H7319 iq (3) := (b7287).trans (m7329 _ (by omega)).symm
      have b7380 : x7109 = fI H7319 iq (4) := (b7288).trans (m7329 _ (by omega)).symm
      have b7381 : x7214 = fI H7319 iq (5) := (b7289).trans (m7329 _ (by omega)).symm
      refine W.eq (g2 := F0 m 109 ls []) rfl ?_
      refine lv_aload_n hx hb dX10_image_109 rfl (lv_at hl 0 rfl) ?_
      refine x_V (As := []) (rest := []) C (a_X10_keepsTaps l K G H7319 (x7320) (x1) hTH7319 ga0 giq m7321 gq64 m7360 gq66 m7361 gq67 m7362 ex7320 m7364 g7326 (by and_intros <;> first | assumption | omega) (fun h0 => IMw.congr (b7375 h0) hIW)) yo_X10_keepsTaps wM_X10_482 ⟨⟨by decide, by decide⟩, by decide, by decide⟩ (x_rv C hTH7319 (ci := 10) rfl ga0 rg_112) rfl hl.1 rfl (Nat.le_of_ble_eq_true rfl) dX10_image_110 hSH7319 (AE_sub (fun _ _ => rfl) (by decide) hSH7319.1) (fun vH7382 H7382 locsH7382 pH7382 zH7382 kH7382 hSH7382 => ?_)
      obtain ⟨x7383, hvH7382, ex7383, hrH7382, m7384, m7385, m7386, m7387, g7388, mf7389, m7390, m7391, m7392, m7393, m7394, m7395, m7396, m7397, hTH7382⟩ := pH7382
      subst hvH7382
      clear zH7382
      replace m7384 := EQN.mk m7384
      replace m7385 := EQN.mk m7385
      replace m7386 := EQN.mk m7386
      replace m7387 := EQN.mk m7387
      have b7398 : UN (x1.toInt ≠ 0) (fun k => fI H7382 q24 k) (fun k => fI s.heap q24 k) := UN.congr (fun j => fI_kept (x_lt hTH7319 kH7382 gq24 (by decide))) b7336
      have b7399 : UN (x1.toInt ≠ 0) (fun k => fI H7382 q29 k) (fun k => fI s.heap q29 k) := UN.congr (fun j => fI_kept (x_lt hTH7319 kH7382 gq29 (by decide))) b7337
      have b7400 : UN (x1.toInt ≠ 0) (fun k => fI H7382 q30 k) (fun k => fI s.heap q30 k) := UN.congr (fun j => fI_kept (x_lt hTH7319 kH7382 gq30 (by decide))) b7338
      have b7401 : UN (x1.toInt ≠ 0) (fun k => fI H7382 q31 k) (fun k => fI s.heap q31 k) := UN.congr (fun j => fI_kept (x_lt hTH7319 kH7382 gq31 (by decide))) b7339
      have b7402 : UN (x1.toInt ≠ 0) (fun k => fI H7382 q32 k) (fun k => fI s.heap q32 k) := UN.congr (fun j => fI_kept (x_lt hTH7319 kH7382 gq32 (by decide))) b7340
      have b7403 : UN (x1.toInt ≠ 0) (fun k => fI H7382 q33 k) (fun k => fI s.heap q33 k) := UN.congr (fun j => fI_kept (x_lt hTH7319 kH7382 gq33 (by decide))) b7341
      have b7404 : UN (x1.toInt ≠ 0) (fun k => fI H7382 q4 k) (fun k => fI s.heap q4 k) := UN.congr (fun j => fI_kept (x_lt hTH7319 kH7382 gq4 (by decide))) b7373
      have b7405 : UN (x1.toInt ≠ 0) (fun k => fI H7382 q16 k) (fun k => fI s.heap q16 k) := UN.congr (fun j => fI_kept (x_lt hTH7319 kH7382 gq16 (by decide))) b7374
      have m7406 := (m7321).trans (MF.r mf7389 (k := 73) (by decide) (by decide)).symm
      have m7407 := (m7322).trans (MF.r mf7389 (k := 4) (by decide) (by decide)).symm
      have m7408 := (m7323).trans (MF.r mf7389 (k := 10) (by decide) (by decide)).symm
      have m7409 := (m7324).trans (MF.r mf7389 (k := 16) (by decide) (by decide)).symm
      have m7410 := (m7352).trans (MF.r mf7389 (k := 24) (by decide) (by decide)).symm
      have m7411 := (m7353).trans (MF.r mf7389 (k := 27) (by decide) (by decide)).symm
      have m7412 := (m7354).trans (MF.r mf7389 (k := 29) (by decide) (by decide)).symm
      have m7413 := (m7355).trans (MF.r mf7389 (k := 30) (by decide) (by decide)).symm
      have m7414 := (m7356).trans (MF.r mf7389 (k := 31) (by decide) (by decide)).symm
      have m7415 := (m7357).trans (MF.r mf7389 (k := 32) (by decide) (by decide)).symm
      have m7416 := (m7358).trans (MF.r mf7389 (k := 33) (by decide) (by decide)).symm
      have m7417 := (m7325).trans (MF.r mf7389 (k := 50) (by decide) (by decide)).symm
      have m7418 := (m7360).trans (MF.r mf7389 (k := 64) (by decide) (by decide)).symm
      have m7419 := (m7361).trans (MF.r mf7389 (k := 66) (by decide) (by decide)).symm
      have m7420 := (m7362).trans (MF.r mf7389 (k := 67) (by decide) (by decide)).symm
      have m7421 := (MF.i mf7389 (k := 0) (by decide) (by decide)).trans m7363
      have m7422 := (m7364).trans (MF.i mf7389 (k := 71) (by decide) (by decide)).symm
      have m7423 := (MF.i mf7389 (k := 70) (by decide) (by decide)).trans m7365
      have m7424 := (m7366).trans (MF.i mf7389 (k := 1) (by decide) (by decide)).symm
      have m7425 := (m7367).trans (MF.i mf7389 (k := 2) (by decide) (by decide)).symm
      have m7426 := (m7368).trans (MF.i mf7389 (k := 3) (by decide) (by decide)).symm
      have m7427 := (m7369).trans (MF.i mf7389 (k := 59) (by decide) (by decide)).symm
      have m7428 := (m7370).trans (MF.i mf7389 (k := 62) (by decide) (by decide)).symm
      have m7429 := (m7371).trans (MF.i mf7389 (k := 65) (by decide) (by decide)).symm
      have mf7430 : MF K s.heap H7382 a0 [0, 1, 2, 3, 59, 62, 65, 70, 71, 72] := MF.trans mf7372 mf7389 (by decide)
      have bx7383 := ty_fi (x := x7383) (k := 72) ex7383 hTH7382 ga0 rg_112 rfl
      have b7431 : UN (x1.toInt ≠ 0) (fun k => fI H7382 q64 k) (fun k => fI s.heap q64 k) := UN.tr m7395 b7342
      have b7432 : UN (x1.toInt ≠ 0) (fun k => fI H7382 q66 k) (fun k => fI s.heap q66 k) := UN.tr m7396 b7343
      have b7433 : UN (x1.toInt ≠ 0) (fun k => fI H7382 q67 k) (fun k => fI s.heap q67 k) := UN.tr m7397 b7344
      have b7434 : UN (x1.toInt = 0) (fun k => fI H7382 iq k) (fun k => fI s.heap iq k) := UN.tr m7390 b7375
      have b7435 : x6709 = fI H7382 iq (0) := (b7376).trans (m7391 _ (by omega)).symm
      have b7436 : x6806 = fI H7382 iq (1) := (b7377).trans (m7391 _ (by omega)).symm
      have b7437 : x6905 = fI H7382 iq (2) := (b7378).trans (m7391 _ (by omega)).symm
      have b7438 : x7006 = fI H7382 iq (3) := (b7379).trans (m7391 _ (by omega)).symm
      have b7439 : x7109 = fI H7382 iq (4) := (b7380).trans (m7391 _ (by omega)).symm
      have b7440 : x7214 = fI H7382 iq (5) := (b7381).trans (m7391 _ (by omega)).symm
      have b7441 : EQ (fun k => fI H7382 q4 k) (fun k => fI H7382 iq k) (6) (6) (10) := EQ.fb (EQ.congr (w1 := fun k => fI H7319 iq k) (fun j => fI_kept (x_lt hTH7319 kH7382 gq4 (by decide))) (fun _ => rfl) m7330) m7391 (fun j hj => by omega)
      have b7442 : EQ (fun k => fI H7382 q10 k) (fun k => fI H7382 iq k) (7) (6) (10) := EQ.fb (EQ.congr (w1 := fun k => fI H7319 iq k) (fun j => fI_kept (x_lt hTH7319 kH7382 gq10 (by decide))) (fun _ => rfl) m7331) m7391 (fun j hj => by omega)
      have b7443 : EQ (fun k => fI H7382 q50 k) (fun k => fI H7382 iq k) (11) (6) (10) := EQ.fb (EQ.congr (w1 := fun k => fI H7319 iq k) (fun j => fI_kept (x_lt hTH7319 kH7382 gq50 (by decide))) (fun _ => rfl) m7332) m7391 (fun j hj => by omega)
      have b7444 : EQ (fun k => fI H7382 q16 k) (fun k => fI H7382 iq k) (736) (3) (20) := EQ.fb (EQ.congr (w1 := fun k => fI H7319 iq k) (fun j => fI_kept (x_lt hTH7319 kH7382 gq16 (by decide))) (fun _ => rfl) m7333) m7391 (fun j hj => by omega)
      refine W.eq (g2 := F0 m 113 ls []) rfl ?_
      refine lv_aload_n hx hb dX10_image_113 rfl (lv_at hl 0 rfl) ?_
      refine x_V (As := []) (rest := []) C (a_X10_keepsTexts l K G H7382 (x7383) (x1) hTH7382 ga0 giq m7384 gq24 m7410 gq27 m7411 gq29 m7412 gq30 m7413 gq31 m7414 gq32 m7415 gq33 m7416 ex7383 m7422 g7388 (by and_intros <;> first | assumption | omega) (fun h0 => IMw.congr (b7434 h0) hIW)) yo_X10_keepsTexts wM_X10_485 ⟨⟨by decide, by decide⟩, by decide, by decide⟩ (x_rv C hTH7382 (ci := 10) rfl ga0 rg_112) rfl hl.1 rfl (Nat.le_of_ble_eq_true rfl) dX10_image_114 hSH7382 (AE_sub (fun _ _ => rfl) (by decide) hSH7382.1) (fun vH7445 H7445 locsH7445 pH7445 zH7445 kH7445 hSH7445 => ?_)
      obtain ⟨x7446, hvH7445, ex7446, hrH7445, m7447, m7448, m7449, m7450, m7451, m7452, m7453, m7454, g7455, mf7456, m7457, m7458, m7459, m7460, m7461, m7462, m7463, m7464, m7465, m7466, m7467, m7468, m7469, m7470, m7471, hTH7445⟩ := pH7445
      subst hvH7445
      clear zH7445
      replace m7447 := EQN.mk m7447
      replace m7448 := EQN.mk m7448
      replace m7449 := EQN.mk m7449
      replace m7450 := EQN.mk m7450
      replace m7451 := EQN.mk m7451
      replace m7452 := EQN.mk m7452
      replace m7453 := EQN.mk m7453
      replace m7454 := EQN.mk m7454
      have b7472 : UN (x1.toInt ≠ 0) (fun k => fI H7445 q4 k) (fun k => fI s.heap q4 k) := UN.congr (fun j => fI_kept (x_lt hTH7382 kH7445 gq4 (by decide))) b7404
      have b7473 : UN (x1.toInt ≠ 0) (fun k => fI H7445 q16 k) (fun k => fI s.heap q16 k) := UN.congr (fun j => fI_kept (x_lt hTH7382 kH7445 gq16 (by decide))) b7405
      have b7474 : UN (x1.toInt ≠ 0) (fun k => fI H7445 q64 k) (fun k => fI s.heap q64 k) := UN.congr (fun j => fI_kept (x_lt hTH7382 kH7445 gq64 (by decide))) b7431
      have b7475 : UN (x1.toInt ≠ 0) (fun k => fI H7445 q66 k) (fun k => fI s.heap q66 k) := UN.congr (fun j => fI_kept (x_lt hTH7382 kH7445 gq66 (by decide))) b7432
      have b7476 : UN (x1.toInt ≠ 0) (fun k => fI H7445 q67 k) (fun k => fI s.heap q67 k) := UN.congr (fun j => fI_kept (x_lt hTH7382 kH7445 gq67 (by decide))) b7433
      have m7477 := (m7384).trans (MF.r mf7456 (k := 73) (by decide) (by decide)).symm
      have m7478 := (m7407).trans (MF.r mf7456 (k := 4) (by decide) (by decide)).symm
      have m7479 := (m7408).trans (MF.r mf7456 (k := 10) (by decide) (by decide)).symm
      have m7480 := (m7409).trans (MF.r mf7456 (k := 16) (by decide) (by decide)).symm
      have m7481 := (m7410).trans (MF.r mf7456 (k := 24) (by decide) (by decide)).symm
      have m7482 := (m7411).trans (MF.r mf7456 (k := 27) (by decide) (by decide)).symm
      have m7483 := (m7412).trans (MF.r mf7456 (k := 29) (by decide) (by decide)).symm
      have m7484 := (m7413).trans (MF.r mf7456 (k := 30) (by decide) (by decide)).symm
      have m7485 := (m7414).trans (MF.r mf7456 (k := 31) (by decide) (by decide)).symm
      have m7486 := (m7415).trans (MF.r mf7456 (k := 32) (by decide) (by decide)).symm
      have m7487 := (m7416).trans (MF.r mf7456 (k := 33) (by decide) (by decide)).symm
      have m7488 := (m7417).trans (MF.r mf7456 (k := 50) (by decide) (by decide)).symm
      have m7489 := (m7385).trans (MF.r mf7456 (k := 64) (by decide) (by decide)).symm
      have m7490 := (m7386).trans (MF.r mf7456 (k := 66) (by decide) (by decide)).symm
      have m7491 := (m7387).trans (MF.r mf7456 (k := 67) (by decide) (by decide)).symm
      have m7492 := (MF.i mf7456 (k := 0) (by decide) (by decide)).trans m7421
      have m7493 := (m7422).trans (MF.i mf7456 (k := 71) (by decide) (by decide)).symm
      have m7494 := (MF.i mf7456 (k := 70) (by decide) (by decide)).trans m7423
      have m7495 := (m7424).trans (MF.i mf7456 (k := 1) (by decide) (by decide)).symm
      have m7496 := (m7425).trans (MF.i mf7456 (k := 2) (by decide) (by decide)).symm
      have m7497 := (m7426).trans (MF.i mf7456 (k := 3) (by decide) (by decide)).symm
      have m7498 := (m7427).trans (MF.i mf7456 (k := 59) (by decide) (by decide)).symm
      have m7499 := (m7428).trans (MF.i mf7456 (k := 62) (by decide) (by decide)).symm
      have m7500 := (m7429).trans (MF.i mf7456 (k := 65) (by decide) (by decide)).symm
      have mf7501 : MF K s.heap H7445 a0 [0, 1, 2, 3, 59, 62, 65, 70, 71, 72] := MF.trans mf7430 mf7456 (by decide)
      have bx7446 := ty_fi (x := x7446) (k := 72) ex7446 hTH7445 ga0 rg_112 rfl
      have b7502 : UN (x1.toInt ≠ 0) (fun k => fI H7445 q24 k) (fun k => fI s.heap q24 k) := UN.tr m7466 b7398
      have b7503 : UN (x1.toInt ≠ 0) (fun k => fI H7445 q29 k) (fun k => fI s.heap q29 k) := UN.tr m7467 b7399
      have b7504 : UN (x1.toInt ≠ 0) (fun k => fI H7445 q30 k) (fun k => fI s.heap q30 k) := UN.tr m7468 b7400
      have b7505 : UN (x1.toInt ≠ 0) (fun k => fI H7445 q31 k) (fun k => fI s.heap q31 k) := UN.tr m7469 b7401
      have b7506 : UN (x1.toInt ≠ 0) (fun k => fI H7445 q32 k) (fun k => fI s.heap q32 k) := UN.tr m7470 b7402
      have b7507 : UN (x1.toInt ≠ 0) (fun k => fI H7445 q33 k) (fun k => fI s.heap q33 k) := UN.tr m7471 b7403
      have b7508 : UN (x1.toInt = 0) (fun k => fI H7445 iq k) (fun k => fI s.heap iq k) := UN.tr m7457 b7434
      have b7509 : x6709 = fI H7445 iq (0) := (b7435).trans (m7458 _ (by omega)).symm
      have b7510 : x6806 = fI H7445 iq (1) := (b7436).trans (m7458 _ (by omega)).symm
      have b7511 : x6905 = fI H7445 iq (2) := (b7437).trans (m7458 _ (by omega)).symm
      have b7512 : x7006 = fI H7445 iq (3) := (b7438).trans (m7458 _ (by omega)).symm
      have b7513 : x7109 = fI H7445 iq (4) := (b7439).trans (m7458 _ (by omega)).symm
      have b7514 : x7214 = fI H7445 iq (5) := (b7440).trans (m7458 _ (by omega)).symm
      have b7515 : EQ (fun k => fI H7445 q4 k) (fun k => fI H7445 iq k) (6) (6) (10) := EQ.fb (EQ.congr (w1 := fun k => fI H7382 iq k) (fun j => fI_kept (x_lt hTH7382 kH7445 gq4 (by decide))) (fun _ => rfl) b7441) m7458 (fun j hj => by omega)
      have b7516 : EQ (fun k => fI H7445 q10 k) (fun k => fI H7445 iq k) (7) (6) (10) := EQ.fb (EQ.congr (w1 := fun k => fI H7382 iq k) (fun j => fI_kept (x_lt hTH7382 kH7445 gq10 (by decide))) (fun _ => rfl) b7442) m7458 (fun j hj => by omega)
      have b7517 : EQ (fun k => fI H7445 q50 k) (fun k => fI H7445 iq k) (11) (6) (10) := EQ.fb (EQ.congr (w1 := fun k => fI H7382 iq k) (fun j => fI_kept (x_lt hTH7382 kH7445 gq50 (by decide))) (fun _ => rfl) b7443) m7458 (fun j hj => by omega)
      have b7518 : EQ (fun k => fI H7445 q16 k) (fun k => fI H7445 iq k) (736) (3) (20) := EQ.fb (EQ.congr (w1 := fun k => fI H7382 iq k) (fun j => fI_kept (x_lt hTH7382 kH7445 gq16 (by decide))) (fun _ => rfl) b7444) m7458 (fun j hj => by omega)
      have b7519 : EQ (fun k => fI H7445 q64 k) (fun k => fI H7445 iq k) (8877) (4) (8) := EQ.fb (EQ.congr (w1 := fun k => fI H7382 iq k) (fun j => fI_kept (x_lt hTH7382 kH7445 gq64 (by decide))) (fun _ => rfl) m7392) m7458 (fun j hj => by omega)
      have b7520 : EQ (fun k => fI H7445 q66 k) (fun k => fI H7445 iq k) (8878) (4) (8) := EQ.fb (EQ.congr (w1 := fun k => fI H7382 iq k) (fun j => fI_kept (x_lt hTH7382 kH7445 gq66 (by decide))) (fun _ => rfl) m7393) m7458 (fun j hj => by omega)
      have b7521 : EQ (fun k => fI H7445 q67 k) (fun k => fI H7445 iq k) (8879) (4) (8) := EQ.fb (EQ.congr (w1 := fun k => fI H7382 iq k) (fun j => fI_kept (x_lt hTH7382 kH7445 gq67 (by decide))) (fun _ => rfl) m7394) m7458 (fun j hj => by omega)
      refine W.eq (g2 := F0 m 117 ls []) rfl ?_
      have fin := im_fin (H0 := s.heap) (tk := x1) hTH7445 ga0 hg_CG hg_TU hg_IM ⟨EQ.av m7478 m7447 b7515, EQ.av m7479 m7447 b7516, EQ.av m7488 m7447 b7517, EQ.av m7480 m7447 b7518, EQ.av m7448 m7447 m7459, EQ.av m7449 m7447 m7460, EQ.av m7450 m7447 m7461, EQ.av m7451 m7447 m7462, EQ.av m7452 m7447 m7463, EQ.av m7453 m7447 m7464, EQ.av m7454 m7447 m7465⟩ (pl_av m7495 b7509 m7447) (pl_av m7496 b7510 m7447) (pl_av m7498 b7512 m7447) (pl_av m7499 b7513 m7447) (pl_av m7500 b7514 m7447) (fun h => (m7495.symm.trans (m6715 h)).trans es1) (all8 (UN.av m7478 eq4 b7472) (UN.av m7480 eq16 b7473) (UN.av m7448 eq24 b7502) (UN.av m7450 eq29 b7503) (UN.av m7451 eq30 b7504) (UN.av m7452 eq31 b7505) (UN.av m7453 eq32 b7506) (UN.av m7454 eq33 b7507)) (UN.av m7447 eiq b7508)
      refine lv_iconst (v := 1) hx hb dX10_image_117 (by decide) ?_
      exact x_zret C hQ (Or.inr rfl) dX10_image_118 hSH7445 (by decide) (by decide) (⟨1, 1, x6709, x6806, x6905, x7006, x7109, x7214, rfl, by decide, (m7494).symm, m7495, m7496, m7497, m7498, m7499, m7500, by omega, m7447, m7478, m7479, m7480, m7448, m7449, m7450, m7451, m7452, m7453, m7454, m7488, m7489, m7490, m7491, fin.1, fin.2.1, g7455, fin.2.2, mf7501, Or.inr ⟨b7509, b7510, b7511, b7512, b7513, b7514⟩, (fun h => ⟨m6715 h, m6812 h, m6911 h, m7012 h, m7115 h, m7220 h⟩), b7508, Or.inr b7519, b7474, (fun h => by exfalso; omega), Or.inr b7520, b7475, (fun h => by exfalso; omega), Or.inr b7521, b7476, (fun h => by exfalso; omega), hTH7445⟩)
    · have k6569 := i_eq c6568
      refine lv_iconst (v := 0) hx hb dX10_image_16 (by decide) ?_
      exact x_zret C hQ (Or.inl rfl) dX10_image_17 hSH5569 (by decide) (by decide) (⟨0, h70, s1, s2, s3, s59, s62, s65, rfl, by decide, m5605, m5606, m5607, m5608, m5609, m5610, m5611, by omega, m5590, m5591, m5592, m5593, m5594, m5595, m5596, m5597, m5598, m5599, m5600, m5601, m5602, m5603, m5604, g5571, g5572, g5573, g5574, mf5570, Or.inl (by omega), (fun _ => ⟨rfl, rfl, rfl, rfl, rfl, rfl⟩), b5575, Or.inl (by omega), (fun h => by exfalso; omega), (fun _ => f5587), Or.inl (by omega), (fun h => by exfalso; omega), (fun _ => f5588), Or.inl (by omega), (fun h => by exfalso; omega), (fun _ => f5589), hTH5569⟩)
