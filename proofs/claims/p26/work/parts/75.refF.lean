theorem EQ.fb {f w w1 : Nat → Int32} {b s n m : Nat} (h : EQ f w b s n) (e : FB w1 w m) (ht : ∀ j, j < n → b + s * j < m) : EQ f w1 b s n := fun j hj => (h j hj).trans (e _ (ht j hj)).symm
theorem pl_av {K : KE} {H : Heap} {b k q p : Nat} {r : Int32} (h : r = fI H b (K.1.2 10 k)) (hp : r = fI H q p) (e : q = fR H b (K.1.2 10 73)) : svw K H b k = avw K H b 73 p := by subst e; exact h.symm.trans hp
theorem all8 {P : Nat → Prop} (h4 : P 4) (h16 : P 16) (h24 : P 24) (h29 : P 29) (h30 : P 30) (h31 : P 31) (h32 : P 32) (h33 : P 33) : ∀ k ∈ ([4, 16, 24, 29, 30, 31, 32, 33] : List Nat), P k := by
  intro k hk
  simp only [List.mem_cons, List.not_mem_nil, or_false] at hk
  rcases hk with rfl | rfl | rfl | rfl | rfl | rfl | rfl | rfl <;> assumption
set_option maxHeartbeats 4000000 in
set_option maxRecDepth 100000 in
theorem a_X10_image (l : Launch) (K : KE) (G : Nat → Option Nat) (H : Heap) {a0 : Nat} (x1 : Int32) {iq : Nat} {q4 : Nat} {q10 : Nat} {q16 : Nat} {q24 : Nat} {q27 : Nat} {q29 : Nat} {q30 : Nat} {q31 : Nat} {q32 : Nat} {q33 : Nat} {q50 : Nat} (h70 : Int32) (s1 : Int32) (s2 : Int32) (s3 : Int32) (s59 : Int32) (s62 : Int32) (s65 : Int32) (hT : TY K G H) (ga0 : G a0 = some 112) (hx1 : 0 ≤ x1.toInt ∧ x1.toInt ≤ 1) (giq : G iq = some 162) (eiq : iq = fR H a0 (K.1.2 10 73)) (gq4 : G q4 = some 113) (eq4 : q4 = fR H a0 (K.1.2 10 4)) (gq10 : G q10 = some 119) (eq10 : q10 = fR H a0 (K.1.2 10 10)) (gq16 : G q16 = some 125) (eq16 : q16 = fR H a0 (K.1.2 10 16)) (gq24 : G q24 = some 128) (eq24 : q24 = fR H a0 (K.1.2 10 24)) (gq27 : G q27 = some 131) (eq27 : q27 = fR H a0 (K.1.2 10 27)) (gq29 : G q29 = some 133) (eq29 : q29 = fR H a0 (K.1.2 10 29)) (gq30 : G q30 = some 134) (eq30 : q30 = fR H a0 (K.1.2 10 30)) (gq31 : G q31 = some 135) (eq31 : q31 = fR H a0 (K.1.2 10 31)) (gq32 : G q32 = some 136) (eq32 : q32 = fR H a0 (K.1.2 10 32)) (gq33 : G q33 = some 137) (eq33 : q33 = fR H a0 (K.1.2 10 33)) (gq50 : G q50 = some 146) (eq50 : q50 = fR H a0 (K.1.2 10 50)) (eh70 : h70 = fI H a0 (K.1.2 10 70)) (es1 : s1 = fI H a0 (K.1.2 10 1)) (es2 : s2 = fI H a0 (K.1.2 10 2)) (es3 : s3 = fI H a0 (K.1.2 10 3)) (es59 : s59 = fI H a0 (K.1.2 10 59)) (es62 : s62 = fI H a0 (K.1.2 10 62)) (es65 : s65 = fI H a0 (K.1.2 10 65)) (hg_CG : CG (avw K H a0)) (hg_TU : TU (avw K H a0) (svw K H a0)) (hg_WD : WD (avw K H a0)) (hg_IM : IM (avw K H a0)) : MX l K yX10_image cX10_image 2 (some .boolean) 2 42 0 0 [.ref a0, .int x1] H (AE G [112, 162, 113, 119, 122, 123, 124, 146, 114, 115, 116, 117, 118, 125, 154, 155, 120, 121, 147, 148, 149, 150, 156, 157, 158, 159, 128, 129, 130, 131, 132, 133, 134, 135, 136, 137] H.size) (fun v H1 => ∃ (r : Int32) (t0 : Int32) (t1 : Int32) (t2 : Int32) (t3 : Int32) (t4 : Int32) (t5 : Int32) (t6 : Int32), v = some (.int r) ∧ (0 ≤ r.toInt ∧ r.toInt ≤ 1) ∧ t0 = fI H1 a0 (K.1.2 10 70) ∧ t1 = fI H1 a0 (K.1.2 10 1) ∧ t2 = fI H1 a0 (K.1.2 10 2) ∧ t3 = fI H1 a0 (K.1.2 10 3) ∧ t4 = fI H1 a0 (K.1.2 10 59) ∧ t5 = fI H1 a0 (K.1.2 10 62) ∧ t6 = fI H1 a0 (K.1.2 10 65) ∧ ((x1.toInt = 0 ∧ h70.toInt = 0 ∧ r.toInt = 0 ∧ t0.toInt = 0 ∧ t1.toInt = s1.toInt ∧ t2.toInt = s2.toInt ∧ t3.toInt = s3.toInt ∧ t4.toInt = s59.toInt ∧ t5.toInt = s62.toInt ∧ t6.toInt = s65.toInt) ∨ (r.toInt = 1 ∧ t0.toInt = 1 ∧ (x1.toInt ≠ 0 ∨ h70.toInt ≠ 0))) ∧ iq = fR H1 a0 (K.1.2 10 73) ∧ q4 = fR H1 a0 (K.1.2 10 4) ∧ q10 = fR H1 a0 (K.1.2 10 10) ∧ q16 = fR H1 a0 (K.1.2 10 16) ∧ q24 = fR H1 a0 (K.1.2 10 24) ∧ q27 = fR H1 a0 (K.1.2 10 27) ∧ q29 = fR H1 a0 (K.1.2 10 29) ∧ q30 = fR H1 a0 (K.1.2 10 30) ∧ q31 = fR H1 a0 (K.1.2 10 31) ∧ q32 = fR H1 a0 (K.1.2 10 32) ∧ q33 = fR H1 a0 (K.1.2 10 33) ∧ q50 = fR H1 a0 (K.1.2 10 50) ∧ (CG (avw K H1 a0)) ∧ (TU (avw K H1 a0) (svw K H1 a0)) ∧ (WD (avw K H1 a0)) ∧ (IM (avw K H1 a0)) ∧ MF K H H1 a0 [0, 1, 2, 3, 59, 62, 65, 70, 71, 72] ∧ (r.toInt = 0 ∨ (t1 = fI H1 iq 0 ∧ t2 = fI H1 iq 1 ∧ t3 = fI H1 iq 2 ∧ t4 = fI H1 iq 3 ∧ t5 = fI H1 iq 4 ∧ t6 = fI H1 iq 5)) ∧ (x1.toInt ≠ 0 → t1 = s1 ∧ t2 = s2 ∧ t3 = s3 ∧ t4 = s59 ∧ t5 = s62 ∧ t6 = s65) ∧ (x1.toInt = 0 → ∀ j : Nat, fI H1 iq j = fI H iq j) ∧ TY K G H1) := by
  refine MX.of (by decide +kernel) (Nat.le_of_ble_eq_true rfl) ?_
  intro p e s m below meth c ls Q C hH hl hQ
  subst hH
  have C : CX p K s m _ meth c RX10 cX10_image 2 (some .boolean) "image" := C
  obtain ⟨hx, hb, hml, hown, hts, hKT, hr, hlocks, hnm⟩ := id C
  have hl : lv_has ls 2 [(0, .ref a0), (1, .int x1)] := hl
  have hS : va_S (AE G [112, 162, 113, 119, 122, 123, 124, 146, 114, 115, 116, 117, 118, 125, 154, 155, 120, 121, 147, 148, 149, 150, 156, 157, 158, 159, 128, 129, 130, 131, 132, 133, 134, 135, 136, 137] s.heap.size) s.heap s.heap [] := va_S.rf
  have n_0 : (0 : Int32).toInt = 0 := rfl
  have n_1 : (1 : Int32).toInt = 1 := rfl
  have bh70 := ty_fi (x := h70) (k := 70) eh70 hT ga0 rg_112 rfl
  have bs1 := ty_fi (x := s1) (k := 1) es1 hT ga0 rg_112 rfl
  have bs2 := ty_fi (x := s2) (k := 2) es2 hT ga0 rg_112 rfl
  have bs3 := ty_fi (x := s3) (k := 3) es3 hT ga0 rg_112 rfl
  have bs59 := ty_fi (x := s59) (k := 59) es59 hT ga0 rg_112 rfl
  have bs62 := ty_fi (x := s62) (k := 62) es62 hT ga0 rg_112 rfl
  have bs65 := ty_fi (x := s65) (k := 65) es65 hT ga0 rg_112 rfl
  have hap : ∀ x y, x < 74 → y < 74 → x ≠ y → K.1.2 10 x ≠ K.1.2 10 y := x_apart hKT hts inX10 tyX10 tyX10_ok nmX10 rfl
  have mf0 : MF K s.heap s.heap a0 [0, 1, 2, 3, 59, 62, 65, 70, 71, 72] := fun _ _ _ => rfl
  replace eiq := EQN.mk eiq
  replace eq4 := EQN.mk eq4
  replace eq10 := EQN.mk eq10
  replace eq16 := EQN.mk eq16
  replace eq24 := EQN.mk eq24
  replace eq27 := EQN.mk eq27
  replace eq29 := EQN.mk eq29
  replace eq30 := EQN.mk eq30
  replace eq31 := EQN.mk eq31
  replace eq32 := EQN.mk eq32
  replace eq33 := EQN.mk eq33
  replace eq50 := EQN.mk eq50
  have hIW := IM.w hg_IM eiq
  have ui00 : UN (x1.toInt = 0) (fun k => fI s.heap iq k) (fun k => fI s.heap iq k) := UN.rf
  have u400 : UN (x1.toInt ≠ 0) (fun k => fI s.heap q4 k) (fun k => fI s.heap q4 k) := UN.rf
  have u1600 : UN (x1.toInt ≠ 0) (fun k => fI s.heap q16 k) (fun k => fI s.heap q16 k) := UN.rf
  have u2400 : UN (x1.toInt ≠ 0) (fun k => fI s.heap q24 k) (fun k => fI s.heap q24 k) := UN.rf
  have u2900 : UN (x1.toInt ≠ 0) (fun k => fI s.heap q29 k) (fun k => fI s.heap q29 k) := UN.rf
  have u3000 : UN (x1.toInt ≠ 0) (fun k => fI s.heap q30 k) (fun k => fI s.heap q30 k) := UN.rf
  have u3100 : UN (x1.toInt ≠ 0) (fun k => fI s.heap q31 k) (fun k => fI s.heap q31 k) := UN.rf
  have u3200 : UN (x1.toInt ≠ 0) (fun k => fI s.heap q32 k) (fun k => fI s.heap q32 k) := UN.rf
  have u3300 : UN (x1.toInt ≠ 0) (fun k => fI s.heap q33 k) (fun k => fI s.heap q33 k) := UN.rf
  refine lv_aload_n hx hb dX10_image_0 rfl (lv_at hl 0 rfl) ?_
  refine lv_iconst (v := 0) hx hb dX10_image_1 (by decide) ?_
  refine x_put C hT hS (ci := 10) (k := 0) (v := .int 0) (ty0 := tyX10) rfl inX10 tyX10_ok nmX10 (by decide) rfl wF_X10_167 ga0 rg_112 rfl rfl (okI (by have := i_rng (0 : Int32); omega) (by have := i_rng (0 : Int32); omega)) rfl rfl (AE_in ga0 (by decide)) dX10_image_2 (fun H4657 locsH4657 hTH4657 hSH4657 wH4657 => ?_)
  have mf4658 : MF K s.heap H4657 a0 [0, 1, 2, 3, 59, 62, 65, 70, 71, 72] := MF.fld hap wH4657 (by decide) (by decide) mf0
  have g4659 : CG (avw K H4657 a0) := CG.congr (fun k hk j => av_fld hT ga0 hap wH4657 (by decide) (CG_ok 112 (by decide) k hk) (CG_ne 0 (by decide) k hk)) hg_CG
  have g4660 : TU (avw K H4657 a0) (svw K H4657 a0) := TU.congr (fun k hk j => av_fld hT ga0 hap wH4657 (by decide) (TU_ok 112 (by decide) k hk) (TU_ne 0 (by decide) k hk)) (fun k hk => sv_fld hap wH4657 (by decide) (TU_slt k hk) (TU_sne 0 (by decide) k hk)) hg_TU
  have g4661 : WD (avw K H4657 a0) := WD.congr (fun k hk j => av_fld hT ga0 hap wH4657 (by decide) (WD_ok 112 (by decide) k hk) (WD_ne 0 (by decide) k hk)) hg_WD
  have g4662 : IM (avw K H4657 a0) := IM.congr (fun k hk j => av_fld hT ga0 hap wH4657 (by decide) (IM_ok 112 (by decide) k hk) (IM_ne 0 (by decide) k hk)) hg_IM
  have b4663 : UN (x1.toInt = 0) (fun k => fI H4657 iq k) (fun k => fI s.heap iq k) := UN.congr (fun j => Wr.neI wH4657 (Or.inl (G_ne giq ga0 (by decide)))) ui00
  have b4664 : UN (x1.toInt ≠ 0) (fun k => fI H4657 q4 k) (fun k => fI s.heap q4 k) := UN.congr (fun j => Wr.neI wH4657 (Or.inl (G_ne gq4 ga0 (by decide)))) u400
  have b4665 : UN (x1.toInt ≠ 0) (fun k => fI H4657 q16 k) (fun k => fI s.heap q16 k) := UN.congr (fun j => Wr.neI wH4657 (Or.inl (G_ne gq16 ga0 (by decide)))) u1600
  have b4666 : UN (x1.toInt ≠ 0) (fun k => fI H4657 q24 k) (fun k => fI s.heap q24 k) := UN.congr (fun j => Wr.neI wH4657 (Or.inl (G_ne gq24 ga0 (by decide)))) u2400
  have b4667 : UN (x1.toInt ≠ 0) (fun k => fI H4657 q29 k) (fun k => fI s.heap q29 k) := UN.congr (fun j => Wr.neI wH4657 (Or.inl (G_ne gq29 ga0 (by decide)))) u2900
  have b4668 : UN (x1.toInt ≠ 0) (fun k => fI H4657 q30 k) (fun k => fI s.heap q30 k) := UN.congr (fun j => Wr.neI wH4657 (Or.inl (G_ne gq30 ga0 (by decide)))) u3000
  have b4669 : UN (x1.toInt ≠ 0) (fun k => fI H4657 q31 k) (fun k => fI s.heap q31 k) := UN.congr (fun j => Wr.neI wH4657 (Or.inl (G_ne gq31 ga0 (by decide)))) u3100
  have b4670 : UN (x1.toInt ≠ 0) (fun k => fI H4657 q32 k) (fun k => fI s.heap q32 k) := UN.congr (fun j => Wr.neI wH4657 (Or.inl (G_ne gq32 ga0 (by decide)))) u3200
  have b4671 : UN (x1.toInt ≠ 0) (fun k => fI H4657 q33 k) (fun k => fI s.heap q33 k) := UN.congr (fun j => Wr.neI wH4657 (Or.inl (G_ne gq33 ga0 (by decide)))) u3300
  have m4672 := eiq.trans (Wr.neR wH4657 (Or.inr (x_apart hKT hts inX10 tyX10 tyX10_ok nmX10 rfl 73 0 (by decide) (by decide) (by decide)))).symm
  have m4673 := eq4.trans (Wr.neR wH4657 (Or.inr (x_apart hKT hts inX10 tyX10 tyX10_ok nmX10 rfl 4 0 (by decide) (by decide) (by decide)))).symm
  have m4674 := eq10.trans (Wr.neR wH4657 (Or.inr (x_apart hKT hts inX10 tyX10 tyX10_ok nmX10 rfl 10 0 (by decide) (by decide) (by decide)))).symm
  have m4675 := eq16.trans (Wr.neR wH4657 (Or.inr (x_apart hKT hts inX10 tyX10 tyX10_ok nmX10 rfl 16 0 (by decide) (by decide) (by decide)))).symm
  have m4676 := eq24.trans (Wr.neR wH4657 (Or.inr (x_apart hKT hts inX10 tyX10 tyX10_ok nmX10 rfl 24 0 (by decide) (by decide) (by decide)))).symm
  have m4677 := eq27.trans (Wr.neR wH4657 (Or.inr (x_apart hKT hts inX10 tyX10 tyX10_ok nmX10 rfl 27 0 (by decide) (by decide) (by decide)))).symm
  have m4678 := eq29.trans (Wr.neR wH4657 (Or.inr (x_apart hKT hts inX10 tyX10 tyX10_ok nmX10 rfl 29 0 (by decide) (by decide) (by decide)))).symm
  have m4679 := eq30.trans (Wr.neR wH4657 (Or.inr (x_apart hKT hts inX10 tyX10 tyX10_ok nmX10 rfl 30 0 (by decide) (by decide) (by decide)))).symm
  have m4680 := eq31.trans (Wr.neR wH4657 (Or.inr (x_apart hKT hts inX10 tyX10 tyX10_ok nmX10 rfl 31 0 (by decide) (by decide) (by decide)))).symm
  have m4681 := eq32.trans (Wr.neR wH4657 (Or.inr (x_apart hKT hts inX10 tyX10 tyX10_ok nmX10 rfl 32 0 (by decide) (by decide) (by decide)))).symm
  have m4682 := eq33.trans (Wr.neR wH4657 (Or.inr (x_apart hKT hts inX10 tyX10 tyX10_ok nmX10 rfl 33 0 (by decide) (by decide) (by decide)))).symm
  have m4683 := eq50.trans (Wr.neR wH4657 (Or.inr (x_apart hKT hts inX10 tyX10 tyX10_ok nmX10 rfl 50 0 (by decide) (by decide) (by decide)))).symm
  have m4684 := eh70.trans (Wr.neI wH4657 (Or.inr (x_apart hKT hts inX10 tyX10 tyX10_ok nmX10 rfl 70 0 (by decide) (by decide) (by decide)))).symm
  have m4685 := es1.trans (Wr.neI wH4657 (Or.inr (x_apart hKT hts inX10 tyX10 tyX10_ok nmX10 rfl 1 0 (by decide) (by decide) (by decide)))).symm
  have m4686 := es2.trans (Wr.neI wH4657 (Or.inr (x_apart hKT hts inX10 tyX10 tyX10_ok nmX10 rfl 2 0 (by decide) (by decide) (by decide)))).symm
  have m4687 := es3.trans (Wr.neI wH4657 (Or.inr (x_apart hKT hts inX10 tyX10 tyX10_ok nmX10 rfl 3 0 (by decide) (by decide) (by decide)))).symm
  have m4688 := es59.trans (Wr.neI wH4657 (Or.inr (x_apart hKT hts inX10 tyX10 tyX10_ok nmX10 rfl 59 0 (by decide) (by decide) (by decide)))).symm
  have m4689 := es62.trans (Wr.neI wH4657 (Or.inr (x_apart hKT hts inX10 tyX10 tyX10_ok nmX10 rfl 62 0 (by decide) (by decide) (by decide)))).symm
  have m4690 := es65.trans (Wr.neI wH4657 (Or.inr (x_apart hKT hts inX10 tyX10 tyX10_ok nmX10 rfl 65 0 (by decide) (by decide) (by decide)))).symm
  have m4691 := Wr.I wH4657
  clear mf0 u1600 u2400 u2900 u3000 u3100 u3200 u3300 u400 ui00
  refine lv_iload_n hx hb dX10_image_5 rfl (lv_at hl 1 rfl) ?_
  refine lv_if_ne (tgt := 18) hx hb dX10_image_6 (by decide) (fun c4692 => ?_) (fun c4692 => ?_)
  · have k4693 := i_ne c4692
    refine lv_aload_n hx hb dX10_image_18 rfl (lv_at hl 0 rfl) ?_
    refine lv_iload_n hx hb dX10_image_19 rfl (lv_at hl 1 rfl) ?_
    refine x_put C hTH4657 hSH4657 (ci := 10) (k := 71) (v := .int x1) (ty0 := tyX10) rfl inX10 tyX10_ok nmX10 (by decide) rfl wF_X10_470 ga0 rg_112 rfl rfl (okI (by have := i_rng x1; omega) (by have := i_rng x1; omega)) (by rcases i_01 (x := x1) (by omega) with h | h <;> rw [h] <;> rfl) (by rcases i_01 (x := x1) (by omega) with h | h <;> rw [h] <;> rfl) (AE_in ga0 (by decide)) dX10_image_20 (fun H4694 locsH4694 hTH4694 hSH4694 wH4694 => ?_)
    have mf4695 : MF K s.heap H4694 a0 [0, 1, 2, 3, 59, 62, 65, 70, 71, 72] := MF.fld hap wH4694 (by decide) (by decide) mf4658
    have g4696 : CG (avw K H4694 a0) := CG.congr (fun k hk j => av_fld hTH4657 ga0 hap wH4694 (by decide) (CG_ok 112 (by decide) k hk) (CG_ne 71 (by decide) k hk)) g4659
    have g4697 : TU (avw K H4694 a0) (svw K H4694 a0) := TU.congr (fun k hk j => av_fld hTH4657 ga0 hap wH4694 (by decide) (TU_ok 112 (by decide) k hk) (TU_ne 71 (by decide) k hk)) (fun k hk => sv_fld hap wH4694 (by decide) (TU_slt k hk) (TU_sne 71 (by decide) k hk)) g4660
    have g4698 : WD (avw K H4694 a0) := WD.congr (fun k hk j => av_fld hTH4657 ga0 hap wH4694 (by decide) (WD_ok 112 (by decide) k hk) (WD_ne 71 (by decide) k hk)) g4661
    have g4699 : IM (avw K H4694 a0) := IM.congr (fun k hk j => av_fld hTH4657 ga0 hap wH4694 (by decide) (IM_ok 112 (by decide) k hk) (IM_ne 71 (by decide) k hk)) g4662
    have b4700 : UN (x1.toInt = 0) (fun k => fI H4694 iq k) (fun k => fI s.heap iq k) := UN.congr (fun j => Wr.neI wH4694 (Or.inl (G_ne giq ga0 (by decide)))) b4663
    have b4701 : UN (x1.toInt ≠ 0) (fun k => fI H4694 q4 k) (fun k => fI s.heap q4 k) := UN.congr (fun j => Wr.neI wH4694 (Or.inl (G_ne gq4 ga0 (by decide)))) b4664
    have b4702 : UN (x1.toInt ≠ 0) (fun k => fI H4694 q16 k) (fun k => fI s.heap q16 k) := UN.congr (fun j => Wr.neI wH4694 (Or.inl (G_ne gq16 ga0 (by decide)))) b4665
    have b4703 : UN (x1.toInt ≠ 0) (fun k => fI H4694 q24 k) (fun k => fI s.heap q24 k) := UN.congr (fun j => Wr.neI wH4694 (Or.inl (G_ne gq24 ga0 (by decide)))) b4666
    have b4704 : UN (x1.toInt ≠ 0) (fun k => fI H4694 q29 k) (fun k => fI s.heap q29 k) := UN.congr (fun j => Wr.neI wH4694 (Or.inl (G_ne gq29 ga0 (by decide)))) b4667
    have b4705 : UN (x1.toInt ≠ 0) (fun k => fI H4694 q30 k) (fun k => fI s.heap q30 k) := UN.congr (fun j => Wr.neI wH4694 (Or.inl (G_ne gq30 ga0 (by decide)))) b4668
    have b4706 : UN (x1.toInt ≠ 0) (fun k => fI H4694 q31 k) (fun k => fI s.heap q31 k) := UN.congr (fun j => Wr.neI wH4694 (Or.inl (G_ne gq31 ga0 (by decide)))) b4669
    have b4707 : UN (x1.toInt ≠ 0) (fun k => fI H4694 q32 k) (fun k => fI s.heap q32 k) := UN.congr (fun j => Wr.neI wH4694 (Or.inl (G_ne gq32 ga0 (by decide)))) b4670
    have b4708 : UN (x1.toInt ≠ 0) (fun k => fI H4694 q33 k) (fun k => fI s.heap q33 k) := UN.congr (fun j => Wr.neI wH4694 (Or.inl (G_ne gq33 ga0 (by decide)))) b4671
    have m4709 := m4672.trans (Wr.neR wH4694 (Or.inr (x_apart hKT hts inX10 tyX10 tyX10_ok nmX10 rfl 73 71 (by decide) (by decide) (by decide)))).symm
    have m4710 := m4673.trans (Wr.neR wH4694 (Or.inr (x_apart hKT hts inX10 tyX10 tyX10_ok nmX10 rfl 4 71 (by decide) (by decide) (by decide)))).symm
    have m4711 := m4674.trans (Wr.neR wH4694 (Or.inr (x_apart hKT hts inX10 tyX10 tyX10_ok nmX10 rfl 10 71 (by decide) (by decide) (by decide)))).symm
    have m4712 := m4675.trans (Wr.neR wH4694 (Or.inr (x_apart hKT hts inX10 tyX10 tyX10_ok nmX10 rfl 16 71 (by decide) (by decide) (by decide)))).symm
    have m4713 := m4676.trans (Wr.neR wH4694 (Or.inr (x_apart hKT hts inX10 tyX10 tyX10_ok nmX10 rfl 24 71 (by decide) (by decide) (by decide)))).symm
    have m4714 := m4677.trans (Wr.neR wH4694 (Or.inr (x_apart hKT hts inX10 tyX10 tyX10_ok nmX10 rfl 27 71 (by decide) (by decide) (by decide)))).symm
    have m4715 := m4678.trans (Wr.neR wH4694 (Or.inr (x_apart hKT hts inX10 tyX10 tyX10_ok nmX10 rfl 29 71 (by decide) (by decide) (by decide)))).symm
    have m4716 := m4679.trans (Wr.neR wH4694 (Or.inr (x_apart hKT hts inX10 tyX10 tyX10_ok nmX10 rfl 30 71 (by decide) (by decide) (by decide)))).symm
    have m4717 := m4680.trans (Wr.neR wH4694 (Or.inr (x_apart hKT hts inX10 tyX10 tyX10_ok nmX10 rfl 31 71 (by decide) (by decide) (by decide)))).symm
    have m4718 := m4681.trans (Wr.neR wH4694 (Or.inr (x_apart hKT hts inX10 tyX10 tyX10_ok nmX10 rfl 32 71 (by decide) (by decide) (by decide)))).symm
    have m4719 := m4682.trans (Wr.neR wH4694 (Or.inr (x_apart hKT hts inX10 tyX10 tyX10_ok nmX10 rfl 33 71 (by decide) (by decide) (by decide)))).symm
    have m4720 := m4683.trans (Wr.neR wH4694 (Or.inr (x_apart hKT hts inX10 tyX10 tyX10_ok nmX10 rfl 50 71 (by decide) (by decide) (by decide)))).symm
    have m4721 := m4684.trans (Wr.neI wH4694 (Or.inr (x_apart hKT hts inX10 tyX10 tyX10_ok nmX10 rfl 70 71 (by decide) (by decide) (by decide)))).symm
    have m4722 := m4685.trans (Wr.neI wH4694 (Or.inr (x_apart hKT hts inX10 tyX10 tyX10_ok nmX10 rfl 1 71 (by decide) (by decide) (by decide)))).symm
    have m4723 := m4686.trans (Wr.neI wH4694 (Or.inr (x_apart hKT hts inX10 tyX10 tyX10_ok nmX10 rfl 2 71 (by decide) (by decide) (by decide)))).symm
    have m4724 := m4687.trans (Wr.neI wH4694 (Or.inr (x_apart hKT hts inX10 tyX10 tyX10_ok nmX10 rfl 3 71 (by decide) (by decide) (by decide)))).symm
    have m4725 := m4688.trans (Wr.neI wH4694 (Or.inr (x_apart hKT hts inX10 tyX10 tyX10_ok nmX10 rfl 59 71 (by decide) (by decide) (by decide)))).symm
    have m4726 := m4689.trans (Wr.neI wH4694 (Or.inr (x_apart hKT hts inX10 tyX10 tyX10_ok nmX10 rfl 62 71 (by decide) (by decide) (by decide)))).symm
    have m4727 := m4690.trans (Wr.neI wH4694 (Or.inr (x_apart hKT hts inX10 tyX10 tyX10_ok nmX10 rfl 65 71 (by decide) (by decide) (by decide)))).symm
    have m4728 := (Wr.neI wH4694 (Or.inr (x_apart hKT hts inX10 tyX10 tyX10_ok nmX10 rfl 0 71 (by decide) (by decide) (by decide)))).trans m4691
    have m4729 := Wr.I wH4694
    have m4729 := m4729.symm
    clear b4663 b4664 b4665 b4666 b4667 b4668 b4669 b4670 b4671 g4659 g4660 g4661 g4662 hTH4657 m4672 m4673 m4674 m4675 m4676 m4677 m4678 m4679 m4680 m4681 m4682 m4683 m4684 m4685 m4686 m4687 m4688 m4689 m4690 m4691 mf4658
    refine lv_aload_n hx hb dX10_image_23 rfl (lv_at hl 0 rfl) ?_
    refine lv_iconst (v := 1) hx hb dX10_image_24 (by decide) ?_
    refine x_put C hTH4694 hSH4694 (ci := 10) (k := 70) (v := .int 1) (ty0 := tyX10) rfl inX10 tyX10_ok nmX10 (by decide) rfl wF_X10_476 ga0 rg_112 rfl rfl (okI (by have := i_rng (1 : Int32); omega) (by have := i_rng (1 : Int32); omega)) rfl rfl (AE_in ga0 (by decide)) dX10_image_25 (fun H4730 locsH4730 hTH4730 hSH4730 wH4730 => ?_)
    have mf4731 : MF K s.heap H4730 a0 [0, 1, 2, 3, 59, 62, 65, 70, 71, 72] := MF.fld hap wH4730 (by decide) (by decide) mf4695
    have g4732 : CG (avw K H4730 a0) := CG.congr (fun k hk j => av_fld hTH4694 ga0 hap wH4730 (by decide) (CG_ok 112 (by decide) k hk) (CG_ne 70 (by decide) k hk)) g4696
    have g4733 : TU (avw K H4730 a0) (svw K H4730 a0) := TU.congr (fun k hk j => av_fld hTH4694 ga0 hap wH4730 (by decide) (TU_ok 112 (by decide) k hk) (TU_ne 70 (by decide) k hk)) (fun k hk => sv_fld hap wH4730 (by decide) (TU_slt k hk) (TU_sne 70 (by decide) k hk)) g4697
    have g4734 : WD (avw K H4730 a0) := WD.congr (fun k hk j => av_fld hTH4694 ga0 hap wH4730 (by decide) (WD_ok 112 (by decide) k hk) (WD_ne 70 (by decide) k hk)) g4698
    have g4735 : IM (avw K H4730 a0) := IM.congr (fun k hk j => av_fld hTH4694 ga0 hap wH4730 (by decide) (IM_ok 112 (by decide) k hk) (IM_ne 70 (by decide) k hk)) g4699
    have b4736 : UN (x1.toInt = 0) (fun k => fI H4730 iq k) (fun k => fI s.heap iq k) := UN.congr (fun j => Wr.neI wH4730 (Or.inl (G_ne giq ga0 (by decide)))) b4700
    have b4737 : UN (x1.toInt ≠ 0) (fun k => fI H4730 q4 k) (fun k => fI s.heap q4 k) := UN.congr (fun j => Wr.neI wH4730 (Or.inl (G_ne gq4 ga0 (by decide)))) b4701
    have b4738 : UN (x1.toInt ≠ 0) (fun k => fI H4730 q16 k) (fun k => fI s.heap q16 k) := UN.congr (fun j => Wr.neI wH4730 (Or.inl (G_ne gq16 ga0 (by decide)))) b4702
    have b4739 : UN (x1.toInt ≠ 0) (fun k => fI H4730 q24 k) (fun k => fI s.heap q24 k) := UN.congr (fun j => Wr.neI wH4730 (Or.inl (G_ne gq24 ga0 (by decide)))) b4703
    have b4740 : UN (x1.toInt ≠ 0) (fun k => fI H4730 q29 k) (fun k => fI s.heap q29 k) := UN.congr (fun j => Wr.neI wH4730 (Or.inl (G_ne gq29 ga0 (by decide)))) b4704
    have b4741 : UN (x1.toInt ≠ 0) (fun k => fI H4730 q30 k) (fun k => fI s.heap q30 k) := UN.congr (fun j => Wr.neI wH4730 (Or.inl (G_ne gq30 ga0 (by decide)))) b4705
    have b4742 : UN (x1.toInt ≠ 0) (fun k => fI H4730 q31 k) (fun k => fI s.heap q31 k) := UN.congr (fun j => Wr.neI wH4730 (Or.inl (G_ne gq31 ga0 (by decide)))) b4706
    have b4743 : UN (x1.toInt ≠ 0) (fun k => fI H4730 q32 k) (fun k => fI s.heap q32 k) := UN.congr (fun j => Wr.neI wH4730 (Or.inl (G_ne gq32 ga0 (by decide)))) b4707
    have b4744 : UN (x1.toInt ≠ 0) (fun k => fI H4730 q33 k) (fun k => fI s.heap q33 k) := UN.congr (fun j => Wr.neI wH4730 (Or.inl (G_ne gq33 ga0 (by decide)))) b4708
    have m4745 := m4709.trans (Wr.neR wH4730 (Or.inr (x_apart hKT hts inX10 tyX10 tyX10_ok nmX10 rfl 73 70 (by decide) (by decide) (by decide)))).symm
    have m4746 := m4710.trans (Wr.neR wH4730 (Or.inr (x_apart hKT hts inX10 tyX10 tyX10_ok nmX10 rfl 4 70 (by decide) (by decide) (by decide)))).symm
    have m4747 := m4711.trans (Wr.neR wH4730 (Or.inr (x_apart hKT hts inX10 tyX10 tyX10_ok nmX10 rfl 10 70 (by decide) (by decide) (by decide)))).symm
    have m4748 := m4712.trans (Wr.neR wH4730 (Or.inr (x_apart hKT hts inX10 tyX10 tyX10_ok nmX10 rfl 16 70 (by decide) (by decide) (by decide)))).symm
    have m4749 := m4713.trans (Wr.neR wH4730 (Or.inr (x_apart hKT hts inX10 tyX10 tyX10_ok nmX10 rfl 24 70 (by decide) (by decide) (by decide)))).symm
    have m4750 := m4714.trans (Wr.neR wH4730 (Or.inr (x_apart hKT hts inX10 tyX10 tyX10_ok nmX10 rfl 27 70 (by decide) (by decide) (by decide)))).symm
    have m4751 := m4715.trans (Wr.neR wH4730 (Or.inr (x_apart hKT hts inX10 tyX10 tyX10_ok nmX10 rfl 29 70 (by decide) (by decide) (by decide)))).symm
    have m4752 := m4716.trans (Wr.neR wH4730 (Or.inr (x_apart hKT hts inX10 tyX10 tyX10_ok nmX10 rfl 30 70 (by decide) (by decide) (by decide)))).symm
    have m4753 := m4717.trans (Wr.neR wH4730 (Or.inr (x_apart hKT hts inX10 tyX10 tyX10_ok nmX10 rfl 31 70 (by decide) (by decide) (by decide)))).symm
    have m4754 := m4718.trans (Wr.neR wH4730 (Or.inr (x_apart hKT hts inX10 tyX10 tyX10_ok nmX10 rfl 32 70 (by decide) (by decide) (by decide)))).symm
    have m4755 := m4719.trans (Wr.neR wH4730 (Or.inr (x_apart hKT hts inX10 tyX10 tyX10_ok nmX10 rfl 33 70 (by decide) (by decide) (by decide)))).symm
    have m4756 := m4720.trans (Wr.neR wH4730 (Or.inr (x_apart hKT hts inX10 tyX10 tyX10_ok nmX10 rfl 50 70 (by decide) (by decide) (by decide)))).symm
    have m4758 := m4722.trans (Wr.neI wH4730 (Or.inr (x_apart hKT hts inX10 tyX10 tyX10_ok nmX10 rfl 1 70 (by decide) (by decide) (by decide)))).symm
    have m4759 := m4723.trans (Wr.neI wH4730 (Or.inr (x_apart hKT hts inX10 tyX10 tyX10_ok nmX10 rfl 2 70 (by decide) (by decide) (by decide)))).symm
    have m4760 := m4724.trans (Wr.neI wH4730 (Or.inr (x_apart hKT hts inX10 tyX10 tyX10_ok nmX10 rfl 3 70 (by decide) (by decide) (by decide)))).symm
    have m4761 := m4725.trans (Wr.neI wH4730 (Or.inr (x_apart hKT hts inX10 tyX10 tyX10_ok nmX10 rfl 59 70 (by decide) (by decide) (by decide)))).symm
    have m4762 := m4726.trans (Wr.neI wH4730 (Or.inr (x_apart hKT hts inX10 tyX10 tyX10_ok nmX10 rfl 62 70 (by decide) (by decide) (by decide)))).symm
    have m4763 := m4727.trans (Wr.neI wH4730 (Or.inr (x_apart hKT hts inX10 tyX10 tyX10_ok nmX10 rfl 65 70 (by decide) (by decide) (by decide)))).symm
    have m4764 := (Wr.neI wH4730 (Or.inr (x_apart hKT hts inX10 tyX10 tyX10_ok nmX10 rfl 0 70 (by decide) (by decide) (by decide)))).trans m4728
    have m4765 := m4729.trans (Wr.neI wH4730 (Or.inr (x_apart hKT hts inX10 tyX10 tyX10_ok nmX10 rfl 71 70 (by decide) (by decide) (by decide)))).symm
    have m4766 := Wr.I wH4730
    clear b4700 b4701 b4702 b4703 b4704 b4705 b4706 b4707 b4708 g4696 g4697 g4698 g4699 hTH4694 m4709 m4710 m4711 m4712 m4713 m4714 m4715 m4716 m4717 m4718 m4719 m4720 m4721 m4722 m4723 m4724 m4725 m4726 m4727 m4728 m4729 mf4695
    refine lv_aload_n hx hb dX10_image_28 rfl (lv_at hl 0 rfl) ?_
    refine lv_iconst (v := 0) hx hb dX10_image_29 (by decide) ?_
    refine x_put C hTH4730 hSH4730 (ci := 10) (k := 72) (v := .int 0) (ty0 := tyX10) rfl inX10 tyX10_ok nmX10 (by decide) rfl wF_X10_467 ga0 rg_112 rfl rfl (okI (by have := i_rng (0 : Int32); omega) (by have := i_rng (0 : Int32); omega)) rfl rfl (AE_in ga0 (by decide)) dX10_image_30 (fun H4767 locsH4767 hTH4767 hSH4767 wH4767 => ?_)
    have mf4768 : MF K s.heap H4767 a0 [0, 1, 2, 3, 59, 62, 65, 70, 71, 72] := MF.fld hap wH4767 (by decide) (by decide) mf4731
    have g4769 : CG (avw K H4767 a0) := CG.congr (fun k hk j => av_fld hTH4730 ga0 hap wH4767 (by decide) (CG_ok 112 (by decide) k hk) (CG_ne 72 (by decide) k hk)) g4732
    have g4770 : TU (avw K H4767 a0) (svw K H4767 a0) := TU.congr (fun k hk j => av_fld hTH4730 ga0 hap wH4767 (by decide) (TU_ok 112 (by decide) k hk) (TU_ne 72 (by decide) k hk)) (fun k hk => sv_fld hap wH4767 (by decide) (TU_slt k hk) (TU_sne 72 (by decide) k hk)) g4733
    have g4771 : WD (avw K H4767 a0) := WD.congr (fun k hk j => av_fld hTH4730 ga0 hap wH4767 (by decide) (WD_ok 112 (by decide) k hk) (WD_ne 72 (by decide) k hk)) g4734
    have g4772 : IM (avw K H4767 a0) := IM.congr (fun k hk j => av_fld hTH4730 ga0 hap wH4767 (by decide) (IM_ok 112 (by decide) k hk) (IM_ne 72 (by decide) k hk)) g4735
    have b4773 : UN (x1.toInt = 0) (fun k => fI H4767 iq k) (fun k => fI s.heap iq k) := UN.congr (fun j => Wr.neI wH4767 (Or.inl (G_ne giq ga0 (by decide)))) b4736
    have b4774 : UN (x1.toInt ≠ 0) (fun k => fI H4767 q4 k) (fun k => fI s.heap q4 k) := UN.congr (fun j => Wr.neI wH4767 (Or.inl (G_ne gq4 ga0 (by decide)))) b4737
    have b4775 : UN (x1.toInt ≠ 0) (fun k => fI H4767 q16 k) (fun k => fI s.heap q16 k) := UN.congr (fun j => Wr.neI wH4767 (Or.inl (G_ne gq16 ga0 (by decide)))) b4738
    have b4776 : UN (x1.toInt ≠ 0) (fun k => fI H4767 q24 k) (fun k => fI s.heap q24 k) := UN.congr (fun j => Wr.neI wH4767 (Or.inl (G_ne gq24 ga0 (by decide)))) b4739
    have b4777 : UN (x1.toInt ≠ 0) (fun k => fI H4767 q29 k) (fun k => fI s.heap q29 k) := UN.congr (fun j => Wr.neI wH4767 (Or.inl (G_ne gq29 ga0 (by decide)))) b4740
    have b4778 : UN (x1.toInt ≠ 0) (fun k => fI H4767 q30 k) (fun k => fI s.heap q30 k) := UN.congr (fun j => Wr.neI wH4767 (Or.inl (G_ne gq30 ga0 (by decide)))) b4741
    have b4779 : UN (x1.toInt ≠ 0) (fun k => fI H4767 q31 k) (fun k => fI s.heap q31 k) := UN.congr (fun j => Wr.neI wH4767 (Or.inl (G_ne gq31 ga0 (by decide)))) b4742
    have b4780 : UN (x1.toInt ≠ 0) (fun k => fI H4767 q32 k) (fun k => fI s.heap q32 k) := UN.congr (fun j => Wr.neI wH4767 (Or.inl (G_ne gq32 ga0 (by decide)))) b4743
    have b4781 : UN (x1.toInt ≠ 0) (fun k => fI H4767 q33 k) (fun k => fI s.heap q33 k) := UN.congr (fun j => Wr.neI wH4767 (Or.inl (G_ne gq33 ga0 (by decide)))) b4744
    have m4782 := m4745.trans (Wr.neR wH4767 (Or.inr (x_apart hKT hts inX10 tyX10 tyX10_ok nmX10 rfl 73 72 (by decide) (by decide) (by decide)))).symm
    have m4783 := m4746.trans (Wr.neR wH4767 (Or.inr (x_apart hKT hts inX10 tyX10 tyX10_ok nmX10 rfl 4 72 (by decide) (by decide) (by decide)))).symm
    have m4784 := m4747.trans (Wr.neR wH4767 (Or.inr (x_apart hKT hts inX10 tyX10 tyX10_ok nmX10 rfl 10 72 (by decide) (by decide) (by decide)))).symm
    have m4785 := m4748.trans (Wr.neR wH4767 (Or.inr (x_apart hKT hts inX10 tyX10 tyX10_ok nmX10 rfl 16 72 (by decide) (by decide) (by decide)))).symm
    have m4786 := m4749.trans (Wr.neR wH4767 (Or.inr (x_apart hKT hts inX10 tyX10 tyX10_ok nmX10 rfl 24 72 (by decide) (by decide) (by decide)))).symm
    have m4787 := m4750.trans (Wr.neR wH4767 (Or.inr (x_apart hKT hts inX10 tyX10 tyX10_ok nmX10 rfl 27 72 (by decide) (by decide) (by decide)))).symm
    have m4788 := m4751.trans (Wr.neR wH4767 (Or.inr (x_apart hKT hts inX10 tyX10 tyX10_ok nmX10 rfl 29 72 (by decide) (by decide) (by decide)))).symm
    have m4789 := m4752.trans (Wr.neR wH4767 (Or.inr (x_apart hKT hts inX10 tyX10 tyX10_ok nmX10 rfl 30 72 (by decide) (by decide) (by decide)))).symm
    have m4790 := m4753.trans (Wr.neR wH4767 (Or.inr (x_apart hKT hts inX10 tyX10 tyX10_ok nmX10 rfl 31 72 (by decide) (by decide) (by decide)))).symm
    have m4791 := m4754.trans (Wr.neR wH4767 (Or.inr (x_apart hKT hts inX10 tyX10 tyX10_ok nmX10 rfl 32 72 (by decide) (by decide) (by decide)))).symm
    have m4792 := m4755.trans (Wr.neR wH4767 (Or.inr (x_apart hKT hts inX10 tyX10 tyX10_ok nmX10 rfl 33 72 (by decide) (by decide) (by decide)))).symm
    have m4793 := m4756.trans (Wr.neR wH4767 (Or.inr (x_apart hKT hts inX10 tyX10 tyX10_ok nmX10 rfl 50 72 (by decide) (by decide) (by decide)))).symm
    have m4794 := m4758.trans (Wr.neI wH4767 (Or.inr (x_apart hKT hts inX10 tyX10 tyX10_ok nmX10 rfl 1 72 (by decide) (by decide) (by decide)))).symm
    have m4795 := m4759.trans (Wr.neI wH4767 (Or.inr (x_apart hKT hts inX10 tyX10 tyX10_ok nmX10 rfl 2 72 (by decide) (by decide) (by decide)))).symm
    have m4796 := m4760.trans (Wr.neI wH4767 (Or.inr (x_apart hKT hts inX10 tyX10 tyX10_ok nmX10 rfl 3 72 (by decide) (by decide) (by decide)))).symm
    have m4797 := m4761.trans (Wr.neI wH4767 (Or.inr (x_apart hKT hts inX10 tyX10 tyX10_ok nmX10 rfl 59 72 (by decide) (by decide) (by decide)))).symm
    have m4798 := m4762.trans (Wr.neI wH4767 (Or.inr (x_apart hKT hts inX10 tyX10 tyX10_ok nmX10 rfl 62 72 (by decide) (by decide) (by decide)))).symm
    have m4799 := m4763.trans (Wr.neI wH4767 (Or.inr (x_apart hKT hts inX10 tyX10 tyX10_ok nmX10 rfl 65 72 (by decide) (by decide) (by decide)))).symm
    have m4800 := (Wr.neI wH4767 (Or.inr (x_apart hKT hts inX10 tyX10 tyX10_ok nmX10 rfl 0 72 (by decide) (by decide) (by decide)))).trans m4764
    have m4801 := m4765.trans (Wr.neI wH4767 (Or.inr (x_apart hKT hts inX10 tyX10 tyX10_ok nmX10 rfl 71 72 (by decide) (by decide) (by decide)))).symm
    have m4802 := (Wr.neI wH4767 (Or.inr (x_apart hKT hts inX10 tyX10 tyX10_ok nmX10 rfl 70 72 (by decide) (by decide) (by decide)))).trans m4766
    have m4803 := Wr.I wH4767
    clear b4736 b4737 b4738 b4739 b4740 b4741 b4742 b4743 b4744 g4732 g4733 g4734 g4735 hTH4730 m4745 m4746 m4747 m4748 m4749 m4750 m4751 m4752 m4753 m4754 m4755 m4756 m4758 m4759 m4760 m4761 m4762 m4763 m4764 m4765 m4766 mf4731
    refine lv_aload_n hx hb dX10_image_33 rfl (lv_at hl 0 rfl) ?_
    refine lv_aload_n hx hb dX10_image_34 rfl (lv_at hl 0 rfl) ?_
    refine lv_aload_n hx hb dX10_image_35 rfl (lv_at hl 0 rfl) ?_
    refine x_gi C hTH4767 (ci := 10) (k := 1) rfl inX10 (by decide) wF_X10_170 ga0 rg_112 rfl dX10_image_36 (fun x4804 ex4804 bx4804 => ?_)
    have ux4804 : s1 = x4804 := (m4794).trans ex4804.symm
    subst ux4804
    refine x_V (As := [.int s1]) (rest := [.ref a0]) C (a_X10_kept l K G H4767 (s1) (0) (x1) hTH4767 ga0 giq m4782 (m4803).symm m4801 g4771 (by and_intros <;> first | assumption | omega)) yo_X10_kept wM_X10_473 ⟨⟨by decide, by decide⟩, by decide, by decide⟩ (x_rv C hTH4767 (ci := 10) rfl ga0 rg_112) rfl hl.1 rfl (Nat.le_of_ble_eq_true rfl) dX10_image_39 hSH4767 (AE_sub (fun _ _ => rfl) (by decide) hSH4767.1) (fun vH4805 H4805 locsH4805 pH4805 zH4805 kH4805 hSH4805 => ?_)
    obtain ⟨x4806, x4807, hvH4805, ex4807, hrH4805, m4808, g4809, mf4810, m4811, m4812, m4813, m4814, hTH4805⟩ := pH4805
    subst hvH4805
    clear zH4805
    replace m4808 := EQN.mk m4808
    have b4815 : UN (x1.toInt ≠ 0) (fun k => fI H4805 q4 k) (fun k => fI s.heap q4 k) := UN.congr (fun j => fI_kept (x_lt hTH4767 kH4805 gq4 (by decide))) b4774
    have b4816 : UN (x1.toInt ≠ 0) (fun k => fI H4805 q16 k) (fun k => fI s.heap q16 k) := UN.congr (fun j => fI_kept (x_lt hTH4767 kH4805 gq16 (by decide))) b4775
    have b4817 : UN (x1.toInt ≠ 0) (fun k => fI H4805 q24 k) (fun k => fI s.heap q24 k) := UN.congr (fun j => fI_kept (x_lt hTH4767 kH4805 gq24 (by decide))) b4776
    have b4818 : UN (x1.toInt ≠ 0) (fun k => fI H4805 q29 k) (fun k => fI s.heap q29 k) := UN.congr (fun j => fI_kept (x_lt hTH4767 kH4805 gq29 (by decide))) b4777
    have b4819 : UN (x1.toInt ≠ 0) (fun k => fI H4805 q30 k) (fun k => fI s.heap q30 k) := UN.congr (fun j => fI_kept (x_lt hTH4767 kH4805 gq30 (by decide))) b4778
    have b4820 : UN (x1.toInt ≠ 0) (fun k => fI H4805 q31 k) (fun k => fI s.heap q31 k) := UN.congr (fun j => fI_kept (x_lt hTH4767 kH4805 gq31 (by decide))) b4779
    have b4821 : UN (x1.toInt ≠ 0) (fun k => fI H4805 q32 k) (fun k => fI s.heap q32 k) := UN.congr (fun j => fI_kept (x_lt hTH4767 kH4805 gq32 (by decide))) b4780
    have b4822 : UN (x1.toInt ≠ 0) (fun k => fI H4805 q33 k) (fun k => fI s.heap q33 k) := UN.congr (fun j => fI_kept (x_lt hTH4767 kH4805 gq33 (by decide))) b4781
    have m4823 := (m4782).trans (MF.r mf4810 (k := 73) (by decide) (by decide)).symm
    have m4824 := (m4783).trans (MF.r mf4810 (k := 4) (by decide) (by decide)).symm
    have m4825 := (m4784).trans (MF.r mf4810 (k := 10) (by decide) (by decide)).symm
    have m4826 := (m4785).trans (MF.r mf4810 (k := 16) (by decide) (by decide)).symm
    have m4827 := (m4786).trans (MF.r mf4810 (k := 24) (by decide) (by decide)).symm
    have m4828 := (m4787).trans (MF.r mf4810 (k := 27) (by decide) (by decide)).symm
    have m4829 := (m4788).trans (MF.r mf4810 (k := 29) (by decide) (by decide)).symm
    have m4830 := (m4789).trans (MF.r mf4810 (k := 30) (by decide) (by decide)).symm
    have m4831 := (m4790).trans (MF.r mf4810 (k := 31) (by decide) (by decide)).symm
    have m4832 := (m4791).trans (MF.r mf4810 (k := 32) (by decide) (by decide)).symm
    have m4833 := (m4792).trans (MF.r mf4810 (k := 33) (by decide) (by decide)).symm
    have m4834 := (m4793).trans (MF.r mf4810 (k := 50) (by decide) (by decide)).symm
    have m4835 := (m4794).trans (MF.i mf4810 (k := 1) (by decide) (by decide)).symm
    have m4836 := (m4795).trans (MF.i mf4810 (k := 2) (by decide) (by decide)).symm
    have m4837 := (m4796).trans (MF.i mf4810 (k := 3) (by decide) (by decide)).symm
    have m4838 := (m4797).trans (MF.i mf4810 (k := 59) (by decide) (by decide)).symm
    have m4839 := (m4798).trans (MF.i mf4810 (k := 62) (by decide) (by decide)).symm
    have m4840 := (m4799).trans (MF.i mf4810 (k := 65) (by decide) (by decide)).symm
    have m4841 := (MF.i mf4810 (k := 0) (by decide) (by decide)).trans m4800
    have m4842 := (m4801).trans (MF.i mf4810 (k := 71) (by decide) (by decide)).symm
    have m4843 := (MF.i mf4810 (k := 70) (by decide) (by decide)).trans m4802
    have mf4844 : MF K s.heap H4805 a0 [0, 1, 2, 3, 59, 62, 65, 70, 71, 72] := MF.trans mf4768 mf4810 (by decide)
    have bx4807 := ty_fi (x := x4807) (k := 72) ex4807 hTH4805 ga0 rg_112 rfl
    have ce_k0 : (0 : Int32).toNatClampNeg = 0 := rfl
    have b4845 : UN (x1.toInt = 0) (fun k => fI H4805 iq k) (fun k => fI s.heap iq k) := UN.tr m4814 b4773
    clear b4773 b4774 b4775 b4776 b4777 b4778 b4779 b4780 b4781 m4782 m4783 m4784 m4785 m4786 m4787 m4788 m4789 m4790 m4791 m4792 m4793 m4794 m4795 m4796 m4797 m4798 m4799 m4800 m4801 m4802 m4803
    clear m4813 m4814
    have bx4806 : 0 ≤ x4806.toInt ∧ x4806.toInt ≤ 10 := kr (fun h0 => by have hiw := hIW; exact kr0 (w := fun k => fI H4805 iq k) m4811 (p := 0) (by omega) (b4845 h0) (hiw.1.1)) m4812 (by omega)
    have p4846 : x4806 = fI H4805 iq (0) := by have h := m4811; rw [show (0 : Int32).toNatClampNeg = 0 by omega] at h; exact h
    refine W.eq (g2 := F0 m 42 ls [.int x4806, .ref a0]) rfl ?_
    refine x_put C hTH4805 hSH4805 (ci := 10) (k := 1) (v := .int x4806) (ty0 := tyX10) rfl inX10 tyX10_ok nmX10 (by decide) rfl wF_X10_170 ga0 rg_112 rfl rfl (okI (by have := i_rng x4806; omega) (by have := i_rng x4806; omega)) rfl rfl (AE_in ga0 (by decide)) dX10_image_42 (fun H4847 locsH4847 hTH4847 hSH4847 wH4847 => ?_)
    have mf4848 : MF K s.heap H4847 a0 [0, 1, 2, 3, 59, 62, 65, 70, 71, 72] := MF.fld hap wH4847 (by decide) (by decide) mf4844
    have g4849 : WD (avw K H4847 a0) := WD.congr (fun k hk j => av_fld hTH4805 ga0 hap wH4847 (by decide) (WD_ok 112 (by decide) k hk) (WD_ne 1 (by decide) k hk)) g4809
    have b4850 : UN (x1.toInt ≠ 0) (fun k => fI H4847 q4 k) (fun k => fI s.heap q4 k) := UN.congr (fun j => Wr.neI wH4847 (Or.inl (G_ne gq4 ga0 (by decide)))) b4815
    have b4851 : UN (x1.toInt ≠ 0) (fun k => fI H4847 q16 k) (fun k => fI s.heap q16 k) := UN.congr (fun j => Wr.neI wH4847 (Or.inl (G_ne gq16 ga0 (by decide)))) b4816
    have b4852 : UN (x1.toInt ≠ 0) (fun k => fI H4847 q24 k) (fun k => fI s.heap q24 k) := UN.congr (fun j => Wr.neI wH4847 (Or.inl (G_ne gq24 ga0 (by decide)))) b4817
    have b4853 : UN (x1.toInt ≠ 0) (fun k => fI H4847 q29 k) (fun k => fI s.heap q29 k) := UN.congr (fun j => Wr.neI wH4847 (Or.inl (G_ne gq29 ga0 (by decide)))) b4818
    have b4854 : UN (x1.toInt ≠ 0) (fun k => fI H4847 q30 k) (fun k => fI s.heap q30 k) := UN.congr (fun j => Wr.neI wH4847 (Or.inl (G_ne gq30 ga0 (by decide)))) b4819
    have b4855 : UN (x1.toInt ≠ 0) (fun k => fI H4847 q31 k) (fun k => fI s.heap q31 k) := UN.congr (fun j => Wr.neI wH4847 (Or.inl (G_ne gq31 ga0 (by decide)))) b4820
    have b4856 : UN (x1.toInt ≠ 0) (fun k => fI H4847 q32 k) (fun k => fI s.heap q32 k) := UN.congr (fun j => Wr.neI wH4847 (Or.inl (G_ne gq32 ga0 (by decide)))) b4821
    have b4857 : UN (x1.toInt ≠ 0) (fun k => fI H4847 q33 k) (fun k => fI s.heap q33 k) := UN.congr (fun j => Wr.neI wH4847 (Or.inl (G_ne gq33 ga0 (by decide)))) b4822
    have b4858 : UN (x1.toInt = 0) (fun k => fI H4847 iq k) (fun k => fI s.heap iq k) := UN.congr (fun j => Wr.neI wH4847 (Or.inl (G_ne giq ga0 (by decide)))) b4845
    have b4859 : x4806 = fI H4847 iq (0) := (p4846).trans (Wr.neI wH4847 (Or.inl (G_ne giq ga0 (by decide)))).symm
    have m4860 := m4808.trans (Wr.neR wH4847 (Or.inr (x_apart hKT hts inX10 tyX10 tyX10_ok nmX10 rfl 73 1 (by decide) (by decide) (by decide)))).symm
    have m4861 := m4824.trans (Wr.neR wH4847 (Or.inr (x_apart hKT hts inX10 tyX10 tyX10_ok nmX10 rfl 4 1 (by decide) (by decide) (by decide)))).symm
    have m4862 := m4825.trans (Wr.neR wH4847 (Or.inr (x_apart hKT hts inX10 tyX10 tyX10_ok nmX10 rfl 10 1 (by decide) (by decide) (by decide)))).symm
    have m4863 := m4826.trans (Wr.neR wH4847 (Or.inr (x_apart hKT hts inX10 tyX10 tyX10_ok nmX10 rfl 16 1 (by decide) (by decide) (by decide)))).symm
    have m4864 := m4827.trans (Wr.neR wH4847 (Or.inr (x_apart hKT hts inX10 tyX10 tyX10_ok nmX10 rfl 24 1 (by decide) (by decide) (by decide)))).symm
    have m4865 := m4828.trans (Wr.neR wH4847 (Or.inr (x_apart hKT hts inX10 tyX10 tyX10_ok nmX10 rfl 27 1 (by decide) (by decide) (by decide)))).symm
    have m4866 := m4829.trans (Wr.neR wH4847 (Or.inr (x_apart hKT hts inX10 tyX10 tyX10_ok nmX10 rfl 29 1 (by decide) (by decide) (by decide)))).symm
    have m4867 := m4830.trans (Wr.neR wH4847 (Or.inr (x_apart hKT hts inX10 tyX10 tyX10_ok nmX10 rfl 30 1 (by decide) (by decide) (by decide)))).symm
    have m4868 := m4831.trans (Wr.neR wH4847 (Or.inr (x_apart hKT hts inX10 tyX10 tyX10_ok nmX10 rfl 31 1 (by decide) (by decide) (by decide)))).symm
    have m4869 := m4832.trans (Wr.neR wH4847 (Or.inr (x_apart hKT hts inX10 tyX10 tyX10_ok nmX10 rfl 32 1 (by decide) (by decide) (by decide)))).symm
    have m4870 := m4833.trans (Wr.neR wH4847 (Or.inr (x_apart hKT hts inX10 tyX10 tyX10_ok nmX10 rfl 33 1 (by decide) (by decide) (by decide)))).symm
    have m4871 := m4834.trans (Wr.neR wH4847 (Or.inr (x_apart hKT hts inX10 tyX10 tyX10_ok nmX10 rfl 50 1 (by decide) (by decide) (by decide)))).symm
    have m4873 := m4836.trans (Wr.neI wH4847 (Or.inr (x_apart hKT hts inX10 tyX10 tyX10_ok nmX10 rfl 2 1 (by decide) (by decide) (by decide)))).symm
    have m4874 := m4837.trans (Wr.neI wH4847 (Or.inr (x_apart hKT hts inX10 tyX10 tyX10_ok nmX10 rfl 3 1 (by decide) (by decide) (by decide)))).symm
    have m4875 := m4838.trans (Wr.neI wH4847 (Or.inr (x_apart hKT hts inX10 tyX10 tyX10_ok nmX10 rfl 59 1 (by decide) (by decide) (by decide)))).symm
    have m4876 := m4839.trans (Wr.neI wH4847 (Or.inr (x_apart hKT hts inX10 tyX10 tyX10_ok nmX10 rfl 62 1 (by decide) (by decide) (by decide)))).symm
    have m4877 := m4840.trans (Wr.neI wH4847 (Or.inr (x_apart hKT hts inX10 tyX10 tyX10_ok nmX10 rfl 65 1 (by decide) (by decide) (by decide)))).symm
    have m4878 := (Wr.neI wH4847 (Or.inr (x_apart hKT hts inX10 tyX10 tyX10_ok nmX10 rfl 0 1 (by decide) (by decide) (by decide)))).trans m4841
    have m4879 := m4842.trans (Wr.neI wH4847 (Or.inr (x_apart hKT hts inX10 tyX10 tyX10_ok nmX10 rfl 71 1 (by decide) (by decide) (by decide)))).symm
    have m4880 := (Wr.neI wH4847 (Or.inr (x_apart hKT hts inX10 tyX10 tyX10_ok nmX10 rfl 70 1 (by decide) (by decide) (by decide)))).trans m4843
    have m4881 := ex4807.trans (Wr.neI wH4847 (Or.inr (x_apart hKT hts inX10 tyX10 tyX10_ok nmX10 rfl 72 1 (by decide) (by decide) (by decide)))).symm
    have m4882 := Wr.I wH4847
    have m4882 := m4882.symm
    clear b4815 b4816 b4817 b4818 b4819 b4820 b4821 b4822 b4845 ex4807 g4809 hTH4805 m4808 m4824 m4825 m4826 m4827 m4828 m4829 m4830 m4831 m4832 m4833 m4834 m4835 m4836 m4837 m4838 m4839 m4840 m4841 m4842 m4843 mf4844 p4846
    refine lv_aload_n hx hb dX10_image_45 rfl (lv_at hl 0 rfl) ?_
    refine lv_aload_n hx hb dX10_image_46 rfl (lv_at hl 0 rfl) ?_
    refine lv_aload_n hx hb dX10_image_47 rfl (lv_at hl 0 rfl) ?_
    refine x_gi C hTH4847 (ci := 10) (k := 2) rfl inX10 (by decide) wF_X10_322 ga0 rg_112 rfl dX10_image_48 (fun x4883 ex4883 bx4883 => ?_)
    have ux4883 : s2 = x4883 := (m4873).trans ex4883.symm
    subst ux4883
    refine x_V (As := [.int s2]) (rest := [.ref a0]) C (a_X10_kept l K G H4847 (s2) (x4807) (x1) hTH4847 ga0 giq m4860 m4881 m4879 g4849 (by and_intros <;> first | assumption | omega)) yo_X10_kept wM_X10_473 ⟨⟨by decide, by decide⟩, by decide, by decide⟩ (x_rv C hTH4847 (ci := 10) rfl ga0 rg_112) rfl hl.1 rfl (Nat.le_of_ble_eq_true rfl) dX10_image_51 hSH4847 (AE_sub (fun _ _ => rfl) (by decide) hSH4847.1) (fun vH4884 H4884 locsH4884 pH4884 zH4884 kH4884 hSH4884 => ?_)
    obtain ⟨x4885, x4886, hvH4884, ex4886, hrH4884, m4887, g4888, mf4889, m4890, m4891, m4892, m4893, hTH4884⟩ := pH4884
    subst hvH4884
    clear zH4884
    replace m4887 := EQN.mk m4887
    have b4894 : UN (x1.toInt ≠ 0) (fun k => fI H4884 q4 k) (fun k => fI s.heap q4 k) := UN.congr (fun j => fI_kept (x_lt hTH4847 kH4884 gq4 (by decide))) b4850
    have b4895 : UN (x1.toInt ≠ 0) (fun k => fI H4884 q16 k) (fun k => fI s.heap q16 k) := UN.congr (fun j => fI_kept (x_lt hTH4847 kH4884 gq16 (by decide))) b4851
    have b4896 : UN (x1.toInt ≠ 0) (fun k => fI H4884 q24 k) (fun k => fI s.heap q24 k) := UN.congr (fun j => fI_kept (x_lt hTH4847 kH4884 gq24 (by decide))) b4852
    have b4897 : UN (x1.toInt ≠ 0) (fun k => fI H4884 q29 k) (fun k => fI s.heap q29 k) := UN.congr (fun j => fI_kept (x_lt hTH4847 kH4884 gq29 (by decide))) b4853
    have b4898 : UN (x1.toInt ≠ 0) (fun k => fI H4884 q30 k) (fun k => fI s.heap q30 k) := UN.congr (fun j => fI_kept (x_lt hTH4847 kH4884 gq30 (by decide))) b4854
    have b4899 : UN (x1.toInt ≠ 0) (fun k => fI H4884 q31 k) (fun k => fI s.heap q31 k) := UN.congr (fun j => fI_kept (x_lt hTH4847 kH4884 gq31 (by decide))) b4855
    have b4900 : UN (x1.toInt ≠ 0) (fun k => fI H4884 q32 k) (fun k => fI s.heap q32 k) := UN.congr (fun j => fI_kept (x_lt hTH4847 kH4884 gq32 (by decide))) b4856
    have b4901 : UN (x1.toInt ≠ 0) (fun k => fI H4884 q33 k) (fun k => fI s.heap q33 k) := UN.congr (fun j => fI_kept (x_lt hTH4847 kH4884 gq33 (by decide))) b4857
    have m4902 := (m4860).trans (MF.r mf4889 (k := 73) (by decide) (by decide)).symm
    have m4903 := (m4861).trans (MF.r mf4889 (k := 4) (by decide) (by decide)).symm
    have m4904 := (m4862).trans (MF.r mf4889 (k := 10) (by decide) (by decide)).symm
    have m4905 := (m4863).trans (MF.r mf4889 (k := 16) (by decide) (by decide)).symm
    have m4906 := (m4864).trans (MF.r mf4889 (k := 24) (by decide) (by decide)).symm
    have m4907 := (m4865).trans (MF.r mf4889 (k := 27) (by decide) (by decide)).symm
    have m4908 := (m4866).trans (MF.r mf4889 (k := 29) (by decide) (by decide)).symm
    have m4909 := (m4867).trans (MF.r mf4889 (k := 30) (by decide) (by decide)).symm
    have m4910 := (m4868).trans (MF.r mf4889 (k := 31) (by decide) (by decide)).symm
    have m4911 := (m4869).trans (MF.r mf4889 (k := 32) (by decide) (by decide)).symm
    have m4912 := (m4870).trans (MF.r mf4889 (k := 33) (by decide) (by decide)).symm
    have m4913 := (m4871).trans (MF.r mf4889 (k := 50) (by decide) (by decide)).symm
    have m4914 := (m4873).trans (MF.i mf4889 (k := 2) (by decide) (by decide)).symm
    have m4915 := (m4874).trans (MF.i mf4889 (k := 3) (by decide) (by decide)).symm
    have m4916 := (m4875).trans (MF.i mf4889 (k := 59) (by decide) (by decide)).symm
    have m4917 := (m4876).trans (MF.i mf4889 (k := 62) (by decide) (by decide)).symm
    have m4918 := (m4877).trans (MF.i mf4889 (k := 65) (by decide) (by decide)).symm
    have m4919 := (MF.i mf4889 (k := 0) (by decide) (by decide)).trans m4878
    have m4920 := (m4879).trans (MF.i mf4889 (k := 71) (by decide) (by decide)).symm
    have m4921 := (MF.i mf4889 (k := 70) (by decide) (by decide)).trans m4880
    have m4922 := (m4882).trans (MF.i mf4889 (k := 1) (by decide) (by decide)).symm
    have mf4923 : MF K s.heap H4884 a0 [0, 1, 2, 3, 59, 62, 65, 70, 71, 72] := MF.trans mf4848 mf4889 (by decide)
    have bx4886 := ty_fi (x := x4886) (k := 72) ex4886 hTH4884 ga0 rg_112 rfl
    have ce_x4807 := i_cl (x := x4807) (by omega)
    have b4924 : UN (x1.toInt = 0) (fun k => fI H4884 iq k) (fun k => fI s.heap iq k) := UN.tr m4893 b4858
    have b4925 : x4806 = fI H4884 iq (0) := (b4859).trans (m4892 _ (by omega)).symm
    clear b4850 b4851 b4852 b4853 b4854 b4855 b4856 b4857 b4858 b4859 m4860 m4861 m4862 m4863 m4864 m4865 m4866 m4867 m4868 m4869 m4870 m4871 m4873 m4874 m4875 m4876 m4877 m4878 m4879 m4880 m4881 m4882
    clear m4892 m4893
    have bx4885 : 0 ≤ x4885.toInt ∧ x4885.toInt ≤ 1 := kr (fun h0 => by have hiw := hIW; exact kr0 (w := fun k => fI H4884 iq k) m4890 (p := 1) (by omega) (b4924 h0) (hiw.1.2.1)) m4891 (by omega)
    have p4926 : x4885 = fI H4884 iq (1) := by have h := m4890; rw [show x4807.toNatClampNeg = 1 by omega] at h; exact h
    refine W.eq (g2 := F0 m 54 ls [.int x4885, .ref a0]) rfl ?_
    refine x_put C hTH4884 hSH4884 (ci := 10) (k := 2) (v := .int x4885) (ty0 := tyX10) rfl inX10 tyX10_ok nmX10 (by decide) rfl wF_X10_322 ga0 rg_112 rfl rfl (okI (by have := i_rng x4885; omega) (by have := i_rng x4885; omega)) rfl rfl (AE_in ga0 (by decide)) dX10_image_54 (fun H4927 locsH4927 hTH4927 hSH4927 wH4927 => ?_)
    have mf4928 : MF K s.heap H4927 a0 [0, 1, 2, 3, 59, 62, 65, 70, 71, 72] := MF.fld hap wH4927 (by decide) (by decide) mf4923
    have g4929 : WD (avw K H4927 a0) := WD.congr (fun k hk j => av_fld hTH4884 ga0 hap wH4927 (by decide) (WD_ok 112 (by decide) k hk) (WD_ne 2 (by decide) k hk)) g4888
    have b4930 : UN (x1.toInt ≠ 0) (fun k => fI H4927 q4 k) (fun k => fI s.heap q4 k) := UN.congr (fun j => Wr.neI wH4927 (Or.inl (G_ne gq4 ga0 (by decide)))) b4894
    have b4931 : UN (x1.toInt ≠ 0) (fun k => fI H4927 q16 k) (fun k => fI s.heap q16 k) := UN.congr (fun j => Wr.neI wH4927 (Or.inl (G_ne gq16 ga0 (by decide)))) b4895
    have b4932 : UN (x1.toInt ≠ 0) (fun k => fI H4927 q24 k) (fun k => fI s.heap q24 k) := UN.congr (fun j => Wr.neI wH4927 (Or.inl (G_ne gq24 ga0 (by decide)))) b4896
    have b4933 : UN (x1.toInt ≠ 0) (fun k => fI H4927 q29 k) (fun k => fI s.heap q29 k) := UN.congr (fun j => Wr.neI wH4927 (Or.inl (G_ne gq29 ga0 (by decide)))) b4897
    have b4934 : UN (x1.toInt ≠ 0) (fun k => fI H4927 q30 k) (fun k => fI s.heap q30 k) := UN.congr (fun j => Wr.neI wH4927 (Or.inl (G_ne gq30 ga0 (by decide)))) b4898
    have b4935 : UN (x1.toInt ≠ 0) (fun k => fI H4927 q31 k) (fun k => fI s.heap q31 k) := UN.congr (fun j => Wr.neI wH4927 (Or.inl (G_ne gq31 ga0 (by decide)))) b4899
    have b4936 : UN (x1.toInt ≠ 0) (fun k => fI H4927 q32 k) (fun k => fI s.heap q32 k) := UN.congr (fun j => Wr.neI wH4927 (Or.inl (G_ne gq32 ga0 (by decide)))) b4900
    have b4937 : UN (x1.toInt ≠ 0) (fun k => fI H4927 q33 k) (fun k => fI s.heap q33 k) := UN.congr (fun j => Wr.neI wH4927 (Or.inl (G_ne gq33 ga0 (by decide)))) b4901
    have b4938 : UN (x1.toInt = 0) (fun k => fI H4927 iq k) (fun k => fI s.heap iq k) := UN.congr (fun j => Wr.neI wH4927 (Or.inl (G_ne giq ga0 (by decide)))) b4924
    have b4939 : x4806 = fI H4927 iq (0) := (b4925).trans (Wr.neI wH4927 (Or.inl (G_ne giq ga0 (by decide)))).symm
    have b4940 : x4885 = fI H4927 iq (1) := (p4926).trans (Wr.neI wH4927 (Or.inl (G_ne giq ga0 (by decide)))).symm
    have m4941 := m4887.trans (Wr.neR wH4927 (Or.inr (x_apart hKT hts inX10 tyX10 tyX10_ok nmX10 rfl 73 2 (by decide) (by decide) (by decide)))).symm
    have m4942 := m4903.trans (Wr.neR wH4927 (Or.inr (x_apart hKT hts inX10 tyX10 tyX10_ok nmX10 rfl 4 2 (by decide) (by decide) (by decide)))).symm
    have m4943 := m4904.trans (Wr.neR wH4927 (Or.inr (x_apart hKT hts inX10 tyX10 tyX10_ok nmX10 rfl 10 2 (by decide) (by decide) (by decide)))).symm
    have m4944 := m4905.trans (Wr.neR wH4927 (Or.inr (x_apart hKT hts inX10 tyX10 tyX10_ok nmX10 rfl 16 2 (by decide) (by decide) (by decide)))).symm
    have m4945 := m4906.trans (Wr.neR wH4927 (Or.inr (x_apart hKT hts inX10 tyX10 tyX10_ok nmX10 rfl 24 2 (by decide) (by decide) (by decide)))).symm
    have m4946 := m4907.trans (Wr.neR wH4927 (Or.inr (x_apart hKT hts inX10 tyX10 tyX10_ok nmX10 rfl 27 2 (by decide) (by decide) (by decide)))).symm
    have m4947 := m4908.trans (Wr.neR wH4927 (Or.inr (x_apart hKT hts inX10 tyX10 tyX10_ok nmX10 rfl 29 2 (by decide) (by decide) (by decide)))).symm
    have m4948 := m4909.trans (Wr.neR wH4927 (Or.inr (x_apart hKT hts inX10 tyX10 tyX10_ok nmX10 rfl 30 2 (by decide) (by decide) (by decide)))).symm
    have m4949 := m4910.trans (Wr.neR wH4927 (Or.inr (x_apart hKT hts inX10 tyX10 tyX10_ok nmX10 rfl 31 2 (by decide) (by decide) (by decide)))).symm
    have m4950 := m4911.trans (Wr.neR wH4927 (Or.inr (x_apart hKT hts inX10 tyX10 tyX10_ok nmX10 rfl 32 2 (by decide) (by decide) (by decide)))).symm
    have m4951 := m4912.trans (Wr.neR wH4927 (Or.inr (x_apart hKT hts inX10 tyX10 tyX10_ok nmX10 rfl 33 2 (by decide) (by decide) (by decide)))).symm
    have m4952 := m4913.trans (Wr.neR wH4927 (Or.inr (x_apart hKT hts inX10 tyX10 tyX10_ok nmX10 rfl 50 2 (by decide) (by decide) (by decide)))).symm
    have m4954 := m4915.trans (Wr.neI wH4927 (Or.inr (x_apart hKT hts inX10 tyX10 tyX10_ok nmX10 rfl 3 2 (by decide) (by decide) (by decide)))).symm
    have m4955 := m4916.trans (Wr.neI wH4927 (Or.inr (x_apart hKT hts inX10 tyX10 tyX10_ok nmX10 rfl 59 2 (by decide) (by decide) (by decide)))).symm
    have m4956 := m4917.trans (Wr.neI wH4927 (Or.inr (x_apart hKT hts inX10 tyX10 tyX10_ok nmX10 rfl 62 2 (by decide) (by decide) (by decide)))).symm
    have m4957 := m4918.trans (Wr.neI wH4927 (Or.inr (x_apart hKT hts inX10 tyX10 tyX10_ok nmX10 rfl 65 2 (by decide) (by decide) (by decide)))).symm
    have m4958 := (Wr.neI wH4927 (Or.inr (x_apart hKT hts inX10 tyX10 tyX10_ok nmX10 rfl 0 2 (by decide) (by decide) (by decide)))).trans m4919
    have m4959 := m4920.trans (Wr.neI wH4927 (Or.inr (x_apart hKT hts inX10 tyX10 tyX10_ok nmX10 rfl 71 2 (by decide) (by decide) (by decide)))).symm
    have m4960 := (Wr.neI wH4927 (Or.inr (x_apart hKT hts inX10 tyX10 tyX10_ok nmX10 rfl 70 2 (by decide) (by decide) (by decide)))).trans m4921
    have m4961 := m4922.trans (Wr.neI wH4927 (Or.inr (x_apart hKT hts inX10 tyX10 tyX10_ok nmX10 rfl 1 2 (by decide) (by decide) (by decide)))).symm
    have m4962 := ex4886.trans (Wr.neI wH4927 (Or.inr (x_apart hKT hts inX10 tyX10 tyX10_ok nmX10 rfl 72 2 (by decide) (by decide) (by decide)))).symm
    have m4963 := Wr.I wH4927
    have m4963 := m4963.symm
    clear b4894 b4895 b4896 b4897 b4898 b4899 b4900 b4901 b4924 b4925 ex4886 g4888 hTH4884 m4887 m4903 m4904 m4905 m4906 m4907 m4908 m4909 m4910 m4911 m4912 m4913 m4914 m4915 m4916 m4917 m4918 m4919 m4920 m4921 m4922 mf4923 p4926
    refine lv_aload_n hx hb dX10_image_57 rfl (lv_at hl 0 rfl) ?_
    refine lv_aload_n hx hb dX10_image_58 rfl (lv_at hl 0 rfl) ?_
    refine lv_aload_n hx hb dX10_image_59 rfl (lv_at hl 0 rfl) ?_
    refine x_gi C hTH4927 (ci := 10) (k := 3) rfl inX10 (by decide) wF_X10_7 ga0 rg_112 rfl dX10_image_60 (fun x4964 ex4964 bx4964 => ?_)
    have ux4964 : s3 = x4964 := (m4954).trans ex4964.symm
    subst ux4964
    refine x_V (As := [.int s3]) (rest := [.ref a0]) C (a_X10_kept l K G H4927 (s3) (x4886) (x1) hTH4927 ga0 giq m4941 m4962 m4959 g4929 (by and_intros <;> first | assumption | omega)) yo_X10_kept wM_X10_473 ⟨⟨by decide, by decide⟩, by decide, by decide⟩ (x_rv C hTH4927 (ci := 10) rfl ga0 rg_112) rfl hl.1 rfl (Nat.le_of_ble_eq_true rfl) dX10_image_63 hSH4927 (AE_sub (fun _ _ => rfl) (by decide) hSH4927.1) (fun vH4965 H4965 locsH4965 pH4965 zH4965 kH4965 hSH4965 => ?_)
    obtain ⟨x4966, x4967, hvH4965, ex4967, hrH4965, m4968, g4969, mf4970, m4971, m4972, m4973, m4974, hTH4965⟩ := pH4965
    subst hvH4965
    clear zH4965
    replace m4968 := EQN.mk m4968
    have b4975 : UN (x1.toInt ≠ 0) (fun k => fI H4965 q4 k) (fun k => fI s.heap q4 k) := UN.congr (fun j => fI_kept (x_lt hTH4927 kH4965 gq4 (by decide))) b4930
    have b4976 : UN (x1.toInt ≠ 0) (fun k => fI H4965 q16 k) (fun k => fI s.heap q16 k) := UN.congr (fun j => fI_kept (x_lt hTH4927 kH4965 gq16 (by decide))) b4931
    have b4977 : UN (x1.toInt ≠ 0) (fun k => fI H4965 q24 k) (fun k => fI s.heap q24 k) := UN.congr (fun j => fI_kept (x_lt hTH4927 kH4965 gq24 (by decide))) b4932
    have b4978 : UN (x1.toInt ≠ 0) (fun k => fI H4965 q29 k) (fun k => fI s.heap q29 k) := UN.congr (fun j => fI_kept (x_lt hTH4927 kH4965 gq29 (by decide))) b4933
    have b4979 : UN (x1.toInt ≠ 0) (fun k => fI H4965 q30 k) (fun k => fI s.heap q30 k) := UN.congr (fun j => fI_kept (x_lt hTH4927 kH4965 gq30 (by decide))) b4934
    have b4980 : UN (x1.toInt ≠ 0) (fun k => fI H4965 q31 k) (fun k => fI s.heap q31 k) := UN.congr (fun j => fI_kept (x_lt hTH4927 kH4965 gq31 (by decide))) b4935
    have b4981 : UN (x1.toInt ≠ 0) (fun k => fI H4965 q32 k) (fun k => fI s.heap q32 k) := UN.congr (fun j => fI_kept (x_lt hTH4927 kH4965 gq32 (by decide))) b4936
    have b4982 : UN (x1.toInt ≠ 0) (fun k => fI H4965 q33 k) (fun k => fI s.heap q33 k) := UN.congr (fun j => fI_kept (x_lt hTH4927 kH4965 gq33 (by decide))) b4937
    have m4983 := (m4941).trans (MF.r mf4970 (k := 73) (by decide) (by decide)).symm
    have m4984 := (m4942).trans (MF.r mf4970 (k := 4) (by decide) (by decide)).symm
    have m4985 := (m4943).trans (MF.r mf4970 (k := 10) (by decide) (by decide)).symm
    have m4986 := (m4944).trans (MF.r mf4970 (k := 16) (by decide) (by decide)).symm
    have m4987 := (m4945).trans (MF.r mf4970 (k := 24) (by decide) (by decide)).symm
    have m4988 := (m4946).trans (MF.r mf4970 (k := 27) (by decide) (by decide)).symm
    have m4989 := (m4947).trans (MF.r mf4970 (k := 29) (by decide) (by decide)).symm
    have m4990 := (m4948).trans (MF.r mf4970 (k := 30) (by decide) (by decide)).symm
    have m4991 := (m4949).trans (MF.r mf4970 (k := 31) (by decide) (by decide)).symm
    have m4992 := (m4950).trans (MF.r mf4970 (k := 32) (by decide) (by decide)).symm
    have m4993 := (m4951).trans (MF.r mf4970 (k := 33) (by decide) (by decide)).symm
    have m4994 := (m4952).trans (MF.r mf4970 (k := 50) (by decide) (by decide)).symm
    have m4995 := (m4954).trans (MF.i mf4970 (k := 3) (by decide) (by decide)).symm
    have m4996 := (m4955).trans (MF.i mf4970 (k := 59) (by decide) (by decide)).symm
    have m4997 := (m4956).trans (MF.i mf4970 (k := 62) (by decide) (by decide)).symm
    have m4998 := (m4957).trans (MF.i mf4970 (k := 65) (by decide) (by decide)).symm
    have m4999 := (MF.i mf4970 (k := 0) (by decide) (by decide)).trans m4958
    have m5000 := (m4959).trans (MF.i mf4970 (k := 71) (by decide) (by decide)).symm
    have m5001 := (MF.i mf4970 (k := 70) (by decide) (by decide)).trans m4960
    have m5002 := (m4961).trans (MF.i mf4970 (k := 1) (by decide) (by decide)).symm
    have m5003 := (m4963).trans (MF.i mf4970 (k := 2) (by decide) (by decide)).symm
    have mf5004 : MF K s.heap H4965 a0 [0, 1, 2, 3, 59, 62, 65, 70, 71, 72] := MF.trans mf4928 mf4970 (by decide)
    have bx4967 := ty_fi (x := x4967) (k := 72) ex4967 hTH4965 ga0 rg_112 rfl
    have ce_x4886 := i_cl (x := x4886) (by omega)
    have b5005 : UN (x1.toInt = 0) (fun k => fI H4965 iq k) (fun k => fI s.heap iq k) := UN.tr m4974 b4938
    have b5006 : x4806 = fI H4965 iq (0) := (b4939).trans (m4973 _ (by omega)).symm
    have b5007 : x4885 = fI H4965 iq (1) := (b4940).trans (m4973 _ (by omega)).symm
    clear b4930 b4931 b4932 b4933 b4934 b4935 b4936 b4937 b4938 b4939 b4940 m4941 m4942 m4943 m4944 m4945 m4946 m4947 m4948 m4949 m4950 m4951 m4952 m4954 m4955 m4956 m4957 m4958 m4959 m4960 m4961 m4962 m4963
    clear m4973 m4974
    have p5008 : x4966 = fI H4965 iq (2) := by have h := m4971; rw [show x4886.toNatClampNeg = 2 by omega] at h; exact h
    refine W.eq (g2 := F0 m 66 ls [.int x4966, .ref a0]) rfl ?_
    refine x_put C hTH4965 hSH4965 (ci := 10) (k := 3) (v := .int x4966) (ty0 := tyX10) rfl inX10 tyX10_ok nmX10 (by decide) rfl wF_X10_7 ga0 rg_112 rfl rfl (okI (by have := i_rng x4966; omega) (by have := i_rng x4966; omega)) rfl rfl (AE_in ga0 (by decide)) dX10_image_66 (fun H5009 locsH5009 hTH5009 hSH5009 wH5009 => ?_)
    have mf5010 : MF K s.heap H5009 a0 [0, 1, 2, 3, 59, 62, 65, 70, 71, 72] := MF.fld hap wH5009 (by decide) (by decide) mf5004
    have g5011 : WD (avw K H5009 a0) := WD.congr (fun k hk j => av_fld hTH4965 ga0 hap wH5009 (by decide) (WD_ok 112 (by decide) k hk) (WD_ne 3 (by decide) k hk)) g4969
    have b5012 : UN (x1.toInt ≠ 0) (fun k => fI H5009 q4 k) (fun k => fI s.heap q4 k) := UN.congr (fun j => Wr.neI wH5009 (Or.inl (G_ne gq4 ga0 (by decide)))) b4975
    have b5013 : UN (x1.toInt ≠ 0) (fun k => fI H5009 q16 k) (fun k => fI s.heap q16 k) := UN.congr (fun j => Wr.neI wH5009 (Or.inl (G_ne gq16 ga0 (by decide)))) b4976
    have b5014 : UN (x1.toInt ≠ 0) (fun k => fI H5009 q24 k) (fun k => fI s.heap q24 k) := UN.congr (fun j => Wr.neI wH5009 (Or.inl (G_ne gq24 ga0 (by decide)))) b4977
    have b5015 : UN (x1.toInt ≠ 0) (fun k => fI H5009 q29 k) (fun k => fI s.heap q29 k) := UN.congr (fun j => Wr.neI wH5009 (Or.inl (G_ne gq29 ga0 (by decide)))) b4978
    have b5016 : UN (x1.toInt ≠ 0) (fun k => fI H5009 q30 k) (fun k => fI s.heap q30 k) := UN.congr (fun j => Wr.neI wH5009 (Or.inl (G_ne gq30 ga0 (by decide)))) b4979
    have b5017 : UN (x1.toInt ≠ 0) (fun k => fI H5009 q31 k) (fun k => fI s.heap q31 k) := UN.congr (fun j => Wr.neI wH5009 (Or.inl (G_ne gq31 ga0 (by decide)))) b4980
    have b5018 : UN (x1.toInt ≠ 0) (fun k => fI H5009 q32 k) (fun k => fI s.heap q32 k) := UN.congr (fun j => Wr.neI wH5009 (Or.inl (G_ne gq32 ga0 (by decide)))) b4981
    have b5019 : UN (x1.toInt ≠ 0) (fun k => fI H5009 q33 k) (fun k => fI s.heap q33 k) := UN.congr (fun j => Wr.neI wH5009 (Or.inl (G_ne gq33 ga0 (by decide)))) b4982
    have b5020 : UN (x1.toInt = 0) (fun k => fI H5009 iq k) (fun k => fI s.heap iq k) := UN.congr (fun j => Wr.neI wH5009 (Or.inl (G_ne giq ga0 (by decide)))) b5005
    have b5021 : x4806 = fI H5009 iq (0) := (b5006).trans (Wr.neI wH5009 (Or.inl (G_ne giq ga0 (by decide)))).symm
    have b5022 : x4885 = fI H5009 iq (1) := (b5007).trans (Wr.neI wH5009 (Or.inl (G_ne giq ga0 (by decide)))).symm
    have b5023 : x4966 = fI H5009 iq (2) := (p5008).trans (Wr.neI wH5009 (Or.inl (G_ne giq ga0 (by decide)))).symm
    have m5024 := m4968.trans (Wr.neR wH5009 (Or.inr (x_apart hKT hts inX10 tyX10 tyX10_ok nmX10 rfl 73 3 (by decide) (by decide) (by decide)))).symm
    have m5025 := m4984.trans (Wr.neR wH5009 (Or.inr (x_apart hKT hts inX10 tyX10 tyX10_ok nmX10 rfl 4 3 (by decide) (by decide) (by decide)))).symm
    have m5026 := m4985.trans (Wr.neR wH5009 (Or.inr (x_apart hKT hts inX10 tyX10 tyX10_ok nmX10 rfl 10 3 (by decide) (by decide) (by decide)))).symm
    have m5027 := m4986.trans (Wr.neR wH5009 (Or.inr (x_apart hKT hts inX10 tyX10 tyX10_ok nmX10 rfl 16 3 (by decide) (by decide) (by decide)))).symm
    have m5028 := m4987.trans (Wr.neR wH5009 (Or.inr (x_apart hKT hts inX10 tyX10 tyX10_ok nmX10 rfl 24 3 (by decide) (by decide) (by decide)))).symm
    have m5029 := m4988.trans (Wr.neR wH5009 (Or.inr (x_apart hKT hts inX10 tyX10 tyX10_ok nmX10 rfl 27 3 (by decide) (by decide) (by decide)))).symm
    have m5030 := m4989.trans (Wr.neR wH5009 (Or.inr (x_apart hKT hts inX10 tyX10 tyX10_ok nmX10 rfl 29 3 (by decide) (by decide) (by decide)))).symm
    have m5031 := m4990.trans (Wr.neR wH5009 (Or.inr (x_apart hKT hts inX10 tyX10 tyX10_ok nmX10 rfl 30 3 (by decide) (by decide) (by decide)))).symm
    have m5032 := m4991.trans (Wr.neR wH5009 (Or.inr (x_apart hKT hts inX10 tyX10 tyX10_ok nmX10 rfl 31 3 (by decide) (by decide) (by decide)))).symm
    have m5033 := m4992.trans (Wr.neR wH5009 (Or.inr (x_apart hKT hts inX10 tyX10 tyX10_ok nmX10 rfl 32 3 (by decide) (by decide) (by decide)))).symm
    have m5034 := m4993.trans (Wr.neR wH5009 (Or.inr (x_apart hKT hts inX10 tyX10 tyX10_ok nmX10 rfl 33 3 (by decide) (by decide) (by decide)))).symm
    have m5035 := m4994.trans (Wr.neR wH5009 (Or.inr (x_apart hKT hts inX10 tyX10 tyX10_ok nmX10 rfl 50 3 (by decide) (by decide) (by decide)))).symm
    have m5037 := m4996.trans (Wr.neI wH5009 (Or.inr (x_apart hKT hts inX10 tyX10 tyX10_ok nmX10 rfl 59 3 (by decide) (by decide) (by decide)))).symm
    have m5038 := m4997.trans (Wr.neI wH5009 (Or.inr (x_apart hKT hts inX10 tyX10 tyX10_ok nmX10 rfl 62 3 (by decide) (by decide) (by decide)))).symm
    have m5039 := m4998.trans (Wr.neI wH5009 (Or.inr (x_apart hKT hts inX10 tyX10 tyX10_ok nmX10 rfl 65 3 (by decide) (by decide) (by decide)))).symm
    have m5040 := (Wr.neI wH5009 (Or.inr (x_apart hKT hts inX10 tyX10 tyX10_ok nmX10 rfl 0 3 (by decide) (by decide) (by decide)))).trans m4999
    have m5041 := m5000.trans (Wr.neI wH5009 (Or.inr (x_apart hKT hts inX10 tyX10 tyX10_ok nmX10 rfl 71 3 (by decide) (by decide) (by decide)))).symm
    have m5042 := (Wr.neI wH5009 (Or.inr (x_apart hKT hts inX10 tyX10 tyX10_ok nmX10 rfl 70 3 (by decide) (by decide) (by decide)))).trans m5001
    have m5043 := m5002.trans (Wr.neI wH5009 (Or.inr (x_apart hKT hts inX10 tyX10 tyX10_ok nmX10 rfl 1 3 (by decide) (by decide) (by decide)))).symm
    have m5044 := m5003.trans (Wr.neI wH5009 (Or.inr (x_apart hKT hts inX10 tyX10 tyX10_ok nmX10 rfl 2 3 (by decide) (by decide) (by decide)))).symm
    have m5045 := ex4967.trans (Wr.neI wH5009 (Or.inr (x_apart hKT hts inX10 tyX10 tyX10_ok nmX10 rfl 72 3 (by decide) (by decide) (by decide)))).symm
    have m5046 := Wr.I wH5009
    have m5046 := m5046.symm
    clear b4975 b4976 b4977 b4978 b4979 b4980 b4981 b4982 b5005 b5006 b5007 ex4967 g4969 hTH4965 m4968 m4984 m4985 m4986 m4987 m4988 m4989 m4990 m4991 m4992 m4993 m4994 m4995 m4996 m4997 m4998 m4999 m5000 m5001 m5002 m5003 mf5004 p5008
    refine lv_aload_n hx hb dX10_image_69 rfl (lv_at hl 0 rfl) ?_
    refine lv_aload_n hx hb dX10_image_70 rfl (lv_at hl 0 rfl) ?_
    refine lv_aload_n hx hb dX10_image_71 rfl (lv_at hl 0 rfl) ?_
    refine x_gi C hTH5009 (ci := 10) (k := 59) rfl inX10 (by decide) wF_X10_438 ga0 rg_112 rfl dX10_image_72 (fun x5047 ex5047 bx5047 => ?_)
    have ux5047 : s59 = x5047 := (m5037).trans ex5047.symm
    subst ux5047
    refine x_V (As := [.int s59]) (rest := [.ref a0]) C (a_X10_kept l K G H5009 (s59) (x4967) (x1) hTH5009 ga0 giq m5024 m5045 m5041 g5011 (by and_intros <;> first | assumption | omega)) yo_X10_kept wM_X10_473 ⟨⟨by decide, by decide⟩, by decide, by decide⟩ (x_rv C hTH5009 (ci := 10) rfl ga0 rg_112) rfl hl.1 rfl (Nat.le_of_ble_eq_true rfl) dX10_image_75 hSH5009 (AE_sub (fun _ _ => rfl) (by decide) hSH5009.1) (fun vH5048 H5048 locsH5048 pH5048 zH5048 kH5048 hSH5048 => ?_)
    obtain ⟨x5049, x5050, hvH5048, ex5050, hrH5048, m5051, g5052, mf5053, m5054, m5055, m5056, m5057, hTH5048⟩ := pH5048
    subst hvH5048
    clear zH5048
    replace m5051 := EQN.mk m5051
    have b5058 : UN (x1.toInt ≠ 0) (fun k => fI H5048 q4 k) (fun k => fI s.heap q4 k) := UN.congr (fun j => fI_kept (x_lt hTH5009 kH5048 gq4 (by decide))) b5012
    have b5059 : UN (x1.toInt ≠ 0) (fun k => fI H5048 q16 k) (fun k => fI s.heap q16 k) := UN.congr (fun j => fI_kept (x_lt hTH5009 kH5048 gq16 (by decide))) b5013
    have b5060 : UN (x1.toInt ≠ 0) (fun k => fI H5048 q24 k) (fun k => fI s.heap q24 k) := UN.congr (fun j => fI_kept (x_lt hTH5009 kH5048 gq24 (by decide))) b5014
    have b5061 : UN (x1.toInt ≠ 0) (fun k => fI H5048 q29 k) (fun k => fI s.heap q29 k) := UN.congr (fun j => fI_kept (x_lt hTH5009 kH5048 gq29 (by decide))) b5015
    have b5062 : UN (x1.toInt ≠ 0) (fun k => fI H5048 q30 k) (fun k => fI s.heap q30 k) := UN.congr (fun j => fI_kept (x_lt hTH5009 kH5048 gq30 (by decide))) b5016
    have b5063 : UN (x1.toInt ≠ 0) (fun k => fI H5048 q31 k) (fun k => fI s.heap q31 k) := UN.congr (fun j => fI_kept (x_lt hTH5009 kH5048 gq31 (by decide))) b5017
    have b5064 : UN (x1.toInt ≠ 0) (fun k => fI H5048 q32 k) (fun k => fI s.heap q32 k) := UN.congr (fun j => fI_kept (x_lt hTH5009 kH5048 gq32 (by decide))) b5018
    have b5065 : UN (x1.toInt ≠ 0) (fun k => fI H5048 q33 k) (fun k => fI s.heap q33 k) := UN.congr (fun j => fI_kept (x_lt hTH5009 kH5048 gq33 (by decide))) b5019
    have m5066 := (m5024).trans (MF.r mf5053 (k := 73) (by decide) (by decide)).symm
    have m5067 := (m5025).trans (MF.r mf5053 (k := 4) (by decide) (by decide)).symm
    have m5068 := (m5026).trans (MF.r mf5053 (k := 10) (by decide) (by decide)).symm
    have m5069 := (m5027).trans (MF.r mf5053 (k := 16) (by decide) (by decide)).symm
    have m5070 := (m5028).trans (MF.r mf5053 (k := 24) (by decide) (by decide)).symm
    have m5071 := (m5029).trans (MF.r mf5053 (k := 27) (by decide) (by decide)).symm
    have m5072 := (m5030).trans (MF.r mf5053 (k := 29) (by decide) (by decide)).symm
    have m5073 := (m5031).trans (MF.r mf5053 (k := 30) (by decide) (by decide)).symm
    have m5074 := (m5032).trans (MF.r mf5053 (k := 31) (by decide) (by decide)).symm
    have m5075 := (m5033).trans (MF.r mf5053 (k := 32) (by decide) (by decide)).symm
    have m5076 := (m5034).trans (MF.r mf5053 (k := 33) (by decide) (by decide)).symm
    have m5077 := (m5035).trans (MF.r mf5053 (k := 50) (by decide) (by decide)).symm
    have m5078 := (m5037).trans (MF.i mf5053 (k := 59) (by decide) (by decide)).symm
    have m5079 := (m5038).trans (MF.i mf5053 (k := 62) (by decide) (by decide)).symm
    have m5080 := (m5039).trans (MF.i mf5053 (k := 65) (by decide) (by decide)).symm
    have m5081 := (MF.i mf5053 (k := 0) (by decide) (by decide)).trans m5040
    have m5082 := (m5041).trans (MF.i mf5053 (k := 71) (by decide) (by decide)).symm
    have m5083 := (MF.i mf5053 (k := 70) (by decide) (by decide)).trans m5042
    have m5084 := (m5043).trans (MF.i mf5053 (k := 1) (by decide) (by decide)).symm
    have m5085 := (m5044).trans (MF.i mf5053 (k := 2) (by decide) (by decide)).symm
    have m5086 := (m5046).trans (MF.i mf5053 (k := 3) (by decide) (by decide)).symm
    have mf5087 : MF K s.heap H5048 a0 [0, 1, 2, 3, 59, 62, 65, 70, 71, 72] := MF.trans mf5010 mf5053 (by decide)
    have bx5050 := ty_fi (x := x5050) (k := 72) ex5050 hTH5048 ga0 rg_112 rfl
    have ce_x4967 := i_cl (x := x4967) (by omega)
    have b5088 : UN (x1.toInt = 0) (fun k => fI H5048 iq k) (fun k => fI s.heap iq k) := UN.tr m5057 b5020
    have b5089 : x4806 = fI H5048 iq (0) := (b5021).trans (m5056 _ (by omega)).symm
    have b5090 : x4885 = fI H5048 iq (1) := (b5022).trans (m5056 _ (by omega)).symm
    have b5091 : x4966 = fI H5048 iq (2) := (b5023).trans (m5056 _ (by omega)).symm
    clear b5012 b5013 b5014 b5015 b5016 b5017 b5018 b5019 b5020 b5021 b5022 b5023 m5024 m5025 m5026 m5027 m5028 m5029 m5030 m5031 m5032 m5033 m5034 m5035 m5037 m5038 m5039 m5040 m5041 m5042 m5043 m5044 m5045 m5046
    clear m5056 m5057
    have bx5049 : 0 ≤ x5049.toInt ∧ x5049.toInt ≤ 20 := kr (fun h0 => by have hiw := hIW; exact kr0 (w := fun k => fI H5048 iq k) m5054 (p := 3) (by omega) (b5088 h0) (hiw.1.2.2.1)) m5055 (by omega)
    have p5092 : x5049 = fI H5048 iq (3) := by have h := m5054; rw [show x4967.toNatClampNeg = 3 by omega] at h; exact h
    refine W.eq (g2 := F0 m 78 ls [.int x5049, .ref a0]) rfl ?_
    refine x_put C hTH5048 hSH5048 (ci := 10) (k := 59) (v := .int x5049) (ty0 := tyX10) rfl inX10 tyX10_ok nmX10 (by decide) rfl wF_X10_438 ga0 rg_112 rfl rfl (okI (by have := i_rng x5049; omega) (by have := i_rng x5049; omega)) rfl rfl (AE_in ga0 (by decide)) dX10_image_78 (fun H5093 locsH5093 hTH5093 hSH5093 wH5093 => ?_)
    have mf5094 : MF K s.heap H5093 a0 [0, 1, 2, 3, 59, 62, 65, 70, 71, 72] := MF.fld hap wH5093 (by decide) (by decide) mf5087
    have g5095 : WD (avw K H5093 a0) := WD.congr (fun k hk j => av_fld hTH5048 ga0 hap wH5093 (by decide) (WD_ok 112 (by decide) k hk) (WD_ne 59 (by decide) k hk)) g5052
    have b5096 : UN (x1.toInt ≠ 0) (fun k => fI H5093 q4 k) (fun k => fI s.heap q4 k) := UN.congr (fun j => Wr.neI wH5093 (Or.inl (G_ne gq4 ga0 (by decide)))) b5058
    have b5097 : UN (x1.toInt ≠ 0) (fun k => fI H5093 q16 k) (fun k => fI s.heap q16 k) := UN.congr (fun j => Wr.neI wH5093 (Or.inl (G_ne gq16 ga0 (by decide)))) b5059
    have b5098 : UN (x1.toInt ≠ 0) (fun k => fI H5093 q24 k) (fun k => fI s.heap q24 k) := UN.congr (fun j => Wr.neI wH5093 (Or.inl (G_ne gq24 ga0 (by decide)))) b5060
    have b5099 : UN (x1.toInt ≠ 0) (fun k => fI H5093 q29 k) (fun k => fI s.heap q29 k) := UN.congr (fun j => Wr.neI wH5093 (Or.inl (G_ne gq29 ga0 (by decide)))) b5061
    have b5100 : UN (x1.toInt ≠ 0) (fun k => fI H5093 q30 k) (fun k => fI s.heap q30 k) := UN.congr (fun j => Wr.neI wH5093 (Or.inl (G_ne gq30 ga0 (by decide)))) b5062
    have b5101 : UN (x1.toInt ≠ 0) (fun k => fI H5093 q31 k) (fun k => fI s.heap q31 k) := UN.congr (fun j => Wr.neI wH5093 (Or.inl (G_ne gq31 ga0 (by decide)))) b5063
    have b5102 : UN (x1.toInt ≠ 0) (fun k => fI H5093 q32 k) (fun k => fI s.heap q32 k) := UN.congr (fun j => Wr.neI wH5093 (Or.inl (G_ne gq32 ga0 (by decide)))) b5064
    have b5103 : UN (x1.toInt ≠ 0) (fun k => fI H5093 q33 k) (fun k => fI s.heap q33 k) := UN.congr (fun j => Wr.neI wH5093 (Or.inl (G_ne gq33 ga0 (by decide)))) b5065
    have b5104 : UN (x1.toInt = 0) (fun k => fI H5093 iq k) (fun k => fI s.heap iq k) := UN.congr (fun j => Wr.neI wH5093 (Or.inl (G_ne giq ga0 (by decide)))) b5088
    have b5105 : x4806 = fI H5093 iq (0) := (b5089).trans (Wr.neI wH5093 (Or.inl (G_ne giq ga0 (by decide)))).symm
    have b5106 : x4885 = fI H5093 iq (1) := (b5090).trans (Wr.neI wH5093 (Or.inl (G_ne giq ga0 (by decide)))).symm
    have b5107 : x4966 = fI H5093 iq (2) := (b5091).trans (Wr.neI wH5093 (Or.inl (G_ne giq ga0 (by decide)))).symm
    have b5108 : x5049 = fI H5093 iq (3) := (p5092).trans (Wr.neI wH5093 (Or.inl (G_ne giq ga0 (by decide)))).symm
    have m5109 := m5051.trans (Wr.neR wH5093 (Or.inr (x_apart hKT hts inX10 tyX10 tyX10_ok nmX10 rfl 73 59 (by decide) (by decide) (by decide)))).symm
    have m5110 := m5067.trans (Wr.neR wH5093 (Or.inr (x_apart hKT hts inX10 tyX10 tyX10_ok nmX10 rfl 4 59 (by decide) (by decide) (by decide)))).symm
    have m5111 := m5068.trans (Wr.neR wH5093 (Or.inr (x_apart hKT hts inX10 tyX10 tyX10_ok nmX10 rfl 10 59 (by decide) (by decide) (by decide)))).symm
    have m5112 := m5069.trans (Wr.neR wH5093 (Or.inr (x_apart hKT hts inX10 tyX10 tyX10_ok nmX10 rfl 16 59 (by decide) (by decide) (by decide)))).symm
    have m5113 := m5070.trans (Wr.neR wH5093 (Or.inr (x_apart hKT hts inX10 tyX10 tyX10_ok nmX10 rfl 24 59 (by decide) (by decide) (by decide)))).symm
    have m5114 := m5071.trans (Wr.neR wH5093 (Or.inr (x_apart hKT hts inX10 tyX10 tyX10_ok nmX10 rfl 27 59 (by decide) (by decide) (by decide)))).symm
    have m5115 := m5072.trans (Wr.neR wH5093 (Or.inr (x_apart hKT hts inX10 tyX10 tyX10_ok nmX10 rfl 29 59 (by decide) (by decide) (by decide)))).symm
    have m5116 := m5073.trans (Wr.neR wH5093 (Or.inr (x_apart hKT hts inX10 tyX10 tyX10_ok nmX10 rfl 30 59 (by decide) (by decide) (by decide)))).symm
    have m5117 := m5074.trans (Wr.neR wH5093 (Or.inr (x_apart hKT hts inX10 tyX10 tyX10_ok nmX10 rfl 31 59 (by decide) (by decide) (by decide)))).symm
    have m5118 := m5075.trans (Wr.neR wH5093 (Or.inr (x_apart hKT hts inX10 tyX10 tyX10_ok nmX10 rfl 32 59 (by decide) (by decide) (by decide)))).symm
    have m5119 := m5076.trans (Wr.neR wH5093 (Or.inr (x_apart hKT hts inX10 tyX10 tyX10_ok nmX10 rfl 33 59 (by decide) (by decide) (by decide)))).symm
    have m5120 := m5077.trans (Wr.neR wH5093 (Or.inr (x_apart hKT hts inX10 tyX10 tyX10_ok nmX10 rfl 50 59 (by decide) (by decide) (by decide)))).symm
    have m5122 := m5079.trans (Wr.neI wH5093 (Or.inr (x_apart hKT hts inX10 tyX10 tyX10_ok nmX10 rfl 62 59 (by decide) (by decide) (by decide)))).symm
    have m5123 := m5080.trans (Wr.neI wH5093 (Or.inr (x_apart hKT hts inX10 tyX10 tyX10_ok nmX10 rfl 65 59 (by decide) (by decide) (by decide)))).symm
    have m5124 := (Wr.neI wH5093 (Or.inr (x_apart hKT hts inX10 tyX10 tyX10_ok nmX10 rfl 0 59 (by decide) (by decide) (by decide)))).trans m5081
    have m5125 := m5082.trans (Wr.neI wH5093 (Or.inr (x_apart hKT hts inX10 tyX10 tyX10_ok nmX10 rfl 71 59 (by decide) (by decide) (by decide)))).symm
    have m5126 := (Wr.neI wH5093 (Or.inr (x_apart hKT hts inX10 tyX10 tyX10_ok nmX10 rfl 70 59 (by decide) (by decide) (by decide)))).trans m5083
    have m5127 := m5084.trans (Wr.neI wH5093 (Or.inr (x_apart hKT hts inX10 tyX10 tyX10_ok nmX10 rfl 1 59 (by decide) (by decide) (by decide)))).symm
    have m5128 := m5085.trans (Wr.neI wH5093 (Or.inr (x_apart hKT hts inX10 tyX10 tyX10_ok nmX10 rfl 2 59 (by decide) (by decide) (by decide)))).symm
    have m5129 := m5086.trans (Wr.neI wH5093 (Or.inr (x_apart hKT hts inX10 tyX10 tyX10_ok nmX10 rfl 3 59 (by decide) (by decide) (by decide)))).symm
    have m5130 := ex5050.trans (Wr.neI wH5093 (Or.inr (x_apart hKT hts inX10 tyX10 tyX10_ok nmX10 rfl 72 59 (by decide) (by decide) (by decide)))).symm
    have m5131 := Wr.I wH5093
    have m5131 := m5131.symm
    clear b5058 b5059 b5060 b5061 b5062 b5063 b5064 b5065 b5088 b5089 b5090 b5091 ex5050 g5052 hTH5048 m5051 m5067 m5068 m5069 m5070 m5071 m5072 m5073 m5074 m5075 m5076 m5077 m5078 m5079 m5080 m5081 m5082 m5083 m5084 m5085 m5086 mf5087 p5092
    refine lv_aload_n hx hb dX10_image_81 rfl (lv_at hl 0 rfl) ?_
    refine lv_aload_n hx hb dX10_image_82 rfl (lv_at hl 0 rfl) ?_
    refine lv_aload_n hx hb dX10_image_83 rfl (lv_at hl 0 rfl) ?_
    refine x_gi C hTH5093 (ci := 10) (k := 62) rfl inX10 (by decide) wF_X10_455 ga0 rg_112 rfl dX10_image_84 (fun x5132 ex5132 bx5132 => ?_)
    have ux5132 : s62 = x5132 := (m5122).trans ex5132.symm
    subst ux5132
    refine x_V (As := [.int s62]) (rest := [.ref a0]) C (a_X10_kept l K G H5093 (s62) (x5050) (x1) hTH5093 ga0 giq m5109 m5130 m5125 g5095 (by and_intros <;> first | assumption | omega)) yo_X10_kept wM_X10_473 ⟨⟨by decide, by decide⟩, by decide, by decide⟩ (x_rv C hTH5093 (ci := 10) rfl ga0 rg_112) rfl hl.1 rfl (Nat.le_of_ble_eq_true rfl) dX10_image_87 hSH5093 (AE_sub (fun _ _ => rfl) (by decide) hSH5093.1) (fun vH5133 H5133 locsH5133 pH5133 zH5133 kH5133 hSH5133 => ?_)
    obtain ⟨x5134, x5135, hvH5133, ex5135, hrH5133, m5136, g5137, mf5138, m5139, m5140, m5141, m5142, hTH5133⟩ := pH5133
    subst hvH5133
    clear zH5133
    replace m5136 := EQN.mk m5136
    have b5143 : UN (x1.toInt ≠ 0) (fun k => fI H5133 q4 k) (fun k => fI s.heap q4 k) := UN.congr (fun j => fI_kept (x_lt hTH5093 kH5133 gq4 (by decide))) b5096
    have b5144 : UN (x1.toInt ≠ 0) (fun k => fI H5133 q16 k) (fun k => fI s.heap q16 k) := UN.congr (fun j => fI_kept (x_lt hTH5093 kH5133 gq16 (by decide))) b5097
    have b5145 : UN (x1.toInt ≠ 0) (fun k => fI H5133 q24 k) (fun k => fI s.heap q24 k) := UN.congr (fun j => fI_kept (x_lt hTH5093 kH5133 gq24 (by decide))) b5098
    have b5146 : UN (x1.toInt ≠ 0) (fun k => fI H5133 q29 k) (fun k => fI s.heap q29 k) := UN.congr (fun j => fI_kept (x_lt hTH5093 kH5133 gq29 (by decide))) b5099
    have b5147 : UN (x1.toInt ≠ 0) (fun k => fI H5133 q30 k) (fun k => fI s.heap q30 k) := UN.congr (fun j => fI_kept (x_lt hTH5093 kH5133 gq30 (by decide))) b5100
    have b5148 : UN (x1.toInt ≠ 0) (fun k => fI H5133 q31 k) (fun k => fI s.heap q31 k) := UN.congr (fun j => fI_kept (x_lt hTH5093 kH5133 gq31 (by decide))) b5101
    have b5149 : UN (x1.toInt ≠ 0) (fun k => fI H5133 q32 k) (fun k => fI s.heap q32 k) := UN.congr (fun j => fI_kept (x_lt hTH5093 kH5133 gq32 (by decide))) b5102
    have b5150 : UN (x1.toInt ≠ 0) (fun k => fI H5133 q33 k) (fun k => fI s.heap q33 k) := UN.congr (fun j => fI_kept (x_lt hTH5093 kH5133 gq33 (by decide))) b5103
    have m5151 := (m5109).trans (MF.r mf5138 (k := 73) (by decide) (by decide)).symm
    have m5152 := (m5110).trans (MF.r mf5138 (k := 4) (by decide) (by decide)).symm
    have m5153 := (m5111).trans (MF.r mf5138 (k := 10) (by decide) (by decide)).symm
    have m5154 := (m5112).trans (MF.r mf5138 (k := 16) (by decide) (by decide)).symm
    have m5155 := (m5113).trans (MF.r mf5138 (k := 24) (by decide) (by decide)).symm
    have m5156 := (m5114).trans (MF.r mf5138 (k := 27) (by decide) (by decide)).symm
    have m5157 := (m5115).trans (MF.r mf5138 (k := 29) (by decide) (by decide)).symm
    have m5158 := (m5116).trans (MF.r mf5138 (k := 30) (by decide) (by decide)).symm
    have m5159 := (m5117).trans (MF.r mf5138 (k := 31) (by decide) (by decide)).symm
    have m5160 := (m5118).trans (MF.r mf5138 (k := 32) (by decide) (by decide)).symm
    have m5161 := (m5119).trans (MF.r mf5138 (k := 33) (by decide) (by decide)).symm
    have m5162 := (m5120).trans (MF.r mf5138 (k := 50) (by decide) (by decide)).symm
    have m5163 := (m5122).trans (MF.i mf5138 (k := 62) (by decide) (by decide)).symm
    have m5164 := (m5123).trans (MF.i mf5138 (k := 65) (by decide) (by decide)).symm
    have m5165 := (MF.i mf5138 (k := 0) (by decide) (by decide)).trans m5124
    have m5166 := (m5125).trans (MF.i mf5138 (k := 71) (by decide) (by decide)).symm
    have m5167 := (MF.i mf5138 (k := 70) (by decide) (by decide)).trans m5126
    have m5168 := (m5127).trans (MF.i mf5138 (k := 1) (by decide) (by decide)).symm
    have m5169 := (m5128).trans (MF.i mf5138 (k := 2) (by decide) (by decide)).symm
    have m5170 := (m5129).trans (MF.i mf5138 (k := 3) (by decide) (by decide)).symm
    have m5171 := (m5131).trans (MF.i mf5138 (k := 59) (by decide) (by decide)).symm
    have mf5172 : MF K s.heap H5133 a0 [0, 1, 2, 3, 59, 62, 65, 70, 71, 72] := MF.trans mf5094 mf5138 (by decide)
    have bx5135 := ty_fi (x := x5135) (k := 72) ex5135 hTH5133 ga0 rg_112 rfl
    have ce_x5050 := i_cl (x := x5050) (by omega)
    have b5173 : UN (x1.toInt = 0) (fun k => fI H5133 iq k) (fun k => fI s.heap iq k) := UN.tr m5142 b5104
    have b5174 : x4806 = fI H5133 iq (0) := (b5105).trans (m5141 _ (by omega)).symm
    have b5175 : x4885 = fI H5133 iq (1) := (b5106).trans (m5141 _ (by omega)).symm
    have b5176 : x4966 = fI H5133 iq (2) := (b5107).trans (m5141 _ (by omega)).symm
    have b5177 : x5049 = fI H5133 iq (3) := (b5108).trans (m5141 _ (by omega)).symm
    clear b5096 b5097 b5098 b5099 b5100 b5101 b5102 b5103 b5104 b5105 b5106 b5107 b5108 m5109 m5110 m5111 m5112 m5113 m5114 m5115 m5116 m5117 m5118 m5119 m5120 m5122 m5123 m5124 m5125 m5126 m5127 m5128 m5129 m5130 m5131
    clear m5141 m5142
    have bx5134 : 0 ≤ x5134.toInt ∧ x5134.toInt ≤ 8 := kr (fun h0 => by have hiw := hIW; exact kr0 (w := fun k => fI H5133 iq k) m5139 (p := 4) (by omega) (b5173 h0) (hiw.1.2.2.2.1)) m5140 (by omega)
    have p5178 : x5134 = fI H5133 iq (4) := by have h := m5139; rw [show x5050.toNatClampNeg = 4 by omega] at h; exact h
    refine W.eq (g2 := F0 m 90 ls [.int x5134, .ref a0]) rfl ?_
    refine x_put C hTH5133 hSH5133 (ci := 10) (k := 62) (v := .int x5134) (ty0 := tyX10) rfl inX10 tyX10_ok nmX10 (by decide) rfl wF_X10_455 ga0 rg_112 rfl rfl (okI (by have := i_rng x5134; omega) (by have := i_rng x5134; omega)) rfl rfl (AE_in ga0 (by decide)) dX10_image_90 (fun H5179 locsH5179 hTH5179 hSH5179 wH5179 => ?_)
    have mf5180 : MF K s.heap H5179 a0 [0, 1, 2, 3, 59, 62, 65, 70, 71, 72] := MF.fld hap wH5179 (by decide) (by decide) mf5172
    have g5181 : WD (avw K H5179 a0) := WD.congr (fun k hk j => av_fld hTH5133 ga0 hap wH5179 (by decide) (WD_ok 112 (by decide) k hk) (WD_ne 62 (by decide) k hk)) g5137
    have b5182 : UN (x1.toInt ≠ 0) (fun k => fI H5179 q4 k) (fun k => fI s.heap q4 k) := UN.congr (fun j => Wr.neI wH5179 (Or.inl (G_ne gq4 ga0 (by decide)))) b5143
    have b5183 : UN (x1.toInt ≠ 0) (fun k => fI H5179 q16 k) (fun k => fI s.heap q16 k) := UN.congr (fun j => Wr.neI wH5179 (Or.inl (G_ne gq16 ga0 (by decide)))) b5144
    have b5184 : UN (x1.toInt ≠ 0) (fun k => fI H5179 q24 k) (fun k => fI s.heap q24 k) := UN.congr (fun j => Wr.neI wH5179 (Or.inl (G_ne gq24 ga0 (by decide)))) b5145
    have b5185 : UN (x1.toInt ≠ 0) (fun k => fI H5179 q29 k) (fun k => fI s.heap q29 k) := UN.congr (fun j => Wr.neI wH5179 (Or.inl (G_ne gq29 ga0 (by decide)))) b5146
    have b5186 : UN (x1.toInt ≠ 0) (fun k => fI H5179 q30 k) (fun k => fI s.heap q30 k) := UN.congr (fun j => Wr.neI wH5179 (Or.inl (G_ne gq30 ga0 (by decide)))) b5147
    have b5187 : UN (x1.toInt ≠ 0) (fun k => fI H5179 q31 k) (fun k => fI s.heap q31 k) := UN.congr (fun j => Wr.neI wH5179 (Or.inl (G_ne gq31 ga0 (by decide)))) b5148
    have b5188 : UN (x1.toInt ≠ 0) (fun k => fI H5179 q32 k) (fun k => fI s.heap q32 k) := UN.congr (fun j => Wr.neI wH5179 (Or.inl (G_ne gq32 ga0 (by decide)))) b5149
    have b5189 : UN (x1.toInt ≠ 0) (fun k => fI H5179 q33 k) (fun k => fI s.heap q33 k) := UN.congr (fun j => Wr.neI wH5179 (Or.inl (G_ne gq33 ga0 (by decide)))) b5150
    have b5190 : UN (x1.toInt = 0) (fun k => fI H5179 iq k) (fun k => fI s.heap iq k) := UN.congr (fun j => Wr.neI wH5179 (Or.inl (G_ne giq ga0 (by decide)))) b5173
    have b5191 : x4806 = fI H5179 iq (0) := (b5174).trans (Wr.neI wH5179 (Or.inl (G_ne giq ga0 (by decide)))).symm
    have b5192 : x4885 = fI H5179 iq (1) := (b5175).trans (Wr.neI wH5179 (Or.inl (G_ne giq ga0 (by decide)))).symm
    have b5193 : x4966 = fI H5179 iq (2) := (b5176).trans (Wr.neI wH5179 (Or.inl (G_ne giq ga0 (by decide)))).symm
    have b5194 : x5049 = fI H5179 iq (3) := (b5177).trans (Wr.neI wH5179 (Or.inl (G_ne giq ga0 (by decide)))).symm
    have b5195 : x5134 = fI H5179 iq (4) := (p5178).trans (Wr.neI wH5179 (Or.inl (G_ne giq ga0 (by decide)))).symm
    have m5196 := m5136.trans (Wr.neR wH5179 (Or.inr (x_apart hKT hts inX10 tyX10 tyX10_ok nmX10 rfl 73 62 (by decide) (by decide) (by decide)))).symm
    have m5197 := m5152.trans (Wr.neR wH5179 (Or.inr (x_apart hKT hts inX10 tyX10 tyX10_ok nmX10 rfl 4 62 (by decide) (by decide) (by decide)))).symm
    have m5198 := m5153.trans (Wr.neR wH5179 (Or.inr (x_apart hKT hts inX10 tyX10 tyX10_ok nmX10 rfl 10 62 (by decide) (by decide) (by decide)))).symm
    have m5199 := m5154.trans (Wr.neR wH5179 (Or.inr (x_apart hKT hts inX10 tyX10 tyX10_ok nmX10 rfl 16 62 (by decide) (by decide) (by decide)))).symm
    have m5200 := m5155.trans (Wr.neR wH5179 (Or.inr (x_apart hKT hts inX10 tyX10 tyX10_ok nmX10 rfl 24 62 (by decide) (by decide) (by decide)))).symm
    have m5201 := m5156.trans (Wr.neR wH5179 (Or.inr (x_apart hKT hts inX10 tyX10 tyX10_ok nmX10 rfl 27 62 (by decide) (by decide) (by decide)))).symm
    have m5202 := m5157.trans (Wr.neR wH5179 (Or.inr (x_apart hKT hts inX10 tyX10 tyX10_ok nmX10 rfl 29 62 (by decide) (by decide) (by decide)))).symm
    have m5203 := m5158.trans (Wr.neR wH5179 (Or.inr (x_apart hKT hts inX10 tyX10 tyX10_ok nmX10 rfl 30 62 (by decide) (by decide) (by decide)))).symm
    have m5204 := m5159.trans (Wr.neR wH5179 (Or.inr (x_apart hKT hts inX10 tyX10 tyX10_ok nmX10 rfl 31 62 (by decide) (by decide) (by decide)))).symm
    have m5205 := m5160.trans (Wr.neR wH5179 (Or.inr (x_apart hKT hts inX10 tyX10 tyX10_ok nmX10 rfl 32 62 (by decide) (by decide) (by decide)))).symm
    have m5206 := m5161.trans (Wr.neR wH5179 (Or.inr (x_apart hKT hts inX10 tyX10 tyX10_ok nmX10 rfl 33 62 (by decide) (by decide) (by decide)))).symm
    have m5207 := m5162.trans (Wr.neR wH5179 (Or.inr (x_apart hKT hts inX10 tyX10 tyX10_ok nmX10 rfl 50 62 (by decide) (by decide) (by decide)))).symm
    have m5209 := m5164.trans (Wr.neI wH5179 (Or.inr (x_apart hKT hts inX10 tyX10 tyX10_ok nmX10 rfl 65 62 (by decide) (by decide) (by decide)))).symm
    have m5210 := (Wr.neI wH5179 (Or.inr (x_apart hKT hts inX10 tyX10 tyX10_ok nmX10 rfl 0 62 (by decide) (by decide) (by decide)))).trans m5165
    have m5211 := m5166.trans (Wr.neI wH5179 (Or.inr (x_apart hKT hts inX10 tyX10 tyX10_ok nmX10 rfl 71 62 (by decide) (by decide) (by decide)))).symm
    have m5212 := (Wr.neI wH5179 (Or.inr (x_apart hKT hts inX10 tyX10 tyX10_ok nmX10 rfl 70 62 (by decide) (by decide) (by decide)))).trans m5167
    have m5213 := m5168.trans (Wr.neI wH5179 (Or.inr (x_apart hKT hts inX10 tyX10 tyX10_ok nmX10 rfl 1 62 (by decide) (by decide) (by decide)))).symm
    have m5214 := m5169.trans (Wr.neI wH5179 (Or.inr (x_apart hKT hts inX10 tyX10 tyX10_ok nmX10 rfl 2 62 (by decide) (by decide) (by decide)))).symm
    have m5215 := m5170.trans (Wr.neI wH5179 (Or.inr (x_apart hKT hts inX10 tyX10 tyX10_ok nmX10 rfl 3 62 (by decide) (by decide) (by decide)))).symm
    have m5216 := m5171.trans (Wr.neI wH5179 (Or.inr (x_apart hKT hts inX10 tyX10 tyX10_ok nmX10 rfl 59 62 (by decide) (by decide) (by decide)))).symm
    have m5217 := ex5135.trans (Wr.neI wH5179 (Or.inr (x_apart hKT hts inX10 tyX10 tyX10_ok nmX10 rfl 72 62 (by decide) (by decide) (by decide)))).symm
    have m5218 := Wr.I wH5179
    have m5218 := m5218.symm
    clear b5143 b5144 b5145 b5146 b5147 b5148 b5149 b5150 b5173 b5174 b5175 b5176 b5177 ex5135 g5137 hTH5133 m5136 m5152 m5153 m5154 m5155 m5156 m5157 m5158 m5159 m5160 m5161 m5162 m5163 m5164 m5165 m5166 m5167 m5168 m5169 m5170 m5171 mf5172 p5178
    refine lv_aload_n hx hb dX10_image_93 rfl (lv_at hl 0 rfl) ?_
    refine lv_aload_n hx hb dX10_image_94 rfl (lv_at hl 0 rfl) ?_
    refine lv_aload_n hx hb dX10_image_95 rfl (lv_at hl 0 rfl) ?_
    refine x_gi C hTH5179 (ci := 10) (k := 65) rfl inX10 (by decide) wF_X10_458 ga0 rg_112 rfl dX10_image_96 (fun x5219 ex5219 bx5219 => ?_)
    have ux5219 : s65 = x5219 := (m5209).trans ex5219.symm
    subst ux5219
    refine x_V (As := [.int s65]) (rest := [.ref a0]) C (a_X10_kept l K G H5179 (s65) (x5135) (x1) hTH5179 ga0 giq m5196 m5217 m5211 g5181 (by and_intros <;> first | assumption | omega)) yo_X10_kept wM_X10_473 ⟨⟨by decide, by decide⟩, by decide, by decide⟩ (x_rv C hTH5179 (ci := 10) rfl ga0 rg_112) rfl hl.1 rfl (Nat.le_of_ble_eq_true rfl) dX10_image_99 hSH5179 (AE_sub (fun _ _ => rfl) (by decide) hSH5179.1) (fun vH5220 H5220 locsH5220 pH5220 zH5220 kH5220 hSH5220 => ?_)
    obtain ⟨x5221, x5222, hvH5220, ex5222, hrH5220, m5223, g5224, mf5225, m5226, m5227, m5228, m5229, hTH5220⟩ := pH5220
    subst hvH5220
    clear zH5220
    replace m5223 := EQN.mk m5223
    have b5230 : UN (x1.toInt ≠ 0) (fun k => fI H5220 q4 k) (fun k => fI s.heap q4 k) := UN.congr (fun j => fI_kept (x_lt hTH5179 kH5220 gq4 (by decide))) b5182
    have b5231 : UN (x1.toInt ≠ 0) (fun k => fI H5220 q16 k) (fun k => fI s.heap q16 k) := UN.congr (fun j => fI_kept (x_lt hTH5179 kH5220 gq16 (by decide))) b5183
    have b5232 : UN (x1.toInt ≠ 0) (fun k => fI H5220 q24 k) (fun k => fI s.heap q24 k) := UN.congr (fun j => fI_kept (x_lt hTH5179 kH5220 gq24 (by decide))) b5184
    have b5233 : UN (x1.toInt ≠ 0) (fun k => fI H5220 q29 k) (fun k => fI s.heap q29 k) := UN.congr (fun j => fI_kept (x_lt hTH5179 kH5220 gq29 (by decide))) b5185
    have b5234 : UN (x1.toInt ≠ 0) (fun k => fI H5220 q30 k) (fun k => fI s.heap q30 k) := UN.congr (fun j => fI_kept (x_lt hTH5179 kH5220 gq30 (by decide))) b5186
    have b5235 : UN (x1.toInt ≠ 0) (fun k => fI H5220 q31 k) (fun k => fI s.heap q31 k) := UN.congr (fun j => fI_kept (x_lt hTH5179 kH5220 gq31 (by decide))) b5187
    have b5236 : UN (x1.toInt ≠ 0) (fun k => fI H5220 q32 k) (fun k => fI s.heap q32 k) := UN.congr (fun j => fI_kept (x_lt hTH5179 kH5220 gq32 (by decide))) b5188
    have b5237 : UN (x1.toInt ≠ 0) (fun k => fI H5220 q33 k) (fun k => fI s.heap q33 k) := UN.congr (fun j => fI_kept (x_lt hTH5179 kH5220 gq33 (by decide))) b5189
    have m5238 := (m5196).trans (MF.r mf5225 (k := 73) (by decide) (by decide)).symm
    have m5239 := (m5197).trans (MF.r mf5225 (k := 4) (by decide) (by decide)).symm
    have m5240 := (m5198).trans (MF.r mf5225 (k := 10) (by decide) (by decide)).symm
    have m5241 := (m5199).trans (MF.r mf5225 (k := 16) (by decide) (by decide)).symm
    have m5242 := (m5200).trans (MF.r mf5225 (k := 24) (by decide) (by decide)).symm
    have m5243 := (m5201).trans (MF.r mf5225 (k := 27) (by decide) (by decide)).symm
    have m5244 := (m5202).trans (MF.r mf5225 (k := 29) (by decide) (by decide)).symm
    have m5245 := (m5203).trans (MF.r mf5225 (k := 30) (by decide) (by decide)).symm
    have m5246 := (m5204).trans (MF.r mf5225 (k := 31) (by decide) (by decide)).symm
    have m5247 := (m5205).trans (MF.r mf5225 (k := 32) (by decide) (by decide)).symm
    have m5248 := (m5206).trans (MF.r mf5225 (k := 33) (by decide) (by decide)).symm
    have m5249 := (m5207).trans (MF.r mf5225 (k := 50) (by decide) (by decide)).symm
    have m5250 := (m5209).trans (MF.i mf5225 (k := 65) (by decide) (by decide)).symm
    have m5251 := (MF.i mf5225 (k := 0) (by decide) (by decide)).trans m5210
    have m5252 := (m5211).trans (MF.i mf5225 (k := 71) (by decide) (by decide)).symm
    have m5253 := (MF.i mf5225 (k := 70) (by decide) (by decide)).trans m5212
    have m5254 := (m5213).trans (MF.i mf5225 (k := 1) (by decide) (by decide)).symm
    have m5255 := (m5214).trans (MF.i mf5225 (k := 2) (by decide) (by decide)).symm
    have m5256 := (m5215).trans (MF.i mf5225 (k := 3) (by decide) (by decide)).symm
    have m5257 := (m5216).trans (MF.i mf5225 (k := 59) (by decide) (by decide)).symm
    have m5258 := (m5218).trans (MF.i mf5225 (k := 62) (by decide) (by decide)).symm
    have mf5259 : MF K s.heap H5220 a0 [0, 1, 2, 3, 59, 62, 65, 70, 71, 72] := MF.trans mf5180 mf5225 (by decide)
    have bx5222 := ty_fi (x := x5222) (k := 72) ex5222 hTH5220 ga0 rg_112 rfl
    have ce_x5135 := i_cl (x := x5135) (by omega)
    have b5260 : UN (x1.toInt = 0) (fun k => fI H5220 iq k) (fun k => fI s.heap iq k) := UN.tr m5229 b5190
    have b5261 : x4806 = fI H5220 iq (0) := (b5191).trans (m5228 _ (by omega)).symm
    have b5262 : x4885 = fI H5220 iq (1) := (b5192).trans (m5228 _ (by omega)).symm
    have b5263 : x4966 = fI H5220 iq (2) := (b5193).trans (m5228 _ (by omega)).symm
    have b5264 : x5049 = fI H5220 iq (3) := (b5194).trans (m5228 _ (by omega)).symm
    have b5265 : x5134 = fI H5220 iq (4) := (b5195).trans (m5228 _ (by omega)).symm
    clear b5182 b5183 b5184 b5185 b5186 b5187 b5188 b5189 b5190 b5191 b5192 b5193 b5194 b5195 m5196 m5197 m5198 m5199 m5200 m5201 m5202 m5203 m5204 m5205 m5206 m5207 m5209 m5210 m5211 m5212 m5213 m5214 m5215 m5216 m5217 m5218
    clear m5228 m5229
    have bx5221 : 0 ≤ x5221.toInt ∧ x5221.toInt ≤ 8 := kr (fun h0 => by have hiw := hIW; exact kr0 (w := fun k => fI H5220 iq k) m5226 (p := 5) (by omega) (b5260 h0) (hiw.1.2.2.2.2)) m5227 (by omega)
    have p5266 : x5221 = fI H5220 iq (5) := by have h := m5226; rw [show x5135.toNatClampNeg = 5 by omega] at h; exact h
    refine W.eq (g2 := F0 m 102 ls [.int x5221, .ref a0]) rfl ?_
    refine x_put C hTH5220 hSH5220 (ci := 10) (k := 65) (v := .int x5221) (ty0 := tyX10) rfl inX10 tyX10_ok nmX10 (by decide) rfl wF_X10_458 ga0 rg_112 rfl rfl (okI (by have := i_rng x5221; omega) (by have := i_rng x5221; omega)) rfl rfl (AE_in ga0 (by decide)) dX10_image_102 (fun H5267 locsH5267 hTH5267 hSH5267 wH5267 => ?_)
    have mf5268 : MF K s.heap H5267 a0 [0, 1, 2, 3, 59, 62, 65, 70, 71, 72] := MF.fld hap wH5267 (by decide) (by decide) mf5259
    have g5269 : WD (avw K H5267 a0) := WD.congr (fun k hk j => av_fld hTH5220 ga0 hap wH5267 (by decide) (WD_ok 112 (by decide) k hk) (WD_ne 65 (by decide) k hk)) g5224
    have b5270 : UN (x1.toInt ≠ 0) (fun k => fI H5267 q4 k) (fun k => fI s.heap q4 k) := UN.congr (fun j => Wr.neI wH5267 (Or.inl (G_ne gq4 ga0 (by decide)))) b5230
    have b5271 : UN (x1.toInt ≠ 0) (fun k => fI H5267 q16 k) (fun k => fI s.heap q16 k) := UN.congr (fun j => Wr.neI wH5267 (Or.inl (G_ne gq16 ga0 (by decide)))) b5231
    have b5272 : UN (x1.toInt ≠ 0) (fun k => fI H5267 q24 k) (fun k => fI s.heap q24 k) := UN.congr (fun j => Wr.neI wH5267 (Or.inl (G_ne gq24 ga0 (by decide)))) b5232
    have b5273 : UN (x1.toInt ≠ 0) (fun k => fI H5267 q29 k) (fun k => fI s.heap q29 k) := UN.congr (fun j => Wr.neI wH5267 (Or.inl (G_ne gq29 ga0 (by decide)))) b5233
    have b5274 : UN (x1.toInt ≠ 0) (fun k => fI H5267 q30 k) (fun k => fI s.heap q30 k) := UN.congr (fun j => Wr.neI wH5267 (Or.inl (G_ne gq30 ga0 (by decide)))) b5234
    have b5275 : UN (x1.toInt ≠ 0) (fun k => fI H5267 q31 k) (fun k => fI s.heap q31 k) := UN.congr (fun j => Wr.neI wH5267 (Or.inl (G_ne gq31 ga0 (by decide)))) b5235
    have b5276 : UN (x1.toInt ≠ 0) (fun k => fI H5267 q32 k) (fun k => fI s.heap q32 k) := UN.congr (fun j => Wr.neI wH5267 (Or.inl (G_ne gq32 ga0 (by decide)))) b5236
    have b5277 : UN (x1.toInt ≠ 0) (fun k => fI H5267 q33 k) (fun k => fI s.heap q33 k) := UN.congr (fun j => Wr.neI wH5267 (Or.inl (G_ne gq33 ga0 (by decide)))) b5237
    have b5278 : UN (x1.toInt = 0) (fun k => fI H5267 iq k) (fun k => fI s.heap iq k) := UN.congr (fun j => Wr.neI wH5267 (Or.inl (G_ne giq ga0 (by decide)))) b5260
    have b5279 : x4806 = fI H5267 iq (0) := (b5261).trans (Wr.neI wH5267 (Or.inl (G_ne giq ga0 (by decide)))).symm
    have b5280 : x4885 = fI H5267 iq (1) := (b5262).trans (Wr.neI wH5267 (Or.inl (G_ne giq ga0 (by decide)))).symm
    have b5281 : x4966 = fI H5267 iq (2) := (b5263).trans (Wr.neI wH5267 (Or.inl (G_ne giq ga0 (by decide)))).symm
    have b5282 : x5049 = fI H5267 iq (3) := (b5264).trans (Wr.neI wH5267 (Or.inl (G_ne giq ga0 (by decide)))).symm
    have b5283 : x5134 = fI H5267 iq (4) := (b5265).trans (Wr.neI wH5267 (Or.inl (G_ne giq ga0 (by decide)))).symm
    have b5284 : x5221 = fI H5267 iq (5) := (p5266).trans (Wr.neI wH5267 (Or.inl (G_ne giq ga0 (by decide)))).symm
    have m5285 := m5223.trans (Wr.neR wH5267 (Or.inr (x_apart hKT hts inX10 tyX10 tyX10_ok nmX10 rfl 73 65 (by decide) (by decide) (by decide)))).symm
    have m5286 := m5239.trans (Wr.neR wH5267 (Or.inr (x_apart hKT hts inX10 tyX10 tyX10_ok nmX10 rfl 4 65 (by decide) (by decide) (by decide)))).symm
    have m5287 := m5240.trans (Wr.neR wH5267 (Or.inr (x_apart hKT hts inX10 tyX10 tyX10_ok nmX10 rfl 10 65 (by decide) (by decide) (by decide)))).symm
    have m5288 := m5241.trans (Wr.neR wH5267 (Or.inr (x_apart hKT hts inX10 tyX10 tyX10_ok nmX10 rfl 16 65 (by decide) (by decide) (by decide)))).symm
    have m5289 := m5242.trans (Wr.neR wH5267 (Or.inr (x_apart hKT hts inX10 tyX10 tyX10_ok nmX10 rfl 24 65 (by decide) (by decide) (by decide)))).symm
    have m5290 := m5243.trans (Wr.neR wH5267 (Or.inr (x_apart hKT hts inX10 tyX10 tyX10_ok nmX10 rfl 27 65 (by decide) (by decide) (by decide)))).symm
    have m5291 := m5244.trans (Wr.neR wH5267 (Or.inr (x_apart hKT hts inX10 tyX10 tyX10_ok nmX10 rfl 29 65 (by decide) (by decide) (by decide)))).symm
    have m5292 := m5245.trans (Wr.neR wH5267 (Or.inr (x_apart hKT hts inX10 tyX10 tyX10_ok nmX10 rfl 30 65 (by decide) (by decide) (by decide)))).symm
    have m5293 := m5246.trans (Wr.neR wH5267 (Or.inr (x_apart hKT hts inX10 tyX10 tyX10_ok nmX10 rfl 31 65 (by decide) (by decide) (by decide)))).symm
    have m5294 := m5247.trans (Wr.neR wH5267 (Or.inr (x_apart hKT hts inX10 tyX10 tyX10_ok nmX10 rfl 32 65 (by decide) (by decide) (by decide)))).symm
    have m5295 := m5248.trans (Wr.neR wH5267 (Or.inr (x_apart hKT hts inX10 tyX10 tyX10_ok nmX10 rfl 33 65 (by decide) (by decide) (by decide)))).symm
    have m5296 := m5249.trans (Wr.neR wH5267 (Or.inr (x_apart hKT hts inX10 tyX10 tyX10_ok nmX10 rfl 50 65 (by decide) (by decide) (by decide)))).symm
    have m5298 := (Wr.neI wH5267 (Or.inr (x_apart hKT hts inX10 tyX10 tyX10_ok nmX10 rfl 0 65 (by decide) (by decide) (by decide)))).trans m5251
    have m5299 := m5252.trans (Wr.neI wH5267 (Or.inr (x_apart hKT hts inX10 tyX10 tyX10_ok nmX10 rfl 71 65 (by decide) (by decide) (by decide)))).symm
    have m5300 := (Wr.neI wH5267 (Or.inr (x_apart hKT hts inX10 tyX10 tyX10_ok nmX10 rfl 70 65 (by decide) (by decide) (by decide)))).trans m5253
    have m5301 := m5254.trans (Wr.neI wH5267 (Or.inr (x_apart hKT hts inX10 tyX10 tyX10_ok nmX10 rfl 1 65 (by decide) (by decide) (by decide)))).symm
    have m5302 := m5255.trans (Wr.neI wH5267 (Or.inr (x_apart hKT hts inX10 tyX10 tyX10_ok nmX10 rfl 2 65 (by decide) (by decide) (by decide)))).symm
    have m5303 := m5256.trans (Wr.neI wH5267 (Or.inr (x_apart hKT hts inX10 tyX10 tyX10_ok nmX10 rfl 3 65 (by decide) (by decide) (by decide)))).symm
    have m5304 := m5257.trans (Wr.neI wH5267 (Or.inr (x_apart hKT hts inX10 tyX10 tyX10_ok nmX10 rfl 59 65 (by decide) (by decide) (by decide)))).symm
    have m5305 := m5258.trans (Wr.neI wH5267 (Or.inr (x_apart hKT hts inX10 tyX10 tyX10_ok nmX10 rfl 62 65 (by decide) (by decide) (by decide)))).symm
    have m5306 := ex5222.trans (Wr.neI wH5267 (Or.inr (x_apart hKT hts inX10 tyX10 tyX10_ok nmX10 rfl 72 65 (by decide) (by decide) (by decide)))).symm
    have m5307 := Wr.I wH5267
    have m5307 := m5307.symm
    clear b5230 b5231 b5232 b5233 b5234 b5235 b5236 b5237 b5260 b5261 b5262 b5263 b5264 b5265 ex5222 g5224 hTH5220 m5223 m5239 m5240 m5241 m5242 m5243 m5244 m5245 m5246 m5247 m5248 m5249 m5250 m5251 m5252 m5253 m5254 m5255 m5256 m5257 m5258 mf5259 p5266
    refine lv_aload_n hx hb dX10_image_105 rfl (lv_at hl 0 rfl) ?_
    refine x_V (As := []) (rest := []) C (a_X10_keepsBars l K G H5267 (x5222) (x1) hTH5267 ga0 giq m5285 gq4 m5286 gq10 m5287 gq16 m5288 gq50 m5296 m5306 m5299 g5269 (by and_intros <;> first | assumption | omega) (fun h0 => IMw.congr (b5278 h0) hIW)) yo_X10_keepsBars wM_X10_479 ⟨⟨by decide, by decide⟩, by decide, by decide⟩ (x_rv C hTH5267 (ci := 10) rfl ga0 rg_112) rfl hl.1 rfl (Nat.le_of_ble_eq_true rfl) dX10_image_106 hSH5267 (AE_sub (fun _ _ => rfl) (by decide) hSH5267.1) (fun vH5308 H5308 locsH5308 pH5308 zH5308 kH5308 hSH5308 => ?_)
    obtain ⟨x5309, hvH5308, ex5309, hrH5308, m5310, m5311, m5312, m5313, m5314, g5315, mf5316, m5317, m5318, m5319, m5320, m5321, m5322, m5323, m5324, hTH5308⟩ := pH5308
    subst hvH5308
    clear zH5308
    replace m5310 := EQN.mk m5310
    replace m5311 := EQN.mk m5311
    replace m5312 := EQN.mk m5312
    replace m5313 := EQN.mk m5313
    replace m5314 := EQN.mk m5314
    have b5325 : UN (x1.toInt ≠ 0) (fun k => fI H5308 q24 k) (fun k => fI s.heap q24 k) := UN.congr (fun j => fI_kept (x_lt hTH5267 kH5308 gq24 (by decide))) b5272
    have b5326 : UN (x1.toInt ≠ 0) (fun k => fI H5308 q29 k) (fun k => fI s.heap q29 k) := UN.congr (fun j => fI_kept (x_lt hTH5267 kH5308 gq29 (by decide))) b5273
    have b5327 : UN (x1.toInt ≠ 0) (fun k => fI H5308 q30 k) (fun k => fI s.heap q30 k) := UN.congr (fun j => fI_kept (x_lt hTH5267 kH5308 gq30 (by decide))) b5274
    have b5328 : UN (x1.toInt ≠ 0) (fun k => fI H5308 q31 k) (fun k => fI s.heap q31 k) := UN.congr (fun j => fI_kept (x_lt hTH5267 kH5308 gq31 (by decide))) b5275
    have b5329 : UN (x1.toInt ≠ 0) (fun k => fI H5308 q32 k) (fun k => fI s.heap q32 k) := UN.congr (fun j => fI_kept (x_lt hTH5267 kH5308 gq32 (by decide))) b5276
    have b5330 : UN (x1.toInt ≠ 0) (fun k => fI H5308 q33 k) (fun k => fI s.heap q33 k) := UN.congr (fun j => fI_kept (x_lt hTH5267 kH5308 gq33 (by decide))) b5277
    have m5331 := (m5285).trans (MF.r mf5316 (k := 73) (by decide) (by decide)).symm
    have m5332 := (m5286).trans (MF.r mf5316 (k := 4) (by decide) (by decide)).symm
    have m5333 := (m5287).trans (MF.r mf5316 (k := 10) (by decide) (by decide)).symm
    have m5334 := (m5288).trans (MF.r mf5316 (k := 16) (by decide) (by decide)).symm
    have m5335 := (m5289).trans (MF.r mf5316 (k := 24) (by decide) (by decide)).symm
    have m5336 := (m5290).trans (MF.r mf5316 (k := 27) (by decide) (by decide)).symm
    have m5337 := (m5291).trans (MF.r mf5316 (k := 29) (by decide) (by decide)).symm
    have m5338 := (m5292).trans (MF.r mf5316 (k := 30) (by decide) (by decide)).symm
    have m5339 := (m5293).trans (MF.r mf5316 (k := 31) (by decide) (by decide)).symm
    have m5340 := (m5294).trans (MF.r mf5316 (k := 32) (by decide) (by decide)).symm
    have m5341 := (m5295).trans (MF.r mf5316 (k := 33) (by decide) (by decide)).symm
    have m5342 := (m5296).trans (MF.r mf5316 (k := 50) (by decide) (by decide)).symm
    have m5343 := (MF.i mf5316 (k := 0) (by decide) (by decide)).trans m5298
    have m5344 := (m5299).trans (MF.i mf5316 (k := 71) (by decide) (by decide)).symm
    have m5345 := (MF.i mf5316 (k := 70) (by decide) (by decide)).trans m5300
    have m5346 := (m5301).trans (MF.i mf5316 (k := 1) (by decide) (by decide)).symm
    have m5347 := (m5302).trans (MF.i mf5316 (k := 2) (by decide) (by decide)).symm
    have m5348 := (m5303).trans (MF.i mf5316 (k := 3) (by decide) (by decide)).symm
    have m5349 := (m5304).trans (MF.i mf5316 (k := 59) (by decide) (by decide)).symm
    have m5350 := (m5305).trans (MF.i mf5316 (k := 62) (by decide) (by decide)).symm
    have m5351 := (m5307).trans (MF.i mf5316 (k := 65) (by decide) (by decide)).symm
    have mf5352 : MF K s.heap H5308 a0 [0, 1, 2, 3, 59, 62, 65, 70, 71, 72] := MF.trans mf5268 mf5316 (by decide)
    have bx5309 := ty_fi (x := x5309) (k := 72) ex5309 hTH5308 ga0 rg_112 rfl
    have b5353 : UN (x1.toInt ≠ 0) (fun k => fI H5308 q4 k) (fun k => fI s.heap q4 k) := UN.tr m5323 b5270
    have b5354 : UN (x1.toInt ≠ 0) (fun k => fI H5308 q16 k) (fun k => fI s.heap q16 k) := UN.tr m5324 b5271
    have b5355 : UN (x1.toInt = 0) (fun k => fI H5308 iq k) (fun k => fI s.heap iq k) := UN.tr m5317 b5278
    have b5356 : x4806 = fI H5308 iq (0) := (b5279).trans (m5318 _ (by omega)).symm
    have b5357 : x4885 = fI H5308 iq (1) := (b5280).trans (m5318 _ (by omega)).symm
    have b5358 : x4966 = fI H5308 iq (2) := (b5281).trans (m5318 _ (by omega)).symm
    have b5359 : x5049 = fI H5308 iq (3) := (b5282).trans (m5318 _ (by omega)).symm
    have b5360 : x5134 = fI H5308 iq (4) := (b5283).trans (m5318 _ (by omega)).symm
    have b5361 : x5221 = fI H5308 iq (5) := (b5284).trans (m5318 _ (by omega)).symm
    refine W.eq (g2 := F0 m 109 ls []) rfl ?_
    refine lv_aload_n hx hb dX10_image_109 rfl (lv_at hl 0 rfl) ?_
    refine x_V (As := []) (rest := []) C (a_X10_keepsTaps l K G H5308 (x5309) (x1) hTH5308 ga0 giq m5310 ex5309 m5344 g5315 (by and_intros <;> first | assumption | omega) (fun h0 => IMw.congr (b5355 h0) hIW)) yo_X10_keepsTaps wM_X10_482 ⟨⟨by decide, by decide⟩, by decide, by decide⟩ (x_rv C hTH5308 (ci := 10) rfl ga0 rg_112) rfl hl.1 rfl (Nat.le_of_ble_eq_true rfl) dX10_image_110 hSH5308 (AE_sub (fun _ _ => rfl) (by decide) hSH5308.1) (fun vH5362 H5362 locsH5362 pH5362 zH5362 kH5362 hSH5362 => ?_)
    obtain ⟨x5363, hvH5362, ex5363, hrH5362, m5364, g5365, mf5366, m5367, m5368, hTH5362⟩ := pH5362
    subst hvH5362
    clear zH5362
    replace m5364 := EQN.mk m5364
    have b5369 : UN (x1.toInt ≠ 0) (fun k => fI H5362 q24 k) (fun k => fI s.heap q24 k) := UN.congr (fun j => fI_kept (x_lt hTH5308 kH5362 gq24 (by decide))) b5325
    have b5370 : UN (x1.toInt ≠ 0) (fun k => fI H5362 q29 k) (fun k => fI s.heap q29 k) := UN.congr (fun j => fI_kept (x_lt hTH5308 kH5362 gq29 (by decide))) b5326
    have b5371 : UN (x1.toInt ≠ 0) (fun k => fI H5362 q30 k) (fun k => fI s.heap q30 k) := UN.congr (fun j => fI_kept (x_lt hTH5308 kH5362 gq30 (by decide))) b5327
    have b5372 : UN (x1.toInt ≠ 0) (fun k => fI H5362 q31 k) (fun k => fI s.heap q31 k) := UN.congr (fun j => fI_kept (x_lt hTH5308 kH5362 gq31 (by decide))) b5328
    have b5373 : UN (x1.toInt ≠ 0) (fun k => fI H5362 q32 k) (fun k => fI s.heap q32 k) := UN.congr (fun j => fI_kept (x_lt hTH5308 kH5362 gq32 (by decide))) b5329
    have b5374 : UN (x1.toInt ≠ 0) (fun k => fI H5362 q33 k) (fun k => fI s.heap q33 k) := UN.congr (fun j => fI_kept (x_lt hTH5308 kH5362 gq33 (by decide))) b5330
    have b5375 : UN (x1.toInt ≠ 0) (fun k => fI H5362 q4 k) (fun k => fI s.heap q4 k) := UN.congr (fun j => fI_kept (x_lt hTH5308 kH5362 gq4 (by decide))) b5353
    have b5376 : UN (x1.toInt ≠ 0) (fun k => fI H5362 q16 k) (fun k => fI s.heap q16 k) := UN.congr (fun j => fI_kept (x_lt hTH5308 kH5362 gq16 (by decide))) b5354
    have m5377 := (m5310).trans (MF.r mf5366 (k := 73) (by decide) (by decide)).symm
    have m5378 := (m5311).trans (MF.r mf5366 (k := 4) (by decide) (by decide)).symm
    have m5379 := (m5312).trans (MF.r mf5366 (k := 10) (by decide) (by decide)).symm
    have m5380 := (m5313).trans (MF.r mf5366 (k := 16) (by decide) (by decide)).symm
    have m5381 := (m5335).trans (MF.r mf5366 (k := 24) (by decide) (by decide)).symm
    have m5382 := (m5336).trans (MF.r mf5366 (k := 27) (by decide) (by decide)).symm
    have m5383 := (m5337).trans (MF.r mf5366 (k := 29) (by decide) (by decide)).symm
    have m5384 := (m5338).trans (MF.r mf5366 (k := 30) (by decide) (by decide)).symm
    have m5385 := (m5339).trans (MF.r mf5366 (k := 31) (by decide) (by decide)).symm
    have m5386 := (m5340).trans (MF.r mf5366 (k := 32) (by decide) (by decide)).symm
    have m5387 := (m5341).trans (MF.r mf5366 (k := 33) (by decide) (by decide)).symm
    have m5388 := (m5314).trans (MF.r mf5366 (k := 50) (by decide) (by decide)).symm
    have m5389 := (MF.i mf5366 (k := 0) (by decide) (by decide)).trans m5343
    have m5390 := (m5344).trans (MF.i mf5366 (k := 71) (by decide) (by decide)).symm
    have m5391 := (MF.i mf5366 (k := 70) (by decide) (by decide)).trans m5345
    have m5392 := (m5346).trans (MF.i mf5366 (k := 1) (by decide) (by decide)).symm
    have m5393 := (m5347).trans (MF.i mf5366 (k := 2) (by decide) (by decide)).symm
    have m5394 := (m5348).trans (MF.i mf5366 (k := 3) (by decide) (by decide)).symm
    have m5395 := (m5349).trans (MF.i mf5366 (k := 59) (by decide) (by decide)).symm
    have m5396 := (m5350).trans (MF.i mf5366 (k := 62) (by decide) (by decide)).symm
    have m5397 := (m5351).trans (MF.i mf5366 (k := 65) (by decide) (by decide)).symm
    have mf5398 : MF K s.heap H5362 a0 [0, 1, 2, 3, 59, 62, 65, 70, 71, 72] := MF.trans mf5352 mf5366 (by decide)
    have bx5363 := ty_fi (x := x5363) (k := 72) ex5363 hTH5362 ga0 rg_112 rfl
    have b5399 : UN (x1.toInt = 0) (fun k => fI H5362 iq k) (fun k => fI s.heap iq k) := UN.tr m5367 b5355
    have b5400 : x4806 = fI H5362 iq (0) := (b5356).trans (m5368 _ (by omega)).symm
    have b5401 : x4885 = fI H5362 iq (1) := (b5357).trans (m5368 _ (by omega)).symm
    have b5402 : x4966 = fI H5362 iq (2) := (b5358).trans (m5368 _ (by omega)).symm
    have b5403 : x5049 = fI H5362 iq (3) := (b5359).trans (m5368 _ (by omega)).symm
    have b5404 : x5134 = fI H5362 iq (4) := (b5360).trans (m5368 _ (by omega)).symm
    have b5405 : x5221 = fI H5362 iq (5) := (b5361).trans (m5368 _ (by omega)).symm
    have b5406 : EQ (fun k => fI H5362 q4 k) (fun k => fI H5362 iq k) (6) (6) (10) := EQ.fb (EQ.congr (w1 := fun k => fI H5308 iq k) (fun j => fI_kept (x_lt hTH5308 kH5362 gq4 (by decide))) (fun _ => rfl) m5319) m5368 (fun j hj => by omega)
    have b5407 : EQ (fun k => fI H5362 q10 k) (fun k => fI H5362 iq k) (7) (6) (10) := EQ.fb (EQ.congr (w1 := fun k => fI H5308 iq k) (fun j => fI_kept (x_lt hTH5308 kH5362 gq10 (by decide))) (fun _ => rfl) m5320) m5368 (fun j hj => by omega)
    have b5408 : EQ (fun k => fI H5362 q50 k) (fun k => fI H5362 iq k) (11) (6) (10) := EQ.fb (EQ.congr (w1 := fun k => fI H5308 iq k) (fun j => fI_kept (x_lt hTH5308 kH5362 gq50 (by decide))) (fun _ => rfl) m5321) m5368 (fun j hj => by omega)
    have b5409 : EQ (fun k => fI H5362 q16 k) (fun k => fI H5362 iq k) (736) (3) (20) := EQ.fb (EQ.congr (w1 := fun k => fI H5308 iq k) (fun j => fI_kept (x_lt hTH5308 kH5362 gq16 (by decide))) (fun _ => rfl) m5322) m5368 (fun j hj => by omega)
    refine W.eq (g2 := F0 m 113 ls []) rfl ?_
    refine lv_aload_n hx hb dX10_image_113 rfl (lv_at hl 0 rfl) ?_
    refine x_V (As := []) (rest := []) C (a_X10_keepsTexts l K G H5362 (x5363) (x1) hTH5362 ga0 giq m5364 gq24 m5381 gq27 m5382 gq29 m5383 gq30 m5384 gq31 m5385 gq32 m5386 gq33 m5387 ex5363 m5390 g5365 (by and_intros <;> first | assumption | omega) (fun h0 => IMw.congr (b5399 h0) hIW)) yo_X10_keepsTexts wM_X10_485 ⟨⟨by decide, by decide⟩, by decide, by decide⟩ (x_rv C hTH5362 (ci := 10) rfl ga0 rg_112) rfl hl.1 rfl (Nat.le_of_ble_eq_true rfl) dX10_image_114 hSH5362 (AE_sub (fun _ _ => rfl) (by decide) hSH5362.1) (fun vH5410 H5410 locsH5410 pH5410 zH5410 kH5410 hSH5410 => ?_)
    obtain ⟨x5411, hvH5410, ex5411, hrH5410, m5412, m5413, m5414, m5415, m5416, m5417, m5418, m5419, g5420, mf5421, m5422, m5423, m5424, m5425, m5426, m5427, m5428, m5429, m5430, m5431, m5432, m5433, m5434, m5435, m5436, hTH5410⟩ := pH5410
    subst hvH5410
    clear zH5410
    replace m5412 := EQN.mk m5412
    replace m5413 := EQN.mk m5413
    replace m5414 := EQN.mk m5414
    replace m5415 := EQN.mk m5415
    replace m5416 := EQN.mk m5416
    replace m5417 := EQN.mk m5417
    replace m5418 := EQN.mk m5418
    replace m5419 := EQN.mk m5419
    have b5437 : UN (x1.toInt ≠ 0) (fun k => fI H5410 q4 k) (fun k => fI s.heap q4 k) := UN.congr (fun j => fI_kept (x_lt hTH5362 kH5410 gq4 (by decide))) b5375
    have b5438 : UN (x1.toInt ≠ 0) (fun k => fI H5410 q16 k) (fun k => fI s.heap q16 k) := UN.congr (fun j => fI_kept (x_lt hTH5362 kH5410 gq16 (by decide))) b5376
    have m5439 := (m5364).trans (MF.r mf5421 (k := 73) (by decide) (by decide)).symm
    have m5440 := (m5378).trans (MF.r mf5421 (k := 4) (by decide) (by decide)).symm
    have m5441 := (m5379).trans (MF.r mf5421 (k := 10) (by decide) (by decide)).symm
    have m5442 := (m5380).trans (MF.r mf5421 (k := 16) (by decide) (by decide)).symm
    have m5443 := (m5381).trans (MF.r mf5421 (k := 24) (by decide) (by decide)).symm
    have m5444 := (m5382).trans (MF.r mf5421 (k := 27) (by decide) (by decide)).symm
    have m5445 := (m5383).trans (MF.r mf5421 (k := 29) (by decide) (by decide)).symm
    have m5446 := (m5384).trans (MF.r mf5421 (k := 30) (by decide) (by decide)).symm
    have m5447 := (m5385).trans (MF.r mf5421 (k := 31) (by decide) (by decide)).symm
    have m5448 := (m5386).trans (MF.r mf5421 (k := 32) (by decide) (by decide)).symm
    have m5449 := (m5387).trans (MF.r mf5421 (k := 33) (by decide) (by decide)).symm
    have m5450 := (m5388).trans (MF.r mf5421 (k := 50) (by decide) (by decide)).symm
    have m5451 := (MF.i mf5421 (k := 0) (by decide) (by decide)).trans m5389
    have m5452 := (m5390).trans (MF.i mf5421 (k := 71) (by decide) (by decide)).symm
    have m5453 := (MF.i mf5421 (k := 70) (by decide) (by decide)).trans m5391
    have m5454 := (m5392).trans (MF.i mf5421 (k := 1) (by decide) (by decide)).symm
    have m5455 := (m5393).trans (MF.i mf5421 (k := 2) (by decide) (by decide)).symm
    have m5456 := (m5394).trans (MF.i mf5421 (k := 3) (by decide) (by decide)).symm
    have m5457 := (m5395).trans (MF.i mf5421 (k := 59) (by decide) (by decide)).symm
    have m5458 := (m5396).trans (MF.i mf5421 (k := 62) (by decide) (by decide)).symm
    have m5459 := (m5397).trans (MF.i mf5421 (k := 65) (by decide) (by decide)).symm
    have mf5460 : MF K s.heap H5410 a0 [0, 1, 2, 3, 59, 62, 65, 70, 71, 72] := MF.trans mf5398 mf5421 (by decide)
    have bx5411 := ty_fi (x := x5411) (k := 72) ex5411 hTH5410 ga0 rg_112 rfl
    have b5461 : UN (x1.toInt ≠ 0) (fun k => fI H5410 q24 k) (fun k => fI s.heap q24 k) := UN.tr m5431 b5369
    have b5462 : UN (x1.toInt ≠ 0) (fun k => fI H5410 q29 k) (fun k => fI s.heap q29 k) := UN.tr m5432 b5370
    have b5463 : UN (x1.toInt ≠ 0) (fun k => fI H5410 q30 k) (fun k => fI s.heap q30 k) := UN.tr m5433 b5371
    have b5464 : UN (x1.toInt ≠ 0) (fun k => fI H5410 q31 k) (fun k => fI s.heap q31 k) := UN.tr m5434 b5372
    have b5465 : UN (x1.toInt ≠ 0) (fun k => fI H5410 q32 k) (fun k => fI s.heap q32 k) := UN.tr m5435 b5373
    have b5466 : UN (x1.toInt ≠ 0) (fun k => fI H5410 q33 k) (fun k => fI s.heap q33 k) := UN.tr m5436 b5374
    have b5467 : UN (x1.toInt = 0) (fun k => fI H5410 iq k) (fun k => fI s.heap iq k) := UN.tr m5422 b5399
    have b5468 : x4806 = fI H5410 iq (0) := (b5400).trans (m5423 _ (by omega)).symm
    have b5469 : x4885 = fI H5410 iq (1) := (b5401).trans (m5423 _ (by omega)).symm
    have b5470 : x4966 = fI H5410 iq (2) := (b5402).trans (m5423 _ (by omega)).symm
    have b5471 : x5049 = fI H5410 iq (3) := (b5403).trans (m5423 _ (by omega)).symm
    have b5472 : x5134 = fI H5410 iq (4) := (b5404).trans (m5423 _ (by omega)).symm
    have b5473 : x5221 = fI H5410 iq (5) := (b5405).trans (m5423 _ (by omega)).symm
    have b5474 : EQ (fun k => fI H5410 q4 k) (fun k => fI H5410 iq k) (6) (6) (10) := EQ.fb (EQ.congr (w1 := fun k => fI H5362 iq k) (fun j => fI_kept (x_lt hTH5362 kH5410 gq4 (by decide))) (fun _ => rfl) b5406) m5423 (fun j hj => by omega)
    have b5475 : EQ (fun k => fI H5410 q10 k) (fun k => fI H5410 iq k) (7) (6) (10) := EQ.fb (EQ.congr (w1 := fun k => fI H5362 iq k) (fun j => fI_kept (x_lt hTH5362 kH5410 gq10 (by decide))) (fun _ => rfl) b5407) m5423 (fun j hj => by omega)
    have b5476 : EQ (fun k => fI H5410 q50 k) (fun k => fI H5410 iq k) (11) (6) (10) := EQ.fb (EQ.congr (w1 := fun k => fI H5362 iq k) (fun j => fI_kept (x_lt hTH5362 kH5410 gq50 (by decide))) (fun _ => rfl) b5408) m5423 (fun j hj => by omega)
    have b5477 : EQ (fun k => fI H5410 q16 k) (fun k => fI H5410 iq k) (736) (3) (20) := EQ.fb (EQ.congr (w1 := fun k => fI H5362 iq k) (fun j => fI_kept (x_lt hTH5362 kH5410 gq16 (by decide))) (fun _ => rfl) b5409) m5423 (fun j hj => by omega)
    refine W.eq (g2 := F0 m 117 ls []) rfl ?_
    have fin := im_fin (H0 := s.heap) (tk := x1) hTH5410 ga0 hg_CG hg_TU hg_IM ⟨EQ.av m5440 m5412 b5474, EQ.av m5441 m5412 b5475, EQ.av m5450 m5412 b5476, EQ.av m5442 m5412 b5477, EQ.av m5413 m5412 m5424, EQ.av m5414 m5412 m5425, EQ.av m5415 m5412 m5426, EQ.av m5416 m5412 m5427, EQ.av m5417 m5412 m5428, EQ.av m5418 m5412 m5429, EQ.av m5419 m5412 m5430⟩ (pl_av m5454 b5468 m5412) (pl_av m5455 b5469 m5412) (pl_av m5457 b5471 m5412) (pl_av m5458 b5472 m5412) (pl_av m5459 b5473 m5412) (fun h => (m5454.symm.trans (m4812 h)).trans es1) (all8 (UN.av m5440 eq4 b5437) (UN.av m5442 eq16 b5438) (UN.av m5413 eq24 b5461) (UN.av m5415 eq29 b5462) (UN.av m5416 eq30 b5463) (UN.av m5417 eq31 b5464) (UN.av m5418 eq32 b5465) (UN.av m5419 eq33 b5466)) (UN.av m5412 eiq b5467)
    refine lv_iconst (v := 1) hx hb dX10_image_117 (by decide) ?_
    exact x_zret C hQ (Or.inr rfl) dX10_image_118 hSH5410 (by decide) (by decide) (⟨1, 1, x4806, x4885, x4966, x5049, x5134, x5221, rfl, by decide, (m5453).symm, m5454, m5455, m5456, m5457, m5458, m5459, by omega, m5412, m5440, m5441, m5442, m5413, m5414, m5415, m5416, m5417, m5418, m5419, m5450, fin.1, fin.2.1, g5420, fin.2.2, mf5460, Or.inr ⟨b5468, b5469, b5470, b5471, b5472, b5473⟩, (fun h => ⟨m4812 h, m4891 h, m4972 h, m5055 h, m5140 h, m5227 h⟩), b5467, hTH5410⟩)
  · have k4693 := i_eq c4692
    refine lv_aload_n hx hb dX10_image_9 rfl (lv_at hl 0 rfl) ?_
    refine x_gi C hTH4657 (ci := 10) (k := 70) rfl inX10 (by decide) wF_X10_476 ga0 rg_112 rfl dX10_image_10 (fun x5478 ex5478 bx5478 => ?_)
    have ux5478 : h70 = x5478 := (m4684).trans ex5478.symm
    subst ux5478
    refine lv_if_ne (tgt := 18) hx hb dX10_image_13 (by decide) (fun c5479 => ?_) (fun c5479 => ?_)
    · have k5480 := i_ne c5479
      refine lv_aload_n hx hb dX10_image_18 rfl (lv_at hl 0 rfl) ?_
      refine lv_iload_n hx hb dX10_image_19 rfl (lv_at hl 1 rfl) ?_
      refine x_put C hTH4657 hSH4657 (ci := 10) (k := 71) (v := .int x1) (ty0 := tyX10) rfl inX10 tyX10_ok nmX10 (by decide) rfl wF_X10_470 ga0 rg_112 rfl rfl (okI (by have := i_rng x1; omega) (by have := i_rng x1; omega)) (by rcases i_01 (x := x1) (by omega) with h | h <;> rw [h] <;> rfl) (by rcases i_01 (x := x1) (by omega) with h | h <;> rw [h] <;> rfl) (AE_in ga0 (by decide)) dX10_image_20 (fun H5481 locsH5481 hTH5481 hSH5481 wH5481 => ?_)
      have mf5482 : MF K s.heap H5481 a0 [0, 1, 2, 3, 59, 62, 65, 70, 71, 72] := MF.fld hap wH5481 (by decide) (by decide) mf4658
      have g5483 : CG (avw K H5481 a0) := CG.congr (fun k hk j => av_fld hTH4657 ga0 hap wH5481 (by decide) (CG_ok 112 (by decide) k hk) (CG_ne 71 (by decide) k hk)) g4659
      have g5484 : TU (avw K H5481 a0) (svw K H5481 a0) := TU.congr (fun k hk j => av_fld hTH4657 ga0 hap wH5481 (by decide) (TU_ok 112 (by decide) k hk) (TU_ne 71 (by decide) k hk)) (fun k hk => sv_fld hap wH5481 (by decide) (TU_slt k hk) (TU_sne 71 (by decide) k hk)) g4660
      have g5485 : WD (avw K H5481 a0) := WD.congr (fun k hk j => av_fld hTH4657 ga0 hap wH5481 (by decide) (WD_ok 112 (by decide) k hk) (WD_ne 71 (by decide) k hk)) g4661
      have g5486 : IM (avw K H5481 a0) := IM.congr (fun k hk j => av_fld hTH4657 ga0 hap wH5481 (by decide) (IM_ok 112 (by decide) k hk) (IM_ne 71 (by decide) k hk)) g4662
      have b5487 : UN (x1.toInt = 0) (fun k => fI H5481 iq k) (fun k => fI s.heap iq k) := UN.congr (fun j => Wr.neI wH5481 (Or.inl (G_ne giq ga0 (by decide)))) b4663
      have b5488 : UN (x1.toInt ≠ 0) (fun k => fI H5481 q4 k) (fun k => fI s.heap q4 k) := UN.congr (fun j => Wr.neI wH5481 (Or.inl (G_ne gq4 ga0 (by decide)))) b4664
      have b5489 : UN (x1.toInt ≠ 0) (fun k => fI H5481 q16 k) (fun k => fI s.heap q16 k) := UN.congr (fun j => Wr.neI wH5481 (Or.inl (G_ne gq16 ga0 (by decide)))) b4665
      have b5490 : UN (x1.toInt ≠ 0) (fun k => fI H5481 q24 k) (fun k => fI s.heap q24 k) := UN.congr (fun j => Wr.neI wH5481 (Or.inl (G_ne gq24 ga0 (by decide)))) b4666
      have b5491 : UN (x1.toInt ≠ 0) (fun k => fI H5481 q29 k) (fun k => fI s.heap q29 k) := UN.congr (fun j => Wr.neI wH5481 (Or.inl (G_ne gq29 ga0 (by decide)))) b4667
      have b5492 : UN (x1.toInt ≠ 0) (fun k => fI H5481 q30 k) (fun k => fI s.heap q30 k) := UN.congr (fun j => Wr.neI wH5481 (Or.inl (G_ne gq30 ga0 (by decide)))) b4668
      have b5493 : UN (x1.toInt ≠ 0) (fun k => fI H5481 q31 k) (fun k => fI s.heap q31 k) := UN.congr (fun j => Wr.neI wH5481 (Or.inl (G_ne gq31 ga0 (by decide)))) b4669
      have b5494 : UN (x1.toInt ≠ 0) (fun k => fI H5481 q32 k) (fun k => fI s.heap q32 k) := UN.congr (fun j => Wr.neI wH5481 (Or.inl (G_ne gq32 ga0 (by decide)))) b4670
      have b5495 : UN (x1.toInt ≠ 0) (fun k => fI H5481 q33 k) (fun k => fI s.heap q33 k) := UN.congr (fun j => Wr.neI wH5481 (Or.inl (G_ne gq33 ga0 (by decide)))) b4671
      have m5496 := m4672.trans (Wr.neR wH5481 (Or.inr (x_apart hKT hts inX10 tyX10 tyX10_ok nmX10 rfl 73 71 (by decide) (by decide) (by decide)))).symm
      have m5497 := m4673.trans (Wr.neR wH5481 (Or.inr (x_apart hKT hts inX10 tyX10 tyX10_ok nmX10 rfl 4 71 (by decide) (by decide) (by decide)))).symm
      have m5498 := m4674.trans (Wr.neR wH5481 (Or.inr (x_apart hKT hts inX10 tyX10 tyX10_ok nmX10 rfl 10 71 (by decide) (by decide) (by decide)))).symm
      have m5499 := m4675.trans (Wr.neR wH5481 (Or.inr (x_apart hKT hts inX10 tyX10 tyX10_ok nmX10 rfl 16 71 (by decide) (by decide) (by decide)))).symm
      have m5500 := m4676.trans (Wr.neR wH5481 (Or.inr (x_apart hKT hts inX10 tyX10 tyX10_ok nmX10 rfl 24 71 (by decide) (by decide) (by decide)))).symm
      have m5501 := m4677.trans (Wr.neR wH5481 (Or.inr (x_apart hKT hts inX10 tyX10 tyX10_ok nmX10 rfl 27 71 (by decide) (by decide) (by decide)))).symm
      have m5502 := m4678.trans (Wr.neR wH5481 (Or.inr (x_apart hKT hts inX10 tyX10 tyX10_ok nmX10 rfl 29 71 (by decide) (by decide) (by decide)))).symm
      have m5503 := m4679.trans (Wr.neR wH5481 (Or.inr (x_apart hKT hts inX10 tyX10 tyX10_ok nmX10 rfl 30 71 (by decide) (by decide) (by decide)))).symm
      have m5504 := m4680.trans (Wr.neR wH5481 (Or.inr (x_apart hKT hts inX10 tyX10 tyX10_ok nmX10 rfl 31 71 (by decide) (by decide) (by decide)))).symm
      have m5505 := m4681.trans (Wr.neR wH5481 (Or.inr (x_apart hKT hts inX10 tyX10 tyX10_ok nmX10 rfl 32 71 (by decide) (by decide) (by decide)))).symm
      have m5506 := m4682.trans (Wr.neR wH5481 (Or.inr (x_apart hKT hts inX10 tyX10 tyX10_ok nmX10 rfl 33 71 (by decide) (by decide) (by decide)))).symm
      have m5507 := m4683.trans (Wr.neR wH5481 (Or.inr (x_apart hKT hts inX10 tyX10 tyX10_ok nmX10 rfl 50 71 (by decide) (by decide) (by decide)))).symm
      have m5508 := m4684.trans (Wr.neI wH5481 (Or.inr (x_apart hKT hts inX10 tyX10 tyX10_ok nmX10 rfl 70 71 (by decide) (by decide) (by decide)))).symm
      have m5509 := m4685.trans (Wr.neI wH5481 (Or.inr (x_apart hKT hts inX10 tyX10 tyX10_ok nmX10 rfl 1 71 (by decide) (by decide) (by decide)))).symm
      have m5510 := m4686.trans (Wr.neI wH5481 (Or.inr (x_apart hKT hts inX10 tyX10 tyX10_ok nmX10 rfl 2 71 (by decide) (by decide) (by decide)))).symm
      have m5511 := m4687.trans (Wr.neI wH5481 (Or.inr (x_apart hKT hts inX10 tyX10 tyX10_ok nmX10 rfl 3 71 (by decide) (by decide) (by decide)))).symm
      have m5512 := m4688.trans (Wr.neI wH5481 (Or.inr (x_apart hKT hts inX10 tyX10 tyX10_ok nmX10 rfl 59 71 (by decide) (by decide) (by decide)))).symm
      have m5513 := m4689.trans (Wr.neI wH5481 (Or.inr (x_apart hKT hts inX10 tyX10 tyX10_ok nmX10 rfl 62 71 (by decide) (by decide) (by decide)))).symm
      have m5514 := m4690.trans (Wr.neI wH5481 (Or.inr (x_apart hKT hts inX10 tyX10 tyX10_ok nmX10 rfl 65 71 (by decide) (by decide) (by decide)))).symm
      have m5515 := (Wr.neI wH5481 (Or.inr (x_apart hKT hts inX10 tyX10 tyX10_ok nmX10 rfl 0 71 (by decide) (by decide) (by decide)))).trans m4691
      have m5516 := Wr.I wH5481
      have m5516 := m5516.symm
      clear b4663 b4664 b4665 b4666 b4667 b4668 b4669 b4670 b4671 g4659 g4660 g4661 g4662 hTH4657 m4672 m4673 m4674 m4675 m4676 m4677 m4678 m4679 m4680 m4681 m4682 m4683 m4684 m4685 m4686 m4687 m4688 m4689 m4690 m4691 mf4658
      refine lv_aload_n hx hb dX10_image_23 rfl (lv_at hl 0 rfl) ?_
      refine lv_iconst (v := 1) hx hb dX10_image_24 (by decide) ?_
      refine x_put C hTH5481 hSH5481 (ci := 10) (k := 70) (v := .int 1) (ty0 := tyX10) rfl inX10 tyX10_ok nmX10 (by decide) rfl wF_X10_476 ga0 rg_112 rfl rfl (okI (by have := i_rng (1 : Int32); omega) (by have := i_rng (1 : Int32); omega)) rfl rfl (AE_in ga0 (by decide)) dX10_image_25 (fun H5517 locsH5517 hTH5517 hSH5517 wH5517 => ?_)
      have mf5518 : MF K s.heap H5517 a0 [0, 1, 2, 3, 59, 62, 65, 70, 71, 72] := MF.fld hap wH5517 (by decide) (by decide) mf5482
      have g5519 : CG (avw K H5517 a0) := CG.congr (fun k hk j => av_fld hTH5481 ga0 hap wH5517 (by decide) (CG_ok 112 (by decide) k hk) (CG_ne 70 (by decide) k hk)) g5483
      have g5520 : TU (avw K H5517 a0) (svw K H5517 a0) := TU.congr (fun k hk j => av_fld hTH5481 ga0 hap wH5517 (by decide) (TU_ok 112 (by decide) k hk) (TU_ne 70 (by decide) k hk)) (fun k hk => sv_fld hap wH5517 (by decide) (TU_slt k hk) (TU_sne 70 (by decide) k hk)) g5484
      have g5521 : WD (avw K H5517 a0) := WD.congr (fun k hk j => av_fld hTH5481 ga0 hap wH5517 (by decide) (WD_ok 112 (by decide) k hk) (WD_ne 70 (by decide) k hk)) g5485
      have g5522 : IM (avw K H5517 a0) := IM.congr (fun k hk j => av_fld hTH5481 ga0 hap wH5517 (by decide) (IM_ok 112 (by decide) k hk) (IM_ne 70 (by decide) k hk)) g5486
      have b5523 : UN (x1.toInt = 0) (fun k => fI H5517 iq k) (fun k => fI s.heap iq k) := UN.congr (fun j => Wr.neI wH5517 (Or.inl (G_ne giq ga0 (by decide)))) b5487
      have b5524 : UN (x1.toInt ≠ 0) (fun k => fI H5517 q4 k) (fun k => fI s.heap q4 k) := UN.congr (fun j => Wr.neI wH5517 (Or.inl (G_ne gq4 ga0 (by decide)))) b5488
      have b5525 : UN (x1.toInt ≠ 0) (fun k => fI H5517 q16 k) (fun k => fI s.heap q16 k) := UN.congr (fun j => Wr.neI wH5517 (Or.inl (G_ne gq16 ga0 (by decide)))) b5489
      have b5526 : UN (x1.toInt ≠ 0) (fun k => fI H5517 q24 k) (fun k => fI s.heap q24 k) := UN.congr (fun j => Wr.neI wH5517 (Or.inl (G_ne gq24 ga0 (by decide)))) b5490
      have b5527 : UN (x1.toInt ≠ 0) (fun k => fI H5517 q29 k) (fun k => fI s.heap q29 k) := UN.congr (fun j => Wr.neI wH5517 (Or.inl (G_ne gq29 ga0 (by decide)))) b5491
      have b5528 : UN (x1.toInt ≠ 0) (fun k => fI H5517 q30 k) (fun k => fI s.heap q30 k) := UN.congr (fun j => Wr.neI wH5517 (Or.inl (G_ne gq30 ga0 (by decide)))) b5492
      have b5529 : UN (x1.toInt ≠ 0) (fun k => fI H5517 q31 k) (fun k => fI s.heap q31 k) := UN.congr (fun j => Wr.neI wH5517 (Or.inl (G_ne gq31 ga0 (by decide)))) b5493
      have b5530 : UN (x1.toInt ≠ 0) (fun k => fI H5517 q32 k) (fun k => fI s.heap q32 k) := UN.congr (fun j => Wr.neI wH5517 (Or.inl (G_ne gq32 ga0 (by decide)))) b5494
      have b5531 : UN (x1.toInt ≠ 0) (fun k => fI H5517 q33 k) (fun k => fI s.heap q33 k) := UN.congr (fun j => Wr.neI wH5517 (Or.inl (G_ne gq33 ga0 (by decide)))) b5495
      have m5532 := m5496.trans (Wr.neR wH5517 (Or.inr (x_apart hKT hts inX10 tyX10 tyX10_ok nmX10 rfl 73 70 (by decide) (by decide) (by decide)))).symm
      have m5533 := m5497.trans (Wr.neR wH5517 (Or.inr (x_apart hKT hts inX10 tyX10 tyX10_ok nmX10 rfl 4 70 (by decide) (by decide) (by decide)))).symm
      have m5534 := m5498.trans (Wr.neR wH5517 (Or.inr (x_apart hKT hts inX10 tyX10 tyX10_ok nmX10 rfl 10 70 (by decide) (by decide) (by decide)))).symm
      have m5535 := m5499.trans (Wr.neR wH5517 (Or.inr (x_apart hKT hts inX10 tyX10 tyX10_ok nmX10 rfl 16 70 (by decide) (by decide) (by decide)))).symm
      have m5536 := m5500.trans (Wr.neR wH5517 (Or.inr (x_apart hKT hts inX10 tyX10 tyX10_ok nmX10 rfl 24 70 (by decide) (by decide) (by decide)))).symm
      have m5537 := m5501.trans (Wr.neR wH5517 (Or.inr (x_apart hKT hts inX10 tyX10 tyX10_ok nmX10 rfl 27 70 (by decide) (by decide) (by decide)))).symm
      have m5538 := m5502.trans (Wr.neR wH5517 (Or.inr (x_apart hKT hts inX10 tyX10 tyX10_ok nmX10 rfl 29 70 (by decide) (by decide) (by decide)))).symm
      have m5539 := m5503.trans (Wr.neR wH5517 (Or.inr (x_apart hKT hts inX10 tyX10 tyX10_ok nmX10 rfl 30 70 (by decide) (by decide) (by decide)))).symm
      have m5540 := m5504.trans (Wr.neR wH5517 (Or.inr (x_apart hKT hts inX10 tyX10 tyX10_ok nmX10 rfl 31 70 (by decide) (by decide) (by decide)))).symm
      have m5541 := m5505.trans (Wr.neR wH5517 (Or.inr (x_apart hKT hts inX10 tyX10 tyX10_ok nmX10 rfl 32 70 (by decide) (by decide) (by decide)))).symm
      have m5542 := m5506.trans (Wr.neR wH5517 (Or.inr (x_apart hKT hts inX10 tyX10 tyX10_ok nmX10 rfl 33 70 (by decide) (by decide) (by decide)))).symm
      have m5543 := m5507.trans (Wr.neR wH5517 (Or.inr (x_apart hKT hts inX10 tyX10 tyX10_ok nmX10 rfl 50 70 (by decide) (by decide) (by decide)))).symm
      have m5545 := m5509.trans (Wr.neI wH5517 (Or.inr (x_apart hKT hts inX10 tyX10 tyX10_ok nmX10 rfl 1 70 (by decide) (by decide) (by decide)))).symm
      have m5546 := m5510.trans (Wr.neI wH5517 (Or.inr (x_apart hKT hts inX10 tyX10 tyX10_ok nmX10 rfl 2 70 (by decide) (by decide) (by decide)))).symm
      have m5547 := m5511.trans (Wr.neI wH5517 (Or.inr (x_apart hKT hts inX10 tyX10 tyX10_ok nmX10 rfl 3 70 (by decide) (by decide) (by decide)))).symm
      have m5548 := m5512.trans (Wr.neI wH5517 (Or.inr (x_apart hKT hts inX10 tyX10 tyX10_ok nmX10 rfl 59 70 (by decide) (by decide) (by decide)))).symm
      have m5549 := m5513.trans (Wr.neI wH5517 (Or.inr (x_apart hKT hts inX10 tyX10 tyX10_ok nmX10 rfl 62 70 (by decide) (by decide) (by decide)))).symm
      have m5550 := m5514.trans (Wr.neI wH5517 (Or.inr (x_apart hKT hts inX10 tyX10 tyX10_ok nmX10 rfl 65 70 (by decide) (by decide) (by decide)))).symm
      have m5551 := (Wr.neI wH5517 (Or.inr (x_apart hKT hts inX10 tyX10 tyX10_ok nmX10 rfl 0 70 (by decide) (by decide) (by decide)))).trans m5515
      have m5552 := m5516.trans (Wr.neI wH5517 (Or.inr (x_apart hKT hts inX10 tyX10 tyX10_ok nmX10 rfl 71 70 (by decide) (by decide) (by decide)))).symm
      have m5553 := Wr.I wH5517
      clear b5487 b5488 b5489 b5490 b5491 b5492 b5493 b5494 b5495 g5483 g5484 g5485 g5486 hTH5481 m5496 m5497 m5498 m5499 m5500 m5501 m5502 m5503 m5504 m5505 m5506 m5507 m5508 m5509 m5510 m5511 m5512 m5513 m5514 m5515 m5516 mf5482
      refine lv_aload_n hx hb dX10_image_28 rfl (lv_at hl 0 rfl) ?_
      refine lv_iconst (v := 0) hx hb dX10_image_29 (by decide) ?_
      refine x_put C hTH5517 hSH5517 (ci := 10) (k := 72) (v := .int 0) (ty0 := tyX10) rfl inX10 tyX10_ok nmX10 (by decide) rfl wF_X10_467 ga0 rg_112 rfl rfl (okI (by have := i_rng (0 : Int32); omega) (by have := i_rng (0 : Int32); omega)) rfl rfl (AE_in ga0 (by decide)) dX10_image_30 (fun H5554 locsH5554 hTH5554 hSH5554 wH5554 => ?_)
      have mf5555 : MF K s.heap H5554 a0 [0, 1, 2, 3, 59, 62, 65, 70, 71, 72] := MF.fld hap wH5554 (by decide) (by decide) mf5518
      have g5556 : CG (avw K H5554 a0) := CG.congr (fun k hk j => av_fld hTH5517 ga0 hap wH5554 (by decide) (CG_ok 112 (by decide) k hk) (CG_ne 72 (by decide) k hk)) g5519
      have g5557 : TU (avw K H5554 a0) (svw K H5554 a0) := TU.congr (fun k hk j => av_fld hTH5517 ga0 hap wH5554 (by decide) (TU_ok 112 (by decide) k hk) (TU_ne 72 (by decide) k hk)) (fun k hk => sv_fld hap wH5554 (by decide) (TU_slt k hk) (TU_sne 72 (by decide) k hk)) g5520
      have g5558 : WD (avw K H5554 a0) := WD.congr (fun k hk j => av_fld hTH5517 ga0 hap wH5554 (by decide) (WD_ok 112 (by decide) k hk) (WD_ne 72 (by decide) k hk)) g5521
      have g5559 : IM (avw K H5554 a0) := IM.congr (fun k hk j => av_fld hTH5517 ga0 hap wH5554 (by decide) (IM_ok 112 (by decide) k hk) (IM_ne 72 (by decide) k hk)) g5522
      have b5560 : UN (x1.toInt = 0) (fun k => fI H5554 iq k) (fun k => fI s.heap iq k) := UN.congr (fun j => Wr.neI wH5554 (Or.inl (G_ne giq ga0 (by decide)))) b5523
      have b5561 : UN (x1.toInt ≠ 0) (fun k => fI H5554 q4 k) (fun k => fI s.heap q4 k) := UN.congr (fun j => Wr.neI wH5554 (Or.inl (G_ne gq4 ga0 (by decide)))) b5524
      have b5562 : UN (x1.toInt ≠ 0) (fun k => fI H5554 q16 k) (fun k => fI s.heap q16 k) := UN.congr (fun j => Wr.neI wH5554 (Or.inl (G_ne gq16 ga0 (by decide)))) b5525
      have b5563 : UN (x1.toInt ≠ 0) (fun k => fI H5554 q24 k) (fun k => fI s.heap q24 k) := UN.congr (fun j => Wr.neI wH5554 (Or.inl (G_ne gq24 ga0 (by decide)))) b5526
      have b5564 : UN (x1.toInt ≠ 0) (fun k => fI H5554 q29 k) (fun k => fI s.heap q29 k) := UN.congr (fun j => Wr.neI wH5554 (Or.inl (G_ne gq29 ga0 (by decide)))) b5527
      have b5565 : UN (x1.toInt ≠ 0) (fun k => fI H5554 q30 k) (fun k => fI s.heap q30 k) := UN.congr (fun j => Wr.neI wH5554 (Or.inl (G_ne gq30 ga0 (by decide)))) b5528
      have b5566 : UN (x1.toInt ≠ 0) (fun k => fI H5554 q31 k) (fun k => fI s.heap q31 k) := UN.congr (fun j => Wr.neI wH5554 (Or.inl (G_ne gq31 ga0 (by decide)))) b5529
      have b5567 : UN (x1.toInt ≠ 0) (fun k => fI H5554 q32 k) (fun k => fI s.heap q32 k) := UN.congr (fun j => Wr.neI wH5554 (Or.inl (G_ne gq32 ga0 (by decide)))) b5530
      have b5568 : UN (x1.toInt ≠ 0) (fun k => fI H5554 q33 k) (fun k => fI s.heap q33 k) := UN.congr (fun j => Wr.neI wH5554 (Or.inl (G_ne gq33 ga0 (by decide)))) b5531
      have m5569 := m5532.trans (Wr.neR wH5554 (Or.inr (x_apart hKT hts inX10 tyX10 tyX10_ok nmX10 rfl 73 72 (by decide) (by decide) (by decide)))).symm
      have m5570 := m5533.trans (Wr.neR wH5554 (Or.inr (x_apart hKT hts inX10 tyX10 tyX10_ok nmX10 rfl 4 72 (by decide) (by decide) (by decide)))).symm
      have m5571 := m5534.trans (Wr.neR wH5554 (Or.inr (x_apart hKT hts inX10 tyX10 tyX10_ok nmX10 rfl 10 72 (by decide) (by decide) (by decide)))).symm
      have m5572 := m5535.trans (Wr.neR wH5554 (Or.inr (x_apart hKT hts inX10 tyX10 tyX10_ok nmX10 rfl 16 72 (by decide) (by decide) (by decide)))).symm
      have m5573 := m5536.trans (Wr.neR wH5554 (Or.inr (x_apart hKT hts inX10 tyX10 tyX10_ok nmX10 rfl 24 72 (by decide) (by decide) (by decide)))).symm
      have m5574 := m5537.trans (Wr.neR wH5554 (Or.inr (x_apart hKT hts inX10 tyX10 tyX10_ok nmX10 rfl 27 72 (by decide) (by decide) (by decide)))).symm
      have m5575 := m5538.trans (Wr.neR wH5554 (Or.inr (x_apart hKT hts inX10 tyX10 tyX10_ok nmX10 rfl 29 72 (by decide) (by decide) (by decide)))).symm
      have m5576 := m5539.trans (Wr.neR wH5554 (Or.inr (x_apart hKT hts inX10 tyX10 tyX10_ok nmX10 rfl 30 72 (by decide) (by decide) (by decide)))).symm
      have m5577 := m5540.trans (Wr.neR wH5554 (Or.inr (x_apart hKT hts inX10 tyX10 tyX10_ok nmX10 rfl 31 72 (by decide) (by decide) (by decide)))).symm
      have m5578 := m5541.trans (Wr.neR wH5554 (Or.inr (x_apart hKT hts inX10 tyX10 tyX10_ok nmX10 rfl 32 72 (by decide) (by decide) (by decide)))).symm
      have m5579 := m5542.trans (Wr.neR wH5554 (Or.inr (x_apart hKT hts inX10 tyX10 tyX10_ok nmX10 rfl 33 72 (by decide) (by decide) (by decide)))).symm
      have m5580 := m5543.trans (Wr.neR wH5554 (Or.inr (x_apart hKT hts inX10 tyX10 tyX10_ok nmX10 rfl 50 72 (by decide) (by decide) (by decide)))).symm
      have m5581 := m5545.trans (Wr.neI wH5554 (Or.inr (x_apart hKT hts inX10 tyX10 tyX10_ok nmX10 rfl 1 72 (by decide) (by decide) (by decide)))).symm
      have m5582 := m5546.trans (Wr.neI wH5554 (Or.inr (x_apart hKT hts inX10 tyX10 tyX10_ok nmX10 rfl 2 72 (by decide) (by decide) (by decide)))).symm
      have m5583 := m5547.trans (Wr.neI wH5554 (Or.inr (x_apart hKT hts inX10 tyX10 tyX10_ok nmX10 rfl 3 72 (by decide) (by decide) (by decide)))).symm
      have m5584 := m5548.trans (Wr.neI wH5554 (Or.inr (x_apart hKT hts inX10 tyX10 tyX10_ok nmX10 rfl 59 72 (by decide) (by decide) (by decide)))).symm
      have m5585 := m5549.trans (Wr.neI wH5554 (Or.inr (x_apart hKT hts inX10 tyX10 tyX10_ok nmX10 rfl 62 72 (by decide) (by decide) (by decide)))).symm
      have m5586 := m5550.trans (Wr.neI wH5554 (Or.inr (x_apart hKT hts inX10 tyX10 tyX10_ok nmX10 rfl 65 72 (by decide) (by decide) (by decide)))).symm
      have m5587 := (Wr.neI wH5554 (Or.inr (x_apart hKT hts inX10 tyX10 tyX10_ok nmX10 rfl 0 72 (by decide) (by decide) (by decide)))).trans m5551
      have m5588 := m5552.trans (Wr.neI wH5554 (Or.inr (x_apart hKT hts inX10 tyX10 tyX10_ok nmX10 rfl 71 72 (by decide) (by decide) (by decide)))).symm
      have m5589 := (Wr.neI wH5554 (Or.inr (x_apart hKT hts inX10 tyX10 tyX10_ok nmX10 rfl 70 72 (by decide) (by decide) (by decide)))).trans m5553
      have m5590 := Wr.I wH5554
      clear b5523 b5524 b5525 b5526 b5527 b5528 b5529 b5530 b5531 g5519 g5520 g5521 g5522 hTH5517 m5532 m5533 m5534 m5535 m5536 m5537 m5538 m5539 m5540 m5541 m5542 m5543 m5545 m5546 m5547 m5548 m5549 m5550 m5551 m5552 m5553 mf5518
      refine lv_aload_n hx hb dX10_image_33 rfl (lv_at hl 0 rfl) ?_
      refine lv_aload_n hx hb dX10_image_34 rfl (lv_at hl 0 rfl) ?_
      refine lv_aload_n hx hb dX10_image_35 rfl (lv_at hl 0 rfl) ?_
      refine x_gi C hTH5554 (ci := 10) (k := 1) rfl inX10 (by decide) wF_X10_170 ga0 rg_112 rfl dX10_image_36 (fun x5591 ex5591 bx5591 => ?_)
      have ux5591 : s1 = x5591 := (m5581).trans ex5591.symm
      subst ux5591
      refine x_V (As := [.int s1]) (rest := [.ref a0]) C (a_X10_kept l K G H5554 (s1) (0) (x1) hTH5554 ga0 giq m5569 (m5590).symm m5588 g5558 (by and_intros <;> first | assumption | omega)) yo_X10_kept wM_X10_473 ⟨⟨by decide, by decide⟩, by decide, by decide⟩ (x_rv C hTH5554 (ci := 10) rfl ga0 rg_112) rfl hl.1 rfl (Nat.le_of_ble_eq_true rfl) dX10_image_39 hSH5554 (AE_sub (fun _ _ => rfl) (by decide) hSH5554.1) (fun vH5592 H5592 locsH5592 pH5592 zH5592 kH5592 hSH5592 => ?_)
      obtain ⟨x5593, x5594, hvH5592, ex5594, hrH5592, m5595, g5596, mf5597, m5598, m5599, m5600, m5601, hTH5592⟩ := pH5592
      subst hvH5592
      clear zH5592
      replace m5595 := EQN.mk m5595
      have b5602 : UN (x1.toInt ≠ 0) (fun k => fI H5592 q4 k) (fun k => fI s.heap q4 k) := UN.congr (fun j => fI_kept (x_lt hTH5554 kH5592 gq4 (by decide))) b5561
      have b5603 : UN (x1.toInt ≠ 0) (fun k => fI H5592 q16 k) (fun k => fI s.heap q16 k) := UN.congr (fun j => fI_kept (x_lt hTH5554 kH5592 gq16 (by decide))) b5562
      have b5604 : UN (x1.toInt ≠ 0) (fun k => fI H5592 q24 k) (fun k => fI s.heap q24 k) := UN.congr (fun j => fI_kept (x_lt hTH5554 kH5592 gq24 (by decide))) b5563
      have b5605 : UN (x1.toInt ≠ 0) (fun k => fI H5592 q29 k) (fun k => fI s.heap q29 k) := UN.congr (fun j => fI_kept (x_lt hTH5554 kH5592 gq29 (by decide))) b5564
      have b5606 : UN (x1.toInt ≠ 0) (fun k => fI H5592 q30 k) (fun k => fI s.heap q30 k) := UN.congr (fun j => fI_kept (x_lt hTH5554 kH5592 gq30 (by decide))) b5565
      have b5607 : UN (x1.toInt ≠ 0) (fun k => fI H5592 q31 k) (fun k => fI s.heap q31 k) := UN.congr (fun j => fI_kept (x_lt hTH5554 kH5592 gq31 (by decide))) b5566
      have b5608 : UN (x1.toInt ≠ 0) (fun k => fI H5592 q32 k) (fun k => fI s.heap q32 k) := UN.congr (fun j => fI_kept (x_lt hTH5554 kH5592 gq32 (by decide))) b5567
      have b5609 : UN (x1.toInt ≠ 0) (fun k => fI H5592 q33 k) (fun k => fI s.heap q33 k) := UN.congr (fun j => fI_kept (x_lt hTH5554 kH5592 gq33 (by decide))) b5568
      have m5610 := (m5569).trans (MF.r mf5597 (k := 73) (by decide) (by decide)).symm
      have m5611 := (m5570).trans (MF.r mf5597 (k := 4) (by decide) (by decide)).symm
      have m5612 := (m5571).trans (MF.r mf5597 (k := 10) (by decide) (by decide)).symm
      have m5613 := (m5572).trans (MF.r mf5597 (k := 16) (by decide) (by decide)).symm
      have m5614 := (m5573).trans (MF.r mf5597 (k := 24) (by decide) (by decide)).symm
      have m5615 := (m5574).trans (MF.r mf5597 (k := 27) (by decide) (by decide)).symm
      have m5616 := (m5575).trans (MF.r mf5597 (k := 29) (by decide) (by decide)).symm
      have m5617 := (m5576).trans (MF.r mf5597 (k := 30) (by decide) (by decide)).symm
      have m5618 := (m5577).trans (MF.r mf5597 (k := 31) (by decide) (by decide)).symm
      have m5619 := (m5578).trans (MF.r mf5597 (k := 32) (by decide) (by decide)).symm
      have m5620 := (m5579).trans (MF.r mf5597 (k := 33) (by decide) (by decide)).symm
      have m5621 := (m5580).trans (MF.r mf5597 (k := 50) (by decide) (by decide)).symm
      have m5622 := (m5581).trans (MF.i mf5597 (k := 1) (by decide) (by decide)).symm
      have m5623 := (m5582).trans (MF.i mf5597 (k := 2) (by decide) (by decide)).symm
      have m5624 := (m5583).trans (MF.i mf5597 (k := 3) (by decide) (by decide)).symm
      have m5625 := (m5584).trans (MF.i mf5597 (k := 59) (by decide) (by decide)).symm
      have m5626 := (m5585).trans (MF.i mf5597 (k := 62) (by decide) (by decide)).symm
      have m5627 := (m5586).trans (MF.i mf5597 (k := 65) (by decide) (by decide)).symm
      have m5628 := (MF.i mf5597 (k := 0) (by decide) (by decide)).trans m5587
      have m5629 := (m5588).trans (MF.i mf5597 (k := 71) (by decide) (by decide)).symm
      have m5630 := (MF.i mf5597 (k := 70) (by decide) (by decide)).trans m5589
      have mf5631 : MF K s.heap H5592 a0 [0, 1, 2, 3, 59, 62, 65, 70, 71, 72] := MF.trans mf5555 mf5597 (by decide)
      have bx5594 := ty_fi (x := x5594) (k := 72) ex5594 hTH5592 ga0 rg_112 rfl
      have ce_k0 : (0 : Int32).toNatClampNeg = 0 := rfl
      have b5632 : UN (x1.toInt = 0) (fun k => fI H5592 iq k) (fun k => fI s.heap iq k) := UN.tr m5601 b5560
      clear b5560 b5561 b5562 b5563 b5564 b5565 b5566 b5567 b5568 m5569 m5570 m5571 m5572 m5573 m5574 m5575 m5576 m5577 m5578 m5579 m5580 m5581 m5582 m5583 m5584 m5585 m5586 m5587 m5588 m5589 m5590
      clear m5600 m5601
      have bx5593 : 0 ≤ x5593.toInt ∧ x5593.toInt ≤ 10 := kr (fun h0 => by have hiw := hIW; exact kr0 (w := fun k => fI H5592 iq k) m5598 (p := 0) (by omega) (b5632 h0) (hiw.1.1)) m5599 (by omega)
      have p5633 : x5593 = fI H5592 iq (0) := by have h := m5598; rw [show (0 : Int32).toNatClampNeg = 0 by omega] at h; exact h
      refine W.eq (g2 := F0 m 42 ls [.int x5593, .ref a0]) rfl ?_
      refine x_put C hTH5592 hSH5592 (ci := 10) (k := 1) (v := .int x5593) (ty0 := tyX10) rfl inX10 tyX10_ok nmX10 (by decide) rfl wF_X10_170 ga0 rg_112 rfl rfl (okI (by have := i_rng x5593; omega) (by have := i_rng x5593; omega)) rfl rfl (AE_in ga0 (by decide)) dX10_image_42 (fun H5634 locsH5634 hTH5634 hSH5634 wH5634 => ?_)
      have mf5635 : MF K s.heap H5634 a0 [0, 1, 2, 3, 59, 62, 65, 70, 71, 72] := MF.fld hap wH5634 (by decide) (by decide) mf5631
      have g5636 : WD (avw K H5634 a0) := WD.congr (fun k hk j => av_fld hTH5592 ga0 hap wH5634 (by decide) (WD_ok 112 (by decide) k hk) (WD_ne 1 (by decide) k hk)) g5596
      have b5637 : UN (x1.toInt ≠ 0) (fun k => fI H5634 q4 k) (fun k => fI s.heap q4 k) := UN.congr (fun j => Wr.neI wH5634 (Or.inl (G_ne gq4 ga0 (by decide)))) b5602
      have b5638 : UN (x1.toInt ≠ 0) (fun k => fI H5634 q16 k) (fun k => fI s.heap q16 k) := UN.congr (fun j => Wr.neI wH5634 (Or.inl (G_ne gq16 ga0 (by decide)))) b5603
      have b5639 : UN (x1.toInt ≠ 0) (fun k => fI H5634 q24 k) (fun k => fI s.heap q24 k) := UN.congr (fun j => Wr.neI wH5634 (Or.inl (G_ne gq24 ga0 (by decide)))) b5604
      have b5640 : UN (x1.toInt ≠ 0) (fun k => fI H5634 q29 k) (fun k => fI s.heap q29 k) := UN.congr (fun j => Wr.neI wH5634 (Or.inl (G_ne gq29 ga0 (by decide)))) b5605
      have b5641 : UN (x1.toInt ≠ 0) (fun k => fI H5634 q30 k) (fun k => fI s.heap q30 k) := UN.congr (fun j => Wr.neI wH5634 (Or.inl (G_ne gq30 ga0 (by decide)))) b5606
      have b5642 : UN (x1.toInt ≠ 0) (fun k => fI H5634 q31 k) (fun k => fI s.heap q31 k) := UN.congr (fun j => Wr.neI wH5634 (Or.inl (G_ne gq31 ga0 (by decide)))) b5607
      have b5643 : UN (x1.toInt ≠ 0) (fun k => fI H5634 q32 k) (fun k => fI s.heap q32 k) := UN.congr (fun j => Wr.neI wH5634 (Or.inl (G_ne gq32 ga0 (by decide)))) b5608
      have b5644 : UN (x1.toInt ≠ 0) (fun k => fI H5634 q33 k) (fun k => fI s.heap q33 k) := UN.congr (fun j => Wr.neI wH5634 (Or.inl (G_ne gq33 ga0 (by decide)))) b5609
      have b5645 : UN (x1.toInt = 0) (fun k => fI H5634 iq k) (fun k => fI s.heap iq k) := UN.congr (fun j => Wr.neI wH5634 (Or.inl (G_ne giq ga0 (by decide)))) b5632
      have b5646 : x5593 = fI H5634 iq (0) := (p5633).trans (Wr.neI wH5634 (Or.inl (G_ne giq ga0 (by decide)))).symm
      have m5647 := m5595.trans (Wr.neR wH5634 (Or.inr (x_apart hKT hts inX10 tyX10 tyX10_ok nmX10 rfl 73 1 (by decide) (by decide) (by decide)))).symm
      have m5648 := m5611.trans (Wr.neR wH5634 (Or.inr (x_apart hKT hts inX10 tyX10 tyX10_ok nmX10 rfl 4 1 (by decide) (by decide) (by decide)))).symm
      have m5649 := m5612.trans (Wr.neR wH5634 (Or.inr (x_apart hKT hts inX10 tyX10 tyX10_ok nmX10 rfl 10 1 (by decide) (by decide) (by decide)))).symm
      have m5650 := m5613.trans (Wr.neR wH5634 (Or.inr (x_apart hKT hts inX10 tyX10 tyX10_ok nmX10 rfl 16 1 (by decide) (by decide) (by decide)))).symm
      have m5651 := m5614.trans (Wr.neR wH5634 (Or.inr (x_apart hKT hts inX10 tyX10 tyX10_ok nmX10 rfl 24 1 (by decide) (by decide) (by decide)))).symm
      have m5652 := m5615.trans (Wr.neR wH5634 (Or.inr (x_apart hKT hts inX10 tyX10 tyX10_ok nmX10 rfl 27 1 (by decide) (by decide) (by decide)))).symm
      have m5653 := m5616.trans (Wr.neR wH5634 (Or.inr (x_apart hKT hts inX10 tyX10 tyX10_ok nmX10 rfl 29 1 (by decide) (by decide) (by decide)))).symm
      have m5654 := m5617.trans (Wr.neR wH5634 (Or.inr (x_apart hKT hts inX10 tyX10 tyX10_ok nmX10 rfl 30 1 (by decide) (by decide) (by decide)))).symm
      have m5655 := m5618.trans (Wr.neR wH5634 (Or.inr (x_apart hKT hts inX10 tyX10 tyX10_ok nmX10 rfl 31 1 (by decide) (by decide) (by decide)))).symm
      have m5656 := m5619.trans (Wr.neR wH5634 (Or.inr (x_apart hKT hts inX10 tyX10 tyX10_ok nmX10 rfl 32 1 (by decide) (by decide) (by decide)))).symm
      have m5657 := m5620.trans (Wr.neR wH5634 (Or.inr (x_apart hKT hts inX10 tyX10 tyX10_ok nmX10 rfl 33 1 (by decide) (by decide) (by decide)))).symm
      have m5658 := m5621.trans (Wr.neR wH5634 (Or.inr (x_apart hKT hts inX10 tyX10 tyX10_ok nmX10 rfl 50 1 (by decide) (by decide) (by decide)))).symm
      have m5660 := m5623.trans (Wr.neI wH5634 (Or.inr (x_apart hKT hts inX10 tyX10 tyX10_ok nmX10 rfl 2 1 (by decide) (by decide) (by decide)))).symm
      have m5661 := m5624.trans (Wr.neI wH5634 (Or.inr (x_apart hKT hts inX10 tyX10 tyX10_ok nmX10 rfl 3 1 (by decide) (by decide) (by decide)))).symm
      have m5662 := m5625.trans (Wr.neI wH5634 (Or.inr (x_apart hKT hts inX10 tyX10 tyX10_ok nmX10 rfl 59 1 (by decide) (by decide) (by decide)))).symm
      have m5663 := m5626.trans (Wr.neI wH5634 (Or.inr (x_apart hKT hts inX10 tyX10 tyX10_ok nmX10 rfl 62 1 (by decide) (by decide) (by decide)))).symm
      have m5664 := m5627.trans (Wr.neI wH5634 (Or.inr (x_apart hKT hts inX10 tyX10 tyX10_ok nmX10 rfl 65 1 (by decide) (by decide) (by decide)))).symm
      have m5665 := (Wr.neI wH5634 (Or.inr (x_apart hKT hts inX10 tyX10 tyX10_ok nmX10 rfl 0 1 (by decide) (by decide) (by decide)))).trans m5628
      have m5666 := m5629.trans (Wr.neI wH5634 (Or.inr (x_apart hKT hts inX10 tyX10 tyX10_ok nmX10 rfl 71 1 (by decide) (by decide) (by decide)))).symm
      have m5667 := (Wr.neI wH5634 (Or.inr (x_apart hKT hts inX10 tyX10 tyX10_ok nmX10 rfl 70 1 (by decide) (by decide) (by decide)))).trans m5630
      have m5668 := ex5594.trans (Wr.neI wH5634 (Or.inr (x_apart hKT hts inX10 tyX10 tyX10_ok nmX10 rfl 72 1 (by decide) (by decide) (by decide)))).symm
      have m5669 := Wr.I wH5634
      have m5669 := m5669.symm
      clear b5602 b5603 b5604 b5605 b5606 b5607 b5608 b5609 b5632 ex5594 g5596 hTH5592 m5595 m5611 m5612 m5613 m5614 m5615 m5616 m5617 m5618 m5619 m5620 m5621 m5622 m5623 m5624 m5625 m5626 m5627 m5628 m5629 m5630 mf5631 p5633
      refine lv_aload_n hx hb dX10_image_45 rfl (lv_at hl 0 rfl) ?_
      refine lv_aload_n hx hb dX10_image_46 rfl (lv_at hl 0 rfl) ?_
      refine lv_aload_n hx hb dX10_image_47 rfl (lv_at hl 0 rfl) ?_
      refine x_gi C hTH5634 (ci := 10) (k := 2) rfl inX10 (by decide) wF_X10_322 ga0 rg_112 rfl dX10_image_48 (fun x5670 ex5670 bx5670 => ?_)
      have ux5670 : s2 = x5670 := (m5660).trans ex5670.symm
      subst ux5670
      refine x_V (As := [.int s2]) (rest := [.ref a0]) C (a_X10_kept l K G H5634 (s2) (x5594) (x1) hTH5634 ga0 giq m5647 m5668 m5666 g5636 (by and_intros <;> first | assumption | omega)) yo_X10_kept wM_X10_473 ⟨⟨by decide, by decide⟩, by decide, by decide⟩ (x_rv C hTH5634 (ci := 10) rfl ga0 rg_112) rfl hl.1 rfl (Nat.le_of_ble_eq_true rfl) dX10_image_51 hSH5634 (AE_sub (fun _ _ => rfl) (by decide) hSH5634.1) (fun vH5671 H5671 locsH5671 pH5671 zH5671 kH5671 hSH5671 => ?_)
      obtain ⟨x5672, x5673, hvH5671, ex5673, hrH5671, m5674, g5675, mf5676, m5677, m5678, m5679, m5680, hTH5671⟩ := pH5671
      subst hvH5671
      clear zH5671
      replace m5674 := EQN.mk m5674
      have b5681 : UN (x1.toInt ≠ 0) (fun k => fI H5671 q4 k) (fun k => fI s.heap q4 k) := UN.congr (fun j => fI_kept (x_lt hTH5634 kH5671 gq4 (by decide))) b5637
      have b5682 : UN (x1.toInt ≠ 0) (fun k => fI H5671 q16 k) (fun k => fI s.heap q16 k) := UN.congr (fun j => fI_kept (x_lt hTH5634 kH5671 gq16 (by decide))) b5638
      have b5683 : UN (x1.toInt ≠ 0) (fun k => fI H5671 q24 k) (fun k => fI s.heap q24 k) := UN.congr (fun j => fI_kept (x_lt hTH5634 kH5671 gq24 (by decide))) b5639
      have b5684 : UN (x1.toInt ≠ 0) (fun k => fI H5671 q29 k) (fun k => fI s.heap q29 k) := UN.congr (fun j => fI_kept (x_lt hTH5634 kH5671 gq29 (by decide))) b5640
      have b5685 : UN (x1.toInt ≠ 0) (fun k => fI H5671 q30 k) (fun k => fI s.heap q30 k) := UN.congr (fun j => fI_kept (x_lt hTH5634 kH5671 gq30 (by decide))) b5641
      have b5686 : UN (x1.toInt ≠ 0) (fun k => fI H5671 q31 k) (fun k => fI s.heap q31 k) := UN.congr (fun j => fI_kept (x_lt hTH5634 kH5671 gq31 (by decide))) b5642
      have b5687 : UN (x1.toInt ≠ 0) (fun k => fI H5671 q32 k) (fun k => fI s.heap q32 k) := UN.congr (fun j => fI_kept (x_lt hTH5634 kH5671 gq32 (by decide))) b5643
      have b5688 : UN (x1.toInt ≠ 0) (fun k => fI H5671 q33 k) (fun k => fI s.heap q33 k) := UN.congr (fun j => fI_kept (x_lt hTH5634 kH5671 gq33 (by decide))) b5644
      have m5689 := (m5647).trans (MF.r mf5676 (k := 73) (by decide) (by decide)).symm
      have m5690 := (m5648).trans (MF.r mf5676 (k := 4) (by decide) (by decide)).symm
      have m5691 := (m5649).trans (MF.r mf5676 (k := 10) (by decide) (by decide)).symm
      have m5692 := (m5650).trans (MF.r mf5676 (k := 16) (by decide) (by decide)).symm
      have m5693 := (m5651).trans (MF.r mf5676 (k := 24) (by decide) (by decide)).symm
      have m5694 := (m5652).trans (MF.r mf5676 (k := 27) (by decide) (by decide)).symm
      have m5695 := (m5653).trans (MF.r mf5676 (k := 29) (by decide) (by decide)).symm
      have m5696 := (m5654).trans (MF.r mf5676 (k := 30) (by decide) (by decide)).symm
      have m5697 := (m5655).trans (MF.r mf5676 (k := 31) (by decide) (by decide)).symm
      have m5698 := (m5656).trans (MF.r mf5676 (k := 32) (by decide) (by decide)).symm
      have m5699 := (m5657).trans (MF.r mf5676 (k := 33) (by decide) (by decide)).symm
      have m5700 := (m5658).trans (MF.r mf5676 (k := 50) (by decide) (by decide)).symm
      have m5701 := (m5660).trans (MF.i mf5676 (k := 2) (by decide) (by decide)).symm
      have m5702 := (m5661).trans (MF.i mf5676 (k := 3) (by decide) (by decide)).symm
      have m5703 := (m5662).trans (MF.i mf5676 (k := 59) (by decide) (by decide)).symm
      have m5704 := (m5663).trans (MF.i mf5676 (k := 62) (by decide) (by decide)).symm
      have m5705 := (m5664).trans (MF.i mf5676 (k := 65) (by decide) (by decide)).symm
      have m5706 := (MF.i mf5676 (k := 0) (by decide) (by decide)).trans m5665
      have m5707 := (m5666).trans (MF.i mf5676 (k := 71) (by decide) (by decide)).symm
      have m5708 := (MF.i mf5676 (k := 70) (by decide) (by decide)).trans m5667
      have m5709 := (m5669).trans (MF.i mf5676 (k := 1) (by decide) (by decide)).symm
      have mf5710 : MF K s.heap H5671 a0 [0, 1, 2, 3, 59, 62, 65, 70, 71, 72] := MF.trans mf5635 mf5676 (by decide)
      have bx5673 := ty_fi (x := x5673) (k := 72) ex5673 hTH5671 ga0 rg_112 rfl
      have ce_x5594 := i_cl (x := x5594) (by omega)
      have b5711 : UN (x1.toInt = 0) (fun k => fI H5671 iq k) (fun k => fI s.heap iq k) := UN.tr m5680 b5645
      have b5712 : x5593 = fI H5671 iq (0) := (b5646).trans (m5679 _ (by omega)).symm
      clear b5637 b5638 b5639 b5640 b5641 b5642 b5643 b5644 b5645 b5646 m5647 m5648 m5649 m5650 m5651 m5652 m5653 m5654 m5655 m5656 m5657 m5658 m5660 m5661 m5662 m5663 m5664 m5665 m5666 m5667 m5668 m5669
      clear m5679 m5680
      have bx5672 : 0 ≤ x5672.toInt ∧ x5672.toInt ≤ 1 := kr (fun h0 => by have hiw := hIW; exact kr0 (w := fun k => fI H5671 iq k) m5677 (p := 1) (by omega) (b5711 h0) (hiw.1.2.1)) m5678 (by omega)
      have p5713 : x5672 = fI H5671 iq (1) := by have h := m5677; rw [show x5594.toNatClampNeg = 1 by omega] at h; exact h
      refine W.eq (g2 := F0 m 54 ls [.int x5672, .ref a0]) rfl ?_
      refine x_put C hTH5671 hSH5671 (ci := 10) (k := 2) (v := .int x5672) (ty0 := tyX10) rfl inX10 tyX10_ok nmX10 (by decide) rfl wF_X10_322 ga0 rg_112 rfl rfl (okI (by have := i_rng x5672; omega) (by have := i_rng x5672; omega)) rfl rfl (AE_in ga0 (by decide)) dX10_image_54 (fun H5714 locsH5714 hTH5714 hSH5714 wH5714 => ?_)
      have mf5715 : MF K s.heap H5714 a0 [0, 1, 2, 3, 59, 62, 65, 70, 71, 72] := MF.fld hap wH5714 (by decide) (by decide) mf5710
      have g5716 : WD (avw K H5714 a0) := WD.congr (fun k hk j => av_fld hTH5671 ga0 hap wH5714 (by decide) (WD_ok 112 (by decide) k hk) (WD_ne 2 (by decide) k hk)) g5675
      have b5717 : UN (x1.toInt ≠ 0) (fun k => fI H5714 q4 k) (fun k => fI s.heap q4 k) := UN.congr (fun j => Wr.neI wH5714 (Or.inl (G_ne gq4 ga0 (by decide)))) b5681
      have b5718 : UN (x1.toInt ≠ 0) (fun k => fI H5714 q16 k) (fun k => fI s.heap q16 k) := UN.congr (fun j => Wr.neI wH5714 (Or.inl (G_ne gq16 ga0 (by decide)))) b5682
      have b5719 : UN (x1.toInt ≠ 0) (fun k => fI H5714 q24 k) (fun k => fI s.heap q24 k) := UN.congr (fun j => Wr.neI wH5714 (Or.inl (G_ne gq24 ga0 (by decide)))) b5683
      have b5720 : UN (x1.toInt ≠ 0) (fun k => fI H5714 q29 k) (fun k => fI s.heap q29 k) := UN.congr (fun j => Wr.neI wH5714 (Or.inl (G_ne gq29 ga0 (by decide)))) b5684
      have b5721 : UN (x1.toInt ≠ 0) (fun k => fI H5714 q30 k) (fun k => fI s.heap q30 k) := UN.congr (fun j => Wr.neI wH5714 (Or.inl (G_ne gq30 ga0 (by decide)))) b5685
      have b5722 : UN (x1.toInt ≠ 0) (fun k => fI H5714 q31 k) (fun k => fI s.heap q31 k) := UN.congr (fun j => Wr.neI wH5714 (Or.inl (G_ne gq31 ga0 (by decide)))) b5686
      have b5723 : UN (x1.toInt ≠ 0) (fun k => fI H5714 q32 k) (fun k => fI s.heap q32 k) := UN.congr (fun j => Wr.neI wH5714 (Or.inl (G_ne gq32 ga0 (by decide)))) b5687
      have b5724 : UN (x1.toInt ≠ 0) (fun k => fI H5714 q33 k) (fun k => fI s.heap q33 k) := UN.congr (fun j => Wr.neI wH5714 (Or.inl (G_ne gq33 ga0 (by decide)))) b5688
      have b5725 : UN (x1.toInt = 0) (fun k => fI H5714 iq k) (fun k => fI s.heap iq k) := UN.congr (fun j => Wr.neI wH5714 (Or.inl (G_ne giq ga0 (by decide)))) b5711
      have b5726 : x5593 = fI H5714 iq (0) := (b5712).trans (Wr.neI wH5714 (Or.inl (G_ne giq ga0 (by decide)))).symm
      have b5727 : x5672 = fI H5714 iq (1) := (p5713).trans (Wr.neI wH5714 (Or.inl (G_ne giq ga0 (by decide)))).symm
      have m5728 := m5674.trans (Wr.neR wH5714 (Or.inr (x_apart hKT hts inX10 tyX10 tyX10_ok nmX10 rfl 73 2 (by decide) (by decide) (by decide)))).symm
      have m5729 := m5690.trans (Wr.neR wH5714 (Or.inr (x_apart hKT hts inX10 tyX10 tyX10_ok nmX10 rfl 4 2 (by decide) (by decide) (by decide)))).symm
      have m5730 := m5691.trans (Wr.neR wH5714 (Or.inr (x_apart hKT hts inX10 tyX10 tyX10_ok nmX10 rfl 10 2 (by decide) (by decide) (by decide)))).symm
      have m5731 := m5692.trans (Wr.neR wH5714 (Or.inr (x_apart hKT hts inX10 tyX10 tyX10_ok nmX10 rfl 16 2 (by decide) (by decide) (by decide)))).symm
      have m5732 := m5693.trans (Wr.neR wH5714 (Or.inr (x_apart hKT hts inX10 tyX10 tyX10_ok nmX10 rfl 24 2 (by decide) (by decide) (by decide)))).symm
      have m5733 := m5694.trans (Wr.neR wH5714 (Or.inr (x_apart hKT hts inX10 tyX10 tyX10_ok nmX10 rfl 27 2 (by decide) (by decide) (by decide)))).symm
      have m5734 := m5695.trans (Wr.neR wH5714 (Or.inr (x_apart hKT hts inX10 tyX10 tyX10_ok nmX10 rfl 29 2 (by decide) (by decide) (by decide)))).symm
      have m5735 := m5696.trans (Wr.neR wH5714 (Or.inr (x_apart hKT hts inX10 tyX10 tyX10_ok nmX10 rfl 30 2 (by decide) (by decide) (by decide)))).symm
      have m5736 := m5697.trans (Wr.neR wH5714 (Or.inr (x_apart hKT hts inX10 tyX10 tyX10_ok nmX10 rfl 31 2 (by decide) (by decide) (by decide)))).symm
      have m5737 := m5698.trans (Wr.neR wH5714 (Or.inr (x_apart hKT hts inX10 tyX10 tyX10_ok nmX10 rfl 32 2 (by decide) (by decide) (by decide)))).symm
      have m5738 := m5699.trans (Wr.neR wH5714 (Or.inr (x_apart hKT hts inX10 tyX10 tyX10_ok nmX10 rfl 33 2 (by decide) (by decide) (by decide)))).symm
      have m5739 := m5700.trans (Wr.neR wH5714 (Or.inr (x_apart hKT hts inX10 tyX10 tyX10_ok nmX10 rfl 50 2 (by decide) (by decide) (by decide)))).symm
      have m5741 := m5702.trans (Wr.neI wH5714 (Or.inr (x_apart hKT hts inX10 tyX10 tyX10_ok nmX10 rfl 3 2 (by decide) (by decide) (by decide)))).symm
      have m5742 := m5703.trans (Wr.neI wH5714 (Or.inr (x_apart hKT hts inX10 tyX10 tyX10_ok nmX10 rfl 59 2 (by decide) (by decide) (by decide)))).symm
      have m5743 := m5704.trans (Wr.neI wH5714 (Or.inr (x_apart hKT hts inX10 tyX10 tyX10_ok nmX10 rfl 62 2 (by decide) (by decide) (by decide)))).symm
      have m5744 := m5705.trans (Wr.neI wH5714 (Or.inr (x_apart hKT hts inX10 tyX10 tyX10_ok nmX10 rfl 65 2 (by decide) (by decide) (by decide)))).symm
      have m5745 := (Wr.neI wH5714 (Or.inr (x_apart hKT hts inX10 tyX10 tyX10_ok nmX10 rfl 0 2 (by decide) (by decide) (by decide)))).trans m5706
      have m5746 := m5707.trans (Wr.neI wH5714 (Or.inr (x_apart hKT hts inX10 tyX10 tyX10_ok nmX10 rfl 71 2 (by decide) (by decide) (by decide)))).symm
      have m5747 := (Wr.neI wH5714 (Or.inr (x_apart hKT hts inX10 tyX10 tyX10_ok nmX10 rfl 70 2 (by decide) (by decide) (by decide)))).trans m5708
      have m5748 := m5709.trans (Wr.neI wH5714 (Or.inr (x_apart hKT hts inX10 tyX10 tyX10_ok nmX10 rfl 1 2 (by decide) (by decide) (by decide)))).symm
      have m5749 := ex5673.trans (Wr.neI wH5714 (Or.inr (x_apart hKT hts inX10 tyX10 tyX10_ok nmX10 rfl 72 2 (by decide) (by decide) (by decide)))).symm
      have m5750 := Wr.I wH5714
      have m5750 := m5750.symm
      clear b5681 b5682 b5683 b5684 b5685 b5686 b5687 b5688 b5711 b5712 ex5673 g5675 hTH5671 m5674 m5690 m5691 m5692 m5693 m5694 m5695 m5696 m5697 m5698 m5699 m5700 m5701 m5702 m5703 m5704 m5705 m5706 m5707 m5708 m5709 mf5710 p5713
      refine lv_aload_n hx hb dX10_image_57 rfl (lv_at hl 0 rfl) ?_
      refine lv_aload_n hx hb dX10_image_58 rfl (lv_at hl 0 rfl) ?_
      refine lv_aload_n hx hb dX10_image_59 rfl (lv_at hl 0 rfl) ?_
      refine x_gi C hTH5714 (ci := 10) (k := 3) rfl inX10 (by decide) wF_X10_7 ga0 rg_112 rfl dX10_image_60 (fun x5751 ex5751 bx5751 => ?_)
      have ux5751 : s3 = x5751 := (m5741).trans ex5751.symm
      subst ux5751
      refine x_V (As := [.int s3]) (rest := [.ref a0]) C (a_X10_kept l K G H5714 (s3) (x5673) (x1) hTH5714 ga0 giq m5728 m5749 m5746 g5716 (by and_intros <;> first | assumption | omega)) yo_X10_kept wM_X10_473 ⟨⟨by decide, by decide⟩, by decide, by decide⟩ (x_rv C hTH5714 (ci := 10) rfl ga0 rg_112) rfl hl.1 rfl (Nat.le_of_ble_eq_true rfl) dX10_image_63 hSH5714 (AE_sub (fun _ _ => rfl) (by decide) hSH5714.1) (fun vH5752 H5752 locsH5752 pH5752 zH5752 kH5752 hSH5752 => ?_)
      obtain ⟨x5753, x5754, hvH5752, ex5754, hrH5752, m5755, g5756, mf5757, m5758, m5759, m5760, m5761, hTH5752⟩ := pH5752
      subst hvH5752
      clear zH5752
      replace m5755 := EQN.mk m5755
      have b5762 : UN (x1.toInt ≠ 0) (fun k => fI H5752 q4 k) (fun k => fI s.heap q4 k) := UN.congr (fun j => fI_kept (x_lt hTH5714 kH5752 gq4 (by decide))) b5717
      have b5763 : UN (x1.toInt ≠ 0) (fun k => fI H5752 q16 k) (fun k => fI s.heap q16 k) := UN.congr (fun j => fI_kept (x_lt hTH5714 kH5752 gq16 (by decide))) b5718
      have b5764 : UN (x1.toInt ≠ 0) (fun k => fI H5752 q24 k) (fun k => fI s.heap q24 k) := UN.congr (fun j => fI_kept (x_lt hTH5714 kH5752 gq24 (by decide))) b5719
      have b5765 : UN (x1.toInt ≠ 0) (fun k => fI H5752 q29 k) (fun k => fI s.heap q29 k) := UN.congr (fun j => fI_kept (x_lt hTH5714 kH5752 gq29 (by decide))) b5720
      have b5766 : UN (x1.toInt ≠ 0) (fun k => fI H5752 q30 k) (fun k => fI s.heap q30 k) := UN.congr (fun j => fI_kept (x_lt hTH5714 kH5752 gq30 (by decide))) b5721
      have b5767 : UN (x1.toInt ≠ 0) (fun k => fI H5752 q31 k) (fun k => fI s.heap q31 k) := UN.congr (fun j => fI_kept (x_lt hTH5714 kH5752 gq31 (by decide))) b5722
      have b5768 : UN (x1.toInt ≠ 0) (fun k => fI H5752 q32 k) (fun k => fI s.heap q32 k) := UN.congr (fun j => fI_kept (x_lt hTH5714 kH5752 gq32 (by decide))) b5723
      have b5769 : UN (x1.toInt ≠ 0) (fun k => fI H5752 q33 k) (fun k => fI s.heap q33 k) := UN.congr (fun j => fI_kept (x_lt hTH5714 kH5752 gq33 (by decide))) b5724
      have m5770 := (m5728).trans (MF.r mf5757 (k := 73) (by decide) (by decide)).symm
      have m5771 := (m5729).trans (MF.r mf5757 (k := 4) (by decide) (by decide)).symm
      have m5772 := (m5730).trans (MF.r mf5757 (k := 10) (by decide) (by decide)).symm
      have m5773 := (m5731).trans (MF.r mf5757 (k := 16) (by decide) (by decide)).symm
      have m5774 := (m5732).trans (MF.r mf5757 (k := 24) (by decide) (by decide)).symm
      have m5775 := (m5733).trans (MF.r mf5757 (k := 27) (by decide) (by decide)).symm
      have m5776 := (m5734).trans (MF.r mf5757 (k := 29) (by decide) (by decide)).symm
      have m5777 := (m5735).trans (MF.r mf5757 (k := 30) (by decide) (by decide)).symm
      have m5778 := (m5736).trans (MF.r mf5757 (k := 31) (by decide) (by decide)).symm
      have m5779 := (m5737).trans (MF.r mf5757 (k := 32) (by decide) (by decide)).symm
      have m5780 := (m5738).trans (MF.r mf5757 (k := 33) (by decide) (by decide)).symm
      have m5781 := (m5739).trans (MF.r mf5757 (k := 50) (by decide) (by decide)).symm
      have m5782 := (m5741).trans (MF.i mf5757 (k := 3) (by decide) (by decide)).symm
      have m5783 := (m5742).trans (MF.i mf5757 (k := 59) (by decide) (by decide)).symm
      have m5784 := (m5743).trans (MF.i mf5757 (k := 62) (by decide) (by decide)).symm
      have m5785 := (m5744).trans (MF.i mf5757 (k := 65) (by decide) (by decide)).symm
      have m5786 := (MF.i mf5757 (k := 0) (by decide) (by decide)).trans m5745
      have m5787 := (m5746).trans (MF.i mf5757 (k := 71) (by decide) (by decide)).symm
      have m5788 := (MF.i mf5757 (k := 70) (by decide) (by decide)).trans m5747
      have m5789 := (m5748).trans (MF.i mf5757 (k := 1) (by decide) (by decide)).symm
      have m5790 := (m5750).trans (MF.i mf5757 (k := 2) (by decide) (by decide)).symm
      have mf5791 : MF K s.heap H5752 a0 [0, 1, 2, 3, 59, 62, 65, 70, 71, 72] := MF.trans mf5715 mf5757 (by decide)
      have bx5754 := ty_fi (x := x5754) (k := 72) ex5754 hTH5752 ga0 rg_112 rfl
      have ce_x5673 := i_cl (x := x5673) (by omega)
      have b5792 : UN (x1.toInt = 0) (fun k => fI H5752 iq k) (fun k => fI s.heap iq k) := UN.tr m5761 b5725
      have b5793 : x5593 = fI H5752 iq (0) := (b5726).trans (m5760 _ (by omega)).symm
      have b5794 : x5672 = fI H5752 iq (1) := (b5727).trans (m5760 _ (by omega)).symm
      clear b5717 b5718 b5719 b5720 b5721 b5722 b5723 b5724 b5725 b5726 b5727 m5728 m5729 m5730 m5731 m5732 m5733 m5734 m5735 m5736 m5737 m5738 m5739 m5741 m5742 m5743 m5744 m5745 m5746 m5747 m5748 m5749 m5750
      clear m5760 m5761
      have p5795 : x5753 = fI H5752 iq (2) := by have h := m5758; rw [show x5673.toNatClampNeg = 2 by omega] at h; exact h
      refine W.eq (g2 := F0 m 66 ls [.int x5753, .ref a0]) rfl ?_
      refine x_put C hTH5752 hSH5752 (ci := 10) (k := 3) (v := .int x5753) (ty0 := tyX10) rfl inX10 tyX10_ok nmX10 (by decide) rfl wF_X10_7 ga0 rg_112 rfl rfl (okI (by have := i_rng x5753; omega) (by have := i_rng x5753; omega)) rfl rfl (AE_in ga0 (by decide)) dX10_image_66 (fun H5796 locsH5796 hTH5796 hSH5796 wH5796 => ?_)
      have mf5797 : MF K s.heap H5796 a0 [0, 1, 2, 3, 59, 62, 65, 70, 71, 72] := MF.fld hap wH5796 (by decide) (by decide) mf5791
      have g5798 : WD (avw K H5796 a0) := WD.congr (fun k hk j => av_fld hTH5752 ga0 hap wH5796 (by decide) (WD_ok 112 (by decide) k hk) (WD_ne 3 (by decide) k hk)) g5756
      have b5799 : UN (x1.toInt ≠ 0) (fun k => fI H5796 q4 k) (fun k => fI s.heap q4 k) := UN.congr (fun j => Wr.neI wH5796 (Or.inl (G_ne gq4 ga0 (by decide)))) b5762
      have b5800 : UN (x1.toInt ≠ 0) (fun k => fI H5796 q16 k) (fun k => fI s.heap q16 k) := UN.congr (fun j => Wr.neI wH5796 (Or.inl (G_ne gq16 ga0 (by decide)))) b5763
      have b5801 : UN (x1.toInt ≠ 0) (fun k => fI H5796 q24 k) (fun k => fI s.heap q24 k) := UN.congr (fun j => Wr.neI wH5796 (Or.inl (G_ne gq24 ga0 (by decide)))) b5764
      have b5802 : UN (x1.toInt ≠ 0) (fun k => fI H5796 q29 k) (fun k => fI s.heap q29 k) := UN.congr (fun j => Wr.neI wH5796 (Or.inl (G_ne gq29 ga0 (by decide)))) b5765
      have b5803 : UN (x1.toInt ≠ 0) (fun k => fI H5796 q30 k) (fun k => fI s.heap q30 k) := UN.congr (fun j => Wr.neI wH5796 (Or.inl (G_ne gq30 ga0 (by decide)))) b5766
      have b5804 : UN (x1.toInt ≠ 0) (fun k => fI H5796 q31 k) (fun k => fI s.heap q31 k) := UN.congr (fun j => Wr.neI wH5796 (Or.inl (G_ne gq31 ga0 (by decide)))) b5767
      have b5805 : UN (x1.toInt ≠ 0) (fun k => fI H5796 q32 k) (fun k => fI s.heap q32 k) := UN.congr (fun j => Wr.neI wH5796 (Or.inl (G_ne gq32 ga0 (by decide)))) b5768
      have b5806 : UN (x1.toInt ≠ 0) (fun k => fI H5796 q33 k) (fun k => fI s.heap q33 k) := UN.congr (fun j => Wr.neI wH5796 (Or.inl (G_ne gq33 ga0 (by decide)))) b5769
      have b5807 : UN (x1.toInt = 0) (fun k => fI H5796 iq k) (fun k => fI s.heap iq k) := UN.congr (fun j => Wr.neI wH5796 (Or.inl (G_ne giq ga0 (by decide)))) b5792
      have b5808 : x5593 = fI H5796 iq (0) := (b5793).trans (Wr.neI wH5796 (Or.inl (G_ne giq ga0 (by decide)))).symm
      have b5809 : x5672 = fI H5796 iq (1) := (b5794).trans (Wr.neI wH5796 (Or.inl (G_ne giq ga0 (by decide)))).symm
      have b5810 : x5753 = fI H5796 iq (2) := (p5795).trans (Wr.neI wH5796 (Or.inl (G_ne giq ga0 (by decide)))).symm
      have m5811 := m5755.trans (Wr.neR wH5796 (Or.inr (x_apart hKT hts inX10 tyX10 tyX10_ok nmX10 rfl 73 3 (by decide) (by decide) (by decide)))).symm
      have m5812 := m5771.trans (Wr.neR wH5796 (Or.inr (x_apart hKT hts inX10 tyX10 tyX10_ok nmX10 rfl 4 3 (by decide) (by decide) (by decide)))).symm
      have m5813 := m5772.trans (Wr.neR wH5796 (Or.inr (x_apart hKT hts inX10 tyX10 tyX10_ok nmX10 rfl 10 3 (by decide) (by decide) (by decide)))).symm
      have m5814 := m5773.trans (Wr.neR wH5796 (Or.inr (x_apart hKT hts inX10 tyX10 tyX10_ok nmX10 rfl 16 3 (by decide) (by decide) (by decide)))).symm
      have m5815 := m5774.trans (Wr.neR wH5796 (Or.inr (x_apart hKT hts inX10 tyX10 tyX10_ok nmX10 rfl 24 3 (by decide) (by decide) (by decide)))).symm
      have m5816 := m5775.trans (Wr.neR wH5796 (Or.inr (x_apart hKT hts inX10 tyX10 tyX10_ok nmX10 rfl 27 3 (by decide) (by decide) (by decide)))).symm
      have m5817 := m5776.trans (Wr.neR wH5796 (Or.inr (x_apart hKT hts inX10 tyX10 tyX10_ok nmX10 rfl 29 3 (by decide) (by decide) (by decide)))).symm
      have m5818 := m5777.trans (Wr.neR wH5796 (Or.inr (x_apart hKT hts inX10 tyX10 tyX10_ok nmX10 rfl 30 3 (by decide) (by decide) (by decide)))).symm
      have m5819 := m5778.trans (Wr.neR wH5796 (Or.inr (x_apart hKT hts inX10 tyX10 tyX10_ok nmX10 rfl 31 3 (by decide) (by decide) (by decide)))).symm
      have m5820 := m5779.trans (Wr.neR wH5796 (Or.inr (x_apart hKT hts inX10 tyX10 tyX10_ok nmX10 rfl 32 3 (by decide) (by decide) (by decide)))).symm
      have m5821 := m5780.trans (Wr.neR wH5796 (Or.inr (x_apart hKT hts inX10 tyX10 tyX10_ok nmX10 rfl 33 3 (by decide) (by decide) (by decide)))).symm
      have m5822 := m5781.trans (Wr.neR wH5796 (Or.inr (x_apart hKT hts inX10 tyX10 tyX10_ok nmX10 rfl 50 3 (by decide) (by decide) (by decide)))).symm
      have m5824 := m5783.trans (Wr.neI wH5796 (Or.inr (x_apart hKT hts inX10 tyX10 tyX10_ok nmX10 rfl 59 3 (by decide) (by decide) (by decide)))).symm
      have m5825 := m5784.trans (Wr.neI wH5796 (Or.inr (x_apart hKT hts inX10 tyX10 tyX10_ok nmX10 rfl 62 3 (by decide) (by decide) (by decide)))).symm
      have m5826 := m5785.trans (Wr.neI wH5796 (Or.inr (x_apart hKT hts inX10 tyX10 tyX10_ok nmX10 rfl 65 3 (by decide) (by decide) (by decide)))).symm
      have m5827 := (Wr.neI wH5796 (Or.inr (x_apart hKT hts inX10 tyX10 tyX10_ok nmX10 rfl 0 3 (by decide) (by decide) (by decide)))).trans m5786
      have m5828 := m5787.trans (Wr.neI wH5796 (Or.inr (x_apart hKT hts inX10 tyX10 tyX10_ok nmX10 rfl 71 3 (by decide) (by decide) (by decide)))).symm
      have m5829 := (Wr.neI wH5796 (Or.inr (x_apart hKT hts inX10 tyX10 tyX10_ok nmX10 rfl 70 3 (by decide) (by decide) (by decide)))).trans m5788
      have m5830 := m5789.trans (Wr.neI wH5796 (Or.inr (x_apart hKT hts inX10 tyX10 tyX10_ok nmX10 rfl 1 3 (by decide) (by decide) (by decide)))).symm
      have m5831 := m5790.trans (Wr.neI wH5796 (Or.inr (x_apart hKT hts inX10 tyX10 tyX10_ok nmX10 rfl 2 3 (by decide) (by decide) (by decide)))).symm
      have m5832 := ex5754.trans (Wr.neI wH5796 (Or.inr (x_apart hKT hts inX10 tyX10 tyX10_ok nmX10 rfl 72 3 (by decide) (by decide) (by decide)))).symm
      have m5833 := Wr.I wH5796
      have m5833 := m5833.symm
      clear b5762 b5763 b5764 b5765 b5766 b5767 b5768 b5769 b5792 b5793 b5794 ex5754 g5756 hTH5752 m5755 m5771 m5772 m5773 m5774 m5775 m5776 m5777 m5778 m5779 m5780 m5781 m5782 m5783 m5784 m5785 m5786 m5787 m5788 m5789 m5790 mf5791 p5795
      refine lv_aload_n hx hb dX10_image_69 rfl (lv_at hl 0 rfl) ?_
      refine lv_aload_n hx hb dX10_image_70 rfl (lv_at hl 0 rfl) ?_
      refine lv_aload_n hx hb dX10_image_71 rfl (lv_at hl 0 rfl) ?_
      refine x_gi C hTH5796 (ci := 10) (k := 59) rfl inX10 (by decide) wF_X10_438 ga0 rg_112 rfl dX10_image_72 (fun x5834 ex5834 bx5834 => ?_)
      have ux5834 : s59 = x5834 := (m5824).trans ex5834.symm
      subst ux5834
      refine x_V (As := [.int s59]) (rest := [.ref a0]) C (a_X10_kept l K G H5796 (s59) (x5754) (x1) hTH5796 ga0 giq m5811 m5832 m5828 g5798 (by and_intros <;> first | assumption | omega)) yo_X10_kept wM_X10_473 ⟨⟨by decide, by decide⟩, by decide, by decide⟩ (x_rv C hTH5796 (ci := 10) rfl ga0 rg_112) rfl hl.1 rfl (Nat.le_of_ble_eq_true rfl) dX10_image_75 hSH5796 (AE_sub (fun _ _ => rfl) (by decide) hSH5796.1) (fun vH5835 H5835 locsH5835 pH5835 zH5835 kH5835 hSH5835 => ?_)
      obtain ⟨x5836, x5837, hvH5835, ex5837, hrH5835, m5838, g5839, mf5840, m5841, m5842, m5843, m5844, hTH5835⟩ := pH5835
      subst hvH5835
      clear zH5835
      replace m5838 := EQN.mk m5838
      have b5845 : UN (x1.toInt ≠ 0) (fun k => fI H5835 q4 k) (fun k => fI s.heap q4 k) := UN.congr (fun j => fI_kept (x_lt hTH5796 kH5835 gq4 (by decide))) b5799
      have b5846 : UN (x1.toInt ≠ 0) (fun k => fI H5835 q16 k) (fun k => fI s.heap q16 k) := UN.congr (fun j => fI_kept (x_lt hTH5796 kH5835 gq16 (by decide))) b5800
      have b5847 : UN (x1.toInt ≠ 0) (fun k => fI H5835 q24 k) (fun k => fI s.heap q24 k) := UN.congr (fun j => fI_kept (x_lt hTH5796 kH5835 gq24 (by decide))) b5801
      have b5848 : UN (x1.toInt ≠ 0) (fun k => fI H5835 q29 k) (fun k => fI s.heap q29 k) := UN.congr (fun j => fI_kept (x_lt hTH5796 kH5835 gq29 (by decide))) b5802
      have b5849 : UN (x1.toInt ≠ 0) (fun k => fI H5835 q30 k) (fun k => fI s.heap q30 k) := UN.congr (fun j => fI_kept (x_lt hTH5796 kH5835 gq30 (by decide))) b5803
      have b5850 : UN (x1.toInt ≠ 0) (fun k => fI H5835 q31 k) (fun k => fI s.heap q31 k) := UN.congr (fun j => fI_kept (x_lt hTH5796 kH5835 gq31 (by decide))) b5804
      have b5851 : UN (x1.toInt ≠ 0) (fun k => fI H5835 q32 k) (fun k => fI s.heap q32 k) := UN.congr (fun j => fI_kept (x_lt hTH5796 kH5835 gq32 (by decide))) b5805
      have b5852 : UN (x1.toInt ≠ 0) (fun k => fI H5835 q33 k) (fun k => fI s.heap q33 k) := UN.congr (fun j => fI_kept (x_lt hTH5796 kH5835 gq33 (by decide))) b5806
      have m5853 := (m5811).trans (MF.r mf5840 (k := 73) (by decide) (by decide)).symm
      have m5854 := (m5812).trans (MF.r mf5840 (k := 4) (by decide) (by decide)).symm
      have m5855 := (m5813).trans (MF.r mf5840 (k := 10) (by decide) (by decide)).symm
      have m5856 := (m5814).trans (MF.r mf5840 (k := 16) (by decide) (by decide)).symm
      have m5857 := (m5815).trans (MF.r mf5840 (k := 24) (by decide) (by decide)).symm
      have m5858 := (m5816).trans (MF.r mf5840 (k := 27) (by decide) (by decide)).symm
      have m5859 := (m5817).trans (MF.r mf5840 (k := 29) (by decide) (by decide)).symm
      have m5860 := (m5818).trans (MF.r mf5840 (k := 30) (by decide) (by decide)).symm
      have m5861 := (m5819).trans (MF.r mf5840 (k := 31) (by decide) (by decide)).symm
      have m5862 := (m5820).trans (MF.r mf5840 (k := 32) (by decide) (by decide)).symm
      have m5863 := (m5821).trans (MF.r mf5840 (k := 33) (by decide) (by decide)).symm
      have m5864 := (m5822).trans (MF.r mf5840 (k := 50) (by decide) (by decide)).symm
      have m5865 := (m5824).trans (MF.i mf5840 (k := 59) (by decide) (by decide)).symm
      have m5866 := (m5825).trans (MF.i mf5840 (k := 62) (by decide) (by decide)).symm
      have m5867 := (m5826).trans (MF.i mf5840 (k := 65) (by decide) (by decide)).symm
      have m5868 := (MF.i mf5840 (k := 0) (by decide) (by decide)).trans m5827
      have m5869 := (m5828).trans (MF.i mf5840 (k := 71) (by decide) (by decide)).symm
      have m5870 := (MF.i mf5840 (k := 70) (by decide) (by decide)).trans m5829
      have m5871 := (m5830).trans (MF.i mf5840 (k := 1) (by decide) (by decide)).symm
      have m5872 := (m5831).trans (MF.i mf5840 (k := 2) (by decide) (by decide)).symm
      have m5873 := (m5833).trans (MF.i mf5840 (k := 3) (by decide) (by decide)).symm
      have mf5874 : MF K s.heap H5835 a0 [0, 1, 2, 3, 59, 62, 65, 70, 71, 72] := MF.trans mf5797 mf5840 (by decide)
      have bx5837 := ty_fi (x := x5837) (k := 72) ex5837 hTH5835 ga0 rg_112 rfl
      have ce_x5754 := i_cl (x := x5754) (by omega)
      have b5875 : UN (x1.toInt = 0) (fun k => fI H5835 iq k) (fun k => fI s.heap iq k) := UN.tr m5844 b5807
      have b5876 : x5593 = fI H5835 iq (0) := (b5808).trans (m5843 _ (by omega)).symm
      have b5877 : x5672 = fI H5835 iq (1) := (b5809).trans (m5843 _ (by omega)).symm
      have b5878 : x5753 = fI H5835 iq (2) := (b5810).trans (m5843 _ (by omega)).symm
      clear b5799 b5800 b5801 b5802 b5803 b5804 b5805 b5806 b5807 b5808 b5809 b5810 m5811 m5812 m5813 m5814 m5815 m5816 m5817 m5818 m5819 m5820 m5821 m5822 m5824 m5825 m5826 m5827 m5828 m5829 m5830 m5831 m5832 m5833
      clear m5843 m5844
      have bx5836 : 0 ≤ x5836.toInt ∧ x5836.toInt ≤ 20 := kr (fun h0 => by have hiw := hIW; exact kr0 (w := fun k => fI H5835 iq k) m5841 (p := 3) (by omega) (b5875 h0) (hiw.1.2.2.1)) m5842 (by omega)
      have p5879 : x5836 = fI H5835 iq (3) := by have h := m5841; rw [show x5754.toNatClampNeg = 3 by omega] at h; exact h
      refine W.eq (g2 := F0 m 78 ls [.int x5836, .ref a0]) rfl ?_
      refine x_put C hTH5835 hSH5835 (ci := 10) (k := 59) (v := .int x5836) (ty0 := tyX10) rfl inX10 tyX10_ok nmX10 (by decide) rfl wF_X10_438 ga0 rg_112 rfl rfl (okI (by have := i_rng x5836; omega) (by have := i_rng x5836; omega)) rfl rfl (AE_in ga0 (by decide)) dX10_image_78 (fun H5880 locsH5880 hTH5880 hSH5880 wH5880 => ?_)
      have mf5881 : MF K s.heap H5880 a0 [0, 1, 2, 3, 59, 62, 65, 70, 71, 72] := MF.fld hap wH5880 (by decide) (by decide) mf5874
      have g5882 : WD (avw K H5880 a0) := WD.congr (fun k hk j => av_fld hTH5835 ga0 hap wH5880 (by decide) (WD_ok 112 (by decide) k hk) (WD_ne 59 (by decide) k hk)) g5839
      have b5883 : UN (x1.toInt ≠ 0) (fun k => fI H5880 q4 k) (fun k => fI s.heap q4 k) := UN.congr (fun j => Wr.neI wH5880 (Or.inl (G_ne gq4 ga0 (by decide)))) b5845
      have b5884 : UN (x1.toInt ≠ 0) (fun k => fI H5880 q16 k) (fun k => fI s.heap q16 k) := UN.congr (fun j => Wr.neI wH5880 (Or.inl (G_ne gq16 ga0 (by decide)))) b5846
      have b5885 : UN (x1.toInt ≠ 0) (fun k => fI H5880 q24 k) (fun k => fI s.heap q24 k) := UN.congr (fun j => Wr.neI wH5880 (Or.inl (G_ne gq24 ga0 (by decide)))) b5847
      have b5886 : UN (x1.toInt ≠ 0) (fun k => fI H5880 q29 k) (fun k => fI s.heap q29 k) := UN.congr (fun j => Wr.neI wH5880 (Or.inl (G_ne gq29 ga0 (by decide)))) b5848
      have b5887 : UN (x1.toInt ≠ 0) (fun k => fI H5880 q30 k) (fun k => fI s.heap q30 k) := UN.congr (fun j => Wr.neI wH5880 (Or.inl (G_ne gq30 ga0 (by decide)))) b5849
      have b5888 : UN (x1.toInt ≠ 0) (fun k => fI H5880 q31 k) (fun k => fI s.heap q31 k) := UN.congr (fun j => Wr.neI wH5880 (Or.inl (G_ne gq31 ga0 (by decide)))) b5850
      have b5889 : UN (x1.toInt ≠ 0) (fun k => fI H5880 q32 k) (fun k => fI s.heap q32 k) := UN.congr (fun j => Wr.neI wH5880 (Or.inl (G_ne gq32 ga0 (by decide)))) b5851
      have b5890 : UN (x1.toInt ≠ 0) (fun k => fI H5880 q33 k) (fun k => fI s.heap q33 k) := UN.congr (fun j => Wr.neI wH5880 (Or.inl (G_ne gq33 ga0 (by decide)))) b5852
      have b5891 : UN (x1.toInt = 0) (fun k => fI H5880 iq k) (fun k => fI s.heap iq k) := UN.congr (fun j => Wr.neI wH5880 (Or.inl (G_ne giq ga0 (by decide)))) b5875
      have b5892 : x5593 = fI H5880 iq (0) := (b5876).trans (Wr.neI wH5880 (Or.inl (G_ne giq ga0 (by decide)))).symm
      have b5893 : x5672 = fI H5880 iq (1) := (b5877).trans (Wr.neI wH5880 (Or.inl (G_ne giq ga0 (by decide)))).symm
      have b5894 : x5753 = fI H5880 iq (2) := (b5878).trans (Wr.neI wH5880 (Or.inl (G_ne giq ga0 (by decide)))).symm
      have b5895 : x5836 = fI H5880 iq (3) := (p5879).trans (Wr.neI wH5880 (Or.inl (G_ne giq ga0 (by decide)))).symm
      have m5896 := m5838.trans (Wr.neR wH5880 (Or.inr (x_apart hKT hts inX10 tyX10 tyX10_ok nmX10 rfl 73 59 (by decide) (by decide) (by decide)))).symm
      have m5897 := m5854.trans (Wr.neR wH5880 (Or.inr (x_apart hKT hts inX10 tyX10 tyX10_ok nmX10 rfl 4 59 (by decide) (by decide) (by decide)))).symm
      have m5898 := m5855.trans (Wr.neR wH5880 (Or.inr (x_apart hKT hts inX10 tyX10 tyX10_ok nmX10 rfl 10 59 (by decide) (by decide) (by decide)))).symm
      have m5899 := m5856.trans (Wr.neR wH5880 (Or.inr (x_apart hKT hts inX10 tyX10 tyX10_ok nmX10 rfl 16 59 (by decide) (by decide) (by decide)))).symm
      have m5900 := m5857.trans (Wr.neR wH5880 (Or.inr (x_apart hKT hts inX10 tyX10 tyX10_ok nmX10 rfl 24 59 (by decide) (by decide) (by decide)))).symm
      have m5901 := m5858.trans (Wr.neR wH5880 (Or.inr (x_apart hKT hts inX10 tyX10 tyX10_ok nmX10 rfl 27 59 (by decide) (by decide) (by decide)))).symm
      have m5902 := m5859.trans (Wr.neR wH5880 (Or.inr (x_apart hKT hts inX10 tyX10 tyX10_ok nmX10 rfl 29 59 (by decide) (by decide) (by decide)))).symm
      have m5903 := m5860.trans (Wr.neR wH5880 (Or.inr (x_apart hKT hts inX10 tyX10 tyX10_ok nmX10 rfl 30 59 (by decide) (by decide) (by decide)))).symm
      have m5904 := m5861.trans (Wr.neR wH5880 (Or.inr (x_apart hKT hts inX10 tyX10 tyX10_ok nmX10 rfl 31 59 (by decide) (by decide) (by decide)))).symm
      have m5905 := m5862.trans (Wr.neR wH5880 (Or.inr (x_apart hKT hts inX10 tyX10 tyX10_ok nmX10 rfl 32 59 (by decide) (by decide) (by decide)))).symm
      have m5906 := m5863.trans (Wr.neR wH5880 (Or.inr (x_apart hKT hts inX10 tyX10 tyX10_ok nmX10 rfl 33 59 (by decide) (by decide) (by decide)))).symm
      have m5907 := m5864.trans (Wr.neR wH5880 (Or.inr (x_apart hKT hts inX10 tyX10 tyX10_ok nmX10 rfl 50 59 (by decide) (by decide) (by decide)))).symm
      have m5909 := m5866.trans (Wr.neI wH5880 (Or.inr (x_apart hKT hts inX10 tyX10 tyX10_ok nmX10 rfl 62 59 (by decide) (by decide) (by decide)))).symm
      have m5910 := m5867.trans (Wr.neI wH5880 (Or.inr (x_apart hKT hts inX10 tyX10 tyX10_ok nmX10 rfl 65 59 (by decide) (by decide) (by decide)))).symm
      have m5911 := (Wr.neI wH5880 (Or.inr (x_apart hKT hts inX10 tyX10 tyX10_ok nmX10 rfl 0 59 (by decide) (by decide) (by decide)))).trans m5868
      have m5912 := m5869.trans (Wr.neI wH5880 (Or.inr (x_apart hKT hts inX10 tyX10 tyX10_ok nmX10 rfl 71 59 (by decide) (by decide) (by decide)))).symm
      have m5913 := (Wr.neI wH5880 (Or.inr (x_apart hKT hts inX10 tyX10 tyX10_ok nmX10 rfl 70 59 (by decide) (by decide) (by decide)))).trans m5870
      have m5914 := m5871.trans (Wr.neI wH5880 (Or.inr (x_apart hKT hts inX10 tyX10 tyX10_ok nmX10 rfl 1 59 (by decide) (by decide) (by decide)))).symm
      have m5915 := m5872.trans (Wr.neI wH5880 (Or.inr (x_apart hKT hts inX10 tyX10 tyX10_ok nmX10 rfl 2 59 (by decide) (by decide) (by decide)))).symm
      have m5916 := m5873.trans (Wr.neI wH5880 (Or.inr (x_apart hKT hts inX10 tyX10 tyX10_ok nmX10 rfl 3 59 (by decide) (by decide) (by decide)))).symm
      have m5917 := ex5837.trans (Wr.neI wH5880 (Or.inr (x_apart hKT hts inX10 tyX10 tyX10_ok nmX10 rfl 72 59 (by decide) (by decide) (by decide)))).symm
      have m5918 := Wr.I wH5880
      have m5918 := m5918.symm
      clear b5845 b5846 b5847 b5848 b5849 b5850 b5851 b5852 b5875 b5876 b5877 b5878 ex5837 g5839 hTH5835 m5838 m5854 m5855 m5856 m5857 m5858 m5859 m5860 m5861 m5862 m5863 m5864 m5865 m5866 m5867 m5868 m5869 m5870 m5871 m5872 m5873 mf5874 p5879
      refine lv_aload_n hx hb dX10_image_81 rfl (lv_at hl 0 rfl) ?_
      refine lv_aload_n hx hb dX10_image_82 rfl (lv_at hl 0 rfl) ?_
      refine lv_aload_n hx hb dX10_image_83 rfl (lv_at hl 0 rfl) ?_
      refine x_gi C hTH5880 (ci := 10) (k := 62) rfl inX10 (by decide) wF_X10_455 ga0 rg_112 rfl dX10_image_84 (fun x5919 ex5919 bx5919 => ?_)
      have ux5919 : s62 = x5919 := (m5909).trans ex5919.symm
      subst ux5919
      refine x_V (As := [.int s62]) (rest := [.ref a0]) C (a_X10_kept l K G H5880 (s62) (x5837) (x1) hTH5880 ga0 giq m5896 m5917 m5912 g5882 (by and_intros <;> first | assumption | omega)) yo_X10_kept wM_X10_473 ⟨⟨by decide, by decide⟩, by decide, by decide⟩ (x_rv C hTH5880 (ci := 10) rfl ga0 rg_112) rfl hl.1 rfl (Nat.le_of_ble_eq_true rfl) dX10_image_87 hSH5880 (AE_sub (fun _ _ => rfl) (by decide) hSH5880.1) (fun vH5920 H5920 locsH5920 pH5920 zH5920 kH5920 hSH5920 => ?_)
      obtain ⟨x5921, x5922, hvH5920, ex5922, hrH5920, m5923, g5924, mf5925, m5926, m5927, m5928, m5929, hTH5920⟩ := pH5920
      subst hvH5920
      clear zH5920
      replace m5923 := EQN.mk m5923
      have b5930 : UN (x1.toInt ≠ 0) (fun k => fI H5920 q4 k) (fun k => fI s.heap q4 k) := UN.congr (fun j => fI_kept (x_lt hTH5880 kH5920 gq4 (by decide))) b5883
      have b5931 : UN (x1.toInt ≠ 0) (fun k => fI H5920 q16 k) (fun k => fI s.heap q16 k) := UN.congr (fun j => fI_kept (x_lt hTH5880 kH5920 gq16 (by decide))) b5884
      have b5932 : UN (x1.toInt ≠ 0) (fun k => fI H5920 q24 k) (fun k => fI s.heap q24 k) := UN.congr (fun j => fI_kept (x_lt hTH5880 kH5920 gq24 (by decide))) b5885
      have b5933 : UN (x1.toInt ≠ 0) (fun k => fI H5920 q29 k) (fun k => fI s.heap q29 k) := UN.congr (fun j => fI_kept (x_lt hTH5880 kH5920 gq29 (by decide))) b5886
      have b5934 : UN (x1.toInt ≠ 0) (fun k => fI H5920 q30 k) (fun k => fI s.heap q30 k) := UN.congr (fun j => fI_kept (x_lt hTH5880 kH5920 gq30 (by decide))) b5887
      have b5935 : UN (x1.toInt ≠ 0) (fun k => fI H5920 q31 k) (fun k => fI s.heap q31 k) := UN.congr (fun j => fI_kept (x_lt hTH5880 kH5920 gq31 (by decide))) b5888
      have b5936 : UN (x1.toInt ≠ 0) (fun k => fI H5920 q32 k) (fun k => fI s.heap q32 k) := UN.congr (fun j => fI_kept (x_lt hTH5880 kH5920 gq32 (by decide))) b5889
      have b5937 : UN (x1.toInt ≠ 0) (fun k => fI H5920 q33 k) (fun k => fI s.heap q33 k) := UN.congr (fun j => fI_kept (x_lt hTH5880 kH5920 gq33 (by decide))) b5890
      have m5938 := (m5896).trans (MF.r mf5925 (k := 73) (by decide) (by decide)).symm
      have m5939 := (m5897).trans (MF.r mf5925 (k := 4) (by decide) (by decide)).symm
      have m5940 := (m5898).trans (MF.r mf5925 (k := 10) (by decide) (by decide)).symm
      have m5941 := (m5899).trans (MF.r mf5925 (k := 16) (by decide) (by decide)).symm
      have m5942 := (m5900).trans (MF.r mf5925 (k := 24) (by decide) (by decide)).symm
      have m5943 := (m5901).trans (MF.r mf5925 (k := 27) (by decide) (by decide)).symm
      have m5944 := (m5902).trans (MF.r mf5925 (k := 29) (by decide) (by decide)).symm
      have m5945 := (m5903).trans (MF.r mf5925 (k := 30) (by decide) (by decide)).symm
      have m5946 := (m5904).trans (MF.r mf5925 (k := 31) (by decide) (by decide)).symm
      have m5947 := (m5905).trans (MF.r mf5925 (k := 32) (by decide) (by decide)).symm
      have m5948 := (m5906).trans (MF.r mf5925 (k := 33) (by decide) (by decide)).symm
      have m5949 := (m5907).trans (MF.r mf5925 (k := 50) (by decide) (by decide)).symm
      have m5950 := (m5909).trans (MF.i mf5925 (k := 62) (by decide) (by decide)).symm
      have m5951 := (m5910).trans (MF.i mf5925 (k := 65) (by decide) (by decide)).symm
      have m5952 := (MF.i mf5925 (k := 0) (by decide) (by decide)).trans m5911
      have m5953 := (m5912).trans (MF.i mf5925 (k := 71) (by decide) (by decide)).symm
      have m5954 := (MF.i mf5925 (k := 70) (by decide) (by decide)).trans m5913
      have m5955 := (m5914).trans (MF.i mf5925 (k := 1) (by decide) (by decide)).symm
      have m5956 := (m5915).trans (MF.i mf5925 (k := 2) (by decide) (by decide)).symm
      have m5957 := (m5916).trans (MF.i mf5925 (k := 3) (by decide) (by decide)).symm
      have m5958 := (m5918).trans (MF.i mf5925 (k := 59) (by decide) (by decide)).symm
      have mf5959 : MF K s.heap H5920 a0 [0, 1, 2, 3, 59, 62, 65, 70, 71, 72] := MF.trans mf5881 mf5925 (by decide)
      have bx5922 := ty_fi (x := x5922) (k := 72) ex5922 hTH5920 ga0 rg_112 rfl
      have ce_x5837 := i_cl (x := x5837) (by omega)
      have b5960 : UN (x1.toInt = 0) (fun k => fI H5920 iq k) (fun k => fI s.heap iq k) := UN.tr m5929 b5891
      have b5961 : x5593 = fI H5920 iq (0) := (b5892).trans (m5928 _ (by omega)).symm
      have b5962 : x5672 = fI H5920 iq (1) := (b5893).trans (m5928 _ (by omega)).symm
      have b5963 : x5753 = fI H5920 iq (2) := (b5894).trans (m5928 _ (by omega)).symm
      have b5964 : x5836 = fI H5920 iq (3) := (b5895).trans (m5928 _ (by omega)).symm
      clear b5883 b5884 b5885 b5886 b5887 b5888 b5889 b5890 b5891 b5892 b5893 b5894 b5895 m5896 m5897 m5898 m5899 m5900 m5901 m5902 m5903 m5904 m5905 m5906 m5907 m5909 m5910 m5911 m5912 m5913 m5914 m5915 m5916 m5917 m5918
      clear m5928 m5929
      have bx5921 : 0 ≤ x5921.toInt ∧ x5921.toInt ≤ 8 := kr (fun h0 => by have hiw := hIW; exact kr0 (w := fun k => fI H5920 iq k) m5926 (p := 4) (by omega) (b5960 h0) (hiw.1.2.2.2.1)) m5927 (by omega)
      have p5965 : x5921 = fI H5920 iq (4) := by have h := m5926; rw [show x5837.toNatClampNeg = 4 by omega] at h; exact h
      refine W.eq (g2 := F0 m 90 ls [.int x5921, .ref a0]) rfl ?_
      refine x_put C hTH5920 hSH5920 (ci := 10) (k := 62) (v := .int x5921) (ty0 := tyX10) rfl inX10 tyX10_ok nmX10 (by decide) rfl wF_X10_455 ga0 rg_112 rfl rfl (okI (by have := i_rng x5921; omega) (by have := i_rng x5921; omega)) rfl rfl (AE_in ga0 (by decide)) dX10_image_90 (fun H5966 locsH5966 hTH5966 hSH5966 wH5966 => ?_)
      have mf5967 : MF K s.heap H5966 a0 [0, 1, 2, 3, 59, 62, 65, 70, 71, 72] := MF.fld hap wH5966 (by decide) (by decide) mf5959
      have g5968 : WD (avw K H5966 a0) := WD.congr (fun k hk j => av_fld hTH5920 ga0 hap wH5966 (by decide) (WD_ok 112 (by decide) k hk) (WD_ne 62 (by decide) k hk)) g5924
      have b5969 : UN (x1.toInt ≠ 0) (fun k => fI H5966 q4 k) (fun k => fI s.heap q4 k) := UN.congr (fun j => Wr.neI wH5966 (Or.inl (G_ne gq4 ga0 (by decide)))) b5930
      have b5970 : UN (x1.toInt ≠ 0) (fun k => fI H5966 q16 k) (fun k => fI s.heap q16 k) := UN.congr (fun j => Wr.neI wH5966 (Or.inl (G_ne gq16 ga0 (by decide)))) b5931
      have b5971 : UN (x1.toInt ≠ 0) (fun k => fI H5966 q24 k) (fun k => fI s.heap q24 k) := UN.congr (fun j => Wr.neI wH5966 (Or.inl (G_ne gq24 ga0 (by decide)))) b5932
      have b5972 : UN (x1.toInt ≠ 0) (fun k => fI H5966 q29 k) (fun k => fI s.heap q29 k) := UN.congr (fun j => Wr.neI wH5966 (Or.inl (G_ne gq29 ga0 (by decide)))) b5933
      have b5973 : UN (x1.toInt ≠ 0) (fun k => fI H5966 q30 k) (fun k => fI s.heap q30 k) := UN.congr (fun j => Wr.neI wH5966 (Or.inl (G_ne gq30 ga0 (by decide)))) b5934
      have b5974 : UN (x1.toInt ≠ 0) (fun k => fI H5966 q31 k) (fun k => fI s.heap q31 k) := UN.congr (fun j => Wr.neI wH5966 (Or.inl (G_ne gq31 ga0 (by decide)))) b5935
      have b5975 : UN (x1.toInt ≠ 0) (fun k => fI H5966 q32 k) (fun k => fI s.heap q32 k) := UN.congr (fun j => Wr.neI wH5966 (Or.inl (G_ne gq32 ga0 (by decide)))) b5936
      have b5976 : UN (x1.toInt ≠ 0) (fun k => fI H5966 q33 k) (fun k => fI s.heap q33 k) := UN.congr (fun j => Wr.neI wH5966 (Or.inl (G_ne gq33 ga0 (by decide)))) b5937
      have b5977 : UN (x1.toInt = 0) (fun k => fI H5966 iq k) (fun k => fI s.heap iq k) := UN.congr (fun j => Wr.neI wH5966 (Or.inl (G_ne giq ga0 (by decide)))) b5960
      have b5978 : x5593 = fI H5966 iq (0) := (b5961).trans (Wr.neI wH5966 (Or.inl (G_ne giq ga0 (by decide)))).symm
      have b5979 : x5672 = fI H5966 iq (1) := (b5962).trans (Wr.neI wH5966 (Or.inl (G_ne giq ga0 (by decide)))).symm
      have b5980 : x5753 = fI H5966 iq (2) := (b5963).trans (Wr.neI wH5966 (Or.inl (G_ne giq ga0 (by decide)))).symm
      have b5981 : x5836 = fI H5966 iq (3) := (b5964).trans (Wr.neI wH5966 (Or.inl (G_ne giq ga0 (by decide)))).symm
      have b5982 : x5921 = fI H5966 iq (4) := (p5965).trans (Wr.neI wH5966 (Or.inl (G_ne giq ga0 (by decide)))).symm
      have m5983 := m5923.trans (Wr.neR wH5966 (Or.inr (x_apart hKT hts inX10 tyX10 tyX10_ok nmX10 rfl 73 62 (by decide) (by decide) (by decide)))).symm
      have m5984 := m5939.trans (Wr.neR wH5966 (Or.inr (x_apart hKT hts inX10 tyX10 tyX10_ok nmX10 rfl 4 62 (by decide) (by decide) (by decide)))).symm
      have m5985 := m5940.trans (Wr.neR wH5966 (Or.inr (x_apart hKT hts inX10 tyX10 tyX10_ok nmX10 rfl 10 62 (by decide) (by decide) (by decide)))).symm
      have m5986 := m5941.trans (Wr.neR wH5966 (Or.inr (x_apart hKT hts inX10 tyX10 tyX10_ok nmX10 rfl 16 62 (by decide) (by decide) (by decide)))).symm
      have m5987 := m5942.trans (Wr.neR wH5966 (Or.inr (x_apart hKT hts inX10 tyX10 tyX10_ok nmX10 rfl 24 62 (by decide) (by decide) (by decide)))).symm
      have m5988 := m5943.trans (Wr.neR wH5966 (Or.inr (x_apart hKT hts inX10 tyX10 tyX10_ok nmX10 rfl 27 62 (by decide) (by decide) (by decide)))).symm
      have m5989 := m5944.trans (Wr.neR wH5966 (Or.inr (x_apart hKT hts inX10 tyX10 tyX10_ok nmX10 rfl 29 62 (by decide) (by decide) (by decide)))).symm
      have m5990 := m5945.trans (Wr.neR wH5966 (Or.inr (x_apart hKT hts inX10 tyX10 tyX10_ok nmX10 rfl 30 62 (by decide) (by decide) (by decide)))).symm
      have m5991 := m5946.trans (Wr.neR wH5966 (Or.inr (x_apart hKT hts inX10 tyX10 tyX10_ok nmX10 rfl 31 62 (by decide) (by decide) (by decide)))).symm
      have m5992 := m5947.trans (Wr.neR wH5966 (Or.inr (x_apart hKT hts inX10 tyX10 tyX10_ok nmX10 rfl 32 62 (by decide) (by decide) (by decide)))).symm
      have m5993 := m5948.trans (Wr.neR wH5966 (Or.inr (x_apart hKT hts inX10 tyX10 tyX10_ok nmX10 rfl 33 62 (by decide) (by decide) (by decide)))).symm
      have m5994 := m5949.trans (Wr.neR wH5966 (Or.inr (x_apart hKT hts inX10 tyX10 tyX10_ok nmX10 rfl 50 62 (by decide) (by decide) (by decide)))).symm
      have m5996 := m5951.trans (Wr.neI wH5966 (Or.inr (x_apart hKT hts inX10 tyX10 tyX10_ok nmX10 rfl 65 62 (by decide) (by decide) (by decide)))).symm
      have m5997 := (Wr.neI wH5966 (Or.inr (x_apart hKT hts inX10 tyX10 tyX10_ok nmX10 rfl 0 62 (by decide) (by decide) (by decide)))).trans m5952
      have m5998 := m5953.trans (Wr.neI wH5966 (Or.inr (x_apart hKT hts inX10 tyX10 tyX10_ok nmX10 rfl 71 62 (by decide) (by decide) (by decide)))).symm
      have m5999 := (Wr.neI wH5966 (Or.inr (x_apart hKT hts inX10 tyX10 tyX10_ok nmX10 rfl 70 62 (by decide) (by decide) (by decide)))).trans m5954
      have m6000 := m5955.trans (Wr.neI wH5966 (Or.inr (x_apart hKT hts inX10 tyX10 tyX10_ok nmX10 rfl 1 62 (by decide) (by decide) (by decide)))).symm
      have m6001 := m5956.trans (Wr.neI wH5966 (Or.inr (x_apart hKT hts inX10 tyX10 tyX10_ok nmX10 rfl 2 62 (by decide) (by decide) (by decide)))).symm
      have m6002 := m5957.trans (Wr.neI wH5966 (Or.inr (x_apart hKT hts inX10 tyX10 tyX10_ok nmX10 rfl 3 62 (by decide) (by decide) (by decide)))).symm
      have m6003 := m5958.trans (Wr.neI wH5966 (Or.inr (x_apart hKT hts inX10 tyX10 tyX10_ok nmX10 rfl 59 62 (by decide) (by decide) (by decide)))).symm
      have m6004 := ex5922.trans (Wr.neI wH5966 (Or.inr (x_apart hKT hts inX10 tyX10 tyX10_ok nmX10 rfl 72 62 (by decide) (by decide) (by decide)))).symm
      have m6005 := Wr.I wH5966
      have m6005 := m6005.symm
      clear b5930 b5931 b5932 b5933 b5934 b5935 b5936 b5937 b5960 b5961 b5962 b5963 b5964 ex5922 g5924 hTH5920 m5923 m5939 m5940 m5941 m5942 m5943 m5944 m5945 m5946 m5947 m5948 m5949 m5950 m5951 m5952 m5953 m5954 m5955 m5956 m5957 m5958 mf5959 p5965
      refine lv_aload_n hx hb dX10_image_93 rfl (lv_at hl 0 rfl) ?_
      refine lv_aload_n hx hb dX10_image_94 rfl (lv_at hl 0 rfl) ?_
      refine lv_aload_n hx hb dX10_image_95 rfl (lv_at hl 0 rfl) ?_
      refine x_gi C hTH5966 (ci := 10) (k := 65) rfl inX10 (by decide) wF_X10_458 ga0 rg_112 rfl dX10_image_96 (fun x6006 ex6006 bx6006 => ?_)
      have ux6006 : s65 = x6006 := (m5996).trans ex6006.symm
      subst ux6006
      refine x_V (As := [.int s65]) (rest := [.ref a0]) C (a_X10_kept l K G H5966 (s65) (x5922) (x1) hTH5966 ga0 giq m5983 m6004 m5998 g5968 (by and_intros <;> first | assumption | omega)) yo_X10_kept wM_X10_473 ⟨⟨by decide, by decide⟩, by decide, by decide⟩ (x_rv C hTH5966 (ci := 10) rfl ga0 rg_112) rfl hl.1 rfl (Nat.le_of_ble_eq_true rfl) dX10_image_99 hSH5966 (AE_sub (fun _ _ => rfl) (by decide) hSH5966.1) (fun vH6007 H6007 locsH6007 pH6007 zH6007 kH6007 hSH6007 => ?_)
      obtain ⟨x6008, x6009, hvH6007, ex6009, hrH6007, m6010, g6011, mf6012, m6013, m6014, m6015, m6016, hTH6007⟩ := pH6007
      subst hvH6007
      clear zH6007
      replace m6010 := EQN.mk m6010
      have b6017 : UN (x1.toInt ≠ 0) (fun k => fI H6007 q4 k) (fun k => fI s.heap q4 k) := UN.congr (fun j => fI_kept (x_lt hTH5966 kH6007 gq4 (by decide))) b5969
      have b6018 : UN (x1.toInt ≠ 0) (fun k => fI H6007 q16 k) (fun k => fI s.heap q16 k) := UN.congr (fun j => fI_kept (x_lt hTH5966 kH6007 gq16 (by decide))) b5970
      have b6019 : UN (x1.toInt ≠ 0) (fun k => fI H6007 q24 k) (fun k => fI s.heap q24 k) := UN.congr (fun j => fI_kept (x_lt hTH5966 kH6007 gq24 (by decide))) b5971
      have b6020 : UN (x1.toInt ≠ 0) (fun k => fI H6007 q29 k) (fun k => fI s.heap q29 k) := UN.congr (fun j => fI_kept (x_lt hTH5966 kH6007 gq29 (by decide))) b5972
      have b6021 : UN (x1.toInt ≠ 0) (fun k => fI H6007 q30 k) (fun k => fI s.heap q30 k) := UN.congr (fun j => fI_kept (x_lt hTH5966 kH6007 gq30 (by decide))) b5973
      have b6022 : UN (x1.toInt ≠ 0) (fun k => fI H6007 q31 k) (fun k => fI s.heap q31 k) := UN.congr (fun j => fI_kept (x_lt hTH5966 kH6007 gq31 (by decide))) b5974
      have b6023 : UN (x1.toInt ≠ 0) (fun k => fI H6007 q32 k) (fun k => fI s.heap q32 k) := UN.congr (fun j => fI_kept (x_lt hTH5966 kH6007 gq32 (by decide))) b5975
      have b6024 : UN (x1.toInt ≠ 0) (fun k => fI H6007 q33 k) (fun k => fI s.heap q33 k) := UN.congr (fun j => fI_kept (x_lt hTH5966 kH6007 gq33 (by decide))) b5976
      have m6025 := (m5983).trans (MF.r mf6012 (k := 73) (by decide) (by decide)).symm
      have m6026 := (m5984).trans (MF.r mf6012 (k := 4) (by decide) (by decide)).symm
      have m6027 := (m5985).trans (MF.r mf6012 (k := 10) (by decide) (by decide)).symm
      have m6028 := (m5986).trans (MF.r mf6012 (k := 16) (by decide) (by decide)).symm
      have m6029 := (m5987).trans (MF.r mf6012 (k := 24) (by decide) (by decide)).symm
      have m6030 := (m5988).trans (MF.r mf6012 (k := 27) (by decide) (by decide)).symm
      have m6031 := (m5989).trans (MF.r mf6012 (k := 29) (by decide) (by decide)).symm
      have m6032 := (m5990).trans (MF.r mf6012 (k := 30) (by decide) (by decide)).symm
      have m6033 := (m5991).trans (MF.r mf6012 (k := 31) (by decide) (by decide)).symm
      have m6034 := (m5992).trans (MF.r mf6012 (k := 32) (by decide) (by decide)).symm
      have m6035 := (m5993).trans (MF.r mf6012 (k := 33) (by decide) (by decide)).symm
      have m6036 := (m5994).trans (MF.r mf6012 (k := 50) (by decide) (by decide)).symm
      have m6037 := (m5996).trans (MF.i mf6012 (k := 65) (by decide) (by decide)).symm
      have m6038 := (MF.i mf6012 (k := 0) (by decide) (by decide)).trans m5997
      have m6039 := (m5998).trans (MF.i mf6012 (k := 71) (by decide) (by decide)).symm
      have m6040 := (MF.i mf6012 (k := 70) (by decide) (by decide)).trans m5999
      have m6041 := (m6000).trans (MF.i mf6012 (k := 1) (by decide) (by decide)).symm
      have m6042 := (m6001).trans (MF.i mf6012 (k := 2) (by decide) (by decide)).symm
      have m6043 := (m6002).trans (MF.i mf6012 (k := 3) (by decide) (by decide)).symm
      have m6044 := (m6003).trans (MF.i mf6012 (k := 59) (by decide) (by decide)).symm
      have m6045 := (m6005).trans (MF.i mf6012 (k := 62) (by decide) (by decide)).symm
      have mf6046 : MF K s.heap H6007 a0 [0, 1, 2, 3, 59, 62, 65, 70, 71, 72] := MF.trans mf5967 mf6012 (by decide)
      have bx6009 := ty_fi (x := x6009) (k := 72) ex6009 hTH6007 ga0 rg_112 rfl
      have ce_x5922 := i_cl (x := x5922) (by omega)
      have b6047 : UN (x1.toInt = 0) (fun k => fI H6007 iq k) (fun k => fI s.heap iq k) := UN.tr m6016 b5977
      have b6048 : x5593 = fI H6007 iq (0) := (b5978).trans (m6015 _ (by omega)).symm
      have b6049 : x5672 = fI H6007 iq (1) := (b5979).trans (m6015 _ (by omega)).symm
      have b6050 : x5753 = fI H6007 iq (2) := (b5980).trans (m6015 _ (by omega)).symm
      have b6051 : x5836 = fI H6007 iq (3) := (b5981).trans (m6015 _ (by omega)).symm
      have b6052 : x5921 = fI H6007 iq (4) := (b5982).trans (m6015 _ (by omega)).symm
      clear b5969 b5970 b5971 b5972 b5973 b5974 b5975 b5976 b5977 b5978 b5979 b5980 b5981 b5982 m5983 m5984 m5985 m5986 m5987 m5988 m5989 m5990 m5991 m5992 m5993 m5994 m5996 m5997 m5998 m5999 m6000 m6001 m6002 m6003 m6004 m6005
      clear m6015 m6016
      have bx6008 : 0 ≤ x6008.toInt ∧ x6008.toInt ≤ 8 := kr (fun h0 => by have hiw := hIW; exact kr0 (w := fun k => fI H6007 iq k) m6013 (p := 5) (by omega) (b6047 h0) (hiw.1.2.2.2.2)) m6014 (by omega)
      have p6053 : x6008 = fI H6007 iq (5) := by have h := m6013; rw [show x5922.toNatClampNeg = 5 by omega] at h; exact h
      refine W.eq (g2 := F0 m 102 ls [.int x6008, .ref a0]) rfl ?_
      refine x_put C hTH6007 hSH6007 (ci := 10) (k := 65) (v := .int x6008) (ty0 := tyX10) rfl inX10 tyX10_ok nmX10 (by decide) rfl wF_X10_458 ga0 rg_112 rfl rfl (okI (by have := i_rng x6008; omega) (by have := i_rng x6008; omega)) rfl rfl (AE_in ga0 (by decide)) dX10_image_102 (fun H6054 locsH6054 hTH6054 hSH6054 wH6054 => ?_)
      have mf6055 : MF K s.heap H6054 a0 [0, 1, 2, 3, 59, 62, 65, 70, 71, 72] := MF.fld hap wH6054 (by decide) (by decide) mf6046
      have g6056 : WD (avw K H6054 a0) := WD.congr (fun k hk j => av_fld hTH6007 ga0 hap wH6054 (by decide) (WD_ok 112 (by decide) k hk) (WD_ne 65 (by decide) k hk)) g6011
      have b6057 : UN (x1.toInt ≠ 0) (fun k => fI H6054 q4 k) (fun k => fI s.heap q4 k) := UN.congr (fun j => Wr.neI wH6054 (Or.inl (G_ne gq4 ga0 (by decide)))) b6017
      have b6058 : UN (x1.toInt ≠ 0) (fun k => fI H6054 q16 k) (fun k => fI s.heap q16 k) := UN.congr (fun j => Wr.neI wH6054 (Or.inl (G_ne gq16 ga0 (by decide)))) b6018
      have b6059 : UN (x1.toInt ≠ 0) (fun k => fI H6054 q24 k) (fun k => fI s.heap q24 k) := UN.congr (fun j => Wr.neI wH6054 (Or.inl (G_ne gq24 ga0 (by decide)))) b6019
      have b6060 : UN (x1.toInt ≠ 0) (fun k => fI H6054 q29 k) (fun k => fI s.heap q29 k) := UN.congr (fun j => Wr.neI wH6054 (Or.inl (G_ne gq29 ga0 (by decide)))) b6020
      have b6061 : UN (x1.toInt ≠ 0) (fun k => fI H6054 q30 k) (fun k => fI s.heap q30 k) := UN.congr (fun j => Wr.neI wH6054 (Or.inl (G_ne gq30 ga0 (by decide)))) b6021
      have b6062 : UN (x1.toInt ≠ 0) (fun k => fI H6054 q31 k) (fun k => fI s.heap q31 k) := UN.congr (fun j => Wr.neI wH6054 (Or.inl (G_ne gq31 ga0 (by decide)))) b6022
      have b6063 : UN (x1.toInt ≠ 0) (fun k => fI H6054 q32 k) (fun k => fI s.heap q32 k) := UN.congr (fun j => Wr.neI wH6054 (Or.inl (G_ne gq32 ga0 (by decide)))) b6023
      have b6064 : UN (x1.toInt ≠ 0) (fun k => fI H6054 q33 k) (fun k => fI s.heap q33 k) := UN.congr (fun j => Wr.neI wH6054 (Or.inl (G_ne gq33 ga0 (by decide)))) b6024
      have b6065 : UN (x1.toInt = 0) (fun k => fI H6054 iq k) (fun k => fI s.heap iq k) := UN.congr (fun j => Wr.neI wH6054 (Or.inl (G_ne giq ga0 (by decide)))) b6047
      have b6066 : x5593 = fI H6054 iq (0) := (b6048).trans (Wr.neI wH6054 (Or.inl (G_ne giq ga0 (by decide)))).symm
      have b6067 : x5672 = fI H6054 iq (1) := (b6049).trans (Wr.neI wH6054 (Or.inl (G_ne giq ga0 (by decide)))).symm
      have b6068 : x5753 = fI H6054 iq (2) := (b6050).trans (Wr.neI wH6054 (Or.inl (G_ne giq ga0 (by decide)))).symm
      have b6069 : x5836 = fI H6054 iq (3) := (b6051).trans (Wr.neI wH6054 (Or.inl (G_ne giq ga0 (by decide)))).symm
      have b6070 : x5921 = fI H6054 iq (4) := (b6052).trans (Wr.neI wH6054 (Or.inl (G_ne giq ga0 (by decide)))).symm
      have b6071 : x6008 = fI H6054 iq (5) := (p6053).trans (Wr.neI wH6054 (Or.inl (G_ne giq ga0 (by decide)))).symm
      have m6072 := m6010.trans (Wr.neR wH6054 (Or.inr (x_apart hKT hts inX10 tyX10 tyX10_ok nmX10 rfl 73 65 (by decide) (by decide) (by decide)))).symm
      have m6073 := m6026.trans (Wr.neR wH6054 (Or.inr (x_apart hKT hts inX10 tyX10 tyX10_ok nmX10 rfl 4 65 (by decide) (by decide) (by decide)))).symm
      have m6074 := m6027.trans (Wr.neR wH6054 (Or.inr (x_apart hKT hts inX10 tyX10 tyX10_ok nmX10 rfl 10 65 (by decide) (by decide) (by decide)))).symm
      have m6075 := m6028.trans (Wr.neR wH6054 (Or.inr (x_apart hKT hts inX10 tyX10 tyX10_ok nmX10 rfl 16 65 (by decide) (by decide) (by decide)))).symm
      have m6076 := m6029.trans (Wr.neR wH6054 (Or.inr (x_apart hKT hts inX10 tyX10 tyX10_ok nmX10 rfl 24 65 (by decide) (by decide) (by decide)))).symm
      have m6077 := m6030.trans (Wr.neR wH6054 (Or.inr (x_apart hKT hts inX10 tyX10 tyX10_ok nmX10 rfl 27 65 (by decide) (by decide) (by decide)))).symm
      have m6078 := m6031.trans (Wr.neR wH6054 (Or.inr (x_apart hKT hts inX10 tyX10 tyX10_ok nmX10 rfl 29 65 (by decide) (by decide) (by decide)))).symm
      have m6079 := m6032.trans (Wr.neR wH6054 (Or.inr (x_apart hKT hts inX10 tyX10 tyX10_ok nmX10 rfl 30 65 (by decide) (by decide) (by decide)))).symm
      have m6080 := m6033.trans (Wr.neR wH6054 (Or.inr (x_apart hKT hts inX10 tyX10 tyX10_ok nmX10 rfl 31 65 (by decide) (by decide) (by decide)))).symm
      have m6081 := m6034.trans (Wr.neR wH6054 (Or.inr (x_apart hKT hts inX10 tyX10 tyX10_ok nmX10 rfl 32 65 (by decide) (by decide) (by decide)))).symm
      have m6082 := m6035.trans (Wr.neR wH6054 (Or.inr (x_apart hKT hts inX10 tyX10 tyX10_ok nmX10 rfl 33 65 (by decide) (by decide) (by decide)))).symm
      have m6083 := m6036.trans (Wr.neR wH6054 (Or.inr (x_apart hKT hts inX10 tyX10 tyX10_ok nmX10 rfl 50 65 (by decide) (by decide) (by decide)))).symm
      have m6085 := (Wr.neI wH6054 (Or.inr (x_apart hKT hts inX10 tyX10 tyX10_ok nmX10 rfl 0 65 (by decide) (by decide) (by decide)))).trans m6038
      have m6086 := m6039.trans (Wr.neI wH6054 (Or.inr (x_apart hKT hts inX10 tyX10 tyX10_ok nmX10 rfl 71 65 (by decide) (by decide) (by decide)))).symm
      have m6087 := (Wr.neI wH6054 (Or.inr (x_apart hKT hts inX10 tyX10 tyX10_ok nmX10 rfl 70 65 (by decide) (by decide) (by decide)))).trans m6040
      have m6088 := m6041.trans (Wr.neI wH6054 (Or.inr (x_apart hKT hts inX10 tyX10 tyX10_ok nmX10 rfl 1 65 (by decide) (by decide) (by decide)))).symm
      have m6089 := m6042.trans (Wr.neI wH6054 (Or.inr (x_apart hKT hts inX10 tyX10 tyX10_ok nmX10 rfl 2 65 (by decide) (by decide) (by decide)))).symm
      have m6090 := m6043.trans (Wr.neI wH6054 (Or.inr (x_apart hKT hts inX10 tyX10 tyX10_ok nmX10 rfl 3 65 (by decide) (by decide) (by decide)))).symm
      have m6091 := m6044.trans (Wr.neI wH6054 (Or.inr (x_apart hKT hts inX10 tyX10 tyX10_ok nmX10 rfl 59 65 (by decide) (by decide) (by decide)))).symm
      have m6092 := m6045.trans (Wr.neI wH6054 (Or.inr (x_apart hKT hts inX10 tyX10 tyX10_ok nmX10 rfl 62 65 (by decide) (by decide) (by decide)))).symm
      have m6093 := ex6009.trans (Wr.neI wH6054 (Or.inr (x_apart hKT hts inX10 tyX10 tyX10_ok nmX10 rfl 72 65 (by decide) (by decide) (by decide)))).symm
      have m6094 := Wr.I wH6054
      have m6094 := m6094.symm
      clear b6017 b6018 b6019 b6020 b6021 b6022 b6023 b6024 b6047 b6048 b6049 b6050 b6051 b6052 ex6009 g6011 hTH6007 m6010 m6026 m6027 m6028 m6029 m6030 m6031 m6032 m6033 m6034 m6035 m6036 m6037 m6038 m6039 m6040 m6041 m6042 m6043 m6044 m6045 mf6046 p6053
      refine lv_aload_n hx hb dX10_image_105 rfl (lv_at hl 0 rfl) ?_
      refine x_V (As := []) (rest := []) C (a_X10_keepsBars l K G H6054 (x6009) (x1) hTH6054 ga0 giq m6072 gq4 m6073 gq10 m6074 gq16 m6075 gq50 m6083 m6093 m6086 g6056 (by and_intros <;> first | assumption | omega) (fun h0 => IMw.congr (b6065 h0) hIW)) yo_X10_keepsBars wM_X10_479 ⟨⟨by decide, by decide⟩, by decide, by decide⟩ (x_rv C hTH6054 (ci := 10) rfl ga0 rg_112) rfl hl.1 rfl (Nat.le_of_ble_eq_true rfl) dX10_image_106 hSH6054 (AE_sub (fun _ _ => rfl) (by decide) hSH6054.1) (fun vH6095 H6095 locsH6095 pH6095 zH6095 kH6095 hSH6095 => ?_)
      obtain ⟨x6096, hvH6095, ex6096, hrH6095, m6097, m6098, m6099, m6100, m6101, g6102, mf6103, m6104, m6105, m6106, m6107, m6108, m6109, m6110, m6111, hTH6095⟩ := pH6095
      subst hvH6095
      clear zH6095
      replace m6097 := EQN.mk m6097
      replace m6098 := EQN.mk m6098
      replace m6099 := EQN.mk m6099
      replace m6100 := EQN.mk m6100
      replace m6101 := EQN.mk m6101
      have b6112 : UN (x1.toInt ≠ 0) (fun k => fI H6095 q24 k) (fun k => fI s.heap q24 k) := UN.congr (fun j => fI_kept (x_lt hTH6054 kH6095 gq24 (by decide))) b6059
      have b6113 : UN (x1.toInt ≠ 0) (fun k => fI H6095 q29 k) (fun k => fI s.heap q29 k) := UN.congr (fun j => fI_kept (x_lt hTH6054 kH6095 gq29 (by decide))) b6060
      have b6114 : UN (x1.toInt ≠ 0) (fun k => fI H6095 q30 k) (fun k => fI s.heap q30 k) := UN.congr (fun j => fI_kept (x_lt hTH6054 kH6095 gq30 (by decide))) b6061
      have b6115 : UN (x1.toInt ≠ 0) (fun k => fI H6095 q31 k) (fun k => fI s.heap q31 k) := UN.congr (fun j => fI_kept (x_lt hTH6054 kH6095 gq31 (by decide))) b6062
      have b6116 : UN (x1.toInt ≠ 0) (fun k => fI H6095 q32 k) (fun k => fI s.heap q32 k) := UN.congr (fun j => fI_kept (x_lt hTH6054 kH6095 gq32 (by decide))) b6063
      have b6117 : UN (x1.toInt ≠ 0) (fun k => fI H6095 q33 k) (fun k => fI s.heap q33 k) := UN.congr (fun j => fI_kept (x_lt hTH6054 kH6095 gq33 (by decide))) b6064
      have m6118 := (m6072).trans (MF.r mf6103 (k := 73) (by decide) (by decide)).symm
      have m6119 := (m6073).trans (MF.r mf6103 (k := 4) (by decide) (by decide)).symm
      have m6120 := (m6074).trans (MF.r mf6103 (k := 10) (by decide) (by decide)).symm
      have m6121 := (m6075).trans (MF.r mf6103 (k := 16) (by decide) (by decide)).symm
      have m6122 := (m6076).trans (MF.r mf6103 (k := 24) (by decide) (by decide)).symm
      have m6123 := (m6077).trans (MF.r mf6103 (k := 27) (by decide) (by decide)).symm
      have m6124 := (m6078).trans (MF.r mf6103 (k := 29) (by decide) (by decide)).symm
      have m6125 := (m6079).trans (MF.r mf6103 (k := 30) (by decide) (by decide)).symm
      have m6126 := (m6080).trans (MF.r mf6103 (k := 31) (by decide) (by decide)).symm
      have m6127 := (m6081).trans (MF.r mf6103 (k := 32) (by decide) (by decide)).symm
      have m6128 := (m6082).trans (MF.r mf6103 (k := 33) (by decide) (by decide)).symm
      have m6129 := (m6083).trans (MF.r mf6103 (k := 50) (by decide) (by decide)).symm
      have m6130 := (MF.i mf6103 (k := 0) (by decide) (by decide)).trans m6085
      have m6131 := (m6086).trans (MF.i mf6103 (k := 71) (by decide) (by decide)).symm
      have m6132 := (MF.i mf6103 (k := 70) (by decide) (by decide)).trans m6087
      have m6133 := (m6088).trans (MF.i mf6103 (k := 1) (by decide) (by decide)).symm
      have m6134 := (m6089).trans (MF.i mf6103 (k := 2) (by decide) (by decide)).symm
      have m6135 := (m6090).trans (MF.i mf6103 (k := 3) (by decide) (by decide)).symm
      have m6136 := (m6091).trans (MF.i mf6103 (k := 59) (by decide) (by decide)).symm
      have m6137 := (m6092).trans (MF.i mf6103 (k := 62) (by decide) (by decide)).symm
      have m6138 := (m6094).trans (MF.i mf6103 (k := 65) (by decide) (by decide)).symm
      have mf6139 : MF K s.heap H6095 a0 [0, 1, 2, 3, 59, 62, 65, 70, 71, 72] := MF.trans mf6055 mf6103 (by decide)
      have bx6096 := ty_fi (x := x6096) (k := 72) ex6096 hTH6095 ga0 rg_112 rfl
      have b6140 : UN (x1.toInt ≠ 0) (fun k => fI H6095 q4 k) (fun k => fI s.heap q4 k) := UN.tr m6110 b6057
      have b6141 : UN (x1.toInt ≠ 0) (fun k => fI H6095 q16 k) (fun k => fI s.heap q16 k) := UN.tr m6111 b6058
      have b6142 : UN (x1.toInt = 0) (fun k => fI H6095 iq k) (fun k => fI s.heap iq k) := UN.tr m6104 b6065
      have b6143 : x5593 = fI H6095 iq (0) := (b6066).trans (m6105 _ (by omega)).symm
      have b6144 : x5672 = fI H6095 iq (1) := (b6067).trans (m6105 _ (by omega)).symm
      have b6145 : x5753 = fI H6095 iq (2) := (b6068).trans (m6105 _ (by omega)).symm
      have b6146 : x5836 = fI H6095 iq (3) := (b6069).trans (m6105 _ (by omega)).symm
      have b6147 : x5921 = fI H6095 iq (4) := (b6070).trans (m6105 _ (by omega)).symm
      have b6148 : x6008 = fI H6095 iq (5) := (b6071).trans (m6105 _ (by omega)).symm
      refine W.eq (g2 := F0 m 109 ls []) rfl ?_
      refine lv_aload_n hx hb dX10_image_109 rfl (lv_at hl 0 rfl) ?_
      refine x_V (As := []) (rest := []) C (a_X10_keepsTaps l K G H6095 (x6096) (x1) hTH6095 ga0 giq m6097 ex6096 m6131 g6102 (by and_intros <;> first | assumption | omega) (fun h0 => IMw.congr (b6142 h0) hIW)) yo_X10_keepsTaps wM_X10_482 ⟨⟨by decide, by decide⟩, by decide, by decide⟩ (x_rv C hTH6095 (ci := 10) rfl ga0 rg_112) rfl hl.1 rfl (Nat.le_of_ble_eq_true rfl) dX10_image_110 hSH6095 (AE_sub (fun _ _ => rfl) (by decide) hSH6095.1) (fun vH6149 H6149 locsH6149 pH6149 zH6149 kH6149 hSH6149 => ?_)
      obtain ⟨x6150, hvH6149, ex6150, hrH6149, m6151, g6152, mf6153, m6154, m6155, hTH6149⟩ := pH6149
      subst hvH6149
      clear zH6149
      replace m6151 := EQN.mk m6151
      have b6156 : UN (x1.toInt ≠ 0) (fun k => fI H6149 q24 k) (fun k => fI s.heap q24 k) := UN.congr (fun j => fI_kept (x_lt hTH6095 kH6149 gq24 (by decide))) b6112
      have b6157 : UN (x1.toInt ≠ 0) (fun k => fI H6149 q29 k) (fun k => fI s.heap q29 k) := UN.congr (fun j => fI_kept (x_lt hTH6095 kH6149 gq29 (by decide))) b6113
      have b6158 : UN (x1.toInt ≠ 0) (fun k => fI H6149 q30 k) (fun k => fI s.heap q30 k) := UN.congr (fun j => fI_kept (x_lt hTH6095 kH6149 gq30 (by decide))) b6114
      have b6159 : UN (x1.toInt ≠ 0) (fun k => fI H6149 q31 k) (fun k => fI s.heap q31 k) := UN.congr (fun j => fI_kept (x_lt hTH6095 kH6149 gq31 (by decide))) b6115
      have b6160 : UN (x1.toInt ≠ 0) (fun k => fI H6149 q32 k) (fun k => fI s.heap q32 k) := UN.congr (fun j => fI_kept (x_lt hTH6095 kH6149 gq32 (by decide))) b6116
      have b6161 : UN (x1.toInt ≠ 0) (fun k => fI H6149 q33 k) (fun k => fI s.heap q33 k) := UN.congr (fun j => fI_kept (x_lt hTH6095 kH6149 gq33 (by decide))) b6117
      have b6162 : UN (x1.toInt ≠ 0) (fun k => fI H6149 q4 k) (fun k => fI s.heap q4 k) := UN.congr (fun j => fI_kept (x_lt hTH6095 kH6149 gq4 (by decide))) b6140
      have b6163 : UN (x1.toInt ≠ 0) (fun k => fI H6149 q16 k) (fun k => fI s.heap q16 k) := UN.congr (fun j => fI_kept (x_lt hTH6095 kH6149 gq16 (by decide))) b6141
      have m6164 := (m6097).trans (MF.r mf6153 (k := 73) (by decide) (by decide)).symm
      have m6165 := (m6098).trans (MF.r mf6153 (k := 4) (by decide) (by decide)).symm
      have m6166 := (m6099).trans (MF.r mf6153 (k := 10) (by decide) (by decide)).symm
      have m6167 := (m6100).trans (MF.r mf6153 (k := 16) (by decide) (by decide)).symm
      have m6168 := (m6122).trans (MF.r mf6153 (k := 24) (by decide) (by decide)).symm
      have m6169 := (m6123).trans (MF.r mf6153 (k := 27) (by decide) (by decide)).symm
      have m6170 := (m6124).trans (MF.r mf6153 (k := 29) (by decide) (by decide)).symm
      have m6171 := (m6125).trans (MF.r mf6153 (k := 30) (by decide) (by decide)).symm
      have m6172 := (m6126).trans (MF.r mf6153 (k := 31) (by decide) (by decide)).symm
      have m6173 := (m6127).trans (MF.r mf6153 (k := 32) (by decide) (by decide)).symm
      have m6174 := (m6128).trans (MF.r mf6153 (k := 33) (by decide) (by decide)).symm
      have m6175 := (m6101).trans (MF.r mf6153 (k := 50) (by decide) (by decide)).symm
      have m6176 := (MF.i mf6153 (k := 0) (by decide) (by decide)).trans m6130
      have m6177 := (m6131).trans (MF.i mf6153 (k := 71) (by decide) (by decide)).symm
      have m6178 := (MF.i mf6153 (k := 70) (by decide) (by decide)).trans m6132
      have m6179 := (m6133).trans (MF.i mf6153 (k := 1) (by decide) (by decide)).symm
      have m6180 := (m6134).trans (MF.i mf6153 (k := 2) (by decide) (by decide)).symm
      have m6181 := (m6135).trans (MF.i mf6153 (k := 3) (by decide) (by decide)).symm
      have m6182 := (m6136).trans (MF.i mf6153 (k := 59) (by decide) (by decide)).symm
      have m6183 := (m6137).trans (MF.i mf6153 (k := 62) (by decide) (by decide)).symm
      have m6184 := (m6138).trans (MF.i mf6153 (k := 65) (by decide) (by decide)).symm
      have mf6185 : MF K s.heap H6149 a0 [0, 1, 2, 3, 59, 62, 65, 70, 71, 72] := MF.trans mf6139 mf6153 (by decide)
      have bx6150 := ty_fi (x := x6150) (k := 72) ex6150 hTH6149 ga0 rg_112 rfl
      have b6186 : UN (x1.toInt = 0) (fun k => fI H6149 iq k) (fun k => fI s.heap iq k) := UN.tr m6154 b6142
      have b6187 : x5593 = fI H6149 iq (0) := (b6143).trans (m6155 _ (by omega)).symm
      have b6188 : x5672 = fI H6149 iq (1) := (b6144).trans (m6155 _ (by omega)).symm
      have b6189 : x5753 = fI H6149 iq (2) := (b6145).trans (m6155 _ (by omega)).symm
      have b6190 : x5836 = fI H6149 iq (3) := (b6146).trans (m6155 _ (by omega)).symm
      have b6191 : x5921 = fI H6149 iq (4) := (b6147).trans (m6155 _ (by omega)).symm
      have b6192 : x6008 = fI H6149 iq (5) := (b6148).trans (m6155 _ (by omega)).symm
      have b6193 : EQ (fun k => fI H6149 q4 k) (fun k => fI H6149 iq k) (6) (6) (10) := EQ.fb (EQ.congr (w1 := fun k => fI H6095 iq k) (fun j => fI_kept (x_lt hTH6095 kH6149 gq4 (by decide))) (fun _ => rfl) m6106) m6155 (fun j hj => by omega)
      have b6194 : EQ (fun k => fI H6149 q10 k) (fun k => fI H6149 iq k) (7) (6) (10) := EQ.fb (EQ.congr (w1 := fun k => fI H6095 iq k) (fun j => fI_kept (x_lt hTH6095 kH6149 gq10 (by decide))) (fun _ => rfl) m6107) m6155 (fun j hj => by omega)
      have b6195 : EQ (fun k => fI H6149 q50 k) (fun k => fI H6149 iq k) (11) (6) (10) := EQ.fb (EQ.congr (w1 := fun k => fI H6095 iq k) (fun j => fI_kept (x_lt hTH6095 kH6149 gq50 (by decide))) (fun _ => rfl) m6108) m6155 (fun j hj => by omega)
      have b6196 : EQ (fun k => fI H6149 q16 k) (fun k => fI H6149 iq k) (736) (3) (20) := EQ.fb (EQ.congr (w1 := fun k => fI H6095 iq k) (fun j => fI_kept (x_lt hTH6095 kH6149 gq16 (by decide))) (fun _ => rfl) m6109) m6155 (fun j hj => by omega)
      refine W.eq (g2 := F0 m 113 ls []) rfl ?_
      refine lv_aload_n hx hb dX10_image_113 rfl (lv_at hl 0 rfl) ?_
      refine x_V (As := []) (rest := []) C (a_X10_keepsTexts l K G H6149 (x6150) (x1) hTH6149 ga0 giq m6151 gq24 m6168 gq27 m6169 gq29 m6170 gq30 m6171 gq31 m6172 gq32 m6173 gq33 m6174 ex6150 m6177 g6152 (by and_intros <;> first | assumption | omega) (fun h0 => IMw.congr (b6186 h0) hIW)) yo_X10_keepsTexts wM_X10_485 ⟨⟨by decide, by decide⟩, by decide, by decide⟩ (x_rv C hTH6149 (ci := 10) rfl ga0 rg_112) rfl hl.1 rfl (Nat.le_of_ble_eq_true rfl) dX10_image_114 hSH6149 (AE_sub (fun _ _ => rfl) (by decide) hSH6149.1) (fun vH6197 H6197 locsH6197 pH6197 zH6197 kH6197 hSH6197 => ?_)
      obtain ⟨x6198, hvH6197, ex6198, hrH6197, m6199, m6200, m6201, m6202, m6203, m6204, m6205, m6206, g6207, mf6208, m6209, m6210, m6211, m6212, m6213, m6214, m6215, m6216, m6217, m6218, m6219, m6220, m6221, m6222, m6223, hTH6197⟩ := pH6197
      subst hvH6197
      clear zH6197
      replace m6199 := EQN.mk m6199
      replace m6200 := EQN.mk m6200
      replace m6201 := EQN.mk m6201
      replace m6202 := EQN.mk m6202
      replace m6203 := EQN.mk m6203
      replace m6204 := EQN.mk m6204
      replace m6205 := EQN.mk m6205
      replace m6206 := EQN.mk m6206
      have b6224 : UN (x1.toInt ≠ 0) (fun k => fI H6197 q4 k) (fun k => fI s.heap q4 k) := UN.congr (fun j => fI_kept (x_lt hTH6149 kH6197 gq4 (by decide))) b6162
      have b6225 : UN (x1.toInt ≠ 0) (fun k => fI H6197 q16 k) (fun k => fI s.heap q16 k) := UN.congr (fun j => fI_kept (x_lt hTH6149 kH6197 gq16 (by decide))) b6163
      have m6226 := (m6151).trans (MF.r mf6208 (k := 73) (by decide) (by decide)).symm
      have m6227 := (m6165).trans (MF.r mf6208 (k := 4) (by decide) (by decide)).symm
      have m6228 := (m6166).trans (MF.r mf6208 (k := 10) (by decide) (by decide)).symm
      have m6229 := (m6167).trans (MF.r mf6208 (k := 16) (by decide) (by decide)).symm
      have m6230 := (m6168).trans (MF.r mf6208 (k := 24) (by decide) (by decide)).symm
      have m6231 := (m6169).trans (MF.r mf6208 (k := 27) (by decide) (by decide)).symm
      have m6232 := (m6170).trans (MF.r mf6208 (k := 29) (by decide) (by decide)).symm
      have m6233 := (m6171).trans (MF.r mf6208 (k := 30) (by decide) (by decide)).symm
      have m6234 := (m6172).trans (MF.r mf6208 (k := 31) (by decide) (by decide)).symm
      have m6235 := (m6173).trans (MF.r mf6208 (k := 32) (by decide) (by decide)).symm
      have m6236 := (m6174).trans (MF.r mf6208 (k := 33) (by decide) (by decide)).symm
      have m6237 := (m6175).trans (MF.r mf6208 (k := 50) (by decide) (by decide)).symm
      have m6238 := (MF.i mf6208 (k := 0) (by decide) (by decide)).trans m6176
      have m6239 := (m6177).trans (MF.i mf6208 (k := 71) (by decide) (by decide)).symm
      have m6240 := (MF.i mf6208 (k := 70) (by decide) (by decide)).trans m6178
      have m6241 := (m6179).trans (MF.i mf6208 (k := 1) (by decide) (by decide)).symm
      have m6242 := (m6180).trans (MF.i mf6208 (k := 2) (by decide) (by decide)).symm
      have m6243 := (m6181).trans (MF.i mf6208 (k := 3) (by decide) (by decide)).symm
      have m6244 := (m6182).trans (MF.i mf6208 (k := 59) (by decide) (by decide)).symm
      have m6245 := (m6183).trans (MF.i mf6208 (k := 62) (by decide) (by decide)).symm
      have m6246 := (m6184).trans (MF.i mf6208 (k := 65) (by decide) (by decide)).symm
      have mf6247 : MF K s.heap H6197 a0 [0, 1, 2, 3, 59, 62, 65, 70, 71, 72] := MF.trans mf6185 mf6208 (by decide)
      have bx6198 := ty_fi (x := x6198) (k := 72) ex6198 hTH6197 ga0 rg_112 rfl
      have b6248 : UN (x1.toInt ≠ 0) (fun k => fI H6197 q24 k) (fun k => fI s.heap q24 k) := UN.tr m6218 b6156
      have b6249 : UN (x1.toInt ≠ 0) (fun k => fI H6197 q29 k) (fun k => fI s.heap q29 k) := UN.tr m6219 b6157
      have b6250 : UN (x1.toInt ≠ 0) (fun k => fI H6197 q30 k) (fun k => fI s.heap q30 k) := UN.tr m6220 b6158
      have b6251 : UN (x1.toInt ≠ 0) (fun k => fI H6197 q31 k) (fun k => fI s.heap q31 k) := UN.tr m6221 b6159
      have b6252 : UN (x1.toInt ≠ 0) (fun k => fI H6197 q32 k) (fun k => fI s.heap q32 k) := UN.tr m6222 b6160
      have b6253 : UN (x1.toInt ≠ 0) (fun k => fI H6197 q33 k) (fun k => fI s.heap q33 k) := UN.tr m6223 b6161
      have b6254 : UN (x1.toInt = 0) (fun k => fI H6197 iq k) (fun k => fI s.heap iq k) := UN.tr m6209 b6186
      have b6255 : x5593 = fI H6197 iq (0) := (b6187).trans (m6210 _ (by omega)).symm
      have b6256 : x5672 = fI H6197 iq (1) := (b6188).trans (m6210 _ (by omega)).symm
      have b6257 : x5753 = fI H6197 iq (2) := (b6189).trans (m6210 _ (by omega)).symm
      have b6258 : x5836 = fI H6197 iq (3) := (b6190).trans (m6210 _ (by omega)).symm
      have b6259 : x5921 = fI H6197 iq (4) := (b6191).trans (m6210 _ (by omega)).symm
      have b6260 : x6008 = fI H6197 iq (5) := (b6192).trans (m6210 _ (by omega)).symm
      have b6261 : EQ (fun k => fI H6197 q4 k) (fun k => fI H6197 iq k) (6) (6) (10) := EQ.fb (EQ.congr (w1 := fun k => fI H6149 iq k) (fun j => fI_kept (x_lt hTH6149 kH6197 gq4 (by decide))) (fun _ => rfl) b6193) m6210 (fun j hj => by omega)
      have b6262 : EQ (fun k => fI H6197 q10 k) (fun k => fI H6197 iq k) (7) (6) (10) := EQ.fb (EQ.congr (w1 := fun k => fI H6149 iq k) (fun j => fI_kept (x_lt hTH6149 kH6197 gq10 (by decide))) (fun _ => rfl) b6194) m6210 (fun j hj => by omega)
      have b6263 : EQ (fun k => fI H6197 q50 k) (fun k => fI H6197 iq k) (11) (6) (10) := EQ.fb (EQ.congr (w1 := fun k => fI H6149 iq k) (fun j => fI_kept (x_lt hTH6149 kH6197 gq50 (by decide))) (fun _ => rfl) b6195) m6210 (fun j hj => by omega)
      have b6264 : EQ (fun k => fI H6197 q16 k) (fun k => fI H6197 iq k) (736) (3) (20) := EQ.fb (EQ.congr (w1 := fun k => fI H6149 iq k) (fun j => fI_kept (x_lt hTH6149 kH6197 gq16 (by decide))) (fun _ => rfl) b6196) m6210 (fun j hj => by omega)
      refine W.eq (g2 := F0 m 117 ls []) rfl ?_
      have fin := im_fin (H0 := s.heap) (tk := x1) hTH6197 ga0 hg_CG hg_TU hg_IM ⟨EQ.av m6227 m6199 b6261, EQ.av m6228 m6199 b6262, EQ.av m6237 m6199 b6263, EQ.av m6229 m6199 b6264, EQ.av m6200 m6199 m6211, EQ.av m6201 m6199 m6212, EQ.av m6202 m6199 m6213, EQ.av m6203 m6199 m6214, EQ.av m6204 m6199 m6215, EQ.av m6205 m6199 m6216, EQ.av m6206 m6199 m6217⟩ (pl_av m6241 b6255 m6199) (pl_av m6242 b6256 m6199) (pl_av m6244 b6258 m6199) (pl_av m6245 b6259 m6199) (pl_av m6246 b6260 m6199) (fun h => (m6241.symm.trans (m5599 h)).trans es1) (all8 (UN.av m6227 eq4 b6224) (UN.av m6229 eq16 b6225) (UN.av m6200 eq24 b6248) (UN.av m6202 eq29 b6249) (UN.av m6203 eq30 b6250) (UN.av m6204 eq31 b6251) (UN.av m6205 eq32 b6252) (UN.av m6206 eq33 b6253)) (UN.av m6199 eiq b6254)
      refine lv_iconst (v := 1) hx hb dX10_image_117 (by decide) ?_
      exact x_zret C hQ (Or.inr rfl) dX10_image_118 hSH6197 (by decide) (by decide) (⟨1, 1, x5593, x5672, x5753, x5836, x5921, x6008, rfl, by decide, (m6240).symm, m6241, m6242, m6243, m6244, m6245, m6246, by omega, m6199, m6227, m6228, m6229, m6200, m6201, m6202, m6203, m6204, m6205, m6206, m6237, fin.1, fin.2.1, g6207, fin.2.2, mf6247, Or.inr ⟨b6255, b6256, b6257, b6258, b6259, b6260⟩, (fun h => ⟨m5599 h, m5678 h, m5759 h, m5842 h, m5927 h, m6014 h⟩), b6254, hTH6197⟩)
    · have k5480 := i_eq c5479
      refine lv_iconst (v := 0) hx hb dX10_image_16 (by decide) ?_
      exact x_zret C hQ (Or.inl rfl) dX10_image_17 hSH4657 (by decide) (by decide) (⟨0, h70, s1, s2, s3, s59, s62, s65, rfl, by decide, m4684, m4685, m4686, m4687, m4688, m4689, m4690, by omega, m4672, m4673, m4674, m4675, m4676, m4677, m4678, m4679, m4680, m4681, m4682, m4683, g4659, g4660, g4661, g4662, mf4658, Or.inl (by omega), (fun _ => ⟨rfl, rfl, rfl, rfl, rfl, rfl⟩), b4663, hTH4657⟩)
