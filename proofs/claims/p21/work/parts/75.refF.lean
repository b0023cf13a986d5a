theorem EQ.fb {f w w1 : Nat → Int32} {b s n m : Nat} (h : EQ f w b s n) (e : FB w1 w m) (ht : ∀ j, j < n → b + s * j < m) : EQ f w1 b s n := fun j hj => (h j hj).trans (e _ (ht j hj)).symm
theorem pl_av {K : KE} {H : Heap} {b k q p : Nat} {r : Int32} (h : r = fI H b (K.1.2 10 k)) (hp : r = fI H q p) (e : q = fR H b (K.1.2 10 73)) : svw K H b k = avw K H b 73 p := by subst e; exact h.symm.trans hp
theorem all8 {P : Nat → Prop} (h4 : P 4) (h16 : P 16) (h24 : P 24) (h29 : P 29) (h30 : P 30) (h31 : P 31) (h32 : P 32) (h33 : P 33) : ∀ k ∈ ([4, 16, 24, 29, 30, 31, 32, 33] : List Nat), P k := by
  intro k hk
  simp only [List.mem_cons, List.not_mem_nil, or_false] at hk
  rcases hk with rfl | rfl | rfl | rfl | rfl | rfl | rfl | rfl <;> assumption
set_option maxHeartbeats 4000000 in
set_option maxRecDepth 100000 in
theorem a_X10_image (l : Launch) (K : KE) (G : Nat → Option Nat) (H : Heap) {a0 : Nat} (x1 : Int32) {iq : Nat} {q4 : Nat} {q10 : Nat} {q16 : Nat} {q24 : Nat} {q27 : Nat} {q29 : Nat} {q30 : Nat} {q31 : Nat} {q32 : Nat} {q33 : Nat} {q50 : Nat} (h70 : Int32) (s1 : Int32) (s2 : Int32) (s3 : Int32) (s59 : Int32) (s62 : Int32) (s65 : Int32) (hT : TY K G H) (ga0 : G a0 = some 112) (hx1 : 0 ≤ x1.toInt ∧ x1.toInt ≤ 1) (giq : G iq = some 162) (eiq : iq = fR H a0 (K.1.2 10 73)) (gq4 : G q4 = some 113) (eq4 : q4 = fR H a0 (K.1.2 10 4)) (gq10 : G q10 = some 119) (eq10 : q10 = fR H a0 (K.1.2 10 10)) (gq16 : G q16 = some 125) (eq16 : q16 = fR H a0 (K.1.2 10 16)) (gq24 : G q24 = some 128) (eq24 : q24 = fR H a0 (K.1.2 10 24)) (gq27 : G q27 = some 131) (eq27 : q27 = fR H a0 (K.1.2 10 27)) (gq29 : G q29 = some 133) (eq29 : q29 = fR H a0 (K.1.2 10 29)) (gq30 : G q30 = some 134) (eq30 : q30 = fR H a0 (K.1.2 10 30)) (gq31 : G q31 = some 135) (eq31 : q31 = fR H a0 (K.1.2 10 31)) (gq32 : G q32 = some 136) (eq32 : q32 = fR H a0 (K.1.2 10 32)) (gq33 : G q33 = some 137) (eq33 : q33 = fR H a0 (K.1.2 10 33)) (gq50 : G q50 = some 146) (eq50 : q50 = fR H a0 (K.1.2 10 50)) (eh70 : h70 = fI H a0 (K.1.2 10 70)) (es1 : s1 = fI H a0 (K.1.2 10 1)) (es2 : s2 = fI H a0 (K.1.2 10 2)) (es3 : s3 = fI H a0 (K.1.2 10 3)) (es59 : s59 = fI H a0 (K.1.2 10 59)) (es62 : s62 = fI H a0 (K.1.2 10 62)) (es65 : s65 = fI H a0 (K.1.2 10 65)) (hg_CG : CG (avw K H a0)) (hg_TU : TU (avw K H a0) (svw K H a0)) (hg_WD : WD (avw K H a0)) (hg_IM : IM (avw K H a0)) : MX l K yX10_image cX10_image 2 (some .boolean) 2 42 0 0 [.ref a0, .int x1] H (AE G [112, 162, 113, 119, 122, 123, 124, 146, 114, 115, 116, 117, 118, 125, 154, 155, 120, 121, 147, 148, 149, 150, 156, 157, 158, 159, 128, 129, 130, 131, 132, 133, 134, 135, 136, 137] H.size) (fun v H1 => ∃ (r : Int32) (t0 : Int32) (t1 : Int32) (t2 : Int32) (t3 : Int32) (t4 : Int32) (t5 : Int32) (t6 : Int32), v = some (.int r) ∧ (0 ≤ r.toInt ∧ r.toInt ≤ 1) ∧ t0 = fI H1 a0 (K.1.2 10 70) ∧ t1 = fI H1 a0 (K.1.2 10 1) ∧ t2 = fI H1 a0 (K.1.2 10 2) ∧ t3 = fI H1 a0 (K.1.2 10 3) ∧ t4 = fI H1 a0 (K.1.2 10 59) ∧ t5 = fI H1 a0 (K.1.2 10 62) ∧ t6 = fI H1 a0 (K.1.2 10 65) ∧ ((x1.toInt = 0 ∧ h70.toInt = 0 ∧ r.toInt = 0 ∧ t0.toInt = 0 ∧ t1.toInt = s1.toInt ∧ t2.toInt = s2.toInt ∧ t3.toInt = s3.toInt ∧ t4.toInt = s59.toInt ∧ t5.toInt = s62.toInt ∧ t6.toInt = s65.toInt) ∨ (r.toInt = 1 ∧ t0.toInt = 1 ∧ (x1.toInt ≠ 0 ∨ h70.toInt ≠ 0))) ∧ iq = fR H1 a0 (K.1.2 10 73) ∧ q4 = fR H1 a0 (K.1.2 10 4) ∧ q10 = fR H1 a0 (K.1.2 10 10) ∧ q16 = fR H1 a0 (K.1.2 10 16) ∧ q24 = fR H1 a0 (K.1.2 10 24) ∧ q27 = fR H1 a0 (K.1.2 10 27) ∧ q29 = fR H1 a0 (K.1.2 10 29) ∧ q30 = fR H1 a0 (K.1.2 10 30) ∧ q31 = fR H1 a0 (K.1.2 10 31) ∧ q32 = fR H1 a0 (K.1.2 10 32) ∧ q33 = fR H1 a0 (K.1.2 10 33) ∧ q50 = fR H1 a0 (K.1.2 10 50) ∧ (CG (avw K H1 a0)) ∧ (TU (avw K H1 a0) (svw K H1 a0)) ∧ (WD (avw K H1 a0)) ∧ (IM (avw K H1 a0)) ∧ MF K H H1 a0 [0, 1, 2, 3, 59, 62, 65, 70, 71, 72] ∧ (r.toInt = 0 ∨ (t1 = fI H1 iq 0 ∧ t2 = fI H1 iq 1 ∧ t3 = fI H1 iq 2 ∧ t4 = fI H1 iq 3 ∧ t5 = fI H1 iq 4 ∧ t6 = fI H1 iq 5)) ∧ (x1.toInt ≠ 0 → t1 = s1 ∧ t2 = s2 ∧ t3 = s3 ∧ t4 = s59 ∧ t5 = s62 ∧ t6 = s65) ∧ (x1.toInt = 0 → ∀ j : Nat, fI H1 iq j = fI H iq j) ∧ (r.toInt = 0 ∨ ∀ j : Nat, j < 10 → fI H1 q50 j = fI H1 iq (11 + 6 * j)) ∧ (x1.toInt ≠ 0 → ∀ j : Nat, fI H1 q50 j = fI H q50 j) ∧ (r.toInt = 0 → ∀ j : Nat, fI H1 q50 j = fI H q50 j) ∧ TY K G H1) := by
  refine MX.of (by decide +kernel) (Nat.le_of_ble_eq_true rfl) ?_
  intro p e s m below meth c ls Q C hH hl hQ
  subst hH
  have C : CX p K s m _ meth c RX10 cX10_image 2 (some .boolean) "image" := C
  obtain ⟨hx, hb, hml, hown, hts, hKT, hr, hlocks, hnm⟩ := id C
  have hl : lv_has ls 2 [(0, .ref a0), (1, .int x1)] := hl
  have hS : va_S (AE G [112, 162, 113, 119, 122, 123, 124, 146, 114, 115, 116, 117, 118, 125, 154, 155, 120, 121, 147, 148, 149, 150, 156, 157, 158, 159, 128, 129, 130, 131, 132, 133, 134, 135, 136, 137] s.heap.size) s.heap s.heap [] := va_S.rf
  have n_0 : (0 : Int32).toInt = 0 := rfl
  have n_1 : (1 : Int32).toInt = 1 := rfl
  have bh70 := ty_fi (x := h70) (k := 70) eh70 hT ga0 rg_112 rfl
  have bs1 := ty_fi (x := s1) (k := 1) es1 hT ga0 rg_112 rfl
  have bs2 := ty_fi (x := s2) (k := 2) es2 hT ga0 rg_112 rfl
  have bs3 := ty_fi (x := s3) (k := 3) es3 hT ga0 rg_112 rfl
  have bs59 := ty_fi (x := s59) (k := 59) es59 hT ga0 rg_112 rfl
  have bs62 := ty_fi (x := s62) (k := 62) es62 hT ga0 rg_112 rfl
  have bs65 := ty_fi (x := s65) (k := 65) es65 hT ga0 rg_112 rfl
  have hap : ∀ x y, x < 74 → y < 74 → x ≠ y → K.1.2 10 x ≠ K.1.2 10 y := x_apart hKT hts inX10 tyX10 tyX10_ok nmX10 rfl
  have mf0 : MF K s.heap s.heap a0 [0, 1, 2, 3, 59, 62, 65, 70, 71, 72] := fun _ _ _ => rfl
  replace eiq := EQN.mk eiq
  replace eq4 := EQN.mk eq4
  replace eq10 := EQN.mk eq10
  replace eq16 := EQN.mk eq16
  replace eq24 := EQN.mk eq24
  replace eq27 := EQN.mk eq27
  replace eq29 := EQN.mk eq29
  replace eq30 := EQN.mk eq30
  replace eq31 := EQN.mk eq31
  replace eq32 := EQN.mk eq32
  replace eq33 := EQN.mk eq33
  replace eq50 := EQN.mk eq50
  have f0_f4 : ∀ j : Nat, fI s.heap q50 j = fI s.heap q50 j := fun _ => rfl
  have hIW := IM.w hg_IM eiq
  have ui00 : UN (x1.toInt = 0) (fun k => fI s.heap iq k) (fun k => fI s.heap iq k) := UN.rf
  have u400 : UN (x1.toInt ≠ 0) (fun k => fI s.heap q4 k) (fun k => fI s.heap q4 k) := UN.rf
  have u1600 : UN (x1.toInt ≠ 0) (fun k => fI s.heap q16 k) (fun k => fI s.heap q16 k) := UN.rf
  have u2400 : UN (x1.toInt ≠ 0) (fun k => fI s.heap q24 k) (fun k => fI s.heap q24 k) := UN.rf
  have u2900 : UN (x1.toInt ≠ 0) (fun k => fI s.heap q29 k) (fun k => fI s.heap q29 k) := UN.rf
  have u3000 : UN (x1.toInt ≠ 0) (fun k => fI s.heap q30 k) (fun k => fI s.heap q30 k) := UN.rf
  have u3100 : UN (x1.toInt ≠ 0) (fun k => fI s.heap q31 k) (fun k => fI s.heap q31 k) := UN.rf
  have u3200 : UN (x1.toInt ≠ 0) (fun k => fI s.heap q32 k) (fun k => fI s.heap q32 k) := UN.rf
  have u3300 : UN (x1.toInt ≠ 0) (fun k => fI s.heap q33 k) (fun k => fI s.heap q33 k) := UN.rf
  have u5000 : UN (x1.toInt ≠ 0) (fun k => fI s.heap q50 k) (fun k => fI s.heap q50 k) := UN.rf
  refine lv_aload_n hx hb dX10_image_0 rfl (lv_at hl 0 rfl) ?_
  refine lv_iconst (v := 0) hx hb dX10_image_1 (by decide) ?_
  refine x_put C hT hS (ci := 10) (k := 0) (v := .int 0) (ty0 := tyX10) rfl inX10 tyX10_ok nmX10 (by decide) rfl wF_X10_167 ga0 rg_112 rfl rfl (okI (by have := i_rng (0 : Int32); omega) (by have := i_rng (0 : Int32); omega)) rfl rfl (AE_in ga0 (by decide)) dX10_image_2 (fun H4789 locsH4789 hTH4789 hSH4789 wH4789 => ?_)
  have mf4790 : MF K s.heap H4789 a0 [0, 1, 2, 3, 59, 62, 65, 70, 71, 72] := MF.fld hap wH4789 (by decide) (by decide) mf0
  have g4791 : CG (avw K H4789 a0) := CG.congr (fun k hk j => av_fld hT ga0 hap wH4789 (by decide) (CG_ok 112 (by decide) k hk) (CG_ne 0 (by decide) k hk)) hg_CG
  have g4792 : TU (avw K H4789 a0) (svw K H4789 a0) := TU.congr (fun k hk j => av_fld hT ga0 hap wH4789 (by decide) (TU_ok 112 (by decide) k hk) (TU_ne 0 (by decide) k hk)) (fun k hk => sv_fld hap wH4789 (by decide) (TU_slt k hk) (TU_sne 0 (by decide) k hk)) hg_TU
  have g4793 : WD (avw K H4789 a0) := WD.congr (fun k hk j => av_fld hT ga0 hap wH4789 (by decide) (WD_ok 112 (by decide) k hk) (WD_ne 0 (by decide) k hk)) hg_WD
  have g4794 : IM (avw K H4789 a0) := IM.congr (fun k hk j => av_fld hT ga0 hap wH4789 (by decide) (IM_ok 112 (by decide) k hk) (IM_ne 0 (by decide) k hk)) hg_IM
  have b4795 : UN (x1.toInt = 0) (fun k => fI H4789 iq k) (fun k => fI s.heap iq k) := UN.congr (fun j => Wr.neI wH4789 (Or.inl (G_ne giq ga0 (by decide)))) ui00
  have b4796 : UN (x1.toInt ≠ 0) (fun k => fI H4789 q4 k) (fun k => fI s.heap q4 k) := UN.congr (fun j => Wr.neI wH4789 (Or.inl (G_ne gq4 ga0 (by decide)))) u400
  have b4797 : UN (x1.toInt ≠ 0) (fun k => fI H4789 q16 k) (fun k => fI s.heap q16 k) := UN.congr (fun j => Wr.neI wH4789 (Or.inl (G_ne gq16 ga0 (by decide)))) u1600
  have b4798 : UN (x1.toInt ≠ 0) (fun k => fI H4789 q24 k) (fun k => fI s.heap q24 k) := UN.congr (fun j => Wr.neI wH4789 (Or.inl (G_ne gq24 ga0 (by decide)))) u2400
  have b4799 : UN (x1.toInt ≠ 0) (fun k => fI H4789 q29 k) (fun k => fI s.heap q29 k) := UN.congr (fun j => Wr.neI wH4789 (Or.inl (G_ne gq29 ga0 (by decide)))) u2900
  have b4800 : UN (x1.toInt ≠ 0) (fun k => fI H4789 q30 k) (fun k => fI s.heap q30 k) := UN.congr (fun j => Wr.neI wH4789 (Or.inl (G_ne gq30 ga0 (by decide)))) u3000
  have b4801 : UN (x1.toInt ≠ 0) (fun k => fI H4789 q31 k) (fun k => fI s.heap q31 k) := UN.congr (fun j => Wr.neI wH4789 (Or.inl (G_ne gq31 ga0 (by decide)))) u3100
  have b4802 : UN (x1.toInt ≠ 0) (fun k => fI H4789 q32 k) (fun k => fI s.heap q32 k) := UN.congr (fun j => Wr.neI wH4789 (Or.inl (G_ne gq32 ga0 (by decide)))) u3200
  have b4803 : UN (x1.toInt ≠ 0) (fun k => fI H4789 q33 k) (fun k => fI s.heap q33 k) := UN.congr (fun j => Wr.neI wH4789 (Or.inl (G_ne gq33 ga0 (by decide)))) u3300
  have b4804 : UN (x1.toInt ≠ 0) (fun k => fI H4789 q50 k) (fun k => fI s.heap q50 k) := UN.congr (fun j => Wr.neI wH4789 (Or.inl (G_ne gq50 ga0 (by decide)))) u5000
  have f4805 : ∀ j : Nat, fI H4789 q50 j = fI s.heap q50 j := fun j => (Wr.neI wH4789 (Or.inl (G_ne gq50 ga0 (by decide)))).trans (f0_f4 j)
  have m4806 := eiq.trans (Wr.neR wH4789 (Or.inr (x_apart hKT hts inX10 tyX10 tyX10_ok nmX10 rfl 73 0 (by decide) (by decide) (by decide)))).symm
  have m4807 := eq4.trans (Wr.neR wH4789 (Or.inr (x_apart hKT hts inX10 tyX10 tyX10_ok nmX10 rfl 4 0 (by decide) (by decide) (by decide)))).symm
  have m4808 := eq10.trans (Wr.neR wH4789 (Or.inr (x_apart hKT hts inX10 tyX10 tyX10_ok nmX10 rfl 10 0 (by decide) (by decide) (by decide)))).symm
  have m4809 := eq16.trans (Wr.neR wH4789 (Or.inr (x_apart hKT hts inX10 tyX10 tyX10_ok nmX10 rfl 16 0 (by decide) (by decide) (by decide)))).symm
  have m4810 := eq24.trans (Wr.neR wH4789 (Or.inr (x_apart hKT hts inX10 tyX10 tyX10_ok nmX10 rfl 24 0 (by decide) (by decide) (by decide)))).symm
  have m4811 := eq27.trans (Wr.neR wH4789 (Or.inr (x_apart hKT hts inX10 tyX10 tyX10_ok nmX10 rfl 27 0 (by decide) (by decide) (by decide)))).symm
  have m4812 := eq29.trans (Wr.neR wH4789 (Or.inr (x_apart hKT hts inX10 tyX10 tyX10_ok nmX10 rfl 29 0 (by decide) (by decide) (by decide)))).symm
  have m4813 := eq30.trans (Wr.neR wH4789 (Or.inr (x_apart hKT hts inX10 tyX10 tyX10_ok nmX10 rfl 30 0 (by decide) (by decide) (by decide)))).symm
  have m4814 := eq31.trans (Wr.neR wH4789 (Or.inr (x_apart hKT hts inX10 tyX10 tyX10_ok nmX10 rfl 31 0 (by decide) (by decide) (by decide)))).symm
  have m4815 := eq32.trans (Wr.neR wH4789 (Or.inr (x_apart hKT hts inX10 tyX10 tyX10_ok nmX10 rfl 32 0 (by decide) (by decide) (by decide)))).symm
  have m4816 := eq33.trans (Wr.neR wH4789 (Or.inr (x_apart hKT hts inX10 tyX10 tyX10_ok nmX10 rfl 33 0 (by decide) (by decide) (by decide)))).symm
  have m4817 := eq50.trans (Wr.neR wH4789 (Or.inr (x_apart hKT hts inX10 tyX10 tyX10_ok nmX10 rfl 50 0 (by decide) (by decide) (by decide)))).symm
  have m4818 := eh70.trans (Wr.neI wH4789 (Or.inr (x_apart hKT hts inX10 tyX10 tyX10_ok nmX10 rfl 70 0 (by decide) (by decide) (by decide)))).symm
  have m4819 := es1.trans (Wr.neI wH4789 (Or.inr (x_apart hKT hts inX10 tyX10 tyX10_ok nmX10 rfl 1 0 (by decide) (by decide) (by decide)))).symm
  have m4820 := es2.trans (Wr.neI wH4789 (Or.inr (x_apart hKT hts inX10 tyX10 tyX10_ok nmX10 rfl 2 0 (by decide) (by decide) (by decide)))).symm
  have m4821 := es3.trans (Wr.neI wH4789 (Or.inr (x_apart hKT hts inX10 tyX10 tyX10_ok nmX10 rfl 3 0 (by decide) (by decide) (by decide)))).symm
  have m4822 := es59.trans (Wr.neI wH4789 (Or.inr (x_apart hKT hts inX10 tyX10 tyX10_ok nmX10 rfl 59 0 (by decide) (by decide) (by decide)))).symm
  have m4823 := es62.trans (Wr.neI wH4789 (Or.inr (x_apart hKT hts inX10 tyX10 tyX10_ok nmX10 rfl 62 0 (by decide) (by decide) (by decide)))).symm
  have m4824 := es65.trans (Wr.neI wH4789 (Or.inr (x_apart hKT hts inX10 tyX10 tyX10_ok nmX10 rfl 65 0 (by decide) (by decide) (by decide)))).symm
  have m4825 := Wr.I wH4789
  clear f0_f4 mf0 u1600 u2400 u2900 u3000 u3100 u3200 u3300 u400 u5000 ui00
  refine lv_iload_n hx hb dX10_image_5 rfl (lv_at hl 1 rfl) ?_
  refine lv_if_ne (tgt := 18) hx hb dX10_image_6 (by decide) (fun c4826 => ?_) (fun c4826 => ?_)
  · have k4827 := i_ne c4826
    refine lv_aload_n hx hb dX10_image_18 rfl (lv_at hl 0 rfl) ?_
    refine lv_iload_n hx hb dX10_image_19 rfl (lv_at hl 1 rfl) ?_
    refine x_put C hTH4789 hSH4789 (ci := 10) (k := 71) (v := .int x1) (ty0 := tyX10) rfl inX10 tyX10_ok nmX10 (by decide) rfl wF_X10_470 ga0 rg_112 rfl rfl (okI (by have := i_rng x1; omega) (by have := i_rng x1; omega)) (by rcases i_01 (x := x1) (by omega) with h | h <;> rw [h] <;> rfl) (by rcases i_01 (x := x1) (by omega) with h | h <;> rw [h] <;> rfl) (AE_in ga0 (by decide)) dX10_image_20 (fun H4828 locsH4828 hTH4828 hSH4828 wH4828 => ?_)
    have mf4829 : MF K s.heap H4828 a0 [0, 1, 2, 3, 59, 62, 65, 70, 71, 72] := MF.fld hap wH4828 (by decide) (by decide) mf4790
    have g4830 : CG (avw K H4828 a0) := CG.congr (fun k hk j => av_fld hTH4789 ga0 hap wH4828 (by decide) (CG_ok 112 (by decide) k hk) (CG_ne 71 (by decide) k hk)) g4791
    have g4831 : TU (avw K H4828 a0) (svw K H4828 a0) := TU.congr (fun k hk j => av_fld hTH4789 ga0 hap wH4828 (by decide) (TU_ok 112 (by decide) k hk) (TU_ne 71 (by decide) k hk)) (fun k hk => sv_fld hap wH4828 (by decide) (TU_slt k hk) (TU_sne 71 (by decide) k hk)) g4792
    have g4832 : WD (avw K H4828 a0) := WD.congr (fun k hk j => av_fld hTH4789 ga0 hap wH4828 (by decide) (WD_ok 112 (by decide) k hk) (WD_ne 71 (by decide) k hk)) g4793
    have g4833 : IM (avw K H4828 a0) := IM.congr (fun k hk j => av_fld hTH4789 ga0 hap wH4828 (by decide) (IM_ok 112 (by decide) k hk) (IM_ne 71 (by decide) k hk)) g4794
    have b4834 : UN (x1.toInt = 0) (fun k => fI H4828 iq k) (fun k => fI s.heap iq k) := UN.congr (fun j => Wr.neI wH4828 (Or.inl (G_ne giq ga0 (by decide)))) b4795
    have b4835 : UN (x1.toInt ≠ 0) (fun k => fI H4828 q4 k) (fun k => fI s.heap q4 k) := UN.congr (fun j => Wr.neI wH4828 (Or.inl (G_ne gq4 ga0 (by decide)))) b4796
    have b4836 : UN (x1.toInt ≠ 0) (fun k => fI H4828 q16 k) (fun k => fI s.heap q16 k) := UN.congr (fun j => Wr.neI wH4828 (Or.inl (G_ne gq16 ga0 (by decide)))) b4797
    have b4837 : UN (x1.toInt ≠ 0) (fun k => fI H4828 q24 k) (fun k => fI s.heap q24 k) := UN.congr (fun j => Wr.neI wH4828 (Or.inl (G_ne gq24 ga0 (by decide)))) b4798
    have b4838 : UN (x1.toInt ≠ 0) (fun k => fI H4828 q29 k) (fun k => fI s.heap q29 k) := UN.congr (fun j => Wr.neI wH4828 (Or.inl (G_ne gq29 ga0 (by decide)))) b4799
    have b4839 : UN (x1.toInt ≠ 0) (fun k => fI H4828 q30 k) (fun k => fI s.heap q30 k) := UN.congr (fun j => Wr.neI wH4828 (Or.inl (G_ne gq30 ga0 (by decide)))) b4800
    have b4840 : UN (x1.toInt ≠ 0) (fun k => fI H4828 q31 k) (fun k => fI s.heap q31 k) := UN.congr (fun j => Wr.neI wH4828 (Or.inl (G_ne gq31 ga0 (by decide)))) b4801
    have b4841 : UN (x1.toInt ≠ 0) (fun k => fI H4828 q32 k) (fun k => fI s.heap q32 k) := UN.congr (fun j => Wr.neI wH4828 (Or.inl (G_ne gq32 ga0 (by decide)))) b4802
    have b4842 : UN (x1.toInt ≠ 0) (fun k => fI H4828 q33 k) (fun k => fI s.heap q33 k) := UN.congr (fun j => Wr.neI wH4828 (Or.inl (G_ne gq33 ga0 (by decide)))) b4803
    have b4843 : UN (x1.toInt ≠ 0) (fun k => fI H4828 q50 k) (fun k => fI s.heap q50 k) := UN.congr (fun j => Wr.neI wH4828 (Or.inl (G_ne gq50 ga0 (by decide)))) b4804
    have f4844 : ∀ j : Nat, fI H4828 q50 j = fI s.heap q50 j := fun j => (Wr.neI wH4828 (Or.inl (G_ne gq50 ga0 (by decide)))).trans (f4805 j)
    have m4845 := m4806.trans (Wr.neR wH4828 (Or.inr (x_apart hKT hts inX10 tyX10 tyX10_ok nmX10 rfl 73 71 (by decide) (by decide) (by decide)))).symm
    have m4846 := m4807.trans (Wr.neR wH4828 (Or.inr (x_apart hKT hts inX10 tyX10 tyX10_ok nmX10 rfl 4 71 (by decide) (by decide) (by decide)))).symm
    have m4847 := m4808.trans (Wr.neR wH4828 (Or.inr (x_apart hKT hts inX10 tyX10 tyX10_ok nmX10 rfl 10 71 (by decide) (by decide) (by decide)))).symm
    have m4848 := m4809.trans (Wr.neR wH4828 (Or.inr (x_apart hKT hts inX10 tyX10 tyX10_ok nmX10 rfl 16 71 (by decide) (by decide) (by decide)))).symm
    have m4849 := m4810.trans (Wr.neR wH4828 (Or.inr (x_apart hKT hts inX10 tyX10 tyX10_ok nmX10 rfl 24 71 (by decide) (by decide) (by decide)))).symm
    have m4850 := m4811.trans (Wr.neR wH4828 (Or.inr (x_apart hKT hts inX10 tyX10 tyX10_ok nmX10 rfl 27 71 (by decide) (by decide) (by decide)))).symm
    have m4851 := m4812.trans (Wr.neR wH4828 (Or.inr (x_apart hKT hts inX10 tyX10 tyX10_ok nmX10 rfl 29 71 (by decide) (by decide) (by decide)))).symm
    have m4852 := m4813.trans (Wr.neR wH4828 (Or.inr (x_apart hKT hts inX10 tyX10 tyX10_ok nmX10 rfl 30 71 (by decide) (by decide) (by decide)))).symm
    have m4853 := m4814.trans (Wr.neR wH4828 (Or.inr (x_apart hKT hts inX10 tyX10 tyX10_ok nmX10 rfl 31 71 (by decide) (by decide) (by decide)))).symm
    have m4854 := m4815.trans (Wr.neR wH4828 (Or.inr (x_apart hKT hts inX10 tyX10 tyX10_ok nmX10 rfl 32 71 (by decide) (by decide) (by decide)))).symm
    have m4855 := m4816.trans (Wr.neR wH4828 (Or.inr (x_apart hKT hts inX10 tyX10 tyX10_ok nmX10 rfl 33 71 (by decide) (by decide) (by decide)))).symm
    have m4856 := m4817.trans (Wr.neR wH4828 (Or.inr (x_apart hKT hts inX10 tyX10 tyX10_ok nmX10 rfl 50 71 (by decide) (by decide) (by decide)))).symm
    have m4857 := m4818.trans (Wr.neI wH4828 (Or.inr (x_apart hKT hts inX10 tyX10 tyX10_ok nmX10 rfl 70 71 (by decide) (by decide) (by decide)))).symm
    have m4858 := m4819.trans (Wr.neI wH4828 (Or.inr (x_apart hKT hts inX10 tyX10 tyX10_ok nmX10 rfl 1 71 (by decide) (by decide) (by decide)))).symm
    have m4859 := m4820.trans (Wr.neI wH4828 (Or.inr (x_apart hKT hts inX10 tyX10 tyX10_ok nmX10 rfl 2 71 (by decide) (by decide) (by decide)))).symm
    have m4860 := m4821.trans (Wr.neI wH4828 (Or.inr (x_apart hKT hts inX10 tyX10 tyX10_ok nmX10 rfl 3 71 (by decide) (by decide) (by decide)))).symm
    have m4861 := m4822.trans (Wr.neI wH4828 (Or.inr (x_apart hKT hts inX10 tyX10 tyX10_ok nmX10 rfl 59 71 (by decide) (by decide) (by decide)))).symm
    have m4862 := m4823.trans (Wr.neI wH4828 (Or.inr (x_apart hKT hts inX10 tyX10 tyX10_ok nmX10 rfl 62 71 (by decide) (by decide) (by decide)))).symm
    have m4863 := m4824.trans (Wr.neI wH4828 (Or.inr (x_apart hKT hts inX10 tyX10 tyX10_ok nmX10 rfl 65 71 (by decide) (by decide) (by decide)))).symm
    have m4864 := (Wr.neI wH4828 (Or.inr (x_apart hKT hts inX10 tyX10 tyX10_ok nmX10 rfl 0 71 (by decide) (by decide) (by decide)))).trans m4825
    have m4865 := Wr.I wH4828
    have m4865 := m4865.symm
    clear b4795 b4796 b4797 b4798 b4799 b4800 b4801 b4802 b4803 b4804 f4805 g4791 g4792 g4793 g4794 hTH4789 m4806 m4807 m4808 m4809 m4810 m4811 m4812 m4813 m4814 m4815 m4816 m4817 m4818 m4819 m4820 m4821 m4822 m4823 m4824 m4825 mf4790
    refine lv_aload_n hx hb dX10_image_23 rfl (lv_at hl 0 rfl) ?_
    refine lv_iconst (v := 1) hx hb dX10_image_24 (by decide) ?_
    refine x_put C hTH4828 hSH4828 (ci := 10) (k := 70) (v := .int 1) (ty0 := tyX10) rfl inX10 tyX10_ok nmX10 (by decide) rfl wF_X10_476 ga0 rg_112 rfl rfl (okI (by have := i_rng (1 : Int32); omega) (by have := i_rng (1 : Int32); omega)) rfl rfl (AE_in ga0 (by decide)) dX10_image_25 (fun H4866 locsH4866 hTH4866 hSH4866 wH4866 => ?_)
    have mf4867 : MF K s.heap H4866 a0 [0, 1, 2, 3, 59, 62, 65, 70, 71, 72] := MF.fld hap wH4866 (by decide) (by decide) mf4829
    have g4868 : CG (avw K H4866 a0) := CG.congr (fun k hk j => av_fld hTH4828 ga0 hap wH4866 (by decide) (CG_ok 112 (by decide) k hk) (CG_ne 70 (by decide) k hk)) g4830
    have g4869 : TU (avw K H4866 a0) (svw K H4866 a0) := TU.congr (fun k hk j => av_fld hTH4828 ga0 hap wH4866 (by decide) (TU_ok 112 (by decide) k hk) (TU_ne 70 (by decide) k hk)) (fun k hk => sv_fld hap wH4866 (by decide) (TU_slt k hk) (TU_sne 70 (by decide) k hk)) g4831
    have g4870 : WD (avw K H4866 a0) := WD.congr (fun k hk j => av_fld hTH4828 ga0 hap wH4866 (by decide) (WD_ok 112 (by decide) k hk) (WD_ne 70 (by decide) k hk)) g4832
    have g4871 : IM (avw K H4866 a0) := IM.congr (fun k hk j => av_fld hTH4828 ga0 hap wH4866 (by decide) (IM_ok 112 (by decide) k hk) (IM_ne 70 (by decide) k hk)) g4833
    have b4872 : UN (x1.toInt = 0) (fun k => fI H4866 iq k) (fun k => fI s.heap iq k) := UN.congr (fun j => Wr.neI wH4866 (Or.inl (G_ne giq ga0 (by decide)))) b4834
    have b4873 : UN (x1.toInt ≠ 0) (fun k => fI H4866 q4 k) (fun k => fI s.heap q4 k) := UN.congr (fun j => Wr.neI wH4866 (Or.inl (G_ne gq4 ga0 (by decide)))) b4835
    have b4874 : UN (x1.toInt ≠ 0) (fun k => fI H4866 q16 k) (fun k => fI s.heap q16 k) := UN.congr (fun j => Wr.neI wH4866 (Or.inl (G_ne gq16 ga0 (by decide)))) b4836
    have b4875 : UN (x1.toInt ≠ 0) (fun k => fI H4866 q24 k) (fun k => fI s.heap q24 k) := UN.congr (fun j => Wr.neI wH4866 (Or.inl (G_ne gq24 ga0 (by decide)))) b4837
    have b4876 : UN (x1.toInt ≠ 0) (fun k => fI H4866 q29 k) (fun k => fI s.heap q29 k) := UN.congr (fun j => Wr.neI wH4866 (Or.inl (G_ne gq29 ga0 (by decide)))) b4838
    have b4877 : UN (x1.toInt ≠ 0) (fun k => fI H4866 q30 k) (fun k => fI s.heap q30 k) := UN.congr (fun j => Wr.neI wH4866 (Or.inl (G_ne gq30 ga0 (by decide)))) b4839
    have b4878 : UN (x1.toInt ≠ 0) (fun k => fI H4866 q31 k) (fun k => fI s.heap q31 k) := UN.congr (fun j => Wr.neI wH4866 (Or.inl (G_ne gq31 ga0 (by decide)))) b4840
    have b4879 : UN (x1.toInt ≠ 0) (fun k => fI H4866 q32 k) (fun k => fI s.heap q32 k) := UN.congr (fun j => Wr.neI wH4866 (Or.inl (G_ne gq32 ga0 (by decide)))) b4841
    have b4880 : UN (x1.toInt ≠ 0) (fun k => fI H4866 q33 k) (fun k => fI s.heap q33 k) := UN.congr (fun j => Wr.neI wH4866 (Or.inl (G_ne gq33 ga0 (by decide)))) b4842
    have b4881 : UN (x1.toInt ≠ 0) (fun k => fI H4866 q50 k) (fun k => fI s.heap q50 k) := UN.congr (fun j => Wr.neI wH4866 (Or.inl (G_ne gq50 ga0 (by decide)))) b4843
    have f4882 : ∀ j : Nat, fI H4866 q50 j = fI s.heap q50 j := fun j => (Wr.neI wH4866 (Or.inl (G_ne gq50 ga0 (by decide)))).trans (f4844 j)
    have m4883 := m4845.trans (Wr.neR wH4866 (Or.inr (x_apart hKT hts inX10 tyX10 tyX10_ok nmX10 rfl 73 70 (by decide) (by decide) (by decide)))).symm
    have m4884 := m4846.trans (Wr.neR wH4866 (Or.inr (x_apart hKT hts inX10 tyX10 tyX10_ok nmX10 rfl 4 70 (by decide) (by decide) (by decide)))).symm
    have m4885 := m4847.trans (Wr.neR wH4866 (Or.inr (x_apart hKT hts inX10 tyX10 tyX10_ok nmX10 rfl 10 70 (by decide) (by decide) (by decide)))).symm
    have m4886 := m4848.trans (Wr.neR wH4866 (Or.inr (x_apart hKT hts inX10 tyX10 tyX10_ok nmX10 rfl 16 70 (by decide) (by decide) (by decide)))).symm
    have m4887 := m4849.trans (Wr.neR wH4866 (Or.inr (x_apart hKT hts inX10 tyX10 tyX10_ok nmX10 rfl 24 70 (by decide) (by decide) (by decide)))).symm
    have m4888 := m4850.trans (Wr.neR wH4866 (Or.inr (x_apart hKT hts inX10 tyX10 tyX10_ok nmX10 rfl 27 70 (by decide) (by decide) (by decide)))).symm
    have m4889 := m4851.trans (Wr.neR wH4866 (Or.inr (x_apart hKT hts inX10 tyX10 tyX10_ok nmX10 rfl 29 70 (by decide) (by decide) (by decide)))).symm
    have m4890 := m4852.trans (Wr.neR wH4866 (Or.inr (x_apart hKT hts inX10 tyX10 tyX10_ok nmX10 rfl 30 70 (by decide) (by decide) (by decide)))).symm
    have m4891 := m4853.trans (Wr.neR wH4866 (Or.inr (x_apart hKT hts inX10 tyX10 tyX10_ok nmX10 rfl 31 70 (by decide) (by decide) (by decide)))).symm
    have m4892 := m4854.trans (Wr.neR wH4866 (Or.inr (x_apart hKT hts inX10 tyX10 tyX10_ok nmX10 rfl 32 70 (by decide) (by decide) (by decide)))).symm
    have m4893 := m4855.trans (Wr.neR wH4866 (Or.inr (x_apart hKT hts inX10 tyX10 tyX10_ok nmX10 rfl 33 70 (by decide) (by decide) (by decide)))).symm
    have m4894 := m4856.trans (Wr.neR wH4866 (Or.inr (x_apart hKT hts inX10 tyX10 tyX10_ok nmX10 rfl 50 70 (by decide) (by decide) (by decide)))).symm
    have m4896 := m4858.trans (Wr.neI wH4866 (Or.inr (x_apart hKT hts inX10 tyX10 tyX10_ok nmX10 rfl 1 70 (by decide) (by decide) (by decide)))).symm
    have m4897 := m4859.trans (Wr.neI wH4866 (Or.inr (x_apart hKT hts inX10 tyX10 tyX10_ok nmX10 rfl 2 70 (by decide) (by decide) (by decide)))).symm
    have m4898 := m4860.trans (Wr.neI wH4866 (Or.inr (x_apart hKT hts inX10 tyX10 tyX10_ok nmX10 rfl 3 70 (by decide) (by decide) (by decide)))).symm
    have m4899 := m4861.trans (Wr.neI wH4866 (Or.inr (x_apart hKT hts inX10 tyX10 tyX10_ok nmX10 rfl 59 70 (by decide) (by decide) (by decide)))).symm
    have m4900 := m4862.trans (Wr.neI wH4866 (Or.inr (x_apart hKT hts inX10 tyX10 tyX10_ok nmX10 rfl 62 70 (by decide) (by decide) (by decide)))).symm
    have m4901 := m4863.trans (Wr.neI wH4866 (Or.inr (x_apart hKT hts inX10 tyX10 tyX10_ok nmX10 rfl 65 70 (by decide) (by decide) (by decide)))).symm
    have m4902 := (Wr.neI wH4866 (Or.inr (x_apart hKT hts inX10 tyX10 tyX10_ok nmX10 rfl 0 70 (by decide) (by decide) (by decide)))).trans m4864
    have m4903 := m4865.trans (Wr.neI wH4866 (Or.inr (x_apart hKT hts inX10 tyX10 tyX10_ok nmX10 rfl 71 70 (by decide) (by decide) (by decide)))).symm
    have m4904 := Wr.I wH4866
    clear b4834 b4835 b4836 b4837 b4838 b4839 b4840 b4841 b4842 b4843 f4844 g4830 g4831 g4832 g4833 hTH4828 m4845 m4846 m4847 m4848 m4849 m4850 m4851 m4852 m4853 m4854 m4855 m4856 m4857 m4858 m4859 m4860 m4861 m4862 m4863 m4864 m4865 mf4829
    refine lv_aload_n hx hb dX10_image_28 rfl (lv_at hl 0 rfl) ?_
    refine lv_iconst (v := 0) hx hb dX10_image_29 (by decide) ?_
    refine x_put C hTH4866 hSH4866 (ci := 10) (k := 72) (v := .int 0) (ty0 := tyX10) rfl inX10 tyX10_ok nmX10 (by decide) rfl wF_X10_467 ga0 rg_112 rfl rfl (okI (by have := i_rng (0 : Int32); omega) (by have := i_rng (0 : Int32); omega)) rfl rfl (AE_in ga0 (by decide)) dX10_image_30 (fun H4905 locsH4905 hTH4905 hSH4905 wH4905 => ?_)
    have mf4906 : MF K s.heap H4905 a0 [0, 1, 2, 3, 59, 62, 65, 70, 71, 72] := MF.fld hap wH4905 (by decide) (by decide) mf4867
    have g4907 : CG (avw K H4905 a0) := CG.congr (fun k hk j => av_fld hTH4866 ga0 hap wH4905 (by decide) (CG_ok 112 (by decide) k hk) (CG_ne 72 (by decide) k hk)) g4868
    have g4908 : TU (avw K H4905 a0) (svw K H4905 a0) := TU.congr (fun k hk j => av_fld hTH4866 ga0 hap wH4905 (by decide) (TU_ok 112 (by decide) k hk) (TU_ne 72 (by decide) k hk)) (fun k hk => sv_fld hap wH4905 (by decide) (TU_slt k hk) (TU_sne 72 (by decide) k hk)) g4869
    have g4909 : WD (avw K H4905 a0) := WD.congr (fun k hk j => av_fld hTH4866 ga0 hap wH4905 (by decide) (WD_ok 112 (by decide) k hk) (WD_ne 72 (by decide) k hk)) g4870
    have g4910 : IM (avw K H4905 a0) := IM.congr (fun k hk j => av_fld hTH4866 ga0 hap wH4905 (by decide) (IM_ok 112 (by decide) k hk) (IM_ne 72 (by decide) k hk)) g4871
    have b4911 : UN (x1.toInt = 0) (fun k => fI H4905 iq k) (fun k => fI s.heap iq k) := UN.congr (fun j => Wr.neI wH4905 (Or.inl (G_ne giq ga0 (by decide)))) b4872
    have b4912 : UN (x1.toInt ≠ 0) (fun k => fI H4905 q4 k) (fun k => fI s.heap q4 k) := UN.congr (fun j => Wr.neI wH4905 (Or.inl (G_ne gq4 ga0 (by decide)))) b4873
    have b4913 : UN (x1.toInt ≠ 0) (fun k => fI H4905 q16 k) (fun k => fI s.heap q16 k) := UN.congr (fun j => Wr.neI wH4905 (Or.inl (G_ne gq16 ga0 (by decide)))) b4874
    have b4914 : UN (x1.toInt ≠ 0) (fun k => fI H4905 q24 k) (fun k => fI s.heap q24 k) := UN.congr (fun j => Wr.neI wH4905 (Or.inl (G_ne gq24 ga0 (by decide)))) b4875
    have b4915 : UN (x1.toInt ≠ 0) (fun k => fI H4905 q29 k) (fun k => fI s.heap q29 k) := UN.congr (fun j => Wr.neI wH4905 (Or.inl (G_ne gq29 ga0 (by decide)))) b4876
    have b4916 : UN (x1.toInt ≠ 0) (fun k => fI H4905 q30 k) (fun k => fI s.heap q30 k) := UN.congr (fun j => Wr.neI wH4905 (Or.inl (G_ne gq30 ga0 (by decide)))) b4877
    have b4917 : UN (x1.toInt ≠ 0) (fun k => fI H4905 q31 k) (fun k => fI s.heap q31 k) := UN.congr (fun j => Wr.neI wH4905 (Or.inl (G_ne gq31 ga0 (by decide)))) b4878
    have b4918 : UN (x1.toInt ≠ 0) (fun k => fI H4905 q32 k) (fun k => fI s.heap q32 k) := UN.congr (fun j => Wr.neI wH4905 (Or.inl (G_ne gq32 ga0 (by decide)))) b4879
    have b4919 : UN (x1.toInt ≠ 0) (fun k => fI H4905 q33 k) (fun k => fI s.heap q33 k) := UN.congr (fun j => Wr.neI wH4905 (Or.inl (G_ne gq33 ga0 (by decide)))) b4880
    have b4920 : UN (x1.toInt ≠ 0) (fun k => fI H4905 q50 k) (fun k => fI s.heap q50 k) := UN.congr (fun j => Wr.neI wH4905 (Or.inl (G_ne gq50 ga0 (by decide)))) b4881
    have f4921 : ∀ j : Nat, fI H4905 q50 j = fI s.heap q50 j := fun j => (Wr.neI wH4905 (Or.inl (G_ne gq50 ga0 (by decide)))).trans (f4882 j)
    have m4922 := m4883.trans (Wr.neR wH4905 (Or.inr (x_apart hKT hts inX10 tyX10 tyX10_ok nmX10 rfl 73 72 (by decide) (by decide) (by decide)))).symm
    have m4923 := m4884.trans (Wr.neR wH4905 (Or.inr (x_apart hKT hts inX10 tyX10 tyX10_ok nmX10 rfl 4 72 (by decide) (by decide) (by decide)))).symm
    have m4924 := m4885.trans (Wr.neR wH4905 (Or.inr (x_apart hKT hts inX10 tyX10 tyX10_ok nmX10 rfl 10 72 (by decide) (by decide) (by decide)))).symm
    have m4925 := m4886.trans (Wr.neR wH4905 (Or.inr (x_apart hKT hts inX10 tyX10 tyX10_ok nmX10 rfl 16 72 (by decide) (by decide) (by decide)))).symm
    have m4926 := m4887.trans (Wr.neR wH4905 (Or.inr (x_apart hKT hts inX10 tyX10 tyX10_ok nmX10 rfl 24 72 (by decide) (by decide) (by decide)))).symm
    have m4927 := m4888.trans (Wr.neR wH4905 (Or.inr (x_apart hKT hts inX10 tyX10 tyX10_ok nmX10 rfl 27 72 (by decide) (by decide) (by decide)))).symm
    have m4928 := m4889.trans (Wr.neR wH4905 (Or.inr (x_apart hKT hts inX10 tyX10 tyX10_ok nmX10 rfl 29 72 (by decide) (by decide) (by decide)))).symm
    have m4929 := m4890.trans (Wr.neR wH4905 (Or.inr (x_apart hKT hts inX10 tyX10 tyX10_ok nmX10 rfl 30 72 (by decide) (by decide) (by decide)))).symm
    have m4930 := m4891.trans (Wr.neR wH4905 (Or.inr (x_apart hKT hts inX10 tyX10 tyX10_ok nmX10 rfl 31 72 (by decide) (by decide) (by decide)))).symm
    have m4931 := m4892.trans (Wr.neR wH4905 (Or.inr (x_apart hKT hts inX10 tyX10 tyX10_ok nmX10 rfl 32 72 (by decide) (by decide) (by decide)))).symm
    have m4932 := m4893.trans (Wr.neR wH4905 (Or.inr (x_apart hKT hts inX10 tyX10 tyX10_ok nmX10 rfl 33 72 (by decide) (by decide) (by decide)))).symm
    have m4933 := m4894.trans (Wr.neR wH4905 (Or.inr (x_apart hKT hts inX10 tyX10 tyX10_ok nmX10 rfl 50 72 (by decide) (by decide) (by decide)))).symm
    have m4934 := m4896.trans (Wr.neI wH4905 (Or.inr (x_apart hKT hts inX10 tyX10 tyX10_ok nmX10 rfl 1 72 (by decide) (by decide) (by decide)))).symm
    have m4935 := m4897.trans (Wr.neI wH4905 (Or.inr (x_apart hKT hts inX10 tyX10 tyX10_ok nmX10 rfl 2 72 (by decide) (by decide) (by decide)))).symm
    have m4936 := m4898.trans (Wr.neI wH4905 (Or.inr (x_apart hKT hts inX10 tyX10 tyX10_ok nmX10 rfl 3 72 (by decide) (by decide) (by decide)))).symm
    have m4937 := m4899.trans (Wr.neI wH4905 (Or.inr (x_apart hKT hts inX10 tyX10 tyX10_ok nmX10 rfl 59 72 (by decide) (by decide) (by decide)))).symm
    have m4938 := m4900.trans (Wr.neI wH4905 (Or.inr (x_apart hKT hts inX10 tyX10 tyX10_ok nmX10 rfl 62 72 (by decide) (by decide) (by decide)))).symm
    have m4939 := m4901.trans (Wr.neI wH4905 (Or.inr (x_apart hKT hts inX10 tyX10 tyX10_ok nmX10 rfl 65 72 (by decide) (by decide) (by decide)))).symm
    have m4940 := (Wr.neI wH4905 (Or.inr (x_apart hKT hts inX10 tyX10 tyX10_ok nmX10 rfl 0 72 (by decide) (by decide) (by decide)))).trans m4902
    have m4941 := m4903.trans (Wr.neI wH4905 (Or.inr (x_apart hKT hts inX10 tyX10 tyX10_ok nmX10 rfl 71 72 (by decide) (by decide) (by decide)))).symm
    have m4942 := (Wr.neI wH4905 (Or.inr (x_apart hKT hts inX10 tyX10 tyX10_ok nmX10 rfl 70 72 (by decide) (by decide) (by decide)))).trans m4904
    have m4943 := Wr.I wH4905
    clear b4872 b4873 b4874 b4875 b4876 b4877 b4878 b4879 b4880 b4881 f4882 g4868 g4869 g4870 g4871 hTH4866 m4883 m4884 m4885 m4886 m4887 m4888 m4889 m4890 m4891 m4892 m4893 m4894 m4896 m4897 m4898 m4899 m4900 m4901 m4902 m4903 m4904 mf4867
    refine lv_aload_n hx hb dX10_image_33 rfl (lv_at hl 0 rfl) ?_
    refine lv_aload_n hx hb dX10_image_34 rfl (lv_at hl 0 rfl) ?_
    refine lv_aload_n hx hb dX10_image_35 rfl (lv_at hl 0 rfl) ?_
    refine x_gi C hTH4905 (ci := 10) (k := 1) rfl inX10 (by decide) wF_X10_170 ga0 rg_112 rfl dX10_image_36 (fun x4944 ex4944 bx4944 => ?_)
    have ux4944 : s1 = x4944 := (m4934).trans ex4944.symm
    subst ux4944
    refine x_V (As := [.int s1]) (rest := [.ref a0]) C (a_X10_kept l K G H4905 (s1) (0) (x1) hTH4905 ga0 giq m4922 (m4943).symm m4941 g4909 (by and_intros <;> first | assumption | omega)) yo_X10_kept wM_X10_473 ⟨⟨by decide, by decide⟩, by decide, by decide⟩ (x_rv C hTH4905 (ci := 10) rfl ga0 rg_112) rfl hl.1 rfl (Nat.le_of_ble_eq_true rfl) dX10_image_39 hSH4905 (AE_sub (fun _ _ => rfl) (by decide) hSH4905.1) (fun vH4945 H4945 locsH4945 pH4945 zH4945 kH4945 hSH4945 => ?_)
    obtain ⟨x4946, x4947, hvH4945, ex4947, hrH4945, m4948, g4949, mf4950, m4951, m4952, m4953, m4954, hTH4945⟩ := pH4945
    subst hvH4945
    clear zH4945
    replace m4948 := EQN.mk m4948
    have b4955 : UN (x1.toInt ≠ 0) (fun k => fI H4945 q4 k) (fun k => fI s.heap q4 k) := UN.congr (fun j => fI_kept (x_lt hTH4905 kH4945 gq4 (by decide))) b4912
    have b4956 : UN (x1.toInt ≠ 0) (fun k => fI H4945 q16 k) (fun k => fI s.heap q16 k) := UN.congr (fun j => fI_kept (x_lt hTH4905 kH4945 gq16 (by decide))) b4913
    have b4957 : UN (x1.toInt ≠ 0) (fun k => fI H4945 q24 k) (fun k => fI s.heap q24 k) := UN.congr (fun j => fI_kept (x_lt hTH4905 kH4945 gq24 (by decide))) b4914
    have b4958 : UN (x1.toInt ≠ 0) (fun k => fI H4945 q29 k) (fun k => fI s.heap q29 k) := UN.congr (fun j => fI_kept (x_lt hTH4905 kH4945 gq29 (by decide))) b4915
    have b4959 : UN (x1.toInt ≠ 0) (fun k => fI H4945 q30 k) (fun k => fI s.heap q30 k) := UN.congr (fun j => fI_kept (x_lt hTH4905 kH4945 gq30 (by decide))) b4916
    have b4960 : UN (x1.toInt ≠ 0) (fun k => fI H4945 q31 k) (fun k => fI s.heap q31 k) := UN.congr (fun j => fI_kept (x_lt hTH4905 kH4945 gq31 (by decide))) b4917
    have b4961 : UN (x1.toInt ≠ 0) (fun k => fI H4945 q32 k) (fun k => fI s.heap q32 k) := UN.congr (fun j => fI_kept (x_lt hTH4905 kH4945 gq32 (by decide))) b4918
    have b4962 : UN (x1.toInt ≠ 0) (fun k => fI H4945 q33 k) (fun k => fI s.heap q33 k) := UN.congr (fun j => fI_kept (x_lt hTH4905 kH4945 gq33 (by decide))) b4919
    have b4963 : UN (x1.toInt ≠ 0) (fun k => fI H4945 q50 k) (fun k => fI s.heap q50 k) := UN.congr (fun j => fI_kept (x_lt hTH4905 kH4945 gq50 (by decide))) b4920
    have f4964 : ∀ j : Nat, fI H4945 q50 j = fI s.heap q50 j := fun j => (fI_kept (x_lt hTH4905 kH4945 gq50 (by decide))).trans (f4921 j)
    have m4965 := (m4922).trans (MF.r mf4950 (k := 73) (by decide) (by decide)).symm
    have m4966 := (m4923).trans (MF.r mf4950 (k := 4) (by decide) (by decide)).symm
    have m4967 := (m4924).trans (MF.r mf4950 (k := 10) (by decide) (by decide)).symm
    have m4968 := (m4925).trans (MF.r mf4950 (k := 16) (by decide) (by decide)).symm
    have m4969 := (m4926).trans (MF.r mf4950 (k := 24) (by decide) (by decide)).symm
    have m4970 := (m4927).trans (MF.r mf4950 (k := 27) (by decide) (by decide)).symm
    have m4971 := (m4928).trans (MF.r mf4950 (k := 29) (by decide) (by decide)).symm
    have m4972 := (m4929).trans (MF.r mf4950 (k := 30) (by decide) (by decide)).symm
    have m4973 := (m4930).trans (MF.r mf4950 (k := 31) (by decide) (by decide)).symm
    have m4974 := (m4931).trans (MF.r mf4950 (k := 32) (by decide) (by decide)).symm
    have m4975 := (m4932).trans (MF.r mf4950 (k := 33) (by decide) (by decide)).symm
    have m4976 := (m4933).trans (MF.r mf4950 (k := 50) (by decide) (by decide)).symm
    have m4977 := (m4934).trans (MF.i mf4950 (k := 1) (by decide) (by decide)).symm
    have m4978 := (m4935).trans (MF.i mf4950 (k := 2) (by decide) (by decide)).symm
    have m4979 := (m4936).trans (MF.i mf4950 (k := 3) (by decide) (by decide)).symm
    have m4980 := (m4937).trans (MF.i mf4950 (k := 59) (by decide) (by decide)).symm
    have m4981 := (m4938).trans (MF.i mf4950 (k := 62) (by decide) (by decide)).symm
    have m4982 := (m4939).trans (MF.i mf4950 (k := 65) (by decide) (by decide)).symm
    have m4983 := (MF.i mf4950 (k := 0) (by decide) (by decide)).trans m4940
    have m4984 := (m4941).trans (MF.i mf4950 (k := 71) (by decide) (by decide)).symm
    have m4985 := (MF.i mf4950 (k := 70) (by decide) (by decide)).trans m4942
    have mf4986 : MF K s.heap H4945 a0 [0, 1, 2, 3, 59, 62, 65, 70, 71, 72] := MF.trans mf4906 mf4950 (by decide)
    have bx4947 := ty_fi (x := x4947) (k := 72) ex4947 hTH4945 ga0 rg_112 rfl
    have ce_k0 : (0 : Int32).toNatClampNeg = 0 := rfl
    have b4987 : UN (x1.toInt = 0) (fun k => fI H4945 iq k) (fun k => fI s.heap iq k) := UN.tr m4954 b4911
    clear b4911 b4912 b4913 b4914 b4915 b4916 b4917 b4918 b4919 b4920 m4922 m4923 m4924 m4925 m4926 m4927 m4928 m4929 m4930 m4931 m4932 m4933 m4934 m4935 m4936 m4937 m4938 m4939 m4940 m4941 m4942 m4943
    clear m4953 m4954
    have bx4946 : 0 ≤ x4946.toInt ∧ x4946.toInt ≤ 10 := kr (fun h0 => by have hiw := hIW; exact kr0 (w := fun k => fI H4945 iq k) m4951 (p := 0) (by omega) (b4987 h0) (hiw.1.1)) m4952 (by omega)
    have p4988 : x4946 = fI H4945 iq (0) := by have h := m4951; rw [show (0 : Int32).toNatClampNeg = 0 by omega] at h; exact h
    refine W.eq (g2 := F0 m 42 ls [.int x4946, .ref a0]) rfl ?_
    refine x_put C hTH4945 hSH4945 (ci := 10) (k := 1) (v := .int x4946) (ty0 := tyX10) rfl inX10 tyX10_ok nmX10 (by decide) rfl wF_X10_170 ga0 rg_112 rfl rfl (okI (by have := i_rng x4946; omega) (by have := i_rng x4946; omega)) rfl rfl (AE_in ga0 (by decide)) dX10_image_42 (fun H4989 locsH4989 hTH4989 hSH4989 wH4989 => ?_)
    have mf4990 : MF K s.heap H4989 a0 [0, 1, 2, 3, 59, 62, 65, 70, 71, 72] := MF.fld hap wH4989 (by decide) (by decide) mf4986
    have g4991 : WD (avw K H4989 a0) := WD.congr (fun k hk j => av_fld hTH4945 ga0 hap wH4989 (by decide) (WD_ok 112 (by decide) k hk) (WD_ne 1 (by decide) k hk)) g4949
    have b4992 : UN (x1.toInt ≠ 0) (fun k => fI H4989 q4 k) (fun k => fI s.heap q4 k) := UN.congr (fun j => Wr.neI wH4989 (Or.inl (G_ne gq4 ga0 (by decide)))) b4955
    have b4993 : UN (x1.toInt ≠ 0) (fun k => fI H4989 q16 k) (fun k => fI s.heap q16 k) := UN.congr (fun j => Wr.neI wH4989 (Or.inl (G_ne gq16 ga0 (by decide)))) b4956
    have b4994 : UN (x1.toInt ≠ 0) (fun k => fI H4989 q24 k) (fun k => fI s.heap q24 k) := UN.congr (fun j => Wr.neI wH4989 (Or.inl (G_ne gq24 ga0 (by decide)))) b4957
    have b4995 : UN (x1.toInt ≠ 0) (fun k => fI H4989 q29 k) (fun k => fI s.heap q29 k) := UN.congr (fun j => Wr.neI wH4989 (Or.inl (G_ne gq29 ga0 (by decide)))) b4958
    have b4996 : UN (x1.toInt ≠ 0) (fun k => fI H4989 q30 k) (fun k => fI s.heap q30 k) := UN.congr (fun j => Wr.neI wH4989 (Or.inl (G_ne gq30 ga0 (by decide)))) b4959
    have b4997 : UN (x1.toInt ≠ 0) (fun k => fI H4989 q31 k) (fun k => fI s.heap q31 k) := UN.congr (fun j => Wr.neI wH4989 (Or.inl (G_ne gq31 ga0 (by decide)))) b4960
    have b4998 : UN (x1.toInt ≠ 0) (fun k => fI H4989 q32 k) (fun k => fI s.heap q32 k) := UN.congr (fun j => Wr.neI wH4989 (Or.inl (G_ne gq32 ga0 (by decide)))) b4961
    have b4999 : UN (x1.toInt ≠ 0) (fun k => fI H4989 q33 k) (fun k => fI s.heap q33 k) := UN.congr (fun j => Wr.neI wH4989 (Or.inl (G_ne gq33 ga0 (by decide)))) b4962
    have b5000 : UN (x1.toInt ≠ 0) (fun k => fI H4989 q50 k) (fun k => fI s.heap q50 k) := UN.congr (fun j => Wr.neI wH4989 (Or.inl (G_ne gq50 ga0 (by decide)))) b4963
    have b5001 : UN (x1.toInt = 0) (fun k => fI H4989 iq k) (fun k => fI s.heap iq k) := UN.congr (fun j => Wr.neI wH4989 (Or.inl (G_ne giq ga0 (by decide)))) b4987
    have b5002 : x4946 = fI H4989 iq (0) := (p4988).trans (Wr.neI wH4989 (Or.inl (G_ne giq ga0 (by decide)))).symm
    have f5003 : ∀ j : Nat, fI H4989 q50 j = fI s.heap q50 j := fun j => (Wr.neI wH4989 (Or.inl (G_ne gq50 ga0 (by decide)))).trans (f4964 j)
    have m5004 := m4948.trans (Wr.neR wH4989 (Or.inr (x_apart hKT hts inX10 tyX10 tyX10_ok nmX10 rfl 73 1 (by decide) (by decide) (by decide)))).symm
    have m5005 := m4966.trans (Wr.neR wH4989 (Or.inr (x_apart hKT hts inX10 tyX10 tyX10_ok nmX10 rfl 4 1 (by decide) (by decide) (by decide)))).symm
    have m5006 := m4967.trans (Wr.neR wH4989 (Or.inr (x_apart hKT hts inX10 tyX10 tyX10_ok nmX10 rfl 10 1 (by decide) (by decide) (by decide)))).symm
    have m5007 := m4968.trans (Wr.neR wH4989 (Or.inr (x_apart hKT hts inX10 tyX10 tyX10_ok nmX10 rfl 16 1 (by decide) (by decide) (by decide)))).symm
    have m5008 := m4969.trans (Wr.neR wH4989 (Or.inr (x_apart hKT hts inX10 tyX10 tyX10_ok nmX10 rfl 24 1 (by decide) (by decide) (by decide)))).symm
    have m5009 := m4970.trans (Wr.neR wH4989 (Or.inr (x_apart hKT hts inX10 tyX10 tyX10_ok nmX10 rfl 27 1 (by decide) (by decide) (by decide)))).symm
    have m5010 := m4971.trans (Wr.neR wH4989 (Or.inr (x_apart hKT hts inX10 tyX10 tyX10_ok nmX10 rfl 29 1 (by decide) (by decide) (by decide)))).symm
    have m5011 := m4972.trans (Wr.neR wH4989 (Or.inr (x_apart hKT hts inX10 tyX10 tyX10_ok nmX10 rfl 30 1 (by decide) (by decide) (by decide)))).symm
    have m5012 := m4973.trans (Wr.neR wH4989 (Or.inr (x_apart hKT hts inX10 tyX10 tyX10_ok nmX10 rfl 31 1 (by decide) (by decide) (by decide)))).symm
    have m5013 := m4974.trans (Wr.neR wH4989 (Or.inr (x_apart hKT hts inX10 tyX10 tyX10_ok nmX10 rfl 32 1 (by decide) (by decide) (by decide)))).symm
    have m5014 := m4975.trans (Wr.neR wH4989 (Or.inr (x_apart hKT hts inX10 tyX10 tyX10_ok nmX10 rfl 33 1 (by decide) (by decide) (by decide)))).symm
    have m5015 := m4976.trans (Wr.neR wH4989 (Or.inr (x_apart hKT hts inX10 tyX10 tyX10_ok nmX10 rfl 50 1 (by decide) (by decide) (by decide)))).symm
    have m5017 := m4978.trans (Wr.neI wH4989 (Or.inr (x_apart hKT hts inX10 tyX10 tyX10_ok nmX10 rfl 2 1 (by decide) (by decide) (by decide)))).symm
    have m5018 := m4979.trans (Wr.neI wH4989 (Or.inr (x_apart hKT hts inX10 tyX10 tyX10_ok nmX10 rfl 3 1 (by decide) (by decide) (by decide)))).symm
    have m5019 := m4980.trans (Wr.neI wH4989 (Or.inr (x_apart hKT hts inX10 tyX10 tyX10_ok nmX10 rfl 59 1 (by decide) (by decide) (by decide)))).symm
    have m5020 := m4981.trans (Wr.neI wH4989 (Or.inr (x_apart hKT hts inX10 tyX10 tyX10_ok nmX10 rfl 62 1 (by decide) (by decide) (by decide)))).symm
    have m5021 := m4982.trans (Wr.neI wH4989 (Or.inr (x_apart hKT hts inX10 tyX10 tyX10_ok nmX10 rfl 65 1 (by decide) (by decide) (by decide)))).symm
    have m5022 := (Wr.neI wH4989 (Or.inr (x_apart hKT hts inX10 tyX10 tyX10_ok nmX10 rfl 0 1 (by decide) (by decide) (by decide)))).trans m4983
    have m5023 := m4984.trans (Wr.neI wH4989 (Or.inr (x_apart hKT hts inX10 tyX10 tyX10_ok nmX10 rfl 71 1 (by decide) (by decide) (by decide)))).symm
    have m5024 := (Wr.neI wH4989 (Or.inr (x_apart hKT hts inX10 tyX10 tyX10_ok nmX10 rfl 70 1 (by decide) (by decide) (by decide)))).trans m4985
    have m5025 := ex4947.trans (Wr.neI wH4989 (Or.inr (x_apart hKT hts inX10 tyX10 tyX10_ok nmX10 rfl 72 1 (by decide) (by decide) (by decide)))).symm
    have m5026 := Wr.I wH4989
    have m5026 := m5026.symm
    clear b4955 b4956 b4957 b4958 b4959 b4960 b4961 b4962 b4963 b4987 ex4947 f4964 g4949 hTH4945 m4948 m4966 m4967 m4968 m4969 m4970 m4971 m4972 m4973 m4974 m4975 m4976 m4977 m4978 m4979 m4980 m4981 m4982 m4983 m4984 m4985 mf4986 p4988
    refine lv_aload_n hx hb dX10_image_45 rfl (lv_at hl 0 rfl) ?_
    refine lv_aload_n hx hb dX10_image_46 rfl (lv_at hl 0 rfl) ?_
    refine lv_aload_n hx hb dX10_image_47 rfl (lv_at hl 0 rfl) ?_
    refine x_gi C hTH4989 (ci := 10) (k := 2) rfl inX10 (by decide) wF_X10_322 ga0 rg_112 rfl dX10_image_48 (fun x5027 ex5027 bx5027 => ?_)
    have ux5027 : s2 = x5027 := (m5017).trans ex5027.symm
    subst ux5027
    refine x_V (As := [.int s2]) (rest := [.ref a0]) C (a_X10_kept l K G H4989 (s2) (x4947) (x1) hTH4989 ga0 giq m5004 m5025 m5023 g4991 (by and_intros <;> first | assumption | omega)) yo_X10_kept wM_X10_473 ⟨⟨by decide, by decide⟩, by decide, by decide⟩ (x_rv C hTH4989 (ci := 10) rfl ga0 rg_112) rfl hl.1 rfl (Nat.le_of_ble_eq_true rfl) dX10_image_51 hSH4989 (AE_sub (fun _ _ => rfl) (by decide) hSH4989.1) (fun vH5028 H5028 locsH5028 pH5028 zH5028 kH5028 hSH5028 => ?_)
    obtain ⟨x5029, x5030, hvH5028, ex5030, hrH5028, m5031, g5032, mf5033, m5034, m5035, m5036, m5037, hTH5028⟩ := pH5028
    subst hvH5028
    clear zH5028
    replace m5031 := EQN.mk m5031
    have b5038 : UN (x1.toInt ≠ 0) (fun k => fI H5028 q4 k) (fun k => fI s.heap q4 k) := UN.congr (fun j => fI_kept (x_lt hTH4989 kH5028 gq4 (by decide))) b4992
    have b5039 : UN (x1.toInt ≠ 0) (fun k => fI H5028 q16 k) (fun k => fI s.heap q16 k) := UN.congr (fun j => fI_kept (x_lt hTH4989 kH5028 gq16 (by decide))) b4993
    have b5040 : UN (x1.toInt ≠ 0) (fun k => fI H5028 q24 k) (fun k => fI s.heap q24 k) := UN.congr (fun j => fI_kept (x_lt hTH4989 kH5028 gq24 (by decide))) b4994
    have b5041 : UN (x1.toInt ≠ 0) (fun k => fI H5028 q29 k) (fun k => fI s.heap q29 k) := UN.congr (fun j => fI_kept (x_lt hTH4989 kH5028 gq29 (by decide))) b4995
    have b5042 : UN (x1.toInt ≠ 0) (fun k => fI H5028 q30 k) (fun k => fI s.heap q30 k) := UN.congr (fun j => fI_kept (x_lt hTH4989 kH5028 gq30 (by decide))) b4996
    have b5043 : UN (x1.toInt ≠ 0) (fun k => fI H5028 q31 k) (fun k => fI s.heap q31 k) := UN.congr (fun j => fI_kept (x_lt hTH4989 kH5028 gq31 (by decide))) b4997
    have b5044 : UN (x1.toInt ≠ 0) (fun k => fI H5028 q32 k) (fun k => fI s.heap q32 k) := UN.congr (fun j => fI_kept (x_lt hTH4989 kH5028 gq32 (by decide))) b4998
    have b5045 : UN (x1.toInt ≠ 0) (fun k => fI H5028 q33 k) (fun k => fI s.heap q33 k) := UN.congr (fun j => fI_kept (x_lt hTH4989 kH5028 gq33 (by decide))) b4999
    have b5046 : UN (x1.toInt ≠ 0) (fun k => fI H5028 q50 k) (fun k => fI s.heap q50 k) := UN.congr (fun j => fI_kept (x_lt hTH4989 kH5028 gq50 (by decide))) b5000
    have f5047 : ∀ j : Nat, fI H5028 q50 j = fI s.heap q50 j := fun j => (fI_kept (x_lt hTH4989 kH5028 gq50 (by decide))).trans (f5003 j)
    have m5048 := (m5004).trans (MF.r mf5033 (k := 73) (by decide) (by decide)).symm
    have m5049 := (m5005).trans (MF.r mf5033 (k := 4) (by decide) (by decide)).symm
    have m5050 := (m5006).trans (MF.r mf5033 (k := 10) (by decide) (by decide)).symm
    have m5051 := (m5007).trans (MF.r mf5033 (k := 16) (by decide) (by decide)).symm
    have m5052 := (m5008).trans (MF.r mf5033 (k := 24) (by decide) (by decide)).symm
    have m5053 := (m5009).trans (MF.r mf5033 (k := 27) (by decide) (by decide)).symm
    have m5054 := (m5010).trans (MF.r mf5033 (k := 29) (by decide) (by decide)).symm
    have m5055 := (m5011).trans (MF.r mf5033 (k := 30) (by decide) (by decide)).symm
    have m5056 := (m5012).trans (MF.r mf5033 (k := 31) (by decide) (by decide)).symm
    have m5057 := (m5013).trans (MF.r mf5033 (k := 32) (by decide) (by decide)).symm
    have m5058 := (m5014).trans (MF.r mf5033 (k := 33) (by decide) (by decide)).symm
    have m5059 := (m5015).trans (MF.r mf5033 (k := 50) (by decide) (by decide)).symm
    have m5060 := (m5017).trans (MF.i mf5033 (k := 2) (by decide) (by decide)).symm
    have m5061 := (m5018).trans (MF.i mf5033 (k := 3) (by decide) (by decide)).symm
    have m5062 := (m5019).trans (MF.i mf5033 (k := 59) (by decide) (by decide)).symm
    have m5063 := (m5020).trans (MF.i mf5033 (k := 62) (by decide) (by decide)).symm
    have m5064 := (m5021).trans (MF.i mf5033 (k := 65) (by decide) (by decide)).symm
    have m5065 := (MF.i mf5033 (k := 0) (by decide) (by decide)).trans m5022
    have m5066 := (m5023).trans (MF.i mf5033 (k := 71) (by decide) (by decide)).symm
    have m5067 := (MF.i mf5033 (k := 70) (by decide) (by decide)).trans m5024
    have m5068 := (m5026).trans (MF.i mf5033 (k := 1) (by decide) (by decide)).symm
    have mf5069 : MF K s.heap H5028 a0 [0, 1, 2, 3, 59, 62, 65, 70, 71, 72] := MF.trans mf4990 mf5033 (by decide)
    have bx5030 := ty_fi (x := x5030) (k := 72) ex5030 hTH5028 ga0 rg_112 rfl
    have ce_x4947 := i_cl (x := x4947) (by omega)
    have b5070 : UN (x1.toInt = 0) (fun k => fI H5028 iq k) (fun k => fI s.heap iq k) := UN.tr m5037 b5001
    have b5071 : x4946 = fI H5028 iq (0) := (b5002).trans (m5036 _ (by omega)).symm
    clear b4992 b4993 b4994 b4995 b4996 b4997 b4998 b4999 b5000 b5001 b5002 m5004 m5005 m5006 m5007 m5008 m5009 m5010 m5011 m5012 m5013 m5014 m5015 m5017 m5018 m5019 m5020 m5021 m5022 m5023 m5024 m5025 m5026
    clear m5036 m5037
    have bx5029 : 0 ≤ x5029.toInt ∧ x5029.toInt ≤ 1 := kr (fun h0 => by have hiw := hIW; exact kr0 (w := fun k => fI H5028 iq k) m5034 (p := 1) (by omega) (b5070 h0) (hiw.1.2.1)) m5035 (by omega)
    have p5072 : x5029 = fI H5028 iq (1) := by have h := m5034; rw [show x4947.toNatClampNeg = 1 by omega] at h; exact h
    refine W.eq (g2 := F0 m 54 ls [.int x5029, .ref a0]) rfl ?_
    refine x_put C hTH5028 hSH5028 (ci := 10) (k := 2) (v := .int x5029) (ty0 := tyX10) rfl inX10 tyX10_ok nmX10 (by decide) rfl wF_X10_322 ga0 rg_112 rfl rfl (okI (by have := i_rng x5029; omega) (by have := i_rng x5029; omega)) rfl rfl (AE_in ga0 (by decide)) dX10_image_54 (fun H5073 locsH5073 hTH5073 hSH5073 wH5073 => ?_)
    have mf5074 : MF K s.heap H5073 a0 [0, 1, 2, 3, 59, 62, 65, 70, 71, 72] := MF.fld hap wH5073 (by decide) (by decide) mf5069
    have g5075 : WD (avw K H5073 a0) := WD.congr (fun k hk j => av_fld hTH5028 ga0 hap wH5073 (by decide) (WD_ok 112 (by decide) k hk) (WD_ne 2 (by decide) k hk)) g5032
    have b5076 : UN (x1.toInt ≠ 0) (fun k => fI H5073 q4 k) (fun k => fI s.heap q4 k) := UN.congr (fun j => Wr.neI wH5073 (Or.inl (G_ne gq4 ga0 (by decide)))) b5038
    have b5077 : UN (x1.toInt ≠ 0) (fun k => fI H5073 q16 k) (fun k => fI s.heap q16 k) := UN.congr (fun j => Wr.neI wH5073 (Or.inl (G_ne gq16 ga0 (by decide)))) b5039
    have b5078 : UN (x1.toInt ≠ 0) (fun k => fI H5073 q24 k) (fun k => fI s.heap q24 k) := UN.congr (fun j => Wr.neI wH5073 (Or.inl (G_ne gq24 ga0 (by decide)))) b5040
    have b5079 : UN (x1.toInt ≠ 0) (fun k => fI H5073 q29 k) (fun k => fI s.heap q29 k) := UN.congr (fun j => Wr.neI wH5073 (Or.inl (G_ne gq29 ga0 (by decide)))) b5041
    have b5080 : UN (x1.toInt ≠ 0) (fun k => fI H5073 q30 k) (fun k => fI s.heap q30 k) := UN.congr (fun j => Wr.neI wH5073 (Or.inl (G_ne gq30 ga0 (by decide)))) b5042
    have b5081 : UN (x1.toInt ≠ 0) (fun k => fI H5073 q31 k) (fun k => fI s.heap q31 k) := UN.congr (fun j => Wr.neI wH5073 (Or.inl (G_ne gq31 ga0 (by decide)))) b5043
    have b5082 : UN (x1.toInt ≠ 0) (fun k => fI H5073 q32 k) (fun k => fI s.heap q32 k) := UN.congr (fun j => Wr.neI wH5073 (Or.inl (G_ne gq32 ga0 (by decide)))) b5044
    have b5083 : UN (x1.toInt ≠ 0) (fun k => fI H5073 q33 k) (fun k => fI s.heap q33 k) := UN.congr (fun j => Wr.neI wH5073 (Or.inl (G_ne gq33 ga0 (by decide)))) b5045
    have b5084 : UN (x1.toInt ≠ 0) (fun k => fI H5073 q50 k) (fun k => fI s.heap q50 k) := UN.congr (fun j => Wr.neI wH5073 (Or.inl (G_ne gq50 ga0 (by decide)))) b5046
    have b5085 : UN (x1.toInt = 0) (fun k => fI H5073 iq k) (fun k => fI s.heap iq k) := UN.congr (fun j => Wr.neI wH5073 (Or.inl (G_ne giq ga0 (by decide)))) b5070
    have b5086 : x4946 = fI H5073 iq (0) := (b5071).trans (Wr.neI wH5073 (Or.inl (G_ne giq ga0 (by decide)))).symm
    have b5087 : x5029 = fI H5073 iq (1) := (p5072).trans (Wr.neI wH5073 (Or.inl (G_ne giq ga0 (by decide)))).symm
    have f5088 : ∀ j : Nat, fI H5073 q50 j = fI s.heap q50 j := fun j => (Wr.neI wH5073 (Or.inl (G_ne gq50 ga0 (by decide)))).trans (f5047 j)
    have m5089 := m5031.trans (Wr.neR wH5073 (Or.inr (x_apart hKT hts inX10 tyX10 tyX10_ok nmX10 rfl 73 2 (by decide) (by decide) (by decide)))).symm
    have m5090 := m5049.trans (Wr.neR wH5073 (Or.inr (x_apart hKT hts inX10 tyX10 tyX10_ok nmX10 rfl 4 2 (by decide) (by decide) (by decide)))).symm
    have m5091 := m5050.trans (Wr.neR wH5073 (Or.inr (x_apart hKT hts inX10 tyX10 tyX10_ok nmX10 rfl 10 2 (by decide) (by decide) (by decide)))).symm
    have m5092 := m5051.trans (Wr.neR wH5073 (Or.inr (x_apart hKT hts inX10 tyX10 tyX10_ok nmX10 rfl 16 2 (by decide) (by decide) (by decide)))).symm
    have m5093 := m5052.trans (Wr.neR wH5073 (Or.inr (x_apart hKT hts inX10 tyX10 tyX10_ok nmX10 rfl 24 2 (by decide) (by decide) (by decide)))).symm
    have m5094 := m5053.trans (Wr.neR wH5073 (Or.inr (x_apart hKT hts inX10 tyX10 tyX10_ok nmX10 rfl 27 2 (by decide) (by decide) (by decide)))).symm
    have m5095 := m5054.trans (Wr.neR wH5073 (Or.inr (x_apart hKT hts inX10 tyX10 tyX10_ok nmX10 rfl 29 2 (by decide) (by decide) (by decide)))).symm
    have m5096 := m5055.trans (Wr.neR wH5073 (Or.inr (x_apart hKT hts inX10 tyX10 tyX10_ok nmX10 rfl 30 2 (by decide) (by decide) (by decide)))).symm
    have m5097 := m5056.trans (Wr.neR wH5073 (Or.inr (x_apart hKT hts inX10 tyX10 tyX10_ok nmX10 rfl 31 2 (by decide) (by decide) (by decide)))).symm
    have m5098 := m5057.trans (Wr.neR wH5073 (Or.inr (x_apart hKT hts inX10 tyX10 tyX10_ok nmX10 rfl 32 2 (by decide) (by decide) (by decide)))).symm
    have m5099 := m5058.trans (Wr.neR wH5073 (Or.inr (x_apart hKT hts inX10 tyX10 tyX10_ok nmX10 rfl 33 2 (by decide) (by decide) (by decide)))).symm
    have m5100 := m5059.trans (Wr.neR wH5073 (Or.inr (x_apart hKT hts inX10 tyX10 tyX10_ok nmX10 rfl 50 2 (by decide) (by decide) (by decide)))).symm
    have m5102 := m5061.trans (Wr.neI wH5073 (Or.inr (x_apart hKT hts inX10 tyX10 tyX10_ok nmX10 rfl 3 2 (by decide) (by decide) (by decide)))).symm
    have m5103 := m5062.trans (Wr.neI wH5073 (Or.inr (x_apart hKT hts inX10 tyX10 tyX10_ok nmX10 rfl 59 2 (by decide) (by decide) (by decide)))).symm
    have m5104 := m5063.trans (Wr.neI wH5073 (Or.inr (x_apart hKT hts inX10 tyX10 tyX10_ok nmX10 rfl 62 2 (by decide) (by decide) (by decide)))).symm
    have m5105 := m5064.trans (Wr.neI wH5073 (Or.inr (x_apart hKT hts inX10 tyX10 tyX10_ok nmX10 rfl 65 2 (by decide) (by decide) (by decide)))).symm
    have m5106 := (Wr.neI wH5073 (Or.inr (x_apart hKT hts inX10 tyX10 tyX10_ok nmX10 rfl 0 2 (by decide) (by decide) (by decide)))).trans m5065
    have m5107 := m5066.trans (Wr.neI wH5073 (Or.inr (x_apart hKT hts inX10 tyX10 tyX10_ok nmX10 rfl 71 2 (by decide) (by decide) (by decide)))).symm
    have m5108 := (Wr.neI wH5073 (Or.inr (x_apart hKT hts inX10 tyX10 tyX10_ok nmX10 rfl 70 2 (by decide) (by decide) (by decide)))).trans m5067
    have m5109 := m5068.trans (Wr.neI wH5073 (Or.inr (x_apart hKT hts inX10 tyX10 tyX10_ok nmX10 rfl 1 2 (by decide) (by decide) (by decide)))).symm
    have m5110 := ex5030.trans (Wr.neI wH5073 (Or.inr (x_apart hKT hts inX10 tyX10 tyX10_ok nmX10 rfl 72 2 (by decide) (by decide) (by decide)))).symm
    have m5111 := Wr.I wH5073
    have m5111 := m5111.symm
    clear b5038 b5039 b5040 b5041 b5042 b5043 b5044 b5045 b5046 b5070 b5071 ex5030 f5047 g5032 hTH5028 m5031 m5049 m5050 m5051 m5052 m5053 m5054 m5055 m5056 m5057 m5058 m5059 m5060 m5061 m5062 m5063 m5064 m5065 m5066 m5067 m5068 mf5069 p5072
    refine lv_aload_n hx hb dX10_image_57 rfl (lv_at hl 0 rfl) ?_
    refine lv_aload_n hx hb dX10_image_58 rfl (lv_at hl 0 rfl) ?_
    refine lv_aload_n hx hb dX10_image_59 rfl (lv_at hl 0 rfl) ?_
    refine x_gi C hTH5073 (ci := 10) (k := 3) rfl inX10 (by decide) wF_X10_7 ga0 rg_112 rfl dX10_image_60 (fun x5112 ex5112 bx5112 => ?_)
    have ux5112 : s3 = x5112 := (m5102).trans ex5112.symm
    subst ux5112
    refine x_V (As := [.int s3]) (rest := [.ref a0]) C (a_X10_kept l K G H5073 (s3) (x5030) (x1) hTH5073 ga0 giq m5089 m5110 m5107 g5075 (by and_intros <;> first | assumption | omega)) yo_X10_kept wM_X10_473 ⟨⟨by decide, by decide⟩, by decide, by decide⟩ (x_rv C hTH5073 (ci := 10) rfl ga0 rg_112) rfl hl.1 rfl (Nat.le_of_ble_eq_true rfl) dX10_image_63 hSH5073 (AE_sub (fun _ _ => rfl) (by decide) hSH5073.1) (fun vH5113 H5113 locsH5113 pH5113 zH5113 kH5113 hSH5113 => ?_)
    obtain ⟨x5114, x5115, hvH5113, ex5115, hrH5113, m5116, g5117, mf5118, m5119, m5120, m5121, m5122, hTH5113⟩ := pH5113
    subst hvH5113
    clear zH5113
    replace m5116 := EQN.mk m5116
    have b5123 : UN (x1.toInt ≠ 0) (fun k => fI H5113 q4 k) (fun k => fI s.heap q4 k) := UN.congr (fun j => fI_kept (x_lt hTH5073 kH5113 gq4 (by decide))) b5076
    have b5124 : UN (x1.toInt ≠ 0) (fun k => fI H5113 q16 k) (fun k => fI s.heap q16 k) := UN.congr (fun j => fI_kept (x_lt hTH5073 kH5113 gq16 (by decide))) b5077
    have b5125 : UN (x1.toInt ≠ 0) (fun k => fI H5113 q24 k) (fun k => fI s.heap q24 k) := UN.congr (fun j => fI_kept (x_lt hTH5073 kH5113 gq24 (by decide))) b5078
    have b5126 : UN (x1.toInt ≠ 0) (fun k => fI H5113 q29 k) (fun k => fI s.heap q29 k) := UN.congr (fun j => fI_kept (x_lt hTH5073 kH5113 gq29 (by decide))) b5079
    have b5127 : UN (x1.toInt ≠ 0) (fun k => fI H5113 q30 k) (fun k => fI s.heap q30 k) := UN.congr (fun j => fI_kept (x_lt hTH5073 kH5113 gq30 (by decide))) b5080
    have b5128 : UN (x1.toInt ≠ 0) (fun k => fI H5113 q31 k) (fun k => fI s.heap q31 k) := UN.congr (fun j => fI_kept (x_lt hTH5073 kH5113 gq31 (by decide))) b5081
    have b5129 : UN (x1.toInt ≠ 0) (fun k => fI H5113 q32 k) (fun k => fI s.heap q32 k) := UN.congr (fun j => fI_kept (x_lt hTH5073 kH5113 gq32 (by decide))) b5082
    have b5130 : UN (x1.toInt ≠ 0) (fun k => fI H5113 q33 k) (fun k => fI s.heap q33 k) := UN.congr (fun j => fI_kept (x_lt hTH5073 kH5113 gq33 (by decide))) b5083
    have b5131 : UN (x1.toInt ≠ 0) (fun k => fI H5113 q50 k) (fun k => fI s.heap q50 k) := UN.congr (fun j => fI_kept (x_lt hTH5073 kH5113 gq50 (by decide))) b5084
    have f5132 : ∀ j : Nat, fI H5113 q50 j = fI s.heap q50 j := fun j => (fI_kept (x_lt hTH5073 kH5113 gq50 (by decide))).trans (f5088 j)
    have m5133 := (m5089).trans (MF.r mf5118 (k := 73) (by decide) (by decide)).symm
    have m5134 := (m5090).trans (MF.r mf5118 (k := 4) (by decide) (by decide)).symm
    have m5135 := (m5091).trans (MF.r mf5118 (k := 10) (by decide) (by decide)).symm
    have m5136 := (m5092).trans (MF.r mf5118 (k := 16) (by decide) (by decide)).symm
    have m5137 := (m5093).trans (MF.r mf5118 (k := 24) (by decide) (by decide)).symm
    have m5138 := (m5094).trans (MF.r mf5118 (k := 27) (by decide) (by decide)).symm
    have m5139 := (m5095).trans (MF.r mf5118 (k := 29) (by decide) (by decide)).symm
    have m5140 := (m5096).trans (MF.r mf5118 (k := 30) (by decide) (by decide)).symm
    have m5141 := (m5097).trans (MF.r mf5118 (k := 31) (by decide) (by decide)).symm
    have m5142 := (m5098).trans (MF.r mf5118 (k := 32) (by decide) (by decide)).symm
    have m5143 := (m5099).trans (MF.r mf5118 (k := 33) (by decide) (by decide)).symm
    have m5144 := (m5100).trans (MF.r mf5118 (k := 50) (by decide) (by decide)).symm
    have m5145 := (m5102).trans (MF.i mf5118 (k := 3) (by decide) (by decide)).symm
    have m5146 := (m5103).trans (MF.i mf5118 (k := 59) (by decide) (by decide)).symm
    have m5147 := (m5104).trans (MF.i mf5118 (k := 62) (by decide) (by decide)).symm
    have m5148 := (m5105).trans (MF.i mf5118 (k := 65) (by decide) (by decide)).symm
    have m5149 := (MF.i mf5118 (k := 0) (by decide) (by decide)).trans m5106
    have m5150 := (m5107).trans (MF.i mf5118 (k := 71) (by decide) (by decide)).symm
    have m5151 := (MF.i mf5118 (k := 70) (by decide) (by decide)).trans m5108
    have m5152 := (m5109).trans (MF.i mf5118 (k := 1) (by decide) (by decide)).symm
    have m5153 := (m5111).trans (MF.i mf5118 (k := 2) (by decide) (by decide)).symm
    have mf5154 : MF K s.heap H5113 a0 [0, 1, 2, 3, 59, 62, 65, 70, 71, 72] := MF.trans mf5074 mf5118 (by decide)
    have bx5115 := ty_fi (x := x5115) (k := 72) ex5115 hTH5113 ga0 rg_112 rfl
    have ce_x5030 := i_cl (x := x5030) (by omega)
    have b5155 : UN (x1.toInt = 0) (fun k => fI H5113 iq k) (fun k => fI s.heap iq k) := UN.tr m5122 b5085
    have b5156 : x4946 = fI H5113 iq (0) := (b5086).trans (m5121 _ (by omega)).symm
    have b5157 : x5029 = fI H5113 iq (1) := (b5087).trans (m5121 _ (by omega)).symm
    clear b5076 b5077 b5078 b5079 b5080 b5081 b5082 b5083 b5084 b5085 b5086 b5087 m5089 m5090 m5091 m5092 m5093 m5094 m5095 m5096 m5097 m5098 m5099 m5100 m5102 m5103 m5104 m5105 m5106 m5107 m5108 m5109 m5110 m5111
    clear m5121 m5122
    have p5158 : x5114 = fI H5113 iq (2) := by have h := m5119; rw [show x5030.toNatClampNeg = 2 by omega] at h; exact h
    refine W.eq (g2 := F0 m 66 ls [.int x5114, .ref a0]) rfl ?_
    refine x_put C hTH5113 hSH5113 (ci := 10) (k := 3) (v := .int x5114) (ty0 := tyX10) rfl inX10 tyX10_ok nmX10 (by decide) rfl wF_X10_7 ga0 rg_112 rfl rfl (okI (by have := i_rng x5114; omega) (by have := i_rng x5114; omega)) rfl rfl (AE_in ga0 (by decide)) dX10_image_66 (fun H5159 locsH5159 hTH5159 hSH5159 wH5159 => ?_)
    have mf5160 : MF K s.heap H5159 a0 [0, 1, 2, 3, 59, 62, 65, 70, 71, 72] := MF.fld hap wH5159 (by decide) (by decide) mf5154
    have g5161 : WD (avw K H5159 a0) := WD.congr (fun k hk j => av_fld hTH5113 ga0 hap wH5159 (by decide) (WD_ok 112 (by decide) k hk) (WD_ne 3 (by decide) k hk)) g5117
    have b5162 : UN (x1.toInt ≠ 0) (fun k => fI H5159 q4 k) (fun k => fI s.heap q4 k) := UN.congr (fun j => Wr.neI wH5159 (Or.inl (G_ne gq4 ga0 (by decide)))) b5123
    have b5163 : UN (x1.toInt ≠ 0) (fun k => fI H5159 q16 k) (fun k => fI s.heap q16 k) := UN.congr (fun j => Wr.neI wH5159 (Or.inl (G_ne gq16 ga0 (by decide)))) b5124
    have b5164 : UN (x1.toInt ≠ 0) (fun k => fI H5159 q24 k) (fun k => fI s.heap q24 k) := UN.congr (fun j => Wr.neI wH5159 (Or.inl (G_ne gq24 ga0 (by decide)))) b5125
    have b5165 : UN (x1.toInt ≠ 0) (fun k => fI H5159 q29 k) (fun k => fI s.heap q29 k) := UN.congr (fun j => Wr.neI wH5159 (Or.inl (G_ne gq29 ga0 (by decide)))) b5126
    have b5166 : UN (x1.toInt ≠ 0) (fun k => fI H5159 q30 k) (fun k => fI s.heap q30 k) := UN.congr (fun j => Wr.neI wH5159 (Or.inl (G_ne gq30 ga0 (by decide)))) b5127
    have b5167 : UN (x1.toInt ≠ 0) (fun k => fI H5159 q31 k) (fun k => fI s.heap q31 k) := UN.congr (fun j => Wr.neI wH5159 (Or.inl (G_ne gq31 ga0 (by decide)))) b5128
    have b5168 : UN (x1.toInt ≠ 0) (fun k => fI H5159 q32 k) (fun k => fI s.heap q32 k) := UN.congr (fun j => Wr.neI wH5159 (Or.inl (G_ne gq32 ga0 (by decide)))) b5129
    have b5169 : UN (x1.toInt ≠ 0) (fun k => fI H5159 q33 k) (fun k => fI s.heap q33 k) := UN.congr (fun j => Wr.neI wH5159 (Or.inl (G_ne gq33 ga0 (by decide)))) b5130
    have b5170 : UN (x1.toInt ≠ 0) (fun k => fI H5159 q50 k) (fun k => fI s.heap q50 k) := UN.congr (fun j => Wr.neI wH5159 (Or.inl (G_ne gq50 ga0 (by decide)))) b5131
    have b5171 : UN (x1.toInt = 0) (fun k => fI H5159 iq k) (fun k => fI s.heap iq k) := UN.congr (fun j => Wr.neI wH5159 (Or.inl (G_ne giq ga0 (by decide)))) b5155
    have b5172 : x4946 = fI H5159 iq (0) := (b5156).trans (Wr.neI wH5159 (Or.inl (G_ne giq ga0 (by decide)))).symm
    have b5173 : x5029 = fI H5159 iq (1) := (b5157).trans (Wr.neI wH5159 (Or.inl (G_ne giq ga0 (by decide)))).symm
    have b5174 : x5114 = fI H5159 iq (2) := (p5158).trans (Wr.neI wH5159 (Or.inl (G_ne giq ga0 (by decide)))).symm
    have f5175 : ∀ j : Nat, fI H5159 q50 j = fI s.heap q50 j := fun j => (Wr.neI wH5159 (Or.inl (G_ne gq50 ga0 (by decide)))).trans (f5132 j)
    have m5176 := m5116.trans (Wr.neR wH5159 (Or.inr (x_apart hKT hts inX10 tyX10 tyX10_ok nmX10 rfl 73 3 (by decide) (by decide) (by decide)))).symm
    have m5177 := m5134.trans (Wr.neR wH5159 (Or.inr (x_apart hKT hts inX10 tyX10 tyX10_ok nmX10 rfl 4 3 (by decide) (by decide) (by decide)))).symm
    have m5178 := m5135.trans (Wr.neR wH5159 (Or.inr (x_apart hKT hts inX10 tyX10 tyX10_ok nmX10 rfl 10 3 (by decide) (by decide) (by decide)))).symm
    have m5179 := m5136.trans (Wr.neR wH5159 (Or.inr (x_apart hKT hts inX10 tyX10 tyX10_ok nmX10 rfl 16 3 (by decide) (by decide) (by decide)))).symm
    have m5180 := m5137.trans (Wr.neR wH5159 (Or.inr (x_apart hKT hts inX10 tyX10 tyX10_ok nmX10 rfl 24 3 (by decide) (by decide) (by decide)))).symm
    have m5181 := m5138.trans (Wr.neR wH5159 (Or.inr (x_apart hKT hts inX10 tyX10 tyX10_ok nmX10 rfl 27 3 (by decide) (by decide) (by decide)))).symm
    have m5182 := m5139.trans (Wr.neR wH5159 (Or.inr (x_apart hKT hts inX10 tyX10 tyX10_ok nmX10 rfl 29 3 (by decide) (by decide) (by decide)))).symm
    have m5183 := m5140.trans (Wr.neR wH5159 (Or.inr (x_apart hKT hts inX10 tyX10 tyX10_ok nmX10 rfl 30 3 (by decide) (by decide) (by decide)))).symm
    have m5184 := m5141.trans (Wr.neR wH5159 (Or.inr (x_apart hKT hts inX10 tyX10 tyX10_ok nmX10 rfl 31 3 (by decide) (by decide) (by decide)))).symm
    have m5185 := m5142.trans (Wr.neR wH5159 (Or.inr (x_apart hKT hts inX10 tyX10 tyX10_ok nmX10 rfl 32 3 (by decide) (by decide) (by decide)))).symm
    have m5186 := m5143.trans (Wr.neR wH5159 (Or.inr (x_apart hKT hts inX10 tyX10 tyX10_ok nmX10 rfl 33 3 (by decide) (by decide) (by decide)))).symm
    have m5187 := m5144.trans (Wr.neR wH5159 (Or.inr (x_apart hKT hts inX10 tyX10 tyX10_ok nmX10 rfl 50 3 (by decide) (by decide) (by decide)))).symm
    have m5189 := m5146.trans (Wr.neI wH5159 (Or.inr (x_apart hKT hts inX10 tyX10 tyX10_ok nmX10 rfl 59 3 (by decide) (by decide) (by decide)))).symm
    have m5190 := m5147.trans (Wr.neI wH5159 (Or.inr (x_apart hKT hts inX10 tyX10 tyX10_ok nmX10 rfl 62 3 (by decide) (by decide) (by decide)))).symm
    have m5191 := m5148.trans (Wr.neI wH5159 (Or.inr (x_apart hKT hts inX10 tyX10 tyX10_ok nmX10 rfl 65 3 (by decide) (by decide) (by decide)))).symm
    have m5192 := (Wr.neI wH5159 (Or.inr (x_apart hKT hts inX10 tyX10 tyX10_ok nmX10 rfl 0 3 (by decide) (by decide) (by decide)))).trans m5149
    have m5193 := m5150.trans (Wr.neI wH5159 (Or.inr (x_apart hKT hts inX10 tyX10 tyX10_ok nmX10 rfl 71 3 (by decide) (by decide) (by decide)))).symm
    have m5194 := (Wr.neI wH5159 (Or.inr (x_apart hKT hts inX10 tyX10 tyX10_ok nmX10 rfl 70 3 (by decide) (by decide) (by decide)))).trans m5151
    have m5195 := m5152.trans (Wr.neI wH5159 (Or.inr (x_apart hKT hts inX10 tyX10 tyX10_ok nmX10 rfl 1 3 (by decide) (by decide) (by decide)))).symm
    have m5196 := m5153.trans (Wr.neI wH5159 (Or.inr (x_apart hKT hts inX10 tyX10 tyX10_ok nmX10 rfl 2 3 (by decide) (by decide) (by decide)))).symm
    have m5197 := ex5115.trans (Wr.neI wH5159 (Or.inr (x_apart hKT hts inX10 tyX10 tyX10_ok nmX10 rfl 72 3 (by decide) (by decide) (by decide)))).symm
    have m5198 := Wr.I wH5159
    have m5198 := m5198.symm
    clear b5123 b5124 b5125 b5126 b5127 b5128 b5129 b5130 b5131 b5155 b5156 b5157 ex5115 f5132 g5117 hTH5113 m5116 m5134 m5135 m5136 m5137 m5138 m5139 m5140 m5141 m5142 m5143 m5144 m5145 m5146 m5147 m5148 m5149 m5150 m5151 m5152 m5153 mf5154 p5158
    refine lv_aload_n hx hb dX10_image_69 rfl (lv_at hl 0 rfl) ?_
    refine lv_aload_n hx hb dX10_image_70 rfl (lv_at hl 0 rfl) ?_
    refine lv_aload_n hx hb dX10_image_71 rfl (lv_at hl 0 rfl) ?_
    refine x_gi C hTH5159 (ci := 10) (k := 59) rfl inX10 (by decide) wF_X10_438 ga0 rg_112 rfl dX10_image_72 (fun x5199 ex5199 bx5199 => ?_)
    have ux5199 : s59 = x5199 := (m5189).trans ex5199.symm
    subst ux5199
    refine x_V (As := [.int s59]) (rest := [.ref a0]) C (a_X10_kept l K G H5159 (s59) (x5115) (x1) hTH5159 ga0 giq m5176 m5197 m5193 g5161 (by and_intros <;> first | assumption | omega)) yo_X10_kept wM_X10_473 ⟨⟨by decide, by decide⟩, by decide, by decide⟩ (x_rv C hTH5159 (ci := 10) rfl ga0 rg_112) rfl hl.1 rfl (Nat.le_of_ble_eq_true rfl) dX10_image_75 hSH5159 (AE_sub (fun _ _ => rfl) (by decide) hSH5159.1) (fun vH5200 H5200 locsH5200 pH5200 zH5200 kH5200 hSH5200 => ?_)
    obtain ⟨x5201, x5202, hvH5200, ex5202, hrH5200, m5203, g5204, mf5205, m5206, m5207, m5208, m5209, hTH5200⟩ := pH5200
    subst hvH5200
    clear zH5200
    replace m5203 := EQN.mk m5203
    have b5210 : UN (x1.toInt ≠ 0) (fun k => fI H5200 q4 k) (fun k => fI s.heap q4 k) := UN.congr (fun j => fI_kept (x_lt hTH5159 kH5200 gq4 (by decide))) b5162
    have b5211 : UN (x1.toInt ≠ 0) (fun k => fI H5200 q16 k) (fun k => fI s.heap q16 k) := UN.congr (fun j => fI_kept (x_lt hTH5159 kH5200 gq16 (by decide))) b5163
    have b5212 : UN (x1.toInt ≠ 0) (fun k => fI H5200 q24 k) (fun k => fI s.heap q24 k) := UN.congr (fun j => fI_kept (x_lt hTH5159 kH5200 gq24 (by decide))) b5164
    have b5213 : UN (x1.toInt ≠ 0) (fun k => fI H5200 q29 k) (fun k => fI s.heap q29 k) := UN.congr (fun j => fI_kept (x_lt hTH5159 kH5200 gq29 (by decide))) b5165
    have b5214 : UN (x1.toInt ≠ 0) (fun k => fI H5200 q30 k) (fun k => fI s.heap q30 k) := UN.congr (fun j => fI_kept (x_lt hTH5159 kH5200 gq30 (by decide))) b5166
    have b5215 : UN (x1.toInt ≠ 0) (fun k => fI H5200 q31 k) (fun k => fI s.heap q31 k) := UN.congr (fun j => fI_kept (x_lt hTH5159 kH5200 gq31 (by decide))) b5167
    have b5216 : UN (x1.toInt ≠ 0) (fun k => fI H5200 q32 k) (fun k => fI s.heap q32 k) := UN.congr (fun j => fI_kept (x_lt hTH5159 kH5200 gq32 (by decide))) b5168
    have b5217 : UN (x1.toInt ≠ 0) (fun k => fI H5200 q33 k) (fun k => fI s.heap q33 k) := UN.congr (fun j => fI_kept (x_lt hTH5159 kH5200 gq33 (by decide))) b5169
    have b5218 : UN (x1.toInt ≠ 0) (fun k => fI H5200 q50 k) (fun k => fI s.heap q50 k) := UN.congr (fun j => fI_kept (x_lt hTH5159 kH5200 gq50 (by decide))) b5170
    have f5219 : ∀ j : Nat, fI H5200 q50 j = fI s.heap q50 j := fun j => (fI_kept (x_lt hTH5159 kH5200 gq50 (by decide))).trans (f5175 j)
    have m5220 := (m5176).trans (MF.r mf5205 (k := 73) (by decide) (by decide)).symm
    have m5221 := (m5177).trans (MF.r mf5205 (k := 4) (by decide) (by decide)).symm
    have m5222 := (m5178).trans (MF.r mf5205 (k := 10) (by decide) (by decide)).symm
    have m5223 := (m5179).trans (MF.r mf5205 (k := 16) (by decide) (by decide)).symm
    have m5224 := (m5180).trans (MF.r mf5205 (k := 24) (by decide) (by decide)).symm
    have m5225 := (m5181).trans (MF.r mf5205 (k := 27) (by decide) (by decide)).symm
    have m5226 := (m5182).trans (MF.r mf5205 (k := 29) (by decide) (by decide)).symm
    have m5227 := (m5183).trans (MF.r mf5205 (k := 30) (by decide) (by decide)).symm
    have m5228 := (m5184).trans (MF.r mf5205 (k := 31) (by decide) (by decide)).symm
    have m5229 := (m5185).trans (MF.r mf5205 (k := 32) (by decide) (by decide)).symm
    have m5230 := (m5186).trans (MF.r mf5205 (k := 33) (by decide) (by decide)).symm
    have m5231 := (m5187).trans (MF.r mf5205 (k := 50) (by decide) (by decide)).symm
    have m5232 := (m5189).trans (MF.i mf5205 (k := 59) (by decide) (by decide)).symm
    have m5233 := (m5190).trans (MF.i mf5205 (k := 62) (by decide) (by decide)).symm
    have m5234 := (m5191).trans (MF.i mf5205 (k := 65) (by decide) (by decide)).symm
    have m5235 := (MF.i mf5205 (k := 0) (by decide) (by decide)).trans m5192
    have m5236 := (m5193).trans (MF.i mf5205 (k := 71) (by decide) (by decide)).symm
    have m5237 := (MF.i mf5205 (k := 70) (by decide) (by decide)).trans m5194
    have m5238 := (m5195).trans (MF.i mf5205 (k := 1) (by decide) (by decide)).symm
    have m5239 := (m5196).trans (MF.i mf5205 (k := 2) (by decide) (by decide)).symm
    have m5240 := (m5198).trans (MF.i mf5205 (k := 3) (by decide) (by decide)).symm
    have mf5241 : MF K s.heap H5200 a0 [0, 1, 2, 3, 59, 62, 65, 70, 71, 72] := MF.trans mf5160 mf5205 (by decide)
    have bx5202 := ty_fi (x := x5202) (k := 72) ex5202 hTH5200 ga0 rg_112 rfl
    have ce_x5115 := i_cl (x := x5115) (by omega)
    have b5242 : UN (x1.toInt = 0) (fun k => fI H5200 iq k) (fun k => fI s.heap iq k) := UN.tr m5209 b5171
    have b5243 : x4946 = fI H5200 iq (0) := (b5172).trans (m5208 _ (by omega)).symm
    have b5244 : x5029 = fI H5200 iq (1) := (b5173).trans (m5208 _ (by omega)).symm
    have b5245 : x5114 = fI H5200 iq (2) := (b5174).trans (m5208 _ (by omega)).symm
    clear b5162 b5163 b5164 b5165 b5166 b5167 b5168 b5169 b5170 b5171 b5172 b5173 b5174 m5176 m5177 m5178 m5179 m5180 m5181 m5182 m5183 m5184 m5185 m5186 m5187 m5189 m5190 m5191 m5192 m5193 m5194 m5195 m5196 m5197 m5198
    clear m5208 m5209
    have bx5201 : 0 ≤ x5201.toInt ∧ x5201.toInt ≤ 20 := kr (fun h0 => by have hiw := hIW; exact kr0 (w := fun k => fI H5200 iq k) m5206 (p := 3) (by omega) (b5242 h0) (hiw.1.2.2.1)) m5207 (by omega)
    have p5246 : x5201 = fI H5200 iq (3) := by have h := m5206; rw [show x5115.toNatClampNeg = 3 by omega] at h; exact h
    refine W.eq (g2 := F0 m 78 ls [.int x5201, .ref a0]) rfl ?_
    refine x_put C hTH5200 hSH5200 (ci := 10) (k := 59) (v := .int x5201) (ty0 := tyX10) rfl inX10 tyX10_ok nmX10 (by decide) rfl wF_X10_438 ga0 rg_112 rfl rfl (okI (by have := i_rng x5201; omega) (by have := i_rng x5201; omega)) rfl rfl (AE_in ga0 (by decide)) dX10_image_78 (fun H5247 locsH5247 hTH5247 hSH5247 wH5247 => ?_)
    have mf5248 : MF K s.heap H5247 a0 [0, 1, 2, 3, 59, 62, 65, 70, 71, 72] := MF.fld hap wH5247 (by decide) (by decide) mf5241
    have g5249 : WD (avw K H5247 a0) := WD.congr (fun k hk j => av_fld hTH5200 ga0 hap wH5247 (by decide) (WD_ok 112 (by decide) k hk) (WD_ne 59 (by decide) k hk)) g5204
    have b5250 : UN (x1.toInt ≠ 0) (fun k => fI H5247 q4 k) (fun k => fI s.heap q4 k) := UN.congr (fun j => Wr.neI wH5247 (Or.inl (G_ne gq4 ga0 (by decide)))) b5210
    have b5251 : UN (x1.toInt ≠ 0) (fun k => fI H5247 q16 k) (fun k => fI s.heap q16 k) := UN.congr (fun j => Wr.neI wH5247 (Or.inl (G_ne gq16 ga0 (by decide)))) b5211
    have b5252 : UN (x1.toInt ≠ 0) (fun k => fI H5247 q24 k) (fun k => fI s.heap q24 k) := UN.congr (fun j => Wr.neI wH5247 (Or.inl (G_ne gq24 ga0 (by decide)))) b5212
    have b5253 : UN (x1.toInt ≠ 0) (fun k => fI H5247 q29 k) (fun k => fI s.heap q29 k) := UN.congr (fun j => Wr.neI wH5247 (Or.inl (G_ne gq29 ga0 (by decide)))) b5213
    have b5254 : UN (x1.toInt ≠ 0) (fun k => fI H5247 q30 k) (fun k => fI s.heap q30 k) := UN.congr (fun j => Wr.neI wH5247 (Or.inl (G_ne gq30 ga0 (by decide)))) b5214
    have b5255 : UN (x1.toInt ≠ 0) (fun k => fI H5247 q31 k) (fun k => fI s.heap q31 k) := UN.congr (fun j => Wr.neI wH5247 (Or.inl (G_ne gq31 ga0 (by decide)))) b5215
    have b5256 : UN (x1.toInt ≠ 0) (fun k => fI H5247 q32 k) (fun k => fI s.heap q32 k) := UN.congr (fun j => Wr.neI wH5247 (Or.inl (G_ne gq32 ga0 (by decide)))) b5216
    have b5257 : UN (x1.toInt ≠ 0) (fun k => fI H5247 q33 k) (fun k => fI s.heap q33 k) := UN.congr (fun j => Wr.neI wH5247 (Or.inl (G_ne gq33 ga0 (by decide)))) b5217
    have b5258 : UN (x1.toInt ≠ 0) (fun k => fI H5247 q50 k) (fun k => fI s.heap q50 k) := UN.congr (fun j => Wr.neI wH5247 (Or.inl (G_ne gq50 ga0 (by decide)))) b5218
    have b5259 : UN (x1.toInt = 0) (fun k => fI H5247 iq k) (fun k => fI s.heap iq k) := UN.congr (fun j => Wr.neI wH5247 (Or.inl (G_ne giq ga0 (by decide)))) b5242
    have b5260 : x4946 = fI H5247 iq (0) := (b5243).trans (Wr.neI wH5247 (Or.inl (G_ne giq ga0 (by decide)))).symm
    have b5261 : x5029 = fI H5247 iq (1) := (b5244).trans (Wr.neI wH5247 (Or.inl (G_ne giq ga0 (by decide)))).symm
    have b5262 : x5114 = fI H5247 iq (2) := (b5245).trans (Wr.neI wH5247 (Or.inl (G_ne giq ga0 (by decide)))).symm
    have b5263 : x5201 = fI H5247 iq (3) := (p5246).trans (Wr.neI wH5247 (Or.inl (G_ne giq ga0 (by decide)))).symm
    have f5264 : ∀ j : Nat, fI H5247 q50 j = fI s.heap q50 j := fun j => (Wr.neI wH5247 (Or.inl (G_ne gq50 ga0 (by decide)))).trans (f5219 j)
    have m5265 := m5203.trans (Wr.neR wH5247 (Or.inr (x_apart hKT hts inX10 tyX10 tyX10_ok nmX10 rfl 73 59 (by decide) (by decide) (by decide)))).symm
    have m5266 := m5221.trans (Wr.neR wH5247 (Or.inr (x_apart hKT hts inX10 tyX10 tyX10_ok nmX10 rfl 4 59 (by decide) (by decide) (by decide)))).symm
    have m5267 := m5222.trans (Wr.neR wH5247 (Or.inr (x_apart hKT hts inX10 tyX10 tyX10_ok nmX10 rfl 10 59 (by decide) (by decide) (by decide)))).symm
    have m5268 := m5223.trans (Wr.neR wH5247 (Or.inr (x_apart hKT hts inX10 tyX10 tyX10_ok nmX10 rfl 16 59 (by decide) (by decide) (by decide)))).symm
    have m5269 := m5224.trans (Wr.neR wH5247 (Or.inr (x_apart hKT hts inX10 tyX10 tyX10_ok nmX10 rfl 24 59 (by decide) (by decide) (by decide)))).symm
    have m5270 := m5225.trans (Wr.neR wH5247 (Or.inr (x_apart hKT hts inX10 tyX10 tyX10_ok nmX10 rfl 27 59 (by decide) (by decide) (by decide)))).symm
    have m5271 := m5226.trans (Wr.neR wH5247 (Or.inr (x_apart hKT hts inX10 tyX10 tyX10_ok nmX10 rfl 29 59 (by decide) (by decide) (by decide)))).symm
    have m5272 := m5227.trans (Wr.neR wH5247 (Or.inr (x_apart hKT hts inX10 tyX10 tyX10_ok nmX10 rfl 30 59 (by decide) (by decide) (by decide)))).symm
    have m5273 := m5228.trans (Wr.neR wH5247 (Or.inr (x_apart hKT hts inX10 tyX10 tyX10_ok nmX10 rfl 31 59 (by decide) (by decide) (by decide)))).symm
    have m5274 := m5229.trans (Wr.neR wH5247 (Or.inr (x_apart hKT hts inX10 tyX10 tyX10_ok nmX10 rfl 32 59 (by decide) (by decide) (by decide)))).symm
    have m5275 := m5230.trans (Wr.neR wH5247 (Or.inr (x_apart hKT hts inX10 tyX10 tyX10_ok nmX10 rfl 33 59 (by decide) (by decide) (by decide)))).symm
    have m5276 := m5231.trans (Wr.neR wH5247 (Or.inr (x_apart hKT hts inX10 tyX10 tyX10_ok nmX10 rfl 50 59 (by decide) (by decide) (by decide)))).symm
    have m5278 := m5233.trans (Wr.neI wH5247 (Or.inr (x_apart hKT hts inX10 tyX10 tyX10_ok nmX10 rfl 62 59 (by decide) (by decide) (by decide)))).symm
    have m5279 := m5234.trans (Wr.neI wH5247 (Or.inr (x_apart hKT hts inX10 tyX10 tyX10_ok nmX10 rfl 65 59 (by decide) (by decide) (by decide)))).symm
    have m5280 := (Wr.neI wH5247 (Or.inr (x_apart hKT hts inX10 tyX10 tyX10_ok nmX10 rfl 0 59 (by decide) (by decide) (by decide)))).trans m5235
    have m5281 := m5236.trans (Wr.neI wH5247 (Or.inr (x_apart hKT hts inX10 tyX10 tyX10_ok nmX10 rfl 71 59 (by decide) (by decide) (by decide)))).symm
    have m5282 := (Wr.neI wH5247 (Or.inr (x_apart hKT hts inX10 tyX10 tyX10_ok nmX10 rfl 70 59 (by decide) (by decide) (by decide)))).trans m5237
    have m5283 := m5238.trans (Wr.neI wH5247 (Or.inr (x_apart hKT hts inX10 tyX10 tyX10_ok nmX10 rfl 1 59 (by decide) (by decide) (by decide)))).symm
    have m5284 := m5239.trans (Wr.neI wH5247 (Or.inr (x_apart hKT hts inX10 tyX10 tyX10_ok nmX10 rfl 2 59 (by decide) (by decide) (by decide)))).symm
    have m5285 := m5240.trans (Wr.neI wH5247 (Or.inr (x_apart hKT hts inX10 tyX10 tyX10_ok nmX10 rfl 3 59 (by decide) (by decide) (by decide)))).symm
    have m5286 := ex5202.trans (Wr.neI wH5247 (Or.inr (x_apart hKT hts inX10 tyX10 tyX10_ok nmX10 rfl 72 59 (by decide) (by decide) (by decide)))).symm
    have m5287 := Wr.I wH5247
    have m5287 := m5287.symm
    clear b5210 b5211 b5212 b5213 b5214 b5215 b5216 b5217 b5218 b5242 b5243 b5244 b5245 ex5202 f5219 g5204 hTH5200 m5203 m5221 m5222 m5223 m5224 m5225 m5226 m5227 m5228 m5229 m5230 m5231 m5232 m5233 m5234 m5235 m5236 m5237 m5238 m5239 m5240 mf5241 p5246
    refine lv_aload_n hx hb dX10_image_81 rfl (lv_at hl 0 rfl) ?_
    refine lv_aload_n hx hb dX10_image_82 rfl (lv_at hl 0 rfl) ?_
    refine lv_aload_n hx hb dX10_image_83 rfl (lv_at hl 0 rfl) ?_
    refine x_gi C hTH5247 (ci := 10) (k := 62) rfl inX10 (by decide) wF_X10_455 ga0 rg_112 rfl dX10_image_84 (fun x5288 ex5288 bx5288 => ?_)
    have ux5288 : s62 = x5288 := (m5278).trans ex5288.symm
    subst ux5288
    refine x_V (As := [.int s62]) (rest := [.ref a0]) C (a_X10_kept l K G H5247 (s62) (x5202) (x1) hTH5247 ga0 giq m5265 m5286 m5281 g5249 (by and_intros <;> first | assumption | omega)) yo_X10_kept wM_X10_473 ⟨⟨by decide, by decide⟩, by decide, by decide⟩ (x_rv C hTH5247 (ci := 10) rfl ga0 rg_112) rfl hl.1 rfl (Nat.le_of_ble_eq_true rfl) dX10_image_87 hSH5247 (AE_sub (fun _ _ => rfl) (by decide) hSH5247.1) (fun vH5289 H5289 locsH5289 pH5289 zH5289 kH5289 hSH5289 => ?_)
    obtain ⟨x5290, x5291, hvH5289, ex5291, hrH5289, m5292, g5293, mf5294, m5295, m5296, m5297, m5298, hTH5289⟩ := pH5289
    subst hvH5289
    clear zH5289
    replace m5292 := EQN.mk m5292
    have b5299 : UN (x1.toInt ≠ 0) (fun k => fI H5289 q4 k) (fun k => fI s.heap q4 k) := UN.congr (fun j => fI_kept (x_lt hTH5247 kH5289 gq4 (by decide))) b5250
    have b5300 : UN (x1.toInt ≠ 0) (fun k => fI H5289 q16 k) (fun k => fI s.heap q16 k) := UN.congr (fun j => fI_kept (x_lt hTH5247 kH5289 gq16 (by decide))) b5251
    have b5301 : UN (x1.toInt ≠ 0) (fun k => fI H5289 q24 k) (fun k => fI s.heap q24 k) := UN.congr (fun j => fI_kept (x_lt hTH5247 kH5289 gq24 (by decide))) b5252
    have b5302 : UN (x1.toInt ≠ 0) (fun k => fI H5289 q29 k) (fun k => fI s.heap q29 k) := UN.congr (fun j => fI_kept (x_lt hTH5247 kH5289 gq29 (by decide))) b5253
    have b5303 : UN (x1.toInt ≠ 0) (fun k => fI H5289 q30 k) (fun k => fI s.heap q30 k) := UN.congr (fun j => fI_kept (x_lt hTH5247 kH5289 gq30 (by decide))) b5254
    have b5304 : UN (x1.toInt ≠ 0) (fun k => fI H5289 q31 k) (fun k => fI s.heap q31 k) := UN.congr (fun j => fI_kept (x_lt hTH5247 kH5289 gq31 (by decide))) b5255
    have b5305 : UN (x1.toInt ≠ 0) (fun k => fI H5289 q32 k) (fun k => fI s.heap q32 k) := UN.congr (fun j => fI_kept (x_lt hTH5247 kH5289 gq32 (by decide))) b5256
    have b5306 : UN (x1.toInt ≠ 0) (fun k => fI H5289 q33 k) (fun k => fI s.heap q33 k) := UN.congr (fun j => fI_kept (x_lt hTH5247 kH5289 gq33 (by decide))) b5257
    have b5307 : UN (x1.toInt ≠ 0) (fun k => fI H5289 q50 k) (fun k => fI s.heap q50 k) := UN.congr (fun j => fI_kept (x_lt hTH5247 kH5289 gq50 (by decide))) b5258
    have f5308 : ∀ j : Nat, fI H5289 q50 j = fI s.heap q50 j := fun j => (fI_kept (x_lt hTH5247 kH5289 gq50 (by decide))).trans (f5264 j)
    have m5309 := (m5265).trans (MF.r mf5294 (k := 73) (by decide) (by decide)).symm
    have m5310 := (m5266).trans (MF.r mf5294 (k := 4) (by decide) (by decide)).symm
    have m5311 := (m5267).trans (MF.r mf5294 (k := 10) (by decide) (by decide)).symm
    have m5312 := (m5268).trans (MF.r mf5294 (k := 16) (by decide) (by decide)).symm
    have m5313 := (m5269).trans (MF.r mf5294 (k := 24) (by decide) (by decide)).symm
    have m5314 := (m5270).trans (MF.r mf5294 (k := 27) (by decide) (by decide)).symm
    have m5315 := (m5271).trans (MF.r mf5294 (k := 29) (by decide) (by decide)).symm
    have m5316 := (m5272).trans (MF.r mf5294 (k := 30) (by decide) (by decide)).symm
    have m5317 := (m5273).trans (MF.r mf5294 (k := 31) (by decide) (by decide)).symm
    have m5318 := (m5274).trans (MF.r mf5294 (k := 32) (by decide) (by decide)).symm
    have m5319 := (m5275).trans (MF.r mf5294 (k := 33) (by decide) (by decide)).symm
    have m5320 := (m5276).trans (MF.r mf5294 (k := 50) (by decide) (by decide)).symm
    have m5321 := (m5278).trans (MF.i mf5294 (k := 62) (by decide) (by decide)).symm
    have m5322 := (m5279).trans (MF.i mf5294 (k := 65) (by decide) (by decide)).symm
    have m5323 := (MF.i mf5294 (k := 0) (by decide) (by decide)).trans m5280
    have m5324 := (m5281).trans (MF.i mf5294 (k := 71) (by decide) (by decide)).symm
    have m5325 := (MF.i mf5294 (k := 70) (by decide) (by decide)).trans m5282
    have m5326 := (m5283).trans (MF.i mf5294 (k := 1) (by decide) (by decide)).symm
    have m5327 := (m5284).trans (MF.i mf5294 (k := 2) (by decide) (by decide)).symm
    have m5328 := (m5285).trans (MF.i mf5294 (k := 3) (by decide) (by decide)).symm
    have m5329 := (m5287).trans (MF.i mf5294 (k := 59) (by decide) (by decide)).symm
    have mf5330 : MF K s.heap H5289 a0 [0, 1, 2, 3, 59, 62, 65, 70, 71, 72] := MF.trans mf5248 mf5294 (by decide)
    have bx5291 := ty_fi (x := x5291) (k := 72) ex5291 hTH5289 ga0 rg_112 rfl
    have ce_x5202 := i_cl (x := x5202) (by omega)
    have b5331 : UN (x1.toInt = 0) (fun k => fI H5289 iq k) (fun k => fI s.heap iq k) := UN.tr m5298 b5259
    have b5332 : x4946 = fI H5289 iq (0) := (b5260).trans (m5297 _ (by omega)).symm
    have b5333 : x5029 = fI H5289 iq (1) := (b5261).trans (m5297 _ (by omega)).symm
    have b5334 : x5114 = fI H5289 iq (2) := (b5262).trans (m5297 _ (by omega)).symm
    have b5335 : x5201 = fI H5289 iq (3) := (b5263).trans (m5297 _ (by omega)).symm
    clear b5250 b5251 b5252 b5253 b5254 b5255 b5256 b5257 b5258 b5259 b5260 b5261 b5262 b5263 m5265 m5266 m5267 m5268 m5269 m5270 m5271 m5272 m5273 m5274 m5275 m5276 m5278 m5279 m5280 m5281 m5282 m5283 m5284 m5285 m5286 m5287
    clear m5297 m5298
    have bx5290 : 0 ≤ x5290.toInt ∧ x5290.toInt ≤ 8 := kr (fun h0 => by have hiw := hIW; exact kr0 (w := fun k => fI H5289 iq k) m5295 (p := 4) (by omega) (b5331 h0) (hiw.1.2.2.2.1)) m5296 (by omega)
    have p5336 : x5290 = fI H5289 iq (4) := by have h := m5295; rw [show x5202.toNatClampNeg = 4 by omega] at h; exact h
    refine W.eq (g2 := F0 m 90 ls [.int x5290, .ref a0]) rfl ?_
    refine x_put C hTH5289 hSH5289 (ci := 10) (k := 62) (v := .int x5290) (ty0 := tyX10) rfl inX10 tyX10_ok nmX10 (by decide) rfl wF_X10_455 ga0 rg_112 rfl rfl (okI (by have := i_rng x5290; omega) (by have := i_rng x5290; omega)) rfl rfl (AE_in ga0 (by decide)) dX10_image_90 (fun H5337 locsH5337 hTH5337 hSH5337 wH5337 => ?_)
    have mf5338 : MF K s.heap H5337 a0 [0, 1, 2, 3, 59, 62, 65, 70, 71, 72] := MF.fld hap wH5337 (by decide) (by decide) mf5330
    have g5339 : WD (avw K H5337 a0) := WD.congr (fun k hk j => av_fld hTH5289 ga0 hap wH5337 (by decide) (WD_ok 112 (by decide) k hk) (WD_ne 62 (by decide) k hk)) g5293
    have b5340 : UN (x1.toInt ≠ 0) (fun k => fI H5337 q4 k) (fun k => fI s.heap q4 k) := UN.congr (fun j => Wr.neI wH5337 (Or.inl (G_ne gq4 ga0 (by decide)))) b5299
    have b5341 : UN (x1.toInt ≠ 0) (fun k => fI H5337 q16 k) (fun k => fI s.heap q16 k) := UN.congr (fun j => Wr.neI wH5337 (Or.inl (G_ne gq16 ga0 (by decide)))) b5300
    have b5342 : UN (x1.toInt ≠ 0) (fun k => fI H5337 q24 k) (fun k => fI s.heap q24 k) := UN.congr (fun j => Wr.neI wH5337 (Or.inl (G_ne gq24 ga0 (by decide)))) b5301
    have b5343 : UN (x1.toInt ≠ 0) (fun k => fI H5337 q29 k) (fun k => fI s.heap q29 k) := UN.congr (fun j => Wr.neI wH5337 (Or.inl (G_ne gq29 ga0 (by decide)))) b5302
    have b5344 : UN (x1.toInt ≠ 0) (fun k => fI H5337 q30 k) (fun k => fI s.heap q30 k) := UN.congr (fun j => Wr.neI wH5337 (Or.inl (G_ne gq30 ga0 (by decide)))) b5303
    have b5345 : UN (x1.toInt ≠ 0) (fun k => fI H5337 q31 k) (fun k => fI s.heap q31 k) := UN.congr (fun j => Wr.neI wH5337 (Or.inl (G_ne gq31 ga0 (by decide)))) b5304
    have b5346 : UN (x1.toInt ≠ 0) (fun k => fI H5337 q32 k) (fun k => fI s.heap q32 k) := UN.congr (fun j => Wr.neI wH5337 (Or.inl (G_ne gq32 ga0 (by decide)))) b5305
    have b5347 : UN (x1.toInt ≠ 0) (fun k => fI H5337 q33 k) (fun k => fI s.heap q33 k) := UN.congr (fun j => Wr.neI wH5337 (Or.inl (G_ne gq33 ga0 (by decide)))) b5306
    have b5348 : UN (x1.toInt ≠ 0) (fun k => fI H5337 q50 k) (fun k => fI s.heap q50 k) := UN.congr (fun j => Wr.neI wH5337 (Or.inl (G_ne gq50 ga0 (by decide)))) b5307
    have b5349 : UN (x1.toInt = 0) (fun k => fI H5337 iq k) (fun k => fI s.heap iq k) := UN.congr (fun j => Wr.neI wH5337 (Or.inl (G_ne giq ga0 (by decide)))) b5331
    have b5350 : x4946 = fI H5337 iq (0) := (b5332).trans (Wr.neI wH5337 (Or.inl (G_ne giq ga0 (by decide)))).symm
    have b5351 : x5029 = fI H5337 iq (1) := (b5333).trans (Wr.neI wH5337 (Or.inl (G_ne giq ga0 (by decide)))).symm
    have b5352 : x5114 = fI H5337 iq (2) := (b5334).trans (Wr.neI wH5337 (Or.inl (G_ne giq ga0 (by decide)))).symm
    have b5353 : x5201 = fI H5337 iq (3) := (b5335).trans (Wr.neI wH5337 (Or.inl (G_ne giq ga0 (by decide)))).symm
    have b5354 : x5290 = fI H5337 iq (4) := (p5336).trans (Wr.neI wH5337 (Or.inl (G_ne giq ga0 (by decide)))).symm
    have f5355 : ∀ j : Nat, fI H5337 q50 j = fI s.heap q50 j := fun j => (Wr.neI wH5337 (Or.inl (G_ne gq50 ga0 (by decide)))).trans (f5308 j)
    have m5356 := m5292.trans (Wr.neR wH5337 (Or.inr (x_apart hKT hts inX10 tyX10 tyX10_ok nmX10 rfl 73 62 (by decide) (by decide) (by decide)))).symm
    have m5357 := m5310.trans (Wr.neR wH5337 (Or.inr (x_apart hKT hts inX10 tyX10 tyX10_ok nmX10 rfl 4 62 (by decide) (by decide) (by decide)))).symm
    have m5358 := m5311.trans (Wr.neR wH5337 (Or.inr (x_apart hKT hts inX10 tyX10 tyX10_ok nmX10 rfl 10 62 (by decide) (by decide) (by decide)))).symm
    have m5359 := m5312.trans (Wr.neR wH5337 (Or.inr (x_apart hKT hts inX10 tyX10 tyX10_ok nmX10 rfl 16 62 (by decide) (by decide) (by decide)))).symm
    have m5360 := m5313.trans (Wr.neR wH5337 (Or.inr (x_apart hKT hts inX10 tyX10 tyX10_ok nmX10 rfl 24 62 (by decide) (by decide) (by decide)))).symm
    have m5361 := m5314.trans (Wr.neR wH5337 (Or.inr (x_apart hKT hts inX10 tyX10 tyX10_ok nmX10 rfl 27 62 (by decide) (by decide) (by decide)))).symm
    have m5362 := m5315.trans (Wr.neR wH5337 (Or.inr (x_apart hKT hts inX10 tyX10 tyX10_ok nmX10 rfl 29 62 (by decide) (by decide) (by decide)))).symm
    have m5363 := m5316.trans (Wr.neR wH5337 (Or.inr (x_apart hKT hts inX10 tyX10 tyX10_ok nmX10 rfl 30 62 (by decide) (by decide) (by decide)))).symm
    have m5364 := m5317.trans (Wr.neR wH5337 (Or.inr (x_apart hKT hts inX10 tyX10 tyX10_ok nmX10 rfl 31 62 (by decide) (by decide) (by decide)))).symm
    have m5365 := m5318.trans (Wr.neR wH5337 (Or.inr (x_apart hKT hts inX10 tyX10 tyX10_ok nmX10 rfl 32 62 (by decide) (by decide) (by decide)))).symm
    have m5366 := m5319.trans (Wr.neR wH5337 (Or.inr (x_apart hKT hts inX10 tyX10 tyX10_ok nmX10 rfl 33 62 (by decide) (by decide) (by decide)))).symm
    have m5367 := m5320.trans (Wr.neR wH5337 (Or.inr (x_apart hKT hts inX10 tyX10 tyX10_ok nmX10 rfl 50 62 (by decide) (by decide) (by decide)))).symm
    have m5369 := m5322.trans (Wr.neI wH5337 (Or.inr (x_apart hKT hts inX10 tyX10 tyX10_ok nmX10 rfl 65 62 (by decide) (by decide) (by decide)))).symm
    have m5370 := (Wr.neI wH5337 (Or.inr (x_apart hKT hts inX10 tyX10 tyX10_ok nmX10 rfl 0 62 (by decide) (by decide) (by decide)))).trans m5323
    have m5371 := m5324.trans (Wr.neI wH5337 (Or.inr (x_apart hKT hts inX10 tyX10 tyX10_ok nmX10 rfl 71 62 (by decide) (by decide) (by decide)))).symm
    have m5372 := (Wr.neI wH5337 (Or.inr (x_apart hKT hts inX10 tyX10 tyX10_ok nmX10 rfl 70 62 (by decide) (by decide) (by decide)))).trans m5325
    have m5373 := m5326.trans (Wr.neI wH5337 (Or.inr (x_apart hKT hts inX10 tyX10 tyX10_ok nmX10 rfl 1 62 (by decide) (by decide) (by decide)))).symm
    have m5374 := m5327.trans (Wr.neI wH5337 (Or.inr (x_apart hKT hts inX10 tyX10 tyX10_ok nmX10 rfl 2 62 (by decide) (by decide) (by decide)))).symm
    have m5375 := m5328.trans (Wr.neI wH5337 (Or.inr (x_apart hKT hts inX10 tyX10 tyX10_ok nmX10 rfl 3 62 (by decide) (by decide) (by decide)))).symm
    have m5376 := m5329.trans (Wr.neI wH5337 (Or.inr (x_apart hKT hts inX10 tyX10 tyX10_ok nmX10 rfl 59 62 (by decide) (by decide) (by decide)))).symm
    have m5377 := ex5291.trans (Wr.neI wH5337 (Or.inr (x_apart hKT hts inX10 tyX10 tyX10_ok nmX10 rfl 72 62 (by decide) (by decide) (by decide)))).symm
    have m5378 := Wr.I wH5337
    have m5378 := m5378.symm
    clear b5299 b5300 b5301 b5302 b5303 b5304 b5305 b5306 b5307 b5331 b5332 b5333 b5334 b5335 ex5291 f5308 g5293 hTH5289 m5292 m5310 m5311 m5312 m5313 m5314 m5315 m5316 m5317 m5318 m5319 m5320 m5321 m5322 m5323 m5324 m5325 m5326 m5327 m5328 m5329 mf5330 p5336
    refine lv_aload_n hx hb dX10_image_93 rfl (lv_at hl 0 rfl) ?_
    refine lv_aload_n hx hb dX10_image_94 rfl (lv_at hl 0 rfl) ?_
    refine lv_aload_n hx hb dX10_image_95 rfl (lv_at hl 0 rfl) ?_
    refine x_gi C hTH5337 (ci := 10) (k := 65) rfl inX10 (by decide) wF_X10_458 ga0 rg_112 rfl dX10_image_96 (fun x5379 ex5379 bx5379 => ?_)
    have ux5379 : s65 = x5379 := (m5369).trans ex5379.symm
    subst ux5379
    refine x_V (As := [.int s65]) (rest := [.ref a0]) C (a_X10_kept l K G H5337 (s65) (x5291) (x1) hTH5337 ga0 giq m5356 m5377 m5371 g5339 (by and_intros <;> first | assumption | omega)) yo_X10_kept wM_X10_473 ⟨⟨by decide, by decide⟩, by decide, by decide⟩ (x_rv C hTH5337 (ci := 10) rfl ga0 rg_112) rfl hl.1 rfl (Nat.le_of_ble_eq_true rfl) dX10_image_99 hSH5337 (AE_sub (fun _ _ => rfl) (by decide) hSH5337.1) (fun vH5380 H5380 locsH5380 pH5380 zH5380 kH5380 hSH5380 => ?_)
    obtain ⟨x5381, x5382, hvH5380, ex5382, hrH5380, m5383, g5384, mf5385, m5386, m5387, m5388, m5389, hTH5380⟩ := pH5380
    subst hvH5380
    clear zH5380
    replace m5383 := EQN.mk m5383
    have b5390 : UN (x1.toInt ≠ 0) (fun k => fI H5380 q4 k) (fun k => fI s.heap q4 k) := UN.congr (fun j => fI_kept (x_lt hTH5337 kH5380 gq4 (by decide))) b5340
    have b5391 : UN (x1.toInt ≠ 0) (fun k => fI H5380 q16 k) (fun k => fI s.heap q16 k) := UN.congr (fun j => fI_kept (x_lt hTH5337 kH5380 gq16 (by decide))) b5341
    have b5392 : UN (x1.toInt ≠ 0) (fun k => fI H5380 q24 k) (fun k => fI s.heap q24 k) := UN.congr (fun j => fI_kept (x_lt hTH5337 kH5380 gq24 (by decide))) b5342
    have b5393 : UN (x1.toInt ≠ 0) (fun k => fI H5380 q29 k) (fun k => fI s.heap q29 k) := UN.congr (fun j => fI_kept (x_lt hTH5337 kH5380 gq29 (by decide))) b5343
    have b5394 : UN (x1.toInt ≠ 0) (fun k => fI H5380 q30 k) (fun k => fI s.heap q30 k) := UN.congr (fun j => fI_kept (x_lt hTH5337 kH5380 gq30 (by decide))) b5344
    have b5395 : UN (x1.toInt ≠ 0) (fun k => fI H5380 q31 k) (fun k => fI s.heap q31 k) := UN.congr (fun j => fI_kept (x_lt hTH5337 kH5380 gq31 (by decide))) b5345
    have b5396 : UN (x1.toInt ≠ 0) (fun k => fI H5380 q32 k) (fun k => fI s.heap q32 k) := UN.congr (fun j => fI_kept (x_lt hTH5337 kH5380 gq32 (by decide))) b5346
    have b5397 : UN (x1.toInt ≠ 0) (fun k => fI H5380 q33 k) (fun k => fI s.heap q33 k) := UN.congr (fun j => fI_kept (x_lt hTH5337 kH5380 gq33 (by decide))) b5347
    have b5398 : UN (x1.toInt ≠ 0) (fun k => fI H5380 q50 k) (fun k => fI s.heap q50 k) := UN.congr (fun j => fI_kept (x_lt hTH5337 kH5380 gq50 (by decide))) b5348
    have f5399 : ∀ j : Nat, fI H5380 q50 j = fI s.heap q50 j := fun j => (fI_kept (x_lt hTH5337 kH5380 gq50 (by decide))).trans (f5355 j)
    have m5400 := (m5356).trans (MF.r mf5385 (k := 73) (by decide) (by decide)).symm
    have m5401 := (m5357).trans (MF.r mf5385 (k := 4) (by decide) (by decide)).symm
    have m5402 := (m5358).trans (MF.r mf5385 (k := 10) (by decide) (by decide)).symm
    have m5403 := (m5359).trans (MF.r mf5385 (k := 16) (by decide) (by decide)).symm
    have m5404 := (m5360).trans (MF.r mf5385 (k := 24) (by decide) (by decide)).symm
    have m5405 := (m5361).trans (MF.r mf5385 (k := 27) (by decide) (by decide)).symm
    have m5406 := (m5362).trans (MF.r mf5385 (k := 29) (by decide) (by decide)).symm
    have m5407 := (m5363).trans (MF.r mf5385 (k := 30) (by decide) (by decide)).symm
    have m5408 := (m5364).trans (MF.r mf5385 (k := 31) (by decide) (by decide)).symm
    have m5409 := (m5365).trans (MF.r mf5385 (k := 32) (by decide) (by decide)).symm
    have m5410 := (m5366).trans (MF.r mf5385 (k := 33) (by decide) (by decide)).symm
    have m5411 := (m5367).trans (MF.r mf5385 (k := 50) (by decide) (by decide)).symm
    have m5412 := (m5369).trans (MF.i mf5385 (k := 65) (by decide) (by decide)).symm
    have m5413 := (MF.i mf5385 (k := 0) (by decide) (by decide)).trans m5370
    have m5414 := (m5371).trans (MF.i mf5385 (k := 71) (by decide) (by decide)).symm
    have m5415 := (MF.i mf5385 (k := 70) (by decide) (by decide)).trans m5372
    have m5416 := (m5373).trans (MF.i mf5385 (k := 1) (by decide) (by decide)).symm
    have m5417 := (m5374).trans (MF.i mf5385 (k := 2) (by decide) (by decide)).symm
    have m5418 := (m5375).trans (MF.i mf5385 (k := 3) (by decide) (by decide)).symm
    have m5419 := (m5376).trans (MF.i mf5385 (k := 59) (by decide) (by decide)).symm
    have m5420 := (m5378).trans (MF.i mf5385 (k := 62) (by decide) (by decide)).symm
    have mf5421 : MF K s.heap H5380 a0 [0, 1, 2, 3, 59, 62, 65, 70, 71, 72] := MF.trans mf5338 mf5385 (by decide)
    have bx5382 := ty_fi (x := x5382) (k := 72) ex5382 hTH5380 ga0 rg_112 rfl
    have ce_x5291 := i_cl (x := x5291) (by omega)
    have b5422 : UN (x1.toInt = 0) (fun k => fI H5380 iq k) (fun k => fI s.heap iq k) := UN.tr m5389 b5349
    have b5423 : x4946 = fI H5380 iq (0) := (b5350).trans (m5388 _ (by omega)).symm
    have b5424 : x5029 = fI H5380 iq (1) := (b5351).trans (m5388 _ (by omega)).symm
    have b5425 : x5114 = fI H5380 iq (2) := (b5352).trans (m5388 _ (by omega)).symm
    have b5426 : x5201 = fI H5380 iq (3) := (b5353).trans (m5388 _ (by omega)).symm
    have b5427 : x5290 = fI H5380 iq (4) := (b5354).trans (m5388 _ (by omega)).symm
    clear b5340 b5341 b5342 b5343 b5344 b5345 b5346 b5347 b5348 b5349 b5350 b5351 b5352 b5353 b5354 m5356 m5357 m5358 m5359 m5360 m5361 m5362 m5363 m5364 m5365 m5366 m5367 m5369 m5370 m5371 m5372 m5373 m5374 m5375 m5376 m5377 m5378
    clear m5388 m5389
    have bx5381 : 0 ≤ x5381.toInt ∧ x5381.toInt ≤ 8 := kr (fun h0 => by have hiw := hIW; exact kr0 (w := fun k => fI H5380 iq k) m5386 (p := 5) (by omega) (b5422 h0) (hiw.1.2.2.2.2)) m5387 (by omega)
    have p5428 : x5381 = fI H5380 iq (5) := by have h := m5386; rw [show x5291.toNatClampNeg = 5 by omega] at h; exact h
    refine W.eq (g2 := F0 m 102 ls [.int x5381, .ref a0]) rfl ?_
    refine x_put C hTH5380 hSH5380 (ci := 10) (k := 65) (v := .int x5381) (ty0 := tyX10) rfl inX10 tyX10_ok nmX10 (by decide) rfl wF_X10_458 ga0 rg_112 rfl rfl (okI (by have := i_rng x5381; omega) (by have := i_rng x5381; omega)) rfl rfl (AE_in ga0 (by decide)) dX10_image_102 (fun H5429 locsH5429 hTH5429 hSH5429 wH5429 => ?_)
    have mf5430 : MF K s.heap H5429 a0 [0, 1, 2, 3, 59, 62, 65, 70, 71, 72] := MF.fld hap wH5429 (by decide) (by decide) mf5421
    have g5431 : WD (avw K H5429 a0) := WD.congr (fun k hk j => av_fld hTH5380 ga0 hap wH5429 (by decide) (WD_ok 112 (by decide) k hk) (WD_ne 65 (by decide) k hk)) g5384
    have b5432 : UN (x1.toInt ≠ 0) (fun k => fI H5429 q4 k) (fun k => fI s.heap q4 k) := UN.congr (fun j => Wr.neI wH5429 (Or.inl (G_ne gq4 ga0 (by decide)))) b5390
    have b5433 : UN (x1.toInt ≠ 0) (fun k => fI H5429 q16 k) (fun k => fI s.heap q16 k) := UN.congr (fun j => Wr.neI wH5429 (Or.inl (G_ne gq16 ga0 (by decide)))) b5391
    have b5434 : UN (x1.toInt ≠ 0) (fun k => fI H5429 q24 k) (fun k => fI s.heap q24 k) := UN.congr (fun j => Wr.neI wH5429 (Or.inl (G_ne gq24 ga0 (by decide)))) b5392
    have b5435 : UN (x1.toInt ≠ 0) (fun k => fI H5429 q29 k) (fun k => fI s.heap q29 k) := UN.congr (fun j => Wr.neI wH5429 (Or.inl (G_ne gq29 ga0 (by decide)))) b5393
    have b5436 : UN (x1.toInt ≠ 0) (fun k => fI H5429 q30 k) (fun k => fI s.heap q30 k) := UN.congr (fun j => Wr.neI wH5429 (Or.inl (G_ne gq30 ga0 (by decide)))) b5394
    have b5437 : UN (x1.toInt ≠ 0) (fun k => fI H5429 q31 k) (fun k => fI s.heap q31 k) := UN.congr (fun j => Wr.neI wH5429 (Or.inl (G_ne gq31 ga0 (by decide)))) b5395
    have b5438 : UN (x1.toInt ≠ 0) (fun k => fI H5429 q32 k) (fun k => fI s.heap q32 k) := UN.congr (fun j => Wr.neI wH5429 (Or.inl (G_ne gq32 ga0 (by decide)))) b5396
    have b5439 : UN (x1.toInt ≠ 0) (fun k => fI H5429 q33 k) (fun k => fI s.heap q33 k) := UN.congr (fun j => Wr.neI wH5429 (Or.inl (G_ne gq33 ga0 (by decide)))) b5397
    have b5440 : UN (x1.toInt ≠ 0) (fun k => fI H5429 q50 k) (fun k => fI s.heap q50 k) := UN.congr (fun j => Wr.neI wH5429 (Or.inl (G_ne gq50 ga0 (by decide)))) b5398
    have b5441 : UN (x1.toInt = 0) (fun k => fI H5429 iq k) (fun k => fI s.heap iq k) := UN.congr (fun j => Wr.neI wH5429 (Or.inl (G_ne giq ga0 (by decide)))) b5422
    have b5442 : x4946 = fI H5429 iq (0) := (b5423).trans (Wr.neI wH5429 (Or.inl (G_ne giq ga0 (by decide)))).symm
    have b5443 : x5029 = fI H5429 iq (1) := (b5424).trans (Wr.neI wH5429 (Or.inl (G_ne giq ga0 (by decide)))).symm
    have b5444 : x5114 = fI H5429 iq (2) := (b5425).trans (Wr.neI wH5429 (Or.inl (G_ne giq ga0 (by decide)))).symm
    have b5445 : x5201 = fI H5429 iq (3) := (b5426).trans (Wr.neI wH5429 (Or.inl (G_ne giq ga0 (by decide)))).symm
    have b5446 : x5290 = fI H5429 iq (4) := (b5427).trans (Wr.neI wH5429 (Or.inl (G_ne giq ga0 (by decide)))).symm
    have b5447 : x5381 = fI H5429 iq (5) := (p5428).trans (Wr.neI wH5429 (Or.inl (G_ne giq ga0 (by decide)))).symm
    have f5448 : ∀ j : Nat, fI H5429 q50 j = fI s.heap q50 j := fun j => (Wr.neI wH5429 (Or.inl (G_ne gq50 ga0 (by decide)))).trans (f5399 j)
    have m5449 := m5383.trans (Wr.neR wH5429 (Or.inr (x_apart hKT hts inX10 tyX10 tyX10_ok nmX10 rfl 73 65 (by decide) (by decide) (by decide)))).symm
    have m5450 := m5401.trans (Wr.neR wH5429 (Or.inr (x_apart hKT hts inX10 tyX10 tyX10_ok nmX10 rfl 4 65 (by decide) (by decide) (by decide)))).symm
    have m5451 := m5402.trans (Wr.neR wH5429 (Or.inr (x_apart hKT hts inX10 tyX10 tyX10_ok nmX10 rfl 10 65 (by decide) (by decide) (by decide)))).symm
    have m5452 := m5403.trans (Wr.neR wH5429 (Or.inr (x_apart hKT hts inX10 tyX10 tyX10_ok nmX10 rfl 16 65 (by decide) (by decide) (by decide)))).symm
    have m5453 := m5404.trans (Wr.neR wH5429 (Or.inr (x_apart hKT hts inX10 tyX10 tyX10_ok nmX10 rfl 24 65 (by decide) (by decide) (by decide)))).symm
    have m5454 := m5405.trans (Wr.neR wH5429 (Or.inr (x_apart hKT hts inX10 tyX10 tyX10_ok nmX10 rfl 27 65 (by decide) (by decide) (by decide)))).symm
    have m5455 := m5406.trans (Wr.neR wH5429 (Or.inr (x_apart hKT hts inX10 tyX10 tyX10_ok nmX10 rfl 29 65 (by decide) (by decide) (by decide)))).symm
    have m5456 := m5407.trans (Wr.neR wH5429 (Or.inr (x_apart hKT hts inX10 tyX10 tyX10_ok nmX10 rfl 30 65 (by decide) (by decide) (by decide)))).symm
    have m5457 := m5408.trans (Wr.neR wH5429 (Or.inr (x_apart hKT hts inX10 tyX10 tyX10_ok nmX10 rfl 31 65 (by decide) (by decide) (by decide)))).symm
    have m5458 := m5409.trans (Wr.neR wH5429 (Or.inr (x_apart hKT hts inX10 tyX10 tyX10_ok nmX10 rfl 32 65 (by decide) (by decide) (by decide)))).symm
    have m5459 := m5410.trans (Wr.neR wH5429 (Or.inr (x_apart hKT hts inX10 tyX10 tyX10_ok nmX10 rfl 33 65 (by decide) (by decide) (by decide)))).symm
    have m5460 := m5411.trans (Wr.neR wH5429 (Or.inr (x_apart hKT hts inX10 tyX10 tyX10_ok nmX10 rfl 50 65 (by decide) (by decide) (by decide)))).symm
    have m5462 := (Wr.neI wH5429 (Or.inr (x_apart hKT hts inX10 tyX10 tyX10_ok nmX10 rfl 0 65 (by decide) (by decide) (by decide)))).trans m5413
    have m5463 := m5414.trans (Wr.neI wH5429 (Or.inr (x_apart hKT hts inX10 tyX10 tyX10_ok nmX10 rfl 71 65 (by decide) (by decide) (by decide)))).symm
    have m5464 := (Wr.neI wH5429 (Or.inr (x_apart hKT hts inX10 tyX10 tyX10_ok nmX10 rfl 70 65 (by decide) (by decide) (by decide)))).trans m5415
    have m5465 := m5416.trans (Wr.neI wH5429 (Or.inr (x_apart hKT hts inX10 tyX10 tyX10_ok nmX10 rfl 1 65 (by decide) (by decide) (by decide)))).symm
    have m5466 := m5417.trans (Wr.neI wH5429 (Or.inr (x_apart hKT hts inX10 tyX10 tyX10_ok nmX10 rfl 2 65 (by decide) (by decide) (by decide)))).symm
    have m5467 := m5418.trans (Wr.neI wH5429 (Or.inr (x_apart hKT hts inX10 tyX10 tyX10_ok nmX10 rfl 3 65 (by decide) (by decide) (by decide)))).symm
    have m5468 := m5419.trans (Wr.neI wH5429 (Or.inr (x_apart hKT hts inX10 tyX10 tyX10_ok nmX10 rfl 59 65 (by decide) (by decide) (by decide)))).symm
    have m5469 := m5420.trans (Wr.neI wH5429 (Or.inr (x_apart hKT hts inX10 tyX10 tyX10_ok nmX10 rfl 62 65 (by decide) (by decide) (by decide)))).symm
    have m5470 := ex5382.trans (Wr.neI wH5429 (Or.inr (x_apart hKT hts inX10 tyX10 tyX10_ok nmX10 rfl 72 65 (by decide) (by decide) (by decide)))).symm
    have m5471 := Wr.I wH5429
    have m5471 := m5471.symm
    clear b5390 b5391 b5392 b5393 b5394 b5395 b5396 b5397 b5398 b5422 b5423 b5424 b5425 b5426 b5427 ex5382 f5399 g5384 hTH5380 m5383 m5401 m5402 m5403 m5404 m5405 m5406 m5407 m5408 m5409 m5410 m5411 m5412 m5413 m5414 m5415 m5416 m5417 m5418 m5419 m5420 mf5421 p5428
    refine lv_aload_n hx hb dX10_image_105 rfl (lv_at hl 0 rfl) ?_
    refine x_V (As := []) (rest := []) C (a_X10_keepsBars l K G H5429 (x5382) (x1) hTH5429 ga0 giq m5449 gq4 m5450 gq10 m5451 gq16 m5452 gq50 m5460 m5470 m5463 g5431 (by and_intros <;> first | assumption | omega) (fun h0 => IMw.congr (b5441 h0) hIW)) yo_X10_keepsBars wM_X10_479 ⟨⟨by decide, by decide⟩, by decide, by decide⟩ (x_rv C hTH5429 (ci := 10) rfl ga0 rg_112) rfl hl.1 rfl (Nat.le_of_ble_eq_true rfl) dX10_image_106 hSH5429 (AE_sub (fun _ _ => rfl) (by decide) hSH5429.1) (fun vH5472 H5472 locsH5472 pH5472 zH5472 kH5472 hSH5472 => ?_)
    obtain ⟨x5473, hvH5472, ex5473, hrH5472, m5474, m5475, m5476, m5477, m5478, g5479, mf5480, m5481, m5482, m5483, m5484, m5485, m5486, m5487, m5488, m5489, hTH5472⟩ := pH5472
    subst hvH5472
    clear zH5472
    replace m5474 := EQN.mk m5474
    replace m5475 := EQN.mk m5475
    replace m5476 := EQN.mk m5476
    replace m5477 := EQN.mk m5477
    replace m5478 := EQN.mk m5478
    have b5490 : UN (x1.toInt ≠ 0) (fun k => fI H5472 q24 k) (fun k => fI s.heap q24 k) := UN.congr (fun j => fI_kept (x_lt hTH5429 kH5472 gq24 (by decide))) b5434
    have b5491 : UN (x1.toInt ≠ 0) (fun k => fI H5472 q29 k) (fun k => fI s.heap q29 k) := UN.congr (fun j => fI_kept (x_lt hTH5429 kH5472 gq29 (by decide))) b5435
    have b5492 : UN (x1.toInt ≠ 0) (fun k => fI H5472 q30 k) (fun k => fI s.heap q30 k) := UN.congr (fun j => fI_kept (x_lt hTH5429 kH5472 gq30 (by decide))) b5436
    have b5493 : UN (x1.toInt ≠ 0) (fun k => fI H5472 q31 k) (fun k => fI s.heap q31 k) := UN.congr (fun j => fI_kept (x_lt hTH5429 kH5472 gq31 (by decide))) b5437
    have b5494 : UN (x1.toInt ≠ 0) (fun k => fI H5472 q32 k) (fun k => fI s.heap q32 k) := UN.congr (fun j => fI_kept (x_lt hTH5429 kH5472 gq32 (by decide))) b5438
    have b5495 : UN (x1.toInt ≠ 0) (fun k => fI H5472 q33 k) (fun k => fI s.heap q33 k) := UN.congr (fun j => fI_kept (x_lt hTH5429 kH5472 gq33 (by decide))) b5439
    have m5496 := (m5449).trans (MF.r mf5480 (k := 73) (by decide) (by decide)).symm
    have m5497 := (m5450).trans (MF.r mf5480 (k := 4) (by decide) (by decide)).symm
    have m5498 := (m5451).trans (MF.r mf5480 (k := 10) (by decide) (by decide)).symm
    have m5499 := (m5452).trans (MF.r mf5480 (k := 16) (by decide) (by decide)).symm
    have m5500 := (m5453).trans (MF.r mf5480 (k := 24) (by decide) (by decide)).symm
    have m5501 := (m5454).trans (MF.r mf5480 (k := 27) (by decide) (by decide)).symm
    have m5502 := (m5455).trans (MF.r mf5480 (k := 29) (by decide) (by decide)).symm
    have m5503 := (m5456).trans (MF.r mf5480 (k := 30) (by decide) (by decide)).symm
    have m5504 := (m5457).trans (MF.r mf5480 (k := 31) (by decide) (by decide)).symm
    have m5505 := (m5458).trans (MF.r mf5480 (k := 32) (by decide) (by decide)).symm
    have m5506 := (m5459).trans (MF.r mf5480 (k := 33) (by decide) (by decide)).symm
    have m5507 := (m5460).trans (MF.r mf5480 (k := 50) (by decide) (by decide)).symm
    have m5508 := (MF.i mf5480 (k := 0) (by decide) (by decide)).trans m5462
    have m5509 := (m5463).trans (MF.i mf5480 (k := 71) (by decide) (by decide)).symm
    have m5510 := (MF.i mf5480 (k := 70) (by decide) (by decide)).trans m5464
    have m5511 := (m5465).trans (MF.i mf5480 (k := 1) (by decide) (by decide)).symm
    have m5512 := (m5466).trans (MF.i mf5480 (k := 2) (by decide) (by decide)).symm
    have m5513 := (m5467).trans (MF.i mf5480 (k := 3) (by decide) (by decide)).symm
    have m5514 := (m5468).trans (MF.i mf5480 (k := 59) (by decide) (by decide)).symm
    have m5515 := (m5469).trans (MF.i mf5480 (k := 62) (by decide) (by decide)).symm
    have m5516 := (m5471).trans (MF.i mf5480 (k := 65) (by decide) (by decide)).symm
    have mf5517 : MF K s.heap H5472 a0 [0, 1, 2, 3, 59, 62, 65, 70, 71, 72] := MF.trans mf5430 mf5480 (by decide)
    have bx5473 := ty_fi (x := x5473) (k := 72) ex5473 hTH5472 ga0 rg_112 rfl
    have b5518 : UN (x1.toInt ≠ 0) (fun k => fI H5472 q4 k) (fun k => fI s.heap q4 k) := UN.tr m5487 b5432
    have b5519 : UN (x1.toInt ≠ 0) (fun k => fI H5472 q16 k) (fun k => fI s.heap q16 k) := UN.tr m5488 b5433
    have b5520 : UN (x1.toInt ≠ 0) (fun k => fI H5472 q50 k) (fun k => fI s.heap q50 k) := UN.tr m5489 b5440
    have b5521 : UN (x1.toInt = 0) (fun k => fI H5472 iq k) (fun k => fI s.heap iq k) := UN.tr m5481 b5441
    have b5522 : x4946 = fI H5472 iq (0) := (b5442).trans (m5482 _ (by omega)).symm
    have b5523 : x5029 = fI H5472 iq (1) := (b5443).trans (m5482 _ (by omega)).symm
    have b5524 : x5114 = fI H5472 iq (2) := (b5444).trans (m5482 _ (by omega)).symm
    have b5525 : x5201 = fI H5472 iq (3) := (b5445).trans (m5482 _ (by omega)).symm
    have b5526 : x5290 = fI H5472 iq (4) := (b5446).trans (m5482 _ (by omega)).symm
    have b5527 : x5381 = fI H5472 iq (5) := (b5447).trans (m5482 _ (by omega)).symm
    refine W.eq (g2 := F0 m 109 ls []) rfl ?_
    refine lv_aload_n hx hb dX10_image_109 rfl (lv_at hl 0 rfl) ?_
    refine x_V (As := []) (rest := []) C (a_X10_keepsTaps l K G H5472 (x5473) (x1) hTH5472 ga0 giq m5474 ex5473 m5509 g5479 (by and_intros <;> first | assumption | omega) (fun h0 => IMw.congr (b5521 h0) hIW)) yo_X10_keepsTaps wM_X10_482 ⟨⟨by decide, by decide⟩, by decide, by decide⟩ (x_rv C hTH5472 (ci := 10) rfl ga0 rg_112) rfl hl.1 rfl (Nat.le_of_ble_eq_true rfl) dX10_image_110 hSH5472 (AE_sub (fun _ _ => rfl) (by decide) hSH5472.1) (fun vH5528 H5528 locsH5528 pH5528 zH5528 kH5528 hSH5528 => ?_)
    obtain ⟨x5529, hvH5528, ex5529, hrH5528, m5530, g5531, mf5532, m5533, m5534, hTH5528⟩ := pH5528
    subst hvH5528
    clear zH5528
    replace m5530 := EQN.mk m5530
    have b5535 : UN (x1.toInt ≠ 0) (fun k => fI H5528 q24 k) (fun k => fI s.heap q24 k) := UN.congr (fun j => fI_kept (x_lt hTH5472 kH5528 gq24 (by decide))) b5490
    have b5536 : UN (x1.toInt ≠ 0) (fun k => fI H5528 q29 k) (fun k => fI s.heap q29 k) := UN.congr (fun j => fI_kept (x_lt hTH5472 kH5528 gq29 (by decide))) b5491
    have b5537 : UN (x1.toInt ≠ 0) (fun k => fI H5528 q30 k) (fun k => fI s.heap q30 k) := UN.congr (fun j => fI_kept (x_lt hTH5472 kH5528 gq30 (by decide))) b5492
    have b5538 : UN (x1.toInt ≠ 0) (fun k => fI H5528 q31 k) (fun k => fI s.heap q31 k) := UN.congr (fun j => fI_kept (x_lt hTH5472 kH5528 gq31 (by decide))) b5493
    have b5539 : UN (x1.toInt ≠ 0) (fun k => fI H5528 q32 k) (fun k => fI s.heap q32 k) := UN.congr (fun j => fI_kept (x_lt hTH5472 kH5528 gq32 (by decide))) b5494
    have b5540 : UN (x1.toInt ≠ 0) (fun k => fI H5528 q33 k) (fun k => fI s.heap q33 k) := UN.congr (fun j => fI_kept (x_lt hTH5472 kH5528 gq33 (by decide))) b5495
    have b5541 : UN (x1.toInt ≠ 0) (fun k => fI H5528 q4 k) (fun k => fI s.heap q4 k) := UN.congr (fun j => fI_kept (x_lt hTH5472 kH5528 gq4 (by decide))) b5518
    have b5542 : UN (x1.toInt ≠ 0) (fun k => fI H5528 q16 k) (fun k => fI s.heap q16 k) := UN.congr (fun j => fI_kept (x_lt hTH5472 kH5528 gq16 (by decide))) b5519
    have b5543 : UN (x1.toInt ≠ 0) (fun k => fI H5528 q50 k) (fun k => fI s.heap q50 k) := UN.congr (fun j => fI_kept (x_lt hTH5472 kH5528 gq50 (by decide))) b5520
    have m5544 := (m5474).trans (MF.r mf5532 (k := 73) (by decide) (by decide)).symm
    have m5545 := (m5475).trans (MF.r mf5532 (k := 4) (by decide) (by decide)).symm
    have m5546 := (m5476).trans (MF.r mf5532 (k := 10) (by decide) (by decide)).symm
    have m5547 := (m5477).trans (MF.r mf5532 (k := 16) (by decide) (by decide)).symm
    have m5548 := (m5500).trans (MF.r mf5532 (k := 24) (by decide) (by decide)).symm
    have m5549 := (m5501).trans (MF.r mf5532 (k := 27) (by decide) (by decide)).symm
    have m5550 := (m5502).trans (MF.r mf5532 (k := 29) (by decide) (by decide)).symm
    have m5551 := (m5503).trans (MF.r mf5532 (k := 30) (by decide) (by decide)).symm
    have m5552 := (m5504).trans (MF.r mf5532 (k := 31) (by decide) (by decide)).symm
    have m5553 := (m5505).trans (MF.r mf5532 (k := 32) (by decide) (by decide)).symm
    have m5554 := (m5506).trans (MF.r mf5532 (k := 33) (by decide) (by decide)).symm
    have m5555 := (m5478).trans (MF.r mf5532 (k := 50) (by decide) (by decide)).symm
    have m5556 := (MF.i mf5532 (k := 0) (by decide) (by decide)).trans m5508
    have m5557 := (m5509).trans (MF.i mf5532 (k := 71) (by decide) (by decide)).symm
    have m5558 := (MF.i mf5532 (k := 70) (by decide) (by decide)).trans m5510
    have m5559 := (m5511).trans (MF.i mf5532 (k := 1) (by decide) (by decide)).symm
    have m5560 := (m5512).trans (MF.i mf5532 (k := 2) (by decide) (by decide)).symm
    have m5561 := (m5513).trans (MF.i mf5532 (k := 3) (by decide) (by decide)).symm
    have m5562 := (m5514).trans (MF.i mf5532 (k := 59) (by decide) (by decide)).symm
    have m5563 := (m5515).trans (MF.i mf5532 (k := 62) (by decide) (by decide)).symm
    have m5564 := (m5516).trans (MF.i mf5532 (k := 65) (by decide) (by decide)).symm
    have mf5565 : MF K s.heap H5528 a0 [0, 1, 2, 3, 59, 62, 65, 70, 71, 72] := MF.trans mf5517 mf5532 (by decide)
    have bx5529 := ty_fi (x := x5529) (k := 72) ex5529 hTH5528 ga0 rg_112 rfl
    have b5566 : UN (x1.toInt = 0) (fun k => fI H5528 iq k) (fun k => fI s.heap iq k) := UN.tr m5533 b5521
    have b5567 : x4946 = fI H5528 iq (0) := (b5522).trans (m5534 _ (by omega)).symm
    have b5568 : x5029 = fI H5528 iq (1) := (b5523).trans (m5534 _ (by omega)).symm
    have b5569 : x5114 = fI H5528 iq (2) := (b5524).trans (m5534 _ (by omega)).symm
    have b5570 : x5201 = fI H5528 iq (3) := (b5525).trans (m5534 _ (by omega)).symm
    have b5571 : x5290 = fI H5528 iq (4) := (b5526).trans (m5534 _ (by omega)).symm
    have b5572 : x5381 = fI H5528 iq (5) := (b5527).trans (m5534 _ (by omega)).symm
    have b5573 : EQ (fun k => fI H5528 q4 k) (fun k => fI H5528 iq k) (6) (6) (10) := EQ.fb (EQ.congr (w1 := fun k => fI H5472 iq k) (fun j => fI_kept (x_lt hTH5472 kH5528 gq4 (by decide))) (fun _ => rfl) m5483) m5534 (fun j hj => by omega)
    have b5574 : EQ (fun k => fI H5528 q10 k) (fun k => fI H5528 iq k) (7) (6) (10) := EQ.fb (EQ.congr (w1 := fun k => fI H5472 iq k) (fun j => fI_kept (x_lt hTH5472 kH5528 gq10 (by decide))) (fun _ => rfl) m5484) m5534 (fun j hj => by omega)
    have b5575 : EQ (fun k => fI H5528 q50 k) (fun k => fI H5528 iq k) (11) (6) (10) := EQ.fb (EQ.congr (w1 := fun k => fI H5472 iq k) (fun j => fI_kept (x_lt hTH5472 kH5528 gq50 (by decide))) (fun _ => rfl) m5485) m5534 (fun j hj => by omega)
    have b5576 : EQ (fun k => fI H5528 q16 k) (fun k => fI H5528 iq k) (736) (3) (20) := EQ.fb (EQ.congr (w1 := fun k => fI H5472 iq k) (fun j => fI_kept (x_lt hTH5472 kH5528 gq16 (by decide))) (fun _ => rfl) m5486) m5534 (fun j hj => by omega)
    refine W.eq (g2 := F0 m 113 ls []) rfl ?_
    refine lv_aload_n hx hb dX10_image_113 rfl (lv_at hl 0 rfl) ?_
    refine x_V (As := []) (rest := []) C (a_X10_keepsTexts l K G H5528 (x5529) (x1) hTH5528 ga0 giq m5530 gq24 m5548 gq27 m5549 gq29 m5550 gq30 m5551 gq31 m5552 gq32 m5553 gq33 m5554 ex5529 m5557 g5531 (by and_intros <;> first | assumption | omega) (fun h0 => IMw.congr (b5566 h0) hIW)) yo_X10_keepsTexts wM_X10_485 ⟨⟨by decide, by decide⟩, by decide, by decide⟩ (x_rv C hTH5528 (ci := 10) rfl ga0 rg_112) rfl hl.1 rfl (Nat.le_of_ble_eq_true rfl) dX10_image_114 hSH5528 (AE_sub (fun _ _ => rfl) (by decide) hSH5528.1) (fun vH5577 H5577 locsH5577 pH5577 zH5577 kH5577 hSH5577 => ?_)
    obtain ⟨x5578, hvH5577, ex5578, hrH5577, m5579, m5580, m5581, m5582, m5583, m5584, m5585, m5586, g5587, mf5588, m5589, m5590, m5591, m5592, m5593, m5594, m5595, m5596, m5597, m5598, m5599, m5600, m5601, m5602, m5603, hTH5577⟩ := pH5577
    subst hvH5577
    clear zH5577
    replace m5579 := EQN.mk m5579
    replace m5580 := EQN.mk m5580
    replace m5581 := EQN.mk m5581
    replace m5582 := EQN.mk m5582
    replace m5583 := EQN.mk m5583
    replace m5584 := EQN.mk m5584
    replace m5585 := EQN.mk m5585
    replace m5586 := EQN.mk m5586
    have b5604 : UN (x1.toInt ≠ 0) (fun k => fI H5577 q4 k) (fun k => fI s.heap q4 k) := UN.congr (fun j => fI_kept (x_lt hTH5528 kH5577 gq4 (by decide))) b5541
    have b5605 : UN (x1.toInt ≠ 0) (fun k => fI H5577 q16 k) (fun k => fI s.heap q16 k) := UN.congr (fun j => fI_kept (x_lt hTH5528 kH5577 gq16 (by decide))) b5542
    have b5606 : UN (x1.toInt ≠ 0) (fun k => fI H5577 q50 k) (fun k => fI s.heap q50 k) := UN.congr (fun j => fI_kept (x_lt hTH5528 kH5577 gq50 (by decide))) b5543
    have m5607 := (m5530).trans (MF.r mf5588 (k := 73) (by decide) (by decide)).symm
    have m5608 := (m5545).trans (MF.r mf5588 (k := 4) (by decide) (by decide)).symm
    have m5609 := (m5546).trans (MF.r mf5588 (k := 10) (by decide) (by decide)).symm
    have m5610 := (m5547).trans (MF.r mf5588 (k := 16) (by decide) (by decide)).symm
    have m5611 := (m5548).trans (MF.r mf5588 (k := 24) (by decide) (by decide)).symm
    have m5612 := (m5549).trans (MF.r mf5588 (k := 27) (by decide) (by decide)).symm
    have m5613 := (m5550).trans (MF.r mf5588 (k := 29) (by decide) (by decide)).symm
    have m5614 := (m5551).trans (MF.r mf5588 (k := 30) (by decide) (by decide)).symm
    have m5615 := (m5552).trans (MF.r mf5588 (k := 31) (by decide) (by decide)).symm
    have m5616 := (m5553).trans (MF.r mf5588 (k := 32) (by decide) (by decide)).symm
    have m5617 := (m5554).trans (MF.r mf5588 (k := 33) (by decide) (by decide)).symm
    have m5618 := (m5555).trans (MF.r mf5588 (k := 50) (by decide) (by decide)).symm
    have m5619 := (MF.i mf5588 (k := 0) (by decide) (by decide)).trans m5556
    have m5620 := (m5557).trans (MF.i mf5588 (k := 71) (by decide) (by decide)).symm
    have m5621 := (MF.i mf5588 (k := 70) (by decide) (by decide)).trans m5558
    have m5622 := (m5559).trans (MF.i mf5588 (k := 1) (by decide) (by decide)).symm
    have m5623 := (m5560).trans (MF.i mf5588 (k := 2) (by decide) (by decide)).symm
    have m5624 := (m5561).trans (MF.i mf5588 (k := 3) (by decide) (by decide)).symm
    have m5625 := (m5562).trans (MF.i mf5588 (k := 59) (by decide) (by decide)).symm
    have m5626 := (m5563).trans (MF.i mf5588 (k := 62) (by decide) (by decide)).symm
    have m5627 := (m5564).trans (MF.i mf5588 (k := 65) (by decide) (by decide)).symm
    have mf5628 : MF K s.heap H5577 a0 [0, 1, 2, 3, 59, 62, 65, 70, 71, 72] := MF.trans mf5565 mf5588 (by decide)
    have bx5578 := ty_fi (x := x5578) (k := 72) ex5578 hTH5577 ga0 rg_112 rfl
    have b5629 : UN (x1.toInt ≠ 0) (fun k => fI H5577 q24 k) (fun k => fI s.heap q24 k) := UN.tr m5598 b5535
    have b5630 : UN (x1.toInt ≠ 0) (fun k => fI H5577 q29 k) (fun k => fI s.heap q29 k) := UN.tr m5599 b5536
    have b5631 : UN (x1.toInt ≠ 0) (fun k => fI H5577 q30 k) (fun k => fI s.heap q30 k) := UN.tr m5600 b5537
    have b5632 : UN (x1.toInt ≠ 0) (fun k => fI H5577 q31 k) (fun k => fI s.heap q31 k) := UN.tr m5601 b5538
    have b5633 : UN (x1.toInt ≠ 0) (fun k => fI H5577 q32 k) (fun k => fI s.heap q32 k) := UN.tr m5602 b5539
    have b5634 : UN (x1.toInt ≠ 0) (fun k => fI H5577 q33 k) (fun k => fI s.heap q33 k) := UN.tr m5603 b5540
    have b5635 : UN (x1.toInt = 0) (fun k => fI H5577 iq k) (fun k => fI s.heap iq k) := UN.tr m5589 b5566
    have b5636 : x4946 = fI H5577 iq (0) := (b5567).trans (m5590 _ (by omega)).symm
    have b5637 : x5029 = fI H5577 iq (1) := (b5568).trans (m5590 _ (by omega)).symm
    have b5638 : x5114 = fI H5577 iq (2) := (b5569).trans (m5590 _ (by omega)).symm
    have b5639 : x5201 = fI H5577 iq (3) := (b5570).trans (m5590 _ (by omega)).symm
    have b5640 : x5290 = fI H5577 iq (4) := (b5571).trans (m5590 _ (by omega)).symm
    have b5641 : x5381 = fI H5577 iq (5) := (b5572).trans (m5590 _ (by omega)).symm
    have b5642 : EQ (fun k => fI H5577 q4 k) (fun k => fI H5577 iq k) (6) (6) (10) := EQ.fb (EQ.congr (w1 := fun k => fI H5528 iq k) (fun j => fI_kept (x_lt hTH5528 kH5577 gq4 (by decide))) (fun _ => rfl) b5573) m5590 (fun j hj => by omega)
    have b5643 : EQ (fun k => fI H5577 q10 k) (fun k => fI H5577 iq k) (7) (6) (10) := EQ.fb (EQ.congr (w1 := fun k => fI H5528 iq k) (fun j => fI_kept (x_lt hTH5528 kH5577 gq10 (by decide))) (fun _ => rfl) b5574) m5590 (fun j hj => by omega)
    have b5644 : EQ (fun k => fI H5577 q50 k) (fun k => fI H5577 iq k) (11) (6) (10) := EQ.fb (EQ.congr (w1 := fun k => fI H5528 iq k) (fun j => fI_kept (x_lt hTH5528 kH5577 gq50 (by decide))) (fun _ => rfl) b5575) m5590 (fun j hj => by omega)
    have b5645 : EQ (fun k => fI H5577 q16 k) (fun k => fI H5577 iq k) (736) (3) (20) := EQ.fb (EQ.congr (w1 := fun k => fI H5528 iq k) (fun j => fI_kept (x_lt hTH5528 kH5577 gq16 (by decide))) (fun _ => rfl) b5576) m5590 (fun j hj => by omega)
    refine W.eq (g2 := F0 m 117 ls []) rfl ?_
    have fin := im_fin (H0 := s.heap) (tk := x1) hTH5577 ga0 hg_CG hg_TU hg_IM ⟨EQ.av m5608 m5579 b5642, EQ.av m5609 m5579 b5643, EQ.av m5618 m5579 b5644, EQ.av m5610 m5579 b5645, EQ.av m5580 m5579 m5591, EQ.av m5581 m5579 m5592, EQ.av m5582 m5579 m5593, EQ.av m5583 m5579 m5594, EQ.av m5584 m5579 m5595, EQ.av m5585 m5579 m5596, EQ.av m5586 m5579 m5597⟩ (pl_av m5622 b5636 m5579) (pl_av m5623 b5637 m5579) (pl_av m5625 b5639 m5579) (pl_av m5626 b5640 m5579) (pl_av m5627 b5641 m5579) (fun h => (m5622.symm.trans (m4952 h)).trans es1) (all8 (UN.av m5608 eq4 b5604) (UN.av m5610 eq16 b5605) (UN.av m5580 eq24 b5629) (UN.av m5582 eq29 b5630) (UN.av m5583 eq30 b5631) (UN.av m5584 eq31 b5632) (UN.av m5585 eq32 b5633) (UN.av m5586 eq33 b5634)) (UN.av m5579 eiq b5635)
    refine lv_iconst (v := 1) hx hb dX10_image_117 (by decide) ?_
    exact x_zret C hQ (Or.inr rfl) dX10_image_118 hSH5577 (by decide) (by decide) (⟨1, 1, x4946, x5029, x5114, x5201, x5290, x5381, rfl, by decide, (m5621).symm, m5622, m5623, m5624, m5625, m5626, m5627, by omega, m5579, m5608, m5609, m5610, m5580, m5581, m5582, m5583, m5584, m5585, m5586, m5618, fin.1, fin.2.1, g5587, fin.2.2, mf5628, Or.inr ⟨b5636, b5637, b5638, b5639, b5640, b5641⟩, (fun h => ⟨m4952 h, m5035 h, m5120 h, m5207 h, m5296 h, m5387 h⟩), b5635, Or.inr b5644, b5606, (fun h => by exfalso; omega), hTH5577⟩)
  · have k4827 := i_eq c4826
    refine lv_aload_n hx hb dX10_image_9 rfl (lv_at hl 0 rfl) ?_
    refine x_gi C hTH4789 (ci := 10) (k := 70) rfl inX10 (by decide) wF_X10_476 ga0 rg_112 rfl dX10_image_10 (fun x5646 ex5646 bx5646 => ?_)
    have ux5646 : h70 = x5646 := (m4818).trans ex5646.symm
    subst ux5646
    refine lv_if_ne (tgt := 18) hx hb dX10_image_13 (by decide) (fun c5647 => ?_) (fun c5647 => ?_)
    · have k5648 := i_ne c5647
      refine lv_aload_n hx hb dX10_image_18 rfl (lv_at hl 0 rfl) ?_
      refine lv_iload_n hx hb dX10_image_19 rfl (lv_at hl 1 rfl) ?_
      refine x_put C hTH4789 hSH4789 (ci := 10) (k := 71) (v := .int x1) (ty0 := tyX10) rfl inX10 tyX10_ok nmX10 (by decide) rfl wF_X10_470 ga0 rg_112 rfl rfl (okI (by have := i_rng x1; omega) (by have := i_rng x1; omega)) (by rcases i_01 (x := x1) (by omega) with h | h <;> rw [h] <;> rfl) (by rcases i_01 (x := x1) (by omega) with h | h <;> rw [h] <;> rfl) (AE_in ga0 (by decide)) dX10_image_20 (fun H5649 locsH5649 hTH5649 hSH5649 wH5649 => ?_)
      have mf5650 : MF K s.heap H5649 a0 [0, 1, 2, 3, 59, 62, 65, 70, 71, 72] := MF.fld hap wH5649 (by decide) (by decide) mf4790
      have g5651 : CG (avw K H5649 a0) := CG.congr (fun k hk j => av_fld hTH4789 ga0 hap wH5649 (by decide) (CG_ok 112 (by decide) k hk) (CG_ne 71 (by decide) k hk)) g4791
      have g5652 : TU (avw K H5649 a0) (svw K H5649 a0) := TU.congr (fun k hk j => av_fld hTH4789 ga0 hap wH5649 (by decide) (TU_ok 112 (by decide) k hk) (TU_ne 71 (by decide) k hk)) (fun k hk => sv_fld hap wH5649 (by decide) (TU_slt k hk) (TU_sne 71 (by decide) k hk)) g4792
      have g5653 : WD (avw K H5649 a0) := WD.congr (fun k hk j => av_fld hTH4789 ga0 hap wH5649 (by decide) (WD_ok 112 (by decide) k hk) (WD_ne 71 (by decide) k hk)) g4793
      have g5654 : IM (avw K H5649 a0) := IM.congr (fun k hk j => av_fld hTH4789 ga0 hap wH5649 (by decide) (IM_ok 112 (by decide) k hk) (IM_ne 71 (by decide) k hk)) g4794
      have b5655 : UN (x1.toInt = 0) (fun k => fI H5649 iq k) (fun k => fI s.heap iq k) := UN.congr (fun j => Wr.neI wH5649 (Or.inl (G_ne giq ga0 (by decide)))) b4795
      have b5656 : UN (x1.toInt ≠ 0) (fun k => fI H5649 q4 k) (fun k => fI s.heap q4 k) := UN.congr (fun j => Wr.neI wH5649 (Or.inl (G_ne gq4 ga0 (by decide)))) b4796
      have b5657 : UN (x1.toInt ≠ 0) (fun k => fI H5649 q16 k) (fun k => fI s.heap q16 k) := UN.congr (fun j => Wr.neI wH5649 (Or.inl (G_ne gq16 ga0 (by decide)))) b4797
      have b5658 : UN (x1.toInt ≠ 0) (fun k => fI H5649 q24 k) (fun k => fI s.heap q24 k) := UN.congr (fun j => Wr.neI wH5649 (Or.inl (G_ne gq24 ga0 (by decide)))) b4798
      have b5659 : UN (x1.toInt ≠ 0) (fun k => fI H5649 q29 k) (fun k => fI s.heap q29 k) := UN.congr (fun j => Wr.neI wH5649 (Or.inl (G_ne gq29 ga0 (by decide)))) b4799
      have b5660 : UN (x1.toInt ≠ 0) (fun k => fI H5649 q30 k) (fun k => fI s.heap q30 k) := UN.congr (fun j => Wr.neI wH5649 (Or.inl (G_ne gq30 ga0 (by decide)))) b4800
      have b5661 : UN (x1.toInt ≠ 0) (fun k => fI H5649 q31 k) (fun k => fI s.heap q31 k) := UN.congr (fun j => Wr.neI wH5649 (Or.inl (G_ne gq31 ga0 (by decide)))) b4801
      have b5662 : UN (x1.toInt ≠ 0) (fun k => fI H5649 q32 k) (fun k => fI s.heap q32 k) := UN.congr (fun j => Wr.neI wH5649 (Or.inl (G_ne gq32 ga0 (by decide)))) b4802
      have b5663 : UN (x1.toInt ≠ 0) (fun k => fI H5649 q33 k) (fun k => fI s.heap q33 k) := UN.congr (fun j => Wr.neI wH5649 (Or.inl (G_ne gq33 ga0 (by decide)))) b4803
      have b5664 : UN (x1.toInt ≠ 0) (fun k => fI H5649 q50 k) (fun k => fI s.heap q50 k) := UN.congr (fun j => Wr.neI wH5649 (Or.inl (G_ne gq50 ga0 (by decide)))) b4804
      have f5665 : ∀ j : Nat, fI H5649 q50 j = fI s.heap q50 j := fun j => (Wr.neI wH5649 (Or.inl (G_ne gq50 ga0 (by decide)))).trans (f4805 j)
      have m5666 := m4806.trans (Wr.neR wH5649 (Or.inr (x_apart hKT hts inX10 tyX10 tyX10_ok nmX10 rfl 73 71 (by decide) (by decide) (by decide)))).symm
      have m5667 := m4807.trans (Wr.neR wH5649 (Or.inr (x_apart hKT hts inX10 tyX10 tyX10_ok nmX10 rfl 4 71 (by decide) (by decide) (by decide)))).symm
      have m5668 := m4808.trans (Wr.neR wH5649 (Or.inr (x_apart hKT hts inX10 tyX10 tyX10_ok nmX10 rfl 10 71 (by decide) (by decide) (by decide)))).symm
      have m5669 := m4809.trans (Wr.neR wH5649 (Or.inr (x_apart hKT hts inX10 tyX10 tyX10_ok nmX10 rfl 16 71 (by decide) (by decide) (by decide)))).symm
      have m5670 := m4810.trans (Wr.neR wH5649 (Or.inr (x_apart hKT hts inX10 tyX10 tyX10_ok nmX10 rfl 24 71 (by decide) (by decide) (by decide)))).symm
      have m5671 := m4811.trans (Wr.neR wH5649 (Or.inr (x_apart hKT hts inX10 tyX10 tyX10_ok nmX10 rfl 27 71 (by decide) (by decide) (by decide)))).symm
      have m5672 := m4812.trans (Wr.neR wH5649 (Or.inr (x_apart hKT hts inX10 tyX10 tyX10_ok nmX10 rfl 29 71 (by decide) (by decide) (by decide)))).symm
      have m5673 := m4813.trans (Wr.neR wH5649 (Or.inr (x_apart hKT hts inX10 tyX10 tyX10_ok nmX10 rfl 30 71 (by decide) (by decide) (by decide)))).symm
      have m5674 := m4814.trans (Wr.neR wH5649 (Or.inr (x_apart hKT hts inX10 tyX10 tyX10_ok nmX10 rfl 31 71 (by decide) (by decide) (by decide)))).symm
      have m5675 := m4815.trans (Wr.neR wH5649 (Or.inr (x_apart hKT hts inX10 tyX10 tyX10_ok nmX10 rfl 32 71 (by decide) (by decide) (by decide)))).symm
      have m5676 := m4816.trans (Wr.neR wH5649 (Or.inr (x_apart hKT hts inX10 tyX10 tyX10_ok nmX10 rfl 33 71 (by decide) (by decide) (by decide)))).symm
      have m5677 := m4817.trans (Wr.neR wH5649 (Or.inr (x_apart hKT hts inX10 tyX10 tyX10_ok nmX10 rfl 50 71 (by decide) (by decide) (by decide)))).symm
      have m5678 := m4818.trans (Wr.neI wH5649 (Or.inr (x_apart hKT hts inX10 tyX10 tyX10_ok nmX10 rfl 70 71 (by decide) (by decide) (by decide)))).symm
      have m5679 := m4819.trans (Wr.neI wH5649 (Or.inr (x_apart hKT hts inX10 tyX10 tyX10_ok nmX10 rfl 1 71 (by decide) (by decide) (by decide)))).symm
      have m5680 := m4820.trans (Wr.neI wH5649 (Or.inr (x_apart hKT hts inX10 tyX10 tyX10_ok nmX10 rfl 2 71 (by decide) (by decide) (by decide)))).symm
      have m5681 := m4821.trans (Wr.neI wH5649 (Or.inr (x_apart hKT hts inX10 tyX10 tyX10_ok nmX10 rfl 3 71 (by decide) (by decide) (by decide)))).symm
      have m5682 := m4822.trans (Wr.neI wH5649 (Or.inr (x_apart hKT hts inX10 tyX10 tyX10_ok nmX10 rfl 59 71 (by decide) (by decide) (by decide)))).symm
      have m5683 := m4823.trans (Wr.neI wH5649 (Or.inr (x_apart hKT hts inX10 tyX10 tyX10_ok nmX10 rfl 62 71 (by decide) (by decide) (by decide)))).symm
      have m5684 := m4824.trans (Wr.neI wH5649 (Or.inr (x_apart hKT hts inX10 tyX10 tyX10_ok nmX10 rfl 65 71 (by decide) (by decide) (by decide)))).symm
      have m5685 := (Wr.neI wH5649 (Or.inr (x_apart hKT hts inX10 tyX10 tyX10_ok nmX10 rfl 0 71 (by decide) (by decide) (by decide)))).trans m4825
      have m5686 := Wr.I wH5649
      have m5686 := m5686.symm
      clear b4795 b4796 b4797 b4798 b4799 b4800 b4801 b4802 b4803 b4804 f4805 g4791 g4792 g4793 g4794 hTH4789 m4806 m4807 m4808 m4809 m4810 m4811 m4812 m4813 m4814 m4815 m4816 m4817 m4818 m4819 m4820 m4821 m4822 m4823 m4824 m4825 mf4790
      refine lv_aload_n hx hb dX10_image_23 rfl (lv_at hl 0 rfl) ?_
      refine lv_iconst (v := 1) hx hb dX10_image_24 (by decide) ?_
      refine x_put C hTH5649 hSH5649 (ci := 10) (k := 70) (v := .int 1) (ty0 := tyX10) rfl inX10 tyX10_ok nmX10 (by decide) rfl wF_X10_476 ga0 rg_112 rfl rfl (okI (by have := i_rng (1 : Int32); omega) (by have := i_rng (1 : Int32); omega)) rfl rfl (AE_in ga0 (by decide)) dX10_image_25 (fun H5687 locsH5687 hTH5687 hSH5687 wH5687 => ?_)
      have mf5688 : MF K s.heap H5687 a0 [0, 1, 2, 3, 59, 62, 65, 70, 71, 72] := MF.fld hap wH5687 (by decide) (by decide) mf5650
      have g5689 : CG (avw K H5687 a0) := CG.congr (fun k hk j => av_fld hTH5649 ga0 hap wH5687 (by decide) (CG_ok 112 (by decide) k hk) (CG_ne 70 (by decide) k hk)) g5651
      have g5690 : TU (avw K H5687 a0) (svw K H5687 a0) := TU.congr (fun k hk j => av_fld hTH5649 ga0 hap wH5687 (by decide) (TU_ok 112 (by decide) k hk) (TU_ne 70 (by decide) k hk)) (fun k hk => sv_fld hap wH5687 (by decide) (TU_slt k hk) (TU_sne 70 (by decide) k hk)) g5652
      have g5691 : WD (avw K H5687 a0) := WD.congr (fun k hk j => av_fld hTH5649 ga0 hap wH5687 (by decide) (WD_ok 112 (by decide) k hk) (WD_ne 70 (by decide) k hk)) g5653
      have g5692 : IM (avw K H5687 a0) := IM.congr (fun k hk j => av_fld hTH5649 ga0 hap wH5687 (by decide) (IM_ok 112 (by decide) k hk) (IM_ne 70 (by decide) k hk)) g5654
      have b5693 : UN (x1.toInt = 0) (fun k => fI H5687 iq k) (fun k => fI s.heap iq k) := UN.congr (fun j => Wr.neI wH5687 (Or.inl (G_ne giq ga0 (by decide)))) b5655
      have b5694 : UN (x1.toInt ≠ 0) (fun k => fI H5687 q4 k) (fun k => fI s.heap q4 k) := UN.congr (fun j => Wr.neI wH5687 (Or.inl (G_ne gq4 ga0 (by decide)))) b5656
      have b5695 : UN (x1.toInt ≠ 0) (fun k => fI H5687 q16 k) (fun k => fI s.heap q16 k) := UN.congr (fun j => Wr.neI wH5687 (Or.inl (G_ne gq16 ga0 (by decide)))) b5657
      have b5696 : UN (x1.toInt ≠ 0) (fun k => fI H5687 q24 k) (fun k => fI s.heap q24 k) := UN.congr (fun j => Wr.neI wH5687 (Or.inl (G_ne gq24 ga0 (by decide)))) b5658
      have b5697 : UN (x1.toInt ≠ 0) (fun k => fI H5687 q29 k) (fun k => fI s.heap q29 k) := UN.congr (fun j => Wr.neI wH5687 (Or.inl (G_ne gq29 ga0 (by decide)))) b5659
      have b5698 : UN (x1.toInt ≠ 0) (fun k => fI H5687 q30 k) (fun k => fI s.heap q30 k) := UN.congr (fun j => Wr.neI wH5687 (Or.inl (G_ne gq30 ga0 (by decide)))) b5660
      have b5699 : UN (x1.toInt ≠ 0) (fun k => fI H5687 q31 k) (fun k => fI s.heap q31 k) := UN.congr (fun j => Wr.neI wH5687 (Or.inl (G_ne gq31 ga0 (by decide)))) b5661
      have b5700 : UN (x1.toInt ≠ 0) (fun k => fI H5687 q32 k) (fun k => fI s.heap q32 k) := UN.congr (fun j => Wr.neI wH5687 (Or.inl (G_ne gq32 ga0 (by decide)))) b5662
      have b5701 : UN (x1.toInt ≠ 0) (fun k => fI H5687 q33 k) (fun k => fI s.heap q33 k) := UN.congr (fun j => Wr.neI wH5687 (Or.inl (G_ne gq33 ga0 (by decide)))) b5663
      have b5702 : UN (x1.toInt ≠ 0) (fun k => fI H5687 q50 k) (fun k => fI s.heap q50 k) := UN.congr (fun j => Wr.neI wH5687 (Or.inl (G_ne gq50 ga0 (by decide)))) b5664
      have f5703 : ∀ j : Nat, fI H5687 q50 j = fI s.heap q50 j := fun j => (Wr.neI wH5687 (Or.inl (G_ne gq50 ga0 (by decide)))).trans (f5665 j)
      have m5704 := m5666.trans (Wr.neR wH5687 (Or.inr (x_apart hKT hts inX10 tyX10 tyX10_ok nmX10 rfl 73 70 (by decide) (by decide) (by decide)))).symm
      have m5705 := m5667.trans (Wr.neR wH5687 (Or.inr (x_apart hKT hts inX10 tyX10 tyX10_ok nmX10 rfl 4 70 (by decide) (by decide) (by decide)))).symm
      have m5706 := m5668.trans (Wr.neR wH5687 (Or.inr (x_apart hKT hts inX10 tyX10 tyX10_ok nmX10 rfl 10 70 (by decide) (by decide) (by decide)))).symm
      have m5707 := m5669.trans (Wr.neR wH5687 (Or.inr (x_apart hKT hts inX10 tyX10 tyX10_ok nmX10 rfl 16 70 (by decide) (by decide) (by decide)))).symm
      have m5708 := m5670.trans (Wr.neR wH5687 (Or.inr (x_apart hKT hts inX10 tyX10 tyX10_ok nmX10 rfl 24 70 (by decide) (by decide) (by decide)))).symm
      have m5709 := m5671.trans (Wr.neR wH5687 (Or.inr (x_apart hKT hts inX10 tyX10 tyX10_ok nmX10 rfl 27 70 (by decide) (by decide) (by decide)))).symm
      have m5710 := m5672.trans (Wr.neR wH5687 (Or.inr (x_apart hKT hts inX10 tyX10 tyX10_ok nmX10 rfl 29 70 (by decide) (by decide) (by decide)))).symm
      have m5711 := m5673.trans (Wr.neR wH5687 (Or.inr (x_apart hKT hts inX10 tyX10 tyX10_ok nmX10 rfl 30 70 (by decide) (by decide) (by decide)))).symm
      have m5712 := m5674.trans (Wr.neR wH5687 (Or.inr (x_apart hKT hts inX10 tyX10 tyX10_ok nmX10 rfl 31 70 (by decide) (by decide) (by decide)))).symm
      have m5713 := m5675.trans (Wr.neR wH5687 (Or.inr (x_apart hKT hts inX10 tyX10 tyX10_ok nmX10 rfl 32 70 (by decide) (by decide) (by decide)))).symm
      have m5714 := m5676.trans (Wr.neR wH5687 (Or.inr (x_apart hKT hts inX10 tyX10 tyX10_ok nmX10 rfl 33 70 (by decide) (by decide) (by decide)))).symm
      have m5715 := m5677.trans (Wr.neR wH5687 (Or.inr (x_apart hKT hts inX10 tyX10 tyX10_ok nmX10 rfl 50 70 (by decide) (by decide) (by decide)))).symm
      have m5717 := m5679.trans (Wr.neI wH5687 (Or.inr (x_apart hKT hts inX10 tyX10 tyX10_ok nmX10 rfl 1 70 (by decide) (by decide) (by decide)))).symm
      have m5718 := m5680.trans (Wr.neI wH5687 (Or.inr (x_apart hKT hts inX10 tyX10 tyX10_ok nmX10 rfl 2 70 (by decide) (by decide) (by decide)))).symm
      have m5719 := m5681.trans (Wr.neI wH5687 (Or.inr (x_apart hKT hts inX10 tyX10 tyX10_ok nmX10 rfl 3 70 (by decide) (by decide) (by decide)))).symm
      have m5720 := m5682.trans (Wr.neI wH5687 (Or.inr (x_apart hKT hts inX10 tyX10 tyX10_ok nmX10 rfl 59 70 (by decide) (by decide) (by decide)))).symm
      have m5721 := m5683.trans (Wr.neI wH5687 (Or.inr (x_apart hKT hts inX10 tyX10 tyX10_ok nmX10 rfl 62 70 (by decide) (by decide) (by decide)))).symm
      have m5722 := m5684.trans (Wr.neI wH5687 (Or.inr (x_apart hKT hts inX10 tyX10 tyX10_ok nmX10 rfl 65 70 (by decide) (by decide) (by decide)))).symm
      have m5723 := (Wr.neI wH5687 (Or.inr (x_apart hKT hts inX10 tyX10 tyX10_ok nmX10 rfl 0 70 (by decide) (by decide) (by decide)))).trans m5685
      have m5724 := m5686.trans (Wr.neI wH5687 (Or.inr (x_apart hKT hts inX10 tyX10 tyX10_ok nmX10 rfl 71 70 (by decide) (by decide) (by decide)))).symm
      have m5725 := Wr.I wH5687
      clear b5655 b5656 b5657 b5658 b5659 b5660 b5661 b5662 b5663 b5664 f5665 g5651 g5652 g5653 g5654 hTH5649 m5666 m5667 m5668 m5669 m5670 m5671 m5672 m5673 m5674 m5675 m5676 m5677 m5678 m5679 m5680 m5681 m5682 m5683 m5684 m5685 m5686 mf5650
      refine lv_aload_n hx hb dX10_image_28 rfl (lv_at hl 0 rfl) ?_
      refine lv_iconst (v := 0) hx hb dX10_image_29 (by decide) ?_
      refine x_put C hTH5687 hSH5687 (ci := 10) (k := 72) (v := .int 0) (ty0 := tyX10) rfl inX10 tyX10_ok nmX10 (by decide) rfl wF_X10_467 ga0 rg_112 rfl rfl (okI (by have := i_rng (0 : Int32); omega) (by have := i_rng (0 : Int32); omega)) rfl rfl (AE_in ga0 (by decide)) dX10_image_30 (fun H5726 locsH5726 hTH5726 hSH5726 wH5726 => ?_)
      have mf5727 : MF K s.heap H5726 a0 [0, 1, 2, 3, 59, 62, 65, 70, 71, 72] := MF.fld hap wH5726 (by decide) (by decide) mf5688
      have g5728 : CG (avw K H5726 a0) := CG.congr (fun k hk j => av_fld hTH5687 ga0 hap wH5726 (by decide) (CG_ok 112 (by decide) k hk) (CG_ne 72 (by decide) k hk)) g5689
      have g5729 : TU (avw K H5726 a0) (svw K H5726 a0) := TU.congr (fun k hk j => av_fld hTH5687 ga0 hap wH5726 (by decide) (TU_ok 112 (by decide) k hk) (TU_ne 72 (by decide) k hk)) (fun k hk => sv_fld hap wH5726 (by decide) (TU_slt k hk) (TU_sne 72 (by decide) k hk)) g5690
      have g5730 : WD (avw K H5726 a0) := WD.congr (fun k hk j => av_fld hTH5687 ga0 hap wH5726 (by decide) (WD_ok 112 (by decide) k hk) (WD_ne 72 (by decide) k hk)) g5691
      have g5731 : IM (avw K H5726 a0) := IM.congr (fun k hk j => av_fld hTH5687 ga0 hap wH5726 (by decide) (IM_ok 112 (by decide) k hk) (IM_ne 72 (by decide) k hk)) g5692
      have b5732 : UN (x1.toInt = 0) (fun k => fI H5726 iq k) (fun k => fI s.heap iq k) := UN.congr (fun j => Wr.neI wH5726 (Or.inl (G_ne giq ga0 (by decide)))) b5693
      have b5733 : UN (x1.toInt ≠ 0) (fun k => fI H5726 q4 k) (fun k => fI s.heap q4 k) := UN.congr (fun j => Wr.neI wH5726 (Or.inl (G_ne gq4 ga0 (by decide)))) b5694
      have b5734 : UN (x1.toInt ≠ 0) (fun k => fI H5726 q16 k) (fun k => fI s.heap q16 k) := UN.congr (fun j => Wr.neI wH5726 (Or.inl (G_ne gq16 ga0 (by decide)))) b5695
      have b5735 : UN (x1.toInt ≠ 0) (fun k => fI H5726 q24 k) (fun k => fI s.heap q24 k) := UN.congr (fun j => Wr.neI wH5726 (Or.inl (G_ne gq24 ga0 (by decide)))) b5696
      have b5736 : UN (x1.toInt ≠ 0) (fun k => fI H5726 q29 k) (fun k => fI s.heap q29 k) := UN.congr (fun j => Wr.neI wH5726 (Or.inl (G_ne gq29 ga0 (by decide)))) b5697
      have b5737 : UN (x1.toInt ≠ 0) (fun k => fI H5726 q30 k) (fun k => fI s.heap q30 k) := UN.congr (fun j => Wr.neI wH5726 (Or.inl (G_ne gq30 ga0 (by decide)))) b5698
      have b5738 : UN (x1.toInt ≠ 0) (fun k => fI H5726 q31 k) (fun k => fI s.heap q31 k) := UN.congr (fun j => Wr.neI wH5726 (Or.inl (G_ne gq31 ga0 (by decide)))) b5699
      have b5739 : UN (x1.toInt ≠ 0) (fun k => fI H5726 q32 k) (fun k => fI s.heap q32 k) := UN.congr (fun j => Wr.neI wH5726 (Or.inl (G_ne gq32 ga0 (by decide)))) b5700
      have b5740 : UN (x1.toInt ≠ 0) (fun k => fI H5726 q33 k) (fun k => fI s.heap q33 k) := UN.congr (fun j => Wr.neI wH5726 (Or.inl (G_ne gq33 ga0 (by decide)))) b5701
      have b5741 : UN (x1.toInt ≠ 0) (fun k => fI H5726 q50 k) (fun k => fI s.heap q50 k) := UN.congr (fun j => Wr.neI wH5726 (Or.inl (G_ne gq50 ga0 (by decide)))) b5702
      have f5742 : ∀ j : Nat, fI H5726 q50 j = fI s.heap q50 j := fun j => (Wr.neI wH5726 (Or.inl (G_ne gq50 ga0 (by decide)))).trans (f5703 j)
      have m5743 := m5704.trans (Wr.neR wH5726 (Or.inr (x_apart hKT hts inX10 tyX10 tyX10_ok nmX10 rfl 73 72 (by decide) (by decide) (by decide)))).symm
      have m5744 := m5705.trans (Wr.neR wH5726 (Or.inr (x_apart hKT hts inX10 tyX10 tyX10_ok nmX10 rfl 4 72 (by decide) (by decide) (by decide)))).symm
      have m5745 := m5706.trans (Wr.neR wH5726 (Or.inr (x_apart hKT hts inX10 tyX10 tyX10_ok nmX10 rfl 10 72 (by decide) (by decide) (by decide)))).symm
      have m5746 := m5707.trans (Wr.neR wH5726 (Or.inr (x_apart hKT hts inX10 tyX10 tyX10_ok nmX10 rfl 16 72 (by decide) (by decide) (by decide)))).symm
      have m5747 := m5708.trans (Wr.neR wH5726 (Or.inr (x_apart hKT hts inX10 tyX10 tyX10_ok nmX10 rfl 24 72 (by decide) (by decide) (by decide)))).symm
      have m5748 := m5709.trans (Wr.neR wH5726 (Or.inr (x_apart hKT hts inX10 tyX10 tyX10_ok nmX10 rfl 27 72 (by decide) (by decide) (by decide)))).symm
      have m5749 := m5710.trans (Wr.neR wH5726 (Or.inr (x_apart hKT hts inX10 tyX10 tyX10_ok nmX10 rfl 29 72 (by decide) (by decide) (by decide)))).symm
      have m5750 := m5711.trans (Wr.neR wH5726 (Or.inr (x_apart hKT hts inX10 tyX10 tyX10_ok nmX10 rfl 30 72 (by decide) (by decide) (by decide)))).symm
      have m5751 := m5712.trans (Wr.neR wH5726 (Or.inr (x_apart hKT hts inX10 tyX10 tyX10_ok nmX10 rfl 31 72 (by decide) (by decide) (by decide)))).symm
      have m5752 := m5713.trans (Wr.neR wH5726 (Or.inr (x_apart hKT hts inX10 tyX10 tyX10_ok nmX10 rfl 32 72 (by decide) (by decide) (by decide)))).symm
      have m5753 := m5714.trans (Wr.neR wH5726 (Or.inr (x_apart hKT hts inX10 tyX10 tyX10_ok nmX10 rfl 33 72 (by decide) (by decide) (by decide)))).symm
      have m5754 := m5715.trans (Wr.neR wH5726 (Or.inr (x_apart hKT hts inX10 tyX10 tyX10_ok nmX10 rfl 50 72 (by decide) (by decide) (by decide)))).symm
      have m5755 := m5717.trans (Wr.neI wH5726 (Or.inr (x_apart hKT hts inX10 tyX10 tyX10_ok nmX10 rfl 1 72 (by decide) (by decide) (by decide)))).symm
      have m5756 := m5718.trans (Wr.neI wH5726 (Or.inr (x_apart hKT hts inX10 tyX10 tyX10_ok nmX10 rfl 2 72 (by decide) (by decide) (by decide)))).symm
      have m5757 := m5719.trans (Wr.neI wH5726 (Or.inr (x_apart hKT hts inX10 tyX10 tyX10_ok nmX10 rfl 3 72 (by decide) (by decide) (by decide)))).symm
      have m5758 := m5720.trans (Wr.neI wH5726 (Or.inr (x_apart hKT hts inX10 tyX10 tyX10_ok nmX10 rfl 59 72 (by decide) (by decide) (by decide)))).symm
      have m5759 := m5721.trans (Wr.neI wH5726 (Or.inr (x_apart hKT hts inX10 tyX10 tyX10_ok nmX10 rfl 62 72 (by decide) (by decide) (by decide)))).symm
      have m5760 := m5722.trans (Wr.neI wH5726 (Or.inr (x_apart hKT hts inX10 tyX10 tyX10_ok nmX10 rfl 65 72 (by decide) (by decide) (by decide)))).symm
      have m5761 := (Wr.neI wH5726 (Or.inr (x_apart hKT hts inX10 tyX10 tyX10_ok nmX10 rfl 0 72 (by decide) (by decide) (by decide)))).trans m5723
      have m5762 := m5724.trans (Wr.neI wH5726 (Or.inr (x_apart hKT hts inX10 tyX10 tyX10_ok nmX10 rfl 71 72 (by decide) (by decide) (by decide)))).symm
      have m5763 := (Wr.neI wH5726 (Or.inr (x_apart hKT hts inX10 tyX10 tyX10_ok nmX10 rfl 70 72 (by decide) (by decide) (by decide)))).trans m5725
      have m5764 := Wr.I wH5726
      clear b5693 b5694 b5695 b5696 b5697 b5698 b5699 b5700 b5701 b5702 f5703 g5689 g5690 g5691 g5692 hTH5687 m5704 m5705 m5706 m5707 m5708 m5709 m5710 m5711 m5712 m5713 m5714 m5715 m5717 m5718 m5719 m5720 m5721 m5722 m5723 m5724 m5725 mf5688
      refine lv_aload_n hx hb dX10_image_33 rfl (lv_at hl 0 rfl) ?_
      refine lv_aload_n hx hb dX10_image_34 rfl (lv_at hl 0 rfl) ?_
      refine lv_aload_n hx hb dX10_image_35 rfl (lv_at hl 0 rfl) ?_
      refine x_gi C hTH5726 (ci := 10) (k := 1) rfl inX10 (by decide) wF_X10_170 ga0 rg_112 rfl dX10_image_36 (fun x5765 ex5765 bx5765 => ?_)
      have ux5765 : s1 = x5765 := (m5755).trans ex5765.symm
      subst ux5765
      refine x_V (As := [.int s1]) (rest := [.ref a0]) C (a_X10_kept l K G H5726 (s1) (0) (x1) hTH5726 ga0 giq m5743 (m5764).symm m5762 g5730 (by and_intros <;> first | assumption | omega)) yo_X10_kept wM_X10_473 ⟨⟨by decide, by decide⟩, by decide, by decide⟩ (x_rv C hTH5726 (ci := 10) rfl ga0 rg_112) rfl hl.1 rfl (Nat.le_of_ble_eq_true rfl) dX10_image_39 hSH5726 (AE_sub (fun _ _ => rfl) (by decide) hSH5726.1) (fun vH5766 H5766 locsH5766 pH5766 zH5766 kH5766 hSH5766 => ?_)
      obtain ⟨x5767, x5768, hvH5766, ex5768, hrH5766, m5769, g5770, mf5771, m5772, m5773, m5774, m5775, hTH5766⟩ := pH5766
      subst hvH5766
      clear zH5766
      replace m5769 := EQN.mk m5769
      have b5776 : UN (x1.toInt ≠ 0) (fun k => fI H5766 q4 k) (fun k => fI s.heap q4 k) := UN.congr (fun j => fI_kept (x_lt hTH5726 kH5766 gq4 (by decide))) b5733
      have b5777 : UN (x1.toInt ≠ 0) (fun k => fI H5766 q16 k) (fun k => fI s.heap q16 k) := UN.congr (fun j => fI_kept (x_lt hTH5726 kH5766 gq16 (by decide))) b5734
      have b5778 : UN (x1.toInt ≠ 0) (fun k => fI H5766 q24 k) (fun k => fI s.heap q24 k) := UN.congr (fun j => fI_kept (x_lt hTH5726 kH5766 gq24 (by decide))) b5735
      have b5779 : UN (x1.toInt ≠ 0) (fun k => fI H5766 q29 k) (fun k => fI s.heap q29 k) := UN.congr (fun j => fI_kept (x_lt hTH5726 kH5766 gq29 (by decide))) b5736
      have b5780 : UN (x1.toInt ≠ 0) (fun k => fI H5766 q30 k) (fun k => fI s.heap q30 k) := UN.congr (fun j => fI_kept (x_lt hTH5726 kH5766 gq30 (by decide))) b5737
      have b5781 : UN (x1.toInt ≠ 0) (fun k => fI H5766 q31 k) (fun k => fI s.heap q31 k) := UN.congr (fun j => fI_kept (x_lt hTH5726 kH5766 gq31 (by decide))) b5738
      have b5782 : UN (x1.toInt ≠ 0) (fun k => fI H5766 q32 k) (fun k => fI s.heap q32 k) := UN.congr (fun j => fI_kept (x_lt hTH5726 kH5766 gq32 (by decide))) b5739
      have b5783 : UN (x1.toInt ≠ 0) (fun k => fI H5766 q33 k) (fun k => fI s.heap q33 k) := UN.congr (fun j => fI_kept (x_lt hTH5726 kH5766 gq33 (by decide))) b5740
      have b5784 : UN (x1.toInt ≠ 0) (fun k => fI H5766 q50 k) (fun k => fI s.heap q50 k) := UN.congr (fun j => fI_kept (x_lt hTH5726 kH5766 gq50 (by decide))) b5741
      have f5785 : ∀ j : Nat, fI H5766 q50 j = fI s.heap q50 j := fun j => (fI_kept (x_lt hTH5726 kH5766 gq50 (by decide))).trans (f5742 j)
      have m5786 := (m5743).trans (MF.r mf5771 (k := 73) (by decide) (by decide)).symm
      have m5787 := (m5744).trans (MF.r mf5771 (k := 4) (by decide) (by decide)).symm
      have m5788 := (m5745).trans (MF.r mf5771 (k := 10) (by decide) (by decide)).symm
      have m5789 := (m5746).trans (MF.r mf5771 (k := 16) (by decide) (by decide)).symm
      have m5790 := (m5747).trans (MF.r mf5771 (k := 24) (by decide) (by decide)).symm
      have m5791 := (m5748).trans (MF.r mf5771 (k := 27) (by decide) (by decide)).symm
      have m5792 := (m5749).trans (MF.r mf5771 (k := 29) (by decide) (by decide)).symm
      have m5793 := (m5750).trans (MF.r mf5771 (k := 30) (by decide) (by decide)).symm
      have m5794 := (m5751).trans (MF.r mf5771 (k := 31) (by decide) (by decide)).symm
      have m5795 := (m5752).trans (MF.r mf5771 (k := 32) (by decide) (by decide)).symm
      have m5796 := (m5753).trans (MF.r mf5771 (k := 33) (by decide) (by decide)).symm
      have m5797 := (m5754).trans (MF.r mf5771 (k := 50) (by decide) (by decide)).symm
      have m5798 := (m5755).trans (MF.i mf5771 (k := 1) (by decide) (by decide)).symm
      have m5799 := (m5756).trans (MF.i mf5771 (k := 2) (by decide) (by decide)).symm
      have m5800 := (m5757).trans (MF.i mf5771 (k := 3) (by decide) (by decide)).symm
      have m5801 := (m5758).trans (MF.i mf5771 (k := 59) (by decide) (by decide)).symm
      have m5802 := (m5759).trans (MF.i mf5771 (k := 62) (by decide) (by decide)).symm
      have m5803 := (m5760).trans (MF.i mf5771 (k := 65) (by decide) (by decide)).symm
      have m5804 := (MF.i mf5771 (k := 0) (by decide) (by decide)).trans m5761
      have m5805 := (m5762).trans (MF.i mf5771 (k := 71) (by decide) (by decide)).symm
      have m5806 := (MF.i mf5771 (k := 70) (by decide) (by decide)).trans m5763
      have mf5807 : MF K s.heap H5766 a0 [0, 1, 2, 3, 59, 62, 65, 70, 71, 72] := MF.trans mf5727 mf5771 (by decide)
      have bx5768 := ty_fi (x := x5768) (k := 72) ex5768 hTH5766 ga0 rg_112 rfl
      have ce_k0 : (0 : Int32).toNatClampNeg = 0 := rfl
      have b5808 : UN (x1.toInt = 0) (fun k => fI H5766 iq k) (fun k => fI s.heap iq k) := UN.tr m5775 b5732
      clear b5732 b5733 b5734 b5735 b5736 b5737 b5738 b5739 b5740 b5741 m5743 m5744 m5745 m5746 m5747 m5748 m5749 m5750 m5751 m5752 m5753 m5754 m5755 m5756 m5757 m5758 m5759 m5760 m5761 m5762 m5763 m5764
      clear m5774 m5775
      have bx5767 : 0 ≤ x5767.toInt ∧ x5767.toInt ≤ 10 := kr (fun h0 => by have hiw := hIW; exact kr0 (w := fun k => fI H5766 iq k) m5772 (p := 0) (by omega) (b5808 h0) (hiw.1.1)) m5773 (by omega)
      have p5809 : x5767 = fI H5766 iq (0) := by have h := m5772; rw [show (0 : Int32).toNatClampNeg = 0 by omega] at h; exact h
      refine W.eq (g2 := F0 m 42 ls [.int x5767, .ref a0]) rfl ?_
      refine x_put C hTH5766 hSH5766 (ci := 10) (k := 1) (v := .int x5767) (ty0 := tyX10) rfl inX10 tyX10_ok nmX10 (by decide) rfl wF_X10_170 ga0 rg_112 rfl rfl (okI (by have := i_rng x5767; omega) (by have := i_rng x5767; omega)) rfl rfl (AE_in ga0 (by decide)) dX10_image_42 (fun H5810 locsH5810 hTH5810 hSH5810 wH5810 => ?_)
      have mf5811 : MF K s.heap H5810 a0 [0, 1, 2, 3, 59, 62, 65, 70, 71, 72] := MF.fld hap wH5810 (by decide) (by decide) mf5807
      have g5812 : WD (avw K H5810 a0) := WD.congr (fun k hk j => av_fld hTH5766 ga0 hap wH5810 (by decide) (WD_ok 112 (by decide) k hk) (WD_ne 1 (by decide) k hk)) g5770
      have b5813 : UN (x1.toInt ≠ 0) (fun k => fI H5810 q4 k) (fun k => fI s.heap q4 k) := UN.congr (fun j => Wr.neI wH5810 (Or.inl (G_ne gq4 ga0 (by decide)))) b5776
      have b5814 : UN (x1.toInt ≠ 0) (fun k => fI H5810 q16 k) (fun k => fI s.heap q16 k) := UN.congr (fun j => Wr.neI wH5810 (Or.inl (G_ne gq16 ga0 (by decide)))) b5777
      have b5815 : UN (x1.toInt ≠ 0) (fun k => fI H5810 q24 k) (fun k => fI s.heap q24 k) := UN.congr (fun j => Wr.neI wH5810 (Or.inl (G_ne gq24 ga0 (by decide)))) b5778
      have b5816 : UN (x1.toInt ≠ 0) (fun k => fI H5810 q29 k) (fun k => fI s.heap q29 k) := UN.congr (fun j => Wr.neI wH5810 (Or.inl (G_ne gq29 ga0 (by decide)))) b5779
      have b5817 : UN (x1.toInt ≠ 0) (fun k => fI H5810 q30 k) (fun k => fI s.heap q30 k) := UN.congr (fun j => Wr.neI wH5810 (Or.inl (G_ne gq30 ga0 (by decide)))) b5780
      have b5818 : UN (x1.toInt ≠ 0) (fun k => fI H5810 q31 k) (fun k => fI s.heap q31 k) := UN.congr (fun j => Wr.neI wH5810 (Or.inl (G_ne gq31 ga0 (by decide)))) b5781
      have b5819 : UN (x1.toInt ≠ 0) (fun k => fI H5810 q32 k) (fun k => fI s.heap q32 k) := UN.congr (fun j => Wr.neI wH5810 (Or.inl (G_ne gq32 ga0 (by decide)))) b5782
      have b5820 : UN (x1.toInt ≠ 0) (fun k => fI H5810 q33 k) (fun k => fI s.heap q33 k) := UN.congr (fun j => Wr.neI wH5810 (Or.inl (G_ne gq33 ga0 (by decide)))) b5783
      have b5821 : UN (x1.toInt ≠ 0) (fun k => fI H5810 q50 k) (fun k => fI s.heap q50 k) := UN.congr (fun j => Wr.neI wH5810 (Or.inl (G_ne gq50 ga0 (by decide)))) b5784
      have b5822 : UN (x1.toInt = 0) (fun k => fI H5810 iq k) (fun k => fI s.heap iq k) := UN.congr (fun j => Wr.neI wH5810 (Or.inl (G_ne giq ga0 (by decide)))) b5808
      have b5823 : x5767 = fI H5810 iq (0) := (p5809).trans (Wr.neI wH5810 (Or.inl (G_ne giq ga0 (by decide)))).symm
      have f5824 : ∀ j : Nat, fI H5810 q50 j = fI s.heap q50 j := fun j => (Wr.neI wH5810 (Or.inl (G_ne gq50 ga0 (by decide)))).trans (f5785 j)
      have m5825 := m5769.trans (Wr.neR wH5810 (Or.inr (x_apart hKT hts inX10 tyX10 tyX10_ok nmX10 rfl 73 1 (by decide) (by decide) (by decide)))).symm
      have m5826 := m5787.trans (Wr.neR wH5810 (Or.inr (x_apart hKT hts inX10 tyX10 tyX10_ok nmX10 rfl 4 1 (by decide) (by decide) (by decide)))).symm
      have m5827 := m5788.trans (Wr.neR wH5810 (Or.inr (x_apart hKT hts inX10 tyX10 tyX10_ok nmX10 rfl 10 1 (by decide) (by decide) (by decide)))).symm
      have m5828 := m5789.trans (Wr.neR wH5810 (Or.inr (x_apart hKT hts inX10 tyX10 tyX10_ok nmX10 rfl 16 1 (by decide) (by decide) (by decide)))).symm
      have m5829 := m5790.trans (Wr.neR wH5810 (Or.inr (x_apart hKT hts inX10 tyX10 tyX10_ok nmX10 rfl 24 1 (by decide) (by decide) (by decide)))).symm
      have m5830 := m5791.trans (Wr.neR wH5810 (Or.inr (x_apart hKT hts inX10 tyX10 tyX10_ok nmX10 rfl 27 1 (by decide) (by decide) (by decide)))).symm
      have m5831 := m5792.trans (Wr.neR wH5810 (Or.inr (x_apart hKT hts inX10 tyX10 tyX10_ok nmX10 rfl 29 1 (by decide) (by decide) (by decide)))).symm
      have m5832 := m5793.trans (Wr.neR wH5810 (Or.inr (x_apart hKT hts inX10 tyX10 tyX10_ok nmX10 rfl 30 1 (by decide) (by decide) (by decide)))).symm
      have m5833 := m5794.trans (Wr.neR wH5810 (Or.inr (x_apart hKT hts inX10 tyX10 tyX10_ok nmX10 rfl 31 1 (by decide) (by decide) (by decide)))).symm
      have m5834 := m5795.trans (Wr.neR wH5810 (Or.inr (x_apart hKT hts inX10 tyX10 tyX10_ok nmX10 rfl 32 1 (by decide) (by decide) (by decide)))).symm
      have m5835 := m5796.trans (Wr.neR wH5810 (Or.inr (x_apart hKT hts inX10 tyX10 tyX10_ok nmX10 rfl 33 1 (by decide) (by decide) (by decide)))).symm
      have m5836 := m5797.trans (Wr.neR wH5810 (Or.inr (x_apart hKT hts inX10 tyX10 tyX10_ok nmX10 rfl 50 1 (by decide) (by decide) (by decide)))).symm
      have m5838 := m5799.trans (Wr.neI wH5810 (Or.inr (x_apart hKT hts inX10 tyX10 tyX10_ok nmX10 rfl 2 1 (by decide) (by decide) (by decide)))).symm
      have m5839 := m5800.trans (Wr.neI wH5810 (Or.inr (x_apart hKT hts inX10 tyX10 tyX10_ok nmX10 rfl 3 1 (by decide) (by decide) (by decide)))).symm
      have m5840 := m5801.trans (Wr.neI wH5810 (Or.inr (x_apart hKT hts inX10 tyX10 tyX10_ok nmX10 rfl 59 1 (by decide) (by decide) (by decide)))).symm
      have m5841 := m5802.trans (Wr.neI wH5810 (Or.inr (x_apart hKT hts inX10 tyX10 tyX10_ok nmX10 rfl 62 1 (by decide) (by decide) (by decide)))).symm
      have m5842 := m5803.trans (Wr.neI wH5810 (Or.inr (x_apart hKT hts inX10 tyX10 tyX10_ok nmX10 rfl 65 1 (by decide) (by decide) (by decide)))).symm
      have m5843 := (Wr.neI wH5810 (Or.inr (x_apart hKT hts inX10 tyX10 tyX10_ok nmX10 rfl 0 1 (by decide) (by decide) (by decide)))).trans m5804
      have m5844 := m5805.trans (Wr.neI wH5810 (Or.inr (x_apart hKT hts inX10 tyX10 tyX10_ok nmX10 rfl 71 1 (by decide) (by decide) (by decide)))).symm
      have m5845 := (Wr.neI wH5810 (Or.inr (x_apart hKT hts inX10 tyX10 tyX10_ok nmX10 rfl 70 1 (by decide) (by decide) (by decide)))).trans m5806
      have m5846 := ex5768.trans (Wr.neI wH5810 (Or.inr (x_apart hKT hts inX10 tyX10 tyX10_ok nmX10 rfl 72 1 (by decide) (by decide) (by decide)))).symm
      have m5847 := Wr.I wH5810
      have m5847 := m5847.symm
      clear b5776 b5777 b5778 b5779 b5780 b5781 b5782 b5783 b5784 b5808 ex5768 f5785 g5770 hTH5766 m5769 m5787 m5788 m5789 m5790 m5791 m5792 m5793 m5794 m5795 m5796 m5797 m5798 m5799 m5800 m5801 m5802 m5803 m5804 m5805 m5806 mf5807 p5809
      refine lv_aload_n hx hb dX10_image_45 rfl (lv_at hl 0 rfl) ?_
      refine lv_aload_n hx hb dX10_image_46 rfl (lv_at hl 0 rfl) ?_
      refine lv_aload_n hx hb dX10_image_47 rfl (lv_at hl 0 rfl) ?_
      refine x_gi C hTH5810 (ci := 10) (k := 2) rfl inX10 (by decide) wF_X10_322 ga0 rg_112 rfl dX10_image_48 (fun x5848 ex5848 bx5848 => ?_)
      have ux5848 : s2 = x5848 := (m5838).trans ex5848.symm
      subst ux5848
      refine x_V (As := [.int s2]) (rest := [.ref a0]) C (a_X10_kept l K G H5810 (s2) (x5768) (x1) hTH5810 ga0 giq m5825 m5846 m5844 g5812 (by and_intros <;> first | assumption | omega)) yo_X10_kept wM_X10_473 ⟨⟨by decide, by decide⟩, by decide, by decide⟩ (x_rv C hTH5810 (ci := 10) rfl ga0 rg_112) rfl hl.1 rfl (Nat.le_of_ble_eq_true rfl) dX10_image_51 hSH5810 (AE_sub (fun _ _ => rfl) (by decide) hSH5810.1) (fun vH5849 H5849 locsH5849 pH5849 zH5849 kH5849 hSH5849 => ?_)
      obtain ⟨x5850, x5851, hvH5849, ex5851, hrH5849, m5852, g5853, mf5854, m5855, m5856, m5857, m5858, hTH5849⟩ := pH5849
      subst hvH5849
      clear zH5849
      replace m5852 := EQN.mk m5852
      have b5859 : UN (x1.toInt ≠ 0) (fun k => fI H5849 q4 k) (fun k => fI s.heap q4 k) := UN.congr (fun j => fI_kept (x_lt hTH5810 kH5849 gq4 (by decide))) b5813
      have b5860 : UN (x1.toInt ≠ 0) (fun k => fI H5849 q16 k) (fun k => fI s.heap q16 k) := UN.congr (fun j => fI_kept (x_lt hTH5810 kH5849 gq16 (by decide))) b5814
      have b5861 : UN (x1.toInt ≠ 0) (fun k => fI H5849 q24 k) (fun k => fI s.heap q24 k) := UN.congr (fun j => fI_kept (x_lt hTH5810 kH5849 gq24 (by decide))) b5815
      have b5862 : UN (x1.toInt ≠ 0) (fun k => fI H5849 q29 k) (fun k => fI s.heap q29 k) := UN.congr (fun j => fI_kept (x_lt hTH5810 kH5849 gq29 (by decide))) b5816
      have b5863 : UN (x1.toInt ≠ 0) (fun k => fI H5849 q30 k) (fun k => fI s.heap q30 k) := UN.congr (fun j => fI_kept (x_lt hTH5810 kH5849 gq30 (by decide))) b5817
      have b5864 : UN (x1.toInt ≠ 0) (fun k => fI H5849 q31 k) (fun k => fI s.heap q31 k) := UN.congr (fun j => fI_kept (x_lt hTH5810 kH5849 gq31 (by decide))) b5818
      have b5865 : UN (x1.toInt ≠ 0) (fun k => fI H5849 q32 k) (fun k => fI s.heap q32 k) := UN.congr (fun j => fI_kept (x_lt hTH5810 kH5849 gq32 (by decide))) b5819
      have b5866 : UN (x1.toInt ≠ 0) (fun k => fI H5849 q33 k) (fun k => fI s.heap q33 k) := UN.congr (fun j => fI_kept (x_lt hTH5810 kH5849 gq33 (by decide))) b5820
      have b5867 : UN (x1.toInt ≠ 0) (fun k => fI H5849 q50 k) (fun k => fI s.heap q50 k) := UN.congr (fun j => fI_kept (x_lt hTH5810 kH5849 gq50 (by decide))) b5821
      have f5868 : ∀ j : Nat, fI H5849 q50 j = fI s.heap q50 j := fun j => (fI_kept (x_lt hTH5810 kH5849 gq50 (by decide))).trans (f5824 j)
      have m5869 := (m5825).trans (MF.r mf5854 (k := 73) (by decide) (by decide)).symm
      have m5870 := (m5826).trans (MF.r mf5854 (k := 4) (by decide) (by decide)).symm
      have m5871 := (m5827).trans (MF.r mf5854 (k := 10) (by decide) (by decide)).symm
      have m5872 := (m5828).trans (MF.r mf5854 (k := 16) (by decide) (by decide)).symm
      have m5873 := (m5829).trans (MF.r mf5854 (k := 24) (by decide) (by decide)).symm
      have m5874 := (m5830).trans (MF.r mf5854 (k := 27) (by decide) (by decide)).symm
      have m5875 := (m5831).trans (MF.r mf5854 (k := 29) (by decide) (by decide)).symm
      have m5876 := (m5832).trans (MF.r mf5854 (k := 30) (by decide) (by decide)).symm
      have m5877 := (m5833).trans (MF.r mf5854 (k := 31) (by decide) (by decide)).symm
      have m5878 := (m5834).trans (MF.r mf5854 (k := 32) (by decide) (by decide)).symm
      have m5879 := (m5835).trans (MF.r mf5854 (k := 33) (by decide) (by decide)).symm
      have m5880 := (m5836).trans (MF.r mf5854 (k := 50) (by decide) (by decide)).symm
      have m5881 := (m5838).trans (MF.i mf5854 (k := 2) (by decide) (by decide)).symm
      have m5882 := (m5839).trans (MF.i mf5854 (k := 3) (by decide) (by decide)).symm
      have m5883 := (m5840).trans (MF.i mf5854 (k := 59) (by decide) (by decide)).symm
      have m5884 := (m5841).trans (MF.i mf5854 (k := 62) (by decide) (by decide)).symm
      have m5885 := (m5842).trans (MF.i mf5854 (k := 65) (by decide) (by decide)).symm
      have m5886 := (MF.i mf5854 (k := 0) (by decide) (by decide)).trans m5843
      have m5887 := (m5844).trans (MF.i mf5854 (k := 71) (by decide) (by decide)).symm
      have m5888 := (MF.i mf5854 (k := 70) (by decide) (by decide)).trans m5845
      have m5889 := (m5847).trans (MF.i mf5854 (k := 1) (by decide) (by decide)).symm
      have mf5890 : MF K s.heap H5849 a0 [0, 1, 2, 3, 59, 62, 65, 70, 71, 72] := MF.trans mf5811 mf5854 (by decide)
      have bx5851 := ty_fi (x := x5851) (k := 72) ex5851 hTH5849 ga0 rg_112 rfl
      have ce_x5768 := i_cl (x := x5768) (by omega)
      have b5891 : UN (x1.toInt = 0) (fun k => fI H5849 iq k) (fun k => fI s.heap iq k) := UN.tr m5858 b5822
      have b5892 : x5767 = fI H5849 iq (0) := (b5823).trans (m5857 _ (by omega)).symm
      clear b5813 b5814 b5815 b5816 b5817 b5818 b5819 b5820 b5821 b5822 b5823 m5825 m5826 m5827 m5828 m5829 m5830 m5831 m5832 m5833 m5834 m5835 m5836 m5838 m5839 m5840 m5841 m5842 m5843 m5844 m5845 m5846 m5847
      clear m5857 m5858
      have bx5850 : 0 ≤ x5850.toInt ∧ x5850.toInt ≤ 1 := kr (fun h0 => by have hiw := hIW; exact kr0 (w := fun k => fI H5849 iq k) m5855 (p := 1) (by omega) (b5891 h0) (hiw.1.2.1)) m5856 (by omega)
      have p5893 : x5850 = fI H5849 iq (1) := by have h := m5855; rw [show x5768.toNatClampNeg = 1 by omega] at h; exact h
      refine W.eq (g2 := F0 m 54 ls [.int x5850, .ref a0]) rfl ?_
      refine x_put C hTH5849 hSH5849 (ci := 10) (k := 2) (v := .int x5850) (ty0 := tyX10) rfl inX10 tyX10_ok nmX10 (by decide) rfl wF_X10_322 ga0 rg_112 rfl rfl (okI (by have := i_rng x5850; omega) (by have := i_rng x5850; omega)) rfl rfl (AE_in ga0 (by decide)) dX10_image_54 (fun H5894 locsH5894 hTH5894 hSH5894 wH5894 => ?_)
      have mf5895 : MF K s.heap H5894 a0 [0, 1, 2, 3, 59, 62, 65, 70, 71, 72] := MF.fld hap wH5894 (by decide) (by decide) mf5890
      have g5896 : WD (avw K H5894 a0) := WD.congr (fun k hk j => av_fld hTH5849 ga0 hap wH5894 (by decide) (WD_ok 112 (by decide) k hk) (WD_ne 2 (by decide) k hk)) g5853
      have b5897 : UN (x1.toInt ≠ 0) (fun k => fI H5894 q4 k) (fun k => fI s.heap q4 k) := UN.congr (fun j => Wr.neI wH5894 (Or.inl (G_ne gq4 ga0 (by decide)))) b5859
      have b5898 : UN (x1.toInt ≠ 0) (fun k => fI H5894 q16 k) (fun k => fI s.heap q16 k) := UN.congr (fun j => Wr.neI wH5894 (Or.inl (G_ne gq16 ga0 (by decide)))) b5860
      have b5899 : UN (x1.toInt ≠ 0) (fun k => fI H5894 q24 k) (fun k => fI s.heap q24 k) := UN.congr (fun j => Wr.neI wH5894 (Or.inl (G_ne gq24 ga0 (by decide)))) b5861
      have b5900 : UN (x1.toInt ≠ 0) (fun k => fI H5894 q29 k) (fun k => fI s.heap q29 k) := UN.congr (fun j => Wr.neI wH5894 (Or.inl (G_ne gq29 ga0 (by decide)))) b5862
      have b5901 : UN (x1.toInt ≠ 0) (fun k => fI H5894 q30 k) (fun k => fI s.heap q30 k) := UN.congr (fun j => Wr.neI wH5894 (Or.inl (G_ne gq30 ga0 (by decide)))) b5863
      have b5902 : UN (x1.toInt ≠ 0) (fun k => fI H5894 q31 k) (fun k => fI s.heap q31 k) := UN.congr (fun j => Wr.neI wH5894 (Or.inl (G_ne gq31 ga0 (by decide)))) b5864
      have b5903 : UN (x1.toInt ≠ 0) (fun k => fI H5894 q32 k) (fun k => fI s.heap q32 k) := UN.congr (fun j => Wr.neI wH5894 (Or.inl (G_ne gq32 ga0 (by decide)))) b5865
      have b5904 : UN (x1.toInt ≠ 0) (fun k => fI H5894 q33 k) (fun k => fI s.heap q33 k) := UN.congr (fun j => Wr.neI wH5894 (Or.inl (G_ne gq33 ga0 (by decide)))) b5866
      have b5905 : UN (x1.toInt ≠ 0) (fun k => fI H5894 q50 k) (fun k => fI s.heap q50 k) := UN.congr (fun j => Wr.neI wH5894 (Or.inl (G_ne gq50 ga0 (by decide)))) b5867
      have b5906 : UN (x1.toInt = 0) (fun k => fI H5894 iq k) (fun k => fI s.heap iq k) := UN.congr (fun j => Wr.neI wH5894 (Or.inl (G_ne giq ga0 (by decide)))) b5891
      have b5907 : x5767 = fI H5894 iq (0) := (b5892).trans (Wr.neI wH5894 (Or.inl (G_ne giq ga0 (by decide)))).symm
      have b5908 : x5850 = fI H5894 iq (1) := (p5893).trans (Wr.neI wH5894 (Or.inl (G_ne giq ga0 (by decide)))).symm
      have f5909 : ∀ j : Nat, fI H5894 q50 j = fI s.heap q50 j := fun j => (Wr.neI wH5894 (Or.inl (G_ne gq50 ga0 (by decide)))).trans (f5868 j)
      have m5910 := m5852.trans (Wr.neR wH5894 (Or.inr (x_apart hKT hts inX10 tyX10 tyX10_ok nmX10 rfl 73 2 (by decide) (by decide) (by decide)))).symm
      have m5911 := m5870.trans (Wr.neR wH5894 (Or.inr (x_apart hKT hts inX10 tyX10 tyX10_ok nmX10 rfl 4 2 (by decide) (by decide) (by decide)))).symm
      have m5912 := m5871.trans (Wr.neR wH5894 (Or.inr (x_apart hKT hts inX10 tyX10 tyX10_ok nmX10 rfl 10 2 (by decide) (by decide) (by decide)))).symm
      have m5913 := m5872.trans (Wr.neR wH5894 (Or.inr (x_apart hKT hts inX10 tyX10 tyX10_ok nmX10 rfl 16 2 (by decide) (by decide) (by decide)))).symm
      have m5914 := m5873.trans (Wr.neR wH5894 (Or.inr (x_apart hKT hts inX10 tyX10 tyX10_ok nmX10 rfl 24 2 (by decide) (by decide) (by decide)))).symm
      have m5915 := m5874.trans (Wr.neR wH5894 (Or.inr (x_apart hKT hts inX10 tyX10 tyX10_ok nmX10 rfl 27 2 (by decide) (by decide) (by decide)))).symm
      have m5916 := m5875.trans (Wr.neR wH5894 (Or.inr (x_apart hKT hts inX10 tyX10 tyX10_ok nmX10 rfl 29 2 (by decide) (by decide) (by decide)))).symm
      have m5917 := m5876.trans (Wr.neR wH5894 (Or.inr (x_apart hKT hts inX10 tyX10 tyX10_ok nmX10 rfl 30 2 (by decide) (by decide) (by decide)))).symm
      have m5918 := m5877.trans (Wr.neR wH5894 (Or.inr (x_apart hKT hts inX10 tyX10 tyX10_ok nmX10 rfl 31 2 (by decide) (by decide) (by decide)))).symm
      have m5919 := m5878.trans (Wr.neR wH5894 (Or.inr (x_apart hKT hts inX10 tyX10 tyX10_ok nmX10 rfl 32 2 (by decide) (by decide) (by decide)))).symm
      have m5920 := m5879.trans (Wr.neR wH5894 (Or.inr (x_apart hKT hts inX10 tyX10 tyX10_ok nmX10 rfl 33 2 (by decide) (by decide) (by decide)))).symm
      have m5921 := m5880.trans (Wr.neR wH5894 (Or.inr (x_apart hKT hts inX10 tyX10 tyX10_ok nmX10 rfl 50 2 (by decide) (by decide) (by decide)))).symm
      have m5923 := m5882.trans (Wr.neI wH5894 (Or.inr (x_apart hKT hts inX10 tyX10 tyX10_ok nmX10 rfl 3 2 (by decide) (by decide) (by decide)))).symm
      have m5924 := m5883.trans (Wr.neI wH5894 (Or.inr (x_apart hKT hts inX10 tyX10 tyX10_ok nmX10 rfl 59 2 (by decide) (by decide) (by decide)))).symm
      have m5925 := m5884.trans (Wr.neI wH5894 (Or.inr (x_apart hKT hts inX10 tyX10 tyX10_ok nmX10 rfl 62 2 (by decide) (by decide) (by decide)))).symm
      have m5926 := m5885.trans (Wr.neI wH5894 (Or.inr (x_apart hKT hts inX10 tyX10 tyX10_ok nmX10 rfl 65 2 (by decide) (by decide) (by decide)))).symm
      have m5927 := (Wr.neI wH5894 (Or.inr (x_apart hKT hts inX10 tyX10 tyX10_ok nmX10 rfl 0 2 (by decide) (by decide) (by decide)))).trans m5886
      have m5928 := m5887.trans (Wr.neI wH5894 (Or.inr (x_apart hKT hts inX10 tyX10 tyX10_ok nmX10 rfl 71 2 (by decide) (by decide) (by decide)))).symm
      have m5929 := (Wr.neI wH5894 (Or.inr (x_apart hKT hts inX10 tyX10 tyX10_ok nmX10 rfl 70 2 (by decide) (by decide) (by decide)))).trans m5888
      have m5930 := m5889.trans (Wr.neI wH5894 (Or.inr (x_apart hKT hts inX10 tyX10 tyX10_ok nmX10 rfl 1 2 (by decide) (by decide) (by decide)))).symm
      have m5931 := ex5851.trans (Wr.neI wH5894 (Or.inr (x_apart hKT hts inX10 tyX10 tyX10_ok nmX10 rfl 72 2 (by decide) (by decide) (by decide)))).symm
      have m5932 := Wr.I wH5894
      have m5932 := m5932.symm
      clear b5859 b5860 b5861 b5862 b5863 b5864 b5865 b5866 b5867 b5891 b5892 ex5851 f5868 g5853 hTH5849 m5852 m5870 m5871 m5872 m5873 m5874 m5875 m5876 m5877 m5878 m5879 m5880 m5881 m5882 m5883 m5884 m5885 m5886 m5887 m5888 m5889 mf5890 p5893
      refine lv_aload_n hx hb dX10_image_57 rfl (lv_at hl 0 rfl) ?_
      refine lv_aload_n hx hb dX10_image_58 rfl (lv_at hl 0 rfl) ?_
      refine lv_aload_n hx hb dX10_image_59 rfl (lv_at hl 0 rfl) ?_
      refine x_gi C hTH5894 (ci := 10) (k := 3) rfl inX10 (by decide) wF_X10_7 ga0 rg_112 rfl dX10_image_60 (fun x5933 ex5933 bx5933 => ?_)
      have ux5933 : s3 = x5933 := (m5923).trans ex5933.symm
      subst ux5933
      refine x_V (As := [.int s3]) (rest := [.ref a0]) C (a_X10_kept l K G H5894 (s3) (x5851) (x1) hTH5894 ga0 giq m5910 m5931 m5928 g5896 (by and_intros <;> first | assumption | omega)) yo_X10_kept wM_X10_473 ⟨⟨by decide, by decide⟩, by decide, by decide⟩ (x_rv C hTH5894 (ci := 10) rfl ga0 rg_112) rfl hl.1 rfl (Nat.le_of_ble_eq_true rfl) dX10_image_63 hSH5894 (AE_sub (fun _ _ => rfl) (by decide) hSH5894.1) (fun vH5934 H5934 locsH5934 pH5934 zH5934 kH5934 hSH5934 => ?_)
      obtain ⟨x5935, x5936, hvH5934, ex5936, hrH5934, m5937, g5938, mf5939, m5940, m5941, m5942, m5943, hTH5934⟩ := pH5934
      subst hvH5934
      clear zH5934
      replace m5937 := EQN.mk m5937
      have b5944 : UN (x1.toInt ≠ 0) (fun k => fI H5934 q4 k) (fun k => fI s.heap q4 k) := UN.congr (fun j => fI_kept (x_lt hTH5894 kH5934 gq4 (by decide))) b5897
      have b5945 : UN (x1.toInt ≠ 0) (fun k => fI H5934 q16 k) (fun k => fI s.heap q16 k) := UN.congr (fun j => fI_kept (x_lt hTH5894 kH5934 gq16 (by decide))) b5898
      have b5946 : UN (x1.toInt ≠ 0) (fun k => fI H5934 q24 k) (fun k => fI s.heap q24 k) := UN.congr (fun j => fI_kept (x_lt hTH5894 kH5934 gq24 (by decide))) b5899
      have b5947 : UN (x1.toInt ≠ 0) (fun k => fI H5934 q29 k) (fun k => fI s.heap q29 k) := UN.congr (fun j => fI_kept (x_lt hTH5894 kH5934 gq29 (by decide))) b5900
      have b5948 : UN (x1.toInt ≠ 0) (fun k => fI H5934 q30 k) (fun k => fI s.heap q30 k) := UN.congr (fun j => fI_kept (x_lt hTH5894 kH5934 gq30 (by decide))) b5901
      have b5949 : UN (x1.toInt ≠ 0) (fun k => fI H5934 q31 k) (fun k => fI s.heap q31 k) := UN.congr (fun j => fI_kept (x_lt hTH5894 kH5934 gq31 (by decide))) b5902
      have b5950 : UN (x1.toInt ≠ 0) (fun k => fI H5934 q32 k) (fun k => fI s.heap q32 k) := UN.congr (fun j => fI_kept (x_lt hTH5894 kH5934 gq32 (by decide))) b5903
      have b5951 : UN (x1.toInt ≠ 0) (fun k => fI H5934 q33 k) (fun k => fI s.heap q33 k) := UN.congr (fun j => fI_kept (x_lt hTH5894 kH5934 gq33 (by decide))) b5904
      have b5952 : UN (x1.toInt ≠ 0) (fun k => fI H5934 q50 k) (fun k => fI s.heap q50 k) := UN.congr (fun j => fI_kept (x_lt hTH5894 kH5934 gq50 (by decide))) b5905
      have f5953 : ∀ j : Nat, fI H5934 q50 j = fI s.heap q50 j := fun j => (fI_kept (x_lt hTH5894 kH5934 gq50 (by decide))).trans (f5909 j)
      have m5954 := (m5910).trans (MF.r mf5939 (k := 73) (by decide) (by decide)).symm
      have m5955 := (m5911).trans (MF.r mf5939 (k := 4) (by decide) (by decide)).symm
      have m5956 := (m5912).trans (MF.r mf5939 (k := 10) (by decide) (by decide)).symm
      have m5957 := (m5913).trans (MF.r mf5939 (k := 16) (by decide) (by decide)).symm
      have m5958 := (m5914).trans (MF.r mf5939 (k := 24) (by decide) (by decide)).symm
      have m5959 := (m5915).trans (MF.r mf5939 (k := 27) (by decide) (by decide)).symm
      have m5960 := (m5916).trans (MF.r mf5939 (k := 29) (by decide) (by decide)).symm
      have m5961 := (m5917).trans (MF.r mf5939 (k := 30) (by decide) (by decide)).symm
      have m5962 := (m5918).trans (MF.r mf5939 (k := 31) (by decide) (by decide)).symm
      have m5963 := (m5919).trans (MF.r mf5939 (k := 32) (by decide) (by decide)).symm
      have m5964 := (m5920).trans (MF.r mf5939 (k := 33) (by decide) (by decide)).symm
      have m5965 := (m5921).trans (MF.r mf5939 (k := 50) (by decide) (by decide)).symm
      have m5966 := (m5923).trans (MF.i mf5939 (k := 3) (by decide) (by decide)).symm
      have m5967 := (m5924).trans (MF.i mf5939 (k := 59) (by decide) (by decide)).symm
      have m5968 := (m5925).trans (MF.i mf5939 (k := 62) (by decide) (by decide)).symm
      have m5969 := (m5926).trans (MF.i mf5939 (k := 65) (by decide) (by decide)).symm
      have m5970 := (MF.i mf5939 (k := 0) (by decide) (by decide)).trans m5927
      have m5971 := (m5928).trans (MF.i mf5939 (k := 71) (by decide) (by decide)).symm
      have m5972 := (MF.i mf5939 (k := 70) (by decide) (by decide)).trans m5929
      have m5973 := (m5930).trans (MF.i mf5939 (k := 1) (by decide) (by decide)).symm
      have m5974 := (m5932).trans (MF.i mf5939 (k := 2) (by decide) (by decide)).symm
      have mf5975 : MF K s.heap H5934 a0 [0, 1, 2, 3, 59, 62, 65, 70, 71, 72] := MF.trans mf5895 mf5939 (by decide)
      have bx5936 := ty_fi (x := x5936) (k := 72) ex5936 hTH5934 ga0 rg_112 rfl
      have ce_x5851 := i_cl (x := x5851) (by omega)
      have b5976 : UN (x1.toInt = 0) (fun k => fI H5934 iq k) (fun k => fI s.heap iq k) := UN.tr m5943 b5906
      have b5977 : x5767 = fI H5934 iq (0) := (b5907).trans (m5942 _ (by omega)).symm
      have b5978 : x5850 = fI H5934 iq (1) := (b5908).trans (m5942 _ (by omega)).symm
      clear b5897 b5898 b5899 b5900 b5901 b5902 b5903 b5904 b5905 b5906 b5907 b5908 m5910 m5911 m5912 m5913 m5914 m5915 m5916 m5917 m5918 m5919 m5920 m5921 m5923 m5924 m5925 m5926 m5927 m5928 m5929 m5930 m5931 m5932
      clear m5942 m5943
      have p5979 : x5935 = fI H5934 iq (2) := by have h := m5940; rw [show x5851.toNatClampNeg = 2 by omega] at h; exact h
      refine W.eq (g2 := F0 m 66 ls [.int x5935, .ref a0]) rfl ?_
      refine x_put C hTH5934 hSH5934 (ci := 10) (k := 3) (v := .int x5935) (ty0 := tyX10) rfl inX10 tyX10_ok nmX10 (by decide) rfl wF_X10_7 ga0 rg_112 rfl rfl (okI (by have := i_rng x5935; omega) (by have := i_rng x5935; omega)) rfl rfl (AE_in ga0 (by decide)) dX10_image_66 (fun H5980 locsH5980 hTH5980 hSH5980 wH5980 => ?_)
      have mf5981 : MF K s.heap H5980 a0 [0, 1, 2, 3, 59, 62, 65, 70, 71, 72] := MF.fld hap wH5980 (by decide) (by decide) mf5975
      have g5982 : WD (avw K H5980 a0) := WD.congr (fun k hk j => av_fld hTH5934 ga0 hap wH5980 (by decide) (WD_ok 112 (by decide) k hk) (WD_ne 3 (by decide) k hk)) g5938
      have b5983 : UN (x1.toInt ≠ 0) (fun k => fI H5980 q4 k) (fun k => fI s.heap q4 k) := UN.congr (fun j => Wr.neI wH5980 (Or.inl (G_ne gq4 ga0 (by decide)))) b5944
      have b5984 : UN (x1.toInt ≠ 0) (fun k => fI H5980 q16 k) (fun k => fI s.heap q16 k) := UN.congr (fun j => Wr.neI wH5980 (Or.inl (G_ne gq16 ga0 (by decide)))) b5945
      have b5985 : UN (x1.toInt ≠ 0) (fun k => fI H5980 q24 k) (fun k => fI s.heap q24 k) := UN.congr (fun j => Wr.neI wH5980 (Or.inl (G_ne gq24 ga0 (by decide)))) b5946
      have b5986 : UN (x1.toInt ≠ 0) (fun k => fI H5980 q29 k) (fun k => fI s.heap q29 k) := UN.congr (fun j => Wr.neI wH5980 (Or.inl (G_ne gq29 ga0 (by decide)))) b5947
      have b5987 : UN (x1.toInt ≠ 0) (fun k => fI H5980 q30 k) (fun k => fI s.heap q30 k) := UN.congr (fun j => Wr.neI wH5980 (Or.inl (G_ne gq30 ga0 (by decide)))) b5948
      have b5988 : UN (x1.toInt ≠ 0) (fun k => fI H5980 q31 k) (fun k => fI s.heap q31 k) := UN.congr (fun j => Wr.neI wH5980 (Or.inl (G_ne gq31 ga0 (by decide)))) b5949
      have b5989 : UN (x1.toInt ≠ 0) (fun k => fI H5980 q32 k) (fun k => fI s.heap q32 k) := UN.congr (fun j => Wr.neI wH5980 (Or.inl (G_ne gq32 ga0 (by decide)))) b5950
      have b5990 : UN (x1.toInt ≠ 0) (fun k => fI H5980 q33 k) (fun k => fI s.heap q33 k) := UN.congr (fun j => Wr.neI wH5980 (Or.inl (G_ne gq33 ga0 (by decide)))) b5951
      have b5991 : UN (x1.toInt ≠ 0) (fun k => fI H5980 q50 k) (fun k => fI s.heap q50 k) := UN.congr (fun j => Wr.neI wH5980 (Or.inl (G_ne gq50 ga0 (by decide)))) b5952
      have b5992 : UN (x1.toInt = 0) (fun k => fI H5980 iq k) (fun k => fI s.heap iq k) := UN.congr (fun j => Wr.neI wH5980 (Or.inl (G_ne giq ga0 (by decide)))) b5976
      have b5993 : x5767 = fI H5980 iq (0) := (b5977).trans (Wr.neI wH5980 (Or.inl (G_ne giq ga0 (by decide)))).symm
      have b5994 : x5850 = fI H5980 iq (1) := (b5978).trans (Wr.neI wH5980 (Or.inl (G_ne giq ga0 (by decide)))).symm
      have b5995 : x5935 = fI H5980 iq (2) := (p5979).trans (Wr.neI wH5980 (Or.inl (G_ne giq ga0 (by decide)))).symm
      have f5996 : ∀ j : Nat, fI H5980 q50 j = fI s.heap q50 j := fun j => (Wr.neI wH5980 (Or.inl (G_ne gq50 ga0 (by decide)))).trans (f5953 j)
      have m5997 := m5937.trans (Wr.neR wH5980 (Or.inr (x_apart hKT hts inX10 tyX10 tyX10_ok nmX10 rfl 73 3 (by decide) (by decide) (by decide)))).symm
      have m5998 := m5955.trans (Wr.neR wH5980 (Or.inr (x_apart hKT hts inX10 tyX10 tyX10_ok nmX10 rfl 4 3 (by decide) (by decide) (by decide)))).symm
      have m5999 := m5956.trans (Wr.neR wH5980 (Or.inr (x_apart hKT hts inX10 tyX10 tyX10_ok nmX10 rfl 10 3 (by decide) (by decide) (by decide)))).symm
      have m6000 := m5957.trans (Wr.neR wH5980 (Or.inr (x_apart hKT hts inX10 tyX10 tyX10_ok nmX10 rfl 16 3 (by decide) (by decide) (by decide)))).symm
      have m6001 := m5958.trans (Wr.neR wH5980 (Or.inr (x_apart hKT hts inX10 tyX10 tyX10_ok nmX10 rfl 24 3 (by decide) (by decide) (by decide)))).symm
      have m6002 := m5959.trans (Wr.neR wH5980 (Or.inr (x_apart hKT hts inX10 tyX10 tyX10_ok nmX10 rfl 27 3 (by decide) (by decide) (by decide)))).symm
      have m6003 := m5960.trans (Wr.neR wH5980 (Or.inr (x_apart hKT hts inX10 tyX10 tyX10_ok nmX10 rfl 29 3 (by decide) (by decide) (by decide)))).symm
      have m6004 := m5961.trans (Wr.neR wH5980 (Or.inr (x_apart hKT hts inX10 tyX10 tyX10_ok nmX10 rfl 30 3 (by decide) (by decide) (by decide)))).symm
      have m6005 := m5962.trans (Wr.neR wH5980 (Or.inr (x_apart hKT hts inX10 tyX10 tyX10_ok nmX10 rfl 31 3 (by decide) (by decide) (by decide)))).symm
      have m6006 := m5963.trans (Wr.neR wH5980 (Or.inr (x_apart hKT hts inX10 tyX10 tyX10_ok nmX10 rfl 32 3 (by decide) (by decide) (by decide)))).symm
      have m6007 := m5964.trans (Wr.neR wH5980 (Or.inr (x_apart hKT hts inX10 tyX10 tyX10_ok nmX10 rfl 33 3 (by decide) (by decide) (by decide)))).symm
      have m6008 := m5965.trans (Wr.neR wH5980 (Or.inr (x_apart hKT hts inX10 tyX10 tyX10_ok nmX10 rfl 50 3 (by decide) (by decide) (by decide)))).symm
      have m6010 := m5967.trans (Wr.neI wH5980 (Or.inr (x_apart hKT hts inX10 tyX10 tyX10_ok nmX10 rfl 59 3 (by decide) (by decide) (by decide)))).symm
      have m6011 := m5968.trans (Wr.neI wH5980 (Or.inr (x_apart hKT hts inX10 tyX10 tyX10_ok nmX10 rfl 62 3 (by decide) (by decide) (by decide)))).symm
      have m6012 := m5969.trans (Wr.neI wH5980 (Or.inr (x_apart hKT hts inX10 tyX10 tyX10_ok nmX10 rfl 65 3 (by decide) (by decide) (by decide)))).symm
      have m6013 := (Wr.neI wH5980 (Or.inr (x_apart hKT hts inX10 tyX10 tyX10_ok nmX10 rfl 0 3 (by decide) (by decide) (by decide)))).trans m5970
      have m6014 := m5971.trans (Wr.neI wH5980 (Or.inr (x_apart hKT hts inX10 tyX10 tyX10_ok nmX10 rfl 71 3 (by decide) (by decide) (by decide)))).symm
      have m6015 := (Wr.neI wH5980 (Or.inr (x_apart hKT hts inX10 tyX10 tyX10_ok nmX10 rfl 70 3 (by decide) (by decide) (by decide)))).trans m5972
      have m6016 := m5973.trans (Wr.neI wH5980 (Or.inr (x_apart hKT hts inX10 tyX10 tyX10_ok nmX10 rfl 1 3 (by decide) (by decide) (by decide)))).symm
      have m6017 := m5974.trans (Wr.neI wH5980 (Or.inr (x_apart hKT hts inX10 tyX10 tyX10_ok nmX10 rfl 2 3 (by decide) (by decide) (by decide)))).symm
      have m6018 := ex5936.trans (Wr.neI wH5980 (Or.inr (x_apart hKT hts inX10 tyX10 tyX10_ok nmX10 rfl 72 3 (by decide) (by decide) (by decide)))).symm
      have m6019 := Wr.I wH5980
      have m6019 := m6019.symm
      clear b5944 b5945 b5946 b5947 b5948 b5949 b5950 b5951 b5952 b5976 b5977 b5978 ex5936 f5953 g5938 hTH5934 m5937 m5955 m5956 m5957 m5958 m5959 m5960 m5961 m5962 m5963 m5964 m5965 m5966 m5967 m5968 m5969 m5970 m5971 m5972 m5973 m5974 mf5975 p5979
      refine lv_aload_n hx hb dX10_image_69 rfl (lv_at hl 0 rfl) ?_
      refine lv_aload_n hx hb dX10_image_70 rfl (lv_at hl 0 rfl) ?_
      refine lv_aload_n hx hb dX10_image_71 rfl (lv_at hl 0 rfl) ?_
      refine x_gi C hTH5980 (ci := 10) (k := 59) rfl inX10 (by decide) wF_X10_438 ga0 rg_112 rfl dX10_image_72 (fun x6020 ex6020 bx6020 => ?_)
      have ux6020 : s59 = x6020 := (m6010).trans ex6020.symm
      subst ux6020
      refine x_V (As := [.int s59]) (rest := [.ref a0]) C (a_X10_kept l K G H5980 (s59) (x5936) (x1) hTH5980 ga0 giq m5997 m6018 m6014 g5982 (by and_intros <;> first | assumption | omega)) yo_X10_kept wM_X10_473 ⟨⟨by decide, by decide⟩, by decide, by decide⟩ (x_rv C hTH5980 (ci := 10) rfl ga0 rg_112) rfl hl.1 rfl (Nat.le_of_ble_eq_true rfl) dX10_image_75 hSH5980 (AE_sub (fun _ _ => rfl) (by decide) hSH5980.1) (fun vH6021 H6021 locsH6021 pH6021 zH6021 kH6021 hSH6021 => ?_)
      obtain ⟨x6022, x6023, hvH6021, ex6023, hrH6021, m6024, g6025, mf6026, m6027, m6028, m6029, m6030, hTH6021⟩ := pH6021
      subst hvH6021
      clear zH6021
      replace m6024 := EQN.mk m6024
      have b6031 : UN (x1.toInt ≠ 0) (fun k => fI H6021 q4 k) (fun k => fI s.heap q4 k) := UN.congr (fun j => fI_kept (x_lt hTH5980 kH6021 gq4 (by decide))) b5983
      have b6032 : UN (x1.toInt ≠ 0) (fun k => fI H6021 q16 k) (fun k => fI s.heap q16 k) := UN.congr (fun j => fI_kept (x_lt hTH5980 kH6021 gq16 (by decide))) b5984
      have b6033 : UN (x1.toInt ≠ 0) (fun k => fI H6021 q24 k) (fun k => fI s.heap q24 k) := UN.congr (fun j => fI_kept (x_lt hTH5980 kH6021 gq24 (by decide))) b5985
      have b6034 : UN (x1.toInt ≠ 0) (fun k => fI H6021 q29 k) (fun k => fI s.heap q29 k) := UN.congr (fun j => fI_kept (x_lt hTH5980 kH6021 gq29 (by decide))) b5986
      have b6035 : UN (x1.toInt ≠ 0) (fun k => fI H6021 q30 k) (fun k => fI s.heap q30 k) := UN.congr (fun j => fI_kept (x_lt hTH5980 kH6021 gq30 (by decide))) b5987
      have b6036 : UN (x1.toInt ≠ 0) (fun k => fI H6021 q31 k) (fun k => fI s.heap q31 k) := UN.congr (fun j => fI_kept (x_lt hTH5980 kH6021 gq31 (by decide))) b5988
      have b6037 : UN (x1.toInt ≠ 0) (fun k => fI H6021 q32 k) (fun k => fI s.heap q32 k) := UN.congr (fun j => fI_kept (x_lt hTH5980 kH6021 gq32 (by decide))) b5989
      have b6038 : UN (x1.toInt ≠ 0) (fun k => fI H6021 q33 k) (fun k => fI s.heap q33 k) := UN.congr (fun j => fI_kept (x_lt hTH5980 kH6021 gq33 (by decide))) b5990
      have b6039 : UN (x1.toInt ≠ 0) (fun k => fI H6021 q50 k) (fun k => fI s.heap q50 k) := UN.congr (fun j => fI_kept (x_lt hTH5980 kH6021 gq50 (by decide))) b5991
      have f6040 : ∀ j : Nat, fI H6021 q50 j = fI s.heap q50 j := fun j => (fI_kept (x_lt hTH5980 kH6021 gq50 (by decide))).trans (f5996 j)
      have m6041 := (m5997).trans (MF.r mf6026 (k := 73) (by decide) (by decide)).symm
      have m6042 := (m5998).trans (MF.r mf6026 (k := 4) (by decide) (by decide)).symm
      have m6043 := (m5999).trans (MF.r mf6026 (k := 10) (by decide) (by decide)).symm
      have m6044 := (m6000).trans (MF.r mf6026 (k := 16) (by decide) (by decide)).symm
      have m6045 := (m6001).trans (MF.r mf6026 (k := 24) (by decide) (by decide)).symm
      have m6046 := (m6002).trans (MF.r mf6026 (k := 27) (by decide) (by decide)).symm
      have m6047 := (m6003).trans (MF.r mf6026 (k := 29) (by decide) (by decide)).symm
      have m6048 := (m6004).trans (MF.r mf6026 (k := 30) (by decide) (by decide)).symm
      have m6049 := (m6005).trans (MF.r mf6026 (k := 31) (by decide) (by decide)).symm
      have m6050 := (m6006).trans (MF.r mf6026 (k := 32) (by decide) (by decide)).symm
      have m6051 := (m6007).trans (MF.r mf6026 (k := 33) (by decide) (by decide)).symm
      have m6052 := (m6008).trans (MF.r mf6026 (k := 50) (by decide) (by decide)).symm
      have m6053 := (m6010).trans (MF.i mf6026 (k := 59) (by decide) (by decide)).symm
      have m6054 := (m6011).trans (MF.i mf6026 (k := 62) (by decide) (by decide)).symm
      have m6055 := (m6012).trans (MF.i mf6026 (k := 65) (by decide) (by decide)).symm
      have m6056 := (MF.i mf6026 (k := 0) (by decide) (by decide)).trans m6013
      have m6057 := (m6014).trans (MF.i mf6026 (k := 71) (by decide) (by decide)).symm
      have m6058 := (MF.i mf6026 (k := 70) (by decide) (by decide)).trans m6015
      have m6059 := (m6016).trans (MF.i mf6026 (k := 1) (by decide) (by decide)).symm
      have m6060 := (m6017).trans (MF.i mf6026 (k := 2) (by decide) (by decide)).symm
      have m6061 := (m6019).trans (MF.i mf6026 (k := 3) (by decide) (by decide)).symm
      have mf6062 : MF K s.heap H6021 a0 [0, 1, 2, 3, 59, 62, 65, 70, 71, 72] := MF.trans mf5981 mf6026 (by decide)
      have bx6023 := ty_fi (x := x6023) (k := 72) ex6023 hTH6021 ga0 rg_112 rfl
      have ce_x5936 := i_cl (x := x5936) (by omega)
      have b6063 : UN (x1.toInt = 0) (fun k => fI H6021 iq k) (fun k => fI s.heap iq k) := UN.tr m6030 b5992
      have b6064 : x5767 = fI H6021 iq (0) := (b5993).trans (m6029 _ (by omega)).symm
      have b6065 : x5850 = fI H6021 iq (1) := (b5994).trans (m6029 _ (by omega)).symm
      have b6066 : x5935 = fI H6021 iq (2) := (b5995).trans (m6029 _ (by omega)).symm
      clear b5983 b5984 b5985 b5986 b5987 b5988 b5989 b5990 b5991 b5992 b5993 b5994 b5995 m5997 m5998 m5999 m6000 m6001 m6002 m6003 m6004 m6005 m6006 m6007 m6008 m6010 m6011 m6012 m6013 m6014 m6015 m6016 m6017 m6018 m6019
      clear m6029 m6030
      have bx6022 : 0 ≤ x6022.toInt ∧ x6022.toInt ≤ 20 := kr (fun h0 => by have hiw := hIW; exact kr0 (w := fun k => fI H6021 iq k) m6027 (p := 3) (by omega) (b6063 h0) (hiw.1.2.2.1)) m6028 (by omega)
      have p6067 : x6022 = fI H6021 iq (3) := by have h := m6027; rw [show x5936.toNatClampNeg = 3 by omega] at h; exact h
      refine W.eq (g2 := F0 m 78 ls [.int x6022, .ref a0]) rfl ?_
      refine x_put C hTH6021 hSH6021 (ci := 10) (k := 59) (v := .int x6022) (ty0 := tyX10) rfl inX10 tyX10_ok nmX10 (by decide) rfl wF_X10_438 ga0 rg_112 rfl rfl (okI (by have := i_rng x6022; omega) (by have := i_rng x6022; omega)) rfl rfl (AE_in ga0 (by decide)) dX10_image_78 (fun H6068 locsH6068 hTH6068 hSH6068 wH6068 => ?_)
      have mf6069 : MF K s.heap H6068 a0 [0, 1, 2, 3, 59, 62, 65, 70, 71, 72] := MF.fld hap wH6068 (by decide) (by decide) mf6062
      have g6070 : WD (avw K H6068 a0) := WD.congr (fun k hk j => av_fld hTH6021 ga0 hap wH6068 (by decide) (WD_ok 112 (by decide) k hk) (WD_ne 59 (by decide) k hk)) g6025
      have b6071 : UN (x1.toInt ≠ 0) (fun k => fI H6068 q4 k) (fun k => fI s.heap q4 k) := UN.congr (fun j => Wr.neI wH6068 (Or.inl (G_ne gq4 ga0 (by decide)))) b6031
      have b6072 : UN (x1.toInt ≠ 0) (fun k => fI H6068 q16 k) (fun k => fI s.heap q16 k) := UN.congr (fun j => Wr.neI wH6068 (Or.inl (G_ne gq16 ga0 (by decide)))) b6032
      have b6073 : UN (x1.toInt ≠ 0) (fun k => fI H6068 q24 k) (fun k => fI s.heap q24 k) := UN.congr (fun j => Wr.neI wH6068 (Or.inl (G_ne gq24 ga0 (by decide)))) b6033
      have b6074 : UN (x1.toInt ≠ 0) (fun k => fI H6068 q29 k) (fun k => fI s.heap q29 k) := UN.congr (fun j => Wr.neI wH6068 (Or.inl (G_ne gq29 ga0 (by decide)))) b6034
      have b6075 : UN (x1.toInt ≠ 0) (fun k => fI H6068 q30 k) (fun k => fI s.heap q30 k) := UN.congr (fun j => Wr.neI wH6068 (Or.inl (G_ne gq30 ga0 (by decide)))) b6035
      have b6076 : UN (x1.toInt ≠ 0) (fun k => fI H6068 q31 k) (fun k => fI s.heap q31 k) := UN.congr (fun j => Wr.neI wH6068 (Or.inl (G_ne gq31 ga0 (by decide)))) b6036
      have b6077 : UN (x1.toInt ≠ 0) (fun k => fI H6068 q32 k) (fun k => fI s.heap q32 k) := UN.congr (fun j => Wr.neI wH6068 (Or.inl (G_ne gq32 ga0 (by decide)))) b6037
      have b6078 : UN (x1.toInt ≠ 0) (fun k => fI H6068 q33 k) (fun k => fI s.heap q33 k) := UN.congr (fun j => Wr.neI wH6068 (Or.inl (G_ne gq33 ga0 (by decide)))) b6038
      have b6079 : UN (x1.toInt ≠ 0) (fun k => fI H6068 q50 k) (fun k => fI s.heap q50 k) := UN.congr (fun j => Wr.neI wH6068 (Or.inl (G_ne gq50 ga0 (by decide)))) b6039
      have b6080 : UN (x1.toInt = 0) (fun k => fI H6068 iq k) (fun k => fI s.heap iq k) := UN.congr (fun j => Wr.neI wH6068 (Or.inl (G_ne giq ga0 (by decide)))) b6063
      have b6081 : x5767 = fI H6068 iq (0) := (b6064).trans (Wr.neI wH6068 (Or.inl (G_ne giq ga0 (by decide)))).symm
      have b6082 : x5850 = fI H6068 iq (1) := (b6065).trans (Wr.neI wH6068 (Or.inl (G_ne giq ga0 (by decide)))).symm
      have b6083 : x5935 = fI H6068 iq (2) := (b6066).trans (Wr.neI wH6068 (Or.inl (G_ne giq ga0 (by decide)))).symm
      have b6084 : x6022 = fI H6068 iq (3) := (p6067).trans (Wr.neI wH6068 (Or.inl (G_ne giq ga0 (by decide)))).symm
      have f6085 : ∀ j : Nat, fI H6068 q50 j = fI s.heap q50 j := fun j => (Wr.neI wH6068 (Or.inl (G_ne gq50 ga0 (by decide)))).trans (f6040 j)
      have m6086 := m6024.trans (Wr.neR wH6068 (Or.inr (x_apart hKT hts inX10 tyX10 tyX10_ok nmX10 rfl 73 59 (by decide) (by decide) (by decide)))).symm
      have m6087 := m6042.trans (Wr.neR wH6068 (Or.inr (x_apart hKT hts inX10 tyX10 tyX10_ok nmX10 rfl 4 59 (by decide) (by decide) (by decide)))).symm
      have m6088 := m6043.trans (Wr.neR wH6068 (Or.inr (x_apart hKT hts inX10 tyX10 tyX10_ok nmX10 rfl 10 59 (by decide) (by decide) (by decide)))).symm
      have m6089 := m6044.trans (Wr.neR wH6068 (Or.inr (x_apart hKT hts inX10 tyX10 tyX10_ok nmX10 rfl 16 59 (by decide) (by decide) (by decide)))).symm
      have m6090 := m6045.trans (Wr.neR wH6068 (Or.inr (x_apart hKT hts inX10 tyX10 tyX10_ok nmX10 rfl 24 59 (by decide) (by decide) (by decide)))).symm
      have m6091 := m6046.trans (Wr.neR wH6068 (Or.inr (x_apart hKT hts inX10 tyX10 tyX10_ok nmX10 rfl 27 59 (by decide) (by decide) (by decide)))).symm
      have m6092 := m6047.trans (Wr.neR wH6068 (Or.inr (x_apart hKT hts inX10 tyX10 tyX10_ok nmX10 rfl 29 59 (by decide) (by decide) (by decide)))).symm
      have m6093 := m6048.trans (Wr.neR wH6068 (Or.inr (x_apart hKT hts inX10 tyX10 tyX10_ok nmX10 rfl 30 59 (by decide) (by decide) (by decide)))).symm
      have m6094 := m6049.trans (Wr.neR wH6068 (Or.inr (x_apart hKT hts inX10 tyX10 tyX10_ok nmX10 rfl 31 59 (by decide) (by decide) (by decide)))).symm
      have m6095 := m6050.trans (Wr.neR wH6068 (Or.inr (x_apart hKT hts inX10 tyX10 tyX10_ok nmX10 rfl 32 59 (by decide) (by decide) (by decide)))).symm
      have m6096 := m6051.trans (Wr.neR wH6068 (Or.inr (x_apart hKT hts inX10 tyX10 tyX10_ok nmX10 rfl 33 59 (by decide) (by decide) (by decide)))).symm
      have m6097 := m6052.trans (Wr.neR wH6068 (Or.inr (x_apart hKT hts inX10 tyX10 tyX10_ok nmX10 rfl 50 59 (by decide) (by decide) (by decide)))).symm
      have m6099 := m6054.trans (Wr.neI wH6068 (Or.inr (x_apart hKT hts inX10 tyX10 tyX10_ok nmX10 rfl 62 59 (by decide) (by decide) (by decide)))).symm
      have m6100 := m6055.trans (Wr.neI wH6068 (Or.inr (x_apart hKT hts inX10 tyX10 tyX10_ok nmX10 rfl 65 59 (by decide) (by decide) (by decide)))).symm
      have m6101 := (Wr.neI wH6068 (Or.inr (x_apart hKT hts inX10 tyX10 tyX10_ok nmX10 rfl 0 59 (by decide) (by decide) (by decide)))).trans m6056
      have m6102 := m6057.trans (Wr.neI wH6068 (Or.inr (x_apart hKT hts inX10 tyX10 tyX10_ok nmX10 rfl 71 59 (by decide) (by decide) (by decide)))).symm
      have m6103 := (Wr.neI wH6068 (Or.inr (x_apart hKT hts inX10 tyX10 tyX10_ok nmX10 rfl 70 59 (by decide) (by decide) (by decide)))).trans m6058
      have m6104 := m6059.trans (Wr.neI wH6068 (Or.inr (x_apart hKT hts inX10 tyX10 tyX10_ok nmX10 rfl 1 59 (by decide) (by decide) (by decide)))).symm
      have m6105 := m6060.trans (Wr.neI wH6068 (Or.inr (x_apart hKT hts inX10 tyX10 tyX10_ok nmX10 rfl 2 59 (by decide) (by decide) (by decide)))).symm
      have m6106 := m6061.trans (Wr.neI wH6068 (Or.inr (x_apart hKT hts inX10 tyX10 tyX10_ok nmX10 rfl 3 59 (by decide) (by decide) (by decide)))).symm
      have m6107 := ex6023.trans (Wr.neI wH6068 (Or.inr (x_apart hKT hts inX10 tyX10 tyX10_ok nmX10 rfl 72 59 (by decide) (by decide) (by decide)))).symm
      have m6108 := Wr.I wH6068
      have m6108 := m6108.symm
      clear b6031 b6032 b6033 b6034 b6035 b6036 b6037 b6038 b6039 b6063 b6064 b6065 b6066 ex6023 f6040 g6025 hTH6021 m6024 m6042 m6043 m6044 m6045 m6046 m6047 m6048 m6049 m6050 m6051 m6052 m6053 m6054 m6055 m6056 m6057 m6058 m6059 m6060 m6061 mf6062 p6067
      refine lv_aload_n hx hb dX10_image_81 rfl (lv_at hl 0 rfl) ?_
      refine lv_aload_n hx hb dX10_image_82 rfl (lv_at hl 0 rfl) ?_
      refine lv_aload_n hx hb dX10_image_83 rfl (lv_at hl 0 rfl) ?_
      refine x_gi C hTH6068 (ci := 10) (k := 62) rfl inX10 (by decide) wF_X10_455 ga0 rg_112 rfl dX10_image_84 (fun x6109 ex6109 bx6109 => ?_)
      have ux6109 : s62 = x6109 := (m6099).trans ex6109.symm
      subst ux6109
      refine x_V (As := [.int s62]) (rest := [.ref a0]) C (a_X10_kept l K G H6068 (s62) (x6023) (x1) hTH6068 ga0 giq m6086 m6107 m6102 g6070 (by and_intros <;> first | assumption | omega)) yo_X10_kept wM_X10_473 ⟨⟨by decide, by decide⟩, by decide, by decide⟩ (x_rv C hTH6068 (ci := 10) rfl ga0 rg_112) rfl hl.1 rfl (Nat.le_of_ble_eq_true rfl) dX10_image_87 hSH6068 (AE_sub (fun _ _ => rfl) (by decide) hSH6068.1) (fun vH6110 H6110 locsH6110 pH6110 zH6110 kH6110 hSH6110 => ?_)
      obtain ⟨x6111, x6112, hvH6110, ex6112, hrH6110, m6113, g6114, mf6115, m6116, m6117, m6118, m6119, hTH6110⟩ := pH6110
      subst hvH6110
      clear zH6110
      replace m6113 := EQN.mk m6113
      have b6120 : UN (x1.toInt ≠ 0) (fun k => fI H6110 q4 k) (fun k => fI s.heap q4 k) := UN.congr (fun j => fI_kept (x_lt hTH6068 kH6110 gq4 (by decide))) b6071
      have b6121 : UN (x1.toInt ≠ 0) (fun k => fI H6110 q16 k) (fun k => fI s.heap q16 k) := UN.congr (fun j => fI_kept (x_lt hTH6068 kH6110 gq16 (by decide))) b6072
      have b6122 : UN (x1.toInt ≠ 0) (fun k => fI H6110 q24 k) (fun k => fI s.heap q24 k) := UN.congr (fun j => fI_kept (x_lt hTH6068 kH6110 gq24 (by decide))) b6073
      have b6123 : UN (x1.toInt ≠ 0) (fun k => fI H6110 q29 k) (fun k => fI s.heap q29 k) := UN.congr (fun j => fI_kept (x_lt hTH6068 kH6110 gq29 (by decide))) b6074
      have b6124 : UN (x1.toInt ≠ 0) (fun k => fI H6110 q30 k) (fun k => fI s.heap q30 k) := UN.congr (fun j => fI_kept (x_lt hTH6068 kH6110 gq30 (by decide))) b6075
      have b6125 : UN (x1.toInt ≠ 0) (fun k => fI H6110 q31 k) (fun k => fI s.heap q31 k) := UN.congr (fun j => fI_kept (x_lt hTH6068 kH6110 gq31 (by decide))) b6076
      have b6126 : UN (x1.toInt ≠ 0) (fun k => fI H6110 q32 k) (fun k => fI s.heap q32 k) := UN.congr (fun j => fI_kept (x_lt hTH6068 kH6110 gq32 (by decide))) b6077
      have b6127 : UN (x1.toInt ≠ 0) (fun k => fI H6110 q33 k) (fun k => fI s.heap q33 k) := UN.congr (fun j => fI_kept (x_lt hTH6068 kH6110 gq33 (by decide))) b6078
      have b6128 : UN (x1.toInt ≠ 0) (fun k => fI H6110 q50 k) (fun k => fI s.heap q50 k) := UN.congr (fun j => fI_kept (x_lt hTH6068 kH6110 gq50 (by decide))) b6079
      have f6129 : ∀ j : Nat, fI H6110 q50 j = fI s.heap q50 j := fun j => (fI_kept (x_lt hTH6068 kH6110 gq50 (by decide))).trans (f6085 j)
      have m6130 := (m6086).trans (MF.r mf6115 (k := 73) (by decide) (by decide)).symm
      have m6131 := (m6087).trans (MF.r mf6115 (k := 4) (by decide) (by decide)).symm
      have m6132 := (m6088).trans (MF.r mf6115 (k := 10) (by decide) (by decide)).symm
      have m6133 := (m6089).trans (MF.r mf6115 (k := 16) (by decide) (by decide)).symm
      have m6134 := (m6090).trans (MF.r mf6115 (k := 24) (by decide) (by decide)).symm
      have m6135 := (m6091).trans (MF.r mf6115 (k := 27) (by decide) (by decide)).symm
      have m6136 := (m6092).trans (MF.r mf6115 (k := 29) (by decide) (by decide)).symm
      have m6137 := (m6093).trans (MF.r mf6115 (k := 30) (by decide) (by decide)).symm
      have m6138 := (m6094).trans (MF.r mf6115 (k := 31) (by decide) (by decide)).symm
      have m6139 := (m6095).trans (MF.r mf6115 (k := 32) (by decide) (by decide)).symm
      have m6140 := (m6096).trans (MF.r mf6115 (k := 33) (by decide) (by decide)).symm
      have m6141 := (m6097).trans (MF.r mf6115 (k := 50) (by decide) (by decide)).symm
      have m6142 := (m6099).trans (MF.i mf6115 (k := 62) (by decide) (by decide)).symm
      have m6143 := (m6100).trans (MF.i mf6115 (k := 65) (by decide) (by decide)).symm
      have m6144 := (MF.i mf6115 (k := 0) (by decide) (by decide)).trans m6101
      have m6145 := (m6102).trans (MF.i mf6115 (k := 71) (by decide) (by decide)).symm
      have m6146 := (MF.i mf6115 (k := 70) (by decide) (by decide)).trans m6103
      have m6147 := (m6104).trans (MF.i mf6115 (k := 1) (by decide) (by decide)).symm
      have m6148 := (m6105).trans (MF.i mf6115 (k := 2) (by decide) (by decide)).symm
      have m6149 := (m6106).trans (MF.i mf6115 (k := 3) (by decide) (by decide)).symm
      have m6150 := (m6108).trans (MF.i mf6115 (k := 59) (by decide) (by decide)).symm
      have mf6151 : MF K s.heap H6110 a0 [0, 1, 2, 3, 59, 62, 65, 70, 71, 72] := MF.trans mf6069 mf6115 (by decide)
      have bx6112 := ty_fi (x := x6112) (k := 72) ex6112 hTH6110 ga0 rg_112 rfl
      have ce_x6023 := i_cl (x := x6023) (by omega)
      have b6152 : UN (x1.toInt = 0) (fun k => fI H6110 iq k) (fun k => fI s.heap iq k) := UN.tr m6119 b6080
      have b6153 : x5767 = fI H6110 iq (0) := (b6081).trans (m6118 _ (by omega)).symm
      have b6154 : x5850 = fI H6110 iq (1) := (b6082).trans (m6118 _ (by omega)).symm
      have b6155 : x5935 = fI H6110 iq (2) := (b6083).trans (m6118 _ (by omega)).symm
      have b6156 : x6022 = fI H6110 iq (3) := (b6084).trans (m6118 _ (by omega)).symm
      clear b6071 b6072 b6073 b6074 b6075 b6076 b6077 b6078 b6079 b6080 b6081 b6082 b6083 b6084 m6086 m6087 m6088 m6089 m6090 m6091 m6092 m6093 m6094 m6095 m6096 m6097 m6099 m6100 m6101 m6102 m6103 m6104 m6105 m6106 m6107 m6108
      clear m6118 m6119
      have bx6111 : 0 ≤ x6111.toInt ∧ x6111.toInt ≤ 8 := kr (fun h0 => by have hiw := hIW; exact kr0 (w := fun k => fI H6110 iq k) m6116 (p := 4) (by omega) (b6152 h0) (hiw.1.2.2.2.1)) m6117 (by omega)
      have p6157 : x6111 = fI H6110 iq (4) := by have h := m6116; rw [show x6023.toNatClampNeg = 4 by omega] at h; exact h
      refine W.eq (g2 := F0 m 90 ls [.int x6111, .ref a0]) rfl ?_
      refine x_put C hTH6110 hSH6110 (ci := 10) (k := 62) (v := .int x6111) (ty0 := tyX10) rfl inX10 tyX10_ok nmX10 (by decide) rfl wF_X10_455 ga0 rg_112 rfl rfl (okI (by have := i_rng x6111; omega) (by have := i_rng x6111; omega)) rfl rfl (AE_in ga0 (by decide)) dX10_image_90 (fun H6158 locsH6158 hTH6158 hSH6158 wH6158 => ?_)
      have mf6159 : MF K s.heap H6158 a0 [0, 1, 2, 3, 59, 62, 65, 70, 71, 72] := MF.fld hap wH6158 (by decide) (by decide) mf6151
      have g6160 : WD (avw K H6158 a0) := WD.congr (fun k hk j => av_fld hTH6110 ga0 hap wH6158 (by decide) (WD_ok 112 (by decide) k hk) (WD_ne 62 (by decide) k hk)) g6114
      have b6161 : UN (x1.toInt ≠ 0) (fun k => fI H6158 q4 k) (fun k => fI s.heap q4 k) := UN.congr (fun j => Wr.neI wH6158 (Or.inl (G_ne gq4 ga0 (by decide)))) b6120
      have b6162 : UN (x1.toInt ≠ 0) (fun k => fI H6158 q16 k) (fun k => fI s.heap q16 k) := UN.congr (fun j => Wr.neI wH6158 (Or.inl (G_ne gq16 ga0 (by decide)))) b6121
      have b6163 : UN (x1.toInt ≠ 0) (fun k => fI H6158 q24 k) (fun k => fI s.heap q24 k) := UN.congr (fun j => Wr.neI wH6158 (Or.inl (G_ne gq24 ga0 (by decide)))) b6122
      have b6164 : UN (x1.toInt ≠ 0) (fun k => fI H6158 q29 k) (fun k => fI s.heap q29 k) := UN.congr (fun j => Wr.neI wH6158 (Or.inl (G_ne gq29 ga0 (by decide)))) b6123
      have b6165 : UN (x1.toInt ≠ 0) (fun k => fI H6158 q30 k) (fun k => fI s.heap q30 k) := UN.congr (fun j => Wr.neI wH6158 (Or.inl (G_ne gq30 ga0 (by decide)))) b6124
      have b6166 : UN (x1.toInt ≠ 0) (fun k => fI H6158 q31 k) (fun k => fI s.heap q31 k) := UN.congr (fun j => Wr.neI wH6158 (Or.inl (G_ne gq31 ga0 (by decide)))) b6125
      have b6167 : UN (x1.toInt ≠ 0) (fun k => fI H6158 q32 k) (fun k => fI s.heap q32 k) := UN.congr (fun j => Wr.neI wH6158 (Or.inl (G_ne gq32 ga0 (by decide)))) b6126
      have b6168 : UN (x1.toInt ≠ 0) (fun k => fI H6158 q33 k) (fun k => fI s.heap q33 k) := UN.congr (fun j => Wr.neI wH6158 (Or.inl (G_ne gq33 ga0 (by decide)))) b6127
      have b6169 : UN (x1.toInt ≠ 0) (fun k => fI H6158 q50 k) (fun k => fI s.heap q50 k) := UN.congr (fun j => Wr.neI wH6158 (Or.inl (G_ne gq50 ga0 (by decide)))) b6128
      have b6170 : UN (x1.toInt = 0) (fun k => fI H6158 iq k) (fun k => fI s.heap iq k) := UN.congr (fun j => Wr.neI wH6158 (Or.inl (G_ne giq ga0 (by decide)))) b6152
      have b6171 : x5767 = fI H6158 iq (0) := (b6153).trans (Wr.neI wH6158 (Or.inl (G_ne giq ga0 (by decide)))).symm
      have b6172 : x5850 = fI H6158 iq (1) := (b6154).trans (Wr.neI wH6158 (Or.inl (G_ne giq ga0 (by decide)))).symm
      have b6173 : x5935 = fI H6158 iq (2) := (b6155).trans (Wr.neI wH6158 (Or.inl (G_ne giq ga0 (by decide)))).symm
      have b6174 : x6022 = fI H6158 iq (3) := (b6156).trans (Wr.neI wH6158 (Or.inl (G_ne giq ga0 (by decide)))).symm
      have b6175 : x6111 = fI H6158 iq (4) := (p6157).trans (Wr.neI wH6158 (Or.inl (G_ne giq ga0 (by decide)))).symm
      have f6176 : ∀ j : Nat, fI H6158 q50 j = fI s.heap q50 j := fun j => (Wr.neI wH6158 (Or.inl (G_ne gq50 ga0 (by decide)))).trans (f6129 j)
      have m6177 := m6113.trans (Wr.neR wH6158 (Or.inr (x_apart hKT hts inX10 tyX10 tyX10_ok nmX10 rfl 73 62 (by decide) (by decide) (by decide)))).symm
      have m6178 := m6131.trans (Wr.neR wH6158 (Or.inr (x_apart hKT hts inX10 tyX10 tyX10_ok nmX10 rfl 4 62 (by decide) (by decide) (by decide)))).symm
      have m6179 := m6132.trans (Wr.neR wH6158 (Or.inr (x_apart hKT hts inX10 tyX10 tyX10_ok nmX10 rfl 10 62 (by decide) (by decide) (by decide)))).symm
      have m6180 := m6133.trans (Wr.neR wH6158 (Or.inr (x_apart hKT hts inX10 tyX10 tyX10_ok nmX10 rfl 16 62 (by decide) (by decide) (by decide)))).symm
      have m6181 := m6134.trans (Wr.neR wH6158 (Or.inr (x_apart hKT hts inX10 tyX10 tyX10_ok nmX10 rfl 24 62 (by decide) (by decide) (by decide)))).symm
      have m6182 := m6135.trans (Wr.neR wH6158 (Or.inr (x_apart hKT hts inX10 tyX10 tyX10_ok nmX10 rfl 27 62 (by decide) (by decide) (by decide)))).symm
      have m6183 := m6136.trans (Wr.neR wH6158 (Or.inr (x_apart hKT hts inX10 tyX10 tyX10_ok nmX10 rfl 29 62 (by decide) (by decide) (by decide)))).symm
      have m6184 := m6137.trans (Wr.neR wH6158 (Or.inr (x_apart hKT hts inX10 tyX10 tyX10_ok nmX10 rfl 30 62 (by decide) (by decide) (by decide)))).symm
      have m6185 := m6138.trans (Wr.neR wH6158 (Or.inr (x_apart hKT hts inX10 tyX10 tyX10_ok nmX10 rfl 31 62 (by decide) (by decide) (by decide)))).symm
      have m6186 := m6139.trans (Wr.neR wH6158 (Or.inr (x_apart hKT hts inX10 tyX10 tyX10_ok nmX10 rfl 32 62 (by decide) (by decide) (by decide)))).symm
      have m6187 := m6140.trans (Wr.neR wH6158 (Or.inr (x_apart hKT hts inX10 tyX10 tyX10_ok nmX10 rfl 33 62 (by decide) (by decide) (by decide)))).symm
      have m6188 := m6141.trans (Wr.neR wH6158 (Or.inr (x_apart hKT hts inX10 tyX10 tyX10_ok nmX10 rfl 50 62 (by decide) (by decide) (by decide)))).symm
      have m6190 := m6143.trans (Wr.neI wH6158 (Or.inr (x_apart hKT hts inX10 tyX10 tyX10_ok nmX10 rfl 65 62 (by decide) (by decide) (by decide)))).symm
      have m6191 := (Wr.neI wH6158 (Or.inr (x_apart hKT hts inX10 tyX10 tyX10_ok nmX10 rfl 0 62 (by decide) (by decide) (by decide)))).trans m6144
      have m6192 := m6145.trans (Wr.neI wH6158 (Or.inr (x_apart hKT hts inX10 tyX10 tyX10_ok nmX10 rfl 71 62 (by decide) (by decide) (by decide)))).symm
      have m6193 := (Wr.neI wH6158 (Or.inr (x_apart hKT hts inX10 tyX10 tyX10_ok nmX10 rfl 70 62 (by decide) (by decide) (by decide)))).trans m6146
      have m6194 := m6147.trans (Wr.neI wH6158 (Or.inr (x_apart hKT hts inX10 tyX10 tyX10_ok nmX10 rfl 1 62 (by decide) (by decide) (by decide)))).symm
      have m6195 := m6148.trans (Wr.neI wH6158 (Or.inr (x_apart hKT hts inX10 tyX10 tyX10_ok nmX10 rfl 2 62 (by decide) (by decide) (by decide)))).symm
      have m6196 := m6149.trans (Wr.neI wH6158 (Or.inr (x_apart hKT hts inX10 tyX10 tyX10_ok nmX10 rfl 3 62 (by decide) (by decide) (by decide)))).symm
      have m6197 := m6150.trans (Wr.neI wH6158 (Or.inr (x_apart hKT hts inX10 tyX10 tyX10_ok nmX10 rfl 59 62 (by decide) (by decide) (by decide)))).symm
      have m6198 := ex6112.trans (Wr.neI wH6158 (Or.inr (x_apart hKT hts inX10 tyX10 tyX10_ok nmX10 rfl 72 62 (by decide) (by decide) (by decide)))).symm
      have m6199 := Wr.I wH6158
      have m6199 := m6199.symm
      clear b6120 b6121 b6122 b6123 b6124 b6125 b6126 b6127 b6128 b6152 b6153 b6154 b6155 b6156 ex6112 f6129 g6114 hTH6110 m6113 m6131 m6132 m6133 m6134 m6135 m6136 m6137 m6138 m6139 m6140 m6141 m6142 m6143 m6144 m6145 m6146 m6147 m6148 m6149 m6150 mf6151 p6157
      refine lv_aload_n hx hb dX10_image_93 rfl (lv_at hl 0 rfl) ?_
      refine lv_aload_n hx hb dX10_image_94 rfl (lv_at hl 0 rfl) ?_
      refine lv_aload_n hx hb dX10_image_95 rfl (lv_at hl 0 rfl) ?_
      refine x_gi C hTH6158 (ci := 10) (k := 65) rfl inX10 (by decide) wF_X10_458 ga0 rg_112 rfl dX10_image_96 (fun x6200 ex6200 bx6200 => ?_)
      have ux6200 : s65 = x6200 := (m6190).trans ex6200.symm
      subst ux6200
      refine x_V (As := [.int s65]) (rest := [.ref a0]) C (a_X10_kept l K G H6158 (s65) (x6112) (x1) hTH6158 ga0 giq m6177 m6198 m6192 g6160 (by and_intros <;> first | assumption | omega)) yo_X10_kept wM_X10_473 ⟨⟨by decide, by decide⟩, by decide, by decide⟩ (x_rv C hTH6158 (ci := 10) rfl ga0 rg_112) rfl hl.1 rfl (Nat.le_of_ble_eq_true rfl) dX10_image_99 hSH6158 (AE_sub (fun _ _ => rfl) (by decide) hSH6158.1) (fun vH6201 H6201 locsH6201 pH6201 zH6201 kH6201 hSH6201 => ?_)
      obtain ⟨x6202, x6203, hvH6201, ex6203, hrH6201, m6204, g6205, mf6206, m6207, m6208, m6209, m6210, hTH6201⟩ := pH6201
      subst hvH6201
      clear zH6201
      replace m6204 := EQN.mk m6204
      have b6211 : UN (x1.toInt ≠ 0) (fun k => fI H6201 q4 k) (fun k => fI s.heap q4 k) := UN.congr (fun j => fI_kept (x_lt hTH6158 kH6201 gq4 (by decide))) b6161
      have b6212 : UN (x1.toInt ≠ 0) (fun k => fI H6201 q16 k) (fun k => fI s.heap q16 k) := UN.congr (fun j => fI_kept (x_lt hTH6158 kH6201 gq16 (by decide))) b6162
      have b6213 : UN (x1.toInt ≠ 0) (fun k => fI H6201 q24 k) (fun k => fI s.heap q24 k) := UN.congr (fun j => fI_kept (x_lt hTH6158 kH6201 gq24 (by decide))) b6163
      have b6214 : UN (x1.toInt ≠ 0) (fun k => fI H6201 q29 k) (fun k => fI s.heap q29 k) := UN.congr (fun j => fI_kept (x_lt hTH6158 kH6201 gq29 (by decide))) b6164
      have b6215 : UN (x1.toInt ≠ 0) (fun k => fI H6201 q30 k) (fun k => fI s.heap q30 k) := UN.congr (fun j => fI_kept (x_lt hTH6158 kH6201 gq30 (by decide))) b6165
      have b6216 : UN (x1.toInt ≠ 0) (fun k => fI H6201 q31 k) (fun k => fI s.heap q31 k) := UN.congr (fun j => fI_kept (x_lt hTH6158 kH6201 gq31 (by decide))) b6166
      have b6217 : UN (x1.toInt ≠ 0) (fun k => fI H6201 q32 k) (fun k => fI s.heap q32 k) := UN.congr (fun j => fI_kept (x_lt hTH6158 kH6201 gq32 (by decide))) b6167
      have b6218 : UN (x1.toInt ≠ 0) (fun k => fI H6201 q33 k) (fun k => fI s.heap q33 k) := UN.congr (fun j => fI_kept (x_lt hTH6158 kH6201 gq33 (by decide))) b6168
      have b6219 : UN (x1.toInt ≠ 0) (fun k => fI H6201 q50 k) (fun k => fI s.heap q50 k) := UN.congr (fun j => fI_kept (x_lt hTH6158 kH6201 gq50 (by decide))) b6169
      have f6220 : ∀ j : Nat, fI H6201 q50 j = fI s.heap q50 j := fun j => (fI_kept (x_lt hTH6158 kH6201 gq50 (by decide))).trans (f6176 j)
      have m6221 := (m6177).trans (MF.r mf6206 (k := 73) (by decide) (by decide)).symm
      have m6222 := (m6178).trans (MF.r mf6206 (k := 4) (by decide) (by decide)).symm
      have m6223 := (m6179).trans (MF.r mf6206 (k := 10) (by decide) (by decide)).symm
      have m6224 := (m6180).trans (MF.r mf6206 (k := 16) (by decide) (by decide)).symm
      have m6225 := (m6181).trans (MF.r mf6206 (k := 24) (by decide) (by decide)).symm
      have m6226 := (m6182).trans (MF.r mf6206 (k := 27) (by decide) (by decide)).symm
      have m6227 := (m6183).trans (MF.r mf6206 (k := 29) (by decide) (by decide)).symm
      have m6228 := (m6184).trans (MF.r mf6206 (k := 30) (by decide) (by decide)).symm
      have m6229 := (m6185).trans (MF.r mf6206 (k := 31) (by decide) (by decide)).symm
      have m6230 := (m6186).trans (MF.r mf6206 (k := 32) (by decide) (by decide)).symm
      have m6231 := (m6187).trans (MF.r mf6206 (k := 33) (by decide) (by decide)).symm
      have m6232 := (m6188).trans (MF.r mf6206 (k := 50) (by decide) (by decide)).symm
      have m6233 := (m6190).trans (MF.i mf6206 (k := 65) (by decide) (by decide)).symm
      have m6234 := (MF.i mf6206 (k := 0) (by decide) (by decide)).trans m6191
      have m6235 := (m6192).trans (MF.i mf6206 (k := 71) (by decide) (by decide)).symm
      have m6236 := (MF.i mf6206 (k := 70) (by decide) (by decide)).trans m6193
      have m6237 := (m6194).trans (MF.i mf6206 (k := 1) (by decide) (by decide)).symm
      have m6238 := (m6195).trans (MF.i mf6206 (k := 2) (by decide) (by decide)).symm
      have m6239 := (m6196).trans (MF.i mf6206 (k := 3) (by decide) (by decide)).symm
      have m6240 := (m6197).trans (MF.i mf6206 (k := 59) (by decide) (by decide)).symm
      have m6241 := (m6199).trans (MF.i mf6206 (k := 62) (by decide) (by decide)).symm
      have mf6242 : MF K s.heap H6201 a0 [0, 1, 2, 3, 59, 62, 65, 70, 71, 72] := MF.trans mf6159 mf6206 (by decide)
      have bx6203 := ty_fi (x := x6203) (k := 72) ex6203 hTH6201 ga0 rg_112 rfl
      have ce_x6112 := i_cl (x := x6112) (by omega)
      have b6243 : UN (x1.toInt = 0) (fun k => fI H6201 iq k) (fun k => fI s.heap iq k) := UN.tr m6210 b6170
      have b6244 : x5767 = fI H6201 iq (0) := (b6171).trans (m6209 _ (by omega)).symm
      have b6245 : x5850 = fI H6201 iq (1) := (b6172).trans (m6209 _ (by omega)).symm
      have b6246 : x5935 = fI H6201 iq (2) := (b6173).trans (m6209 _ (by omega)).symm
      have b6247 : x6022 = fI H6201 iq (3) := (b6174).trans (m6209 _ (by omega)).symm
      have b6248 : x6111 = fI H6201 iq (4) := (b6175).trans (m6209 _ (by omega)).symm
      clear b6161 b6162 b6163 b6164 b6165 b6166 b6167 b6168 b6169 b6170 b6171 b6172 b6173 b6174 b6175 m6177 m6178 m6179 m6180 m6181 m6182 m6183 m6184 m6185 m6186 m6187 m6188 m6190 m6191 m6192 m6193 m6194 m6195 m6196 m6197 m6198 m6199
      clear m6209 m6210
      have bx6202 : 0 ≤ x6202.toInt ∧ x6202.toInt ≤ 8 := kr (fun h0 => by have hiw := hIW; exact kr0 (w := fun k => fI H6201 iq k) m6207 (p := 5) (by omega) (b6243 h0) (hiw.1.2.2.2.2)) m6208 (by omega)
      have p6249 : x6202 = fI H6201 iq (5) := by have h := m6207; rw [show x6112.toNatClampNeg = 5 by omega] at h; exact h
      refine W.eq (g2 := F0 m 102 ls [.int x6202, .ref a0]) rfl ?_
      refine x_put C hTH6201 hSH6201 (ci := 10) (k := 65) (v := .int x6202) (ty0 := tyX10) rfl inX10 tyX10_ok nmX10 (by decide) rfl wF_X10_458 ga0 rg_112 rfl rfl (okI (by have := i_rng x6202; omega) (by have := i_rng x6202; omega)) rfl rfl (AE_in ga0 (by decide)) dX10_image_102 (fun H6250 locsH6250 hTH6250 hSH6250 wH6250 => ?_)
      have mf6251 : MF K s.heap H6250 a0 [0, 1, 2, 3, 59, 62, 65, 70, 71, 72] := MF.fld hap wH6250 (by decide) (by decide) mf6242
      have g6252 : WD (avw K H6250 a0) := WD.congr (fun k hk j => av_fld hTH6201 ga0 hap wH6250 (by decide) (WD_ok 112 (by decide) k hk) (WD_ne 65 (by decide) k hk)) g6205
      have b6253 : UN (x1.toInt ≠ 0) (fun k => fI H6250 q4 k) (fun k => fI s.heap q4 k) := UN.congr (fun j => Wr.neI wH6250 (Or.inl (G_ne gq4 ga0 (by decide)))) b6211
      have b6254 : UN (x1.toInt ≠ 0) (fun k => fI H6250 q16 k) (fun k => fI s.heap q16 k) := UN.congr (fun j => Wr.neI wH6250 (Or.inl (G_ne gq16 ga0 (by decide)))) b6212
      have b6255 : UN (x1.toInt ≠ 0) (fun k => fI H6250 q24 k) (fun k => fI s.heap q24 k) := UN.congr (fun j => Wr.neI wH6250 (Or.inl (G_ne gq24 ga0 (by decide)))) b6213
      have b6256 : UN (x1.toInt ≠ 0) (fun k => fI H6250 q29 k) (fun k => fI s.heap q29 k) := UN.congr (fun j => Wr.neI wH6250 (Or.inl (G_ne gq29 ga0 (by decide)))) b6214
      have b6257 : UN (x1.toInt ≠ 0) (fun k => fI H6250 q30 k) (fun k => fI s.heap q30 k) := UN.congr (fun j => Wr.neI wH6250 (Or.inl (G_ne gq30 ga0 (by decide)))) b6215
      have b6258 : UN (x1.toInt ≠ 0) (fun k => fI H6250 q31 k) (fun k => fI s.heap q31 k) := UN.congr (fun j => Wr.neI wH6250 (Or.inl (G_ne gq31 ga0 (by decide)))) b6216
      have b6259 : UN (x1.toInt ≠ 0) (fun k => fI H6250 q32 k) (fun k => fI s.heap q32 k) := UN.congr (fun j => Wr.neI wH6250 (Or.inl (G_ne gq32 ga0 (by decide)))) b6217
      have b6260 : UN (x1.toInt ≠ 0) (fun k => fI H6250 q33 k) (fun k => fI s.heap q33 k) := UN.congr (fun j => Wr.neI wH6250 (Or.inl (G_ne gq33 ga0 (by decide)))) b6218
      have b6261 : UN (x1.toInt ≠ 0) (fun k => fI H6250 q50 k) (fun k => fI s.heap q50 k) := UN.congr (fun j => Wr.neI wH6250 (Or.inl (G_ne gq50 ga0 (by decide)))) b6219
      have b6262 : UN (x1.toInt = 0) (fun k => fI H6250 iq k) (fun k => fI s.heap iq k) := UN.congr (fun j => Wr.neI wH6250 (Or.inl (G_ne giq ga0 (by decide)))) b6243
      have b6263 : x5767 = fI H6250 iq (0) := (b6244).trans (Wr.neI wH6250 (Or.inl (G_ne giq ga0 (by decide)))).symm
      have b6264 : x5850 = fI H6250 iq (1) := (b6245).trans (Wr.neI wH6250 (Or.inl (G_ne giq ga0 (by decide)))).symm
      have b6265 : x5935 = fI H6250 iq (2) := (b6246).trans (Wr.neI wH6250 (Or.inl (G_ne giq ga0 (by decide)))).symm
      have b6266 : x6022 = fI H6250 iq (3) := (b6247).trans (Wr.neI wH6250 (Or.inl (G_ne giq ga0 (by decide)))).symm
      have b6267 : x6111 = fI H6250 iq (4) := (b6248).trans (Wr.neI wH6250 (Or.inl (G_ne giq ga0 (by decide)))).symm
      have b6268 : x6202 = fI H6250 iq (5) := (p6249).trans (Wr.neI wH6250 (Or.inl (G_ne giq ga0 (by decide)))).symm
      have f6269 : ∀ j : Nat, fI H6250 q50 j = fI s.heap q50 j := fun j => (Wr.neI wH6250 (Or.inl (G_ne gq50 ga0 (by decide)))).trans (f6220 j)
      have m6270 := m6204.trans (Wr.neR wH6250 (Or.inr (x_apart hKT hts inX10 tyX10 tyX10_ok nmX10 rfl 73 65 (by decide) (by decide) (by decide)))).symm
      have m6271 := m6222.trans (Wr.neR wH6250 (Or.inr (x_apart hKT hts inX10 tyX10 tyX10_ok nmX10 rfl 4 65 (by decide) (by decide) (by decide)))).symm
      have m6272 := m6223.trans (Wr.neR wH6250 (Or.inr (x_apart hKT hts inX10 tyX10 tyX10_ok nmX10 rfl 10 65 (by decide) (by decide) (by decide)))).symm
      have m6273 := m6224.trans (Wr.neR wH6250 (Or.inr (x_apart hKT hts inX10 tyX10 tyX10_ok nmX10 rfl 16 65 (by decide) (by decide) (by decide)))).symm
      have m6274 := m6225.trans (Wr.neR wH6250 (Or.inr (x_apart hKT hts inX10 tyX10 tyX10_ok nmX10 rfl 24 65 (by decide) (by decide) (by decide)))).symm
      have m6275 := m6226.trans (Wr.neR wH6250 (Or.inr (x_apart hKT hts inX10 tyX10 tyX10_ok nmX10 rfl 27 65 (by decide) (by decide) (by decide)))).symm
      have m6276 := m6227.trans (Wr.neR wH6250 (Or.inr (x_apart hKT hts inX10 tyX10 tyX10_ok nmX10 rfl 29 65 (by decide) (by decide) (by decide)))).symm
      have m6277 := m6228.trans (Wr.neR wH6250 (Or.inr (x_apart hKT hts inX10 tyX10 tyX10_ok nmX10 rfl 30 65 (by decide) (by decide) (by decide)))).symm
      have m6278 := m6229.trans (Wr.neR wH6250 (Or.inr (x_apart hKT hts inX10 tyX10 tyX10_ok nmX10 rfl 31 65 (by decide) (by decide) (by decide)))).symm
      have m6279 := m6230.trans (Wr.neR wH6250 (Or.inr (x_apart hKT hts inX10 tyX10 tyX10_ok nmX10 rfl 32 65 (by decide) (by decide) (by decide)))).symm
      have m6280 := m6231.trans (Wr.neR wH6250 (Or.inr (x_apart hKT hts inX10 tyX10 tyX10_ok nmX10 rfl 33 65 (by decide) (by decide) (by decide)))).symm
      have m6281 := m6232.trans (Wr.neR wH6250 (Or.inr (x_apart hKT hts inX10 tyX10 tyX10_ok nmX10 rfl 50 65 (by decide) (by decide) (by decide)))).symm
      have m6283 := (Wr.neI wH6250 (Or.inr (x_apart hKT hts inX10 tyX10 tyX10_ok nmX10 rfl 0 65 (by decide) (by decide) (by decide)))).trans m6234
      have m6284 := m6235.trans (Wr.neI wH6250 (Or.inr (x_apart hKT hts inX10 tyX10 tyX10_ok nmX10 rfl 71 65 (by decide) (by decide) (by decide)))).symm
      have m6285 := (Wr.neI wH6250 (Or.inr (x_apart hKT hts inX10 tyX10 tyX10_ok nmX10 rfl 70 65 (by decide) (by decide) (by decide)))).trans m6236
      have m6286 := m6237.trans (Wr.neI wH6250 (Or.inr (x_apart hKT hts inX10 tyX10 tyX10_ok nmX10 rfl 1 65 (by decide) (by decide) (by decide)))).symm
      have m6287 := m6238.trans (Wr.neI wH6250 (Or.inr (x_apart hKT hts inX10 tyX10 tyX10_ok nmX10 rfl 2 65 (by decide) (by decide) (by decide)))).symm
      have m6288 := m6239.trans (Wr.neI wH6250 (Or.inr (x_apart hKT hts inX10 tyX10 tyX10_ok nmX10 rfl 3 65 (by decide) (by decide) (by decide)))).symm
      have m6289 := m6240.trans (Wr.neI wH6250 (Or.inr (x_apart hKT hts inX10 tyX10 tyX10_ok nmX10 rfl 59 65 (by decide) (by decide) (by decide)))).symm
      have m6290 := m6241.trans (Wr.neI wH6250 (Or.inr (x_apart hKT hts inX10 tyX10 tyX10_ok nmX10 rfl 62 65 (by decide) (by decide) (by decide)))).symm
      have m6291 := ex6203.trans (Wr.neI wH6250 (Or.inr (x_apart hKT hts inX10 tyX10 tyX10_ok nmX10 rfl 72 65 (by decide) (by decide) (by decide)))).symm
      have m6292 := Wr.I wH6250
      have m6292 := m6292.symm
      clear b6211 b6212 b6213 b6214 b6215 b6216 b6217 b6218 b6219 b6243 b6244 b6245 b6246 b6247 b6248 ex6203 f6220 g6205 hTH6201 m6204 m6222 m6223 m6224 m6225 m6226 m6227 m6228 m6229 m6230 m6231 m6232 m6233 m6234 m6235 m6236 m6237 m6238 m6239 m6240 m6241 mf6242 p6249
      refine lv_aload_n hx hb dX10_image_105 rfl (lv_at hl 0 rfl) ?_
      refine x_V (As := []) (rest := []) C (a_X10_keepsBars l K G H6250 (x6203) (x1) hTH6250 ga0 giq m6270 gq4 m6271 gq10 m6272 gq16 m6273 gq50 m6281 m6291 m6284 g6252 (by and_intros <;> first | assumption | omega) (fun h0 => IMw.congr (b6262 h0) hIW)) yo_X10_keepsBars wM_X10_479 ⟨⟨by decide, by decide⟩, by decide, by decide⟩ (x_rv C hTH6250 (ci := 10) rfl ga0 rg_112) rfl hl.1 rfl (Nat.le_of_ble_eq_true rfl) dX10_image_106 hSH6250 (AE_sub (fun _ _ => rfl) (by decide) hSH6250.1) (fun vH6293 H6293 locsH6293 pH6293 zH6293 kH6293 hSH6293 => ?_)
      obtain ⟨x6294, hvH6293, ex6294, hrH6293, m6295, m6296, m6297, m6298, m6299, g6300, mf6301, m6302, m6303, m6304, m6305, m6306, m6307, m6308, m6309, m6310, hTH6293⟩ := pH6293
      subst hvH6293
      clear zH6293
      replace m6295 := EQN.mk m6295
      replace m6296 := EQN.mk m6296
      replace m6297 := EQN.mk m6297
      replace m6298 := EQN.mk m6298
      replace m6299 := EQN.mk m6299
      have b6311 : UN (x1.toInt ≠ 0) (fun k => fI H6293 q24 k) (fun k => fI s.heap q24 k) := UN.congr (fun j => fI_kept (x_lt hTH6250 kH6293 gq24 (by decide))) b6255
      have b6312 : UN (x1.toInt ≠ 0) (fun k => fI H6293 q29 k) (fun k => fI s.heap q29 k) := UN.congr (fun j => fI_kept (x_lt hTH6250 kH6293 gq29 (by decide))) b6256
      have b6313 : UN (x1.toInt ≠ 0) (fun k => fI H6293 q30 k) (fun k => fI s.heap q30 k) := UN.congr (fun j => fI_kept (x_lt hTH6250 kH6293 gq30 (by decide))) b6257
      have b6314 : UN (x1.toInt ≠ 0) (fun k => fI H6293 q31 k) (fun k => fI s.heap q31 k) := UN.congr (fun j => fI_kept (x_lt hTH6250 kH6293 gq31 (by decide))) b6258
      have b6315 : UN (x1.toInt ≠ 0) (fun k => fI H6293 q32 k) (fun k => fI s.heap q32 k) := UN.congr (fun j => fI_kept (x_lt hTH6250 kH6293 gq32 (by decide))) b6259
      have b6316 : UN (x1.toInt ≠ 0) (fun k => fI H6293 q33 k) (fun k => fI s.heap q33 k) := UN.congr (fun j => fI_kept (x_lt hTH6250 kH6293 gq33 (by decide))) b6260
      have m6317 := (m6270).trans (MF.r mf6301 (k := 73) (by decide) (by decide)).symm
      have m6318 := (m6271).trans (MF.r mf6301 (k := 4) (by decide) (by decide)).symm
      have m6319 := (m6272).trans (MF.r mf6301 (k := 10) (by decide) (by decide)).symm
      have m6320 := (m6273).trans (MF.r mf6301 (k := 16) (by decide) (by decide)).symm
      have m6321 := (m6274).trans (MF.r mf6301 (k := 24) (by decide) (by decide)).symm
      have m6322 := (m6275).trans (MF.r mf6301 (k := 27) (by decide) (by decide)).symm
      have m6323 := (m6276).trans (MF.r mf6301 (k := 29) (by decide) (by decide)).symm
      have m6324 := (m6277).trans (MF.r mf6301 (k := 30) (by decide) (by decide)).symm
      have m6325 := (m6278).trans (MF.r mf6301 (k := 31) (by decide) (by decide)).symm
      have m6326 := (m6279).trans (MF.r mf6301 (k := 32) (by decide) (by decide)).symm
      have m6327 := (m6280).trans (MF.r mf6301 (k := 33) (by decide) (by decide)).symm
      have m6328 := (m6281).trans (MF.r mf6301 (k := 50) (by decide) (by decide)).symm
      have m6329 := (MF.i mf6301 (k := 0) (by decide) (by decide)).trans m6283
      have m6330 := (m6284).trans (MF.i mf6301 (k := 71) (by decide) (by decide)).symm
      have m6331 := (MF.i mf6301 (k := 70) (by decide) (by decide)).trans m6285
      have m6332 := (m6286).trans (MF.i mf6301 (k := 1) (by decide) (by decide)).symm
      have m6333 := (m6287).trans (MF.i mf6301 (k := 2) (by decide) (by decide)).symm
      have m6334 := (m6288).trans (MF.i mf6301 (k := 3) (by decide) (by decide)).symm
      have m6335 := (m6289).trans (MF.i mf6301 (k := 59) (by decide) (by decide)).symm
      have m6336 := (m6290).trans (MF.i mf6301 (k := 62) (by decide) (by decide)).symm
      have m6337 := (m6292).trans (MF.i mf6301 (k := 65) (by decide) (by decide)).symm
      have mf6338 : MF K s.heap H6293 a0 [0, 1, 2, 3, 59, 62, 65, 70, 71, 72] := MF.trans mf6251 mf6301 (by decide)
      have bx6294 := ty_fi (x := x6294) (k := 72) ex6294 hTH6293 ga0 rg_112 rfl
      have b6339 : UN (x1.toInt ≠ 0) (fun k => fI H6293 q4 k) (fun k => fI s.heap q4 k) := UN.tr m6308 b6253
      have b6340 : UN (x1.toInt ≠ 0) (fun k => fI H6293 q16 k) (fun k => fI s.heap q16 k) := UN.tr m6309 b6254
      have b6341 : UN (x1.toInt ≠ 0) (fun k => fI H6293 q50 k) (fun k => fI s.heap q50 k) := UN.tr m6310 b6261
      have b6342 : UN (x1.toInt = 0) (fun k => fI H6293 iq k) (fun k => fI s.heap iq k) := UN.tr m6302 b6262
      have b6343 : x5767 = fI H6293 iq (0) := (b6263).trans (m6303 _ (by omega)).symm
      have b6344 : x5850 = fI H6293 iq (1) := (b6264).trans (m6303 _ (by omega)).symm
      have b6345 : x5935 = fI H6293 iq (2) := (b6265).trans (m6303 _ (by omega)).symm
      have b6346 : x6022 = fI H6293 iq (3) := (b6266).trans (m6303 _ (by omega)).symm
      have b6347 : x6111 = fI H6293 iq (4) := (b6267).trans (m6303 _ (by omega)).symm
      have b6348 : x6202 = fI H6293 iq (5) := (b6268).trans (m6303 _ (by omega)).symm
      refine W.eq (g2 := F0 m 109 ls []) rfl ?_
      refine lv_aload_n hx hb dX10_image_109 rfl (lv_at hl 0 rfl) ?_
      refine x_V (As := []) (rest := []) C (a_X10_keepsTaps l K G H6293 (x6294) (x1) hTH6293 ga0 giq m6295 ex6294 m6330 g6300 (by and_intros <;> first | assumption | omega) (fun h0 => IMw.congr (b6342 h0) hIW)) yo_X10_keepsTaps wM_X10_482 ⟨⟨by decide, by decide⟩, by decide, by decide⟩ (x_rv C hTH6293 (ci := 10) rfl ga0 rg_112) rfl hl.1 rfl (Nat.le_of_ble_eq_true rfl) dX10_image_110 hSH6293 (AE_sub (fun _ _ => rfl) (by decide) hSH6293.1) (fun vH6349 H6349 locsH6349 pH6349 zH6349 kH6349 hSH6349 => ?_)
      obtain ⟨x6350, hvH6349, ex6350, hrH6349, m6351, g6352, mf6353, m6354, m6355, hTH6349⟩ := pH6349
      subst hvH6349
      clear zH6349
      replace m6351 := EQN.mk m6351
      have b6356 : UN (x1.toInt ≠ 0) (fun k => fI H6349 q24 k) (fun k => fI s.heap q24 k) := UN.congr (fun j => fI_kept (x_lt hTH6293 kH6349 gq24 (by decide))) b6311
      have b6357 : UN (x1.toInt ≠ 0) (fun k => fI H6349 q29 k) (fun k => fI s.heap q29 k) := UN.congr (fun j => fI_kept (x_lt hTH6293 kH6349 gq29 (by decide))) b6312
      have b6358 : UN (x1.toInt ≠ 0) (fun k => fI H6349 q30 k) (fun k => fI s.heap q30 k) := UN.congr (fun j => fI_kept (x_lt hTH6293 kH6349 gq30 (by decide))) b6313
      have b6359 : UN (x1.toInt ≠ 0) (fun k => fI H6349 q31 k) (fun k => fI s.heap q31 k) := UN.congr (fun j => fI_kept (x_lt hTH6293 kH6349 gq31 (by decide))) b6314
      have b6360 : UN (x1.toInt ≠ 0) (fun k => fI H6349 q32 k) (fun k => fI s.heap q32 k) := UN.congr (fun j => fI_kept (x_lt hTH6293 kH6349 gq32 (by decide))) b6315
      have b6361 : UN (x1.toInt ≠ 0) (fun k => fI H6349 q33 k) (fun k => fI s.heap q33 k) := UN.congr (fun j => fI_kept (x_lt hTH6293 kH6349 gq33 (by decide))) b6316
      have b6362 : UN (x1.toInt ≠ 0) (fun k => fI H6349 q4 k) (fun k => fI s.heap q4 k) := UN.congr (fun j => fI_kept (x_lt hTH6293 kH6349 gq4 (by decide))) b6339
      have b6363 : UN (x1.toInt ≠ 0) (fun k => fI H6349 q16 k) (fun k => fI s.heap q16 k) := UN.congr (fun j => fI_kept (x_lt hTH6293 kH6349 gq16 (by decide))) b6340
      have b6364 : UN (x1.toInt ≠ 0) (fun k => fI H6349 q50 k) (fun k => fI s.heap q50 k) := UN.congr (fun j => fI_kept (x_lt hTH6293 kH6349 gq50 (by decide))) b6341
      have m6365 := (m6295).trans (MF.r mf6353 (k := 73) (by decide) (by decide)).symm
      have m6366 := (m6296).trans (MF.r mf6353 (k := 4) (by decide) (by decide)).symm
      have m6367 := (m6297).trans (MF.r mf6353 (k := 10) (by decide) (by decide)).symm
      have m6368 := (m6298).trans (MF.r mf6353 (k := 16) (by decide) (by decide)).symm
      have m6369 := (m6321).trans (MF.r mf6353 (k := 24) (by decide) (by decide)).symm
      have m6370 := (m6322).trans (MF.r mf6353 (k := 27) (by decide) (by decide)).symm
      have m6371 := (m6323).trans (MF.r mf6353 (k := 29) (by decide) (by decide)).symm
      have m6372 := (m6324).trans (MF.r mf6353 (k := 30) (by decide) (by decide)).symm
      have m6373 := (m6325).trans (MF.r mf6353 (k := 31) (by decide) (by decide)).symm
      have m6374 := (m6326).trans (MF.r mf6353 (k := 32) (by decide) (by decide)).symm
      have m6375 := (m6327).trans (MF.r mf6353 (k := 33) (by decide) (by decide)).symm
      have m6376 := (m6299).trans (MF.r mf6353 (k := 50) (by decide) (by decide)).symm
      have m6377 := (MF.i mf6353 (k := 0) (by decide) (by decide)).trans m6329
      have m6378 := (m6330).trans (MF.i mf6353 (k := 71) (by decide) (by decide)).symm
      have m6379 := (MF.i mf6353 (k := 70) (by decide) (by decide)).trans m6331
      have m6380 := (m6332).trans (MF.i mf6353 (k := 1) (by decide) (by decide)).symm
      have m6381 := (m6333).trans (MF.i mf6353 (k := 2) (by decide) (by decide)).symm
      have m6382 := (m6334).trans (MF.i mf6353 (k := 3) (by decide) (by decide)).symm
      have m6383 := (m6335).trans (MF.i mf6353 (k := 59) (by decide) (by decide)).symm
      have m6384 := (m6336).trans (MF.i mf6353 (k := 62) (by decide) (by decide)).symm
      have m6385 := (m6337).trans (MF.i mf6353 (k := 65) (by decide) (by decide)).symm
      have mf6386 : MF K s.heap H6349 a0 [0, 1, 2, 3, 59, 62, 65, 70, 71, 72] := MF.trans mf6338 mf6353 (by decide)
      have bx6350 := ty_fi (x := x6350) (k := 72) ex6350 hTH6349 ga0 rg_112 rfl
      have b6387 : UN (x1.toInt = 0) (fun k => fI H6349 iq k) (fun k => fI s.heap iq k) := UN.tr m6354 b6342
      have b6388 : x5767 = fI H6349 iq (0) := (b6343).trans (m6355 _ (by omega)).symm
      have b6389 : x5850 = fI H6349 iq (1) := (b6344).trans (m6355 _ (by omega)).symm
      have b6390 : x5935 = fI H6349 iq (2) := (b6345).trans (m6355 _ (by omega)).symm
      have b6391 : x6022 = fI H6349 iq (3) := (b6346).trans (m6355 _ (by omega)).symm
      have b6392 : x6111 = fI H6349 iq (4) := (b6347).trans (m6355 _ (by omega)).symm
      have b6393 : x6202 = fI H6349 iq (5) := (b6348).trans (m6355 _ (by omega)).symm
      have b6394 : EQ (fun k => fI H6349 q4 k) (fun k => fI H6349 iq k) (6) (6) (10) := EQ.fb (EQ.congr (w1 := fun k => fI H6293 iq k) (fun j => fI_kept (x_lt hTH6293 kH6349 gq4 (by decide))) (fun _ => rfl) m6304) m6355 (fun j hj => by omega)
      have b6395 : EQ (fun k => fI H6349 q10 k) (fun k => fI H6349 iq k) (7) (6) (10) := EQ.fb (EQ.congr (w1 := fun k => fI H6293 iq k) (fun j => fI_kept (x_lt hTH6293 kH6349 gq10 (by decide))) (fun _ => rfl) m6305) m6355 (fun j hj => by omega)
      have b6396 : EQ (fun k => fI H6349 q50 k) (fun k => fI H6349 iq k) (11) (6) (10) := EQ.fb (EQ.congr (w1 := fun k => fI H6293 iq k) (fun j => fI_kept (x_lt hTH6293 kH6349 gq50 (by decide))) (fun _ => rfl) m6306) m6355 (fun j hj => by omega)
      have b6397 : EQ (fun k => fI H6349 q16 k) (fun k => fI H6349 iq k) (736) (3) (20) := EQ.fb (EQ.congr (w1 := fun k => fI H6293 iq k) (fun j => fI_kept (x_lt hTH6293 kH6349 gq16 (by decide))) (fun _ => rfl) m6307) m6355 (fun j hj => by omega)
      refine W.eq (g2 := F0 m 113 ls []) rfl ?_
      refine lv_aload_n hx hb dX10_image_113 rfl (lv_at hl 0 rfl) ?_
      refine x_V (As := []) (rest := []) C (a_X10_keepsTexts l K G H6349 (x6350) (x1) hTH6349 ga0 giq m6351 gq24 m6369 gq27 m6370 gq29 m6371 gq30 m6372 gq31 m6373 gq32 m6374 gq33 m6375 ex6350 m6378 g6352 (by and_intros <;> first | assumption | omega) (fun h0 => IMw.congr (b6387 h0) hIW)) yo_X10_keepsTexts wM_X10_485 ⟨⟨by decide, by decide⟩, by decide, by decide⟩ (x_rv C hTH6349 (ci := 10) rfl ga0 rg_112) rfl hl.1 rfl (Nat.le_of_ble_eq_true rfl) dX10_image_114 hSH6349 (AE_sub (fun _ _ => rfl) (by decide) hSH6349.1) (fun vH6398 H6398 locsH6398 pH6398 zH6398 kH6398 hSH6398 => ?_)
      obtain ⟨x6399, hvH6398, ex6399, hrH6398, m6400, m6401, m6402, m6403, m6404, m6405, m6406, m6407, g6408, mf6409, m6410, m6411, m6412, m6413, m6414, m6415, m6416, m6417, m6418, m6419, m6420, m6421, m6422, m6423, m6424, hTH6398⟩ := pH6398
      subst hvH6398
      clear zH6398
      replace m6400 := EQN.mk m6400
      replace m6401 := EQN.mk m6401
      replace m6402 := EQN.mk m6402
      replace m6403 := EQN.mk m6403
      replace m6404 := EQN.mk m6404
      replace m6405 := EQN.mk m6405
      replace m6406 := EQN.mk m6406
      replace m6407 := EQN.mk m6407
      have b6425 : UN (x1.toInt ≠ 0) (fun k => fI H6398 q4 k) (fun k => fI s.heap q4 k) := UN.congr (fun j => fI_kept (x_lt hTH6349 kH6398 gq4 (by decide))) b6362
      have b6426 : UN (x1.toInt ≠ 0) (fun k => fI H6398 q16 k) (fun k => fI s.heap q16 k) := UN.congr (fun j => fI_kept (x_lt hTH6349 kH6398 gq16 (by decide))) b6363
      have b6427 : UN (x1.toInt ≠ 0) (fun k => fI H6398 q50 k) (fun k => fI s.heap q50 k) := UN.congr (fun j => fI_kept (x_lt hTH6349 kH6398 gq50 (by decide))) b6364
      have m6428 := (m6351).trans (MF.r mf6409 (k := 73) (by decide) (by decide)).symm
      have m6429 := (m6366).trans (MF.r mf6409 (k := 4) (by decide) (by decide)).symm
      have m6430 := (m6367).trans (MF.r mf6409 (k := 10) (by decide) (by decide)).symm
      have m6431 := (m6368).trans (MF.r mf6409 (k := 16) (by decide) (by decide)).symm
      have m6432 := (m6369).trans (MF.r mf6409 (k := 24) (by decide) (by decide)).symm
      have m6433 := (m6370).trans (MF.r mf6409 (k := 27) (by decide) (by decide)).symm
      have m6434 := (m6371).trans (MF.r mf6409 (k := 29) (by decide) (by decide)).symm
      have m6435 := (m6372).trans (MF.r mf6409 (k := 30) (by decide) (by decide)).symm
      have m6436 := (m6373).trans (MF.r mf6409 (k := 31) (by decide) (by decide)).symm
      have m6437 := (m6374).trans (MF.r mf6409 (k := 32) (by decide) (by decide)).symm
      have m6438 := (m6375).trans (MF.r mf6409 (k := 33) (by decide) (by decide)).symm
      have m6439 := (m6376).trans (MF.r mf6409 (k := 50) (by decide) (by decide)).symm
      have m6440 := (MF.i mf6409 (k := 0) (by decide) (by decide)).trans m6377
      have m6441 := (m6378).trans (MF.i mf6409 (k := 71) (by decide) (by decide)).symm
      have m6442 := (MF.i mf6409 (k := 70) (by decide) (by decide)).trans m6379
      have m6443 := (m6380).trans (MF.i mf6409 (k := 1) (by decide) (by decide)).symm
      have m6444 := (m6381).trans (MF.i mf6409 (k := 2) (by decide) (by decide)).symm
      have m6445 := (m6382).trans (MF.i mf6409 (k := 3) (by decide) (by decide)).symm
      have m6446 := (m6383).trans (MF.i mf6409 (k := 59) (by decide) (by decide)).symm
      have m6447 := (m6384).trans (MF.i mf6409 (k := 62) (by decide) (by decide)).symm
      have m6448 := (m6385).trans (MF.i mf6409 (k := 65) (by decide) (by decide)).symm
      have mf6449 : MF K s.heap H6398 a0 [0, 1, 2, 3, 59, 62, 65, 70, 71, 72] := MF.trans mf6386 mf6409 (by decide)
      have bx6399 := ty_fi (x := x6399) (k := 72) ex6399 hTH6398 ga0 rg_112 rfl
      have b6450 : UN (x1.toInt ≠ 0) (fun k => fI H6398 q24 k) (fun k => fI s.heap q24 k) := UN.tr m6419 b6356
      have b6451 : UN (x1.toInt ≠ 0) (fun k => fI H6398 q29 k) (fun k => fI s.heap q29 k) := UN.tr m6420 b6357
      have b6452 : UN (x1.toInt ≠ 0) (fun k => fI H6398 q30 k) (fun k => fI s.heap q30 k) := UN.tr m6421 b6358
      have b6453 : UN (x1.toInt ≠ 0) (fun k => fI H6398 q31 k) (fun k => fI s.heap q31 k) := UN.tr m6422 b6359
      have b6454 : UN (x1.toInt ≠ 0) (fun k => fI H6398 q32 k) (fun k => fI s.heap q32 k) := UN.tr m6423 b6360
      have b6455 : UN (x1.toInt ≠ 0) (fun k => fI H6398 q33 k) (fun k => fI s.heap q33 k) := UN.tr m6424 b6361
      have b6456 : UN (x1.toInt = 0) (fun k => fI H6398 iq k) (fun k => fI s.heap iq k) := UN.tr m6410 b6387
      have b6457 : x5767 = fI H6398 iq (0) := (b6388).trans (m6411 _ (by omega)).symm
      have b6458 : x5850 = fI H6398 iq (1) := (b6389).trans (m6411 _ (by omega)).symm
      have b6459 : x5935 = fI H6398 iq (2) := (b6390).trans (m6411 _ (by omega)).symm
      have b6460 : x6022 = fI H6398 iq (3) := (b6391).trans (m6411 _ (by omega)).symm
      have b6461 : x6111 = fI H6398 iq (4) := (b6392).trans (m6411 _ (by omega)).symm
      have b6462 : x6202 = fI H6398 iq (5) := (b6393).trans (m6411 _ (by omega)).symm
      have b6463 : EQ (fun k => fI H6398 q4 k) (fun k => fI H6398 iq k) (6) (6) (10) := EQ.fb (EQ.congr (w1 := fun k => fI H6349 iq k) (fun j => fI_kept (x_lt hTH6349 kH6398 gq4 (by decide))) (fun _ => rfl) b6394) m6411 (fun j hj => by omega)
      have b6464 : EQ (fun k => fI H6398 q10 k) (fun k => fI H6398 iq k) (7) (6) (10) := EQ.fb (EQ.congr (w1 := fun k => fI H6349 iq k) (fun j => fI_kept (x_lt hTH6349 kH6398 gq10 (by decide))) (fun _ => rfl) b6395) m6411 (fun j hj => by omega)
      have b6465 : EQ (fun k => fI H6398 q50 k) (fun k => fI H6398 iq k) (11) (6) (10) := EQ.fb (EQ.congr (w1 := fun k => fI H6349 iq k) (fun j => fI_kept (x_lt hTH6349 kH6398 gq50 (by decide))) (fun _ => rfl) b6396) m6411 (fun j hj => by omega)
      have b6466 : EQ (fun k => fI H6398 q16 k) (fun k => fI H6398 iq k) (736) (3) (20) := EQ.fb (EQ.congr (w1 := fun k => fI H6349 iq k) (fun j => fI_kept (x_lt hTH6349 kH6398 gq16 (by decide))) (fun _ => rfl) b6397) m6411 (fun j hj => by omega)
      refine W.eq (g2 := F0 m 117 ls []) rfl ?_
      have fin := im_fin (H0 := s.heap) (tk := x1) hTH6398 ga0 hg_CG hg_TU hg_IM ⟨EQ.av m6429 m6400 b6463, EQ.av m6430 m6400 b6464, EQ.av m6439 m6400 b6465, EQ.av m6431 m6400 b6466, EQ.av m6401 m6400 m6412, EQ.av m6402 m6400 m6413, EQ.av m6403 m6400 m6414, EQ.av m6404 m6400 m6415, EQ.av m6405 m6400 m6416, EQ.av m6406 m6400 m6417, EQ.av m6407 m6400 m6418⟩ (pl_av m6443 b6457 m6400) (pl_av m6444 b6458 m6400) (pl_av m6446 b6460 m6400) (pl_av m6447 b6461 m6400) (pl_av m6448 b6462 m6400) (fun h => (m6443.symm.trans (m5773 h)).trans es1) (all8 (UN.av m6429 eq4 b6425) (UN.av m6431 eq16 b6426) (UN.av m6401 eq24 b6450) (UN.av m6403 eq29 b6451) (UN.av m6404 eq30 b6452) (UN.av m6405 eq31 b6453) (UN.av m6406 eq32 b6454) (UN.av m6407 eq33 b6455)) (UN.av m6400 eiq b6456)
      refine lv_iconst (v := 1) hx hb dX10_image_117 (by decide) ?_
      exact x_zret C hQ (Or.inr rfl) dX10_image_118 hSH6398 (by decide) (by decide) (⟨1, 1, x5767, x5850, x5935, x6022, x6111, x6202, rfl, by decide, (m6442).symm, m6443, m6444, m6445, m6446, m6447, m6448, by omega, m6400, m6429, m6430, m6431, m6401, m6402, m6403, m6404, m6405, m6406, m6407, m6439, fin.1, fin.2.1, g6408, fin.2.2, mf6449, Or.inr ⟨b6457, b6458, b6459, b6460, b6461, b6462⟩, (fun h => ⟨m5773 h, m5856 h, m5941 h, m6028 h, m6117 h, m6208 h⟩), b6456, Or.inr b6465, b6427, (fun h => by exfalso; omega), hTH6398⟩)
    · have k5648 := i_eq c5647
      refine lv_iconst (v := 0) hx hb dX10_image_16 (by decide) ?_
      exact x_zret C hQ (Or.inl rfl) dX10_image_17 hSH4789 (by decide) (by decide) (⟨0, h70, s1, s2, s3, s59, s62, s65, rfl, by decide, m4818, m4819, m4820, m4821, m4822, m4823, m4824, by omega, m4806, m4807, m4808, m4809, m4810, m4811, m4812, m4813, m4814, m4815, m4816, m4817, g4791, g4792, g4793, g4794, mf4790, Or.inl (by omega), (fun _ => ⟨rfl, rfl, rfl, rfl, rfl, rfl⟩), b4795, Or.inl (by omega), (fun h => by exfalso; omega), (fun _ => f4805), hTH4789⟩)
