theorem EQ.fb {f w w1 : Nat → Int32} {b s n m : Nat} (h : EQ f w b s n) (e : FB w1 w m) (ht : ∀ j, j < n → b + s * j < m) : EQ f w1 b s n := fun j hj => (h j hj).trans (e _ (ht j hj)).symm
theorem pl_av {K : KE} {H : Heap} {b k q p : Nat} {r : Int32} (h : r = fI H b (K.1.2 10 k)) (hp : r = fI H q p) (e : q = fR H b (K.1.2 10 73)) : svw K H b k = avw K H b 73 p := by subst e; exact h.symm.trans hp
theorem all8 {P : Nat → Prop} (h4 : P 4) (h16 : P 16) (h24 : P 24) (h29 : P 29) (h30 : P 30) (h31 : P 31) (h32 : P 32) (h33 : P 33) : ∀ k ∈ ([4, 16, 24, 29, 30, 31, 32, 33] : List Nat), P k := by
  intro k hk
  simp only [List.mem_cons, List.not_mem_nil, or_false] at hk
  rcases hk with rfl | rfl | rfl | rfl | rfl | rfl | rfl | rfl <;> assumption
set_option maxHeartbeats 4000000 in
set_option maxRecDepth 100000 in
theorem a_X10_image (l : Launch) (K : KE) (G : Nat → Option Nat) (H : Heap) {a0 : Nat} (x1 : Int32) {iq : Nat} {q4 : Nat} {q10 : Nat} {q16 : Nat} {q24 : Nat} {q27 : Nat} {q29 : Nat} {q30 : Nat} {q31 : Nat} {q32 : Nat} {q33 : Nat} {q50 : Nat} (h70 : Int32) (s1 : Int32) (s2 : Int32) (s3 : Int32) (s59 : Int32) (s62 : Int32) (s65 : Int32) (hT : TY K G H) (ga0 : G a0 = some 112) (hx1 : 0 ≤ x1.toInt ∧ x1.toInt ≤ 1) (giq : G iq = some 162) (eiq : iq = fR H a0 (K.1.2 10 73)) (gq4 : G q4 = some 113) (eq4 : q4 = fR H a0 (K.1.2 10 4)) (gq10 : G q10 = some 119) (eq10 : q10 = fR H a0 (K.1.2 10 10)) (gq16 : G q16 = some 125) (eq16 : q16 = fR H a0 (K.1.2 10 16)) (gq24 : G q24 = some 128) (eq24 : q24 = fR H a0 (K.1.2 10 24)) (gq27 : G q27 = some 131) (eq27 : q27 = fR H a0 (K.1.2 10 27)) (gq29 : G q29 = some 133) (eq29 : q29 = fR H a0 (K.1.2 10 29)) (gq30 : G q30 = some 134) (eq30 : q30 = fR H a0 (K.1.2 10 30)) (gq31 : G q31 = some 135) (eq31 : q31 = fR H a0 (K.1.2 10 31)) (gq32 : G q32 = some 136) (eq32 : q32 = fR H a0 (K.1.2 10 32)) (gq33 : G q33 = some 137) (eq33 : q33 = fR H a0 (K.1.2 10 33)) (gq50 : G q50 = some 146) (eq50 : q50 = fR H a0 (K.1.2 10 50)) (eh70 : h70 = fI H a0 (K.1.2 10 70)) (es1 : s1 = fI H a0 (K.1.2 10 1)) (es2 : s2 = fI H a0 (K.1.2 10 2)) (es3 : s3 = fI H a0 (K.1.2 10 3)) (es59 : s59 = fI H a0 (K.1.2 10 59)) (es62 : s62 = fI H a0 (K.1.2 10 62)) (es65 : s65 = fI H a0 (K.1.2 10 65)) (hg_CG : CG (avw K H a0)) (hg_TU : TU (avw K H a0) (svw K H a0)) (hg_WD : WD (avw K H a0)) (hg_IM : IM (avw K H a0)) : MX l K yX10_image cX10_image 2 (some .boolean) 2 42 0 0 [.ref a0, .int x1] H (AE G [112, 162, 113, 119, 122, 123, 124, 146, 114, 115, 116, 117, 118, 125, 154, 155, 120, 121, 147, 148, 149, 150, 156, 157, 158, 159, 128, 129, 130, 131, 132, 133, 134, 135, 136, 137] H.size) (fun v H1 => ∃ (r : Int32) (t0 : Int32) (t1 : Int32) (t2 : Int32) (t3 : Int32) (t4 : Int32) (t5 : Int32) (t6 : Int32), v = some (.int r) ∧ (0 ≤ r.toInt ∧ r.toInt ≤ 1) ∧ t0 = fI H1 a0 (K.1.2 10 70) ∧ t1 = fI H1 a0 (K.1.2 10 1) ∧ t2 = fI H1 a0 (K.1.2 10 2) ∧ t3 = fI H1 a0 (K.1.2 10 3) ∧ t4 = fI H1 a0 (K.1.2 10 59) ∧ t5 = fI H1 a0 (K.1.2 10 62) ∧ t6 = fI H1 a0 (K.1.2 10 65) ∧ ((x1.toInt = 0 ∧ h70.toInt = 0 ∧ r.toInt = 0 ∧ t0.toInt = 0 ∧ t1.toInt = s1.toInt ∧ t2.toInt = s2.toInt ∧ t3.toInt = s3.toInt ∧ t4.toInt = s59.toInt ∧ t5.toInt = s62.toInt ∧ t6.toInt = s65.toInt) ∨ (r.toInt = 1 ∧ t0.toInt = 1 ∧ (x1.toInt ≠ 0 ∨ h70.toInt ≠ 0))) ∧ iq = fR H1 a0 (K.1.2 10 73) ∧ q4 = fR H1 a0 (K.1.2 10 4) ∧ q10 = fR H1 a0 (K.1.2 10 10) ∧ q16 = fR H1 a0 (K.1.2 10 16) ∧ q24 = fR H1 a0 (K.1.2 10 24) ∧ q27 = fR H1 a0 (K.1.2 10 27) ∧ q29 = fR H1 a0 (K.1.2 10 29) ∧ q30 = fR H1 a0 (K.1.2 10 30) ∧ q31 = fR H1 a0 (K.1.2 10 31) ∧ q32 = fR H1 a0 (K.1.2 10 32) ∧ q33 = fR H1 a0 (K.1.2 10 33) ∧ q50 = fR H1 a0 (K.1.2 10 50) ∧ (CG (avw K H1 a0)) ∧ (TU (avw K H1 a0) (svw K H1 a0)) ∧ (WD (avw K H1 a0)) ∧ (IM (avw K H1 a0)) ∧ MF K H H1 a0 [0, 1, 2, 3, 59, 62, 65, 70, 71, 72] ∧ (r.toInt = 0 ∨ (t1 = fI H1 iq 0 ∧ t2 = fI H1 iq 1 ∧ t3 = fI H1 iq 2 ∧ t4 = fI H1 iq 3 ∧ t5 = fI H1 iq 4 ∧ t6 = fI H1 iq 5)) ∧ (x1.toInt ≠ 0 → t1 = s1 ∧ t2 = s2 ∧ t3 = s3 ∧ t4 = s59 ∧ t5 = s62 ∧ t6 = s65) ∧ (x1.toInt = 0 → ∀ j : Nat, fI H1 iq j = fI H iq j) ∧ (r.toInt = 0 ∨ ∀ j : Nat, j < 10 → fI H1 q4 j = fI H1 iq (6 + 6 * j)) ∧ (x1.toInt ≠ 0 → ∀ j : Nat, fI H1 q4 j = fI H q4 j) ∧ (r.toInt = 0 → ∀ j : Nat, fI H1 q4 j = fI H q4 j) ∧ TY K G H1) := by
  refine MX.of (by decide +kernel) (Nat.le_of_ble_eq_true rfl) ?_
  intro p e s m below meth c ls Q C hH hl hQ
  subst hH
  have C : CX p K s m _ meth c RX10 cX10_image 2 (some .boolean) "image" := C
  obtain ⟨hx, hb, hml, hown, hts, hKT, hr, hlocks, hnm⟩ := id C
  have hl : lv_has ls 2 [(0, .ref a0), (1, .int x1)] := hl
  have hS : va_S (AE G [112, 162, 113, 119, 122, 123, 124, 146, 114, 115, 116, 117, 118, 125, 154, 155, 120, 121, 147, 148, 149, 150, 156, 157, 158, 159, 128, 129, 130, 131, 132, 133, 134, 135, 136, 137] s.heap.size) s.heap s.heap [] := va_S.rf
  have n_0 : (0 : Int32).toInt = 0 := rfl
  have n_1 : (1 : Int32).toInt = 1 := rfl
  have bh70 := ty_fi (x := h70) (k := 70) eh70 hT ga0 rg_112 rfl
  have bs1 := ty_fi (x := s1) (k := 1) es1 hT ga0 rg_112 rfl
  have bs2 := ty_fi (x := s2) (k := 2) es2 hT ga0 rg_112 rfl
  have bs3 := ty_fi (x := s3) (k := 3) es3 hT ga0 rg_112 rfl
  have bs59 := ty_fi (x := s59) (k := 59) es59 hT ga0 rg_112 rfl
  have bs62 := ty_fi (x := s62) (k := 62) es62 hT ga0 rg_112 rfl
  have bs65 := ty_fi (x := s65) (k := 65) es65 hT ga0 rg_112 rfl
  have hap : ∀ x y, x < 74 → y < 74 → x ≠ y → K.1.2 10 x ≠ K.1.2 10 y := x_apart hKT hts inX10 tyX10 tyX10_ok nmX10 rfl
  have mf0 : MF K s.heap s.heap a0 [0, 1, 2, 3, 59, 62, 65, 70, 71, 72] := fun _ _ _ => rfl
  replace eiq := EQN.mk eiq
  replace eq4 := EQN.mk eq4
  replace eq10 := EQN.mk eq10
  replace eq16 := EQN.mk eq16
  replace eq24 := EQN.mk eq24
  replace eq27 := EQN.mk eq27
  replace eq29 := EQN.mk eq29
  replace eq30 := EQN.mk eq30
  replace eq31 := EQN.mk eq31
  replace eq32 := EQN.mk eq32
  replace eq33 := EQN.mk eq33
  replace eq50 := EQN.mk eq50
  have f0_f4 : ∀ j : Nat, fI s.heap q4 j = fI s.heap q4 j := fun _ => rfl
  have hIW := IM.w hg_IM eiq
  have ui00 : UN (x1.toInt = 0) (fun k => fI s.heap iq k) (fun k => fI s.heap iq k) := UN.rf
  have u400 : UN (x1.toInt ≠ 0) (fun k => fI s.heap q4 k) (fun k => fI s.heap q4 k) := UN.rf
  have u1600 : UN (x1.toInt ≠ 0) (fun k => fI s.heap q16 k) (fun k => fI s.heap q16 k) := UN.rf
  have u2400 : UN (x1.toInt ≠ 0) (fun k => fI s.heap q24 k) (fun k => fI s.heap q24 k) := UN.rf
  have u2900 : UN (x1.toInt ≠ 0) (fun k => fI s.heap q29 k) (fun k => fI s.heap q29 k) := UN.rf
  have u3000 : UN (x1.toInt ≠ 0) (fun k => fI s.heap q30 k) (fun k => fI s.heap q30 k) := UN.rf
  have u3100 : UN (x1.toInt ≠ 0) (fun k => fI s.heap q31 k) (fun k => fI s.heap q31 k) := UN.rf
  have u3200 : UN (x1.toInt ≠ 0) (fun k => fI s.heap q32 k) (fun k => fI s.heap q32 k) := UN.rf
  have u3300 : UN (x1.toInt ≠ 0) (fun k => fI s.heap q33 k) (fun k => fI s.heap q33 k) := UN.rf
  refine lv_aload_n hx hb dX10_image_0 rfl (lv_at hl 0 rfl) ?_
  refine lv_iconst (v := 0) hx hb dX10_image_1 (by decide) ?_
  refine x_put C hT hS (ci := 10) (k := 0) (v := .int 0) (ty0 := tyX10) rfl inX10 tyX10_ok nmX10 (by decide) rfl wF_X10_167 ga0 rg_112 rfl rfl (okI (by have := i_rng (0 : Int32); omega) (by have := i_rng (0 : Int32); omega)) rfl rfl (AE_in ga0 (by decide)) dX10_image_2 (fun H4781 locsH4781 hTH4781 hSH4781 wH4781 => ?_)
  have mf4782 : MF K s.heap H4781 a0 [0, 1, 2, 3, 59, 62, 65, 70, 71, 72] := MF.fld hap wH4781 (by decide) (by decide) mf0
  have g4783 : CG (avw K H4781 a0) := CG.congr (fun k hk j => av_fld hT ga0 hap wH4781 (by decide) (CG_ok 112 (by decide) k hk) (CG_ne 0 (by decide) k hk)) hg_CG
  have g4784 : TU (avw K H4781 a0) (svw K H4781 a0) := TU.congr (fun k hk j => av_fld hT ga0 hap wH4781 (by decide) (TU_ok 112 (by decide) k hk) (TU_ne 0 (by decide) k hk)) (fun k hk => sv_fld hap wH4781 (by decide) (TU_slt k hk) (TU_sne 0 (by decide) k hk)) hg_TU
  have g4785 : WD (avw K H4781 a0) := WD.congr (fun k hk j => av_fld hT ga0 hap wH4781 (by decide) (WD_ok 112 (by decide) k hk) (WD_ne 0 (by decide) k hk)) hg_WD
  have g4786 : IM (avw K H4781 a0) := IM.congr (fun k hk j => av_fld hT ga0 hap wH4781 (by decide) (IM_ok 112 (by decide) k hk) (IM_ne 0 (by decide) k hk)) hg_IM
  have b4787 : UN (x1.toInt = 0) (fun k => fI H4781 iq k) (fun k => fI s.heap iq k) := UN.congr (fun j => Wr.neI wH4781 (Or.inl (G_ne giq ga0 (by decide)))) ui00
  have b4788 : UN (x1.toInt ≠ 0) (fun k => fI H4781 q4 k) (fun k => fI s.heap q4 k) := UN.congr (fun j => Wr.neI wH4781 (Or.inl (G_ne gq4 ga0 (by decide)))) u400
  have b4789 : UN (x1.toInt ≠ 0) (fun k => fI H4781 q16 k) (fun k => fI s.heap q16 k) := UN.congr (fun j => Wr.neI wH4781 (Or.inl (G_ne gq16 ga0 (by decide)))) u1600
  have b4790 : UN (x1.toInt ≠ 0) (fun k => fI H4781 q24 k) (fun k => fI s.heap q24 k) := UN.congr (fun j => Wr.neI wH4781 (Or.inl (G_ne gq24 ga0 (by decide)))) u2400
  have b4791 : UN (x1.toInt ≠ 0) (fun k => fI H4781 q29 k) (fun k => fI s.heap q29 k) := UN.congr (fun j => Wr.neI wH4781 (Or.inl (G_ne gq29 ga0 (by decide)))) u2900
  have b4792 : UN (x1.toInt ≠ 0) (fun k => fI H4781 q30 k) (fun k => fI s.heap q30 k) := UN.congr (fun j => Wr.neI wH4781 (Or.inl (G_ne gq30 ga0 (by decide)))) u3000
  have b4793 : UN (x1.toInt ≠ 0) (fun k => fI H4781 q31 k) (fun k => fI s.heap q31 k) := UN.congr (fun j => Wr.neI wH4781 (Or.inl (G_ne gq31 ga0 (by decide)))) u3100
  have b4794 : UN (x1.toInt ≠ 0) (fun k => fI H4781 q32 k) (fun k => fI s.heap q32 k) := UN.congr (fun j => Wr.neI wH4781 (Or.inl (G_ne gq32 ga0 (by decide)))) u3200
  have b4795 : UN (x1.toInt ≠ 0) (fun k => fI H4781 q33 k) (fun k => fI s.heap q33 k) := UN.congr (fun j => Wr.neI wH4781 (Or.inl (G_ne gq33 ga0 (by decide)))) u3300
  have f4796 : ∀ j : Nat, fI H4781 q4 j = fI s.heap q4 j := fun j => (Wr.neI wH4781 (Or.inl (G_ne gq4 ga0 (by decide)))).trans (f0_f4 j)
  have m4797 := eiq.trans (Wr.neR wH4781 (Or.inr (x_apart hKT hts inX10 tyX10 tyX10_ok nmX10 rfl 73 0 (by decide) (by decide) (by decide)))).symm
  have m4798 := eq4.trans (Wr.neR wH4781 (Or.inr (x_apart hKT hts inX10 tyX10 tyX10_ok nmX10 rfl 4 0 (by decide) (by decide) (by decide)))).symm
  have m4799 := eq10.trans (Wr.neR wH4781 (Or.inr (x_apart hKT hts inX10 tyX10 tyX10_ok nmX10 rfl 10 0 (by decide) (by decide) (by decide)))).symm
  have m4800 := eq16.trans (Wr.neR wH4781 (Or.inr (x_apart hKT hts inX10 tyX10 tyX10_ok nmX10 rfl 16 0 (by decide) (by decide) (by decide)))).symm
  have m4801 := eq24.trans (Wr.neR wH4781 (Or.inr (x_apart hKT hts inX10 tyX10 tyX10_ok nmX10 rfl 24 0 (by decide) (by decide) (by decide)))).symm
  have m4802 := eq27.trans (Wr.neR wH4781 (Or.inr (x_apart hKT hts inX10 tyX10 tyX10_ok nmX10 rfl 27 0 (by decide) (by decide) (by decide)))).symm
  have m4803 := eq29.trans (Wr.neR wH4781 (Or.inr (x_apart hKT hts inX10 tyX10 tyX10_ok nmX10 rfl 29 0 (by decide) (by decide) (by decide)))).symm
  have m4804 := eq30.trans (Wr.neR wH4781 (Or.inr (x_apart hKT hts inX10 tyX10 tyX10_ok nmX10 rfl 30 0 (by decide) (by decide) (by decide)))).symm
  have m4805 := eq31.trans (Wr.neR wH4781 (Or.inr (x_apart hKT hts inX10 tyX10 tyX10_ok nmX10 rfl 31 0 (by decide) (by decide) (by decide)))).symm
  have m4806 := eq32.trans (Wr.neR wH4781 (Or.inr (x_apart hKT hts inX10 tyX10 tyX10_ok nmX10 rfl 32 0 (by decide) (by decide) (by decide)))).symm
  have m4807 := eq33.trans (Wr.neR wH4781 (Or.inr (x_apart hKT hts inX10 tyX10 tyX10_ok nmX10 rfl 33 0 (by decide) (by decide) (by decide)))).symm
  have m4808 := eq50.trans (Wr.neR wH4781 (Or.inr (x_apart hKT hts inX10 tyX10 tyX10_ok nmX10 rfl 50 0 (by decide) (by decide) (by decide)))).symm
  have m4809 := eh70.trans (Wr.neI wH4781 (Or.inr (x_apart hKT hts inX10 tyX10 tyX10_ok nmX10 rfl 70 0 (by decide) (by decide) (by decide)))).symm
  have m4810 := es1.trans (Wr.neI wH4781 (Or.inr (x_apart hKT hts inX10 tyX10 tyX10_ok nmX10 rfl 1 0 (by decide) (by decide) (by decide)))).symm
  have m4811 := es2.trans (Wr.neI wH4781 (Or.inr (x_apart hKT hts inX10 tyX10 tyX10_ok nmX10 rfl 2 0 (by decide) (by decide) (by decide)))).symm
  have m4812 := es3.trans (Wr.neI wH4781 (Or.inr (x_apart hKT hts inX10 tyX10 tyX10_ok nmX10 rfl 3 0 (by decide) (by decide) (by decide)))).symm
  have m4813 := es59.trans (Wr.neI wH4781 (Or.inr (x_apart hKT hts inX10 tyX10 tyX10_ok nmX10 rfl 59 0 (by decide) (by decide) (by decide)))).symm
  have m4814 := es62.trans (Wr.neI wH4781 (Or.inr (x_apart hKT hts inX10 tyX10 tyX10_ok nmX10 rfl 62 0 (by decide) (by decide) (by decide)))).symm
  have m4815 := es65.trans (Wr.neI wH4781 (Or.inr (x_apart hKT hts inX10 tyX10 tyX10_ok nmX10 rfl 65 0 (by decide) (by decide) (by decide)))).symm
  have m4816 := Wr.I wH4781
  clear f0_f4 mf0 u1600 u2400 u2900 u3000 u3100 u3200 u3300 u400 ui00
  refine lv_iload_n hx hb dX10_image_5 rfl (lv_at hl 1 rfl) ?_
  refine lv_if_ne (tgt := 18) hx hb dX10_image_6 (by decide) (fun c4817 => ?_) (fun c4817 => ?_)
  · have k4818 := i_ne c4817
    refine lv_aload_n hx hb dX10_image_18 rfl (lv_at hl 0 rfl) ?_
    refine lv_iload_n hx hb dX10_image_19 rfl (lv_at hl 1 rfl) ?_
    refine x_put C hTH4781 hSH4781 (ci := 10) (k := 71) (v := .int x1) (ty0 := tyX10) rfl inX10 tyX10_ok nmX10 (by decide) rfl wF_X10_470 ga0 rg_112 rfl rfl (okI (by have := i_rng x1; omega) (by have := i_rng x1; omega)) (by rcases i_01 (x := x1) (by omega) with h | h <;> rw [h] <;> rfl) (by rcases i_01 (x := x1) (by omega) with h | h <;> rw [h] <;> rfl) (AE_in ga0 (by decide)) dX10_image_20 (fun H4819 locsH4819 hTH4819 hSH4819 wH4819 => ?_)
    have mf4820 : MF K s.heap H4819 a0 [0, 1, 2, 3, 59, 62, 65, 70, 71, 72] := MF.fld hap wH4819 (by decide) (by decide) mf4782
    have g4821 : CG (avw K H4819 a0) := CG.congr (fun k hk j => av_fld hTH4781 ga0 hap wH4819 (by decide) (CG_ok 112 (by decide) k hk) (CG_ne 71 (by decide) k hk)) g4783
    have g4822 : TU (avw K H4819 a0) (svw K H4819 a0) := TU.congr (fun k hk j => av_fld hTH4781 ga0 hap wH4819 (by decide) (TU_ok 112 (by decide) k hk) (TU_ne 71 (by decide) k hk)) (fun k hk => sv_fld hap wH4819 (by decide) (TU_slt k hk) (TU_sne 71 (by decide) k hk)) g4784
    have g4823 : WD (avw K H4819 a0) := WD.congr (fun k hk j => av_fld hTH4781 ga0 hap wH4819 (by decide) (WD_ok 112 (by decide) k hk) (WD_ne 71 (by decide) k hk)) g4785
    have g4824 : IM (avw K H4819 a0) := IM.congr (fun k hk j => av_fld hTH4781 ga0 hap wH4819 (by decide) (IM_ok 112 (by decide) k hk) (IM_ne 71 (by decide) k hk)) g4786
    have b4825 : UN (x1.toInt = 0) (fun k => fI H4819 iq k) (fun k => fI s.heap iq k) := UN.congr (fun j => Wr.neI wH4819 (Or.inl (G_ne giq ga0 (by decide)))) b4787
    have b4826 : UN (x1.toInt ≠ 0) (fun k => fI H4819 q4 k) (fun k => fI s.heap q4 k) := UN.congr (fun j => Wr.neI wH4819 (Or.inl (G_ne gq4 ga0 (by decide)))) b4788
    have b4827 : UN (x1.toInt ≠ 0) (fun k => fI H4819 q16 k) (fun k => fI s.heap q16 k) := UN.congr (fun j => Wr.neI wH4819 (Or.inl (G_ne gq16 ga0 (by decide)))) b4789
    have b4828 : UN (x1.toInt ≠ 0) (fun k => fI H4819 q24 k) (fun k => fI s.heap q24 k) := UN.congr (fun j => Wr.neI wH4819 (Or.inl (G_ne gq24 ga0 (by decide)))) b4790
    have b4829 : UN (x1.toInt ≠ 0) (fun k => fI H4819 q29 k) (fun k => fI s.heap q29 k) := UN.congr (fun j => Wr.neI wH4819 (Or.inl (G_ne gq29 ga0 (by decide)))) b4791
    have b4830 : UN (x1.toInt ≠ 0) (fun k => fI H4819 q30 k) (fun k => fI s.heap q30 k) := UN.congr (fun j => Wr.neI wH4819 (Or.inl (G_ne gq30 ga0 (by decide)))) b4792
    have b4831 : UN (x1.toInt ≠ 0) (fun k => fI H4819 q31 k) (fun k => fI s.heap q31 k) := UN.congr (fun j => Wr.neI wH4819 (Or.inl (G_ne gq31 ga0 (by decide)))) b4793
    have b4832 : UN (x1.toInt ≠ 0) (fun k => fI H4819 q32 k) (fun k => fI s.heap q32 k) := UN.congr (fun j => Wr.neI wH4819 (Or.inl (G_ne gq32 ga0 (by decide)))) b4794
    have b4833 : UN (x1.toInt ≠ 0) (fun k => fI H4819 q33 k) (fun k => fI s.heap q33 k) := UN.congr (fun j => Wr.neI wH4819 (Or.inl (G_ne gq33 ga0 (by decide)))) b4795
    have f4834 : ∀ j : Nat, fI H4819 q4 j = fI s.heap q4 j := fun j => (Wr.neI wH4819 (Or.inl (G_ne gq4 ga0 (by decide)))).trans (f4796 j)
    have m4835 := m4797.trans (Wr.neR wH4819 (Or.inr (x_apart hKT hts inX10 tyX10 tyX10_ok nmX10 rfl 73 71 (by decide) (by decide) (by decide)))).symm
    have m4836 := m4798.trans (Wr.neR wH4819 (Or.inr (x_apart hKT hts inX10 tyX10 tyX10_ok nmX10 rfl 4 71 (by decide) (by decide) (by decide)))).symm
    have m4837 := m4799.trans (Wr.neR wH4819 (Or.inr (x_apart hKT hts inX10 tyX10 tyX10_ok nmX10 rfl 10 71 (by decide) (by decide) (by decide)))).symm
    have m4838 := m4800.trans (Wr.neR wH4819 (Or.inr (x_apart hKT hts inX10 tyX10 tyX10_ok nmX10 rfl 16 71 (by decide) (by decide) (by decide)))).symm
    have m4839 := m4801.trans (Wr.neR wH4819 (Or.inr (x_apart hKT hts inX10 tyX10 tyX10_ok nmX10 rfl 24 71 (by decide) (by decide) (by decide)))).symm
    have m4840 := m4802.trans (Wr.neR wH4819 (Or.inr (x_apart hKT hts inX10 tyX10 tyX10_ok nmX10 rfl 27 71 (by decide) (by decide) (by decide)))).symm
    have m4841 := m4803.trans (Wr.neR wH4819 (Or.inr (x_apart hKT hts inX10 tyX10 tyX10_ok nmX10 rfl 29 71 (by decide) (by decide) (by decide)))).symm
    have m4842 := m4804.trans (Wr.neR wH4819 (Or.inr (x_apart hKT hts inX10 tyX10 tyX10_ok nmX10 rfl 30 71 (by decide) (by decide) (by decide)))).symm
    have m4843 := m4805.trans (Wr.neR wH4819 (Or.inr (x_apart hKT hts inX10 tyX10 tyX10_ok nmX10 rfl 31 71 (by decide) (by decide) (by decide)))).symm
    have m4844 := m4806.trans (Wr.neR wH4819 (Or.inr (x_apart hKT hts inX10 tyX10 tyX10_ok nmX10 rfl 32 71 (by decide) (by decide) (by decide)))).symm
    have m4845 := m4807.trans (Wr.neR wH4819 (Or.inr (x_apart hKT hts inX10 tyX10 tyX10_ok nmX10 rfl 33 71 (by decide) (by decide) (by decide)))).symm
    have m4846 := m4808.trans (Wr.neR wH4819 (Or.inr (x_apart hKT hts inX10 tyX10 tyX10_ok nmX10 rfl 50 71 (by decide) (by decide) (by decide)))).symm
    have m4847 := m4809.trans (Wr.neI wH4819 (Or.inr (x_apart hKT hts inX10 tyX10 tyX10_ok nmX10 rfl 70 71 (by decide) (by decide) (by decide)))).symm
    have m4848 := m4810.trans (Wr.neI wH4819 (Or.inr (x_apart hKT hts inX10 tyX10 tyX10_ok nmX10 rfl 1 71 (by decide) (by decide) (by decide)))).symm
    have m4849 := m4811.trans (Wr.neI wH4819 (Or.inr (x_apart hKT hts inX10 tyX10 tyX10_ok nmX10 rfl 2 71 (by decide) (by decide) (by decide)))).symm
    have m4850 := m4812.trans (Wr.neI wH4819 (Or.inr (x_apart hKT hts inX10 tyX10 tyX10_ok nmX10 rfl 3 71 (by decide) (by decide) (by decide)))).symm
    have m4851 := m4813.trans (Wr.neI wH4819 (Or.inr (x_apart hKT hts inX10 tyX10 tyX10_ok nmX10 rfl 59 71 (by decide) (by decide) (by decide)))).symm
    have m4852 := m4814.trans (Wr.neI wH4819 (Or.inr (x_apart hKT hts inX10 tyX10 tyX10_ok nmX10 rfl 62 71 (by decide) (by decide) (by decide)))).symm
    have m4853 := m4815.trans (Wr.neI wH4819 (Or.inr (x_apart hKT hts inX10 tyX10 tyX10_ok nmX10 rfl 65 71 (by decide) (by decide) (by decide)))).symm
    have m4854 := (Wr.neI wH4819 (Or.inr (x_apart hKT hts inX10 tyX10 tyX10_ok nmX10 rfl 0 71 (by decide) (by decide) (by decide)))).trans m4816
    have m4855 := Wr.I wH4819
    have m4855 := m4855.symm
    clear b4787 b4788 b4789 b4790 b4791 b4792 b4793 b4794 b4795 f4796 g4783 g4784 g4785 g4786 hTH4781 m4797 m4798 m4799 m4800 m4801 m4802 m4803 m4804 m4805 m4806 m4807 m4808 m4809 m4810 m4811 m4812 m4813 m4814 m4815 m4816 mf4782
    refine lv_aload_n hx hb dX10_image_23 rfl (lv_at hl 0 rfl) ?_
    refine lv_iconst (v := 1) hx hb dX10_image_24 (by decide) ?_
    refine x_put C hTH4819 hSH4819 (ci := 10) (k := 70) (v := .int 1) (ty0 := tyX10) rfl inX10 tyX10_ok nmX10 (by decide) rfl wF_X10_476 ga0 rg_112 rfl rfl (okI (by have := i_rng (1 : Int32); omega) (by have := i_rng (1 : Int32); omega)) rfl rfl (AE_in ga0 (by decide)) dX10_image_25 (fun H4856 locsH4856 hTH4856 hSH4856 wH4856 => ?_)
    have mf4857 : MF K s.heap H4856 a0 [0, 1, 2, 3, 59, 62, 65, 70, 71, 72] := MF.fld hap wH4856 (by decide) (by decide) mf4820
    have g4858 : CG (avw K H4856 a0) := CG.congr (fun k hk j => av_fld hTH4819 ga0 hap wH4856 (by decide) (CG_ok 112 (by decide) k hk) (CG_ne 70 (by decide) k hk)) g4821
    have g4859 : TU (avw K H4856 a0) (svw K H4856 a0) := TU.congr (fun k hk j => av_fld hTH4819 ga0 hap wH4856 (by decide) (TU_ok 112 (by decide) k hk) (TU_ne 70 (by decide) k hk)) (fun k hk => sv_fld hap wH4856 (by decide) (TU_slt k hk) (TU_sne 70 (by decide) k hk)) g4822
    have g4860 : WD (avw K H4856 a0) := WD.congr (fun k hk j => av_fld hTH4819 ga0 hap wH4856 (by decide) (WD_ok 112 (by decide) k hk) (WD_ne 70 (by decide) k hk)) g4823
    have g4861 : IM (avw K H4856 a0) := IM.congr (fun k hk j => av_fld hTH4819 ga0 hap wH4856 (by decide) (IM_ok 112 (by decide) k hk) (IM_ne 70 (by decide) k hk)) g4824
    have b4862 : UN (x1.toInt = 0) (fun k => fI H4856 iq k) (fun k => fI s.heap iq k) := UN.congr (fun j => Wr.neI wH4856 (Or.inl (G_ne giq ga0 (by decide)))) b4825
    have b4863 : UN (x1.toInt ≠ 0) (fun k => fI H4856 q4 k) (fun k => fI s.heap q4 k) := UN.congr (fun j => Wr.neI wH4856 (Or.inl (G_ne gq4 ga0 (by decide)))) b4826
    have b4864 : UN (x1.toInt ≠ 0) (fun k => fI H4856 q16 k) (fun k => fI s.heap q16 k) := UN.congr (fun j => Wr.neI wH4856 (Or.inl (G_ne gq16 ga0 (by decide)))) b4827
    have b4865 : UN (x1.toInt ≠ 0) (fun k => fI H4856 q24 k) (fun k => fI s.heap q24 k) := UN.congr (fun j => Wr.neI wH4856 (Or.inl (G_ne gq24 ga0 (by decide)))) b4828
    have b4866 : UN (x1.toInt ≠ 0) (fun k => fI H4856 q29 k) (fun k => fI s.heap q29 k) := UN.congr (fun j => Wr.neI wH4856 (Or.inl (G_ne gq29 ga0 (by decide)))) b4829
    have b4867 : UN (x1.toInt ≠ 0) (fun k => fI H4856 q30 k) (fun k => fI s.heap q30 k) := UN.congr (fun j => Wr.neI wH4856 (Or.inl (G_ne gq30 ga0 (by decide)))) b4830
    have b4868 : UN (x1.toInt ≠ 0) (fun k => fI H4856 q31 k) (fun k => fI s.heap q31 k) := UN.congr (fun j => Wr.neI wH4856 (Or.inl (G_ne gq31 ga0 (by decide)))) b4831
    have b4869 : UN (x1.toInt ≠ 0) (fun k => fI H4856 q32 k) (fun k => fI s.heap q32 k) := UN.congr (fun j => Wr.neI wH4856 (Or.inl (G_ne gq32 ga0 (by decide)))) b4832
    have b4870 : UN (x1.toInt ≠ 0) (fun k => fI H4856 q33 k) (fun k => fI s.heap q33 k) := UN.congr (fun j => Wr.neI wH4856 (Or.inl (G_ne gq33 ga0 (by decide)))) b4833
    have f4871 : ∀ j : Nat, fI H4856 q4 j = fI s.heap q4 j := fun j => (Wr.neI wH4856 (Or.inl (G_ne gq4 ga0 (by decide)))).trans (f4834 j)
    have m4872 := m4835.trans (Wr.neR wH4856 (Or.inr (x_apart hKT hts inX10 tyX10 tyX10_ok nmX10 rfl 73 70 (by decide) (by decide) (by decide)))).symm
    have m4873 := m4836.trans (Wr.neR wH4856 (Or.inr (x_apart hKT hts inX10 tyX10 tyX10_ok nmX10 rfl 4 70 (by decide) (by decide) (by decide)))).symm
    have m4874 := m4837.trans (Wr.neR wH4856 (Or.inr (x_apart hKT hts inX10 tyX10 tyX10_ok nmX10 rfl 10 70 (by decide) (by decide) (by decide)))).symm
    have m4875 := m4838.trans (Wr.neR wH4856 (Or.inr (x_apart hKT hts inX10 tyX10 tyX10_ok nmX10 rfl 16 70 (by decide) (by decide) (by decide)))).symm
    have m4876 := m4839.trans (Wr.neR wH4856 (Or.inr (x_apart hKT hts inX10 tyX10 tyX10_ok nmX10 rfl 24 70 (by decide) (by decide) (by decide)))).symm
    have m4877 := m4840.trans (Wr.neR wH4856 (Or.inr (x_apart hKT hts inX10 tyX10 tyX10_ok nmX10 rfl 27 70 (by decide) (by decide) (by decide)))).symm
    have m4878 := m4841.trans (Wr.neR wH4856 (Or.inr (x_apart hKT hts inX10 tyX10 tyX10_ok nmX10 rfl 29 70 (by decide) (by decide) (by decide)))).symm
    have m4879 := m4842.trans (Wr.neR wH4856 (Or.inr (x_apart hKT hts inX10 tyX10 tyX10_ok nmX10 rfl 30 70 (by decide) (by decide) (by decide)))).symm
    have m4880 := m4843.trans (Wr.neR wH4856 (Or.inr (x_apart hKT hts inX10 tyX10 tyX10_ok nmX10 rfl 31 70 (by decide) (by decide) (by decide)))).symm
    have m4881 := m4844.trans (Wr.neR wH4856 (Or.inr (x_apart hKT hts inX10 tyX10 tyX10_ok nmX10 rfl 32 70 (by decide) (by decide) (by decide)))).symm
    have m4882 := m4845.trans (Wr.neR wH4856 (Or.inr (x_apart hKT hts inX10 tyX10 tyX10_ok nmX10 rfl 33 70 (by decide) (by decide) (by decide)))).symm
    have m4883 := m4846.trans (Wr.neR wH4856 (Or.inr (x_apart hKT hts inX10 tyX10 tyX10_ok nmX10 rfl 50 70 (by decide) (by decide) (by decide)))).symm
    have m4885 := m4848.trans (Wr.neI wH4856 (Or.inr (x_apart hKT hts inX10 tyX10 tyX10_ok nmX10 rfl 1 70 (by decide) (by decide) (by decide)))).symm
    have m4886 := m4849.trans (Wr.neI wH4856 (Or.inr (x_apart hKT hts inX10 tyX10 tyX10_ok nmX10 rfl 2 70 (by decide) (by decide) (by decide)))).symm
    have m4887 := m4850.trans (Wr.neI wH4856 (Or.inr (x_apart hKT hts inX10 tyX10 tyX10_ok nmX10 rfl 3 70 (by decide) (by decide) (by decide)))).symm
    have m4888 := m4851.trans (Wr.neI wH4856 (Or.inr (x_apart hKT hts inX10 tyX10 tyX10_ok nmX10 rfl 59 70 (by decide) (by decide) (by decide)))).symm
    have m4889 := m4852.trans (Wr.neI wH4856 (Or.inr (x_apart hKT hts inX10 tyX10 tyX10_ok nmX10 rfl 62 70 (by decide) (by decide) (by decide)))).symm
    have m4890 := m4853.trans (Wr.neI wH4856 (Or.inr (x_apart hKT hts inX10 tyX10 tyX10_ok nmX10 rfl 65 70 (by decide) (by decide) (by decide)))).symm
    have m4891 := (Wr.neI wH4856 (Or.inr (x_apart hKT hts inX10 tyX10 tyX10_ok nmX10 rfl 0 70 (by decide) (by decide) (by decide)))).trans m4854
    have m4892 := m4855.trans (Wr.neI wH4856 (Or.inr (x_apart hKT hts inX10 tyX10 tyX10_ok nmX10 rfl 71 70 (by decide) (by decide) (by decide)))).symm
    have m4893 := Wr.I wH4856
    clear b4825 b4826 b4827 b4828 b4829 b4830 b4831 b4832 b4833 f4834 g4821 g4822 g4823 g4824 hTH4819 m4835 m4836 m4837 m4838 m4839 m4840 m4841 m4842 m4843 m4844 m4845 m4846 m4847 m4848 m4849 m4850 m4851 m4852 m4853 m4854 m4855 mf4820
    refine lv_aload_n hx hb dX10_image_28 rfl (lv_at hl 0 rfl) ?_
    refine lv_iconst (v := 0) hx hb dX10_image_29 (by decide) ?_
    refine x_put C hTH4856 hSH4856 (ci := 10) (k := 72) (v := .int 0) (ty0 := tyX10) rfl inX10 tyX10_ok nmX10 (by decide) rfl wF_X10_467 ga0 rg_112 rfl rfl (okI (by have := i_rng (0 : Int32); omega) (by have := i_rng (0 : Int32); omega)) rfl rfl (AE_in ga0 (by decide)) dX10_image_30 (fun H4894 locsH4894 hTH4894 hSH4894 wH4894 => ?_)
    have mf4895 : MF K s.heap H4894 a0 [0, 1, 2, 3, 59, 62, 65, 70, 71, 72] := MF.fld hap wH4894 (by decide) (by decide) mf4857
    have g4896 : CG (avw K H4894 a0) := CG.congr (fun k hk j => av_fld hTH4856 ga0 hap wH4894 (by decide) (CG_ok 112 (by decide) k hk) (CG_ne 72 (by decide) k hk)) g4858
    have g4897 : TU (avw K H4894 a0) (svw K H4894 a0) := TU.congr (fun k hk j => av_fld hTH4856 ga0 hap wH4894 (by decide) (TU_ok 112 (by decide) k hk) (TU_ne 72 (by decide) k hk)) (fun k hk => sv_fld hap wH4894 (by decide) (TU_slt k hk) (TU_sne 72 (by decide) k hk)) g4859
    have g4898 : WD (avw K H4894 a0) := WD.congr (fun k hk j => av_fld hTH4856 ga0 hap wH4894 (by decide) (WD_ok 112 (by decide) k hk) (WD_ne 72 (by decide) k hk)) g4860
    have g4899 : IM (avw K H4894 a0) := IM.congr (fun k hk j => av_fld hTH4856 ga0 hap wH4894 (by decide) (IM_ok 112 (by decide) k hk) (IM_ne 72 (by decide) k hk)) g4861
    have b4900 : UN (x1.toInt = 0) (fun k => fI H4894 iq k) (fun k => fI s.heap iq k) := UN.congr (fun j => Wr.neI wH4894 (Or.inl (G_ne giq ga0 (by decide)))) b4862
    have b4901 : UN (x1.toInt ≠ 0) (fun k => fI H4894 q4 k) (fun k => fI s.heap q4 k) := UN.congr (fun j => Wr.neI wH4894 (Or.inl (G_ne gq4 ga0 (by decide)))) b4863
    have b4902 : UN (x1.toInt ≠ 0) (fun k => fI H4894 q16 k) (fun k => fI s.heap q16 k) := UN.congr (fun j => Wr.neI wH4894 (Or.inl (G_ne gq16 ga0 (by decide)))) b4864
    have b4903 : UN (x1.toInt ≠ 0) (fun k => fI H4894 q24 k) (fun k => fI s.heap q24 k) := UN.congr (fun j => Wr.neI wH4894 (Or.inl (G_ne gq24 ga0 (by decide)))) b4865
    have b4904 : UN (x1.toInt ≠ 0) (fun k => fI H4894 q29 k) (fun k => fI s.heap q29 k) := UN.congr (fun j => Wr.neI wH4894 (Or.inl (G_ne gq29 ga0 (by decide)))) b4866
    have b4905 : UN (x1.toInt ≠ 0) (fun k => fI H4894 q30 k) (fun k => fI s.heap q30 k) := UN.congr (fun j => Wr.neI wH4894 (Or.inl (G_ne gq30 ga0 (by decide)))) b4867
    have b4906 : UN (x1.toInt ≠ 0) (fun k => fI H4894 q31 k) (fun k => fI s.heap q31 k) := UN.congr (fun j => Wr.neI wH4894 (Or.inl (G_ne gq31 ga0 (by decide)))) b4868
    have b4907 : UN (x1.toInt ≠ 0) (fun k => fI H4894 q32 k) (fun k => fI s.heap q32 k) := UN.congr (fun j => Wr.neI wH4894 (Or.inl (G_ne gq32 ga0 (by decide)))) b4869
    have b4908 : UN (x1.toInt ≠ 0) (fun k => fI H4894 q33 k) (fun k => fI s.heap q33 k) := UN.congr (fun j => Wr.neI wH4894 (Or.inl (G_ne gq33 ga0 (by decide)))) b4870
    have f4909 : ∀ j : Nat, fI H4894 q4 j = fI s.heap q4 j := fun j => (Wr.neI wH4894 (Or.inl (G_ne gq4 ga0 (by decide)))).trans (f4871 j)
    have m4910 := m4872.trans (Wr.neR wH4894 (Or.inr (x_apart hKT hts inX10 tyX10 tyX10_ok nmX10 rfl 73 72 (by decide) (by decide) (by decide)))).symm
    have m4911 := m4873.trans (Wr.neR wH4894 (Or.inr (x_apart hKT hts inX10 tyX10 tyX10_ok nmX10 rfl 4 72 (by decide) (by decide) (by decide)))).symm
    have m4912 := m4874.trans (Wr.neR wH4894 (Or.inr (x_apart hKT hts inX10 tyX10 tyX10_ok nmX10 rfl 10 72 (by decide) (by decide) (by decide)))).symm
    have m4913 := m4875.trans (Wr.neR wH4894 (Or.inr (x_apart hKT hts inX10 tyX10 tyX10_ok nmX10 rfl 16 72 (by decide) (by decide) (by decide)))).symm
    have m4914 := m4876.trans (Wr.neR wH4894 (Or.inr (x_apart hKT hts inX10 tyX10 tyX10_ok nmX10 rfl 24 72 (by decide) (by decide) (by decide)))).symm
    have m4915 := m4877.trans (Wr.neR wH4894 (Or.inr (x_apart hKT hts inX10 tyX10 tyX10_ok nmX10 rfl 27 72 (by decide) (by decide) (by decide)))).symm
    have m4916 := m4878.trans (Wr.neR wH4894 (Or.inr (x_apart hKT hts inX10 tyX10 tyX10_ok nmX10 rfl 29 72 (by decide) (by decide) (by decide)))).symm
    have m4917 := m4879.trans (Wr.neR wH4894 (Or.inr (x_apart hKT hts inX10 tyX10 tyX10_ok nmX10 rfl 30 72 (by decide) (by decide) (by decide)))).symm
    have m4918 := m4880.trans (Wr.neR wH4894 (Or.inr (x_apart hKT hts inX10 tyX10 tyX10_ok nmX10 rfl 31 72 (by decide) (by decide) (by decide)))).symm
    have m4919 := m4881.trans (Wr.neR wH4894 (Or.inr (x_apart hKT hts inX10 tyX10 tyX10_ok nmX10 rfl 32 72 (by decide) (by decide) (by decide)))).symm
    have m4920 := m4882.trans (Wr.neR wH4894 (Or.inr (x_apart hKT hts inX10 tyX10 tyX10_ok nmX10 rfl 33 72 (by decide) (by decide) (by decide)))).symm
    have m4921 := m4883.trans (Wr.neR wH4894 (Or.inr (x_apart hKT hts inX10 tyX10 tyX10_ok nmX10 rfl 50 72 (by decide) (by decide) (by decide)))).symm
    have m4922 := m4885.trans (Wr.neI wH4894 (Or.inr (x_apart hKT hts inX10 tyX10 tyX10_ok nmX10 rfl 1 72 (by decide) (by decide) (by decide)))).symm
    have m4923 := m4886.trans (Wr.neI wH4894 (Or.inr (x_apart hKT hts inX10 tyX10 tyX10_ok nmX10 rfl 2 72 (by decide) (by decide) (by decide)))).symm
    have m4924 := m4887.trans (Wr.neI wH4894 (Or.inr (x_apart hKT hts inX10 tyX10 tyX10_ok nmX10 rfl 3 72 (by decide) (by decide) (by decide)))).symm
    have m4925 := m4888.trans (Wr.neI wH4894 (Or.inr (x_apart hKT hts inX10 tyX10 tyX10_ok nmX10 rfl 59 72 (by decide) (by decide) (by decide)))).symm
    have m4926 := m4889.trans (Wr.neI wH4894 (Or.inr (x_apart hKT hts inX10 tyX10 tyX10_ok nmX10 rfl 62 72 (by decide) (by decide) (by decide)))).symm
    have m4927 := m4890.trans (Wr.neI wH4894 (Or.inr (x_apart hKT hts inX10 tyX10 tyX10_ok nmX10 rfl 65 72 (by decide) (by decide) (by decide)))).symm
    have m4928 := (Wr.neI wH4894 (Or.inr (x_apart hKT hts inX10 tyX10 tyX10_ok nmX10 rfl 0 72 (by decide) (by decide) (by decide)))).trans m4891
    have m4929 := m4892.trans (Wr.neI wH4894 (Or.inr (x_apart hKT hts inX10 tyX10 tyX10_ok nmX10 rfl 71 72 (by decide) (by decide) (by decide)))).symm
    have m4930 := (Wr.neI wH4894 (Or.inr (x_apart hKT hts inX10 tyX10 tyX10_ok nmX10 rfl 70 72 (by decide) (by decide) (by decide)))).trans m4893
    have m4931 := Wr.I wH4894
    clear b4862 b4863 b4864 b4865 b4866 b4867 b4868 b4869 b4870 f4871 g4858 g4859 g4860 g4861 hTH4856 m4872 m4873 m4874 m4875 m4876 m4877 m4878 m4879 m4880 m4881 m4882 m4883 m4885 m4886 m4887 m4888 m4889 m4890 m4891 m4892 m4893 mf4857
    refine lv_aload_n hx hb dX10_image_33 rfl (lv_at hl 0 rfl) ?_
    refine lv_aload_n hx hb dX10_image_34 rfl (lv_at hl 0 rfl) ?_
    refine lv_aload_n hx hb dX10_image_35 rfl (lv_at hl 0 rfl) ?_
    refine x_gi C hTH4894 (ci := 10) (k := 1) rfl inX10 (by decide) wF_X10_170 ga0 rg_112 rfl dX10_image_36 (fun x4932 ex4932 bx4932 => ?_)
    have ux4932 : s1 = x4932 := (m4922).trans ex4932.symm
    subst ux4932
    refine x_V (As := [.int s1]) (rest := [.ref a0]) C (a_X10_kept l K G H4894 (s1) (0) (x1) hTH4894 ga0 giq m4910 (m4931).symm m4929 g4898 (by and_intros <;> first | assumption | omega)) yo_X10_kept wM_X10_473 ⟨⟨by decide, by decide⟩, by decide, by decide⟩ (x_rv C hTH4894 (ci := 10) rfl ga0 rg_112) rfl hl.1 rfl (Nat.le_of_ble_eq_true rfl) dX10_image_39 hSH4894 (AE_sub (fun _ _ => rfl) (by decide) hSH4894.1) (fun vH4933 H4933 locsH4933 pH4933 zH4933 kH4933 hSH4933 => ?_)
    obtain ⟨x4934, x4935, hvH4933, ex4935, hrH4933, m4936, g4937, mf4938, m4939, m4940, m4941, m4942, hTH4933⟩ := pH4933
    subst hvH4933
    clear zH4933
    replace m4936 := EQN.mk m4936
    have b4943 : UN (x1.toInt ≠ 0) (fun k => fI H4933 q4 k) (fun k => fI s.heap q4 k) := UN.congr (fun j => fI_kept (x_lt hTH4894 kH4933 gq4 (by decide))) b4901
    have b4944 : UN (x1.toInt ≠ 0) (fun k => fI H4933 q16 k) (fun k => fI s.heap q16 k) := UN.congr (fun j => fI_kept (x_lt hTH4894 kH4933 gq16 (by decide))) b4902
    have b4945 : UN (x1.toInt ≠ 0) (fun k => fI H4933 q24 k) (fun k => fI s.heap q24 k) := UN.congr (fun j => fI_kept (x_lt hTH4894 kH4933 gq24 (by decide))) b4903
    have b4946 : UN (x1.toInt ≠ 0) (fun k => fI H4933 q29 k) (fun k => fI s.heap q29 k) := UN.congr (fun j => fI_kept (x_lt hTH4894 kH4933 gq29 (by decide))) b4904
    have b4947 : UN (x1.toInt ≠ 0) (fun k => fI H4933 q30 k) (fun k => fI s.heap q30 k) := UN.congr (fun j => fI_kept (x_lt hTH4894 kH4933 gq30 (by decide))) b4905
    have b4948 : UN (x1.toInt ≠ 0) (fun k => fI H4933 q31 k) (fun k => fI s.heap q31 k) := UN.congr (fun j => fI_kept (x_lt hTH4894 kH4933 gq31 (by decide))) b4906
    have b4949 : UN (x1.toInt ≠ 0) (fun k => fI H4933 q32 k) (fun k => fI s.heap q32 k) := UN.congr (fun j => fI_kept (x_lt hTH4894 kH4933 gq32 (by decide))) b4907
    have b4950 : UN (x1.toInt ≠ 0) (fun k => fI H4933 q33 k) (fun k => fI s.heap q33 k) := UN.congr (fun j => fI_kept (x_lt hTH4894 kH4933 gq33 (by decide))) b4908
    have f4951 : ∀ j : Nat, fI H4933 q4 j = fI s.heap q4 j := fun j => (fI_kept (x_lt hTH4894 kH4933 gq4 (by decide))).trans (f4909 j)
    have m4952 := (m4910).trans (MF.r mf4938 (k := 73) (by decide) (by decide)).symm
    have m4953 := (m4911).trans (MF.r mf4938 (k := 4) (by decide) (by decide)).symm
    have m4954 := (m4912).trans (MF.r mf4938 (k := 10) (by decide) (by decide)).symm
    have m4955 := (m4913).trans (MF.r mf4938 (k := 16) (by decide) (by decide)).symm
    have m4956 := (m4914).trans (MF.r mf4938 (k := 24) (by decide) (by decide)).symm
    have m4957 := (m4915).trans (MF.r mf4938 (k := 27) (by decide) (by decide)).symm
    have m4958 := (m4916).trans (MF.r mf4938 (k := 29) (by decide) (by decide)).symm
    have m4959 := (m4917).trans (MF.r mf4938 (k := 30) (by decide) (by decide)).symm
    have m4960 := (m4918).trans (MF.r mf4938 (k := 31) (by decide) (by decide)).symm
    have m4961 := (m4919).trans (MF.r mf4938 (k := 32) (by decide) (by decide)).symm
    have m4962 := (m4920).trans (MF.r mf4938 (k := 33) (by decide) (by decide)).symm
    have m4963 := (m4921).trans (MF.r mf4938 (k := 50) (by decide) (by decide)).symm
    have m4964 := (m4922).trans (MF.i mf4938 (k := 1) (by decide) (by decide)).symm
    have m4965 := (m4923).trans (MF.i mf4938 (k := 2) (by decide) (by decide)).symm
    have m4966 := (m4924).trans (MF.i mf4938 (k := 3) (by decide) (by decide)).symm
    have m4967 := (m4925).trans (MF.i mf4938 (k := 59) (by decide) (by decide)).symm
    have m4968 := (m4926).trans (MF.i mf4938 (k := 62) (by decide) (by decide)).symm
    have m4969 := (m4927).trans (MF.i mf4938 (k := 65) (by decide) (by decide)).symm
    have m4970 := (MF.i mf4938 (k := 0) (by decide) (by decide)).trans m4928
    have m4971 := (m4929).trans (MF.i mf4938 (k := 71) (by decide) (by decide)).symm
    have m4972 := (MF.i mf4938 (k := 70) (by decide) (by decide)).trans m4930
    have mf4973 : MF K s.heap H4933 a0 [0, 1, 2, 3, 59, 62, 65, 70, 71, 72] := MF.trans mf4895 mf4938 (by decide)
    have bx4935 := ty_fi (x := x4935) (k := 72) ex4935 hTH4933 ga0 rg_112 rfl
    have ce_k0 : (0 : Int32).toNatClampNeg = 0 := rfl
    have b4974 : UN (x1.toInt = 0) (fun k => fI H4933 iq k) (fun k => fI s.heap iq k) := UN.tr m4942 b4900
    clear b4900 b4901 b4902 b4903 b4904 b4905 b4906 b4907 b4908 m4910 m4911 m4912 m4913 m4914 m4915 m4916 m4917 m4918 m4919 m4920 m4921 m4922 m4923 m4924 m4925 m4926 m4927 m4928 m4929 m4930 m4931
    clear m4941 m4942
    have bx4934 : 0 ≤ x4934.toInt ∧ x4934.toInt ≤ 10 := kr (fun h0 => by have hiw := hIW; exact kr0 (w := fun k => fI H4933 iq k) m4939 (p := 0) (by omega) (b4974 h0) (hiw.1.1)) m4940 (by omega)
    have p4975 : x4934 = fI H4933 iq (0) := by have h := m4939; rw [show (0 : Int32).toNatClampNeg = 0 by omega] at h; exact h
    refine W.eq (g2 := F0 m 42 ls [.int x4934, .ref a0]) rfl ?_
    refine x_put C hTH4933 hSH4933 (ci := 10) (k := 1) (v := .int x4934) (ty0 := tyX10) rfl inX10 tyX10_ok nmX10 (by decide) rfl wF_X10_170 ga0 rg_112 rfl rfl (okI (by have := i_rng x4934; omega) (by have := i_rng x4934; omega)) rfl rfl (AE_in ga0 (by decide)) dX10_image_42 (fun H4976 locsH4976 hTH4976 hSH4976 wH4976 => ?_)
    have mf4977 : MF K s.heap H4976 a0 [0, 1, 2, 3, 59, 62, 65, 70, 71, 72] := MF.fld hap wH4976 (by decide) (by decide) mf4973
    have g4978 : WD (avw K H4976 a0) := WD.congr (fun k hk j => av_fld hTH4933 ga0 hap wH4976 (by decide) (WD_ok 112 (by decide) k hk) (WD_ne 1 (by decide) k hk)) g4937
    have b4979 : UN (x1.toInt ≠ 0) (fun k => fI H4976 q4 k) (fun k => fI s.heap q4 k) := UN.congr (fun j => Wr.neI wH4976 (Or.inl (G_ne gq4 ga0 (by decide)))) b4943
    have b4980 : UN (x1.toInt ≠ 0) (fun k => fI H4976 q16 k) (fun k => fI s.heap q16 k) := UN.congr (fun j => Wr.neI wH4976 (Or.inl (G_ne gq16 ga0 (by decide)))) b4944
    have b4981 : UN (x1.toInt ≠ 0) (fun k => fI H4976 q24 k) (fun k => fI s.heap q24 k) := UN.congr (fun j => Wr.neI wH4976 (Or.inl (G_ne gq24 ga0 (by decide)))) b4945
    have b4982 : UN (x1.toInt ≠ 0) (fun k => fI H4976 q29 k) (fun k => fI s.heap q29 k) := UN.congr (fun j => Wr.neI wH4976 (Or.inl (G_ne gq29 ga0 (by decide)))) b4946
    have b4983 : UN (x1.toInt ≠ 0) (fun k => fI H4976 q30 k) (fun k => fI s.heap q30 k) := UN.congr (fun j => Wr.neI wH4976 (Or.inl (G_ne gq30 ga0 (by decide)))) b4947
    have b4984 : UN (x1.toInt ≠ 0) (fun k => fI H4976 q31 k) (fun k => fI s.heap q31 k) := UN.congr (fun j => Wr.neI wH4976 (Or.inl (G_ne gq31 ga0 (by decide)))) b4948
    have b4985 : UN (x1.toInt ≠ 0) (fun k => fI H4976 q32 k) (fun k => fI s.heap q32 k) := UN.congr (fun j => Wr.neI wH4976 (Or.inl (G_ne gq32 ga0 (by decide)))) b4949
    have b4986 : UN (x1.toInt ≠ 0) (fun k => fI H4976 q33 k) (fun k => fI s.heap q33 k) := UN.congr (fun j => Wr.neI wH4976 (Or.inl (G_ne gq33 ga0 (by decide)))) b4950
    have b4987 : UN (x1.toInt = 0) (fun k => fI H4976 iq k) (fun k => fI s.heap iq k) := UN.congr (fun j => Wr.neI wH4976 (Or.inl (G_ne giq ga0 (by decide)))) b4974
    have b4988 : x4934 = fI H4976 iq (0) := (p4975).trans (Wr.neI wH4976 (Or.inl (G_ne giq ga0 (by decide)))).symm
    have f4989 : ∀ j : Nat, fI H4976 q4 j = fI s.heap q4 j := fun j => (Wr.neI wH4976 (Or.inl (G_ne gq4 ga0 (by decide)))).trans (f4951 j)
    have m4990 := m4936.trans (Wr.neR wH4976 (Or.inr (x_apart hKT hts inX10 tyX10 tyX10_ok nmX10 rfl 73 1 (by decide) (by decide) (by decide)))).symm
    have m4991 := m4953.trans (Wr.neR wH4976 (Or.inr (x_apart hKT hts inX10 tyX10 tyX10_ok nmX10 rfl 4 1 (by decide) (by decide) (by decide)))).symm
    have m4992 := m4954.trans (Wr.neR wH4976 (Or.inr (x_apart hKT hts inX10 tyX10 tyX10_ok nmX10 rfl 10 1 (by decide) (by decide) (by decide)))).symm
    have m4993 := m4955.trans (Wr.neR wH4976 (Or.inr (x_apart hKT hts inX10 tyX10 tyX10_ok nmX10 rfl 16 1 (by decide) (by decide) (by decide)))).symm
    have m4994 := m4956.trans (Wr.neR wH4976 (Or.inr (x_apart hKT hts inX10 tyX10 tyX10_ok nmX10 rfl 24 1 (by decide) (by decide) (by decide)))).symm
    have m4995 := m4957.trans (Wr.neR wH4976 (Or.inr (x_apart hKT hts inX10 tyX10 tyX10_ok nmX10 rfl 27 1 (by decide) (by decide) (by decide)))).symm
    have m4996 := m4958.trans (Wr.neR wH4976 (Or.inr (x_apart hKT hts inX10 tyX10 tyX10_ok nmX10 rfl 29 1 (by decide) (by decide) (by decide)))).symm
    have m4997 := m4959.trans (Wr.neR wH4976 (Or.inr (x_apart hKT hts inX10 tyX10 tyX10_ok nmX10 rfl 30 1 (by decide) (by decide) (by decide)))).symm
    have m4998 := m4960.trans (Wr.neR wH4976 (Or.inr (x_apart hKT hts inX10 tyX10 tyX10_ok nmX10 rfl 31 1 (by decide) (by decide) (by decide)))).symm
    have m4999 := m4961.trans (Wr.neR wH4976 (Or.inr (x_apart hKT hts inX10 tyX10 tyX10_ok nmX10 rfl 32 1 (by decide) (by decide) (by decide)))).symm
    have m5000 := m4962.trans (Wr.neR wH4976 (Or.inr (x_apart hKT hts inX10 tyX10 tyX10_ok nmX10 rfl 33 1 (by decide) (by decide) (by decide)))).symm
    have m5001 := m4963.trans (Wr.neR wH4976 (Or.inr (x_apart hKT hts inX10 tyX10 tyX10_ok nmX10 rfl 50 1 (by decide) (by decide) (by decide)))).symm
    have m5003 := m4965.trans (Wr.neI wH4976 (Or.inr (x_apart hKT hts inX10 tyX10 tyX10_ok nmX10 rfl 2 1 (by decide) (by decide) (by decide)))).symm
    have m5004 := m4966.trans (Wr.neI wH4976 (Or.inr (x_apart hKT hts inX10 tyX10 tyX10_ok nmX10 rfl 3 1 (by decide) (by decide) (by decide)))).symm
    have m5005 := m4967.trans (Wr.neI wH4976 (Or.inr (x_apart hKT hts inX10 tyX10 tyX10_ok nmX10 rfl 59 1 (by decide) (by decide) (by decide)))).symm
    have m5006 := m4968.trans (Wr.neI wH4976 (Or.inr (x_apart hKT hts inX10 tyX10 tyX10_ok nmX10 rfl 62 1 (by decide) (by decide) (by decide)))).symm
    have m5007 := m4969.trans (Wr.neI wH4976 (Or.inr (x_apart hKT hts inX10 tyX10 tyX10_ok nmX10 rfl 65 1 (by decide) (by decide) (by decide)))).symm
    have m5008 := (Wr.neI wH4976 (Or.inr (x_apart hKT hts inX10 tyX10 tyX10_ok nmX10 rfl 0 1 (by decide) (by decide) (by decide)))).trans m4970
    have m5009 := m4971.trans (Wr.neI wH4976 (Or.inr (x_apart hKT hts inX10 tyX10 tyX10_ok nmX10 rfl 71 1 (by decide) (by decide) (by decide)))).symm
    have m5010 := (Wr.neI wH4976 (Or.inr (x_apart hKT hts inX10 tyX10 tyX10_ok nmX10 rfl 70 1 (by decide) (by decide) (by decide)))).trans m4972
    have m5011 := ex4935.trans (Wr.neI wH4976 (Or.inr (x_apart hKT hts inX10 tyX10 tyX10_ok nmX10 rfl 72 1 (by decide) (by decide) (by decide)))).symm
    have m5012 := Wr.I wH4976
    have m5012 := m5012.symm
    clear b4943 b4944 b4945 b4946 b4947 b4948 b4949 b4950 b4974 ex4935 f4951 g4937 hTH4933 m4936 m4953 m4954 m4955 m4956 m4957 m4958 m4959 m4960 m4961 m4962 m4963 m4964 m4965 m4966 m4967 m4968 m4969 m4970 m4971 m4972 mf4973 p4975
    refine lv_aload_n hx hb dX10_image_45 rfl (lv_at hl 0 rfl) ?_
    refine lv_aload_n hx hb dX10_image_46 rfl (lv_at hl 0 rfl) ?_
    refine lv_aload_n hx hb dX10_image_47 rfl (lv_at hl 0 rfl) ?_
    refine x_gi C hTH4976 (ci := 10) (k := 2) rfl inX10 (by decide) wF_X10_322 ga0 rg_112 rfl dX10_image_48 (fun x5013 ex5013 bx5013 => ?_)
    have ux5013 : s2 = x5013 := (m5003).trans ex5013.symm
    subst ux5013
    refine x_V (As := [.int s2]) (rest := [.ref a0]) C (a_X10_kept l K G H4976 (s2) (x4935) (x1) hTH4976 ga0 giq m4990 m5011 m5009 g4978 (by and_intros <;> first | assumption | omega)) yo_X10_kept wM_X10_473 ⟨⟨by decide, by decide⟩, by decide, by decide⟩ (x_rv C hTH4976 (ci := 10) rfl ga0 rg_112) rfl hl.1 rfl (Nat.le_of_ble_eq_true rfl) dX10_image_51 hSH4976 (AE_sub (fun _ _ => rfl) (by decide) hSH4976.1) (fun vH5014 H5014 locsH5014 pH5014 zH5014 kH5014 hSH5014 => ?_)
    obtain ⟨x5015, x5016, hvH5014, ex5016, hrH5014, m5017, g5018, mf5019, m5020, m5021, m5022, m5023, hTH5014⟩ := pH5014
    subst hvH5014
    clear zH5014
    replace m5017 := EQN.mk m5017
    have b5024 : UN (x1.toInt ≠ 0) (fun k => fI H5014 q4 k) (fun k => fI s.heap q4 k) := UN.congr (fun j => fI_kept (x_lt hTH4976 kH5014 gq4 (by decide))) b4979
    have b5025 : UN (x1.toInt ≠ 0) (fun k => fI H5014 q16 k) (fun k => fI s.heap q16 k) := UN.congr (fun j => fI_kept (x_lt hTH4976 kH5014 gq16 (by decide))) b4980
    have b5026 : UN (x1.toInt ≠ 0) (fun k => fI H5014 q24 k) (fun k => fI s.heap q24 k) := UN.congr (fun j => fI_kept (x_lt hTH4976 kH5014 gq24 (by decide))) b4981
    have b5027 : UN (x1.toInt ≠ 0) (fun k => fI H5014 q29 k) (fun k => fI s.heap q29 k) := UN.congr (fun j => fI_kept (x_lt hTH4976 kH5014 gq29 (by decide))) b4982
    have b5028 : UN (x1.toInt ≠ 0) (fun k => fI H5014 q30 k) (fun k => fI s.heap q30 k) := UN.congr (fun j => fI_kept (x_lt hTH4976 kH5014 gq30 (by decide))) b4983
    have b5029 : UN (x1.toInt ≠ 0) (fun k => fI H5014 q31 k) (fun k => fI s.heap q31 k) := UN.congr (fun j => fI_kept (x_lt hTH4976 kH5014 gq31 (by decide))) b4984
    have b5030 : UN (x1.toInt ≠ 0) (fun k => fI H5014 q32 k) (fun k => fI s.heap q32 k) := UN.congr (fun j => fI_kept (x_lt hTH4976 kH5014 gq32 (by decide))) b4985
    have b5031 : UN (x1.toInt ≠ 0) (fun k => fI H5014 q33 k) (fun k => fI s.heap q33 k) := UN.congr (fun j => fI_kept (x_lt hTH4976 kH5014 gq33 (by decide))) b4986
    have f5032 : ∀ j : Nat, fI H5014 q4 j = fI s.heap q4 j := fun j => (fI_kept (x_lt hTH4976 kH5014 gq4 (by decide))).trans (f4989 j)
    have m5033 := (m4990).trans (MF.r mf5019 (k := 73) (by decide) (by decide)).symm
    have m5034 := (m4991).trans (MF.r mf5019 (k := 4) (by decide) (by decide)).symm
    have m5035 := (m4992).trans (MF.r mf5019 (k := 10) (by decide) (by decide)).symm
    have m5036 := (m4993).trans (MF.r mf5019 (k := 16) (by decide) (by decide)).symm
    have m5037 := (m4994).trans (MF.r mf5019 (k := 24) (by decide) (by decide)).symm
    have m5038 := (m4995).trans (MF.r mf5019 (k := 27) (by decide) (by decide)).symm
    have m5039 := (m4996).trans (MF.r mf5019 (k := 29) (by decide) (by decide)).symm
    have m5040 := (m4997).trans (MF.r mf5019 (k := 30) (by decide) (by decide)).symm
    have m5041 := (m4998).trans (MF.r mf5019 (k := 31) (by decide) (by decide)).symm
    have m5042 := (m4999).trans (MF.r mf5019 (k := 32) (by decide) (by decide)).symm
    have m5043 := (m5000).trans (MF.r mf5019 (k := 33) (by decide) (by decide)).symm
    have m5044 := (m5001).trans (MF.r mf5019 (k := 50) (by decide) (by decide)).symm
    have m5045 := (m5003).trans (MF.i mf5019 (k := 2) (by decide) (by decide)).symm
    have m5046 := (m5004).trans (MF.i mf5019 (k := 3) (by decide) (by decide)).symm
    have m5047 := (m5005).trans (MF.i mf5019 (k := 59) (by decide) (by decide)).symm
    have m5048 := (m5006).trans (MF.i mf5019 (k := 62) (by decide) (by decide)).symm
    have m5049 := (m5007).trans (MF.i mf5019 (k := 65) (by decide) (by decide)).symm
    have m5050 := (MF.i mf5019 (k := 0) (by decide) (by decide)).trans m5008
    have m5051 := (m5009).trans (MF.i mf5019 (k := 71) (by decide) (by decide)).symm
    have m5052 := (MF.i mf5019 (k := 70) (by decide) (by decide)).trans m5010
    have m5053 := (m5012).trans (MF.i mf5019 (k := 1) (by decide) (by decide)).symm
    have mf5054 : MF K s.heap H5014 a0 [0, 1, 2, 3, 59, 62, 65, 70, 71, 72] := MF.trans mf4977 mf5019 (by decide)
    have bx5016 := ty_fi (x := x5016) (k := 72) ex5016 hTH5014 ga0 rg_112 rfl
    have ce_x4935 := i_cl (x := x4935) (by omega)
    have b5055 : UN (x1.toInt = 0) (fun k => fI H5014 iq k) (fun k => fI s.heap iq k) := UN.tr m5023 b4987
    have b5056 : x4934 = fI H5014 iq (0) := (b4988).trans (m5022 _ (by omega)).symm
    clear b4979 b4980 b4981 b4982 b4983 b4984 b4985 b4986 b4987 b4988 m4990 m4991 m4992 m4993 m4994 m4995 m4996 m4997 m4998 m4999 m5000 m5001 m5003 m5004 m5005 m5006 m5007 m5008 m5009 m5010 m5011 m5012
    clear m5022 m5023
    have bx5015 : 0 ≤ x5015.toInt ∧ x5015.toInt ≤ 1 := kr (fun h0 => by have hiw := hIW; exact kr0 (w := fun k => fI H5014 iq k) m5020 (p := 1) (by omega) (b5055 h0) (hiw.1.2.1)) m5021 (by omega)
    have p5057 : x5015 = fI H5014 iq (1) := by have h := m5020; rw [show x4935.toNatClampNeg = 1 by omega] at h; exact h
    refine W.eq (g2 := F0 m 54 ls [.int x5015, .ref a0]) rfl ?_
    refine x_put C hTH5014 hSH5014 (ci := 10) (k := 2) (v := .int x5015) (ty0 := tyX10) rfl inX10 tyX10_ok nmX10 (by decide) rfl wF_X10_322 ga0 rg_112 rfl rfl (okI (by have := i_rng x5015; omega) (by have := i_rng x5015; omega)) rfl rfl (AE_in ga0 (by decide)) dX10_image_54 (fun H5058 locsH5058 hTH5058 hSH5058 wH5058 => ?_)
    have mf5059 : MF K s.heap H5058 a0 [0, 1, 2, 3, 59, 62, 65, 70, 71, 72] := MF.fld hap wH5058 (by decide) (by decide) mf5054
    have g5060 : WD (avw K H5058 a0) := WD.congr (fun k hk j => av_fld hTH5014 ga0 hap wH5058 (by decide) (WD_ok 112 (by decide) k hk) (WD_ne 2 (by decide) k hk)) g5018
    have b5061 : UN (x1.toInt ≠ 0) (fun k => fI H5058 q4 k) (fun k => fI s.heap q4 k) := UN.congr (fun j => Wr.neI wH5058 (Or.inl (G_ne gq4 ga0 (by decide)))) b5024
    have b5062 : UN (x1.toInt ≠ 0) (fun k => fI H5058 q16 k) (fun k => fI s.heap q16 k) := UN.congr (fun j => Wr.neI wH5058 (Or.inl (G_ne gq16 ga0 (by decide)))) b5025
    have b5063 : UN (x1.toInt ≠ 0) (fun k => fI H5058 q24 k) (fun k => fI s.heap q24 k) := UN.congr (fun j => Wr.neI wH5058 (Or.inl (G_ne gq24 ga0 (by decide)))) b5026
    have b5064 : UN (x1.toInt ≠ 0) (fun k => fI H5058 q29 k) (fun k => fI s.heap q29 k) := UN.congr (fun j => Wr.neI wH5058 (Or.inl (G_ne gq29 ga0 (by decide)))) b5027
    have b5065 : UN (x1.toInt ≠ 0) (fun k => fI H5058 q30 k) (fun k => fI s.heap q30 k) := UN.congr (fun j => Wr.neI wH5058 (Or.inl (G_ne gq30 ga0 (by decide)))) b5028
    have b5066 : UN (x1.toInt ≠ 0) (fun k => fI H5058 q31 k) (fun k => fI s.heap q31 k) := UN.congr (fun j => Wr.neI wH5058 (Or.inl (G_ne gq31 ga0 (by decide)))) b5029
    have b5067 : UN (x1.toInt ≠ 0) (fun k => fI H5058 q32 k) (fun k => fI s.heap q32 k) := UN.congr (fun j => Wr.neI wH5058 (Or.inl (G_ne gq32 ga0 (by decide)))) b5030
    have b5068 : UN (x1.toInt ≠ 0) (fun k => fI H5058 q33 k) (fun k => fI s.heap q33 k) := UN.congr (fun j => Wr.neI wH5058 (Or.inl (G_ne gq33 ga0 (by decide)))) b5031
    have b5069 : UN (x1.toInt = 0) (fun k => fI H5058 iq k) (fun k => fI s.heap iq k) := UN.congr (fun j => Wr.neI wH5058 (Or.inl (G_ne giq ga0 (by decide)))) b5055
    have b5070 : x4934 = fI H5058 iq (0) := (b5056).trans (Wr.neI wH5058 (Or.inl (G_ne giq ga0 (by decide)))).symm
    have b5071 : x5015 = fI H5058 iq (1) := (p5057).trans (Wr.neI wH5058 (Or.inl (G_ne giq ga0 (by decide)))).symm
    have f5072 : ∀ j : Nat, fI H5058 q4 j = fI s.heap q4 j := fun j => (Wr.neI wH5058 (Or.inl (G_ne gq4 ga0 (by decide)))).trans (f5032 j)
    have m5073 := m5017.trans (Wr.neR wH5058 (Or.inr (x_apart hKT hts inX10 tyX10 tyX10_ok nmX10 rfl 73 2 (by decide) (by decide) (by decide)))).symm
    have m5074 := m5034.trans (Wr.neR wH5058 (Or.inr (x_apart hKT hts inX10 tyX10 tyX10_ok nmX10 rfl 4 2 (by decide) (by decide) (by decide)))).symm
    have m5075 := m5035.trans (Wr.neR wH5058 (Or.inr (x_apart hKT hts inX10 tyX10 tyX10_ok nmX10 rfl 10 2 (by decide) (by decide) (by decide)))).symm
    have m5076 := m5036.trans (Wr.neR wH5058 (Or.inr (x_apart hKT hts inX10 tyX10 tyX10_ok nmX10 rfl 16 2 (by decide) (by decide) (by decide)))).symm
    have m5077 := m5037.trans (Wr.neR wH5058 (Or.inr (x_apart hKT hts inX10 tyX10 tyX10_ok nmX10 rfl 24 2 (by decide) (by decide) (by decide)))).symm
    have m5078 := m5038.trans (Wr.neR wH5058 (Or.inr (x_apart hKT hts inX10 tyX10 tyX10_ok nmX10 rfl 27 2 (by decide) (by decide) (by decide)))).symm
    have m5079 := m5039.trans (Wr.neR wH5058 (Or.inr (x_apart hKT hts inX10 tyX10 tyX10_ok nmX10 rfl 29 2 (by decide) (by decide) (by decide)))).symm
    have m5080 := m5040.trans (Wr.neR wH5058 (Or.inr (x_apart hKT hts inX10 tyX10 tyX10_ok nmX10 rfl 30 2 (by decide) (by decide) (by decide)))).symm
    have m5081 := m5041.trans (Wr.neR wH5058 (Or.inr (x_apart hKT hts inX10 tyX10 tyX10_ok nmX10 rfl 31 2 (by decide) (by decide) (by decide)))).symm
    have m5082 := m5042.trans (Wr.neR wH5058 (Or.inr (x_apart hKT hts inX10 tyX10 tyX10_ok nmX10 rfl 32 2 (by decide) (by decide) (by decide)))).symm
    have m5083 := m5043.trans (Wr.neR wH5058 (Or.inr (x_apart hKT hts inX10 tyX10 tyX10_ok nmX10 rfl 33 2 (by decide) (by decide) (by decide)))).symm
    have m5084 := m5044.trans (Wr.neR wH5058 (Or.inr (x_apart hKT hts inX10 tyX10 tyX10_ok nmX10 rfl 50 2 (by decide) (by decide) (by decide)))).symm
    have m5086 := m5046.trans (Wr.neI wH5058 (Or.inr (x_apart hKT hts inX10 tyX10 tyX10_ok nmX10 rfl 3 2 (by decide) (by decide) (by decide)))).symm
    have m5087 := m5047.trans (Wr.neI wH5058 (Or.inr (x_apart hKT hts inX10 tyX10 tyX10_ok nmX10 rfl 59 2 (by decide) (by decide) (by decide)))).symm
    have m5088 := m5048.trans (Wr.neI wH5058 (Or.inr (x_apart hKT hts inX10 tyX10 tyX10_ok nmX10 rfl 62 2 (by decide) (by decide) (by decide)))).symm
    have m5089 := m5049.trans (Wr.neI wH5058 (Or.inr (x_apart hKT hts inX10 tyX10 tyX10_ok nmX10 rfl 65 2 (by decide) (by decide) (by decide)))).symm
    have m5090 := (Wr.neI wH5058 (Or.inr (x_apart hKT hts inX10 tyX10 tyX10_ok nmX10 rfl 0 2 (by decide) (by decide) (by decide)))).trans m5050
    have m5091 := m5051.trans (Wr.neI wH5058 (Or.inr (x_apart hKT hts inX10 tyX10 tyX10_ok nmX10 rfl 71 2 (by decide) (by decide) (by decide)))).symm
    have m5092 := (Wr.neI wH5058 (Or.inr (x_apart hKT hts inX10 tyX10 tyX10_ok nmX10 rfl 70 2 (by decide) (by decide) (by decide)))).trans m5052
    have m5093 := m5053.trans (Wr.neI wH5058 (Or.inr (x_apart hKT hts inX10 tyX10 tyX10_ok nmX10 rfl 1 2 (by decide) (by decide) (by decide)))).symm
    have m5094 := ex5016.trans (Wr.neI wH5058 (Or.inr (x_apart hKT hts inX10 tyX10 tyX10_ok nmX10 rfl 72 2 (by decide) (by decide) (by decide)))).symm
    have m5095 := Wr.I wH5058
    have m5095 := m5095.symm
    clear b5024 b5025 b5026 b5027 b5028 b5029 b5030 b5031 b5055 b5056 ex5016 f5032 g5018 hTH5014 m5017 m5034 m5035 m5036 m5037 m5038 m5039 m5040 m5041 m5042 m5043 m5044 m5045 m5046 m5047 m5048 m5049 m5050 m5051 m5052 m5053 mf5054 p5057
    refine lv_aload_n hx hb dX10_image_57 rfl (lv_at hl 0 rfl) ?_
    refine lv_aload_n hx hb dX10_image_58 rfl (lv_at hl 0 rfl) ?_
    refine lv_aload_n hx hb dX10_image_59 rfl (lv_at hl 0 rfl) ?_
    refine x_gi C hTH5058 (ci := 10) (k := 3) rfl inX10 (by decide) wF_X10_7 ga0 rg_112 rfl dX10_image_60 (fun x5096 ex5096 bx5096 => ?_)
    have ux5096 : s3 = x5096 := (m5086).trans ex5096.symm
    subst ux5096
    refine x_V (As := [.int s3]) (rest := [.ref a0]) C (a_X10_kept l K G H5058 (s3) (x5016) (x1) hTH5058 ga0 giq m5073 m5094 m5091 g5060 (by and_intros <;> first | assumption | omega)) yo_X10_kept wM_X10_473 ⟨⟨by decide, by decide⟩, by decide, by decide⟩ (x_rv C hTH5058 (ci := 10) rfl ga0 rg_112) rfl hl.1 rfl (Nat.le_of_ble_eq_true rfl) dX10_image_63 hSH5058 (AE_sub (fun _ _ => rfl) (by decide) hSH5058.1) (fun vH5097 H5097 locsH5097 pH5097 zH5097 kH5097 hSH5097 => ?_)
    obtain ⟨x5098, x5099, hvH5097, ex5099, hrH5097, m5100, g5101, mf5102, m5103, m5104, m5105, m5106, hTH5097⟩ := pH5097
    subst hvH5097
    clear zH5097
    replace m5100 := EQN.mk m5100
    have b5107 : UN (x1.toInt ≠ 0) (fun k => fI H5097 q4 k) (fun k => fI s.heap q4 k) := UN.congr (fun j => fI_kept (x_lt hTH5058 kH5097 gq4 (by decide))) b5061
    have b5108 : UN (x1.toInt ≠ 0) (fun k => fI H5097 q16 k) (fun k => fI s.heap q16 k) := UN.congr (fun j => fI_kept (x_lt hTH5058 kH5097 gq16 (by decide))) b5062
    have b5109 : UN (x1.toInt ≠ 0) (fun k => fI H5097 q24 k) (fun k => fI s.heap q24 k) := UN.congr (fun j => fI_kept (x_lt hTH5058 kH5097 gq24 (by decide))) b5063
    have b5110 : UN (x1.toInt ≠ 0) (fun k => fI H5097 q29 k) (fun k => fI s.heap q29 k) := UN.congr (fun j => fI_kept (x_lt hTH5058 kH5097 gq29 (by decide))) b5064
    have b5111 : UN (x1.toInt ≠ 0) (fun k => fI H5097 q30 k) (fun k => fI s.heap q30 k) := UN.congr (fun j => fI_kept (x_lt hTH5058 kH5097 gq30 (by decide))) b5065
    have b5112 : UN (x1.toInt ≠ 0) (fun k => fI H5097 q31 k) (fun k => fI s.heap q31 k) := UN.congr (fun j => fI_kept (x_lt hTH5058 kH5097 gq31 (by decide))) b5066
    have b5113 : UN (x1.toInt ≠ 0) (fun k => fI H5097 q32 k) (fun k => fI s.heap q32 k) := UN.congr (fun j => fI_kept (x_lt hTH5058 kH5097 gq32 (by decide))) b5067
    have b5114 : UN (x1.toInt ≠ 0) (fun k => fI H5097 q33 k) (fun k => fI s.heap q33 k) := UN.congr (fun j => fI_kept (x_lt hTH5058 kH5097 gq33 (by decide))) b5068
    have f5115 : ∀ j : Nat, fI H5097 q4 j = fI s.heap q4 j := fun j => (fI_kept (x_lt hTH5058 kH5097 gq4 (by decide))).trans (f5072 j)
    have m5116 := (m5073).trans (MF.r mf5102 (k := 73) (by decide) (by decide)).symm
    have m5117 := (m5074).trans (MF.r mf5102 (k := 4) (by decide) (by decide)).symm
    have m5118 := (m5075).trans (MF.r mf5102 (k := 10) (by decide) (by decide)).symm
    have m5119 := (m5076).trans (MF.r mf5102 (k := 16) (by decide) (by decide)).symm
    have m5120 := (m5077).trans (MF.r mf5102 (k := 24) (by decide) (by decide)).symm
    have m5121 := (m5078).trans (MF.r mf5102 (k := 27) (by decide) (by decide)).symm
    have m5122 := (m5079).trans (MF.r mf5102 (k := 29) (by decide) (by decide)).symm
    have m5123 := (m5080).trans (MF.r mf5102 (k := 30) (by decide) (by decide)).symm
    have m5124 := (m5081).trans (MF.r mf5102 (k := 31) (by decide) (by decide)).symm
    have m5125 := (m5082).trans (MF.r mf5102 (k := 32) (by decide) (by decide)).symm
    have m5126 := (m5083).trans (MF.r mf5102 (k := 33) (by decide) (by decide)).symm
    have m5127 := (m5084).trans (MF.r mf5102 (k := 50) (by decide) (by decide)).symm
    have m5128 := (m5086).trans (MF.i mf5102 (k := 3) (by decide) (by decide)).symm
    have m5129 := (m5087).trans (MF.i mf5102 (k := 59) (by decide) (by decide)).symm
    have m5130 := (m5088).trans (MF.i mf5102 (k := 62) (by decide) (by decide)).symm
    have m5131 := (m5089).trans (MF.i mf5102 (k := 65) (by decide) (by decide)).symm
    have m5132 := (MF.i mf5102 (k := 0) (by decide) (by decide)).trans m5090
    have m5133 := (m5091).trans (MF.i mf5102 (k := 71) (by decide) (by decide)).symm
    have m5134 := (MF.i mf5102 (k := 70) (by decide) (by decide)).trans m5092
    have m5135 := (m5093).trans (MF.i mf5102 (k := 1) (by decide) (by decide)).symm
    have m5136 := (m5095).trans (MF.i mf5102 (k := 2) (by decide) (by decide)).symm
    have mf5137 : MF K s.heap H5097 a0 [0, 1, 2, 3, 59, 62, 65, 70, 71, 72] := MF.trans mf5059 mf5102 (by decide)
    have bx5099 := ty_fi (x := x5099) (k := 72) ex5099 hTH5097 ga0 rg_112 rfl
    have ce_x5016 := i_cl (x := x5016) (by omega)
    have b5138 : UN (x1.toInt = 0) (fun k => fI H5097 iq k) (fun k => fI s.heap iq k) := UN.tr m5106 b5069
    have b5139 : x4934 = fI H5097 iq (0) := (b5070).trans (m5105 _ (by omega)).symm
    have b5140 : x5015 = fI H5097 iq (1) := (b5071).trans (m5105 _ (by omega)).symm
    clear b5061 b5062 b5063 b5064 b5065 b5066 b5067 b5068 b5069 b5070 b5071 m5073 m5074 m5075 m5076 m5077 m5078 m5079 m5080 m5081 m5082 m5083 m5084 m5086 m5087 m5088 m5089 m5090 m5091 m5092 m5093 m5094 m5095
    clear m5105 m5106
    have p5141 : x5098 = fI H5097 iq (2) := by have h := m5103; rw [show x5016.toNatClampNeg = 2 by omega] at h; exact h
    refine W.eq (g2 := F0 m 66 ls [.int x5098, .ref a0]) rfl ?_
    refine x_put C hTH5097 hSH5097 (ci := 10) (k := 3) (v := .int x5098) (ty0 := tyX10) rfl inX10 tyX10_ok nmX10 (by decide) rfl wF_X10_7 ga0 rg_112 rfl rfl (okI (by have := i_rng x5098; omega) (by have := i_rng x5098; omega)) rfl rfl (AE_in ga0 (by decide)) dX10_image_66 (fun H5142 locsH5142 hTH5142 hSH5142 wH5142 => ?_)
    have mf5143 : MF K s.heap H5142 a0 [0, 1, 2, 3, 59, 62, 65, 70, 71, 72] := MF.fld hap wH5142 (by decide) (by decide) mf5137
    have g5144 : WD (avw K H5142 a0) := WD.congr (fun k hk j => av_fld hTH5097 ga0 hap wH5142 (by decide) (WD_ok 112 (by decide) k hk) (WD_ne 3 (by decide) k hk)) g5101
    have b5145 : UN (x1.toInt ≠ 0) (fun k => fI H5142 q4 k) (fun k => fI s.heap q4 k) := UN.congr (fun j => Wr.neI wH5142 (Or.inl (G_ne gq4 ga0 (by decide)))) b5107
    have b5146 : UN (x1.toInt ≠ 0) (fun k => fI H5142 q16 k) (fun k => fI s.heap q16 k) := UN.congr (fun j => Wr.neI wH5142 (Or.inl (G_ne gq16 ga0 (by decide)))) b5108
    have b5147 : UN (x1.toInt ≠ 0) (fun k => fI H5142 q24 k) (fun k => fI s.heap q24 k) := UN.congr (fun j => Wr.neI wH5142 (Or.inl (G_ne gq24 ga0 (by decide)))) b5109
    have b5148 : UN (x1.toInt ≠ 0) (fun k => fI H5142 q29 k) (fun k => fI s.heap q29 k) := UN.congr (fun j => Wr.neI wH5142 (Or.inl (G_ne gq29 ga0 (by decide)))) b5110
    have b5149 : UN (x1.toInt ≠ 0) (fun k => fI H5142 q30 k) (fun k => fI s.heap q30 k) := UN.congr (fun j => Wr.neI wH5142 (Or.inl (G_ne gq30 ga0 (by decide)))) b5111
    have b5150 : UN (x1.toInt ≠ 0) (fun k => fI H5142 q31 k) (fun k => fI s.heap q31 k) := UN.congr (fun j => Wr.neI wH5142 (Or.inl (G_ne gq31 ga0 (by decide)))) b5112
    have b5151 : UN (x1.toInt ≠ 0) (fun k => fI H5142 q32 k) (fun k => fI s.heap q32 k) := UN.congr (fun j => Wr.neI wH5142 (Or.inl (G_ne gq32 ga0 (by decide)))) b5113
    have b5152 : UN (x1.toInt ≠ 0) (fun k => fI H5142 q33 k) (fun k => fI s.heap q33 k) := UN.congr (fun j => Wr.neI wH5142 (Or.inl (G_ne gq33 ga0 (by decide)))) b5114
    have b5153 : UN (x1.toInt = 0) (fun k => fI H5142 iq k) (fun k => fI s.heap iq k) := UN.congr (fun j => Wr.neI wH5142 (Or.inl (G_ne giq ga0 (by decide)))) b5138
    have b5154 : x4934 = fI H5142 iq (0) := (b5139).trans (Wr.neI wH5142 (Or.inl (G_ne giq ga0 (by decide)))).symm
    have b5155 : x5015 = fI H5142 iq (1) := (b5140).trans (Wr.neI wH5142 (Or.inl (G_ne giq ga0 (by decide)))).symm
    have b5156 : x5098 = fI H5142 iq (2) := (p5141).trans (Wr.neI wH5142 (Or.inl (G_ne giq ga0 (by decide)))).symm
    have f5157 : ∀ j : Nat, fI H5142 q4 j = fI s.heap q4 j := fun j => (Wr.neI wH5142 (Or.inl (G_ne gq4 ga0 (by decide)))).trans (f5115 j)
    have m5158 := m5100.trans (Wr.neR wH5142 (Or.inr (x_apart hKT hts inX10 tyX10 tyX10_ok nmX10 rfl 73 3 (by decide) (by decide) (by decide)))).symm
    have m5159 := m5117.trans (Wr.neR wH5142 (Or.inr (x_apart hKT hts inX10 tyX10 tyX10_ok nmX10 rfl 4 3 (by decide) (by decide) (by decide)))).symm
    have m5160 := m5118.trans (Wr.neR wH5142 (Or.inr (x_apart hKT hts inX10 tyX10 tyX10_ok nmX10 rfl 10 3 (by decide) (by decide) (by decide)))).symm
    have m5161 := m5119.trans (Wr.neR wH5142 (Or.inr (x_apart hKT hts inX10 tyX10 tyX10_ok nmX10 rfl 16 3 (by decide) (by decide) (by decide)))).symm
    have m5162 := m5120.trans (Wr.neR wH5142 (Or.inr (x_apart hKT hts inX10 tyX10 tyX10_ok nmX10 rfl 24 3 (by decide) (by decide) (by decide)))).symm
    have m5163 := m5121.trans (Wr.neR wH5142 (Or.inr (x_apart hKT hts inX10 tyX10 tyX10_ok nmX10 rfl 27 3 (by decide) (by decide) (by decide)))).symm
    have m5164 := m5122.trans (Wr.neR wH5142 (Or.inr (x_apart hKT hts inX10 tyX10 tyX10_ok nmX10 rfl 29 3 (by decide) (by decide) (by decide)))).symm
    have m5165 := m5123.trans (Wr.neR wH5142 (Or.inr (x_apart hKT hts inX10 tyX10 tyX10_ok nmX10 rfl 30 3 (by decide) (by decide) (by decide)))).symm
    have m5166 := m5124.trans (Wr.neR wH5142 (Or.inr (x_apart hKT hts inX10 tyX10 tyX10_ok nmX10 rfl 31 3 (by decide) (by decide) (by decide)))).symm
    have m5167 := m5125.trans (Wr.neR wH5142 (Or.inr (x_apart hKT hts inX10 tyX10 tyX10_ok nmX10 rfl 32 3 (by decide) (by decide) (by decide)))).symm
    have m5168 := m5126.trans (Wr.neR wH5142 (Or.inr (x_apart hKT hts inX10 tyX10 tyX10_ok nmX10 rfl 33 3 (by decide) (by decide) (by decide)))).symm
    have m5169 := m5127.trans (Wr.neR wH5142 (Or.inr (x_apart hKT hts inX10 tyX10 tyX10_ok nmX10 rfl 50 3 (by decide) (by decide) (by decide)))).symm
    have m5171 := m5129.trans (Wr.neI wH5142 (Or.inr (x_apart hKT hts inX10 tyX10 tyX10_ok nmX10 rfl 59 3 (by decide) (by decide) (by decide)))).symm
    have m5172 := m5130.trans (Wr.neI wH5142 (Or.inr (x_apart hKT hts inX10 tyX10 tyX10_ok nmX10 rfl 62 3 (by decide) (by decide) (by decide)))).symm
    have m5173 := m5131.trans (Wr.neI wH5142 (Or.inr (x_apart hKT hts inX10 tyX10 tyX10_ok nmX10 rfl 65 3 (by decide) (by decide) (by decide)))).symm
    have m5174 := (Wr.neI wH5142 (Or.inr (x_apart hKT hts inX10 tyX10 tyX10_ok nmX10 rfl 0 3 (by decide) (by decide) (by decide)))).trans m5132
    have m5175 := m5133.trans (Wr.neI wH5142 (Or.inr (x_apart hKT hts inX10 tyX10 tyX10_ok nmX10 rfl 71 3 (by decide) (by decide) (by decide)))).symm
    have m5176 := (Wr.neI wH5142 (Or.inr (x_apart hKT hts inX10 tyX10 tyX10_ok nmX10 rfl 70 3 (by decide) (by decide) (by decide)))).trans m5134
    have m5177 := m5135.trans (Wr.neI wH5142 (Or.inr (x_apart hKT hts inX10 tyX10 tyX10_ok nmX10 rfl 1 3 (by decide) (by decide) (by decide)))).symm
    have m5178 := m5136.trans (Wr.neI wH5142 (Or.inr (x_apart hKT hts inX10 tyX10 tyX10_ok nmX10 rfl 2 3 (by decide) (by decide) (by decide)))).symm
    have m5179 := ex5099.trans (Wr.neI wH5142 (Or.inr (x_apart hKT hts inX10 tyX10 tyX10_ok nmX10 rfl 72 3 (by decide) (by decide) (by decide)))).symm
    have m5180 := Wr.I wH5142
    have m5180 := m5180.symm
    clear b5107 b5108 b5109 b5110 b5111 b5112 b5113 b5114 b5138 b5139 b5140 ex5099 f5115 g5101 hTH5097 m5100 m5117 m5118 m5119 m5120 m5121 m5122 m5123 m5124 m5125 m5126 m5127 m5128 m5129 m5130 m5131 m5132 m5133 m5134 m5135 m5136 mf5137 p5141
    refine lv_aload_n hx hb dX10_image_69 rfl (lv_at hl 0 rfl) ?_
    refine lv_aload_n hx hb dX10_image_70 rfl (lv_at hl 0 rfl) ?_
    refine lv_aload_n hx hb dX10_image_71 rfl (lv_at hl 0 rfl) ?_
    refine x_gi C hTH5142 (ci := 10) (k := 59) rfl inX10 (by decide) wF_X10_438 ga0 rg_112 rfl dX10_image_72 (fun x5181 ex5181 bx5181 => ?_)
    have ux5181 : s59 = x5181 := (m5171).trans ex5181.symm
    subst ux5181
    refine x_V (As := [.int s59]) (rest := [.ref a0]) C (a_X10_kept l K G H5142 (s59) (x5099) (x1) hTH5142 ga0 giq m5158 m5179 m5175 g5144 (by and_intros <;> first | assumption | omega)) yo_X10_kept wM_X10_473 ⟨⟨by decide, by decide⟩, by decide, by decide⟩ (x_rv C hTH5142 (ci := 10) rfl ga0 rg_112) rfl hl.1 rfl (Nat.le_of_ble_eq_true rfl) dX10_image_75 hSH5142 (AE_sub (fun _ _ => rfl) (by decide) hSH5142.1) (fun vH5182 H5182 locsH5182 pH5182 zH5182 kH5182 hSH5182 => ?_)
    obtain ⟨x5183, x5184, hvH5182, ex5184, hrH5182, m5185, g5186, mf5187, m5188, m5189, m5190, m5191, hTH5182⟩ := pH5182
    subst hvH5182
    clear zH5182
    replace m5185 := EQN.mk m5185
    have b5192 : UN (x1.toInt ≠ 0) (fun k => fI H5182 q4 k) (fun k => fI s.heap q4 k) := UN.congr (fun j => fI_kept (x_lt hTH5142 kH5182 gq4 (by decide))) b5145
    have b5193 : UN (x1.toInt ≠ 0) (fun k => fI H5182 q16 k) (fun k => fI s.heap q16 k) := UN.congr (fun j => fI_kept (x_lt hTH5142 kH5182 gq16 (by decide))) b5146
    have b5194 : UN (x1.toInt ≠ 0) (fun k => fI H5182 q24 k) (fun k => fI s.heap q24 k) := UN.congr (fun j => fI_kept (x_lt hTH5142 kH5182 gq24 (by decide))) b5147
    have b5195 : UN (x1.toInt ≠ 0) (fun k => fI H5182 q29 k) (fun k => fI s.heap q29 k) := UN.congr (fun j => fI_kept (x_lt hTH5142 kH5182 gq29 (by decide))) b5148
    have b5196 : UN (x1.toInt ≠ 0) (fun k => fI H5182 q30 k) (fun k => fI s.heap q30 k) := UN.congr (fun j => fI_kept (x_lt hTH5142 kH5182 gq30 (by decide))) b5149
    have b5197 : UN (x1.toInt ≠ 0) (fun k => fI H5182 q31 k) (fun k => fI s.heap q31 k) := UN.congr (fun j => fI_kept (x_lt hTH5142 kH5182 gq31 (by decide))) b5150
    have b5198 : UN (x1.toInt ≠ 0) (fun k => fI H5182 q32 k) (fun k => fI s.heap q32 k) := UN.congr (fun j => fI_kept (x_lt hTH5142 kH5182 gq32 (by decide))) b5151
    have b5199 : UN (x1.toInt ≠ 0) (fun k => fI H5182 q33 k) (fun k => fI s.heap q33 k) := UN.congr (fun j => fI_kept (x_lt hTH5142 kH5182 gq33 (by decide))) b5152
    have f5200 : ∀ j : Nat, fI H5182 q4 j = fI s.heap q4 j := fun j => (fI_kept (x_lt hTH5142 kH5182 gq4 (by decide))).trans (f5157 j)
    have m5201 := (m5158).trans (MF.r mf5187 (k := 73) (by decide) (by decide)).symm
    have m5202 := (m5159).trans (MF.r mf5187 (k := 4) (by decide) (by decide)).symm
    have m5203 := (m5160).trans (MF.r mf5187 (k := 10) (by decide) (by decide)).symm
    have m5204 := (m5161).trans (MF.r mf5187 (k := 16) (by decide) (by decide)).symm
    have m5205 := (m5162).trans (MF.r mf5187 (k := 24) (by decide) (by decide)).symm
    have m5206 := (m5163).trans (MF.r mf5187 (k := 27) (by decide) (by decide)).symm
    have m5207 := (m5164).trans (MF.r mf5187 (k := 29) (by decide) (by decide)).symm
    have m5208 := (m5165).trans (MF.r mf5187 (k := 30) (by decide) (by decide)).symm
    have m5209 := (m5166).trans (MF.r mf5187 (k := 31) (by decide) (by decide)).symm
    have m5210 := (m5167).trans (MF.r mf5187 (k := 32) (by decide) (by decide)).symm
    have m5211 := (m5168).trans (MF.r mf5187 (k := 33) (by decide) (by decide)).symm
    have m5212 := (m5169).trans (MF.r mf5187 (k := 50) (by decide) (by decide)).symm
    have m5213 := (m5171).trans (MF.i mf5187 (k := 59) (by decide) (by decide)).symm
    have m5214 := (m5172).trans (MF.i mf5187 (k := 62) (by decide) (by decide)).symm
    have m5215 := (m5173).trans (MF.i mf5187 (k := 65) (by decide) (by decide)).symm
    have m5216 := (MF.i mf5187 (k := 0) (by decide) (by decide)).trans m5174
    have m5217 := (m5175).trans (MF.i mf5187 (k := 71) (by decide) (by decide)).symm
    have m5218 := (MF.i mf5187 (k := 70) (by decide) (by decide)).trans m5176
    have m5219 := (m5177).trans (MF.i mf5187 (k := 1) (by decide) (by decide)).symm
    have m5220 := (m5178).trans (MF.i mf5187 (k := 2) (by decide) (by decide)).symm
    have m5221 := (m5180).trans (MF.i mf5187 (k := 3) (by decide) (by decide)).symm
    have mf5222 : MF K s.heap H5182 a0 [0, 1, 2, 3, 59, 62, 65, 70, 71, 72] := MF.trans mf5143 mf5187 (by decide)
    have bx5184 := ty_fi (x := x5184) (k := 72) ex5184 hTH5182 ga0 rg_112 rfl
    have ce_x5099 := i_cl (x := x5099) (by omega)
    have b5223 : UN (x1.toInt = 0) (fun k => fI H5182 iq k) (fun k => fI s.heap iq k) := UN.tr m5191 b5153
    have b5224 : x4934 = fI H5182 iq (0) := (b5154).trans (m5190 _ (by omega)).symm
    have b5225 : x5015 = fI H5182 iq (1) := (b5155).trans (m5190 _ (by omega)).symm
    have b5226 : x5098 = fI H5182 iq (2) := (b5156).trans (m5190 _ (by omega)).symm
    clear b5145 b5146 b5147 b5148 b5149 b5150 b5151 b5152 b5153 b5154 b5155 b5156 m5158 m5159 m5160 m5161 m5162 m5163 m5164 m5165 m5166 m5167 m5168 m5169 m5171 m5172 m5173 m5174 m5175 m5176 m5177 m5178 m5179 m5180
    clear m5190 m5191
    have bx5183 : 0 ≤ x5183.toInt ∧ x5183.toInt ≤ 20 := kr (fun h0 => by have hiw := hIW; exact kr0 (w := fun k => fI H5182 iq k) m5188 (p := 3) (by omega) (b5223 h0) (hiw.1.2.2.1)) m5189 (by omega)
    have p5227 : x5183 = fI H5182 iq (3) := by have h := m5188; rw [show x5099.toNatClampNeg = 3 by omega] at h; exact h
    refine W.eq (g2 := F0 m 78 ls [.int x5183, .ref a0]) rfl ?_
    refine x_put C hTH5182 hSH5182 (ci := 10) (k := 59) (v := .int x5183) (ty0 := tyX10) rfl inX10 tyX10_ok nmX10 (by decide) rfl wF_X10_438 ga0 rg_112 rfl rfl (okI (by have := i_rng x5183; omega) (by have := i_rng x5183; omega)) rfl rfl (AE_in ga0 (by decide)) dX10_image_78 (fun H5228 locsH5228 hTH5228 hSH5228 wH5228 => ?_)
    have mf5229 : MF K s.heap H5228 a0 [0, 1, 2, 3, 59, 62, 65, 70, 71, 72] := MF.fld hap wH5228 (by decide) (by decide) mf5222
    have g5230 : WD (avw K H5228 a0) := WD.congr (fun k hk j => av_fld hTH5182 ga0 hap wH5228 (by decide) (WD_ok 112 (by decide) k hk) (WD_ne 59 (by decide) k hk)) g5186
    have b5231 : UN (x1.toInt ≠ 0) (fun k => fI H5228 q4 k) (fun k => fI s.heap q4 k) := UN.congr (fun j => Wr.neI wH5228 (Or.inl (G_ne gq4 ga0 (by decide)))) b5192
    have b5232 : UN (x1.toInt ≠ 0) (fun k => fI H5228 q16 k) (fun k => fI s.heap q16 k) := UN.congr (fun j => Wr.neI wH5228 (Or.inl (G_ne gq16 ga0 (by decide)))) b5193
    have b5233 : UN (x1.toInt ≠ 0) (fun k => fI H5228 q24 k) (fun k => fI s.heap q24 k) := UN.congr (fun j => Wr.neI wH5228 (Or.inl (G_ne gq24 ga0 (by decide)))) b5194
    have b5234 : UN (x1.toInt ≠ 0) (fun k => fI H5228 q29 k) (fun k => fI s.heap q29 k) := UN.congr (fun j => Wr.neI wH5228 (Or.inl (G_ne gq29 ga0 (by decide)))) b5195
    have b5235 : UN (x1.toInt ≠ 0) (fun k => fI H5228 q30 k) (fun k => fI s.heap q30 k) := UN.congr (fun j => Wr.neI wH5228 (Or.inl (G_ne gq30 ga0 (by decide)))) b5196
    have b5236 : UN (x1.toInt ≠ 0) (fun k => fI H5228 q31 k) (fun k => fI s.heap q31 k) := UN.congr (fun j => Wr.neI wH5228 (Or.inl (G_ne gq31 ga0 (by decide)))) b5197
    have b5237 : UN (x1.toInt ≠ 0) (fun k => fI H5228 q32 k) (fun k => fI s.heap q32 k) := UN.congr (fun j => Wr.neI wH5228 (Or.inl (G_ne gq32 ga0 (by decide)))) b5198
    have b5238 : UN (x1.toInt ≠ 0) (fun k => fI H5228 q33 k) (fun k => fI s.heap q33 k) := UN.congr (fun j => Wr.neI wH5228 (Or.inl (G_ne gq33 ga0 (by decide)))) b5199
    have b5239 : UN (x1.toInt = 0) (fun k => fI H5228 iq k) (fun k => fI s.heap iq k) := UN.congr (fun j => Wr.neI wH5228 (Or.inl (G_ne giq ga0 (by decide)))) b5223
    have b5240 : x4934 = fI H5228 iq (0) := (b5224).trans (Wr.neI wH5228 (Or.inl (G_ne giq ga0 (by decide)))).symm
    have b5241 : x5015 = fI H5228 iq (1) := (b5225).trans (Wr.neI wH5228 (Or.inl (G_ne giq ga0 (by decide)))).symm
    have b5242 : x5098 = fI H5228 iq (2) := (b5226).trans (Wr.neI wH5228 (Or.inl (G_ne giq ga0 (by decide)))).symm
    have b5243 : x5183 = fI H5228 iq (3) := (p5227).trans (Wr.neI wH5228 (Or.inl (G_ne giq ga0 (by decide)))).symm
    have f5244 : ∀ j : Nat, fI H5228 q4 j = fI s.heap q4 j := fun j => (Wr.neI wH5228 (Or.inl (G_ne gq4 ga0 (by decide)))).trans (f5200 j)
    have m5245 := m5185.trans (Wr.neR wH5228 (Or.inr (x_apart hKT hts inX10 tyX10 tyX10_ok nmX10 rfl 73 59 (by decide) (by decide) (by decide)))).symm
    have m5246 := m5202.trans (Wr.neR wH5228 (Or.inr (x_apart hKT hts inX10 tyX10 tyX10_ok nmX10 rfl 4 59 (by decide) (by decide) (by decide)))).symm
    have m5247 := m5203.trans (Wr.neR wH5228 (Or.inr (x_apart hKT hts inX10 tyX10 tyX10_ok nmX10 rfl 10 59 (by decide) (by decide) (by decide)))).symm
    have m5248 := m5204.trans (Wr.neR wH5228 (Or.inr (x_apart hKT hts inX10 tyX10 tyX10_ok nmX10 rfl 16 59 (by decide) (by decide) (by decide)))).symm
    have m5249 := m5205.trans (Wr.neR wH5228 (Or.inr (x_apart hKT hts inX10 tyX10 tyX10_ok nmX10 rfl 24 59 (by decide) (by decide) (by decide)))).symm
    have m5250 := m5206.trans (Wr.neR wH5228 (Or.inr (x_apart hKT hts inX10 tyX10 tyX10_ok nmX10 rfl 27 59 (by decide) (by decide) (by decide)))).symm
    have m5251 := m5207.trans (Wr.neR wH5228 (Or.inr (x_apart hKT hts inX10 tyX10 tyX10_ok nmX10 rfl 29 59 (by decide) (by decide) (by decide)))).symm
    have m5252 := m5208.trans (Wr.neR wH5228 (Or.inr (x_apart hKT hts inX10 tyX10 tyX10_ok nmX10 rfl 30 59 (by decide) (by decide) (by decide)))).symm
    have m5253 := m5209.trans (Wr.neR wH5228 (Or.inr (x_apart hKT hts inX10 tyX10 tyX10_ok nmX10 rfl 31 59 (by decide) (by decide) (by decide)))).symm
    have m5254 := m5210.trans (Wr.neR wH5228 (Or.inr (x_apart hKT hts inX10 tyX10 tyX10_ok nmX10 rfl 32 59 (by decide) (by decide) (by decide)))).symm
    have m5255 := m5211.trans (Wr.neR wH5228 (Or.inr (x_apart hKT hts inX10 tyX10 tyX10_ok nmX10 rfl 33 59 (by decide) (by decide) (by decide)))).symm
    have m5256 := m5212.trans (Wr.neR wH5228 (Or.inr (x_apart hKT hts inX10 tyX10 tyX10_ok nmX10 rfl 50 59 (by decide) (by decide) (by decide)))).symm
    have m5258 := m5214.trans (Wr.neI wH5228 (Or.inr (x_apart hKT hts inX10 tyX10 tyX10_ok nmX10 rfl 62 59 (by decide) (by decide) (by decide)))).symm
    have m5259 := m5215.trans (Wr.neI wH5228 (Or.inr (x_apart hKT hts inX10 tyX10 tyX10_ok nmX10 rfl 65 59 (by decide) (by decide) (by decide)))).symm
    have m5260 := (Wr.neI wH5228 (Or.inr (x_apart hKT hts inX10 tyX10 tyX10_ok nmX10 rfl 0 59 (by decide) (by decide) (by decide)))).trans m5216
    have m5261 := m5217.trans (Wr.neI wH5228 (Or.inr (x_apart hKT hts inX10 tyX10 tyX10_ok nmX10 rfl 71 59 (by decide) (by decide) (by decide)))).symm
    have m5262 := (Wr.neI wH5228 (Or.inr (x_apart hKT hts inX10 tyX10 tyX10_ok nmX10 rfl 70 59 (by decide) (by decide) (by decide)))).trans m5218
    have m5263 := m5219.trans (Wr.neI wH5228 (Or.inr (x_apart hKT hts inX10 tyX10 tyX10_ok nmX10 rfl 1 59 (by decide) (by decide) (by decide)))).symm
    have m5264 := m5220.trans (Wr.neI wH5228 (Or.inr (x_apart hKT hts inX10 tyX10 tyX10_ok nmX10 rfl 2 59 (by decide) (by decide) (by decide)))).symm
    have m5265 := m5221.trans (Wr.neI wH5228 (Or.inr (x_apart hKT hts inX10 tyX10 tyX10_ok nmX10 rfl 3 59 (by decide) (by decide) (by decide)))).symm
    have m5266 := ex5184.trans (Wr.neI wH5228 (Or.inr (x_apart hKT hts inX10 tyX10 tyX10_ok nmX10 rfl 72 59 (by decide) (by decide) (by decide)))).symm
    have m5267 := Wr.I wH5228
    have m5267 := m5267.symm
    clear b5192 b5193 b5194 b5195 b5196 b5197 b5198 b5199 b5223 b5224 b5225 b5226 ex5184 f5200 g5186 hTH5182 m5185 m5202 m5203 m5204 m5205 m5206 m5207 m5208 m5209 m5210 m5211 m5212 m5213 m5214 m5215 m5216 m5217 m5218 m5219 m5220 m5221 mf5222 p5227
    refine lv_aload_n hx hb dX10_image_81 rfl (lv_at hl 0 rfl) ?_
    refine lv_aload_n hx hb dX10_image_82 rfl (lv_at hl 0 rfl) ?_
    refine lv_aload_n hx hb dX10_image_83 rfl (lv_at hl 0 rfl) ?_
    refine x_gi C hTH5228 (ci := 10) (k := 62) rfl inX10 (by decide) wF_X10_455 ga0 rg_112 rfl dX10_image_84 (fun x5268 ex5268 bx5268 => ?_)
    have ux5268 : s62 = x5268 := (m5258).trans ex5268.symm
    subst ux5268
    refine x_V (As := [.int s62]) (rest := [.ref a0]) C (a_X10_kept l K G H5228 (s62) (x5184) (x1) hTH5228 ga0 giq m5245 m5266 m5261 g5230 (by and_intros <;> first | assumption | omega)) yo_X10_kept wM_X10_473 ⟨⟨by decide, by decide⟩, by decide, by decide⟩ (x_rv C hTH5228 (ci := 10) rfl ga0 rg_112) rfl hl.1 rfl (Nat.le_of_ble_eq_true rfl) dX10_image_87 hSH5228 (AE_sub (fun _ _ => rfl) (by decide) hSH5228.1) (fun vH5269 H5269 locsH5269 pH5269 zH5269 kH5269 hSH5269 => ?_)
    obtain ⟨x5270, x5271, hvH5269, ex5271, hrH5269, m5272, g5273, mf5274, m5275, m5276, m5277, m5278, hTH5269⟩ := pH5269
    subst hvH5269
    clear zH5269
    replace m5272 := EQN.mk m5272
    have b5279 : UN (x1.toInt ≠ 0) (fun k => fI H5269 q4 k) (fun k => fI s.heap q4 k) := UN.congr (fun j => fI_kept (x_lt hTH5228 kH5269 gq4 (by decide))) b5231
    have b5280 : UN (x1.toInt ≠ 0) (fun k => fI H5269 q16 k) (fun k => fI s.heap q16 k) := UN.congr (fun j => fI_kept (x_lt hTH5228 kH5269 gq16 (by decide))) b5232
    have b5281 : UN (x1.toInt ≠ 0) (fun k => fI H5269 q24 k) (fun k => fI s.heap q24 k) := UN.congr (fun j => fI_kept (x_lt hTH5228 kH5269 gq24 (by decide))) b5233
    have b5282 : UN (x1.toInt ≠ 0) (fun k => fI H5269 q29 k) (fun k => fI s.heap q29 k) := UN.congr (fun j => fI_kept (x_lt hTH5228 kH5269 gq29 (by decide))) b5234
    have b5283 : UN (x1.toInt ≠ 0) (fun k => fI H5269 q30 k) (fun k => fI s.heap q30 k) := UN.congr (fun j => fI_kept (x_lt hTH5228 kH5269 gq30 (by decide))) b5235
    have b5284 : UN (x1.toInt ≠ 0) (fun k => fI H5269 q31 k) (fun k => fI s.heap q31 k) := UN.congr (fun j => fI_kept (x_lt hTH5228 kH5269 gq31 (by decide))) b5236
    have b5285 : UN (x1.toInt ≠ 0) (fun k => fI H5269 q32 k) (fun k => fI s.heap q32 k) := UN.congr (fun j => fI_kept (x_lt hTH5228 kH5269 gq32 (by decide))) b5237
    have b5286 : UN (x1.toInt ≠ 0) (fun k => fI H5269 q33 k) (fun k => fI s.heap q33 k) := UN.congr (fun j => fI_kept (x_lt hTH5228 kH5269 gq33 (by decide))) b5238
    have f5287 : ∀ j : Nat, fI H5269 q4 j = fI s.heap q4 j := fun j => (fI_kept (x_lt hTH5228 kH5269 gq4 (by decide))).trans (f5244 j)
    have m5288 := (m5245).trans (MF.r mf5274 (k := 73) (by decide) (by decide)).symm
    have m5289 := (m5246).trans (MF.r mf5274 (k := 4) (by decide) (by decide)).symm
    have m5290 := (m5247).trans (MF.r mf5274 (k := 10) (by decide) (by decide)).symm
    have m5291 := (m5248).trans (MF.r mf5274 (k := 16) (by decide) (by decide)).symm
    have m5292 := (m5249).trans (MF.r mf5274 (k := 24) (by decide) (by decide)).symm
    have m5293 := (m5250).trans (MF.r mf5274 (k := 27) (by decide) (by decide)).symm
    have m5294 := (m5251).trans (MF.r mf5274 (k := 29) (by decide) (by decide)).symm
    have m5295 := (m5252).trans (MF.r mf5274 (k := 30) (by decide) (by decide)).symm
    have m5296 := (m5253).trans (MF.r mf5274 (k := 31) (by decide) (by decide)).symm
    have m5297 := (m5254).trans (MF.r mf5274 (k := 32) (by decide) (by decide)).symm
    have m5298 := (m5255).trans (MF.r mf5274 (k := 33) (by decide) (by decide)).symm
    have m5299 := (m5256).trans (MF.r mf5274 (k := 50) (by decide) (by decide)).symm
    have m5300 := (m5258).trans (MF.i mf5274 (k := 62) (by decide) (by decide)).symm
    have m5301 := (m5259).trans (MF.i mf5274 (k := 65) (by decide) (by decide)).symm
    have m5302 := (MF.i mf5274 (k := 0) (by decide) (by decide)).trans m5260
    have m5303 := (m5261).trans (MF.i mf5274 (k := 71) (by decide) (by decide)).symm
    have m5304 := (MF.i mf5274 (k := 70) (by decide) (by decide)).trans m5262
    have m5305 := (m5263).trans (MF.i mf5274 (k := 1) (by decide) (by decide)).symm
    have m5306 := (m5264).trans (MF.i mf5274 (k := 2) (by decide) (by decide)).symm
    have m5307 := (m5265).trans (MF.i mf5274 (k := 3) (by decide) (by decide)).symm
    have m5308 := (m5267).trans (MF.i mf5274 (k := 59) (by decide) (by decide)).symm
    have mf5309 : MF K s.heap H5269 a0 [0, 1, 2, 3, 59, 62, 65, 70, 71, 72] := MF.trans mf5229 mf5274 (by decide)
    have bx5271 := ty_fi (x := x5271) (k := 72) ex5271 hTH5269 ga0 rg_112 rfl
    have ce_x5184 := i_cl (x := x5184) (by omega)
    have b5310 : UN (x1.toInt = 0) (fun k => fI H5269 iq k) (fun k => fI s.heap iq k) := UN.tr m5278 b5239
    have b5311 : x4934 = fI H5269 iq (0) := (b5240).trans (m5277 _ (by omega)).symm
    have b5312 : x5015 = fI H5269 iq (1) := (b5241).trans (m5277 _ (by omega)).symm
    have b5313 : x5098 = fI H5269 iq (2) := (b5242).trans (m5277 _ (by omega)).symm
    have b5314 : x5183 = fI H5269 iq (3) := (b5243).trans (m5277 _ (by omega)).symm
    clear b5231 b5232 b5233 b5234 b5235 b5236 b5237 b5238 b5239 b5240 b5241 b5242 b5243 m5245 m5246 m5247 m5248 m5249 m5250 m5251 m5252 m5253 m5254 m5255 m5256 m5258 m5259 m5260 m5261 m5262 m5263 m5264 m5265 m5266 m5267
    clear m5277 m5278
    have bx5270 : 0 ≤ x5270.toInt ∧ x5270.toInt ≤ 8 := kr (fun h0 => by have hiw := hIW; exact kr0 (w := fun k => fI H5269 iq k) m5275 (p := 4) (by omega) (b5310 h0) (hiw.1.2.2.2.1)) m5276 (by omega)
    have p5315 : x5270 = fI H5269 iq (4) := by have h := m5275; rw [show x5184.toNatClampNeg = 4 by omega] at h; exact h
    refine W.eq (g2 := F0 m 90 ls [.int x5270, .ref a0]) rfl ?_
    refine x_put C hTH5269 hSH5269 (ci := 10) (k := 62) (v := .int x5270) (ty0 := tyX10) rfl inX10 tyX10_ok nmX10 (by decide) rfl wF_X10_455 ga0 rg_112 rfl rfl (okI (by have := i_rng x5270; omega) (by have := i_rng x5270; omega)) rfl rfl (AE_in ga0 (by decide)) dX10_image_90 (fun H5316 locsH5316 hTH5316 hSH5316 wH5316 => ?_)
    have mf5317 : MF K s.heap H5316 a0 [0, 1, 2, 3, 59, 62, 65, 70, 71, 72] := MF.fld hap wH5316 (by decide) (by decide) mf5309
    have g5318 : WD (avw K H5316 a0) := WD.congr (fun k hk j => av_fld hTH5269 ga0 hap wH5316 (by decide) (WD_ok 112 (by decide) k hk) (WD_ne 62 (by decide) k hk)) g5273
    have b5319 : UN (x1.toInt ≠ 0) (fun k => fI H5316 q4 k) (fun k => fI s.heap q4 k) := UN.congr (fun j => Wr.neI wH5316 (Or.inl (G_ne gq4 ga0 (by decide)))) b5279
    have b5320 : UN (x1.toInt ≠ 0) (fun k => fI H5316 q16 k) (fun k => fI s.heap q16 k) := UN.congr (fun j => Wr.neI wH5316 (Or.inl (G_ne gq16 ga0 (by decide)))) b5280
    have b5321 : UN (x1.toInt ≠ 0) (fun k => fI H5316 q24 k) (fun k => fI s.heap q24 k) := UN.congr (fun j => Wr.neI wH5316 (Or.inl (G_ne gq24 ga0 (by decide)))) b5281
    have b5322 : UN (x1.toInt ≠ 0) (fun k => fI H5316 q29 k) (fun k => fI s.heap q29 k) := UN.congr (fun j => Wr.neI wH5316 (Or.inl (G_ne gq29 ga0 (by decide)))) b5282
    have b5323 : UN (x1.toInt ≠ 0) (fun k => fI H5316 q30 k) (fun k => fI s.heap q30 k) := UN.congr (fun j => Wr.neI wH5316 (Or.inl (G_ne gq30 ga0 (by decide)))) b5283
    have b5324 : UN (x1.toInt ≠ 0) (fun k => fI H5316 q31 k) (fun k => fI s.heap q31 k) := UN.congr (fun j => Wr.neI wH5316 (Or.inl (G_ne gq31 ga0 (by decide)))) b5284
    have b5325 : UN (x1.toInt ≠ 0) (fun k => fI H5316 q32 k) (fun k => fI s.heap q32 k) := UN.congr (fun j => Wr.neI wH5316 (Or.inl (G_ne gq32 ga0 (by decide)))) b5285
    have b5326 : UN (x1.toInt ≠ 0) (fun k => fI H5316 q33 k) (fun k => fI s.heap q33 k) := UN.congr (fun j => Wr.neI wH5316 (Or.inl (G_ne gq33 ga0 (by decide)))) b5286
    have b5327 : UN (x1.toInt = 0) (fun k => fI H5316 iq k) (fun k => fI s.heap iq k) := UN.congr (fun j => Wr.neI wH5316 (Or.inl (G_ne giq ga0 (by decide)))) b5310
    have b5328 : x4934 = fI H5316 iq (0) := (b5311).trans (Wr.neI wH5316 (Or.inl (G_ne giq ga0 (by decide)))).symm
    have b5329 : x5015 = fI H5316 iq (1) := (b5312).trans (Wr.neI wH5316 (Or.inl (G_ne giq ga0 (by decide)))).symm
    have b5330 : x5098 = fI H5316 iq (2) := (b5313).trans (Wr.neI wH5316 (Or.inl (G_ne giq ga0 (by decide)))).symm
    have b5331 : x5183 = fI H5316 iq (3) := (b5314).trans (Wr.neI wH5316 (Or.inl (G_ne giq ga0 (by decide)))).symm
    have b5332 : x5270 = fI H5316 iq (4) := (p5315).trans (Wr.neI wH5316 (Or.inl (G_ne giq ga0 (by decide)))).symm
    have f5333 : ∀ j : Nat, fI H5316 q4 j = fI s.heap q4 j := fun j => (Wr.neI wH5316 (Or.inl (G_ne gq4 ga0 (by decide)))).trans (f5287 j)
    have m5334 := m5272.trans (Wr.neR wH5316 (Or.inr (x_apart hKT hts inX10 tyX10 tyX10_ok nmX10 rfl 73 62 (by decide) (by decide) (by decide)))).symm
    have m5335 := m5289.trans (Wr.neR wH5316 (Or.inr (x_apart hKT hts inX10 tyX10 tyX10_ok nmX10 rfl 4 62 (by decide) (by decide) (by decide)))).symm
    have m5336 := m5290.trans (Wr.neR wH5316 (Or.inr (x_apart hKT hts inX10 tyX10 tyX10_ok nmX10 rfl 10 62 (by decide) (by decide) (by decide)))).symm
    have m5337 := m5291.trans (Wr.neR wH5316 (Or.inr (x_apart hKT hts inX10 tyX10 tyX10_ok nmX10 rfl 16 62 (by decide) (by decide) (by decide)))).symm
    have m5338 := m5292.trans (Wr.neR wH5316 (Or.inr (x_apart hKT hts inX10 tyX10 tyX10_ok nmX10 rfl 24 62 (by decide) (by decide) (by decide)))).symm
    have m5339 := m5293.trans (Wr.neR wH5316 (Or.inr (x_apart hKT hts inX10 tyX10 tyX10_ok nmX10 rfl 27 62 (by decide) (by decide) (by decide)))).symm
    have m5340 := m5294.trans (Wr.neR wH5316 (Or.inr (x_apart hKT hts inX10 tyX10 tyX10_ok nmX10 rfl 29 62 (by decide) (by decide) (by decide)))).symm
    have m5341 := m5295.trans (Wr.neR wH5316 (Or.inr (x_apart hKT hts inX10 tyX10 tyX10_ok nmX10 rfl 30 62 (by decide) (by decide) (by decide)))).symm
    have m5342 := m5296.trans (Wr.neR wH5316 (Or.inr (x_apart hKT hts inX10 tyX10 tyX10_ok nmX10 rfl 31 62 (by decide) (by decide) (by decide)))).symm
    have m5343 := m5297.trans (Wr.neR wH5316 (Or.inr (x_apart hKT hts inX10 tyX10 tyX10_ok nmX10 rfl 32 62 (by decide) (by decide) (by decide)))).symm
    have m5344 := m5298.trans (Wr.neR wH5316 (Or.inr (x_apart hKT hts inX10 tyX10 tyX10_ok nmX10 rfl 33 62 (by decide) (by decide) (by decide)))).symm
    have m5345 := m5299.trans (Wr.neR wH5316 (Or.inr (x_apart hKT hts inX10 tyX10 tyX10_ok nmX10 rfl 50 62 (by decide) (by decide) (by decide)))).symm
    have m5347 := m5301.trans (Wr.neI wH5316 (Or.inr (x_apart hKT hts inX10 tyX10 tyX10_ok nmX10 rfl 65 62 (by decide) (by decide) (by decide)))).symm
    have m5348 := (Wr.neI wH5316 (Or.inr (x_apart hKT hts inX10 tyX10 tyX10_ok nmX10 rfl 0 62 (by decide) (by decide) (by decide)))).trans m5302
    have m5349 := m5303.trans (Wr.neI wH5316 (Or.inr (x_apart hKT hts inX10 tyX10 tyX10_ok nmX10 rfl 71 62 (by decide) (by decide) (by decide)))).symm
    have m5350 := (Wr.neI wH5316 (Or.inr (x_apart hKT hts inX10 tyX10 tyX10_ok nmX10 rfl 70 62 (by decide) (by decide) (by decide)))).trans m5304
    have m5351 := m5305.trans (Wr.neI wH5316 (Or.inr (x_apart hKT hts inX10 tyX10 tyX10_ok nmX10 rfl 1 62 (by decide) (by decide) (by decide)))).symm
    have m5352 := m5306.trans (Wr.neI wH5316 (Or.inr (x_apart hKT hts inX10 tyX10 tyX10_ok nmX10 rfl 2 62 (by decide) (by decide) (by decide)))).symm
    have m5353 := m5307.trans (Wr.neI wH5316 (Or.inr (x_apart hKT hts inX10 tyX10 tyX10_ok nmX10 rfl 3 62 (by decide) (by decide) (by decide)))).symm
    have m5354 := m5308.trans (Wr.neI wH5316 (Or.inr (x_apart hKT hts inX10 tyX10 tyX10_ok nmX10 rfl 59 62 (by decide) (by decide) (by decide)))).symm
    have m5355 := ex5271.trans (Wr.neI wH5316 (Or.inr (x_apart hKT hts inX10 tyX10 tyX10_ok nmX10 rfl 72 62 (by decide) (by decide) (by decide)))).symm
    have m5356 := Wr.I wH5316
    have m5356 := m5356.symm
    clear b5279 b5280 b5281 b5282 b5283 b5284 b5285 b5286 b5310 b5311 b5312 b5313 b5314 ex5271 f5287 g5273 hTH5269 m5272 m5289 m5290 m5291 m5292 m5293 m5294 m5295 m5296 m5297 m5298 m5299 m5300 m5301 m5302 m5303 m5304 m5305 m5306 m5307 m5308 mf5309 p5315
    refine lv_aload_n hx hb dX10_image_93 rfl (lv_at hl 0 rfl) ?_
    refine lv_aload_n hx hb dX10_image_94 rfl (lv_at hl 0 rfl) ?_
    refine lv_aload_n hx hb dX10_image_95 rfl (lv_at hl 0 rfl) ?_
    refine x_gi C hTH5316 (ci := 10) (k := 65) rfl inX10 (by decide) wF_X10_458 ga0 rg_112 rfl dX10_image_96 (fun x5357 ex5357 bx5357 => ?_)
    have ux5357 : s65 = x5357 := (m5347).trans ex5357.symm
    subst ux5357
    refine x_V (As := [.int s65]) (rest := [.ref a0]) C (a_X10_kept l K G H5316 (s65) (x5271) (x1) hTH5316 ga0 giq m5334 m5355 m5349 g5318 (by and_intros <;> first | assumption | omega)) yo_X10_kept wM_X10_473 ⟨⟨by decide, by decide⟩, by decide, by decide⟩ (x_rv C hTH5316 (ci := 10) rfl ga0 rg_112) rfl hl.1 rfl (Nat.le_of_ble_eq_true rfl) dX10_image_99 hSH5316 (AE_sub (fun _ _ => rfl) (by decide) hSH5316.1) (fun vH5358 H5358 locsH5358 pH5358 zH5358 kH5358 hSH5358 => ?_)
    obtain ⟨x5359, x5360, hvH5358, ex5360, hrH5358, m5361, g5362, mf5363, m5364, m5365, m5366, m5367, hTH5358⟩ := pH5358
    subst hvH5358
    clear zH5358
    replace m5361 := EQN.mk m5361
    have b5368 : UN (x1.toInt ≠ 0) (fun k => fI H5358 q4 k) (fun k => fI s.heap q4 k) := UN.congr (fun j => fI_kept (x_lt hTH5316 kH5358 gq4 (by decide))) b5319
    have b5369 : UN (x1.toInt ≠ 0) (fun k => fI H5358 q16 k) (fun k => fI s.heap q16 k) := UN.congr (fun j => fI_kept (x_lt hTH5316 kH5358 gq16 (by decide))) b5320
    have b5370 : UN (x1.toInt ≠ 0) (fun k => fI H5358 q24 k) (fun k => fI s.heap q24 k) := UN.congr (fun j => fI_kept (x_lt hTH5316 kH5358 gq24 (by decide))) b5321
    have b5371 : UN (x1.toInt ≠ 0) (fun k => fI H5358 q29 k) (fun k => fI s.heap q29 k) := UN.congr (fun j => fI_kept (x_lt hTH5316 kH5358 gq29 (by decide))) b5322
    have b5372 : UN (x1.toInt ≠ 0) (fun k => fI H5358 q30 k) (fun k => fI s.heap q30 k) := UN.congr (fun j => fI_kept (x_lt hTH5316 kH5358 gq30 (by decide))) b5323
    have b5373 : UN (x1.toInt ≠ 0) (fun k => fI H5358 q31 k) (fun k => fI s.heap q31 k) := UN.congr (fun j => fI_kept (x_lt hTH5316 kH5358 gq31 (by decide))) b5324
    have b5374 : UN (x1.toInt ≠ 0) (fun k => fI H5358 q32 k) (fun k => fI s.heap q32 k) := UN.congr (fun j => fI_kept (x_lt hTH5316 kH5358 gq32 (by decide))) b5325
    have b5375 : UN (x1.toInt ≠ 0) (fun k => fI H5358 q33 k) (fun k => fI s.heap q33 k) := UN.congr (fun j => fI_kept (x_lt hTH5316 kH5358 gq33 (by decide))) b5326
    have f5376 : ∀ j : Nat, fI H5358 q4 j = fI s.heap q4 j := fun j => (fI_kept (x_lt hTH5316 kH5358 gq4 (by decide))).trans (f5333 j)
    have m5377 := (m5334).trans (MF.r mf5363 (k := 73) (by decide) (by decide)).symm
    have m5378 := (m5335).trans (MF.r mf5363 (k := 4) (by decide) (by decide)).symm
    have m5379 := (m5336).trans (MF.r mf5363 (k := 10) (by decide) (by decide)).symm
    have m5380 := (m5337).trans (MF.r mf5363 (k := 16) (by decide) (by decide)).symm
    have m5381 := (m5338).trans (MF.r mf5363 (k := 24) (by decide) (by decide)).symm
    have m5382 := (m5339).trans (MF.r mf5363 (k := 27) (by decide) (by decide)).symm
    have m5383 := (m5340).trans (MF.r mf5363 (k := 29) (by decide) (by decide)).symm
    have m5384 := (m5341).trans (MF.r mf5363 (k := 30) (by decide) (by decide)).symm
    have m5385 := (m5342).trans (MF.r mf5363 (k := 31) (by decide) (by decide)).symm
    have m5386 := (m5343).trans (MF.r mf5363 (k := 32) (by decide) (by decide)).symm
    have m5387 := (m5344).trans (MF.r mf5363 (k := 33) (by decide) (by decide)).symm
    have m5388 := (m5345).trans (MF.r mf5363 (k := 50) (by decide) (by decide)).symm
    have m5389 := (m5347).trans (MF.i mf5363 (k := 65) (by decide) (by decide)).symm
    have m5390 := (MF.i mf5363 (k := 0) (by decide) (by decide)).trans m5348
    have m5391 := (m5349).trans (MF.i mf5363 (k := 71) (by decide) (by decide)).symm
    have m5392 := (MF.i mf5363 (k := 70) (by decide) (by decide)).trans m5350
    have m5393 := (m5351).trans (MF.i mf5363 (k := 1) (by decide) (by decide)).symm
    have m5394 := (m5352).trans (MF.i mf5363 (k := 2) (by decide) (by decide)).symm
    have m5395 := (m5353).trans (MF.i mf5363 (k := 3) (by decide) (by decide)).symm
    have m5396 := (m5354).trans (MF.i mf5363 (k := 59) (by decide) (by decide)).symm
    have m5397 := (m5356).trans (MF.i mf5363 (k := 62) (by decide) (by decide)).symm
    have mf5398 : MF K s.heap H5358 a0 [0, 1, 2, 3, 59, 62, 65, 70, 71, 72] := MF.trans mf5317 mf5363 (by decide)
    have bx5360 := ty_fi (x := x5360) (k := 72) ex5360 hTH5358 ga0 rg_112 rfl
    have ce_x5271 := i_cl (x := x5271) (by omega)
    have b5399 : UN (x1.toInt = 0) (fun k => fI H5358 iq k) (fun k => fI s.heap iq k) := UN.tr m5367 b5327
    have b5400 : x4934 = fI H5358 iq (0) := (b5328).trans (m5366 _ (by omega)).symm
    have b5401 : x5015 = fI H5358 iq (1) := (b5329).trans (m5366 _ (by omega)).symm
    have b5402 : x5098 = fI H5358 iq (2) := (b5330).trans (m5366 _ (by omega)).symm
    have b5403 : x5183 = fI H5358 iq (3) := (b5331).trans (m5366 _ (by omega)).symm
    have b5404 : x5270 = fI H5358 iq (4) := (b5332).trans (m5366 _ (by omega)).symm
    clear b5319 b5320 b5321 b5322 b5323 b5324 b5325 b5326 b5327 b5328 b5329 b5330 b5331 b5332 m5334 m5335 m5336 m5337 m5338 m5339 m5340 m5341 m5342 m5343 m5344 m5345 m5347 m5348 m5349 m5350 m5351 m5352 m5353 m5354 m5355 m5356
    clear m5366 m5367
    have bx5359 : 0 ≤ x5359.toInt ∧ x5359.toInt ≤ 8 := kr (fun h0 => by have hiw := hIW; exact kr0 (w := fun k => fI H5358 iq k) m5364 (p := 5) (by omega) (b5399 h0) (hiw.1.2.2.2.2)) m5365 (by omega)
    have p5405 : x5359 = fI H5358 iq (5) := by have h := m5364; rw [show x5271.toNatClampNeg = 5 by omega] at h; exact h
    refine W.eq (g2 := F0 m 102 ls [.int x5359, .ref a0]) rfl ?_
    refine x_put C hTH5358 hSH5358 (ci := 10) (k := 65) (v := .int x5359) (ty0 := tyX10) rfl inX10 tyX10_ok nmX10 (by decide) rfl wF_X10_458 ga0 rg_112 rfl rfl (okI (by have := i_rng x5359; omega) (by have := i_rng x5359; omega)) rfl rfl (AE_in ga0 (by decide)) dX10_image_102 (fun H5406 locsH5406 hTH5406 hSH5406 wH5406 => ?_)
    have mf5407 : MF K s.heap H5406 a0 [0, 1, 2, 3, 59, 62, 65, 70, 71, 72] := MF.fld hap wH5406 (by decide) (by decide) mf5398
    have g5408 : WD (avw K H5406 a0) := WD.congr (fun k hk j => av_fld hTH5358 ga0 hap wH5406 (by decide) (WD_ok 112 (by decide) k hk) (WD_ne 65 (by decide) k hk)) g5362
    have b5409 : UN (x1.toInt ≠ 0) (fun k => fI H5406 q4 k) (fun k => fI s.heap q4 k) := UN.congr (fun j => Wr.neI wH5406 (Or.inl (G_ne gq4 ga0 (by decide)))) b5368
    have b5410 : UN (x1.toInt ≠ 0) (fun k => fI H5406 q16 k) (fun k => fI s.heap q16 k) := UN.congr (fun j => Wr.neI wH5406 (Or.inl (G_ne gq16 ga0 (by decide)))) b5369
    have b5411 : UN (x1.toInt ≠ 0) (fun k => fI H5406 q24 k) (fun k => fI s.heap q24 k) := UN.congr (fun j => Wr.neI wH5406 (Or.inl (G_ne gq24 ga0 (by decide)))) b5370
    have b5412 : UN (x1.toInt ≠ 0) (fun k => fI H5406 q29 k) (fun k => fI s.heap q29 k) := UN.congr (fun j => Wr.neI wH5406 (Or.inl (G_ne gq29 ga0 (by decide)))) b5371
    have b5413 : UN (x1.toInt ≠ 0) (fun k => fI H5406 q30 k) (fun k => fI s.heap q30 k) := UN.congr (fun j => Wr.neI wH5406 (Or.inl (G_ne gq30 ga0 (by decide)))) b5372
    have b5414 : UN (x1.toInt ≠ 0) (fun k => fI H5406 q31 k) (fun k => fI s.heap q31 k) := UN.congr (fun j => Wr.neI wH5406 (Or.inl (G_ne gq31 ga0 (by decide)))) b5373
    have b5415 : UN (x1.toInt ≠ 0) (fun k => fI H5406 q32 k) (fun k => fI s.heap q32 k) := UN.congr (fun j => Wr.neI wH5406 (Or.inl (G_ne gq32 ga0 (by decide)))) b5374
    have b5416 : UN (x1.toInt ≠ 0) (fun k => fI H5406 q33 k) (fun k => fI s.heap q33 k) := UN.congr (fun j => Wr.neI wH5406 (Or.inl (G_ne gq33 ga0 (by decide)))) b5375
    have b5417 : UN (x1.toInt = 0) (fun k => fI H5406 iq k) (fun k => fI s.heap iq k) := UN.congr (fun j => Wr.neI wH5406 (Or.inl (G_ne giq ga0 (by decide)))) b5399
    have b5418 : x4934 = fI H5406 iq (0) := (b5400).trans (Wr.neI wH5406 (Or.inl (G_ne giq ga0 (by decide)))).symm
    have b5419 : x5015 = fI H5406 iq (1) := (b5401).trans (Wr.neI wH5406 (Or.inl (G_ne giq ga0 (by decide)))).symm
    have b5420 : x5098 = fI H5406 iq (2) := (b5402).trans (Wr.neI wH5406 (Or.inl (G_ne giq ga0 (by decide)))).symm
    have b5421 : x5183 = fI H5406 iq (3) := (b5403).trans (Wr.neI wH5406 (Or.inl (G_ne giq ga0 (by decide)))).symm
    have b5422 : x5270 = fI H5406 iq (4) := (b5404).trans (Wr.neI wH5406 (Or.inl (G_ne giq ga0 (by decide)))).symm
    have b5423 : x5359 = fI H5406 iq (5) := (p5405).trans (Wr.neI wH5406 (Or.inl (G_ne giq ga0 (by decide)))).symm
    have f5424 : ∀ j : Nat, fI H5406 q4 j = fI s.heap q4 j := fun j => (Wr.neI wH5406 (Or.inl (G_ne gq4 ga0 (by decide)))).trans (f5376 j)
    have m5425 := m5361.trans (Wr.neR wH5406 (Or.inr (x_apart hKT hts inX10 tyX10 tyX10_ok nmX10 rfl 73 65 (by decide) (by decide) (by decide)))).symm
    have m5426 := m5378.trans (Wr.neR wH5406 (Or.inr (x_apart hKT hts inX10 tyX10 tyX10_ok nmX10 rfl 4 65 (by decide) (by decide) (by decide)))).symm
    have m5427 := m5379.trans (Wr.neR wH5406 (Or.inr (x_apart hKT hts inX10 tyX10 tyX10_ok nmX10 rfl 10 65 (by decide) (by decide) (by decide)))).symm
    have m5428 := m5380.trans (Wr.neR wH5406 (Or.inr (x_apart hKT hts inX10 tyX10 tyX10_ok nmX10 rfl 16 65 (by decide) (by decide) (by decide)))).symm
    have m5429 := m5381.trans (Wr.neR wH5406 (Or.inr (x_apart hKT hts inX10 tyX10 tyX10_ok nmX10 rfl 24 65 (by decide) (by decide) (by decide)))).symm
    have m5430 := m5382.trans (Wr.neR wH5406 (Or.inr (x_apart hKT hts inX10 tyX10 tyX10_ok nmX10 rfl 27 65 (by decide) (by decide) (by decide)))).symm
    have m5431 := m5383.trans (Wr.neR wH5406 (Or.inr (x_apart hKT hts inX10 tyX10 tyX10_ok nmX10 rfl 29 65 (by decide) (by decide) (by decide)))).symm
    have m5432 := m5384.trans (Wr.neR wH5406 (Or.inr (x_apart hKT hts inX10 tyX10 tyX10_ok nmX10 rfl 30 65 (by decide) (by decide) (by decide)))).symm
    have m5433 := m5385.trans (Wr.neR wH5406 (Or.inr (x_apart hKT hts inX10 tyX10 tyX10_ok nmX10 rfl 31 65 (by decide) (by decide) (by decide)))).symm
    have m5434 := m5386.trans (Wr.neR wH5406 (Or.inr (x_apart hKT hts inX10 tyX10 tyX10_ok nmX10 rfl 32 65 (by decide) (by decide) (by decide)))).symm
    have m5435 := m5387.trans (Wr.neR wH5406 (Or.inr (x_apart hKT hts inX10 tyX10 tyX10_ok nmX10 rfl 33 65 (by decide) (by decide) (by decide)))).symm
    have m5436 := m5388.trans (Wr.neR wH5406 (Or.inr (x_apart hKT hts inX10 tyX10 tyX10_ok nmX10 rfl 50 65 (by decide) (by decide) (by decide)))).symm
    have m5438 := (Wr.neI wH5406 (Or.inr (x_apart hKT hts inX10 tyX10 tyX10_ok nmX10 rfl 0 65 (by decide) (by decide) (by decide)))).trans m5390
    have m5439 := m5391.trans (Wr.neI wH5406 (Or.inr (x_apart hKT hts inX10 tyX10 tyX10_ok nmX10 rfl 71 65 (by decide) (by decide) (by decide)))).symm
    have m5440 := (Wr.neI wH5406 (Or.inr (x_apart hKT hts inX10 tyX10 tyX10_ok nmX10 rfl 70 65 (by decide) (by decide) (by decide)))).trans m5392
    have m5441 := m5393.trans (Wr.neI wH5406 (Or.inr (x_apart hKT hts inX10 tyX10 tyX10_ok nmX10 rfl 1 65 (by decide) (by decide) (by decide)))).symm
    have m5442 := m5394.trans (Wr.neI wH5406 (Or.inr (x_apart hKT hts inX10 tyX10 tyX10_ok nmX10 rfl 2 65 (by decide) (by decide) (by decide)))).symm
    have m5443 := m5395.trans (Wr.neI wH5406 (Or.inr (x_apart hKT hts inX10 tyX10 tyX10_ok nmX10 rfl 3 65 (by decide) (by decide) (by decide)))).symm
    have m5444 := m5396.trans (Wr.neI wH5406 (Or.inr (x_apart hKT hts inX10 tyX10 tyX10_ok nmX10 rfl 59 65 (by decide) (by decide) (by decide)))).symm
    have m5445 := m5397.trans (Wr.neI wH5406 (Or.inr (x_apart hKT hts inX10 tyX10 tyX10_ok nmX10 rfl 62 65 (by decide) (by decide) (by decide)))).symm
    have m5446 := ex5360.trans (Wr.neI wH5406 (Or.inr (x_apart hKT hts inX10 tyX10 tyX10_ok nmX10 rfl 72 65 (by decide) (by decide) (by decide)))).symm
    have m5447 := Wr.I wH5406
    have m5447 := m5447.symm
    clear b5368 b5369 b5370 b5371 b5372 b5373 b5374 b5375 b5399 b5400 b5401 b5402 b5403 b5404 ex5360 f5376 g5362 hTH5358 m5361 m5378 m5379 m5380 m5381 m5382 m5383 m5384 m5385 m5386 m5387 m5388 m5389 m5390 m5391 m5392 m5393 m5394 m5395 m5396 m5397 mf5398 p5405
    refine lv_aload_n hx hb dX10_image_105 rfl (lv_at hl 0 rfl) ?_
    refine x_V (As := []) (rest := []) C (a_X10_keepsBars l K G H5406 (x5360) (x1) hTH5406 ga0 giq m5425 gq4 m5426 gq10 m5427 gq16 m5428 gq50 m5436 m5446 m5439 g5408 (by and_intros <;> first | assumption | omega) (fun h0 => IMw.congr (b5417 h0) hIW)) yo_X10_keepsBars wM_X10_479 ⟨⟨by decide, by decide⟩, by decide, by decide⟩ (x_rv C hTH5406 (ci := 10) rfl ga0 rg_112) rfl hl.1 rfl (Nat.le_of_ble_eq_true rfl) dX10_image_106 hSH5406 (AE_sub (fun _ _ => rfl) (by decide) hSH5406.1) (fun vH5448 H5448 locsH5448 pH5448 zH5448 kH5448 hSH5448 => ?_)
    obtain ⟨x5449, hvH5448, ex5449, hrH5448, m5450, m5451, m5452, m5453, m5454, g5455, mf5456, m5457, m5458, m5459, m5460, m5461, m5462, m5463, m5464, hTH5448⟩ := pH5448
    subst hvH5448
    clear zH5448
    replace m5450 := EQN.mk m5450
    replace m5451 := EQN.mk m5451
    replace m5452 := EQN.mk m5452
    replace m5453 := EQN.mk m5453
    replace m5454 := EQN.mk m5454
    have b5465 : UN (x1.toInt ≠ 0) (fun k => fI H5448 q24 k) (fun k => fI s.heap q24 k) := UN.congr (fun j => fI_kept (x_lt hTH5406 kH5448 gq24 (by decide))) b5411
    have b5466 : UN (x1.toInt ≠ 0) (fun k => fI H5448 q29 k) (fun k => fI s.heap q29 k) := UN.congr (fun j => fI_kept (x_lt hTH5406 kH5448 gq29 (by decide))) b5412
    have b5467 : UN (x1.toInt ≠ 0) (fun k => fI H5448 q30 k) (fun k => fI s.heap q30 k) := UN.congr (fun j => fI_kept (x_lt hTH5406 kH5448 gq30 (by decide))) b5413
    have b5468 : UN (x1.toInt ≠ 0) (fun k => fI H5448 q31 k) (fun k => fI s.heap q31 k) := UN.congr (fun j => fI_kept (x_lt hTH5406 kH5448 gq31 (by decide))) b5414
    have b5469 : UN (x1.toInt ≠ 0) (fun k => fI H5448 q32 k) (fun k => fI s.heap q32 k) := UN.congr (fun j => fI_kept (x_lt hTH5406 kH5448 gq32 (by decide))) b5415
    have b5470 : UN (x1.toInt ≠ 0) (fun k => fI H5448 q33 k) (fun k => fI s.heap q33 k) := UN.congr (fun j => fI_kept (x_lt hTH5406 kH5448 gq33 (by decide))) b5416
    have m5471 := (m5425).trans (MF.r mf5456 (k := 73) (by decide) (by decide)).symm
    have m5472 := (m5426).trans (MF.r mf5456 (k := 4) (by decide) (by decide)).symm
    have m5473 := (m5427).trans (MF.r mf5456 (k := 10) (by decide) (by decide)).symm
    have m5474 := (m5428).trans (MF.r mf5456 (k := 16) (by decide) (by decide)).symm
    have m5475 := (m5429).trans (MF.r mf5456 (k := 24) (by decide) (by decide)).symm
    have m5476 := (m5430).trans (MF.r mf5456 (k := 27) (by decide) (by decide)).symm
    have m5477 := (m5431).trans (MF.r mf5456 (k := 29) (by decide) (by decide)).symm
    have m5478 := (m5432).trans (MF.r mf5456 (k := 30) (by decide) (by decide)).symm
    have m5479 := (m5433).trans (MF.r mf5456 (k := 31) (by decide) (by decide)).symm
    have m5480 := (m5434).trans (MF.r mf5456 (k := 32) (by decide) (by decide)).symm
    have m5481 := (m5435).trans (MF.r mf5456 (k := 33) (by decide) (by decide)).symm
    have m5482 := (m5436).trans (MF.r mf5456 (k := 50) (by decide) (by decide)).symm
    have m5483 := (MF.i mf5456 (k := 0) (by decide) (by decide)).trans m5438
    have m5484 := (m5439).trans (MF.i mf5456 (k := 71) (by decide) (by decide)).symm
    have m5485 := (MF.i mf5456 (k := 70) (by decide) (by decide)).trans m5440
    have m5486 := (m5441).trans (MF.i mf5456 (k := 1) (by decide) (by decide)).symm
    have m5487 := (m5442).trans (MF.i mf5456 (k := 2) (by decide) (by decide)).symm
    have m5488 := (m5443).trans (MF.i mf5456 (k := 3) (by decide) (by decide)).symm
    have m5489 := (m5444).trans (MF.i mf5456 (k := 59) (by decide) (by decide)).symm
    have m5490 := (m5445).trans (MF.i mf5456 (k := 62) (by decide) (by decide)).symm
    have m5491 := (m5447).trans (MF.i mf5456 (k := 65) (by decide) (by decide)).symm
    have mf5492 : MF K s.heap H5448 a0 [0, 1, 2, 3, 59, 62, 65, 70, 71, 72] := MF.trans mf5407 mf5456 (by decide)
    have bx5449 := ty_fi (x := x5449) (k := 72) ex5449 hTH5448 ga0 rg_112 rfl
    have b5493 : UN (x1.toInt ≠ 0) (fun k => fI H5448 q4 k) (fun k => fI s.heap q4 k) := UN.tr m5463 b5409
    have b5494 : UN (x1.toInt ≠ 0) (fun k => fI H5448 q16 k) (fun k => fI s.heap q16 k) := UN.tr m5464 b5410
    have b5495 : UN (x1.toInt = 0) (fun k => fI H5448 iq k) (fun k => fI s.heap iq k) := UN.tr m5457 b5417
    have b5496 : x4934 = fI H5448 iq (0) := (b5418).trans (m5458 _ (by omega)).symm
    have b5497 : x5015 = fI H5448 iq (1) := (b5419).trans (m5458 _ (by omega)).symm
    have b5498 : x5098 = fI H5448 iq (2) := (b5420).trans (m5458 _ (by omega)).symm
    have b5499 : x5183 = fI H5448 iq (3) := (b5421).trans (m5458 _ (by omega)).symm
    have b5500 : x5270 = fI H5448 iq (4) := (b5422).trans (m5458 _ (by omega)).symm
    have b5501 : x5359 = fI H5448 iq (5) := (b5423).trans (m5458 _ (by omega)).symm
    refine W.eq (g2 := F0 m 109 ls []) rfl ?_
    refine lv_aload_n hx hb dX10_image_109 rfl (lv_at hl 0 rfl) ?_
    refine x_V (As := []) (rest := []) C (a_X10_keepsTaps l K G H5448 (x5449) (x1) hTH5448 ga0 giq m5450 ex5449 m5484 g5455 (by and_intros <;> first | assumption | omega) (fun h0 => IMw.congr (b5495 h0) hIW)) yo_X10_keepsTaps wM_X10_482 ⟨⟨by decide, by decide⟩, by decide, by decide⟩ (x_rv C hTH5448 (ci := 10) rfl ga0 rg_112) rfl hl.1 rfl (Nat.le_of_ble_eq_true rfl) dX10_image_110 hSH5448 (AE_sub (fun _ _ => rfl) (by decide) hSH5448.1) (fun vH5502 H5502 locsH5502 pH5502 zH5502 kH5502 hSH5502 => ?_)
    obtain ⟨x5503, hvH5502, ex5503, hrH5502, m5504, g5505, mf5506, m5507, m5508, hTH5502⟩ := pH5502
    subst hvH5502
    clear zH5502
    replace m5504 := EQN.mk m5504
    have b5509 : UN (x1.toInt ≠ 0) (fun k => fI H5502 q24 k) (fun k => fI s.heap q24 k) := UN.congr (fun j => fI_kept (x_lt hTH5448 kH5502 gq24 (by decide))) b5465
    have b5510 : UN (x1.toInt ≠ 0) (fun k => fI H5502 q29 k) (fun k => fI s.heap q29 k) := UN.congr (fun j => fI_kept (x_lt hTH5448 kH5502 gq29 (by decide))) b5466
    have b5511 : UN (x1.toInt ≠ 0) (fun k => fI H5502 q30 k) (fun k => fI s.heap q30 k) := UN.congr (fun j => fI_kept (x_lt hTH5448 kH5502 gq30 (by decide))) b5467
    have b5512 : UN (x1.toInt ≠ 0) (fun k => fI H5502 q31 k) (fun k => fI s.heap q31 k) := UN.congr (fun j => fI_kept (x_lt hTH5448 kH5502 gq31 (by decide))) b5468
    have b5513 : UN (x1.toInt ≠ 0) (fun k => fI H5502 q32 k) (fun k => fI s.heap q32 k) := UN.congr (fun j => fI_kept (x_lt hTH5448 kH5502 gq32 (by decide))) b5469
    have b5514 : UN (x1.toInt ≠ 0) (fun k => fI H5502 q33 k) (fun k => fI s.heap q33 k) := UN.congr (fun j => fI_kept (x_lt hTH5448 kH5502 gq33 (by decide))) b5470
    have b5515 : UN (x1.toInt ≠ 0) (fun k => fI H5502 q4 k) (fun k => fI s.heap q4 k) := UN.congr (fun j => fI_kept (x_lt hTH5448 kH5502 gq4 (by decide))) b5493
    have b5516 : UN (x1.toInt ≠ 0) (fun k => fI H5502 q16 k) (fun k => fI s.heap q16 k) := UN.congr (fun j => fI_kept (x_lt hTH5448 kH5502 gq16 (by decide))) b5494
    have m5517 := (m5450).trans (MF.r mf5506 (k := 73) (by decide) (by decide)).symm
    have m5518 := (m5451).trans (MF.r mf5506 (k := 4) (by decide) (by decide)).symm
    have m5519 := (m5452).trans (MF.r mf5506 (k := 10) (by decide) (by decide)).symm
    have m5520 := (m5453).trans (MF.r mf5506 (k := 16) (by decide) (by decide)).symm
    have m5521 := (m5475).trans (MF.r mf5506 (k := 24) (by decide) (by decide)).symm
    have m5522 := (m5476).trans (MF.r mf5506 (k := 27) (by decide) (by decide)).symm
    have m5523 := (m5477).trans (MF.r mf5506 (k := 29) (by decide) (by decide)).symm
    have m5524 := (m5478).trans (MF.r mf5506 (k := 30) (by decide) (by decide)).symm
    have m5525 := (m5479).trans (MF.r mf5506 (k := 31) (by decide) (by decide)).symm
    have m5526 := (m5480).trans (MF.r mf5506 (k := 32) (by decide) (by decide)).symm
    have m5527 := (m5481).trans (MF.r mf5506 (k := 33) (by decide) (by decide)).symm
    have m5528 := (m5454).trans (MF.r mf5506 (k := 50) (by decide) (by decide)).symm
    have m5529 := (MF.i mf5506 (k := 0) (by decide) (by decide)).trans m5483
    have m5530 := (m5484).trans (MF.i mf5506 (k := 71) (by decide) (by decide)).symm
    have m5531 := (MF.i mf5506 (k := 70) (by decide) (by decide)).trans m5485
    have m5532 := (m5486).trans (MF.i mf5506 (k := 1) (by decide) (by decide)).symm
    have m5533 := (m5487).trans (MF.i mf5506 (k := 2) (by decide) (by decide)).symm
    have m5534 := (m5488).trans (MF.i mf5506 (k := 3) (by decide) (by decide)).symm
    have m5535 := (m5489).trans (MF.i mf5506 (k := 59) (by decide) (by decide)).symm
    have m5536 := (m5490).trans (MF.i mf5506 (k := 62) (by decide) (by decide)).symm
    have m5537 := (m5491).trans (MF.i mf5506 (k := 65) (by decide) (by decide)).symm
    have mf5538 : MF K s.heap H5502 a0 [0, 1, 2, 3, 59, 62, 65, 70, 71, 72] := MF.trans mf5492 mf5506 (by decide)
    have bx5503 := ty_fi (x := x5503) (k := 72) ex5503 hTH5502 ga0 rg_112 rfl
    have b5539 : UN (x1.toInt = 0) (fun k => fI H5502 iq k) (fun k => fI s.heap iq k) := UN.tr m5507 b5495
    have b5540 : x4934 = fI H5502 iq (0) := (b5496).trans (m5508 _ (by omega)).symm
    have b5541 : x5015 = fI H5502 iq (1) := (b5497).trans (m5508 _ (by omega)).symm
    have b5542 : x5098 = fI H5502 iq (2) := (b5498).trans (m5508 _ (by omega)).symm
    have b5543 : x5183 = fI H5502 iq (3) := (b5499).trans (m5508 _ (by omega)).symm
    have b5544 : x5270 = fI H5502 iq (4) := (b5500).trans (m5508 _ (by omega)).symm
    have b5545 : x5359 = fI H5502 iq (5) := (b5501).trans (m5508 _ (by omega)).symm
    have b5546 : EQ (fun k => fI H5502 q4 k) (fun k => fI H5502 iq k) (6) (6) (10) := EQ.fb (EQ.congr (w1 := fun k => fI H5448 iq k) (fun j => fI_kept (x_lt hTH5448 kH5502 gq4 (by decide))) (fun _ => rfl) m5459) m5508 (fun j hj => by omega)
    have b5547 : EQ (fun k => fI H5502 q10 k) (fun k => fI H5502 iq k) (7) (6) (10) := EQ.fb (EQ.congr (w1 := fun k => fI H5448 iq k) (fun j => fI_kept (x_lt hTH5448 kH5502 gq10 (by decide))) (fun _ => rfl) m5460) m5508 (fun j hj => by omega)
    have b5548 : EQ (fun k => fI H5502 q50 k) (fun k => fI H5502 iq k) (11) (6) (10) := EQ.fb (EQ.congr (w1 := fun k => fI H5448 iq k) (fun j => fI_kept (x_lt hTH5448 kH5502 gq50 (by decide))) (fun _ => rfl) m5461) m5508 (fun j hj => by omega)
    have b5549 : EQ (fun k => fI H5502 q16 k) (fun k => fI H5502 iq k) (736) (3) (20) := EQ.fb (EQ.congr (w1 := fun k => fI H5448 iq k) (fun j => fI_kept (x_lt hTH5448 kH5502 gq16 (by decide))) (fun _ => rfl) m5462) m5508 (fun j hj => by omega)
    refine W.eq (g2 := F0 m 113 ls []) rfl ?_
    refine lv_aload_n hx hb dX10_image_113 rfl (lv_at hl 0 rfl) ?_
    refine x_V (As := []) (rest := []) C (a_X10_keepsTexts l K G H5502 (x5503) (x1) hTH5502 ga0 giq m5504 gq24 m5521 gq27 m5522 gq29 m5523 gq30 m5524 gq31 m5525 gq32 m5526 gq33 m5527 ex5503 m5530 g5505 (by and_intros <;> first | assumption | omega) (fun h0 => IMw.congr (b5539 h0) hIW)) yo_X10_keepsTexts wM_X10_485 ⟨⟨by decide, by decide⟩, by decide, by decide⟩ (x_rv C hTH5502 (ci := 10) rfl ga0 rg_112) rfl hl.1 rfl (Nat.le_of_ble_eq_true rfl) dX10_image_114 hSH5502 (AE_sub (fun _ _ => rfl) (by decide) hSH5502.1) (fun vH5550 H5550 locsH5550 pH5550 zH5550 kH5550 hSH5550 => ?_)
    obtain ⟨x5551, hvH5550, ex5551, hrH5550, m5552, m5553, m5554, m5555, m5556, m5557, m5558, m5559, g5560, mf5561, m5562, m5563, m5564, m5565, m5566, m5567, m5568, m5569, m5570, m5571, m5572, m5573, m5574, m5575, m5576, hTH5550⟩ := pH5550
    subst hvH5550
    clear zH5550
    replace m5552 := EQN.mk m5552
    replace m5553 := EQN.mk m5553
    replace m5554 := EQN.mk m5554
    replace m5555 := EQN.mk m5555
    replace m5556 := EQN.mk m5556
    replace m5557 := EQN.mk m5557
    replace m5558 := EQN.mk m5558
    replace m5559 := EQN.mk m5559
    have b5577 : UN (x1.toInt ≠ 0) (fun k => fI H5550 q4 k) (fun k => fI s.heap q4 k) := UN.congr (fun j => fI_kept (x_lt hTH5502 kH5550 gq4 (by decide))) b5515
    have b5578 : UN (x1.toInt ≠ 0) (fun k => fI H5550 q16 k) (fun k => fI s.heap q16 k) := UN.congr (fun j => fI_kept (x_lt hTH5502 kH5550 gq16 (by decide))) b5516
    have m5579 := (m5504).trans (MF.r mf5561 (k := 73) (by decide) (by decide)).symm
    have m5580 := (m5518).trans (MF.r mf5561 (k := 4) (by decide) (by decide)).symm
    have m5581 := (m5519).trans (MF.r mf5561 (k := 10) (by decide) (by decide)).symm
    have m5582 := (m5520).trans (MF.r mf5561 (k := 16) (by decide) (by decide)).symm
    have m5583 := (m5521).trans (MF.r mf5561 (k := 24) (by decide) (by decide)).symm
    have m5584 := (m5522).trans (MF.r mf5561 (k := 27) (by decide) (by decide)).symm
    have m5585 := (m5523).trans (MF.r mf5561 (k := 29) (by decide) (by decide)).symm
    have m5586 := (m5524).trans (MF.r mf5561 (k := 30) (by decide) (by decide)).symm
    have m5587 := (m5525).trans (MF.r mf5561 (k := 31) (by decide) (by decide)).symm
    have m5588 := (m5526).trans (MF.r mf5561 (k := 32) (by decide) (by decide)).symm
    have m5589 := (m5527).trans (MF.r mf5561 (k := 33) (by decide) (by decide)).symm
    have m5590 := (m5528).trans (MF.r mf5561 (k := 50) (by decide) (by decide)).symm
    have m5591 := (MF.i mf5561 (k := 0) (by decide) (by decide)).trans m5529
    have m5592 := (m5530).trans (MF.i mf5561 (k := 71) (by decide) (by decide)).symm
    have m5593 := (MF.i mf5561 (k := 70) (by decide) (by decide)).trans m5531
    have m5594 := (m5532).trans (MF.i mf5561 (k := 1) (by decide) (by decide)).symm
    have m5595 := (m5533).trans (MF.i mf5561 (k := 2) (by decide) (by decide)).symm
    have m5596 := (m5534).trans (MF.i mf5561 (k := 3) (by decide) (by decide)).symm
    have m5597 := (m5535).trans (MF.i mf5561 (k := 59) (by decide) (by decide)).symm
    have m5598 := (m5536).trans (MF.i mf5561 (k := 62) (by decide) (by decide)).symm
    have m5599 := (m5537).trans (MF.i mf5561 (k := 65) (by decide) (by decide)).symm
    have mf5600 : MF K s.heap H5550 a0 [0, 1, 2, 3, 59, 62, 65, 70, 71, 72] := MF.trans mf5538 mf5561 (by decide)
    have bx5551 := ty_fi (x := x5551) (k := 72) ex5551 hTH5550 ga0 rg_112 rfl
    have b5601 : UN (x1.toInt ≠ 0) (fun k => fI H5550 q24 k) (fun k => fI s.heap q24 k) := UN.tr m5571 b5509
    have b5602 : UN (x1.toInt ≠ 0) (fun k => fI H5550 q29 k) (fun k => fI s.heap q29 k) := UN.tr m5572 b5510
    have b5603 : UN (x1.toInt ≠ 0) (fun k => fI H5550 q30 k) (fun k => fI s.heap q30 k) := UN.tr m5573 b5511
    have b5604 : UN (x1.toInt ≠ 0) (fun k => fI H5550 q31 k) (fun k => fI s.heap q31 k) := UN.tr m5574 b5512
    have b5605 : UN (x1.toInt ≠ 0) (fun k => fI H5550 q32 k) (fun k => fI s.heap q32 k) := UN.tr m5575 b5513
    have b5606 : UN (x1.toInt ≠ 0) (fun k => fI H5550 q33 k) (fun k => fI s.heap q33 k) := UN.tr m5576 b5514
    have b5607 : UN (x1.toInt = 0) (fun k => fI H5550 iq k) (fun k => fI s.heap iq k) := UN.tr m5562 b5539
    have b5608 : x4934 = fI H5550 iq (0) := (b5540).trans (m5563 _ (by omega)).symm
    have b5609 : x5015 = fI H5550 iq (1) := (b5541).trans (m5563 _ (by omega)).symm
    have b5610 : x5098 = fI H5550 iq (2) := (b5542).trans (m5563 _ (by omega)).symm
    have b5611 : x5183 = fI H5550 iq (3) := (b5543).trans (m5563 _ (by omega)).symm
    have b5612 : x5270 = fI H5550 iq (4) := (b5544).trans (m5563 _ (by omega)).symm
    have b5613 : x5359 = fI H5550 iq (5) := (b5545).trans (m5563 _ (by omega)).symm
    have b5614 : EQ (fun k => fI H5550 q4 k) (fun k => fI H5550 iq k) (6) (6) (10) := EQ.fb (EQ.congr (w1 := fun k => fI H5502 iq k) (fun j => fI_kept (x_lt hTH5502 kH5550 gq4 (by decide))) (fun _ => rfl) b5546) m5563 (fun j hj => by omega)
    have b5615 : EQ (fun k => fI H5550 q10 k) (fun k => fI H5550 iq k) (7) (6) (10) := EQ.fb (EQ.congr (w1 := fun k => fI H5502 iq k) (fun j => fI_kept (x_lt hTH5502 kH5550 gq10 (by decide))) (fun _ => rfl) b5547) m5563 (fun j hj => by omega)
    have b5616 : EQ (fun k => fI H5550 q50 k) (fun k => fI H5550 iq k) (11) (6) (10) := EQ.fb (EQ.congr (w1 := fun k => fI H5502 iq k) (fun j => fI_kept (x_lt hTH5502 kH5550 gq50 (by decide))) (fun _ => rfl) b5548) m5563 (fun j hj => by omega)
    have b5617 : EQ (fun k => fI H5550 q16 k) (fun k => fI H5550 iq k) (736) (3) (20) := EQ.fb (EQ.congr (w1 := fun k => fI H5502 iq k) (fun j => fI_kept (x_lt hTH5502 kH5550 gq16 (by decide))) (fun _ => rfl) b5549) m5563 (fun j hj => by omega)
    refine W.eq (g2 := F0 m 117 ls []) rfl ?_
    have fin := im_fin (H0 := s.heap) (tk := x1) hTH5550 ga0 hg_CG hg_TU hg_IM ⟨EQ.av m5580 m5552 b5614, EQ.av m5581 m5552 b5615, EQ.av m5590 m5552 b5616, EQ.av m5582 m5552 b5617, EQ.av m5553 m5552 m5564, EQ.av m5554 m5552 m5565, EQ.av m5555 m5552 m5566, EQ.av m5556 m5552 m5567, EQ.av m5557 m5552 m5568, EQ.av m5558 m5552 m5569, EQ.av m5559 m5552 m5570⟩ (pl_av m5594 b5608 m5552) (pl_av m5595 b5609 m5552) (pl_av m5597 b5611 m5552) (pl_av m5598 b5612 m5552) (pl_av m5599 b5613 m5552) (fun h => (m5594.symm.trans (m4940 h)).trans es1) (all8 (UN.av m5580 eq4 b5577) (UN.av m5582 eq16 b5578) (UN.av m5553 eq24 b5601) (UN.av m5555 eq29 b5602) (UN.av m5556 eq30 b5603) (UN.av m5557 eq31 b5604) (UN.av m5558 eq32 b5605) (UN.av m5559 eq33 b5606)) (UN.av m5552 eiq b5607)
    refine lv_iconst (v := 1) hx hb dX10_image_117 (by decide) ?_
    exact x_zret C hQ (Or.inr rfl) dX10_image_118 hSH5550 (by decide) (by decide) (⟨1, 1, x4934, x5015, x5098, x5183, x5270, x5359, rfl, by decide, (m5593).symm, m5594, m5595, m5596, m5597, m5598, m5599, by omega, m5552, m5580, m5581, m5582, m5553, m5554, m5555, m5556, m5557, m5558, m5559, m5590, fin.1, fin.2.1, g5560, fin.2.2, mf5600, Or.inr ⟨b5608, b5609, b5610, b5611, b5612, b5613⟩, (fun h => ⟨m4940 h, m5021 h, m5104 h, m5189 h, m5276 h, m5365 h⟩), b5607, Or.inr b5614, b5577, (fun h => by exfalso; omega), hTH5550⟩)
  · have k4818 := i_eq c4817
    refine lv_aload_n hx hb dX10_image_9 rfl (lv_at hl 0 rfl) ?_
    refine x_gi C hTH4781 (ci := 10) (k := 70) rfl inX10 (by decide) wF_X10_476 ga0 rg_112 rfl dX10_image_10 (fun x5618 ex5618 bx5618 => ?_)
    have ux5618 : h70 = x5618 := (m4809).trans ex5618.symm
    subst ux5618
    refine lv_if_ne (tgt := 18) hx hb dX10_image_13 (by decide) (fun c5619 => ?_) (fun c5619 => ?_)
    · have k5620 := i_ne c5619
      refine lv_aload_n hx hb dX10_image_18 rfl (lv_at hl 0 rfl) ?_
      refine lv_iload_n hx hb dX10_image_19 rfl (lv_at hl 1 rfl) ?_
      refine x_put C hTH4781 hSH4781 (ci := 10) (k := 71) (v := .int x1) (ty0 := tyX10) rfl inX10 tyX10_ok nmX10 (by decide) rfl wF_X10_470 ga0 rg_112 rfl rfl (okI (by have := i_rng x1; omega) (by have := i_rng x1; omega)) (by rcases i_01 (x := x1) (by omega) with h | h <;> rw [h] <;> rfl) (by rcases i_01 (x := x1) (by omega) with h | h <;> rw [h] <;> rfl) (AE_in ga0 (by decide)) dX10_image_20 (fun H5621 locsH5621 hTH5621 hSH5621 wH5621 => ?_)
      have mf5622 : MF K s.heap H5621 a0 [0, 1, 2, 3, 59, 62, 65, 70, 71, 72] := MF.fld hap wH5621 (by decide) (by decide) mf4782
      have g5623 : CG (avw K H5621 a0) := CG.congr (fun k hk j => av_fld hTH4781 ga0 hap wH5621 (by decide) (CG_ok 112 (by decide) k hk) (CG_ne 71 (by decide) k hk)) g4783
      have g5624 : TU (avw K H5621 a0) (svw K H5621 a0) := TU.congr (fun k hk j => av_fld hTH4781 ga0 hap wH5621 (by decide) (TU_ok 112 (by decide) k hk) (TU_ne 71 (by decide) k hk)) (fun k hk => sv_fld hap wH5621 (by decide) (TU_slt k hk) (TU_sne 71 (by decide) k hk)) g4784
      have g5625 : WD (avw K H5621 a0) := WD.congr (fun k hk j => av_fld hTH4781 ga0 hap wH5621 (by decide) (WD_ok 112 (by decide) k hk) (WD_ne 71 (by decide) k hk)) g4785
      have g5626 : IM (avw K H5621 a0) := IM.congr (fun k hk j => av_fld hTH4781 ga0 hap wH5621 (by decide) (IM_ok 112 (by decide) k hk) (IM_ne 71 (by decide) k hk)) g4786
      have b5627 : UN (x1.toInt = 0) (fun k => fI H5621 iq k) (fun k => fI s.heap iq k) := UN.congr (fun j => Wr.neI wH5621 (Or.inl (G_ne giq ga0 (by decide)))) b4787
      have b5628 : UN (x1.toInt ≠ 0) (fun k => fI H5621 q4 k) (fun k => fI s.heap q4 k) := UN.congr (fun j => Wr.neI wH5621 (Or.inl (G_ne gq4 ga0 (by decide)))) b4788
      have b5629 : UN (x1.toInt ≠ 0) (fun k => fI H5621 q16 k) (fun k => fI s.heap q16 k) := UN.congr (fun j => Wr.neI wH5621 (Or.inl (G_ne gq16 ga0 (by decide)))) b4789
      have b5630 : UN (x1.toInt ≠ 0) (fun k => fI H5621 q24 k) (fun k => fI s.heap q24 k) := UN.congr (fun j => Wr.neI wH5621 (Or.inl (G_ne gq24 ga0 (by decide)))) b4790
      have b5631 : UN (x1.toInt ≠ 0) (fun k => fI H5621 q29 k) (fun k => fI s.heap q29 k) := UN.congr (fun j => Wr.neI wH5621 (Or.inl (G_ne gq29 ga0 (by decide)))) b4791
      have b5632 : UN (x1.toInt ≠ 0) (fun k => fI H5621 q30 k) (fun k => fI s.heap q30 k) := UN.congr (fun j => Wr.neI wH5621 (Or.inl (G_ne gq30 ga0 (by decide)))) b4792
      have b5633 : UN (x1.toInt ≠ 0) (fun k => fI H5621 q31 k) (fun k => fI s.heap q31 k) := UN.congr (fun j => Wr.neI wH5621 (Or.inl (G_ne gq31 ga0 (by decide)))) b4793
      have b5634 : UN (x1.toInt ≠ 0) (fun k => fI H5621 q32 k) (fun k => fI s.heap q32 k) := UN.congr (fun j => Wr.neI wH5621 (Or.inl (G_ne gq32 ga0 (by decide)))) b4794
      have b5635 : UN (x1.toInt ≠ 0) (fun k => fI H5621 q33 k) (fun k => fI s.heap q33 k) := UN.congr (fun j => Wr.neI wH5621 (Or.inl (G_ne gq33 ga0 (by decide)))) b4795
      have f5636 : ∀ j : Nat, fI H5621 q4 j = fI s.heap q4 j := fun j => (Wr.neI wH5621 (Or.inl (G_ne gq4 ga0 (by decide)))).trans (f4796 j)
      have m5637 := m4797.trans (Wr.neR wH5621 (Or.inr (x_apart hKT hts inX10 tyX10 tyX10_ok nmX10 rfl 73 71 (by decide) (by decide) (by decide)))).symm
      have m5638 := m4798.trans (Wr.neR wH5621 (Or.inr (x_apart hKT hts inX10 tyX10 tyX10_ok nmX10 rfl 4 71 (by decide) (by decide) (by decide)))).symm
      have m5639 := m4799.trans (Wr.neR wH5621 (Or.inr (x_apart hKT hts inX10 tyX10 tyX10_ok nmX10 rfl 10 71 (by decide) (by decide) (by decide)))).symm
      have m5640 := m4800.trans (Wr.neR wH5621 (Or.inr (x_apart hKT hts inX10 tyX10 tyX10_ok nmX10 rfl 16 71 (by decide) (by decide) (by decide)))).symm
      have m5641 := m4801.trans (Wr.neR wH5621 (Or.inr (x_apart hKT hts inX10 tyX10 tyX10_ok nmX10 rfl 24 71 (by decide) (by decide) (by decide)))).symm
      have m5642 := m4802.trans (Wr.neR wH5621 (Or.inr (x_apart hKT hts inX10 tyX10 tyX10_ok nmX10 rfl 27 71 (by decide) (by decide) (by decide)))).symm
      have m5643 := m4803.trans (Wr.neR wH5621 (Or.inr (x_apart hKT hts inX10 tyX10 tyX10_ok nmX10 rfl 29 71 (by decide) (by decide) (by decide)))).symm
      have m5644 := m4804.trans (Wr.neR wH5621 (Or.inr (x_apart hKT hts inX10 tyX10 tyX10_ok nmX10 rfl 30 71 (by decide) (by decide) (by decide)))).symm
      have m5645 := m4805.trans (Wr.neR wH5621 (Or.inr (x_apart hKT hts inX10 tyX10 tyX10_ok nmX10 rfl 31 71 (by decide) (by decide) (by decide)))).symm
      have m5646 := m4806.trans (Wr.neR wH5621 (Or.inr (x_apart hKT hts inX10 tyX10 tyX10_ok nmX10 rfl 32 71 (by decide) (by decide) (by decide)))).symm
      have m5647 := m4807.trans (Wr.neR wH5621 (Or.inr (x_apart hKT hts inX10 tyX10 tyX10_ok nmX10 rfl 33 71 (by decide) (by decide) (by decide)))).symm
      have m5648 := m4808.trans (Wr.neR wH5621 (Or.inr (x_apart hKT hts inX10 tyX10 tyX10_ok nmX10 rfl 50 71 (by decide) (by decide) (by decide)))).symm
      have m5649 := m4809.trans (Wr.neI wH5621 (Or.inr (x_apart hKT hts inX10 tyX10 tyX10_ok nmX10 rfl 70 71 (by decide) (by decide) (by decide)))).symm
      have m5650 := m4810.trans (Wr.neI wH5621 (Or.inr (x_apart hKT hts inX10 tyX10 tyX10_ok nmX10 rfl 1 71 (by decide) (by decide) (by decide)))).symm
      have m5651 := m4811.trans (Wr.neI wH5621 (Or.inr (x_apart hKT hts inX10 tyX10 tyX10_ok nmX10 rfl 2 71 (by decide) (by decide) (by decide)))).symm
      have m5652 := m4812.trans (Wr.neI wH5621 (Or.inr (x_apart hKT hts inX10 tyX10 tyX10_ok nmX10 rfl 3 71 (by decide) (by decide) (by decide)))).symm
      have m5653 := m4813.trans (Wr.neI wH5621 (Or.inr (x_apart hKT hts inX10 tyX10 tyX10_ok nmX10 rfl 59 71 (by decide) (by decide) (by decide)))).symm
      have m5654 := m4814.trans (Wr.neI wH5621 (Or.inr (x_apart hKT hts inX10 tyX10 tyX10_ok nmX10 rfl 62 71 (by decide) (by decide) (by decide)))).symm
      have m5655 := m4815.trans (Wr.neI wH5621 (Or.inr (x_apart hKT hts inX10 tyX10 tyX10_ok nmX10 rfl 65 71 (by decide) (by decide) (by decide)))).symm
      have m5656 := (Wr.neI wH5621 (Or.inr (x_apart hKT hts inX10 tyX10 tyX10_ok nmX10 rfl 0 71 (by decide) (by decide) (by decide)))).trans m4816
      have m5657 := Wr.I wH5621
      have m5657 := m5657.symm
      clear b4787 b4788 b4789 b4790 b4791 b4792 b4793 b4794 b4795 f4796 g4783 g4784 g4785 g4786 hTH4781 m4797 m4798 m4799 m4800 m4801 m4802 m4803 m4804 m4805 m4806 m4807 m4808 m4809 m4810 m4811 m4812 m4813 m4814 m4815 m4816 mf4782
      refine lv_aload_n hx hb dX10_image_23 rfl (lv_at hl 0 rfl) ?_
      refine lv_iconst (v := 1) hx hb dX10_image_24 (by decide) ?_
      refine x_put C hTH5621 hSH5621 (ci := 10) (k := 70) (v := .int 1) (ty0 := tyX10) rfl inX10 tyX10_ok nmX10 (by decide) rfl wF_X10_476 ga0 rg_112 rfl rfl (okI (by have := i_rng (1 : Int32); omega) (by have := i_rng (1 : Int32); omega)) rfl rfl (AE_in ga0 (by decide)) dX10_image_25 (fun H5658 locsH5658 hTH5658 hSH5658 wH5658 => ?_)
      have mf5659 : MF K s.heap H5658 a0 [0, 1, 2, 3, 59, 62, 65, 70, 71, 72] := MF.fld hap wH5658 (by decide) (by decide) mf5622
      have g5660 : CG (avw K H5658 a0) := CG.congr (fun k hk j => av_fld hTH5621 ga0 hap wH5658 (by decide) (CG_ok 112 (by decide) k hk) (CG_ne 70 (by decide) k hk)) g5623
      have g5661 : TU (avw K H5658 a0) (svw K H5658 a0) := TU.congr (fun k hk j => av_fld hTH5621 ga0 hap wH5658 (by decide) (TU_ok 112 (by decide) k hk) (TU_ne 70 (by decide) k hk)) (fun k hk => sv_fld hap wH5658 (by decide) (TU_slt k hk) (TU_sne 70 (by decide) k hk)) g5624
      have g5662 : WD (avw K H5658 a0) := WD.congr (fun k hk j => av_fld hTH5621 ga0 hap wH5658 (by decide) (WD_ok 112 (by decide) k hk) (WD_ne 70 (by decide) k hk)) g5625
      have g5663 : IM (avw K H5658 a0) := IM.congr (fun k hk j => av_fld hTH5621 ga0 hap wH5658 (by decide) (IM_ok 112 (by decide) k hk) (IM_ne 70 (by decide) k hk)) g5626
      have b5664 : UN (x1.toInt = 0) (fun k => fI H5658 iq k) (fun k => fI s.heap iq k) := UN.congr (fun j => Wr.neI wH5658 (Or.inl (G_ne giq ga0 (by decide)))) b5627
      have b5665 : UN (x1.toInt ≠ 0) (fun k => fI H5658 q4 k) (fun k => fI s.heap q4 k) := UN.congr (fun j => Wr.neI wH5658 (Or.inl (G_ne gq4 ga0 (by decide)))) b5628
      have b5666 : UN (x1.toInt ≠ 0) (fun k => fI H5658 q16 k) (fun k => fI s.heap q16 k) := UN.congr (fun j => Wr.neI wH5658 (Or.inl (G_ne gq16 ga0 (by decide)))) b5629
      have b5667 : UN (x1.toInt ≠ 0) (fun k => fI H5658 q24 k) (fun k => fI s.heap q24 k) := UN.congr (fun j => Wr.neI wH5658 (Or.inl (G_ne gq24 ga0 (by decide)))) b5630
      have b5668 : UN (x1.toInt ≠ 0) (fun k => fI H5658 q29 k) (fun k => fI s.heap q29 k) := UN.congr (fun j => Wr.neI wH5658 (Or.inl (G_ne gq29 ga0 (by decide)))) b5631
      have b5669 : UN (x1.toInt ≠ 0) (fun k => fI H5658 q30 k) (fun k => fI s.heap q30 k) := UN.congr (fun j => Wr.neI wH5658 (Or.inl (G_ne gq30 ga0 (by decide)))) b5632
      have b5670 : UN (x1.toInt ≠ 0) (fun k => fI H5658 q31 k) (fun k => fI s.heap q31 k) := UN.congr (fun j => Wr.neI wH5658 (Or.inl (G_ne gq31 ga0 (by decide)))) b5633
      have b5671 : UN (x1.toInt ≠ 0) (fun k => fI H5658 q32 k) (fun k => fI s.heap q32 k) := UN.congr (fun j => Wr.neI wH5658 (Or.inl (G_ne gq32 ga0 (by decide)))) b5634
      have b5672 : UN (x1.toInt ≠ 0) (fun k => fI H5658 q33 k) (fun k => fI s.heap q33 k) := UN.congr (fun j => Wr.neI wH5658 (Or.inl (G_ne gq33 ga0 (by decide)))) b5635
      have f5673 : ∀ j : Nat, fI H5658 q4 j = fI s.heap q4 j := fun j => (Wr.neI wH5658 (Or.inl (G_ne gq4 ga0 (by decide)))).trans (f5636 j)
      have m5674 := m5637.trans (Wr.neR wH5658 (Or.inr (x_apart hKT hts inX10 tyX10 tyX10_ok nmX10 rfl 73 70 (by decide) (by decide) (by decide)))).symm
      have m5675 := m5638.trans (Wr.neR wH5658 (Or.inr (x_apart hKT hts inX10 tyX10 tyX10_ok nmX10 rfl 4 70 (by decide) (by decide) (by decide)))).symm
      have m5676 := m5639.trans (Wr.neR wH5658 (Or.inr (x_apart hKT hts inX10 tyX10 tyX10_ok nmX10 rfl 10 70 (by decide) (by decide) (by decide)))).symm
      have m5677 := m5640.trans (Wr.neR wH5658 (Or.inr (x_apart hKT hts inX10 tyX10 tyX10_ok nmX10 rfl 16 70 (by decide) (by decide) (by decide)))).symm
      have m5678 := m5641.trans (Wr.neR wH5658 (Or.inr (x_apart hKT hts inX10 tyX10 tyX10_ok nmX10 rfl 24 70 (by decide) (by decide) (by decide)))).symm
      have m5679 := m5642.trans (Wr.neR wH5658 (Or.inr (x_apart hKT hts inX10 tyX10 tyX10_ok nmX10 rfl 27 70 (by decide) (by decide) (by decide)))).symm
      have m5680 := m5643.trans (Wr.neR wH5658 (Or.inr (x_apart hKT hts inX10 tyX10 tyX10_ok nmX10 rfl 29 70 (by decide) (by decide) (by decide)))).symm
      have m5681 := m5644.trans (Wr.neR wH5658 (Or.inr (x_apart hKT hts inX10 tyX10 tyX10_ok nmX10 rfl 30 70 (by decide) (by decide) (by decide)))).symm
      have m5682 := m5645.trans (Wr.neR wH5658 (Or.inr (x_apart hKT hts inX10 tyX10 tyX10_ok nmX10 rfl 31 70 (by decide) (by decide) (by decide)))).symm
      have m5683 := m5646.trans (Wr.neR wH5658 (Or.inr (x_apart hKT hts inX10 tyX10 tyX10_ok nmX10 rfl 32 70 (by decide) (by decide) (by decide)))).symm
      have m5684 := m5647.trans (Wr.neR wH5658 (Or.inr (x_apart hKT hts inX10 tyX10 tyX10_ok nmX10 rfl 33 70 (by decide) (by decide) (by decide)))).symm
      have m5685 := m5648.trans (Wr.neR wH5658 (Or.inr (x_apart hKT hts inX10 tyX10 tyX10_ok nmX10 rfl 50 70 (by decide) (by decide) (by decide)))).symm
      have m5687 := m5650.trans (Wr.neI wH5658 (Or.inr (x_apart hKT hts inX10 tyX10 tyX10_ok nmX10 rfl 1 70 (by decide) (by decide) (by decide)))).symm
      have m5688 := m5651.trans (Wr.neI wH5658 (Or.inr (x_apart hKT hts inX10 tyX10 tyX10_ok nmX10 rfl 2 70 (by decide) (by decide) (by decide)))).symm
      have m5689 := m5652.trans (Wr.neI wH5658 (Or.inr (x_apart hKT hts inX10 tyX10 tyX10_ok nmX10 rfl 3 70 (by decide) (by decide) (by decide)))).symm
      have m5690 := m5653.trans (Wr.neI wH5658 (Or.inr (x_apart hKT hts inX10 tyX10 tyX10_ok nmX10 rfl 59 70 (by decide) (by decide) (by decide)))).symm
      have m5691 := m5654.trans (Wr.neI wH5658 (Or.inr (x_apart hKT hts inX10 tyX10 tyX10_ok nmX10 rfl 62 70 (by decide) (by decide) (by decide)))).symm
      have m5692 := m5655.trans (Wr.neI wH5658 (Or.inr (x_apart hKT hts inX10 tyX10 tyX10_ok nmX10 rfl 65 70 (by decide) (by decide) (by decide)))).symm
      have m5693 := (Wr.neI wH5658 (Or.inr (x_apart hKT hts inX10 tyX10 tyX10_ok nmX10 rfl 0 70 (by decide) (by decide) (by decide)))).trans m5656
      have m5694 := m5657.trans (Wr.neI wH5658 (Or.inr (x_apart hKT hts inX10 tyX10 tyX10_ok nmX10 rfl 71 70 (by decide) (by decide) (by decide)))).symm
      have m5695 := Wr.I wH5658
      clear b5627 b5628 b5629 b5630 b5631 b5632 b5633 b5634 b5635 f5636 g5623 g5624 g5625 g5626 hTH5621 m5637 m5638 m5639 m5640 m5641 m5642 m5643 m5644 m5645 m5646 m5647 m5648 m5649 m5650 m5651 m5652 m5653 m5654 m5655 m5656 m5657 mf5622
      refine lv_aload_n hx hb dX10_image_28 rfl (lv_at hl 0 rfl) ?_
      refine lv_iconst (v := 0) hx hb dX10_image_29 (by decide) ?_
      refine x_put C hTH5658 hSH5658 (ci := 10) (k := 72) (v := .int 0) (ty0 := tyX10) rfl inX10 tyX10_ok nmX10 (by decide) rfl wF_X10_467 ga0 rg_112 rfl rfl (okI (by have := i_rng (0 : Int32); omega) (by have := i_rng (0 : Int32); omega)) rfl rfl (AE_in ga0 (by decide)) dX10_image_30 (fun H5696 locsH5696 hTH5696 hSH5696 wH5696 => ?_)
      have mf5697 : MF K s.heap H5696 a0 [0, 1, 2, 3, 59, 62, 65, 70, 71, 72] := MF.fld hap wH5696 (by decide) (by decide) mf5659
      have g5698 : CG (avw K H5696 a0) := CG.congr (fun k hk j => av_fld hTH5658 ga0 hap wH5696 (by decide) (CG_ok 112 (by decide) k hk) (CG_ne 72 (by decide) k hk)) g5660
      have g5699 : TU (avw K H5696 a0) (svw K H5696 a0) := TU.congr (fun k hk j => av_fld hTH5658 ga0 hap wH5696 (by decide) (TU_ok 112 (by decide) k hk) (TU_ne 72 (by decide) k hk)) (fun k hk => sv_fld hap wH5696 (by decide) (TU_slt k hk) (TU_sne 72 (by decide) k hk)) g5661
      have g5700 : WD (avw K H5696 a0) := WD.congr (fun k hk j => av_fld hTH5658 ga0 hap wH5696 (by decide) (WD_ok 112 (by decide) k hk) (WD_ne 72 (by decide) k hk)) g5662
      have g5701 : IM (avw K H5696 a0) := IM.congr (fun k hk j => av_fld hTH5658 ga0 hap wH5696 (by decide) (IM_ok 112 (by decide) k hk) (IM_ne 72 (by decide) k hk)) g5663
      have b5702 : UN (x1.toInt = 0) (fun k => fI H5696 iq k) (fun k => fI s.heap iq k) := UN.congr (fun j => Wr.neI wH5696 (Or.inl (G_ne giq ga0 (by decide)))) b5664
      have b5703 : UN (x1.toInt ≠ 0) (fun k => fI H5696 q4 k) (fun k => fI s.heap q4 k) := UN.congr (fun j => Wr.neI wH5696 (Or.inl (G_ne gq4 ga0 (by decide)))) b5665
      have b5704 : UN (x1.toInt ≠ 0) (fun k => fI H5696 q16 k) (fun k => fI s.heap q16 k) := UN.congr (fun j => Wr.neI wH5696 (Or.inl (G_ne gq16 ga0 (by decide)))) b5666
      have b5705 : UN (x1.toInt ≠ 0) (fun k => fI H5696 q24 k) (fun k => fI s.heap q24 k) := UN.congr (fun j => Wr.neI wH5696 (Or.inl (G_ne gq24 ga0 (by decide)))) b5667
      have b5706 : UN (x1.toInt ≠ 0) (fun k => fI H5696 q29 k) (fun k => fI s.heap q29 k) := UN.congr (fun j => Wr.neI wH5696 (Or.inl (G_ne gq29 ga0 (by decide)))) b5668
      have b5707 : UN (x1.toInt ≠ 0) (fun k => fI H5696 q30 k) (fun k => fI s.heap q30 k) := UN.congr (fun j => Wr.neI wH5696 (Or.inl (G_ne gq30 ga0 (by decide)))) b5669
      have b5708 : UN (x1.toInt ≠ 0) (fun k => fI H5696 q31 k) (fun k => fI s.heap q31 k) := UN.congr (fun j => Wr.neI wH5696 (Or.inl (G_ne gq31 ga0 (by decide)))) b5670
      have b5709 : UN (x1.toInt ≠ 0) (fun k => fI H5696 q32 k) (fun k => fI s.heap q32 k) := UN.congr (fun j => Wr.neI wH5696 (Or.inl (G_ne gq32 ga0 (by decide)))) b5671
      have b5710 : UN (x1.toInt ≠ 0) (fun k => fI H5696 q33 k) (fun k => fI s.heap q33 k) := UN.congr (fun j => Wr.neI wH5696 (Or.inl (G_ne gq33 ga0 (by decide)))) b5672
      have f5711 : ∀ j : Nat, fI H5696 q4 j = fI s.heap q4 j := fun j => (Wr.neI wH5696 (Or.inl (G_ne gq4 ga0 (by decide)))).trans (f5673 j)
      have m5712 := m5674.trans (Wr.neR wH5696 (Or.inr (x_apart hKT hts inX10 tyX10 tyX10_ok nmX10 rfl 73 72 (by decide) (by decide) (by decide)))).symm
      have m5713 := m5675.trans (Wr.neR wH5696 (Or.inr (x_apart hKT hts inX10 tyX10 tyX10_ok nmX10 rfl 4 72 (by decide) (by decide) (by decide)))).symm
      have m5714 := m5676.trans (Wr.neR wH5696 (Or.inr (x_apart hKT hts inX10 tyX10 tyX10_ok nmX10 rfl 10 72 (by decide) (by decide) (by decide)))).symm
      have m5715 := m5677.trans (Wr.neR wH5696 (Or.inr (x_apart hKT hts inX10 tyX10 tyX10_ok nmX10 rfl 16 72 (by decide) (by decide) (by decide)))).symm
      have m5716 := m5678.trans (Wr.neR wH5696 (Or.inr (x_apart hKT hts inX10 tyX10 tyX10_ok nmX10 rfl 24 72 (by decide) (by decide) (by decide)))).symm
      have m5717 := m5679.trans (Wr.neR wH5696 (Or.inr (x_apart hKT hts inX10 tyX10 tyX10_ok nmX10 rfl 27 72 (by decide) (by decide) (by decide)))).symm
      have m5718 := m5680.trans (Wr.neR wH5696 (Or.inr (x_apart hKT hts inX10 tyX10 tyX10_ok nmX10 rfl 29 72 (by decide) (by decide) (by decide)))).symm
      have m5719 := m5681.trans (Wr.neR wH5696 (Or.inr (x_apart hKT hts inX10 tyX10 tyX10_ok nmX10 rfl 30 72 (by decide) (by decide) (by decide)))).symm
      have m5720 := m5682.trans (Wr.neR wH5696 (Or.inr (x_apart hKT hts inX10 tyX10 tyX10_ok nmX10 rfl 31 72 (by decide) (by decide) (by decide)))).symm
      have m5721 := m5683.trans (Wr.neR wH5696 (Or.inr (x_apart hKT hts inX10 tyX10 tyX10_ok nmX10 rfl 32 72 (by decide) (by decide) (by decide)))).symm
      have m5722 := m5684.trans (Wr.neR wH5696 (Or.inr (x_apart hKT hts inX10 tyX10 tyX10_ok nmX10 rfl 33 72 (by decide) (by decide) (by decide)))).symm
      have m5723 := m5685.trans (Wr.neR wH5696 (Or.inr (x_apart hKT hts inX10 tyX10 tyX10_ok nmX10 rfl 50 72 (by decide) (by decide) (by decide)))).symm
      have m5724 := m5687.trans (Wr.neI wH5696 (Or.inr (x_apart hKT hts inX10 tyX10 tyX10_ok nmX10 rfl 1 72 (by decide) (by decide) (by decide)))).symm
      have m5725 := m5688.trans (Wr.neI wH5696 (Or.inr (x_apart hKT hts inX10 tyX10 tyX10_ok nmX10 rfl 2 72 (by decide) (by decide) (by decide)))).symm
      have m5726 := m5689.trans (Wr.neI wH5696 (Or.inr (x_apart hKT hts inX10 tyX10 tyX10_ok nmX10 rfl 3 72 (by decide) (by decide) (by decide)))).symm
      have m5727 := m5690.trans (Wr.neI wH5696 (Or.inr (x_apart hKT hts inX10 tyX10 tyX10_ok nmX10 rfl 59 72 (by decide) (by decide) (by decide)))).symm
      have m5728 := m5691.trans (Wr.neI wH5696 (Or.inr (x_apart hKT hts inX10 tyX10 tyX10_ok nmX10 rfl 62 72 (by decide) (by decide) (by decide)))).symm
      have m5729 := m5692.trans (Wr.neI wH5696 (Or.inr (x_apart hKT hts inX10 tyX10 tyX10_ok nmX10 rfl 65 72 (by decide) (by decide) (by decide)))).symm
      have m5730 := (Wr.neI wH5696 (Or.inr (x_apart hKT hts inX10 tyX10 tyX10_ok nmX10 rfl 0 72 (by decide) (by decide) (by decide)))).trans m5693
      have m5731 := m5694.trans (Wr.neI wH5696 (Or.inr (x_apart hKT hts inX10 tyX10 tyX10_ok nmX10 rfl 71 72 (by decide) (by decide) (by decide)))).symm
      have m5732 := (Wr.neI wH5696 (Or.inr (x_apart hKT hts inX10 tyX10 tyX10_ok nmX10 rfl 70 72 (by decide) (by decide) (by decide)))).trans m5695
      have m5733 := Wr.I wH5696
      clear b5664 b5665 b5666 b5667 b5668 b5669 b5670 b5671 b5672 f5673 g5660 g5661 g5662 g5663 hTH5658 m5674 m5675 m5676 m5677 m5678 m5679 m5680 m5681 m5682 m5683 m5684 m5685 m5687 m5688 m5689 m5690 m5691 m5692 m5693 m5694 m5695 mf5659
      refine lv_aload_n hx hb dX10_image_33 rfl (lv_at hl 0 rfl) ?_
      refine lv_aload_n hx hb dX10_image_34 rfl (lv_at hl 0 rfl) ?_
      refine lv_aload_n hx hb dX10_image_35 rfl (lv_at hl 0 rfl) ?_
      refine x_gi C hTH5696 (ci := 10) (k := 1) rfl inX10 (by decide) wF_X10_170 ga0 rg_112 rfl dX10_image_36 (fun x5734 ex5734 bx5734 => ?_)
      have ux5734 : s1 = x5734 := (m5724).trans ex5734.symm
      subst ux5734
      refine x_V (As := [.int s1]) (rest := [.ref a0]) C (a_X10_kept l K G H5696 (s1) (0) (x1) hTH5696 ga0 giq m5712 (m5733).symm m5731 g5700 (by and_intros <;> first | assumption | omega)) yo_X10_kept wM_X10_473 ⟨⟨by decide, by decide⟩, by decide, by decide⟩ (x_rv C hTH5696 (ci := 10) rfl ga0 rg_112) rfl hl.1 rfl (Nat.le_of_ble_eq_true rfl) dX10_image_39 hSH5696 (AE_sub (fun _ _ => rfl) (by decide) hSH5696.1) (fun vH5735 H5735 locsH5735 pH5735 zH5735 kH5735 hSH5735 => ?_)
      obtain ⟨x5736, x5737, hvH5735, ex5737, hrH5735, m5738, g5739, mf5740, m5741, m5742, m5743, m5744, hTH5735⟩ := pH5735
      subst hvH5735
      clear zH5735
      replace m5738 := EQN.mk m5738
      have b5745 : UN (x1.toInt ≠ 0) (fun k => fI H5735 q4 k) (fun k => fI s.heap q4 k) := UN.congr (fun j => fI_kept (x_lt hTH5696 kH5735 gq4 (by decide))) b5703
      have b5746 : UN (x1.toInt ≠ 0) (fun k => fI H5735 q16 k) (fun k => fI s.heap q16 k) := UN.congr (fun j => fI_kept (x_lt hTH5696 kH5735 gq16 (by decide))) b5704
      have b5747 : UN (x1.toInt ≠ 0) (fun k => fI H5735 q24 k) (fun k => fI s.heap q24 k) := UN.congr (fun j => fI_kept (x_lt hTH5696 kH5735 gq24 (by decide))) b5705
      have b5748 : UN (x1.toInt ≠ 0) (fun k => fI H5735 q29 k) (fun k => fI s.heap q29 k) := UN.congr (fun j => fI_kept (x_lt hTH5696 kH5735 gq29 (by decide))) b5706
      have b5749 : UN (x1.toInt ≠ 0) (fun k => fI H5735 q30 k) (fun k => fI s.heap q30 k) := UN.congr (fun j => fI_kept (x_lt hTH5696 kH5735 gq30 (by decide))) b5707
      have b5750 : UN (x1.toInt ≠ 0) (fun k => fI H5735 q31 k) (fun k => fI s.heap q31 k) := UN.congr (fun j => fI_kept (x_lt hTH5696 kH5735 gq31 (by decide))) b5708
      have b5751 : UN (x1.toInt ≠ 0) (fun k => fI H5735 q32 k) (fun k => fI s.heap q32 k) := UN.congr (fun j => fI_kept (x_lt hTH5696 kH5735 gq32 (by decide))) b5709
      have b5752 : UN (x1.toInt ≠ 0) (fun k => fI H5735 q33 k) (fun k => fI s.heap q33 k) := UN.congr (fun j => fI_kept (x_lt hTH5696 kH5735 gq33 (by decide))) b5710
      have f5753 : ∀ j : Nat, fI H5735 q4 j = fI s.heap q4 j := fun j => (fI_kept (x_lt hTH5696 kH5735 gq4 (by decide))).trans (f5711 j)
      have m5754 := (m5712).trans (MF.r mf5740 (k := 73) (by decide) (by decide)).symm
      have m5755 := (m5713).trans (MF.r mf5740 (k := 4) (by decide) (by decide)).symm
      have m5756 := (m5714).trans (MF.r mf5740 (k := 10) (by decide) (by decide)).symm
      have m5757 := (m5715).trans (MF.r mf5740 (k := 16) (by decide) (by decide)).symm
      have m5758 := (m5716).trans (MF.r mf5740 (k := 24) (by decide) (by decide)).symm
      have m5759 := (m5717).trans (MF.r mf5740 (k := 27) (by decide) (by decide)).symm
      have m5760 := (m5718).trans (MF.r mf5740 (k := 29) (by decide) (by decide)).symm
      have m5761 := (m5719).trans (MF.r mf5740 (k := 30) (by decide) (by decide)).symm
      have m5762 := (m5720).trans (MF.r mf5740 (k := 31) (by decide) (by decide)).symm
      have m5763 := (m5721).trans (MF.r mf5740 (k := 32) (by decide) (by decide)).symm
      have m5764 := (m5722).trans (MF.r mf5740 (k := 33) (by decide) (by decide)).symm
      have m5765 := (m5723).trans (MF.r mf5740 (k := 50) (by decide) (by decide)).symm
      have m5766 := (m5724).trans (MF.i mf5740 (k := 1) (by decide) (by decide)).symm
      have m5767 := (m5725).trans (MF.i mf5740 (k := 2) (by decide) (by decide)).symm
      have m5768 := (m5726).trans (MF.i mf5740 (k := 3) (by decide) (by decide)).symm
      have m5769 := (m5727).trans (MF.i mf5740 (k := 59) (by decide) (by decide)).symm
      have m5770 := (m5728).trans (MF.i mf5740 (k := 62) (by decide) (by decide)).symm
      have m5771 := (m5729).trans (MF.i mf5740 (k := 65) (by decide) (by decide)).symm
      have m5772 := (MF.i mf5740 (k := 0) (by decide) (by decide)).trans m5730
      have m5773 := (m5731).trans (MF.i mf5740 (k := 71) (by decide) (by decide)).symm
      have m5774 := (MF.i mf5740 (k := 70) (by decide) (by decide)).trans m5732
      have mf5775 : MF K s.heap H5735 a0 [0, 1, 2, 3, 59, 62, 65, 70, 71, 72] := MF.trans mf5697 mf5740 (by decide)
      have bx5737 := ty_fi (x := x5737) (k := 72) ex5737 hTH5735 ga0 rg_112 rfl
      have ce_k0 : (0 : Int32).toNatClampNeg = 0 := rfl
      have b5776 : UN (x1.toInt = 0) (fun k => fI H5735 iq k) (fun k => fI s.heap iq k) := UN.tr m5744 b5702
      clear b5702 b5703 b5704 b5705 b5706 b5707 b5708 b5709 b5710 m5712 m5713 m5714 m5715 m5716 m5717 m5718 m5719 m5720 m5721 m5722 m5723 m5724 m5725 m5726 m5727 m5728 m5729 m5730 m5731 m5732 m5733
      clear m5743 m5744
      have bx5736 : 0 ≤ x5736.toInt ∧ x5736.toInt ≤ 10 := kr (fun h0 => by have hiw := hIW; exact kr0 (w := fun k => fI H5735 iq k) m5741 (p := 0) (by omega) (b5776 h0) (hiw.1.1)) m5742 (by omega)
      have p5777 : x5736 = fI H5735 iq (0) := by have h := m5741; rw [show (0 : Int32).toNatClampNeg = 0 by omega] at h; exact h
      refine W.eq (g2 := F0 m 42 ls [.int x5736, .ref a0]) rfl ?_
      refine x_put C hTH5735 hSH5735 (ci := 10) (k := 1) (v := .int x5736) (ty0 := tyX10) rfl inX10 tyX10_ok nmX10 (by decide) rfl wF_X10_170 ga0 rg_112 rfl rfl (okI (by have := i_rng x5736; omega) (by have := i_rng x5736; omega)) rfl rfl (AE_in ga0 (by decide)) dX10_image_42 (fun H5778 locsH5778 hTH5778 hSH5778 wH5778 => ?_)
      have mf5779 : MF K s.heap H5778 a0 [0, 1, 2, 3, 59, 62, 65, 70, 71, 72] := MF.fld hap wH5778 (by decide) (by decide) mf5775
      have g5780 : WD (avw K H5778 a0) := WD.congr (fun k hk j => av_fld hTH5735 ga0 hap wH5778 (by decide) (WD_ok 112 (by decide) k hk) (WD_ne 1 (by decide) k hk)) g5739
      have b5781 : UN (x1.toInt ≠ 0) (fun k => fI H5778 q4 k) (fun k => fI s.heap q4 k) := UN.congr (fun j => Wr.neI wH5778 (Or.inl (G_ne gq4 ga0 (by decide)))) b5745
      have b5782 : UN (x1.toInt ≠ 0) (fun k => fI H5778 q16 k) (fun k => fI s.heap q16 k) := UN.congr (fun j => Wr.neI wH5778 (Or.inl (G_ne gq16 ga0 (by decide)))) b5746
      have b5783 : UN (x1.toInt ≠ 0) (fun k => fI H5778 q24 k) (fun k => fI s.heap q24 k) := UN.congr (fun j => Wr.neI wH5778 (Or.inl (G_ne gq24 ga0 (by decide)))) b5747
      have b5784 : UN (x1.toInt ≠ 0) (fun k => fI H5778 q29 k) (fun k => fI s.heap q29 k) := UN.congr (fun j => Wr.neI wH5778 (Or.inl (G_ne gq29 ga0 (by decide)))) b5748
      have b5785 : UN (x1.toInt ≠ 0) (fun k => fI H5778 q30 k) (fun k => fI s.heap q30 k) := UN.congr (fun j => Wr.neI wH5778 (Or.inl (G_ne gq30 ga0 (by decide)))) b5749
      have b5786 : UN (x1.toInt ≠ 0) (fun k => fI H5778 q31 k) (fun k => fI s.heap q31 k) := UN.congr (fun j => Wr.neI wH5778 (Or.inl (G_ne gq31 ga0 (by decide)))) b5750
      have b5787 : UN (x1.toInt ≠ 0) (fun k => fI H5778 q32 k) (fun k => fI s.heap q32 k) := UN.congr (fun j => Wr.neI wH5778 (Or.inl (G_ne gq32 ga0 (by decide)))) b5751
      have b5788 : UN (x1.toInt ≠ 0) (fun k => fI H5778 q33 k) (fun k => fI s.heap q33 k) := UN.congr (fun j => Wr.neI wH5778 (Or.inl (G_ne gq33 ga0 (by decide)))) b5752
      have b5789 : UN (x1.toInt = 0) (fun k => fI H5778 iq k) (fun k => fI s.heap iq k) := UN.congr (fun j => Wr.neI wH5778 (Or.inl (G_ne giq ga0 (by decide)))) b5776
      have b5790 : x5736 = fI H5778 iq (0) := (p5777).trans (Wr.neI wH5778 (Or.inl (G_ne giq ga0 (by decide)))).symm
      have f5791 : ∀ j : Nat, fI H5778 q4 j = fI s.heap q4 j := fun j => (Wr.neI wH5778 (Or.inl (G_ne gq4 ga0 (by decide)))).trans (f5753 j)
      have m5792 := m5738.trans (Wr.neR wH5778 (Or.inr (x_apart hKT hts inX10 tyX10 tyX10_ok nmX10 rfl 73 1 (by decide) (by decide) (by decide)))).symm
      have m5793 := m5755.trans (Wr.neR wH5778 (Or.inr (x_apart hKT hts inX10 tyX10 tyX10_ok nmX10 rfl 4 1 (by decide) (by decide) (by decide)))).symm
      have m5794 := m5756.trans (Wr.neR wH5778 (Or.inr (x_apart hKT hts inX10 tyX10 tyX10_ok nmX10 rfl 10 1 (by decide) (by decide) (by decide)))).symm
      have m5795 := m5757.trans (Wr.neR wH5778 (Or.inr (x_apart hKT hts inX10 tyX10 tyX10_ok nmX10 rfl 16 1 (by decide) (by decide) (by decide)))).symm
      have m5796 := m5758.trans (Wr.neR wH5778 (Or.inr (x_apart hKT hts inX10 tyX10 tyX10_ok nmX10 rfl 24 1 (by decide) (by decide) (by decide)))).symm
      have m5797 := m5759.trans (Wr.neR wH5778 (Or.inr (x_apart hKT hts inX10 tyX10 tyX10_ok nmX10 rfl 27 1 (by decide) (by decide) (by decide)))).symm
      have m5798 := m5760.trans (Wr.neR wH5778 (Or.inr (x_apart hKT hts inX10 tyX10 tyX10_ok nmX10 rfl 29 1 (by decide) (by decide) (by decide)))).symm
      have m5799 := m5761.trans (Wr.neR wH5778 (Or.inr (x_apart hKT hts inX10 tyX10 tyX10_ok nmX10 rfl 30 1 (by decide) (by decide) (by decide)))).symm
      have m5800 := m5762.trans (Wr.neR wH5778 (Or.inr (x_apart hKT hts inX10 tyX10 tyX10_ok nmX10 rfl 31 1 (by decide) (by decide) (by decide)))).symm
      have m5801 := m5763.trans (Wr.neR wH5778 (Or.inr (x_apart hKT hts inX10 tyX10 tyX10_ok nmX10 rfl 32 1 (by decide) (by decide) (by decide)))).symm
      have m5802 := m5764.trans (Wr.neR wH5778 (Or.inr (x_apart hKT hts inX10 tyX10 tyX10_ok nmX10 rfl 33 1 (by decide) (by decide) (by decide)))).symm
      have m5803 := m5765.trans (Wr.neR wH5778 (Or.inr (x_apart hKT hts inX10 tyX10 tyX10_ok nmX10 rfl 50 1 (by decide) (by decide) (by decide)))).symm
      have m5805 := m5767.trans (Wr.neI wH5778 (Or.inr (x_apart hKT hts inX10 tyX10 tyX10_ok nmX10 rfl 2 1 (by decide) (by decide) (by decide)))).symm
      have m5806 := m5768.trans (Wr.neI wH5778 (Or.inr (x_apart hKT hts inX10 tyX10 tyX10_ok nmX10 rfl 3 1 (by decide) (by decide) (by decide)))).symm
      have m5807 := m5769.trans (Wr.neI wH5778 (Or.inr (x_apart hKT hts inX10 tyX10 tyX10_ok nmX10 rfl 59 1 (by decide) (by decide) (by decide)))).symm
      have m5808 := m5770.trans (Wr.neI wH5778 (Or.inr (x_apart hKT hts inX10 tyX10 tyX10_ok nmX10 rfl 62 1 (by decide) (by decide) (by decide)))).symm
      have m5809 := m5771.trans (Wr.neI wH5778 (Or.inr (x_apart hKT hts inX10 tyX10 tyX10_ok nmX10 rfl 65 1 (by decide) (by decide) (by decide)))).symm
      have m5810 := (Wr.neI wH5778 (Or.inr (x_apart hKT hts inX10 tyX10 tyX10_ok nmX10 rfl 0 1 (by decide) (by decide) (by decide)))).trans m5772
      have m5811 := m5773.trans (Wr.neI wH5778 (Or.inr (x_apart hKT hts inX10 tyX10 tyX10_ok nmX10 rfl 71 1 (by decide) (by decide) (by decide)))).symm
      have m5812 := (Wr.neI wH5778 (Or.inr (x_apart hKT hts inX10 tyX10 tyX10_ok nmX10 rfl 70 1 (by decide) (by decide) (by decide)))).trans m5774
      have m5813 := ex5737.trans (Wr.neI wH5778 (Or.inr (x_apart hKT hts inX10 tyX10 tyX10_ok nmX10 rfl 72 1 (by decide) (by decide) (by decide)))).symm
      have m5814 := Wr.I wH5778
      have m5814 := m5814.symm
      clear b5745 b5746 b5747 b5748 b5749 b5750 b5751 b5752 b5776 ex5737 f5753 g5739 hTH5735 m5738 m5755 m5756 m5757 m5758 m5759 m5760 m5761 m5762 m5763 m5764 m5765 m5766 m5767 m5768 m5769 m5770 m5771 m5772 m5773 m5774 mf5775 p5777
      refine lv_aload_n hx hb dX10_image_45 rfl (lv_at hl 0 rfl) ?_
      refine lv_aload_n hx hb dX10_image_46 rfl (lv_at hl 0 rfl) ?_
      refine lv_aload_n hx hb dX10_image_47 rfl (lv_at hl 0 rfl) ?_
      refine x_gi C hTH5778 (ci := 10) (k := 2) rfl inX10 (by decide) wF_X10_322 ga0 rg_112 rfl dX10_image_48 (fun x5815 ex5815 bx5815 => ?_)
      have ux5815 : s2 = x5815 := (m5805).trans ex5815.symm
      subst ux5815
      refine x_V (As := [.int s2]) (rest := [.ref a0]) C (a_X10_kept l K G H5778 (s2) (x5737) (x1) hTH5778 ga0 giq m5792 m5813 m5811 g5780 (by and_intros <;> first | assumption | omega)) yo_X10_kept wM_X10_473 ⟨⟨by decide, by decide⟩, by decide, by decide⟩ (x_rv C hTH5778 (ci := 10) rfl ga0 rg_112) rfl hl.1 rfl (Nat.le_of_ble_eq_true rfl) dX10_image_51 hSH5778 (AE_sub (fun _ _ => rfl) (by decide) hSH5778.1) (fun vH5816 H5816 locsH5816 pH5816 zH5816 kH5816 hSH5816 => ?_)
      obtain ⟨x5817, x5818, hvH5816, ex5818, hrH5816, m5819, g5820, mf5821, m5822, m5823, m5824, m5825, hTH5816⟩ := pH5816
      subst hvH5816
      clear zH5816
      replace m5819 := EQN.mk m5819
      have b5826 : UN (x1.toInt ≠ 0) (fun k => fI H5816 q4 k) (fun k => fI s.heap q4 k) := UN.congr (fun j => fI_kept (x_lt hTH5778 kH5816 gq4 (by decide))) b5781
      have b5827 : UN (x1.toInt ≠ 0) (fun k => fI H5816 q16 k) (fun k => fI s.heap q16 k) := UN.congr (fun j => fI_kept (x_lt hTH5778 kH5816 gq16 (by decide))) b5782
      have b5828 : UN (x1.toInt ≠ 0) (fun k => fI H5816 q24 k) (fun k => fI s.heap q24 k) := UN.congr (fun j => fI_kept (x_lt hTH5778 kH5816 gq24 (by decide))) b5783
      have b5829 : UN (x1.toInt ≠ 0) (fun k => fI H5816 q29 k) (fun k => fI s.heap q29 k) := UN.congr (fun j => fI_kept (x_lt hTH5778 kH5816 gq29 (by decide))) b5784
      have b5830 : UN (x1.toInt ≠ 0) (fun k => fI H5816 q30 k) (fun k => fI s.heap q30 k) := UN.congr (fun j => fI_kept (x_lt hTH5778 kH5816 gq30 (by decide))) b5785
      have b5831 : UN (x1.toInt ≠ 0) (fun k => fI H5816 q31 k) (fun k => fI s.heap q31 k) := UN.congr (fun j => fI_kept (x_lt hTH5778 kH5816 gq31 (by decide))) b5786
      have b5832 : UN (x1.toInt ≠ 0) (fun k => fI H5816 q32 k) (fun k => fI s.heap q32 k) := UN.congr (fun j => fI_kept (x_lt hTH5778 kH5816 gq32 (by decide))) b5787
      have b5833 : UN (x1.toInt ≠ 0) (fun k => fI H5816 q33 k) (fun k => fI s.heap q33 k) := UN.congr (fun j => fI_kept (x_lt hTH5778 kH5816 gq33 (by decide))) b5788
      have f5834 : ∀ j : Nat, fI H5816 q4 j = fI s.heap q4 j := fun j => (fI_kept (x_lt hTH5778 kH5816 gq4 (by decide))).trans (f5791 j)
      have m5835 := (m5792).trans (MF.r mf5821 (k := 73) (by decide) (by decide)).symm
      have m5836 := (m5793).trans (MF.r mf5821 (k := 4) (by decide) (by decide)).symm
      have m5837 := (m5794).trans (MF.r mf5821 (k := 10) (by decide) (by decide)).symm
      have m5838 := (m5795).trans (MF.r mf5821 (k := 16) (by decide) (by decide)).symm
      have m5839 := (m5796).trans (MF.r mf5821 (k := 24) (by decide) (by decide)).symm
      have m5840 := (m5797).trans (MF.r mf5821 (k := 27) (by decide) (by decide)).symm
      have m5841 := (m5798).trans (MF.r mf5821 (k := 29) (by decide) (by decide)).symm
      have m5842 := (m5799).trans (MF.r mf5821 (k := 30) (by decide) (by decide)).symm
      have m5843 := (m5800).trans (MF.r mf5821 (k := 31) (by decide) (by decide)).symm
      have m5844 := (m5801).trans (MF.r mf5821 (k := 32) (by decide) (by decide)).symm
      have m5845 := (m5802).trans (MF.r mf5821 (k := 33) (by decide) (by decide)).symm
      have m5846 := (m5803).trans (MF.r mf5821 (k := 50) (by decide) (by decide)).symm
      have m5847 := (m5805).trans (MF.i mf5821 (k := 2) (by decide) (by decide)).symm
      have m5848 := (m5806).trans (MF.i mf5821 (k := 3) (by decide) (by decide)).symm
      have m5849 := (m5807).trans (MF.i mf5821 (k := 59) (by decide) (by decide)).symm
      have m5850 := (m5808).trans (MF.i mf5821 (k := 62) (by decide) (by decide)).symm
      have m5851 := (m5809).trans (MF.i mf5821 (k := 65) (by decide) (by decide)).symm
      have m5852 := (MF.i mf5821 (k := 0) (by decide) (by decide)).trans m5810
      have m5853 := (m5811).trans (MF.i mf5821 (k := 71) (by decide) (by decide)).symm
      have m5854 := (MF.i mf5821 (k := 70) (by decide) (by decide)).trans m5812
      have m5855 := (m5814).trans (MF.i mf5821 (k := 1) (by decide) (by decide)).symm
      have mf5856 : MF K s.heap H5816 a0 [0, 1, 2, 3, 59, 62, 65, 70, 71, 72] := MF.trans mf5779 mf5821 (by decide)
      have bx5818 := ty_fi (x := x5818) (k := 72) ex5818 hTH5816 ga0 rg_112 rfl
      have ce_x5737 := i_cl (x := x5737) (by omega)
      have b5857 : UN (x1.toInt = 0) (fun k => fI H5816 iq k) (fun k => fI s.heap iq k) := UN.tr m5825 b5789
      have b5858 : x5736 = fI H5816 iq (0) := (b5790).trans (m5824 _ (by omega)).symm
      clear b5781 b5782 b5783 b5784 b5785 b5786 b5787 b5788 b5789 b5790 m5792 m5793 m5794 m5795 m5796 m5797 m5798 m5799 m5800 m5801 m5802 m5803 m5805 m5806 m5807 m5808 m5809 m5810 m5811 m5812 m5813 m5814
      clear m5824 m5825
      have bx5817 : 0 ≤ x5817.toInt ∧ x5817.toInt ≤ 1 := kr (fun h0 => by have hiw := hIW; exact kr0 (w := fun k => fI H5816 iq k) m5822 (p := 1) (by omega) (b5857 h0) (hiw.1.2.1)) m5823 (by omega)
      have p5859 : x5817 = fI H5816 iq (1) := by have h := m5822; rw [show x5737.toNatClampNeg = 1 by omega] at h; exact h
      refine W.eq (g2 := F0 m 54 ls [.int x5817, .ref a0]) rfl ?_
      refine x_put C hTH5816 hSH5816 (ci := 10) (k := 2) (v := .int x5817) (ty0 := tyX10) rfl inX10 tyX10_ok nmX10 (by decide) rfl wF_X10_322 ga0 rg_112 rfl rfl (okI (by have := i_rng x5817; omega) (by have := i_rng x5817; omega)) rfl rfl (AE_in ga0 (by decide)) dX10_image_54 (fun H5860 locsH5860 hTH5860 hSH5860 wH5860 => ?_)
      have mf5861 : MF K s.heap H5860 a0 [0, 1, 2, 3, 59, 62, 65, 70, 71, 72] := MF.fld hap wH5860 (by decide) (by decide) mf5856
      have g5862 : WD (avw K H5860 a0) := WD.congr (fun k hk j => av_fld hTH5816 ga0 hap wH5860 (by decide) (WD_ok 112 (by decide) k hk) (WD_ne 2 (by decide) k hk)) g5820
      have b5863 : UN (x1.toInt ≠ 0) (fun k => fI H5860 q4 k) (fun k => fI s.heap q4 k) := UN.congr (fun j => Wr.neI wH5860 (Or.inl (G_ne gq4 ga0 (by decide)))) b5826
      have b5864 : UN (x1.toInt ≠ 0) (fun k => fI H5860 q16 k) (fun k => fI s.heap q16 k) := UN.congr (fun j => Wr.neI wH5860 (Or.inl (G_ne gq16 ga0 (by decide)))) b5827
      have b5865 : UN (x1.toInt ≠ 0) (fun k => fI H5860 q24 k) (fun k => fI s.heap q24 k) := UN.congr (fun j => Wr.neI wH5860 (Or.inl (G_ne gq24 ga0 (by decide)))) b5828
      have b5866 : UN (x1.toInt ≠ 0) (fun k => fI H5860 q29 k) (fun k => fI s.heap q29 k) := UN.congr (fun j => Wr.neI wH5860 (Or.inl (G_ne gq29 ga0 (by decide)))) b5829
      have b5867 : UN (x1.toInt ≠ 0) (fun k => fI H5860 q30 k) (fun k => fI s.heap q30 k) := UN.congr (fun j => Wr.neI wH5860 (Or.inl (G_ne gq30 ga0 (by decide)))) b5830
      have b5868 : UN (x1.toInt ≠ 0) (fun k => fI H5860 q31 k) (fun k => fI s.heap q31 k) := UN.congr (fun j => Wr.neI wH5860 (Or.inl (G_ne gq31 ga0 (by decide)))) b5831
      have b5869 : UN (x1.toInt ≠ 0) (fun k => fI H5860 q32 k) (fun k => fI s.heap q32 k) := UN.congr (fun j => Wr.neI wH5860 (Or.inl (G_ne gq32 ga0 (by decide)))) b5832
      have b5870 : UN (x1.toInt ≠ 0) (fun k => fI H5860 q33 k) (fun k => fI s.heap q33 k) := UN.congr (fun j => Wr.neI wH5860 (Or.inl (G_ne gq33 ga0 (by decide)))) b5833
      have b5871 : UN (x1.toInt = 0) (fun k => fI H5860 iq k) (fun k => fI s.heap iq k) := UN.congr (fun j => Wr.neI wH5860 (Or.inl (G_ne giq ga0 (by decide)))) b5857
      have b5872 : x5736 = fI H5860 iq (0) := (b5858).trans (Wr.neI wH5860 (Or.inl (G_ne giq ga0 (by decide)))).symm
      have b5873 : x5817 = fI H5860 iq (1) := (p5859).trans (Wr.neI wH5860 (Or.inl (G_ne giq ga0 (by decide)))).symm
      have f5874 : ∀ j : Nat, fI H5860 q4 j = fI s.heap q4 j := fun j => (Wr.neI wH5860 (Or.inl (G_ne gq4 ga0 (by decide)))).trans (f5834 j)
      have m5875 := m5819.trans (Wr.neR wH5860 (Or.inr (x_apart hKT hts inX10 tyX10 tyX10_ok nmX10 rfl 73 2 (by decide) (by decide) (by decide)))).symm
      have m5876 := m5836.trans (Wr.neR wH5860 (Or.inr (x_apart hKT hts inX10 tyX10 tyX10_ok nmX10 rfl 4 2 (by decide) (by decide) (by decide)))).symm
      have m5877 := m5837.trans (Wr.neR wH5860 (Or.inr (x_apart hKT hts inX10 tyX10 tyX10_ok nmX10 rfl 10 2 (by decide) (by decide) (by decide)))).symm
      have m5878 := m5838.trans (Wr.neR wH5860 (Or.inr (x_apart hKT hts inX10 tyX10 tyX10_ok nmX10 rfl 16 2 (by decide) (by decide) (by decide)))).symm
      have m5879 := m5839.trans (Wr.neR wH5860 (Or.inr (x_apart hKT hts inX10 tyX10 tyX10_ok nmX10 rfl 24 2 (by decide) (by decide) (by decide)))).symm
      have m5880 := m5840.trans (Wr.neR wH5860 (Or.inr (x_apart hKT hts inX10 tyX10 tyX10_ok nmX10 rfl 27 2 (by decide) (by decide) (by decide)))).symm
      have m5881 := m5841.trans (Wr.neR wH5860 (Or.inr (x_apart hKT hts inX10 tyX10 tyX10_ok nmX10 rfl 29 2 (by decide) (by decide) (by decide)))).symm
      have m5882 := m5842.trans (Wr.neR wH5860 (Or.inr (x_apart hKT hts inX10 tyX10 tyX10_ok nmX10 rfl 30 2 (by decide) (by decide) (by decide)))).symm
      have m5883 := m5843.trans (Wr.neR wH5860 (Or.inr (x_apart hKT hts inX10 tyX10 tyX10_ok nmX10 rfl 31 2 (by decide) (by decide) (by decide)))).symm
      have m5884 := m5844.trans (Wr.neR wH5860 (Or.inr (x_apart hKT hts inX10 tyX10 tyX10_ok nmX10 rfl 32 2 (by decide) (by decide) (by decide)))).symm
      have m5885 := m5845.trans (Wr.neR wH5860 (Or.inr (x_apart hKT hts inX10 tyX10 tyX10_ok nmX10 rfl 33 2 (by decide) (by decide) (by decide)))).symm
      have m5886 := m5846.trans (Wr.neR wH5860 (Or.inr (x_apart hKT hts inX10 tyX10 tyX10_ok nmX10 rfl 50 2 (by decide) (by decide) (by decide)))).symm
      have m5888 := m5848.trans (Wr.neI wH5860 (Or.inr (x_apart hKT hts inX10 tyX10 tyX10_ok nmX10 rfl 3 2 (by decide) (by decide) (by decide)))).symm
      have m5889 := m5849.trans (Wr.neI wH5860 (Or.inr (x_apart hKT hts inX10 tyX10 tyX10_ok nmX10 rfl 59 2 (by decide) (by decide) (by decide)))).symm
      have m5890 := m5850.trans (Wr.neI wH5860 (Or.inr (x_apart hKT hts inX10 tyX10 tyX10_ok nmX10 rfl 62 2 (by decide) (by decide) (by decide)))).symm
      have m5891 := m5851.trans (Wr.neI wH5860 (Or.inr (x_apart hKT hts inX10 tyX10 tyX10_ok nmX10 rfl 65 2 (by decide) (by decide) (by decide)))).symm
      have m5892 := (Wr.neI wH5860 (Or.inr (x_apart hKT hts inX10 tyX10 tyX10_ok nmX10 rfl 0 2 (by decide) (by decide) (by decide)))).trans m5852
      have m5893 := m5853.trans (Wr.neI wH5860 (Or.inr (x_apart hKT hts inX10 tyX10 tyX10_ok nmX10 rfl 71 2 (by decide) (by decide) (by decide)))).symm
      have m5894 := (Wr.neI wH5860 (Or.inr (x_apart hKT hts inX10 tyX10 tyX10_ok nmX10 rfl 70 2 (by decide) (by decide) (by decide)))).trans m5854
      have m5895 := m5855.trans (Wr.neI wH5860 (Or.inr (x_apart hKT hts inX10 tyX10 tyX10_ok nmX10 rfl 1 2 (by decide) (by decide) (by decide)))).symm
      have m5896 := ex5818.trans (Wr.neI wH5860 (Or.inr (x_apart hKT hts inX10 tyX10 tyX10_ok nmX10 rfl 72 2 (by decide) (by decide) (by decide)))).symm
      have m5897 := Wr.I wH5860
      have m5897 := m5897.symm
      clear b5826 b5827 b5828 b5829 b5830 b5831 b5832 b5833 b5857 b5858 ex5818 f5834 g5820 hTH5816 m5819 m5836 m5837 m5838 m5839 m5840 m5841 m5842 m5843 m5844 m5845 m5846 m5847 m5848 m5849 m5850 m5851 m5852 m5853 m5854 m5855 mf5856 p5859
      refine lv_aload_n hx hb dX10_image_57 rfl (lv_at hl 0 rfl) ?_
      refine lv_aload_n hx hb dX10_image_58 rfl (lv_at hl 0 rfl) ?_
      refine lv_aload_n hx hb dX10_image_59 rfl (lv_at hl 0 rfl) ?_
      refine x_gi C hTH5860 (ci := 10) (k := 3) rfl inX10 (by decide) wF_X10_7 ga0 rg_112 rfl dX10_image_60 (fun x5898 ex5898 bx5898 => ?_)
      have ux5898 : s3 = x5898 := (m5888).trans ex5898.symm
      subst ux5898
      refine x_V (As := [.int s3]) (rest := [.ref a0]) C (a_X10_kept l K G H5860 (s3) (x5818) (x1) hTH5860 ga0 giq m5875 m5896 m5893 g5862 (by and_intros <;> first | assumption | omega)) yo_X10_kept wM_X10_473 ⟨⟨by decide, by decide⟩, by decide, by decide⟩ (x_rv C hTH5860 (ci := 10) rfl ga0 rg_112) rfl hl.1 rfl (Nat.le_of_ble_eq_true rfl) dX10_image_63 hSH5860 (AE_sub (fun _ _ => rfl) (by decide) hSH5860.1) (fun vH5899 H5899 locsH5899 pH5899 zH5899 kH5899 hSH5899 => ?_)
      obtain ⟨x5900, x5901, hvH5899, ex5901, hrH5899, m5902, g5903, mf5904, m5905, m5906, m5907, m5908, hTH5899⟩ := pH5899
      subst hvH5899
      clear zH5899
      replace m5902 := EQN.mk m5902
      have b5909 : UN (x1.toInt ≠ 0) (fun k => fI H5899 q4 k) (fun k => fI s.heap q4 k) := UN.congr (fun j => fI_kept (x_lt hTH5860 kH5899 gq4 (by decide))) b5863
      have b5910 : UN (x1.toInt ≠ 0) (fun k => fI H5899 q16 k) (fun k => fI s.heap q16 k) := UN.congr (fun j => fI_kept (x_lt hTH5860 kH5899 gq16 (by decide))) b5864
      have b5911 : UN (x1.toInt ≠ 0) (fun k => fI H5899 q24 k) (fun k => fI s.heap q24 k) := UN.congr (fun j => fI_kept (x_lt hTH5860 kH5899 gq24 (by decide))) b5865
      have b5912 : UN (x1.toInt ≠ 0) (fun k => fI H5899 q29 k) (fun k => fI s.heap q29 k) := UN.congr (fun j => fI_kept (x_lt hTH5860 kH5899 gq29 (by decide))) b5866
      have b5913 : UN (x1.toInt ≠ 0) (fun k => fI H5899 q30 k) (fun k => fI s.heap q30 k) := UN.congr (fun j => fI_kept (x_lt hTH5860 kH5899 gq30 (by decide))) b5867
      have b5914 : UN (x1.toInt ≠ 0) (fun k => fI H5899 q31 k) (fun k => fI s.heap q31 k) := UN.congr (fun j => fI_kept (x_lt hTH5860 kH5899 gq31 (by decide))) b5868
      have b5915 : UN (x1.toInt ≠ 0) (fun k => fI H5899 q32 k) (fun k => fI s.heap q32 k) := UN.congr (fun j => fI_kept (x_lt hTH5860 kH5899 gq32 (by decide))) b5869
      have b5916 : UN (x1.toInt ≠ 0) (fun k => fI H5899 q33 k) (fun k => fI s.heap q33 k) := UN.congr (fun j => fI_kept (x_lt hTH5860 kH5899 gq33 (by decide))) b5870
      have f5917 : ∀ j : Nat, fI H5899 q4 j = fI s.heap q4 j := fun j => (fI_kept (x_lt hTH5860 kH5899 gq4 (by decide))).trans (f5874 j)
      have m5918 := (m5875).trans (MF.r mf5904 (k := 73) (by decide) (by decide)).symm
      have m5919 := (m5876).trans (MF.r mf5904 (k := 4) (by decide) (by decide)).symm
      have m5920 := (m5877).trans (MF.r mf5904 (k := 10) (by decide) (by decide)).symm
      have m5921 := (m5878).trans (MF.r mf5904 (k := 16) (by decide) (by decide)).symm
      have m5922 := (m5879).trans (MF.r mf5904 (k := 24) (by decide) (by decide)).symm
      have m5923 := (m5880).trans (MF.r mf5904 (k := 27) (by decide) (by decide)).symm
      have m5924 := (m5881).trans (MF.r mf5904 (k := 29) (by decide) (by decide)).symm
      have m5925 := (m5882).trans (MF.r mf5904 (k := 30) (by decide) (by decide)).symm
      have m5926 := (m5883).trans (MF.r mf5904 (k := 31) (by decide) (by decide)).symm
      have m5927 := (m5884).trans (MF.r mf5904 (k := 32) (by decide) (by decide)).symm
      have m5928 := (m5885).trans (MF.r mf5904 (k := 33) (by decide) (by decide)).symm
      have m5929 := (m5886).trans (MF.r mf5904 (k := 50) (by decide) (by decide)).symm
      have m5930 := (m5888).trans (MF.i mf5904 (k := 3) (by decide) (by decide)).symm
      have m5931 := (m5889).trans (MF.i mf5904 (k := 59) (by decide) (by decide)).symm
      have m5932 := (m5890).trans (MF.i mf5904 (k := 62) (by decide) (by decide)).symm
      have m5933 := (m5891).trans (MF.i mf5904 (k := 65) (by decide) (by decide)).symm
      have m5934 := (MF.i mf5904 (k := 0) (by decide) (by decide)).trans m5892
      have m5935 := (m5893).trans (MF.i mf5904 (k := 71) (by decide) (by decide)).symm
      have m5936 := (MF.i mf5904 (k := 70) (by decide) (by decide)).trans m5894
      have m5937 := (m5895).trans (MF.i mf5904 (k := 1) (by decide) (by decide)).symm
      have m5938 := (m5897).trans (MF.i mf5904 (k := 2) (by decide) (by decide)).symm
      have mf5939 : MF K s.heap H5899 a0 [0, 1, 2, 3, 59, 62, 65, 70, 71, 72] := MF.trans mf5861 mf5904 (by decide)
      have bx5901 := ty_fi (x := x5901) (k := 72) ex5901 hTH5899 ga0 rg_112 rfl
      have ce_x5818 := i_cl (x := x5818) (by omega)
      have b5940 : UN (x1.toInt = 0) (fun k => fI H5899 iq k) (fun k => fI s.heap iq k) := UN.tr m5908 b5871
      have b5941 : x5736 = fI H5899 iq (0) := (b5872).trans (m5907 _ (by omega)).symm
      have b5942 : x5817 = fI H5899 iq (1) := (b5873).trans (m5907 _ (by omega)).symm
      clear b5863 b5864 b5865 b5866 b5867 b5868 b5869 b5870 b5871 b5872 b5873 m5875 m5876 m5877 m5878 m5879 m5880 m5881 m5882 m5883 m5884 m5885 m5886 m5888 m5889 m5890 m5891 m5892 m5893 m5894 m5895 m5896 m5897
      clear m5907 m5908
      have p5943 : x5900 = fI H5899 iq (2) := by have h := m5905; rw [show x5818.toNatClampNeg = 2 by omega] at h; exact h
      refine W.eq (g2 := F0 m 66 ls [.int x5900, .ref a0]) rfl ?_
      refine x_put C hTH5899 hSH5899 (ci := 10) (k := 3) (v := .int x5900) (ty0 := tyX10) rfl inX10 tyX10_ok nmX10 (by decide) rfl wF_X10_7 ga0 rg_112 rfl rfl (okI (by have := i_rng x5900; omega) (by have := i_rng x5900; omega)) rfl rfl (AE_in ga0 (by decide)) dX10_image_66 (fun H5944 locsH5944 hTH5944 hSH5944 wH5944 => ?_)
      have mf5945 : MF K s.heap H5944 a0 [0, 1, 2, 3, 59, 62, 65, 70, 71, 72] := MF.fld hap wH5944 (by decide) (by decide) mf5939
      have g5946 : WD (avw K H5944 a0) := WD.congr (fun k hk j => av_fld hTH5899 ga0 hap wH5944 (by decide) (WD_ok 112 (by decide) k hk) (WD_ne 3 (by decide) k hk)) g5903
      have b5947 : UN (x1.toInt ≠ 0) (fun k => fI H5944 q4 k) (fun k => fI s.heap q4 k) := UN.congr (fun j => Wr.neI wH5944 (Or.inl (G_ne gq4 ga0 (by decide)))) b5909
      have b5948 : UN (x1.toInt ≠ 0) (fun k => fI H5944 q16 k) (fun k => fI s.heap q16 k) := UN.congr (fun j => Wr.neI wH5944 (Or.inl (G_ne gq16 ga0 (by decide)))) b5910
      have b5949 : UN (x1.toInt ≠ 0) (fun k => fI H5944 q24 k) (fun k => fI s.heap q24 k) := UN.congr (fun j => Wr.neI wH5944 (Or.inl (G_ne gq24 ga0 (by decide)))) b5911
      have b5950 : UN (x1.toInt ≠ 0) (fun k => fI H5944 q29 k) (fun k => fI s.heap q29 k) := UN.congr (fun j => Wr.neI wH5944 (Or.inl (G_ne gq29 ga0 (by decide)))) b5912
      have b5951 : UN (x1.toInt ≠ 0) (fun k => fI H5944 q30 k) (fun k => fI s.heap q30 k) := UN.congr (fun j => Wr.neI wH5944 (Or.inl (G_ne gq30 ga0 (by decide)))) b5913
      have b5952 : UN (x1.toInt ≠ 0) (fun k => fI H5944 q31 k) (fun k => fI s.heap q31 k) := UN.congr (fun j => Wr.neI wH5944 (Or.inl (G_ne gq31 ga0 (by decide)))) b5914
      have b5953 : UN (x1.toInt ≠ 0) (fun k => fI H5944 q32 k) (fun k => fI s.heap q32 k) := UN.congr (fun j => Wr.neI wH5944 (Or.inl (G_ne gq32 ga0 (by decide)))) b5915
      have b5954 : UN (x1.toInt ≠ 0) (fun k => fI H5944 q33 k) (fun k => fI s.heap q33 k) := UN.congr (fun j => Wr.neI wH5944 (Or.inl (G_ne gq33 ga0 (by decide)))) b5916
      have b5955 : UN (x1.toInt = 0) (fun k => fI H5944 iq k) (fun k => fI s.heap iq k) := UN.congr (fun j => Wr.neI wH5944 (Or.inl (G_ne giq ga0 (by decide)))) b5940
      have b5956 : x5736 = fI H5944 iq (0) := (b5941).trans (Wr.neI wH5944 (Or.inl (G_ne giq ga0 (by decide)))).symm
      have b5957 : x5817 = fI H5944 iq (1) := (b5942).trans (Wr.neI wH5944 (Or.inl (G_ne giq ga0 (by decide)))).symm
      have b5958 : x5900 = fI H5944 iq (2) := (p5943).trans (Wr.neI wH5944 (Or.inl (G_ne giq ga0 (by decide)))).symm
      have f5959 : ∀ j : Nat, fI H5944 q4 j = fI s.heap q4 j := fun j => (Wr.neI wH5944 (Or.inl (G_ne gq4 ga0 (by decide)))).trans (f5917 j)
      have m5960 := m5902.trans (Wr.neR wH5944 (Or.inr (x_apart hKT hts inX10 tyX10 tyX10_ok nmX10 rfl 73 3 (by decide) (by decide) (by decide)))).symm
      have m5961 := m5919.trans (Wr.neR wH5944 (Or.inr (x_apart hKT hts inX10 tyX10 tyX10_ok nmX10 rfl 4 3 (by decide) (by decide) (by decide)))).symm
      have m5962 := m5920.trans (Wr.neR wH5944 (Or.inr (x_apart hKT hts inX10 tyX10 tyX10_ok nmX10 rfl 10 3 (by decide) (by decide) (by decide)))).symm
      have m5963 := m5921.trans (Wr.neR wH5944 (Or.inr (x_apart hKT hts inX10 tyX10 tyX10_ok nmX10 rfl 16 3 (by decide) (by decide) (by decide)))).symm
      have m5964 := m5922.trans (Wr.neR wH5944 (Or.inr (x_apart hKT hts inX10 tyX10 tyX10_ok nmX10 rfl 24 3 (by decide) (by decide) (by decide)))).symm
      have m5965 := m5923.trans (Wr.neR wH5944 (Or.inr (x_apart hKT hts inX10 tyX10 tyX10_ok nmX10 rfl 27 3 (by decide) (by decide) (by decide)))).symm
      have m5966 := m5924.trans (Wr.neR wH5944 (Or.inr (x_apart hKT hts inX10 tyX10 tyX10_ok nmX10 rfl 29 3 (by decide) (by decide) (by decide)))).symm
      have m5967 := m5925.trans (Wr.neR wH5944 (Or.inr (x_apart hKT hts inX10 tyX10 tyX10_ok nmX10 rfl 30 3 (by decide) (by decide) (by decide)))).symm
      have m5968 := m5926.trans (Wr.neR wH5944 (Or.inr (x_apart hKT hts inX10 tyX10 tyX10_ok nmX10 rfl 31 3 (by decide) (by decide) (by decide)))).symm
      have m5969 := m5927.trans (Wr.neR wH5944 (Or.inr (x_apart hKT hts inX10 tyX10 tyX10_ok nmX10 rfl 32 3 (by decide) (by decide) (by decide)))).symm
      have m5970 := m5928.trans (Wr.neR wH5944 (Or.inr (x_apart hKT hts inX10 tyX10 tyX10_ok nmX10 rfl 33 3 (by decide) (by decide) (by decide)))).symm
      have m5971 := m5929.trans (Wr.neR wH5944 (Or.inr (x_apart hKT hts inX10 tyX10 tyX10_ok nmX10 rfl 50 3 (by decide) (by decide) (by decide)))).symm
      have m5973 := m5931.trans (Wr.neI wH5944 (Or.inr (x_apart hKT hts inX10 tyX10 tyX10_ok nmX10 rfl 59 3 (by decide) (by decide) (by decide)))).symm
      have m5974 := m5932.trans (Wr.neI wH5944 (Or.inr (x_apart hKT hts inX10 tyX10 tyX10_ok nmX10 rfl 62 3 (by decide) (by decide) (by decide)))).symm
      have m5975 := m5933.trans (Wr.neI wH5944 (Or.inr (x_apart hKT hts inX10 tyX10 tyX10_ok nmX10 rfl 65 3 (by decide) (by decide) (by decide)))).symm
      have m5976 := (Wr.neI wH5944 (Or.inr (x_apart hKT hts inX10 tyX10 tyX10_ok nmX10 rfl 0 3 (by decide) (by decide) (by decide)))).trans m5934
      have m5977 := m5935.trans (Wr.neI wH5944 (Or.inr (x_apart hKT hts inX10 tyX10 tyX10_ok nmX10 rfl 71 3 (by decide) (by decide) (by decide)))).symm
      have m5978 := (Wr.neI wH5944 (Or.inr (x_apart hKT hts inX10 tyX10 tyX10_ok nmX10 rfl 70 3 (by decide) (by decide) (by decide)))).trans m5936
      have m5979 := m5937.trans (Wr.neI wH5944 (Or.inr (x_apart hKT hts inX10 tyX10 tyX10_ok nmX10 rfl 1 3 (by decide) (by decide) (by decide)))).symm
      have m5980 := m5938.trans (Wr.neI wH5944 (Or.inr (x_apart hKT hts inX10 tyX10 tyX10_ok nmX10 rfl 2 3 (by decide) (by decide) (by decide)))).symm
      have m5981 := ex5901.trans (Wr.neI wH5944 (Or.inr (x_apart hKT hts inX10 tyX10 tyX10_ok nmX10 rfl 72 3 (by decide) (by decide) (by decide)))).symm
      have m5982 := Wr.I wH5944
      have m5982 := m5982.symm
      clear b5909 b5910 b5911 b5912 b5913 b5914 b5915 b5916 b5940 b5941 b5942 ex5901 f5917 g5903 hTH5899 m5902 m5919 m5920 m5921 m5922 m5923 m5924 m5925 m5926 m5927 m5928 m5929 m5930 m5931 m5932 m5933 m5934 m5935 m5936 m5937 m5938 mf5939 p5943
      refine lv_aload_n hx hb dX10_image_69 rfl (lv_at hl 0 rfl) ?_
      refine lv_aload_n hx hb dX10_image_70 rfl (lv_at hl 0 rfl) ?_
      refine lv_aload_n hx hb dX10_image_71 rfl (lv_at hl 0 rfl) ?_
      refine x_gi C hTH5944 (ci := 10) (k := 59) rfl inX10 (by decide) wF_X10_438 ga0 rg_112 rfl dX10_image_72 (fun x5983 ex5983 bx5983 => ?_)
      have ux5983 : s59 = x5983 := (m5973).trans ex5983.symm
      subst ux5983
      refine x_V (As := [.int s59]) (rest := [.ref a0]) C (a_X10_kept l K G H5944 (s59) (x5901) (x1) hTH5944 ga0 giq m5960 m5981 m5977 g5946 (by and_intros <;> first | assumption | omega)) yo_X10_kept wM_X10_473 ⟨⟨by decide, by decide⟩, by decide, by decide⟩ (x_rv C hTH5944 (ci := 10) rfl ga0 rg_112) rfl hl.1 rfl (Nat.le_of_ble_eq_true rfl) dX10_image_75 hSH5944 (AE_sub (fun _ _ => rfl) (by decide) hSH5944.1) (fun vH5984 H5984 locsH5984 pH5984 zH5984 kH5984 hSH5984 => ?_)
      obtain ⟨x5985, x5986, hvH5984, ex5986, hrH5984, m5987, g5988, mf5989, m5990, m5991, m5992, m5993, hTH5984⟩ := pH5984
      subst hvH5984
      clear zH5984
      replace m5987 := EQN.mk m5987
      have b5994 : UN (x1.toInt ≠ 0) (fun k => fI H5984 q4 k) (fun k => fI s.heap q4 k) := UN.congr (fun j => fI_kept (x_lt hTH5944 kH5984 gq4 (by decide))) b5947
      have b5995 : UN (x1.toInt ≠ 0) (fun k => fI H5984 q16 k) (fun k => fI s.heap q16 k) := UN.congr (fun j => fI_kept (x_lt hTH5944 kH5984 gq16 (by decide))) b5948
      have b5996 : UN (x1.toInt ≠ 0) (fun k => fI H5984 q24 k) (fun k => fI s.heap q24 k) := UN.congr (fun j => fI_kept (x_lt hTH5944 kH5984 gq24 (by decide))) b5949
      have b5997 : UN (x1.toInt ≠ 0) (fun k => fI H5984 q29 k) (fun k => fI s.heap q29 k) := UN.congr (fun j => fI_kept (x_lt hTH5944 kH5984 gq29 (by decide))) b5950
      have b5998 : UN (x1.toInt ≠ 0) (fun k => fI H5984 q30 k) (fun k => fI s.heap q30 k) := UN.congr (fun j => fI_kept (x_lt hTH5944 kH5984 gq30 (by decide))) b5951
      have b5999 : UN (x1.toInt ≠ 0) (fun k => fI H5984 q31 k) (fun k => fI s.heap q31 k) := UN.congr (fun j => fI_kept (x_lt hTH5944 kH5984 gq31 (by decide))) b5952
      have b6000 : UN (x1.toInt ≠ 0) (fun k => fI H5984 q32 k) (fun k => fI s.heap q32 k) := UN.congr (fun j => fI_kept (x_lt hTH5944 kH5984 gq32 (by decide))) b5953
      have b6001 : UN (x1.toInt ≠ 0) (fun k => fI H5984 q33 k) (fun k => fI s.heap q33 k) := UN.congr (fun j => fI_kept (x_lt hTH5944 kH5984 gq33 (by decide))) b5954
      have f6002 : ∀ j : Nat, fI H5984 q4 j = fI s.heap q4 j := fun j => (fI_kept (x_lt hTH5944 kH5984 gq4 (by decide))).trans (f5959 j)
      have m6003 := (m5960).trans (MF.r mf5989 (k := 73) (by decide) (by decide)).symm
      have m6004 := (m5961).trans (MF.r mf5989 (k := 4) (by decide) (by decide)).symm
      have m6005 := (m5962).trans (MF.r mf5989 (k := 10) (by decide) (by decide)).symm
      have m6006 := (m5963).trans (MF.r mf5989 (k := 16) (by decide) (by decide)).symm
      have m6007 := (m5964).trans (MF.r mf5989 (k := 24) (by decide) (by decide)).symm
      have m6008 := (m5965).trans (MF.r mf5989 (k := 27) (by decide) (by decide)).symm
      have m6009 := (m5966).trans (MF.r mf5989 (k := 29) (by decide) (by decide)).symm
      have m6010 := (m5967).trans (MF.r mf5989 (k := 30) (by decide) (by decide)).symm
      have m6011 := (m5968).trans (MF.r mf5989 (k := 31) (by decide) (by decide)).symm
      have m6012 := (m5969).trans (MF.r mf5989 (k := 32) (by decide) (by decide)).symm
      have m6013 := (m5970).trans (MF.r mf5989 (k := 33) (by decide) (by decide)).symm
      have m6014 := (m5971).trans (MF.r mf5989 (k := 50) (by decide) (by decide)).symm
      have m6015 := (m5973).trans (MF.i mf5989 (k := 59) (by decide) (by decide)).symm
      have m6016 := (m5974).trans (MF.i mf5989 (k := 62) (by decide) (by decide)).symm
      have m6017 := (m5975).trans (MF.i mf5989 (k := 65) (by decide) (by decide)).symm
      have m6018 := (MF.i mf5989 (k := 0) (by decide) (by decide)).trans m5976
      have m6019 := (m5977).trans (MF.i mf5989 (k := 71) (by decide) (by decide)).symm
      have m6020 := (MF.i mf5989 (k := 70) (by decide) (by decide)).trans m5978
      have m6021 := (m5979).trans (MF.i mf5989 (k := 1) (by decide) (by decide)).symm
      have m6022 := (m5980).trans (MF.i mf5989 (k := 2) (by decide) (by decide)).symm
      have m6023 := (m5982).trans (MF.i mf5989 (k := 3) (by decide) (by decide)).symm
      have mf6024 : MF K s.heap H5984 a0 [0, 1, 2, 3, 59, 62, 65, 70, 71, 72] := MF.trans mf5945 mf5989 (by decide)
      have bx5986 := ty_fi (x := x5986) (k := 72) ex5986 hTH5984 ga0 rg_112 rfl
      have ce_x5901 := i_cl (x := x5901) (by omega)
      have b6025 : UN (x1.toInt = 0) (fun k => fI H5984 iq k) (fun k => fI s.heap iq k) := UN.tr m5993 b5955
      have b6026 : x5736 = fI H5984 iq (0) := (b5956).trans (m5992 _ (by omega)).symm
      have b6027 : x5817 = fI H5984 iq (1) := (b5957).trans (m5992 _ (by omega)).symm
      have b6028 : x5900 = fI H5984 iq (2) := (b5958).trans (m5992 _ (by omega)).symm
      clear b5947 b5948 b5949 b5950 b5951 b5952 b5953 b5954 b5955 b5956 b5957 b5958 m5960 m5961 m5962 m5963 m5964 m5965 m5966 m5967 m5968 m5969 m5970 m5971 m5973 m5974 m5975 m5976 m5977 m5978 m5979 m5980 m5981 m5982
      clear m5992 m5993
      have bx5985 : 0 ≤ x5985.toInt ∧ x5985.toInt ≤ 20 := kr (fun h0 => by have hiw := hIW; exact kr0 (w := fun k => fI H5984 iq k) m5990 (p := 3) (by omega) (b6025 h0) (hiw.1.2.2.1)) m5991 (by omega)
      have p6029 : x5985 = fI H5984 iq (3) := by have h := m5990; rw [show x5901.toNatClampNeg = 3 by omega] at h; exact h
      refine W.eq (g2 := F0 m 78 ls [.int x5985, .ref a0]) rfl ?_
      refine x_put C hTH5984 hSH5984 (ci := 10) (k := 59) (v := .int x5985) (ty0 := tyX10) rfl inX10 tyX10_ok nmX10 (by decide) rfl wF_X10_438 ga0 rg_112 rfl rfl (okI (by have := i_rng x5985; omega) (by have := i_rng x5985; omega)) rfl rfl (AE_in ga0 (by decide)) dX10_image_78 (fun H6030 locsH6030 hTH6030 hSH6030 wH6030 => ?_)
      have mf6031 : MF K s.heap H6030 a0 [0, 1, 2, 3, 59, 62, 65, 70, 71, 72] := MF.fld hap wH6030 (by decide) (by decide) mf6024
      have g6032 : WD (avw K H6030 a0) := WD.congr (fun k hk j => av_fld hTH5984 ga0 hap wH6030 (by decide) (WD_ok 112 (by decide) k hk) (WD_ne 59 (by decide) k hk)) g5988
      have b6033 : UN (x1.toInt ≠ 0) (fun k => fI H6030 q4 k) (fun k => fI s.heap q4 k) := UN.congr (fun j => Wr.neI wH6030 (Or.inl (G_ne gq4 ga0 (by decide)))) b5994
      have b6034 : UN (x1.toInt ≠ 0) (fun k => fI H6030 q16 k) (fun k => fI s.heap q16 k) := UN.congr (fun j => Wr.neI wH6030 (Or.inl (G_ne gq16 ga0 (by decide)))) b5995
      have b6035 : UN (x1.toInt ≠ 0) (fun k => fI H6030 q24 k) (fun k => fI s.heap q24 k) := UN.congr (fun j => Wr.neI wH6030 (Or.inl (G_ne gq24 ga0 (by decide)))) b5996
      have b6036 : UN (x1.toInt ≠ 0) (fun k => fI H6030 q29 k) (fun k => fI s.heap q29 k) := UN.congr (fun j => Wr.neI wH6030 (Or.inl (G_ne gq29 ga0 (by decide)))) b5997
      have b6037 : UN (x1.toInt ≠ 0) (fun k => fI H6030 q30 k) (fun k => fI s.heap q30 k) := UN.congr (fun j => Wr.neI wH6030 (Or.inl (G_ne gq30 ga0 (by decide)))) b5998
      have b6038 : UN (x1.toInt ≠ 0) (fun k => fI H6030 q31 k) (fun k => fI s.heap q31 k) := UN.congr (fun j => Wr.neI wH6030 (Or.inl (G_ne gq31 ga0 (by decide)))) b5999
      have b6039 : UN (x1.toInt ≠ 0) (fun k => fI H6030 q32 k) (fun k => fI s.heap q32 k) := UN.congr (fun j => Wr.neI wH6030 (Or.inl (G_ne gq32 ga0 (by decide)))) b6000
      have b6040 : UN (x1.toInt ≠ 0) (fun k => fI H6030 q33 k) (fun k => fI s.heap q33 k) := UN.congr (fun j => Wr.neI wH6030 (Or.inl (G_ne gq33 ga0 (by decide)))) b6001
      have b6041 : UN (x1.toInt = 0) (fun k => fI H6030 iq k) (fun k => fI s.heap iq k) := UN.congr (fun j => Wr.neI wH6030 (Or.inl (G_ne giq ga0 (by decide)))) b6025
      have b6042 : x5736 = fI H6030 iq (0) := (b6026).trans (Wr.neI wH6030 (Or.inl (G_ne giq ga0 (by decide)))).symm
      have b6043 : x5817 = fI H6030 iq (1) := (b6027).trans (Wr.neI wH6030 (Or.inl (G_ne giq ga0 (by decide)))).symm
      have b6044 : x5900 = fI H6030 iq (2) := (b6028).trans (Wr.neI wH6030 (Or.inl (G_ne giq ga0 (by decide)))).symm
      have b6045 : x5985 = fI H6030 iq (3) := (p6029).trans (Wr.neI wH6030 (Or.inl (G_ne giq ga0 (by decide)))).symm
      have f6046 : ∀ j : Nat, fI H6030 q4 j = fI s.heap q4 j := fun j => (Wr.neI wH6030 (Or.inl (G_ne gq4 ga0 (by decide)))).trans (f6002 j)
      have m6047 := m5987.trans (Wr.neR wH6030 (Or.inr (x_apart hKT hts inX10 tyX10 tyX10_ok nmX10 rfl 73 59 (by decide) (by decide) (by decide)))).symm
      have m6048 := m6004.trans (Wr.neR wH6030 (Or.inr (x_apart hKT hts inX10 tyX10 tyX10_ok nmX10 rfl 4 59 (by decide) (by decide) (by decide)))).symm
      have m6049 := m6005.trans (Wr.neR wH6030 (Or.inr (x_apart hKT hts inX10 tyX10 tyX10_ok nmX10 rfl 10 59 (by decide) (by decide) (by decide)))).symm
      have m6050 := m6006.trans (Wr.neR wH6030 (Or.inr (x_apart hKT hts inX10 tyX10 tyX10_ok nmX10 rfl 16 59 (by decide) (by decide) (by decide)))).symm
      have m6051 := m6007.trans (Wr.neR wH6030 (Or.inr (x_apart hKT hts inX10 tyX10 tyX10_ok nmX10 rfl 24 59 (by decide) (by decide) (by decide)))).symm
      have m6052 := m6008.trans (Wr.neR wH6030 (Or.inr (x_apart hKT hts inX10 tyX10 tyX10_ok nmX10 rfl 27 59 (by decide) (by decide) (by decide)))).symm
      have m6053 := m6009.trans (Wr.neR wH6030 (Or.inr (x_apart hKT hts inX10 tyX10 tyX10_ok nmX10 rfl 29 59 (by decide) (by decide) (by decide)))).symm
      have m6054 := m6010.trans (Wr.neR wH6030 (Or.inr (x_apart hKT hts inX10 tyX10 tyX10_ok nmX10 rfl 30 59 (by decide) (by decide) (by decide)))).symm
      have m6055 := m6011.trans (Wr.neR wH6030 (Or.inr (x_apart hKT hts inX10 tyX10 tyX10_ok nmX10 rfl 31 59 (by decide) (by decide) (by decide)))).symm
      have m6056 := m6012.trans (Wr.neR wH6030 (Or.inr (x_apart hKT hts inX10 tyX10 tyX10_ok nmX10 rfl 32 59 (by decide) (by decide) (by decide)))).symm
      have m6057 := m6013.trans (Wr.neR wH6030 (Or.inr (x_apart hKT hts inX10 tyX10 tyX10_ok nmX10 rfl 33 59 (by decide) (by decide) (by decide)))).symm
      have m6058 := m6014.trans (Wr.neR wH6030 (Or.inr (x_apart hKT hts inX10 tyX10 tyX10_ok nmX10 rfl 50 59 (by decide) (by decide) (by decide)))).symm
      have m6060 := m6016.trans (Wr.neI wH6030 (Or.inr (x_apart hKT hts inX10 tyX10 tyX10_ok nmX10 rfl 62 59 (by decide) (by decide) (by decide)))).symm
      have m6061 := m6017.trans (Wr.neI wH6030 (Or.inr (x_apart hKT hts inX10 tyX10 tyX10_ok nmX10 rfl 65 59 (by decide) (by decide) (by decide)))).symm
      have m6062 := (Wr.neI wH6030 (Or.inr (x_apart hKT hts inX10 tyX10 tyX10_ok nmX10 rfl 0 59 (by decide) (by decide) (by decide)))).trans m6018
      have m6063 := m6019.trans (Wr.neI wH6030 (Or.inr (x_apart hKT hts inX10 tyX10 tyX10_ok nmX10 rfl 71 59 (by decide) (by decide) (by decide)))).symm
      have m6064 := (Wr.neI wH6030 (Or.inr (x_apart hKT hts inX10 tyX10 tyX10_ok nmX10 rfl 70 59 (by decide) (by decide) (by decide)))).trans m6020
      have m6065 := m6021.trans (Wr.neI wH6030 (Or.inr (x_apart hKT hts inX10 tyX10 tyX10_ok nmX10 rfl 1 59 (by decide) (by decide) (by decide)))).symm
      have m6066 := m6022.trans (Wr.neI wH6030 (Or.inr (x_apart hKT hts inX10 tyX10 tyX10_ok nmX10 rfl 2 59 (by decide) (by decide) (by decide)))).symm
      have m6067 := m6023.trans (Wr.neI wH6030 (Or.inr (x_apart hKT hts inX10 tyX10 tyX10_ok nmX10 rfl 3 59 (by decide) (by decide) (by decide)))).symm
      have m6068 := ex5986.trans (Wr.neI wH6030 (Or.inr (x_apart hKT hts inX10 tyX10 tyX10_ok nmX10 rfl 72 59 (by decide) (by decide) (by decide)))).symm
      have m6069 := Wr.I wH6030
      have m6069 := m6069.symm
      clear b5994 b5995 b5996 b5997 b5998 b5999 b6000 b6001 b6025 b6026 b6027 b6028 ex5986 f6002 g5988 hTH5984 m5987 m6004 m6005 m6006 m6007 m6008 m6009 m6010 m6011 m6012 m6013 m6014 m6015 m6016 m6017 m6018 m6019 m6020 m6021 m6022 m6023 mf6024 p6029
      refine lv_aload_n hx hb dX10_image_81 rfl (lv_at hl 0 rfl) ?_
      refine lv_aload_n hx hb dX10_image_82 rfl (lv_at hl 0 rfl) ?_
      refine lv_aload_n hx hb dX10_image_83 rfl (lv_at hl 0 rfl) ?_
      refine x_gi C hTH6030 (ci := 10) (k := 62) rfl inX10 (by decide) wF_X10_455 ga0 rg_112 rfl dX10_image_84 (fun x6070 ex6070 bx6070 => ?_)
      have ux6070 : s62 = x6070 := (m6060).trans ex6070.symm
      subst ux6070
      refine x_V (As := [.int s62]) (rest := [.ref a0]) C (a_X10_kept l K G H6030 (s62) (x5986) (x1) hTH6030 ga0 giq m6047 m6068 m6063 g6032 (by and_intros <;> first | assumption | omega)) yo_X10_kept wM_X10_473 ⟨⟨by decide, by decide⟩, by decide, by decide⟩ (x_rv C hTH6030 (ci := 10) rfl ga0 rg_112) rfl hl.1 rfl (Nat.le_of_ble_eq_true rfl) dX10_image_87 hSH6030 (AE_sub (fun _ _ => rfl) (by decide) hSH6030.1) (fun vH6071 H6071 locsH6071 pH6071 zH6071 kH6071 hSH6071 => ?_)
      obtain ⟨x6072, x6073, hvH6071, ex6073, hrH6071, m6074, g6075, mf6076, m6077, m6078, m6079, m6080, hTH6071⟩ := pH6071
      subst hvH6071
      clear zH6071
      replace m6074 := EQN.mk m6074
      have b6081 : UN (x1.toInt ≠ 0) (fun k => fI H6071 q4 k) (fun k => fI s.heap q4 k) := UN.congr (fun j => fI_kept (x_lt hTH6030 kH6071 gq4 (by decide))) b6033
      have b6082 : UN (x1.toInt ≠ 0) (fun k => fI H6071 q16 k) (fun k => fI s.heap q16 k) := UN.congr (fun j => fI_kept (x_lt hTH6030 kH6071 gq16 (by decide))) b6034
      have b6083 : UN (x1.toInt ≠ 0) (fun k => fI H6071 q24 k) (fun k => fI s.heap q24 k) := UN.congr (fun j => fI_kept (x_lt hTH6030 kH6071 gq24 (by decide))) b6035
      have b6084 : UN (x1.toInt ≠ 0) (fun k => fI H6071 q29 k) (fun k => fI s.heap q29 k) := UN.congr (fun j => fI_kept (x_lt hTH6030 kH6071 gq29 (by decide))) b6036
      have b6085 : UN (x1.toInt ≠ 0) (fun k => fI H6071 q30 k) (fun k => fI s.heap q30 k) := UN.congr (fun j => fI_kept (x_lt hTH6030 kH6071 gq30 (by decide))) b6037
      have b6086 : UN (x1.toInt ≠ 0) (fun k => fI H6071 q31 k) (fun k => fI s.heap q31 k) := UN.congr (fun j => fI_kept (x_lt hTH6030 kH6071 gq31 (by decide))) b6038
      have b6087 : UN (x1.toInt ≠ 0) (fun k => fI H6071 q32 k) (fun k => fI s.heap q32 k) := UN.congr (fun j => fI_kept (x_lt hTH6030 kH6071 gq32 (by decide))) b6039
      have b6088 : UN (x1.toInt ≠ 0) (fun k => fI H6071 q33 k) (fun k => fI s.heap q33 k) := UN.congr (fun j => fI_kept (x_lt hTH6030 kH6071 gq33 (by decide))) b6040
      have f6089 : ∀ j : Nat, fI H6071 q4 j = fI s.heap q4 j := fun j => (fI_kept (x_lt hTH6030 kH6071 gq4 (by decide))).trans (f6046 j)
      have m6090 := (m6047).trans (MF.r mf6076 (k := 73) (by decide) (by decide)).symm
      have m6091 := (m6048).trans (MF.r mf6076 (k := 4) (by decide) (by decide)).symm
      have m6092 := (m6049).trans (MF.r mf6076 (k := 10) (by decide) (by decide)).symm
      have m6093 := (m6050).trans (MF.r mf6076 (k := 16) (by decide) (by decide)).symm
      have m6094 := (m6051).trans (MF.r mf6076 (k := 24) (by decide) (by decide)).symm
      have m6095 := (m6052).trans (MF.r mf6076 (k := 27) (by decide) (by decide)).symm
      have m6096 := (m6053).trans (MF.r mf6076 (k := 29) (by decide) (by decide)).symm
      have m6097 := (m6054).trans (MF.r mf6076 (k := 30) (by decide) (by decide)).symm
      have m6098 := (m6055).trans (MF.r mf6076 (k := 31) (by decide) (by decide)).symm
      have m6099 := (m6056).trans (MF.r mf6076 (k := 32) (by decide) (by decide)).symm
      have m6100 := (m6057).trans (MF.r mf6076 (k := 33) (by decide) (by decide)).symm
      have m6101 := (m6058).trans (MF.r mf6076 (k := 50) (by decide) (by decide)).symm
      have m6102 := (m6060).trans (MF.i mf6076 (k := 62) (by decide) (by decide)).symm
      have m6103 := (m6061).trans (MF.i mf6076 (k := 65) (by decide) (by decide)).symm
      have m6104 := (MF.i mf6076 (k := 0) (by decide) (by decide)).trans m6062
      have m6105 := (m6063).trans (MF.i mf6076 (k := 71) (by decide) (by decide)).symm
      have m6106 := (MF.i mf6076 (k := 70) (by decide) (by decide)).trans m6064
      have m6107 := (m6065).trans (MF.i mf6076 (k := 1) (by decide) (by decide)).symm
      have m6108 := (m6066).trans (MF.i mf6076 (k := 2) (by decide) (by decide)).symm
      have m6109 := (m6067).trans (MF.i mf6076 (k := 3) (by decide) (by decide)).symm
      have m6110 := (m6069).trans (MF.i mf6076 (k := 59) (by decide) (by decide)).symm
      have mf6111 : MF K s.heap H6071 a0 [0, 1, 2, 3, 59, 62, 65, 70, 71, 72] := MF.trans mf6031 mf6076 (by decide)
      have bx6073 := ty_fi (x := x6073) (k := 72) ex6073 hTH6071 ga0 rg_112 rfl
      have ce_x5986 := i_cl (x := x5986) (by omega)
      have b6112 : UN (x1.toInt = 0) (fun k => fI H6071 iq k) (fun k => fI s.heap iq k) := UN.tr m6080 b6041
      have b6113 : x5736 = fI H6071 iq (0) := (b6042).trans (m6079 _ (by omega)).symm
      have b6114 : x5817 = fI H6071 iq (1) := (b6043).trans (m6079 _ (by omega)).symm
      have b6115 : x5900 = fI H6071 iq (2) := (b6044).trans (m6079 _ (by omega)).symm
      have b6116 : x5985 = fI H6071 iq (3) := (b6045).trans (m6079 _ (by omega)).symm
      clear b6033 b6034 b6035 b6036 b6037 b6038 b6039 b6040 b6041 b6042 b6043 b6044 b6045 m6047 m6048 m6049 m6050 m6051 m6052 m6053 m6054 m6055 m6056 m6057 m6058 m6060 m6061 m6062 m6063 m6064 m6065 m6066 m6067 m6068 m6069
      clear m6079 m6080
      have bx6072 : 0 ≤ x6072.toInt ∧ x6072.toInt ≤ 8 := kr (fun h0 => by have hiw := hIW; exact kr0 (w := fun k => fI H6071 iq k) m6077 (p := 4) (by omega) (b6112 h0) (hiw.1.2.2.2.1)) m6078 (by omega)
      have p6117 : x6072 = fI H6071 iq (4) := by have h := m6077; rw [show x5986.toNatClampNeg = 4 by omega] at h; exact h
      refine W.eq (g2 := F0 m 90 ls [.int x6072, .ref a0]) rfl ?_
      refine x_put C hTH6071 hSH6071 (ci := 10) (k := 62) (v := .int x6072) (ty0 := tyX10) rfl inX10 tyX10_ok nmX10 (by decide) rfl wF_X10_455 ga0 rg_112 rfl rfl (okI (by have := i_rng x6072; omega) (by have := i_rng x6072; omega)) rfl rfl (AE_in ga0 (by decide)) dX10_image_90 (fun H6118 locsH6118 hTH6118 hSH6118 wH6118 => ?_)
      have mf6119 : MF K s.heap H6118 a0 [0, 1, 2, 3, 59, 62, 65, 70, 71, 72] := MF.fld hap wH6118 (by decide) (by decide) mf6111
      have g6120 : WD (avw K H6118 a0) := WD.congr (fun k hk j => av_fld hTH6071 ga0 hap wH6118 (by decide) (WD_ok 112 (by decide) k hk) (WD_ne 62 (by decide) k hk)) g6075
      have b6121 : UN (x1.toInt ≠ 0) (fun k => fI H6118 q4 k) (fun k => fI s.heap q4 k) := UN.congr (fun j => Wr.neI wH6118 (Or.inl (G_ne gq4 ga0 (by decide)))) b6081
      have b6122 : UN (x1.toInt ≠ 0) (fun k => fI H6118 q16 k) (fun k => fI s.heap q16 k) := UN.congr (fun j => Wr.neI wH6118 (Or.inl (G_ne gq16 ga0 (by decide)))) b6082
      have b6123 : UN (x1.toInt ≠ 0) (fun k => fI H6118 q24 k) (fun k => fI s.heap q24 k) := UN.congr (fun j => Wr.neI wH6118 (Or.inl (G_ne gq24 ga0 (by decide)))) b6083
      have b6124 : UN (x1.toInt ≠ 0) (fun k => fI H6118 q29 k) (fun k => fI s.heap q29 k) := UN.congr (fun j => Wr.neI wH6118 (Or.inl (G_ne gq29 ga0 (by decide)))) b6084
      have b6125 : UN (x1.toInt ≠ 0) (fun k => fI H6118 q30 k) (fun k => fI s.heap q30 k) := UN.congr (fun j => Wr.neI wH6118 (Or.inl (G_ne gq30 ga0 (by decide)))) b6085
      have b6126 : UN (x1.toInt ≠ 0) (fun k => fI H6118 q31 k) (fun k => fI s.heap q31 k) := UN.congr (fun j => Wr.neI wH6118 (Or.inl (G_ne gq31 ga0 (by decide)))) b6086
      have b6127 : UN (x1.toInt ≠ 0) (fun k => fI H6118 q32 k) (fun k => fI s.heap q32 k) := UN.congr (fun j => Wr.neI wH6118 (Or.inl (G_ne gq32 ga0 (by decide)))) b6087
      have b6128 : UN (x1.toInt ≠ 0) (fun k => fI H6118 q33 k) (fun k => fI s.heap q33 k) := UN.congr (fun j => Wr.neI wH6118 (Or.inl (G_ne gq33 ga0 (by decide)))) b6088
      have b6129 : UN (x1.toInt = 0) (fun k => fI H6118 iq k) (fun k => fI s.heap iq k) := UN.congr (fun j => Wr.neI wH6118 (Or.inl (G_ne giq ga0 (by decide)))) b6112
      have b6130 : x5736 = fI H6118 iq (0) := (b6113).trans (Wr.neI wH6118 (Or.inl (G_ne giq ga0 (by decide)))).symm
      have b6131 : x5817 = fI H6118 iq (1) := (b6114).trans (Wr.neI wH6118 (Or.inl (G_ne giq ga0 (by decide)))).symm
      have b6132 : x5900 = fI H6118 iq (2) := (b6115).trans (Wr.neI wH6118 (Or.inl (G_ne giq ga0 (by decide)))).symm
      have b6133 : x5985 = fI H6118 iq (3) := (b6116).trans (Wr.neI wH6118 (Or.inl (G_ne giq ga0 (by decide)))).symm
      have b6134 : x6072 = fI H6118 iq (4) := (p6117).trans (Wr.neI wH6118 (Or.inl (G_ne giq ga0 (by decide)))).symm
      have f6135 : ∀ j : Nat, fI H6118 q4 j = fI s.heap q4 j := fun j => (Wr.neI wH6118 (Or.inl (G_ne gq4 ga0 (by decide)))).trans (f6089 j)
      have m6136 := m6074.trans (Wr.neR wH6118 (Or.inr (x_apart hKT hts inX10 tyX10 tyX10_ok nmX10 rfl 73 62 (by decide) (by decide) (by decide)))).symm
      have m6137 := m6091.trans (Wr.neR wH6118 (Or.inr (x_apart hKT hts inX10 tyX10 tyX10_ok nmX10 rfl 4 62 (by decide) (by decide) (by decide)))).symm
      have m6138 := m6092.trans (Wr.neR wH6118 (Or.inr (x_apart hKT hts inX10 tyX10 tyX10_ok nmX10 rfl 10 62 (by decide) (by decide) (by decide)))).symm
      have m6139 := m6093.trans (Wr.neR wH6118 (Or.inr (x_apart hKT hts inX10 tyX10 tyX10_ok nmX10 rfl 16 62 (by decide) (by decide) (by decide)))).symm
      have m6140 := m6094.trans (Wr.neR wH6118 (Or.inr (x_apart hKT hts inX10 tyX10 tyX10_ok nmX10 rfl 24 62 (by decide) (by decide) (by decide)))).symm
      have m6141 := m6095.trans (Wr.neR wH6118 (Or.inr (x_apart hKT hts inX10 tyX10 tyX10_ok nmX10 rfl 27 62 (by decide) (by decide) (by decide)))).symm
      have m6142 := m6096.trans (Wr.neR wH6118 (Or.inr (x_apart hKT hts inX10 tyX10 tyX10_ok nmX10 rfl 29 62 (by decide) (by decide) (by decide)))).symm
      have m6143 := m6097.trans (Wr.neR wH6118 (Or.inr (x_apart hKT hts inX10 tyX10 tyX10_ok nmX10 rfl 30 62 (by decide) (by decide) (by decide)))).symm
      have m6144 := m6098.trans (Wr.neR wH6118 (Or.inr (x_apart hKT hts inX10 tyX10 tyX10_ok nmX10 rfl 31 62 (by decide) (by decide) (by decide)))).symm
      have m6145 := m6099.trans (Wr.neR wH6118 (Or.inr (x_apart hKT hts inX10 tyX10 tyX10_ok nmX10 rfl 32 62 (by decide) (by decide) (by decide)))).symm
      have m6146 := m6100.trans (Wr.neR wH6118 (Or.inr (x_apart hKT hts inX10 tyX10 tyX10_ok nmX10 rfl 33 62 (by decide) (by decide) (by decide)))).symm
      have m6147 := m6101.trans (Wr.neR wH6118 (Or.inr (x_apart hKT hts inX10 tyX10 tyX10_ok nmX10 rfl 50 62 (by decide) (by decide) (by decide)))).symm
      have m6149 := m6103.trans (Wr.neI wH6118 (Or.inr (x_apart hKT hts inX10 tyX10 tyX10_ok nmX10 rfl 65 62 (by decide) (by decide) (by decide)))).symm
      have m6150 := (Wr.neI wH6118 (Or.inr (x_apart hKT hts inX10 tyX10 tyX10_ok nmX10 rfl 0 62 (by decide) (by decide) (by decide)))).trans m6104
      have m6151 := m6105.trans (Wr.neI wH6118 (Or.inr (x_apart hKT hts inX10 tyX10 tyX10_ok nmX10 rfl 71 62 (by decide) (by decide) (by decide)))).symm
      have m6152 := (Wr.neI wH6118 (Or.inr (x_apart hKT hts inX10 tyX10 tyX10_ok nmX10 rfl 70 62 (by decide) (by decide) (by decide)))).trans m6106
      have m6153 := m6107.trans (Wr.neI wH6118 (Or.inr (x_apart hKT hts inX10 tyX10 tyX10_ok nmX10 rfl 1 62 (by decide) (by decide) (by decide)))).symm
      have m6154 := m6108.trans (Wr.neI wH6118 (Or.inr (x_apart hKT hts inX10 tyX10 tyX10_ok nmX10 rfl 2 62 (by decide) (by decide) (by decide)))).symm
      have m6155 := m6109.trans (Wr.neI wH6118 (Or.inr (x_apart hKT hts inX10 tyX10 tyX10_ok nmX10 rfl 3 62 (by decide) (by decide) (by decide)))).symm
      have m6156 := m6110.trans (Wr.neI wH6118 (Or.inr (x_apart hKT hts inX10 tyX10 tyX10_ok nmX10 rfl 59 62 (by decide) (by decide) (by decide)))).symm
      have m6157 := ex6073.trans (Wr.neI wH6118 (Or.inr (x_apart hKT hts inX10 tyX10 tyX10_ok nmX10 rfl 72 62 (by decide) (by decide) (by decide)))).symm
      have m6158 := Wr.I wH6118
      have m6158 := m6158.symm
      clear b6081 b6082 b6083 b6084 b6085 b6086 b6087 b6088 b6112 b6113 b6114 b6115 b6116 ex6073 f6089 g6075 hTH6071 m6074 m6091 m6092 m6093 m6094 m6095 m6096 m6097 m6098 m6099 m6100 m6101 m6102 m6103 m6104 m6105 m6106 m6107 m6108 m6109 m6110 mf6111 p6117
      refine lv_aload_n hx hb dX10_image_93 rfl (lv_at hl 0 rfl) ?_
      refine lv_aload_n hx hb dX10_image_94 rfl (lv_at hl 0 rfl) ?_
      refine lv_aload_n hx hb dX10_image_95 rfl (lv_at hl 0 rfl) ?_
      refine x_gi C hTH6118 (ci := 10) (k := 65) rfl inX10 (by decide) wF_X10_458 ga0 rg_112 rfl dX10_image_96 (fun x6159 ex6159 bx6159 => ?_)
      have ux6159 : s65 = x6159 := (m6149).trans ex6159.symm
      subst ux6159
      refine x_V (As := [.int s65]) (rest := [.ref a0]) C (a_X10_kept l K G H6118 (s65) (x6073) (x1) hTH6118 ga0 giq m6136 m6157 m6151 g6120 (by and_intros <;> first | assumption | omega)) yo_X10_kept wM_X10_473 ⟨⟨by decide, by decide⟩, by decide, by decide⟩ (x_rv C hTH6118 (ci := 10) rfl ga0 rg_112) rfl hl.1 rfl (Nat.le_of_ble_eq_true rfl) dX10_image_99 hSH6118 (AE_sub (fun _ _ => rfl) (by decide) hSH6118.1) (fun vH6160 H6160 locsH6160 pH6160 zH6160 kH6160 hSH6160 => ?_)
      obtain ⟨x6161, x6162, hvH6160, ex6162, hrH6160, m6163, g6164, mf6165, m6166, m6167, m6168, m6169, hTH6160⟩ := pH6160
      subst hvH6160
      clear zH6160
      replace m6163 := EQN.mk m6163
      have b6170 : UN (x1.toInt ≠ 0) (fun k => fI H6160 q4 k) (fun k => fI s.heap q4 k) := UN.congr (fun j => fI_kept (x_lt hTH6118 kH6160 gq4 (by decide))) b6121
      have b6171 : UN (x1.toInt ≠ 0) (fun k => fI H6160 q16 k) (fun k => fI s.heap q16 k) := UN.congr (fun j => fI_kept (x_lt hTH6118 kH6160 gq16 (by decide))) b6122
      have b6172 : UN (x1.toInt ≠ 0) (fun k => fI H6160 q24 k) (fun k => fI s.heap q24 k) := UN.congr (fun j => fI_kept (x_lt hTH6118 kH6160 gq24 (by decide))) b6123
      have b6173 : UN (x1.toInt ≠ 0) (fun k => fI H6160 q29 k) (fun k => fI s.heap q29 k) := UN.congr (fun j => fI_kept (x_lt hTH6118 kH6160 gq29 (by decide))) b6124
      have b6174 : UN (x1.toInt ≠ 0) (fun k => fI H6160 q30 k) (fun k => fI s.heap q30 k) := UN.congr (fun j => fI_kept (x_lt hTH6118 kH6160 gq30 (by decide))) b6125
      have b6175 : UN (x1.toInt ≠ 0) (fun k => fI H6160 q31 k) (fun k => fI s.heap q31 k) := UN.congr (fun j => fI_kept (x_lt hTH6118 kH6160 gq31 (by decide))) b6126
      have b6176 : UN (x1.toInt ≠ 0) (fun k => fI H6160 q32 k) (fun k => fI s.heap q32 k) := UN.congr (fun j => fI_kept (x_lt hTH6118 kH6160 gq32 (by decide))) b6127
      have b6177 : UN (x1.toInt ≠ 0) (fun k => fI H6160 q33 k) (fun k => fI s.heap q33 k) := UN.congr (fun j => fI_kept (x_lt hTH6118 kH6160 gq33 (by decide))) b6128
      have f6178 : ∀ j : Nat, fI H6160 q4 j = fI s.heap q4 j := fun j => (fI_kept (x_lt hTH6118 kH6160 gq4 (by decide))).trans (f6135 j)
      have m6179 := (m6136).trans (MF.r mf6165 (k := 73) (by decide) (by decide)).symm
      have m6180 := (m6137).trans (MF.r mf6165 (k := 4) (by decide) (by decide)).symm
      have m6181 := (m6138).trans (MF.r mf6165 (k := 10) (by decide) (by decide)).symm
      have m6182 := (m6139).trans (MF.r mf6165 (k := 16) (by decide) (by decide)).symm
      have m6183 := (m6140).trans (MF.r mf6165 (k := 24) (by decide) (by decide)).symm
      have m6184 := (m6141).trans (MF.r mf6165 (k := 27) (by decide) (by decide)).symm
      have m6185 := (m6142).trans (MF.r mf6165 (k := 29) (by decide) (by decide)).symm
      have m6186 := (m6143).trans (MF.r mf6165 (k := 30) (by decide) (by decide)).symm
      have m6187 := (m6144).trans (MF.r mf6165 (k := 31) (by decide) (by decide)).symm
      have m6188 := (m6145).trans (MF.r mf6165 (k := 32) (by decide) (by decide)).symm
      have m6189 := (m6146).trans (MF.r mf6165 (k := 33) (by decide) (by decide)).symm
      have m6190 := (m6147).trans (MF.r mf6165 (k := 50) (by decide) (by decide)).symm
      have m6191 := (m6149).trans (MF.i mf6165 (k := 65) (by decide) (by decide)).symm
      have m6192 := (MF.i mf6165 (k := 0) (by decide) (by decide)).trans m6150
      have m6193 := (m6151).trans (MF.i mf6165 (k := 71) (by decide) (by decide)).symm
      have m6194 := (MF.i mf6165 (k := 70) (by decide) (by decide)).trans m6152
      have m6195 := (m6153).trans (MF.i mf6165 (k := 1) (by decide) (by decide)).symm
      have m6196 := (m6154).trans (MF.i mf6165 (k := 2) (by decide) (by decide)).symm
      have m6197 := (m6155).trans (MF.i mf6165 (k := 3) (by decide) (by decide)).symm
      have m6198 := (m6156).trans (MF.i mf6165 (k := 59) (by decide) (by decide)).symm
      have m6199 := (m6158).trans (MF.i mf6165 (k := 62) (by decide) (by decide)).symm
      have mf6200 : MF K s.heap H6160 a0 [0, 1, 2, 3, 59, 62, 65, 70, 71, 72] := MF.trans mf6119 mf6165 (by decide)
      have bx6162 := ty_fi (x := x6162) (k := 72) ex6162 hTH6160 ga0 rg_112 rfl
      have ce_x6073 := i_cl (x := x6073) (by omega)
      have b6201 : UN (x1.toInt = 0) (fun k => fI H6160 iq k) (fun k => fI s.heap iq k) := UN.tr m6169 b6129
      have b6202 : x5736 = fI H6160 iq (0) := (b6130).trans (m6168 _ (by omega)).symm
      have b6203 : x5817 = fI H6160 iq (1) := (b6131).trans (m6168 _ (by omega)).symm
      have b6204 : x5900 = fI H6160 iq (2) := (b6132).trans (m6168 _ (by omega)).symm
      have b6205 : x5985 = fI H6160 iq (3) := (b6133).trans (m6168 _ (by omega)).symm
      have b6206 : x6072 = fI H6160 iq (4) := (b6134).trans (m6168 _ (by omega)).symm
      clear b6121 b6122 b6123 b6124 b6125 b6126 b6127 b6128 b6129 b6130 b6131 b6132 b6133 b6134 m6136 m6137 m6138 m6139 m6140 m6141 m6142 m6143 m6144 m6145 m6146 m6147 m6149 m6150 m6151 m6152 m6153 m6154 m6155 m6156 m6157 m6158
      clear m6168 m6169
      have bx6161 : 0 ≤ x6161.toInt ∧ x6161.toInt ≤ 8 := kr (fun h0 => by have hiw := hIW; exact kr0 (w := fun k => fI H6160 iq k) m6166 (p := 5) (by omega) (b6201 h0) (hiw.1.2.2.2.2)) m6167 (by omega)
      have p6207 : x6161 = fI H6160 iq (5) := by have h := m6166; rw [show x6073.toNatClampNeg = 5 by omega] at h; exact h
      refine W.eq (g2 := F0 m 102 ls [.int x6161, .ref a0]) rfl ?_
      refine x_put C hTH6160 hSH6160 (ci := 10) (k := 65) (v := .int x6161) (ty0 := tyX10) rfl inX10 tyX10_ok nmX10 (by decide) rfl wF_X10_458 ga0 rg_112 rfl rfl (okI (by have := i_rng x6161; omega) (by have := i_rng x6161; omega)) rfl rfl (AE_in ga0 (by decide)) dX10_image_102 (fun H6208 locsH6208 hTH6208 hSH6208 wH6208 => ?_)
      have mf6209 : MF K s.heap H6208 a0 [0, 1, 2, 3, 59, 62, 65, 70, 71, 72] := MF.fld hap wH6208 (by decide) (by decide) mf6200
      have g6210 : WD (avw K H6208 a0) := WD.congr (fun k hk j => av_fld hTH6160 ga0 hap wH6208 (by decide) (WD_ok 112 (by decide) k hk) (WD_ne 65 (by decide) k hk)) g6164
      have b6211 : UN (x1.toInt ≠ 0) (fun k => fI H6208 q4 k) (fun k => fI s.heap q4 k) := UN.congr (fun j => Wr.neI wH6208 (Or.inl (G_ne gq4 ga0 (by decide)))) b6170
      have b6212 : UN (x1.toInt ≠ 0) (fun k => fI H6208 q16 k) (fun k => fI s.heap q16 k) := UN.congr (fun j => Wr.neI wH6208 (Or.inl (G_ne gq16 ga0 (by decide)))) b6171
      have b6213 : UN (x1.toInt ≠ 0) (fun k => fI H6208 q24 k) (fun k => fI s.heap q24 k) := UN.congr (fun j => Wr.neI wH6208 (Or.inl (G_ne gq24 ga0 (by decide)))) b6172
      have b6214 : UN (x1.toInt ≠ 0) (fun k => fI H6208 q29 k) (fun k => fI s.heap q29 k) := UN.congr (fun j => Wr.neI wH6208 (Or.inl (G_ne gq29 ga0 (by decide)))) b6173
      have b6215 : UN (x1.toInt ≠ 0) (fun k => fI H6208 q30 k) (fun k => fI s.heap q30 k) := UN.congr (fun j => Wr.neI wH6208 (Or.inl (G_ne gq30 ga0 (by decide)))) b6174
      have b6216 : UN (x1.toInt ≠ 0) (fun k => fI H6208 q31 k) (fun k => fI s.heap q31 k) := UN.congr (fun j => Wr.neI wH6208 (Or.inl (G_ne gq31 ga0 (by decide)))) b6175
      have b6217 : UN (x1.toInt ≠ 0) (fun k => fI H6208 q32 k) (fun k => fI s.heap q32 k) := UN.congr (fun j => Wr.neI wH6208 (Or.inl (G_ne gq32 ga0 (by decide)))) b6176
      have b6218 : UN (x1.toInt ≠ 0) (fun k => fI H6208 q33 k) (fun k => fI s.heap q33 k) := UN.congr (fun j => Wr.neI wH6208 (Or.inl (G_ne gq33 ga0 (by decide)))) b6177
      have b6219 : UN (x1.toInt = 0) (fun k => fI H6208 iq k) (fun k => fI s.heap iq k) := UN.congr (fun j => Wr.neI wH6208 (Or.inl (G_ne giq ga0 (by decide)))) b6201
      have b6220 : x5736 = fI H6208 iq (0) := (b6202).trans (Wr.neI wH6208 (Or.inl (G_ne giq ga0 (by decide)))).symm
      have b6221 : x5817 = fI H6208 iq (1) := (b6203).trans (Wr.neI wH6208 (Or.inl (G_ne giq ga0 (by decide)))).symm
      have b6222 : x5900 = fI H6208 iq (2) := (b6204).trans (Wr.neI wH6208 (Or.inl (G_ne giq ga0 (by decide)))).symm
      have b6223 : x5985 = fI H6208 iq (3) := (b6205).trans (Wr.neI wH6208 (Or.inl (G_ne giq ga0 (by decide)))).symm
      have b6224 : x6072 = fI H6208 iq (4) := (b6206).trans (Wr.neI wH6208 (Or.inl (G_ne giq ga0 (by decide)))).symm
      have b6225 : x6161 = fI H6208 iq (5) := (p6207).trans (Wr.neI wH6208 (Or.inl (G_ne giq ga0 (by decide)))).symm
      have f6226 : ∀ j : Nat, fI H6208 q4 j = fI s.heap q4 j := fun j => (Wr.neI wH6208 (Or.inl (G_ne gq4 ga0 (by decide)))).trans (f6178 j)
      have m6227 := m6163.trans (Wr.neR wH6208 (Or.inr (x_apart hKT hts inX10 tyX10 tyX10_ok nmX10 rfl 73 65 (by decide) (by decide) (by decide)))).symm
      have m6228 := m6180.trans (Wr.neR wH6208 (Or.inr (x_apart hKT hts inX10 tyX10 tyX10_ok nmX10 rfl 4 65 (by decide) (by decide) (by decide)))).symm
      have m6229 := m6181.trans (Wr.neR wH6208 (Or.inr (x_apart hKT hts inX10 tyX10 tyX10_ok nmX10 rfl 10 65 (by decide) (by decide) (by decide)))).symm
      have m6230 := m6182.trans (Wr.neR wH6208 (Or.inr (x_apart hKT hts inX10 tyX10 tyX10_ok nmX10 rfl 16 65 (by decide) (by decide) (by decide)))).symm
      have m6231 := m6183.trans (Wr.neR wH6208 (Or.inr (x_apart hKT hts inX10 tyX10 tyX10_ok nmX10 rfl 24 65 (by decide) (by decide) (by decide)))).symm
      have m6232 := m6184.trans (Wr.neR wH6208 (Or.inr (x_apart hKT hts inX10 tyX10 tyX10_ok nmX10 rfl 27 65 (by decide) (by decide) (by decide)))).symm
      have m6233 := m6185.trans (Wr.neR wH6208 (Or.inr (x_apart hKT hts inX10 tyX10 tyX10_ok nmX10 rfl 29 65 (by decide) (by decide) (by decide)))).symm
      have m6234 := m6186.trans (Wr.neR wH6208 (Or.inr (x_apart hKT hts inX10 tyX10 tyX10_ok nmX10 rfl 30 65 (by decide) (by decide) (by decide)))).symm
      have m6235 := m6187.trans (Wr.neR wH6208 (Or.inr (x_apart hKT hts inX10 tyX10 tyX10_ok nmX10 rfl 31 65 (by decide) (by decide) (by decide)))).symm
      have m6236 := m6188.trans (Wr.neR wH6208 (Or.inr (x_apart hKT hts inX10 tyX10 tyX10_ok nmX10 rfl 32 65 (by decide) (by decide) (by decide)))).symm
      have m6237 := m6189.trans (Wr.neR wH6208 (Or.inr (x_apart hKT hts inX10 tyX10 tyX10_ok nmX10 rfl 33 65 (by decide) (by decide) (by decide)))).symm
      have m6238 := m6190.trans (Wr.neR wH6208 (Or.inr (x_apart hKT hts inX10 tyX10 tyX10_ok nmX10 rfl 50 65 (by decide) (by decide) (by decide)))).symm
      have m6240 := (Wr.neI wH6208 (Or.inr (x_apart hKT hts inX10 tyX10 tyX10_ok nmX10 rfl 0 65 (by decide) (by decide) (by decide)))).trans m6192
      have m6241 := m6193.trans (Wr.neI wH6208 (Or.inr (x_apart hKT hts inX10 tyX10 tyX10_ok nmX10 rfl 71 65 (by decide) (by decide) (by decide)))).symm
      have m6242 := (Wr.neI wH6208 (Or.inr (x_apart hKT hts inX10 tyX10 tyX10_ok nmX10 rfl 70 65 (by decide) (by decide) (by decide)))).trans m6194
      have m6243 := m6195.trans (Wr.neI wH6208 (Or.inr (x_apart hKT hts inX10 tyX10 tyX10_ok nmX10 rfl 1 65 (by decide) (by decide) (by decide)))).symm
      have m6244 := m6196.trans (Wr.neI wH6208 (Or.inr (x_apart hKT hts inX10 tyX10 tyX10_ok nmX10 rfl 2 65 (by decide) (by decide) (by decide)))).symm
      have m6245 := m6197.trans (Wr.neI wH6208 (Or.inr (x_apart hKT hts inX10 tyX10 tyX10_ok nmX10 rfl 3 65 (by decide) (by decide) (by decide)))).symm
      have m6246 := m6198.trans (Wr.neI wH6208 (Or.inr (x_apart hKT hts inX10 tyX10 tyX10_ok nmX10 rfl 59 65 (by decide) (by decide) (by decide)))).symm
      have m6247 := m6199.trans (Wr.neI wH6208 (Or.inr (x_apart hKT hts inX10 tyX10 tyX10_ok nmX10 rfl 62 65 (by decide) (by decide) (by decide)))).symm
      have m6248 := ex6162.trans (Wr.neI wH6208 (Or.inr (x_apart hKT hts inX10 tyX10 tyX10_ok nmX10 rfl 72 65 (by decide) (by decide) (by decide)))).symm
      have m6249 := Wr.I wH6208
      have m6249 := m6249.symm
      clear b6170 b6171 b6172 b6173 b6174 b6175 b6176 b6177 b6201 b6202 b6203 b6204 b6205 b6206 ex6162 f6178 g6164 hTH6160 m6163 m6180 m6181 m6182 m6183 m6184 m6185 m6186 m6187 m6188 m6189 m6190 m6191 m6192 m6193 m6194 m6195 m6196 m6197 m6198 m6199 mf6200 p6207
      refine lv_aload_n hx hb dX10_image_105 rfl (lv_at hl 0 rfl) ?_
      refine x_V (As := []) (rest := []) C (a_X10_keepsBars l K G H6208 (x6162) (x1) hTH6208 ga0 giq m6227 gq4 m6228 gq10 m6229 gq16 m6230 gq50 m6238 m6248 m6241 g6210 (by and_intros <;> first | assumption | omega) (fun h0 => IMw.congr (b6219 h0) hIW)) yo_X10_keepsBars wM_X10_479 ⟨⟨by decide, by decide⟩, by decide, by decide⟩ (x_rv C hTH6208 (ci := 10) rfl ga0 rg_112) rfl hl.1 rfl (Nat.le_of_ble_eq_true rfl) dX10_image_106 hSH6208 (AE_sub (fun _ _ => rfl) (by decide) hSH6208.1) (fun vH6250 H6250 locsH6250 pH6250 zH6250 kH6250 hSH6250 => ?_)
      obtain ⟨x6251, hvH6250, ex6251, hrH6250, m6252, m6253, m6254, m6255, m6256, g6257, mf6258, m6259, m6260, m6261, m6262, m6263, m6264, m6265, m6266, hTH6250⟩ := pH6250
      subst hvH6250
      clear zH6250
      replace m6252 := EQN.mk m6252
      replace m6253 := EQN.mk m6253
      replace m6254 := EQN.mk m6254
      replace m6255 := EQN.mk m6255
      replace m6256 := EQN.mk m6256
      have b6267 : UN (x1.toInt ≠ 0) (fun k => fI H6250 q24 k) (fun k => fI s.heap q24 k) := UN.congr (fun j => fI_kept (x_lt hTH6208 kH6250 gq24 (by decide))) b6213
      have b6268 : UN (x1.toInt ≠ 0) (fun k => fI H6250 q29 k) (fun k => fI s.heap q29 k) := UN.congr (fun j => fI_kept (x_lt hTH6208 kH6250 gq29 (by decide))) b6214
      have b6269 : UN (x1.toInt ≠ 0) (fun k => fI H6250 q30 k) (fun k => fI s.heap q30 k) := UN.congr (fun j => fI_kept (x_lt hTH6208 kH6250 gq30 (by decide))) b6215
      have b6270 : UN (x1.toInt ≠ 0) (fun k => fI H6250 q31 k) (fun k => fI s.heap q31 k) := UN.congr (fun j => fI_kept (x_lt hTH6208 kH6250 gq31 (by decide))) b6216
      have b6271 : UN (x1.toInt ≠ 0) (fun k => fI H6250 q32 k) (fun k => fI s.heap q32 k) := UN.congr (fun j => fI_kept (x_lt hTH6208 kH6250 gq32 (by decide))) b6217
      have b6272 : UN (x1.toInt ≠ 0) (fun k => fI H6250 q33 k) (fun k => fI s.heap q33 k) := UN.congr (fun j => fI_kept (x_lt hTH6208 kH6250 gq33 (by decide))) b6218
      have m6273 := (m6227).trans (MF.r mf6258 (k := 73) (by decide) (by decide)).symm
      have m6274 := (m6228).trans (MF.r mf6258 (k := 4) (by decide) (by decide)).symm
      have m6275 := (m6229).trans (MF.r mf6258 (k := 10) (by decide) (by decide)).symm
      have m6276 := (m6230).trans (MF.r mf6258 (k := 16) (by decide) (by decide)).symm
      have m6277 := (m6231).trans (MF.r mf6258 (k := 24) (by decide) (by decide)).symm
      have m6278 := (m6232).trans (MF.r mf6258 (k := 27) (by decide) (by decide)).symm
      have m6279 := (m6233).trans (MF.r mf6258 (k := 29) (by decide) (by decide)).symm
      have m6280 := (m6234).trans (MF.r mf6258 (k := 30) (by decide) (by decide)).symm
      have m6281 := (m6235).trans (MF.r mf6258 (k := 31) (by decide) (by decide)).symm
      have m6282 := (m6236).trans (MF.r mf6258 (k := 32) (by decide) (by decide)).symm
      have m6283 := (m6237).trans (MF.r mf6258 (k := 33) (by decide) (by decide)).symm
      have m6284 := (m6238).trans (MF.r mf6258 (k := 50) (by decide) (by decide)).symm
      have m6285 := (MF.i mf6258 (k := 0) (by decide) (by decide)).trans m6240
      have m6286 := (m6241).trans (MF.i mf6258 (k := 71) (by decide) (by decide)).symm
      have m6287 := (MF.i mf6258 (k := 70) (by decide) (by decide)).trans m6242
      have m6288 := (m6243).trans (MF.i mf6258 (k := 1) (by decide) (by decide)).symm
      have m6289 := (m6244).trans (MF.i mf6258 (k := 2) (by decide) (by decide)).symm
      have m6290 := (m6245).trans (MF.i mf6258 (k := 3) (by decide) (by decide)).symm
      have m6291 := (m6246).trans (MF.i mf6258 (k := 59) (by decide) (by decide)).symm
      have m6292 := (m6247).trans (MF.i mf6258 (k := 62) (by decide) (by decide)).symm
      have m6293 := (m6249).trans (MF.i mf6258 (k := 65) (by decide) (by decide)).symm
      have mf6294 : MF K s.heap H6250 a0 [0, 1, 2, 3, 59, 62, 65, 70, 71, 72] := MF.trans mf6209 mf6258 (by decide)
      have bx6251 := ty_fi (x := x6251) (k := 72) ex6251 hTH6250 ga0 rg_112 rfl
      have b6295 : UN (x1.toInt ≠ 0) (fun k => fI H6250 q4 k) (fun k => fI s.heap q4 k) := UN.tr m6265 b6211
      have b6296 : UN (x1.toInt ≠ 0) (fun k => fI H6250 q16 k) (fun k => fI s.heap q16 k) := UN.tr m6266 b6212
      have b6297 : UN (x1.toInt = 0) (fun k => fI H6250 iq k) (fun k => fI s.heap iq k) := UN.tr m6259 b6219
      have b6298 : x5736 = fI H6250 iq (0) := (b6220).trans (m6260 _ (by omega)).symm
      have b6299 : x5817 = fI H6250 iq (1) := (b6221).trans (m6260 _ (by omega)).symm
      have b6300 : x5900 = fI H6250 iq (2) := (b6222).trans (m6260 _ (by omega)).symm
      have b6301 : x5985 = fI H6250 iq (3) := (b6223).trans (m6260 _ (by omega)).symm
      have b6302 : x6072 = fI H6250 iq (4) := (b6224).trans (m6260 _ (by omega)).symm
      have b6303 : x6161 = fI H6250 iq (5) := (b6225).trans (m6260 _ (by omega)).symm
      refine W.eq (g2 := F0 m 109 ls []) rfl ?_
      refine lv_aload_n hx hb dX10_image_109 rfl (lv_at hl 0 rfl) ?_
      refine x_V (As := []) (rest := []) C (a_X10_keepsTaps l K G H6250 (x6251) (x1) hTH6250 ga0 giq m6252 ex6251 m6286 g6257 (by and_intros <;> first | assumption | omega) (fun h0 => IMw.congr (b6297 h0) hIW)) yo_X10_keepsTaps wM_X10_482 ⟨⟨by decide, by decide⟩, by decide, by decide⟩ (x_rv C hTH6250 (ci := 10) rfl ga0 rg_112) rfl hl.1 rfl (Nat.le_of_ble_eq_true rfl) dX10_image_110 hSH6250 (AE_sub (fun _ _ => rfl) (by decide) hSH6250.1) (fun vH6304 H6304 locsH6304 pH6304 zH6304 kH6304 hSH6304 => ?_)
      obtain ⟨x6305, hvH6304, ex6305, hrH6304, m6306, g6307, mf6308, m6309, m6310, hTH6304⟩ := pH6304
      subst hvH6304
      clear zH6304
      replace m6306 := EQN.mk m6306
      have b6311 : UN (x1.toInt ≠ 0) (fun k => fI H6304 q24 k) (fun k => fI s.heap q24 k) := UN.congr (fun j => fI_kept (x_lt hTH6250 kH6304 gq24 (by decide))) b6267
      have b6312 : UN (x1.toInt ≠ 0) (fun k => fI H6304 q29 k) (fun k => fI s.heap q29 k) := UN.congr (fun j => fI_kept (x_lt hTH6250 kH6304 gq29 (by decide))) b6268
      have b6313 : UN (x1.toInt ≠ 0) (fun k => fI H6304 q30 k) (fun k => fI s.heap q30 k) := UN.congr (fun j => fI_kept (x_lt hTH6250 kH6304 gq30 (by decide))) b6269
      have b6314 : UN (x1.toInt ≠ 0) (fun k => fI H6304 q31 k) (fun k => fI s.heap q31 k) := UN.congr (fun j => fI_kept (x_lt hTH6250 kH6304 gq31 (by decide))) b6270
      have b6315 : UN (x1.toInt ≠ 0) (fun k => fI H6304 q32 k) (fun k => fI s.heap q32 k) := UN.congr (fun j => fI_kept (x_lt hTH6250 kH6304 gq32 (by decide))) b6271
      have b6316 : UN (x1.toInt ≠ 0) (fun k => fI H6304 q33 k) (fun k => fI s.heap q33 k) := UN.congr (fun j => fI_kept (x_lt hTH6250 kH6304 gq33 (by decide))) b6272
      have b6317 : UN (x1.toInt ≠ 0) (fun k => fI H6304 q4 k) (fun k => fI s.heap q4 k) := UN.congr (fun j => fI_kept (x_lt hTH6250 kH6304 gq4 (by decide))) b6295
      have b6318 : UN (x1.toInt ≠ 0) (fun k => fI H6304 q16 k) (fun k => fI s.heap q16 k) := UN.congr (fun j => fI_kept (x_lt hTH6250 kH6304 gq16 (by decide))) b6296
      have m6319 := (m6252).trans (MF.r mf6308 (k := 73) (by decide) (by decide)).symm
      have m6320 := (m6253).trans (MF.r mf6308 (k := 4) (by decide) (by decide)).symm
      have m6321 := (m6254).trans (MF.r mf6308 (k := 10) (by decide) (by decide)).symm
      have m6322 := (m6255).trans (MF.r mf6308 (k := 16) (by decide) (by decide)).symm
      have m6323 := (m6277).trans (MF.r mf6308 (k := 24) (by decide) (by decide)).symm
      have m6324 := (m6278).trans (MF.r mf6308 (k := 27) (by decide) (by decide)).symm
      have m6325 := (m6279).trans (MF.r mf6308 (k := 29) (by decide) (by decide)).symm
      have m6326 := (m6280).trans (MF.r mf6308 (k := 30) (by decide) (by decide)).symm
      have m6327 := (m6281).trans (MF.r mf6308 (k := 31) (by decide) (by decide)).symm
      have m6328 := (m6282).trans (MF.r mf6308 (k := 32) (by decide) (by decide)).symm
      have m6329 := (m6283).trans (MF.r mf6308 (k := 33) (by decide) (by decide)).symm
      have m6330 := (m6256).trans (MF.r mf6308 (k := 50) (by decide) (by decide)).symm
      have m6331 := (MF.i mf6308 (k := 0) (by decide) (by decide)).trans m6285
      have m6332 := (m6286).trans (MF.i mf6308 (k := 71) (by decide) (by decide)).symm
      have m6333 := (MF.i mf6308 (k := 70) (by decide) (by decide)).trans m6287
      have m6334 := (m6288).trans (MF.i mf6308 (k := 1) (by decide) (by decide)).symm
      have m6335 := (m6289).trans (MF.i mf6308 (k := 2) (by decide) (by decide)).symm
      have m6336 := (m6290).trans (MF.i mf6308 (k := 3) (by decide) (by decide)).symm
      have m6337 := (m6291).trans (MF.i mf6308 (k := 59) (by decide) (by decide)).symm
      have m6338 := (m6292).trans (MF.i mf6308 (k := 62) (by decide) (by decide)).symm
      have m6339 := (m6293).trans (MF.i mf6308 (k := 65) (by decide) (by decide)).symm
      have mf6340 : MF K s.heap H6304 a0 [0, 1, 2, 3, 59, 62, 65, 70, 71, 72] := MF.trans mf6294 mf6308 (by decide)
      have bx6305 := ty_fi (x := x6305) (k := 72) ex6305 hTH6304 ga0 rg_112 rfl
      have b6341 : UN (x1.toInt = 0) (fun k => fI H6304 iq k) (fun k => fI s.heap iq k) := UN.tr m6309 b6297
      have b6342 : x5736 = fI H6304 iq (0) := (b6298).trans (m6310 _ (by omega)).symm
      have b6343 : x5817 = fI H6304 iq (1) := (b6299).trans (m6310 _ (by omega)).symm
      have b6344 : x5900 = fI H6304 iq (2) := (b6300).trans (m6310 _ (by omega)).symm
      have b6345 : x5985 = fI H6304 iq (3) := (b6301).trans (m6310 _ (by omega)).symm
      have b6346 : x6072 = fI H6304 iq (4) := (b6302).trans (m6310 _ (by omega)).symm
      have b6347 : x6161 = fI H6304 iq (5) := (b6303).trans (m6310 _ (by omega)).symm
      have b6348 : EQ (fun k => fI H6304 q4 k) (fun k => fI H6304 iq k) (6) (6) (10) := EQ.fb (EQ.congr (w1 := fun k => fI H6250 iq k) (fun j => fI_kept (x_lt hTH6250 kH6304 gq4 (by decide))) (fun _ => rfl) m6261) m6310 (fun j hj => by omega)
      have b6349 : EQ (fun k => fI H6304 q10 k) (fun k => fI H6304 iq k) (7) (6) (10) := EQ.fb (EQ.congr (w1 := fun k => fI H6250 iq k) (fun j => fI_kept (x_lt hTH6250 kH6304 gq10 (by decide))) (fun _ => rfl) m6262) m6310 (fun j hj => by omega)
      have b6350 : EQ (fun k => fI H6304 q50 k) (fun k => fI H6304 iq k) (11) (6) (10) := EQ.fb (EQ.congr (w1 := fun k => fI H6250 iq k) (fun j => fI_kept (x_lt hTH6250 kH6304 gq50 (by decide))) (fun _ => rfl) m6263) m6310 (fun j hj => by omega)
      have b6351 : EQ (fun k => fI H6304 q16 k) (fun k => fI H6304 iq k) (736) (3) (20) := EQ.fb (EQ.congr (w1 := fun k => fI H6250 iq k) (fun j => fI_kept (x_lt hTH6250 kH6304 gq16 (by decide))) (fun _ => rfl) m6264) m6310 (fun j hj => by omega)
      refine W.eq (g2 := F0 m 113 ls []) rfl ?_
      refine lv_aload_n hx hb dX10_image_113 rfl (lv_at hl 0 rfl) ?_
      refine x_V (As := []) (rest := []) C (a_X10_keepsTexts l K G H6304 (x6305) (x1) hTH6304 ga0 giq m6306 gq24 m6323 gq27 m6324 gq29 m6325 gq30 m6326 gq31 m6327 gq32 m6328 gq33 m6329 ex6305 m6332 g6307 (by and_intros <;> first | assumption | omega) (fun h0 => IMw.congr (b6341 h0) hIW)) yo_X10_keepsTexts wM_X10_485 ⟨⟨by decide, by decide⟩, by decide, by decide⟩ (x_rv C hTH6304 (ci := 10) rfl ga0 rg_112) rfl hl.1 rfl (Nat.le_of_ble_eq_true rfl) dX10_image_114 hSH6304 (AE_sub (fun _ _ => rfl) (by decide) hSH6304.1) (fun vH6352 H6352 locsH6352 pH6352 zH6352 kH6352 hSH6352 => ?_)
      obtain ⟨x6353, hvH6352, ex6353, hrH6352, m6354, m6355, m6356, m6357, m6358, m6359, m6360, m6361, g6362, mf6363, m6364, m6365, m6366, m6367, m6368, m6369, m6370, m6371, m6372, m6373, m6374, m6375, m6376, m6377, m6378, hTH6352⟩ := pH6352
      subst hvH6352
      clear zH6352
      replace m6354 := EQN.mk m6354
      replace m6355 := EQN.mk m6355
      replace m6356 := EQN.mk m6356
      replace m6357 := EQN.mk m6357
      replace m6358 := EQN.mk m6358
      replace m6359 := EQN.mk m6359
      replace m6360 := EQN.mk m6360
      replace m6361 := EQN.mk m6361
      have b6379 : UN (x1.toInt ≠ 0) (fun k => fI H6352 q4 k) (fun k => fI s.heap q4 k) := UN.congr (fun j => fI_kept (x_lt hTH6304 kH6352 gq4 (by decide))) b6317
      have b6380 : UN (x1.toInt ≠ 0) (fun k => fI H6352 q16 k) (fun k => fI s.heap q16 k) := UN.congr (fun j => fI_kept (x_lt hTH6304 kH6352 gq16 (by decide))) b6318
      have m6381 := (m6306).trans (MF.r mf6363 (k := 73) (by decide) (by decide)).symm
      have m6382 := (m6320).trans (MF.r mf6363 (k := 4) (by decide) (by decide)).symm
      have m6383 := (m6321).trans (MF.r mf6363 (k := 10) (by decide) (by decide)).symm
      have m6384 := (m6322).trans (MF.r mf6363 (k := 16) (by decide) (by decide)).symm
      have m6385 := (m6323).trans (MF.r mf6363 (k := 24) (by decide) (by decide)).symm
      have m6386 := (m6324).trans (MF.r mf6363 (k := 27) (by decide) (by decide)).symm
      have m6387 := (m6325).trans (MF.r mf6363 (k := 29) (by decide) (by decide)).symm
      have m6388 := (m6326).trans (MF.r mf6363 (k := 30) (by decide) (by decide)).symm
      have m6389 := (m6327).trans (MF.r mf6363 (k := 31) (by decide) (by decide)).symm
      have m6390 := (m6328).trans (MF.r mf6363 (k := 32) (by decide) (by decide)).symm
      have m6391 := (m6329).trans (MF.r mf6363 (k := 33) (by decide) (by decide)).symm
      have m6392 := (m6330).trans (MF.r mf6363 (k := 50) (by decide) (by decide)).symm
      have m6393 := (MF.i mf6363 (k := 0) (by decide) (by decide)).trans m6331
      have m6394 := (m6332).trans (MF.i mf6363 (k := 71) (by decide) (by decide)).symm
      have m6395 := (MF.i mf6363 (k := 70) (by decide) (by decide)).trans m6333
      have m6396 := (m6334).trans (MF.i mf6363 (k := 1) (by decide) (by decide)).symm
      have m6397 := (m6335).trans (MF.i mf6363 (k := 2) (by decide) (by decide)).symm
      have m6398 := (m6336).trans (MF.i mf6363 (k := 3) (by decide) (by decide)).symm
      have m6399 := (m6337).trans (MF.i mf6363 (k := 59) (by decide) (by decide)).symm
      have m6400 := (m6338).trans (MF.i mf6363 (k := 62) (by decide) (by decide)).symm
      have m6401 := (m6339).trans (MF.i mf6363 (k := 65) (by decide) (by decide)).symm
      have mf6402 : MF K s.heap H6352 a0 [0, 1, 2, 3, 59, 62, 65, 70, 71, 72] := MF.trans mf6340 mf6363 (by decide)
      have bx6353 := ty_fi (x := x6353) (k := 72) ex6353 hTH6352 ga0 rg_112 rfl
      have b6403 : UN (x1.toInt ≠ 0) (fun k => fI H6352 q24 k) (fun k => fI s.heap q24 k) := UN.tr m6373 b6311
      have b6404 : UN (x1.toInt ≠ 0) (fun k => fI H6352 q29 k) (fun k => fI s.heap q29 k) := UN.tr m6374 b6312
      have b6405 : UN (x1.toInt ≠ 0) (fun k => fI H6352 q30 k) (fun k => fI s.heap q30 k) := UN.tr m6375 b6313
      have b6406 : UN (x1.toInt ≠ 0) (fun k => fI H6352 q31 k) (fun k => fI s.heap q31 k) := UN.tr m6376 b6314
      have b6407 : UN (x1.toInt ≠ 0) (fun k => fI H6352 q32 k) (fun k => fI s.heap q32 k) := UN.tr m6377 b6315
      have b6408 : UN (x1.toInt ≠ 0) (fun k => fI H6352 q33 k) (fun k => fI s.heap q33 k) := UN.tr m6378 b6316
      have b6409 : UN (x1.toInt = 0) (fun k => fI H6352 iq k) (fun k => fI s.heap iq k) := UN.tr m6364 b6341
      have b6410 : x5736 = fI H6352 iq (0) := (b6342).trans (m6365 _ (by omega)).symm
      have b6411 : x5817 = fI H6352 iq (1) := (b6343).trans (m6365 _ (by omega)).symm
      have b6412 : x5900 = fI H6352 iq (2) := (b6344).trans (m6365 _ (by omega)).symm
      have b6413 : x5985 = fI H6352 iq (3) := (b6345).trans (m6365 _ (by omega)).symm
      have b6414 : x6072 = fI H6352 iq (4) := (b6346).trans (m6365 _ (by omega)).symm
      have b6415 : x6161 = fI H6352 iq (5) := (b6347).trans (m6365 _ (by omega)).symm
      have b6416 : EQ (fun k => fI H6352 q4 k) (fun k => fI H6352 iq k) (6) (6) (10) := EQ.fb (EQ.congr (w1 := fun k => fI H6304 iq k) (fun j => fI_kept (x_lt hTH6304 kH6352 gq4 (by decide))) (fun _ => rfl) b6348) m6365 (fun j hj => by omega)
      have b6417 : EQ (fun k => fI H6352 q10 k) (fun k => fI H6352 iq k) (7) (6) (10) := EQ.fb (EQ.congr (w1 := fun k => fI H6304 iq k) (fun j => fI_kept (x_lt hTH6304 kH6352 gq10 (by decide))) (fun _ => rfl) b6349) m6365 (fun j hj => by omega)
      have b6418 : EQ (fun k => fI H6352 q50 k) (fun k => fI H6352 iq k) (11) (6) (10) := EQ.fb (EQ.congr (w1 := fun k => fI H6304 iq k) (fun j => fI_kept (x_lt hTH6304 kH6352 gq50 (by decide))) (fun _ => rfl) b6350) m6365 (fun j hj => by omega)
      have b6419 : EQ (fun k => fI H6352 q16 k) (fun k => fI H6352 iq k) (736) (3) (20) := EQ.fb (EQ.congr (w1 := fun k => fI H6304 iq k) (fun j => fI_kept (x_lt hTH6304 kH6352 gq16 (by decide))) (fun _ => rfl) b6351) m6365 (fun j hj => by omega)
      refine W.eq (g2 := F0 m 117 ls []) rfl ?_
      have fin := im_fin (H0 := s.heap) (tk := x1) hTH6352 ga0 hg_CG hg_TU hg_IM ⟨EQ.av m6382 m6354 b6416, EQ.av m6383 m6354 b6417, EQ.av m6392 m6354 b6418, EQ.av m6384 m6354 b6419, EQ.av m6355 m6354 m6366, EQ.av m6356 m6354 m6367, EQ.av m6357 m6354 m6368, EQ.av m6358 m6354 m6369, EQ.av m6359 m6354 m6370, EQ.av m6360 m6354 m6371, EQ.av m6361 m6354 m6372⟩ (pl_av m6396 b6410 m6354) (pl_av m6397 b6411 m6354) (pl_av m6399 b6413 m6354) (pl_av m6400 b6414 m6354) (pl_av m6401 b6415 m6354) (fun h => (m6396.symm.trans (m5742 h)).trans es1) (all8 (UN.av m6382 eq4 b6379) (UN.av m6384 eq16 b6380) (UN.av m6355 eq24 b6403) (UN.av m6357 eq29 b6404) (UN.av m6358 eq30 b6405) (UN.av m6359 eq31 b6406) (UN.av m6360 eq32 b6407) (UN.av m6361 eq33 b6408)) (UN.av m6354 eiq b6409)
      refine lv_iconst (v := 1) hx hb dX10_image_117 (by decide) ?_
      exact x_zret C hQ (Or.inr rfl) dX10_image_118 hSH6352 (by decide) (by decide) (⟨1, 1, x5736, x5817, x5900, x5985, x6072, x6161, rfl, by decide, (m6395).symm, m6396, m6397, m6398, m6399, m6400, m6401, by omega, m6354, m6382, m6383, m6384, m6355, m6356, m6357, m6358, m6359, m6360, m6361, m6392, fin.1, fin.2.1, g6362, fin.2.2, mf6402, Or.inr ⟨b6410, b6411, b6412, b6413, b6414, b6415⟩, (fun h => ⟨m5742 h, m5823 h, m5906 h, m5991 h, m6078 h, m6167 h⟩), b6409, Or.inr b6416, b6379, (fun h => by exfalso; omega), hTH6352⟩)
    · have k5620 := i_eq c5619
      refine lv_iconst (v := 0) hx hb dX10_image_16 (by decide) ?_
      exact x_zret C hQ (Or.inl rfl) dX10_image_17 hSH4781 (by decide) (by decide) (⟨0, h70, s1, s2, s3, s59, s62, s65, rfl, by decide, m4809, m4810, m4811, m4812, m4813, m4814, m4815, by omega, m4797, m4798, m4799, m4800, m4801, m4802, m4803, m4804, m4805, m4806, m4807, m4808, g4783, g4784, g4785, g4786, mf4782, Or.inl (by omega), (fun _ => ⟨rfl, rfl, rfl, rfl, rfl, rfl⟩), b4787, Or.inl (by omega), (fun h => by exfalso; omega), (fun _ => f4796), hTH4781⟩)
