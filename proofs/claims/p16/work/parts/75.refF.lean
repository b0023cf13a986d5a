theorem EQ.fb {f w w1 : Nat → Int32} {b s n m : Nat} (h : EQ f w b s n) (e : FB w1 w m) (ht : ∀ j, j < n → b + s * j < m) : EQ f w1 b s n := fun j hj => (h j hj).trans (e _ (ht j hj)).symm
theorem pl_av {K : KE} {H : Heap} {b k q p : Nat} {r : Int32} (h : r = fI H b (K.1.2 10 k)) (hp : r = fI H q p) (e : q = fR H b (K.1.2 10 73)) : svw K H b k = avw K H b 73 p := by subst e; exact h.symm.trans hp
theorem all8 {P : Nat → Prop} (h4 : P 4) (h16 : P 16) (h24 : P 24) (h29 : P 29) (h30 : P 30) (h31 : P 31) (h32 : P 32) (h33 : P 33) : ∀ k ∈ ([4, 16, 24, 29, 30, 31, 32, 33] : List Nat), P k := by
  intro k hk
  simp only [List.mem_cons, List.not_mem_nil, or_false] at hk
  rcases hk with rfl | rfl | rfl | rfl | rfl | rfl | rfl | rfl <;> assumption
set_option maxHeartbeats 4000000 in
set_option maxRecDepth 100000 in
theorem a_X10_image (l : Launch) (K : KE) (G : Nat → Option Nat) (H : Heap) {a0 : Nat} (x1 : Int32) {iq : Nat} {q4 : Nat} {q10 : Nat} {q16 : Nat} {q24 : Nat} {q27 : Nat} {q29 : Nat} {q30 : Nat} {q31 : Nat} {q32 : Nat} {q33 : Nat} {q50 : Nat} (hT : TY K G H) (ga0 : G a0 = some 112) (hx1 : 0 ≤ x1.toInt ∧ x1.toInt ≤ 1) (giq : G iq = some 162) (eiq : iq = fR H a0 (K.1.2 10 73)) (gq4 : G q4 = some 113) (eq4 : q4 = fR H a0 (K.1.2 10 4)) (gq10 : G q10 = some 119) (eq10 : q10 = fR H a0 (K.1.2 10 10)) (gq16 : G q16 = some 125) (eq16 : q16 = fR H a0 (K.1.2 10 16)) (gq24 : G q24 = some 128) (eq24 : q24 = fR H a0 (K.1.2 10 24)) (gq27 : G q27 = some 131) (eq27 : q27 = fR H a0 (K.1.2 10 27)) (gq29 : G q29 = some 133) (eq29 : q29 = fR H a0 (K.1.2 10 29)) (gq30 : G q30 = some 134) (eq30 : q30 = fR H a0 (K.1.2 10 30)) (gq31 : G q31 = some 135) (eq31 : q31 = fR H a0 (K.1.2 10 31)) (gq32 : G q32 = some 136) (eq32 : q32 = fR H a0 (K.1.2 10 32)) (gq33 : G q33 = some 137) (eq33 : q33 = fR H a0 (K.1.2 10 33)) (gq50 : G q50 = some 146) (eq50 : q50 = fR H a0 (K.1.2 10 50)) (hg_CG : CG (avw K H a0)) (hg_TU : TU (avw K H a0) (svw K H a0)) (hg_WD : WD (avw K H a0)) (hg_IM : IM (avw K H a0)) : MX l K yX10_image cX10_image 2 (some .boolean) 2 42 0 0 [.ref a0, .int x1] H (AE G [112, 162, 113, 119, 122, 123, 124, 146, 114, 115, 116, 117, 118, 125, 154, 155, 120, 121, 147, 148, 149, 150, 156, 157, 158, 159, 128, 129, 130, 131, 132, 133, 134, 135, 136, 137] H.size) (fun v H1 => ∃ (r : Int32), v = some (.int r) ∧ (0 ≤ r.toInt ∧ r.toInt ≤ 1) ∧ iq = fR H1 a0 (K.1.2 10 73) ∧ q4 = fR H1 a0 (K.1.2 10 4) ∧ q10 = fR H1 a0 (K.1.2 10 10) ∧ q16 = fR H1 a0 (K.1.2 10 16) ∧ q24 = fR H1 a0 (K.1.2 10 24) ∧ q27 = fR H1 a0 (K.1.2 10 27) ∧ q29 = fR H1 a0 (K.1.2 10 29) ∧ q30 = fR H1 a0 (K.1.2 10 30) ∧ q31 = fR H1 a0 (K.1.2 10 31) ∧ q32 = fR H1 a0 (K.1.2 10 32) ∧ q33 = fR H1 a0 (K.1.2 10 33) ∧ q50 = fR H1 a0 (K.1.2 10 50) ∧ (CG (avw K H1 a0)) ∧ (TU (avw K H1 a0) (svw K H1 a0)) ∧ (WD (avw K H1 a0)) ∧ (IM (avw K H1 a0)) ∧ TY K G H1) := by
  refine MX.of (by decide +kernel) (Nat.le_of_ble_eq_true rfl) ?_
  intro p e s m below meth c ls Q C hH hl hQ
  subst hH
  have C : CX p K s m _ meth c RX10 cX10_image 2 (some .boolean) "image" := C
  obtain ⟨hx, hb, hml, hown, hts, hKT, hr, hlocks, hnm⟩ := id C
  have hl : lv_has ls 2 [(0, .ref a0), (1, .int x1)] := hl
  have hS : va_S (AE G [112, 162, 113, 119, 122, 123, 124, 146, 114, 115, 116, 117, 118, 125, 154, 155, 120, 121, 147, 148, 149, 150, 156, 157, 158, 159, 128, 129, 130, 131, 132, 133, 134, 135, 136, 137] s.heap.size) s.heap s.heap [] := va_S.rf
  have n_0 : (0 : Int32).toInt = 0 := rfl
  have n_1 : (1 : Int32).toInt = 1 := rfl
  have hap : ∀ x y, x < 74 → y < 74 → x ≠ y → K.1.2 10 x ≠ K.1.2 10 y := x_apart hKT hts inX10 tyX10 tyX10_ok nmX10 rfl
  replace eiq := EQN.mk eiq
  replace eq4 := EQN.mk eq4
  replace eq10 := EQN.mk eq10
  replace eq16 := EQN.mk eq16
  replace eq24 := EQN.mk eq24
  replace eq27 := EQN.mk eq27
  replace eq29 := EQN.mk eq29
  replace eq30 := EQN.mk eq30
  replace eq31 := EQN.mk eq31
  replace eq32 := EQN.mk eq32
  replace eq33 := EQN.mk eq33
  replace eq50 := EQN.mk eq50
  have hIW := IM.w hg_IM eiq
  obtain ⟨x4089, ex4089⟩ : ∃ z : Int32, z = fI s.heap a0 (K.1.2 10 1) := ⟨_, rfl⟩
  have bx4089 := ty_fi (x := x4089) (k := 1) ex4089 hT ga0 rg_112 rfl
  have ui00 : UN (x1.toInt = 0) (fun k => fI s.heap iq k) (fun k => fI s.heap iq k) := UN.rf
  have u400 : UN (x1.toInt ≠ 0) (fun k => fI s.heap q4 k) (fun k => fI s.heap q4 k) := UN.rf
  have u1600 : UN (x1.toInt ≠ 0) (fun k => fI s.heap q16 k) (fun k => fI s.heap q16 k) := UN.rf
  have u2400 : UN (x1.toInt ≠ 0) (fun k => fI s.heap q24 k) (fun k => fI s.heap q24 k) := UN.rf
  have u2900 : UN (x1.toInt ≠ 0) (fun k => fI s.heap q29 k) (fun k => fI s.heap q29 k) := UN.rf
  have u3000 : UN (x1.toInt ≠ 0) (fun k => fI s.heap q30 k) (fun k => fI s.heap q30 k) := UN.rf
  have u3100 : UN (x1.toInt ≠ 0) (fun k => fI s.heap q31 k) (fun k => fI s.heap q31 k) := UN.rf
  have u3200 : UN (x1.toInt ≠ 0) (fun k => fI s.heap q32 k) (fun k => fI s.heap q32 k) := UN.rf
  have u3300 : UN (x1.toInt ≠ 0) (fun k => fI s.heap q33 k) (fun k => fI s.heap q33 k) := UN.rf
  refine lv_aload_n hx hb dX10_image_0 rfl (lv_at hl 0 rfl) ?_
  refine lv_iconst (v := 0) hx hb dX10_image_1 (by decide) ?_
  refine x_put C hT hS (ci := 10) (k := 0) (v := .int 0) (ty0 := tyX10) rfl inX10 tyX10_ok nmX10 (by decide) rfl wF_X10_167 ga0 rg_112 rfl rfl (okI (by have := i_rng (0 : Int32); omega) (by have := i_rng (0 : Int32); omega)) rfl rfl (AE_in ga0 (by decide)) dX10_image_2 (fun H4090 locsH4090 hTH4090 hSH4090 wH4090 => ?_)
  have g4091 : CG (avw K H4090 a0) := CG.congr (fun k hk j => av_fld hT ga0 hap wH4090 (by decide) (CG_ok 112 (by decide) k hk) (CG_ne 0 (by decide) k hk)) hg_CG
  have g4092 : TU (avw K H4090 a0) (svw K H4090 a0) := TU.congr (fun k hk j => av_fld hT ga0 hap wH4090 (by decide) (TU_ok 112 (by decide) k hk) (TU_ne 0 (by decide) k hk)) (fun k hk => sv_fld hap wH4090 (by decide) (TU_slt k hk) (TU_sne 0 (by decide) k hk)) hg_TU
  have g4093 : WD (avw K H4090 a0) := WD.congr (fun k hk j => av_fld hT ga0 hap wH4090 (by decide) (WD_ok 112 (by decide) k hk) (WD_ne 0 (by decide) k hk)) hg_WD
  have g4094 : IM (avw K H4090 a0) := IM.congr (fun k hk j => av_fld hT ga0 hap wH4090 (by decide) (IM_ok 112 (by decide) k hk) (IM_ne 0 (by decide) k hk)) hg_IM
  have b4095 : UN (x1.toInt = 0) (fun k => fI H4090 iq k) (fun k => fI s.heap iq k) := UN.congr (fun j => Wr.neI wH4090 (Or.inl (G_ne giq ga0 (by decide)))) ui00
  have b4096 : UN (x1.toInt ≠ 0) (fun k => fI H4090 q4 k) (fun k => fI s.heap q4 k) := UN.congr (fun j => Wr.neI wH4090 (Or.inl (G_ne gq4 ga0 (by decide)))) u400
  have b4097 : UN (x1.toInt ≠ 0) (fun k => fI H4090 q16 k) (fun k => fI s.heap q16 k) := UN.congr (fun j => Wr.neI wH4090 (Or.inl (G_ne gq16 ga0 (by decide)))) u1600
  have b4098 : UN (x1.toInt ≠ 0) (fun k => fI H4090 q24 k) (fun k => fI s.heap q24 k) := UN.congr (fun j => Wr.neI wH4090 (Or.inl (G_ne gq24 ga0 (by decide)))) u2400
  have b4099 : UN (x1.toInt ≠ 0) (fun k => fI H4090 q29 k) (fun k => fI s.heap q29 k) := UN.congr (fun j => Wr.neI wH4090 (Or.inl (G_ne gq29 ga0 (by decide)))) u2900
  have b4100 : UN (x1.toInt ≠ 0) (fun k => fI H4090 q30 k) (fun k => fI s.heap q30 k) := UN.congr (fun j => Wr.neI wH4090 (Or.inl (G_ne gq30 ga0 (by decide)))) u3000
  have b4101 : UN (x1.toInt ≠ 0) (fun k => fI H4090 q31 k) (fun k => fI s.heap q31 k) := UN.congr (fun j => Wr.neI wH4090 (Or.inl (G_ne gq31 ga0 (by decide)))) u3100
  have b4102 : UN (x1.toInt ≠ 0) (fun k => fI H4090 q32 k) (fun k => fI s.heap q32 k) := UN.congr (fun j => Wr.neI wH4090 (Or.inl (G_ne gq32 ga0 (by decide)))) u3200
  have b4103 : UN (x1.toInt ≠ 0) (fun k => fI H4090 q33 k) (fun k => fI s.heap q33 k) := UN.congr (fun j => Wr.neI wH4090 (Or.inl (G_ne gq33 ga0 (by decide)))) u3300
  have m4104 := eiq.trans (Wr.neR wH4090 (Or.inr (x_apart hKT hts inX10 tyX10 tyX10_ok nmX10 rfl 73 0 (by decide) (by decide) (by decide)))).symm
  have m4105 := eq4.trans (Wr.neR wH4090 (Or.inr (x_apart hKT hts inX10 tyX10 tyX10_ok nmX10 rfl 4 0 (by decide) (by decide) (by decide)))).symm
  have m4106 := eq10.trans (Wr.neR wH4090 (Or.inr (x_apart hKT hts inX10 tyX10 tyX10_ok nmX10 rfl 10 0 (by decide) (by decide) (by decide)))).symm
  have m4107 := eq16.trans (Wr.neR wH4090 (Or.inr (x_apart hKT hts inX10 tyX10 tyX10_ok nmX10 rfl 16 0 (by decide) (by decide) (by decide)))).symm
  have m4108 := eq24.trans (Wr.neR wH4090 (Or.inr (x_apart hKT hts inX10 tyX10 tyX10_ok nmX10 rfl 24 0 (by decide) (by decide) (by decide)))).symm
  have m4109 := eq27.trans (Wr.neR wH4090 (Or.inr (x_apart hKT hts inX10 tyX10 tyX10_ok nmX10 rfl 27 0 (by decide) (by decide) (by decide)))).symm
  have m4110 := eq29.trans (Wr.neR wH4090 (Or.inr (x_apart hKT hts inX10 tyX10 tyX10_ok nmX10 rfl 29 0 (by decide) (by decide) (by decide)))).symm
  have m4111 := eq30.trans (Wr.neR wH4090 (Or.inr (x_apart hKT hts inX10 tyX10 tyX10_ok nmX10 rfl 30 0 (by decide) (by decide) (by decide)))).symm
  have m4112 := eq31.trans (Wr.neR wH4090 (Or.inr (x_apart hKT hts inX10 tyX10 tyX10_ok nmX10 rfl 31 0 (by decide) (by decide) (by decide)))).symm
  have m4113 := eq32.trans (Wr.neR wH4090 (Or.inr (x_apart hKT hts inX10 tyX10 tyX10_ok nmX10 rfl 32 0 (by decide) (by decide) (by decide)))).symm
  have m4114 := eq33.trans (Wr.neR wH4090 (Or.inr (x_apart hKT hts inX10 tyX10 tyX10_ok nmX10 rfl 33 0 (by decide) (by decide) (by decide)))).symm
  have m4115 := eq50.trans (Wr.neR wH4090 (Or.inr (x_apart hKT hts inX10 tyX10 tyX10_ok nmX10 rfl 50 0 (by decide) (by decide) (by decide)))).symm
  have m4116 := ex4089.trans (Wr.neI wH4090 (Or.inr (x_apart hKT hts inX10 tyX10 tyX10_ok nmX10 rfl 1 0 (by decide) (by decide) (by decide)))).symm
  have m4117 := Wr.I wH4090
  clear u1600 u2400 u2900 u3000 u3100 u3200 u3300 u400 ui00
  refine lv_iload_n hx hb dX10_image_5 rfl (lv_at hl 1 rfl) ?_
  refine lv_if_ne (tgt := 18) hx hb dX10_image_6 (by decide) (fun c4118 => ?_) (fun c4118 => ?_)
  · have k4119 := i_ne c4118
    refine lv_aload_n hx hb dX10_image_18 rfl (lv_at hl 0 rfl) ?_
    refine lv_iload_n hx hb dX10_image_19 rfl (lv_at hl 1 rfl) ?_
    refine x_put C hTH4090 hSH4090 (ci := 10) (k := 71) (v := .int x1) (ty0 := tyX10) rfl inX10 tyX10_ok nmX10 (by decide) rfl wF_X10_470 ga0 rg_112 rfl rfl (okI (by have := i_rng x1; omega) (by have := i_rng x1; omega)) (by rcases i_01 (x := x1) (by omega) with h | h <;> rw [h] <;> rfl) (by rcases i_01 (x := x1) (by omega) with h | h <;> rw [h] <;> rfl) (AE_in ga0 (by decide)) dX10_image_20 (fun H4120 locsH4120 hTH4120 hSH4120 wH4120 => ?_)
    have g4121 : CG (avw K H4120 a0) := CG.congr (fun k hk j => av_fld hTH4090 ga0 hap wH4120 (by decide) (CG_ok 112 (by decide) k hk) (CG_ne 71 (by decide) k hk)) g4091
    have g4122 : TU (avw K H4120 a0) (svw K H4120 a0) := TU.congr (fun k hk j => av_fld hTH4090 ga0 hap wH4120 (by decide) (TU_ok 112 (by decide) k hk) (TU_ne 71 (by decide) k hk)) (fun k hk => sv_fld hap wH4120 (by decide) (TU_slt k hk) (TU_sne 71 (by decide) k hk)) g4092
    have g4123 : WD (avw K H4120 a0) := WD.congr (fun k hk j => av_fld hTH4090 ga0 hap wH4120 (by decide) (WD_ok 112 (by decide) k hk) (WD_ne 71 (by decide) k hk)) g4093
    have g4124 : IM (avw K H4120 a0) := IM.congr (fun k hk j => av_fld hTH4090 ga0 hap wH4120 (by decide) (IM_ok 112 (by decide) k hk) (IM_ne 71 (by decide) k hk)) g4094
    have b4125 : UN (x1.toInt = 0) (fun k => fI H4120 iq k) (fun k => fI s.heap iq k) := UN.congr (fun j => Wr.neI wH4120 (Or.inl (G_ne giq ga0 (by decide)))) b4095
    have b4126 : UN (x1.toInt ≠ 0) (fun k => fI H4120 q4 k) (fun k => fI s.heap q4 k) := UN.congr (fun j => Wr.neI wH4120 (Or.inl (G_ne gq4 ga0 (by decide)))) b4096
    have b4127 : UN (x1.toInt ≠ 0) (fun k => fI H4120 q16 k) (fun k => fI s.heap q16 k) := UN.congr (fun j => Wr.neI wH4120 (Or.inl (G_ne gq16 ga0 (by decide)))) b4097
    have b4128 : UN (x1.toInt ≠ 0) (fun k => fI H4120 q24 k) (fun k => fI s.heap q24 k) := UN.congr (fun j => Wr.neI wH4120 (Or.inl (G_ne gq24 ga0 (by decide)))) b4098
    have b4129 : UN (x1.toInt ≠ 0) (fun k => fI H4120 q29 k) (fun k => fI s.heap q29 k) := UN.congr (fun j => Wr.neI wH4120 (Or.inl (G_ne gq29 ga0 (by decide)))) b4099
    have b4130 : UN (x1.toInt ≠ 0) (fun k => fI H4120 q30 k) (fun k => fI s.heap q30 k) := UN.congr (fun j => Wr.neI wH4120 (Or.inl (G_ne gq30 ga0 (by decide)))) b4100
    have b4131 : UN (x1.toInt ≠ 0) (fun k => fI H4120 q31 k) (fun k => fI s.heap q31 k) := UN.congr (fun j => Wr.neI wH4120 (Or.inl (G_ne gq31 ga0 (by decide)))) b4101
    have b4132 : UN (x1.toInt ≠ 0) (fun k => fI H4120 q32 k) (fun k => fI s.heap q32 k) := UN.congr (fun j => Wr.neI wH4120 (Or.inl (G_ne gq32 ga0 (by decide)))) b4102
    have b4133 : UN (x1.toInt ≠ 0) (fun k => fI H4120 q33 k) (fun k => fI s.heap q33 k) := UN.congr (fun j => Wr.neI wH4120 (Or.inl (G_ne gq33 ga0 (by decide)))) b4103
    have m4134 := m4104.trans (Wr.neR wH4120 (Or.inr (x_apart hKT hts inX10 tyX10 tyX10_ok nmX10 rfl 73 71 (by decide) (by decide) (by decide)))).symm
    have m4135 := m4105.trans (Wr.neR wH4120 (Or.inr (x_apart hKT hts inX10 tyX10 tyX10_ok nmX10 rfl 4 71 (by decide) (by decide) (by decide)))).symm
    have m4136 := m4106.trans (Wr.neR wH4120 (Or.inr (x_apart hKT hts inX10 tyX10 tyX10_ok nmX10 rfl 10 71 (by decide) (by decide) (by decide)))).symm
    have m4137 := m4107.trans (Wr.neR wH4120 (Or.inr (x_apart hKT hts inX10 tyX10 tyX10_ok nmX10 rfl 16 71 (by decide) (by decide) (by decide)))).symm
    have m4138 := m4108.trans (Wr.neR wH4120 (Or.inr (x_apart hKT hts inX10 tyX10 tyX10_ok nmX10 rfl 24 71 (by decide) (by decide) (by decide)))).symm
    have m4139 := m4109.trans (Wr.neR wH4120 (Or.inr (x_apart hKT hts inX10 tyX10 tyX10_ok nmX10 rfl 27 71 (by decide) (by decide) (by decide)))).symm
    have m4140 := m4110.trans (Wr.neR wH4120 (Or.inr (x_apart hKT hts inX10 tyX10 tyX10_ok nmX10 rfl 29 71 (by decide) (by decide) (by decide)))).symm
    have m4141 := m4111.trans (Wr.neR wH4120 (Or.inr (x_apart hKT hts inX10 tyX10 tyX10_ok nmX10 rfl 30 71 (by decide) (by decide) (by decide)))).symm
    have m4142 := m4112.trans (Wr.neR wH4120 (Or.inr (x_apart hKT hts inX10 tyX10 tyX10_ok nmX10 rfl 31 71 (by decide) (by decide) (by decide)))).symm
    have m4143 := m4113.trans (Wr.neR wH4120 (Or.inr (x_apart hKT hts inX10 tyX10 tyX10_ok nmX10 rfl 32 71 (by decide) (by decide) (by decide)))).symm
    have m4144 := m4114.trans (Wr.neR wH4120 (Or.inr (x_apart hKT hts inX10 tyX10 tyX10_ok nmX10 rfl 33 71 (by decide) (by decide) (by decide)))).symm
    have m4145 := m4115.trans (Wr.neR wH4120 (Or.inr (x_apart hKT hts inX10 tyX10 tyX10_ok nmX10 rfl 50 71 (by decide) (by decide) (by decide)))).symm
    have m4146 := m4116.trans (Wr.neI wH4120 (Or.inr (x_apart hKT hts inX10 tyX10 tyX10_ok nmX10 rfl 1 71 (by decide) (by decide) (by decide)))).symm
    have m4147 := (Wr.neI wH4120 (Or.inr (x_apart hKT hts inX10 tyX10 tyX10_ok nmX10 rfl 0 71 (by decide) (by decide) (by decide)))).trans m4117
    have m4148 := Wr.I wH4120
    have m4148 := m4148.symm
    clear b4095 b4096 b4097 b4098 b4099 b4100 b4101 b4102 b4103 g4091 g4092 g4093 g4094 hTH4090 m4104 m4105 m4106 m4107 m4108 m4109 m4110 m4111 m4112 m4113 m4114 m4115 m4116 m4117
    refine lv_aload_n hx hb dX10_image_23 rfl (lv_at hl 0 rfl) ?_
    refine lv_iconst (v := 1) hx hb dX10_image_24 (by decide) ?_
    refine x_put C hTH4120 hSH4120 (ci := 10) (k := 70) (v := .int 1) (ty0 := tyX10) rfl inX10 tyX10_ok nmX10 (by decide) rfl wF_X10_476 ga0 rg_112 rfl rfl (okI (by have := i_rng (1 : Int32); omega) (by have := i_rng (1 : Int32); omega)) rfl rfl (AE_in ga0 (by decide)) dX10_image_25 (fun H4149 locsH4149 hTH4149 hSH4149 wH4149 => ?_)
    have g4150 : CG (avw K H4149 a0) := CG.congr (fun k hk j => av_fld hTH4120 ga0 hap wH4149 (by decide) (CG_ok 112 (by decide) k hk) (CG_ne 70 (by decide) k hk)) g4121
    have g4151 : TU (avw K H4149 a0) (svw K H4149 a0) := TU.congr (fun k hk j => av_fld hTH4120 ga0 hap wH4149 (by decide) (TU_ok 112 (by decide) k hk) (TU_ne 70 (by decide) k hk)) (fun k hk => sv_fld hap wH4149 (by decide) (TU_slt k hk) (TU_sne 70 (by decide) k hk)) g4122
    have g4152 : WD (avw K H4149 a0) := WD.congr (fun k hk j => av_fld hTH4120 ga0 hap wH4149 (by decide) (WD_ok 112 (by decide) k hk) (WD_ne 70 (by decide) k hk)) g4123
    have g4153 : IM (avw K H4149 a0) := IM.congr (fun k hk j => av_fld hTH4120 ga0 hap wH4149 (by decide) (IM_ok 112 (by decide) k hk) (IM_ne 70 (by decide) k hk)) g4124
    have b4154 : UN (x1.toInt = 0) (fun k => fI H4149 iq k) (fun k => fI s.heap iq k) := UN.congr (fun j => Wr.neI wH4149 (Or.inl (G_ne giq ga0 (by decide)))) b4125
    have b4155 : UN (x1.toInt ≠ 0) (fun k => fI H4149 q4 k) (fun k => fI s.heap q4 k) := UN.congr (fun j => Wr.neI wH4149 (Or.inl (G_ne gq4 ga0 (by decide)))) b4126
    have b4156 : UN (x1.toInt ≠ 0) (fun k => fI H4149 q16 k) (fun k => fI s.heap q16 k) := UN.congr (fun j => Wr.neI wH4149 (Or.inl (G_ne gq16 ga0 (by decide)))) b4127
    have b4157 : UN (x1.toInt ≠ 0) (fun k => fI H4149 q24 k) (fun k => fI s.heap q24 k) := UN.congr (fun j => Wr.neI wH4149 (Or.inl (G_ne gq24 ga0 (by decide)))) b4128
    have b4158 : UN (x1.toInt ≠ 0) (fun k => fI H4149 q29 k) (fun k => fI s.heap q29 k) := UN.congr (fun j => Wr.neI wH4149 (Or.inl (G_ne gq29 ga0 (by decide)))) b4129
    have b4159 : UN (x1.toInt ≠ 0) (fun k => fI H4149 q30 k) (fun k => fI s.heap q30 k) := UN.congr (fun j => Wr.neI wH4149 (Or.inl (G_ne gq30 ga0 (by decide)))) b4130
    have b4160 : UN (x1.toInt ≠ 0) (fun k => fI H4149 q31 k) (fun k => fI s.heap q31 k) := UN.congr (fun j => Wr.neI wH4149 (Or.inl (G_ne gq31 ga0 (by decide)))) b4131
    have b4161 : UN (x1.toInt ≠ 0) (fun k => fI H4149 q32 k) (fun k => fI s.heap q32 k) := UN.congr (fun j => Wr.neI wH4149 (Or.inl (G_ne gq32 ga0 (by decide)))) b4132
    have b4162 : UN (x1.toInt ≠ 0) (fun k => fI H4149 q33 k) (fun k => fI s.heap q33 k) := UN.congr (fun j => Wr.neI wH4149 (Or.inl (G_ne gq33 ga0 (by decide)))) b4133
    have m4163 := m4134.trans (Wr.neR wH4149 (Or.inr (x_apart hKT hts inX10 tyX10 tyX10_ok nmX10 rfl 73 70 (by decide) (by decide) (by decide)))).symm
    have m4164 := m4135.trans (Wr.neR wH4149 (Or.inr (x_apart hKT hts inX10 tyX10 tyX10_ok nmX10 rfl 4 70 (by decide) (by decide) (by decide)))).symm
    have m4165 := m4136.trans (Wr.neR wH4149 (Or.inr (x_apart hKT hts inX10 tyX10 tyX10_ok nmX10 rfl 10 70 (by decide) (by decide) (by decide)))).symm
    have m4166 := m4137.trans (Wr.neR wH4149 (Or.inr (x_apart hKT hts inX10 tyX10 tyX10_ok nmX10 rfl 16 70 (by decide) (by decide) (by decide)))).symm
    have m4167 := m4138.trans (Wr.neR wH4149 (Or.inr (x_apart hKT hts inX10 tyX10 tyX10_ok nmX10 rfl 24 70 (by decide) (by decide) (by decide)))).symm
    have m4168 := m4139.trans (Wr.neR wH4149 (Or.inr (x_apart hKT hts inX10 tyX10 tyX10_ok nmX10 rfl 27 70 (by decide) (by decide) (by decide)))).symm
    have m4169 := m4140.trans (Wr.neR wH4149 (Or.inr (x_apart hKT hts inX10 tyX10 tyX10_ok nmX10 rfl 29 70 (by decide) (by decide) (by decide)))).symm
    have m4170 := m4141.trans (Wr.neR wH4149 (Or.inr (x_apart hKT hts inX10 tyX10 tyX10_ok nmX10 rfl 30 70 (by decide) (by decide) (by decide)))).symm
    have m4171 := m4142.trans (Wr.neR wH4149 (Or.inr (x_apart hKT hts inX10 tyX10 tyX10_ok nmX10 rfl 31 70 (by decide) (by decide) (by decide)))).symm
    have m4172 := m4143.trans (Wr.neR wH4149 (Or.inr (x_apart hKT hts inX10 tyX10 tyX10_ok nmX10 rfl 32 70 (by decide) (by decide) (by decide)))).symm
    have m4173 := m4144.trans (Wr.neR wH4149 (Or.inr (x_apart hKT hts inX10 tyX10 tyX10_ok nmX10 rfl 33 70 (by decide) (by decide) (by decide)))).symm
    have m4174 := m4145.trans (Wr.neR wH4149 (Or.inr (x_apart hKT hts inX10 tyX10 tyX10_ok nmX10 rfl 50 70 (by decide) (by decide) (by decide)))).symm
    have m4175 := m4146.trans (Wr.neI wH4149 (Or.inr (x_apart hKT hts inX10 tyX10 tyX10_ok nmX10 rfl 1 70 (by decide) (by decide) (by decide)))).symm
    have m4176 := (Wr.neI wH4149 (Or.inr (x_apart hKT hts inX10 tyX10 tyX10_ok nmX10 rfl 0 70 (by decide) (by decide) (by decide)))).trans m4147
    have m4177 := m4148.trans (Wr.neI wH4149 (Or.inr (x_apart hKT hts inX10 tyX10 tyX10_ok nmX10 rfl 71 70 (by decide) (by decide) (by decide)))).symm
    have m4178 := Wr.I wH4149
    clear b4125 b4126 b4127 b4128 b4129 b4130 b4131 b4132 b4133 g4121 g4122 g4123 g4124 hTH4120 m4134 m4135 m4136 m4137 m4138 m4139 m4140 m4141 m4142 m4143 m4144 m4145 m4146 m4147 m4148
    refine lv_aload_n hx hb dX10_image_28 rfl (lv_at hl 0 rfl) ?_
    refine lv_iconst (v := 0) hx hb dX10_image_29 (by decide) ?_
    refine x_put C hTH4149 hSH4149 (ci := 10) (k := 72) (v := .int 0) (ty0 := tyX10) rfl inX10 tyX10_ok nmX10 (by decide) rfl wF_X10_467 ga0 rg_112 rfl rfl (okI (by have := i_rng (0 : Int32); omega) (by have := i_rng (0 : Int32); omega)) rfl rfl (AE_in ga0 (by decide)) dX10_image_30 (fun H4179 locsH4179 hTH4179 hSH4179 wH4179 => ?_)
    have g4180 : CG (avw K H4179 a0) := CG.congr (fun k hk j => av_fld hTH4149 ga0 hap wH4179 (by decide) (CG_ok 112 (by decide) k hk) (CG_ne 72 (by decide) k hk)) g4150
    have g4181 : TU (avw K H4179 a0) (svw K H4179 a0) := TU.congr (fun k hk j => av_fld hTH4149 ga0 hap wH4179 (by decide) (TU_ok 112 (by decide) k hk) (TU_ne 72 (by decide) k hk)) (fun k hk => sv_fld hap wH4179 (by decide) (TU_slt k hk) (TU_sne 72 (by decide) k hk)) g4151
    have g4182 : WD (avw K H4179 a0) := WD.congr (fun k hk j => av_fld hTH4149 ga0 hap wH4179 (by decide) (WD_ok 112 (by decide) k hk) (WD_ne 72 (by decide) k hk)) g4152
    have g4183 : IM (avw K H4179 a0) := IM.congr (fun k hk j => av_fld hTH4149 ga0 hap wH4179 (by decide) (IM_ok 112 (by decide) k hk) (IM_ne 72 (by decide) k hk)) g4153
    have b4184 : UN (x1.toInt = 0) (fun k => fI H4179 iq k) (fun k => fI s.heap iq k) := UN.congr (fun j => Wr.neI wH4179 (Or.inl (G_ne giq ga0 (by decide)))) b4154
    have b4185 : UN (x1.toInt ≠ 0) (fun k => fI H4179 q4 k) (fun k => fI s.heap q4 k) := UN.congr (fun j => Wr.neI wH4179 (Or.inl (G_ne gq4 ga0 (by decide)))) b4155
    have b4186 : UN (x1.toInt ≠ 0) (fun k => fI H4179 q16 k) (fun k => fI s.heap q16 k) := UN.congr (fun j => Wr.neI wH4179 (Or.inl (G_ne gq16 ga0 (by decide)))) b4156
    have b4187 : UN (x1.toInt ≠ 0) (fun k => fI H4179 q24 k) (fun k => fI s.heap q24 k) := UN.congr (fun j => Wr.neI wH4179 (Or.inl (G_ne gq24 ga0 (by decide)))) b4157
    have b4188 : UN (x1.toInt ≠ 0) (fun k => fI H4179 q29 k) (fun k => fI s.heap q29 k) := UN.congr (fun j => Wr.neI wH4179 (Or.inl (G_ne gq29 ga0 (by decide)))) b4158
    have b4189 : UN (x1.toInt ≠ 0) (fun k => fI H4179 q30 k) (fun k => fI s.heap q30 k) := UN.congr (fun j => Wr.neI wH4179 (Or.inl (G_ne gq30 ga0 (by decide)))) b4159
    have b4190 : UN (x1.toInt ≠ 0) (fun k => fI H4179 q31 k) (fun k => fI s.heap q31 k) := UN.congr (fun j => Wr.neI wH4179 (Or.inl (G_ne gq31 ga0 (by decide)))) b4160
    have b4191 : UN (x1.toInt ≠ 0) (fun k => fI H4179 q32 k) (fun k => fI s.heap q32 k) := UN.congr (fun j => Wr.neI wH4179 (Or.inl (G_ne gq32 ga0 (by decide)))) b4161
    have b4192 : UN (x1.toInt ≠ 0) (fun k => fI H4179 q33 k) (fun k => fI s.heap q33 k) := UN.congr (fun j => Wr.neI wH4179 (Or.inl (G_ne gq33 ga0 (by decide)))) b4162
    have m4193 := m4163.trans (Wr.neR wH4179 (Or.inr (x_apart hKT hts inX10 tyX10 tyX10_ok nmX10 rfl 73 72 (by decide) (by decide) (by decide)))).symm
    have m4194 := m4164.trans (Wr.neR wH4179 (Or.inr (x_apart hKT hts inX10 tyX10 tyX10_ok nmX10 rfl 4 72 (by decide) (by decide) (by decide)))).symm
    have m4195 := m4165.trans (Wr.neR wH4179 (Or.inr (x_apart hKT hts inX10 tyX10 tyX10_ok nmX10 rfl 10 72 (by decide) (by decide) (by decide)))).symm
    have m4196 := m4166.trans (Wr.neR wH4179 (Or.inr (x_apart hKT hts inX10 tyX10 tyX10_ok nmX10 rfl 16 72 (by decide) (by decide) (by decide)))).symm
    have m4197 := m4167.trans (Wr.neR wH4179 (Or.inr (x_apart hKT hts inX10 tyX10 tyX10_ok nmX10 rfl 24 72 (by decide) (by decide) (by decide)))).symm
    have m4198 := m4168.trans (Wr.neR wH4179 (Or.inr (x_apart hKT hts inX10 tyX10 tyX10_ok nmX10 rfl 27 72 (by decide) (by decide) (by decide)))).symm
    have m4199 := m4169.trans (Wr.neR wH4179 (Or.inr (x_apart hKT hts inX10 tyX10 tyX10_ok nmX10 rfl 29 72 (by decide) (by decide) (by decide)))).symm
    have m4200 := m4170.trans (Wr.neR wH4179 (Or.inr (x_apart hKT hts inX10 tyX10 tyX10_ok nmX10 rfl 30 72 (by decide) (by decide) (by decide)))).symm
    have m4201 := m4171.trans (Wr.neR wH4179 (Or.inr (x_apart hKT hts inX10 tyX10 tyX10_ok nmX10 rfl 31 72 (by decide) (by decide) (by decide)))).symm
    have m4202 := m4172.trans (Wr.neR wH4179 (Or.inr (x_apart hKT hts inX10 tyX10 tyX10_ok nmX10 rfl 32 72 (by decide) (by decide) (by decide)))).symm
    have m4203 := m4173.trans (Wr.neR wH4179 (Or.inr (x_apart hKT hts inX10 tyX10 tyX10_ok nmX10 rfl 33 72 (by decide) (by decide) (by decide)))).symm
    have m4204 := m4174.trans (Wr.neR wH4179 (Or.inr (x_apart hKT hts inX10 tyX10 tyX10_ok nmX10 rfl 50 72 (by decide) (by decide) (by decide)))).symm
    have m4205 := m4175.trans (Wr.neI wH4179 (Or.inr (x_apart hKT hts inX10 tyX10 tyX10_ok nmX10 rfl 1 72 (by decide) (by decide) (by decide)))).symm
    have m4206 := (Wr.neI wH4179 (Or.inr (x_apart hKT hts inX10 tyX10 tyX10_ok nmX10 rfl 0 72 (by decide) (by decide) (by decide)))).trans m4176
    have m4207 := m4177.trans (Wr.neI wH4179 (Or.inr (x_apart hKT hts inX10 tyX10 tyX10_ok nmX10 rfl 71 72 (by decide) (by decide) (by decide)))).symm
    have m4208 := (Wr.neI wH4179 (Or.inr (x_apart hKT hts inX10 tyX10 tyX10_ok nmX10 rfl 70 72 (by decide) (by decide) (by decide)))).trans m4178
    have m4209 := Wr.I wH4179
    clear b4154 b4155 b4156 b4157 b4158 b4159 b4160 b4161 b4162 g4150 g4151 g4152 g4153 hTH4149 m4163 m4164 m4165 m4166 m4167 m4168 m4169 m4170 m4171 m4172 m4173 m4174 m4175 m4176 m4177 m4178
    refine lv_aload_n hx hb dX10_image_33 rfl (lv_at hl 0 rfl) ?_
    refine lv_aload_n hx hb dX10_image_34 rfl (lv_at hl 0 rfl) ?_
    refine lv_aload_n hx hb dX10_image_35 rfl (lv_at hl 0 rfl) ?_
    refine x_gi C hTH4179 (ci := 10) (k := 1) rfl inX10 (by decide) wF_X10_170 ga0 rg_112 rfl dX10_image_36 (fun x4210 ex4210 bx4210 => ?_)
    have ux4210 : x4089 = x4210 := (m4205).trans ex4210.symm
    subst ux4210
    refine x_V (As := [.int x4089]) (rest := [.ref a0]) C (a_X10_kept l K G H4179 (x4089) (0) (x1) hTH4179 ga0 giq m4193 (m4209).symm m4207 g4182 (by and_intros <;> first | assumption | omega)) yo_X10_kept wM_X10_473 ⟨⟨by decide, by decide⟩, by decide, by decide⟩ (x_rv C hTH4179 (ci := 10) rfl ga0 rg_112) rfl hl.1 rfl (Nat.le_of_ble_eq_true rfl) dX10_image_39 hSH4179 (AE_sub (fun _ _ => rfl) (by decide) hSH4179.1) (fun vH4211 H4211 locsH4211 pH4211 zH4211 kH4211 hSH4211 => ?_)
    obtain ⟨x4212, x4213, hvH4211, ex4213, hrH4211, m4214, g4215, mf4216, m4217, m4218, m4219, m4220, hTH4211⟩ := pH4211
    subst hvH4211
    clear zH4211
    replace m4214 := EQN.mk m4214
    have b4221 : UN (x1.toInt ≠ 0) (fun k => fI H4211 q4 k) (fun k => fI s.heap q4 k) := UN.congr (fun j => fI_kept (x_lt hTH4179 kH4211 gq4 (by decide))) b4185
    have b4222 : UN (x1.toInt ≠ 0) (fun k => fI H4211 q16 k) (fun k => fI s.heap q16 k) := UN.congr (fun j => fI_kept (x_lt hTH4179 kH4211 gq16 (by decide))) b4186
    have b4223 : UN (x1.toInt ≠ 0) (fun k => fI H4211 q24 k) (fun k => fI s.heap q24 k) := UN.congr (fun j => fI_kept (x_lt hTH4179 kH4211 gq24 (by decide))) b4187
    have b4224 : UN (x1.toInt ≠ 0) (fun k => fI H4211 q29 k) (fun k => fI s.heap q29 k) := UN.congr (fun j => fI_kept (x_lt hTH4179 kH4211 gq29 (by decide))) b4188
    have b4225 : UN (x1.toInt ≠ 0) (fun k => fI H4211 q30 k) (fun k => fI s.heap q30 k) := UN.congr (fun j => fI_kept (x_lt hTH4179 kH4211 gq30 (by decide))) b4189
    have b4226 : UN (x1.toInt ≠ 0) (fun k => fI H4211 q31 k) (fun k => fI s.heap q31 k) := UN.congr (fun j => fI_kept (x_lt hTH4179 kH4211 gq31 (by decide))) b4190
    have b4227 : UN (x1.toInt ≠ 0) (fun k => fI H4211 q32 k) (fun k => fI s.heap q32 k) := UN.congr (fun j => fI_kept (x_lt hTH4179 kH4211 gq32 (by decide))) b4191
    have b4228 : UN (x1.toInt ≠ 0) (fun k => fI H4211 q33 k) (fun k => fI s.heap q33 k) := UN.congr (fun j => fI_kept (x_lt hTH4179 kH4211 gq33 (by decide))) b4192
    have m4229 := (m4193).trans (MF.r mf4216 (k := 73) (by decide) (by decide)).symm
    have m4230 := (m4194).trans (MF.r mf4216 (k := 4) (by decide) (by decide)).symm
    have m4231 := (m4195).trans (MF.r mf4216 (k := 10) (by decide) (by decide)).symm
    have m4232 := (m4196).trans (MF.r mf4216 (k := 16) (by decide) (by decide)).symm
    have m4233 := (m4197).trans (MF.r mf4216 (k := 24) (by decide) (by decide)).symm
    have m4234 := (m4198).trans (MF.r mf4216 (k := 27) (by decide) (by decide)).symm
    have m4235 := (m4199).trans (MF.r mf4216 (k := 29) (by decide) (by decide)).symm
    have m4236 := (m4200).trans (MF.r mf4216 (k := 30) (by decide) (by decide)).symm
    have m4237 := (m4201).trans (MF.r mf4216 (k := 31) (by decide) (by decide)).symm
    have m4238 := (m4202).trans (MF.r mf4216 (k := 32) (by decide) (by decide)).symm
    have m4239 := (m4203).trans (MF.r mf4216 (k := 33) (by decide) (by decide)).symm
    have m4240 := (m4204).trans (MF.r mf4216 (k := 50) (by decide) (by decide)).symm
    have m4241 := (m4205).trans (MF.i mf4216 (k := 1) (by decide) (by decide)).symm
    have m4242 := (MF.i mf4216 (k := 0) (by decide) (by decide)).trans m4206
    have m4243 := (m4207).trans (MF.i mf4216 (k := 71) (by decide) (by decide)).symm
    have m4244 := (MF.i mf4216 (k := 70) (by decide) (by decide)).trans m4208
    have bx4213 := ty_fi (x := x4213) (k := 72) ex4213 hTH4211 ga0 rg_112 rfl
    have ce_k0 : (0 : Int32).toNatClampNeg = 0 := rfl
    have b4245 : UN (x1.toInt = 0) (fun k => fI H4211 iq k) (fun k => fI s.heap iq k) := UN.tr m4220 b4184
    clear b4184 b4185 b4186 b4187 b4188 b4189 b4190 b4191 b4192 m4193 m4194 m4195 m4196 m4197 m4198 m4199 m4200 m4201 m4202 m4203 m4204 m4205 m4206 m4207 m4208 m4209
    clear m4219 m4220
    have bx4212 : 0 ≤ x4212.toInt ∧ x4212.toInt ≤ 10 := kr (fun h0 => by have hiw := hIW; exact kr0 (w := fun k => fI H4211 iq k) m4217 (p := 0) (by omega) (b4245 h0) (hiw.1.1)) m4218 (by omega)
    have p4246 : x4212 = fI H4211 iq (0) := by have h := m4217; rw [show (0 : Int32).toNatClampNeg = 0 by omega] at h; exact h
    refine W.eq (g2 := F0 m 42 ls [.int x4212, .ref a0]) rfl ?_
    refine x_put C hTH4211 hSH4211 (ci := 10) (k := 1) (v := .int x4212) (ty0 := tyX10) rfl inX10 tyX10_ok nmX10 (by decide) rfl wF_X10_170 ga0 rg_112 rfl rfl (okI (by have := i_rng x4212; omega) (by have := i_rng x4212; omega)) rfl rfl (AE_in ga0 (by decide)) dX10_image_42 (fun H4247 locsH4247 hTH4247 hSH4247 wH4247 => ?_)
    have g4248 : WD (avw K H4247 a0) := WD.congr (fun k hk j => av_fld hTH4211 ga0 hap wH4247 (by decide) (WD_ok 112 (by decide) k hk) (WD_ne 1 (by decide) k hk)) g4215
    have b4249 : UN (x1.toInt ≠ 0) (fun k => fI H4247 q4 k) (fun k => fI s.heap q4 k) := UN.congr (fun j => Wr.neI wH4247 (Or.inl (G_ne gq4 ga0 (by decide)))) b4221
    have b4250 : UN (x1.toInt ≠ 0) (fun k => fI H4247 q16 k) (fun k => fI s.heap q16 k) := UN.congr (fun j => Wr.neI wH4247 (Or.inl (G_ne gq16 ga0 (by decide)))) b4222
    have b4251 : UN (x1.toInt ≠ 0) (fun k => fI H4247 q24 k) (fun k => fI s.heap q24 k) := UN.congr (fun j => Wr.neI wH4247 (Or.inl (G_ne gq24 ga0 (by decide)))) b4223
    have b4252 : UN (x1.toInt ≠ 0) (fun k => fI H4247 q29 k) (fun k => fI s.heap q29 k) := UN.congr (fun j => Wr.neI wH4247 (Or.inl (G_ne gq29 ga0 (by decide)))) b4224
    have b4253 : UN (x1.toInt ≠ 0) (fun k => fI H4247 q30 k) (fun k => fI s.heap q30 k) := UN.congr (fun j => Wr.neI wH4247 (Or.inl (G_ne gq30 ga0 (by decide)))) b4225
    have b4254 : UN (x1.toInt ≠ 0) (fun k => fI H4247 q31 k) (fun k => fI s.heap q31 k) := UN.congr (fun j => Wr.neI wH4247 (Or.inl (G_ne gq31 ga0 (by decide)))) b4226
    have b4255 : UN (x1.toInt ≠ 0) (fun k => fI H4247 q32 k) (fun k => fI s.heap q32 k) := UN.congr (fun j => Wr.neI wH4247 (Or.inl (G_ne gq32 ga0 (by decide)))) b4227
    have b4256 : UN (x1.toInt ≠ 0) (fun k => fI H4247 q33 k) (fun k => fI s.heap q33 k) := UN.congr (fun j => Wr.neI wH4247 (Or.inl (G_ne gq33 ga0 (by decide)))) b4228
    have b4257 : UN (x1.toInt = 0) (fun k => fI H4247 iq k) (fun k => fI s.heap iq k) := UN.congr (fun j => Wr.neI wH4247 (Or.inl (G_ne giq ga0 (by decide)))) b4245
    have b4258 : x4212 = fI H4247 iq (0) := (p4246).trans (Wr.neI wH4247 (Or.inl (G_ne giq ga0 (by decide)))).symm
    have m4259 := m4214.trans (Wr.neR wH4247 (Or.inr (x_apart hKT hts inX10 tyX10 tyX10_ok nmX10 rfl 73 1 (by decide) (by decide) (by decide)))).symm
    have m4260 := m4230.trans (Wr.neR wH4247 (Or.inr (x_apart hKT hts inX10 tyX10 tyX10_ok nmX10 rfl 4 1 (by decide) (by decide) (by decide)))).symm
    have m4261 := m4231.trans (Wr.neR wH4247 (Or.inr (x_apart hKT hts inX10 tyX10 tyX10_ok nmX10 rfl 10 1 (by decide) (by decide) (by decide)))).symm
    have m4262 := m4232.trans (Wr.neR wH4247 (Or.inr (x_apart hKT hts inX10 tyX10 tyX10_ok nmX10 rfl 16 1 (by decide) (by decide) (by decide)))).symm
    have m4263 := m4233.trans (Wr.neR wH4247 (Or.inr (x_apart hKT hts inX10 tyX10 tyX10_ok nmX10 rfl 24 1 (by decide) (by decide) (by decide)))).symm
    have m4264 := m4234.trans (Wr.neR wH4247 (Or.inr (x_apart hKT hts inX10 tyX10 tyX10_ok nmX10 rfl 27 1 (by decide) (by decide) (by decide)))).symm
    have m4265 := m4235.trans (Wr.neR wH4247 (Or.inr (x_apart hKT hts inX10 tyX10 tyX10_ok nmX10 rfl 29 1 (by decide) (by decide) (by decide)))).symm
    have m4266 := m4236.trans (Wr.neR wH4247 (Or.inr (x_apart hKT hts inX10 tyX10 tyX10_ok nmX10 rfl 30 1 (by decide) (by decide) (by decide)))).symm
    have m4267 := m4237.trans (Wr.neR wH4247 (Or.inr (x_apart hKT hts inX10 tyX10 tyX10_ok nmX10 rfl 31 1 (by decide) (by decide) (by decide)))).symm
    have m4268 := m4238.trans (Wr.neR wH4247 (Or.inr (x_apart hKT hts inX10 tyX10 tyX10_ok nmX10 rfl 32 1 (by decide) (by decide) (by decide)))).symm
    have m4269 := m4239.trans (Wr.neR wH4247 (Or.inr (x_apart hKT hts inX10 tyX10 tyX10_ok nmX10 rfl 33 1 (by decide) (by decide) (by decide)))).symm
    have m4270 := m4240.trans (Wr.neR wH4247 (Or.inr (x_apart hKT hts inX10 tyX10 tyX10_ok nmX10 rfl 50 1 (by decide) (by decide) (by decide)))).symm
    have m4272 := (Wr.neI wH4247 (Or.inr (x_apart hKT hts inX10 tyX10 tyX10_ok nmX10 rfl 0 1 (by decide) (by decide) (by decide)))).trans m4242
    have m4273 := m4243.trans (Wr.neI wH4247 (Or.inr (x_apart hKT hts inX10 tyX10 tyX10_ok nmX10 rfl 71 1 (by decide) (by decide) (by decide)))).symm
    have m4274 := (Wr.neI wH4247 (Or.inr (x_apart hKT hts inX10 tyX10 tyX10_ok nmX10 rfl 70 1 (by decide) (by decide) (by decide)))).trans m4244
    have m4275 := ex4213.trans (Wr.neI wH4247 (Or.inr (x_apart hKT hts inX10 tyX10 tyX10_ok nmX10 rfl 72 1 (by decide) (by decide) (by decide)))).symm
    have m4276 := Wr.I wH4247
    have m4276 := m4276.symm
    clear b4221 b4222 b4223 b4224 b4225 b4226 b4227 b4228 b4245 ex4213 g4215 hTH4211 m4214 m4230 m4231 m4232 m4233 m4234 m4235 m4236 m4237 m4238 m4239 m4240 m4241 m4242 m4243 m4244 p4246
    refine lv_aload_n hx hb dX10_image_45 rfl (lv_at hl 0 rfl) ?_
    refine lv_aload_n hx hb dX10_image_46 rfl (lv_at hl 0 rfl) ?_
    refine lv_aload_n hx hb dX10_image_47 rfl (lv_at hl 0 rfl) ?_
    refine x_gi C hTH4247 (ci := 10) (k := 2) rfl inX10 (by decide) wF_X10_322 ga0 rg_112 rfl dX10_image_48 (fun x4277 ex4277 bx4277 => ?_)
    refine x_V (As := [.int x4277]) (rest := [.ref a0]) C (a_X10_kept l K G H4247 (x4277) (x4213) (x1) hTH4247 ga0 giq m4259 m4275 m4273 g4248 (by and_intros <;> first | assumption | omega)) yo_X10_kept wM_X10_473 ⟨⟨by decide, by decide⟩, by decide, by decide⟩ (x_rv C hTH4247 (ci := 10) rfl ga0 rg_112) rfl hl.1 rfl (Nat.le_of_ble_eq_true rfl) dX10_image_51 hSH4247 (AE_sub (fun _ _ => rfl) (by decide) hSH4247.1) (fun vH4278 H4278 locsH4278 pH4278 zH4278 kH4278 hSH4278 => ?_)
    obtain ⟨x4279, x4280, hvH4278, ex4280, hrH4278, m4281, g4282, mf4283, m4284, m4285, m4286, m4287, hTH4278⟩ := pH4278
    subst hvH4278
    clear zH4278
    replace m4281 := EQN.mk m4281
    have b4288 : UN (x1.toInt ≠ 0) (fun k => fI H4278 q4 k) (fun k => fI s.heap q4 k) := UN.congr (fun j => fI_kept (x_lt hTH4247 kH4278 gq4 (by decide))) b4249
    have b4289 : UN (x1.toInt ≠ 0) (fun k => fI H4278 q16 k) (fun k => fI s.heap q16 k) := UN.congr (fun j => fI_kept (x_lt hTH4247 kH4278 gq16 (by decide))) b4250
    have b4290 : UN (x1.toInt ≠ 0) (fun k => fI H4278 q24 k) (fun k => fI s.heap q24 k) := UN.congr (fun j => fI_kept (x_lt hTH4247 kH4278 gq24 (by decide))) b4251
    have b4291 : UN (x1.toInt ≠ 0) (fun k => fI H4278 q29 k) (fun k => fI s.heap q29 k) := UN.congr (fun j => fI_kept (x_lt hTH4247 kH4278 gq29 (by decide))) b4252
    have b4292 : UN (x1.toInt ≠ 0) (fun k => fI H4278 q30 k) (fun k => fI s.heap q30 k) := UN.congr (fun j => fI_kept (x_lt hTH4247 kH4278 gq30 (by decide))) b4253
    have b4293 : UN (x1.toInt ≠ 0) (fun k => fI H4278 q31 k) (fun k => fI s.heap q31 k) := UN.congr (fun j => fI_kept (x_lt hTH4247 kH4278 gq31 (by decide))) b4254
    have b4294 : UN (x1.toInt ≠ 0) (fun k => fI H4278 q32 k) (fun k => fI s.heap q32 k) := UN.congr (fun j => fI_kept (x_lt hTH4247 kH4278 gq32 (by decide))) b4255
    have b4295 : UN (x1.toInt ≠ 0) (fun k => fI H4278 q33 k) (fun k => fI s.heap q33 k) := UN.congr (fun j => fI_kept (x_lt hTH4247 kH4278 gq33 (by decide))) b4256
    have m4296 := (m4259).trans (MF.r mf4283 (k := 73) (by decide) (by decide)).symm
    have m4297 := (m4260).trans (MF.r mf4283 (k := 4) (by decide) (by decide)).symm
    have m4298 := (m4261).trans (MF.r mf4283 (k := 10) (by decide) (by decide)).symm
    have m4299 := (m4262).trans (MF.r mf4283 (k := 16) (by decide) (by decide)).symm
    have m4300 := (m4263).trans (MF.r mf4283 (k := 24) (by decide) (by decide)).symm
    have m4301 := (m4264).trans (MF.r mf4283 (k := 27) (by decide) (by decide)).symm
    have m4302 := (m4265).trans (MF.r mf4283 (k := 29) (by decide) (by decide)).symm
    have m4303 := (m4266).trans (MF.r mf4283 (k := 30) (by decide) (by decide)).symm
    have m4304 := (m4267).trans (MF.r mf4283 (k := 31) (by decide) (by decide)).symm
    have m4305 := (m4268).trans (MF.r mf4283 (k := 32) (by decide) (by decide)).symm
    have m4306 := (m4269).trans (MF.r mf4283 (k := 33) (by decide) (by decide)).symm
    have m4307 := (m4270).trans (MF.r mf4283 (k := 50) (by decide) (by decide)).symm
    have m4308 := (MF.i mf4283 (k := 0) (by decide) (by decide)).trans m4272
    have m4309 := (m4273).trans (MF.i mf4283 (k := 71) (by decide) (by decide)).symm
    have m4310 := (MF.i mf4283 (k := 70) (by decide) (by decide)).trans m4274
    have m4311 := (m4276).trans (MF.i mf4283 (k := 1) (by decide) (by decide)).symm
    have m4312 := (ex4277).trans (MF.i mf4283 (k := 2) (by decide) (by decide)).symm
    have bx4280 := ty_fi (x := x4280) (k := 72) ex4280 hTH4278 ga0 rg_112 rfl
    have ce_x4213 := i_cl (x := x4213) (by omega)
    have b4313 : UN (x1.toInt = 0) (fun k => fI H4278 iq k) (fun k => fI s.heap iq k) := UN.tr m4287 b4257
    have b4314 : x4212 = fI H4278 iq (0) := (b4258).trans (m4286 _ (by omega)).symm
    clear b4249 b4250 b4251 b4252 b4253 b4254 b4255 b4256 b4257 b4258 ex4277 m4259 m4260 m4261 m4262 m4263 m4264 m4265 m4266 m4267 m4268 m4269 m4270 m4272 m4273 m4274 m4275 m4276
    clear m4286 m4287
    have bx4279 : 0 ≤ x4279.toInt ∧ x4279.toInt ≤ 1 := kr (fun h0 => by have hiw := hIW; exact kr0 (w := fun k => fI H4278 iq k) m4284 (p := 1) (by omega) (b4313 h0) (hiw.1.2.1)) m4285 (by omega)
    have p4315 : x4279 = fI H4278 iq (1) := by have h := m4284; rw [show x4213.toNatClampNeg = 1 by omega] at h; exact h
    refine W.eq (g2 := F0 m 54 ls [.int x4279, .ref a0]) rfl ?_
    refine x_put C hTH4278 hSH4278 (ci := 10) (k := 2) (v := .int x4279) (ty0 := tyX10) rfl inX10 tyX10_ok nmX10 (by decide) rfl wF_X10_322 ga0 rg_112 rfl rfl (okI (by have := i_rng x4279; omega) (by have := i_rng x4279; omega)) rfl rfl (AE_in ga0 (by decide)) dX10_image_54 (fun H4316 locsH4316 hTH4316 hSH4316 wH4316 => ?_)
    have g4317 : WD (avw K H4316 a0) := WD.congr (fun k hk j => av_fld hTH4278 ga0 hap wH4316 (by decide) (WD_ok 112 (by decide) k hk) (WD_ne 2 (by decide) k hk)) g4282
    have b4318 : UN (x1.toInt ≠ 0) (fun k => fI H4316 q4 k) (fun k => fI s.heap q4 k) := UN.congr (fun j => Wr.neI wH4316 (Or.inl (G_ne gq4 ga0 (by decide)))) b4288
    have b4319 : UN (x1.toInt ≠ 0) (fun k => fI H4316 q16 k) (fun k => fI s.heap q16 k) := UN.congr (fun j => Wr.neI wH4316 (Or.inl (G_ne gq16 ga0 (by decide)))) b4289
    have b4320 : UN (x1.toInt ≠ 0) (fun k => fI H4316 q24 k) (fun k => fI s.heap q24 k) := UN.congr (fun j => Wr.neI wH4316 (Or.inl (G_ne gq24 ga0 (by decide)))) b4290
    have b4321 : UN (x1.toInt ≠ 0) (fun k => fI H4316 q29 k) (fun k => fI s.heap q29 k) := UN.congr (fun j => Wr.neI wH4316 (Or.inl (G_ne gq29 ga0 (by decide)))) b4291
    have b4322 : UN (x1.toInt ≠ 0) (fun k => fI H4316 q30 k) (fun k => fI s.heap q30 k) := UN.congr (fun j => Wr.neI wH4316 (Or.inl (G_ne gq30 ga0 (by decide)))) b4292
    have b4323 : UN (x1.toInt ≠ 0) (fun k => fI H4316 q31 k) (fun k => fI s.heap q31 k) := UN.congr (fun j => Wr.neI wH4316 (Or.inl (G_ne gq31 ga0 (by decide)))) b4293
    have b4324 : UN (x1.toInt ≠ 0) (fun k => fI H4316 q32 k) (fun k => fI s.heap q32 k) := UN.congr (fun j => Wr.neI wH4316 (Or.inl (G_ne gq32 ga0 (by decide)))) b4294
    have b4325 : UN (x1.toInt ≠ 0) (fun k => fI H4316 q33 k) (fun k => fI s.heap q33 k) := UN.congr (fun j => Wr.neI wH4316 (Or.inl (G_ne gq33 ga0 (by decide)))) b4295
    have b4326 : UN (x1.toInt = 0) (fun k => fI H4316 iq k) (fun k => fI s.heap iq k) := UN.congr (fun j => Wr.neI wH4316 (Or.inl (G_ne giq ga0 (by decide)))) b4313
    have b4327 : x4212 = fI H4316 iq (0) := (b4314).trans (Wr.neI wH4316 (Or.inl (G_ne giq ga0 (by decide)))).symm
    have b4328 : x4279 = fI H4316 iq (1) := (p4315).trans (Wr.neI wH4316 (Or.inl (G_ne giq ga0 (by decide)))).symm
    have m4329 := m4281.trans (Wr.neR wH4316 (Or.inr (x_apart hKT hts inX10 tyX10 tyX10_ok nmX10 rfl 73 2 (by decide) (by decide) (by decide)))).symm
    have m4330 := m4297.trans (Wr.neR wH4316 (Or.inr (x_apart hKT hts inX10 tyX10 tyX10_ok nmX10 rfl 4 2 (by decide) (by decide) (by decide)))).symm
    have m4331 := m4298.trans (Wr.neR wH4316 (Or.inr (x_apart hKT hts inX10 tyX10 tyX10_ok nmX10 rfl 10 2 (by decide) (by decide) (by decide)))).symm
    have m4332 := m4299.trans (Wr.neR wH4316 (Or.inr (x_apart hKT hts inX10 tyX10 tyX10_ok nmX10 rfl 16 2 (by decide) (by decide) (by decide)))).symm
    have m4333 := m4300.trans (Wr.neR wH4316 (Or.inr (x_apart hKT hts inX10 tyX10 tyX10_ok nmX10 rfl 24 2 (by decide) (by decide) (by decide)))).symm
    have m4334 := m4301.trans (Wr.neR wH4316 (Or.inr (x_apart hKT hts inX10 tyX10 tyX10_ok nmX10 rfl 27 2 (by decide) (by decide) (by decide)))).symm
    have m4335 := m4302.trans (Wr.neR wH4316 (Or.inr (x_apart hKT hts inX10 tyX10 tyX10_ok nmX10 rfl 29 2 (by decide) (by decide) (by decide)))).symm
    have m4336 := m4303.trans (Wr.neR wH4316 (Or.inr (x_apart hKT hts inX10 tyX10 tyX10_ok nmX10 rfl 30 2 (by decide) (by decide) (by decide)))).symm
    have m4337 := m4304.trans (Wr.neR wH4316 (Or.inr (x_apart hKT hts inX10 tyX10 tyX10_ok nmX10 rfl 31 2 (by decide) (by decide) (by decide)))).symm
    have m4338 := m4305.trans (Wr.neR wH4316 (Or.inr (x_apart hKT hts inX10 tyX10 tyX10_ok nmX10 rfl 32 2 (by decide) (by decide) (by decide)))).symm
    have m4339 := m4306.trans (Wr.neR wH4316 (Or.inr (x_apart hKT hts inX10 tyX10 tyX10_ok nmX10 rfl 33 2 (by decide) (by decide) (by decide)))).symm
    have m4340 := m4307.trans (Wr.neR wH4316 (Or.inr (x_apart hKT hts inX10 tyX10 tyX10_ok nmX10 rfl 50 2 (by decide) (by decide) (by decide)))).symm
    have m4341 := (Wr.neI wH4316 (Or.inr (x_apart hKT hts inX10 tyX10 tyX10_ok nmX10 rfl 0 2 (by decide) (by decide) (by decide)))).trans m4308
    have m4342 := m4309.trans (Wr.neI wH4316 (Or.inr (x_apart hKT hts inX10 tyX10 tyX10_ok nmX10 rfl 71 2 (by decide) (by decide) (by decide)))).symm
    have m4343 := (Wr.neI wH4316 (Or.inr (x_apart hKT hts inX10 tyX10 tyX10_ok nmX10 rfl 70 2 (by decide) (by decide) (by decide)))).trans m4310
    have m4344 := m4311.trans (Wr.neI wH4316 (Or.inr (x_apart hKT hts inX10 tyX10 tyX10_ok nmX10 rfl 1 2 (by decide) (by decide) (by decide)))).symm
    have m4346 := ex4280.trans (Wr.neI wH4316 (Or.inr (x_apart hKT hts inX10 tyX10 tyX10_ok nmX10 rfl 72 2 (by decide) (by decide) (by decide)))).symm
    have m4347 := Wr.I wH4316
    have m4347 := m4347.symm
    clear b4288 b4289 b4290 b4291 b4292 b4293 b4294 b4295 b4313 b4314 ex4280 g4282 hTH4278 m4281 m4297 m4298 m4299 m4300 m4301 m4302 m4303 m4304 m4305 m4306 m4307 m4308 m4309 m4310 m4311 m4312 p4315
    refine lv_aload_n hx hb dX10_image_57 rfl (lv_at hl 0 rfl) ?_
    refine lv_aload_n hx hb dX10_image_58 rfl (lv_at hl 0 rfl) ?_
    refine lv_aload_n hx hb dX10_image_59 rfl (lv_at hl 0 rfl) ?_
    refine x_gi C hTH4316 (ci := 10) (k := 3) rfl inX10 (by decide) wF_X10_7 ga0 rg_112 rfl dX10_image_60 (fun x4348 ex4348 bx4348 => ?_)
    refine x_V (As := [.int x4348]) (rest := [.ref a0]) C (a_X10_kept l K G H4316 (x4348) (x4280) (x1) hTH4316 ga0 giq m4329 m4346 m4342 g4317 (by and_intros <;> first | assumption | omega)) yo_X10_kept wM_X10_473 ⟨⟨by decide, by decide⟩, by decide, by decide⟩ (x_rv C hTH4316 (ci := 10) rfl ga0 rg_112) rfl hl.1 rfl (Nat.le_of_ble_eq_true rfl) dX10_image_63 hSH4316 (AE_sub (fun _ _ => rfl) (by decide) hSH4316.1) (fun vH4349 H4349 locsH4349 pH4349 zH4349 kH4349 hSH4349 => ?_)
    obtain ⟨x4350, x4351, hvH4349, ex4351, hrH4349, m4352, g4353, mf4354, m4355, m4356, m4357, m4358, hTH4349⟩ := pH4349
    subst hvH4349
    clear zH4349
    replace m4352 := EQN.mk m4352
    have b4359 : UN (x1.toInt ≠ 0) (fun k => fI H4349 q4 k) (fun k => fI s.heap q4 k) := UN.congr (fun j => fI_kept (x_lt hTH4316 kH4349 gq4 (by decide))) b4318
    have b4360 : UN (x1.toInt ≠ 0) (fun k => fI H4349 q16 k) (fun k => fI s.heap q16 k) := UN.congr (fun j => fI_kept (x_lt hTH4316 kH4349 gq16 (by decide))) b4319
    have b4361 : UN (x1.toInt ≠ 0) (fun k => fI H4349 q24 k) (fun k => fI s.heap q24 k) := UN.congr (fun j => fI_kept (x_lt hTH4316 kH4349 gq24 (by decide))) b4320
    have b4362 : UN (x1.toInt ≠ 0) (fun k => fI H4349 q29 k) (fun k => fI s.heap q29 k) := UN.congr (fun j => fI_kept (x_lt hTH4316 kH4349 gq29 (by decide))) b4321
    have b4363 : UN (x1.toInt ≠ 0) (fun k => fI H4349 q30 k) (fun k => fI s.heap q30 k) := UN.congr (fun j => fI_kept (x_lt hTH4316 kH4349 gq30 (by decide))) b4322
    have b4364 : UN (x1.toInt ≠ 0) (fun k => fI H4349 q31 k) (fun k => fI s.heap q31 k) := UN.congr (fun j => fI_kept (x_lt hTH4316 kH4349 gq31 (by decide))) b4323
    have b4365 : UN (x1.toInt ≠ 0) (fun k => fI H4349 q32 k) (fun k => fI s.heap q32 k) := UN.congr (fun j => fI_kept (x_lt hTH4316 kH4349 gq32 (by decide))) b4324
    have b4366 : UN (x1.toInt ≠ 0) (fun k => fI H4349 q33 k) (fun k => fI s.heap q33 k) := UN.congr (fun j => fI_kept (x_lt hTH4316 kH4349 gq33 (by decide))) b4325
    have m4367 := (m4329).trans (MF.r mf4354 (k := 73) (by decide) (by decide)).symm
    have m4368 := (m4330).trans (MF.r mf4354 (k := 4) (by decide) (by decide)).symm
    have m4369 := (m4331).trans (MF.r mf4354 (k := 10) (by decide) (by decide)).symm
    have m4370 := (m4332).trans (MF.r mf4354 (k := 16) (by decide) (by decide)).symm
    have m4371 := (m4333).trans (MF.r mf4354 (k := 24) (by decide) (by decide)).symm
    have m4372 := (m4334).trans (MF.r mf4354 (k := 27) (by decide) (by decide)).symm
    have m4373 := (m4335).trans (MF.r mf4354 (k := 29) (by decide) (by decide)).symm
    have m4374 := (m4336).trans (MF.r mf4354 (k := 30) (by decide) (by decide)).symm
    have m4375 := (m4337).trans (MF.r mf4354 (k := 31) (by decide) (by decide)).symm
    have m4376 := (m4338).trans (MF.r mf4354 (k := 32) (by decide) (by decide)).symm
    have m4377 := (m4339).trans (MF.r mf4354 (k := 33) (by decide) (by decide)).symm
    have m4378 := (m4340).trans (MF.r mf4354 (k := 50) (by decide) (by decide)).symm
    have m4379 := (MF.i mf4354 (k := 0) (by decide) (by decide)).trans m4341
    have m4380 := (m4342).trans (MF.i mf4354 (k := 71) (by decide) (by decide)).symm
    have m4381 := (MF.i mf4354 (k := 70) (by decide) (by decide)).trans m4343
    have m4382 := (m4344).trans (MF.i mf4354 (k := 1) (by decide) (by decide)).symm
    have m4383 := (m4347).trans (MF.i mf4354 (k := 2) (by decide) (by decide)).symm
    have m4384 := (ex4348).trans (MF.i mf4354 (k := 3) (by decide) (by decide)).symm
    have bx4351 := ty_fi (x := x4351) (k := 72) ex4351 hTH4349 ga0 rg_112 rfl
    have ce_x4280 := i_cl (x := x4280) (by omega)
    have b4385 : UN (x1.toInt = 0) (fun k => fI H4349 iq k) (fun k => fI s.heap iq k) := UN.tr m4358 b4326
    have b4386 : x4212 = fI H4349 iq (0) := (b4327).trans (m4357 _ (by omega)).symm
    have b4387 : x4279 = fI H4349 iq (1) := (b4328).trans (m4357 _ (by omega)).symm
    clear b4318 b4319 b4320 b4321 b4322 b4323 b4324 b4325 b4326 b4327 b4328 ex4348 m4329 m4330 m4331 m4332 m4333 m4334 m4335 m4336 m4337 m4338 m4339 m4340 m4341 m4342 m4343 m4344 m4346 m4347
    clear m4357 m4358
    refine W.eq (g2 := F0 m 66 ls [.int x4350, .ref a0]) rfl ?_
    refine x_put C hTH4349 hSH4349 (ci := 10) (k := 3) (v := .int x4350) (ty0 := tyX10) rfl inX10 tyX10_ok nmX10 (by decide) rfl wF_X10_7 ga0 rg_112 rfl rfl (okI (by have := i_rng x4350; omega) (by have := i_rng x4350; omega)) rfl rfl (AE_in ga0 (by decide)) dX10_image_66 (fun H4388 locsH4388 hTH4388 hSH4388 wH4388 => ?_)
    have g4389 : WD (avw K H4388 a0) := WD.congr (fun k hk j => av_fld hTH4349 ga0 hap wH4388 (by decide) (WD_ok 112 (by decide) k hk) (WD_ne 3 (by decide) k hk)) g4353
    have b4390 : UN (x1.toInt ≠ 0) (fun k => fI H4388 q4 k) (fun k => fI s.heap q4 k) := UN.congr (fun j => Wr.neI wH4388 (Or.inl (G_ne gq4 ga0 (by decide)))) b4359
    have b4391 : UN (x1.toInt ≠ 0) (fun k => fI H4388 q16 k) (fun k => fI s.heap q16 k) := UN.congr (fun j => Wr.neI wH4388 (Or.inl (G_ne gq16 ga0 (by decide)))) b4360
    have b4392 : UN (x1.toInt ≠ 0) (fun k => fI H4388 q24 k) (fun k => fI s.heap q24 k) := UN.congr (fun j => Wr.neI wH4388 (Or.inl (G_ne gq24 ga0 (by decide)))) b4361
    have b4393 : UN (x1.toInt ≠ 0) (fun k => fI H4388 q29 k) (fun k => fI s.heap q29 k) := UN.congr (fun j => Wr.neI wH4388 (Or.inl (G_ne gq29 ga0 (by decide)))) b4362
    have b4394 : UN (x1.toInt ≠ 0) (fun k => fI H4388 q30 k) (fun k => fI s.heap q30 k) := UN.congr (fun j => Wr.neI wH4388 (Or.inl (G_ne gq30 ga0 (by decide)))) b4363
    have b4395 : UN (x1.toInt ≠ 0) (fun k => fI H4388 q31 k) (fun k => fI s.heap q31 k) := UN.congr (fun j => Wr.neI wH4388 (Or.inl (G_ne gq31 ga0 (by decide)))) b4364
    have b4396 : UN (x1.toInt ≠ 0) (fun k => fI H4388 q32 k) (fun k => fI s.heap q32 k) := UN.congr (fun j => Wr.neI wH4388 (Or.inl (G_ne gq32 ga0 (by decide)))) b4365
    have b4397 : UN (x1.toInt ≠ 0) (fun k => fI H4388 q33 k) (fun k => fI s.heap q33 k) := UN.congr (fun j => Wr.neI wH4388 (Or.inl (G_ne gq33 ga0 (by decide)))) b4366
    have b4398 : UN (x1.toInt = 0) (fun k => fI H4388 iq k) (fun k => fI s.heap iq k) := UN.congr (fun j => Wr.neI wH4388 (Or.inl (G_ne giq ga0 (by decide)))) b4385
    have b4399 : x4212 = fI H4388 iq (0) := (b4386).trans (Wr.neI wH4388 (Or.inl (G_ne giq ga0 (by decide)))).symm
    have b4400 : x4279 = fI H4388 iq (1) := (b4387).trans (Wr.neI wH4388 (Or.inl (G_ne giq ga0 (by decide)))).symm
    have m4401 := m4352.trans (Wr.neR wH4388 (Or.inr (x_apart hKT hts inX10 tyX10 tyX10_ok nmX10 rfl 73 3 (by decide) (by decide) (by decide)))).symm
    have m4402 := m4368.trans (Wr.neR wH4388 (Or.inr (x_apart hKT hts inX10 tyX10 tyX10_ok nmX10 rfl 4 3 (by decide) (by decide) (by decide)))).symm
    have m4403 := m4369.trans (Wr.neR wH4388 (Or.inr (x_apart hKT hts inX10 tyX10 tyX10_ok nmX10 rfl 10 3 (by decide) (by decide) (by decide)))).symm
    have m4404 := m4370.trans (Wr.neR wH4388 (Or.inr (x_apart hKT hts inX10 tyX10 tyX10_ok nmX10 rfl 16 3 (by decide) (by decide) (by decide)))).symm
    have m4405 := m4371.trans (Wr.neR wH4388 (Or.inr (x_apart hKT hts inX10 tyX10 tyX10_ok nmX10 rfl 24 3 (by decide) (by decide) (by decide)))).symm
    have m4406 := m4372.trans (Wr.neR wH4388 (Or.inr (x_apart hKT hts inX10 tyX10 tyX10_ok nmX10 rfl 27 3 (by decide) (by decide) (by decide)))).symm
    have m4407 := m4373.trans (Wr.neR wH4388 (Or.inr (x_apart hKT hts inX10 tyX10 tyX10_ok nmX10 rfl 29 3 (by decide) (by decide) (by decide)))).symm
    have m4408 := m4374.trans (Wr.neR wH4388 (Or.inr (x_apart hKT hts inX10 tyX10 tyX10_ok nmX10 rfl 30 3 (by decide) (by decide) (by decide)))).symm
    have m4409 := m4375.trans (Wr.neR wH4388 (Or.inr (x_apart hKT hts inX10 tyX10 tyX10_ok nmX10 rfl 31 3 (by decide) (by decide) (by decide)))).symm
    have m4410 := m4376.trans (Wr.neR wH4388 (Or.inr (x_apart hKT hts inX10 tyX10 tyX10_ok nmX10 rfl 32 3 (by decide) (by decide) (by decide)))).symm
    have m4411 := m4377.trans (Wr.neR wH4388 (Or.inr (x_apart hKT hts inX10 tyX10 tyX10_ok nmX10 rfl 33 3 (by decide) (by decide) (by decide)))).symm
    have m4412 := m4378.trans (Wr.neR wH4388 (Or.inr (x_apart hKT hts inX10 tyX10 tyX10_ok nmX10 rfl 50 3 (by decide) (by decide) (by decide)))).symm
    have m4413 := (Wr.neI wH4388 (Or.inr (x_apart hKT hts inX10 tyX10 tyX10_ok nmX10 rfl 0 3 (by decide) (by decide) (by decide)))).trans m4379
    have m4414 := m4380.trans (Wr.neI wH4388 (Or.inr (x_apart hKT hts inX10 tyX10 tyX10_ok nmX10 rfl 71 3 (by decide) (by decide) (by decide)))).symm
    have m4415 := (Wr.neI wH4388 (Or.inr (x_apart hKT hts inX10 tyX10 tyX10_ok nmX10 rfl 70 3 (by decide) (by decide) (by decide)))).trans m4381
    have m4416 := m4382.trans (Wr.neI wH4388 (Or.inr (x_apart hKT hts inX10 tyX10 tyX10_ok nmX10 rfl 1 3 (by decide) (by decide) (by decide)))).symm
    have m4417 := m4383.trans (Wr.neI wH4388 (Or.inr (x_apart hKT hts inX10 tyX10 tyX10_ok nmX10 rfl 2 3 (by decide) (by decide) (by decide)))).symm
    have m4419 := ex4351.trans (Wr.neI wH4388 (Or.inr (x_apart hKT hts inX10 tyX10 tyX10_ok nmX10 rfl 72 3 (by decide) (by decide) (by decide)))).symm
    have m4420 := Wr.I wH4388
    have m4420 := m4420.symm
    clear b4359 b4360 b4361 b4362 b4363 b4364 b4365 b4366 b4385 b4386 b4387 ex4351 g4353 hTH4349 m4352 m4368 m4369 m4370 m4371 m4372 m4373 m4374 m4375 m4376 m4377 m4378 m4379 m4380 m4381 m4382 m4383 m4384
    refine lv_aload_n hx hb dX10_image_69 rfl (lv_at hl 0 rfl) ?_
    refine lv_aload_n hx hb dX10_image_70 rfl (lv_at hl 0 rfl) ?_
    refine lv_aload_n hx hb dX10_image_71 rfl (lv_at hl 0 rfl) ?_
    refine x_gi C hTH4388 (ci := 10) (k := 59) rfl inX10 (by decide) wF_X10_438 ga0 rg_112 rfl dX10_image_72 (fun x4421 ex4421 bx4421 => ?_)
    refine x_V (As := [.int x4421]) (rest := [.ref a0]) C (a_X10_kept l K G H4388 (x4421) (x4351) (x1) hTH4388 ga0 giq m4401 m4419 m4414 g4389 (by and_intros <;> first | assumption | omega)) yo_X10_kept wM_X10_473 ⟨⟨by decide, by decide⟩, by decide, by decide⟩ (x_rv C hTH4388 (ci := 10) rfl ga0 rg_112) rfl hl.1 rfl (Nat.le_of_ble_eq_true rfl) dX10_image_75 hSH4388 (AE_sub (fun _ _ => rfl) (by decide) hSH4388.1) (fun vH4422 H4422 locsH4422 pH4422 zH4422 kH4422 hSH4422 => ?_)
    obtain ⟨x4423, x4424, hvH4422, ex4424, hrH4422, m4425, g4426, mf4427, m4428, m4429, m4430, m4431, hTH4422⟩ := pH4422
    subst hvH4422
    clear zH4422
    replace m4425 := EQN.mk m4425
    have b4432 : UN (x1.toInt ≠ 0) (fun k => fI H4422 q4 k) (fun k => fI s.heap q4 k) := UN.congr (fun j => fI_kept (x_lt hTH4388 kH4422 gq4 (by decide))) b4390
    have b4433 : UN (x1.toInt ≠ 0) (fun k => fI H4422 q16 k) (fun k => fI s.heap q16 k) := UN.congr (fun j => fI_kept (x_lt hTH4388 kH4422 gq16 (by decide))) b4391
    have b4434 : UN (x1.toInt ≠ 0) (fun k => fI H4422 q24 k) (fun k => fI s.heap q24 k) := UN.congr (fun j => fI_kept (x_lt hTH4388 kH4422 gq24 (by decide))) b4392
    have b4435 : UN (x1.toInt ≠ 0) (fun k => fI H4422 q29 k) (fun k => fI s.heap q29 k) := UN.congr (fun j => fI_kept (x_lt hTH4388 kH4422 gq29 (by decide))) b4393
    have b4436 : UN (x1.toInt ≠ 0) (fun k => fI H4422 q30 k) (fun k => fI s.heap q30 k) := UN.congr (fun j => fI_kept (x_lt hTH4388 kH4422 gq30 (by decide))) b4394
    have b4437 : UN (x1.toInt ≠ 0) (fun k => fI H4422 q31 k) (fun k => fI s.heap q31 k) := UN.congr (fun j => fI_kept (x_lt hTH4388 kH4422 gq31 (by decide))) b4395
    have b4438 : UN (x1.toInt ≠ 0) (fun k => fI H4422 q32 k) (fun k => fI s.heap q32 k) := UN.congr (fun j => fI_kept (x_lt hTH4388 kH4422 gq32 (by decide))) b4396
    have b4439 : UN (x1.toInt ≠ 0) (fun k => fI H4422 q33 k) (fun k => fI s.heap q33 k) := UN.congr (fun j => fI_kept (x_lt hTH4388 kH4422 gq33 (by decide))) b4397
    have m4440 := (m4401).trans (MF.r mf4427 (k := 73) (by decide) (by decide)).symm
    have m4441 := (m4402).trans (MF.r mf4427 (k := 4) (by decide) (by decide)).symm
    have m4442 := (m4403).trans (MF.r mf4427 (k := 10) (by decide) (by decide)).symm
    have m4443 := (m4404).trans (MF.r mf4427 (k := 16) (by decide) (by decide)).symm
    have m4444 := (m4405).trans (MF.r mf4427 (k := 24) (by decide) (by decide)).symm
    have m4445 := (m4406).trans (MF.r mf4427 (k := 27) (by decide) (by decide)).symm
    have m4446 := (m4407).trans (MF.r mf4427 (k := 29) (by decide) (by decide)).symm
    have m4447 := (m4408).trans (MF.r mf4427 (k := 30) (by decide) (by decide)).symm
    have m4448 := (m4409).trans (MF.r mf4427 (k := 31) (by decide) (by decide)).symm
    have m4449 := (m4410).trans (MF.r mf4427 (k := 32) (by decide) (by decide)).symm
    have m4450 := (m4411).trans (MF.r mf4427 (k := 33) (by decide) (by decide)).symm
    have m4451 := (m4412).trans (MF.r mf4427 (k := 50) (by decide) (by decide)).symm
    have m4452 := (MF.i mf4427 (k := 0) (by decide) (by decide)).trans m4413
    have m4453 := (m4414).trans (MF.i mf4427 (k := 71) (by decide) (by decide)).symm
    have m4454 := (MF.i mf4427 (k := 70) (by decide) (by decide)).trans m4415
    have m4455 := (m4416).trans (MF.i mf4427 (k := 1) (by decide) (by decide)).symm
    have m4456 := (m4417).trans (MF.i mf4427 (k := 2) (by decide) (by decide)).symm
    have m4457 := (m4420).trans (MF.i mf4427 (k := 3) (by decide) (by decide)).symm
    have m4458 := (ex4421).trans (MF.i mf4427 (k := 59) (by decide) (by decide)).symm
    have bx4424 := ty_fi (x := x4424) (k := 72) ex4424 hTH4422 ga0 rg_112 rfl
    have ce_x4351 := i_cl (x := x4351) (by omega)
    have b4459 : UN (x1.toInt = 0) (fun k => fI H4422 iq k) (fun k => fI s.heap iq k) := UN.tr m4431 b4398
    have b4460 : x4212 = fI H4422 iq (0) := (b4399).trans (m4430 _ (by omega)).symm
    have b4461 : x4279 = fI H4422 iq (1) := (b4400).trans (m4430 _ (by omega)).symm
    clear b4390 b4391 b4392 b4393 b4394 b4395 b4396 b4397 b4398 b4399 b4400 ex4421 m4401 m4402 m4403 m4404 m4405 m4406 m4407 m4408 m4409 m4410 m4411 m4412 m4413 m4414 m4415 m4416 m4417 m4419 m4420
    clear m4430 m4431
    have bx4423 : 0 ≤ x4423.toInt ∧ x4423.toInt ≤ 20 := kr (fun h0 => by have hiw := hIW; exact kr0 (w := fun k => fI H4422 iq k) m4428 (p := 3) (by omega) (b4459 h0) (hiw.1.2.2.1)) m4429 (by omega)
    have p4462 : x4423 = fI H4422 iq (3) := by have h := m4428; rw [show x4351.toNatClampNeg = 3 by omega] at h; exact h
    refine W.eq (g2 := F0 m 78 ls [.int x4423, .ref a0]) rfl ?_
    refine x_put C hTH4422 hSH4422 (ci := 10) (k := 59) (v := .int x4423) (ty0 := tyX10) rfl inX10 tyX10_ok nmX10 (by decide) rfl wF_X10_438 ga0 rg_112 rfl rfl (okI (by have := i_rng x4423; omega) (by have := i_rng x4423; omega)) rfl rfl (AE_in ga0 (by decide)) dX10_image_78 (fun H4463 locsH4463 hTH4463 hSH4463 wH4463 => ?_)
    have g4464 : WD (avw K H4463 a0) := WD.congr (fun k hk j => av_fld hTH4422 ga0 hap wH4463 (by decide) (WD_ok 112 (by decide) k hk) (WD_ne 59 (by decide) k hk)) g4426
    have b4465 : UN (x1.toInt ≠ 0) (fun k => fI H4463 q4 k) (fun k => fI s.heap q4 k) := UN.congr (fun j => Wr.neI wH4463 (Or.inl (G_ne gq4 ga0 (by decide)))) b4432
    have b4466 : UN (x1.toInt ≠ 0) (fun k => fI H4463 q16 k) (fun k => fI s.heap q16 k) := UN.congr (fun j => Wr.neI wH4463 (Or.inl (G_ne gq16 ga0 (by decide)))) b4433
    have b4467 : UN (x1.toInt ≠ 0) (fun k => fI H4463 q24 k) (fun k => fI s.heap q24 k) := UN.congr (fun j => Wr.neI wH4463 (Or.inl (G_ne gq24 ga0 (by decide)))) b4434
    have b4468 : UN (x1.toInt ≠ 0) (fun k => fI H4463 q29 k) (fun k => fI s.heap q29 k) := UN.congr (fun j => Wr.neI wH4463 (Or.inl (G_ne gq29 ga0 (by decide)))) b4435
    have b4469 : UN (x1.toInt ≠ 0) (fun k => fI H4463 q30 k) (fun k => fI s.heap q30 k) := UN.congr (fun j => Wr.neI wH4463 (Or.inl (G_ne gq30 ga0 (by decide)))) b4436
    have b4470 : UN (x1.toInt ≠ 0) (fun k => fI H4463 q31 k) (fun k => fI s.heap q31 k) := UN.congr (fun j => Wr.neI wH4463 (Or.inl (G_ne gq31 ga0 (by decide)))) b4437
    have b4471 : UN (x1.toInt ≠ 0) (fun k => fI H4463 q32 k) (fun k => fI s.heap q32 k) := UN.congr (fun j => Wr.neI wH4463 (Or.inl (G_ne gq32 ga0 (by decide)))) b4438
    have b4472 : UN (x1.toInt ≠ 0) (fun k => fI H4463 q33 k) (fun k => fI s.heap q33 k) := UN.congr (fun j => Wr.neI wH4463 (Or.inl (G_ne gq33 ga0 (by decide)))) b4439
    have b4473 : UN (x1.toInt = 0) (fun k => fI H4463 iq k) (fun k => fI s.heap iq k) := UN.congr (fun j => Wr.neI wH4463 (Or.inl (G_ne giq ga0 (by decide)))) b4459
    have b4474 : x4212 = fI H4463 iq (0) := (b4460).trans (Wr.neI wH4463 (Or.inl (G_ne giq ga0 (by decide)))).symm
    have b4475 : x4279 = fI H4463 iq (1) := (b4461).trans (Wr.neI wH4463 (Or.inl (G_ne giq ga0 (by decide)))).symm
    have b4476 : x4423 = fI H4463 iq (3) := (p4462).trans (Wr.neI wH4463 (Or.inl (G_ne giq ga0 (by decide)))).symm
    have m4477 := m4425.trans (Wr.neR wH4463 (Or.inr (x_apart hKT hts inX10 tyX10 tyX10_ok nmX10 rfl 73 59 (by decide) (by decide) (by decide)))).symm
    have m4478 := m4441.trans (Wr.neR wH4463 (Or.inr (x_apart hKT hts inX10 tyX10 tyX10_ok nmX10 rfl 4 59 (by decide) (by decide) (by decide)))).symm
    have m4479 := m4442.trans (Wr.neR wH4463 (Or.inr (x_apart hKT hts inX10 tyX10 tyX10_ok nmX10 rfl 10 59 (by decide) (by decide) (by decide)))).symm
    have m4480 := m4443.trans (Wr.neR wH4463 (Or.inr (x_apart hKT hts inX10 tyX10 tyX10_ok nmX10 rfl 16 59 (by decide) (by decide) (by decide)))).symm
    have m4481 := m4444.trans (Wr.neR wH4463 (Or.inr (x_apart hKT hts inX10 tyX10 tyX10_ok nmX10 rfl 24 59 (by decide) (by decide) (by decide)))).symm
    have m4482 := m4445.trans (Wr.neR wH4463 (Or.inr (x_apart hKT hts inX10 tyX10 tyX10_ok nmX10 rfl 27 59 (by decide) (by decide) (by decide)))).symm
    have m4483 := m4446.trans (Wr.neR wH4463 (Or.inr (x_apart hKT hts inX10 tyX10 tyX10_ok nmX10 rfl 29 59 (by decide) (by decide) (by decide)))).symm
    have m4484 := m4447.trans (Wr.neR wH4463 (Or.inr (x_apart hKT hts inX10 tyX10 tyX10_ok nmX10 rfl 30 59 (by decide) (by decide) (by decide)))).symm
    have m4485 := m4448.trans (Wr.neR wH4463 (Or.inr (x_apart hKT hts inX10 tyX10 tyX10_ok nmX10 rfl 31 59 (by decide) (by decide) (by decide)))).symm
    have m4486 := m4449.trans (Wr.neR wH4463 (Or.inr (x_apart hKT hts inX10 tyX10 tyX10_ok nmX10 rfl 32 59 (by decide) (by decide) (by decide)))).symm
    have m4487 := m4450.trans (Wr.neR wH4463 (Or.inr (x_apart hKT hts inX10 tyX10 tyX10_ok nmX10 rfl 33 59 (by decide) (by decide) (by decide)))).symm
    have m4488 := m4451.trans (Wr.neR wH4463 (Or.inr (x_apart hKT hts inX10 tyX10 tyX10_ok nmX10 rfl 50 59 (by decide) (by decide) (by decide)))).symm
    have m4489 := (Wr.neI wH4463 (Or.inr (x_apart hKT hts inX10 tyX10 tyX10_ok nmX10 rfl 0 59 (by decide) (by decide) (by decide)))).trans m4452
    have m4490 := m4453.trans (Wr.neI wH4463 (Or.inr (x_apart hKT hts inX10 tyX10 tyX10_ok nmX10 rfl 71 59 (by decide) (by decide) (by decide)))).symm
    have m4491 := (Wr.neI wH4463 (Or.inr (x_apart hKT hts inX10 tyX10 tyX10_ok nmX10 rfl 70 59 (by decide) (by decide) (by decide)))).trans m4454
    have m4492 := m4455.trans (Wr.neI wH4463 (Or.inr (x_apart hKT hts inX10 tyX10 tyX10_ok nmX10 rfl 1 59 (by decide) (by decide) (by decide)))).symm
    have m4493 := m4456.trans (Wr.neI wH4463 (Or.inr (x_apart hKT hts inX10 tyX10 tyX10_ok nmX10 rfl 2 59 (by decide) (by decide) (by decide)))).symm
    have m4494 := m4457.trans (Wr.neI wH4463 (Or.inr (x_apart hKT hts inX10 tyX10 tyX10_ok nmX10 rfl 3 59 (by decide) (by decide) (by decide)))).symm
    have m4496 := ex4424.trans (Wr.neI wH4463 (Or.inr (x_apart hKT hts inX10 tyX10 tyX10_ok nmX10 rfl 72 59 (by decide) (by decide) (by decide)))).symm
    have m4497 := Wr.I wH4463
    have m4497 := m4497.symm
    clear b4432 b4433 b4434 b4435 b4436 b4437 b4438 b4439 b4459 b4460 b4461 ex4424 g4426 hTH4422 m4425 m4441 m4442 m4443 m4444 m4445 m4446 m4447 m4448 m4449 m4450 m4451 m4452 m4453 m4454 m4455 m4456 m4457 m4458 p4462
    refine lv_aload_n hx hb dX10_image_81 rfl (lv_at hl 0 rfl) ?_
    refine lv_aload_n hx hb dX10_image_82 rfl (lv_at hl 0 rfl) ?_
    refine lv_aload_n hx hb dX10_image_83 rfl (lv_at hl 0 rfl) ?_
    refine x_gi C hTH4463 (ci := 10) (k := 62) rfl inX10 (by decide) wF_X10_455 ga0 rg_112 rfl dX10_image_84 (fun x4498 ex4498 bx4498 => ?_)
    refine x_V (As := [.int x4498]) (rest := [.ref a0]) C (a_X10_kept l K G H4463 (x4498) (x4424) (x1) hTH4463 ga0 giq m4477 m4496 m4490 g4464 (by and_intros <;> first | assumption | omega)) yo_X10_kept wM_X10_473 ⟨⟨by decide, by decide⟩, by decide, by decide⟩ (x_rv C hTH4463 (ci := 10) rfl ga0 rg_112) rfl hl.1 rfl (Nat.le_of_ble_eq_true rfl) dX10_image_87 hSH4463 (AE_sub (fun _ _ => rfl) (by decide) hSH4463.1) (fun vH4499 H4499 locsH4499 pH4499 zH4499 kH4499 hSH4499 => ?_)
    obtain ⟨x4500, x4501, hvH4499, ex4501, hrH4499, m4502, g4503, mf4504, m4505, m4506, m4507, m4508, hTH4499⟩ := pH4499
    subst hvH4499
    clear zH4499
    replace m4502 := EQN.mk m4502
    have b4509 : UN (x1.toInt ≠ 0) (fun k => fI H4499 q4 k) (fun k => fI s.heap q4 k) := UN.congr (fun j => fI_kept (x_lt hTH4463 kH4499 gq4 (by decide))) b4465
    have b4510 : UN (x1.toInt ≠ 0) (fun k => fI H4499 q16 k) (fun k => fI s.heap q16 k) := UN.congr (fun j => fI_kept (x_lt hTH4463 kH4499 gq16 (by decide))) b4466
    have b4511 : UN (x1.toInt ≠ 0) (fun k => fI H4499 q24 k) (fun k => fI s.heap q24 k) := UN.congr (fun j => fI_kept (x_lt hTH4463 kH4499 gq24 (by decide))) b4467
    have b4512 : UN (x1.toInt ≠ 0) (fun k => fI H4499 q29 k) (fun k => fI s.heap q29 k) := UN.congr (fun j => fI_kept (x_lt hTH4463 kH4499 gq29 (by decide))) b4468
    have b4513 : UN (x1.toInt ≠ 0) (fun k => fI H4499 q30 k) (fun k => fI s.heap q30 k) := UN.congr (fun j => fI_kept (x_lt hTH4463 kH4499 gq30 (by decide))) b4469
    have b4514 : UN (x1.toInt ≠ 0) (fun k => fI H4499 q31 k) (fun k => fI s.heap q31 k) := UN.congr (fun j => fI_kept (x_lt hTH4463 kH4499 gq31 (by decide))) b4470
    have b4515 : UN (x1.toInt ≠ 0) (fun k => fI H4499 q32 k) (fun k => fI s.heap q32 k) := UN.congr (fun j => fI_kept (x_lt hTH4463 kH4499 gq32 (by decide))) b4471
    have b4516 : UN (x1.toInt ≠ 0) (fun k => fI H4499 q33 k) (fun k => fI s.heap q33 k) := UN.congr (fun j => fI_kept (x_lt hTH4463 kH4499 gq33 (by decide))) b4472
    have m4517 := (m4477).trans (MF.r mf4504 (k := 73) (by decide) (by decide)).symm
    have m4518 := (m4478).trans (MF.r mf4504 (k := 4) (by decide) (by decide)).symm
    have m4519 := (m4479).trans (MF.r mf4504 (k := 10) (by decide) (by decide)).symm
    have m4520 := (m4480).trans (MF.r mf4504 (k := 16) (by decide) (by decide)).symm
    have m4521 := (m4481).trans (MF.r mf4504 (k := 24) (by decide) (by decide)).symm
    have m4522 := (m4482).trans (MF.r mf4504 (k := 27) (by decide) (by decide)).symm
    have m4523 := (m4483).trans (MF.r mf4504 (k := 29) (by decide) (by decide)).symm
    have m4524 := (m4484).trans (MF.r mf4504 (k := 30) (by decide) (by decide)).symm
    have m4525 := (m4485).trans (MF.r mf4504 (k := 31) (by decide) (by decide)).symm
    have m4526 := (m4486).trans (MF.r mf4504 (k := 32) (by decide) (by decide)).symm
    have m4527 := (m4487).trans (MF.r mf4504 (k := 33) (by decide) (by decide)).symm
    have m4528 := (m4488).trans (MF.r mf4504 (k := 50) (by decide) (by decide)).symm
    have m4529 := (MF.i mf4504 (k := 0) (by decide) (by decide)).trans m4489
    have m4530 := (m4490).trans (MF.i mf4504 (k := 71) (by decide) (by decide)).symm
    have m4531 := (MF.i mf4504 (k := 70) (by decide) (by decide)).trans m4491
    have m4532 := (m4492).trans (MF.i mf4504 (k := 1) (by decide) (by decide)).symm
    have m4533 := (m4493).trans (MF.i mf4504 (k := 2) (by decide) (by decide)).symm
    have m4534 := (m4494).trans (MF.i mf4504 (k := 3) (by decide) (by decide)).symm
    have m4535 := (m4497).trans (MF.i mf4504 (k := 59) (by decide) (by decide)).symm
    have m4536 := (ex4498).trans (MF.i mf4504 (k := 62) (by decide) (by decide)).symm
    have bx4501 := ty_fi (x := x4501) (k := 72) ex4501 hTH4499 ga0 rg_112 rfl
    have ce_x4424 := i_cl (x := x4424) (by omega)
    have b4537 : UN (x1.toInt = 0) (fun k => fI H4499 iq k) (fun k => fI s.heap iq k) := UN.tr m4508 b4473
    have b4538 : x4212 = fI H4499 iq (0) := (b4474).trans (m4507 _ (by omega)).symm
    have b4539 : x4279 = fI H4499 iq (1) := (b4475).trans (m4507 _ (by omega)).symm
    have b4540 : x4423 = fI H4499 iq (3) := (b4476).trans (m4507 _ (by omega)).symm
    clear b4465 b4466 b4467 b4468 b4469 b4470 b4471 b4472 b4473 b4474 b4475 b4476 ex4498 m4477 m4478 m4479 m4480 m4481 m4482 m4483 m4484 m4485 m4486 m4487 m4488 m4489 m4490 m4491 m4492 m4493 m4494 m4496 m4497
    clear m4507 m4508
    have bx4500 : 0 ≤ x4500.toInt ∧ x4500.toInt ≤ 8 := kr (fun h0 => by have hiw := hIW; exact kr0 (w := fun k => fI H4499 iq k) m4505 (p := 4) (by omega) (b4537 h0) (hiw.1.2.2.2.1)) m4506 (by omega)
    have p4541 : x4500 = fI H4499 iq (4) := by have h := m4505; rw [show x4424.toNatClampNeg = 4 by omega] at h; exact h
    refine W.eq (g2 := F0 m 90 ls [.int x4500, .ref a0]) rfl ?_
    refine x_put C hTH4499 hSH4499 (ci := 10) (k := 62) (v := .int x4500) (ty0 := tyX10) rfl inX10 tyX10_ok nmX10 (by decide) rfl wF_X10_455 ga0 rg_112 rfl rfl (okI (by have := i_rng x4500; omega) (by have := i_rng x4500; omega)) rfl rfl (AE_in ga0 (by decide)) dX10_image_90 (fun H4542 locsH4542 hTH4542 hSH4542 wH4542 => ?_)
    have g4543 : WD (avw K H4542 a0) := WD.congr (fun k hk j => av_fld hTH4499 ga0 hap wH4542 (by decide) (WD_ok 112 (by decide) k hk) (WD_ne 62 (by decide) k hk)) g4503
    have b4544 : UN (x1.toInt ≠ 0) (fun k => fI H4542 q4 k) (fun k => fI s.heap q4 k) := UN.congr (fun j => Wr.neI wH4542 (Or.inl (G_ne gq4 ga0 (by decide)))) b4509
    have b4545 : UN (x1.toInt ≠ 0) (fun k => fI H4542 q16 k) (fun k => fI s.heap q16 k) := UN.congr (fun j => Wr.neI wH4542 (Or.inl (G_ne gq16 ga0 (by decide)))) b4510
    have b4546 : UN (x1.toInt ≠ 0) (fun k => fI H4542 q24 k) (fun k => fI s.heap q24 k) := UN.congr (fun j => Wr.neI wH4542 (Or.inl (G_ne gq24 ga0 (by decide)))) b4511
    have b4547 : UN (x1.toInt ≠ 0) (fun k => fI H4542 q29 k) (fun k => fI s.heap q29 k) := UN.congr (fun j => Wr.neI wH4542 (Or.inl (G_ne gq29 ga0 (by decide)))) b4512
    have b4548 : UN (x1.toInt ≠ 0) (fun k => fI H4542 q30 k) (fun k => fI s.heap q30 k) := UN.congr (fun j => Wr.neI wH4542 (Or.inl (G_ne gq30 ga0 (by decide)))) b4513
    have b4549 : UN (x1.toInt ≠ 0) (fun k => fI H4542 q31 k) (fun k => fI s.heap q31 k) := UN.congr (fun j => Wr.neI wH4542 (Or.inl (G_ne gq31 ga0 (by decide)))) b4514
    have b4550 : UN (x1.toInt ≠ 0) (fun k => fI H4542 q32 k) (fun k => fI s.heap q32 k) := UN.congr (fun j => Wr.neI wH4542 (Or.inl (G_ne gq32 ga0 (by decide)))) b4515
    have b4551 : UN (x1.toInt ≠ 0) (fun k => fI H4542 q33 k) (fun k => fI s.heap q33 k) := UN.congr (fun j => Wr.neI wH4542 (Or.inl (G_ne gq33 ga0 (by decide)))) b4516
    have b4552 : UN (x1.toInt = 0) (fun k => fI H4542 iq k) (fun k => fI s.heap iq k) := UN.congr (fun j => Wr.neI wH4542 (Or.inl (G_ne giq ga0 (by decide)))) b4537
    have b4553 : x4212 = fI H4542 iq (0) := (b4538).trans (Wr.neI wH4542 (Or.inl (G_ne giq ga0 (by decide)))).symm
    have b4554 : x4279 = fI H4542 iq (1) := (b4539).trans (Wr.neI wH4542 (Or.inl (G_ne giq ga0 (by decide)))).symm
    have b4555 : x4423 = fI H4542 iq (3) := (b4540).trans (Wr.neI wH4542 (Or.inl (G_ne giq ga0 (by decide)))).symm
    have b4556 : x4500 = fI H4542 iq (4) := (p4541).trans (Wr.neI wH4542 (Or.inl (G_ne giq ga0 (by decide)))).symm
    have m4557 := m4502.trans (Wr.neR wH4542 (Or.inr (x_apart hKT hts inX10 tyX10 tyX10_ok nmX10 rfl 73 62 (by decide) (by decide) (by decide)))).symm
    have m4558 := m4518.trans (Wr.neR wH4542 (Or.inr (x_apart hKT hts inX10 tyX10 tyX10_ok nmX10 rfl 4 62 (by decide) (by decide) (by decide)))).symm
    have m4559 := m4519.trans (Wr.neR wH4542 (Or.inr (x_apart hKT hts inX10 tyX10 tyX10_ok nmX10 rfl 10 62 (by decide) (by decide) (by decide)))).symm
    have m4560 := m4520.trans (Wr.neR wH4542 (Or.inr (x_apart hKT hts inX10 tyX10 tyX10_ok nmX10 rfl 16 62 (by decide) (by decide) (by decide)))).symm
    have m4561 := m4521.trans (Wr.neR wH4542 (Or.inr (x_apart hKT hts inX10 tyX10 tyX10_ok nmX10 rfl 24 62 (by decide) (by decide) (by decide)))).symm
    have m4562 := m4522.trans (Wr.neR wH4542 (Or.inr (x_apart hKT hts inX10 tyX10 tyX10_ok nmX10 rfl 27 62 (by decide) (by decide) (by decide)))).symm
    have m4563 := m4523.trans (Wr.neR wH4542 (Or.inr (x_apart hKT hts inX10 tyX10 tyX10_ok nmX10 rfl 29 62 (by decide) (by decide) (by decide)))).symm
    have m4564 := m4524.trans (Wr.neR wH4542 (Or.inr (x_apart hKT hts inX10 tyX10 tyX10_ok nmX10 rfl 30 62 (by decide) (by decide) (by decide)))).symm
    have m4565 := m4525.trans (Wr.neR wH4542 (Or.inr (x_apart hKT hts inX10 tyX10 tyX10_ok nmX10 rfl 31 62 (by decide) (by decide) (by decide)))).symm
    have m4566 := m4526.trans (Wr.neR wH4542 (Or.inr (x_apart hKT hts inX10 tyX10 tyX10_ok nmX10 rfl 32 62 (by decide) (by decide) (by decide)))).symm
    have m4567 := m4527.trans (Wr.neR wH4542 (Or.inr (x_apart hKT hts inX10 tyX10 tyX10_ok nmX10 rfl 33 62 (by decide) (by decide) (by decide)))).symm
    have m4568 := m4528.trans (Wr.neR wH4542 (Or.inr (x_apart hKT hts inX10 tyX10 tyX10_ok nmX10 rfl 50 62 (by decide) (by decide) (by decide)))).symm
    have m4569 := (Wr.neI wH4542 (Or.inr (x_apart hKT hts inX10 tyX10 tyX10_ok nmX10 rfl 0 62 (by decide) (by decide) (by decide)))).trans m4529
    have m4570 := m4530.trans (Wr.neI wH4542 (Or.inr (x_apart hKT hts inX10 tyX10 tyX10_ok nmX10 rfl 71 62 (by decide) (by decide) (by decide)))).symm
    have m4571 := (Wr.neI wH4542 (Or.inr (x_apart hKT hts inX10 tyX10 tyX10_ok nmX10 rfl 70 62 (by decide) (by decide) (by decide)))).trans m4531
    have m4572 := m4532.trans (Wr.neI wH4542 (Or.inr (x_apart hKT hts inX10 tyX10 tyX10_ok nmX10 rfl 1 62 (by decide) (by decide) (by decide)))).symm
    have m4573 := m4533.trans (Wr.neI wH4542 (Or.inr (x_apart hKT hts inX10 tyX10 tyX10_ok nmX10 rfl 2 62 (by decide) (by decide) (by decide)))).symm
    have m4574 := m4534.trans (Wr.neI wH4542 (Or.inr (x_apart hKT hts inX10 tyX10 tyX10_ok nmX10 rfl 3 62 (by decide) (by decide) (by decide)))).symm
    have m4575 := m4535.trans (Wr.neI wH4542 (Or.inr (x_apart hKT hts inX10 tyX10 tyX10_ok nmX10 rfl 59 62 (by decide) (by decide) (by decide)))).symm
    have m4577 := ex4501.trans (Wr.neI wH4542 (Or.inr (x_apart hKT hts inX10 tyX10 tyX10_ok nmX10 rfl 72 62 (by decide) (by decide) (by decide)))).symm
    have m4578 := Wr.I wH4542
    have m4578 := m4578.symm
    clear b4509 b4510 b4511 b4512 b4513 b4514 b4515 b4516 b4537 b4538 b4539 b4540 ex4501 g4503 hTH4499 m4502 m4518 m4519 m4520 m4521 m4522 m4523 m4524 m4525 m4526 m4527 m4528 m4529 m4530 m4531 m4532 m4533 m4534 m4535 m4536 p4541
    refine lv_aload_n hx hb dX10_image_93 rfl (lv_at hl 0 rfl) ?_
    refine lv_aload_n hx hb dX10_image_94 rfl (lv_at hl 0 rfl) ?_
    refine lv_aload_n hx hb dX10_image_95 rfl (lv_at hl 0 rfl) ?_
    refine x_gi C hTH4542 (ci := 10) (k := 65) rfl inX10 (by decide) wF_X10_458 ga0 rg_112 rfl dX10_image_96 (fun x4579 ex4579 bx4579 => ?_)
    refine x_V (As := [.int x4579]) (rest := [.ref a0]) C (a_X10_kept l K G H4542 (x4579) (x4501) (x1) hTH4542 ga0 giq m4557 m4577 m4570 g4543 (by and_intros <;> first | assumption | omega)) yo_X10_kept wM_X10_473 ⟨⟨by decide, by decide⟩, by decide, by decide⟩ (x_rv C hTH4542 (ci := 10) rfl ga0 rg_112) rfl hl.1 rfl (Nat.le_of_ble_eq_true rfl) dX10_image_99 hSH4542 (AE_sub (fun _ _ => rfl) (by decide) hSH4542.1) (fun vH4580 H4580 locsH4580 pH4580 zH4580 kH4580 hSH4580 => ?_)
    obtain ⟨x4581, x4582, hvH4580, ex4582, hrH4580, m4583, g4584, mf4585, m4586, m4587, m4588, m4589, hTH4580⟩ := pH4580
    subst hvH4580
    clear zH4580
    replace m4583 := EQN.mk m4583
    have b4590 : UN (x1.toInt ≠ 0) (fun k => fI H4580 q4 k) (fun k => fI s.heap q4 k) := UN.congr (fun j => fI_kept (x_lt hTH4542 kH4580 gq4 (by decide))) b4544
    have b4591 : UN (x1.toInt ≠ 0) (fun k => fI H4580 q16 k) (fun k => fI s.heap q16 k) := UN.congr (fun j => fI_kept (x_lt hTH4542 kH4580 gq16 (by decide))) b4545
    have b4592 : UN (x1.toInt ≠ 0) (fun k => fI H4580 q24 k) (fun k => fI s.heap q24 k) := UN.congr (fun j => fI_kept (x_lt hTH4542 kH4580 gq24 (by decide))) b4546
    have b4593 : UN (x1.toInt ≠ 0) (fun k => fI H4580 q29 k) (fun k => fI s.heap q29 k) := UN.congr (fun j => fI_kept (x_lt hTH4542 kH4580 gq29 (by decide))) b4547
    have b4594 : UN (x1.toInt ≠ 0) (fun k => fI H4580 q30 k) (fun k => fI s.heap q30 k) := UN.congr (fun j => fI_kept (x_lt hTH4542 kH4580 gq30 (by decide))) b4548
    have b4595 : UN (x1.toInt ≠ 0) (fun k => fI H4580 q31 k) (fun k => fI s.heap q31 k) := UN.congr (fun j => fI_kept (x_lt hTH4542 kH4580 gq31 (by decide))) b4549
    have b4596 : UN (x1.toInt ≠ 0) (fun k => fI H4580 q32 k) (fun k => fI s.heap q32 k) := UN.congr (fun j => fI_kept (x_lt hTH4542 kH4580 gq32 (by decide))) b4550
    have b4597 : UN (x1.toInt ≠ 0) (fun k => fI H4580 q33 k) (fun k => fI s.heap q33 k) := UN.congr (fun j => fI_kept (x_lt hTH4542 kH4580 gq33 (by decide))) b4551
    have m4598 := (m4557).trans (MF.r mf4585 (k := 73) (by decide) (by decide)).symm
    have m4599 := (m4558).trans (MF.r mf4585 (k := 4) (by decide) (by decide)).symm
    have m4600 := (m4559).trans (MF.r mf4585 (k := 10) (by decide) (by decide)).symm
    have m4601 := (m4560).trans (MF.r mf4585 (k := 16) (by decide) (by decide)).symm
    have m4602 := (m4561).trans (MF.r mf4585 (k := 24) (by decide) (by decide)).symm
    have m4603 := (m4562).trans (MF.r mf4585 (k := 27) (by decide) (by decide)).symm
    have m4604 := (m4563).trans (MF.r mf4585 (k := 29) (by decide) (by decide)).symm
    have m4605 := (m4564).trans (MF.r mf4585 (k := 30) (by decide) (by decide)).symm
    have m4606 := (m4565).trans (MF.r mf4585 (k := 31) (by decide) (by decide)).symm
    have m4607 := (m4566).trans (MF.r mf4585 (k := 32) (by decide) (by decide)).symm
    have m4608 := (m4567).trans (MF.r mf4585 (k := 33) (by decide) (by decide)).symm
    have m4609 := (m4568).trans (MF.r mf4585 (k := 50) (by decide) (by decide)).symm
    have m4610 := (MF.i mf4585 (k := 0) (by decide) (by decide)).trans m4569
    have m4611 := (m4570).trans (MF.i mf4585 (k := 71) (by decide) (by decide)).symm
    have m4612 := (MF.i mf4585 (k := 70) (by decide) (by decide)).trans m4571
    have m4613 := (m4572).trans (MF.i mf4585 (k := 1) (by decide) (by decide)).symm
    have m4614 := (m4573).trans (MF.i mf4585 (k := 2) (by decide) (by decide)).symm
    have m4615 := (m4574).trans (MF.i mf4585 (k := 3) (by decide) (by decide)).symm
    have m4616 := (m4575).trans (MF.i mf4585 (k := 59) (by decide) (by decide)).symm
    have m4617 := (m4578).trans (MF.i mf4585 (k := 62) (by decide) (by decide)).symm
    have m4618 := (ex4579).trans (MF.i mf4585 (k := 65) (by decide) (by decide)).symm
    have bx4582 := ty_fi (x := x4582) (k := 72) ex4582 hTH4580 ga0 rg_112 rfl
    have ce_x4501 := i_cl (x := x4501) (by omega)
    have b4619 : UN (x1.toInt = 0) (fun k => fI H4580 iq k) (fun k => fI s.heap iq k) := UN.tr m4589 b4552
    have b4620 : x4212 = fI H4580 iq (0) := (b4553).trans (m4588 _ (by omega)).symm
    have b4621 : x4279 = fI H4580 iq (1) := (b4554).trans (m4588 _ (by omega)).symm
    have b4622 : x4423 = fI H4580 iq (3) := (b4555).trans (m4588 _ (by omega)).symm
    have b4623 : x4500 = fI H4580 iq (4) := (b4556).trans (m4588 _ (by omega)).symm
    clear b4544 b4545 b4546 b4547 b4548 b4549 b4550 b4551 b4552 b4553 b4554 b4555 b4556 ex4579 m4557 m4558 m4559 m4560 m4561 m4562 m4563 m4564 m4565 m4566 m4567 m4568 m4569 m4570 m4571 m4572 m4573 m4574 m4575 m4577 m4578
    clear m4588 m4589
    have bx4581 : 0 ≤ x4581.toInt ∧ x4581.toInt ≤ 8 := kr (fun h0 => by have hiw := hIW; exact kr0 (w := fun k => fI H4580 iq k) m4586 (p := 5) (by omega) (b4619 h0) (hiw.1.2.2.2.2)) m4587 (by omega)
    have p4624 : x4581 = fI H4580 iq (5) := by have h := m4586; rw [show x4501.toNatClampNeg = 5 by omega] at h; exact h
    refine W.eq (g2 := F0 m 102 ls [.int x4581, .ref a0]) rfl ?_
    refine x_put C hTH4580 hSH4580 (ci := 10) (k := 65) (v := .int x4581) (ty0 := tyX10) rfl inX10 tyX10_ok nmX10 (by decide) rfl wF_X10_458 ga0 rg_112 rfl rfl (okI (by have := i_rng x4581; omega) (by have := i_rng x4581; omega)) rfl rfl (AE_in ga0 (by decide)) dX10_image_102 (fun H4625 locsH4625 hTH4625 hSH4625 wH4625 => ?_)
    have g4626 : WD (avw K H4625 a0) := WD.congr (fun k hk j => av_fld hTH4580 ga0 hap wH4625 (by decide) (WD_ok 112 (by decide) k hk) (WD_ne 65 (by decide) k hk)) g4584
    have b4627 : UN (x1.toInt ≠ 0) (fun k => fI H4625 q4 k) (fun k => fI s.heap q4 k) := UN.congr (fun j => Wr.neI wH4625 (Or.inl (G_ne gq4 ga0 (by decide)))) b4590
    have b4628 : UN (x1.toInt ≠ 0) (fun k => fI H4625 q16 k) (fun k => fI s.heap q16 k) := UN.congr (fun j => Wr.neI wH4625 (Or.inl (G_ne gq16 ga0 (by decide)))) b4591
    have b4629 : UN (x1.toInt ≠ 0) (fun k => fI H4625 q24 k) (fun k => fI s.heap q24 k) := UN.congr (fun j => Wr.neI wH4625 (Or.inl (G_ne gq24 ga0 (by decide)))) b4592
    have b4630 : UN (x1.toInt ≠ 0) (fun k => fI H4625 q29 k) (fun k => fI s.heap q29 k) := UN.congr (fun j => Wr.neI wH4625 (Or.inl (G_ne gq29 ga0 (by decide)))) b4593
    have b4631 : UN (x1.toInt ≠ 0) (fun k => fI H4625 q30 k) (fun k => fI s.heap q30 k) := UN.congr (fun j => Wr.neI wH4625 (Or.inl (G_ne gq30 ga0 (by decide)))) b4594
    have b4632 : UN (x1.toInt ≠ 0) (fun k => fI H4625 q31 k) (fun k => fI s.heap q31 k) := UN.congr (fun j => Wr.neI wH4625 (Or.inl (G_ne gq31 ga0 (by decide)))) b4595
    have b4633 : UN (x1.toInt ≠ 0) (fun k => fI H4625 q32 k) (fun k => fI s.heap q32 k) := UN.congr (fun j => Wr.neI wH4625 (Or.inl (G_ne gq32 ga0 (by decide)))) b4596
    have b4634 : UN (x1.toInt ≠ 0) (fun k => fI H4625 q33 k) (fun k => fI s.heap q33 k) := UN.congr (fun j => Wr.neI wH4625 (Or.inl (G_ne gq33 ga0 (by decide)))) b4597
    have b4635 : UN (x1.toInt = 0) (fun k => fI H4625 iq k) (fun k => fI s.heap iq k) := UN.congr (fun j => Wr.neI wH4625 (Or.inl (G_ne giq ga0 (by decide)))) b4619
    have b4636 : x4212 = fI H4625 iq (0) := (b4620).trans (Wr.neI wH4625 (Or.inl (G_ne giq ga0 (by decide)))).symm
    have b4637 : x4279 = fI H4625 iq (1) := (b4621).trans (Wr.neI wH4625 (Or.inl (G_ne giq ga0 (by decide)))).symm
    have b4638 : x4423 = fI H4625 iq (3) := (b4622).trans (Wr.neI wH4625 (Or.inl (G_ne giq ga0 (by decide)))).symm
    have b4639 : x4500 = fI H4625 iq (4) := (b4623).trans (Wr.neI wH4625 (Or.inl (G_ne giq ga0 (by decide)))).symm
    have b4640 : x4581 = fI H4625 iq (5) := (p4624).trans (Wr.neI wH4625 (Or.inl (G_ne giq ga0 (by decide)))).symm
    have m4641 := m4583.trans (Wr.neR wH4625 (Or.inr (x_apart hKT hts inX10 tyX10 tyX10_ok nmX10 rfl 73 65 (by decide) (by decide) (by decide)))).symm
    have m4642 := m4599.trans (Wr.neR wH4625 (Or.inr (x_apart hKT hts inX10 tyX10 tyX10_ok nmX10 rfl 4 65 (by decide) (by decide) (by decide)))).symm
    have m4643 := m4600.trans (Wr.neR wH4625 (Or.inr (x_apart hKT hts inX10 tyX10 tyX10_ok nmX10 rfl 10 65 (by decide) (by decide) (by decide)))).symm
    have m4644 := m4601.trans (Wr.neR wH4625 (Or.inr (x_apart hKT hts inX10 tyX10 tyX10_ok nmX10 rfl 16 65 (by decide) (by decide) (by decide)))).symm
    have m4645 := m4602.trans (Wr.neR wH4625 (Or.inr (x_apart hKT hts inX10 tyX10 tyX10_ok nmX10 rfl 24 65 (by decide) (by decide) (by decide)))).symm
    have m4646 := m4603.trans (Wr.neR wH4625 (Or.inr (x_apart hKT hts inX10 tyX10 tyX10_ok nmX10 rfl 27 65 (by decide) (by decide) (by decide)))).symm
    have m4647 := m4604.trans (Wr.neR wH4625 (Or.inr (x_apart hKT hts inX10 tyX10 tyX10_ok nmX10 rfl 29 65 (by decide) (by decide) (by decide)))).symm
    have m4648 := m4605.trans (Wr.neR wH4625 (Or.inr (x_apart hKT hts inX10 tyX10 tyX10_ok nmX10 rfl 30 65 (by decide) (by decide) (by decide)))).symm
    have m4649 := m4606.trans (Wr.neR wH4625 (Or.inr (x_apart hKT hts inX10 tyX10 tyX10_ok nmX10 rfl 31 65 (by decide) (by decide) (by decide)))).symm
    have m4650 := m4607.trans (Wr.neR wH4625 (Or.inr (x_apart hKT hts inX10 tyX10 tyX10_ok nmX10 rfl 32 65 (by decide) (by decide) (by decide)))).symm
    have m4651 := m4608.trans (Wr.neR wH4625 (Or.inr (x_apart hKT hts inX10 tyX10 tyX10_ok nmX10 rfl 33 65 (by decide) (by decide) (by decide)))).symm
    have m4652 := m4609.trans (Wr.neR wH4625 (Or.inr (x_apart hKT hts inX10 tyX10 tyX10_ok nmX10 rfl 50 65 (by decide) (by decide) (by decide)))).symm
    have m4653 := (Wr.neI wH4625 (Or.inr (x_apart hKT hts inX10 tyX10 tyX10_ok nmX10 rfl 0 65 (by decide) (by decide) (by decide)))).trans m4610
    have m4654 := m4611.trans (Wr.neI wH4625 (Or.inr (x_apart hKT hts inX10 tyX10 tyX10_ok nmX10 rfl 71 65 (by decide) (by decide) (by decide)))).symm
    have m4655 := (Wr.neI wH4625 (Or.inr (x_apart hKT hts inX10 tyX10 tyX10_ok nmX10 rfl 70 65 (by decide) (by decide) (by decide)))).trans m4612
    have m4656 := m4613.trans (Wr.neI wH4625 (Or.inr (x_apart hKT hts inX10 tyX10 tyX10_ok nmX10 rfl 1 65 (by decide) (by decide) (by decide)))).symm
    have m4657 := m4614.trans (Wr.neI wH4625 (Or.inr (x_apart hKT hts inX10 tyX10 tyX10_ok nmX10 rfl 2 65 (by decide) (by decide) (by decide)))).symm
    have m4658 := m4615.trans (Wr.neI wH4625 (Or.inr (x_apart hKT hts inX10 tyX10 tyX10_ok nmX10 rfl 3 65 (by decide) (by decide) (by decide)))).symm
    have m4659 := m4616.trans (Wr.neI wH4625 (Or.inr (x_apart hKT hts inX10 tyX10 tyX10_ok nmX10 rfl 59 65 (by decide) (by decide) (by decide)))).symm
    have m4660 := m4617.trans (Wr.neI wH4625 (Or.inr (x_apart hKT hts inX10 tyX10 tyX10_ok nmX10 rfl 62 65 (by decide) (by decide) (by decide)))).symm
    have m4662 := ex4582.trans (Wr.neI wH4625 (Or.inr (x_apart hKT hts inX10 tyX10 tyX10_ok nmX10 rfl 72 65 (by decide) (by decide) (by decide)))).symm
    have m4663 := Wr.I wH4625
    have m4663 := m4663.symm
    clear b4590 b4591 b4592 b4593 b4594 b4595 b4596 b4597 b4619 b4620 b4621 b4622 b4623 ex4582 g4584 hTH4580 m4583 m4599 m4600 m4601 m4602 m4603 m4604 m4605 m4606 m4607 m4608 m4609 m4610 m4611 m4612 m4613 m4614 m4615 m4616 m4617 m4618 p4624
    refine lv_aload_n hx hb dX10_image_105 rfl (lv_at hl 0 rfl) ?_
    refine x_V (As := []) (rest := []) C (a_X10_keepsBars l K G H4625 (x4582) (x1) hTH4625 ga0 giq m4641 gq4 m4642 gq10 m4643 gq16 m4644 gq50 m4652 m4662 m4654 g4626 (by and_intros <;> first | assumption | omega) (fun h0 => IMw.congr (b4635 h0) hIW)) yo_X10_keepsBars wM_X10_479 ⟨⟨by decide, by decide⟩, by decide, by decide⟩ (x_rv C hTH4625 (ci := 10) rfl ga0 rg_112) rfl hl.1 rfl (Nat.le_of_ble_eq_true rfl) dX10_image_106 hSH4625 (AE_sub (fun _ _ => rfl) (by decide) hSH4625.1) (fun vH4664 H4664 locsH4664 pH4664 zH4664 kH4664 hSH4664 => ?_)
    obtain ⟨x4665, hvH4664, ex4665, hrH4664, m4666, m4667, m4668, m4669, m4670, g4671, mf4672, m4673, m4674, m4675, m4676, m4677, m4678, m4679, m4680, hTH4664⟩ := pH4664
    subst hvH4664
    clear zH4664
    replace m4666 := EQN.mk m4666
    replace m4667 := EQN.mk m4667
    replace m4668 := EQN.mk m4668
    replace m4669 := EQN.mk m4669
    replace m4670 := EQN.mk m4670
    have b4681 : UN (x1.toInt ≠ 0) (fun k => fI H4664 q24 k) (fun k => fI s.heap q24 k) := UN.congr (fun j => fI_kept (x_lt hTH4625 kH4664 gq24 (by decide))) b4629
    have b4682 : UN (x1.toInt ≠ 0) (fun k => fI H4664 q29 k) (fun k => fI s.heap q29 k) := UN.congr (fun j => fI_kept (x_lt hTH4625 kH4664 gq29 (by decide))) b4630
    have b4683 : UN (x1.toInt ≠ 0) (fun k => fI H4664 q30 k) (fun k => fI s.heap q30 k) := UN.congr (fun j => fI_kept (x_lt hTH4625 kH4664 gq30 (by decide))) b4631
    have b4684 : UN (x1.toInt ≠ 0) (fun k => fI H4664 q31 k) (fun k => fI s.heap q31 k) := UN.congr (fun j => fI_kept (x_lt hTH4625 kH4664 gq31 (by decide))) b4632
    have b4685 : UN (x1.toInt ≠ 0) (fun k => fI H4664 q32 k) (fun k => fI s.heap q32 k) := UN.congr (fun j => fI_kept (x_lt hTH4625 kH4664 gq32 (by decide))) b4633
    have b4686 : UN (x1.toInt ≠ 0) (fun k => fI H4664 q33 k) (fun k => fI s.heap q33 k) := UN.congr (fun j => fI_kept (x_lt hTH4625 kH4664 gq33 (by decide))) b4634
    have m4687 := (m4641).trans (MF.r mf4672 (k := 73) (by decide) (by decide)).symm
    have m4688 := (m4642).trans (MF.r mf4672 (k := 4) (by decide) (by decide)).symm
    have m4689 := (m4643).trans (MF.r mf4672 (k := 10) (by decide) (by decide)).symm
    have m4690 := (m4644).trans (MF.r mf4672 (k := 16) (by decide) (by decide)).symm
    have m4691 := (m4645).trans (MF.r mf4672 (k := 24) (by decide) (by decide)).symm
    have m4692 := (m4646).trans (MF.r mf4672 (k := 27) (by decide) (by decide)).symm
    have m4693 := (m4647).trans (MF.r mf4672 (k := 29) (by decide) (by decide)).symm
    have m4694 := (m4648).trans (MF.r mf4672 (k := 30) (by decide) (by decide)).symm
    have m4695 := (m4649).trans (MF.r mf4672 (k := 31) (by decide) (by decide)).symm
    have m4696 := (m4650).trans (MF.r mf4672 (k := 32) (by decide) (by decide)).symm
    have m4697 := (m4651).trans (MF.r mf4672 (k := 33) (by decide) (by decide)).symm
    have m4698 := (m4652).trans (MF.r mf4672 (k := 50) (by decide) (by decide)).symm
    have m4699 := (MF.i mf4672 (k := 0) (by decide) (by decide)).trans m4653
    have m4700 := (m4654).trans (MF.i mf4672 (k := 71) (by decide) (by decide)).symm
    have m4701 := (MF.i mf4672 (k := 70) (by decide) (by decide)).trans m4655
    have m4702 := (m4656).trans (MF.i mf4672 (k := 1) (by decide) (by decide)).symm
    have m4703 := (m4657).trans (MF.i mf4672 (k := 2) (by decide) (by decide)).symm
    have m4704 := (m4658).trans (MF.i mf4672 (k := 3) (by decide) (by decide)).symm
    have m4705 := (m4659).trans (MF.i mf4672 (k := 59) (by decide) (by decide)).symm
    have m4706 := (m4660).trans (MF.i mf4672 (k := 62) (by decide) (by decide)).symm
    have m4707 := (m4663).trans (MF.i mf4672 (k := 65) (by decide) (by decide)).symm
    have bx4665 := ty_fi (x := x4665) (k := 72) ex4665 hTH4664 ga0 rg_112 rfl
    have b4708 : UN (x1.toInt ≠ 0) (fun k => fI H4664 q4 k) (fun k => fI s.heap q4 k) := UN.tr m4679 b4627
    have b4709 : UN (x1.toInt ≠ 0) (fun k => fI H4664 q16 k) (fun k => fI s.heap q16 k) := UN.tr m4680 b4628
    have b4710 : UN (x1.toInt = 0) (fun k => fI H4664 iq k) (fun k => fI s.heap iq k) := UN.tr m4673 b4635
    have b4711 : x4212 = fI H4664 iq (0) := (b4636).trans (m4674 _ (by omega)).symm
    have b4712 : x4279 = fI H4664 iq (1) := (b4637).trans (m4674 _ (by omega)).symm
    have b4713 : x4423 = fI H4664 iq (3) := (b4638).trans (m4674 _ (by omega)).symm
    have b4714 : x4500 = fI H4664 iq (4) := (b4639).trans (m4674 _ (by omega)).symm
    have b4715 : x4581 = fI H4664 iq (5) := (b4640).trans (m4674 _ (by omega)).symm
    refine W.eq (g2 := F0 m 109 ls []) rfl ?_
    refine lv_aload_n hx hb dX10_image_109 rfl (lv_at hl 0 rfl) ?_
    refine x_V (As := []) (rest := []) C (a_X10_keepsTaps l K G H4664 (x4665) (x1) hTH4664 ga0 giq m4666 ex4665 m4700 g4671 (by and_intros <;> first | assumption | omega) (fun h0 => IMw.congr (b4710 h0) hIW)) yo_X10_keepsTaps wM_X10_482 ⟨⟨by decide, by decide⟩, by decide, by decide⟩ (x_rv C hTH4664 (ci := 10) rfl ga0 rg_112) rfl hl.1 rfl (Nat.le_of_ble_eq_true rfl) dX10_image_110 hSH4664 (AE_sub (fun _ _ => rfl) (by decide) hSH4664.1) (fun vH4716 H4716 locsH4716 pH4716 zH4716 kH4716 hSH4716 => ?_)
    obtain ⟨x4717, hvH4716, ex4717, hrH4716, m4718, g4719, mf4720, m4721, m4722, hTH4716⟩ := pH4716
    subst hvH4716
    clear zH4716
    replace m4718 := EQN.mk m4718
    have b4723 : UN (x1.toInt ≠ 0) (fun k => fI H4716 q24 k) (fun k => fI s.heap q24 k) := UN.congr (fun j => fI_kept (x_lt hTH4664 kH4716 gq24 (by decide))) b4681
    have b4724 : UN (x1.toInt ≠ 0) (fun k => fI H4716 q29 k) (fun k => fI s.heap q29 k) := UN.congr (fun j => fI_kept (x_lt hTH4664 kH4716 gq29 (by decide))) b4682
    have b4725 : UN (x1.toInt ≠ 0) (fun k => fI H4716 q30 k) (fun k => fI s.heap q30 k) := UN.congr (fun j => fI_kept (x_lt hTH4664 kH4716 gq30 (by decide))) b4683
    have b4726 : UN (x1.toInt ≠ 0) (fun k => fI H4716 q31 k) (fun k => fI s.heap q31 k) := UN.congr (fun j => fI_kept (x_lt hTH4664 kH4716 gq31 (by decide))) b4684
    have b4727 : UN (x1.toInt ≠ 0) (fun k => fI H4716 q32 k) (fun k => fI s.heap q32 k) := UN.congr (fun j => fI_kept (x_lt hTH4664 kH4716 gq32 (by decide))) b4685
    have b4728 : UN (x1.toInt ≠ 0) (fun k => fI H4716 q33 k) (fun k => fI s.heap q33 k) := UN.congr (fun j => fI_kept (x_lt hTH4664 kH4716 gq33 (by decide))) b4686
    have b4729 : UN (x1.toInt ≠ 0) (fun k => fI H4716 q4 k) (fun k => fI s.heap q4 k) := UN.congr (fun j => fI_kept (x_lt hTH4664 kH4716 gq4 (by decide))) b4708
    have b4730 : UN (x1.toInt ≠ 0) (fun k => fI H4716 q16 k) (fun k => fI s.heap q16 k) := UN.congr (fun j => fI_kept (x_lt hTH4664 kH4716 gq16 (by decide))) b4709
    have m4731 := (m4666).trans (MF.r mf4720 (k := 73) (by decide) (by decide)).symm
    have m4732 := (m4667).trans (MF.r mf4720 (k := 4) (by decide) (by decide)).symm
    have m4733 := (m4668).trans (MF.r mf4720 (k := 10) (by decide) (by decide)).symm
    have m4734 := (m4669).trans (MF.r mf4720 (k := 16) (by decide) (by decide)).symm
    have m4735 := (m4691).trans (MF.r mf4720 (k := 24) (by decide) (by decide)).symm
    have m4736 := (m4692).trans (MF.r mf4720 (k := 27) (by decide) (by decide)).symm
    have m4737 := (m4693).trans (MF.r mf4720 (k := 29) (by decide) (by decide)).symm
    have m4738 := (m4694).trans (MF.r mf4720 (k := 30) (by decide) (by decide)).symm
    have m4739 := (m4695).trans (MF.r mf4720 (k := 31) (by decide) (by decide)).symm
    have m4740 := (m4696).trans (MF.r mf4720 (k := 32) (by decide) (by decide)).symm
    have m4741 := (m4697).trans (MF.r mf4720 (k := 33) (by decide) (by decide)).symm
    have m4742 := (m4670).trans (MF.r mf4720 (k := 50) (by decide) (by decide)).symm
    have m4743 := (MF.i mf4720 (k := 0) (by decide) (by decide)).trans m4699
    have m4744 := (m4700).trans (MF.i mf4720 (k := 71) (by decide) (by decide)).symm
    have m4745 := (MF.i mf4720 (k := 70) (by decide) (by decide)).trans m4701
    have m4746 := (m4702).trans (MF.i mf4720 (k := 1) (by decide) (by decide)).symm
    have m4747 := (m4703).trans (MF.i mf4720 (k := 2) (by decide) (by decide)).symm
    have m4748 := (m4704).trans (MF.i mf4720 (k := 3) (by decide) (by decide)).symm
    have m4749 := (m4705).trans (MF.i mf4720 (k := 59) (by decide) (by decide)).symm
    have m4750 := (m4706).trans (MF.i mf4720 (k := 62) (by decide) (by decide)).symm
    have m4751 := (m4707).trans (MF.i mf4720 (k := 65) (by decide) (by decide)).symm
    have bx4717 := ty_fi (x := x4717) (k := 72) ex4717 hTH4716 ga0 rg_112 rfl
    have b4752 : UN (x1.toInt = 0) (fun k => fI H4716 iq k) (fun k => fI s.heap iq k) := UN.tr m4721 b4710
    have b4753 : x4212 = fI H4716 iq (0) := (b4711).trans (m4722 _ (by omega)).symm
    have b4754 : x4279 = fI H4716 iq (1) := (b4712).trans (m4722 _ (by omega)).symm
    have b4755 : x4423 = fI H4716 iq (3) := (b4713).trans (m4722 _ (by omega)).symm
    have b4756 : x4500 = fI H4716 iq (4) := (b4714).trans (m4722 _ (by omega)).symm
    have b4757 : x4581 = fI H4716 iq (5) := (b4715).trans (m4722 _ (by omega)).symm
    have b4758 : EQ (fun k => fI H4716 q4 k) (fun k => fI H4716 iq k) (6) (6) (10) := EQ.fb (EQ.congr (w1 := fun k => fI H4664 iq k) (fun j => fI_kept (x_lt hTH4664 kH4716 gq4 (by decide))) (fun _ => rfl) m4675) m4722 (fun j hj => by omega)
    have b4759 : EQ (fun k => fI H4716 q10 k) (fun k => fI H4716 iq k) (7) (6) (10) := EQ.fb (EQ.congr (w1 := fun k => fI H4664 iq k) (fun j => fI_kept (x_lt hTH4664 kH4716 gq10 (by decide))) (fun _ => rfl) m4676) m4722 (fun j hj => by omega)
    have b4760 : EQ (fun k => fI H4716 q50 k) (fun k => fI H4716 iq k) (11) (6) (10) := EQ.fb (EQ.congr (w1 := fun k => fI H4664 iq k) (fun j => fI_kept (x_lt hTH4664 kH4716 gq50 (by decide))) (fun _ => rfl) m4677) m4722 (fun j hj => by omega)
    have b4761 : EQ (fun k => fI H4716 q16 k) (fun k => fI H4716 iq k) (736) (3) (20) := EQ.fb (EQ.congr (w1 := fun k => fI H4664 iq k) (fun j => fI_kept (x_lt hTH4664 kH4716 gq16 (by decide))) (fun _ => rfl) m4678) m4722 (fun j hj => by omega)
    refine W.eq (g2 := F0 m 113 ls []) rfl ?_
    refine lv_aload_n hx hb dX10_image_113 rfl (lv_at hl 0 rfl) ?_
    refine x_V (As := []) (rest := []) C (a_X10_keepsTexts l K G H4716 (x4717) (x1) hTH4716 ga0 giq m4718 gq24 m4735 gq27 m4736 gq29 m4737 gq30 m4738 gq31 m4739 gq32 m4740 gq33 m4741 ex4717 m4744 g4719 (by and_intros <;> first | assumption | omega) (fun h0 => IMw.congr (b4752 h0) hIW)) yo_X10_keepsTexts wM_X10_485 ⟨⟨by decide, by decide⟩, by decide, by decide⟩ (x_rv C hTH4716 (ci := 10) rfl ga0 rg_112) rfl hl.1 rfl (Nat.le_of_ble_eq_true rfl) dX10_image_114 hSH4716 (AE_sub (fun _ _ => rfl) (by decide) hSH4716.1) (fun vH4762 H4762 locsH4762 pH4762 zH4762 kH4762 hSH4762 => ?_)
    obtain ⟨x4763, hvH4762, ex4763, hrH4762, m4764, m4765, m4766, m4767, m4768, m4769, m4770, m4771, g4772, mf4773, m4774, m4775, m4776, m4777, m4778, m4779, m4780, m4781, m4782, m4783, m4784, m4785, m4786, m4787, m4788, hTH4762⟩ := pH4762
    subst hvH4762
    clear zH4762
    replace m4764 := EQN.mk m4764
    replace m4765 := EQN.mk m4765
    replace m4766 := EQN.mk m4766
    replace m4767 := EQN.mk m4767
    replace m4768 := EQN.mk m4768
    replace m4769 := EQN.mk m4769
    replace m4770 := EQN.mk m4770
    replace m4771 := EQN.mk m4771
    have b4789 : UN (x1.toInt ≠ 0) (fun k => fI H4762 q4 k) (fun k => fI s.heap q4 k) := UN.congr (fun j => fI_kept (x_lt hTH4716 kH4762 gq4 (by decide))) b4729
    have b4790 : UN (x1.toInt ≠ 0) (fun k => fI H4762 q16 k) (fun k => fI s.heap q16 k) := UN.congr (fun j => fI_kept (x_lt hTH4716 kH4762 gq16 (by decide))) b4730
    have m4791 := (m4718).trans (MF.r mf4773 (k := 73) (by decide) (by decide)).symm
    have m4792 := (m4732).trans (MF.r mf4773 (k := 4) (by decide) (by decide)).symm
    have m4793 := (m4733).trans (MF.r mf4773 (k := 10) (by decide) (by decide)).symm
    have m4794 := (m4734).trans (MF.r mf4773 (k := 16) (by decide) (by decide)).symm
    have m4795 := (m4735).trans (MF.r mf4773 (k := 24) (by decide) (by decide)).symm
    have m4796 := (m4736).trans (MF.r mf4773 (k := 27) (by decide) (by decide)).symm
    have m4797 := (m4737).trans (MF.r mf4773 (k := 29) (by decide) (by decide)).symm
    have m4798 := (m4738).trans (MF.r mf4773 (k := 30) (by decide) (by decide)).symm
    have m4799 := (m4739).trans (MF.r mf4773 (k := 31) (by decide) (by decide)).symm
    have m4800 := (m4740).trans (MF.r mf4773 (k := 32) (by decide) (by decide)).symm
    have m4801 := (m4741).trans (MF.r mf4773 (k := 33) (by decide) (by decide)).symm
    have m4802 := (m4742).trans (MF.r mf4773 (k := 50) (by decide) (by decide)).symm
    have m4803 := (MF.i mf4773 (k := 0) (by decide) (by decide)).trans m4743
    have m4804 := (m4744).trans (MF.i mf4773 (k := 71) (by decide) (by decide)).symm
    have m4805 := (MF.i mf4773 (k := 70) (by decide) (by decide)).trans m4745
    have m4806 := (m4746).trans (MF.i mf4773 (k := 1) (by decide) (by decide)).symm
    have m4807 := (m4747).trans (MF.i mf4773 (k := 2) (by decide) (by decide)).symm
    have m4808 := (m4748).trans (MF.i mf4773 (k := 3) (by decide) (by decide)).symm
    have m4809 := (m4749).trans (MF.i mf4773 (k := 59) (by decide) (by decide)).symm
    have m4810 := (m4750).trans (MF.i mf4773 (k := 62) (by decide) (by decide)).symm
    have m4811 := (m4751).trans (MF.i mf4773 (k := 65) (by decide) (by decide)).symm
    have bx4763 := ty_fi (x := x4763) (k := 72) ex4763 hTH4762 ga0 rg_112 rfl
    have b4812 : UN (x1.toInt ≠ 0) (fun k => fI H4762 q24 k) (fun k => fI s.heap q24 k) := UN.tr m4783 b4723
    have b4813 : UN (x1.toInt ≠ 0) (fun k => fI H4762 q29 k) (fun k => fI s.heap q29 k) := UN.tr m4784 b4724
    have b4814 : UN (x1.toInt ≠ 0) (fun k => fI H4762 q30 k) (fun k => fI s.heap q30 k) := UN.tr m4785 b4725
    have b4815 : UN (x1.toInt ≠ 0) (fun k => fI H4762 q31 k) (fun k => fI s.heap q31 k) := UN.tr m4786 b4726
    have b4816 : UN (x1.toInt ≠ 0) (fun k => fI H4762 q32 k) (fun k => fI s.heap q32 k) := UN.tr m4787 b4727
    have b4817 : UN (x1.toInt ≠ 0) (fun k => fI H4762 q33 k) (fun k => fI s.heap q33 k) := UN.tr m4788 b4728
    have b4818 : UN (x1.toInt = 0) (fun k => fI H4762 iq k) (fun k => fI s.heap iq k) := UN.tr m4774 b4752
    have b4819 : x4212 = fI H4762 iq (0) := (b4753).trans (m4775 _ (by omega)).symm
    have b4820 : x4279 = fI H4762 iq (1) := (b4754).trans (m4775 _ (by omega)).symm
    have b4821 : x4423 = fI H4762 iq (3) := (b4755).trans (m4775 _ (by omega)).symm
    have b4822 : x4500 = fI H4762 iq (4) := (b4756).trans (m4775 _ (by omega)).symm
    have b4823 : x4581 = fI H4762 iq (5) := (b4757).trans (m4775 _ (by omega)).symm
    have b4824 : EQ (fun k => fI H4762 q4 k) (fun k => fI H4762 iq k) (6) (6) (10) := EQ.fb (EQ.congr (w1 := fun k => fI H4716 iq k) (fun j => fI_kept (x_lt hTH4716 kH4762 gq4 (by decide))) (fun _ => rfl) b4758) m4775 (fun j hj => by omega)
    have b4825 : EQ (fun k => fI H4762 q10 k) (fun k => fI H4762 iq k) (7) (6) (10) := EQ.fb (EQ.congr (w1 := fun k => fI H4716 iq k) (fun j => fI_kept (x_lt hTH4716 kH4762 gq10 (by decide))) (fun _ => rfl) b4759) m4775 (fun j hj => by omega)
    have b4826 : EQ (fun k => fI H4762 q50 k) (fun k => fI H4762 iq k) (11) (6) (10) := EQ.fb (EQ.congr (w1 := fun k => fI H4716 iq k) (fun j => fI_kept (x_lt hTH4716 kH4762 gq50 (by decide))) (fun _ => rfl) b4760) m4775 (fun j hj => by omega)
    have b4827 : EQ (fun k => fI H4762 q16 k) (fun k => fI H4762 iq k) (736) (3) (20) := EQ.fb (EQ.congr (w1 := fun k => fI H4716 iq k) (fun j => fI_kept (x_lt hTH4716 kH4762 gq16 (by decide))) (fun _ => rfl) b4761) m4775 (fun j hj => by omega)
    refine W.eq (g2 := F0 m 117 ls []) rfl ?_
    have fin := im_fin (H0 := s.heap) (tk := x1) hTH4762 ga0 hg_CG hg_TU hg_IM ⟨EQ.av m4792 m4764 b4824, EQ.av m4793 m4764 b4825, EQ.av m4802 m4764 b4826, EQ.av m4794 m4764 b4827, EQ.av m4765 m4764 m4776, EQ.av m4766 m4764 m4777, EQ.av m4767 m4764 m4778, EQ.av m4768 m4764 m4779, EQ.av m4769 m4764 m4780, EQ.av m4770 m4764 m4781, EQ.av m4771 m4764 m4782⟩ (pl_av m4806 b4819 m4764) (pl_av m4807 b4820 m4764) (pl_av m4809 b4821 m4764) (pl_av m4810 b4822 m4764) (pl_av m4811 b4823 m4764) (fun h => (m4806.symm.trans (m4218 h)).trans ex4089) (all8 (UN.av m4792 eq4 b4789) (UN.av m4794 eq16 b4790) (UN.av m4765 eq24 b4812) (UN.av m4767 eq29 b4813) (UN.av m4768 eq30 b4814) (UN.av m4769 eq31 b4815) (UN.av m4770 eq32 b4816) (UN.av m4771 eq33 b4817)) (UN.av m4764 eiq b4818)
    refine lv_iconst (v := 1) hx hb dX10_image_117 (by decide) ?_
    exact x_zret C hQ (Or.inr rfl) dX10_image_118 hSH4762 (by decide) (by decide) (⟨1, rfl, by decide, m4764, m4792, m4793, m4794, m4765, m4766, m4767, m4768, m4769, m4770, m4771, m4802, fin.1, fin.2.1, g4772, fin.2.2, hTH4762⟩)
  · have k4119 := i_eq c4118
    refine lv_aload_n hx hb dX10_image_9 rfl (lv_at hl 0 rfl) ?_
    refine x_gi C hTH4090 (ci := 10) (k := 70) rfl inX10 (by decide) wF_X10_476 ga0 rg_112 rfl dX10_image_10 (fun x4828 ex4828 bx4828 => ?_)
    refine lv_if_ne (tgt := 18) hx hb dX10_image_13 (by decide) (fun c4829 => ?_) (fun c4829 => ?_)
    · have k4830 := i_ne c4829
      refine lv_aload_n hx hb dX10_image_18 rfl (lv_at hl 0 rfl) ?_
      refine lv_iload_n hx hb dX10_image_19 rfl (lv_at hl 1 rfl) ?_
      refine x_put C hTH4090 hSH4090 (ci := 10) (k := 71) (v := .int x1) (ty0 := tyX10) rfl inX10 tyX10_ok nmX10 (by decide) rfl wF_X10_470 ga0 rg_112 rfl rfl (okI (by have := i_rng x1; omega) (by have := i_rng x1; omega)) (by rcases i_01 (x := x1) (by omega) with h | h <;> rw [h] <;> rfl) (by rcases i_01 (x := x1) (by omega) with h | h <;> rw [h] <;> rfl) (AE_in ga0 (by decide)) dX10_image_20 (fun H4831 locsH4831 hTH4831 hSH4831 wH4831 => ?_)
      have g4832 : CG (avw K H4831 a0) := CG.congr (fun k hk j => av_fld hTH4090 ga0 hap wH4831 (by decide) (CG_ok 112 (by decide) k hk) (CG_ne 71 (by decide) k hk)) g4091
      have g4833 : TU (avw K H4831 a0) (svw K H4831 a0) := TU.congr (fun k hk j => av_fld hTH4090 ga0 hap wH4831 (by decide) (TU_ok 112 (by decide) k hk) (TU_ne 71 (by decide) k hk)) (fun k hk => sv_fld hap wH4831 (by decide) (TU_slt k hk) (TU_sne 71 (by decide) k hk)) g4092
      have g4834 : WD (avw K H4831 a0) := WD.congr (fun k hk j => av_fld hTH4090 ga0 hap wH4831 (by decide) (WD_ok 112 (by decide) k hk) (WD_ne 71 (by decide) k hk)) g4093
      have g4835 : IM (avw K H4831 a0) := IM.congr (fun k hk j => av_fld hTH4090 ga0 hap wH4831 (by decide) (IM_ok 112 (by decide) k hk) (IM_ne 71 (by decide) k hk)) g4094
      have b4836 : UN (x1.toInt = 0) (fun k => fI H4831 iq k) (fun k => fI s.heap iq k) := UN.congr (fun j => Wr.neI wH4831 (Or.inl (G_ne giq ga0 (by decide)))) b4095
      have b4837 : UN (x1.toInt ≠ 0) (fun k => fI H4831 q4 k) (fun k => fI s.heap q4 k) := UN.congr (fun j => Wr.neI wH4831 (Or.inl (G_ne gq4 ga0 (by decide)))) b4096
      have b4838 : UN (x1.toInt ≠ 0) (fun k => fI H4831 q16 k) (fun k => fI s.heap q16 k) := UN.congr (fun j => Wr.neI wH4831 (Or.inl (G_ne gq16 ga0 (by decide)))) b4097
      have b4839 : UN (x1.toInt ≠ 0) (fun k => fI H4831 q24 k) (fun k => fI s.heap q24 k) := UN.congr (fun j => Wr.neI wH4831 (Or.inl (G_ne gq24 ga0 (by decide)))) b4098
      have b4840 : UN (x1.toInt ≠ 0) (fun k => fI H4831 q29 k) (fun k => fI s.heap q29 k) := UN.congr (fun j => Wr.neI wH4831 (Or.inl (G_ne gq29 ga0 (by decide)))) b4099
      have b4841 : UN (x1.toInt ≠ 0) (fun k => fI H4831 q30 k) (fun k => fI s.heap q30 k) := UN.congr (fun j => Wr.neI wH4831 (Or.inl (G_ne gq30 ga0 (by decide)))) b4100
      have b4842 : UN (x1.toInt ≠ 0) (fun k => fI H4831 q31 k) (fun k => fI s.heap q31 k) := UN.congr (fun j => Wr.neI wH4831 (Or.inl (G_ne gq31 ga0 (by decide)))) b4101
      have b4843 : UN (x1.toInt ≠ 0) (fun k => fI H4831 q32 k) (fun k => fI s.heap q32 k) := UN.congr (fun j => Wr.neI wH4831 (Or.inl (G_ne gq32 ga0 (by decide)))) b4102
      have b4844 : UN (x1.toInt ≠ 0) (fun k => fI H4831 q33 k) (fun k => fI s.heap q33 k) := UN.congr (fun j => Wr.neI wH4831 (Or.inl (G_ne gq33 ga0 (by decide)))) b4103
      have m4845 := m4104.trans (Wr.neR wH4831 (Or.inr (x_apart hKT hts inX10 tyX10 tyX10_ok nmX10 rfl 73 71 (by decide) (by decide) (by decide)))).symm
      have m4846 := m4105.trans (Wr.neR wH4831 (Or.inr (x_apart hKT hts inX10 tyX10 tyX10_ok nmX10 rfl 4 71 (by decide) (by decide) (by decide)))).symm
      have m4847 := m4106.trans (Wr.neR wH4831 (Or.inr (x_apart hKT hts inX10 tyX10 tyX10_ok nmX10 rfl 10 71 (by decide) (by decide) (by decide)))).symm
      have m4848 := m4107.trans (Wr.neR wH4831 (Or.inr (x_apart hKT hts inX10 tyX10 tyX10_ok nmX10 rfl 16 71 (by decide) (by decide) (by decide)))).symm
      have m4849 := m4108.trans (Wr.neR wH4831 (Or.inr (x_apart hKT hts inX10 tyX10 tyX10_ok nmX10 rfl 24 71 (by decide) (by decide) (by decide)))).symm
      have m4850 := m4109.trans (Wr.neR wH4831 (Or.inr (x_apart hKT hts inX10 tyX10 tyX10_ok nmX10 rfl 27 71 (by decide) (by decide) (by decide)))).symm
      have m4851 := m4110.trans (Wr.neR wH4831 (Or.inr (x_apart hKT hts inX10 tyX10 tyX10_ok nmX10 rfl 29 71 (by decide) (by decide) (by decide)))).symm
      have m4852 := m4111.trans (Wr.neR wH4831 (Or.inr (x_apart hKT hts inX10 tyX10 tyX10_ok nmX10 rfl 30 71 (by decide) (by decide) (by decide)))).symm
      have m4853 := m4112.trans (Wr.neR wH4831 (Or.inr (x_apart hKT hts inX10 tyX10 tyX10_ok nmX10 rfl 31 71 (by decide) (by decide) (by decide)))).symm
      have m4854 := m4113.trans (Wr.neR wH4831 (Or.inr (x_apart hKT hts inX10 tyX10 tyX10_ok nmX10 rfl 32 71 (by decide) (by decide) (by decide)))).symm
      have m4855 := m4114.trans (Wr.neR wH4831 (Or.inr (x_apart hKT hts inX10 tyX10 tyX10_ok nmX10 rfl 33 71 (by decide) (by decide) (by decide)))).symm
      have m4856 := m4115.trans (Wr.neR wH4831 (Or.inr (x_apart hKT hts inX10 tyX10 tyX10_ok nmX10 rfl 50 71 (by decide) (by decide) (by decide)))).symm
      have m4857 := m4116.trans (Wr.neI wH4831 (Or.inr (x_apart hKT hts inX10 tyX10 tyX10_ok nmX10 rfl 1 71 (by decide) (by decide) (by decide)))).symm
      have m4858 := (Wr.neI wH4831 (Or.inr (x_apart hKT hts inX10 tyX10 tyX10_ok nmX10 rfl 0 71 (by decide) (by decide) (by decide)))).trans m4117
      have m4859 := ex4828.trans (Wr.neI wH4831 (Or.inr (x_apart hKT hts inX10 tyX10 tyX10_ok nmX10 rfl 70 71 (by decide) (by decide) (by decide)))).symm
      have m4860 := Wr.I wH4831
      have m4860 := m4860.symm
      clear b4095 b4096 b4097 b4098 b4099 b4100 b4101 b4102 b4103 ex4828 g4091 g4092 g4093 g4094 hTH4090 m4104 m4105 m4106 m4107 m4108 m4109 m4110 m4111 m4112 m4113 m4114 m4115 m4116 m4117
      refine lv_aload_n hx hb dX10_image_23 rfl (lv_at hl 0 rfl) ?_
      refine lv_iconst (v := 1) hx hb dX10_image_24 (by decide) ?_
      refine x_put C hTH4831 hSH4831 (ci := 10) (k := 70) (v := .int 1) (ty0 := tyX10) rfl inX10 tyX10_ok nmX10 (by decide) rfl wF_X10_476 ga0 rg_112 rfl rfl (okI (by have := i_rng (1 : Int32); omega) (by have := i_rng (1 : Int32); omega)) rfl rfl (AE_in ga0 (by decide)) dX10_image_25 (fun H4861 locsH4861 hTH4861 hSH4861 wH4861 => ?_)
      have g4862 : CG (avw K H4861 a0) := CG.congr (fun k hk j => av_fld hTH4831 ga0 hap wH4861 (by decide) (CG_ok 112 (by decide) k hk) (CG_ne 70 (by decide) k hk)) g4832
      have g4863 : TU (avw K H4861 a0) (svw K H4861 a0) := TU.congr (fun k hk j => av_fld hTH4831 ga0 hap wH4861 (by decide) (TU_ok 112 (by decide) k hk) (TU_ne 70 (by decide) k hk)) (fun k hk => sv_fld hap wH4861 (by decide) (TU_slt k hk) (TU_sne 70 (by decide) k hk)) g4833
      have g4864 : WD (avw K H4861 a0) := WD.congr (fun k hk j => av_fld hTH4831 ga0 hap wH4861 (by decide) (WD_ok 112 (by decide) k hk) (WD_ne 70 (by decide) k hk)) g4834
      have g4865 : IM (avw K H4861 a0) := IM.congr (fun k hk j => av_fld hTH4831 ga0 hap wH4861 (by decide) (IM_ok 112 (by decide) k hk) (IM_ne 70 (by decide) k hk)) g4835
      have b4866 : UN (x1.toInt = 0) (fun k => fI H4861 iq k) (fun k => fI s.heap iq k) := UN.congr (fun j => Wr.neI wH4861 (Or.inl (G_ne giq ga0 (by decide)))) b4836
      have b4867 : UN (x1.toInt ≠ 0) (fun k => fI H4861 q4 k) (fun k => fI s.heap q4 k) := UN.congr (fun j => Wr.neI wH4861 (Or.inl (G_ne gq4 ga0 (by decide)))) b4837
      have b4868 : UN (x1.toInt ≠ 0) (fun k => fI H4861 q16 k) (fun k => fI s.heap q16 k) := UN.congr (fun j => Wr.neI wH4861 (Or.inl (G_ne gq16 ga0 (by decide)))) b4838
      have b4869 : UN (x1.toInt ≠ 0) (fun k => fI H4861 q24 k) (fun k => fI s.heap q24 k) := UN.congr (fun j => Wr.neI wH4861 (Or.inl (G_ne gq24 ga0 (by decide)))) b4839
      have b4870 : UN (x1.toInt ≠ 0) (fun k => fI H4861 q29 k) (fun k => fI s.heap q29 k) := UN.congr (fun j => Wr.neI wH4861 (Or.inl (G_ne gq29 ga0 (by decide)))) b4840
      have b4871 : UN (x1.toInt ≠ 0) (fun k => fI H4861 q30 k) (fun k => fI s.heap q30 k) := UN.congr (fun j => Wr.neI wH4861 (Or.inl (G_ne gq30 ga0 (by decide)))) b4841
      have b4872 : UN (x1.toInt ≠ 0) (fun k => fI H4861 q31 k) (fun k => fI s.heap q31 k) := UN.congr (fun j => Wr.neI wH4861 (Or.inl (G_ne gq31 ga0 (by decide)))) b4842
      have b4873 : UN (x1.toInt ≠ 0) (fun k => fI H4861 q32 k) (fun k => fI s.heap q32 k) := UN.congr (fun j => Wr.neI wH4861 (Or.inl (G_ne gq32 ga0 (by decide)))) b4843
      have b4874 : UN (x1.toInt ≠ 0) (fun k => fI H4861 q33 k) (fun k => fI s.heap q33 k) := UN.congr (fun j => Wr.neI wH4861 (Or.inl (G_ne gq33 ga0 (by decide)))) b4844
      have m4875 := m4845.trans (Wr.neR wH4861 (Or.inr (x_apart hKT hts inX10 tyX10 tyX10_ok nmX10 rfl 73 70 (by decide) (by decide) (by decide)))).symm
      have m4876 := m4846.trans (Wr.neR wH4861 (Or.inr (x_apart hKT hts inX10 tyX10 tyX10_ok nmX10 rfl 4 70 (by decide) (by decide) (by decide)))).symm
      have m4877 := m4847.trans (Wr.neR wH4861 (Or.inr (x_apart hKT hts inX10 tyX10 tyX10_ok nmX10 rfl 10 70 (by decide) (by decide) (by decide)))).symm
      have m4878 := m4848.trans (Wr.neR wH4861 (Or.inr (x_apart hKT hts inX10 tyX10 tyX10_ok nmX10 rfl 16 70 (by decide) (by decide) (by decide)))).symm
      have m4879 := m4849.trans (Wr.neR wH4861 (Or.inr (x_apart hKT hts inX10 tyX10 tyX10_ok nmX10 rfl 24 70 (by decide) (by decide) (by decide)))).symm
      have m4880 := m4850.trans (Wr.neR wH4861 (Or.inr (x_apart hKT hts inX10 tyX10 tyX10_ok nmX10 rfl 27 70 (by decide) (by decide) (by decide)))).symm
      have m4881 := m4851.trans (Wr.neR wH4861 (Or.inr (x_apart hKT hts inX10 tyX10 tyX10_ok nmX10 rfl 29 70 (by decide) (by decide) (by decide)))).symm
      have m4882 := m4852.trans (Wr.neR wH4861 (Or.inr (x_apart hKT hts inX10 tyX10 tyX10_ok nmX10 rfl 30 70 (by decide) (by decide) (by decide)))).symm
      have m4883 := m4853.trans (Wr.neR wH4861 (Or.inr (x_apart hKT hts inX10 tyX10 tyX10_ok nmX10 rfl 31 70 (by decide) (by decide) (by decide)))).symm
      have m4884 := m4854.trans (Wr.neR wH4861 (Or.inr (x_apart hKT hts inX10 tyX10 tyX10_ok nmX10 rfl 32 70 (by decide) (by decide) (by decide)))).symm
      have m4885 := m4855.trans (Wr.neR wH4861 (Or.inr (x_apart hKT hts inX10 tyX10 tyX10_ok nmX10 rfl 33 70 (by decide) (by decide) (by decide)))).symm
      have m4886 := m4856.trans (Wr.neR wH4861 (Or.inr (x_apart hKT hts inX10 tyX10 tyX10_ok nmX10 rfl 50 70 (by decide) (by decide) (by decide)))).symm
      have m4887 := m4857.trans (Wr.neI wH4861 (Or.inr (x_apart hKT hts inX10 tyX10 tyX10_ok nmX10 rfl 1 70 (by decide) (by decide) (by decide)))).symm
      have m4888 := (Wr.neI wH4861 (Or.inr (x_apart hKT hts inX10 tyX10 tyX10_ok nmX10 rfl 0 70 (by decide) (by decide) (by decide)))).trans m4858
      have m4890 := m4860.trans (Wr.neI wH4861 (Or.inr (x_apart hKT hts inX10 tyX10 tyX10_ok nmX10 rfl 71 70 (by decide) (by decide) (by decide)))).symm
      have m4891 := Wr.I wH4861
      clear b4836 b4837 b4838 b4839 b4840 b4841 b4842 b4843 b4844 g4832 g4833 g4834 g4835 hTH4831 m4845 m4846 m4847 m4848 m4849 m4850 m4851 m4852 m4853 m4854 m4855 m4856 m4857 m4858 m4859 m4860
      refine lv_aload_n hx hb dX10_image_28 rfl (lv_at hl 0 rfl) ?_
      refine lv_iconst (v := 0) hx hb dX10_image_29 (by decide) ?_
      refine x_put C hTH4861 hSH4861 (ci := 10) (k := 72) (v := .int 0) (ty0 := tyX10) rfl inX10 tyX10_ok nmX10 (by decide) rfl wF_X10_467 ga0 rg_112 rfl rfl (okI (by have := i_rng (0 : Int32); omega) (by have := i_rng (0 : Int32); omega)) rfl rfl (AE_in ga0 (by decide)) dX10_image_30 (fun H4892 locsH4892 hTH4892 hSH4892 wH4892 => ?_)
      have g4893 : CG (avw K H4892 a0) := CG.congr (fun k hk j => av_fld hTH4861 ga0 hap wH4892 (by decide) (CG_ok 112 (by decide) k hk) (CG_ne 72 (by decide) k hk)) g4862
      have g4894 : TU (avw K H4892 a0) (svw K H4892 a0) := TU.congr (fun k hk j => av_fld hTH4861 ga0 hap wH4892 (by decide) (TU_ok 112 (by decide) k hk) (TU_ne 72 (by decide) k hk)) (fun k hk => sv_fld hap wH4892 (by decide) (TU_slt k hk) (TU_sne 72 (by decide) k hk)) g4863
      have g4895 : WD (avw K H4892 a0) := WD.congr (fun k hk j => av_fld hTH4861 ga0 hap wH4892 (by decide) (WD_ok 112 (by decide) k hk) (WD_ne 72 (by decide) k hk)) g4864
      have g4896 : IM (avw K H4892 a0) := IM.congr (fun k hk j => av_fld hTH4861 ga0 hap wH4892 (by decide) (IM_ok 112 (by decide) k hk) (IM_ne 72 (by decide) k hk)) g4865
      have b4897 : UN (x1.toInt = 0) (fun k => fI H4892 iq k) (fun k => fI s.heap iq k) := UN.congr (fun j => Wr.neI wH4892 (Or.inl (G_ne giq ga0 (by decide)))) b4866
      have b4898 : UN (x1.toInt ≠ 0) (fun k => fI H4892 q4 k) (fun k => fI s.heap q4 k) := UN.congr (fun j => Wr.neI wH4892 (Or.inl (G_ne gq4 ga0 (by decide)))) b4867
      have b4899 : UN (x1.toInt ≠ 0) (fun k => fI H4892 q16 k) (fun k => fI s.heap q16 k) := UN.congr (fun j => Wr.neI wH4892 (Or.inl (G_ne gq16 ga0 (by decide)))) b4868
      have b4900 : UN (x1.toInt ≠ 0) (fun k => fI H4892 q24 k) (fun k => fI s.heap q24 k) := UN.congr (fun j => Wr.neI wH4892 (Or.inl (G_ne gq24 ga0 (by decide)))) b4869
      have b4901 : UN (x1.toInt ≠ 0) (fun k => fI H4892 q29 k) (fun k => fI s.heap q29 k) := UN.congr (fun j => Wr.neI wH4892 (Or.inl (G_ne gq29 ga0 (by decide)))) b4870
      have b4902 : UN (x1.toInt ≠ 0) (fun k => fI H4892 q30 k) (fun k => fI s.heap q30 k) := UN.congr (fun j => Wr.neI wH4892 (Or.inl (G_ne gq30 ga0 (by decide)))) b4871
      have b4903 : UN (x1.toInt ≠ 0) (fun k => fI H4892 q31 k) (fun k => fI s.heap q31 k) := UN.congr (fun j => Wr.neI wH4892 (Or.inl (G_ne gq31 ga0 (by decide)))) b4872
      have b4904 : UN (x1.toInt ≠ 0) (fun k => fI H4892 q32 k) (fun k => fI s.heap q32 k) := UN.congr (fun j => Wr.neI wH4892 (Or.inl (G_ne gq32 ga0 (by decide)))) b4873
      have b4905 : UN (x1.toInt ≠ 0) (fun k => fI H4892 q33 k) (fun k => fI s.heap q33 k) := UN.congr (fun j => Wr.neI wH4892 (Or.inl (G_ne gq33 ga0 (by decide)))) b4874
      have m4906 := m4875.trans (Wr.neR wH4892 (Or.inr (x_apart hKT hts inX10 tyX10 tyX10_ok nmX10 rfl 73 72 (by decide) (by decide) (by decide)))).symm
      have m4907 := m4876.trans (Wr.neR wH4892 (Or.inr (x_apart hKT hts inX10 tyX10 tyX10_ok nmX10 rfl 4 72 (by decide) (by decide) (by decide)))).symm
      have m4908 := m4877.trans (Wr.neR wH4892 (Or.inr (x_apart hKT hts inX10 tyX10 tyX10_ok nmX10 rfl 10 72 (by decide) (by decide) (by decide)))).symm
      have m4909 := m4878.trans (Wr.neR wH4892 (Or.inr (x_apart hKT hts inX10 tyX10 tyX10_ok nmX10 rfl 16 72 (by decide) (by decide) (by decide)))).symm
      have m4910 := m4879.trans (Wr.neR wH4892 (Or.inr (x_apart hKT hts inX10 tyX10 tyX10_ok nmX10 rfl 24 72 (by decide) (by decide) (by decide)))).symm
      have m4911 := m4880.trans (Wr.neR wH4892 (Or.inr (x_apart hKT hts inX10 tyX10 tyX10_ok nmX10 rfl 27 72 (by decide) (by decide) (by decide)))).symm
      have m4912 := m4881.trans (Wr.neR wH4892 (Or.inr (x_apart hKT hts inX10 tyX10 tyX10_ok nmX10 rfl 29 72 (by decide) (by decide) (by decide)))).symm
      have m4913 := m4882.trans (Wr.neR wH4892 (Or.inr (x_apart hKT hts inX10 tyX10 tyX10_ok nmX10 rfl 30 72 (by decide) (by decide) (by decide)))).symm
      have m4914 := m4883.trans (Wr.neR wH4892 (Or.inr (x_apart hKT hts inX10 tyX10 tyX10_ok nmX10 rfl 31 72 (by decide) (by decide) (by decide)))).symm
      have m4915 := m4884.trans (Wr.neR wH4892 (Or.inr (x_apart hKT hts inX10 tyX10 tyX10_ok nmX10 rfl 32 72 (by decide) (by decide) (by decide)))).symm
      have m4916 := m4885.trans (Wr.neR wH4892 (Or.inr (x_apart hKT hts inX10 tyX10 tyX10_ok nmX10 rfl 33 72 (by decide) (by decide) (by decide)))).symm
      have m4917 := m4886.trans (Wr.neR wH4892 (Or.inr (x_apart hKT hts inX10 tyX10 tyX10_ok nmX10 rfl 50 72 (by decide) (by decide) (by decide)))).symm
      have m4918 := m4887.trans (Wr.neI wH4892 (Or.inr (x_apart hKT hts inX10 tyX10 tyX10_ok nmX10 rfl 1 72 (by decide) (by decide) (by decide)))).symm
      have m4919 := (Wr.neI wH4892 (Or.inr (x_apart hKT hts inX10 tyX10 tyX10_ok nmX10 rfl 0 72 (by decide) (by decide) (by decide)))).trans m4888
      have m4920 := m4890.trans (Wr.neI wH4892 (Or.inr (x_apart hKT hts inX10 tyX10 tyX10_ok nmX10 rfl 71 72 (by decide) (by decide) (by decide)))).symm
      have m4921 := (Wr.neI wH4892 (Or.inr (x_apart hKT hts inX10 tyX10 tyX10_ok nmX10 rfl 70 72 (by decide) (by decide) (by decide)))).trans m4891
      have m4922 := Wr.I wH4892
      clear b4866 b4867 b4868 b4869 b4870 b4871 b4872 b4873 b4874 g4862 g4863 g4864 g4865 hTH4861 m4875 m4876 m4877 m4878 m4879 m4880 m4881 m4882 m4883 m4884 m4885 m4886 m4887 m4888 m4890 m4891
      refine lv_aload_n hx hb dX10_image_33 rfl (lv_at hl 0 rfl) ?_
      refine lv_aload_n hx hb dX10_image_34 rfl (lv_at hl 0 rfl) ?_
      refine lv_aload_n hx hb dX10_image_35 rfl (lv_at hl 0 rfl) ?_
      refine x_gi C hTH4892 (ci := 10) (k := 1) rfl inX10 (by decide) wF_X10_170 ga0 rg_112 rfl dX10_image_36 (fun x4923 ex4923 bx4923 => ?_)
      have ux4923 : x4089 = x4923 := (m4918).trans ex4923.symm
      subst ux4923
      refine x_V (As := [.int x4089]) (rest := [.ref a0]) C (a_X10_kept l K G H4892 (x4089) (0) (x1) hTH4892 ga0 giq m4906 (m4922).symm m4920 g4895 (by and_intros <;> first | assumption | omega)) yo_X10_kept wM_X10_473 ⟨⟨by decide, by decide⟩, by decide, by decide⟩ (x_rv C hTH4892 (ci := 10) rfl ga0 rg_112) rfl hl.1 rfl (Nat.le_of_ble_eq_true rfl) dX10_image_39 hSH4892 (AE_sub (fun _ _ => rfl) (by decide) hSH4892.1) (fun vH4924 H4924 locsH4924 pH4924 zH4924 kH4924 hSH4924 => ?_)
      obtain ⟨x4925, x4926, hvH4924, ex4926, hrH4924, m4927, g4928, mf4929, m4930, m4931, m4932, m4933, hTH4924⟩ := pH4924
      subst hvH4924
      clear zH4924
      replace m4927 := EQN.mk m4927
      have b4934 : UN (x1.toInt ≠ 0) (fun k => fI H4924 q4 k) (fun k => fI s.heap q4 k) := UN.congr (fun j => fI_kept (x_lt hTH4892 kH4924 gq4 (by decide))) b4898
      have b4935 : UN (x1.toInt ≠ 0) (fun k => fI H4924 q16 k) (fun k => fI s.heap q16 k) := UN.congr (fun j => fI_kept (x_lt hTH4892 kH4924 gq16 (by decide))) b4899
      have b4936 : UN (x1.toInt ≠ 0) (fun k => fI H4924 q24 k) (fun k => fI s.heap q24 k) := UN.congr (fun j => fI_kept (x_lt hTH4892 kH4924 gq24 (by decide))) b4900
      have b4937 : UN (x1.toInt ≠ 0) (fun k => fI H4924 q29 k) (fun k => fI s.heap q29 k) := UN.congr (fun j => fI_kept (x_lt hTH4892 kH4924 gq29 (by decide))) b4901
      have b4938 : UN (x1.toInt ≠ 0) (fun k => fI H4924 q30 k) (fun k => fI s.heap q30 k) := UN.congr (fun j => fI_kept (x_lt hTH4892 kH4924 gq30 (by decide))) b4902
      have b4939 : UN (x1.toInt ≠ 0) (fun k => fI H4924 q31 k) (fun k => fI s.heap q31 k) := UN.congr (fun j => fI_kept (x_lt hTH4892 kH4924 gq31 (by decide))) b4903
      have b4940 : UN (x1.toInt ≠ 0) (fun k => fI H4924 q32 k) (fun k => fI s.heap q32 k) := UN.congr (fun j => fI_kept (x_lt hTH4892 kH4924 gq32 (by decide))) b4904
      have b4941 : UN (x1.toInt ≠ 0) (fun k => fI H4924 q33 k) (fun k => fI s.heap q33 k) := UN.congr (fun j => fI_kept (x_lt hTH4892 kH4924 gq33 (by decide))) b4905
      have m4942 := (m4906).trans (MF.r mf4929 (k := 73) (by decide) (by decide)).symm
      have m4943 := (m4907).trans (MF.r mf4929 (k := 4) (by decide) (by decide)).symm
      have m4944 := (m4908).trans (MF.r mf4929 (k := 10) (by decide) (by decide)).symm
      have m4945 := (m4909).trans (MF.r mf4929 (k := 16) (by decide) (by decide)).symm
      have m4946 := (m4910).trans (MF.r mf4929 (k := 24) (by decide) (by decide)).symm
      have m4947 := (m4911).trans (MF.r mf4929 (k := 27) (by decide) (by decide)).symm
      have m4948 := (m4912).trans (MF.r mf4929 (k := 29) (by decide) (by decide)).symm
      have m4949 := (m4913).trans (MF.r mf4929 (k := 30) (by decide) (by decide)).symm
      have m4950 := (m4914).trans (MF.r mf4929 (k := 31) (by decide) (by decide)).symm
      have m4951 := (m4915).trans (MF.r mf4929 (k := 32) (by decide) (by decide)).symm
      have m4952 := (m4916).trans (MF.r mf4929 (k := 33) (by decide) (by decide)).symm
      have m4953 := (m4917).trans (MF.r mf4929 (k := 50) (by decide) (by decide)).symm
      have m4954 := (m4918).trans (MF.i mf4929 (k := 1) (by decide) (by decide)).symm
      have m4955 := (MF.i mf4929 (k := 0) (by decide) (by decide)).trans m4919
      have m4956 := (m4920).trans (MF.i mf4929 (k := 71) (by decide) (by decide)).symm
      have m4957 := (MF.i mf4929 (k := 70) (by decide) (by decide)).trans m4921
      have bx4926 := ty_fi (x := x4926) (k := 72) ex4926 hTH4924 ga0 rg_112 rfl
      have ce_k0 : (0 : Int32).toNatClampNeg = 0 := rfl
      have b4958 : UN (x1.toInt = 0) (fun k => fI H4924 iq k) (fun k => fI s.heap iq k) := UN.tr m4933 b4897
      clear b4897 b4898 b4899 b4900 b4901 b4902 b4903 b4904 b4905 m4906 m4907 m4908 m4909 m4910 m4911 m4912 m4913 m4914 m4915 m4916 m4917 m4918 m4919 m4920 m4921 m4922
      clear m4932 m4933
      have bx4925 : 0 ≤ x4925.toInt ∧ x4925.toInt ≤ 10 := kr (fun h0 => by have hiw := hIW; exact kr0 (w := fun k => fI H4924 iq k) m4930 (p := 0) (by omega) (b4958 h0) (hiw.1.1)) m4931 (by omega)
      have p4959 : x4925 = fI H4924 iq (0) := by have h := m4930; rw [show (0 : Int32).toNatClampNeg = 0 by omega] at h; exact h
      refine W.eq (g2 := F0 m 42 ls [.int x4925, .ref a0]) rfl ?_
      refine x_put C hTH4924 hSH4924 (ci := 10) (k := 1) (v := .int x4925) (ty0 := tyX10) rfl inX10 tyX10_ok nmX10 (by decide) rfl wF_X10_170 ga0 rg_112 rfl rfl (okI (by have := i_rng x4925; omega) (by have := i_rng x4925; omega)) rfl rfl (AE_in ga0 (by decide)) dX10_image_42 (fun H4960 locsH4960 hTH4960 hSH4960 wH4960 => ?_)
      have g4961 : WD (avw K H4960 a0) := WD.congr (fun k hk j => av_fld hTH4924 ga0 hap wH4960 (by decide) (WD_ok 112 (by decide) k hk) (WD_ne 1 (by decide) k hk)) g4928
      have b4962 : UN (x1.toInt ≠ 0) (fun k => fI H4960 q4 k) (fun k => fI s.heap q4 k) := UN.congr (fun j => Wr.neI wH4960 (Or.inl (G_ne gq4 ga0 (by decide)))) b4934
      have b4963 : UN (x1.toInt ≠ 0) (fun k => fI H4960 q16 k) (fun k => fI s.heap q16 k) := UN.congr (fun j => Wr.neI wH4960 (Or.inl (G_ne gq16 ga0 (by decide)))) b4935
      have b4964 : UN (x1.toInt ≠ 0) (fun k => fI H4960 q24 k) (fun k => fI s.heap q24 k) := UN.congr (fun j => Wr.neI wH4960 (Or.inl (G_ne gq24 ga0 (by decide)))) b4936
      have b4965 : UN (x1.toInt ≠ 0) (fun k => fI H4960 q29 k) (fun k => fI s.heap q29 k) := UN.congr (fun j => Wr.neI wH4960 (Or.inl (G_ne gq29 ga0 (by decide)))) b4937
      have b4966 : UN (x1.toInt ≠ 0) (fun k => fI H4960 q30 k) (fun k => fI s.heap q30 k) := UN.congr (fun j => Wr.neI wH4960 (Or.inl (G_ne gq30 ga0 (by decide)))) b4938
      have b4967 : UN (x1.toInt ≠ 0) (fun k => fI H4960 q31 k) (fun k => fI s.heap q31 k) := UN.congr (fun j => Wr.neI wH4960 (Or.inl (G_ne gq31 ga0 (by decide)))) b4939
      have b4968 : UN (x1.toInt ≠ 0) (fun k => fI H4960 q32 k) (fun k => fI s.heap q32 k) := UN.congr (fun j => Wr.neI wH4960 (Or.inl (G_ne gq32 ga0 (by decide)))) b4940
      have b4969 : UN (x1.toInt ≠ 0) (fun k => fI H4960 q33 k) (fun k => fI s.heap q33 k) := UN.congr (fun j => Wr.neI wH4960 (Or.inl (G_ne gq33 ga0 (by decide)))) b4941
      have b4970 : UN (x1.toInt = 0) (fun k => fI H4960 iq k) (fun k => fI s.heap iq k) := UN.congr (fun j => Wr.neI wH4960 (Or.inl (G_ne giq ga0 (by decide)))) b4958
      have b4971 : x4925 = fI H4960 iq (0) := (p4959).trans (Wr.neI wH4960 (Or.inl (G_ne giq ga0 (by decide)))).symm
      have m4972 := m4927.trans (Wr.neR wH4960 (Or.inr (x_apart hKT hts inX10 tyX10 tyX10_ok nmX10 rfl 73 1 (by decide) (by decide) (by decide)))).symm
      have m4973 := m4943.trans (Wr.neR wH4960 (Or.inr (x_apart hKT hts inX10 tyX10 tyX10_ok nmX10 rfl 4 1 (by decide) (by decide) (by decide)))).symm
      have m4974 := m4944.trans (Wr.neR wH4960 (Or.inr (x_apart hKT hts inX10 tyX10 tyX10_ok nmX10 rfl 10 1 (by decide) (by decide) (by decide)))).symm
      have m4975 := m4945.trans (Wr.neR wH4960 (Or.inr (x_apart hKT hts inX10 tyX10 tyX10_ok nmX10 rfl 16 1 (by decide) (by decide) (by decide)))).symm
      have m4976 := m4946.trans (Wr.neR wH4960 (Or.inr (x_apart hKT hts inX10 tyX10 tyX10_ok nmX10 rfl 24 1 (by decide) (by decide) (by decide)))).symm
      have m4977 := m4947.trans (Wr.neR wH4960 (Or.inr (x_apart hKT hts inX10 tyX10 tyX10_ok nmX10 rfl 27 1 (by decide) (by decide) (by decide)))).symm
      have m4978 := m4948.trans (Wr.neR wH4960 (Or.inr (x_apart hKT hts inX10 tyX10 tyX10_ok nmX10 rfl 29 1 (by decide) (by decide) (by decide)))).symm
      have m4979 := m4949.trans (Wr.neR wH4960 (Or.inr (x_apart hKT hts inX10 tyX10 tyX10_ok nmX10 rfl 30 1 (by decide) (by decide) (by decide)))).symm
      have m4980 := m4950.trans (Wr.neR wH4960 (Or.inr (x_apart hKT hts inX10 tyX10 tyX10_ok nmX10 rfl 31 1 (by decide) (by decide) (by decide)))).symm
      have m4981 := m4951.trans (Wr.neR wH4960 (Or.inr (x_apart hKT hts inX10 tyX10 tyX10_ok nmX10 rfl 32 1 (by decide) (by decide) (by decide)))).symm
      have m4982 := m4952.trans (Wr.neR wH4960 (Or.inr (x_apart hKT hts inX10 tyX10 tyX10_ok nmX10 rfl 33 1 (by decide) (by decide) (by decide)))).symm
      have m4983 := m4953.trans (Wr.neR wH4960 (Or.inr (x_apart hKT hts inX10 tyX10 tyX10_ok nmX10 rfl 50 1 (by decide) (by decide) (by decide)))).symm
      have m4985 := (Wr.neI wH4960 (Or.inr (x_apart hKT hts inX10 tyX10 tyX10_ok nmX10 rfl 0 1 (by decide) (by decide) (by decide)))).trans m4955
      have m4986 := m4956.trans (Wr.neI wH4960 (Or.inr (x_apart hKT hts inX10 tyX10 tyX10_ok nmX10 rfl 71 1 (by decide) (by decide) (by decide)))).symm
      have m4987 := (Wr.neI wH4960 (Or.inr (x_apart hKT hts inX10 tyX10 tyX10_ok nmX10 rfl 70 1 (by decide) (by decide) (by decide)))).trans m4957
      have m4988 := ex4926.trans (Wr.neI wH4960 (Or.inr (x_apart hKT hts inX10 tyX10 tyX10_ok nmX10 rfl 72 1 (by decide) (by decide) (by decide)))).symm
      have m4989 := Wr.I wH4960
      have m4989 := m4989.symm
      clear b4934 b4935 b4936 b4937 b4938 b4939 b4940 b4941 b4958 ex4926 g4928 hTH4924 m4927 m4943 m4944 m4945 m4946 m4947 m4948 m4949 m4950 m4951 m4952 m4953 m4954 m4955 m4956 m4957 p4959
      refine lv_aload_n hx hb dX10_image_45 rfl (lv_at hl 0 rfl) ?_
      refine lv_aload_n hx hb dX10_image_46 rfl (lv_at hl 0 rfl) ?_
      refine lv_aload_n hx hb dX10_image_47 rfl (lv_at hl 0 rfl) ?_
      refine x_gi C hTH4960 (ci := 10) (k := 2) rfl inX10 (by decide) wF_X10_322 ga0 rg_112 rfl dX10_image_48 (fun x4990 ex4990 bx4990 => ?_)
      refine x_V (As := [.int x4990]) (rest := [.ref a0]) C (a_X10_kept l K G H4960 (x4990) (x4926) (x1) hTH4960 ga0 giq m4972 m4988 m4986 g4961 (by and_intros <;> first | assumption | omega)) yo_X10_kept wM_X10_473 ⟨⟨by decide, by decide⟩, by decide, by decide⟩ (x_rv C hTH4960 (ci := 10) rfl ga0 rg_112) rfl hl.1 rfl (Nat.le_of_ble_eq_true rfl) dX10_image_51 hSH4960 (AE_sub (fun _ _ => rfl) (by decide) hSH4960.1) (fun vH4991 H4991 locsH4991 pH4991 zH4991 kH4991 hSH4991 => ?_)
      obtain ⟨x4992, x4993, hvH4991, ex4993, hrH4991, m4994, g4995, mf4996, m4997, m4998, m4999, m5000, hTH4991⟩ := pH4991
      subst hvH4991
      clear zH4991
      replace m4994 := EQN.mk m4994
      have b5001 : UN (x1.toInt ≠ 0) (fun k => fI H4991 q4 k) (fun k => fI s.heap q4 k) := UN.congr (fun j => fI_kept (x_lt hTH4960 kH4991 gq4 (by decide))) b4962
      have b5002 : UN (x1.toInt ≠ 0) (fun k => fI H4991 q16 k) (fun k => fI s.heap q16 k) := UN.congr (fun j => fI_kept (x_lt hTH4960 kH4991 gq16 (by decide))) b4963
      have b5003 : UN (x1.toInt ≠ 0) (fun k => fI H4991 q24 k) (fun k => fI s.heap q24 k) := UN.congr (fun j => fI_kept (x_lt hTH4960 kH4991 gq24 (by decide))) b4964
      have b5004 : UN (x1.toInt ≠ 0) (fun k => fI H4991 q29 k) (fun k => fI s.heap q29 k) := UN.congr (fun j => fI_kept (x_lt hTH4960 kH4991 gq29 (by decide))) b4965
      have b5005 : UN (x1.toInt ≠ 0) (fun k => fI H4991 q30 k) (fun k => fI s.heap q30 k) := UN.congr (fun j => fI_kept (x_lt hTH4960 kH4991 gq30 (by decide))) b4966
      have b5006 : UN (x1.toInt ≠ 0) (fun k => fI H4991 q31 k) (fun k => fI s.heap q31 k) := UN.congr (fun j => fI_kept (x_lt hTH4960 kH4991 gq31 (by decide))) b4967
      have b5007 : UN (x1.toInt ≠ 0) (fun k => fI H4991 q32 k) (fun k => fI s.heap q32 k) := UN.congr (fun j => fI_kept (x_lt hTH4960 kH4991 gq32 (by decide))) b4968
      have b5008 : UN (x1.toInt ≠ 0) (fun k => fI H4991 q33 k) (fun k => fI s.heap q33 k) := UN.congr (fun j => fI_kept (x_lt hTH4960 kH4991 gq33 (by decide))) b4969
      have m5009 := (m4972).trans (MF.r mf4996 (k := 73) (by decide) (by decide)).symm
      have m5010 := (m4973).trans (MF.r mf4996 (k := 4) (by decide) (by decide)).symm
      have m5011 := (m4974).trans (MF.r mf4996 (k := 10) (by decide) (by decide)).symm
      have m5012 := (m4975).trans (MF.r mf4996 (k := 16) (by decide) (by decide)).symm
      have m5013 := (m4976).trans (MF.r mf4996 (k := 24) (by decide) (by decide)).symm
      have m5014 := (m4977).trans (MF.r mf4996 (k := 27) (by decide) (by decide)).symm
      have m5015 := (m4978).trans (MF.r mf4996 (k := 29) (by decide) (by decide)).symm
      have m5016 := (m4979).trans (MF.r mf4996 (k := 30) (by decide) (by decide)).symm
      have m5017 := (m4980).trans (MF.r mf4996 (k := 31) (by decide) (by decide)).symm
      have m5018 := (m4981).trans (MF.r mf4996 (k := 32) (by decide) (by decide)).symm
      have m5019 := (m4982).trans (MF.r mf4996 (k := 33) (by decide) (by decide)).symm
      have m5020 := (m4983).trans (MF.r mf4996 (k := 50) (by decide) (by decide)).symm
      have m5021 := (MF.i mf4996 (k := 0) (by decide) (by decide)).trans m4985
      have m5022 := (m4986).trans (MF.i mf4996 (k := 71) (by decide) (by decide)).symm
      have m5023 := (MF.i mf4996 (k := 70) (by decide) (by decide)).trans m4987
      have m5024 := (m4989).trans (MF.i mf4996 (k := 1) (by decide) (by decide)).symm
      have m5025 := (ex4990).trans (MF.i mf4996 (k := 2) (by decide) (by decide)).symm
      have bx4993 := ty_fi (x := x4993) (k := 72) ex4993 hTH4991 ga0 rg_112 rfl
      have ce_x4926 := i_cl (x := x4926) (by omega)
      have b5026 : UN (x1.toInt = 0) (fun k => fI H4991 iq k) (fun k => fI s.heap iq k) := UN.tr m5000 b4970
      have b5027 : x4925 = fI H4991 iq (0) := (b4971).trans (m4999 _ (by omega)).symm
      clear b4962 b4963 b4964 b4965 b4966 b4967 b4968 b4969 b4970 b4971 ex4990 m4972 m4973 m4974 m4975 m4976 m4977 m4978 m4979 m4980 m4981 m4982 m4983 m4985 m4986 m4987 m4988 m4989
      clear m4999 m5000
      have bx4992 : 0 ≤ x4992.toInt ∧ x4992.toInt ≤ 1 := kr (fun h0 => by have hiw := hIW; exact kr0 (w := fun k => fI H4991 iq k) m4997 (p := 1) (by omega) (b5026 h0) (hiw.1.2.1)) m4998 (by omega)
      have p5028 : x4992 = fI H4991 iq (1) := by have h := m4997; rw [show x4926.toNatClampNeg = 1 by omega] at h; exact h
      refine W.eq (g2 := F0 m 54 ls [.int x4992, .ref a0]) rfl ?_
      refine x_put C hTH4991 hSH4991 (ci := 10) (k := 2) (v := .int x4992) (ty0 := tyX10) rfl inX10 tyX10_ok nmX10 (by decide) rfl wF_X10_322 ga0 rg_112 rfl rfl (okI (by have := i_rng x4992; omega) (by have := i_rng x4992; omega)) rfl rfl (AE_in ga0 (by decide)) dX10_image_54 (fun H5029 locsH5029 hTH5029 hSH5029 wH5029 => ?_)
      have g5030 : WD (avw K H5029 a0) := WD.congr (fun k hk j => av_fld hTH4991 ga0 hap wH5029 (by decide) (WD_ok 112 (by decide) k hk) (WD_ne 2 (by decide) k hk)) g4995
      have b5031 : UN (x1.toInt ≠ 0) (fun k => fI H5029 q4 k) (fun k => fI s.heap q4 k) := UN.congr (fun j => Wr.neI wH5029 (Or.inl (G_ne gq4 ga0 (by decide)))) b5001
      have b5032 : UN (x1.toInt ≠ 0) (fun k => fI H5029 q16 k) (fun k => fI s.heap q16 k) := UN.congr (fun j => Wr.neI wH5029 (Or.inl (G_ne gq16 ga0 (by decide)))) b5002
      have b5033 : UN (x1.toInt ≠ 0) (fun k => fI H5029 q24 k) (fun k => fI s.heap q24 k) := UN.congr (fun j => Wr.neI wH5029 (Or.inl (G_ne gq24 ga0 (by decide)))) b5003
      have b5034 : UN (x1.toInt ≠ 0) (fun k => fI H5029 q29 k) (fun k => fI s.heap q29 k) := UN.congr (fun j => Wr.neI wH5029 (Or.inl (G_ne gq29 ga0 (by decide)))) b5004
      have b5035 : UN (x1.toInt ≠ 0) (fun k => fI H5029 q30 k) (fun k => fI s.heap q30 k) := UN.congr (fun j => Wr.neI wH5029 (Or.inl (G_ne gq30 ga0 (by decide)))) b5005
      have b5036 : UN (x1.toInt ≠ 0) (fun k => fI H5029 q31 k) (fun k => fI s.heap q31 k) := UN.congr (fun j => Wr.neI wH5029 (Or.inl (G_ne gq31 ga0 (by decide)))) b5006
      have b5037 : UN (x1.toInt ≠ 0) (fun k => fI H5029 q32 k) (fun k => fI s.heap q32 k) := UN.congr (fun j => Wr.neI wH5029 (Or.inl (G_ne gq32 ga0 (by decide)))) b5007
      have b5038 : UN (x1.toInt ≠ 0) (fun k => fI H5029 q33 k) (fun k => fI s.heap q33 k) := UN.congr (fun j => Wr.neI wH5029 (Or.inl (G_ne gq33 ga0 (by decide)))) b5008
      have b5039 : UN (x1.toInt = 0) (fun k => fI H5029 iq k) (fun k => fI s.heap iq k) := UN.congr (fun j => Wr.neI wH5029 (Or.inl (G_ne giq ga0 (by decide)))) b5026
      have b5040 : x4925 = fI H5029 iq (0) := (b5027).trans (Wr.neI wH5029 (Or.inl (G_ne giq ga0 (by decide)))).symm
      have b5041 : x4992 = fI H5029 iq (1) := (p5028).trans (Wr.neI wH5029 (Or.inl (G_ne giq ga0 (by decide)))).symm
      have m5042 := m4994.trans (Wr.neR wH5029 (Or.inr (x_apart hKT hts inX10 tyX10 tyX10_ok nmX10 rfl 73 2 (by decide) (by decide) (by decide)))).symm
      have m5043 := m5010.trans (Wr.neR wH5029 (Or.inr (x_apart hKT hts inX10 tyX10 tyX10_ok nmX10 rfl 4 2 (by decide) (by decide) (by decide)))).symm
      have m5044 := m5011.trans (Wr.neR wH5029 (Or.inr (x_apart hKT hts inX10 tyX10 tyX10_ok nmX10 rfl 10 2 (by decide) (by decide) (by decide)))).symm
      have m5045 := m5012.trans (Wr.neR wH5029 (Or.inr (x_apart hKT hts inX10 tyX10 tyX10_ok nmX10 rfl 16 2 (by decide) (by decide) (by decide)))).symm
      have m5046 := m5013.trans (Wr.neR wH5029 (Or.inr (x_apart hKT hts inX10 tyX10 tyX10_ok nmX10 rfl 24 2 (by decide) (by decide) (by decide)))).symm
      have m5047 := m5014.trans (Wr.neR wH5029 (Or.inr (x_apart hKT hts inX10 tyX10 tyX10_ok nmX10 rfl 27 2 (by decide) (by decide) (by decide)))).symm
      have m5048 := m5015.trans (Wr.neR wH5029 (Or.inr (x_apart hKT hts inX10 tyX10 tyX10_ok nmX10 rfl 29 2 (by decide) (by decide) (by decide)))).symm
      have m5049 := m5016.trans (Wr.neR wH5029 (Or.inr (x_apart hKT hts inX10 tyX10 tyX10_ok nmX10 rfl 30 2 (by decide) (by decide) (by decide)))).symm
      have m5050 := m5017.trans (Wr.neR wH5029 (Or.inr (x_apart hKT hts inX10 tyX10 tyX10_ok nmX10 rfl 31 2 (by decide) (by decide) (by decide)))).symm
      have m5051 := m5018.trans (Wr.neR wH5029 (Or.inr (x_apart hKT hts inX10 tyX10 tyX10_ok nmX10 rfl 32 2 (by decide) (by decide) (by decide)))).symm
      have m5052 := m5019.trans (Wr.neR wH5029 (Or.inr (x_apart hKT hts inX10 tyX10 tyX10_ok nmX10 rfl 33 2 (by decide) (by decide) (by decide)))).symm
      have m5053 := m5020.trans (Wr.neR wH5029 (Or.inr (x_apart hKT hts inX10 tyX10 tyX10_ok nmX10 rfl 50 2 (by decide) (by decide) (by decide)))).symm
      have m5054 := (Wr.neI wH5029 (Or.inr (x_apart hKT hts inX10 tyX10 tyX10_ok nmX10 rfl 0 2 (by decide) (by decide) (by decide)))).trans m5021
      have m5055 := m5022.trans (Wr.neI wH5029 (Or.inr (x_apart hKT hts inX10 tyX10 tyX10_ok nmX10 rfl 71 2 (by decide) (by decide) (by decide)))).symm
      have m5056 := (Wr.neI wH5029 (Or.inr (x_apart hKT hts inX10 tyX10 tyX10_ok nmX10 rfl 70 2 (by decide) (by decide) (by decide)))).trans m5023
      have m5057 := m5024.trans (Wr.neI wH5029 (Or.inr (x_apart hKT hts inX10 tyX10 tyX10_ok nmX10 rfl 1 2 (by decide) (by decide) (by decide)))).symm
      have m5059 := ex4993.trans (Wr.neI wH5029 (Or.inr (x_apart hKT hts inX10 tyX10 tyX10_ok nmX10 rfl 72 2 (by decide) (by decide) (by decide)))).symm
      have m5060 := Wr.I wH5029
      have m5060 := m5060.symm
      clear b5001 b5002 b5003 b5004 b5005 b5006 b5007 b5008 b5026 b5027 ex4993 g4995 hTH4991 m4994 m5010 m5011 m5012 m5013 m5014 m5015 m5016 m5017 m5018 m5019 m5020 m5021 m5022 m5023 m5024 m5025 p5028
      refine lv_aload_n hx hb dX10_image_57 rfl (lv_at hl 0 rfl) ?_
      refine lv_aload_n hx hb dX10_image_58 rfl (lv_at hl 0 rfl) ?_
      refine lv_aload_n hx hb dX10_image_59 rfl (lv_at hl 0 rfl) ?_
      refine x_gi C hTH5029 (ci := 10) (k := 3) rfl inX10 (by decide) wF_X10_7 ga0 rg_112 rfl dX10_image_60 (fun x5061 ex5061 bx5061 => ?_)
      refine x_V (As := [.int x5061]) (rest := [.ref a0]) C (a_X10_kept l K G H5029 (x5061) (x4993) (x1) hTH5029 ga0 giq m5042 m5059 m5055 g5030 (by and_intros <;> first | assumption | omega)) yo_X10_kept wM_X10_473 ⟨⟨by decide, by decide⟩, by decide, by decide⟩ (x_rv C hTH5029 (ci := 10) rfl ga0 rg_112) rfl hl.1 rfl (Nat.le_of_ble_eq_true rfl) dX10_image_63 hSH5029 (AE_sub (fun _ _ => rfl) (by decide) hSH5029.1) (fun vH5062 H5062 locsH5062 pH5062 zH5062 kH5062 hSH5062 => ?_)
      obtain ⟨x5063, x5064, hvH5062, ex5064, hrH5062, m5065, g5066, mf5067, m5068, m5069, m5070, m5071, hTH5062⟩ := pH5062
      subst hvH5062
      clear zH5062
      replace m5065 := EQN.mk m5065
      have b5072 : UN (x1.toInt ≠ 0) (fun k => fI H5062 q4 k) (fun k => fI s.heap q4 k) := UN.congr (fun j => fI_kept (x_lt hTH5029 kH5062 gq4 (by decide))) b5031
      have b5073 : UN (x1.toInt ≠ 0) (fun k => fI H5062 q16 k) (fun k => fI s.heap q16 k) := UN.congr (fun j => fI_kept (x_lt hTH5029 kH5062 gq16 (by decide))) b5032
      have b5074 : UN (x1.toInt ≠ 0) (fun k => fI H5062 q24 k) (fun k => fI s.heap q24 k) := UN.congr (fun j => fI_kept (x_lt hTH5029 kH5062 gq24 (by decide))) b5033
      have b5075 : UN (x1.toInt ≠ 0) (fun k => fI H5062 q29 k) (fun k => fI s.heap q29 k) := UN.congr (fun j => fI_kept (x_lt hTH5029 kH5062 gq29 (by decide))) b5034
      have b5076 : UN (x1.toInt ≠ 0) (fun k => fI H5062 q30 k) (fun k => fI s.heap q30 k) := UN.congr (fun j => fI_kept (x_lt hTH5029 kH5062 gq30 (by decide))) b5035
      have b5077 : UN (x1.toInt ≠ 0) (fun k => fI H5062 q31 k) (fun k => fI s.heap q31 k) := UN.congr (fun j => fI_kept (x_lt hTH5029 kH5062 gq31 (by decide))) b5036
      have b5078 : UN (x1.toInt ≠ 0) (fun k => fI H5062 q32 k) (fun k => fI s.heap q32 k) := UN.congr (fun j => fI_kept (x_lt hTH5029 kH5062 gq32 (by decide))) b5037
      have b5079 : UN (x1.toInt ≠ 0) (fun k => fI H5062 q33 k) (fun k => fI s.heap q33 k) := UN.congr (fun j => fI_kept (x_lt hTH5029 kH5062 gq33 (by decide))) b5038
      have m5080 := (m5042).trans (MF.r mf5067 (k := 73) (by decide) (by decide)).symm
      have m5081 := (m5043).trans (MF.r mf5067 (k := 4) (by decide) (by decide)).symm
      have m5082 := (m5044).trans (MF.r mf5067 (k := 10) (by decide) (by decide)).symm
      have m5083 := (m5045).trans (MF.r mf5067 (k := 16) (by decide) (by decide)).symm
      have m5084 := (m5046).trans (MF.r mf5067 (k := 24) (by decide) (by decide)).symm
      have m5085 := (m5047).trans (MF.r mf5067 (k := 27) (by decide) (by decide)).symm
      have m5086 := (m5048).trans (MF.r mf5067 (k := 29) (by decide) (by decide)).symm
      have m5087 := (m5049).trans (MF.r mf5067 (k := 30) (by decide) (by decide)).symm
      have m5088 := (m5050).trans (MF.r mf5067 (k := 31) (by decide) (by decide)).symm
      have m5089 := (m5051).trans (MF.r mf5067 (k := 32) (by decide) (by decide)).symm
      have m5090 := (m5052).trans (MF.r mf5067 (k := 33) (by decide) (by decide)).symm
      have m5091 := (m5053).trans (MF.r mf5067 (k := 50) (by decide) (by decide)).symm
      have m5092 := (MF.i mf5067 (k := 0) (by decide) (by decide)).trans m5054
      have m5093 := (m5055).trans (MF.i mf5067 (k := 71) (by decide) (by decide)).symm
      have m5094 := (MF.i mf5067 (k := 70) (by decide) (by decide)).trans m5056
      have m5095 := (m5057).trans (MF.i mf5067 (k := 1) (by decide) (by decide)).symm
      have m5096 := (m5060).trans (MF.i mf5067 (k := 2) (by decide) (by decide)).symm
      have m5097 := (ex5061).trans (MF.i mf5067 (k := 3) (by decide) (by decide)).symm
      have bx5064 := ty_fi (x := x5064) (k := 72) ex5064 hTH5062 ga0 rg_112 rfl
      have ce_x4993 := i_cl (x := x4993) (by omega)
      have b5098 : UN (x1.toInt = 0) (fun k => fI H5062 iq k) (fun k => fI s.heap iq k) := UN.tr m5071 b5039
      have b5099 : x4925 = fI H5062 iq (0) := (b5040).trans (m5070 _ (by omega)).symm
      have b5100 : x4992 = fI H5062 iq (1) := (b5041).trans (m5070 _ (by omega)).symm
      clear b5031 b5032 b5033 b5034 b5035 b5036 b5037 b5038 b5039 b5040 b5041 ex5061 m5042 m5043 m5044 m5045 m5046 m5047 m5048 m5049 m5050 m5051 m5052 m5053 m5054 m5055 m5056 m5057 m5059 m5060
      clear m5070 m5071
      refine W.eq (g2 := F0 m 66 ls [.int x5063, .ref a0]) rfl ?_
      refine x_put C hTH5062 hSH5062 (ci := 10) (k := 3) (v := .int x5063) (ty0 := tyX10) rfl inX10 tyX10_ok nmX10 (by decide) rfl wF_X10_7 ga0 rg_112 rfl rfl (okI (by have := i_rng x5063; omega) (by have := i_rng x5063; omega)) rfl rfl (AE_in ga0 (by decide)) dX10_image_66 (fun H5101 locsH5101 hTH5101 hSH5101 wH5101 => ?_)
      have g5102 : WD (avw K H5101 a0) := WD.congr (fun k hk j => av_fld hTH5062 ga0 hap wH5101 (by decide) (WD_ok 112 (by decide) k hk) (WD_ne 3 (by decide) k hk)) g5066
      have b5103 : UN (x1.toInt ≠ 0) (fun k => fI H5101 q4 k) (fun k => fI s.heap q4 k) := UN.congr (fun j => Wr.neI wH5101 (Or.inl (G_ne gq4 ga0 (by decide)))) b5072
      have b5104 : UN (x1.toInt ≠ 0) (fun k => fI H5101 q16 k) (fun k => fI s.heap q16 k) := UN.congr (fun j => Wr.neI wH5101 (Or.inl (G_ne gq16 ga0 (by decide)))) b5073
      have b5105 : UN (x1.toInt ≠ 0) (fun k => fI H5101 q24 k) (fun k => fI s.heap q24 k) := UN.congr (fun j => Wr.neI wH5101 (Or.inl (G_ne gq24 ga0 (by decide)))) b5074
      have b5106 : UN (x1.toInt ≠ 0) (fun k => fI H5101 q29 k) (fun k => fI s.heap q29 k) := UN.congr (fun j => Wr.neI wH5101 (Or.inl (G_ne gq29 ga0 (by decide)))) b5075
      have b5107 : UN (x1.toInt ≠ 0) (fun k => fI H5101 q30 k) (fun k => fI s.heap q30 k) := UN.congr (fun j => Wr.neI wH5101 (Or.inl (G_ne gq30 ga0 (by decide)))) b5076
      have b5108 : UN (x1.toInt ≠ 0) (fun k => fI H5101 q31 k) (fun k => fI s.heap q31 k) := UN.congr (fun j => Wr.neI wH5101 (Or.inl (G_ne gq31 ga0 (by decide)))) b5077
      have b5109 : UN (x1.toInt ≠ 0) (fun k => fI H5101 q32 k) (fun k => fI s.heap q32 k) := UN.congr (fun j => Wr.neI wH5101 (Or.inl (G_ne gq32 ga0 (by decide)))) b5078
      have b5110 : UN (x1.toInt ≠ 0) (fun k => fI H5101 q33 k) (fun k => fI s.heap q33 k) := UN.congr (fun j => Wr.neI wH5101 (Or.inl (G_ne gq33 ga0 (by decide)))) b5079
      have b5111 : UN (x1.toInt = 0) (fun k => fI H5101 iq k) (fun k => fI s.heap iq k) := UN.congr (fun j => Wr.neI wH5101 (Or.inl (G_ne giq ga0 (by decide)))) b5098
      have b5112 : x4925 = fI H5101 iq (0) := (b5099).trans (Wr.neI wH5101 (Or.inl (G_ne giq ga0 (by decide)))).symm
      have b5113 : x4992 = fI H5101 iq (1) := (b5100).trans (Wr.neI wH5101 (Or.inl (G_ne giq ga0 (by decide)))).symm
      have m5114 := m5065.trans (Wr.neR wH5101 (Or.inr (x_apart hKT hts inX10 tyX10 tyX10_ok nmX10 rfl 73 3 (by decide) (by decide) (by decide)))).symm
      have m5115 := m5081.trans (Wr.neR wH5101 (Or.inr (x_apart hKT hts inX10 tyX10 tyX10_ok nmX10 rfl 4 3 (by decide) (by decide) (by decide)))).symm
      have m5116 := m5082.trans (Wr.neR wH5101 (Or.inr (x_apart hKT hts inX10 tyX10 tyX10_ok nmX10 rfl 10 3 (by decide) (by decide) (by decide)))).symm
      have m5117 := m5083.trans (Wr.neR wH5101 (Or.inr (x_apart hKT hts inX10 tyX10 tyX10_ok nmX10 rfl 16 3 (by decide) (by decide) (by decide)))).symm
      have m5118 := m5084.trans (Wr.neR wH5101 (Or.inr (x_apart hKT hts inX10 tyX10 tyX10_ok nmX10 rfl 24 3 (by decide) (by decide) (by decide)))).symm
      have m5119 := m5085.trans (Wr.neR wH5101 (Or.inr (x_apart hKT hts inX10 tyX10 tyX10_ok nmX10 rfl 27 3 (by decide) (by decide) (by decide)))).symm
      have m5120 := m5086.trans (Wr.neR wH5101 (Or.inr (x_apart hKT hts inX10 tyX10 tyX10_ok nmX10 rfl 29 3 (by decide) (by decide) (by decide)))).symm
      have m5121 := m5087.trans (Wr.neR wH5101 (Or.inr (x_apart hKT hts inX10 tyX10 tyX10_ok nmX10 rfl 30 3 (by decide) (by decide) (by decide)))).symm
      have m5122 := m5088.trans (Wr.neR wH5101 (Or.inr (x_apart hKT hts inX10 tyX10 tyX10_ok nmX10 rfl 31 3 (by decide) (by decide) (by decide)))).symm
      have m5123 := m5089.trans (Wr.neR wH5101 (Or.inr (x_apart hKT hts inX10 tyX10 tyX10_ok nmX10 rfl 32 3 (by decide) (by decide) (by decide)))).symm
      have m5124 := m5090.trans (Wr.neR wH5101 (Or.inr (x_apart hKT hts inX10 tyX10 tyX10_ok nmX10 rfl 33 3 (by decide) (by decide) (by decide)))).symm
      have m5125 := m5091.trans (Wr.neR wH5101 (Or.inr (x_apart hKT hts inX10 tyX10 tyX10_ok nmX10 rfl 50 3 (by decide) (by decide) (by decide)))).symm
      have m5126 := (Wr.neI wH5101 (Or.inr (x_apart hKT hts inX10 tyX10 tyX10_ok nmX10 rfl 0 3 (by decide) (by decide) (by decide)))).trans m5092
      have m5127 := m5093.trans (Wr.neI wH5101 (Or.inr (x_apart hKT hts inX10 tyX10 tyX10_ok nmX10 rfl 71 3 (by decide) (by decide) (by decide)))).symm
      have m5128 := (Wr.neI wH5101 (Or.inr (x_apart hKT hts inX10 tyX10 tyX10_ok nmX10 rfl 70 3 (by decide) (by decide) (by decide)))).trans m5094
      have m5129 := m5095.trans (Wr.neI wH5101 (Or.inr (x_apart hKT hts inX10 tyX10 tyX10_ok nmX10 rfl 1 3 (by decide) (by decide) (by decide)))).symm
      have m5130 := m5096.trans (Wr.neI wH5101 (Or.inr (x_apart hKT hts inX10 tyX10 tyX10_ok nmX10 rfl 2 3 (by decide) (by decide) (by decide)))).symm
      have m5132 := ex5064.trans (Wr.neI wH5101 (Or.inr (x_apart hKT hts inX10 tyX10 tyX10_ok nmX10 rfl 72 3 (by decide) (by decide) (by decide)))).symm
      have m5133 := Wr.I wH5101
      have m5133 := m5133.symm
      clear b5072 b5073 b5074 b5075 b5076 b5077 b5078 b5079 b5098 b5099 b5100 ex5064 g5066 hTH5062 m5065 m5081 m5082 m5083 m5084 m5085 m5086 m5087 m5088 m5089 m5090 m5091 m5092 m5093 m5094 m5095 m5096 m5097
      refine lv_aload_n hx hb dX10_image_69 rfl (lv_at hl 0 rfl) ?_
      refine lv_aload_n hx hb dX10_image_70 rfl (lv_at hl 0 rfl) ?_
      refine lv_aload_n hx hb dX10_image_71 rfl (lv_at hl 0 rfl) ?_
      refine x_gi C hTH5101 (ci := 10) (k := 59) rfl inX10 (by decide) wF_X10_438 ga0 rg_112 rfl dX10_image_72 (fun x5134 ex5134 bx5134 => ?_)
      refine x_V (As := [.int x5134]) (rest := [.ref a0]) C (a_X10_kept l K G H5101 (x5134) (x5064) (x1) hTH5101 ga0 giq m5114 m5132 m5127 g5102 (by and_intros <;> first | assumption | omega)) yo_X10_kept wM_X10_473 ⟨⟨by decide, by decide⟩, by decide, by decide⟩ (x_rv C hTH5101 (ci := 10) rfl ga0 rg_112) rfl hl.1 rfl (Nat.le_of_ble_eq_true rfl) dX10_image_75 hSH5101 (AE_sub (fun _ _ => rfl) (by decide) hSH5101.1) (fun vH5135 H5135 locsH5135 pH5135 zH5135 kH5135 hSH5135 => ?_)
      obtain ⟨x5136, x5137, hvH5135, ex5137, hrH5135, m5138, g5139, mf5140, m5141, m5142, m5143, m5144, hTH5135⟩ := pH5135
      subst hvH5135
      clear zH5135
      replace m5138 := EQN.mk m5138
      have b5145 : UN (x1.toInt ≠ 0) (fun k => fI H5135 q4 k) (fun k => fI s.heap q4 k) := UN.congr (fun j => fI_kept (x_lt hTH5101 kH5135 gq4 (by decide))) b5103
      have b5146 : UN (x1.toInt ≠ 0) (fun k => fI H5135 q16 k) (fun k => fI s.heap q16 k) := UN.congr (fun j => fI_kept (x_lt hTH5101 kH5135 gq16 (by decide))) b5104
      have b5147 : UN (x1.toInt ≠ 0) (fun k => fI H5135 q24 k) (fun k => fI s.heap q24 k) := UN.congr (fun j => fI_kept (x_lt hTH5101 kH5135 gq24 (by decide))) b5105
      have b5148 : UN (x1.toInt ≠ 0) (fun k => fI H5135 q29 k) (fun k => fI s.heap q29 k) := UN.congr (fun j => fI_kept (x_lt hTH5101 kH5135 gq29 (by decide))) b5106
      have b5149 : UN (x1.toInt ≠ 0) (fun k => fI H5135 q30 k) (fun k => fI s.heap q30 k) := UN.congr (fun j => fI_kept (x_lt hTH5101 kH5135 gq30 (by decide))) b5107
      have b5150 : UN (x1.toInt ≠ 0) (fun k => fI H5135 q31 k) (fun k => fI s.heap q31 k) := UN.congr (fun j => fI_kept (x_lt hTH5101 kH5135 gq31 (by decide))) b5108
      have b5151 : UN (x1.toInt ≠ 0) (fun k => fI H5135 q32 k) (fun k => fI s.heap q32 k) := UN.congr (fun j => fI_kept (x_lt hTH5101 kH5135 gq32 (by decide))) b5109
      have b5152 : UN (x1.toInt ≠ 0) (fun k => fI H5135 q33 k) (fun k => fI s.heap q33 k) := UN.congr (fun j => fI_kept (x_lt hTH5101 kH5135 gq33 (by decide))) b5110
      have m5153 := (m5114).trans (MF.r mf5140 (k := 73) (by decide) (by decide)).symm
      have m5154 := (m5115).trans (MF.r mf5140 (k := 4) (by decide) (by decide)).symm
      have m5155 := (m5116).trans (MF.r mf5140 (k := 10) (by decide) (by decide)).symm
      have m5156 := (m5117).trans (MF.r mf5140 (k := 16) (by decide) (by decide)).symm
      have m5157 := (m5118).trans (MF.r mf5140 (k := 24) (by decide) (by decide)).symm
      have m5158 := (m5119).trans (MF.r mf5140 (k := 27) (by decide) (by decide)).symm
      have m5159 := (m5120).trans (MF.r mf5140 (k := 29) (by decide) (by decide)).symm
      have m5160 := (m5121).trans (MF.r mf5140 (k := 30) (by decide) (by decide)).symm
      have m5161 := (m5122).trans (MF.r mf5140 (k := 31) (by decide) (by decide)).symm
      have m5162 := (m5123).trans (MF.r mf5140 (k := 32) (by decide) (by decide)).symm
      have m5163 := (m5124).trans (MF.r mf5140 (k := 33) (by decide) (by decide)).symm
      have m5164 := (m5125).trans (MF.r mf5140 (k := 50) (by decide) (by decide)).symm
      have m5165 := (MF.i mf5140 (k := 0) (by decide) (by decide)).trans m5126
      have m5166 := (m5127).trans (MF.i mf5140 (k := 71) (by decide) (by decide)).symm
      have m5167 := (MF.i mf5140 (k := 70) (by decide) (by decide)).trans m5128
      have m5168 := (m5129).trans (MF.i mf5140 (k := 1) (by decide) (by decide)).symm
      have m5169 := (m5130).trans (MF.i mf5140 (k := 2) (by decide) (by decide)).symm
      have m5170 := (m5133).trans (MF.i mf5140 (k := 3) (by decide) (by decide)).symm
      have m5171 := (ex5134).trans (MF.i mf5140 (k := 59) (by decide) (by decide)).symm
      have bx5137 := ty_fi (x := x5137) (k := 72) ex5137 hTH5135 ga0 rg_112 rfl
      have ce_x5064 := i_cl (x := x5064) (by omega)
      have b5172 : UN (x1.toInt = 0) (fun k => fI H5135 iq k) (fun k => fI s.heap iq k) := UN.tr m5144 b5111
      have b5173 : x4925 = fI H5135 iq (0) := (b5112).trans (m5143 _ (by omega)).symm
      have b5174 : x4992 = fI H5135 iq (1) := (b5113).trans (m5143 _ (by omega)).symm
      clear b5103 b5104 b5105 b5106 b5107 b5108 b5109 b5110 b5111 b5112 b5113 ex5134 m5114 m5115 m5116 m5117 m5118 m5119 m5120 m5121 m5122 m5123 m5124 m5125 m5126 m5127 m5128 m5129 m5130 m5132 m5133
      clear m5143 m5144
      have bx5136 : 0 ≤ x5136.toInt ∧ x5136.toInt ≤ 20 := kr (fun h0 => by have hiw := hIW; exact kr0 (w := fun k => fI H5135 iq k) m5141 (p := 3) (by omega) (b5172 h0) (hiw.1.2.2.1)) m5142 (by omega)
      have p5175 : x5136 = fI H5135 iq (3) := by have h := m5141; rw [show x5064.toNatClampNeg = 3 by omega] at h; exact h
      refine W.eq (g2 := F0 m 78 ls [.int x5136, .ref a0]) rfl ?_
      refine x_put C hTH5135 hSH5135 (ci := 10) (k := 59) (v := .int x5136) (ty0 := tyX10) rfl inX10 tyX10_ok nmX10 (by decide) rfl wF_X10_438 ga0 rg_112 rfl rfl (okI (by have := i_rng x5136; omega) (by have := i_rng x5136; omega)) rfl rfl (AE_in ga0 (by decide)) dX10_image_78 (fun H5176 locsH5176 hTH5176 hSH5176 wH5176 => ?_)
      have g5177 : WD (avw K H5176 a0) := WD.congr (fun k hk j => av_fld hTH5135 ga0 hap wH5176 (by decide) (WD_ok 112 (by decide) k hk) (WD_ne 59 (by decide) k hk)) g5139
      have b5178 : UN (x1.toInt ≠ 0) (fun k => fI H5176 q4 k) (fun k => fI s.heap q4 k) := UN.congr (fun j => Wr.neI wH5176 (Or.inl (G_ne gq4 ga0 (by decide)))) b5145
      have b5179 : UN (x1.toInt ≠ 0) (fun k => fI H5176 q16 k) (fun k => fI s.heap q16 k) := UN.congr (fun j => Wr.neI wH5176 (Or.inl (G_ne gq16 ga0 (by decide)))) b5146
      have b5180 : UN (x1.toInt ≠ 0) (fun k => fI H5176 q24 k) (fun k => fI s.heap q24 k) := UN.congr (fun j => Wr.neI wH5176 (Or.inl (G_ne gq24 ga0 (by decide)))) b5147
      have b5181 : UN (x1.toInt ≠ 0) (fun k => fI H5176 q29 k) (fun k => fI s.heap q29 k) := UN.congr (fun j => Wr.neI wH5176 (Or.inl (G_ne gq29 ga0 (by decide)))) b5148
      have b5182 : UN (x1.toInt ≠ 0) (fun k => fI H5176 q30 k) (fun k => fI s.heap q30 k) := UN.congr (fun j => Wr.neI wH5176 (Or.inl (G_ne gq30 ga0 (by decide)))) b5149
      have b5183 : UN (x1.toInt ≠ 0) (fun k => fI H5176 q31 k) (fun k => fI s.heap q31 k) := UN.congr (fun j => Wr.neI wH5176 (Or.inl (G_ne gq31 ga0 (by decide)))) b5150
      have b5184 : UN (x1.toInt ≠ 0) (fun k => fI H5176 q32 k) (fun k => fI s.heap q32 k) := UN.congr (fun j => Wr.neI wH5176 (Or.inl (G_ne gq32 ga0 (by decide)))) b5151
      have b5185 : UN (x1.toInt ≠ 0) (fun k => fI H5176 q33 k) (fun k => fI s.heap q33 k) := UN.congr (fun j => Wr.neI wH5176 (Or.inl (G_ne gq33 ga0 (by decide)))) b5152
      have b5186 : UN (x1.toInt = 0) (fun k => fI H5176 iq k) (fun k => fI s.heap iq k) := UN.congr (fun j => Wr.neI wH5176 (Or.inl (G_ne giq ga0 (by decide)))) b5172
      have b5187 : x4925 = fI H5176 iq (0) := (b5173).trans (Wr.neI wH5176 (Or.inl (G_ne giq ga0 (by decide)))).symm
      have b5188 : x4992 = fI H5176 iq (1) := (b5174).trans (Wr.neI wH5176 (Or.inl (G_ne giq ga0 (by decide)))).symm
      have b5189 : x5136 = fI H5176 iq (3) := (p5175).trans (Wr.neI wH5176 (Or.inl (G_ne giq ga0 (by decide)))).symm
      have m5190 := m5138.trans (Wr.neR wH5176 (Or.inr (x_apart hKT hts inX10 tyX10 tyX10_ok nmX10 rfl 73 59 (by decide) (by decide) (by decide)))).symm
      have m5191 := m5154.trans (Wr.neR wH5176 (Or.inr (x_apart hKT hts inX10 tyX10 tyX10_ok nmX10 rfl 4 59 (by decide) (by decide) (by decide)))).symm
      have m5192 := m5155.trans (Wr.neR wH5176 (Or.inr (x_apart hKT hts inX10 tyX10 tyX10_ok nmX10 rfl 10 59 (by decide) (by decide) (by decide)))).symm
      have m5193 := m5156.trans (Wr.neR wH5176 (Or.inr (x_apart hKT hts inX10 tyX10 tyX10_ok nmX10 rfl 16 59 (by decide) (by decide) (by decide)))).symm
      have m5194 := m5157.trans (Wr.neR wH5176 (Or.inr (x_apart hKT hts inX10 tyX10 tyX10_ok nmX10 rfl 24 59 (by decide) (by decide) (by decide)))).symm
      have m5195 := m5158.trans (Wr.neR wH5176 (Or.inr (x_apart hKT hts inX10 tyX10 tyX10_ok nmX10 rfl 27 59 (by decide) (by decide) (by decide)))).symm
      have m5196 := m5159.trans (Wr.neR wH5176 (Or.inr (x_apart hKT hts inX10 tyX10 tyX10_ok nmX10 rfl 29 59 (by decide) (by decide) (by decide)))).symm
      have m5197 := m5160.trans (Wr.neR wH5176 (Or.inr (x_apart hKT hts inX10 tyX10 tyX10_ok nmX10 rfl 30 59 (by decide) (by decide) (by decide)))).symm
      have m5198 := m5161.trans (Wr.neR wH5176 (Or.inr (x_apart hKT hts inX10 tyX10 tyX10_ok nmX10 rfl 31 59 (by decide) (by decide) (by decide)))).symm
      have m5199 := m5162.trans (Wr.neR wH5176 (Or.inr (x_apart hKT hts inX10 tyX10 tyX10_ok nmX10 rfl 32 59 (by decide) (by decide) (by decide)))).symm
      have m5200 := m5163.trans (Wr.neR wH5176 (Or.inr (x_apart hKT hts inX10 tyX10 tyX10_ok nmX10 rfl 33 59 (by decide) (by decide) (by decide)))).symm
      have m5201 := m5164.trans (Wr.neR wH5176 (Or.inr (x_apart hKT hts inX10 tyX10 tyX10_ok nmX10 rfl 50 59 (by decide) (by decide) (by decide)))).symm
      have m5202 := (Wr.neI wH5176 (Or.inr (x_apart hKT hts inX10 tyX10 tyX10_ok nmX10 rfl 0 59 (by decide) (by decide) (by decide)))).trans m5165
      have m5203 := m5166.trans (Wr.neI wH5176 (Or.inr (x_apart hKT hts inX10 tyX10 tyX10_ok nmX10 rfl 71 59 (by decide) (by decide) (by decide)))).symm
      have m5204 := (Wr.neI wH5176 (Or.inr (x_apart hKT hts inX10 tyX10 tyX10_ok nmX10 rfl 70 59 (by decide) (by decide) (by decide)))).trans m5167
      have m5205 := m5168.trans (Wr.neI wH5176 (Or.inr (x_apart hKT hts inX10 tyX10 tyX10_ok nmX10 rfl 1 59 (by decide) (by decide) (by decide)))).symm
      have m5206 := m5169.trans (Wr.neI wH5176 (Or.inr (x_apart hKT hts inX10 tyX10 tyX10_ok nmX10 rfl 2 59 (by decide) (by decide) (by decide)))).symm
      have m5207 := m5170.trans (Wr.neI wH5176 (Or.inr (x_apart hKT hts inX10 tyX10 tyX10_ok nmX10 rfl 3 59 (by decide) (by decide) (by decide)))).symm
      have m5209 := ex5137.trans (Wr.neI wH5176 (Or.inr (x_apart hKT hts inX10 tyX10 tyX10_ok nmX10 rfl 72 59 (by decide) (by decide) (by decide)))).symm
      have m5210 := Wr.I wH5176
      have m5210 := m5210.symm
      clear b5145 b5146 b5147 b5148 b5149 b5150 b5151 b5152 b5172 b5173 b5174 ex5137 g5139 hTH5135 m5138 m5154 m5155 m5156 m5157 m5158 m5159 m5160 m5161 m5162 m5163 m5164 m5165 m5166 m5167 m5168 m5169 m5170 m5171 p5175
      refine lv_aload_n hx hb dX10_image_81 rfl (lv_at hl 0 rfl) ?_
      refine lv_aload_n hx hb dX10_image_82 rfl (lv_at hl 0 rfl) ?_
      refine lv_aload_n hx hb dX10_image_83 rfl (lv_at hl 0 rfl) ?_
      refine x_gi C hTH5176 (ci := 10) (k := 62) rfl inX10 (by decide) wF_X10_455 ga0 rg_112 rfl dX10_image_84 (fun x5211 ex5211 bx5211 => ?_)
      refine x_V (As := [.int x5211]) (rest := [.ref a0]) C (a_X10_kept l K G H5176 (x5211) (x5137) (x1) hTH5176 ga0 giq m5190 m5209 m5203 g5177 (by and_intros <;> first | assumption | omega)) yo_X10_kept wM_X10_473 ⟨⟨by decide, by decide⟩, by decide, by decide⟩ (x_rv C hTH5176 (ci := 10) rfl ga0 rg_112) rfl hl.1 rfl (Nat.le_of_ble_eq_true rfl) dX10_image_87 hSH5176 (AE_sub (fun _ _ => rfl) (by decide) hSH5176.1) (fun vH5212 H5212 locsH5212 pH5212 zH5212 kH5212 hSH5212 => ?_)
      obtain ⟨x5213, x5214, hvH5212, ex5214, hrH5212, m5215, g5216, mf5217, m5218, m5219, m5220, m5221, hTH5212⟩ := pH5212
      subst hvH5212
      clear zH5212
      replace m5215 := EQN.mk m5215
      have b5222 : UN (x1.toInt ≠ 0) (fun k => fI H5212 q4 k) (fun k => fI s.heap q4 k) := UN.congr (fun j => fI_kept (x_lt hTH5176 kH5212 gq4 (by decide))) b5178
      have b5223 : UN (x1.toInt ≠ 0) (fun k => fI H5212 q16 k) (fun k => fI s.heap q16 k) := UN.congr (fun j => fI_kept (x_lt hTH5176 kH5212 gq16 (by decide))) b5179
      have b5224 : UN (x1.toInt ≠ 0) (fun k => fI H5212 q24 k) (fun k => fI s.heap q24 k) := UN.congr (fun j => fI_kept (x_lt hTH5176 kH5212 gq24 (by decide))) b5180
      have b5225 : UN (x1.toInt ≠ 0) (fun k => fI H5212 q29 k) (fun k => fI s.heap q29 k) := UN.congr (fun j => fI_kept (x_lt hTH5176 kH5212 gq29 (by decide))) b5181
      have b5226 : UN (x1.toInt ≠ 0) (fun k => fI H5212 q30 k) (fun k => fI s.heap q30 k) := UN.congr (fun j => fI_kept (x_lt hTH5176 kH5212 gq30 (by decide))) b5182
      have b5227 : UN (x1.toInt ≠ 0) (fun k => fI H5212 q31 k) (fun k => fI s.heap q31 k) := UN.congr (fun j => fI_kept (x_lt hTH5176 kH5212 gq31 (by decide))) b5183
      have b5228 : UN (x1.toInt ≠ 0) (fun k => fI H5212 q32 k) (fun k => fI s.heap q32 k) := UN.congr (fun j => fI_kept (x_lt hTH5176 kH5212 gq32 (by decide))) b5184
      have b5229 : UN (x1.toInt ≠ 0) (fun k => fI H5212 q33 k) (fun k => fI s.heap q33 k) := UN.congr (fun j => fI_kept (x_lt hTH5176 kH5212 gq33 (by decide))) b5185
      have m5230 := (m5190).trans (MF.r mf5217 (k := 73) (by decide) (by decide)).symm
      have m5231 := (m5191).trans (MF.r mf5217 (k := 4) (by decide) (by decide)).symm
      have m5232 := (m5192).trans (MF.r mf5217 (k := 10) (by decide) (by decide)).symm
      have m5233 := (m5193).trans (MF.r mf5217 (k := 16) (by decide) (by decide)).symm
      have m5234 := (m5194).trans (MF.r mf5217 (k := 24) (by decide) (by decide)).symm
      have m5235 := (m5195).trans (MF.r mf5217 (k := 27) (by decide) (by decide)).symm
      have m5236 := (m5196).trans (MF.r mf5217 (k := 29) (by decide) (by decide)).symm
      have m5237 := (m5197).trans (MF.r mf5217 (k := 30) (by decide) (by decide)).symm
      have m5238 := (m5198).trans (MF.r mf5217 (k := 31) (by decide) (by decide)).symm
      have m5239 := (m5199).trans (MF.r mf5217 (k := 32) (by decide) (by decide)).symm
      have m5240 := (m5200).trans (MF.r mf5217 (k := 33) (by decide) (by decide)).symm
      have m5241 := (m5201).trans (MF.r mf5217 (k := 50) (by decide) (by decide)).symm
      have m5242 := (MF.i mf5217 (k := 0) (by decide) (by decide)).trans m5202
      have m5243 := (m5203).trans (MF.i mf5217 (k := 71) (by decide) (by decide)).symm
      have m5244 := (MF.i mf5217 (k := 70) (by decide) (by decide)).trans m5204
      have m5245 := (m5205).trans (MF.i mf5217 (k := 1) (by decide) (by decide)).symm
      have m5246 := (m5206).trans (MF.i mf5217 (k := 2) (by decide) (by decide)).symm
      have m5247 := (m5207).trans (MF.i mf5217 (k := 3) (by decide) (by decide)).symm
      have m5248 := (m5210).trans (MF.i mf5217 (k := 59) (by decide) (by decide)).symm
      have m5249 := (ex5211).trans (MF.i mf5217 (k := 62) (by decide) (by decide)).symm
      have bx5214 := ty_fi (x := x5214) (k := 72) ex5214 hTH5212 ga0 rg_112 rfl
      have ce_x5137 := i_cl (x := x5137) (by omega)
      have b5250 : UN (x1.toInt = 0) (fun k => fI H5212 iq k) (fun k => fI s.heap iq k) := UN.tr m5221 b5186
      have b5251 : x4925 = fI H5212 iq (0) := (b5187).trans (m5220 _ (by omega)).symm
      have b5252 : x4992 = fI H5212 iq (1) := (b5188).trans (m5220 _ (by omega)).symm
      have b5253 : x5136 = fI H5212 iq (3) := (b5189).trans (m5220 _ (by omega)).symm
      clear b5178 b5179 b5180 b5181 b5182 b5183 b5184 b5185 b5186 b5187 b5188 b5189 ex5211 m5190 m5191 m5192 m5193 m5194 m5195 m5196 m5197 m5198 m5199 m5200 m5201 m5202 m5203 m5204 m5205 m5206 m5207 m5209 m5210
      clear m5220 m5221
      have bx5213 : 0 ≤ x5213.toInt ∧ x5213.toInt ≤ 8 := kr (fun h0 => by have hiw := hIW; exact kr0 (w := fun k => fI H5212 iq k) m5218 (p := 4) (by omega) (b5250 h0) (hiw.1.2.2.2.1)) m5219 (by omega)
      have p5254 : x5213 = fI H5212 iq (4) := by have h := m5218; rw [show x5137.toNatClampNeg = 4 by omega] at h; exact h
      refine W.eq (g2 := F0 m 90 ls [.int x5213, .ref a0]) rfl ?_
      refine x_put C hTH5212 hSH5212 (ci := 10) (k := 62) (v := .int x5213) (ty0 := tyX10) rfl inX10 tyX10_ok nmX10 (by decide) rfl wF_X10_455 ga0 rg_112 rfl rfl (okI (by have := i_rng x5213; omega) (by have := i_rng x5213; omega)) rfl rfl (AE_in ga0 (by decide)) dX10_image_90 (fun H5255 locsH5255 hTH5255 hSH5255 wH5255 => ?_)
      have g5256 : WD (avw K H5255 a0) := WD.congr (fun k hk j => av_fld hTH5212 ga0 hap wH5255 (by decide) (WD_ok 112 (by decide) k hk) (WD_ne 62 (by decide) k hk)) g5216
      have b5257 : UN (x1.toInt ≠ 0) (fun k => fI H5255 q4 k) (fun k => fI s.heap q4 k) := UN.congr (fun j => Wr.neI wH5255 (Or.inl (G_ne gq4 ga0 (by decide)))) b5222
      have b5258 : UN (x1.toInt ≠ 0) (fun k => fI H5255 q16 k) (fun k => fI s.heap q16 k) := UN.congr (fun j => Wr.neI wH5255 (Or.inl (G_ne gq16 ga0 (by decide)))) b5223
      have b5259 : UN (x1.toInt ≠ 0) (fun k => fI H5255 q24 k) (fun k => fI s.heap q24 k) := UN.congr (fun j => Wr.neI wH5255 (Or.inl (G_ne gq24 ga0 (by decide)))) b5224
      have b5260 : UN (x1.toInt ≠ 0) (fun k => fI H5255 q29 k) (fun k => fI s.heap q29 k) := UN.congr (fun j => Wr.neI wH5255 (Or.inl (G_ne gq29 ga0 (by decide)))) b5225
      have b5261 : UN (x1.toInt ≠ 0) (fun k => fI H5255 q30 k) (fun k => fI s.heap q30 k) := UN.congr (fun j => Wr.neI wH5255 (Or.inl (G_ne gq30 ga0 (by decide)))) b5226
      have b5262 : UN (x1.toInt ≠ 0) (fun k => fI H5255 q31 k) (fun k => fI s.heap q31 k) := UN.congr (fun j => Wr.neI wH5255 (Or.inl (G_ne gq31 ga0 (by decide)))) b5227
      have b5263 : UN (x1.toInt ≠ 0) (fun k => fI H5255 q32 k) (fun k => fI s.heap q32 k) := UN.congr (fun j => Wr.neI wH5255 (Or.inl (G_ne gq32 ga0 (by decide)))) b5228
      have b5264 : UN (x1.toInt ≠ 0) (fun k => fI H5255 q33 k) (fun k => fI s.heap q33 k) := UN.congr (fun j => Wr.neI wH5255 (Or.inl (G_ne gq33 ga0 (by decide)))) b5229
      have b5265 : UN (x1.toInt = 0) (fun k => fI H5255 iq k) (fun k => fI s.heap iq k) := UN.congr (fun j => Wr.neI wH5255 (Or.inl (G_ne giq ga0 (by decide)))) b5250
      have b5266 : x4925 = fI H5255 iq (0) := (b5251).trans (Wr.neI wH5255 (Or.inl (G_ne giq ga0 (by decide)))).symm
      have b5267 : x4992 = fI H5255 iq (1) := (b5252).trans (Wr.neI wH5255 (Or.inl (G_ne giq ga0 (by decide)))).symm
      have b5268 : x5136 = fI H5255 iq (3) := (b5253).trans (Wr.neI wH5255 (Or.inl (G_ne giq ga0 (by decide)))).symm
      have b5269 : x5213 = fI H5255 iq (4) := (p5254).trans (Wr.neI wH5255 (Or.inl (G_ne giq ga0 (by decide)))).symm
      have m5270 := m5215.trans (Wr.neR wH5255 (Or.inr (x_apart hKT hts inX10 tyX10 tyX10_ok nmX10 rfl 73 62 (by decide) (by decide) (by decide)))).symm
      have m5271 := m5231.trans (Wr.neR wH5255 (Or.inr (x_apart hKT hts inX10 tyX10 tyX10_ok nmX10 rfl 4 62 (by decide) (by decide) (by decide)))).symm
      have m5272 := m5232.trans (Wr.neR wH5255 (Or.inr (x_apart hKT hts inX10 tyX10 tyX10_ok nmX10 rfl 10 62 (by decide) (by decide) (by decide)))).symm
      have m5273 := m5233.trans (Wr.neR wH5255 (Or.inr (x_apart hKT hts inX10 tyX10 tyX10_ok nmX10 rfl 16 62 (by decide) (by decide) (by decide)))).symm
      have m5274 := m5234.trans (Wr.neR wH5255 (Or.inr (x_apart hKT hts inX10 tyX10 tyX10_ok nmX10 rfl 24 62 (by decide) (by decide) (by decide)))).symm
      have m5275 := m5235.trans (Wr.neR wH5255 (Or.inr (x_apart hKT hts inX10 tyX10 tyX10_ok nmX10 rfl 27 62 (by decide) (by decide) (by decide)))).symm
      have m5276 := m5236.trans (Wr.neR wH5255 (Or.inr (x_apart hKT hts inX10 tyX10 tyX10_ok nmX10 rfl 29 62 (by decide) (by decide) (by decide)))).symm
      have m5277 := m5237.trans (Wr.neR wH5255 (Or.inr (x_apart hKT hts inX10 tyX10 tyX10_ok nmX10 rfl 30 62 (by decide) (by decide) (by decide)))).symm
      have m5278 := m5238.trans (Wr.neR wH5255 (Or.inr (x_apart hKT hts inX10 tyX10 tyX10_ok nmX10 rfl 31 62 (by decide) (by decide) (by decide)))).symm
      have m5279 := m5239.trans (Wr.neR wH5255 (Or.inr (x_apart hKT hts inX10 tyX10 tyX10_ok nmX10 rfl 32 62 (by decide) (by decide) (by decide)))).symm
      have m5280 := m5240.trans (Wr.neR wH5255 (Or.inr (x_apart hKT hts inX10 tyX10 tyX10_ok nmX10 rfl 33 62 (by decide) (by decide) (by decide)))).symm
      have m5281 := m5241.trans (Wr.neR wH5255 (Or.inr (x_apart hKT hts inX10 tyX10 tyX10_ok nmX10 rfl 50 62 (by decide) (by decide) (by decide)))).symm
      have m5282 := (Wr.neI wH5255 (Or.inr (x_apart hKT hts inX10 tyX10 tyX10_ok nmX10 rfl 0 62 (by decide) (by decide) (by decide)))).trans m5242
      have m5283 := m5243.trans (Wr.neI wH5255 (Or.inr (x_apart hKT hts inX10 tyX10 tyX10_ok nmX10 rfl 71 62 (by decide) (by decide) (by decide)))).symm
      have m5284 := (Wr.neI wH5255 (Or.inr (x_apart hKT hts inX10 tyX10 tyX10_ok nmX10 rfl 70 62 (by decide) (by decide) (by decide)))).trans m5244
      have m5285 := m5245.trans (Wr.neI wH5255 (Or.inr (x_apart hKT hts inX10 tyX10 tyX10_ok nmX10 rfl 1 62 (by decide) (by decide) (by decide)))).symm
      have m5286 := m5246.trans (Wr.neI wH5255 (Or.inr (x_apart hKT hts inX10 tyX10 tyX10_ok nmX10 rfl 2 62 (by decide) (by decide) (by decide)))).symm
      have m5287 := m5247.trans (Wr.neI wH5255 (Or.inr (x_apart hKT hts inX10 tyX10 tyX10_ok nmX10 rfl 3 62 (by decide) (by decide) (by decide)))).symm
      have m5288 := m5248.trans (Wr.neI wH5255 (Or.inr (x_apart hKT hts inX10 tyX10 tyX10_ok nmX10 rfl 59 62 (by decide) (by decide) (by decide)))).symm
      have m5290 := ex5214.trans (Wr.neI wH5255 (Or.inr (x_apart hKT hts inX10 tyX10 tyX10_ok nmX10 rfl 72 62 (by decide) (by decide) (by decide)))).symm
      have m5291 := Wr.I wH5255
      have m5291 := m5291.symm
      clear b5222 b5223 b5224 b5225 b5226 b5227 b5228 b5229 b5250 b5251 b5252 b5253 ex5214 g5216 hTH5212 m5215 m5231 m5232 m5233 m5234 m5235 m5236 m5237 m5238 m5239 m5240 m5241 m5242 m5243 m5244 m5245 m5246 m5247 m5248 m5249 p5254
      refine lv_aload_n hx hb dX10_image_93 rfl (lv_at hl 0 rfl) ?_
      refine lv_aload_n hx hb dX10_image_94 rfl (lv_at hl 0 rfl) ?_
      refine lv_aload_n hx hb dX10_image_95 rfl (lv_at hl 0 rfl) ?_
      refine x_gi C hTH5255 (ci := 10) (k := 65) rfl inX10 (by decide) wF_X10_458 ga0 rg_112 rfl dX10_image_96 (fun x5292 ex5292 bx5292 => ?_)
      refine x_V (As := [.int x5292]) (rest := [.ref a0]) C (a_X10_kept l K G H5255 (x5292) (x5214) (x1) hTH5255 ga0 giq m5270 m5290 m5283 g5256 (by and_intros <;> first | assumption | omega)) yo_X10_kept wM_X10_473 ⟨⟨by decide, by decide⟩, by decide, by decide⟩ (x_rv C hTH5255 (ci := 10) rfl ga0 rg_112) rfl hl.1 rfl (Nat.le_of_ble_eq_true rfl) dX10_image_99 hSH5255 (AE_sub (fun _ _ => rfl) (by decide) hSH5255.1) (fun vH5293 H5293 locsH5293 pH5293 zH5293 kH5293 hSH5293 => ?_)
      obtain ⟨x5294, x5295, hvH5293, ex5295, hrH5293, m5296, g5297, mf5298, m5299, m5300, m5301, m5302, hTH5293⟩ := pH5293
      subst hvH5293
      clear zH5293
      replace m5296 := EQN.mk m5296
      have b5303 : UN (x1.toInt ≠ 0) (fun k => fI H5293 q4 k) (fun k => fI s.heap q4 k) := UN.congr (fun j => fI_kept (x_lt hTH5255 kH5293 gq4 (by decide))) b5257
      have b5304 : UN (x1.toInt ≠ 0) (fun k => fI H5293 q16 k) (fun k => fI s.heap q16 k) := UN.congr (fun j => fI_kept (x_lt hTH5255 kH5293 gq16 (by decide))) b5258
      have b5305 : UN (x1.toInt ≠ 0) (fun k => fI H5293 q24 k) (fun k => fI s.heap q24 k) := UN.congr (fun j => fI_kept (x_lt hTH5255 kH5293 gq24 (by decide))) b5259
      have b5306 : UN (x1.toInt ≠ 0) (fun k => fI H5293 q29 k) (fun k => fI s.heap q29 k) := UN.congr (fun j => fI_kept (x_lt hTH5255 kH5293 gq29 (by decide))) b5260
      have b5307 : UN (x1.toInt ≠ 0) (fun k => fI H5293 q30 k) (fun k => fI s.heap q30 k) := UN.congr (fun j => fI_kept (x_lt hTH5255 kH5293 gq30 (by decide))) b5261
      have b5308 : UN (x1.toInt ≠ 0) (fun k => fI H5293 q31 k) (fun k => fI s.heap q31 k) := UN.congr (fun j => fI_kept (x_lt hTH5255 kH5293 gq31 (by decide))) b5262
      have b5309 : UN (x1.toInt ≠ 0) (fun k => fI H5293 q32 k) (fun k => fI s.heap q32 k) := UN.congr (fun j => fI_kept (x_lt hTH5255 kH5293 gq32 (by decide))) b5263
      have b5310 : UN (x1.toInt ≠ 0) (fun k => fI H5293 q33 k) (fun k => fI s.heap q33 k) := UN.congr (fun j => fI_kept (x_lt hTH5255 kH5293 gq33 (by decide))) b5264
      have m5311 := (m5270).trans (MF.r mf5298 (k := 73) (by decide) (by decide)).symm
      have m5312 := (m5271).trans (MF.r mf5298 (k := 4) (by decide) (by decide)).symm
      have m5313 := (m5272).trans (MF.r mf5298 (k := 10) (by decide) (by decide)).symm
      have m5314 := (m5273).trans (MF.r mf5298 (k := 16) (by decide) (by decide)).symm
      have m5315 := (m5274).trans (MF.r mf5298 (k := 24) (by decide) (by decide)).symm
      have m5316 := (m5275).trans (MF.r mf5298 (k := 27) (by decide) (by decide)).symm
      have m5317 := (m5276).trans (MF.r mf5298 (k := 29) (by decide) (by decide)).symm
      have m5318 := (m5277).trans (MF.r mf5298 (k := 30) (by decide) (by decide)).symm
      have m5319 := (m5278).trans (MF.r mf5298 (k := 31) (by decide) (by decide)).symm
      have m5320 := (m5279).trans (MF.r mf5298 (k := 32) (by decide) (by decide)).symm
      have m5321 := (m5280).trans (MF.r mf5298 (k := 33) (by decide) (by decide)).symm
      have m5322 := (m5281).trans (MF.r mf5298 (k := 50) (by decide) (by decide)).symm
      have m5323 := (MF.i mf5298 (k := 0) (by decide) (by decide)).trans m5282
      have m5324 := (m5283).trans (MF.i mf5298 (k := 71) (by decide) (by decide)).symm
      have m5325 := (MF.i mf5298 (k := 70) (by decide) (by decide)).trans m5284
      have m5326 := (m5285).trans (MF.i mf5298 (k := 1) (by decide) (by decide)).symm
      have m5327 := (m5286).trans (MF.i mf5298 (k := 2) (by decide) (by decide)).symm
      have m5328 := (m5287).trans (MF.i mf5298 (k := 3) (by decide) (by decide)).symm
      have m5329 := (m5288).trans (MF.i mf5298 (k := 59) (by decide) (by decide)).symm
      have m5330 := (m5291).trans (MF.i mf5298 (k := 62) (by decide) (by decide)).symm
      have m5331 := (ex5292).trans (MF.i mf5298 (k := 65) (by decide) (by decide)).symm
      have bx5295 := ty_fi (x := x5295) (k := 72) ex5295 hTH5293 ga0 rg_112 rfl
      have ce_x5214 := i_cl (x := x5214) (by omega)
      have b5332 : UN (x1.toInt = 0) (fun k => fI H5293 iq k) (fun k => fI s.heap iq k) := UN.tr m5302 b5265
      have b5333 : x4925 = fI H5293 iq (0) := (b5266).trans (m5301 _ (by omega)).symm
      have b5334 : x4992 = fI H5293 iq (1) := (b5267).trans (m5301 _ (by omega)).symm
      have b5335 : x5136 = fI H5293 iq (3) := (b5268).trans (m5301 _ (by omega)).symm
      have b5336 : x5213 = fI H5293 iq (4) := (b5269).trans (m5301 _ (by omega)).symm
      clear b5257 b5258 b5259 b5260 b5261 b5262 b5263 b5264 b5265 b5266 b5267 b5268 b5269 ex5292 m5270 m5271 m5272 m5273 m5274 m5275 m5276 m5277 m5278 m5279 m5280 m5281 m5282 m5283 m5284 m5285 m5286 m5287 m5288 m5290 m5291
      clear m5301 m5302
      have bx5294 : 0 ≤ x5294.toInt ∧ x5294.toInt ≤ 8 := kr (fun h0 => by have hiw := hIW; exact kr0 (w := fun k => fI H5293 iq k) m5299 (p := 5) (by omega) (b5332 h0) (hiw.1.2.2.2.2)) m5300 (by omega)
      have p5337 : x5294 = fI H5293 iq (5) := by have h := m5299; rw [show x5214.toNatClampNeg = 5 by omega] at h; exact h
      refine W.eq (g2 := F0 m 102 ls [.int x5294, .ref a0]) rfl ?_
      refine x_put C hTH5293 hSH5293 (ci := 10) (k := 65) (v := .int x5294) (ty0 := tyX10) rfl inX10 tyX10_ok nmX10 (by decide) rfl wF_X10_458 ga0 rg_112 rfl rfl (okI (by have := i_rng x5294; omega) (by have := i_rng x5294; omega)) rfl rfl (AE_in ga0 (by decide)) dX10_image_102 (fun H5338 locsH5338 hTH5338 hSH5338 wH5338 => ?_)
      have g5339 : WD (avw K H5338 a0) := WD.congr (fun k hk j => av_fld hTH5293 ga0 hap wH5338 (by decide) (WD_ok 112 (by decide) k hk) (WD_ne 65 (by decide) k hk)) g5297
      have b5340 : UN (x1.toInt ≠ 0) (fun k => fI H5338 q4 k) (fun k => fI s.heap q4 k) := UN.congr (fun j => Wr.neI wH5338 (Or.inl (G_ne gq4 ga0 (by decide)))) b5303
      have b5341 : UN (x1.toInt ≠ 0) (fun k => fI H5338 q16 k) (fun k => fI s.heap q16 k) := UN.congr (fun j => Wr.neI wH5338 (Or.inl (G_ne gq16 ga0 (by decide)))) b5304
      have b5342 : UN (x1.toInt ≠ 0) (fun k => fI H5338 q24 k) (fun k => fI s.heap q24 k) := UN.congr (fun j => Wr.neI wH5338 (Or.inl (G_ne gq24 ga0 (by decide)))) b5305
      have b5343 : UN (x1.toInt ≠ 0) (fun k => fI H5338 q29 k) (fun k => fI s.heap q29 k) := UN.congr (fun j => Wr.neI wH5338 (Or.inl (G_ne gq29 ga0 (by decide)))) b5306
      have b5344 : UN (x1.toInt ≠ 0) (fun k => fI H5338 q30 k) (fun k => fI s.heap q30 k) := UN.congr (fun j => Wr.neI wH5338 (Or.inl (G_ne gq30 ga0 (by decide)))) b5307
      have b5345 : UN (x1.toInt ≠ 0) (fun k => fI H5338 q31 k) (fun k => fI s.heap q31 k) := UN.congr (fun j => Wr.neI wH5338 (Or.inl (G_ne gq31 ga0 (by decide)))) b5308
      have b5346 : UN (x1.toInt ≠ 0) (fun k => fI H5338 q32 k) (fun k => fI s.heap q32 k) := UN.congr (fun j => Wr.neI wH5338 (Or.inl (G_ne gq32 ga0 (by decide)))) b5309
      have b5347 : UN (x1.toInt ≠ 0) (fun k => fI H5338 q33 k) (fun k => fI s.heap q33 k) := UN.congr (fun j => Wr.neI wH5338 (Or.inl (G_ne gq33 ga0 (by decide)))) b5310
      have b5348 : UN (x1.toInt = 0) (fun k => fI H5338 iq k) (fun k => fI s.heap iq k) := UN.congr (fun j => Wr.neI wH5338 (Or.inl (G_ne giq ga0 (by decide)))) b5332
      have b5349 : x4925 = fI H5338 iq (0) := (b5333).trans (Wr.neI wH5338 (Or.inl (G_ne giq ga0 (by decide)))).symm
      have b5350 : x4992 = fI H5338 iq (1) := (b5334).trans (Wr.neI wH5338 (Or.inl (G_ne giq ga0 (by decide)))).symm
      have b5351 : x5136 = fI H5338 iq (3) := (b5335).trans (Wr.neI wH5338 (Or.inl (G_ne giq ga0 (by decide)))).symm
      have b5352 : x5213 = fI H5338 iq (4) := (b5336).trans (Wr.neI wH5338 (Or.inl (G_ne giq ga0 (by decide)))).symm
      have b5353 : x5294 = fI H5338 iq (5) := (p5337).trans (Wr.neI wH5338 (Or.inl (G_ne giq ga0 (by decide)))).symm
      have m5354 := m5296.trans (Wr.neR wH5338 (Or.inr (x_apart hKT hts inX10 tyX10 tyX10_ok nmX10 rfl 73 65 (by decide) (by decide) (by decide)))).symm
      have m5355 := m5312.trans (Wr.neR wH5338 (Or.inr (x_apart hKT hts inX10 tyX10 tyX10_ok nmX10 rfl 4 65 (by decide) (by decide) (by decide)))).symm
      have m5356 := m5313.trans (Wr.neR wH5338 (Or.inr (x_apart hKT hts inX10 tyX10 tyX10_ok nmX10 rfl 10 65 (by decide) (by decide) (by decide)))).symm
      have m5357 := m5314.trans (Wr.neR wH5338 (Or.inr (x_apart hKT hts inX10 tyX10 tyX10_ok nmX10 rfl 16 65 (by decide) (by decide) (by decide)))).symm
      have m5358 := m5315.trans (Wr.neR wH5338 (Or.inr (x_apart hKT hts inX10 tyX10 tyX10_ok nmX10 rfl 24 65 (by decide) (by decide) (by decide)))).symm
      have m5359 := m5316.trans (Wr.neR wH5338 (Or.inr (x_apart hKT hts inX10 tyX10 tyX10_ok nmX10 rfl 27 65 (by decide) (by decide) (by decide)))).symm
      have m5360 := m5317.trans (Wr.neR wH5338 (Or.inr (x_apart hKT hts inX10 tyX10 tyX10_ok nmX10 rfl 29 65 (by decide) (by decide) (by decide)))).symm
      have m5361 := m5318.trans (Wr.neR wH5338 (Or.inr (x_apart hKT hts inX10 tyX10 tyX10_ok nmX10 rfl 30 65 (by decide) (by decide) (by decide)))).symm
      have m5362 := m5319.trans (Wr.neR wH5338 (Or.inr (x_apart hKT hts inX10 tyX10 tyX10_ok nmX10 rfl 31 65 (by decide) (by decide) (by decide)))).symm
      have m5363 := m5320.trans (Wr.neR wH5338 (Or.inr (x_apart hKT hts inX10 tyX10 tyX10_ok nmX10 rfl 32 65 (by decide) (by decide) (by decide)))).symm
      have m5364 := m5321.trans (Wr.neR wH5338 (Or.inr (x_apart hKT hts inX10 tyX10 tyX10_ok nmX10 rfl 33 65 (by decide) (by decide) (by decide)))).symm
      have m5365 := m5322.trans (Wr.neR wH5338 (Or.inr (x_apart hKT hts inX10 tyX10 tyX10_ok nmX10 rfl 50 65 (by decide) (by decide) (by decide)))).symm
      have m5366 := (Wr.neI wH5338 (Or.inr (x_apart hKT hts inX10 tyX10 tyX10_ok nmX10 rfl 0 65 (by decide) (by decide) (by decide)))).trans m5323
      have m5367 := m5324.trans (Wr.neI wH5338 (Or.inr (x_apart hKT hts inX10 tyX10 tyX10_ok nmX10 rfl 71 65 (by decide) (by decide) (by decide)))).symm
      have m5368 := (Wr.neI wH5338 (Or.inr (x_apart hKT hts inX10 tyX10 tyX10_ok nmX10 rfl 70 65 (by decide) (by decide) (by decide)))).trans m5325
      have m5369 := m5326.trans (Wr.neI wH5338 (Or.inr (x_apart hKT hts inX10 tyX10 tyX10_ok nmX10 rfl 1 65 (by decide) (by decide) (by decide)))).symm
      have m5370 := m5327.trans (Wr.neI wH5338 (Or.inr (x_apart hKT hts inX10 tyX10 tyX10_ok nmX10 rfl 2 65 (by decide) (by decide) (by decide)))).symm
      have m5371 := m5328.trans (Wr.neI wH5338 (Or.inr (x_apart hKT hts inX10 tyX10 tyX10_ok nmX10 rfl 3 65 (by decide) (by decide) (by decide)))).symm
      have m5372 := m5329.trans (Wr.neI wH5338 (Or.inr (x_apart hKT hts inX10 tyX10 tyX10_ok nmX10 rfl 59 65 (by decide) (by decide) (by decide)))).symm
      have m5373 := m5330.trans (Wr.neI wH5338 (Or.inr (x_apart hKT hts inX10 tyX10 tyX10_ok nmX10 rfl 62 65 (by decide) (by decide) (by decide)))).symm
      have m5375 := ex5295.trans (Wr.neI wH5338 (Or.inr (x_apart hKT hts inX10 tyX10 tyX10_ok nmX10 rfl 72 65 (by decide) (by decide) (by decide)))).symm
      have m5376 := Wr.I wH5338
      have m5376 := m5376.symm
      clear b5303 b5304 b5305 b5306 b5307 b5308 b5309 b5310 b5332 b5333 b5334 b5335 b5336 ex5295 g5297 hTH5293 m5296 m5312 m5313 m5314 m5315 m5316 m5317 m5318 m5319 m5320 m5321 m5322 m5323 m5324 m5325 m5326 m5327 m5328 m5329 m5330 m5331 p5337
      refine lv_aload_n hx hb dX10_image_105 rfl (lv_at hl 0 rfl) ?_
      refine x_V (As := []) (rest := []) C (a_X10_keepsBars l K G H5338 (x5295) (x1) hTH5338 ga0 giq m5354 gq4 m5355 gq10 m5356 gq16 m5357 gq50 m5365 m5375 m5367 g5339 (by and_intros <;> first | assumption | omega) (fun h0 => IMw.congr (b5348 h0) hIW)) yo_X10_keepsBars wM_X10_479 ⟨⟨by decide, by decide⟩, by decide, by decide⟩ (x_rv C hTH5338 (ci := 10) rfl ga0 rg_112) rfl hl.1 rfl (Nat.le_of_ble_eq_true rfl) dX10_image_106 hSH5338 (AE_sub (fun _ _ => rfl) (by decide) hSH5338.1) (fun vH5377 H5377 locsH5377 pH5377 zH5377 kH5377 hSH5377 => ?_)
      obtain ⟨x5378, hvH5377, ex5378, hrH5377, m5379, m5380, m5381, m5382, m5383, g5384, mf5385, m5386, m5387, m5388, m5389, m5390, m5391, m5392, m5393, hTH5377⟩ := pH5377
      subst hvH5377
      clear zH5377
      replace m5379 := EQN.mk m5379
      replace m5380 := EQN.mk m5380
      replace m5381 := EQN.mk m5381
      replace m5382 := EQN.mk m5382
      replace m5383 := EQN.mk m5383
      have b5394 : UN (x1.toInt ≠ 0) (fun k => fI H5377 q24 k) (fun k => fI s.heap q24 k) := UN.congr (fun j => fI_kept (x_lt hTH5338 kH5377 gq24 (by decide))) b5342
      have b5395 : UN (x1.toInt ≠ 0) (fun k => fI H5377 q29 k) (fun k => fI s.heap q29 k) := UN.congr (fun j => fI_kept (x_lt hTH5338 kH5377 gq29 (by decide))) b5343
      have b5396 : UN (x1.toInt ≠ 0) (fun k => fI H5377 q30 k) (fun k => fI s.heap q30 k) := UN.congr (fun j => fI_kept (x_lt hTH5338 kH5377 gq30 (by decide))) b5344
      have b5397 : UN (x1.toInt ≠ 0) (fun k => fI H5377 q31 k) (fun k => fI s.heap q31 k) := UN.congr (fun j => fI_kept (x_lt hTH5338 kH5377 gq31 (by decide))) b5345
      have b5398 : UN (x1.toInt ≠ 0) (fun k => fI H5377 q32 k) (fun k => fI s.heap q32 k) := UN.congr (fun j => fI_kept (x_lt hTH5338 kH5377 gq32 (by decide))) b5346
      have b5399 : UN (x1.toInt ≠ 0) (fun k => fI H5377 q33 k) (fun k => fI s.heap q33 k) := UN.congr (fun j => fI_kept (x_lt hTH5338 kH5377 gq33 (by decide))) b5347
      have m5400 := (m5354).trans (MF.r mf5385 (k := 73) (by decide) (by decide)).symm
      have m5401 := (m5355).trans (MF.r mf5385 (k := 4) (by decide) (by decide)).symm
      have m5402 := (m5356).trans (MF.r mf5385 (k := 10) (by decide) (by decide)).symm
      have m5403 := (m5357).trans (MF.r mf5385 (k := 16) (by decide) (by decide)).symm
      have m5404 := (m5358).trans (MF.r mf5385 (k := 24) (by decide) (by decide)).symm
      have m5405 := (m5359).trans (MF.r mf5385 (k := 27) (by decide) (by decide)).symm
      have m5406 := (m5360).trans (MF.r mf5385 (k := 29) (by decide) (by decide)).symm
      have m5407 := (m5361).trans (MF.r mf5385 (k := 30) (by decide) (by decide)).symm
      have m5408 := (m5362).trans (MF.r mf5385 (k := 31) (by decide) (by decide)).symm
      have m5409 := (m5363).trans (MF.r mf5385 (k := 32) (by decide) (by decide)).symm
      have m5410 := (m5364).trans (MF.r mf5385 (k := 33) (by decide) (by decide)).symm
      have m5411 := (m5365).trans (MF.r mf5385 (k := 50) (by decide) (by decide)).symm
      have m5412 := (MF.i mf5385 (k := 0) (by decide) (by decide)).trans m5366
      have m5413 := (m5367).trans (MF.i mf5385 (k := 71) (by decide) (by decide)).symm
      have m5414 := (MF.i mf5385 (k := 70) (by decide) (by decide)).trans m5368
      have m5415 := (m5369).trans (MF.i mf5385 (k := 1) (by decide) (by decide)).symm
      have m5416 := (m5370).trans (MF.i mf5385 (k := 2) (by decide) (by decide)).symm
      have m5417 := (m5371).trans (MF.i mf5385 (k := 3) (by decide) (by decide)).symm
      have m5418 := (m5372).trans (MF.i mf5385 (k := 59) (by decide) (by decide)).symm
      have m5419 := (m5373).trans (MF.i mf5385 (k := 62) (by decide) (by decide)).symm
      have m5420 := (m5376).trans (MF.i mf5385 (k := 65) (by decide) (by decide)).symm
      have bx5378 := ty_fi (x := x5378) (k := 72) ex5378 hTH5377 ga0 rg_112 rfl
      have b5421 : UN (x1.toInt ≠ 0) (fun k => fI H5377 q4 k) (fun k => fI s.heap q4 k) := UN.tr m5392 b5340
      have b5422 : UN (x1.toInt ≠ 0) (fun k => fI H5377 q16 k) (fun k => fI s.heap q16 k) := UN.tr m5393 b5341
      have b5423 : UN (x1.toInt = 0) (fun k => fI H5377 iq k) (fun k => fI s.heap iq k) := UN.tr m5386 b5348
      have b5424 : x4925 = fI H5377 iq (0) := (b5349).trans (m5387 _ (by omega)).symm
      have b5425 : x4992 = fI H5377 iq (1) := (b5350).trans (m5387 _ (by omega)).symm
      have b5426 : x5136 = fI H5377 iq (3) := (b5351).trans (m5387 _ (by omega)).symm
      have b5427 : x5213 = fI H5377 iq (4) := (b5352).trans (m5387 _ (by omega)).symm
      have b5428 : x5294 = fI H5377 iq (5) := (b5353).trans (m5387 _ (by omega)).symm
      refine W.eq (g2 := F0 m 109 ls []) rfl ?_
      refine lv_aload_n hx hb dX10_image_109 rfl (lv_at hl 0 rfl) ?_
      refine x_V (As := []) (rest := []) C (a_X10_keepsTaps l K G H5377 (x5378) (x1) hTH5377 ga0 giq m5379 ex5378 m5413 g5384 (by and_intros <;> first | assumption | omega) (fun h0 => IMw.congr (b5423 h0) hIW)) yo_X10_keepsTaps wM_X10_482 ⟨⟨by decide, by decide⟩, by decide, by decide⟩ (x_rv C hTH5377 (ci := 10) rfl ga0 rg_112) rfl hl.1 rfl (Nat.le_of_ble_eq_true rfl) dX10_image_110 hSH5377 (AE_sub (fun _ _ => rfl) (by decide) hSH5377.1) (fun vH5429 H5429 locsH5429 pH5429 zH5429 kH5429 hSH5429 => ?_)
      obtain ⟨x5430, hvH5429, ex5430, hrH5429, m5431, g5432, mf5433, m5434, m5435, hTH5429⟩ := pH5429
      subst hvH5429
      clear zH5429
      replace m5431 := EQN.mk m5431
      have b5436 : UN (x1.toInt ≠ 0) (fun k => fI H5429 q24 k) (fun k => fI s.heap q24 k) := UN.congr (fun j => fI_kept (x_lt hTH5377 kH5429 gq24 (by decide))) b5394
      have b5437 : UN (x1.toInt ≠ 0) (fun k => fI H5429 q29 k) (fun k => fI s.heap q29 k) := UN.congr (fun j => fI_kept (x_lt hTH5377 kH5429 gq29 (by decide))) b5395
      have b5438 : UN (x1.toInt ≠ 0) (fun k => fI H5429 q30 k) (fun k => fI s.heap q30 k) := UN.congr (fun j => fI_kept (x_lt hTH5377 kH5429 gq30 (by decide))) b5396
      have b5439 : UN (x1.toInt ≠ 0) (fun k => fI H5429 q31 k) (fun k => fI s.heap q31 k) := UN.congr (fun j => fI_kept (x_lt hTH5377 kH5429 gq31 (by decide))) b5397
      have b5440 : UN (x1.toInt ≠ 0) (fun k => fI H5429 q32 k) (fun k => fI s.heap q32 k) := UN.congr (fun j => fI_kept (x_lt hTH5377 kH5429 gq32 (by decide))) b5398
      have b5441 : UN (x1.toInt ≠ 0) (fun k => fI H5429 q33 k) (fun k => fI s.heap q33 k) := UN.congr (fun j => fI_kept (x_lt hTH5377 kH5429 gq33 (by decide))) b5399
      have b5442 : UN (x1.toInt ≠ 0) (fun k => fI H5429 q4 k) (fun k => fI s.heap q4 k) := UN.congr (fun j => fI_kept (x_lt hTH5377 kH5429 gq4 (by decide))) b5421
      have b5443 : UN (x1.toInt ≠ 0) (fun k => fI H5429 q16 k) (fun k => fI s.heap q16 k) := UN.congr (fun j => fI_kept (x_lt hTH5377 kH5429 gq16 (by decide))) b5422
      have m5444 := (m5379).trans (MF.r mf5433 (k := 73) (by decide) (by decide)).symm
      have m5445 := (m5380).trans (MF.r mf5433 (k := 4) (by decide) (by decide)).symm
      have m5446 := (m5381).trans (MF.r mf5433 (k := 10) (by decide) (by decide)).symm
      have m5447 := (m5382).trans (MF.r mf5433 (k := 16) (by decide) (by decide)).symm
      have m5448 := (m5404).trans (MF.r mf5433 (k := 24) (by decide) (by decide)).symm
      have m5449 := (m5405).trans (MF.r mf5433 (k := 27) (by decide) (by decide)).symm
      have m5450 := (m5406).trans (MF.r mf5433 (k := 29) (by decide) (by decide)).symm
      have m5451 := (m5407).trans (MF.r mf5433 (k := 30) (by decide) (by decide)).symm
      have m5452 := (m5408).trans (MF.r mf5433 (k := 31) (by decide) (by decide)).symm
      have m5453 := (m5409).trans (MF.r mf5433 (k := 32) (by decide) (by decide)).symm
      have m5454 := (m5410).trans (MF.r mf5433 (k := 33) (by decide) (by decide)).symm
      have m5455 := (m5383).trans (MF.r mf5433 (k := 50) (by decide) (by decide)).symm
      have m5456 := (MF.i mf5433 (k := 0) (by decide) (by decide)).trans m5412
      have m5457 := (m5413).trans (MF.i mf5433 (k := 71) (by decide) (by decide)).symm
      have m5458 := (MF.i mf5433 (k := 70) (by decide) (by decide)).trans m5414
      have m5459 := (m5415).trans (MF.i mf5433 (k := 1) (by decide) (by decide)).symm
      have m5460 := (m5416).trans (MF.i mf5433 (k := 2) (by decide) (by decide)).symm
      have m5461 := (m5417).trans (MF.i mf5433 (k := 3) (by decide) (by decide)).symm
      have m5462 := (m5418).trans (MF.i mf5433 (k := 59) (by decide) (by decide)).symm
      have m5463 := (m5419).trans (MF.i mf5433 (k := 62) (by decide) (by decide)).symm
      have m5464 := (m5420).trans (MF.i mf5433 (k := 65) (by decide) (by decide)).symm
      have bx5430 := ty_fi (x := x5430) (k := 72) ex5430 hTH5429 ga0 rg_112 rfl
      have b5465 : UN (x1.toInt = 0) (fun k => fI H5429 iq k) (fun k => fI s.heap iq k) := UN.tr m5434 b5423
      have b5466 : x4925 = fI H5429 iq (0) := (b5424).trans (m5435 _ (by omega)).symm
      have b5467 : x4992 = fI H5429 iq (1) := (b5425).trans (m5435 _ (by omega)).symm
      have b5468 : x5136 = fI H5429 iq (3) := (b5426).trans (m5435 _ (by omega)).symm
      have b5469 : x5213 = fI H5429 iq (4) := (b5427).trans (m5435 _ (by omega)).symm
      have b5470 : x5294 = fI H5429 iq (5) := (b5428).trans (m5435 _ (by omega)).symm
      have b5471 : EQ (fun k => fI H5429 q4 k) (fun k => fI H5429 iq k) (6) (6) (10) := EQ.fb (EQ.congr (w1 := fun k => fI H5377 iq k) (fun j => fI_kept (x_lt hTH5377 kH5429 gq4 (by decide))) (fun _ => rfl) m5388) m5435 (fun j hj => by omega)
      have b5472 : EQ (fun k => fI H5429 q10 k) (fun k => fI H5429 iq k) (7) (6) (10) := EQ.fb (EQ.congr (w1 := fun k => fI H5377 iq k) (fun j => fI_kept (x_lt hTH5377 kH5429 gq10 (by decide))) (fun _ => rfl) m5389) m5435 (fun j hj => by omega)
      have b5473 : EQ (fun k => fI H5429 q50 k) (fun k => fI H5429 iq k) (11) (6) (10) := EQ.fb (EQ.congr (w1 := fun k => fI H5377 iq k) (fun j => fI_kept (x_lt hTH5377 kH5429 gq50 (by decide))) (fun _ => rfl) m5390) m5435 (fun j hj => by omega)
      have b5474 : EQ (fun k => fI H5429 q16 k) (fun k => fI H5429 iq k) (736) (3) (20) := EQ.fb (EQ.congr (w1 := fun k => fI H5377 iq k) (fun j => fI_kept (x_lt hTH5377 kH5429 gq16 (by decide))) (fun _ => rfl) m5391) m5435 (fun j hj => by omega)
      refine W.eq (g2 := F0 m 113 ls []) rfl ?_
      refine lv_aload_n hx hb dX10_image_113 rfl (lv_at hl 0 rfl) ?_
      refine x_V (As := []) (rest := []) C (a_X10_keepsTexts l K G H5429 (x5430) (x1) hTH5429 ga0 giq m5431 gq24 m5448 gq27 m5449 gq29 m5450 gq30 m5451 gq31 m5452 gq32 m5453 gq33 m5454 ex5430 m5457 g5432 (by and_intros <;> first | assumption | omega) (fun h0 => IMw.congr (b5465 h0) hIW)) yo_X10_keepsTexts wM_X10_485 ⟨⟨by decide, by decide⟩, by decide, by decide⟩ (x_rv C hTH5429 (ci := 10) rfl ga0 rg_112) rfl hl.1 rfl (Nat.le_of_ble_eq_true rfl) dX10_image_114 hSH5429 (AE_sub (fun _ _ => rfl) (by decide) hSH5429.1) (fun vH5475 H5475 locsH5475 pH5475 zH5475 kH5475 hSH5475 => ?_)
      obtain ⟨x5476, hvH5475, ex5476, hrH5475, m5477, m5478, m5479, m5480, m5481, m5482, m5483, m5484, g5485, mf5486, m5487, m5488, m5489, m5490, m5491, m5492, m5493, m5494, m5495, m5496, m5497, m5498, m5499, m5500, m5501, hTH5475⟩ := pH5475
      subst hvH5475
      clear zH5475
      replace m5477 := EQN.mk m5477
      replace m5478 := EQN.mk m5478
      replace m5479 := EQN.mk m5479
      replace m5480 := EQN.mk m5480
      replace m5481 := EQN.mk m5481
      replace m5482 := EQN.mk m5482
      replace m5483 := EQN.mk m5483
      replace m5484 := EQN.mk m5484
      have b5502 : UN (x1.toInt ≠ 0) (fun k => fI H5475 q4 k) (fun k => fI s.heap q4 k) := UN.congr (fun j => fI_kept (x_lt hTH5429 kH5475 gq4 (by decide))) b5442
      have b5503 : UN (x1.toInt ≠ 0) (fun k => fI H5475 q16 k) (fun k => fI s.heap q16 k) := UN.congr (fun j => fI_kept (x_lt hTH5429 kH5475 gq16 (by decide))) b5443
      have m5504 := (m5431).trans (MF.r mf5486 (k := 73) (by decide) (by decide)).symm
      have m5505 := (m5445).trans (MF.r mf5486 (k := 4) (by decide) (by decide)).symm
      have m5506 := (m5446).trans (MF.r mf5486 (k := 10) (by decide) (by decide)).symm
      have m5507 := (m5447).trans (MF.r mf5486 (k := 16) (by decide) (by decide)).symm
      have m5508 := (m5448).trans (MF.r mf5486 (k := 24) (by decide) (by decide)).symm
      have m5509 := (m5449).trans (MF.r mf5486 (k := 27) (by decide) (by decide)).symm
      have m5510 := (m5450).trans (MF.r mf5486 (k := 29) (by decide) (by decide)).symm
      have m5511 := (m5451).trans (MF.r mf5486 (k := 30) (by decide) (by decide)).symm
      have m5512 := (m5452).trans (MF.r mf5486 (k := 31) (by decide) (by decide)).symm
      have m5513 := (m5453).trans (MF.r mf5486 (k := 32) (by decide) (by decide)).symm
      have m5514 := (m5454).trans (MF.r mf5486 (k := 33) (by decide) (by decide)).symm
      have m5515 := (m5455).trans (MF.r mf5486 (k := 50) (by decide) (by decide)).symm
      have m5516 := (MF.i mf5486 (k := 0) (by decide) (by decide)).trans m5456
      have m5517 := (m5457).trans (MF.i mf5486 (k := 71) (by decide) (by decide)).symm
      have m5518 := (MF.i mf5486 (k := 70) (by decide) (by decide)).trans m5458
      have m5519 := (m5459).trans (MF.i mf5486 (k := 1) (by decide) (by decide)).symm
      have m5520 := (m5460).trans (MF.i mf5486 (k := 2) (by decide) (by decide)).symm
      have m5521 := (m5461).trans (MF.i mf5486 (k := 3) (by decide) (by decide)).symm
      have m5522 := (m5462).trans (MF.i mf5486 (k := 59) (by decide) (by decide)).symm
      have m5523 := (m5463).trans (MF.i mf5486 (k := 62) (by decide) (by decide)).symm
      have m5524 := (m5464).trans (MF.i mf5486 (k := 65) (by decide) (by decide)).symm
      have bx5476 := ty_fi (x := x5476) (k := 72) ex5476 hTH5475 ga0 rg_112 rfl
      have b5525 : UN (x1.toInt ≠ 0) (fun k => fI H5475 q24 k) (fun k => fI s.heap q24 k) := UN.tr m5496 b5436
      have b5526 : UN (x1.toInt ≠ 0) (fun k => fI H5475 q29 k) (fun k => fI s.heap q29 k) := UN.tr m5497 b5437
      have b5527 : UN (x1.toInt ≠ 0) (fun k => fI H5475 q30 k) (fun k => fI s.heap q30 k) := UN.tr m5498 b5438
      have b5528 : UN (x1.toInt ≠ 0) (fun k => fI H5475 q31 k) (fun k => fI s.heap q31 k) := UN.tr m5499 b5439
      have b5529 : UN (x1.toInt ≠ 0) (fun k => fI H5475 q32 k) (fun k => fI s.heap q32 k) := UN.tr m5500 b5440
      have b5530 : UN (x1.toInt ≠ 0) (fun k => fI H5475 q33 k) (fun k => fI s.heap q33 k) := UN.tr m5501 b5441
      have b5531 : UN (x1.toInt = 0) (fun k => fI H5475 iq k) (fun k => fI s.heap iq k) := UN.tr m5487 b5465
      have b5532 : x4925 = fI H5475 iq (0) := (b5466).trans (m5488 _ (by omega)).symm
      have b5533 : x4992 = fI H5475 iq (1) := (b5467).trans (m5488 _ (by omega)).symm
      have b5534 : x5136 = fI H5475 iq (3) := (b5468).trans (m5488 _ (by omega)).symm
      have b5535 : x5213 = fI H5475 iq (4) := (b5469).trans (m5488 _ (by omega)).symm
      have b5536 : x5294 = fI H5475 iq (5) := (b5470).trans (m5488 _ (by omega)).symm
      have b5537 : EQ (fun k => fI H5475 q4 k) (fun k => fI H5475 iq k) (6) (6) (10) := EQ.fb (EQ.congr (w1 := fun k => fI H5429 iq k) (fun j => fI_kept (x_lt hTH5429 kH5475 gq4 (by decide))) (fun _ => rfl) b5471) m5488 (fun j hj => by omega)
      have b5538 : EQ (fun k => fI H5475 q10 k) (fun k => fI H5475 iq k) (7) (6) (10) := EQ.fb (EQ.congr (w1 := fun k => fI H5429 iq k) (fun j => fI_kept (x_lt hTH5429 kH5475 gq10 (by decide))) (fun _ => rfl) b5472) m5488 (fun j hj => by omega)
      have b5539 : EQ (fun k => fI H5475 q50 k) (fun k => fI H5475 iq k) (11) (6) (10) := EQ.fb (EQ.congr (w1 := fun k => fI H5429 iq k) (fun j => fI_kept (x_lt hTH5429 kH5475 gq50 (by decide))) (fun _ => rfl) b5473) m5488 (fun j hj => by omega)
      have b5540 : EQ (fun k => fI H5475 q16 k) (fun k => fI H5475 iq k) (736) (3) (20) := EQ.fb (EQ.congr (w1 := fun k => fI H5429 iq k) (fun j => fI_kept (x_lt hTH5429 kH5475 gq16 (by decide))) (fun _ => rfl) b5474) m5488 (fun j hj => by omega)
      refine W.eq (g2 := F0 m 117 ls []) rfl ?_
      have fin := im_fin (H0 := s.heap) (tk := x1) hTH5475 ga0 hg_CG hg_TU hg_IM ⟨EQ.av m5505 m5477 b5537, EQ.av m5506 m5477 b5538, EQ.av m5515 m5477 b5539, EQ.av m5507 m5477 b5540, EQ.av m5478 m5477 m5489, EQ.av m5479 m5477 m5490, EQ.av m5480 m5477 m5491, EQ.av m5481 m5477 m5492, EQ.av m5482 m5477 m5493, EQ.av m5483 m5477 m5494, EQ.av m5484 m5477 m5495⟩ (pl_av m5519 b5532 m5477) (pl_av m5520 b5533 m5477) (pl_av m5522 b5534 m5477) (pl_av m5523 b5535 m5477) (pl_av m5524 b5536 m5477) (fun h => (m5519.symm.trans (m4931 h)).trans ex4089) (all8 (UN.av m5505 eq4 b5502) (UN.av m5507 eq16 b5503) (UN.av m5478 eq24 b5525) (UN.av m5480 eq29 b5526) (UN.av m5481 eq30 b5527) (UN.av m5482 eq31 b5528) (UN.av m5483 eq32 b5529) (UN.av m5484 eq33 b5530)) (UN.av m5477 eiq b5531)
      refine lv_iconst (v := 1) hx hb dX10_image_117 (by decide) ?_
      exact x_zret C hQ (Or.inr rfl) dX10_image_118 hSH5475 (by decide) (by decide) (⟨1, rfl, by decide, m5477, m5505, m5506, m5507, m5478, m5479, m5480, m5481, m5482, m5483, m5484, m5515, fin.1, fin.2.1, g5485, fin.2.2, hTH5475⟩)
    · have k4830 := i_eq c4829
      refine lv_iconst (v := 0) hx hb dX10_image_16 (by decide) ?_
      exact x_zret C hQ (Or.inl rfl) dX10_image_17 hSH4090 (by decide) (by decide) (⟨0, rfl, by decide, m4104, m4105, m4106, m4107, m4108, m4109, m4110, m4111, m4112, m4113, m4114, m4115, g4091, g4092, g4093, g4094, hTH4090⟩)
