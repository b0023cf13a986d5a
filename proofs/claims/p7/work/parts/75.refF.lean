theorem EQ.fb {f w w1 : Nat → Int32} {b s n m : Nat} (h : EQ f w b s n) (e : FB w1 w m) (ht : ∀ j, j < n → b + s * j < m) : EQ f w1 b s n := fun j hj => (h j hj).trans (e _ (ht j hj)).symm
theorem pl_av {K : KE} {H : Heap} {b k q p : Nat} {r : Int32} (h : r = fI H b (K.1.2 10 k)) (hp : r = fI H q p) (e : q = fR H b (K.1.2 10 73)) : svw K H b k = avw K H b 73 p := by subst e; exact h.symm.trans hp
theorem all8 {P : Nat → Prop} (h4 : P 4) (h16 : P 16) (h24 : P 24) (h29 : P 29) (h30 : P 30) (h31 : P 31) (h32 : P 32) (h33 : P 33) : ∀ k ∈ ([4, 16, 24, 29, 30, 31, 32, 33] : List Nat), P k := by
  intro k hk
  simp only [List.mem_cons, List.not_mem_nil, or_false] at hk
  rcases hk with rfl | rfl | rfl | rfl | rfl | rfl | rfl | rfl <;> assumption
set_option maxHeartbeats 4000000 in
set_option maxRecDepth 100000 in
theorem a_X10_image (l : Launch) (K : KE) (G : Nat → Option Nat) (H : Heap) {a0 : Nat} (x1 : Int32) {iq : Nat} {q4 : Nat} {q10 : Nat} {q16 : Nat} {q24 : Nat} {q27 : Nat} {q29 : Nat} {q30 : Nat} {q31 : Nat} {q32 : Nat} {q33 : Nat} {q50 : Nat} (hT : TY K G H) (ga0 : G a0 = some 112) (hx1 : 0 ≤ x1.toInt ∧ x1.toInt ≤ 1) (giq : G iq = some 162) (eiq : iq = fR H a0 (K.1.2 10 73)) (gq4 : G q4 = some 113) (eq4 : q4 = fR H a0 (K.1.2 10 4)) (gq10 : G q10 = some 119) (eq10 : q10 = fR H a0 (K.1.2 10 10)) (gq16 : G q16 = some 125) (eq16 : q16 = fR H a0 (K.1.2 10 16)) (gq24 : G q24 = some 128) (eq24 : q24 = fR H a0 (K.1.2 10 24)) (gq27 : G q27 = some 131) (eq27 : q27 = fR H a0 (K.1.2 10 27)) (gq29 : G q29 = some 133) (eq29 : q29 = fR H a0 (K.1.2 10 29)) (gq30 : G q30 = some 134) (eq30 : q30 = fR H a0 (K.1.2 10 30)) (gq31 : G q31 = some 135) (eq31 : q31 = fR H a0 (K.1.2 10 31)) (gq32 : G q32 = some 136) (eq32 : q32 = fR H a0 (K.1.2 10 32)) (gq33 : G q33 = some 137) (eq33 : q33 = fR H a0 (K.1.2 10 33)) (gq50 : G q50 = some 146) (eq50 : q50 = fR H a0 (K.1.2 10 50)) (hg_CG : CG (avw K H a0)) (hg_TU : TU (avw K H a0) (svw K H a0)) (hg_WD : WD (avw K H a0)) (hg_IM : IM (avw K H a0)) : MX l K yX10_image cX10_image 2 (some .boolean) 2 42 0 0 [.ref a0, .int x1] H (AE G [112, 162, 113, 119, 122, 123, 124, 146, 114, 115, 116, 117, 118, 125, 154, 155, 120, 121, 147, 148, 149, 150, 156, 157, 158, 159, 128, 129, 130, 131, 132, 133, 134, 135, 136, 137] H.size) (fun v H1 => ∃ (r : Int32), v = some (.int r) ∧ (0 ≤ r.toInt ∧ r.toInt ≤ 1) ∧ iq = fR H1 a0 (K.1.2 10 73) ∧ q4 = fR H1 a0 (K.1.2 10 4) ∧ q10 = fR H1 a0 (K.1.2 10 10) ∧ q16 = fR H1 a0 (K.1.2 10 16) ∧ q24 = fR H1 a0 (K.1.2 10 24) ∧ q27 = fR H1 a0 (K.1.2 10 27) ∧ q29 = fR H1 a0 (K.1.2 10 29) ∧ q30 = fR H1 a0 (K.1.2 10 30) ∧ q31 = fR H1 a0 (K.1.2 10 31) ∧ q32 = fR H1 a0 (K.1.2 10 32) ∧ q33 = fR H1 a0 (K.1.2 10 33) ∧ q50 = fR H1 a0 (K.1.2 10 50) ∧ (CG (avw K H1 a0)) ∧ (TU (avw K H1 a0) (svw K H1 a0)) ∧ (WD (avw K H1 a0)) ∧ (IM (avw K H1 a0)) ∧ MF K H H1 a0 [0, 1, 2, 3, 59, 62, 65, 70, 71, 72] ∧ TY K G H1) := by
  refine MX.of (by decide +kernel) (Nat.le_of_ble_eq_true rfl) ?_
  intro p e s m below meth c ls Q C hH hl hQ
  subst hH
  have C : CX p K s m _ meth c RX10 cX10_image 2 (some .boolean) "image" := C
  obtain ⟨hx, hb, hml, hown, hts, hKT, hr, hlocks, hnm⟩ := id C
  have hl : lv_has ls 2 [(0, .ref a0), (1, .int x1)] := hl
  have hS : va_S (AE G [112, 162, 113, 119, 122, 123, 124, 146, 114, 115, 116, 117, 118, 125, 154, 155, 120, 121, 147, 148, 149, 150, 156, 157, 158, 159, 128, 129, 130, 131, 132, 133, 134, 135, 136, 137] s.heap.size) s.heap s.heap [] := va_S.rf
  have n_0 : (0 : Int32).toInt = 0 := rfl
  have n_1 : (1 : Int32).toInt = 1 := rfl
  have hap : ∀ x y, x < 74 → y < 74 → x ≠ y → K.1.2 10 x ≠ K.1.2 10 y := x_apart hKT hts inX10 tyX10 tyX10_ok nmX10 rfl
  have mf0 : MF K s.heap s.heap a0 [0, 1, 2, 3, 59, 62, 65, 70, 71, 72] := fun _ _ _ => rfl
  replace eiq := EQN.mk eiq
  replace eq4 := EQN.mk eq4
  replace eq10 := EQN.mk eq10
  replace eq16 := EQN.mk eq16
  replace eq24 := EQN.mk eq24
  replace eq27 := EQN.mk eq27
  replace eq29 := EQN.mk eq29
  replace eq30 := EQN.mk eq30
  replace eq31 := EQN.mk eq31
  replace eq32 := EQN.mk eq32
  replace eq33 := EQN.mk eq33
  replace eq50 := EQN.mk eq50
  have hIW := IM.w hg_IM eiq
  obtain ⟨x4237, ex4237⟩ : ∃ z : Int32, z = fI s.heap a0 (K.1.2 10 1) := ⟨_, rfl⟩
  have bx4237 := ty_fi (x := x4237) (k := 1) ex4237 hT ga0 rg_112 rfl
  have ui00 : UN (x1.toInt = 0) (fun k => fI s.heap iq k) (fun k => fI s.heap iq k) := UN.rf
  have u400 : UN (x1.toInt ≠ 0) (fun k => fI s.heap q4 k) (fun k => fI s.heap q4 k) := UN.rf
  have u1600 : UN (x1.toInt ≠ 0) (fun k => fI s.heap q16 k) (fun k => fI s.heap q16 k) := UN.rf
  have u2400 : UN (x1.toInt ≠ 0) (fun k => fI s.heap q24 k) (fun k => fI s.heap q24 k) := UN.rf
  have u2900 : UN (x1.toInt ≠ 0) (fun k => fI s.heap q29 k) (fun k => fI s.heap q29 k) := UN.rf
  have u3000 : UN (x1.toInt ≠ 0) (fun k => fI s.heap q30 k) (fun k => fI s.heap q30 k) := UN.rf
  have u3100 : UN (x1.toInt ≠ 0) (fun k => fI s.heap q31 k) (fun k => fI s.heap q31 k) := UN.rf
  have u3200 : UN (x1.toInt ≠ 0) (fun k => fI s.heap q32 k) (fun k => fI s.heap q32 k) := UN.rf
  have u3300 : UN (x1.toInt ≠ 0) (fun k => fI s.heap q33 k) (fun k => fI s.heap q33 k) := UN.rf
  refine lv_aload_n hx hb dX10_image_0 rfl (lv_at hl 0 rfl) ?_
  refine lv_iconst (v := 0) hx hb dX10_image_1 (by decide) ?_
  refine x_put C hT hS (ci := 10) (k := 0) (v := .int 0) (ty0 := tyX10) rfl inX10 tyX10_ok nmX10 (by decide) rfl wF_X10_167 ga0 rg_112 rfl rfl (okI (by have := i_rng (0 : Int32); omega) (by have := i_rng (0 : Int32); omega)) rfl rfl (AE_in ga0 (by decide)) dX10_image_2 (fun H4238 locsH4238 hTH4238 hSH4238 wH4238 => ?_)
  have mf4239 : MF K s.heap H4238 a0 [0, 1, 2, 3, 59, 62, 65, 70, 71, 72] := MF.fld hap wH4238 (by decide) (by decide) mf0
  have g4240 : CG (avw K H4238 a0) := CG.congr (fun k hk j => av_fld hT ga0 hap wH4238 (by decide) (CG_ok 112 (by decide) k hk) (CG_ne 0 (by decide) k hk)) hg_CG
  have g4241 : TU (avw K H4238 a0) (svw K H4238 a0) := TU.congr (fun k hk j => av_fld hT ga0 hap wH4238 (by decide) (TU_ok 112 (by decide) k hk) (TU_ne 0 (by decide) k hk)) (fun k hk => sv_fld hap wH4238 (by decide) (TU_slt k hk) (TU_sne 0 (by decide) k hk)) hg_TU
  have g4242 : WD (avw K H4238 a0) := WD.congr (fun k hk j => av_fld hT ga0 hap wH4238 (by decide) (WD_ok 112 (by decide) k hk) (WD_ne 0 (by decide) k hk)) hg_WD
  have g4243 : IM (avw K H4238 a0) := IM.congr (fun k hk j => av_fld hT ga0 hap wH4238 (by decide) (IM_ok 112 (by decide) k hk) (IM_ne 0 (by decide) k hk)) hg_IM
  have b4244 : UN (x1.toInt = 0) (fun k => fI H4238 iq k) (fun k => fI s.heap iq k) := UN.congr (fun j => Wr.neI wH4238 (Or.inl (G_ne giq ga0 (by decide)))) ui00
  have b4245 : UN (x1.toInt ≠ 0) (fun k => fI H4238 q4 k) (fun k => fI s.heap q4 k) := UN.congr (fun j => Wr.neI wH4238 (Or.inl (G_ne gq4 ga0 (by decide)))) u400
  have b4246 : UN (x1.toInt ≠ 0) (fun k => fI H4238 q16 k) (fun k => fI s.heap q16 k) := UN.congr (fun j => Wr.neI wH4238 (Or.inl (G_ne gq16 ga0 (by decide)))) u1600
  have b4247 : UN (x1.toInt ≠ 0) (fun k => fI H4238 q24 k) (fun k => fI s.heap q24 k) := UN.congr (fun j => Wr.neI wH4238 (Or.inl (G_ne gq24 ga0 (by decide)))) u2400
  have b4248 : UN (x1.toInt ≠ 0) (fun k => fI H4238 q29 k) (fun k => fI s.heap q29 k) := UN.congr (fun j => Wr.neI wH4238 (Or.inl (G_ne gq29 ga0 (by decide)))) u2900
  have b4249 : UN (x1.toInt ≠ 0) (fun k => fI H4238 q30 k) (fun k => fI s.heap q30 k) := UN.congr (fun j => Wr.neI wH4238 (Or.inl (G_ne gq30 ga0 (by decide)))) u3000
  have b4250 : UN (x1.toInt ≠ 0) (fun k => fI H4238 q31 k) (fun k => fI s.heap q31 k) := UN.congr (fun j => Wr.neI wH4238 (Or.inl (G_ne gq31 ga0 (by decide)))) u3100
  have b4251 : UN (x1.toInt ≠ 0) (fun k => fI H4238 q32 k) (fun k => fI s.heap q32 k) := UN.congr (fun j => Wr.neI wH4238 (Or.inl (G_ne gq32 ga0 (by decide)))) u3200
  have b4252 : UN (x1.toInt ≠ 0) (fun k => fI H4238 q33 k) (fun k => fI s.heap q33 k) := UN.congr (fun j => Wr.neI wH4238 (Or.inl (G_ne gq33 ga0 (by decide)))) u3300
  have m4253 := eiq.trans (Wr.neR wH4238 (Or.inr (x_apart hKT hts inX10 tyX10 tyX10_ok nmX10 rfl 73 0 (by decide) (by decide) (by decide)))).symm
  have m4254 := eq4.trans (Wr.neR wH4238 (Or.inr (x_apart hKT hts inX10 tyX10 tyX10_ok nmX10 rfl 4 0 (by decide) (by decide) (by decide)))).symm
  have m4255 := eq10.trans (Wr.neR wH4238 (Or.inr (x_apart hKT hts inX10 tyX10 tyX10_ok nmX10 rfl 10 0 (by decide) (by decide) (by decide)))).symm
  have m4256 := eq16.trans (Wr.neR wH4238 (Or.inr (x_apart hKT hts inX10 tyX10 tyX10_ok nmX10 rfl 16 0 (by decide) (by decide) (by decide)))).symm
  have m4257 := eq24.trans (Wr.neR wH4238 (Or.inr (x_apart hKT hts inX10 tyX10 tyX10_ok nmX10 rfl 24 0 (by decide) (by decide) (by decide)))).symm
  have m4258 := eq27.trans (Wr.neR wH4238 (Or.inr (x_apart hKT hts inX10 tyX10 tyX10_ok nmX10 rfl 27 0 (by decide) (by decide) (by decide)))).symm
  have m4259 := eq29.trans (Wr.neR wH4238 (Or.inr (x_apart hKT hts inX10 tyX10 tyX10_ok nmX10 rfl 29 0 (by decide) (by decide) (by decide)))).symm
  have m4260 := eq30.trans (Wr.neR wH4238 (Or.inr (x_apart hKT hts inX10 tyX10 tyX10_ok nmX10 rfl 30 0 (by decide) (by decide) (by decide)))).symm
  have m4261 := eq31.trans (Wr.neR wH4238 (Or.inr (x_apart hKT hts inX10 tyX10 tyX10_ok nmX10 rfl 31 0 (by decide) (by decide) (by decide)))).symm
  have m4262 := eq32.trans (Wr.neR wH4238 (Or.inr (x_apart hKT hts inX10 tyX10 tyX10_ok nmX10 rfl 32 0 (by decide) (by decide) (by decide)))).symm
  have m4263 := eq33.trans (Wr.neR wH4238 (Or.inr (x_apart hKT hts inX10 tyX10 tyX10_ok nmX10 rfl 33 0 (by decide) (by decide) (by decide)))).symm
  have m4264 := eq50.trans (Wr.neR wH4238 (Or.inr (x_apart hKT hts inX10 tyX10 tyX10_ok nmX10 rfl 50 0 (by decide) (by decide) (by decide)))).symm
  have m4265 := ex4237.trans (Wr.neI wH4238 (Or.inr (x_apart hKT hts inX10 tyX10 tyX10_ok nmX10 rfl 1 0 (by decide) (by decide) (by decide)))).symm
  have m4266 := Wr.I wH4238
  clear mf0 u1600 u2400 u2900 u3000 u3100 u3200 u3300 u400 ui00
  refine lv_iload_n hx hb dX10_image_5 rfl (lv_at hl 1 rfl) ?_
  refine lv_if_ne (tgt := 18) hx hb dX10_image_6 (by decide) (fun c4267 => ?_) (fun c4267 => ?_)
  · have k4268 := i_ne c4267
    refine lv_aload_n hx hb dX10_image_18 rfl (lv_at hl 0 rfl) ?_
    refine lv_iload_n hx hb dX10_image_19 rfl (lv_at hl 1 rfl) ?_
    refine x_put C hTH4238 hSH4238 (ci := 10) (k := 71) (v := .int x1) (ty0 := tyX10) rfl inX10 tyX10_ok nmX10 (by decide) rfl wF_X10_470 ga0 rg_112 rfl rfl (okI (by have := i_rng x1; omega) (by have := i_rng x1; omega)) (by rcases i_01 (x := x1) (by omega) with h | h <;> rw [h] <;> rfl) (by rcases i_01 (x := x1) (by omega) with h | h <;> rw [h] <;> rfl) (AE_in ga0 (by decide)) dX10_image_20 (fun H4269 locsH4269 hTH4269 hSH4269 wH4269 => ?_)
    have mf4270 : MF K s.heap H4269 a0 [0, 1, 2, 3, 59, 62, 65, 70, 71, 72] := MF.fld hap wH4269 (by decide) (by decide) mf4239
    have g4271 : CG (avw K H4269 a0) := CG.congr (fun k hk j => av_fld hTH4238 ga0 hap wH4269 (by decide) (CG_ok 112 (by decide) k hk) (CG_ne 71 (by decide) k hk)) g4240
    have g4272 : TU (avw K H4269 a0) (svw K H4269 a0) := TU.congr (fun k hk j => av_fld hTH4238 ga0 hap wH4269 (by decide) (TU_ok 112 (by decide) k hk) (TU_ne 71 (by decide) k hk)) (fun k hk => sv_fld hap wH4269 (by decide) (TU_slt k hk) (TU_sne 71 (by decide) k hk)) g4241
    have g4273 : WD (avw K H4269 a0) := WD.congr (fun k hk j => av_fld hTH4238 ga0 hap wH4269 (by decide) (WD_ok 112 (by decide) k hk) (WD_ne 71 (by decide) k hk)) g4242
    have g4274 : IM (avw K H4269 a0) := IM.congr (fun k hk j => av_fld hTH4238 ga0 hap wH4269 (by decide) (IM_ok 112 (by decide) k hk) (IM_ne 71 (by decide) k hk)) g4243
    have b4275 : UN (x1.toInt = 0) (fun k => fI H4269 iq k) (fun k => fI s.heap iq k) := UN.congr (fun j => Wr.neI wH4269 (Or.inl (G_ne giq ga0 (by decide)))) b4244
    have b4276 : UN (x1.toInt ≠ 0) (fun k => fI H4269 q4 k) (fun k => fI s.heap q4 k) := UN.congr (fun j => Wr.neI wH4269 (Or.inl (G_ne gq4 ga0 (by decide)))) b4245
    have b4277 : UN (x1.toInt ≠ 0) (fun k => fI H4269 q16 k) (fun k => fI s.heap q16 k) := UN.congr (fun j => Wr.neI wH4269 (Or.inl (G_ne gq16 ga0 (by decide)))) b4246
    have b4278 : UN (x1.toInt ≠ 0) (fun k => fI H4269 q24 k) (fun k => fI s.heap q24 k) := UN.congr (fun j => Wr.neI wH4269 (Or.inl (G_ne gq24 ga0 (by decide)))) b4247
    have b4279 : UN (x1.toInt ≠ 0) (fun k => fI H4269 q29 k) (fun k => fI s.heap q29 k) := UN.congr (fun j => Wr.neI wH4269 (Or.inl (G_ne gq29 ga0 (by decide)))) b4248
    have b4280 : UN (x1.toInt ≠ 0) (fun k => fI H4269 q30 k) (fun k => fI s.heap q30 k) := UN.congr (fun j => Wr.neI wH4269 (Or.inl (G_ne gq30 ga0 (by decide)))) b4249
    have b4281 : UN (x1.toInt ≠ 0) (fun k => fI H4269 q31 k) (fun k => fI s.heap q31 k) := UN.congr (fun j => Wr.neI wH4269 (Or.inl (G_ne gq31 ga0 (by decide)))) b4250
    have b4282 : UN (x1.toInt ≠ 0) (fun k => fI H4269 q32 k) (fun k => fI s.heap q32 k) := UN.congr (fun j => Wr.neI wH4269 (Or.inl (G_ne gq32 ga0 (by decide)))) b4251
    have b4283 : UN (x1.toInt ≠ 0) (fun k => fI H4269 q33 k) (fun k => fI s.heap q33 k) := UN.congr (fun j => Wr.neI wH4269 (Or.inl (G_ne gq33 ga0 (by decide)))) b4252
    have m4284 := m4253.trans (Wr.neR wH4269 (Or.inr (x_apart hKT hts inX10 tyX10 tyX10_ok nmX10 rfl 73 71 (by decide) (by decide) (by decide)))).symm
    have m4285 := m4254.trans (Wr.neR wH4269 (Or.inr (x_apart hKT hts inX10 tyX10 tyX10_ok nmX10 rfl 4 71 (by decide) (by decide) (by decide)))).symm
    have m4286 := m4255.trans (Wr.neR wH4269 (Or.inr (x_apart hKT hts inX10 tyX10 tyX10_ok nmX10 rfl 10 71 (by decide) (by decide) (by decide)))).symm
    have m4287 := m4256.trans (Wr.neR wH4269 (Or.inr (x_apart hKT hts inX10 tyX10 tyX10_ok nmX10 rfl 16 71 (by decide) (by decide) (by decide)))).symm
    have m4288 := m4257.trans (Wr.neR wH4269 (Or.inr (x_apart hKT hts inX10 tyX10 tyX10_ok nmX10 rfl 24 71 (by decide) (by decide) (by decide)))).symm
    have m4289 := m4258.trans (Wr.neR wH4269 (Or.inr (x_apart hKT hts inX10 tyX10 tyX10_ok nmX10 rfl 27 71 (by decide) (by decide) (by decide)))).symm
    have m4290 := m4259.trans (Wr.neR wH4269 (Or.inr (x_apart hKT hts inX10 tyX10 tyX10_ok nmX10 rfl 29 71 (by decide) (by decide) (by decide)))).symm
    have m4291 := m4260.trans (Wr.neR wH4269 (Or.inr (x_apart hKT hts inX10 tyX10 tyX10_ok nmX10 rfl 30 71 (by decide) (by decide) (by decide)))).symm
    have m4292 := m4261.trans (Wr.neR wH4269 (Or.inr (x_apart hKT hts inX10 tyX10 tyX10_ok nmX10 rfl 31 71 (by decide) (by decide) (by decide)))).symm
    have m4293 := m4262.trans (Wr.neR wH4269 (Or.inr (x_apart hKT hts inX10 tyX10 tyX10_ok nmX10 rfl 32 71 (by decide) (by decide) (by decide)))).symm
    have m4294 := m4263.trans (Wr.neR wH4269 (Or.inr (x_apart hKT hts inX10 tyX10 tyX10_ok nmX10 rfl 33 71 (by decide) (by decide) (by decide)))).symm
    have m4295 := m4264.trans (Wr.neR wH4269 (Or.inr (x_apart hKT hts inX10 tyX10 tyX10_ok nmX10 rfl 50 71 (by decide) (by decide) (by decide)))).symm
    have m4296 := m4265.trans (Wr.neI wH4269 (Or.inr (x_apart hKT hts inX10 tyX10 tyX10_ok nmX10 rfl 1 71 (by decide) (by decide) (by decide)))).symm
    have m4297 := (Wr.neI wH4269 (Or.inr (x_apart hKT hts inX10 tyX10 tyX10_ok nmX10 rfl 0 71 (by decide) (by decide) (by decide)))).trans m4266
    have m4298 := Wr.I wH4269
    have m4298 := m4298.symm
    clear b4244 b4245 b4246 b4247 b4248 b4249 b4250 b4251 b4252 g4240 g4241 g4242 g4243 hTH4238 m4253 m4254 m4255 m4256 m4257 m4258 m4259 m4260 m4261 m4262 m4263 m4264 m4265 m4266 mf4239
    refine lv_aload_n hx hb dX10_image_23 rfl (lv_at hl 0 rfl) ?_
    refine lv_iconst (v := 1) hx hb dX10_image_24 (by decide) ?_
    refine x_put C hTH4269 hSH4269 (ci := 10) (k := 70) (v := .int 1) (ty0 := tyX10) rfl inX10 tyX10_ok nmX10 (by decide) rfl wF_X10_476 ga0 rg_112 rfl rfl (okI (by have := i_rng (1 : Int32); omega) (by have := i_rng (1 : Int32); omega)) rfl rfl (AE_in ga0 (by decide)) dX10_image_25 (fun H4299 locsH4299 hTH4299 hSH4299 wH4299 => ?_)
    have mf4300 : MF K s.heap H4299 a0 [0, 1, 2, 3, 59, 62, 65, 70, 71, 72] := MF.fld hap wH4299 (by decide) (by decide) mf4270
    have g4301 : CG (avw K H4299 a0) := CG.congr (fun k hk j => av_fld hTH4269 ga0 hap wH4299 (by decide) (CG_ok 112 (by decide) k hk) (CG_ne 70 (by decide) k hk)) g4271
    have g4302 : TU (avw K H4299 a0) (svw K H4299 a0) := TU.congr (fun k hk j => av_fld hTH4269 ga0 hap wH4299 (by decide) (TU_ok 112 (by decide) k hk) (TU_ne 70 (by decide) k hk)) (fun k hk => sv_fld hap wH4299 (by decide) (TU_slt k hk) (TU_sne 70 (by decide) k hk)) g4272
    have g4303 : WD (avw K H4299 a0) := WD.congr (fun k hk j => av_fld hTH4269 ga0 hap wH4299 (by decide) (WD_ok 112 (by decide) k hk) (WD_ne 70 (by decide) k hk)) g4273
    have g4304 : IM (avw K H4299 a0) := IM.congr (fun k hk j => av_fld hTH4269 ga0 hap wH4299 (by decide) (IM_ok 112 (by decide) k hk) (IM_ne 70 (by decide) k hk)) g4274
    have b4305 : UN (x1.toInt = 0) (fun k => fI H4299 iq k) (fun k => fI s.heap iq k) := UN.congr (fun j => Wr.neI wH4299 (Or.inl (G_ne giq ga0 (by decide)))) b4275
    have b4306 : UN (x1.toInt ≠ 0) (fun k => fI H4299 q4 k) (fun k => fI s.heap q4 k) := UN.congr (fun j => Wr.neI wH4299 (Or.inl (G_ne gq4 ga0 (by decide)))) b4276
    have b4307 : UN (x1.toInt ≠ 0) (fun k => fI H4299 q16 k) (fun k => fI s.heap q16 k) := UN.congr (fun j => Wr.neI wH4299 (Or.inl (G_ne gq16 ga0 (by decide)))) b4277
    have b4308 : UN (x1.toInt ≠ 0) (fun k => fI H4299 q24 k) (fun k => fI s.heap q24 k) := UN.congr (fun j => Wr.neI wH4299 (Or.inl (G_ne gq24 ga0 (by decide)))) b4278
    have b4309 : UN (x1.toInt ≠ 0) (fun k => fI H4299 q29 k) (fun k => fI s.heap q29 k) := UN.congr (fun j => Wr.neI wH4299 (Or.inl (G_ne gq29 ga0 (by decide)))) b4279
    have b4310 : UN (x1.toInt ≠ 0) (fun k => fI H4299 q30 k) (fun k => fI s.heap q30 k) := UN.congr (fun j => Wr.neI wH4299 (Or.inl (G_ne gq30 ga0 (by decide)))) b4280
    have b4311 : UN (x1.toInt ≠ 0) (fun k => fI H4299 q31 k) (fun k => fI s.heap q31 k) := UN.congr (fun j => Wr.neI wH4299 (Or.inl (G_ne gq31 ga0 (by decide)))) b4281
    have b4312 : UN (x1.toInt ≠ 0) (fun k => fI H4299 q32 k) (fun k => fI s.heap q32 k) := UN.congr (fun j => Wr.neI wH4299 (Or.inl (G_ne gq32 ga0 (by decide)))) b4282
    have b4313 : UN (x1.toInt ≠ 0) (fun k => fI H4299 q33 k) (fun k => fI s.heap q33 k) := UN.congr (fun j => Wr.neI wH4299 (Or.inl (G_ne gq33 ga0 (by decide)))) b4283
    have m4314 := m4284.trans (Wr.neR wH4299 (Or.inr (x_apart hKT hts inX10 tyX10 tyX10_ok nmX10 rfl 73 70 (by decide) (by decide) (by decide)))).symm
    have m4315 := m4285.trans (Wr.neR wH4299 (Or.inr (x_apart hKT hts inX10 tyX10 tyX10_ok nmX10 rfl 4 70 (by decide) (by decide) (by decide)))).symm
    have m4316 := m4286.trans (Wr.neR wH4299 (Or.inr (x_apart hKT hts inX10 tyX10 tyX10_ok nmX10 rfl 10 70 (by decide) (by decide) (by decide)))).symm
    have m4317 := m4287.trans (Wr.neR wH4299 (Or.inr (x_apart hKT hts inX10 tyX10 tyX10_ok nmX10 rfl 16 70 (by decide) (by decide) (by decide)))).symm
    have m4318 := m4288.trans (Wr.neR wH4299 (Or.inr (x_apart hKT hts inX10 tyX10 tyX10_ok nmX10 rfl 24 70 (by decide) (by decide) (by decide)))).symm
    have m4319 := m4289.trans (Wr.neR wH4299 (Or.inr (x_apart hKT hts inX10 tyX10 tyX10_ok nmX10 rfl 27 70 (by decide) (by decide) (by decide)))).symm
    have m4320 := m4290.trans (Wr.neR wH4299 (Or.inr (x_apart hKT hts inX10 tyX10 tyX10_ok nmX10 rfl 29 70 (by decide) (by decide) (by decide)))).symm
    have m4321 := m4291.trans (Wr.neR wH4299 (Or.inr (x_apart hKT hts inX10 tyX10 tyX10_ok nmX10 rfl 30 70 (by decide) (by decide) (by decide)))).symm
    have m4322 := m4292.trans (Wr.neR wH4299 (Or.inr (x_apart hKT hts inX10 tyX10 tyX10_ok nmX10 rfl 31 70 (by decide) (by decide) (by decide)))).symm
    have m4323 := m4293.trans (Wr.neR wH4299 (Or.inr (x_apart hKT hts inX10 tyX10 tyX10_ok nmX10 rfl 32 70 (by decide) (by decide) (by decide)))).symm
    have m4324 := m4294.trans (Wr.neR wH4299 (Or.inr (x_apart hKT hts inX10 tyX10 tyX10_ok nmX10 rfl 33 70 (by decide) (by decide) (by decide)))).symm
    have m4325 := m4295.trans (Wr.neR wH4299 (Or.inr (x_apart hKT hts inX10 tyX10 tyX10_ok nmX10 rfl 50 70 (by decide) (by decide) (by decide)))).symm
    have m4326 := m4296.trans (Wr.neI wH4299 (Or.inr (x_apart hKT hts inX10 tyX10 tyX10_ok nmX10 rfl 1 70 (by decide) (by decide) (by decide)))).symm
    have m4327 := (Wr.neI wH4299 (Or.inr (x_apart hKT hts inX10 tyX10 tyX10_ok nmX10 rfl 0 70 (by decide) (by decide) (by decide)))).trans m4297
    have m4328 := m4298.trans (Wr.neI wH4299 (Or.inr (x_apart hKT hts inX10 tyX10 tyX10_ok nmX10 rfl 71 70 (by decide) (by decide) (by decide)))).symm
    have m4329 := Wr.I wH4299
    clear b4275 b4276 b4277 b4278 b4279 b4280 b4281 b4282 b4283 g4271 g4272 g4273 g4274 hTH4269 m4284 m4285 m4286 m4287 m4288 m4289 m4290 m4291 m4292 m4293 m4294 m4295 m4296 m4297 m4298 mf4270
    refine lv_aload_n hx hb dX10_image_28 rfl (lv_at hl 0 rfl) ?_
    refine lv_iconst (v := 0) hx hb dX10_image_29 (by decide) ?_
    refine x_put C hTH4299 hSH4299 (ci := 10) (k := 72) (v := .int 0) (ty0 := tyX10) rfl inX10 tyX10_ok nmX10 (by decide) rfl wF_X10_467 ga0 rg_112 rfl rfl (okI (by have := i_rng (0 : Int32); omega) (by have := i_rng (0 : Int32); omega)) rfl rfl (AE_in ga0 (by decide)) dX10_image_30 (fun H4330 locsH4330 hTH4330 hSH4330 wH4330 => ?_)
    have mf4331 : MF K s.heap H4330 a0 [0, 1, 2, 3, 59, 62, 65, 70, 71, 72] := MF.fld hap wH4330 (by decide) (by decide) mf4300
    have g4332 : CG (avw K H4330 a0) := CG.congr (fun k hk j => av_fld hTH4299 ga0 hap wH4330 (by decide) (CG_ok 112 (by decide) k hk) (CG_ne 72 (by decide) k hk)) g4301
    have g4333 : TU (avw K H4330 a0) (svw K H4330 a0) := TU.congr (fun k hk j => av_fld hTH4299 ga0 hap wH4330 (by decide) (TU_ok 112 (by decide) k hk) (TU_ne 72 (by decide) k hk)) (fun k hk => sv_fld hap wH4330 (by decide) (TU_slt k hk) (TU_sne 72 (by decide) k hk)) g4302
    have g4334 : WD (avw K H4330 a0) := WD.congr (fun k hk j => av_fld hTH4299 ga0 hap wH4330 (by decide) (WD_ok 112 (by decide) k hk) (WD_ne 72 (by decide) k hk)) g4303
    have g4335 : IM (avw K H4330 a0) := IM.congr (fun k hk j => av_fld hTH4299 ga0 hap wH4330 (by decide) (IM_ok 112 (by decide) k hk) (IM_ne 72 (by decide) k hk)) g4304
    have b4336 : UN (x1.toInt = 0) (fun k => fI H4330 iq k) (fun k => fI s.heap iq k) := UN.congr (fun j => Wr.neI wH4330 (Or.inl (G_ne giq ga0 (by decide)))) b4305
    have b4337 : UN (x1.toInt ≠ 0) (fun k => fI H4330 q4 k) (fun k => fI s.heap q4 k) := UN.congr (fun j => Wr.neI wH4330 (Or.inl (G_ne gq4 ga0 (by decide)))) b4306
    have b4338 : UN (x1.toInt ≠ 0) (fun k => fI H4330 q16 k) (fun k => fI s.heap q16 k) := UN.congr (fun j => Wr.neI wH4330 (Or.inl (G_ne gq16 ga0 (by decide)))) b4307
    have b4339 : UN (x1.toInt ≠ 0) (fun k => fI H4330 q24 k) (fun k => fI s.heap q24 k) := UN.congr (fun j => Wr.neI wH4330 (Or.inl (G_ne gq24 ga0 (by decide)))) b4308
    have b4340 : UN (x1.toInt ≠ 0) (fun k => fI H4330 q29 k) (fun k => fI s.heap q29 k) := UN.congr (fun j => Wr.neI wH4330 (Or.inl (G_ne gq29 ga0 (by decide)))) b4309
    have b4341 : UN (x1.toInt ≠ 0) (fun k => fI H4330 q30 k) (fun k => fI s.heap q30 k) := UN.congr (fun j => Wr.neI wH4330 (Or.inl (G_ne gq30 ga0 (by decide)))) b4310
    have b4342 : UN (x1.toInt ≠ 0) (fun k => fI H4330 q31 k) (fun k => fI s.heap q31 k) := UN.congr (fun j => Wr.neI wH4330 (Or.inl (G_ne gq31 ga0 (by decide)))) b4311
    have b4343 : UN (x1.toInt ≠ 0) (fun k => fI H4330 q32 k) (fun k => fI s.heap q32 k) := UN.congr (fun j => Wr.neI wH4330 (Or.inl (G_ne gq32 ga0 (by decide)))) b4312
    have b4344 : UN (x1.toInt ≠ 0) (fun k => fI H4330 q33 k) (fun k => fI s.heap q33 k) := UN.congr (fun j => Wr.neI wH4330 (Or.inl (G_ne gq33 ga0 (by decide)))) b4313
    have m4345 := m4314.trans (Wr.neR wH4330 (Or.inr (x_apart hKT hts inX10 tyX10 tyX10_ok nmX10 rfl 73 72 (by decide) (by decide) (by decide)))).symm
    have m4346 := m4315.trans (Wr.neR wH4330 (Or.inr (x_apart hKT hts inX10 tyX10 tyX10_ok nmX10 rfl 4 72 (by decide) (by decide) (by decide)))).symm
    have m4347 := m4316.trans (Wr.neR wH4330 (Or.inr (x_apart hKT hts inX10 tyX10 tyX10_ok nmX10 rfl 10 72 (by decide) (by decide) (by decide)))).symm
    have m4348 := m4317.trans (Wr.neR wH4330 (Or.inr (x_apart hKT hts inX10 tyX10 tyX10_ok nmX10 rfl 16 72 (by decide) (by decide) (by decide)))).symm
    have m4349 := m4318.trans (Wr.neR wH4330 (Or.inr (x_apart hKT hts inX10 tyX10 tyX10_ok nmX10 rfl 24 72 (by decide) (by decide) (by decide)))).symm
    have m4350 := m4319.trans (Wr.neR wH4330 (Or.inr (x_apart hKT hts inX10 tyX10 tyX10_ok nmX10 rfl 27 72 (by decide) (by decide) (by decide)))).symm
    have m4351 := m4320.trans (Wr.neR wH4330 (Or.inr (x_apart hKT hts inX10 tyX10 tyX10_ok nmX10 rfl 29 72 (by decide) (by decide) (by decide)))).symm
    have m4352 := m4321.trans (Wr.neR wH4330 (Or.inr (x_apart hKT hts inX10 tyX10 tyX10_ok nmX10 rfl 30 72 (by decide) (by decide) (by decide)))).symm
    have m4353 := m4322.trans (Wr.neR wH4330 (Or.inr (x_apart hKT hts inX10 tyX10 tyX10_ok nmX10 rfl 31 72 (by decide) (by decide) (by decide)))).symm
    have m4354 := m4323.trans (Wr.neR wH4330 (Or.inr (x_apart hKT hts inX10 tyX10 tyX10_ok nmX10 rfl 32 72 (by decide) (by decide) (by decide)))).symm
    have m4355 := m4324.trans (Wr.neR wH4330 (Or.inr (x_apart hKT hts inX10 tyX10 tyX10_ok nmX10 rfl 33 72 (by decide) (by decide) (by decide)))).symm
    have m4356 := m4325.trans (Wr.neR wH4330 (Or.inr (x_apart hKT hts inX10 tyX10 tyX10_ok nmX10 rfl 50 72 (by decide) (by decide) (by decide)))).symm
    have m4357 := m4326.trans (Wr.neI wH4330 (Or.inr (x_apart hKT hts inX10 tyX10 tyX10_ok nmX10 rfl 1 72 (by decide) (by decide) (by decide)))).symm
    have m4358 := (Wr.neI wH4330 (Or.inr (x_apart hKT hts inX10 tyX10 tyX10_ok nmX10 rfl 0 72 (by decide) (by decide) (by decide)))).trans m4327
    have m4359 := m4328.trans (Wr.neI wH4330 (Or.inr (x_apart hKT hts inX10 tyX10 tyX10_ok nmX10 rfl 71 72 (by decide) (by decide) (by decide)))).symm
    have m4360 := (Wr.neI wH4330 (Or.inr (x_apart hKT hts inX10 tyX10 tyX10_ok nmX10 rfl 70 72 (by decide) (by decide) (by decide)))).trans m4329
    have m4361 := Wr.I wH4330
    clear b4305 b4306 b4307 b4308 b4309 b4310 b4311 b4312 b4313 g4301 g4302 g4303 g4304 hTH4299 m4314 m4315 m4316 m4317 m4318 m4319 m4320 m4321 m4322 m4323 m4324 m4325 m4326 m4327 m4328 m4329 mf4300
    refine lv_aload_n hx hb dX10_image_33 rfl (lv_at hl 0 rfl) ?_
    refine lv_aload_n hx hb dX10_image_34 rfl (lv_at hl 0 rfl) ?_
    refine lv_aload_n hx hb dX10_image_35 rfl (lv_at hl 0 rfl) ?_
    refine x_gi C hTH4330 (ci := 10) (k := 1) rfl inX10 (by decide) wF_X10_170 ga0 rg_112 rfl dX10_image_36 (fun x4362 ex4362 bx4362 => ?_)
    have ux4362 : x4237 = x4362 := (m4357).trans ex4362.symm
    subst ux4362
    refine x_V (As := [.int x4237]) (rest := [.ref a0]) C (a_X10_kept l K G H4330 (x4237) (0) (x1) hTH4330 ga0 giq m4345 (m4361).symm m4359 g4334 (by and_intros <;> first | assumption | omega)) yo_X10_kept wM_X10_473 ⟨⟨by decide, by decide⟩, by decide, by decide⟩ (x_rv C hTH4330 (ci := 10) rfl ga0 rg_112) rfl hl.1 rfl (Nat.le_of_ble_eq_true rfl) dX10_image_39 hSH4330 (AE_sub (fun _ _ => rfl) (by decide) hSH4330.1) (fun vH4363 H4363 locsH4363 pH4363 zH4363 kH4363 hSH4363 => ?_)
    obtain ⟨x4364, x4365, hvH4363, ex4365, hrH4363, m4366, g4367, mf4368, m4369, m4370, m4371, m4372, hTH4363⟩ := pH4363
    subst hvH4363
    clear zH4363
    replace m4366 := EQN.mk m4366
    have b4373 : UN (x1.toInt ≠ 0) (fun k => fI H4363 q4 k) (fun k => fI s.heap q4 k) := UN.congr (fun j => fI_kept (x_lt hTH4330 kH4363 gq4 (by decide))) b4337
    have b4374 : UN (x1.toInt ≠ 0) (fun k => fI H4363 q16 k) (fun k => fI s.heap q16 k) := UN.congr (fun j => fI_kept (x_lt hTH4330 kH4363 gq16 (by decide))) b4338
    have b4375 : UN (x1.toInt ≠ 0) (fun k => fI H4363 q24 k) (fun k => fI s.heap q24 k) := UN.congr (fun j => fI_kept (x_lt hTH4330 kH4363 gq24 (by decide))) b4339
    have b4376 : UN (x1.toInt ≠ 0) (fun k => fI H4363 q29 k) (fun k => fI s.heap q29 k) := UN.congr (fun j => fI_kept (x_lt hTH4330 kH4363 gq29 (by decide))) b4340
    have b4377 : UN (x1.toInt ≠ 0) (fun k => fI H4363 q30 k) (fun k => fI s.heap q30 k) := UN.congr (fun j => fI_kept (x_lt hTH4330 kH4363 gq30 (by decide))) b4341
    have b4378 : UN (x1.toInt ≠ 0) (fun k => fI H4363 q31 k) (fun k => fI s.heap q31 k) := UN.congr (fun j => fI_kept (x_lt hTH4330 kH4363 gq31 (by decide))) b4342
    have b4379 : UN (x1.toInt ≠ 0) (fun k => fI H4363 q32 k) (fun k => fI s.heap q32 k) := UN.congr (fun j => fI_kept (x_lt hTH4330 kH4363 gq32 (by decide))) b4343
    have b4380 : UN (x1.toInt ≠ 0) (fun k => fI H4363 q33 k) (fun k => fI s.heap q33 k) := UN.congr (fun j => fI_kept (x_lt hTH4330 kH4363 gq33 (by decide))) b4344
    have m4381 := (m4345).trans (MF.r mf4368 (k := 73) (by decide) (by decide)).symm
    have m4382 := (m4346).trans (MF.r mf4368 (k := 4) (by decide) (by decide)).symm
    have m4383 := (m4347).trans (MF.r mf4368 (k := 10) (by decide) (by decide)).symm
    have m4384 := (m4348).trans (MF.r mf4368 (k := 16) (by decide) (by decide)).symm
    have m4385 := (m4349).trans (MF.r mf4368 (k := 24) (by decide) (by decide)).symm
    have m4386 := (m4350).trans (MF.r mf4368 (k := 27) (by decide) (by decide)).symm
    have m4387 := (m4351).trans (MF.r mf4368 (k := 29) (by decide) (by decide)).symm
    have m4388 := (m4352).trans (MF.r mf4368 (k := 30) (by decide) (by decide)).symm
    have m4389 := (m4353).trans (MF.r mf4368 (k := 31) (by decide) (by decide)).symm
    have m4390 := (m4354).trans (MF.r mf4368 (k := 32) (by decide) (by decide)).symm
    have m4391 := (m4355).trans (MF.r mf4368 (k := 33) (by decide) (by decide)).symm
    have m4392 := (m4356).trans (MF.r mf4368 (k := 50) (by decide) (by decide)).symm
    have m4393 := (m4357).trans (MF.i mf4368 (k := 1) (by decide) (by decide)).symm
    have m4394 := (MF.i mf4368 (k := 0) (by decide) (by decide)).trans m4358
    have m4395 := (m4359).trans (MF.i mf4368 (k := 71) (by decide) (by decide)).symm
    have m4396 := (MF.i mf4368 (k := 70) (by decide) (by decide)).trans m4360
    have mf4397 : MF K s.heap H4363 a0 [0, 1, 2, 3, 59, 62, 65, 70, 71, 72] := MF.trans mf4331 mf4368 (by decide)
    have bx4365 := ty_fi (x := x4365) (k := 72) ex4365 hTH4363 ga0 rg_112 rfl
    have ce_k0 : (0 : Int32).toNatClampNeg = 0 := rfl
    have b4398 : UN (x1.toInt = 0) (fun k => fI H4363 iq k) (fun k => fI s.heap iq k) := UN.tr m4372 b4336
    clear b4336 b4337 b4338 b4339 b4340 b4341 b4342 b4343 b4344 m4345 m4346 m4347 m4348 m4349 m4350 m4351 m4352 m4353 m4354 m4355 m4356 m4357 m4358 m4359 m4360 m4361
    clear m4371 m4372
    have bx4364 : 0 ≤ x4364.toInt ∧ x4364.toInt ≤ 10 := kr (fun h0 => by have hiw := hIW; exact kr0 (w := fun k => fI H4363 iq k) m4369 (p := 0) (by omega) (b4398 h0) (hiw.1.1)) m4370 (by omega)
    have p4399 : x4364 = fI H4363 iq (0) := by have h := m4369; rw [show (0 : Int32).toNatClampNeg = 0 by omega] at h; exact h
    refine W.eq (g2 := F0 m 42 ls [.int x4364, .ref a0]) rfl ?_
    refine x_put C hTH4363 hSH4363 (ci := 10) (k := 1) (v := .int x4364) (ty0 := tyX10) rfl inX10 tyX10_ok nmX10 (by decide) rfl wF_X10_170 ga0 rg_112 rfl rfl (okI (by have := i_rng x4364; omega) (by have := i_rng x4364; omega)) rfl rfl (AE_in ga0 (by decide)) dX10_image_42 (fun H4400 locsH4400 hTH4400 hSH4400 wH4400 => ?_)
    have mf4401 : MF K s.heap H4400 a0 [0, 1, 2, 3, 59, 62, 65, 70, 71, 72] := MF.fld hap wH4400 (by decide) (by decide) mf4397
    have g4402 : WD (avw K H4400 a0) := WD.congr (fun k hk j => av_fld hTH4363 ga0 hap wH4400 (by decide) (WD_ok 112 (by decide) k hk) (WD_ne 1 (by decide) k hk)) g4367
    have b4403 : UN (x1.toInt ≠ 0) (fun k => fI H4400 q4 k) (fun k => fI s.heap q4 k) := UN.congr (fun j => Wr.neI wH4400 (Or.inl (G_ne gq4 ga0 (by decide)))) b4373
    have b4404 : UN (x1.toInt ≠ 0) (fun k => fI H4400 q16 k) (fun k => fI s.heap q16 k) := UN.congr (fun j => Wr.neI wH4400 (Or.inl (G_ne gq16 ga0 (by decide)))) b4374
    have b4405 : UN (x1.toInt ≠ 0) (fun k => fI H4400 q24 k) (fun k => fI s.heap q24 k) := UN.congr (fun j => Wr.neI wH4400 (Or.inl (G_ne gq24 ga0 (by decide)))) b4375
    have b4406 : UN (x1.toInt ≠ 0) (fun k => fI H4400 q29 k) (fun k => fI s.heap q29 k) := UN.congr (fun j => Wr.neI wH4400 (Or.inl (G_ne gq29 ga0 (by decide)))) b4376
    have b4407 : UN (x1.toInt ≠ 0) (fun k => fI H4400 q30 k) (fun k => fI s.heap q30 k) := UN.congr (fun j => Wr.neI wH4400 (Or.inl (G_ne gq30 ga0 (by decide)))) b4377
    have b4408 : UN (x1.toInt ≠ 0) (fun k => fI H4400 q31 k) (fun k => fI s.heap q31 k) := UN.congr (fun j => Wr.neI wH4400 (Or.inl (G_ne gq31 ga0 (by decide)))) b4378
    have b4409 : UN (x1.toInt ≠ 0) (fun k => fI H4400 q32 k) (fun k => fI s.heap q32 k) := UN.congr (fun j => Wr.neI wH4400 (Or.inl (G_ne gq32 ga0 (by decide)))) b4379
    have b4410 : UN (x1.toInt ≠ 0) (fun k => fI H4400 q33 k) (fun k => fI s.heap q33 k) := UN.congr (fun j => Wr.neI wH4400 (Or.inl (G_ne gq33 ga0 (by decide)))) b4380
    have b4411 : UN (x1.toInt = 0) (fun k => fI H4400 iq k) (fun k => fI s.heap iq k) := UN.congr (fun j => Wr.neI wH4400 (Or.inl (G_ne giq ga0 (by decide)))) b4398
    have b4412 : x4364 = fI H4400 iq (0) := (p4399).trans (Wr.neI wH4400 (Or.inl (G_ne giq ga0 (by decide)))).symm
    have m4413 := m4366.trans (Wr.neR wH4400 (Or.inr (x_apart hKT hts inX10 tyX10 tyX10_ok nmX10 rfl 73 1 (by decide) (by decide) (by decide)))).symm
    have m4414 := m4382.trans (Wr.neR wH4400 (Or.inr (x_apart hKT hts inX10 tyX10 tyX10_ok nmX10 rfl 4 1 (by decide) (by decide) (by decide)))).symm
    have m4415 := m4383.trans (Wr.neR wH4400 (Or.inr (x_apart hKT hts inX10 tyX10 tyX10_ok nmX10 rfl 10 1 (by decide) (by decide) (by decide)))).symm
    have m4416 := m4384.trans (Wr.neR wH4400 (Or.inr (x_apart hKT hts inX10 tyX10 tyX10_ok nmX10 rfl 16 1 (by decide) (by decide) (by decide)))).symm
    have m4417 := m4385.trans (Wr.neR wH4400 (Or.inr (x_apart hKT hts inX10 tyX10 tyX10_ok nmX10 rfl 24 1 (by decide) (by decide) (by decide)))).symm
    have m4418 := m4386.trans (Wr.neR wH4400 (Or.inr (x_apart hKT hts inX10 tyX10 tyX10_ok nmX10 rfl 27 1 (by decide) (by decide) (by decide)))).symm
    have m4419 := m4387.trans (Wr.neR wH4400 (Or.inr (x_apart hKT hts inX10 tyX10 tyX10_ok nmX10 rfl 29 1 (by decide) (by decide) (by decide)))).symm
    have m4420 := m4388.trans (Wr.neR wH4400 (Or.inr (x_apart hKT hts inX10 tyX10 tyX10_ok nmX10 rfl 30 1 (by decide) (by decide) (by decide)))).symm
    have m4421 := m4389.trans (Wr.neR wH4400 (Or.inr (x_apart hKT hts inX10 tyX10 tyX10_ok nmX10 rfl 31 1 (by decide) (by decide) (by decide)))).symm
    have m4422 := m4390.trans (Wr.neR wH4400 (Or.inr (x_apart hKT hts inX10 tyX10 tyX10_ok nmX10 rfl 32 1 (by decide) (by decide) (by decide)))).symm
    have m4423 := m4391.trans (Wr.neR wH4400 (Or.inr (x_apart hKT hts inX10 tyX10 tyX10_ok nmX10 rfl 33 1 (by decide) (by decide) (by decide)))).symm
    have m4424 := m4392.trans (Wr.neR wH4400 (Or.inr (x_apart hKT hts inX10 tyX10 tyX10_ok nmX10 rfl 50 1 (by decide) (by decide) (by decide)))).symm
    have m4426 := (Wr.neI wH4400 (Or.inr (x_apart hKT hts inX10 tyX10 tyX10_ok nmX10 rfl 0 1 (by decide) (by decide) (by decide)))).trans m4394
    have m4427 := m4395.trans (Wr.neI wH4400 (Or.inr (x_apart hKT hts inX10 tyX10 tyX10_ok nmX10 rfl 71 1 (by decide) (by decide) (by decide)))).symm
    have m4428 := (Wr.neI wH4400 (Or.inr (x_apart hKT hts inX10 tyX10 tyX10_ok nmX10 rfl 70 1 (by decide) (by decide) (by decide)))).trans m4396
    have m4429 := ex4365.trans (Wr.neI wH4400 (Or.inr (x_apart hKT hts inX10 tyX10 tyX10_ok nmX10 rfl 72 1 (by decide) (by decide) (by decide)))).symm
    have m4430 := Wr.I wH4400
    have m4430 := m4430.symm
    clear b4373 b4374 b4375 b4376 b4377 b4378 b4379 b4380 b4398 ex4365 g4367 hTH4363 m4366 m4382 m4383 m4384 m4385 m4386 m4387 m4388 m4389 m4390 m4391 m4392 m4393 m4394 m4395 m4396 mf4397 p4399
    refine lv_aload_n hx hb dX10_image_45 rfl (lv_at hl 0 rfl) ?_
    refine lv_aload_n hx hb dX10_image_46 rfl (lv_at hl 0 rfl) ?_
    refine lv_aload_n hx hb dX10_image_47 rfl (lv_at hl 0 rfl) ?_
    refine x_gi C hTH4400 (ci := 10) (k := 2) rfl inX10 (by decide) wF_X10_322 ga0 rg_112 rfl dX10_image_48 (fun x4431 ex4431 bx4431 => ?_)
    refine x_V (As := [.int x4431]) (rest := [.ref a0]) C (a_X10_kept l K G H4400 (x4431) (x4365) (x1) hTH4400 ga0 giq m4413 m4429 m4427 g4402 (by and_intros <;> first | assumption | omega)) yo_X10_kept wM_X10_473 ⟨⟨by decide, by decide⟩, by decide, by decide⟩ (x_rv C hTH4400 (ci := 10) rfl ga0 rg_112) rfl hl.1 rfl (Nat.le_of_ble_eq_true rfl) dX10_image_51 hSH4400 (AE_sub (fun _ _ => rfl) (by decide) hSH4400.1) (fun vH4432 H4432 locsH4432 pH4432 zH4432 kH4432 hSH4432 => ?_)
    obtain ⟨x4433, x4434, hvH4432, ex4434, hrH4432, m4435, g4436, mf4437, m4438, m4439, m4440, m4441, hTH4432⟩ := pH4432
    subst hvH4432
    clear zH4432
    replace m4435 := EQN.mk m4435
    have b4442 : UN (x1.toInt ≠ 0) (fun k => fI H4432 q4 k) (fun k => fI s.heap q4 k) := UN.congr (fun j => fI_kept (x_lt hTH4400 kH4432 gq4 (by decide))) b4403
    have b4443 : UN (x1.toInt ≠ 0) (fun k => fI H4432 q16 k) (fun k => fI s.heap q16 k) := UN.congr (fun j => fI_kept (x_lt hTH4400 kH4432 gq16 (by decide))) b4404
    have b4444 : UN (x1.toInt ≠ 0) (fun k => fI H4432 q24 k) (fun k => fI s.heap q24 k) := UN.congr (fun j => fI_kept (x_lt hTH4400 kH4432 gq24 (by decide))) b4405
    have b4445 : UN (x1.toInt ≠ 0) (fun k => fI H4432 q29 k) (fun k => fI s.heap q29 k) := UN.congr (fun j => fI_kept (x_lt hTH4400 kH4432 gq29 (by decide))) b4406
    have b4446 : UN (x1.toInt ≠ 0) (fun k => fI H4432 q30 k) (fun k => fI s.heap q30 k) := UN.congr (fun j => fI_kept (x_lt hTH4400 kH4432 gq30 (by decide))) b4407
    have b4447 : UN (x1.toInt ≠ 0) (fun k => fI H4432 q31 k) (fun k => fI s.heap q31 k) := UN.congr (fun j => fI_kept (x_lt hTH4400 kH4432 gq31 (by decide))) b4408
    have b4448 : UN (x1.toInt ≠ 0) (fun k => fI H4432 q32 k) (fun k => fI s.heap q32 k) := UN.congr (fun j => fI_kept (x_lt hTH4400 kH4432 gq32 (by decide))) b4409
    have b4449 : UN (x1.toInt ≠ 0) (fun k => fI H4432 q33 k) (fun k => fI s.heap q33 k) := UN.congr (fun j => fI_kept (x_lt hTH4400 kH4432 gq33 (by decide))) b4410
    have m4450 := (m4413).trans (MF.r mf4437 (k := 73) (by decide) (by decide)).symm
    have m4451 := (m4414).trans (MF.r mf4437 (k := 4) (by decide) (by decide)).symm
    have m4452 := (m4415).trans (MF.r mf4437 (k := 10) (by decide) (by decide)).symm
    have m4453 := (m4416).trans (MF.r mf4437 (k := 16) (by decide) (by decide)).symm
    have m4454 := (m4417).trans (MF.r mf4437 (k := 24) (by decide) (by decide)).symm
    have m4455 := (m4418).trans (MF.r mf4437 (k := 27) (by decide) (by decide)).symm
    have m4456 := (m4419).trans (MF.r mf4437 (k := 29) (by decide) (by decide)).symm
    have m4457 := (m4420).trans (MF.r mf4437 (k := 30) (by decide) (by decide)).symm
    have m4458 := (m4421).trans (MF.r mf4437 (k := 31) (by decide) (by decide)).symm
    have m4459 := (m4422).trans (MF.r mf4437 (k := 32) (by decide) (by decide)).symm
    have m4460 := (m4423).trans (MF.r mf4437 (k := 33) (by decide) (by decide)).symm
    have m4461 := (m4424).trans (MF.r mf4437 (k := 50) (by decide) (by decide)).symm
    have m4462 := (MF.i mf4437 (k := 0) (by decide) (by decide)).trans m4426
    have m4463 := (m4427).trans (MF.i mf4437 (k := 71) (by decide) (by decide)).symm
    have m4464 := (MF.i mf4437 (k := 70) (by decide) (by decide)).trans m4428
    have m4465 := (m4430).trans (MF.i mf4437 (k := 1) (by decide) (by decide)).symm
    have m4466 := (ex4431).trans (MF.i mf4437 (k := 2) (by decide) (by decide)).symm
    have mf4467 : MF K s.heap H4432 a0 [0, 1, 2, 3, 59, 62, 65, 70, 71, 72] := MF.trans mf4401 mf4437 (by decide)
    have bx4434 := ty_fi (x := x4434) (k := 72) ex4434 hTH4432 ga0 rg_112 rfl
    have ce_x4365 := i_cl (x := x4365) (by omega)
    have b4468 : UN (x1.toInt = 0) (fun k => fI H4432 iq k) (fun k => fI s.heap iq k) := UN.tr m4441 b4411
    have b4469 : x4364 = fI H4432 iq (0) := (b4412).trans (m4440 _ (by omega)).symm
    clear b4403 b4404 b4405 b4406 b4407 b4408 b4409 b4410 b4411 b4412 ex4431 m4413 m4414 m4415 m4416 m4417 m4418 m4419 m4420 m4421 m4422 m4423 m4424 m4426 m4427 m4428 m4429 m4430
    clear m4440 m4441
    have bx4433 : 0 ≤ x4433.toInt ∧ x4433.toInt ≤ 1 := kr (fun h0 => by have hiw := hIW; exact kr0 (w := fun k => fI H4432 iq k) m4438 (p := 1) (by omega) (b4468 h0) (hiw.1.2.1)) m4439 (by omega)
    have p4470 : x4433 = fI H4432 iq (1) := by have h := m4438; rw [show x4365.toNatClampNeg = 1 by omega] at h; exact h
    refine W.eq (g2 := F0 m 54 ls [.int x4433, .ref a0]) rfl ?_
    refine x_put C hTH4432 hSH4432 (ci := 10) (k := 2) (v := .int x4433) (ty0 := tyX10) rfl inX10 tyX10_ok nmX10 (by decide) rfl wF_X10_322 ga0 rg_112 rfl rfl (okI (by have := i_rng x4433; omega) (by have := i_rng x4433; omega)) rfl rfl (AE_in ga0 (by decide)) dX10_image_54 (fun H4471 locsH4471 hTH4471 hSH4471 wH4471 => ?_)
    have mf4472 : MF K s.heap H4471 a0 [0, 1, 2, 3, 59, 62, 65, 70, 71, 72] := MF.fld hap wH4471 (by decide) (by decide) mf4467
    have g4473 : WD (avw K H4471 a0) := WD.congr (fun k hk j => av_fld hTH4432 ga0 hap wH4471 (by decide) (WD_ok 112 (by decide) k hk) (WD_ne 2 (by decide) k hk)) g4436
    have b4474 : UN (x1.toInt ≠ 0) (fun k => fI H4471 q4 k) (fun k => fI s.heap q4 k) := UN.congr (fun j => Wr.neI wH4471 (Or.inl (G_ne gq4 ga0 (by decide)))) b4442
    have b4475 : UN (x1.toInt ≠ 0) (fun k => fI H4471 q16 k) (fun k => fI s.heap q16 k) := UN.congr (fun j => Wr.neI wH4471 (Or.inl (G_ne gq16 ga0 (by decide)))) b4443
    have b4476 : UN (x1.toInt ≠ 0) (fun k => fI H4471 q24 k) (fun k => fI s.heap q24 k) := UN.congr (fun j => Wr.neI wH4471 (Or.inl (G_ne gq24 ga0 (by decide)))) b4444
    have b4477 : UN (x1.toInt ≠ 0) (fun k => fI H4471 q29 k) (fun k => fI s.heap q29 k) := UN.congr (fun j => Wr.neI wH4471 (Or.inl (G_ne gq29 ga0 (by decide)))) b4445
    have b4478 : UN (x1.toInt ≠ 0) (fun k => fI H4471 q30 k) (fun k => fI s.heap q30 k) := UN.congr (fun j => Wr.neI wH4471 (Or.inl (G_ne gq30 ga0 (by decide)))) b4446
    have b4479 : UN (x1.toInt ≠ 0) (fun k => fI H4471 q31 k) (fun k => fI s.heap q31 k) := UN.congr (fun j => Wr.neI wH4471 (Or.inl (G_ne gq31 ga0 (by decide)))) b4447
    have b4480 : UN (x1.toInt ≠ 0) (fun k => fI H4471 q32 k) (fun k => fI s.heap q32 k) := UN.congr (fun j => Wr.neI wH4471 (Or.inl (G_ne gq32 ga0 (by decide)))) b4448
    have b4481 : UN (x1.toInt ≠ 0) (fun k => fI H4471 q33 k) (fun k => fI s.heap q33 k) := UN.congr (fun j => Wr.neI wH4471 (Or.inl (G_ne gq33 ga0 (by decide)))) b4449
    have b4482 : UN (x1.toInt = 0) (fun k => fI H4471 iq k) (fun k => fI s.heap iq k) := UN.congr (fun j => Wr.neI wH4471 (Or.inl (G_ne giq ga0 (by decide)))) b4468
    have b4483 : x4364 = fI H4471 iq (0) := (b4469).trans (Wr.neI wH4471 (Or.inl (G_ne giq ga0 (by decide)))).symm
    have b4484 : x4433 = fI H4471 iq (1) := (p4470).trans (Wr.neI wH4471 (Or.inl (G_ne giq ga0 (by decide)))).symm
    have m4485 := m4435.trans (Wr.neR wH4471 (Or.inr (x_apart hKT hts inX10 tyX10 tyX10_ok nmX10 rfl 73 2 (by decide) (by decide) (by decide)))).symm
    have m4486 := m4451.trans (Wr.neR wH4471 (Or.inr (x_apart hKT hts inX10 tyX10 tyX10_ok nmX10 rfl 4 2 (by decide) (by decide) (by decide)))).symm
    have m4487 := m4452.trans (Wr.neR wH4471 (Or.inr (x_apart hKT hts inX10 tyX10 tyX10_ok nmX10 rfl 10 2 (by decide) (by decide) (by decide)))).symm
    have m4488 := m4453.trans (Wr.neR wH4471 (Or.inr (x_apart hKT hts inX10 tyX10 tyX10_ok nmX10 rfl 16 2 (by decide) (by decide) (by decide)))).symm
    have m4489 := m4454.trans (Wr.neR wH4471 (Or.inr (x_apart hKT hts inX10 tyX10 tyX10_ok nmX10 rfl 24 2 (by decide) (by decide) (by decide)))).symm
    have m4490 := m4455.trans (Wr.neR wH4471 (Or.inr (x_apart hKT hts inX10 tyX10 tyX10_ok nmX10 rfl 27 2 (by decide) (by decide) (by decide)))).symm
    have m4491 := m4456.trans (Wr.neR wH4471 (Or.inr (x_apart hKT hts inX10 tyX10 tyX10_ok nmX10 rfl 29 2 (by decide) (by decide) (by decide)))).symm
    have m4492 := m4457.trans (Wr.neR wH4471 (Or.inr (x_apart hKT hts inX10 tyX10 tyX10_ok nmX10 rfl 30 2 (by decide) (by decide) (by decide)))).symm
    have m4493 := m4458.trans (Wr.neR wH4471 (Or.inr (x_apart hKT hts inX10 tyX10 tyX10_ok nmX10 rfl 31 2 (by decide) (by decide) (by decide)))).symm
    have m4494 := m4459.trans (Wr.neR wH4471 (Or.inr (x_apart hKT hts inX10 tyX10 tyX10_ok nmX10 rfl 32 2 (by decide) (by decide) (by decide)))).symm
    have m4495 := m4460.trans (Wr.neR wH4471 (Or.inr (x_apart hKT hts inX10 tyX10 tyX10_ok nmX10 rfl 33 2 (by decide) (by decide) (by decide)))).symm
    have m4496 := m4461.trans (Wr.neR wH4471 (Or.inr (x_apart hKT hts inX10 tyX10 tyX10_ok nmX10 rfl 50 2 (by decide) (by decide) (by decide)))).symm
    have m4497 := (Wr.neI wH4471 (Or.inr (x_apart hKT hts inX10 tyX10 tyX10_ok nmX10 rfl 0 2 (by decide) (by decide) (by decide)))).trans m4462
    have m4498 := m4463.trans (Wr.neI wH4471 (Or.inr (x_apart hKT hts inX10 tyX10 tyX10_ok nmX10 rfl 71 2 (by decide) (by decide) (by decide)))).symm
    have m4499 := (Wr.neI wH4471 (Or.inr (x_apart hKT hts inX10 tyX10 tyX10_ok nmX10 rfl 70 2 (by decide) (by decide) (by decide)))).trans m4464
    have m4500 := m4465.trans (Wr.neI wH4471 (Or.inr (x_apart hKT hts inX10 tyX10 tyX10_ok nmX10 rfl 1 2 (by decide) (by decide) (by decide)))).symm
    have m4502 := ex4434.trans (Wr.neI wH4471 (Or.inr (x_apart hKT hts inX10 tyX10 tyX10_ok nmX10 rfl 72 2 (by decide) (by decide) (by decide)))).symm
    have m4503 := Wr.I wH4471
    have m4503 := m4503.symm
    clear b4442 b4443 b4444 b4445 b4446 b4447 b4448 b4449 b4468 b4469 ex4434 g4436 hTH4432 m4435 m4451 m4452 m4453 m4454 m4455 m4456 m4457 m4458 m4459 m4460 m4461 m4462 m4463 m4464 m4465 m4466 mf4467 p4470
    refine lv_aload_n hx hb dX10_image_57 rfl (lv_at hl 0 rfl) ?_
    refine lv_aload_n hx hb dX10_image_58 rfl (lv_at hl 0 rfl) ?_
    refine lv_aload_n hx hb dX10_image_59 rfl (lv_at hl 0 rfl) ?_
    refine x_gi C hTH4471 (ci := 10) (k := 3) rfl inX10 (by decide) wF_X10_7 ga0 rg_112 rfl dX10_image_60 (fun x4504 ex4504 bx4504 => ?_)
    refine x_V (As := [.int x4504]) (rest := [.ref a0]) C (a_X10_kept l K G H4471 (x4504) (x4434) (x1) hTH4471 ga0 giq m4485 m4502 m4498 g4473 (by and_intros <;> first | assumption | omega)) yo_X10_kept wM_X10_473 ⟨⟨by decide, by decide⟩, by decide, by decide⟩ (x_rv C hTH4471 (ci := 10) rfl ga0 rg_112) rfl hl.1 rfl (Nat.le_of_ble_eq_true rfl) dX10_image_63 hSH4471 (AE_sub (fun _ _ => rfl) (by decide) hSH4471.1) (fun vH4505 H4505 locsH4505 pH4505 zH4505 kH4505 hSH4505 => ?_)
    obtain ⟨x4506, x4507, hvH4505, ex4507, hrH4505, m4508, g4509, mf4510, m4511, m4512, m4513, m4514, hTH4505⟩ := pH4505
    subst hvH4505
    clear zH4505
    replace m4508 := EQN.mk m4508
    have b4515 : UN (x1.toInt ≠ 0) (fun k => fI H4505 q4 k) (fun k => fI s.heap q4 k) := UN.congr (fun j => fI_kept (x_lt hTH4471 kH4505 gq4 (by decide))) b4474
    have b4516 : UN (x1.toInt ≠ 0) (fun k => fI H4505 q16 k) (fun k => fI s.heap q16 k) := UN.congr (fun j => fI_kept (x_lt hTH4471 kH4505 gq16 (by decide))) b4475
    have b4517 : UN (x1.toInt ≠ 0) (fun k => fI H4505 q24 k) (fun k => fI s.heap q24 k) := UN.congr (fun j => fI_kept (x_lt hTH4471 kH4505 gq24 (by decide))) b4476
    have b4518 : UN (x1.toInt ≠ 0) (fun k => fI H4505 q29 k) (fun k => fI s.heap q29 k) := UN.congr (fun j => fI_kept (x_lt hTH4471 kH4505 gq29 (by decide))) b4477
    have b4519 : UN (x1.toInt ≠ 0) (fun k => fI H4505 q30 k) (fun k => fI s.heap q30 k) := UN.congr (fun j => fI_kept (x_lt hTH4471 kH4505 gq30 (by decide))) b4478
    have b4520 : UN (x1.toInt ≠ 0) (fun k => fI H4505 q31 k) (fun k => fI s.heap q31 k) := UN.congr (fun j => fI_kept (x_lt hTH4471 kH4505 gq31 (by decide))) b4479
    have b4521 : UN (x1.toInt ≠ 0) (fun k => fI H4505 q32 k) (fun k => fI s.heap q32 k) := UN.congr (fun j => fI_kept (x_lt hTH4471 kH4505 gq32 (by decide))) b4480
    have b4522 : UN (x1.toInt ≠ 0) (fun k => fI H4505 q33 k) (fun k => fI s.heap q33 k) := UN.congr (fun j => fI_kept (x_lt hTH4471 kH4505 gq33 (by decide))) b4481
    have m4523 := (m4485).trans (MF.r mf4510 (k := 73) (by decide) (by decide)).symm
    have m4524 := (m4486).trans (MF.r mf4510 (k := 4) (by decide) (by decide)).symm
    have m4525 := (m4487).trans (MF.r mf4510 (k := 10) (by decide) (by decide)).symm
    have m4526 := (m4488).trans (MF.r mf4510 (k := 16) (by decide) (by decide)).symm
    have m4527 := (m4489).trans (MF.r mf4510 (k := 24) (by decide) (by decide)).symm
    have m4528 := (m4490).trans (MF.r mf4510 (k := 27) (by decide) (by decide)).symm
    have m4529 := (m4491).trans (MF.r mf4510 (k := 29) (by decide) (by decide)).symm
    have m4530 := (m4492).trans (MF.r mf4510 (k := 30) (by decide) (by decide)).symm
    have m4531 := (m4493).trans (MF.r mf4510 (k := 31) (by decide) (by decide)).symm
    have m4532 := (m4494).trans (MF.r mf4510 (k := 32) (by decide) (by decide)).symm
    have m4533 := (m4495).trans (MF.r mf4510 (k := 33) (by decide) (by decide)).symm
    have m4534 := (m4496).trans (MF.r mf4510 (k := 50) (by decide) (by decide)).symm
    have m4535 := (MF.i mf4510 (k := 0) (by decide) (by decide)).trans m4497
    have m4536 := (m4498).trans (MF.i mf4510 (k := 71) (by decide) (by decide)).symm
    have m4537 := (MF.i mf4510 (k := 70) (by decide) (by decide)).trans m4499
    have m4538 := (m4500).trans (MF.i mf4510 (k := 1) (by decide) (by decide)).symm
    have m4539 := (m4503).trans (MF.i mf4510 (k := 2) (by decide) (by decide)).symm
    have m4540 := (ex4504).trans (MF.i mf4510 (k := 3) (by decide) (by decide)).symm
    have mf4541 : MF K s.heap H4505 a0 [0, 1, 2, 3, 59, 62, 65, 70, 71, 72] := MF.trans mf4472 mf4510 (by decide)
    have bx4507 := ty_fi (x := x4507) (k := 72) ex4507 hTH4505 ga0 rg_112 rfl
    have ce_x4434 := i_cl (x := x4434) (by omega)
    have b4542 : UN (x1.toInt = 0) (fun k => fI H4505 iq k) (fun k => fI s.heap iq k) := UN.tr m4514 b4482
    have b4543 : x4364 = fI H4505 iq (0) := (b4483).trans (m4513 _ (by omega)).symm
    have b4544 : x4433 = fI H4505 iq (1) := (b4484).trans (m4513 _ (by omega)).symm
    clear b4474 b4475 b4476 b4477 b4478 b4479 b4480 b4481 b4482 b4483 b4484 ex4504 m4485 m4486 m4487 m4488 m4489 m4490 m4491 m4492 m4493 m4494 m4495 m4496 m4497 m4498 m4499 m4500 m4502 m4503
    clear m4513 m4514
    refine W.eq (g2 := F0 m 66 ls [.int x4506, .ref a0]) rfl ?_
    refine x_put C hTH4505 hSH4505 (ci := 10) (k := 3) (v := .int x4506) (ty0 := tyX10) rfl inX10 tyX10_ok nmX10 (by decide) rfl wF_X10_7 ga0 rg_112 rfl rfl (okI (by have := i_rng x4506; omega) (by have := i_rng x4506; omega)) rfl rfl (AE_in ga0 (by decide)) dX10_image_66 (fun H4545 locsH4545 hTH4545 hSH4545 wH4545 => ?_)
    have mf4546 : MF K s.heap H4545 a0 [0, 1, 2, 3, 59, 62, 65, 70, 71, 72] := MF.fld hap wH4545 (by decide) (by decide) mf4541
    have g4547 : WD (avw K H4545 a0) := WD.congr (fun k hk j => av_fld hTH4505 ga0 hap wH4545 (by decide) (WD_ok 112 (by decide) k hk) (WD_ne 3 (by decide) k hk)) g4509
    have b4548 : UN (x1.toInt ≠ 0) (fun k => fI H4545 q4 k) (fun k => fI s.heap q4 k) := UN.congr (fun j => Wr.neI wH4545 (Or.inl (G_ne gq4 ga0 (by decide)))) b4515
    have b4549 : UN (x1.toInt ≠ 0) (fun k => fI H4545 q16 k) (fun k => fI s.heap q16 k) := UN.congr (fun j => Wr.neI wH4545 (Or.inl (G_ne gq16 ga0 (by decide)))) b4516
    have b4550 : UN (x1.toInt ≠ 0) (fun k => fI H4545 q24 k) (fun k => fI s.heap q24 k) := UN.congr (fun j => Wr.neI wH4545 (Or.inl (G_ne gq24 ga0 (by decide)))) b4517
    have b4551 : UN (x1.toInt ≠ 0) (fun k => fI H4545 q29 k) (fun k => fI s.heap q29 k) := UN.congr (fun j => Wr.neI wH4545 (Or.inl (G_ne gq29 ga0 (by decide)))) b4518
    have b4552 : UN (x1.toInt ≠ 0) (fun k => fI H4545 q30 k) (fun k => fI s.heap q30 k) := UN.congr (fun j => Wr.neI wH4545 (Or.inl (G_ne gq30 ga0 (by decide)))) b4519
    have b4553 : UN (x1.toInt ≠ 0) (fun k => fI H4545 q31 k) (fun k => fI s.heap q31 k) := UN.congr (fun j => Wr.neI wH4545 (Or.inl (G_ne gq31 ga0 (by decide)))) b4520
    have b4554 : UN (x1.toInt ≠ 0) (fun k => fI H4545 q32 k) (fun k => fI s.heap q32 k) := UN.congr (fun j => Wr.neI wH4545 (Or.inl (G_ne gq32 ga0 (by decide)))) b4521
    have b4555 : UN (x1.toInt ≠ 0) (fun k => fI H4545 q33 k) (fun k => fI s.heap q33 k) := UN.congr (fun j => Wr.neI wH4545 (Or.inl (G_ne gq33 ga0 (by decide)))) b4522
    have b4556 : UN (x1.toInt = 0) (fun k => fI H4545 iq k) (fun k => fI s.heap iq k) := UN.congr (fun j => Wr.neI wH4545 (Or.inl (G_ne giq ga0 (by decide)))) b4542
    have b4557 : x4364 = fI H4545 iq (0) := (b4543).trans (Wr.neI wH4545 (Or.inl (G_ne giq ga0 (by decide)))).symm
    have b4558 : x4433 = fI H4545 iq (1) := (b4544).trans (Wr.neI wH4545 (Or.inl (G_ne giq ga0 (by decide)))).symm
    have m4559 := m4508.trans (Wr.neR wH4545 (Or.inr (x_apart hKT hts inX10 tyX10 tyX10_ok nmX10 rfl 73 3 (by decide) (by decide) (by decide)))).symm
    have m4560 := m4524.trans (Wr.neR wH4545 (Or.inr (x_apart hKT hts inX10 tyX10 tyX10_ok nmX10 rfl 4 3 (by decide) (by decide) (by decide)))).symm
    have m4561 := m4525.trans (Wr.neR wH4545 (Or.inr (x_apart hKT hts inX10 tyX10 tyX10_ok nmX10 rfl 10 3 (by decide) (by decide) (by decide)))).symm
    have m4562 := m4526.trans (Wr.neR wH4545 (Or.inr (x_apart hKT hts inX10 tyX10 tyX10_ok nmX10 rfl 16 3 (by decide) (by decide) (by decide)))).symm
    have m4563 := m4527.trans (Wr.neR wH4545 (Or.inr (x_apart hKT hts inX10 tyX10 tyX10_ok nmX10 rfl 24 3 (by decide) (by decide) (by decide)))).symm
    have m4564 := m4528.trans (Wr.neR wH4545 (Or.inr (x_apart hKT hts inX10 tyX10 tyX10_ok nmX10 rfl 27 3 (by decide) (by decide) (by decide)))).symm
    have m4565 := m4529.trans (Wr.neR wH4545 (Or.inr (x_apart hKT hts inX10 tyX10 tyX10_ok nmX10 rfl 29 3 (by decide) (by decide) (by decide)))).symm
    have m4566 := m4530.trans (Wr.neR wH4545 (Or.inr (x_apart hKT hts inX10 tyX10 tyX10_ok nmX10 rfl 30 3 (by decide) (by decide) (by decide)))).symm
    have m4567 := m4531.trans (Wr.neR wH4545 (Or.inr (x_apart hKT hts inX10 tyX10 tyX10_ok nmX10 rfl 31 3 (by decide) (by decide) (by decide)))).symm
    have m4568 := m4532.trans (Wr.neR wH4545 (Or.inr (x_apart hKT hts inX10 tyX10 tyX10_ok nmX10 rfl 32 3 (by decide) (by decide) (by decide)))).symm
    have m4569 := m4533.trans (Wr.neR wH4545 (Or.inr (x_apart hKT hts inX10 tyX10 tyX10_ok nmX10 rfl 33 3 (by decide) (by decide) (by decide)))).symm
    have m4570 := m4534.trans (Wr.neR wH4545 (Or.inr (x_apart hKT hts inX10 tyX10 tyX10_ok nmX10 rfl 50 3 (by decide) (by decide) (by decide)))).symm
    have m4571 := (Wr.neI wH4545 (Or.inr (x_apart hKT hts inX10 tyX10 tyX10_ok nmX10 rfl 0 3 (by decide) (by decide) (by decide)))).trans m4535
    have m4572 := m4536.trans (Wr.neI wH4545 (Or.inr (x_apart hKT hts inX10 tyX10 tyX10_ok nmX10 rfl 71 3 (by decide) (by decide) (by decide)))).symm
    have m4573 := (Wr.neI wH4545 (Or.inr (x_apart hKT hts inX10 tyX10 tyX10_ok nmX10 rfl 70 3 (by decide) (by decide) (by decide)))).trans m4537
    have m4574 := m4538.trans (Wr.neI wH4545 (Or.inr (x_apart hKT hts inX10 tyX10 tyX10_ok nmX10 rfl 1 3 (by decide) (by decide) (by decide)))).symm
    have m4575 := m4539.trans (Wr.neI wH4545 (Or.inr (x_apart hKT hts inX10 tyX10 tyX10_ok nmX10 rfl 2 3 (by decide) (by decide) (by decide)))).symm
    have m4577 := ex4507.trans (Wr.neI wH4545 (Or.inr (x_apart hKT hts inX10 tyX10 tyX10_ok nmX10 rfl 72 3 (by decide) (by decide) (by decide)))).symm
    have m4578 := Wr.I wH4545
    have m4578 := m4578.symm
    clear b4515 b4516 b4517 b4518 b4519 b4520 b4521 b4522 b4542 b4543 b4544 ex4507 g4509 hTH4505 m4508 m4524 m4525 m4526 m4527 m4528 m4529 m4530 m4531 m4532 m4533 m4534 m4535 m4536 m4537 m4538 m4539 m4540 mf4541
    refine lv_aload_n hx hb dX10_image_69 rfl (lv_at hl 0 rfl) ?_
    refine lv_aload_n hx hb dX10_image_70 rfl (lv_at hl 0 rfl) ?_
    refine lv_aload_n hx hb dX10_image_71 rfl (lv_at hl 0 rfl) ?_
    refine x_gi C hTH4545 (ci := 10) (k := 59) rfl inX10 (by decide) wF_X10_438 ga0 rg_112 rfl dX10_image_72 (fun x4579 ex4579 bx4579 => ?_)
    refine x_V (As := [.int x4579]) (rest := [.ref a0]) C (a_X10_kept l K G H4545 (x4579) (x4507) (x1) hTH4545 ga0 giq m4559 m4577 m4572 g4547 (by and_intros <;> first | assumption | omega)) yo_X10_kept wM_X10_473 ⟨⟨by decide, by decide⟩, by decide, by decide⟩ (x_rv C hTH4545 (ci := 10) rfl ga0 rg_112) rfl hl.1 rfl (Nat.le_of_ble_eq_true rfl) dX10_image_75 hSH4545 (AE_sub (fun _ _ => rfl) (by decide) hSH4545.1) (fun vH4580 H4580 locsH4580 pH4580 zH4580 kH4580 hSH4580 => ?_)
    obtain ⟨x4581, x4582, hvH4580, ex4582, hrH4580, m4583, g4584, mf4585, m4586, m4587, m4588, m4589, hTH4580⟩ := pH4580
    subst hvH4580
    clear zH4580
    replace m4583 := EQN.mk m4583
    have b4590 : UN (x1.toInt ≠ 0) (fun k => fI H4580 q4 k) (fun k => fI s.heap q4 k) := UN.congr (fun j => fI_kept (x_lt hTH4545 kH4580 gq4 (by decide))) b4548
    have b4591 : UN (x1.toInt ≠ 0) (fun k => fI H4580 q16 k) (fun k => fI s.heap q16 k) := UN.congr (fun j => fI_kept (x_lt hTH4545 kH4580 gq16 (by decide))) b4549
    have b4592 : UN (x1.toInt ≠ 0) (fun k => fI H4580 q24 k) (fun k => fI s.heap q24 k) := UN.congr (fun j => fI_kept (x_lt hTH4545 kH4580 gq24 (by decide))) b4550
    have b4593 : UN (x1.toInt ≠ 0) (fun k => fI H4580 q29 k) (fun k => fI s.heap q29 k) := UN.congr (fun j => fI_kept (x_lt hTH4545 kH4580 gq29 (by decide))) b4551
    have b4594 : UN (x1.toInt ≠ 0) (fun k => fI H4580 q30 k) (fun k => fI s.heap q30 k) := UN.congr (fun j => fI_kept (x_lt hTH4545 kH4580 gq30 (by decide))) b4552
    have b4595 : UN (x1.toInt ≠ 0) (fun k => fI H4580 q31 k) (fun k => fI s.heap q31 k) := UN.congr (fun j => fI_kept (x_lt hTH4545 kH4580 gq31 (by decide))) b4553
    have b4596 : UN (x1.toInt ≠ 0) (fun k => fI H4580 q32 k) (fun k => fI s.heap q32 k) := UN.congr (fun j => fI_kept (x_lt hTH4545 kH4580 gq32 (by decide))) b4554
    have b4597 : UN (x1.toInt ≠ 0) (fun k => fI H4580 q33 k) (fun k => fI s.heap q33 k) := UN.congr (fun j => fI_kept (x_lt hTH4545 kH4580 gq33 (by decide))) b4555
    have m4598 := (m4559).trans (MF.r mf4585 (k := 73) (by decide) (by decide)).symm
    have m4599 := (m4560).trans (MF.r mf4585 (k := 4) (by decide) (by decide)).symm
    have m4600 := (m4561).trans (MF.r mf4585 (k := 10) (by decide) (by decide)).symm
    have m4601 := (m4562).trans (MF.r mf4585 (k := 16) (by decide) (by decide)).symm
    have m4602 := (m4563).trans (MF.r mf4585 (k := 24) (by decide) (by decide)).symm
    have m4603 := (m4564).trans (MF.r mf4585 (k := 27) (by decide) (by decide)).symm
    have m4604 := (m4565).trans (MF.r mf4585 (k := 29) (by decide) (by decide)).symm
    have m4605 := (m4566).trans (MF.r mf4585 (k := 30) (by decide) (by decide)).symm
    have m4606 := (m4567).trans (MF.r mf4585 (k := 31) (by decide) (by decide)).symm
    have m4607 := (m4568).trans (MF.r mf4585 (k := 32) (by decide) (by decide)).symm
    have m4608 := (m4569).trans (MF.r mf4585 (k := 33) (by decide) (by decide)).symm
    have m4609 := (m4570).trans (MF.r mf4585 (k := 50) (by decide) (by decide)).symm
    have m4610 := (MF.i mf4585 (k := 0) (by decide) (by decide)).trans m4571
    have m4611 := (m4572).trans (MF.i mf4585 (k := 71) (by decide) (by decide)).symm
    have m4612 := (MF.i mf4585 (k := 70) (by decide) (by decide)).trans m4573
    have m4613 := (m4574).trans (MF.i mf4585 (k := 1) (by decide) (by decide)).symm
    have m4614 := (m4575).trans (MF.i mf4585 (k := 2) (by decide) (by decide)).symm
    have m4615 := (m4578).trans (MF.i mf4585 (k := 3) (by decide) (by decide)).symm
    have m4616 := (ex4579).trans (MF.i mf4585 (k := 59) (by decide) (by decide)).symm
    have mf4617 : MF K s.heap H4580 a0 [0, 1, 2, 3, 59, 62, 65, 70, 71, 72] := MF.trans mf4546 mf4585 (by decide)
    have bx4582 := ty_fi (x := x4582) (k := 72) ex4582 hTH4580 ga0 rg_112 rfl
    have ce_x4507 := i_cl (x := x4507) (by omega)
    have b4618 : UN (x1.toInt = 0) (fun k => fI H4580 iq k) (fun k => fI s.heap iq k) := UN.tr m4589 b4556
    have b4619 : x4364 = fI H4580 iq (0) := (b4557).trans (m4588 _ (by omega)).symm
    have b4620 : x4433 = fI H4580 iq (1) := (b4558).trans (m4588 _ (by omega)).symm
    clear b4548 b4549 b4550 b4551 b4552 b4553 b4554 b4555 b4556 b4557 b4558 ex4579 m4559 m4560 m4561 m4562 m4563 m4564 m4565 m4566 m4567 m4568 m4569 m4570 m4571 m4572 m4573 m4574 m4575 m4577 m4578
    clear m4588 m4589
    have bx4581 : 0 ≤ x4581.toInt ∧ x4581.toInt ≤ 20 := kr (fun h0 => by have hiw := hIW; exact kr0 (w := fun k => fI H4580 iq k) m4586 (p := 3) (by omega) (b4618 h0) (hiw.1.2.2.1)) m4587 (by omega)
    have p4621 : x4581 = fI H4580 iq (3) := by have h := m4586; rw [show x4507.toNatClampNeg = 3 by omega] at h; exact h
    refine W.eq (g2 := F0 m 78 ls [.int x4581, .ref a0]) rfl ?_
    refine x_put C hTH4580 hSH4580 (ci := 10) (k := 59) (v := .int x4581) (ty0 := tyX10) rfl inX10 tyX10_ok nmX10 (by decide) rfl wF_X10_438 ga0 rg_112 rfl rfl (okI (by have := i_rng x4581; omega) (by have := i_rng x4581; omega)) rfl rfl (AE_in ga0 (by decide)) dX10_image_78 (fun H4622 locsH4622 hTH4622 hSH4622 wH4622 => ?_)
    have mf4623 : MF K s.heap H4622 a0 [0, 1, 2, 3, 59, 62, 65, 70, 71, 72] := MF.fld hap wH4622 (by decide) (by decide) mf4617
    have g4624 : WD (avw K H4622 a0) := WD.congr (fun k hk j => av_fld hTH4580 ga0 hap wH4622 (by decide) (WD_ok 112 (by decide) k hk) (WD_ne 59 (by decide) k hk)) g4584
    have b4625 : UN (x1.toInt ≠ 0) (fun k => fI H4622 q4 k) (fun k => fI s.heap q4 k) := UN.congr (fun j => Wr.neI wH4622 (Or.inl (G_ne gq4 ga0 (by decide)))) b4590
    have b4626 : UN (x1.toInt ≠ 0) (fun k => fI H4622 q16 k) (fun k => fI s.heap q16 k) := UN.congr (fun j => Wr.neI wH4622 (Or.inl (G_ne gq16 ga0 (by decide)))) b4591
    have b4627 : UN (x1.toInt ≠ 0) (fun k => fI H4622 q24 k) (fun k => fI s.heap q24 k) := UN.congr (fun j => Wr.neI wH4622 (Or.inl (G_ne gq24 ga0 (by decide)))) b4592
    have b4628 : UN (x1.toInt ≠ 0) (fun k => fI H4622 q29 k) (fun k => fI s.heap q29 k) := UN.congr (fun j => Wr.neI wH4622 (Or.inl (G_ne gq29 ga0 (by decide)))) b4593
    have b4629 : UN (x1.toInt ≠ 0) (fun k => fI H4622 q30 k) (fun k => fI s.heap q30 k) := UN.congr (fun j => Wr.neI wH4622 (Or.inl (G_ne gq30 ga0 (by decide)))) b4594
    have b4630 : UN (x1.toInt ≠ 0) (fun k => fI H4622 q31 k) (fun k => fI s.heap q31 k) := UN.congr (fun j => Wr.neI wH4622 (Or.inl (G_ne gq31 ga0 (by decide)))) b4595
    have b4631 : UN (x1.toInt ≠ 0) (fun k => fI H4622 q32 k) (fun k => fI s.heap q32 k) := UN.congr (fun j => Wr.neI wH4622 (Or.inl (G_ne gq32 ga0 (by decide)))) b4596
    have b4632 : UN (x1.toInt ≠ 0) (fun k => fI H4622 q33 k) (fun k => fI s.heap q33 k) := UN.congr (fun j => Wr.neI wH4622 (Or.inl (G_ne gq33 ga0 (by decide)))) b4597
    have b4633 : UN (x1.toInt = 0) (fun k => fI H4622 iq k) (fun k => fI s.heap iq k) := UN.congr (fun j => Wr.neI wH4622 (Or.inl (G_ne giq ga0 (by decide)))) b4618
    have b4634 : x4364 = fI H4622 iq (0) := (b4619).trans (Wr.neI wH4622 (Or.inl (G_ne giq ga0 (by decide)))).symm
    have b4635 : x4433 = fI H4622 iq (1) := (b4620).trans (Wr.neI wH4622 (Or.inl (G_ne giq ga0 (by decide)))).symm
    have b4636 : x4581 = fI H4622 iq (3) := (p4621).trans (Wr.neI wH4622 (Or.inl (G_ne giq ga0 (by decide)))).symm
    have m4637 := m4583.trans (Wr.neR wH4622 (Or.inr (x_apart hKT hts inX10 tyX10 tyX10_ok nmX10 rfl 73 59 (by decide) (by decide) (by decide)))).symm
    have m4638 := m4599.trans (Wr.neR wH4622 (Or.inr (x_apart hKT hts inX10 tyX10 tyX10_ok nmX10 rfl 4 59 (by decide) (by decide) (by decide)))).symm
    have m4639 := m4600.trans (Wr.neR wH4622 (Or.inr (x_apart hKT hts inX10 tyX10 tyX10_ok nmX10 rfl 10 59 (by decide) (by decide) (by decide)))).symm
    have m4640 := m4601.trans (Wr.neR wH4622 (Or.inr (x_apart hKT hts inX10 tyX10 tyX10_ok nmX10 rfl 16 59 (by decide) (by decide) (by decide)))).symm
    have m4641 := m4602.trans (Wr.neR wH4622 (Or.inr (x_apart hKT hts inX10 tyX10 tyX10_ok nmX10 rfl 24 59 (by decide) (by decide) (by decide)))).symm
    have m4642 := m4603.trans (Wr.neR wH4622 (Or.inr (x_apart hKT hts inX10 tyX10 tyX10_ok nmX10 rfl 27 59 (by decide) (by decide) (by decide)))).symm
    have m4643 := m4604.trans (Wr.neR wH4622 (Or.inr (x_apart hKT hts inX10 tyX10 tyX10_ok nmX10 rfl 29 59 (by decide) (by decide) (by decide)))).symm
    have m4644 := m4605.trans (Wr.neR wH4622 (Or.inr (x_apart hKT hts inX10 tyX10 tyX10_ok nmX10 rfl 30 59 (by decide) (by decide) (by decide)))).symm
    have m4645 := m4606.trans (Wr.neR wH4622 (Or.inr (x_apart hKT hts inX10 tyX10 tyX10_ok nmX10 rfl 31 59 (by decide) (by decide) (by decide)))).symm
    have m4646 := m4607.trans (Wr.neR wH4622 (Or.inr (x_apart hKT hts inX10 tyX10 tyX10_ok nmX10 rfl 32 59 (by decide) (by decide) (by decide)))).symm
    have m4647 := m4608.trans (Wr.neR wH4622 (Or.inr (x_apart hKT hts inX10 tyX10 tyX10_ok nmX10 rfl 33 59 (by decide) (by decide) (by decide)))).symm
    have m4648 := m4609.trans (Wr.neR wH4622 (Or.inr (x_apart hKT hts inX10 tyX10 tyX10_ok nmX10 rfl 50 59 (by decide) (by decide) (by decide)))).symm
    have m4649 := (Wr.neI wH4622 (Or.inr (x_apart hKT hts inX10 tyX10 tyX10_ok nmX10 rfl 0 59 (by decide) (by decide) (by decide)))).trans m4610
    have m4650 := m4611.trans (Wr.neI wH4622 (Or.inr (x_apart hKT hts inX10 tyX10 tyX10_ok nmX10 rfl 71 59 (by decide) (by decide) (by decide)))).symm
    have m4651 := (Wr.neI wH4622 (Or.inr (x_apart hKT hts inX10 tyX10 tyX10_ok nmX10 rfl 70 59 (by decide) (by decide) (by decide)))).trans m4612
    have m4652 := m4613.trans (Wr.neI wH4622 (Or.inr (x_apart hKT hts inX10 tyX10 tyX10_ok nmX10 rfl 1 59 (by decide) (by decide) (by decide)))).symm
    have m4653 := m4614.trans (Wr.neI wH4622 (Or.inr (x_apart hKT hts inX10 tyX10 tyX10_ok nmX10 rfl 2 59 (by decide) (by decide) (by decide)))).symm
    have m4654 := m4615.trans (Wr.neI wH4622 (Or.inr (x_apart hKT hts inX10 tyX10 tyX10_ok nmX10 rfl 3 59 (by decide) (by decide) (by decide)))).symm
    have m4656 := ex4582.trans (Wr.neI wH4622 (Or.inr (x_apart hKT hts inX10 tyX10 tyX10_ok nmX10 rfl 72 59 (by decide) (by decide) (by decide)))).symm
    have m4657 := Wr.I wH4622
    have m4657 := m4657.symm
    clear b4590 b4591 b4592 b4593 b4594 b4595 b4596 b4597 b4618 b4619 b4620 ex4582 g4584 hTH4580 m4583 m4599 m4600 m4601 m4602 m4603 m4604 m4605 m4606 m4607 m4608 m4609 m4610 m4611 m4612 m4613 m4614 m4615 m4616 mf4617 p4621
    refine lv_aload_n hx hb dX10_image_81 rfl (lv_at hl 0 rfl) ?_
    refine lv_aload_n hx hb dX10_image_82 rfl (lv_at hl 0 rfl) ?_
    refine lv_aload_n hx hb dX10_image_83 rfl (lv_at hl 0 rfl) ?_
    refine x_gi C hTH4622 (ci := 10) (k := 62) rfl inX10 (by decide) wF_X10_455 ga0 rg_112 rfl dX10_image_84 (fun x4658 ex4658 bx4658 => ?_)
    refine x_V (As := [.int x4658]) (rest := [.ref a0]) C (a_X10_kept l K G H4622 (x4658) (x4582) (x1) hTH4622 ga0 giq m4637 m4656 m4650 g4624 (by and_intros <;> first | assumption | omega)) yo_X10_kept wM_X10_473 ⟨⟨by decide, by decide⟩, by decide, by decide⟩ (x_rv C hTH4622 (ci := 10) rfl ga0 rg_112) rfl hl.1 rfl (Nat.le_of_ble_eq_true rfl) dX10_image_87 hSH4622 (AE_sub (fun _ _ => rfl) (by decide) hSH4622.1) (fun vH4659 H4659 locsH4659 pH4659 zH4659 kH4659 hSH4659 => ?_)
    obtain ⟨x4660, x4661, hvH4659, ex4661, hrH4659, m4662, g4663, mf4664, m4665, m4666, m4667, m4668, hTH4659⟩ := pH4659
    subst hvH4659
    clear zH4659
    replace m4662 := EQN.mk m4662
    have b4669 : UN (x1.toInt ≠ 0) (fun k => fI H4659 q4 k) (fun k => fI s.heap q4 k) := UN.congr (fun j => fI_kept (x_lt hTH4622 kH4659 gq4 (by decide))) b4625
    have b4670 : UN (x1.toInt ≠ 0) (fun k => fI H4659 q16 k) (fun k => fI s.heap q16 k) := UN.congr (fun j => fI_kept (x_lt hTH4622 kH4659 gq16 (by decide))) b4626
    have b4671 : UN (x1.toInt ≠ 0) (fun k => fI H4659 q24 k) (fun k => fI s.heap q24 k) := UN.congr (fun j => fI_kept (x_lt hTH4622 kH4659 gq24 (by decide))) b4627
    have b4672 : UN (x1.toInt ≠ 0) (fun k => fI H4659 q29 k) (fun k => fI s.heap q29 k) := UN.congr (fun j => fI_kept (x_lt hTH4622 kH4659 gq29 (by decide))) b4628
    have b4673 : UN (x1.toInt ≠ 0) (fun k => fI H4659 q30 k) (fun k => fI s.heap q30 k) := UN.congr (fun j => fI_kept (x_lt hTH4622 kH4659 gq30 (by decide))) b4629
    have b4674 : UN (x1.toInt ≠ 0) (fun k => fI H4659 q31 k) (fun k => fI s.heap q31 k) := UN.congr (fun j => fI_kept (x_lt hTH4622 kH4659 gq31 (by decide))) b4630
    have b4675 : UN (x1.toInt ≠ 0) (fun k => fI H4659 q32 k) (fun k => fI s.heap q32 k) := UN.congr (fun j => fI_kept (x_lt hTH4622 kH4659 gq32 (by decide))) b4631
    have b4676 : UN (x1.toInt ≠ 0) (fun k => fI H4659 q33 k) (fun k => fI s.heap q33 k) := UN.congr (fun j => fI_kept (x_lt hTH4622 kH4659 gq33 (by decide))) b4632
    have m4677 := (m4637).trans (MF.r mf4664 (k := 73) (by decide) (by decide)).symm
    have m4678 := (m4638).trans (MF.r mf4664 (k := 4) (by decide) (by decide)).symm
    have m4679 := (m4639).trans (MF.r mf4664 (k := 10) (by decide) (by decide)).symm
    have m4680 := (m4640).trans (MF.r mf4664 (k := 16) (by decide) (by decide)).symm
    have m4681 := (m4641).trans (MF.r mf4664 (k := 24) (by decide) (by decide)).symm
    have m4682 := (m4642).trans (MF.r mf4664 (k := 27) (by decide) (by decide)).symm
    have m4683 := (m4643).trans (MF.r mf4664 (k := 29) (by decide) (by decide)).symm
    have m4684 := (m4644).trans (MF.r mf4664 (k := 30) (by decide) (by decide)).symm
    have m4685 := (m4645).trans (MF.r mf4664 (k := 31) (by decide) (by decide)).symm
    have m4686 := (m4646).trans (MF.r mf4664 (k := 32) (by decide) (by decide)).symm
    have m4687 := (m4647).trans (MF.r mf4664 (k := 33) (by decide) (by decide)).symm
    have m4688 := (m4648).trans (MF.r mf4664 (k := 50) (by decide) (by decide)).symm
    have m4689 := (MF.i mf4664 (k := 0) (by decide) (by decide)).trans m4649
    have m4690 := (m4650).trans (MF.i mf4664 (k := 71) (by decide) (by decide)).symm
    have m4691 := (MF.i mf4664 (k := 70) (by decide) (by decide)).trans m4651
    have m4692 := (m4652).trans (MF.i mf4664 (k := 1) (by decide) (by decide)).symm
    have m4693 := (m4653).trans (MF.i mf4664 (k := 2) (by decide) (by decide)).symm
    have m4694 := (m4654).trans (MF.i mf4664 (k := 3) (by decide) (by decide)).symm
    have m4695 := (m4657).trans (MF.i mf4664 (k := 59) (by decide) (by decide)).symm
    have m4696 := (ex4658).trans (MF.i mf4664 (k := 62) (by decide) (by decide)).symm
    have mf4697 : MF K s.heap H4659 a0 [0, 1, 2, 3, 59, 62, 65, 70, 71, 72] := MF.trans mf4623 mf4664 (by decide)
    have bx4661 := ty_fi (x := x4661) (k := 72) ex4661 hTH4659 ga0 rg_112 rfl
    have ce_x4582 := i_cl (x := x4582) (by omega)
    have b4698 : UN (x1.toInt = 0) (fun k => fI H4659 iq k) (fun k => fI s.heap iq k) := UN.tr m4668 b4633
    have b4699 : x4364 = fI H4659 iq (0) := (b4634).trans (m4667 _ (by omega)).symm
    have b4700 : x4433 = fI H4659 iq (1) := (b4635).trans (m4667 _ (by omega)).symm
    have b4701 : x4581 = fI H4659 iq (3) := (b4636).trans (m4667 _ (by omega)).symm
    clear b4625 b4626 b4627 b4628 b4629 b4630 b4631 b4632 b4633 b4634 b4635 b4636 ex4658 m4637 m4638 m4639 m4640 m4641 m4642 m4643 m4644 m4645 m4646 m4647 m4648 m4649 m4650 m4651 m4652 m4653 m4654 m4656 m4657
    clear m4667 m4668
    have bx4660 : 0 ≤ x4660.toInt ∧ x4660.toInt ≤ 8 := kr (fun h0 => by have hiw := hIW; exact kr0 (w := fun k => fI H4659 iq k) m4665 (p := 4) (by omega) (b4698 h0) (hiw.1.2.2.2.1)) m4666 (by omega)
    have p4702 : x4660 = fI H4659 iq (4) := by have h := m4665; rw [show x4582.toNatClampNeg = 4 by omega] at h; exact h
    refine W.eq (g2 := F0 m 90 ls [.int x4660, .ref a0]) rfl ?_
    refine x_put C hTH4659 hSH4659 (ci := 10) (k := 62) (v := .int x4660) (ty0 := tyX10) rfl inX10 tyX10_ok nmX10 (by decide) rfl wF_X10_455 ga0 rg_112 rfl rfl (okI (by have := i_rng x4660; omega) (by have := i_rng x4660; omega)) rfl rfl (AE_in ga0 (by decide)) dX10_image_90 (fun H4703 locsH4703 hTH4703 hSH4703 wH4703 => ?_)
    have mf4704 : MF K s.heap H4703 a0 [0, 1, 2, 3, 59, 62, 65, 70, 71, 72] := MF.fld hap wH4703 (by decide) (by decide) mf4697
    have g4705 : WD (avw K H4703 a0) := WD.congr (fun k hk j => av_fld hTH4659 ga0 hap wH4703 (by decide) (WD_ok 112 (by decide) k hk) (WD_ne 62 (by decide) k hk)) g4663
    have b4706 : UN (x1.toInt ≠ 0) (fun k => fI H4703 q4 k) (fun k => fI s.heap q4 k) := UN.congr (fun j => Wr.neI wH4703 (Or.inl (G_ne gq4 ga0 (by decide)))) b4669
    have b4707 : UN (x1.toInt ≠ 0) (fun k => fI H4703 q16 k) (fun k => fI s.heap q16 k) := UN.congr (fun j => Wr.neI wH4703 (Or.inl (G_ne gq16 ga0 (by decide)))) b4670
    have b4708 : UN (x1.toInt ≠ 0) (fun k => fI H4703 q24 k) (fun k => fI s.heap q24 k) := UN.congr (fun j => Wr.neI wH4703 (Or.inl (G_ne gq24 ga0 (by decide)))) b4671
    have b4709 : UN (x1.toInt ≠ 0) (fun k => fI H4703 q29 k) (fun k => fI s.heap q29 k) := UN.congr (fun j => Wr.neI wH4703 (Or.inl (G_ne gq29 ga0 (by decide)))) b4672
    have b4710 : UN (x1.toInt ≠ 0) (fun k => fI H4703 q30 k) (fun k => fI s.heap q30 k) := UN.congr (fun j => Wr.neI wH4703 (Or.inl (G_ne gq30 ga0 (by decide)))) b4673
    have b4711 : UN (x1.toInt ≠ 0) (fun k => fI H4703 q31 k) (fun k => fI s.heap q31 k) := UN.congr (fun j => Wr.neI wH4703 (Or.inl (G_ne gq31 ga0 (by decide)))) b4674
    have b4712 : UN (x1.toInt ≠ 0) (fun k => fI H4703 q32 k) (fun k => fI s.heap q32 k) := UN.congr (fun j => Wr.neI wH4703 (Or.inl (G_ne gq32 ga0 (by decide)))) b4675
    have b4713 : UN (x1.toInt ≠ 0) (fun k => fI H4703 q33 k) (fun k => fI s.heap q33 k) := UN.congr (fun j => Wr.neI wH4703 (Or.inl (G_ne gq33 ga0 (by decide)))) b4676
    have b4714 : UN (x1.toInt = 0) (fun k => fI H4703 iq k) (fun k => fI s.heap iq k) := UN.congr (fun j => Wr.neI wH4703 (Or.inl (G_ne giq ga0 (by decide)))) b4698
    have b4715 : x4364 = fI H4703 iq (0) := (b4699).trans (Wr.neI wH4703 (Or.inl (G_ne giq ga0 (by decide)))).symm
    have b4716 : x4433 = fI H4703 iq (1) := (b4700).trans (Wr.neI wH4703 (Or.inl (G_ne giq ga0 (by decide)))).symm
    have b4717 : x4581 = fI H4703 iq (3) := (b4701).trans (Wr.neI wH4703 (Or.inl (G_ne giq ga0 (by decide)))).symm
    have b4718 : x4660 = fI H4703 iq (4) := (p4702).trans (Wr.neI wH4703 (Or.inl (G_ne giq ga0 (by decide)))).symm
    have m4719 := m4662.trans (Wr.neR wH4703 (Or.inr (x_apart hKT hts inX10 tyX10 tyX10_ok nmX10 rfl 73 62 (by decide) (by decide) (by decide)))).symm
    have m4720 := m4678.trans (Wr.neR wH4703 (Or.inr (x_apart hKT hts inX10 tyX10 tyX10_ok nmX10 rfl 4 62 (by decide) (by decide) (by decide)))).symm
    have m4721 := m4679.trans (Wr.neR wH4703 (Or.inr (x_apart hKT hts inX10 tyX10 tyX10_ok nmX10 rfl 10 62 (by decide) (by decide) (by decide)))).symm
    have m4722 := m4680.trans (Wr.neR wH4703 (Or.inr (x_apart hKT hts inX10 tyX10 tyX10_ok nmX10 rfl 16 62 (by decide) (by decide) (by decide)))).symm
    have m4723 := m4681.trans (Wr.neR wH4703 (Or.inr (x_apart hKT hts inX10 tyX10 tyX10_ok nmX10 rfl 24 62 (by decide) (by decide) (by decide)))).symm
    have m4724 := m4682.trans (Wr.neR wH4703 (Or.inr (x_apart hKT hts inX10 tyX10 tyX10_ok nmX10 rfl 27 62 (by decide) (by decide) (by decide)))).symm
    have m4725 := m4683.trans (Wr.neR wH4703 (Or.inr (x_apart hKT hts inX10 tyX10 tyX10_ok nmX10 rfl 29 62 (by decide) (by decide) (by decide)))).symm
    have m4726 := m4684.trans (Wr.neR wH4703 (Or.inr (x_apart hKT hts inX10 tyX10 tyX10_ok nmX10 rfl 30 62 (by decide) (by decide) (by decide)))).symm
    have m4727 := m4685.trans (Wr.neR wH4703 (Or.inr (x_apart hKT hts inX10 tyX10 tyX10_ok nmX10 rfl 31 62 (by decide) (by decide) (by decide)))).symm
    have m4728 := m4686.trans (Wr.neR wH4703 (Or.inr (x_apart hKT hts inX10 tyX10 tyX10_ok nmX10 rfl 32 62 (by decide) (by decide) (by decide)))).symm
    have m4729 := m4687.trans (Wr.neR wH4703 (Or.inr (x_apart hKT hts inX10 tyX10 tyX10_ok nmX10 rfl 33 62 (by decide) (by decide) (by decide)))).symm
    have m4730 := m4688.trans (Wr.neR wH4703 (Or.inr (x_apart hKT hts inX10 tyX10 tyX10_ok nmX10 rfl 50 62 (by decide) (by decide) (by decide)))).symm
    have m4731 := (Wr.neI wH4703 (Or.inr (x_apart hKT hts inX10 tyX10 tyX10_ok nmX10 rfl 0 62 (by decide) (by decide) (by decide)))).trans m4689
    have m4732 := m4690.trans (Wr.neI wH4703 (Or.inr (x_apart hKT hts inX10 tyX10 tyX10_ok nmX10 rfl 71 62 (by decide) (by decide) (by decide)))).symm
    have m4733 := (Wr.neI wH4703 (Or.inr (x_apart hKT hts inX10 tyX10 tyX10_ok nmX10 rfl 70 62 (by decide) (by decide) (by decide)))).trans m4691
    have m4734 := m4692.trans (Wr.neI wH4703 (Or.inr (x_apart hKT hts inX10 tyX10 tyX10_ok nmX10 rfl 1 62 (by decide) (by decide) (by decide)))).symm
    have m4735 := m4693.trans (Wr.neI wH4703 (Or.inr (x_apart hKT hts inX10 tyX10 tyX10_ok nmX10 rfl 2 62 (by decide) (by decide) (by decide)))).symm
    have m4736 := m4694.trans (Wr.neI wH4703 (Or.inr (x_apart hKT hts inX10 tyX10 tyX10_ok nmX10 rfl 3 62 (by decide) (by decide) (by decide)))).symm
    have m4737 := m4695.trans (Wr.neI wH4703 (Or.inr (x_apart hKT hts inX10 tyX10 tyX10_ok nmX10 rfl 59 62 (by decide) (by decide) (by decide)))).symm
    have m4739 := ex4661.trans (Wr.neI wH4703 (Or.inr (x_apart hKT hts inX10 tyX10 tyX10_ok nmX10 rfl 72 62 (by decide) (by decide) (by decide)))).symm
    have m4740 := Wr.I wH4703
    have m4740 := m4740.symm
    clear b4669 b4670 b4671 b4672 b4673 b4674 b4675 b4676 b4698 b4699 b4700 b4701 ex4661 g4663 hTH4659 m4662 m4678 m4679 m4680 m4681 m4682 m4683 m4684 m4685 m4686 m4687 m4688 m4689 m4690 m4691 m4692 m4693 m4694 m4695 m4696 mf4697 p4702
    refine lv_aload_n hx hb dX10_image_93 rfl (lv_at hl 0 rfl) ?_
    refine lv_aload_n hx hb dX10_image_94 rfl (lv_at hl 0 rfl) ?_
    refine lv_aload_n hx hb dX10_image_95 rfl (lv_at hl 0 rfl) ?_
    refine x_gi C hTH4703 (ci := 10) (k := 65) rfl inX10 (by decide) wF_X10_458 ga0 rg_112 rfl dX10_image_96 (fun x4741 ex4741 bx4741 => ?_)
    refine x_V (As := [.int x4741]) (rest := [.ref a0]) C (a_X10_kept l K G H4703 (x4741) (x4661) (x1) hTH4703 ga0 giq m4719 m4739 m4732 g4705 (by and_intros <;> first | assumption | omega)) yo_X10_kept wM_X10_473 ⟨⟨by decide, by decide⟩, by decide, by decide⟩ (x_rv C hTH4703 (ci := 10) rfl ga0 rg_112) rfl hl.1 rfl (Nat.le_of_ble_eq_true rfl) dX10_image_99 hSH4703 (AE_sub (fun _ _ => rfl) (by decide) hSH4703.1) (fun vH4742 H4742 locsH4742 pH4742 zH4742 kH4742 hSH4742 => ?_)
    obtain ⟨x4743, x4744, hvH4742, ex4744, hrH4742, m4745, g4746, mf4747, m4748, m4749, m4750, m4751, hTH4742⟩ := pH4742
    subst hvH4742
    clear zH4742
    replace m4745 := EQN.mk m4745
    have b4752 : UN (x1.toInt ≠ 0) (fun k => fI H4742 q4 k) (fun k => fI s.heap q4 k) := UN.congr (fun j => fI_kept (x_lt hTH4703 kH4742 gq4 (by decide))) b4706
    have b4753 : UN (x1.toInt ≠ 0) (fun k => fI H4742 q16 k) (fun k => fI s.heap q16 k) := UN.congr (fun j => fI_kept (x_lt hTH4703 kH4742 gq16 (by decide))) b4707
    have b4754 : UN (x1.toInt ≠ 0) (fun k => fI H4742 q24 k) (fun k => fI s.heap q24 k) := UN.congr (fun j => fI_kept (x_lt hTH4703 kH4742 gq24 (by decide))) b4708
    have b4755 : UN (x1.toInt ≠ 0) (fun k => fI H4742 q29 k) (fun k => fI s.heap q29 k) := UN.congr (fun j => fI_kept (x_lt hTH4703 kH4742 gq29 (by decide))) b4709
    have b4756 : UN (x1.toInt ≠ 0) (fun k => fI H4742 q30 k) (fun k => fI s.heap q30 k) := UN.congr (fun j => fI_kept (x_lt hTH4703 kH4742 gq30 (by decide))) b4710
    have b4757 : UN (x1.toInt ≠ 0) (fun k => fI H4742 q31 k) (fun k => fI s.heap q31 k) := UN.congr (fun j => fI_kept (x_lt hTH4703 kH4742 gq31 (by decide))) b4711
    have b4758 : UN (x1.toInt ≠ 0) (fun k => fI H4742 q32 k) (fun k => fI s.heap q32 k) := UN.congr (fun j => fI_kept (x_lt hTH4703 kH4742 gq32 (by decide))) b4712
    have b4759 : UN (x1.toInt ≠ 0) (fun k => fI H4742 q33 k) (fun k => fI s.heap q33 k) := UN.congr (fun j => fI_kept (x_lt hTH4703 kH4742 gq33 (by decide))) b4713
    have m4760 := (m4719).trans (MF.r mf4747 (k := 73) (by decide) (by decide)).symm
    have m4761 := (m4720).trans (MF.r mf4747 (k := 4) (by decide) (by decide)).symm
    have m4762 := (m4721).trans (MF.r mf4747 (k := 10) (by decide) (by decide)).symm
    have m4763 := (m4722).trans (MF.r mf4747 (k := 16) (by decide) (by decide)).symm
    have m4764 := (m4723).trans (MF.r mf4747 (k := 24) (by decide) (by decide)).symm
    have m4765 := (m4724).trans (MF.r mf4747 (k := 27) (by decide) (by decide)).symm
    have m4766 := (m4725).trans (MF.r mf4747 (k := 29) (by decide) (by decide)).symm
    have m4767 := (m4726).trans (MF.r mf4747 (k := 30) (by decide) (by decide)).symm
    have m4768 := (m4727).trans (MF.r mf4747 (k := 31) (by decide) (by decide)).symm
    have m4769 := (m4728).trans (MF.r mf4747 (k := 32) (by decide) (by decide)).symm
    have m4770 := (m4729).trans (MF.r mf4747 (k := 33) (by decide) (by decide)).symm
    have m4771 := (m4730).trans (MF.r mf4747 (k := 50) (by decide) (by decide)).symm
    have m4772 := (MF.i mf4747 (k := 0) (by decide) (by decide)).trans m4731
    have m4773 := (m4732).trans (MF.i mf4747 (k := 71) (by decide) (by decide)).symm
    have m4774 := (MF.i mf4747 (k := 70) (by decide) (by decide)).trans m4733
    have m4775 := (m4734).trans (MF.i mf4747 (k := 1) (by decide) (by decide)).symm
    have m4776 := (m4735).trans (MF.i mf4747 (k := 2) (by decide) (by decide)).symm
    have m4777 := (m4736).trans (MF.i mf4747 (k := 3) (by decide) (by decide)).symm
    have m4778 := (m4737).trans (MF.i mf4747 (k := 59) (by decide) (by decide)).symm
    have m4779 := (m4740).trans (MF.i mf4747 (k := 62) (by decide) (by decide)).symm
    have m4780 := (ex4741).trans (MF.i mf4747 (k := 65) (by decide) (by decide)).symm
    have mf4781 : MF K s.heap H4742 a0 [0, 1, 2, 3, 59, 62, 65, 70, 71, 72] := MF.trans mf4704 mf4747 (by decide)
    have bx4744 := ty_fi (x := x4744) (k := 72) ex4744 hTH4742 ga0 rg_112 rfl
    have ce_x4661 := i_cl (x := x4661) (by omega)
    have b4782 : UN (x1.toInt = 0) (fun k => fI H4742 iq k) (fun k => fI s.heap iq k) := UN.tr m4751 b4714
    have b4783 : x4364 = fI H4742 iq (0) := (b4715).trans (m4750 _ (by omega)).symm
    have b4784 : x4433 = fI H4742 iq (1) := (b4716).trans (m4750 _ (by omega)).symm
    have b4785 : x4581 = fI H4742 iq (3) := (b4717).trans (m4750 _ (by omega)).symm
    have b4786 : x4660 = fI H4742 iq (4) := (b4718).trans (m4750 _ (by omega)).symm
    clear b4706 b4707 b4708 b4709 b4710 b4711 b4712 b4713 b4714 b4715 b4716 b4717 b4718 ex4741 m4719 m4720 m4721 m4722 m4723 m4724 m4725 m4726 m4727 m4728 m4729 m4730 m4731 m4732 m4733 m4734 m4735 m4736 m4737 m4739 m4740
    clear m4750 m4751
    have bx4743 : 0 ≤ x4743.toInt ∧ x4743.toInt ≤ 8 := kr (fun h0 => by have hiw := hIW; exact kr0 (w := fun k => fI H4742 iq k) m4748 (p := 5) (by omega) (b4782 h0) (hiw.1.2.2.2.2)) m4749 (by omega)
    have p4787 : x4743 = fI H4742 iq (5) := by have h := m4748; rw [show x4661.toNatClampNeg = 5 by omega] at h; exact h
    refine W.eq (g2 := F0 m 102 ls [.int x4743, .ref a0]) rfl ?_
    refine x_put C hTH4742 hSH4742 (ci := 10) (k := 65) (v := .int x4743) (ty0 := tyX10) rfl inX10 tyX10_ok nmX10 (by decide) rfl wF_X10_458 ga0 rg_112 rfl rfl (okI (by have := i_rng x4743; omega) (by have := i_rng x4743; omega)) rfl rfl (AE_in ga0 (by decide)) dX10_image_102 (fun H4788 locsH4788 hTH4788 hSH4788 wH4788 => ?_)
    have mf4789 : MF K s.heap H4788 a0 [0, 1, 2, 3, 59, 62, 65, 70, 71, 72] := MF.fld hap wH4788 (by decide) (by decide) mf4781
    have g4790 : WD (avw K H4788 a0) := WD.congr (fun k hk j => av_fld hTH4742 ga0 hap wH4788 (by decide) (WD_ok 112 (by decide) k hk) (WD_ne 65 (by decide) k hk)) g4746
    have b4791 : UN (x1.toInt ≠ 0) (fun k => fI H4788 q4 k) (fun k => fI s.heap q4 k) := UN.congr (fun j => Wr.neI wH4788 (Or.inl (G_ne gq4 ga0 (by decide)))) b4752
    have b4792 : UN (x1.toInt ≠ 0) (fun k => fI H4788 q16 k) (fun k => fI s.heap q16 k) := UN.congr (fun j => Wr.neI wH4788 (Or.inl (G_ne gq16 ga0 (by decide)))) b4753
    have b4793 : UN (x1.toInt ≠ 0) (fun k => fI H4788 q24 k) (fun k => fI s.heap q24 k) := UN.congr (fun j => Wr.neI wH4788 (Or.inl (G_ne gq24 ga0 (by decide)))) b4754
    have b4794 : UN (x1.toInt ≠ 0) (fun k => fI H4788 q29 k) (fun k => fI s.heap q29 k) := UN.congr (fun j => Wr.neI wH4788 (Or.inl (G_ne gq29 ga0 (by decide)))) b4755
    have b4795 : UN (x1.toInt ≠ 0) (fun k => fI H4788 q30 k) (fun k => fI s.heap q30 k) := UN.congr (fun j => Wr.neI wH4788 (Or.inl (G_ne gq30 ga0 (by decide)))) b4756
    have b4796 : UN (x1.toInt ≠ 0) (fun k => fI H4788 q31 k) (fun k => fI s.heap q31 k) := UN.congr (fun j => Wr.neI wH4788 (Or.inl (G_ne gq31 ga0 (by decide)))) b4757
    have b4797 : UN (x1.toInt ≠ 0) (fun k => fI H4788 q32 k) (fun k => fI s.heap q32 k) := UN.congr (fun j => Wr.neI wH4788 (Or.inl (G_ne gq32 ga0 (by decide)))) b4758
    have b4798 : UN (x1.toInt ≠ 0) (fun k => fI H4788 q33 k) (fun k => fI s.heap q33 k) := UN.congr (fun j => Wr.neI wH4788 (Or.inl (G_ne gq33 ga0 (by decide)))) b4759
    have b4799 : UN (x1.toInt = 0) (fun k => fI H4788 iq k) (fun k => fI s.heap iq k) := UN.congr (fun j => Wr.neI wH4788 (Or.inl (G_ne giq ga0 (by decide)))) b4782
    have b4800 : x4364 = fI H4788 iq (0) := (b4783).trans (Wr.neI wH4788 (Or.inl (G_ne giq ga0 (by decide)))).symm
    have b4801 : x4433 = fI H4788 iq (1) := (b4784).trans (Wr.neI wH4788 (Or.inl (G_ne giq ga0 (by decide)))).symm
    have b4802 : x4581 = fI H4788 iq (3) := (b4785).trans (Wr.neI wH4788 (Or.inl (G_ne giq ga0 (by decide)))).symm
    have b4803 : x4660 = fI H4788 iq (4) := (b4786).trans (Wr.neI wH4788 (Or.inl (G_ne giq ga0 (by decide)))).symm
    have b4804 : x4743 = fI H4788 iq (5) := (p4787).trans (Wr.neI wH4788 (Or.inl (G_ne giq ga0 (by decide)))).symm
    have m4805 := m4745.trans (Wr.neR wH4788 (Or.inr (x_apart hKT hts inX10 tyX10 tyX10_ok nmX10 rfl 73 65 (by decide) (by decide) (by decide)))).symm
    have m4806 := m4761.trans (Wr.neR wH4788 (Or.inr (x_apart hKT hts inX10 tyX10 tyX10_ok nmX10 rfl 4 65 (by decide) (by decide) (by decide)))).symm
    have m4807 := m4762.trans (Wr.neR wH4788 (Or.inr (x_apart hKT hts inX10 tyX10 tyX10_ok nmX10 rfl 10 65 (by decide) (by decide) (by decide)))).symm
    have m4808 := m4763.trans (Wr.neR wH4788 (Or.inr (x_apart hKT hts inX10 tyX10 tyX10_ok nmX10 rfl 16 65 (by decide) (by decide) (by decide)))).symm
    have m4809 := m4764.trans (Wr.neR wH4788 (Or.inr (x_apart hKT hts inX10 tyX10 tyX10_ok nmX10 rfl 24 65 (by decide) (by decide) (by decide)))).symm
    have m4810 := m4765.trans (Wr.neR wH4788 (Or.inr (x_apart hKT hts inX10 tyX10 tyX10_ok nmX10 rfl 27 65 (by decide) (by decide) (by decide)))).symm
    have m4811 := m4766.trans (Wr.neR wH4788 (Or.inr (x_apart hKT hts inX10 tyX10 tyX10_ok nmX10 rfl 29 65 (by decide) (by decide) (by decide)))).symm
    have m4812 := m4767.trans (Wr.neR wH4788 (Or.inr (x_apart hKT hts inX10 tyX10 tyX10_ok nmX10 rfl 30 65 (by decide) (by decide) (by decide)))).symm
    have m4813 := m4768.trans (Wr.neR wH4788 (Or.inr (x_apart hKT hts inX10 tyX10 tyX10_ok nmX10 rfl 31 65 (by decide) (by decide) (by decide)))).symm
    have m4814 := m4769.trans (Wr.neR wH4788 (Or.inr (x_apart hKT hts inX10 tyX10 tyX10_ok nmX10 rfl 32 65 (by decide) (by decide) (by decide)))).symm
    have m4815 := m4770.trans (Wr.neR wH4788 (Or.inr (x_apart hKT hts inX10 tyX10 tyX10_ok nmX10 rfl 33 65 (by decide) (by decide) (by decide)))).symm
    have m4816 := m4771.trans (Wr.neR wH4788 (Or.inr (x_apart hKT hts inX10 tyX10 tyX10_ok nmX10 rfl 50 65 (by decide) (by decide) (by decide)))).symm
    have m4817 := (Wr.neI wH4788 (Or.inr (x_apart hKT hts inX10 tyX10 tyX10_ok nmX10 rfl 0 65 (by decide) (by decide) (by decide)))).trans m4772
    have m4818 := m4773.trans (Wr.neI wH4788 (Or.inr (x_apart hKT hts inX10 tyX10 tyX10_ok nmX10 rfl 71 65 (by decide) (by decide) (by decide)))).symm
    have m4819 := (Wr.neI wH4788 (Or.inr (x_apart hKT hts inX10 tyX10 tyX10_ok nmX10 rfl 70 65 (by decide) (by decide) (by decide)))).trans m4774
    have m4820 := m4775.trans (Wr.neI wH4788 (Or.inr (x_apart hKT hts inX10 tyX10 tyX10_ok nmX10 rfl 1 65 (by decide) (by decide) (by decide)))).symm
    have m4821 := m4776.trans (Wr.neI wH4788 (Or.inr (x_apart hKT hts inX10 tyX10 tyX10_ok nmX10 rfl 2 65 (by decide) (by decide) (by decide)))).symm
    have m4822 := m4777.trans (Wr.neI wH4788 (Or.inr (x_apart hKT hts inX10 tyX10 tyX10_ok nmX10 rfl 3 65 (by decide) (by decide) (by decide)))).symm
    have m4823 := m4778.trans (Wr.neI wH4788 (Or.inr (x_apart hKT hts inX10 tyX10 tyX10_ok nmX10 rfl 59 65 (by decide) (by decide) (by decide)))).symm
    have m4824 := m4779.trans (Wr.neI wH4788 (Or.inr (x_apart hKT hts inX10 tyX10 tyX10_ok nmX10 rfl 62 65 (by decide) (by decide) (by decide)))).symm
    have m4826 := ex4744.trans (Wr.neI wH4788 (Or.inr (x_apart hKT hts inX10 tyX10 tyX10_ok nmX10 rfl 72 65 (by decide) (by decide) (by decide)))).symm
    have m4827 := Wr.I wH4788
    have m4827 := m4827.symm
    clear b4752 b4753 b4754 b4755 b4756 b4757 b4758 b4759 b4782 b4783 b4784 b4785 b4786 ex4744 g4746 hTH4742 m4745 m4761 m4762 m4763 m4764 m4765 m4766 m4767 m4768 m4769 m4770 m4771 m4772 m4773 m4774 m4775 m4776 m4777 m4778 m4779 m4780 mf4781 p4787
    refine lv_aload_n hx hb dX10_image_105 rfl (lv_at hl 0 rfl) ?_
    refine x_V (As := []) (rest := []) C (a_X10_keepsBars l K G H4788 (x4744) (x1) hTH4788 ga0 giq m4805 gq4 m4806 gq10 m4807 gq16 m4808 gq50 m4816 m4826 m4818 g4790 (by and_intros <;> first | assumption | omega) (fun h0 => IMw.congr (b4799 h0) hIW)) yo_X10_keepsBars wM_X10_479 ⟨⟨by decide, by decide⟩, by decide, by decide⟩ (x_rv C hTH4788 (ci := 10) rfl ga0 rg_112) rfl hl.1 rfl (Nat.le_of_ble_eq_true rfl) dX10_image_106 hSH4788 (AE_sub (fun _ _ => rfl) (by decide) hSH4788.1) (fun vH4828 H4828 locsH4828 pH4828 zH4828 kH4828 hSH4828 => ?_)
    obtain ⟨x4829, hvH4828, ex4829, hrH4828, m4830, m4831, m4832, m4833, m4834, g4835, mf4836, m4837, m4838, m4839, m4840, m4841, m4842, m4843, m4844, hTH4828⟩ := pH4828
    subst hvH4828
    clear zH4828
    replace m4830 := EQN.mk m4830
    replace m4831 := EQN.mk m4831
    replace m4832 := EQN.mk m4832
    replace m4833 := EQN.mk m4833
    replace m4834 := EQN.mk m4834
    have b4845 : UN (x1.toInt ≠ 0) (fun k => fI H4828 q24 k) (fun k => fI s.heap q24 k) := UN.congr (fun j => fI_kept (x_lt hTH4788 kH4828 gq24 (by decide))) b4793
    have b4846 : UN (x1.toInt ≠ 0) (fun k => fI H4828 q29 k) (fun k => fI s.heap q29 k) := UN.congr (fun j => fI_kept (x_lt hTH4788 kH4828 gq29 (by decide))) b4794
    have b4847 : UN (x1.toInt ≠ 0) (fun k => fI H4828 q30 k) (fun k => fI s.heap q30 k) := UN.congr (fun j => fI_kept (x_lt hTH4788 kH4828 gq30 (by decide))) b4795
    have b4848 : UN (x1.toInt ≠ 0) (fun k => fI H4828 q31 k) (fun k => fI s.heap q31 k) := UN.congr (fun j => fI_kept (x_lt hTH4788 kH4828 gq31 (by decide))) b4796
    have b4849 : UN (x1.toInt ≠ 0) (fun k => fI H4828 q32 k) (fun k => fI s.heap q32 k) := UN.congr (fun j => fI_kept (x_lt hTH4788 kH4828 gq32 (by decide))) b4797
    have b4850 : UN (x1.toInt ≠ 0) (fun k => fI H4828 q33 k) (fun k => fI s.heap q33 k) := UN.congr (fun j => fI_kept (x_lt hTH4788 kH4828 gq33 (by decide))) b4798
    have m4851 := (m4805).trans (MF.r mf4836 (k := 73) (by decide) (by decide)).symm
    have m4852 := (m4806).trans (MF.r mf4836 (k := 4) (by decide) (by decide)).symm
    have m4853 := (m4807).trans (MF.r mf4836 (k := 10) (by decide) (by decide)).symm
    have m4854 := (m4808).trans (MF.r mf4836 (k := 16) (by decide) (by decide)).symm
    have m4855 := (m4809).trans (MF.r mf4836 (k := 24) (by decide) (by decide)).symm
    have m4856 := (m4810).trans (MF.r mf4836 (k := 27) (by decide) (by decide)).symm
    have m4857 := (m4811).trans (MF.r mf4836 (k := 29) (by decide) (by decide)).symm
    have m4858 := (m4812).trans (MF.r mf4836 (k := 30) (by decide) (by decide)).symm
    have m4859 := (m4813).trans (MF.r mf4836 (k := 31) (by decide) (by decide)).symm
    have m4860 := (m4814).trans (MF.r mf4836 (k := 32) (by decide) (by decide)).symm
    have m4861 := (m4815).trans (MF.r mf4836 (k := 33) (by decide) (by decide)).symm
    have m4862 := (m4816).trans (MF.r mf4836 (k := 50) (by decide) (by decide)).symm
    have m4863 := (MF.i mf4836 (k := 0) (by decide) (by decide)).trans m4817
    have m4864 := (m4818).trans (MF.i mf4836 (k := 71) (by decide) (by decide)).symm
    have m4865 := (MF.i mf4836 (k := 70) (by decide) (by decide)).trans m4819
    have m4866 := (m4820).trans (MF.i mf4836 (k := 1) (by decide) (by decide)).symm
    have m4867 := (m4821).trans (MF.i mf4836 (k := 2) (by decide) (by decide)).symm
    have m4868 := (m4822).trans (MF.i mf4836 (k := 3) (by decide) (by decide)).symm
    have m4869 := (m4823).trans (MF.i mf4836 (k := 59) (by decide) (by decide)).symm
    have m4870 := (m4824).trans (MF.i mf4836 (k := 62) (by decide) (by decide)).symm
    have m4871 := (m4827).trans (MF.i mf4836 (k := 65) (by decide) (by decide)).symm
    have mf4872 : MF K s.heap H4828 a0 [0, 1, 2, 3, 59, 62, 65, 70, 71, 72] := MF.trans mf4789 mf4836 (by decide)
    have bx4829 := ty_fi (x := x4829) (k := 72) ex4829 hTH4828 ga0 rg_112 rfl
    have b4873 : UN (x1.toInt ≠ 0) (fun k => fI H4828 q4 k) (fun k => fI s.heap q4 k) := UN.tr m4843 b4791
    have b4874 : UN (x1.toInt ≠ 0) (fun k => fI H4828 q16 k) (fun k => fI s.heap q16 k) := UN.tr m4844 b4792
    have b4875 : UN (x1.toInt = 0) (fun k => fI H4828 iq k) (fun k => fI s.heap iq k) := UN.tr m4837 b4799
    have b4876 : x4364 = fI H4828 iq (0) := (b4800).trans (m4838 _ (by omega)).symm
    have b4877 : x4433 = fI H4828 iq (1) := (b4801).trans (m4838 _ (by omega)).symm
    have b4878 : x4581 = fI H4828 iq (3) := (b4802).trans (m4838 _ (by omega)).symm
    have b4879 : x4660 = fI H4828 iq (4) := (b4803).trans (m4838 _ (by omega)).symm
    have b4880 : x4743 = fI H4828 iq (5) := (b4804).trans (m4838 _ (by omega)).symm
    refine W.eq (g2 := F0 m 109 ls []) rfl ?_
    refine lv_aload_n hx hb dX10_image_109 rfl (lv_at hl 0 rfl) ?_
    refine x_V (As := []) (rest := []) C (a_X10_keepsTaps l K G H4828 (x4829) (x1) hTH4828 ga0 giq m4830 ex4829 m4864 g4835 (by and_intros <;> first | assumption | omega) (fun h0 => IMw.congr (b4875 h0) hIW)) yo_X10_keepsTaps wM_X10_482 ⟨⟨by decide, by decide⟩, by decide, by decide⟩ (x_rv C hTH4828 (ci := 10) rfl ga0 rg_112) rfl hl.1 rfl (Nat.le_of_ble_eq_true rfl) dX10_image_110 hSH4828 (AE_sub (fun _ _ => rfl) (by decide) hSH4828.1) (fun vH4881 H4881 locsH4881 pH4881 zH4881 kH4881 hSH4881 => ?_)
    obtain ⟨x4882, hvH4881, ex4882, hrH4881, m4883, g4884, mf4885, m4886, m4887, hTH4881⟩ := pH4881
    subst hvH4881
    clear zH4881
    replace m4883 := EQN.mk m4883
    have b4888 : UN (x1.toInt ≠ 0) (fun k => fI H4881 q24 k) (fun k => fI s.heap q24 k) := UN.congr (fun j => fI_kept (x_lt hTH4828 kH4881 gq24 (by decide))) b4845
    have b4889 : UN (x1.toInt ≠ 0) (fun k => fI H4881 q29 k) (fun k => fI s.heap q29 k) := UN.congr (fun j => fI_kept (x_lt hTH4828 kH4881 gq29 (by decide))) b4846
    have b4890 : UN (x1.toInt ≠ 0) (fun k => fI H4881 q30 k) (fun k => fI s.heap q30 k) := UN.congr (fun j => fI_kept (x_lt hTH4828 kH4881 gq30 (by decide))) b4847
    have b4891 : UN (x1.toInt ≠ 0) (fun k => fI H4881 q31 k) (fun k => fI s.heap q31 k) := UN.congr (fun j => fI_kept (x_lt hTH4828 kH4881 gq31 (by decide))) b4848
    have b4892 : UN (x1.toInt ≠ 0) (fun k => fI H4881 q32 k) (fun k => fI s.heap q32 k) := UN.congr (fun j => fI_kept (x_lt hTH4828 kH4881 gq32 (by decide))) b4849
    have b4893 : UN (x1.toInt ≠ 0) (fun k => fI H4881 q33 k) (fun k => fI s.heap q33 k) := UN.congr (fun j => fI_kept (x_lt hTH4828 kH4881 gq33 (by decide))) b4850
    have b4894 : UN (x1.toInt ≠ 0) (fun k => fI H4881 q4 k) (fun k => fI s.heap q4 k) := UN.congr (fun j => fI_kept (x_lt hTH4828 kH4881 gq4 (by decide))) b4873
    have b4895 : UN (x1.toInt ≠ 0) (fun k => fI H4881 q16 k) (fun k => fI s.heap q16 k) := UN.congr (fun j => fI_kept (x_lt hTH4828 kH4881 gq16 (by decide))) b4874
    have m4896 := (m4830).trans (MF.r mf4885 (k := 73) (by decide) (by decide)).symm
    have m4897 := (m4831).trans (MF.r mf4885 (k := 4) (by decide) (by decide)).symm
    have m4898 := (m4832).trans (MF.r mf4885 (k := 10) (by decide) (by decide)).symm
    have m4899 := (m4833).trans (MF.r mf4885 (k := 16) (by decide) (by decide)).symm
    have m4900 := (m4855).trans (MF.r mf4885 (k := 24) (by decide) (by decide)).symm
    have m4901 := (m4856).trans (MF.r mf4885 (k := 27) (by decide) (by decide)).symm
    have m4902 := (m4857).trans (MF.r mf4885 (k := 29) (by decide) (by decide)).symm
    have m4903 := (m4858).trans (MF.r mf4885 (k := 30) (by decide) (by decide)).symm
    have m4904 := (m4859).trans (MF.r mf4885 (k := 31) (by decide) (by decide)).symm
    have m4905 := (m4860).trans (MF.r mf4885 (k := 32) (by decide) (by decide)).symm
    have m4906 := (m4861).trans (MF.r mf4885 (k := 33) (by decide) (by decide)).symm
    have m4907 := (m4834).trans (MF.r mf4885 (k := 50) (by decide) (by decide)).symm
    have m4908 := (MF.i mf4885 (k := 0) (by decide) (by decide)).trans m4863
    have m4909 := (m4864).trans (MF.i mf4885 (k := 71) (by decide) (by decide)).symm
    have m4910 := (MF.i mf4885 (k := 70) (by decide) (by decide)).trans m4865
    have m4911 := (m4866).trans (MF.i mf4885 (k := 1) (by decide) (by decide)).symm
    have m4912 := (m4867).trans (MF.i mf4885 (k := 2) (by decide) (by decide)).symm
    have m4913 := (m4868).trans (MF.i mf4885 (k := 3) (by decide) (by decide)).symm
    have m4914 := (m4869).trans (MF.i mf4885 (k := 59) (by decide) (by decide)).symm
    have m4915 := (m4870).trans (MF.i mf4885 (k := 62) (by decide) (by decide)).symm
    have m4916 := (m4871).trans (MF.i mf4885 (k := 65) (by decide) (by decide)).symm
    have mf4917 : MF K s.heap H4881 a0 [0, 1, 2, 3, 59, 62, 65, 70, 71, 72] := MF.trans mf4872 mf4885 (by decide)
    have bx4882 := ty_fi (x := x4882) (k := 72) ex4882 hTH4881 ga0 rg_112 rfl
    have b4918 : UN (x1.toInt = 0) (fun k => fI H4881 iq k) (fun k => fI s.heap iq k) := UN.tr m4886 b4875
    have b4919 : x4364 = fI H4881 iq (0) := (b4876).trans (m4887 _ (by omega)).symm
    have b4920 : x4433 = fI H4881 iq (1) := (b4877).trans (m4887 _ (by omega)).symm
    have b4921 : x4581 = fI H4881 iq (3) := (b4878).trans (m4887 _ (by omega)).symm
    have b4922 : x4660 = fI H4881 iq (4) := (b4879).trans (m4887 _ (by omega)).symm
    have b4923 : x4743 = fI H4881 iq (5) := (b4880).trans (m4887 _ (by omega)).symm
    have b4924 : EQ (fun k => fI H4881 q4 k) (fun k => fI H4881 iq k) (6) (6) (10) := EQ.fb (EQ.congr (w1 := fun k => fI H4828 iq k) (fun j => fI_kept (x_lt hTH4828 kH4881 gq4 (by decide))) (fun _ => rfl) m4839) m4887 (fun j hj => by omega)
    have b4925 : EQ (fun k => fI H4881 q10 k) (fun k => fI H4881 iq k) (7) (6) (10) := EQ.fb (EQ.congr (w1 := fun k => fI H4828 iq k) (fun j => fI_kept (x_lt hTH4828 kH4881 gq10 (by decide))) (fun _ => rfl) m4840) m4887 (fun j hj => by omega)
    have b4926 : EQ (fun k => fI H4881 q50 k) (fun k => fI H4881 iq k) (11) (6) (10) := EQ.fb (EQ.congr (w1 := fun k => fI H4828 iq k) (fun j => fI_kept (x_lt hTH4828 kH4881 gq50 (by decide))) (fun _ => rfl) m4841) m4887 (fun j hj => by omega)
    have b4927 : EQ (fun k => fI H4881 q16 k) (fun k => fI H4881 iq k) (736) (3) (20) := EQ.fb (EQ.congr (w1 := fun k => fI H4828 iq k) (fun j => fI_kept (x_lt hTH4828 kH4881 gq16 (by decide))) (fun _ => rfl) m4842) m4887 (fun j hj => by omega)
    refine W.eq (g2 := F0 m 113 ls []) rfl ?_
    refine lv_aload_n hx hb dX10_image_113 rfl (lv_at hl 0 rfl) ?_
    refine x_V (As := []) (rest := []) C (a_X10_keepsTexts l K G H4881 (x4882) (x1) hTH4881 ga0 giq m4883 gq24 m4900 gq27 m4901 gq29 m4902 gq30 m4903 gq31 m4904 gq32 m4905 gq33 m4906 ex4882 m4909 g4884 (by and_intros <;> first | assumption | omega) (fun h0 => IMw.congr (b4918 h0) hIW)) yo_X10_keepsTexts wM_X10_485 ⟨⟨by decide, by decide⟩, by decide, by decide⟩ (x_rv C hTH4881 (ci := 10) rfl ga0 rg_112) rfl hl.1 rfl (Nat.le_of_ble_eq_true rfl) dX10_image_114 hSH4881 (AE_sub (fun _ _ => rfl) (by decide) hSH4881.1) (fun vH4928 H4928 locsH4928 pH4928 zH4928 kH4928 hSH4928 => ?_)
    obtain ⟨x4929, hvH4928, ex4929, hrH4928, m4930, m4931, m4932, m4933, m4934, m4935, m4936, m4937, g4938, mf4939, m4940, m4941, m4942, m4943, m4944, m4945, m4946, m4947, m4948, m4949, m4950, m4951, m4952, m4953, m4954, hTH4928⟩ := pH4928
    subst hvH4928
    clear zH4928
    replace m4930 := EQN.mk m4930
    replace m4931 := EQN.mk m4931
    replace m4932 := EQN.mk m4932
    replace m4933 := EQN.mk m4933
    replace m4934 := EQN.mk m4934
    replace m4935 := EQN.mk m4935
    replace m4936 := EQN.mk m4936
    replace m4937 := EQN.mk m4937
    have b4955 : UN (x1.toInt ≠ 0) (fun k => fI H4928 q4 k) (fun k => fI s.heap q4 k) := UN.congr (fun j => fI_kept (x_lt hTH4881 kH4928 gq4 (by decide))) b4894
    have b4956 : UN (x1.toInt ≠ 0) (fun k => fI H4928 q16 k) (fun k => fI s.heap q16 k) := UN.congr (fun j => fI_kept (x_lt hTH4881 kH4928 gq16 (by decide))) b4895
    have m4957 := (m4883).trans (MF.r mf4939 (k := 73) (by decide) (by decide)).symm
    have m4958 := (m4897).trans (MF.r mf4939 (k := 4) (by decide) (by decide)).symm
    have m4959 := (m4898).trans (MF.r mf4939 (k := 10) (by decide) (by decide)).symm
    have m4960 := (m4899).trans (MF.r mf4939 (k := 16) (by decide) (by decide)).symm
    have m4961 := (m4900).trans (MF.r mf4939 (k := 24) (by decide) (by decide)).symm
    have m4962 := (m4901).trans (MF.r mf4939 (k := 27) (by decide) (by decide)).symm
    have m4963 := (m4902).trans (MF.r mf4939 (k := 29) (by decide) (by decide)).symm
    have m4964 := (m4903).trans (MF.r mf4939 (k := 30) (by decide) (by decide)).symm
    have m4965 := (m4904).trans (MF.r mf4939 (k := 31) (by decide) (by decide)).symm
    have m4966 := (m4905).trans (MF.r mf4939 (k := 32) (by decide) (by decide)).symm
    have m4967 := (m4906).trans (MF.r mf4939 (k := 33) (by decide) (by decide)).symm
    have m4968 := (m4907).trans (MF.r mf4939 (k := 50) (by decide) (by decide)).symm
    have m4969 := (MF.i mf4939 (k := 0) (by decide) (by decide)).trans m4908
    have m4970 := (m4909).trans (MF.i mf4939 (k := 71) (by decide) (by decide)).symm
    have m4971 := (MF.i mf4939 (k := 70) (by decide) (by decide)).trans m4910
    have m4972 := (m4911).trans (MF.i mf4939 (k := 1) (by decide) (by decide)).symm
    have m4973 := (m4912).trans (MF.i mf4939 (k := 2) (by decide) (by decide)).symm
    have m4974 := (m4913).trans (MF.i mf4939 (k := 3) (by decide) (by decide)).symm
    have m4975 := (m4914).trans (MF.i mf4939 (k := 59) (by decide) (by decide)).symm
    have m4976 := (m4915).trans (MF.i mf4939 (k := 62) (by decide) (by decide)).symm
    have m4977 := (m4916).trans (MF.i mf4939 (k := 65) (by decide) (by decide)).symm
    have mf4978 : MF K s.heap H4928 a0 [0, 1, 2, 3, 59, 62, 65, 70, 71, 72] := MF.trans mf4917 mf4939 (by decide)
    have bx4929 := ty_fi (x := x4929) (k := 72) ex4929 hTH4928 ga0 rg_112 rfl
    have b4979 : UN (x1.toInt ≠ 0) (fun k => fI H4928 q24 k) (fun k => fI s.heap q24 k) := UN.tr m4949 b4888
    have b4980 : UN (x1.toInt ≠ 0) (fun k => fI H4928 q29 k) (fun k => fI s.heap q29 k) := UN.tr m4950 b4889
    have b4981 : UN (x1.toInt ≠ 0) (fun k => fI H4928 q30 k) (fun k => fI s.heap q30 k) := UN.tr m4951 b4890
    have b4982 : UN (x1.toInt ≠ 0) (fun k => fI H4928 q31 k) (fun k => fI s.heap q31 k) := UN.tr m4952 b4891
    have b4983 : UN (x1.toInt ≠ 0) (fun k => fI H4928 q32 k) (fun k => fI s.heap q32 k) := UN.tr m4953 b4892
    have b4984 : UN (x1.toInt ≠ 0) (fun k => fI H4928 q33 k) (fun k => fI s.heap q33 k) := UN.tr m4954 b4893
    have b4985 : UN (x1.toInt = 0) (fun k => fI H4928 iq k) (fun k => fI s.heap iq k) := UN.tr m4940 b4918
    have b4986 : x4364 = fI H4928 iq (0) := (b4919).trans (m4941 _ (by omega)).symm
    have b4987 : x4433 = fI H4928 iq (1) := (b4920).trans (m4941 _ (by omega)).symm
    have b4988 : x4581 = fI H4928 iq (3) := (b4921).trans (m4941 _ (by omega)).symm
    have b4989 : x4660 = fI H4928 iq (4) := (b4922).trans (m4941 _ (by omega)).symm
    have b4990 : x4743 = fI H4928 iq (5) := (b4923).trans (m4941 _ (by omega)).symm
    have b4991 : EQ (fun k => fI H4928 q4 k) (fun k => fI H4928 iq k) (6) (6) (10) := EQ.fb (EQ.congr (w1 := fun k => fI H4881 iq k) (fun j => fI_kept (x_lt hTH4881 kH4928 gq4 (by decide))) (fun _ => rfl) b4924) m4941 (fun j hj => by omega)
    have b4992 : EQ (fun k => fI H4928 q10 k) (fun k => fI H4928 iq k) (7) (6) (10) := EQ.fb (EQ.congr (w1 := fun k => fI H4881 iq k) (fun j => fI_kept (x_lt hTH4881 kH4928 gq10 (by decide))) (fun _ => rfl) b4925) m4941 (fun j hj => by omega)
    have b4993 : EQ (fun k => fI H4928 q50 k) (fun k => fI H4928 iq k) (11) (6) (10) := EQ.fb (EQ.congr (w1 := fun k => fI H4881 iq k) (fun j => fI_kept (x_lt hTH4881 kH4928 gq50 (by decide))) (fun _ => rfl) b4926) m4941 (fun j hj => by omega)
    have b4994 : EQ (fun k => fI H4928 q16 k) (fun k => fI H4928 iq k) (736) (3) (20) := EQ.fb (EQ.congr (w1 := fun k => fI H4881 iq k) (fun j => fI_kept (x_lt hTH4881 kH4928 gq16 (by decide))) (fun _ => rfl) b4927) m4941 (fun j hj => by omega)
    refine W.eq (g2 := F0 m 117 ls []) rfl ?_
    have fin := im_fin (H0 := s.heap) (tk := x1) hTH4928 ga0 hg_CG hg_TU hg_IM ⟨EQ.av m4958 m4930 b4991, EQ.av m4959 m4930 b4992, EQ.av m4968 m4930 b4993, EQ.av m4960 m4930 b4994, EQ.av m4931 m4930 m4942, EQ.av m4932 m4930 m4943, EQ.av m4933 m4930 m4944, EQ.av m4934 m4930 m4945, EQ.av m4935 m4930 m4946, EQ.av m4936 m4930 m4947, EQ.av m4937 m4930 m4948⟩ (pl_av m4972 b4986 m4930) (pl_av m4973 b4987 m4930) (pl_av m4975 b4988 m4930) (pl_av m4976 b4989 m4930) (pl_av m4977 b4990 m4930) (fun h => (m4972.symm.trans (m4370 h)).trans ex4237) (all8 (UN.av m4958 eq4 b4955) (UN.av m4960 eq16 b4956) (UN.av m4931 eq24 b4979) (UN.av m4933 eq29 b4980) (UN.av m4934 eq30 b4981) (UN.av m4935 eq31 b4982) (UN.av m4936 eq32 b4983) (UN.av m4937 eq33 b4984)) (UN.av m4930 eiq b4985)
    refine lv_iconst (v := 1) hx hb dX10_image_117 (by decide) ?_
    exact x_zret C hQ (Or.inr rfl) dX10_image_118 hSH4928 (by decide) (by decide) (⟨1, rfl, by decide, m4930, m4958, m4959, m4960, m4931, m4932, m4933, m4934, m4935, m4936, m4937, m4968, fin.1, fin.2.1, g4938, fin.2.2, mf4978, hTH4928⟩)
  · have k4268 := i_eq c4267
    refine lv_aload_n hx hb dX10_image_9 rfl (lv_at hl 0 rfl) ?_
    refine x_gi C hTH4238 (ci := 10) (k := 70) rfl inX10 (by decide) wF_X10_476 ga0 rg_112 rfl dX10_image_10 (fun x4995 ex4995 bx4995 => ?_)
    refine lv_if_ne (tgt := 18) hx hb dX10_image_13 (by decide) (fun c4996 => ?_) (fun c4996 => ?_)
    · have k4997 := i_ne c4996
      refine lv_aload_n hx hb dX10_image_18 rfl (lv_at hl 0 rfl) ?_
      refine lv_iload_n hx hb dX10_image_19 rfl (lv_at hl 1 rfl) ?_
      refine x_put C hTH4238 hSH4238 (ci := 10) (k := 71) (v := .int x1) (ty0 := tyX10) rfl inX10 tyX10_ok nmX10 (by decide) rfl wF_X10_470 ga0 rg_112 rfl rfl (okI (by have := i_rng x1; omega) (by have := i_rng x1; omega)) (by rcases i_01 (x := x1) (by omega) with h | h <;> rw [h] <;> rfl) (by rcases i_01 (x := x1) (by omega) with h | h <;> rw [h] <;> rfl) (AE_in ga0 (by decide)) dX10_image_20 (fun H4998 locsH4998 hTH4998 hSH4998 wH4998 => ?_)
      have mf4999 : MF K s.heap H4998 a0 [0, 1, 2, 3, 59, 62, 65, 70, 71, 72] := MF.fld hap wH4998 (by decide) (by decide) mf4239
      have g5000 : CG (avw K H4998 a0) := CG.congr (fun k hk j => av_fld hTH4238 ga0 hap wH4998 (by decide) (CG_ok 112 (by decide) k hk) (CG_ne 71 (by decide) k hk)) g4240
      have g5001 : TU (avw K H4998 a0) (svw K H4998 a0) := TU.congr (fun k hk j => av_fld hTH4238 ga0 hap wH4998 (by decide) (TU_ok 112 (by decide) k hk) (TU_ne 71 (by decide) k hk)) (fun k hk => sv_fld hap wH4998 (by decide) (TU_slt k hk) (TU_sne 71 (by decide) k hk)) g4241
      have g5002 : WD (avw K H4998 a0) := WD.congr (fun k hk j => av_fld hTH4238 ga0 hap wH4998 (by decide) (WD_ok 112 (by decide) k hk) (WD_ne 71 (by decide) k hk)) g4242
      have g5003 : IM (avw K H4998 a0) := IM.congr (fun k hk j => av_fld hTH4238 ga0 hap wH4998 (by decide) (IM_ok 112 (by decide) k hk) (IM_ne 71 (by decide) k hk)) g4243
      have b5004 : UN (x1.toInt = 0) (fun k => fI H4998 iq k) (fun k => fI s.heap iq k) := UN.congr (fun j => Wr.neI wH4998 (Or.inl (G_ne giq ga0 (by decide)))) b4244
      have b5005 : UN (x1.toInt ≠ 0) (fun k => fI H4998 q4 k) (fun k => fI s.heap q4 k) := UN.congr (fun j => Wr.neI wH4998 (Or.inl (G_ne gq4 ga0 (by decide)))) b4245
      have b5006 : UN (x1.toInt ≠ 0) (fun k => fI H4998 q16 k) (fun k => fI s.heap q16 k) := UN.congr (fun j => Wr.neI wH4998 (Or.inl (G_ne gq16 ga0 (by decide)))) b4246
      have b5007 : UN (x1.toInt ≠ 0) (fun k => fI H4998 q24 k) (fun k => fI s.heap q24 k) := UN.congr (fun j => Wr.neI wH4998 (Or.inl (G_ne gq24 ga0 (by decide)))) b4247
      have b5008 : UN (x1.toInt ≠ 0) (fun k => fI H4998 q29 k) (fun k => fI s.heap q29 k) := UN.congr (fun j => Wr.neI wH4998 (Or.inl (G_ne gq29 ga0 (by decide)))) b4248
      have b5009 : UN (x1.toInt ≠ 0) (fun k => fI H4998 q30 k) (fun k => fI s.heap q30 k) := UN.congr (fun j => Wr.neI wH4998 (Or.inl (G_ne gq30 ga0 (by decide)))) b4249
      have b5010 : UN (x1.toInt ≠ 0) (fun k => fI H4998 q31 k) (fun k => fI s.heap q31 k) := UN.congr (fun j => Wr.neI wH4998 (Or.inl (G_ne gq31 ga0 (by decide)))) b4250
      have b5011 : UN (x1.toInt ≠ 0) (fun k => fI H4998 q32 k) (fun k => fI s.heap q32 k) := UN.congr (fun j => Wr.neI wH4998 (Or.inl (G_ne gq32 ga0 (by decide)))) b4251
      have b5012 : UN (x1.toInt ≠ 0) (fun k => fI H4998 q33 k) (fun k => fI s.heap q33 k) := UN.congr (fun j => Wr.neI wH4998 (Or.inl (G_ne gq33 ga0 (by decide)))) b4252
      have m5013 := m4253.trans (Wr.neR wH4998 (Or.inr (x_apart hKT hts inX10 tyX10 tyX10_ok nmX10 rfl 73 71 (by decide) (by decide) (by decide)))).symm
      have m5014 := m4254.trans (Wr.neR wH4998 (Or.inr (x_apart hKT hts inX10 tyX10 tyX10_ok nmX10 rfl 4 71 (by decide) (by decide) (by decide)))).symm
      have m5015 := m4255.trans (Wr.neR wH4998 (Or.inr (x_apart hKT hts inX10 tyX10 tyX10_ok nmX10 rfl 10 71 (by decide) (by decide) (by decide)))).symm
      have m5016 := m4256.trans (Wr.neR wH4998 (Or.inr (x_apart hKT hts inX10 tyX10 tyX10_ok nmX10 rfl 16 71 (by decide) (by decide) (by decide)))).symm
      have m5017 := m4257.trans (Wr.neR wH4998 (Or.inr (x_apart hKT hts inX10 tyX10 tyX10_ok nmX10 rfl 24 71 (by decide) (by decide) (by decide)))).symm
      have m5018 := m4258.trans (Wr.neR wH4998 (Or.inr (x_apart hKT hts inX10 tyX10 tyX10_ok nmX10 rfl 27 71 (by decide) (by decide) (by decide)))).symm
      have m5019 := m4259.trans (Wr.neR wH4998 (Or.inr (x_apart hKT hts inX10 tyX10 tyX10_ok nmX10 rfl 29 71 (by decide) (by decide) (by decide)))).symm
      have m5020 := m4260.trans (Wr.neR wH4998 (Or.inr (x_apart hKT hts inX10 tyX10 tyX10_ok nmX10 rfl 30 71 (by decide) (by decide) (by decide)))).symm
      have m5021 := m4261.trans (Wr.neR wH4998 (Or.inr (x_apart hKT hts inX10 tyX10 tyX10_ok nmX10 rfl 31 71 (by decide) (by decide) (by decide)))).symm
      have m5022 := m4262.trans (Wr.neR wH4998 (Or.inr (x_apart hKT hts inX10 tyX10 tyX10_ok nmX10 rfl 32 71 (by decide) (by decide) (by decide)))).symm
      have m5023 := m4263.trans (Wr.neR wH4998 (Or.inr (x_apart hKT hts inX10 tyX10 tyX10_ok nmX10 rfl 33 71 (by decide) (by decide) (by decide)))).symm
      have m5024 := m4264.trans (Wr.neR wH4998 (Or.inr (x_apart hKT hts inX10 tyX10 tyX10_ok nmX10 rfl 50 71 (by decide) (by decide) (by decide)))).symm
      have m5025 := m4265.trans (Wr.neI wH4998 (Or.inr (x_apart hKT hts inX10 tyX10 tyX10_ok nmX10 rfl 1 71 (by decide) (by decide) (by decide)))).symm
      have m5026 := (Wr.neI wH4998 (Or.inr (x_apart hKT hts inX10 tyX10 tyX10_ok nmX10 rfl 0 71 (by decide) (by decide) (by decide)))).trans m4266
      have m5027 := ex4995.trans (Wr.neI wH4998 (Or.inr (x_apart hKT hts inX10 tyX10 tyX10_ok nmX10 rfl 70 71 (by decide) (by decide) (by decide)))).symm
      have m5028 := Wr.I wH4998
      have m5028 := m5028.symm
      clear b4244 b4245 b4246 b4247 b4248 b4249 b4250 b4251 b4252 ex4995 g4240 g4241 g4242 g4243 hTH4238 m4253 m4254 m4255 m4256 m4257 m4258 m4259 m4260 m4261 m4262 m4263 m4264 m4265 m4266 mf4239
      refine lv_aload_n hx hb dX10_image_23 rfl (lv_at hl 0 rfl) ?_
      refine lv_iconst (v := 1) hx hb dX10_image_24 (by decide) ?_
      refine x_put C hTH4998 hSH4998 (ci := 10) (k := 70) (v := .int 1) (ty0 := tyX10) rfl inX10 tyX10_ok nmX10 (by decide) rfl wF_X10_476 ga0 rg_112 rfl rfl (okI (by have := i_rng (1 : Int32); omega) (by have := i_rng (1 : Int32); omega)) rfl rfl (AE_in ga0 (by decide)) dX10_image_25 (fun H5029 locsH5029 hTH5029 hSH5029 wH5029 => ?_)
      have mf5030 : MF K s.heap H5029 a0 [0, 1, 2, 3, 59, 62, 65, 70, 71, 72] := MF.fld hap wH5029 (by decide) (by decide) mf4999
      have g5031 : CG (avw K H5029 a0) := CG.congr (fun k hk j => av_fld hTH4998 ga0 hap wH5029 (by decide) (CG_ok 112 (by decide) k hk) (CG_ne 70 (by decide) k hk)) g5000
      have g5032 : TU (avw K H5029 a0) (svw K H5029 a0) := TU.congr (fun k hk j => av_fld hTH4998 ga0 hap wH5029 (by decide) (TU_ok 112 (by decide) k hk) (TU_ne 70 (by decide) k hk)) (fun k hk => sv_fld hap wH5029 (by decide) (TU_slt k hk) (TU_sne 70 (by decide) k hk)) g5001
      have g5033 : WD (avw K H5029 a0) := WD.congr (fun k hk j => av_fld hTH4998 ga0 hap wH5029 (by decide) (WD_ok 112 (by decide) k hk) (WD_ne 70 (by decide) k hk)) g5002
      have g5034 : IM (avw K H5029 a0) := IM.congr (fun k hk j => av_fld hTH4998 ga0 hap wH5029 (by decide) (IM_ok 112 (by decide) k hk) (IM_ne 70 (by decide) k hk)) g5003
      have b5035 : UN (x1.toInt = 0) (fun k => fI H5029 iq k) (fun k => fI s.heap iq k) := UN.congr (fun j => Wr.neI wH5029 (Or.inl (G_ne giq ga0 (by decide)))) b5004
      have b5036 : UN (x1.toInt ≠ 0) (fun k => fI H5029 q4 k) (fun k => fI s.heap q4 k) := UN.congr (fun j => Wr.neI wH5029 (Or.inl (G_ne gq4 ga0 (by decide)))) b5005
      have b5037 : UN (x1.toInt ≠ 0) (fun k => fI H5029 q16 k) (fun k => fI s.heap q16 k) := UN.congr (fun j => Wr.neI wH5029 (Or.inl (G_ne gq16 ga0 (by decide)))) b5006
      have b5038 : UN (x1.toInt ≠ 0) (fun k => fI H5029 q24 k) (fun k => fI s.heap q24 k) := UN.congr (fun j => Wr.neI wH5029 (Or.inl (G_ne gq24 ga0 (by decide)))) b5007
      have b5039 : UN (x1.toInt ≠ 0) (fun k => fI H5029 q29 k) (fun k => fI s.heap q29 k) := UN.congr (fun j => Wr.neI wH5029 (Or.inl (G_ne gq29 ga0 (by decide)))) b5008
      have b5040 : UN (x1.toInt ≠ 0) (fun k => fI H5029 q30 k) (fun k => fI s.heap q30 k) := UN.congr (fun j => Wr.neI wH5029 (Or.inl (G_ne gq30 ga0 (by decide)))) b5009
      have b5041 : UN (x1.toInt ≠ 0) (fun k => fI H5029 q31 k) (fun k => fI s.heap q31 k) := UN.congr (fun j => Wr.neI wH5029 (Or.inl (G_ne gq31 ga0 (by decide)))) b5010
      have b5042 : UN (x1.toInt ≠ 0) (fun k => fI H5029 q32 k) (fun k => fI s.heap q32 k) := UN.congr (fun j => Wr.neI wH5029 (Or.inl (G_ne gq32 ga0 (by decide)))) b5011
      have b5043 : UN (x1.toInt ≠ 0) (fun k => fI H5029 q33 k) (fun k => fI s.heap q33 k) := UN.congr (fun j => Wr.neI wH5029 (Or.inl (G_ne gq33 ga0 (by decide)))) b5012
      have m5044 := m5013.trans (Wr.neR wH5029 (Or.inr (x_apart hKT hts inX10 tyX10 tyX10_ok nmX10 rfl 73 70 (by decide) (by decide) (by decide)))).symm
      have m5045 := m5014.trans (Wr.neR wH5029 (Or.inr (x_apart hKT hts inX10 tyX10 tyX10_ok nmX10 rfl 4 70 (by decide) (by decide) (by decide)))).symm
      have m5046 := m5015.trans (Wr.neR wH5029 (Or.inr (x_apart hKT hts inX10 tyX10 tyX10_ok nmX10 rfl 10 70 (by decide) (by decide) (by decide)))).symm
      have m5047 := m5016.trans (Wr.neR wH5029 (Or.inr (x_apart hKT hts inX10 tyX10 tyX10_ok nmX10 rfl 16 70 (by decide) (by decide) (by decide)))).symm
      have m5048 := m5017.trans (Wr.neR wH5029 (Or.inr (x_apart hKT hts inX10 tyX10 tyX10_ok nmX10 rfl 24 70 (by decide) (by decide) (by decide)))).symm
      have m5049 := m5018.trans (Wr.neR wH5029 (Or.inr (x_apart hKT hts inX10 tyX10 tyX10_ok nmX10 rfl 27 70 (by decide) (by decide) (by decide)))).symm
      have m5050 := m5019.trans (Wr.neR wH5029 (Or.inr (x_apart hKT hts inX10 tyX10 tyX10_ok nmX10 rfl 29 70 (by decide) (by decide) (by decide)))).symm
      have m5051 := m5020.trans (Wr.neR wH5029 (Or.inr (x_apart hKT hts inX10 tyX10 tyX10_ok nmX10 rfl 30 70 (by decide) (by decide) (by decide)))).symm
      have m5052 := m5021.trans (Wr.neR wH5029 (Or.inr (x_apart hKT hts inX10 tyX10 tyX10_ok nmX10 rfl 31 70 (by decide) (by decide) (by decide)))).symm
      have m5053 := m5022.trans (Wr.neR wH5029 (Or.inr (x_apart hKT hts inX10 tyX10 tyX10_ok nmX10 rfl 32 70 (by decide) (by decide) (by decide)))).symm
      have m5054 := m5023.trans (Wr.neR wH5029 (Or.inr (x_apart hKT hts inX10 tyX10 tyX10_ok nmX10 rfl 33 70 (by decide) (by decide) (by decide)))).symm
      have m5055 := m5024.trans (Wr.neR wH5029 (Or.inr (x_apart hKT hts inX10 tyX10 tyX10_ok nmX10 rfl 50 70 (by decide) (by decide) (by decide)))).symm
      have m5056 := m5025.trans (Wr.neI wH5029 (Or.inr (x_apart hKT hts inX10 tyX10 tyX10_ok nmX10 rfl 1 70 (by decide) (by decide) (by decide)))).symm
      have m5057 := (Wr.neI wH5029 (Or.inr (x_apart hKT hts inX10 tyX10 tyX10_ok nmX10 rfl 0 70 (by decide) (by decide) (by decide)))).trans m5026
      have m5059 := m5028.trans (Wr.neI wH5029 (Or.inr (x_apart hKT hts inX10 tyX10 tyX10_ok nmX10 rfl 71 70 (by decide) (by decide) (by decide)))).symm
      have m5060 := Wr.I wH5029
      clear b5004 b5005 b5006 b5007 b5008 b5009 b5010 b5011 b5012 g5000 g5001 g5002 g5003 hTH4998 m5013 m5014 m5015 m5016 m5017 m5018 m5019 m5020 m5021 m5022 m5023 m5024 m5025 m5026 m5027 m5028 mf4999
      refine lv_aload_n hx hb dX10_image_28 rfl (lv_at hl 0 rfl) ?_
      refine lv_iconst (v := 0) hx hb dX10_image_29 (by decide) ?_
      refine x_put C hTH5029 hSH5029 (ci := 10) (k := 72) (v := .int 0) (ty0 := tyX10) rfl inX10 tyX10_ok nmX10 (by decide) rfl wF_X10_467 ga0 rg_112 rfl rfl (okI (by have := i_rng (0 : Int32); omega) (by have := i_rng (0 : Int32); omega)) rfl rfl (AE_in ga0 (by decide)) dX10_image_30 (fun H5061 locsH5061 hTH5061 hSH5061 wH5061 => ?_)
      have mf5062 : MF K s.heap H5061 a0 [0, 1, 2, 3, 59, 62, 65, 70, 71, 72] := MF.fld hap wH5061 (by decide) (by decide) mf5030
      have g5063 : CG (avw K H5061 a0) := CG.congr (fun k hk j => av_fld hTH5029 ga0 hap wH5061 (by decide) (CG_ok 112 (by decide) k hk) (CG_ne 72 (by decide) k hk)) g5031
      have g5064 : TU (avw K H5061 a0) (svw K H5061 a0) := TU.congr (fun k hk j => av_fld hTH5029 ga0 hap wH5061 (by decide) (TU_ok 112 (by decide) k hk) (TU_ne 72 (by decide) k hk)) (fun k hk => sv_fld hap wH5061 (by decide) (TU_slt k hk) (TU_sne 72 (by decide) k hk)) g5032
      have g5065 : WD (avw K H5061 a0) := WD.congr (fun k hk j => av_fld hTH5029 ga0 hap wH5061 (by decide) (WD_ok 112 (by decide) k hk) (WD_ne 72 (by decide) k hk)) g5033
      have g5066 : IM (avw K H5061 a0) := IM.congr (fun k hk j => av_fld hTH5029 ga0 hap wH5061 (by decide) (IM_ok 112 (by decide) k hk) (IM_ne 72 (by decide) k hk)) g5034
      have b5067 : UN (x1.toInt = 0) (fun k => fI H5061 iq k) (fun k => fI s.heap iq k) := UN.congr (fun j => Wr.neI wH5061 (Or.inl (G_ne giq ga0 (by decide)))) b5035
      have b5068 : UN (x1.toInt ≠ 0) (fun k => fI H5061 q4 k) (fun k => fI s.heap q4 k) := UN.congr (fun j => Wr.neI wH5061 (Or.inl (G_ne gq4 ga0 (by decide)))) b5036
      have b5069 : UN (x1.toInt ≠ 0) (fun k => fI H5061 q16 k) (fun k => fI s.heap q16 k) := UN.congr (fun j => Wr.neI wH5061 (Or.inl (G_ne gq16 ga0 (by decide)))) b5037
      have b5070 : UN (x1.toInt ≠ 0) (fun k => fI H5061 q24 k) (fun k => fI s.heap q24 k) := UN.congr (fun j => Wr.neI wH5061 (Or.inl (G_ne gq24 ga0 (by decide)))) b5038
      have b5071 : UN (x1.toInt ≠ 0) (fun k => fI H5061 q29 k) (fun k => fI s.heap q29 k) := UN.congr (fun j => Wr.neI wH5061 (Or.inl (G_ne gq29 ga0 (by decide)))) b5039
      have b5072 : UN (x1.toInt ≠ 0) (fun k => fI H5061 q30 k) (fun k => fI s.heap q30 k) := UN.congr (fun j => Wr.neI wH5061 (Or.inl (G_ne gq30 ga0 (by decide)))) b5040
      have b5073 : UN (x1.toInt ≠ 0) (fun k => fI H5061 q31 k) (fun k => fI s.heap q31 k) := UN.congr (fun j => Wr.neI wH5061 (Or.inl (G_ne gq31 ga0 (by decide)))) b5041
      have b5074 : UN (x1.toInt ≠ 0) (fun k => fI H5061 q32 k) (fun k => fI s.heap q32 k) := UN.congr (fun j => Wr.neI wH5061 (Or.inl (G_ne gq32 ga0 (by decide)))) b5042
      have b5075 : UN (x1.toInt ≠ 0) (fun k => fI H5061 q33 k) (fun k => fI s.heap q33 k) := UN.congr (fun j => Wr.neI wH5061 (Or.inl (G_ne gq33 ga0 (by decide)))) b5043
      have m5076 := m5044.trans (Wr.neR wH5061 (Or.inr (x_apart hKT hts inX10 tyX10 tyX10_ok nmX10 rfl 73 72 (by decide) (by decide) (by decide)))).symm
      have m5077 := m5045.trans (Wr.neR wH5061 (Or.inr (x_apart hKT hts inX10 tyX10 tyX10_ok nmX10 rfl 4 72 (by decide) (by decide) (by decide)))).symm
      have m5078 := m5046.trans (Wr.neR wH5061 (Or.inr (x_apart hKT hts inX10 tyX10 tyX10_ok nmX10 rfl 10 72 (by decide) (by decide) (by decide)))).symm
      have m5079 := m5047.trans (Wr.neR wH5061 (Or.inr (x_apart hKT hts inX10 tyX10 tyX10_ok nmX10 rfl 16 72 (by decide) (by decide) (by decide)))).symm
      have m5080 := m5048.trans (Wr.neR wH5061 (Or.inr (x_apart hKT hts inX10 tyX10 tyX10_ok nmX10 rfl 24 72 (by decide) (by decide) (by decide)))).symm
      have m5081 := m5049.trans (Wr.neR wH5061 (Or.inr (x_apart hKT hts inX10 tyX10 tyX10_ok nmX10 rfl 27 72 (by decide) (by decide) (by decide)))).symm
      have m5082 := m5050.trans (Wr.neR wH5061 (Or.inr (x_apart hKT hts inX10 tyX10 tyX10_ok nmX10 rfl 29 72 (by decide) (by decide) (by decide)))).symm
      have m5083 := m5051.trans (Wr.neR wH5061 (Or.inr (x_apart hKT hts inX10 tyX10 tyX10_ok nmX10 rfl 30 72 (by decide) (by decide) (by decide)))).symm
      have m5084 := m5052.trans (Wr.neR wH5061 (Or.inr (x_apart hKT hts inX10 tyX10 tyX10_ok nmX10 rfl 31 72 (by decide) (by decide) (by decide)))).symm
      have m5085 := m5053.trans (Wr.neR wH5061 (Or.inr (x_apart hKT hts inX10 tyX10 tyX10_ok nmX10 rfl 32 72 (by decide) (by decide) (by decide)))).symm
      have m5086 := m5054.trans (Wr.neR wH5061 (Or.inr (x_apart hKT hts inX10 tyX10 tyX10_ok nmX10 rfl 33 72 (by decide) (by decide) (by decide)))).symm
      have m5087 := m5055.trans (Wr.neR wH5061 (Or.inr (x_apart hKT hts inX10 tyX10 tyX10_ok nmX10 rfl 50 72 (by decide) (by decide) (by decide)))).symm
      have m5088 := m5056.trans (Wr.neI wH5061 (Or.inr (x_apart hKT hts inX10 tyX10 tyX10_ok nmX10 rfl 1 72 (by decide) (by decide) (by decide)))).symm
      have m5089 := (Wr.neI wH5061 (Or.inr (x_apart hKT hts inX10 tyX10 tyX10_ok nmX10 rfl 0 72 (by decide) (by decide) (by decide)))).trans m5057
      have m5090 := m5059.trans (Wr.neI wH5061 (Or.inr (x_apart hKT hts inX10 tyX10 tyX10_ok nmX10 rfl 71 72 (by decide) (by decide) (by decide)))).symm
      have m5091 := (Wr.neI wH5061 (Or.inr (x_apart hKT hts inX10 tyX10 tyX10_ok nmX10 rfl 70 72 (by decide) (by decide) (by decide)))).trans m5060
      have m5092 := Wr.I wH5061
      clear b5035 b5036 b5037 b5038 b5039 b5040 b5041 b5042 b5043 g5031 g5032 g5033 g5034 hTH5029 m5044 m5045 m5046 m5047 m5048 m5049 m5050 m5051 m5052 m5053 m5054 m5055 m5056 m5057 m5059 m5060 mf5030
      refine lv_aload_n hx hb dX10_image_33 rfl (lv_at hl 0 rfl) ?_
      refine lv_aload_n hx hb dX10_image_34 rfl (lv_at hl 0 rfl) ?_
      refine lv_aload_n hx hb dX10_image_35 rfl (lv_at hl 0 rfl) ?_
      refine x_gi C hTH5061 (ci := 10) (k := 1) rfl inX10 (by decide) wF_X10_170 ga0 rg_112 rfl dX10_image_36 (fun x5093 ex5093 bx5093 => ?_)
      have ux5093 : x4237 = x5093 := (m5088).trans ex5093.symm
      subst ux5093
      refine x_V (As := [.int x4237]) (rest := [.ref a0]) C (a_X10_kept l K G H5061 (x4237) (0) (x1) hTH5061 ga0 giq m5076 (m5092).symm m5090 g5065 (by and_intros <;> first | assumption | omega)) yo_X10_kept wM_X10_473 ⟨⟨by decide, by decide⟩, by decide, by decide⟩ (x_rv C hTH5061 (ci := 10) rfl ga0 rg_112) rfl hl.1 rfl (Nat.le_of_ble_eq_true rfl) dX10_image_39 hSH5061 (AE_sub (fun _ _ => rfl) (by decide) hSH5061.1) (fun vH5094 H5094 locsH5094 pH5094 zH5094 kH5094 hSH5094 => ?_)
      obtain ⟨x5095, x5096, hvH5094, ex5096, hrH5094, m5097, g5098, mf5099, m5100, m5101, m5102, m5103, hTH5094⟩ := pH5094
      subst hvH5094
      clear zH5094
      replace m5097 := EQN.mk m5097
      have b5104 : UN (x1.toInt ≠ 0) (fun k => fI H5094 q4 k) (fun k => fI s.heap q4 k) := UN.congr (fun j => fI_kept (x_lt hTH5061 kH5094 gq4 (by decide))) b5068
      have b5105 : UN (x1.toInt ≠ 0) (fun k => fI H5094 q16 k) (fun k => fI s.heap q16 k) := UN.congr (fun j => fI_kept (x_lt hTH5061 kH5094 gq16 (by decide))) b5069
      have b5106 : UN (x1.toInt ≠ 0) (fun k => fI H5094 q24 k) (fun k => fI s.heap q24 k) := UN.congr (fun j => fI_kept (x_lt hTH5061 kH5094 gq24 (by decide))) b5070
      have b5107 : UN (x1.toInt ≠ 0) (fun k => fI H5094 q29 k) (fun k => fI s.heap q29 k) := UN.congr (fun j => fI_kept (x_lt hTH5061 kH5094 gq29 (by decide))) b5071
      have b5108 : UN (x1.toInt ≠ 0) (fun k => fI H5094 q30 k) (fun k => fI s.heap q30 k) := UN.congr (fun j => fI_kept (x_lt hTH5061 kH5094 gq30 (by decide))) b5072
      have b5109 : UN (x1.toInt ≠ 0) (fun k => fI H5094 q31 k) (fun k => fI s.heap q31 k) := UN.congr (fun j => fI_kept (x_lt hTH5061 kH5094 gq31 (by decide))) b5073
      have b5110 : UN (x1.toInt ≠ 0) (fun k => fI H5094 q32 k) (fun k => fI s.heap q32 k) := UN.congr (fun j => fI_kept (x_lt hTH5061 kH5094 gq32 (by decide))) b5074
      have b5111 : UN (x1.toInt ≠ 0) (fun k => fI H5094 q33 k) (fun k => fI s.heap q33 k) := UN.congr (fun j => fI_kept (x_lt hTH5061 kH5094 gq33 (by decide))) b5075
      have m5112 := (m5076).trans (MF.r mf5099 (k := 73) (by decide) (by decide)).symm
      have m5113 := (m5077).trans (MF.r mf5099 (k := 4) (by decide) (by decide)).symm
      have m5114 := (m5078).trans (MF.r mf5099 (k := 10) (by decide) (by decide)).symm
      have m5115 := (m5079).trans (MF.r mf5099 (k := 16) (by decide) (by decide)).symm
      have m5116 := (m5080).trans (MF.r mf5099 (k := 24) (by decide) (by decide)).symm
      have m5117 := (m5081).trans (MF.r mf5099 (k := 27) (by decide) (by decide)).symm
      have m5118 := (m5082).trans (MF.r mf5099 (k := 29) (by decide) (by decide)).symm
      have m5119 := (m5083).trans (MF.r mf5099 (k := 30) (by decide) (by decide)).symm
      have m5120 := (m5084).trans (MF.r mf5099 (k := 31) (by decide) (by decide)).symm
      have m5121 := (m5085).trans (MF.r mf5099 (k := 32) (by decide) (by decide)).symm
      have m5122 := (m5086).trans (MF.r mf5099 (k := 33) (by decide) (by decide)).symm
      have m5123 := (m5087).trans (MF.r mf5099 (k := 50) (by decide) (by decide)).symm
      have m5124 := (m5088).trans (MF.i mf5099 (k := 1) (by decide) (by decide)).symm
      have m5125 := (MF.i mf5099 (k := 0) (by decide) (by decide)).trans m5089
      have m5126 := (m5090).trans (MF.i mf5099 (k := 71) (by decide) (by decide)).symm
      have m5127 := (MF.i mf5099 (k := 70) (by decide) (by decide)).trans m5091
      have mf5128 : MF K s.heap H5094 a0 [0, 1, 2, 3, 59, 62, 65, 70, 71, 72] := MF.trans mf5062 mf5099 (by decide)
      have bx5096 := ty_fi (x := x5096) (k := 72) ex5096 hTH5094 ga0 rg_112 rfl
      have ce_k0 : (0 : Int32).toNatClampNeg = 0 := rfl
      have b5129 : UN (x1.toInt = 0) (fun k => fI H5094 iq k) (fun k => fI s.heap iq k) := UN.tr m5103 b5067
      clear b5067 b5068 b5069 b5070 b5071 b5072 b5073 b5074 b5075 m5076 m5077 m5078 m5079 m5080 m5081 m5082 m5083 m5084 m5085 m5086 m5087 m5088 m5089 m5090 m5091 m5092
      clear m5102 m5103
      have bx5095 : 0 ≤ x5095.toInt ∧ x5095.toInt ≤ 10 := kr (fun h0 => by have hiw := hIW; exact kr0 (w := fun k => fI H5094 iq k) m5100 (p := 0) (by omega) (b5129 h0) (hiw.1.1)) m5101 (by omega)
      have p5130 : x5095 = fI H5094 iq (0) := by have h := m5100; rw [show (0 : Int32).toNatClampNeg = 0 by omega] at h; exact h
      refine W.eq (g2 := F0 m 42 ls [.int x5095, .ref a0]) rfl ?_
      refine x_put C hTH5094 hSH5094 (ci := 10) (k := 1) (v := .int x5095) (ty0 := tyX10) rfl inX10 tyX10_ok nmX10 (by decide) rfl wF_X10_170 ga0 rg_112 rfl rfl (okI (by have := i_rng x5095; omega) (by have := i_rng x5095; omega)) rfl rfl (AE_in ga0 (by decide)) dX10_image_42 (fun H5131 locsH5131 hTH5131 hSH5131 wH5131 => ?_)
      have mf5132 : MF K s.heap H5131 a0 [0, 1, 2, 3, 59, 62, 65, 70, 71, 72] := MF.fld hap wH5131 (by decide) (by decide) mf5128
      have g5133 : WD (avw K H5131 a0) := WD.congr (fun k hk j => av_fld hTH5094 ga0 hap wH5131 (by decide) (WD_ok 112 (by decide) k hk) (WD_ne 1 (by decide) k hk)) g5098
      have b5134 : UN (x1.toInt ≠ 0) (fun k => fI H5131 q4 k) (fun k => fI s.heap q4 k) := UN.congr (fun j => Wr.neI wH5131 (Or.inl (G_ne gq4 ga0 (by decide)))) b5104
      have b5135 : UN (x1.toInt ≠ 0) (fun k => fI H5131 q16 k) (fun k => fI s.heap q16 k) := UN.congr (fun j => Wr.neI wH5131 (Or.inl (G_ne gq16 ga0 (by decide)))) b5105
      have b5136 : UN (x1.toInt ≠ 0) (fun k => fI H5131 q24 k) (fun k => fI s.heap q24 k) := UN.congr (fun j => Wr.neI wH5131 (Or.inl (G_ne gq24 ga0 (by decide)))) b5106
      have b5137 : UN (x1.toInt ≠ 0) (fun k => fI H5131 q29 k) (fun k => fI s.heap q29 k) := UN.congr (fun j => Wr.neI wH5131 (Or.inl (G_ne gq29 ga0 (by decide)))) b5107
      have b5138 : UN (x1.toInt ≠ 0) (fun k => fI H5131 q30 k) (fun k => fI s.heap q30 k) := UN.congr (fun j => Wr.neI wH5131 (Or.inl (G_ne gq30 ga0 (by decide)))) b5108
      have b5139 : UN (x1.toInt ≠ 0) (fun k => fI H5131 q31 k) (fun k => fI s.heap q31 k) := UN.congr (fun j => Wr.neI wH5131 (Or.inl (G_ne gq31 ga0 (by decide)))) b5109
      have b5140 : UN (x1.toInt ≠ 0) (fun k => fI H5131 q32 k) (fun k => fI s.heap q32 k) := UN.congr (fun j => Wr.neI wH5131 (Or.inl (G_ne gq32 ga0 (by decide)))) b5110
      have b5141 : UN (x1.toInt ≠ 0) (fun k => fI H5131 q33 k) (fun k => fI s.heap q33 k) := UN.congr (fun j => Wr.neI wH5131 (Or.inl (G_ne gq33 ga0 (by decide)))) b5111
      have b5142 : UN (x1.toInt = 0) (fun k => fI H5131 iq k) (fun k => fI s.heap iq k) := UN.congr (fun j => Wr.neI wH5131 (Or.inl (G_ne giq ga0 (by decide)))) b5129
      have b5143 : x5095 = fI H5131 iq (0) := (p5130).trans (Wr.neI wH5131 (Or.inl (G_ne giq ga0 (by decide)))).symm
      have m5144 := m5097.trans (Wr.neR wH5131 (Or.inr (x_apart hKT hts inX10 tyX10 tyX10_ok nmX10 rfl 73 1 (by decide) (by decide) (by decide)))).symm
      have m5145 := m5113.trans (Wr.neR wH5131 (Or.inr (x_apart hKT hts inX10 tyX10 tyX10_ok nmX10 rfl 4 1 (by decide) (by decide) (by decide)))).symm
      have m5146 := m5114.trans (Wr.neR wH5131 (Or.inr (x_apart hKT hts inX10 tyX10 tyX10_ok nmX10 rfl 10 1 (by decide) (by decide) (by decide)))).symm
      have m5147 := m5115.trans (Wr.neR wH5131 (Or.inr (x_apart hKT hts inX10 tyX10 tyX10_ok nmX10 rfl 16 1 (by decide) (by decide) (by decide)))).symm
      have m5148 := m5116.trans (Wr.neR wH5131 (Or.inr (x_apart hKT hts inX10 tyX10 tyX10_ok nmX10 rfl 24 1 (by decide) (by decide) (by decide)))).symm
      have m5149 := m5117.trans (Wr.neR wH5131 (Or.inr (x_apart hKT hts inX10 tyX10 tyX10_ok nmX10 rfl 27 1 (by decide) (by decide) (by decide)))).symm
      have m5150 := m5118.trans (Wr.neR wH5131 (Or.inr (x_apart hKT hts inX10 tyX10 tyX10_ok nmX10 rfl 29 1 (by decide) (by decide) (by decide)))).symm
      have m5151 := m5119.trans (Wr.neR wH5131 (Or.inr (x_apart hKT hts inX10 tyX10 tyX10_ok nmX10 rfl 30 1 (by decide) (by decide) (by decide)))).symm
      have m5152 := m5120.trans (Wr.neR wH5131 (Or.inr (x_apart hKT hts inX10 tyX10 tyX10_ok nmX10 rfl 31 1 (by decide) (by decide) (by decide)))).symm
      have m5153 := m5121.trans (Wr.neR wH5131 (Or.inr (x_apart hKT hts inX10 tyX10 tyX10_ok nmX10 rfl 32 1 (by decide) (by decide) (by decide)))).symm
      have m5154 := m5122.trans (Wr.neR wH5131 (Or.inr (x_apart hKT hts inX10 tyX10 tyX10_ok nmX10 rfl 33 1 (by decide) (by decide) (by decide)))).symm
      have m5155 := m5123.trans (Wr.neR wH5131 (Or.inr (x_apart hKT hts inX10 tyX10 tyX10_ok nmX10 rfl 50 1 (by decide) (by decide) (by decide)))).symm
      have m5157 := (Wr.neI wH5131 (Or.inr (x_apart hKT hts inX10 tyX10 tyX10_ok nmX10 rfl 0 1 (by decide) (by decide) (by decide)))).trans m5125
      have m5158 := m5126.trans (Wr.neI wH5131 (Or.inr (x_apart hKT hts inX10 tyX10 tyX10_ok nmX10 rfl 71 1 (by decide) (by decide) (by decide)))).symm
      have m5159 := (Wr.neI wH5131 (Or.inr (x_apart hKT hts inX10 tyX10 tyX10_ok nmX10 rfl 70 1 (by decide) (by decide) (by decide)))).trans m5127
      have m5160 := ex5096.trans (Wr.neI wH5131 (Or.inr (x_apart hKT hts inX10 tyX10 tyX10_ok nmX10 rfl 72 1 (by decide) (by decide) (by decide)))).symm
      have m5161 := Wr.I wH5131
      have m5161 := m5161.symm
      clear b5104 b5105 b5106 b5107 b5108 b5109 b5110 b5111 b5129 ex5096 g5098 hTH5094 m5097 m5113 m5114 m5115 m5116 m5117 m5118 m5119 m5120 m5121 m5122 m5123 m5124 m5125 m5126 m5127 mf5128 p5130
      refine lv_aload_n hx hb dX10_image_45 rfl (lv_at hl 0 rfl) ?_
      refine lv_aload_n hx hb dX10_image_46 rfl (lv_at hl 0 rfl) ?_
      refine lv_aload_n hx hb dX10_image_47 rfl (lv_at hl 0 rfl) ?_
      refine x_gi C hTH5131 (ci := 10) (k := 2) rfl inX10 (by decide) wF_X10_322 ga0 rg_112 rfl dX10_image_48 (fun x5162 ex5162 bx5162 => ?_)
      refine x_V (As := [.int x5162]) (rest := [.ref a0]) C (a_X10_kept l K G H5131 (x5162) (x5096) (x1) hTH5131 ga0 giq m5144 m5160 m5158 g5133 (by and_intros <;> first | assumption | omega)) yo_X10_kept wM_X10_473 ⟨⟨by decide, by decide⟩, by decide, by decide⟩ (x_rv C hTH5131 (ci := 10) rfl ga0 rg_112) rfl hl.1 rfl (Nat.le_of_ble_eq_true rfl) dX10_image_51 hSH5131 (AE_sub (fun _ _ => rfl) (by decide) hSH5131.1) (fun vH5163 H5163 locsH5163 pH5163 zH5163 kH5163 hSH5163 => ?_)
      obtain ⟨x5164, x5165, hvH5163, ex5165, hrH5163, m5166, g5167, mf5168, m5169, m5170, m5171, m5172, hTH5163⟩ := pH5163
      subst hvH5163
      clear zH5163
      replace m5166 := EQN.mk m5166
      have b5173 : UN (x1.toInt ≠ 0) (fun k => fI H5163 q4 k) (fun k => fI s.heap q4 k) := UN.congr (fun j => fI_kept (x_lt hTH5131 kH5163 gq4 (by decide))) b5134
      have b5174 : UN (x1.toInt ≠ 0) (fun k => fI H5163 q16 k) (fun k => fI s.heap q16 k) := UN.congr (fun j => fI_kept (x_lt hTH5131 kH5163 gq16 (by decide))) b5135
      have b5175 : UN (x1.toInt ≠ 0) (fun k => fI H5163 q24 k) (fun k => fI s.heap q24 k) := UN.congr (fun j => fI_kept (x_lt hTH5131 kH5163 gq24 (by decide))) b5136
      have b5176 : UN (x1.toInt ≠ 0) (fun k => fI H5163 q29 k) (fun k => fI s.heap q29 k) := UN.congr (fun j => fI_kept (x_lt hTH5131 kH5163 gq29 (by decide))) b5137
      have b5177 : UN (x1.toInt ≠ 0) (fun k => fI H5163 q30 k) (fun k => fI s.heap q30 k) := UN.congr (fun j => fI_kept (x_lt hTH5131 kH5163 gq30 (by decide))) b5138
      have b5178 : UN (x1.toInt ≠ 0) (fun k => fI H5163 q31 k) (fun k => fI s.heap q31 k) := UN.congr (fun j => fI_kept (x_lt hTH5131 kH5163 gq31 (by decide))) b5139
      have b5179 : UN (x1.toInt ≠ 0) (fun k => fI H5163 q32 k) (fun k => fI s.heap q32 k) := UN.congr (fun j => fI_kept (x_lt hTH5131 kH5163 gq32 (by decide))) b5140
      have b5180 : UN (x1.toInt ≠ 0) (fun k => fI H5163 q33 k) (fun k => fI s.heap q33 k) := UN.congr (fun j => fI_kept (x_lt hTH5131 kH5163 gq33 (by decide))) b5141
      have m5181 := (m5144).trans (MF.r mf5168 (k := 73) (by decide) (by decide)).symm
      have m5182 := (m5145).trans (MF.r mf5168 (k := 4) (by decide) (by decide)).symm
      have m5183 := (m5146).trans (MF.r mf5168 (k := 10) (by decide) (by decide)).symm
      have m5184 := (m5147).trans (MF.r mf5168 (k := 16) (by decide) (by decide)).symm
      have m5185 := (m5148).trans (MF.r mf5168 (k := 24) (by decide) (by decide)).symm
      have m5186 := (m5149).trans (MF.r mf5168 (k := 27) (by decide) (by decide)).symm
      have m5187 := (m5150).trans (MF.r mf5168 (k := 29) (by decide) (by decide)).symm
      have m5188 := (m5151).trans (MF.r mf5168 (k := 30) (by decide) (by decide)).symm
      have m5189 := (m5152).trans (MF.r mf5168 (k := 31) (by decide) (by decide)).symm
      have m5190 := (m5153).trans (MF.r mf5168 (k := 32) (by decide) (by decide)).symm
      have m5191 := (m5154).trans (MF.r mf5168 (k := 33) (by decide) (by decide)).symm
      have m5192 := (m5155).trans (MF.r mf5168 (k := 50) (by decide) (by decide)).symm
      have m5193 := (MF.i mf5168 (k := 0) (by decide) (by decide)).trans m5157
      have m5194 := (m5158).trans (MF.i mf5168 (k := 71) (by decide) (by decide)).symm
      have m5195 := (MF.i mf5168 (k := 70) (by decide) (by decide)).trans m5159
      have m5196 := (m5161).trans (MF.i mf5168 (k := 1) (by decide) (by decide)).symm
      have m5197 := (ex5162).trans (MF.i mf5168 (k := 2) (by decide) (by decide)).symm
      have mf5198 : MF K s.heap H5163 a0 [0, 1, 2, 3, 59, 62, 65, 70, 71, 72] := MF.trans mf5132 mf5168 (by decide)
      have bx5165 := ty_fi (x := x5165) (k := 72) ex5165 hTH5163 ga0 rg_112 rfl
      have ce_x5096 := i_cl (x := x5096) (by omega)
      have b5199 : UN (x1.toInt = 0) (fun k => fI H5163 iq k) (fun k => fI s.heap iq k) := UN.tr m5172 b5142
      have b5200 : x5095 = fI H5163 iq (0) := (b5143).trans (m5171 _ (by omega)).symm
      clear b5134 b5135 b5136 b5137 b5138 b5139 b5140 b5141 b5142 b5143 ex5162 m5144 m5145 m5146 m5147 m5148 m5149 m5150 m5151 m5152 m5153 m5154 m5155 m5157 m5158 m5159 m5160 m5161
      clear m5171 m5172
      have bx5164 : 0 ≤ x5164.toInt ∧ x5164.toInt ≤ 1 := kr (fun h0 => by have hiw := hIW; exact kr0 (w := fun k => fI H5163 iq k) m5169 (p := 1) (by omega) (b5199 h0) (hiw.1.2.1)) m5170 (by omega)
      have p5201 : x5164 = fI H5163 iq (1) := by have h := m5169; rw [show x5096.toNatClampNeg = 1 by omega] at h; exact h
      refine W.eq (g2 := F0 m 54 ls [.int x5164, .ref a0]) rfl ?_
      refine x_put C hTH5163 hSH5163 (ci := 10) (k := 2) (v := .int x5164) (ty0 := tyX10) rfl inX10 tyX10_ok nmX10 (by decide) rfl wF_X10_322 ga0 rg_112 rfl rfl (okI (by have := i_rng x5164; omega) (by have := i_rng x5164; omega)) rfl rfl (AE_in ga0 (by decide)) dX10_image_54 (fun H5202 locsH5202 hTH5202 hSH5202 wH5202 => ?_)
      have mf5203 : MF K s.heap H5202 a0 [0, 1, 2, 3, 59, 62, 65, 70, 71, 72] := MF.fld hap wH5202 (by decide) (by decide) mf5198
      have g5204 : WD (avw K H5202 a0) := WD.congr (fun k hk j => av_fld hTH5163 ga0 hap wH5202 (by decide) (WD_ok 112 (by decide) k hk) (WD_ne 2 (by decide) k hk)) g5167
      have b5205 : UN (x1.toInt ≠ 0) (fun k => fI H5202 q4 k) (fun k => fI s.heap q4 k) := UN.congr (fun j => Wr.neI wH5202 (Or.inl (G_ne gq4 ga0 (by decide)))) b5173
      have b5206 : UN (x1.toInt ≠ 0) (fun k => fI H5202 q16 k) (fun k => fI s.heap q16 k) := UN.congr (fun j => Wr.neI wH5202 (Or.inl (G_ne gq16 ga0 (by decide)))) b5174
      have b5207 : UN (x1.toInt ≠ 0) (fun k => fI H5202 q24 k) (fun k => fI s.heap q24 k) := UN.congr (fun j => Wr.neI wH5202 (Or.inl (G_ne gq24 ga0 (by decide)))) b5175
      have b5208 : UN (x1.toInt ≠ 0) (fun k => fI H5202 q29 k) (fun k => fI s.heap q29 k) := UN.congr (fun j => Wr.neI wH5202 (Or.inl (G_ne gq29 ga0 (by decide)))) b5176
      have b5209 : UN (x1.toInt ≠ 0) (fun k => fI H5202 q30 k) (fun k => fI s.heap q30 k) := UN.congr (fun j => Wr.neI wH5202 (Or.inl (G_ne gq30 ga0 (by decide)))) b5177
      have b5210 : UN (x1.toInt ≠ 0) (fun k => fI H5202 q31 k) (fun k => fI s.heap q31 k) := UN.congr (fun j => Wr.neI wH5202 (Or.inl (G_ne gq31 ga0 (by decide)))) b5178
      have b5211 : UN (x1.toInt ≠ 0) (fun k => fI H5202 q32 k) (fun k => fI s.heap q32 k) := UN.congr (fun j => Wr.neI wH5202 (Or.inl (G_ne gq32 ga0 (by decide)))) b5179
      have b5212 : UN (x1.toInt ≠ 0) (fun k => fI H5202 q33 k) (fun k => fI s.heap q33 k) := UN.congr (fun j => Wr.neI wH5202 (Or.inl (G_ne gq33 ga0 (by decide)))) b5180
      have b5213 : UN (x1.toInt = 0) (fun k => fI H5202 iq k) (fun k => fI s.heap iq k) := UN.congr (fun j => Wr.neI wH5202 (Or.inl (G_ne giq ga0 (by decide)))) b5199
      have b5214 : x5095 = fI H5202 iq (0) := (b5200).trans (Wr.neI wH5202 (Or.inl (G_ne giq ga0 (by decide)))).symm
      have b5215 : x5164 = fI H5202 iq (1) := (p5201).trans (Wr.neI wH5202 (Or.inl (G_ne giq ga0 (by decide)))).symm
      have m5216 := m5166.trans (Wr.neR wH5202 (Or.inr (x_apart hKT hts inX10 tyX10 tyX10_ok nmX10 rfl 73 2 (by decide) (by decide) (by decide)))).symm
      have m5217 := m5182.trans (Wr.neR wH5202 (Or.inr (x_apart hKT hts inX10 tyX10 tyX10_ok nmX10 rfl 4 2 (by decide) (by decide) (by decide)))).symm
      have m5218 := m5183.trans (Wr.neR wH5202 (Or.inr (x_apart hKT hts inX10 tyX10 tyX10_ok nmX10 rfl 10 2 (by decide) (by decide) (by decide)))).symm
      have m5219 := m5184.trans (Wr.neR wH5202 (Or.inr (x_apart hKT hts inX10 tyX10 tyX10_ok nmX10 rfl 16 2 (by decide) (by decide) (by decide)))).symm
      have m5220 := m5185.trans (Wr.neR wH5202 (Or.inr (x_apart hKT hts inX10 tyX10 tyX10_ok nmX10 rfl 24 2 (by decide) (by decide) (by decide)))).symm
      have m5221 := m5186.trans (Wr.neR wH5202 (Or.inr (x_apart hKT hts inX10 tyX10 tyX10_ok nmX10 rfl 27 2 (by decide) (by decide) (by decide)))).symm
      have m5222 := m5187.trans (Wr.neR wH5202 (Or.inr (x_apart hKT hts inX10 tyX10 tyX10_ok nmX10 rfl 29 2 (by decide) (by decide) (by decide)))).symm
      have m5223 := m5188.trans (Wr.neR wH5202 (Or.inr (x_apart hKT hts inX10 tyX10 tyX10_ok nmX10 rfl 30 2 (by decide) (by decide) (by decide)))).symm
      have m5224 := m5189.trans (Wr.neR wH5202 (Or.inr (x_apart hKT hts inX10 tyX10 tyX10_ok nmX10 rfl 31 2 (by decide) (by decide) (by decide)))).symm
      have m5225 := m5190.trans (Wr.neR wH5202 (Or.inr (x_apart hKT hts inX10 tyX10 tyX10_ok nmX10 rfl 32 2 (by decide) (by decide) (by decide)))).symm
      have m5226 := m5191.trans (Wr.neR wH5202 (Or.inr (x_apart hKT hts inX10 tyX10 tyX10_ok nmX10 rfl 33 2 (by decide) (by decide) (by decide)))).symm
      have m5227 := m5192.trans (Wr.neR wH5202 (Or.inr (x_apart hKT hts inX10 tyX10 tyX10_ok nmX10 rfl 50 2 (by decide) (by decide) (by decide)))).symm
      have m5228 := (Wr.neI wH5202 (Or.inr (x_apart hKT hts inX10 tyX10 tyX10_ok nmX10 rfl 0 2 (by decide) (by decide) (by decide)))).trans m5193
      have m5229 := m5194.trans (Wr.neI wH5202 (Or.inr (x_apart hKT hts inX10 tyX10 tyX10_ok nmX10 rfl 71 2 (by decide) (by decide) (by decide)))).symm
      have m5230 := (Wr.neI wH5202 (Or.inr (x_apart hKT hts inX10 tyX10 tyX10_ok nmX10 rfl 70 2 (by decide) (by decide) (by decide)))).trans m5195
      have m5231 := m5196.trans (Wr.neI wH5202 (Or.inr (x_apart hKT hts inX10 tyX10 tyX10_ok nmX10 rfl 1 2 (by decide) (by decide) (by decide)))).symm
      have m5233 := ex5165.trans (Wr.neI wH5202 (Or.inr (x_apart hKT hts inX10 tyX10 tyX10_ok nmX10 rfl 72 2 (by decide) (by decide) (by decide)))).symm
      have m5234 := Wr.I wH5202
      have m5234 := m5234.symm
      clear b5173 b5174 b5175 b5176 b5177 b5178 b5179 b5180 b5199 b5200 ex5165 g5167 hTH5163 m5166 m5182 m5183 m5184 m5185 m5186 m5187 m5188 m5189 m5190 m5191 m5192 m5193 m5194 m5195 m5196 m5197 mf5198 p5201
      refine lv_aload_n hx hb dX10_image_57 rfl (lv_at hl 0 rfl) ?_
      refine lv_aload_n hx hb dX10_image_58 rfl (lv_at hl 0 rfl) ?_
      refine lv_aload_n hx hb dX10_image_59 rfl (lv_at hl 0 rfl) ?_
      refine x_gi C hTH5202 (ci := 10) (k := 3) rfl inX10 (by decide) wF_X10_7 ga0 rg_112 rfl dX10_image_60 (fun x5235 ex5235 bx5235 => ?_)
      refine x_V (As := [.int x5235]) (rest := [.ref a0]) C (a_X10_kept l K G H5202 (x5235) (x5165) (x1) hTH5202 ga0 giq m5216 m5233 m5229 g5204 (by and_intros <;> first | assumption | omega)) yo_X10_kept wM_X10_473 ⟨⟨by decide, by decide⟩, by decide, by decide⟩ (x_rv C hTH5202 (ci := 10) rfl ga0 rg_112) rfl hl.1 rfl (Nat.le_of_ble_eq_true rfl) dX10_image_63 hSH5202 (AE_sub (fun _ _ => rfl) (by decide) hSH5202.1) (fun vH5236 H5236 locsH5236 pH5236 zH5236 kH5236 hSH5236 => ?_)
      obtain ⟨x5237, x5238, hvH5236, ex5238, hrH5236, m5239, g5240, mf5241, m5242, m5243, m5244, m5245, hTH5236⟩ := pH5236
      subst hvH5236
      clear zH5236
      replace m5239 := EQN.mk m5239
      have b5246 : UN (x1.toInt ≠ 0) (fun k => fI H5236 q4 k) (fun k => fI s.heap q4 k) := UN.congr (fun j => fI_kept (x_lt hTH5202 kH5236 gq4 (by decide))) b5205
      have b5247 : UN (x1.toInt ≠ 0) (fun k => fI H5236 q16 k) (fun k => fI s.heap q16 k) := UN.congr (fun j => fI_kept (x_lt hTH5202 kH5236 gq16 (by decide))) b5206
      have b5248 : UN (x1.toInt ≠ 0) (fun k => fI H5236 q24 k) (fun k => fI s.heap q24 k) := UN.congr (fun j => fI_kept (x_lt hTH5202 kH5236 gq24 (by decide))) b5207
      have b5249 : UN (x1.toInt ≠ 0) (fun k => fI H5236 q29 k) (fun k => fI s.heap q29 k) := UN.congr (fun j => fI_kept (x_lt hTH5202 kH5236 gq29 (by decide))) b5208
      have b5250 : UN (x1.toInt ≠ 0) (fun k => fI H5236 q30 k) (fun k => fI s.heap q30 k) := UN.congr (fun j => fI_kept (x_lt hTH5202 kH5236 gq30 (by decide))) b5209
      have b5251 : UN (x1.toInt ≠ 0) (fun k => fI H5236 q31 k) (fun k => fI s.heap q31 k) := UN.congr (fun j => fI_kept (x_lt hTH5202 kH5236 gq31 (by decide))) b5210
      have b5252 : UN (x1.toInt ≠ 0) (fun k => fI H5236 q32 k) (fun k => fI s.heap q32 k) := UN.congr (fun j => fI_kept (x_lt hTH5202 kH5236 gq32 (by decide))) b5211
      have b5253 : UN (x1.toInt ≠ 0) (fun k => fI H5236 q33 k) (fun k => fI s.heap q33 k) := UN.congr (fun j => fI_kept (x_lt hTH5202 kH5236 gq33 (by decide))) b5212
      have m5254 := (m5216).trans (MF.r mf5241 (k := 73) (by decide) (by decide)).symm
      have m5255 := (m5217).trans (MF.r mf5241 (k := 4) (by decide) (by decide)).symm
      have m5256 := (m5218).trans (MF.r mf5241 (k := 10) (by decide) (by decide)).symm
      have m5257 := (m5219).trans (MF.r mf5241 (k := 16) (by decide) (by decide)).symm
      have m5258 := (m5220).trans (MF.r mf5241 (k := 24) (by decide) (by decide)).symm
      have m5259 := (m5221).trans (MF.r mf5241 (k := 27) (by decide) (by decide)).symm
      have m5260 := (m5222).trans (MF.r mf5241 (k := 29) (by decide) (by decide)).symm
      have m5261 := (m5223).trans (MF.r mf5241 (k := 30) (by decide) (by decide)).symm
      have m5262 := (m5224).trans (MF.r mf5241 (k := 31) (by decide) (by decide)).symm
      have m5263 := (m5225).trans (MF.r mf5241 (k := 32) (by decide) (by decide)).symm
      have m5264 := (m5226).trans (MF.r mf5241 (k := 33) (by decide) (by decide)).symm
      have m5265 := (m5227).trans (MF.r mf5241 (k := 50) (by decide) (by decide)).symm
      have m5266 := (MF.i mf5241 (k := 0) (by decide) (by decide)).trans m5228
      have m5267 := (m5229).trans (MF.i mf5241 (k := 71) (by decide) (by decide)).symm
      have m5268 := (MF.i mf5241 (k := 70) (by decide) (by decide)).trans m5230
      have m5269 := (m5231).trans (MF.i mf5241 (k := 1) (by decide) (by decide)).symm
      have m5270 := (m5234).trans (MF.i mf5241 (k := 2) (by decide) (by decide)).symm
      have m5271 := (ex5235).trans (MF.i mf5241 (k := 3) (by decide) (by decide)).symm
      have mf5272 : MF K s.heap H5236 a0 [0, 1, 2, 3, 59, 62, 65, 70, 71, 72] := MF.trans mf5203 mf5241 (by decide)
      have bx5238 := ty_fi (x := x5238) (k := 72) ex5238 hTH5236 ga0 rg_112 rfl
      have ce_x5165 := i_cl (x := x5165) (by omega)
      have b5273 : UN (x1.toInt = 0) (fun k => fI H5236 iq k) (fun k => fI s.heap iq k) := UN.tr m5245 b5213
      have b5274 : x5095 = fI H5236 iq (0) := (b5214).trans (m5244 _ (by omega)).symm
      have b5275 : x5164 = fI H5236 iq (1) := (b5215).trans (m5244 _ (by omega)).symm
      clear b5205 b5206 b5207 b5208 b5209 b5210 b5211 b5212 b5213 b5214 b5215 ex5235 m5216 m5217 m5218 m5219 m5220 m5221 m5222 m5223 m5224 m5225 m5226 m5227 m5228 m5229 m5230 m5231 m5233 m5234
      clear m5244 m5245
      refine W.eq (g2 := F0 m 66 ls [.int x5237, .ref a0]) rfl ?_
      refine x_put C hTH5236 hSH5236 (ci := 10) (k := 3) (v := .int x5237) (ty0 := tyX10) rfl inX10 tyX10_ok nmX10 (by decide) rfl wF_X10_7 ga0 rg_112 rfl rfl (okI (by have := i_rng x5237; omega) (by have := i_rng x5237; omega)) rfl rfl (AE_in ga0 (by decide)) dX10_image_66 (fun H5276 locsH5276 hTH5276 hSH5276 wH5276 => ?_)
      have mf5277 : MF K s.heap H5276 a0 [0, 1, 2, 3, 59, 62, 65, 70, 71, 72] := MF.fld hap wH5276 (by decide) (by decide) mf5272
      have g5278 : WD (avw K H5276 a0) := WD.congr (fun k hk j => av_fld hTH5236 ga0 hap wH5276 (by decide) (WD_ok 112 (by decide) k hk) (WD_ne 3 (by decide) k hk)) g5240
      have b5279 : UN (x1.toInt ≠ 0) (fun k => fI H5276 q4 k) (fun k => fI s.heap q4 k) := UN.congr (fun j => Wr.neI wH5276 (Or.inl (G_ne gq4 ga0 (by decide)))) b5246
      have b5280 : UN (x1.toInt ≠ 0) (fun k => fI H5276 q16 k) (fun k => fI s.heap q16 k) := UN.congr (fun j => Wr.neI wH5276 (Or.inl (G_ne gq16 ga0 (by decide)))) b5247
      have b5281 : UN (x1.toInt ≠ 0) (fun k => fI H5276 q24 k) (fun k => fI s.heap q24 k) := UN.congr (fun j => Wr.neI wH5276 (Or.inl (G_ne gq24 ga0 (by decide)))) b5248
      have b5282 : UN (x1.toInt ≠ 0) (fun k => fI H5276 q29 k) (fun k => fI s.heap q29 k) := UN.congr (fun j => Wr.neI wH5276 (Or.inl (G_ne gq29 ga0 (by decide)))) b5249
      have b5283 : UN (x1.toInt ≠ 0) (fun k => fI H5276 q30 k) (fun k => fI s.heap q30 k) := UN.congr (fun j => Wr.neI wH5276 (Or.inl (G_ne gq30 ga0 (by decide)))) b5250
      have b5284 : UN (x1.toInt ≠ 0) (fun k => fI H5276 q31 k) (fun k => fI s.heap q31 k) := UN.congr (fun j => Wr.neI wH5276 (Or.inl (G_ne gq31 ga0 (by decide)))) b5251
      have b5285 : UN (x1.toInt ≠ 0) (fun k => fI H5276 q32 k) (fun k => fI s.heap q32 k) := UN.congr (fun j => Wr.neI wH5276 (Or.inl (G_ne gq32 ga0 (by decide)))) b5252
      have b5286 : UN (x1.toInt ≠ 0) (fun k => fI H5276 q33 k) (fun k => fI s.heap q33 k) := UN.congr (fun j => Wr.neI wH5276 (Or.inl (G_ne gq33 ga0 (by decide)))) b5253
      have b5287 : UN (x1.toInt = 0) (fun k => fI H5276 iq k) (fun k => fI s.heap iq k) := UN.congr (fun j => Wr.neI wH5276 (Or.inl (G_ne giq ga0 (by decide)))) b5273
      have b5288 : x5095 = fI H5276 iq (0) := (b5274).trans (Wr.neI wH5276 (Or.inl (G_ne giq ga0 (by decide)))).symm
      have b5289 : x5164 = fI H5276 iq (1) := (b5275).trans (Wr.neI wH5276 (Or.inl (G_ne giq ga0 (by decide)))).symm
      have m5290 := m5239.trans (Wr.neR wH5276 (Or.inr (x_apart hKT hts inX10 tyX10 tyX10_ok nmX10 rfl 73 3 (by decide) (by decide) (by decide)))).symm
      have m5291 := m5255.trans (Wr.neR wH5276 (Or.inr (x_apart hKT hts inX10 tyX10 tyX10_ok nmX10 rfl 4 3 (by decide) (by decide) (by decide)))).symm
      have m5292 := m5256.trans (Wr.neR wH5276 (Or.inr (x_apart hKT hts inX10 tyX10 tyX10_ok nmX10 rfl 10 3 (by decide) (by decide) (by decide)))).symm
      have m5293 := m5257.trans (Wr.neR wH5276 (Or.inr (x_apart hKT hts inX10 tyX10 tyX10_ok nmX10 rfl 16 3 (by decide) (by decide) (by decide)))).symm
      have m5294 := m5258.trans (Wr.neR wH5276 (Or.inr (x_apart hKT hts inX10 tyX10 tyX10_ok nmX10 rfl 24 3 (by decide) (by decide) (by decide)))).symm
      have m5295 := m5259.trans (Wr.neR wH5276 (Or.inr (x_apart hKT hts inX10 tyX10 tyX10_ok nmX10 rfl 27 3 (by decide) (by decide) (by decide)))).symm
      have m5296 := m5260.trans (Wr.neR wH5276 (Or.inr (x_apart hKT hts inX10 tyX10 tyX10_ok nmX10 rfl 29 3 (by decide) (by decide) (by decide)))).symm
      have m5297 := m5261.trans (Wr.neR wH5276 (Or.inr (x_apart hKT hts inX10 tyX10 tyX10_ok nmX10 rfl 30 3 (by decide) (by decide) (by decide)))).symm
      have m5298 := m5262.trans (Wr.neR wH5276 (Or.inr (x_apart hKT hts inX10 tyX10 tyX10_ok nmX10 rfl 31 3 (by decide) (by decide) (by decide)))).symm
      have m5299 := m5263.trans (Wr.neR wH5276 (Or.inr (x_apart hKT hts inX10 tyX10 tyX10_ok nmX10 rfl 32 3 (by decide) (by decide) (by decide)))).symm
      have m5300 := m5264.trans (Wr.neR wH5276 (Or.inr (x_apart hKT hts inX10 tyX10 tyX10_ok nmX10 rfl 33 3 (by decide) (by decide) (by decide)))).symm
      have m5301 := m5265.trans (Wr.neR wH5276 (Or.inr (x_apart hKT hts inX10 tyX10 tyX10_ok nmX10 rfl 50 3 (by decide) (by decide) (by decide)))).symm
      have m5302 := (Wr.neI wH5276 (Or.inr (x_apart hKT hts inX10 tyX10 tyX10_ok nmX10 rfl 0 3 (by decide) (by decide) (by decide)))).trans m5266
      have m5303 := m5267.trans (Wr.neI wH5276 (Or.inr (x_apart hKT hts inX10 tyX10 tyX10_ok nmX10 rfl 71 3 (by decide) (by decide) (by decide)))).symm
      have m5304 := (Wr.neI wH5276 (Or.inr (x_apart hKT hts inX10 tyX10 tyX10_ok nmX10 rfl 70 3 (by decide) (by decide) (by decide)))).trans m5268
      have m5305 := m5269.trans (Wr.neI wH5276 (Or.inr (x_apart hKT hts inX10 tyX10 tyX10_ok nmX10 rfl 1 3 (by decide) (by decide) (by decide)))).symm
      have m5306 := m5270.trans (Wr.neI wH5276 (Or.inr (x_apart hKT hts inX10 tyX10 tyX10_ok nmX10 rfl 2 3 (by decide) (by decide) (by decide)))).symm
      have m5308 := ex5238.trans (Wr.neI wH5276 (Or.inr (x_apart hKT hts inX10 tyX10 tyX10_ok nmX10 rfl 72 3 (by decide) (by decide) (by decide)))).symm
      have m5309 := Wr.I wH5276
      have m5309 := m5309.symm
      clear b5246 b5247 b5248 b5249 b5250 b5251 b5252 b5253 b5273 b5274 b5275 ex5238 g5240 hTH5236 m5239 m5255 m5256 m5257 m5258 m5259 m5260 m5261 m5262 m5263 m5264 m5265 m5266 m5267 m5268 m5269 m5270 m5271 mf5272
      refine lv_aload_n hx hb dX10_image_69 rfl (lv_at hl 0 rfl) ?_
      refine lv_aload_n hx hb dX10_image_70 rfl (lv_at hl 0 rfl) ?_
      refine lv_aload_n hx hb dX10_image_71 rfl (lv_at hl 0 rfl) ?_
      refine x_gi C hTH5276 (ci := 10) (k := 59) rfl inX10 (by decide) wF_X10_438 ga0 rg_112 rfl dX10_image_72 (fun x5310 ex5310 bx5310 => ?_)
      refine x_V (As := [.int x5310]) (rest := [.ref a0]) C (a_X10_kept l K G H5276 (x5310) (x5238) (x1) hTH5276 ga0 giq m5290 m5308 m5303 g5278 (by and_intros <;> first | assumption | omega)) yo_X10_kept wM_X10_473 ⟨⟨by decide, by decide⟩, by decide, by decide⟩ (x_rv C hTH5276 (ci := 10) rfl ga0 rg_112) rfl hl.1 rfl (Nat.le_of_ble_eq_true rfl) dX10_image_75 hSH5276 (AE_sub (fun _ _ => rfl) (by decide) hSH5276.1) (fun vH5311 H5311 locsH5311 pH5311 zH5311 kH5311 hSH5311 => ?_)
      obtain ⟨x5312, x5313, hvH5311, ex5313, hrH5311, m5314, g5315, mf5316, m5317, m5318, m5319, m5320, hTH5311⟩ := pH5311
      subst hvH5311
      clear zH5311
      replace m5314 := EQN.mk m5314
      have b5321 : UN (x1.toInt ≠ 0) (fun k => fI H5311 q4 k) (fun k => fI s.heap q4 k) := UN.congr (fun j => fI_kept (x_lt hTH5276 kH5311 gq4 (by decide))) b5279
      have b5322 : UN (x1.toInt ≠ 0) (fun k => fI H5311 q16 k) (fun k => fI s.heap q16 k) := UN.congr (fun j => fI_kept (x_lt hTH5276 kH5311 gq16 (by decide))) b5280
      have b5323 : UN (x1.toInt ≠ 0) (fun k => fI H5311 q24 k) (fun k => fI s.heap q24 k) := UN.congr (fun j => fI_kept (x_lt hTH5276 kH5311 gq24 (by decide))) b5281
      have b5324 : UN (x1.toInt ≠ 0) (fun k => fI H5311 q29 k) (fun k => fI s.heap q29 k) := UN.congr (fun j => fI_kept (x_lt hTH5276 kH5311 gq29 (by decide))) b5282
      have b5325 : UN (x1.toInt ≠ 0) (fun k => fI H5311 q30 k) (fun k => fI s.heap q30 k) := UN.congr (fun j => fI_kept (x_lt hTH5276 kH5311 gq30 (by decide))) b5283
      have b5326 : UN (x1.toInt ≠ 0) (fun k => fI H5311 q31 k) (fun k => fI s.heap q31 k) := UN.congr (fun j => fI_kept (x_lt hTH5276 kH5311 gq31 (by decide))) b5284
      have b5327 : UN (x1.toInt ≠ 0) (fun k => fI H5311 q32 k) (fun k => fI s.heap q32 k) := UN.congr (fun j => fI_kept (x_lt hTH5276 kH5311 gq32 (by decide))) b5285
      have b5328 : UN (x1.toInt ≠ 0) (fun k => fI H5311 q33 k) (fun k => fI s.heap q33 k) := UN.congr (fun j => fI_kept (x_lt hTH5276 kH5311 gq33 (by decide))) b5286
      have m5329 := (m5290).trans (MF.r mf5316 (k := 73) (by decide) (by decide)).symm
      have m5330 := (m5291).trans (MF.r mf5316 (k := 4) (by decide) (by decide)).symm
      have m5331 := (m5292).trans (MF.r mf5316 (k := 10) (by decide) (by decide)).symm
      have m5332 := (m5293).trans (MF.r mf5316 (k := 16) (by decide) (by decide)).symm
      have m5333 := (m5294).trans (MF.r mf5316 (k := 24) (by decide) (by decide)).symm
      have m5334 := (m5295).trans (MF.r mf5316 (k := 27) (by decide) (by decide)).symm
      have m5335 := (m5296).trans (MF.r mf5316 (k := 29) (by decide) (by decide)).symm
      have m5336 := (m5297).trans (MF.r mf5316 (k := 30) (by decide) (by decide)).symm
      have m5337 := (m5298).trans (MF.r mf5316 (k := 31) (by decide) (by decide)).symm
      have m5338 := (m5299).trans (MF.r mf5316 (k := 32) (by decide) (by decide)).symm
      have m5339 := (m5300).trans (MF.r mf5316 (k := 33) (by decide) (by decide)).symm
      have m5340 := (m5301).trans (MF.r mf5316 (k := 50) (by decide) (by decide)).symm
      have m5341 := (MF.i mf5316 (k := 0) (by decide) (by decide)).trans m5302
      have m5342 := (m5303).trans (MF.i mf5316 (k := 71) (by decide) (by decide)).symm
      have m5343 := (MF.i mf5316 (k := 70) (by decide) (by decide)).trans m5304
      have m5344 := (m5305).trans (MF.i mf5316 (k := 1) (by decide) (by decide)).symm
      have m5345 := (m5306).trans (MF.i mf5316 (k := 2) (by decide) (by decide)).symm
      have m5346 := (m5309).trans (MF.i mf5316 (k := 3) (by decide) (by decide)).symm
      have m5347 := (ex5310).trans (MF.i mf5316 (k := 59) (by decide) (by decide)).symm
      have mf5348 : MF K s.heap H5311 a0 [0, 1, 2, 3, 59, 62, 65, 70, 71, 72] := MF.trans mf5277 mf5316 (by decide)
      have bx5313 := ty_fi (x := x5313) (k := 72) ex5313 hTH5311 ga0 rg_112 rfl
      have ce_x5238 := i_cl (x := x5238) (by omega)
      have b5349 : UN (x1.toInt = 0) (fun k => fI H5311 iq k) (fun k => fI s.heap iq k) := UN.tr m5320 b5287
      have b5350 : x5095 = fI H5311 iq (0) := (b5288).trans (m5319 _ (by omega)).symm
      have b5351 : x5164 = fI H5311 iq (1) := (b5289).trans (m5319 _ (by omega)).symm
      clear b5279 b5280 b5281 b5282 b5283 b5284 b5285 b5286 b5287 b5288 b5289 ex5310 m5290 m5291 m5292 m5293 m5294 m5295 m5296 m5297 m5298 m5299 m5300 m5301 m5302 m5303 m5304 m5305 m5306 m5308 m5309
      clear m5319 m5320
      have bx5312 : 0 ≤ x5312.toInt ∧ x5312.toInt ≤ 20 := kr (fun h0 => by have hiw := hIW; exact kr0 (w := fun k => fI H5311 iq k) m5317 (p := 3) (by omega) (b5349 h0) (hiw.1.2.2.1)) m5318 (by omega)
      have p5352 : x5312 = fI H5311 iq (3) := by have h := m5317; rw [show x5238.toNatClampNeg = 3 by omega] at h; exact h
      refine W.eq (g2 := F0 m 78 ls [.int x5312, .ref a0]) rfl ?_
      refine x_put C hTH5311 hSH5311 (ci := 10) (k := 59) (v := .int x5312) (ty0 := tyX10) rfl inX10 tyX10_ok nmX10 (by decide) rfl wF_X10_438 ga0 rg_112 rfl rfl (okI (by have := i_rng x5312; omega) (by have := i_rng x5312; omega)) rfl rfl (AE_in ga0 (by decide)) dX10_image_78 (fun H5353 locsH5353 hTH5353 hSH5353 wH5353 => ?_)
      have mf5354 : MF K s.heap H5353 a0 [0, 1, 2, 3, 59, 62, 65, 70, 71, 72] := MF.fld hap wH5353 (by decide) (by decide) mf5348
      have g5355 : WD (avw K H5353 a0) := WD.congr (fun k hk j => av_fld hTH5311 ga0 hap wH5353 (by decide) (WD_ok 112 (by decide) k hk) (WD_ne 59 (by decide) k hk)) g5315
      have b5356 : UN (x1.toInt ≠ 0) (fun k => fI H5353 q4 k) (fun k => fI s.heap q4 k) := UN.congr (fun j => Wr.neI wH5353 (Or.inl (G_ne gq4 ga0 (by decide)))) b5321
      have b5357 : UN (x1.toInt ≠ 0) (fun k => fI H5353 q16 k) (fun k => fI s.heap q16 k) := UN.congr (fun j => Wr.neI wH5353 (Or.inl (G_ne gq16 ga0 (by decide)))) b5322
      have b5358 : UN (x1.toInt ≠ 0) (fun k => fI H5353 q24 k) (fun k => fI s.heap q24 k) := UN.congr (fun j => Wr.neI wH5353 (Or.inl (G_ne gq24 ga0 (by decide)))) b5323
      have b5359 : UN (x1.toInt ≠ 0) (fun k => fI H5353 q29 k) (fun k => fI s.heap q29 k) := UN.congr (fun j => Wr.neI wH5353 (Or.inl (G_ne gq29 ga0 (by decide)))) b5324
      have b5360 : UN (x1.toInt ≠ 0) (fun k => fI H5353 q30 k) (fun k => fI s.heap q30 k) := UN.congr (fun j => Wr.neI wH5353 (Or.inl (G_ne gq30 ga0 (by decide)))) b5325
      have b5361 : UN (x1.toInt ≠ 0) (fun k => fI H5353 q31 k) (fun k => fI s.heap q31 k) := UN.congr (fun j => Wr.neI wH5353 (Or.inl (G_ne gq31 ga0 (by decide)))) b5326
      have b5362 : UN (x1.toInt ≠ 0) (fun k => fI H5353 q32 k) (fun k => fI s.heap q32 k) := UN.congr (fun j => Wr.neI wH5353 (Or.inl (G_ne gq32 ga0 (by decide)))) b5327
      have b5363 : UN (x1.toInt ≠ 0) (fun k => fI H5353 q33 k) (fun k => fI s.heap q33 k) := UN.congr (fun j => Wr.neI wH5353 (Or.inl (G_ne gq33 ga0 (by decide)))) b5328
      have b5364 : UN (x1.toInt = 0) (fun k => fI H5353 iq k) (fun k => fI s.heap iq k) := UN.congr (fun j => Wr.neI wH5353 (Or.inl (G_ne giq ga0 (by decide)))) b5349
      have b5365 : x5095 = fI H5353 iq (0) := (b5350).trans (Wr.neI wH5353 (Or.inl (G_ne giq ga0 (by decide)))).symm
      have b5366 : x5164 = fI H5353 iq (1) := (b5351).trans (Wr.neI wH5353 (Or.inl (G_ne giq ga0 (by decide)))).symm
      have b5367 : x5312 = fI H5353 iq (3) := (p5352).trans (Wr.neI wH5353 (Or.inl (G_ne giq ga0 (by decide)))).symm
      have m5368 := m5314.trans (Wr.neR wH5353 (Or.inr (x_apart hKT hts inX10 tyX10 tyX10_ok nmX10 rfl 73 59 (by decide) (by decide) (by decide)))).symm
      have m5369 := m5330.trans (Wr.neR wH5353 (Or.inr (x_apart hKT hts inX10 tyX10 tyX10_ok nmX10 rfl 4 59 (by decide) (by decide) (by decide)))).symm
      have m5370 := m5331.trans (Wr.neR wH5353 (Or.inr (x_apart hKT hts inX10 tyX10 tyX10_ok nmX10 rfl 10 59 (by decide) (by decide) (by decide)))).symm
      have m5371 := m5332.trans (Wr.neR wH5353 (Or.inr (x_apart hKT hts inX10 tyX10 tyX10_ok nmX10 rfl 16 59 (by decide) (by decide) (by decide)))).symm
      have m5372 := m5333.trans (Wr.neR wH5353 (Or.inr (x_apart hKT hts inX10 tyX10 tyX10_ok nmX10 rfl 24 59 (by decide) (by decide) (by decide)))).symm
      have m5373 := m5334.trans (Wr.neR wH5353 (Or.inr (x_apart hKT hts inX10 tyX10 tyX10_ok nmX10 rfl 27 59 (by decide) (by decide) (by decide)))).symm
      have m5374 := m5335.trans (Wr.neR wH5353 (Or.inr (x_apart hKT hts inX10 tyX10 tyX10_ok nmX10 rfl 29 59 (by decide) (by decide) (by decide)))).symm
      have m5375 := m5336.trans (Wr.neR wH5353 (Or.inr (x_apart hKT hts inX10 tyX10 tyX10_ok nmX10 rfl 30 59 (by decide) (by decide) (by decide)))).symm
      have m5376 := m5337.trans (Wr.neR wH5353 (Or.inr (x_apart hKT hts inX10 tyX10 tyX10_ok nmX10 rfl 31 59 (by decide) (by decide) (by decide)))).symm
      have m5377 := m5338.trans (Wr.neR wH5353 (Or.inr (x_apart hKT hts inX10 tyX10 tyX10_ok nmX10 rfl 32 59 (by decide) (by decide) (by decide)))).symm
      have m5378 := m5339.trans (Wr.neR wH5353 (Or.inr (x_apart hKT hts inX10 tyX10 tyX10_ok nmX10 rfl 33 59 (by decide) (by decide) (by decide)))).symm
      have m5379 := m5340.trans (Wr.neR wH5353 (Or.inr (x_apart hKT hts inX10 tyX10 tyX10_ok nmX10 rfl 50 59 (by decide) (by decide) (by decide)))).symm
      have m5380 := (Wr.neI wH5353 (Or.inr (x_apart hKT hts inX10 tyX10 tyX10_ok nmX10 rfl 0 59 (by decide) (by decide) (by decide)))).trans m5341
      have m5381 := m5342.trans (Wr.neI wH5353 (Or.inr (x_apart hKT hts inX10 tyX10 tyX10_ok nmX10 rfl 71 59 (by decide) (by decide) (by decide)))).symm
      have m5382 := (Wr.neI wH5353 (Or.inr (x_apart hKT hts inX10 tyX10 tyX10_ok nmX10 rfl 70 59 (by decide) (by decide) (by decide)))).trans m5343
      have m5383 := m5344.trans (Wr.neI wH5353 (Or.inr (x_apart hKT hts inX10 tyX10 tyX10_ok nmX10 rfl 1 59 (by decide) (by decide) (by decide)))).symm
      have m5384 := m5345.trans (Wr.neI wH5353 (Or.inr (x_apart hKT hts inX10 tyX10 tyX10_ok nmX10 rfl 2 59 (by decide) (by decide) (by decide)))).symm
      have m5385 := m5346.trans (Wr.neI wH5353 (Or.inr (x_apart hKT hts inX10 tyX10 tyX10_ok nmX10 rfl 3 59 (by decide) (by decide) (by decide)))).symm
      have m5387 := ex5313.trans (Wr.neI wH5353 (Or.inr (x_apart hKT hts inX10 tyX10 tyX10_ok nmX10 rfl 72 59 (by decide) (by decide) (by decide)))).symm
      have m5388 := Wr.I wH5353
      have m5388 := m5388.symm
      clear b5321 b5322 b5323 b5324 b5325 b5326 b5327 b5328 b5349 b5350 b5351 ex5313 g5315 hTH5311 m5314 m5330 m5331 m5332 m5333 m5334 m5335 m5336 m5337 m5338 m5339 m5340 m5341 m5342 m5343 m5344 m5345 m5346 m5347 mf5348 p5352
      refine lv_aload_n hx hb dX10_image_81 rfl (lv_at hl 0 rfl) ?_
      refine lv_aload_n hx hb dX10_image_82 rfl (lv_at hl 0 rfl) ?_
      refine lv_aload_n hx hb dX10_image_83 rfl (lv_at hl 0 rfl) ?_
      refine x_gi C hTH5353 (ci := 10) (k := 62) rfl inX10 (by decide) wF_X10_455 ga0 rg_112 rfl dX10_image_84 (fun x5389 ex5389 bx5389 => ?_)
      refine x_V (As := [.int x5389]) (rest := [.ref a0]) C (a_X10_kept l K G H5353 (x5389) (x5313) (x1) hTH5353 ga0 giq m5368 m5387 m5381 g5355 (by and_intros <;> first | assumption | omega)) yo_X10_kept wM_X10_473 ⟨⟨by decide, by decide⟩, by decide, by decide⟩ (x_rv C hTH5353 (ci := 10) rfl ga0 rg_112) rfl hl.1 rfl (Nat.le_of_ble_eq_true rfl) dX10_image_87 hSH5353 (AE_sub (fun _ _ => rfl) (by decide) hSH5353.1) (fun vH5390 H5390 locsH5390 pH5390 zH5390 kH5390 hSH5390 => ?_)
      obtain ⟨x5391, x5392, hvH5390, ex5392, hrH5390, m5393, g5394, mf5395, m5396, m5397, m5398, m5399, hTH5390⟩ := pH5390
      subst hvH5390
      clear zH5390
      replace m5393 := EQN.mk m5393
      have b5400 : UN (x1.toInt ≠ 0) (fun k => fI H5390 q4 k) (fun k => fI s.heap q4 k) := UN.congr (fun j => fI_kept (x_lt hTH5353 kH5390 gq4 (by decide))) b5356
      have b5401 : UN (x1.toInt ≠ 0) (fun k => fI H5390 q16 k) (fun k => fI s.heap q16 k) := UN.congr (fun j => fI_kept (x_lt hTH5353 kH5390 gq16 (by decide))) b5357
      have b5402 : UN (x1.toInt ≠ 0) (fun k => fI H5390 q24 k) (fun k => fI s.heap q24 k) := UN.congr (fun j => fI_kept (x_lt hTH5353 kH5390 gq24 (by decide))) b5358
      have b5403 : UN (x1.toInt ≠ 0) (fun k => fI H5390 q29 k) (fun k => fI s.heap q29 k) := UN.congr (fun j => fI_kept (x_lt hTH5353 kH5390 gq29 (by decide))) b5359
      have b5404 : UN (x1.toInt ≠ 0) (fun k => fI H5390 q30 k) (fun k => fI s.heap q30 k) := UN.congr (fun j => fI_kept (x_lt hTH5353 kH5390 gq30 (by decide))) b5360
      have b5405 : UN (x1.toInt ≠ 0) (fun k => fI H5390 q31 k) (fun k => fI s.heap q31 k) := UN.congr (fun j => fI_kept (x_lt hTH5353 kH5390 gq31 (by decide))) b5361
      have b5406 : UN (x1.toInt ≠ 0) (fun k => fI H5390 q32 k) (fun k => fI s.heap q32 k) := UN.congr (fun j => fI_kept (x_lt hTH5353 kH5390 gq32 (by decide))) b5362
      have b5407 : UN (x1.toInt ≠ 0) (fun k => fI H5390 q33 k) (fun k => fI s.heap q33 k) := UN.congr (fun j => fI_kept (x_lt hTH5353 kH5390 gq33 (by decide))) b5363
      have m5408 := (m5368).trans (MF.r mf5395 (k := 73) (by decide) (by decide)).symm
      have m5409 := (m5369).trans (MF.r mf5395 (k := 4) (by decide) (by decide)).symm
      have m5410 := (m5370).trans (MF.r mf5395 (k := 10) (by decide) (by decide)).symm
      have m5411 := (m5371).trans (MF.r mf5395 (k := 16) (by decide) (by decide)).symm
      have m5412 := (m5372).trans (MF.r mf5395 (k := 24) (by decide) (by decide)).symm
      have m5413 := (m5373).trans (MF.r mf5395 (k := 27) (by decide) (by decide)).symm
      have m5414 := (m5374).trans (MF.r mf5395 (k := 29) (by decide) (by decide)).symm
      have m5415 := (m5375).trans (MF.r mf5395 (k := 30) (by decide) (by decide)).symm
      have m5416 := (m5376).trans (MF.r mf5395 (k := 31) (by decide) (by decide)).symm
      have m5417 := (m5377).trans (MF.r mf5395 (k := 32) (by decide) (by decide)).symm
      have m5418 := (m5378).trans (MF.r mf5395 (k := 33) (by decide) (by decide)).symm
      have m5419 := (m5379).trans (MF.r mf5395 (k := 50) (by decide) (by decide)).symm
      have m5420 := (MF.i mf5395 (k := 0) (by decide) (by decide)).trans m5380
      have m5421 := (m5381).trans (MF.i mf5395 (k := 71) (by decide) (by decide)).symm
      have m5422 := (MF.i mf5395 (k := 70) (by decide) (by decide)).trans m5382
      have m5423 := (m5383).trans (MF.i mf5395 (k := 1) (by decide) (by decide)).symm
      have m5424 := (m5384).trans (MF.i mf5395 (k := 2) (by decide) (by decide)).symm
      have m5425 := (m5385).trans (MF.i mf5395 (k := 3) (by decide) (by decide)).symm
      have m5426 := (m5388).trans (MF.i mf5395 (k := 59) (by decide) (by decide)).symm
      have m5427 := (ex5389).trans (MF.i mf5395 (k := 62) (by decide) (by decide)).symm
      have mf5428 : MF K s.heap H5390 a0 [0, 1, 2, 3, 59, 62, 65, 70, 71, 72] := MF.trans mf5354 mf5395 (by decide)
      have bx5392 := ty_fi (x := x5392) (k := 72) ex5392 hTH5390 ga0 rg_112 rfl
      have ce_x5313 := i_cl (x := x5313) (by omega)
      have b5429 : UN (x1.toInt = 0) (fun k => fI H5390 iq k) (fun k => fI s.heap iq k) := UN.tr m5399 b5364
      have b5430 : x5095 = fI H5390 iq (0) := (b5365).trans (m5398 _ (by omega)).symm
      have b5431 : x5164 = fI H5390 iq (1) := (b5366).trans (m5398 _ (by omega)).symm
      have b5432 : x5312 = fI H5390 iq (3) := (b5367).trans (m5398 _ (by omega)).symm
      clear b5356 b5357 b5358 b5359 b5360 b5361 b5362 b5363 b5364 b5365 b5366 b5367 ex5389 m5368 m5369 m5370 m5371 m5372 m5373 m5374 m5375 m5376 m5377 m5378 m5379 m5380 m5381 m5382 m5383 m5384 m5385 m5387 m5388
      clear m5398 m5399
      have bx5391 : 0 ≤ x5391.toInt ∧ x5391.toInt ≤ 8 := kr (fun h0 => by have hiw := hIW; exact kr0 (w := fun k => fI H5390 iq k) m5396 (p := 4) (by omega) (b5429 h0) (hiw.1.2.2.2.1)) m5397 (by omega)
      have p5433 : x5391 = fI H5390 iq (4) := by have h := m5396; rw [show x5313.toNatClampNeg = 4 by omega] at h; exact h
      refine W.eq (g2 := F0 m 90 ls [.int x5391, .ref a0]) rfl ?_
      refine x_put C hTH5390 hSH5390 (ci := 10) (k := 62) (v := .int x5391) (ty0 := tyX10) rfl inX10 tyX10_ok nmX10 (by decide) rfl wF_X10_455 ga0 rg_112 rfl rfl (okI (by have := i_rng x5391; omega) (by have := i_rng x5391; omega)) rfl rfl (AE_in ga0 (by decide)) dX10_image_90 (fun H5434 locsH5434 hTH5434 hSH5434 wH5434 => ?_)
      have mf5435 : MF K s.heap H5434 a0 [0, 1, 2, 3, 59, 62, 65, 70, 71, 72] := MF.fld hap wH5434 (by decide) (by decide) mf5428
      have g5436 : WD (avw K H5434 a0) := WD.congr (fun k hk j => av_fld hTH5390 ga0 hap wH5434 (by decide) (WD_ok 112 (by decide) k hk) (WD_ne 62 (by decide) k hk)) g5394
      have b5437 : UN (x1.toInt ≠ 0) (fun k => fI H5434 q4 k) (fun k => fI s.heap q4 k) := UN.congr (fun j => Wr.neI wH5434 (Or.inl (G_ne gq4 ga0 (by decide)))) b5400
      have b5438 : UN (x1.toInt ≠ 0) (fun k => fI H5434 q16 k) (fun k => fI s.heap q16 k) := UN.congr (fun j => Wr.neI wH5434 (Or.inl (G_ne gq16 ga0 (by decide)))) b5401
      have b5439 : UN (x1.toInt ≠ 0) (fun k => fI H5434 q24 k) (fun k => fI s.heap q24 k) := UN.congr (fun j => Wr.neI wH5434 (Or.inl (G_ne gq24 ga0 (by decide)))) b5402
      have b5440 : UN (x1.toInt ≠ 0) (fun k => fI H5434 q29 k) (fun k => fI s.heap q29 k) := UN.congr (fun j => Wr.neI wH5434 (Or.inl (G_ne gq29 ga0 (by decide)))) b5403
      have b5441 : UN (x1.toInt ≠ 0) (fun k => fI H5434 q30 k) (fun k => fI s.heap q30 k) := UN.congr (fun j => Wr.neI wH5434 (Or.inl (G_ne gq30 ga0 (by decide)))) b5404
      have b5442 : UN (x1.toInt ≠ 0) (fun k => fI H5434 q31 k) (fun k => fI s.heap q31 k) := UN.congr (fun j => Wr.neI wH5434 (Or.inl (G_ne gq31 ga0 (by decide)))) b5405
      have b5443 : UN (x1.toInt ≠ 0) (fun k => fI H5434 q32 k) (fun k => fI s.heap q32 k) := UN.congr (fun j => Wr.neI wH5434 (Or.inl (G_ne gq32 ga0 (by decide)))) b5406
      have b5444 : UN (x1.toInt ≠ 0) (fun k => fI H5434 q33 k) (fun k => fI s.heap q33 k) := UN.congr (fun j => Wr.neI wH5434 (Or.inl (G_ne gq33 ga0 (by decide)))) b5407
      have b5445 : UN (x1.toInt = 0) (fun k => fI H5434 iq k) (fun k => fI s.heap iq k) := UN.congr (fun j => Wr.neI wH5434 (Or.inl (G_ne giq ga0 (by decide)))) b5429
      have b5446 : x5095 = fI H5434 iq (0) := (b5430).trans (Wr.neI wH5434 (Or.inl (G_ne giq ga0 (by decide)))).symm
      have b5447 : x5164 = fI H5434 iq (1) := (b5431).trans (Wr.neI wH5434 (Or.inl (G_ne giq ga0 (by decide)))).symm
      have b5448 : x5312 = fI H5434 iq (3) := (b5432).trans (Wr.neI wH5434 (Or.inl (G_ne giq ga0 (by decide)))).symm
      have b5449 : x5391 = fI H5434 iq (4) := (p5433).trans (Wr.neI wH5434 (Or.inl (G_ne giq ga0 (by decide)))).symm
      have m5450 := m5393.trans (Wr.neR wH5434 (Or.inr (x_apart hKT hts inX10 tyX10 tyX10_ok nmX10 rfl 73 62 (by decide) (by decide) (by decide)))).symm
      have m5451 := m5409.trans (Wr.neR wH5434 (Or.inr (x_apart hKT hts inX10 tyX10 tyX10_ok nmX10 rfl 4 62 (by decide) (by decide) (by decide)))).symm
      have m5452 := m5410.trans (Wr.neR wH5434 (Or.inr (x_apart hKT hts inX10 tyX10 tyX10_ok nmX10 rfl 10 62 (by decide) (by decide) (by decide)))).symm
      have m5453 := m5411.trans (Wr.neR wH5434 (Or.inr (x_apart hKT hts inX10 tyX10 tyX10_ok nmX10 rfl 16 62 (by decide) (by decide) (by decide)))).symm
      have m5454 := m5412.trans (Wr.neR wH5434 (Or.inr (x_apart hKT hts inX10 tyX10 tyX10_ok nmX10 rfl 24 62 (by decide) (by decide) (by decide)))).symm
      have m5455 := m5413.trans (Wr.neR wH5434 (Or.inr (x_apart hKT hts inX10 tyX10 tyX10_ok nmX10 rfl 27 62 (by decide) (by decide) (by decide)))).symm
      have m5456 := m5414.trans (Wr.neR wH5434 (Or.inr (x_apart hKT hts inX10 tyX10 tyX10_ok nmX10 rfl 29 62 (by decide) (by decide) (by decide)))).symm
      have m5457 := m5415.trans (Wr.neR wH5434 (Or.inr (x_apart hKT hts inX10 tyX10 tyX10_ok nmX10 rfl 30 62 (by decide) (by decide) (by decide)))).symm
      have m5458 := m5416.trans (Wr.neR wH5434 (Or.inr (x_apart hKT hts inX10 tyX10 tyX10_ok nmX10 rfl 31 62 (by decide) (by decide) (by decide)))).symm
      have m5459 := m5417.trans (Wr.neR wH5434 (Or.inr (x_apart hKT hts inX10 tyX10 tyX10_ok nmX10 rfl 32 62 (by decide) (by decide) (by decide)))).symm
      have m5460 := m5418.trans (Wr.neR wH5434 (Or.inr (x_apart hKT hts inX10 tyX10 tyX10_ok nmX10 rfl 33 62 (by decide) (by decide) (by decide)))).symm
      have m5461 := m5419.trans (Wr.neR wH5434 (Or.inr (x_apart hKT hts inX10 tyX10 tyX10_ok nmX10 rfl 50 62 (by decide) (by decide) (by decide)))).symm
      have m5462 := (Wr.neI wH5434 (Or.inr (x_apart hKT hts inX10 tyX10 tyX10_ok nmX10 rfl 0 62 (by decide) (by decide) (by decide)))).trans m5420
      have m5463 := m5421.trans (Wr.neI wH5434 (Or.inr (x_apart hKT hts inX10 tyX10 tyX10_ok nmX10 rfl 71 62 (by decide) (by decide) (by decide)))).symm
      have m5464 := (Wr.neI wH5434 (Or.inr (x_apart hKT hts inX10 tyX10 tyX10_ok nmX10 rfl 70 62 (by decide) (by decide) (by decide)))).trans m5422
      have m5465 := m5423.trans (Wr.neI wH5434 (Or.inr (x_apart hKT hts inX10 tyX10 tyX10_ok nmX10 rfl 1 62 (by decide) (by decide) (by decide)))).symm
      have m5466 := m5424.trans (Wr.neI wH5434 (Or.inr (x_apart hKT hts inX10 tyX10 tyX10_ok nmX10 rfl 2 62 (by decide) (by decide) (by decide)))).symm
      have m5467 := m5425.trans (Wr.neI wH5434 (Or.inr (x_apart hKT hts inX10 tyX10 tyX10_ok nmX10 rfl 3 62 (by decide) (by decide) (by decide)))).symm
      have m5468 := m5426.trans (Wr.neI wH5434 (Or.inr (x_apart hKT hts inX10 tyX10 tyX10_ok nmX10 rfl 59 62 (by decide) (by decide) (by decide)))).symm
      have m5470 := ex5392.trans (Wr.neI wH5434 (Or.inr (x_apart hKT hts inX10 tyX10 tyX10_ok nmX10 rfl 72 62 (by decide) (by decide) (by decide)))).symm
      have m5471 := Wr.I wH5434
      have m5471 := m5471.symm
      clear b5400 b5401 b5402 b5403 b5404 b5405 b5406 b5407 b5429 b5430 b5431 b5432 ex5392 g5394 hTH5390 m5393 m5409 m5410 m5411 m5412 m5413 m5414 m5415 m5416 m5417 m5418 m5419 m5420 m5421 m5422 m5423 m5424 m5425 m5426 m5427 mf5428 p5433
      refine lv_aload_n hx hb dX10_image_93 rfl (lv_at hl 0 rfl) ?_
      refine lv_aload_n hx hb dX10_image_94 rfl (lv_at hl 0 rfl) ?_
      refine lv_aload_n hx hb dX10_image_95 rfl (lv_at hl 0 rfl) ?_
      refine x_gi C hTH5434 (ci := 10) (k := 65) rfl inX10 (by decide) wF_X10_458 ga0 rg_112 rfl dX10_image_96 (fun x5472 ex5472 bx5472 => ?_)
      refine x_V (As := [.int x5472]) (rest := [.ref a0]) C (a_X10_kept l K G H5434 (x5472) (x5392) (x1) hTH5434 ga0 giq m5450 m5470 m5463 g5436 (by and_intros <;> first | assumption | omega)) yo_X10_kept wM_X10_473 ⟨⟨by decide, by decide⟩, by decide, by decide⟩ (x_rv C hTH5434 (ci := 10) rfl ga0 rg_112) rfl hl.1 rfl (Nat.le_of_ble_eq_true rfl) dX10_image_99 hSH5434 (AE_sub (fun _ _ => rfl) (by decide) hSH5434.1) (fun vH5473 H5473 locsH5473 pH5473 zH5473 kH5473 hSH5473 => ?_)
      obtain ⟨x5474, x5475, hvH5473, ex5475, hrH5473, m5476, g5477, mf5478, m5479, m5480, m5481, m5482, hTH5473⟩ := pH5473
      subst hvH5473
      clear zH5473
      replace m5476 := EQN.mk m5476
      have b5483 : UN (x1.toInt ≠ 0) (fun k => fI H5473 q4 k) (fun k => fI s.heap q4 k) := UN.congr (fun j => fI_kept (x_lt hTH5434 kH5473 gq4 (by decide))) b5437
      have b5484 : UN (x1.toInt ≠ 0) (fun k => fI H5473 q16 k) (fun k => fI s.heap q16 k) := UN.congr (fun j => fI_kept (x_lt hTH5434 kH5473 gq16 (by decide))) b5438
      have b5485 : UN (x1.toInt ≠ 0) (fun k => fI H5473 q24 k) (fun k => fI s.heap q24 k) := UN.congr (fun j => fI_kept (x_lt hTH5434 kH5473 gq24 (by decide))) b5439
      have b5486 : UN (x1.toInt ≠ 0) (fun k => fI H5473 q29 k) (fun k => fI s.heap q29 k) := UN.congr (fun j => fI_kept (x_lt hTH5434 kH5473 gq29 (by decide))) b5440
      have b5487 : UN (x1.toInt ≠ 0) (fun k => fI H5473 q30 k) (fun k => fI s.heap q30 k) := UN.congr (fun j => fI_kept (x_lt hTH5434 kH5473 gq30 (by decide))) b5441
      have b5488 : UN (x1.toInt ≠ 0) (fun k => fI H5473 q31 k) (fun k => fI s.heap q31 k) := UN.congr (fun j => fI_kept (x_lt hTH5434 kH5473 gq31 (by decide))) b5442
      have b5489 : UN (x1.toInt ≠ 0) (fun k => fI H5473 q32 k) (fun k => fI s.heap q32 k) := UN.congr (fun j => fI_kept (x_lt hTH5434 kH5473 gq32 (by decide))) b5443
      have b5490 : UN (x1.toInt ≠ 0) (fun k => fI H5473 q33 k) (fun k => fI s.heap q33 k) := UN.congr (fun j => fI_kept (x_lt hTH5434 kH5473 gq33 (by decide))) b5444
      have m5491 := (m5450).trans (MF.r mf5478 (k := 73) (by decide) (by decide)).symm
      have m5492 := (m5451).trans (MF.r mf5478 (k := 4) (by decide) (by decide)).symm
      have m5493 := (m5452).trans (MF.r mf5478 (k := 10) (by decide) (by decide)).symm
      have m5494 := (m5453).trans (MF.r mf5478 (k := 16) (by decide) (by decide)).symm
      have m5495 := (m5454).trans (MF.r mf5478 (k := 24) (by decide) (by decide)).symm
      have m5496 := (m5455).trans (MF.r mf5478 (k := 27) (by decide) (by decide)).symm
      have m5497 := (m5456).trans (MF.r mf5478 (k := 29) (by decide) (by decide)).symm
      have m5498 := (m5457).trans (MF.r mf5478 (k := 30) (by decide) (by decide)).symm
      have m5499 := (m5458).trans (MF.r mf5478 (k := 31) (by decide) (by decide)).symm
      have m5500 := (m5459).trans (MF.r mf5478 (k := 32) (by decide) (by decide)).symm
      have m5501 := (m5460).trans (MF.r mf5478 (k := 33) (by decide) (by decide)).symm
      have m5502 := (m5461).trans (MF.r mf5478 (k := 50) (by decide) (by decide)).symm
      have m5503 := (MF.i mf5478 (k := 0) (by decide) (by decide)).trans m5462
      have m5504 := (m5463).trans (MF.i mf5478 (k := 71) (by decide) (by decide)).symm
      have m5505 := (MF.i mf5478 (k := 70) (by decide) (by decide)).trans m5464
      have m5506 := (m5465).trans (MF.i mf5478 (k := 1) (by decide) (by decide)).symm
      have m5507 := (m5466).trans (MF.i mf5478 (k := 2) (by decide) (by decide)).symm
      have m5508 := (m5467).trans (MF.i mf5478 (k := 3) (by decide) (by decide)).symm
      have m5509 := (m5468).trans (MF.i mf5478 (k := 59) (by decide) (by decide)).symm
      have m5510 := (m5471).trans (MF.i mf5478 (k := 62) (by decide) (by decide)).symm
      have m5511 := (ex5472).trans (MF.i mf5478 (k := 65) (by decide) (by decide)).symm
      have mf5512 : MF K s.heap H5473 a0 [0, 1, 2, 3, 59, 62, 65, 70, 71, 72] := MF.trans mf5435 mf5478 (by decide)
      have bx5475 := ty_fi (x := x5475) (k := 72) ex5475 hTH5473 ga0 rg_112 rfl
      have ce_x5392 := i_cl (x := x5392) (by omega)
      have b5513 : UN (x1.toInt = 0) (fun k => fI H5473 iq k) (fun k => fI s.heap iq k) := UN.tr m5482 b5445
      have b5514 : x5095 = fI H5473 iq (0) := (b5446).trans (m5481 _ (by omega)).symm
      have b5515 : x5164 = fI H5473 iq (1) := (b5447).trans (m5481 _ (by omega)).symm
      have b5516 : x5312 = fI H5473 iq (3) := (b5448).trans (m5481 _ (by omega)).symm
      have b5517 : x5391 = fI H5473 iq (4) := (b5449).trans (m5481 _ (by omega)).symm
      clear b5437 b5438 b5439 b5440 b5441 b5442 b5443 b5444 b5445 b5446 b5447 b5448 b5449 ex5472 m5450 m5451 m5452 m5453 m5454 m5455 m5456 m5457 m5458 m5459 m5460 m5461 m5462 m5463 m5464 m5465 m5466 m5467 m5468 m5470 m5471
      clear m5481 m5482
      have bx5474 : 0 ≤ x5474.toInt ∧ x5474.toInt ≤ 8 := kr (fun h0 => by have hiw := hIW; exact kr0 (w := fun k => fI H5473 iq k) m5479 (p := 5) (by omega) (b5513 h0) (hiw.1.2.2.2.2)) m5480 (by omega)
      have p5518 : x5474 = fI H5473 iq (5) := by have h := m5479; rw [show x5392.toNatClampNeg = 5 by omega] at h; exact h
      refine W.eq (g2 := F0 m 102 ls [.int x5474, .ref a0]) rfl ?_
      refine x_put C hTH5473 hSH5473 (ci := 10) (k := 65) (v := .int x5474) (ty0 := tyX10) rfl inX10 tyX10_ok nmX10 (by decide) rfl wF_X10_458 ga0 rg_112 rfl rfl (okI (by have := i_rng x5474; omega) (by have := i_rng x5474; omega)) rfl rfl (AE_in ga0 (by decide)) dX10_image_102 (fun H5519 locsH5519 hTH5519 hSH5519 wH5519 => ?_)
      have mf5520 : MF K s.heap H5519 a0 [0, 1, 2, 3, 59, 62, 65, 70, 71, 72] := MF.fld hap wH5519 (by decide) (by decide) mf5512
      have g5521 : WD (avw K H5519 a0) := WD.congr (fun k hk j => av_fld hTH5473 ga0 hap wH5519 (by decide) (WD_ok 112 (by decide) k hk) (WD_ne 65 (by decide) k hk)) g5477
      have b5522 : UN (x1.toInt ≠ 0) (fun k => fI H5519 q4 k) (fun k => fI s.heap q4 k) := UN.congr (fun j => Wr.neI wH5519 (Or.inl (G_ne gq4 ga0 (by decide)))) b5483
      have b5523 : UN (x1.toInt ≠ 0) (fun k => fI H5519 q16 k) (fun k => fI s.heap q16 k) := UN.congr (fun j => Wr.neI wH5519 (Or.inl (G_ne gq16 ga0 (by decide)))) b5484
      have b5524 : UN (x1.toInt ≠ 0) (fun k => fI H5519 q24 k) (fun k => fI s.heap q24 k) := UN.congr (fun j => Wr.neI wH5519 (Or.inl (G_ne gq24 ga0 (by decide)))) b5485
      have b5525 : UN (x1.toInt ≠ 0) (fun k => fI H5519 q29 k) (fun k => fI s.heap q29 k) := UN.congr (fun j => Wr.neI wH5519 (Or.inl (G_ne gq29 ga0 (by decide)))) b5486
      have b5526 : UN (x1.toInt ≠ 0) (fun k => fI H5519 q30 k) (fun k => fI s.heap q30 k) := UN.congr (fun j => Wr.neI wH5519 (Or.inl (G_ne gq30 ga0 (by decide)))) b5487
      have b5527 : UN (x1.toInt ≠ 0) (fun k => fI H5519 q31 k) (fun k => fI s.heap q31 k) := UN.congr (fun j => Wr.neI wH5519 (Or.inl (G_ne gq31 ga0 (by decide)))) b5488
      have b5528 : UN (x1.toInt ≠ 0) (fun k => fI H5519 q32 k) (fun k => fI s.heap q32 k) := UN.congr (fun j => Wr.neI wH5519 (Or.inl (G_ne gq32 ga0 (by decide)))) b5489
      have b5529 : UN (x1.toInt ≠ 0) (fun k => fI H5519 q33 k) (fun k => fI s.heap q33 k) := UN.congr (fun j => Wr.neI wH5519 (Or.inl (G_ne gq33 ga0 (by decide)))) b5490
      have b5530 : UN (x1.toInt = 0) (fun k => fI H5519 iq k) (fun k => fI s.heap iq k) := UN.congr (fun j => Wr.neI wH5519 (Or.inl (G_ne giq ga0 (by decide)))) b5513
      have b5531 : x5095 = fI H5519 iq (0) := (b5514).trans (Wr.neI wH5519 (Or.inl (G_ne giq ga0 (by decide)))).symm
      have b5532 : x5164 = fI H5519 iq (1) := (b5515).trans (Wr.neI wH5519 (Or.inl (G_ne giq ga0 (by decide)))).symm
      have b5533 : x5312 = fI H5519 iq (3) := (b5516).trans (Wr.neI wH5519 (Or.inl (G_ne giq ga0 (by decide)))).symm
      have b5534 : x5391 = fI H5519 iq (4) := (b5517).trans (Wr.neI wH5519 (Or.inl (G_ne giq ga0 (by decide)))).symm
      have b5535 : x5474 = fI H5519 iq (5) := (p5518).trans (Wr.neI wH5519 (Or.inl (G_ne giq ga0 (by decide)))).symm
      have m5536 := m5476.trans (Wr.neR wH5519 (Or.inr (x_apart hKT hts inX10 tyX10 tyX10_ok nmX10 rfl 73 65 (by decide) (by decide) (by decide)))).symm
      have m5537 := m5492.trans (Wr.neR wH5519 (Or.inr (x_apart hKT hts inX10 tyX10 tyX10_ok nmX10 rfl 4 65 (by decide) (by decide) (by decide)))).symm
      have m5538 := m5493.trans (Wr.neR wH5519 (Or.inr (x_apart hKT hts inX10 tyX10 tyX10_ok nmX10 rfl 10 65 (by decide) (by decide) (by decide)))).symm
      have m5539 := m5494.trans (Wr.neR wH5519 (Or.inr (x_apart hKT hts inX10 tyX10 tyX10_ok nmX10 rfl 16 65 (by decide) (by decide) (by decide)))).symm
      have m5540 := m5495.trans (Wr.neR wH5519 (Or.inr (x_apart hKT hts inX10 tyX10 tyX10_ok nmX10 rfl 24 65 (by decide) (by decide) (by decide)))).symm
      have m5541 := m5496.trans (Wr.neR wH5519 (Or.inr (x_apart hKT hts inX10 tyX10 tyX10_ok nmX10 rfl 27 65 (by decide) (by decide) (by decide)))).symm
      have m5542 := m5497.trans (Wr.neR wH5519 (Or.inr (x_apart hKT hts inX10 tyX10 tyX10_ok nmX10 rfl 29 65 (by decide) (by decide) (by decide)))).symm
      have m5543 := m5498.trans (Wr.neR wH5519 (Or.inr (x_apart hKT hts inX10 tyX10 tyX10_ok nmX10 rfl 30 65 (by decide) (by decide) (by decide)))).symm
      have m5544 := m5499.trans (Wr.neR wH5519 (Or.inr (x_apart hKT hts inX10 tyX10 tyX10_ok nmX10 rfl 31 65 (by decide) (by decide) (by decide)))).symm
      have m5545 := m5500.trans (Wr.neR wH5519 (Or.inr (x_apart hKT hts inX10 tyX10 tyX10_ok nmX10 rfl 32 65 (by decide) (by decide) (by decide)))).symm
      have m5546 := m5501.trans (Wr.neR wH5519 (Or.inr (x_apart hKT hts inX10 tyX10 tyX10_ok nmX10 rfl 33 65 (by decide) (by decide) (by decide)))).symm
      have m5547 := m5502.trans (Wr.neR wH5519 (Or.inr (x_apart hKT hts inX10 tyX10 tyX10_ok nmX10 rfl 50 65 (by decide) (by decide) (by decide)))).symm
      have m5548 := (Wr.neI wH5519 (Or.inr (x_apart hKT hts inX10 tyX10 tyX10_ok nmX10 rfl 0 65 (by decide) (by decide) (by decide)))).trans m5503
      have m5549 := m5504.trans (Wr.neI wH5519 (Or.inr (x_apart hKT hts inX10 tyX10 tyX10_ok nmX10 rfl 71 65 (by decide) (by decide) (by decide)))).symm
      have m5550 := (Wr.neI wH5519 (Or.inr (x_apart hKT hts inX10 tyX10 tyX10_ok nmX10 rfl 70 65 (by decide) (by decide) (by decide)))).trans m5505
      have m5551 := m5506.trans (Wr.neI wH5519 (Or.inr (x_apart hKT hts inX10 tyX10 tyX10_ok nmX10 rfl 1 65 (by decide) (by decide) (by decide)))).symm
      have m5552 := m5507.trans (Wr.neI wH5519 (Or.inr (x_apart hKT hts inX10 tyX10 tyX10_ok nmX10 rfl 2 65 (by decide) (by decide) (by decide)))).symm
      have m5553 := m5508.trans (Wr.neI wH5519 (Or.inr (x_apart hKT hts inX10 tyX10 tyX10_ok nmX10 rfl 3 65 (by decide) (by decide) (by decide)))).symm
      have m5554 := m5509.trans (Wr.neI wH5519 (Or.inr (x_apart hKT hts inX10 tyX10 tyX10_ok nmX10 rfl 59 65 (by decide) (by decide) (by decide)))).symm
      have m5555 := m5510.trans (Wr.neI wH5519 (Or.inr (x_apart hKT hts inX10 tyX10 tyX10_ok nmX10 rfl 62 65 (by decide) (by decide) (by decide)))).symm
      have m5557 := ex5475.trans (Wr.neI wH5519 (Or.inr (x_apart hKT hts inX10 tyX10 tyX10_ok nmX10 rfl 72 65 (by decide) (by decide) (by decide)))).symm
      have m5558 := Wr.I wH5519
      have m5558 := m5558.symm
      clear b5483 b5484 b5485 b5486 b5487 b5488 b5489 b5490 b5513 b5514 b5515 b5516 b5517 ex5475 g5477 hTH5473 m5476 m5492 m5493 m5494 m5495 m5496 m5497 m5498 m5499 m5500 m5501 m5502 m5503 m5504 m5505 m5506 m5507 m5508 m5509 m5510 m5511 mf5512 p5518
      refine lv_aload_n hx hb dX10_image_105 rfl (lv_at hl 0 rfl) ?_
      refine x_V (As := []) (rest := []) C (a_X10_keepsBars l K G H5519 (x5475) (x1) hTH5519 ga0 giq m5536 gq4 m5537 gq10 m5538 gq16 m5539 gq50 m5547 m5557 m5549 g5521 (by and_intros <;> first | assumption | omega) (fun h0 => IMw.congr (b5530 h0) hIW)) yo_X10_keepsBars wM_X10_479 ⟨⟨by decide, by decide⟩, by decide, by decide⟩ (x_rv C hTH5519 (ci := 10) rfl ga0 rg_112) rfl hl.1 rfl (Nat.le_of_ble_eq_true rfl) dX10_image_106 hSH5519 (AE_sub (fun _ _ => rfl) (by decide) hSH5519.1) (fun vH5559 H5559 locsH5559 pH5559 zH5559 kH5559 hSH5559 => ?_)
      obtain ⟨x5560, hvH5559, ex5560, hrH5559, m5561, m5562, m5563, m5564, m5565, g5566, mf5567, m5568, m5569, m5570, m5571, m5572, m5573, m5574, m5575, hTH5559⟩ := pH5559
      subst hvH5559
      clear zH5559
      replace m5561 := EQN.mk m5561
      replace m5562 := EQN.mk m5562
      replace m5563 := EQN.mk m5563
      replace m5564 := EQN.mk m5564
      replace m5565 := EQN.mk m5565
      have b5576 : UN (x1.toInt ≠ 0) (fun k => fI H5559 q24 k) (fun k => fI s.heap q24 k) := UN.congr (fun j => fI_kept (x_lt hTH5519 kH5559 gq24 (by decide))) b5524
      have b5577 : UN (x1.toInt ≠ 0) (fun k => fI H5559 q29 k) (fun k => fI s.heap q29 k) := UN.congr (fun j => fI_kept (x_lt hTH5519 kH5559 gq29 (by decide))) b5525
      have b5578 : UN (x1.toInt ≠ 0) (fun k => fI H5559 q30 k) (fun k => fI s.heap q30 k) := UN.congr (fun j => fI_kept (x_lt hTH5519 kH5559 gq30 (by decide))) b5526
      have b5579 : UN (x1.toInt ≠ 0) (fun k => fI H5559 q31 k) (fun k => fI s.heap q31 k) := UN.congr (fun j => fI_kept (x_lt hTH5519 kH5559 gq31 (by decide))) b5527
      have b5580 : UN (x1.toInt ≠ 0) (fun k => fI H5559 q32 k) (fun k => fI s.heap q32 k) := UN.congr (fun j => fI_kept (x_lt hTH5519 kH5559 gq32 (by decide))) b5528
      have b5581 : UN (x1.toInt ≠ 0) (fun k => fI H5559 q33 k) (fun k => fI s.heap q33 k) := UN.congr (fun j => fI_kept (x_lt hTH5519 kH5559 gq33 (by decide))) b5529
      have m5582 := (m5536).trans (MF.r mf5567 (k := 73) (by decide) (by decide)).symm
      have m5583 := (m5537).trans (MF.r mf5567 (k := 4) (by decide) (by decide)).symm
      have m5584 := (m5538).trans (MF.r mf5567 (k := 10) (by decide) (by decide)).symm
      have m5585 := (m5539).trans (MF.r mf5567 (k := 16) (by decide) (by decide)).symm
      have m5586 := (m5540).trans (MF.r mf5567 (k := 24) (by decide) (by decide)).symm
      have m5587 := (m5541).trans (MF.r mf5567 (k := 27) (by decide) (by decide)).symm
      have m5588 := (m5542).trans (MF.r mf5567 (k := 29) (by decide) (by decide)).symm
      have m5589 := (m5543).trans (MF.r mf5567 (k := 30) (by decide) (by decide)).symm
      have m5590 := (m5544).trans (MF.r mf5567 (k := 31) (by decide) (by decide)).symm
      have m5591 := (m5545).trans (MF.r mf5567 (k := 32) (by decide) (by decide)).symm
      have m5592 := (m5546).trans (MF.r mf5567 (k := 33) (by decide) (by decide)).symm
      have m5593 := (m5547).trans (MF.r mf5567 (k := 50) (by decide) (by decide)).symm
      have m5594 := (MF.i mf5567 (k := 0) (by decide) (by decide)).trans m5548
      have m5595 := (m5549).trans (MF.i mf5567 (k := 71) (by decide) (by decide)).symm
      have m5596 := (MF.i mf5567 (k := 70) (by decide) (by decide)).trans m5550
      have m5597 := (m5551).trans (MF.i mf5567 (k := 1) (by decide) (by decide)).symm
      have m5598 := (m5552).trans (MF.i mf5567 (k := 2) (by decide) (by decide)).symm
      have m5599 := (m5553).trans (MF.i mf5567 (k := 3) (by decide) (by decide)).symm
      have m5600 := (m5554).trans (MF.i mf5567 (k := 59) (by decide) (by decide)).symm
      have m5601 := (m5555).trans (MF.i mf5567 (k := 62) (by decide) (by decide)).symm
      have m5602 := (m5558).trans (MF.i mf5567 (k := 65) (by decide) (by decide)).symm
      have mf5603 : MF K s.heap H5559 a0 [0, 1, 2, 3, 59, 62, 65, 70, 71, 72] := MF.trans mf5520 mf5567 (by decide)
      have bx5560 := ty_fi (x := x5560) (k := 72) ex5560 hTH5559 ga0 rg_112 rfl
      have b5604 : UN (x1.toInt ≠ 0) (fun k => fI H5559 q4 k) (fun k => fI s.heap q4 k) := UN.tr m5574 b5522
      have b5605 : UN (x1.toInt ≠ 0) (fun k => fI H5559 q16 k) (fun k => fI s.heap q16 k) := UN.tr m5575 b5523
      have b5606 : UN (x1.toInt = 0) (fun k => fI H5559 iq k) (fun k => fI s.heap iq k) := UN.tr m5568 b5530
      have b5607 : x5095 = fI H5559 iq (0) := (b5531).trans (m5569 _ (by omega)).symm
      have b5608 : x5164 = fI H5559 iq (1) := (b5532).trans (m5569 _ (by omega)).symm
      have b5609 : x5312 = fI H5559 iq (3) := (b5533).trans (m5569 _ (by omega)).symm
      have b5610 : x5391 = fI H5559 iq (4) := (b5534).trans (m5569 _ (by omega)).symm
      have b5611 : x5474 = fI H5559 iq (5) := (b5535).trans (m5569 _ (by omega)).symm
      refine W.eq (g2 := F0 m 109 ls []) rfl ?_
      refine lv_aload_n hx hb dX10_image_109 rfl (lv_at hl 0 rfl) ?_
      refine x_V (As := []) (rest := []) C (a_X10_keepsTaps l K G H5559 (x5560) (x1) hTH5559 ga0 giq m5561 ex5560 m5595 g5566 (by and_intros <;> first | assumption | omega) (fun h0 => IMw.congr (b5606 h0) hIW)) yo_X10_keepsTaps wM_X10_482 ⟨⟨by decide, by decide⟩, by decide, by decide⟩ (x_rv C hTH5559 (ci := 10) rfl ga0 rg_112) rfl hl.1 rfl (Nat.le_of_ble_eq_true rfl) dX10_image_110 hSH5559 (AE_sub (fun _ _ => rfl) (by decide) hSH5559.1) (fun vH5612 H5612 locsH5612 pH5612 zH5612 kH5612 hSH5612 => ?_)
      obtain ⟨x5613, hvH5612, ex5613, hrH5612, m5614, g5615, mf5616, m5617, m5618, hTH5612⟩ := pH5612
      subst hvH5612
      clear zH5612
      replace m5614 := EQN.mk m5614
      have b5619 : UN (x1.toInt ≠ 0) (fun k => fI H5612 q24 k) (fun k => fI s.heap q24 k) := UN.congr (fun j => fI_kept (x_lt hTH5559 kH5612 gq24 (by decide))) b5576
      have b5620 : UN (x1.toInt ≠ 0) (fun k => fI H5612 q29 k) (fun k => fI s.heap q29 k) := UN.congr (fun j => fI_kept (x_lt hTH5559 kH5612 gq29 (by decide))) b5577
      have b5621 : UN (x1.toInt ≠ 0) (fun k => fI H5612 q30 k) (fun k => fI s.heap q30 k) := UN.congr (fun j => fI_kept (x_lt hTH5559 kH5612 gq30 (by decide))) b5578
      have b5622 : UN (x1.toInt ≠ 0) (fun k => fI H5612 q31 k) (fun k => fI s.heap q31 k) := UN.congr (fun j => fI_kept (x_lt hTH5559 kH5612 gq31 (by decide))) b5579
      have b5623 : UN (x1.toInt ≠ 0) (fun k => fI H5612 q32 k) (fun k => fI s.heap q32 k) := UN.congr (fun j => fI_kept (x_lt hTH5559 kH5612 gq32 (by decide))) b5580
      have b5624 : UN (x1.toInt ≠ 0) (fun k => fI H5612 q33 k) (fun k => fI s.heap q33 k) := UN.congr (fun j => fI_kept (x_lt hTH5559 kH5612 gq33 (by decide))) b5581
      have b5625 : UN (x1.toInt ≠ 0) (fun k => fI H5612 q4 k) (fun k => fI s.heap q4 k) := UN.congr (fun j => fI_kept (x_lt hTH5559 kH5612 gq4 (by decide))) b5604
      have b5626 : UN (x1.toInt ≠ 0) (fun k => fI H5612 q16 k) (fun k => fI s.heap q16 k) := UN.congr (fun j => fI_kept (x_lt hTH5559 kH5612 gq16 (by decide))) b5605
      have m5627 := (m5561).trans (MF.r mf5616 (k := 73) (by decide) (by decide)).symm
      have m5628 := (m5562).trans (MF.r mf5616 (k := 4) (by decide) (by decide)).symm
      have m5629 := (m5563).trans (MF.r mf5616 (k := 10) (by decide) (by decide)).symm
      have m5630 := (m5564).trans (MF.r mf5616 (k := 16) (by decide) (by decide)).symm
      have m5631 := (m5586).trans (MF.r mf5616 (k := 24) (by decide) (by decide)).symm
      have m5632 := (m5587).trans (MF.r mf5616 (k := 27) (by decide) (by decide)).symm
      have m5633 := (m5588).trans (MF.r mf5616 (k := 29) (by decide) (by decide)).symm
      have m5634 := (m5589).trans (MF.r mf5616 (k := 30) (by decide) (by decide)).symm
      have m5635 := (m5590).trans (MF.r mf5616 (k := 31) (by decide) (by decide)).symm
      have m5636 := (m5591).trans (MF.r mf5616 (k := 32) (by decide) (by decide)).symm
      have m5637 := (m5592).trans (MF.r mf5616 (k := 33) (by decide) (by decide)).symm
      have m5638 := (m5565).trans (MF.r mf5616 (k := 50) (by decide) (by decide)).symm
      have m5639 := (MF.i mf5616 (k := 0) (by decide) (by decide)).trans m5594
      have m5640 := (m5595).trans (MF.i mf5616 (k := 71) (by decide) (by decide)).symm
      have m5641 := (MF.i mf5616 (k := 70) (by decide) (by decide)).trans m5596
      have m5642 := (m5597).trans (MF.i mf5616 (k := 1) (by decide) (by decide)).symm
      have m5643 := (m5598).trans (MF.i mf5616 (k := 2) (by decide) (by decide)).symm
      have m5644 := (m5599).trans (MF.i mf5616 (k := 3) (by decide) (by decide)).symm
      have m5645 := (m5600).trans (MF.i mf5616 (k := 59) (by decide) (by decide)).symm
      have m5646 := (m5601).trans (MF.i mf5616 (k := 62) (by decide) (by decide)).symm
      have m5647 := (m5602).trans (MF.i mf5616 (k := 65) (by decide) (by decide)).symm
      have mf5648 : MF K s.heap H5612 a0 [0, 1, 2, 3, 59, 62, 65, 70, 71, 72] := MF.trans mf5603 mf5616 (by decide)
      have bx5613 := ty_fi (x := x5613) (k := 72) ex5613 hTH5612 ga0 rg_112 rfl
      have b5649 : UN (x1.toInt = 0) (fun k => fI H5612 iq k) (fun k => fI s.heap iq k) := UN.tr m5617 b5606
      have b5650 : x5095 = fI H5612 iq (0) := (b5607).trans (m5618 _ (by omega)).symm
      have b5651 : x5164 = fI H5612 iq (1) := (b5608).trans (m5618 _ (by omega)).symm
      have b5652 : x5312 = fI H5612 iq (3) := (b5609).trans (m5618 _ (by omega)).symm
      have b5653 : x5391 = fI H5612 iq (4) := (b5610).trans (m5618 _ (by omega)).symm
      have b5654 : x5474 = fI H5612 iq (5) := (b5611).trans (m5618 _ (by omega)).symm
      have b5655 : EQ (fun k => fI H5612 q4 k) (fun k => fI H5612 iq k) (6) (6) (10) := EQ.fb (EQ.congr (w1 := fun k => fI H5559 iq k) (fun j => fI_kept (x_lt hTH5559 kH5612 gq4 (by decide))) (fun _ => rfl) m5570) m5618 (fun j hj => by omega)
      have b5656 : EQ (fun k => fI H5612 q10 k) (fun k => fI H5612 iq k) (7) (6) (10) := EQ.fb (EQ.congr (w1 := fun k => fI H5559 iq k) (fun j => fI_kept (x_lt hTH5559 kH5612 gq10 (by decide))) (fun _ => rfl) m5571) m5618 (fun j hj => by omega)
      have b5657 : EQ (fun k => fI H5612 q50 k) (fun k => fI H5612 iq k) (11) (6) (10) := EQ.fb (EQ.congr (w1 := fun k => fI H5559 iq k) (fun j => fI_kept (x_lt hTH5559 kH5612 gq50 (by decide))) (fun _ => rfl) m5572) m5618 (fun j hj => by omega)
      have b5658 : EQ (fun k => fI H5612 q16 k) (fun k => fI H5612 iq k) (736) (3) (20) := EQ.fb (EQ.congr (w1 := fun k => fI H5559 iq k) (fun j => fI_kept (x_lt hTH5559 kH5612 gq16 (by decide))) (fun _ => rfl) m5573) m5618 (fun j hj => by omega)
      refine W.eq (g2 := F0 m 113 ls []) rfl ?_
      refine lv_aload_n hx hb dX10_image_113 rfl (lv_at hl 0 rfl) ?_
      refine x_V (As := []) (rest := []) C (a_X10_keepsTexts l K G H5612 (x5613) (x1) hTH5612 ga0 giq m5614 gq24 m5631 gq27 m5632 gq29 m5633 gq30 m5634 gq31 m5635 gq32 m5636 gq33 m5637 ex5613 m5640 g5615 (by and_intros <;> first | assumption | omega) (fun h0 => IMw.congr (b5649 h0) hIW)) yo_X10_keepsTexts wM_X10_485 ⟨⟨by decide, by decide⟩, by decide, by decide⟩ (x_rv C hTH5612 (ci := 10) rfl ga0 rg_112) rfl hl.1 rfl (Nat.le_of_ble_eq_true rfl) dX10_image_114 hSH5612 (AE_sub (fun _ _ => rfl) (by decide) hSH5612.1) (fun vH5659 H5659 locsH5659 pH5659 zH5659 kH5659 hSH5659 => ?_)
      obtain ⟨x5660, hvH5659, ex5660, hrH5659, m5661, m5662, m5663, m5664, m5665, m5666, m5667, m5668, g5669, mf5670, m5671, m5672, m5673, m5674, m5675, m5676, m5677, m5678, m5679, m5680, m5681, m5682, m5683, m5684, m5685, hTH5659⟩ := pH5659
      subst hvH5659
      clear zH5659
      replace m5661 := EQN.mk m5661
      replace m5662 := EQN.mk m5662
      replace m5663 := EQN.mk m5663
      replace m5664 := EQN.mk m5664
      replace m5665 := EQN.mk m5665
      replace m5666 := EQN.mk m5666
      replace m5667 := EQN.mk m5667
      replace m5668 := EQN.mk m5668
      have b5686 : UN (x1.toInt ≠ 0) (fun k => fI H5659 q4 k) (fun k => fI s.heap q4 k) := UN.congr (fun j => fI_kept (x_lt hTH5612 kH5659 gq4 (by decide))) b5625
      have b5687 : UN (x1.toInt ≠ 0) (fun k => fI H5659 q16 k) (fun k => fI s.heap q16 k) := UN.congr (fun j => fI_kept (x_lt hTH5612 kH5659 gq16 (by decide))) b5626
      have m5688 := (m5614).trans (MF.r mf5670 (k := 73) (by decide) (by decide)).symm
      have m5689 := (m5628).trans (MF.r mf5670 (k := 4) (by decide) (by decide)).symm
      have m5690 := (m5629).trans (MF.r mf5670 (k := 10) (by decide) (by decide)).symm
      have m5691 := (m5630).trans (MF.r mf5670 (k := 16) (by decide) (by decide)).symm
      have m5692 := (m5631).trans (MF.r mf5670 (k := 24) (by decide) (by decide)).symm
      have m5693 := (m5632).trans (MF.r mf5670 (k := 27) (by decide) (by decide)).symm
      have m5694 := (m5633).trans (MF.r mf5670 (k := 29) (by decide) (by decide)).symm
      have m5695 := (m5634).trans (MF.r mf5670 (k := 30) (by decide) (by decide)).symm
      have m5696 := (m5635).trans (MF.r mf5670 (k := 31) (by decide) (by decide)).symm
      have m5697 := (m5636).trans (MF.r mf5670 (k := 32) (by decide) (by decide)).symm
      have m5698 := (m5637).trans (MF.r mf5670 (k := 33) (by decide) (by decide)).symm
      have m5699 := (m5638).trans (MF.r mf5670 (k := 50) (by decide) (by decide)).symm
      have m5700 := (MF.i mf5670 (k := 0) (by decide) (by decide)).trans m5639
      have m5701 := (m5640).trans (MF.i mf5670 (k := 71) (by decide) (by decide)).symm
      have m5702 := (MF.i mf5670 (k := 70) (by decide) (by decide)).trans m5641
      have m5703 := (m5642).trans (MF.i mf5670 (k := 1) (by decide) (by decide)).symm
      have m5704 := (m5643).trans (MF.i mf5670 (k := 2) (by decide) (by decide)).symm
      have m5705 := (m5644).trans (MF.i mf5670 (k := 3) (by decide) (by decide)).symm
      have m5706 := (m5645).trans (MF.i mf5670 (k := 59) (by decide) (by decide)).symm
      have m5707 := (m5646).trans (MF.i mf5670 (k := 62) (by decide) (by decide)).symm
      have m5708 := (m5647).trans (MF.i mf5670 (k := 65) (by decide) (by decide)).symm
      have mf5709 : MF K s.heap H5659 a0 [0, 1, 2, 3, 59, 62, 65, 70, 71, 72] := MF.trans mf5648 mf5670 (by decide)
      have bx5660 := ty_fi (x := x5660) (k := 72) ex5660 hTH5659 ga0 rg_112 rfl
      have b5710 : UN (x1.toInt ≠ 0) (fun k => fI H5659 q24 k) (fun k => fI s.heap q24 k) := UN.tr m5680 b5619
      have b5711 : UN (x1.toInt ≠ 0) (fun k => fI H5659 q29 k) (fun k => fI s.heap q29 k) := UN.tr m5681 b5620
      have b5712 : UN (x1.toInt ≠ 0) (fun k => fI H5659 q30 k) (fun k => fI s.heap q30 k) := UN.tr m5682 b5621
      have b5713 : UN (x1.toInt ≠ 0) (fun k => fI H5659 q31 k) (fun k => fI s.heap q31 k) := UN.tr m5683 b5622
      have b5714 : UN (x1.toInt ≠ 0) (fun k => fI H5659 q32 k) (fun k => fI s.heap q32 k) := UN.tr m5684 b5623
      have b5715 : UN (x1.toInt ≠ 0) (fun k => fI H5659 q33 k) (fun k => fI s.heap q33 k) := UN.tr m5685 b5624
      have b5716 : UN (x1.toInt = 0) (fun k => fI H5659 iq k) (fun k => fI s.heap iq k) := UN.tr m5671 b5649
      have b5717 : x5095 = fI H5659 iq (0) := (b5650).trans (m5672 _ (by omega)).symm
      have b5718 : x5164 = fI H5659 iq (1) := (b5651).trans (m5672 _ (by omega)).symm
      have b5719 : x5312 = fI H5659 iq (3) := (b5652).trans (m5672 _ (by omega)).symm
      have b5720 : x5391 = fI H5659 iq (4) := (b5653).trans (m5672 _ (by omega)).symm
      have b5721 : x5474 = fI H5659 iq (5) := (b5654).trans (m5672 _ (by omega)).symm
      have b5722 : EQ (fun k => fI H5659 q4 k) (fun k => fI H5659 iq k) (6) (6) (10) := EQ.fb (EQ.congr (w1 := fun k => fI H5612 iq k) (fun j => fI_kept (x_lt hTH5612 kH5659 gq4 (by decide))) (fun _ => rfl) b5655) m5672 (fun j hj => by omega)
      have b5723 : EQ (fun k => fI H5659 q10 k) (fun k => fI H5659 iq k) (7) (6) (10) := EQ.fb (EQ.congr (w1 := fun k => fI H5612 iq k) (fun j => fI_kept (x_lt hTH5612 kH5659 gq10 (by decide))) (fun _ => rfl) b5656) m5672 (fun j hj => by omega)
      have b5724 : EQ (fun k => fI H5659 q50 k) (fun k => fI H5659 iq k) (11) (6) (10) := EQ.fb (EQ.congr (w1 := fun k => fI H5612 iq k) (fun j => fI_kept (x_lt hTH5612 kH5659 gq50 (by decide))) (fun _ => rfl) b5657) m5672 (fun j hj => by omega)
      have b5725 : EQ (fun k => fI H5659 q16 k) (fun k => fI H5659 iq k) (736) (3) (20) := EQ.fb (EQ.congr (w1 := fun k => fI H5612 iq k) (fun j => fI_kept (x_lt hTH5612 kH5659 gq16 (by decide))) (fun _ => rfl) b5658) m5672 (fun j hj => by omega)
      refine W.eq (g2 := F0 m 117 ls []) rfl ?_
      have fin := im_fin (H0 := s.heap) (tk := x1) hTH5659 ga0 hg_CG hg_TU hg_IM ⟨EQ.av m5689 m5661 b5722, EQ.av m5690 m5661 b5723, EQ.av m5699 m5661 b5724, EQ.av m5691 m5661 b5725, EQ.av m5662 m5661 m5673, EQ.av m5663 m5661 m5674, EQ.av m5664 m5661 m5675, EQ.av m5665 m5661 m5676, EQ.av m5666 m5661 m5677, EQ.av m5667 m5661 m5678, EQ.av m5668 m5661 m5679⟩ (pl_av m5703 b5717 m5661) (pl_av m5704 b5718 m5661) (pl_av m5706 b5719 m5661) (pl_av m5707 b5720 m5661) (pl_av m5708 b5721 m5661) (fun h => (m5703.symm.trans (m5101 h)).trans ex4237) (all8 (UN.av m5689 eq4 b5686) (UN.av m5691 eq16 b5687) (UN.av m5662 eq24 b5710) (UN.av m5664 eq29 b5711) (UN.av m5665 eq30 b5712) (UN.av m5666 eq31 b5713) (UN.av m5667 eq32 b5714) (UN.av m5668 eq33 b5715)) (UN.av m5661 eiq b5716)
      refine lv_iconst (v := 1) hx hb dX10_image_117 (by decide) ?_
      exact x_zret C hQ (Or.inr rfl) dX10_image_118 hSH5659 (by decide) (by decide) (⟨1, rfl, by decide, m5661, m5689, m5690, m5691, m5662, m5663, m5664, m5665, m5666, m5667, m5668, m5699, fin.1, fin.2.1, g5669, fin.2.2, mf5709, hTH5659⟩)
    · have k4997 := i_eq c4996
      refine lv_iconst (v := 0) hx hb dX10_image_16 (by decide) ?_
      exact x_zret C hQ (Or.inl rfl) dX10_image_17 hSH4238 (by decide) (by decide) (⟨0, rfl, by decide, m4253, m4254, m4255, m4256, m4257, m4258, m4259, m4260, m4261, m4262, m4263, m4264, g4240, g4241, g4242, g4243, mf4239, hTH4238⟩)
